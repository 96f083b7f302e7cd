theorem dX8_ruleForWork_29 : decode cX8_ruleForWork 29 = .ok (.goto 4, 3) := by decide +kernel
theorem dX8_ruleForWork_32 : decode cX8_ruleForWork 32 = .ok (.iconst 0, 1) := by decide +kernel
theorem dX8_ruleForWork_33 : decode cX8_ruleForWork 33 = .ok (.istore_n 2, 1) := by decide +kernel
theorem dX8_ruleForWork_34 : decode cX8_ruleForWork 34 = .ok (.iload_n 2, 1) := by decide +kernel
theorem dX8_ruleForWork_35 : decode cX8_ruleForWork 35 = .ok (.ifCond .eq 12, 3) := by decide +kernel
theorem dX8_ruleForWork_38 : decode cX8_ruleForWork 38 = .ok (.aload_n 0, 1) := by decide +kernel
theorem dX8_ruleForWork_39 : decode cX8_ruleForWork 39 = .ok (.getfield 19, 3) := by decide +kernel
theorem dX8_ruleForWork_42 : decode cX8_ruleForWork 42 = .ok (.iload_n 1, 1) := by decide +kernel
theorem dX8_ruleForWork_43 : decode cX8_ruleForWork 43 = .ok (.aaload, 1) := by decide +kernel
theorem dX8_ruleForWork_44 : decode cX8_ruleForWork 44 = .ok (.goto 4, 3) := by decide +kernel
theorem dX8_ruleForWork_47 : decode cX8_ruleForWork 47 = .ok (.aconst_null, 1) := by decide +kernel
theorem dX8_ruleForWork_48 : decode cX8_ruleForWork 48 = .ok (.areturn, 1) := by decide +kernel
theorem dX8_would_0 : decode cX8_would 0 = .ok (.aload_n 0, 1) := by decide +kernel
theorem dX8_would_1 : decode cX8_would 1 = .ok (.iload_n 1, 1) := by decide +kernel
theorem dX8_would_2 : decode cX8_would 2 = .ok (.invokevirtual 228, 3) := by decide +kernel
theorem dX8_would_5 : decode cX8_would 5 = .ok (.astore_n 3, 1) := by decide +kernel
theorem dX8_would_6 : decode cX8_would 6 = .ok (.aload_n 3, 1) := by decide +kernel
theorem dX8_would_7 : decode cX8_would 7 = .ok (.ifnull 12, 3) := by decide +kernel
theorem dX8_would_19 : decode cX8_would 19 = .ok (.ldc 208, 2) := by decide +kernel
theorem dX8_would_21 : decode cX8_would 21 = .ok (.ireturn, 1) := by decide +kernel


theorem dX9_worth_1 : decode cX9_worth 1 = .ok (.invokevirtual 301, 3) := by decide +kernel
theorem dX9_worth_4 : decode cX9_worth 4 = .ok (.ifCond .eq 13, 3) := by decide +kernel
theorem dX9_worth_17 : decode cX9_worth 17 = .ok (.ldc2_w 362, 3) := by decide +kernel
theorem dX9_worth_20 : decode cX9_worth 20 = .ok (.lreturn, 1) := by decide +kernel
theorem dX9_would_0 : decode cX9_would 0 = .ok (.aload_n 0, 1) := by decide +kernel
theorem dX9_would_1 : decode cX9_would 1 = .ok (.invokevirtual 301, 3) := by decide +kernel
theorem dX9_would_4 : decode cX9_would 4 = .ok (.ifCond .eq 23, 3) := by decide +kernel
theorem dX9_would_27 : decode cX9_would 27 = .ok (.ldc_w 306, 3) := by decide +kernel
theorem dX9_would_30 : decode cX9_would 30 = .ok (.ireturn, 1) := by decide +kernel


set_option maxHeartbeats 4000000 in
set_option maxRecDepth 100000 in
theorem c_J6_bitCount_0f7a4_0 (l : Launch) (D : va_G) (a : Nat → ClassId) : CRi l MJ6_bitCount_0f7a4 0 0 D a [.int 0] [] (fun r => (r = 0)) := by
  refine entR (by decide) (Nat.le_of_ble_eq_true rfl) ?_
  intro p e s m below meth c C hK hP ls hl
  obtain ⟨hx, hb, hml, hown, hts, hr, hlocks, hnm⟩ := id C
  have hb : c.code = cJ6_bitCount_0f7a4 := hb
  have hown : s.vm.findClass RJ6 = some m.cls := hown
  have hl : lv_has ls 1 [(0, .int 0)] := hl
  refine lv_iload_n hx hb dJ6_bitCount_0f7a4_0 rfl (lv_at hl 0 rfl) ?_
  refine lv_iload_n hx hb dJ6_bitCount_0f7a4_1 rfl (lv_at hl 0 rfl) ?_
  refine lv_iconst (v := 1) hx hb dJ6_bitCount_0f7a4_2 (by decide) ?_
  refine lv_iushr (v := 0) hx hb dJ6_bitCount_0f7a4_3 (by decide) ?_
  refine lv_ldcw hx hb hown (hts _ t_633) dJ6_bitCount_0f7a4_4 ?_
  refine lv_iand hx hb dJ6_bitCount_0f7a4_7 ?_
  refine lv_topi (fun x4110 ex4110 => ?_)
  obtain rfl : x4110 = 0 := ex4110.trans (by decide)
  refine lv_isub hx hb dJ6_bitCount_0f7a4_8 ?_
  refine lv_topi (fun x4111 ex4111 => ?_)
  obtain rfl : x4111 = 0 := ex4111.trans (by decide)
  refine lv_istore_n (lv' := [(0, .int 0)]) hx hb dJ6_bitCount_0f7a4_9 rfl hl (by decide) rfl (fun ls hl => ?_)
  refine lv_iload_n hx hb dJ6_bitCount_0f7a4_10 rfl (lv_at hl 0 rfl) ?_
  refine lv_ldcw hx hb hown (hts _ t_634) dJ6_bitCount_0f7a4_11 ?_
  refine lv_iand hx hb dJ6_bitCount_0f7a4_14 ?_
  refine lv_topi (fun x4112 ex4112 => ?_)
  obtain rfl : x4112 = 0 := ex4112.trans (by decide)
  refine lv_iload_n hx hb dJ6_bitCount_0f7a4_15 rfl (lv_at hl 0 rfl) ?_
  refine lv_iconst (v := 2) hx hb dJ6_bitCount_0f7a4_16 (by decide) ?_
  refine lv_iushr (v := 0) hx hb dJ6_bitCount_0f7a4_17 (by decide) ?_
  refine lv_ldcw hx hb hown (hts _ t_634) dJ6_bitCount_0f7a4_18 ?_
  refine lv_iand hx hb dJ6_bitCount_0f7a4_21 ?_
  refine lv_topi (fun x4113 ex4113 => ?_)
  obtain rfl : x4113 = 0 := ex4113.trans (by decide)
  refine lv_iadd hx hb dJ6_bitCount_0f7a4_22 ?_
  refine lv_topi (fun x4114 ex4114 => ?_)
  obtain rfl : x4114 = 0 := ex4114.trans (by decide)
  refine lv_istore_n (lv' := [(0, .int 0)]) hx hb dJ6_bitCount_0f7a4_23 rfl hl (by decide) rfl (fun ls hl => ?_)
  refine lv_iload_n hx hb dJ6_bitCount_0f7a4_24 rfl (lv_at hl 0 rfl) ?_
  refine lv_iload_n hx hb dJ6_bitCount_0f7a4_25 rfl (lv_at hl 0 rfl) ?_
  refine lv_iconst (v := 4) hx hb dJ6_bitCount_0f7a4_26 (by decide) ?_
  refine lv_iushr (v := 0) hx hb dJ6_bitCount_0f7a4_27 (by decide) ?_
  refine lv_iadd hx hb dJ6_bitCount_0f7a4_28 ?_
  refine lv_topi (fun x4115 ex4115 => ?_)
  obtain rfl : x4115 = 0 := ex4115.trans (by decide)
  refine lv_ldcw hx hb hown (hts _ t_635) dJ6_bitCount_0f7a4_29 ?_
  refine lv_iand hx hb dJ6_bitCount_0f7a4_32 ?_
  refine lv_topi (fun x4116 ex4116 => ?_)
  obtain rfl : x4116 = 0 := ex4116.trans (by decide)
  refine lv_istore_n (lv' := [(0, .int 0)]) hx hb dJ6_bitCount_0f7a4_33 rfl hl (by decide) rfl (fun ls hl => ?_)
  refine lv_iload_n hx hb dJ6_bitCount_0f7a4_34 rfl (lv_at hl 0 rfl) ?_
  refine lv_iload_n hx hb dJ6_bitCount_0f7a4_35 rfl (lv_at hl 0 rfl) ?_
  refine lv_bipush (v := 8) hx hb dJ6_bitCount_0f7a4_36 (by decide) ?_
  refine lv_iushr (v := 0) hx hb dJ6_bitCount_0f7a4_38 (by decide) ?_
  refine lv_iadd hx hb dJ6_bitCount_0f7a4_39 ?_
  refine lv_topi (fun x4117 ex4117 => ?_)
  obtain rfl : x4117 = 0 := ex4117.trans (by decide)
  refine lv_istore_n (lv' := [(0, .int 0)]) hx hb dJ6_bitCount_0f7a4_40 rfl hl (by decide) rfl (fun ls hl => ?_)
  refine lv_iload_n hx hb dJ6_bitCount_0f7a4_41 rfl (lv_at hl 0 rfl) ?_
  refine lv_iload_n hx hb dJ6_bitCount_0f7a4_42 rfl (lv_at hl 0 rfl) ?_
  refine lv_bipush (v := 16) hx hb dJ6_bitCount_0f7a4_43 (by decide) ?_
  refine lv_iushr (v := 0) hx hb dJ6_bitCount_0f7a4_45 (by decide) ?_
  refine lv_iadd hx hb dJ6_bitCount_0f7a4_46 ?_
  refine lv_topi (fun x4118 ex4118 => ?_)
  obtain rfl : x4118 = 0 := ex4118.trans (by decide)
  refine lv_istore_n (lv' := [(0, .int 0)]) hx hb dJ6_bitCount_0f7a4_47 rfl hl (by decide) rfl (fun ls hl => ?_)
  refine lv_iload_n hx hb dJ6_bitCount_0f7a4_48 rfl (lv_at hl 0 rfl) ?_
  refine lv_bipush (v := 63) hx hb dJ6_bitCount_0f7a4_49 (by decide) ?_
  refine lv_iand hx hb dJ6_bitCount_0f7a4_51 ?_
  refine lv_topi (fun x4119 ex4119 => ?_)
  obtain rfl : x4119 = 0 := ex4119.trans (by decide)
  exact retRi C rfl rfl dJ6_bitCount_0f7a4_52

set_option maxHeartbeats 4000000 in
set_option maxRecDepth 100000 in
theorem c_X8_count_0 (l : Launch) (D : va_G) (a : Nat → ClassId) (q1 q2 q3 q4 q5 q6 q7 q8 q9 q10 q11 q12 q13 q14 q15 q16 q17 q18 q19 q20 q21 q22 q23 q24 q25 q26 : Nat) (x1 : Int32) : CRi l MX8_count 1 20 D a [.ref q1, .int x1] [(q1, .inr (8, [.ref q2, .int 0, .ref q3, .int 0, .int 0, .ref q4, .ref q5, .ref q6, .ref q7, .ref q8, .ref q9])), (q10, .inr (7, [.int 0, .int 0, .int 0, .int 0, .int 0, .ref q11, .ref q12, .ref q13, .ref q14, .ref q15, .ref q16, .ref q17, .ref q18, .ref q19, .ref q20, .ref q21, .ref q22, .int 0])), (q4, .inr (5, [.ref q10, .ref q23, .int 0, .int 0, .int 0, .ref q24, .int 0, .ref q25])), (q23, .inr (0, [.int 0, .int 0, .int 0, .int 0, .int 0, .ref q26]))] (fun r => (x1.toInt = 0 ∧ r = 0) ∨ (x1.toInt = 1 ∧ r = 0) ∨ (x1.toInt = 2 ∧ r = 0) ∨ (x1.toInt = 3 ∧ r = 0) ∨ (x1.toInt = 4 ∧ r = 0) ∨ (x1.toInt = 5 ∧ r = 0) ∨ (x1.toInt = 6 ∧ r = 0) ∨ (x1.toInt = 7 ∧ r = 0) ∨ (x1.toInt = 8 ∧ r = 0) ∨ (x1.toInt = 9 ∧ r = 0) ∨ (x1.toInt = 10 ∧ r = 0) ∨ (x1.toInt ≠ 0 ∧ x1.toInt ≠ 1 ∧ x1.toInt ≠ 2 ∧ x1.toInt ≠ 3 ∧ x1.toInt ≠ 4 ∧ x1.toInt ≠ 5 ∧ x1.toInt ≠ 6 ∧ x1.toInt ≠ 7 ∧ x1.toInt ≠ 8 ∧ x1.toInt ≠ 9 ∧ x1.toInt ≠ 10 ∧ r = (-1))) := by
  refine entR (by decide) (Nat.le_of_ble_eq_true rfl) ?_
  intro p e s m below meth c C hK hP ls hl
  obtain ⟨hx, hb, hml, hown, hts, hr, hlocks, hnm⟩ := id C
  have hb : c.code = cX8_count := hb
  have hown : s.vm.findClass RX8 = some m.cls := hown
  have hl : lv_has ls 2 [(0, .ref q1), (1, .int x1)] := hl
  refine lv_iload_n hx hb dX8_count_0 rfl (lv_at hl 1 rfl) ?_
  by_cases c4143_0 : x1 = 0
  · have h4144 : x1.toInt = 0 := bI_eq rfl (by decide) c4143_0
    refine lv_tableIn (off := 59) (tgt := 60) hx hb dX8_count_1 (by rw [c4143_0]; decide) (by rw [c4143_0]; decide) (by rw [c4143_0]; decide) (by decide) ?_
    refine lv_aload_n hx hb dX8_count_60 rfl (lv_at hl 0 rfl) ?_
    refine va_get (D := D) (v := .ref q4) (C := RX8) (T := TX8) (N := 11) hx hb hts iX8 hown hK.1 hP 0 rfl rfl 5 (by decide) (hts _ t_305) (fun _ h9 => h9) rfl dX8_count_61 ?_
    refine va_get (D := D) (v := .ref q10) (C := RX5) (T := TX5) (N := 8) hx hb hts iX5 hown hK.1 hP 2 rfl rfl 0 (by decide) (hts _ t_161) (fun _ h9 => h9) rfl dX8_count_64 ?_
    refine va_get (D := D) (v := .int 0) (C := RX7) (T := TX7) (N := 18) hx hb hts iX7 hown hK.1 hP 1 rfl rfl 3 (by decide) (hts _ t_47) (fun _ h9 => h9) rfl dX8_count_67 ?_
    exact retRi C rfl (Or.inl ⟨h4144, rfl⟩) dX8_count_70
  by_cases c4143_1 : x1 = 1
  · have h4145 : x1.toInt = 1 := bI_eq rfl (by decide) c4143_1
    refine lv_tableIn (off := 70) (tgt := 71) hx hb dX8_count_1 (by rw [c4143_1]; decide) (by rw [c4143_1]; decide) (by rw [c4143_1]; decide) (by decide) ?_
    refine lv_aload_n hx hb dX8_count_71 rfl (lv_at hl 0 rfl) ?_
    refine va_get (D := D) (v := .ref q4) (C := RX8) (T := TX8) (N := 11) hx hb hts iX8 hown hK.1 hP 0 rfl rfl 5 (by decide) (hts _ t_305) (fun _ h9 => h9) rfl dX8_count_72 ?_
    refine va_get (D := D) (v := .ref q10) (C := RX5) (T := TX5) (N := 8) hx hb hts iX5 hown hK.1 hP 2 rfl rfl 0 (by decide) (hts _ t_161) (fun _ h9 => h9) rfl dX8_count_75 ?_
    refine va_get (D := D) (v := .int 0) (C := RX7) (T := TX7) (N := 18) hx hb hts iX7 hown hK.1 hP 1 rfl rfl 2 (by decide) (hts _ t_43) (fun _ h9 => h9) rfl dX8_count_78 ?_
    exact retRi C rfl (Or.inr (Or.inl ⟨h4145, rfl⟩)) dX8_count_81
  by_cases c4143_2 : x1 = 2
  · have h4146 : x1.toInt = 2 := bI_eq rfl (by decide) c4143_2
    refine lv_tableIn (off := 81) (tgt := 82) hx hb dX8_count_1 (by rw [c4143_2]; decide) (by rw [c4143_2]; decide) (by rw [c4143_2]; decide) (by decide) ?_
    refine lv_aload_n hx hb dX8_count_82 rfl (lv_at hl 0 rfl) ?_
    refine va_get (D := D) (v := .int 0) (C := RX8) (T := TX8) (N := 11) hx hb hts iX8 hown hK.1 hP 0 rfl rfl 3 (by decide) (hts _ t_303) (fun _ h9 => h9) rfl dX8_count_83 ?_
    exact retRi C rfl (Or.inr (Or.inr (Or.inl ⟨h4146, rfl⟩))) dX8_count_86
  by_cases c4143_3 : x1 = 3
  · have h4147 : x1.toInt = 3 := bI_eq rfl (by decide) c4143_3
    refine lv_tableIn (off := 86) (tgt := 87) hx hb dX8_count_1 (by rw [c4143_3]; decide) (by rw [c4143_3]; decide) (by rw [c4143_3]; decide) (by decide) ?_
    refine lv_aload_n hx hb dX8_count_87 rfl (lv_at hl 0 rfl) ?_
    refine va_get (D := D) (v := .ref q4) (C := RX8) (T := TX8) (N := 11) hx hb hts iX8 hown hK.1 hP 0 rfl rfl 5 (by decide) (hts _ t_305) (fun _ h9 => h9) rfl dX8_count_88 ?_
    refine va_get (D := D) (v := .ref q23) (C := RX5) (T := TX5) (N := 8) hx hb hts iX5 hown hK.1 hP 2 rfl rfl 1 (by decide) (hts _ t_163) (fun _ h9 => h9) rfl dX8_count_91 ?_
    refine va_get (D := D) (v := .int 0) (C := RX0) (T := TX0) (N := 6) hx hb hts iX0 hown hK.1 hP 3 rfl rfl 0 (by decide) (hts _ t_132) (fun _ h9 => h9) rfl dX8_count_94 ?_
    exact retRi C rfl (Or.inr (Or.inr (Or.inr (Or.inl ⟨h4147, rfl⟩)))) dX8_count_97
  by_cases c4143_4 : x1 = 4
  · have h4148 : x1.toInt = 4 := bI_eq rfl (by decide) c4143_4
    refine lv_tableIn (off := 97) (tgt := 98) hx hb dX8_count_1 (by rw [c4143_4]; decide) (by rw [c4143_4]; decide) (by rw [c4143_4]; decide) (by decide) ?_
    refine lv_aload_n hx hb dX8_count_98 rfl (lv_at hl 0 rfl) ?_
    refine va_get (D := D) (v := .ref q4) (C := RX8) (T := TX8) (N := 11) hx hb hts iX8 hown hK.1 hP 0 rfl rfl 5 (by decide) (hts _ t_305) (fun _ h9 => h9) rfl dX8_count_99 ?_
    refine va_get (D := D) (v := .ref q23) (C := RX5) (T := TX5) (N := 8) hx hb hts iX5 hown hK.1 hP 2 rfl rfl 1 (by decide) (hts _ t_163) (fun _ h9 => h9) rfl dX8_count_102 ?_
    refine va_get (D := D) (v := .int 0) (C := RX0) (T := TX0) (N := 6) hx hb hts iX0 hown hK.1 hP 3 rfl rfl 2 (by decide) (hts _ t_138) (fun _ h9 => h9) rfl dX8_count_105 ?_
    refine aftRi (runS (As := [.int 0]) (rest := []) C (c_J6_bitCount_0f7a4_0 l D a) lk_S_8_181 (okN_J6_bitCount_0f7a4) ⟨Nat.le_of_ble_eq_true rfl, Nat.le_of_ble_eq_true rfl⟩ ⟨rfl, rfl⟩ (preR hK (P_of_map (wc := []) hP [] rfl)) hl.1 rfl (Nat.le_of_ble_eq_true rfl) dX8_count_108 ⟨Nat.le_of_ble_eq_true rfl, Nat.le_of_ble_eq_true rfl⟩) (fun x4159 hw => ?_)
    obtain rfl := hw
    exact retRi C rfl (Or.inr (Or.inr (Or.inr (Or.inr (Or.inl ⟨h4148, rfl⟩))))) dX8_count_111
  by_cases c4143_5 : x1 = 5
  · have h4162 : x1.toInt = 5 := bI_eq rfl (by decide) c4143_5
    refine lv_tableIn (off := 111) (tgt := 112) hx hb dX8_count_1 (by rw [c4143_5]; decide) (by rw [c4143_5]; decide) (by rw [c4143_5]; decide) (by decide) ?_
    refine lv_aload_n hx hb dX8_count_112 rfl (lv_at hl 0 rfl) ?_
    refine va_get (D := D) (v := .ref q4) (C := RX8) (T := TX8) (N := 11) hx hb hts iX8 hown hK.1 hP 0 rfl rfl 5 (by decide) (hts _ t_305) (fun _ h9 => h9) rfl dX8_count_113 ?_
    refine va_get (D := D) (v := .ref q23) (C := RX5) (T := TX5) (N := 8) hx hb hts iX5 hown hK.1 hP 2 rfl rfl 1 (by decide) (hts _ t_163) (fun _ h9 => h9) rfl dX8_count_116 ?_
    refine va_get (D := D) (v := .int 0) (C := RX0) (T := TX0) (N := 6) hx hb hts iX0 hown hK.1 hP 3 rfl rfl 3 (by decide) (hts _ t_141) (fun _ h9 => h9) rfl dX8_count_119 ?_
    refine aftRi (runS (As := [.int 0]) (rest := []) C (c_J6_bitCount_0f7a4_0 l D a) lk_S_8_181 (okN_J6_bitCount_0f7a4) ⟨Nat.le_of_ble_eq_true rfl, Nat.le_of_ble_eq_true rfl⟩ ⟨rfl, rfl⟩ (preR hK (P_of_map (wc := []) hP [] rfl)) hl.1 rfl (Nat.le_of_ble_eq_true rfl) dX8_count_122 ⟨Nat.le_of_ble_eq_true rfl, Nat.le_of_ble_eq_true rfl⟩) (fun x4163 hw => ?_)
    obtain rfl := hw
    exact retRi C rfl (Or.inr (Or.inr (Or.inr (Or.inr (Or.inr (Or.inl ⟨h4162, rfl⟩)))))) dX8_count_125
  by_cases c4143_6 : x1 = 6
  · have h4166 : x1.toInt = 6 := bI_eq rfl (by decide) c4143_6
    refine lv_tableIn (off := 125) (tgt := 126) hx hb dX8_count_1 (by rw [c4143_6]; decide) (by rw [c4143_6]; decide) (by rw [c4143_6]; decide) (by decide) ?_
    refine lv_aload_n hx hb dX8_count_126 rfl (lv_at hl 0 rfl) ?_
    refine va_get (D := D) (v := .ref q4) (C := RX8) (T := TX8) (N := 11) hx hb hts iX8 hown hK.1 hP 0 rfl rfl 5 (by decide) (hts _ t_305) (fun _ h9 => h9) rfl dX8_count_127 ?_
    refine va_get (D := D) (v := .int 0) (C := RX5) (T := TX5) (N := 8) hx hb hts iX5 hown hK.1 hP 2 rfl rfl 6 (by decide) (hts _ t_173) (fun _ h9 => h9) rfl dX8_count_130 ?_
    exact retRi C rfl (Or.inr (Or.inr (Or.inr (Or.inr (Or.inr (Or.inr (Or.inl ⟨h4166, rfl⟩))))))) dX8_count_133
  by_cases c4143_7 : x1 = 7
  · have h4167 : x1.toInt = 7 := bI_eq rfl (by decide) c4143_7
    refine lv_tableIn (off := 133) (tgt := 134) hx hb dX8_count_1 (by rw [c4143_7]; decide) (by rw [c4143_7]; decide) (by rw [c4143_7]; decide) (by decide) ?_
    refine lv_aload_n hx hb dX8_count_134 rfl (lv_at hl 0 rfl) ?_
    refine va_get (D := D) (v := .ref q4) (C := RX8) (T := TX8) (N := 11) hx hb hts iX8 hown hK.1 hP 0 rfl rfl 5 (by decide) (hts _ t_305) (fun _ h9 => h9) rfl dX8_count_135 ?_
    refine va_get (D := D) (v := .ref q23) (C := RX5) (T := TX5) (N := 8) hx hb hts iX5 hown hK.1 hP 2 rfl rfl 1 (by decide) (hts _ t_163) (fun _ h9 => h9) rfl dX8_count_138 ?_
    refine va_get (D := D) (v := .int 0) (C := RX0) (T := TX0) (N := 6) hx hb hts iX0 hown hK.1 hP 3 rfl rfl 4 (by decide) (hts _ t_143) (fun _ h9 => h9) rfl dX8_count_141 ?_
    exact retRi C rfl (Or.inr (Or.inr (Or.inr (Or.inr (Or.inr (Or.inr (Or.inr (Or.inl ⟨h4167, rfl⟩)))))))) dX8_count_144
  by_cases c4143_8 : x1 = 8
  · have h4168 : x1.toInt = 8 := bI_eq rfl (by decide) c4143_8
    refine lv_tableIn (off := 144) (tgt := 145) hx hb dX8_count_1 (by rw [c4143_8]; decide) (by rw [c4143_8]; decide) (by rw [c4143_8]; decide) (by decide) ?_
    refine lv_aload_n hx hb dX8_count_145 rfl (lv_at hl 0 rfl) ?_
    refine va_get (D := D) (v := .int 0) (C := RX8) (T := TX8) (N := 11) hx hb hts iX8 hown hK.1 hP 0 rfl rfl 1 (by decide) (hts _ t_301) (fun _ h9 => h9) rfl dX8_count_146 ?_
    exact retRi C rfl (Or.inr (Or.inr (Or.inr (Or.inr (Or.inr (Or.inr (Or.inr (Or.inr (Or.inl ⟨h4168, rfl⟩))))))))) dX8_count_149
  by_cases c4143_9 : x1 = 9
  · have h4169 : x1.toInt = 9 := bI_eq rfl (by decide) c4143_9
    refine lv_tableIn (off := 149) (tgt := 150) hx hb dX8_count_1 (by rw [c4143_9]; decide) (by rw [c4143_9]; decide) (by rw [c4143_9]; decide) (by decide) ?_
    refine lv_aload_n hx hb dX8_count_150 rfl (lv_at hl 0 rfl) ?_
    refine va_get (D := D) (v := .ref q4) (C := RX8) (T := TX8) (N := 11) hx hb hts iX8 hown hK.1 hP 0 rfl rfl 5 (by decide) (hts _ t_305) (fun _ h9 => h9) rfl dX8_count_151 ?_
    refine va_get (D := D) (v := .int 0) (C := RX5) (T := TX5) (N := 8) hx hb hts iX5 hown hK.1 hP 2 rfl rfl 4 (by decide) (hts _ t_169) (fun _ h9 => h9) rfl dX8_count_154 ?_
    exact retRi C rfl (Or.inr (Or.inr (Or.inr (Or.inr (Or.inr (Or.inr (Or.inr (Or.inr (Or.inr (Or.inl ⟨h4169, rfl⟩)))))))))) dX8_count_157
  by_cases c4143_10 : x1 = 10
  · have h4170 : x1.toInt = 10 := bI_eq rfl (by decide) c4143_10
    refine lv_tableIn (off := 157) (tgt := 158) hx hb dX8_count_1 (by rw [c4143_10]; decide) (by rw [c4143_10]; decide) (by rw [c4143_10]; decide) (by decide) ?_
    refine lv_aload_n hx hb dX8_count_158 rfl (lv_at hl 0 rfl) ?_
    refine va_get (D := D) (v := .ref q4) (C := RX8) (T := TX8) (N := 11) hx hb hts iX8 hown hK.1 hP 0 rfl rfl 5 (by decide) (hts _ t_305) (fun _ h9 => h9) rfl dX8_count_159 ?_
    refine va_get (D := D) (v := .ref q10) (C := RX5) (T := TX5) (N := 8) hx hb hts iX5 hown hK.1 hP 2 rfl rfl 0 (by decide) (hts _ t_161) (fun _ h9 => h9) rfl dX8_count_162 ?_
    refine va_get (D := D) (v := .int 0) (C := RX7) (T := TX7) (N := 18) hx hb hts iX7 hown hK.1 hP 1 rfl rfl 1 (by decide) (hts _ t_41) (fun _ h9 => h9) rfl dX8_count_165 ?_
    exact retRi C rfl (Or.inr (Or.inr (Or.inr (Or.inr (Or.inr (Or.inr (Or.inr (Or.inr (Or.inr (Or.inr (Or.inl ⟨h4170, rfl⟩))))))))))) dX8_count_168
  refine lv_tableOut (tgt := 169) hx hb dX8_count_1 (by have := lv_neT c4143_0 (show (0 : Int32).toInt = 0 by decide); have := lv_neT c4143_1 (show (1 : Int32).toInt = 1 by decide); have := lv_neT c4143_2 (show (2 : Int32).toInt = 2 by decide); have := lv_neT c4143_3 (show (3 : Int32).toInt = 3 by decide); have := lv_neT c4143_4 (show (4 : Int32).toInt = 4 by decide); have := lv_neT c4143_5 (show (5 : Int32).toInt = 5 by decide); have := lv_neT c4143_6 (show (6 : Int32).toInt = 6 by decide); have := lv_neT c4143_7 (show (7 : Int32).toInt = 7 by decide); have := lv_neT c4143_8 (show (8 : Int32).toInt = 8 by decide); have := lv_neT c4143_9 (show (9 : Int32).toInt = 9 by decide); have := lv_neT c4143_10 (show (10 : Int32).toInt = 10 by decide); omega) (by decide) ?_
  have h4171 : x1.toInt ≠ 0 := bI_neq rfl (by decide) c4143_0
  have h4172 : x1.toInt ≠ 1 := bI_neq rfl (by decide) c4143_1
  have h4173 : x1.toInt ≠ 2 := bI_neq rfl (by decide) c4143_2
  have h4174 : x1.toInt ≠ 3 := bI_neq rfl (by decide) c4143_3
  have h4175 : x1.toInt ≠ 4 := bI_neq rfl (by decide) c4143_4
  have h4176 : x1.toInt ≠ 5 := bI_neq rfl (by decide) c4143_5
  have h4177 : x1.toInt ≠ 6 := bI_neq rfl (by decide) c4143_6
  have h4178 : x1.toInt ≠ 7 := bI_neq rfl (by decide) c4143_7
  have h4179 : x1.toInt ≠ 8 := bI_neq rfl (by decide) c4143_8
  have h4180 : x1.toInt ≠ 9 := bI_neq rfl (by decide) c4143_9
  have h4181 : x1.toInt ≠ 10 := bI_neq rfl (by decide) c4143_10
  refine lv_iconst (v := (-1)) hx hb dX8_count_169 (by decide) ?_
  exact retRi C rfl (Or.inr (Or.inr (Or.inr (Or.inr (Or.inr (Or.inr (Or.inr (Or.inr (Or.inr (Or.inr (Or.inr (⟨h4171, h4172, h4173, h4174, h4175, h4176, h4177, h4178, h4179, h4180, h4181, rfl⟩)))))))))))) dX8_count_170

set_option maxHeartbeats 4000000 in
set_option maxRecDepth 100000 in
theorem c_X9_thatAre_0 (l : Launch) (D : va_G) (a : Nat → ClassId) (q1 q2 q3 q4 q5 q6 q7 q8 q9 q10 q11 q12 q13 q14 q15 q16 q17 q18 q19 q20 q21 q22 q23 : Nat) : CRi l MX9_thatAre 0 0 D a [.ref q1, .int 1] [(q1, .inr (9, [.ref q2, .int 0, .int 0, .ref q3, .ref q4, .ref q5, .ref q6, .int 0, .int 0, .int 0, .ref q7, .ref q8, .int 0, .int 0, .int 0, .int 0, .int 0, .int 0, .int 0, .ref q9, .int 0, .ref q10, .int 0, .ref q11, .ref q12, .ref q13, .ref q14, .ref q15, .ref q16, .ref q17, .ref q18, .ref q19, .ref q20, .ref q21, .ref q22, .ref q23])), (q12, .inl (a 0, 104, .inl (fun _ => 0)))] (fun r => (r = 0)) := by
  refine entR (by decide) (Nat.le_of_ble_eq_true rfl) ?_
  intro p e s m below meth c C hK hP ls hl
  obtain ⟨hx, hb, hml, hown, hts, hr, hlocks, hnm⟩ := id C
  have hb : c.code = cX9_thatAre := hb
  have hown : s.vm.findClass RX9 = some m.cls := hown
  have hl : lv_has ls 4 [(0, .ref q1), (1, .int 1)] := hl
  refine lv_iconst (v := 0) hx hb dX9_thatAre_0 (by decide) ?_
  refine lv_istore_n (lv' := [(2, .int 0), (0, .ref q1), (1, .int 1)]) hx hb dX9_thatAre_1 rfl hl (by decide) rfl (fun ls hl => ?_)
  refine lv_iconst (v := 0) hx hb dX9_thatAre_2 (by decide) ?_
  refine lv_istore_n (lv' := [(3, .int 0), (2, .int 0), (0, .ref q1), (1, .int 1)]) hx hb dX9_thatAre_3 rfl hl (by decide) rfl (fun ls hl => ?_)
  refine lv_iload_n hx hb dX9_thatAre_4 rfl (lv_at hl 0 rfl) ?_
  refine lv_aload_n hx hb dX9_thatAre_5 rfl (lv_at hl 2 rfl) ?_
  refine va_get (D := D) (v := .ref q12) (C := RX9) (T := TX9) (N := 36) hx hb hts iX9 hown hK.1 hP 0 rfl rfl 24 (by decide) (hts _ t_906) (fun _ h9 => h9) rfl dX9_thatAre_6 ?_
  refine lv_iconst (v := 0) hx hb dX9_thatAre_9 (by decide) ?_
  refine ald_i hx hb hK.1 hP 1 0 rfl rfl 0 (ix_lit (by decide)) dX9_thatAre_10 ?_
  refine lv_icmp_ge (tgt := 40) hx hb dX9_thatAre_11 (by decide) (fun c9 => ?_) (fun c9 => absurd (by decide) c9)
  refine lv_iload_n hx hb dX9_thatAre_40 rfl (lv_at hl 1 rfl) ?_
  exact retRi C rfl rfl dX9_thatAre_41

set_option maxHeartbeats 4000000 in
set_option maxRecDepth 100000 in
theorem c_X9_bits_0 (l : Launch) (D : va_G) (a : Nat → ClassId) : CRi l MX9_bits 0 0 D a [.int 0] [] (fun r => (r = 0)) := by
  refine entR (by decide) (Nat.le_of_ble_eq_true rfl) ?_
  intro p e s m below meth c C hK hP ls hl
  obtain ⟨hx, hb, hml, hown, hts, hr, hlocks, hnm⟩ := id C
  have hb : c.code = cX9_bits := hb
  have hown : s.vm.findClass RX9 = some m.cls := hown
  have hl : lv_has ls 3 [(0, .int 0)] := hl
  refine lv_iconst (v := 0) hx hb dX9_bits_0 (by decide) ?_
  refine lv_istore_n (lv' := [(1, .int 0), (0, .int 0)]) hx hb dX9_bits_1 rfl hl (by decide) rfl (fun ls hl => ?_)
  refine lv_iload_n hx hb dX9_bits_2 rfl (lv_at hl 1 rfl) ?_
  refine lv_istore_n (lv' := [(2, .int 0), (1, .int 0), (0, .int 0)]) hx hb dX9_bits_3 rfl hl (by decide) rfl (fun ls hl => ?_)
  refine lv_iload_n hx hb dX9_bits_4 rfl (lv_at hl 0 rfl) ?_
  refine lv_if_eq (tgt := 20) hx hb dX9_bits_5 (by decide) (fun c9 => ?_) (fun c9 => absurd (by decide) c9)
  refine lv_iload_n hx hb dX9_bits_20 rfl (lv_at hl 1 rfl) ?_
  exact retRi C rfl rfl dX9_bits_21

set_option maxHeartbeats 4000000 in
set_option maxRecDepth 100000 in
theorem c_X9_thatAre_1 (l : Launch) (D : va_G) (a : Nat → ClassId) (q1 q2 q3 q4 q5 q6 q7 q8 q9 q10 q11 q12 q13 q14 q15 q16 q17 q18 q19 q20 q21 q22 q23 : Nat) : CRi l MX9_thatAre 0 0 D a [.ref q1, .int 2] [(q1, .inr (9, [.ref q2, .int 0, .int 0, .ref q3, .ref q4, .ref q5, .ref q6, .int 0, .int 0, .int 0, .ref q7, .ref q8, .int 0, .int 0, .int 0, .int 0, .int 0, .int 0, .int 0, .ref q9, .int 0, .ref q10, .int 0, .ref q11, .ref q12, .ref q13, .ref q14, .ref q15, .ref q16, .ref q17, .ref q18, .ref q19, .ref q20, .ref q21, .ref q22, .ref q23])), (q12, .inl (a 0, 104, .inl (fun _ => 0)))] (fun r => (r = 0)) := by
  refine entR (by decide) (Nat.le_of_ble_eq_true rfl) ?_
  intro p e s m below meth c C hK hP ls hl
  obtain ⟨hx, hb, hml, hown, hts, hr, hlocks, hnm⟩ := id C
  have hb : c.code = cX9_thatAre := hb
  have hown : s.vm.findClass RX9 = some m.cls := hown
  have hl : lv_has ls 4 [(0, .ref q1), (1, .int 2)] := hl
  refine lv_iconst (v := 0) hx hb dX9_thatAre_0 (by decide) ?_
  refine lv_istore_n (lv' := [(2, .int 0), (0, .ref q1), (1, .int 2)]) hx hb dX9_thatAre_1 rfl hl (by decide) rfl (fun ls hl => ?_)
  refine lv_iconst (v := 0) hx hb dX9_thatAre_2 (by decide) ?_
  refine lv_istore_n (lv' := [(3, .int 0), (2, .int 0), (0, .ref q1), (1, .int 2)]) hx hb dX9_thatAre_3 rfl hl (by decide) rfl (fun ls hl => ?_)
  refine lv_iload_n hx hb dX9_thatAre_4 rfl (lv_at hl 0 rfl) ?_
  refine lv_aload_n hx hb dX9_thatAre_5 rfl (lv_at hl 2 rfl) ?_
  refine va_get (D := D) (v := .ref q12) (C := RX9) (T := TX9) (N := 36) hx hb hts iX9 hown hK.1 hP 0 rfl rfl 24 (by decide) (hts _ t_906) (fun _ h9 => h9) rfl dX9_thatAre_6 ?_
  refine lv_iconst (v := 0) hx hb dX9_thatAre_9 (by decide) ?_
  refine ald_i hx hb hK.1 hP 1 0 rfl rfl 0 (ix_lit (by decide)) dX9_thatAre_10 ?_
  refine lv_icmp_ge (tgt := 40) hx hb dX9_thatAre_11 (by decide) (fun c9 => ?_) (fun c9 => absurd (by decide) c9)
  refine lv_iload_n hx hb dX9_thatAre_40 rfl (lv_at hl 1 rfl) ?_
  exact retRi C rfl rfl dX9_thatAre_41

set_option maxHeartbeats 4000000 in
set_option maxRecDepth 100000 in
theorem c_X9_count_0 (l : Launch) (D : va_G) (a : Nat → ClassId) (q1 q2 q3 q4 q5 q6 q7 q8 q9 q10 q11 q12 q13 q14 q15 q16 q17 q18 q19 q20 q21 q22 q23 : Nat) (x1 : Int32) : CRi l MX9_count 1 23 D a [.ref q1, .int x1] [(q1, .inr (9, [.ref q2, .int 0, .int 0, .ref q3, .ref q4, .ref q5, .ref q6, .int 0, .int 0, .int 0, .ref q7, .ref q8, .int 0, .int 0, .int 0, .int 0, .int 0, .int 0, .int 0, .ref q9, .int 0, .ref q10, .int 0, .ref q11, .ref q12, .ref q13, .ref q14, .ref q15, .ref q16, .ref q17, .ref q18, .ref q19, .ref q20, .ref q21, .ref q22, .ref q23])), (q12, .inl (a 0, 104, .inl (fun _ => 0)))] (fun r => (x1.toInt = 0 ∧ r = 0) ∨ (x1.toInt = 1 ∧ r = 0) ∨ (x1.toInt = 2 ∧ r = 0) ∨ (x1.toInt = 3 ∧ r = 0) ∨ (x1.toInt = 4 ∧ r = 0) ∨ (x1.toInt = 5 ∧ r = 0) ∨ (x1.toInt = 6 ∧ r = 0) ∨ (x1.toInt = 7 ∧ r = 0) ∨ (x1.toInt = 8 ∧ r = 0) ∨ (x1.toInt = 9 ∧ r = 0) ∨ (x1.toInt = 10 ∧ r = 0) ∨ (x1.toInt ≠ 0 ∧ x1.toInt ≠ 1 ∧ x1.toInt ≠ 2 ∧ x1.toInt ≠ 3 ∧ x1.toInt ≠ 4 ∧ x1.toInt ≠ 5 ∧ x1.toInt ≠ 6 ∧ x1.toInt ≠ 7 ∧ x1.toInt ≠ 8 ∧ x1.toInt ≠ 9 ∧ x1.toInt ≠ 10 ∧ r = (-1))) := by
  refine entR (by decide) (Nat.le_of_ble_eq_true rfl) ?_
  intro p e s m below meth c C hK hP ls hl
  obtain ⟨hx, hb, hml, hown, hts, hr, hlocks, hnm⟩ := id C
  have hb : c.code = cX9_count := hb
  have hown : s.vm.findClass RX9 = some m.cls := hown
  have hl : lv_has ls 2 [(0, .ref q1), (1, .int x1)] := hl
  refine lv_iload_n hx hb dX9_count_0 rfl (lv_at hl 1 rfl) ?_
  by_cases c4243_0 : x1 = 0
  · have h4244 : x1.toInt = 0 := bI_eq rfl (by decide) c4243_0
    refine lv_tableIn (off := 59) (tgt := 60) hx hb dX9_count_1 (by rw [c4243_0]; decide) (by rw [c4243_0]; decide) (by rw [c4243_0]; decide) (by decide) ?_
    refine lv_aload_n hx hb dX9_count_60 rfl (lv_at hl 0 rfl) ?_
    refine va_get (D := D) (v := .ref q12) (C := RX9) (T := TX9) (N := 36) hx hb hts iX9 hown hK.1 hP 0 rfl rfl 24 (by decide) (hts _ t_906) (fun _ h9 => h9) rfl dX9_count_61 ?_
    refine lv_iload_n hx hb dX9_count_64 rfl (lv_at hl 1 rfl) ?_
    refine ald_i hx hb hK.1 hP 1 0 rfl rfl x1.toNatClampNeg (ix_of (by omega) (by omega)) dX9_count_65 ?_
    exact retRi C rfl (Or.inl ⟨h4244, rfl⟩) dX9_count_66
  by_cases c4243_1 : x1 = 1
  · have h4245 : x1.toInt = 1 := bI_eq rfl (by decide) c4243_1
    refine lv_tableIn (off := 59) (tgt := 60) hx hb dX9_count_1 (by rw [c4243_1]; decide) (by rw [c4243_1]; decide) (by rw [c4243_1]; decide) (by decide) ?_
    refine lv_aload_n hx hb dX9_count_60 rfl (lv_at hl 0 rfl) ?_
    refine va_get (D := D) (v := .ref q12) (C := RX9) (T := TX9) (N := 36) hx hb hts iX9 hown hK.1 hP 0 rfl rfl 24 (by decide) (hts _ t_906) (fun _ h9 => h9) rfl dX9_count_61 ?_
    refine lv_iload_n hx hb dX9_count_64 rfl (lv_at hl 1 rfl) ?_
    refine ald_i hx hb hK.1 hP 1 0 rfl rfl x1.toNatClampNeg (ix_of (by omega) (by omega)) dX9_count_65 ?_
    exact retRi C rfl (Or.inr (Or.inl ⟨h4245, rfl⟩)) dX9_count_66
  by_cases c4243_2 : x1 = 2
  · have h4246 : x1.toInt = 2 := bI_eq rfl (by decide) c4243_2
    refine lv_tableIn (off := 66) (tgt := 67) hx hb dX9_count_1 (by rw [c4243_2]; decide) (by rw [c4243_2]; decide) (by rw [c4243_2]; decide) (by decide) ?_
    refine lv_aload_n hx hb dX9_count_67 rfl (lv_at hl 0 rfl) ?_
    refine va_get (D := D) (v := .int 0) (C := RX9) (T := TX9) (N := 36) hx hb hts iX9 hown hK.1 hP 0 rfl rfl 2 (by decide) (hts _ t_884) (fun _ h9 => h9) rfl dX9_count_68 ?_
    exact retRi C rfl (Or.inr (Or.inr (Or.inl ⟨h4246, rfl⟩))) dX9_count_71
  by_cases c4243_3 : x1 = 3
  · have h4247 : x1.toInt = 3 := bI_eq rfl (by decide) c4243_3
    refine lv_tableIn (off := 71) (tgt := 72) hx hb dX9_count_1 (by rw [c4243_3]; decide) (by rw [c4243_3]; decide) (by rw [c4243_3]; decide) (by decide) ?_
    refine lv_aload_n hx hb dX9_count_72 rfl (lv_at hl 0 rfl) ?_
    refine va_get (D := D) (v := .ref q12) (C := RX9) (T := TX9) (N := 36) hx hb hts iX9 hown hK.1 hP 0 rfl rfl 24 (by decide) (hts _ t_906) (fun _ h9 => h9) rfl dX9_count_73 ?_
    refine lv_iconst (v := 3) hx hb dX9_count_76 (by decide) ?_
    refine ald_i hx hb hK.1 hP 1 0 rfl rfl 3 (ix_lit (by decide)) dX9_count_77 ?_
    exact retRi C rfl (Or.inr (Or.inr (Or.inr (Or.inl ⟨h4247, rfl⟩)))) dX9_count_78
  by_cases c4243_4 : x1 = 4
  · have h4248 : x1.toInt = 4 := bI_eq rfl (by decide) c4243_4
    refine lv_tableIn (off := 78) (tgt := 79) hx hb dX9_count_1 (by rw [c4243_4]; decide) (by rw [c4243_4]; decide) (by rw [c4243_4]; decide) (by decide) ?_
    refine lv_aload_n hx hb dX9_count_79 rfl (lv_at hl 0 rfl) ?_
    refine lv_iconst (v := 1) hx hb dX9_count_80 (by decide) ?_
    refine aftRi (runV (As := [.int 1]) (rest := []) C (c_X9_thatAre_0 l D a q1 q2 q3 q4 q5 q6 q7 q8 q9 q10 q11 q12 q13 q14 q15 q16 q17 q18 q19 q20 q21 q22 q23) lk_V_9_313 (okN_X9_thatAre) ⟨Nat.le_of_ble_eq_true rfl, Nat.le_of_ble_eq_true rfl⟩ ⟨rfl, rfl⟩ (preV (preR hK (P_of_map (wc := [(q1, .inr (9, [.ref q2, .int 0, .int 0, .ref q3, .ref q4, .ref q5, .ref q6, .int 0, .int 0, .int 0, .ref q7, .ref q8, .int 0, .int 0, .int 0, .int 0, .int 0, .int 0, .int 0, .ref q9, .int 0, .ref q10, .int 0, .ref q11, .ref q12, .ref q13, .ref q14, .ref q15, .ref q16, .ref q17, .ref q18, .ref q19, .ref q20, .ref q21, .ref q22, .ref q23])), (q12, .inl (a 0, 104, .inl (fun _ => 0)))]) hP [0, 1] rfl)) (recvOf hK hP 0 rfl (ci := 9) rfl)) hl.1 rfl (Nat.le_of_ble_eq_true rfl) dX9_count_81 ⟨Nat.le_of_ble_eq_true rfl, Nat.le_of_ble_eq_true rfl⟩) (fun x4249 hw => ?_)
    obtain rfl := hw
    refine aftRi (runS (As := [.int 0]) (rest := []) C (c_X9_bits_0 l D a) lk_S_9_316 (okN_X9_bits) ⟨Nat.le_of_ble_eq_true rfl, Nat.le_of_ble_eq_true rfl⟩ ⟨rfl, rfl⟩ (preR hK (P_of_map (wc := []) hP [] rfl)) hl.1 rfl (Nat.le_of_ble_eq_true rfl) dX9_count_84 ⟨Nat.le_of_ble_eq_true rfl, Nat.le_of_ble_eq_true rfl⟩) (fun x4252 hw => ?_)
    obtain rfl := hw
    exact retRi C rfl (Or.inr (Or.inr (Or.inr (Or.inr (Or.inl ⟨h4248, rfl⟩))))) dX9_count_87
  by_cases c4243_5 : x1 = 5
  · have h4255 : x1.toInt = 5 := bI_eq rfl (by decide) c4243_5
    refine lv_tableIn (off := 87) (tgt := 88) hx hb dX9_count_1 (by rw [c4243_5]; decide) (by rw [c4243_5]; decide) (by rw [c4243_5]; decide) (by decide) ?_
    refine lv_aload_n hx hb dX9_count_88 rfl (lv_at hl 0 rfl) ?_
    refine lv_iconst (v := 2) hx hb dX9_count_89 (by decide) ?_
    refine aftRi (runV (As := [.int 2]) (rest := []) C (c_X9_thatAre_1 l D a q1 q2 q3 q4 q5 q6 q7 q8 q9 q10 q11 q12 q13 q14 q15 q16 q17 q18 q19 q20 q21 q22 q23) lk_V_9_313 (okN_X9_thatAre) ⟨Nat.le_of_ble_eq_true rfl, Nat.le_of_ble_eq_true rfl⟩ ⟨rfl, rfl⟩ (preV (preR hK (P_of_map (wc := [(q1, .inr (9, [.ref q2, .int 0, .int 0, .ref q3, .ref q4, .ref q5, .ref q6, .int 0, .int 0, .int 0, .ref q7, .ref q8, .int 0, .int 0, .int 0, .int 0, .int 0, .int 0, .int 0, .ref q9, .int 0, .ref q10, .int 0, .ref q11, .ref q12, .ref q13, .ref q14, .ref q15, .ref q16, .ref q17, .ref q18, .ref q19, .ref q20, .ref q21, .ref q22, .ref q23])), (q12, .inl (a 0, 104, .inl (fun _ => 0)))]) hP [0, 1] rfl)) (recvOf hK hP 0 rfl (ci := 9) rfl)) hl.1 rfl (Nat.le_of_ble_eq_true rfl) dX9_count_90 ⟨Nat.le_of_ble_eq_true rfl, Nat.le_of_ble_eq_true rfl⟩) (fun x4256 hw => ?_)
    obtain rfl := hw
    refine aftRi (runS (As := [.int 0]) (rest := []) C (c_X9_bits_0 l D a) lk_S_9_316 (okN_X9_bits) ⟨Nat.le_of_ble_eq_true rfl, Nat.le_of_ble_eq_true rfl⟩ ⟨rfl, rfl⟩ (preR hK (P_of_map (wc := []) hP [] rfl)) hl.1 rfl (Nat.le_of_ble_eq_true rfl) dX9_count_93 ⟨Nat.le_of_ble_eq_true rfl, Nat.le_of_ble_eq_true rfl⟩) (fun x4259 hw => ?_)
    obtain rfl := hw
    exact retRi C rfl (Or.inr (Or.inr (Or.inr (Or.inr (Or.inr (Or.inl ⟨h4255, rfl⟩)))))) dX9_count_96
  by_cases c4243_6 : x1 = 6
  · have h4262 : x1.toInt = 6 := bI_eq rfl (by decide) c4243_6
    refine lv_tableIn (off := 96) (tgt := 97) hx hb dX9_count_1 (by rw [c4243_6]; decide) (by rw [c4243_6]; decide) (by rw [c4243_6]; decide) (by decide) ?_
    refine lv_aload_n hx hb dX9_count_97 rfl (lv_at hl 0 rfl) ?_
    refine va_get (D := D) (v := .ref q12) (C := RX9) (T := TX9) (N := 36) hx hb hts iX9 hown hK.1 hP 0 rfl rfl 24 (by decide) (hts _ t_906) (fun _ h9 => h9) rfl dX9_count_98 ?_
    refine lv_bipush (v := 8) hx hb dX9_count_101 (by decide) ?_
    refine ald_i hx hb hK.1 hP 1 0 rfl rfl 8 (ix_lit (by decide)) dX9_count_103 ?_
    exact retRi C rfl (Or.inr (Or.inr (Or.inr (Or.inr (Or.inr (Or.inr (Or.inl ⟨h4262, rfl⟩))))))) dX9_count_104
  by_cases c4243_7 : x1 = 7
  · have h4263 : x1.toInt = 7 := bI_eq rfl (by decide) c4243_7
    refine lv_tableIn (off := 104) (tgt := 105) hx hb dX9_count_1 (by rw [c4243_7]; decide) (by rw [c4243_7]; decide) (by rw [c4243_7]; decide) (by decide) ?_
    refine lv_aload_n hx hb dX9_count_105 rfl (lv_at hl 0 rfl) ?_
    refine va_get (D := D) (v := .ref q12) (C := RX9) (T := TX9) (N := 36) hx hb hts iX9 hown hK.1 hP 0 rfl rfl 24 (by decide) (hts _ t_906) (fun _ h9 => h9) rfl dX9_count_106 ?_
    refine lv_bipush (v := 9) hx hb dX9_count_109 (by decide) ?_
    refine ald_i hx hb hK.1 hP 1 0 rfl rfl 9 (ix_lit (by decide)) dX9_count_111 ?_
    exact retRi C rfl (Or.inr (Or.inr (Or.inr (Or.inr (Or.inr (Or.inr (Or.inr (Or.inl ⟨h4263, rfl⟩)))))))) dX9_count_112
  by_cases c4243_8 : x1 = 8
  · have h4264 : x1.toInt = 8 := bI_eq rfl (by decide) c4243_8
    refine lv_tableIn (off := 112) (tgt := 113) hx hb dX9_count_1 (by rw [c4243_8]; decide) (by rw [c4243_8]; decide) (by rw [c4243_8]; decide) (by decide) ?_
    refine lv_aload_n hx hb dX9_count_113 rfl (lv_at hl 0 rfl) ?_
    refine va_get (D := D) (v := .int 0) (C := RX9) (T := TX9) (N := 36) hx hb hts iX9 hown hK.1 hP 0 rfl rfl 1 (by decide) (hts _ t_883) (fun _ h9 => h9) rfl dX9_count_114 ?_
    exact retRi C rfl (Or.inr (Or.inr (Or.inr (Or.inr (Or.inr (Or.inr (Or.inr (Or.inr (Or.inl ⟨h4264, rfl⟩))))))))) dX9_count_117
  by_cases c4243_9 : x1 = 9
  · have h4265 : x1.toInt = 9 := bI_eq rfl (by decide) c4243_9
    refine lv_tableIn (off := 117) (tgt := 118) hx hb dX9_count_1 (by rw [c4243_9]; decide) (by rw [c4243_9]; decide) (by rw [c4243_9]; decide) (by decide) ?_
    refine lv_aload_n hx hb dX9_count_118 rfl (lv_at hl 0 rfl) ?_
    refine va_get (D := D) (v := .ref q12) (C := RX9) (T := TX9) (N := 36) hx hb hts iX9 hown hK.1 hP 0 rfl rfl 24 (by decide) (hts _ t_906) (fun _ h9 => h9) rfl dX9_count_119 ?_
    refine lv_bipush (v := 7) hx hb dX9_count_122 (by decide) ?_
    refine ald_i hx hb hK.1 hP 1 0 rfl rfl 7 (ix_lit (by decide)) dX9_count_124 ?_
    exact retRi C rfl (Or.inr (Or.inr (Or.inr (Or.inr (Or.inr (Or.inr (Or.inr (Or.inr (Or.inr (Or.inl ⟨h4265, rfl⟩)))))))))) dX9_count_125
  by_cases c4243_10 : x1 = 10
  · have h4266 : x1.toInt = 10 := bI_eq rfl (by decide) c4243_10
    refine lv_tableIn (off := 125) (tgt := 126) hx hb dX9_count_1 (by rw [c4243_10]; decide) (by rw [c4243_10]; decide) (by rw [c4243_10]; decide) (by decide) ?_
    refine lv_aload_n hx hb dX9_count_126 rfl (lv_at hl 0 rfl) ?_
    refine va_get (D := D) (v := .ref q12) (C := RX9) (T := TX9) (N := 36) hx hb hts iX9 hown hK.1 hP 0 rfl rfl 24 (by decide) (hts _ t_906) (fun _ h9 => h9) rfl dX9_count_127 ?_
    refine lv_iconst (v := 2) hx hb dX9_count_130 (by decide) ?_
    refine ald_i hx hb hK.1 hP 1 0 rfl rfl 2 (ix_lit (by decide)) dX9_count_131 ?_
    exact retRi C rfl (Or.inr (Or.inr (Or.inr (Or.inr (Or.inr (Or.inr (Or.inr (Or.inr (Or.inr (Or.inr (Or.inl ⟨h4266, rfl⟩))))))))))) dX9_count_132
  refine lv_tableOut (tgt := 133) hx hb dX9_count_1 (by have := lv_neT c4243_0 (show (0 : Int32).toInt = 0 by decide); have := lv_neT c4243_1 (show (1 : Int32).toInt = 1 by decide); have := lv_neT c4243_2 (show (2 : Int32).toInt = 2 by decide); have := lv_neT c4243_3 (show (3 : Int32).toInt = 3 by decide); have := lv_neT c4243_4 (show (4 : Int32).toInt = 4 by decide); have := lv_neT c4243_5 (show (5 : Int32).toInt = 5 by decide); have := lv_neT c4243_6 (show (6 : Int32).toInt = 6 by decide); have := lv_neT c4243_7 (show (7 : Int32).toInt = 7 by decide); have := lv_neT c4243_8 (show (8 : Int32).toInt = 8 by decide); have := lv_neT c4243_9 (show (9 : Int32).toInt = 9 by decide); have := lv_neT c4243_10 (show (10 : Int32).toInt = 10 by decide); omega) (by decide) ?_
  have h4267 : x1.toInt ≠ 0 := bI_neq rfl (by decide) c4243_0
  have h4268 : x1.toInt ≠ 1 := bI_neq rfl (by decide) c4243_1
  have h4269 : x1.toInt ≠ 2 := bI_neq rfl (by decide) c4243_2
  have h4270 : x1.toInt ≠ 3 := bI_neq rfl (by decide) c4243_3
  have h4271 : x1.toInt ≠ 4 := bI_neq rfl (by decide) c4243_4
  have h4272 : x1.toInt ≠ 5 := bI_neq rfl (by decide) c4243_5
  have h4273 : x1.toInt ≠ 6 := bI_neq rfl (by decide) c4243_6
  have h4274 : x1.toInt ≠ 7 := bI_neq rfl (by decide) c4243_7
  have h4275 : x1.toInt ≠ 8 := bI_neq rfl (by decide) c4243_8
  have h4276 : x1.toInt ≠ 9 := bI_neq rfl (by decide) c4243_9
  have h4277 : x1.toInt ≠ 10 := bI_neq rfl (by decide) c4243_10
  refine lv_iconst (v := (-1)) hx hb dX9_count_133 (by decide) ?_
  exact retRi C rfl (Or.inr (Or.inr (Or.inr (Or.inr (Or.inr (Or.inr (Or.inr (Or.inr (Or.inr (Or.inr (Or.inr (⟨h4267, h4268, h4269, h4270, h4271, h4272, h4273, h4274, h4275, h4276, h4277, rfl⟩)))))))))))) dX9_count_134

set_option maxHeartbeats 4000000 in
set_option maxRecDepth 100000 in
theorem c_X8_coins_0 (l : Launch) (D : va_G) (a : Nat → ClassId) (q1 q2 q3 q4 q5 q6 q7 q8 q9 q10 q11 q12 q13 q14 : Nat) (x1 : Int32) : CRi l MX8_coins 0 0 D a [.ref q1, .int x1] [(q1, .inr (8, [.ref q2, .int 0, .ref q3, .int 0, .int 0, .ref q4, .ref q5, .ref q6, .ref q7, .ref q8, .ref q9])), (q4, .inr (5, [.ref q10, .ref q11, .int 0, .int 0, .int 0, .ref q12, .int 0, .ref q13])), (q11, .inr (0, [.int 0, .int 0, .int 0, .int 0, .int 0, .ref q14]))] (fun r => (x1.toInt = 0 ∧ r = 0) ∨ (x1.toInt = 1 ∧ r = 0) ∨ (x1.toInt = 2 ∧ r = 0) ∨ (x1.toInt ≠ 0 ∧ x1.toInt ≠ 1 ∧ x1.toInt ≠ 2 ∧ r = (-1000000))) := by
  refine entR (by decide) (Nat.le_of_ble_eq_true rfl) ?_
  intro p e s m below meth c C hK hP ls hl
  obtain ⟨hx, hb, hml, hown, hts, hr, hlocks, hnm⟩ := id C
  have hb : c.code = cX8_coins := hb
  have hown : s.vm.findClass RX8 = some m.cls := hown
  have hl : lv_has ls 2 [(0, .ref q1), (1, .int x1)] := hl
  refine lv_iload_n hx hb dX8_coins_0 rfl (lv_at hl 1 rfl) ?_
  by_cases c4597_0 : x1 = 0
  · have h4598 : x1.toInt = 0 := bI_eq rfl (by decide) c4597_0
    refine lv_tableIn (off := 27) (tgt := 28) hx hb dX8_coins_1 (by rw [c4597_0]; decide) (by rw [c4597_0]; decide) (by rw [c4597_0]; decide) (by decide) ?_
    refine lv_aload_n hx hb dX8_coins_28 rfl (lv_at hl 0 rfl) ?_
    refine va_get (D := D) (v := .ref q4) (C := RX8) (T := TX8) (N := 11) hx hb hts iX8 hown hK.1 hP 0 rfl rfl 5 (by decide) (hts _ t_305) (fun _ h9 => h9) rfl dX8_coins_29 ?_
    refine va_get (D := D) (v := .ref q11) (C := RX5) (T := TX5) (N := 8) hx hb hts iX5 hown hK.1 hP 1 rfl rfl 1 (by decide) (hts _ t_163) (fun _ h9 => h9) rfl dX8_coins_32 ?_
    refine va_get (D := D) (v := .int 0) (C := RX0) (T := TX0) (N := 6) hx hb hts iX0 hown hK.1 hP 2 rfl rfl 1 (by decide) (hts _ t_135) (fun _ h9 => h9) rfl dX8_coins_35 ?_
    exact retRi C rfl (Or.inl ⟨h4598, rfl⟩) dX8_coins_38
  by_cases c4597_1 : x1 = 1
  · have h4599 : x1.toInt = 1 := bI_eq rfl (by decide) c4597_1
    refine lv_tableIn (off := 38) (tgt := 39) hx hb dX8_coins_1 (by rw [c4597_1]; decide) (by rw [c4597_1]; decide) (by rw [c4597_1]; decide) (by decide) ?_
    refine lv_aload_n hx hb dX8_coins_39 rfl (lv_at hl 0 rfl) ?_
    refine va_get (D := D) (v := .ref q4) (C := RX8) (T := TX8) (N := 11) hx hb hts iX8 hown hK.1 hP 0 rfl rfl 5 (by decide) (hts _ t_305) (fun _ h9 => h9) rfl dX8_coins_40 ?_
    refine va_get (D := D) (v := .int 0) (C := RX5) (T := TX5) (N := 8) hx hb hts iX5 hown hK.1 hP 1 rfl rfl 2 (by decide) (hts _ t_165) (fun _ h9 => h9) rfl dX8_coins_43 ?_
    exact retRi C rfl (Or.inr (Or.inl ⟨h4599, rfl⟩)) dX8_coins_46
  by_cases c4597_2 : x1 = 2
  · have h4600 : x1.toInt = 2 := bI_eq rfl (by decide) c4597_2
    refine lv_tableIn (off := 46) (tgt := 47) hx hb dX8_coins_1 (by rw [c4597_2]; decide) (by rw [c4597_2]; decide) (by rw [c4597_2]; decide) (by decide) ?_
    refine lv_aload_n hx hb dX8_coins_47 rfl (lv_at hl 0 rfl) ?_
    refine va_get (D := D) (v := .ref q4) (C := RX8) (T := TX8) (N := 11) hx hb hts iX8 hown hK.1 hP 0 rfl rfl 5 (by decide) (hts _ t_305) (fun _ h9 => h9) rfl dX8_coins_48 ?_
    refine va_get (D := D) (v := .int 0) (C := RX5) (T := TX5) (N := 8) hx hb hts iX5 hown hK.1 hP 1 rfl rfl 3 (by decide) (hts _ t_167) (fun _ h9 => h9) rfl dX8_coins_51 ?_
    exact retRi C rfl (Or.inr (Or.inr (Or.inl ⟨h4600, rfl⟩))) dX8_coins_54
  refine lv_tableOut (tgt := 55) hx hb dX8_coins_1 (by have := lv_neT c4597_0 (show (0 : Int32).toInt = 0 by decide); have := lv_neT c4597_1 (show (1 : Int32).toInt = 1 by decide); have := lv_neT c4597_2 (show (2 : Int32).toInt = 2 by decide); omega) (by decide) ?_
  have h4601 : x1.toInt ≠ 0 := bI_neq rfl (by decide) c4597_0
  have h4602 : x1.toInt ≠ 1 := bI_neq rfl (by decide) c4597_1
  have h4603 : x1.toInt ≠ 2 := bI_neq rfl (by decide) c4597_2
  refine lv_ldc hx hb hown (hts _ t_640) dX8_coins_55 ?_
  exact retRi C rfl (Or.inr (Or.inr (Or.inr (⟨h4601, h4602, h4603, rfl⟩)))) dX8_coins_57

set_option maxHeartbeats 4000000 in
set_option maxRecDepth 100000 in
theorem c_X9_in_5 (l : Launch) (D : va_G) (a : Nat → ClassId) (x1 : Int32) : CRi l MX9_in 0 0 D a [.long x1.toInt64, .long 0, .long 2] [] (fun r => (x1.toInt < 0 ∧ r = 0) ∨ (x1.toInt ≥ 0 ∧ x1.toInt > 2 ∧ r = 0) ∨ (x1.toInt ≥ 0 ∧ x1.toInt ≤ 2 ∧ r = 1)) := by
  refine entR (by decide) (Nat.le_of_ble_eq_true rfl) ?_
  intro p e s m below meth c C hK hP ls hl
  obtain ⟨hx, hb, hml, hown, hts, hr, hlocks, hnm⟩ := id C
  have hb : c.code = cX9_in := hb
  have hown : s.vm.findClass RX9 = some m.cls := hown
  have hl : lv_has ls 6 [(0, .long x1.toInt64), (2, .long 0), (4, .long 2)] := hl
  refine lv_lload_n hx hb dX9_in_0 rfl (lv_at hl 0 rfl) ?_
  refine lv_lload_n hx hb dX9_in_1 rfl (lv_at hl 1 rfl) ?_
  refine W.lcmp hx hb dX9_in_2 ?_
  refine lv_if_lt (tgt := 17) hx hb dX9_in_3 (by decide) (fun c4620 => ?_) (fun c4620 => ?_)
  · have h4621 : x1.toInt < 0 := cI_lt (Int32.toInt_toInt64 x1) (by decide) c4620
    refine lv_iconst (v := 0) hx hb dX9_in_17 (by decide) ?_
    exact retRz C rfl (by decide) (Or.inl ⟨h4621, rfl⟩) dX9_in_18
  · have h4622 : x1.toInt ≥ 0 := cI_nlt (Int32.toInt_toInt64 x1) (by decide) c4620
    refine lv_lload_n hx hb dX9_in_6 rfl (lv_at hl 0 rfl) ?_
    refine lv_lload hx hb dX9_in_7 (lv_at hl 2 rfl) ?_
    refine W.lcmp hx hb dX9_in_9 ?_
    refine lv_if_gt (tgt := 17) hx hb dX9_in_10 (by decide) (fun c4623 => ?_) (fun c4623 => ?_)
    · have h4624 : x1.toInt > 2 := cI_gt (Int32.toInt_toInt64 x1) (by decide) c4623
      refine lv_iconst (v := 0) hx hb dX9_in_17 (by decide) ?_
      exact retRz C rfl (by decide) (Or.inr (Or.inl ⟨h4622, h4624, rfl⟩)) dX9_in_18
    · have h4625 : x1.toInt ≤ 2 := cI_ngt (Int32.toInt_toInt64 x1) (by decide) c4623
      refine lv_iconst (v := 1) hx hb dX9_in_13 (by decide) ?_
      refine lv_goto (tgt := 18) hx hb dX9_in_14 (by decide) ?_
      exact retRz C rfl (by decide) (Or.inr (Or.inr (⟨h4622, h4625, rfl⟩))) dX9_in_18

set_option maxHeartbeats 4000000 in
set_option maxRecDepth 100000 in
theorem c_X9_coins_0 (l : Launch) (D : va_G) (a : Nat → ClassId) (q1 q2 q3 q4 q5 q6 q7 q8 q9 q10 q11 q12 q13 q14 q15 q16 q17 q18 q19 q20 q21 q22 q23 : Nat) (x1 : Int32) : CRi l MX9_coins 1 25 D a [.ref q1, .int x1] [(q1, .inr (9, [.ref q2, .int 0, .int 0, .ref q3, .ref q4, .ref q5, .ref q6, .int 0, .int 0, .int 0, .ref q7, .ref q8, .int 0, .int 0, .int 0, .int 0, .int 0, .int 0, .int 0, .ref q9, .int 0, .ref q10, .int 0, .ref q11, .ref q12, .ref q13, .ref q14, .ref q15, .ref q16, .ref q17, .ref q18, .ref q19, .ref q20, .ref q21, .ref q22, .ref q23])), (q12, .inl (a 0, 104, .inl (fun _ => 0)))] (fun r => (x1.toInt < 0 ∧ r = (-1000000)) ∨ (x1.toInt ≥ 0 ∧ x1.toInt > 2 ∧ r = (-1000000)) ∨ (x1.toInt ≥ 0 ∧ x1.toInt ≤ 2 ∧ r = 0)) := by
  refine entR (by decide) (Nat.le_of_ble_eq_true rfl) ?_
  intro p e s m below meth c C hK hP ls hl
  obtain ⟨hx, hb, hml, hown, hts, hr, hlocks, hnm⟩ := id C
  have hb : c.code = cX9_coins := hb
  have hown : s.vm.findClass RX9 = some m.cls := hown
  have hl : lv_has ls 2 [(0, .ref q1), (1, .int x1)] := hl
  refine lv_iload_n hx hb dX9_coins_0 rfl (lv_at hl 1 rfl) ?_
  refine lv_i2l (v := x1.toInt64) hx hb dX9_coins_1 rfl ?_
  refine lv_lconst (v := 0) hx hb dX9_coins_2 (by decide) ?_
  refine lv_ldc2 hx hb hown (hts _ t_1148) dX9_coins_3 ?_
  refine aftRi (runS (As := [.long x1.toInt64, .long 0, .long 2]) (rest := []) C (c_X9_in_5 l D a x1) lk_S_9_118 (okN_X9_in) ⟨Nat.le_of_ble_eq_true rfl, Nat.le_of_ble_eq_true rfl⟩ ⟨rfl, rfl⟩ (preR hK (P_of_map (wc := []) hP [] rfl)) hl.1 rfl (Nat.le_of_ble_eq_true rfl) dX9_coins_6 ⟨Nat.le_of_ble_eq_true rfl, Nat.le_of_ble_eq_true rfl⟩) (fun x4640 hw => ?_)
  rcases hw with ⟨h4643, rfl⟩ | ⟨h4644, h4645, rfl⟩ | ⟨h4646, h4647, rfl⟩
  · refine lv_if_eq (tgt := 23) hx hb dX9_coins_9 (by decide) (fun c9 => ?_) (fun c9 => absurd (by decide) c9)
    refine lv_ldcw hx hb hown (hts _ t_1199) dX9_coins_23 ?_
    exact retRi C rfl (Or.inl ⟨h4643, rfl⟩) dX9_coins_26
  · refine lv_if_eq (tgt := 23) hx hb dX9_coins_9 (by decide) (fun c9 => ?_) (fun c9 => absurd (by decide) c9)
    refine lv_ldcw hx hb hown (hts _ t_1199) dX9_coins_23 ?_
    exact retRi C rfl (Or.inr (Or.inl ⟨h4644, h4645, rfl⟩)) dX9_coins_26
  · refine lv_if_eq (tgt := 23) hx hb dX9_coins_9 (by decide) (fun c9 => absurd c9 (by decide)) (fun c9 => ?_)
    refine lv_aload_n hx hb dX9_coins_12 rfl (lv_at hl 0 rfl) ?_
    refine va_get (D := D) (v := .ref q12) (C := RX9) (T := TX9) (N := 36) hx hb hts iX9 hown hK.1 hP 0 rfl rfl 24 (by decide) (hts _ t_906) (fun _ h9 => h9) rfl dX9_coins_13 ?_
    refine lv_iconst (v := 4) hx hb dX9_coins_16 (by decide) ?_
    refine lv_iload_n hx hb dX9_coins_17 rfl (lv_at hl 1 rfl) ?_
    refine lv_iadd hx hb dX9_coins_18 ?_
    refine ald_i hx hb hK.1 hP 1 0 rfl rfl ((4 + x1).toNatClampNeg) (ix_add (a := 4) (b := x1.toInt) (by decide) rfl (by omega) (by omega) (by decide)) dX9_coins_19 ?_
    refine lv_goto (tgt := 26) hx hb dX9_coins_20 (by decide) ?_
    exact retRi C rfl (Or.inr (Or.inr (⟨h4646, h4647, rfl⟩))) dX9_coins_26

set_option maxHeartbeats 4000000 in
set_option maxRecDepth 100000 in
theorem c_X8_back_0 (l : Launch) (D : va_G) (a : Nat → ClassId) (q1 q2 q3 q4 q5 q6 q7 q8 q9 : Nat) (x1 : Int32) : CRi l MX8_back 0 0 D a [.ref q1, .int x1] [(q1, .inr (8, [.ref q2, .int 0, .ref q3, .int 0, .int 0, .ref q4, .ref q5, .ref q6, .ref q7, .ref q8, .ref q9])), (q5, .inl (a 5, 4, .inr (.inr (.inr (.inr (fun _ => none))))))] (fun r => (x1.toInt < 0 ∧ r = (-1)) ∨ (x1.toInt ≥ 0 ∧ x1.toInt < 4 ∧ r = (-1)) ∨ (x1.toInt ≥ 0 ∧ x1.toInt ≥ 4 ∧ r = (-1))) := by
  refine entR (by decide) (Nat.le_of_ble_eq_true rfl) ?_
  intro p e s m below meth c C hK hP ls hl
  obtain ⟨hx, hb, hml, hown, hts, hr, hlocks, hnm⟩ := id C
  have hb : c.code = cX8_back := hb
  have hown : s.vm.findClass RX8 = some m.cls := hown
  have hl : lv_has ls 3 [(0, .ref q1), (1, .int x1)] := hl
  refine lv_iload_n hx hb dX8_back_0 rfl (lv_at hl 1 rfl) ?_
  refine lv_if_lt (tgt := 13) hx hb dX8_back_1 (by decide) (fun c4853 => ?_) (fun c4853 => ?_)
  · have h4854 : x1.toInt < 0 := bI_lt rfl (by decide) c4853
    refine lv_iconst (v := (-1)) hx hb dX8_back_13 (by decide) ?_
    exact retRi C rfl (Or.inl ⟨h4854, rfl⟩) dX8_back_14
  · have h4855 : x1.toInt ≥ 0 := bI_nlt rfl (by decide) c4853
    refine lv_iload_n hx hb dX8_back_4 rfl (lv_at hl 1 rfl) ?_
    refine lv_aload_n hx hb dX8_back_5 rfl (lv_at hl 0 rfl) ?_
    refine va_get (D := D) (v := .ref q5) (C := RX8) (T := TX8) (N := 11) hx hb hts iX8 hown hK.1 hP 0 rfl rfl 6 (by decide) (hts _ t_306) (fun _ h9 => h9) rfl dX8_back_6 ?_
    refine va_alen (v := 4) hx hb hK.1 hP 1 5 rfl rfl rfl dX8_back_9 ?_
    refine lv_icmp_lt (tgt := 15) hx hb dX8_back_10 (by decide) (fun c4856 => ?_) (fun c4856 => ?_)
    · have h4857 : x1.toInt < 4 := bI_lt rfl (by decide) c4856
      refine lv_aload_n hx hb dX8_back_15 rfl (lv_at hl 0 rfl) ?_
      refine va_get (D := D) (v := .ref q5) (C := RX8) (T := TX8) (N := 11) hx hb hts iX8 hown hK.1 hP 0 rfl rfl 6 (by decide) (hts _ t_306) (fun _ h9 => h9) rfl dX8_back_16 ?_
      refine lv_iload_n hx hb dX8_back_19 rfl (lv_at hl 1 rfl) ?_
      refine ald_q hx hb hK.1 hP 1 5 rfl rfl x1.toNatClampNeg (ix_of (by omega) (by omega)) dX8_back_20 ?_
      refine lv_astore_nN (lv' := [(2, .null), (0, .ref q1), (1, .int x1)]) hx hb dX8_back_21 rfl hl (by decide) rfl (fun ls hl => ?_)
      refine lv_aload_nN hx hb dX8_back_22 rfl (lv_at hl 0 rfl) ?_
      refine lv_ifnonnullN hx hb dX8_back_23 ?_
      refine lv_iconst (v := (-1)) hx hb dX8_back_26 (by decide) ?_
      exact retRi C rfl (Or.inr (Or.inl ⟨h4855, h4857, rfl⟩)) dX8_back_27
    · have h4858 : x1.toInt ≥ 4 := bI_nlt rfl (by decide) c4856
      refine lv_iconst (v := (-1)) hx hb dX8_back_13 (by decide) ?_
      exact retRi C rfl (Or.inr (Or.inr (⟨h4855, h4858, rfl⟩))) dX8_back_14

set_option maxHeartbeats 4000000 in
set_option maxRecDepth 100000 in
theorem c_X9_back_0 (l : Launch) (D : va_G) (a : Nat → ClassId) (q1 q2 q3 q4 q5 q6 q7 q8 q9 q10 q11 q12 q13 q14 q15 q16 q17 q18 q19 q20 q21 q22 q23 : Nat) (x1 : Int32) : CRi l MX9_back 1 25 D a [.ref q1, .int x1] [(q1, .inr (9, [.ref q2, .int 0, .int 0, .ref q3, .ref q4, .ref q5, .ref q6, .int 0, .int 0, .int 0, .ref q7, .ref q8, .int 0, .int 0, .int 0, .int 0, .int 0, .int 0, .int 0, .ref q9, .int 0, .ref q10, .int 0, .ref q11, .ref q12, .ref q13, .ref q14, .ref q15, .ref q16, .ref q17, .ref q18, .ref q19, .ref q20, .ref q21, .ref q22, .ref q23])), (q23, .inl (a 3, 4, .inl (fun _ => 0)))] (fun r => (x1.toInt < 0 ∧ r = (-1)) ∨ (x1.toInt ≥ 0 ∧ x1.toInt > 3 ∧ r = (-1)) ∨ (x1.toInt ≥ 0 ∧ x1.toInt ≤ 3 ∧ r = (-1))) := by
  refine entR (by decide) (Nat.le_of_ble_eq_true rfl) ?_
  intro p e s m below meth c C hK hP ls hl
  obtain ⟨hx, hb, hml, hown, hts, hr, hlocks, hnm⟩ := id C
  have hb : c.code = cX9_back := hb
  have hown : s.vm.findClass RX9 = some m.cls := hown
  have hl : lv_has ls 3 [(0, .ref q1), (1, .int x1)] := hl
  refine lv_iload_n hx hb dX9_back_0 rfl (lv_at hl 1 rfl) ?_
  refine lv_i2l (v := x1.toInt64) hx hb dX9_back_1 rfl ?_
  refine lv_lconst (v := 0) hx hb dX9_back_2 (by decide) ?_
  refine lv_ldc2 hx hb hown (hts _ t_1399) dX9_back_3 ?_
  refine aftRi (runS (As := [.long x1.toInt64, .long 0, .long 3]) (rest := []) C (c_X9_in_6 l D a x1) lk_S_9_118 (okN_X9_in) ⟨Nat.le_of_ble_eq_true rfl, Nat.le_of_ble_eq_true rfl⟩ ⟨rfl, rfl⟩ (preR hK (P_of_map (wc := []) hP [] rfl)) hl.1 rfl (Nat.le_of_ble_eq_true rfl) dX9_back_6 ⟨Nat.le_of_ble_eq_true rfl, Nat.le_of_ble_eq_true rfl⟩) (fun x4888 hw => ?_)
  rcases hw with ⟨h4891, rfl⟩ | ⟨h4892, h4893, rfl⟩ | ⟨h4894, h4895, rfl⟩
  · refine lv_if_eq (tgt := 21) hx hb dX9_back_9 (by decide) (fun c9 => ?_) (fun c9 => absurd (by decide) c9)
    refine lv_iconst (v := (-1)) hx hb dX9_back_21 (by decide) ?_
    exact retRi C rfl (Or.inl ⟨h4891, rfl⟩) dX9_back_22
  · refine lv_if_eq (tgt := 21) hx hb dX9_back_9 (by decide) (fun c9 => ?_) (fun c9 => absurd (by decide) c9)
    refine lv_iconst (v := (-1)) hx hb dX9_back_21 (by decide) ?_
    exact retRi C rfl (Or.inr (Or.inl ⟨h4892, h4893, rfl⟩)) dX9_back_22
  · refine lv_if_eq (tgt := 21) hx hb dX9_back_9 (by decide) (fun c9 => absurd c9 (by decide)) (fun c9 => ?_)
    refine lv_aload_n hx hb dX9_back_12 rfl (lv_at hl 0 rfl) ?_
    refine va_get (D := D) (v := .ref q23) (C := RX9) (T := TX9) (N := 36) hx hb hts iX9 hown hK.1 hP 0 rfl rfl 35 (by decide) (hts _ t_917) (fun _ h9 => h9) rfl dX9_back_13 ?_
    refine lv_iload_n hx hb dX9_back_16 rfl (lv_at hl 1 rfl) ?_
    refine ald_z hx hb hK.1 hP 1 3 rfl rfl x1.toNatClampNeg (ix_of (by omega) (by omega)) dX9_back_17 ?_
    refine lv_if_ne (tgt := 23) hx hb dX9_back_18 (by decide) (fun c9 => absurd (by decide) c9) (fun c9 => ?_)
    refine lv_iconst (v := (-1)) hx hb dX9_back_21 (by decide) ?_
    exact retRi C rfl (Or.inr (Or.inr (⟨h4894, h4895, rfl⟩))) dX9_back_22

set_option maxHeartbeats 4000000 in
set_option maxRecDepth 100000 in
theorem c_X8_row_0 (l : Launch) (D : va_G) (a : Nat → ClassId) (q1 q2 q3 q4 q5 q6 q7 q8 q9 q10 q11 q12 q13 q14 q15 q16 q17 q18 q19 q20 q21 q22 q23 q24 q25 : Nat) (x1 : Int32) (sz : Nat) : CMi (S := SS) l MX8_row 1 21 0 0 D a [.ref q1, .int x1] [(q1, .inr (8, [.ref q2, .int 0, .ref q3, .int 0, .int 0, .ref q4, .ref q5, .ref q6, .ref q7, .ref q8, .ref q9])), (q10, .inr (7, [.int 0, .int 0, .int 0, .int 0, .int 0, .ref q11, .ref q12, .ref q13, .ref q14, .ref q15, .ref q16, .ref q17, .ref q18, .ref q19, .ref q20, .ref q21, .ref q22, .int 0])), (q4, .inr (5, [.ref q10, .ref q23, .int 0, .int 0, .int 0, .ref q24, .int 0, .ref q25]))] sz (fun r u => (u = (0, [], [], [], [], []) ∧ x1.toInt ≠ -1 ∧ x1.toInt < 0 ∧ r = (-2)) ∨ (u = (1, [], [], [], [], []) ∧ x1.toInt ≠ -1 ∧ x1.toInt ≥ 0 ∧ x1.toInt ≥ 0 ∧ r = (-2)) ∨ (u = (2, [], [], [], [], []) ∧ x1.toInt = -1 ∧ r = 0)) (fun u => pk [[(q1, .inr (8, [.ref q2, .int 0, .ref q3, .int 0, .int 0, .ref q4, .ref q5, .ref q6, .ref q7, .ref q8, .ref q9])), (q10, .inr (7, [.int 0, .int 0, .int 0, .int 0, .int 0, .ref q11, .ref q12, .ref q13, .ref q14, .ref q15, .ref q16, .ref q17, .ref q18, .ref q19, .ref q20, .ref q21, .ref q22, .int 0])), (q4, .inr (5, [.ref q10, .ref q23, .int 0, .int 0, .int 0, .ref q24, .int 0, .ref q25]))], [(q1, .inr (8, [.ref q2, .int 0, .ref q3, .int 0, .int 0, .ref q4, .ref q5, .ref q6, .ref q7, .ref q8, .ref q9])), (q10, .inr (7, [.int 0, .int 0, .int 0, .int 0, .int 0, .ref q11, .ref q12, .ref q13, .ref q14, .ref q15, .ref q16, .ref q17, .ref q18, .ref q19, .ref q20, .ref q21, .ref q22, .int 0])), (q4, .inr (5, [.ref q10, .ref q23, .int 0, .int 0, .int 0, .ref q24, .int 0, .ref q25]))], [(q1, .inr (8, [.ref q2, .int 0, .ref q3, .int 0, .int 0, .ref q4, .ref q5, .ref q6, .ref q7, .ref q8, .ref q9])), (q10, .inr (7, [.int 0, .int 0, .int 0, .int 0, .int 0, .ref q11, .ref q12, .ref q13, .ref q14, .ref q15, .ref q16, .ref q17, .ref q18, .ref q19, .ref q20, .ref q21, .ref q22, .int 0])), (q4, .inr (5, [.ref q10, .ref q23, .int 0, .int 0, .int 0, .ref q24, .int 0, .ref q25]))]] u.1) := by
  refine entMi (by decide) (Nat.le_of_ble_eq_true rfl) ?_
  intro p e s m below meth c C hK A hA hP hD ls hl
  obtain ⟨hx, hb, hml, hown, hts, hr, hlocks, hnm⟩ := id C
  have hb : c.code = cX8_row := hb
  have hown : s.vm.findClass RX8 = some m.cls := hown
  have hS : va_S A s.heap s.heap [] := va_S.rf
  have hl : lv_has ls 2 [(0, .ref q1), (1, .int x1)] := hl
  refine lv_iload_n hx hb dX8_row_0 rfl (lv_at hl 1 rfl) ?_
  refine lv_iconst (v := (-1)) hx hb dX8_row_1 (by decide) ?_
  refine lv_icmp_ne (tgt := 15) hx hb dX8_row_2 (by decide) (fun c2789 => ?_) (fun c2789 => ?_)
  · have h2790 : x1.toInt ≠ -1 := bI_ne rfl (by decide) c2789
    refine lv_aload_n hx hb dX8_row_15 rfl (lv_at hl 0 rfl) ?_
    refine lv_iload_n hx hb dX8_row_16 rfl (lv_at hl 1 rfl) ?_
    refine aftRi (runV (As := [.int x1]) (rest := []) C (c_X8_isFault_0 l D a q1 q2 q3 q4 q5 q6 q7 q8 q9 q10 q11 q12 q13 q14 q15 q16 q17 q18 q19 q20 q21 q22 q23 q24 q25 x1) lk_V_8_139 (okN_X8_isFault) ⟨Nat.le_of_ble_eq_true rfl, Nat.le_of_ble_eq_true rfl⟩ ⟨rfl, rfl⟩ (preV (preR hK (P_of_map (wc := [(q1, .inr (8, [.ref q2, .int 0, .ref q3, .int 0, .int 0, .ref q4, .ref q5, .ref q6, .ref q7, .ref q8, .ref q9])), (q10, .inr (7, [.int 0, .int 0, .int 0, .int 0, .int 0, .ref q11, .ref q12, .ref q13, .ref q14, .ref q15, .ref q16, .ref q17, .ref q18, .ref q19, .ref q20, .ref q21, .ref q22, .int 0])), (q4, .inr (5, [.ref q10, .ref q23, .int 0, .int 0, .int 0, .ref q24, .int 0, .ref q25]))]) hP [0, 1, 2] rfl)) (recvOf hK hP 0 rfl (ci := 8) rfl)) hl.1 rfl (Nat.le_of_ble_eq_true rfl) dX8_row_17 ⟨Nat.le_of_ble_eq_true rfl, Nat.le_of_ble_eq_true rfl⟩) (fun x2791 hw => ?_)
    rcases hw with ⟨h2794, rfl⟩ | ⟨h2795, h2796, rfl⟩
    · refine lv_if_eq (tgt := 35) hx hb dX8_row_20 (by decide) (fun c9 => ?_) (fun c9 => absurd (by decide) c9)
      refine lv_bipush (v := (-2)) hx hb dX8_row_35 (by decide) ?_
      exact retMi C rfl (0, [], [], [], [], []) (Or.inl ⟨rfl, h2790, h2794, rfl⟩) hP hD hS (Nat.le_of_ble_eq_true rfl) (Nat.le_of_ble_eq_true rfl) dX8_row_37
    · refine lv_if_eq (tgt := 35) hx hb dX8_row_20 (by decide) (fun c9 => ?_) (fun c9 => absurd (by decide) c9)
      refine lv_bipush (v := (-2)) hx hb dX8_row_35 (by decide) ?_
      exact retMi C rfl (1, [], [], [], [], []) (Or.inr (Or.inl ⟨rfl, h2790, h2795, h2796, rfl⟩)) hP hD hS (Nat.le_of_ble_eq_true rfl) (Nat.le_of_ble_eq_true rfl) dX8_row_37
  · have h2797 : x1.toInt = -1 := bI_nne rfl (by decide) c2789
    refine lv_aload_n hx hb dX8_row_5 rfl (lv_at hl 0 rfl) ?_
    refine va_get (D := D) (v := .ref q4) (C := RX8) (T := TX8) (N := 11) hx hb hts iX8 hown hK.1 hP 0 rfl rfl 5 (by decide) (hts _ t_305) (fun _ h9 => h9) rfl dX8_row_6 ?_
    refine lv_iconst (v := 0) hx hb dX8_row_9 (by decide) ?_
    refine va_put (D := D) (v := .int 0) (C := RX5) (T := TX5) (N := 8) hx hb hts iX5 tyX5 tyX5_ok nmX5 hown hK.1 hP hD hS 2 rfl rfl 6 (by decide) (hts _ t_173) (fun _ h9 => h9) rfl (tyX5_ok 6 (by decide)) rfl rfl (Nat.le_of_ble_eq_true rfl) dX8_row_10 (fun H locs hP hD hS => ?_)
    have hP : va_P D classes [(q1, .inr (8, [.ref q2, .int 0, .ref q3, .int 0, .int 0, .ref q4, .ref q5, .ref q6, .ref q7, .ref q8, .ref q9])), (q10, .inr (7, [.int 0, .int 0, .int 0, .int 0, .int 0, .ref q11, .ref q12, .ref q13, .ref q14, .ref q15, .ref q16, .ref q17, .ref q18, .ref q19, .ref q20, .ref q21, .ref q22, .int 0])), (q4, .inr (5, [.ref q10, .ref q23, .int 0, .int 0, .int 0, .ref q24, .int 0, .ref q25]))] H := hP
    have hD : va_D A [(q1, .inr (8, [.ref q2, .int 0, .ref q3, .int 0, .int 0, .ref q4, .ref q5, .ref q6, .ref q7, .ref q8, .ref q9])), (q10, .inr (7, [.int 0, .int 0, .int 0, .int 0, .int 0, .ref q11, .ref q12, .ref q13, .ref q14, .ref q15, .ref q16, .ref q17, .ref q18, .ref q19, .ref q20, .ref q21, .ref q22, .int 0])), (q4, .inr (5, [.ref q10, .ref q23, .int 0, .int 0, .int 0, .ref q24, .int 0, .ref q25]))] := hD
    refine lv_iconst (v := 0) hx hb dX8_row_13 (by decide) ?_
    exact retMi C rfl (2, [], [], [], [], []) (Or.inr (Or.inr (⟨rfl, h2797, rfl⟩))) hP hD hS (Nat.le_of_ble_eq_true rfl) (Nat.le_of_ble_eq_true rfl) dX8_row_14

set_option maxHeartbeats 4000000 in
set_option maxRecDepth 100000 in
theorem c_X9_row_0 (l : Launch) (D : va_G) (a : Nat → ClassId) (q1 q2 q3 q4 q5 q6 q7 q8 q9 q10 q11 q12 q13 q14 q15 q16 q17 q18 q19 q20 q21 q22 q23 : Nat) (x1 : Int32) (sz : Nat) : CMi (S := SS) l MX9_row 1 21 0 0 D a [.ref q1, .int x1] [(q1, .inr (9, [.ref q2, .int 0, .int 0, .ref q3, .ref q4, .ref q5, .ref q6, .int 0, .int 0, .int 0, .ref q7, .ref q8, .int 0, .int 0, .int 0, .int 0, .int 0, .int 0, .int 0, .ref q9, .int 0, .ref q10, .int 0, .ref q11, .ref q12, .ref q13, .ref q14, .ref q15, .ref q16, .ref q17, .ref q18, .ref q19, .ref q20, .ref q21, .ref q22, .ref q23])), (q12, .inl (a 0, 104, .inl (fun _ => 0)))] sz (fun r u => (u = (0, [], [], [], [], []) ∧ x1.toInt ≠ -1 ∧ x1.toInt < 0 ∧ r = (-2)) ∨ (u = (1, [], [], [], [], []) ∧ x1.toInt ≠ -1 ∧ x1.toInt ≥ 0 ∧ x1.toInt ≥ 0 ∧ r = (-2)) ∨ (u = (2, [], [], [], [], []) ∧ x1.toInt = -1 ∧ r = 0)) (fun u => pk [[(q1, .inr (9, [.ref q2, .int 0, .int 0, .ref q3, .ref q4, .ref q5, .ref q6, .int 0, .int 0, .int 0, .ref q7, .ref q8, .int 0, .int 0, .int 0, .int 0, .int 0, .int 0, .int 0, .ref q9, .int 0, .ref q10, .int 0, .ref q11, .ref q12, .ref q13, .ref q14, .ref q15, .ref q16, .ref q17, .ref q18, .ref q19, .ref q20, .ref q21, .ref q22, .ref q23])), (q12, .inl (a 0, 104, .inl (fun _ => 0)))], [(q1, .inr (9, [.ref q2, .int 0, .int 0, .ref q3, .ref q4, .ref q5, .ref q6, .int 0, .int 0, .int 0, .ref q7, .ref q8, .int 0, .int 0, .int 0, .int 0, .int 0, .int 0, .int 0, .ref q9, .int 0, .ref q10, .int 0, .ref q11, .ref q12, .ref q13, .ref q14, .ref q15, .ref q16, .ref q17, .ref q18, .ref q19, .ref q20, .ref q21, .ref q22, .ref q23])), (q12, .inl (a 0, 104, .inl (fun _ => 0)))], [(q1, .inr (9, [.ref q2, .int 0, .int 0, .ref q3, .ref q4, .ref q5, .ref q6, .int 0, .int 0, .int 0, .ref q7, .ref q8, .int 0, .int 0, .int 0, .int 0, .int 0, .int 0, .int 0, .ref q9, .int 0, .ref q10, .int 0, .ref q11, .ref q12, .ref q13, .ref q14, .ref q15, .ref q16, .ref q17, .ref q18, .ref q19, .ref q20, .ref q21, .ref q22, .ref q23])), (q12, .inl (a 0, 104, .inl (upd (fun _ => 0) 8 0)))]] u.1) := by
  refine entMi (by decide) (Nat.le_of_ble_eq_true rfl) ?_
  intro p e s m below meth c C hK A hA hP hD ls hl
  obtain ⟨hx, hb, hml, hown, hts, hr, hlocks, hnm⟩ := id C
  have hb : c.code = cX9_row := hb
  have hown : s.vm.findClass RX9 = some m.cls := hown
  have hS : va_S A s.heap s.heap [] := va_S.rf
  have hl : lv_has ls 2 [(0, .ref q1), (1, .int x1)] := hl
  refine lv_iload_n hx hb dX9_row_0 rfl (lv_at hl 1 rfl) ?_
  refine lv_iconst (v := (-1)) hx hb dX9_row_1 (by decide) ?_
  refine lv_icmp_ne (tgt := 15) hx hb dX9_row_2 (by decide) (fun c2823 => ?_) (fun c2823 => ?_)
  · have h2824 : x1.toInt ≠ -1 := bI_ne rfl (by decide) c2823
    refine lv_aload_n hx hb dX9_row_15 rfl (lv_at hl 0 rfl) ?_
    refine lv_iload_n hx hb dX9_row_16 rfl (lv_at hl 1 rfl) ?_
    refine aftRi (runV (As := [.int x1]) (rest := []) C (c_X9_isFault_0 l D a q1 q2 q3 q4 q5 q6 q7 q8 q9 q10 q11 q12 q13 q14 q15 q16 q17 q18 q19 q20 q21 q22 q23 x1) lk_V_9_280 (okN_X9_isFault) ⟨Nat.le_of_ble_eq_true rfl, Nat.le_of_ble_eq_true rfl⟩ ⟨rfl, rfl⟩ (preV (preR hK (P_of_map (wc := [(q1, .inr (9, [.ref q2, .int 0, .int 0, .ref q3, .ref q4, .ref q5, .ref q6, .int 0, .int 0, .int 0, .ref q7, .ref q8, .int 0, .int 0, .int 0, .int 0, .int 0, .int 0, .int 0, .ref q9, .int 0, .ref q10, .int 0, .ref q11, .ref q12, .ref q13, .ref q14, .ref q15, .ref q16, .ref q17, .ref q18, .ref q19, .ref q20, .ref q21, .ref q22, .ref q23])), (q12, .inl (a 0, 104, .inl (fun _ => 0)))]) hP [0, 1] rfl)) (recvOf hK hP 0 rfl (ci := 9) rfl)) hl.1 rfl (Nat.le_of_ble_eq_true rfl) dX9_row_17 ⟨Nat.le_of_ble_eq_true rfl, Nat.le_of_ble_eq_true rfl⟩) (fun x2825 hw => ?_)
    rcases hw with ⟨h2828, rfl⟩ | ⟨h2829, h2830, rfl⟩
    · refine lv_if_eq (tgt := 35) hx hb dX9_row_20 (by decide) (fun c9 => ?_) (fun c9 => absurd (by decide) c9)
      refine lv_bipush (v := (-2)) hx hb dX9_row_35 (by decide) ?_
      exact retMi C rfl (0, [], [], [], [], []) (Or.inl ⟨rfl, h2824, h2828, rfl⟩) hP hD hS (Nat.le_of_ble_eq_true rfl) (Nat.le_of_ble_eq_true rfl) dX9_row_37
    · refine lv_if_eq (tgt := 35) hx hb dX9_row_20 (by decide) (fun c9 => ?_) (fun c9 => absurd (by decide) c9)
      refine lv_bipush (v := (-2)) hx hb dX9_row_35 (by decide) ?_
      exact retMi C rfl (1, [], [], [], [], []) (Or.inr (Or.inl ⟨rfl, h2824, h2829, h2830, rfl⟩)) hP hD hS (Nat.le_of_ble_eq_true rfl) (Nat.le_of_ble_eq_true rfl) dX9_row_37
  · have h2831 : x1.toInt = -1 := bI_nne rfl (by decide) c2823
    refine lv_aload_n hx hb dX9_row_5 rfl (lv_at hl 0 rfl) ?_
    refine va_get (D := D) (v := .ref q12) (C := RX9) (T := TX9) (N := 36) hx hb hts iX9 hown hK.1 hP 0 rfl rfl 24 (by decide) (hts _ t_906) (fun _ h9 => h9) rfl dX9_row_6 ?_
    refine lv_bipush (v := 8) hx hb dX9_row_9 (by decide) ?_
    refine lv_iconst (v := 0) hx hb dX9_row_11 (by decide) ?_
    refine ast_i hx hb hK.1 hP hD hS 1 0 rfl rfl 8 (ix_lit (by decide)) dX9_row_12 (fun H locs hP hD hS => ?_)
    have hP : va_P D classes [(q1, .inr (9, [.ref q2, .int 0, .int 0, .ref q3, .ref q4, .ref q5, .ref q6, .int 0, .int 0, .int 0, .ref q7, .ref q8, .int 0, .int 0, .int 0, .int 0, .int 0, .int 0, .int 0, .ref q9, .int 0, .ref q10, .int 0, .ref q11, .ref q12, .ref q13, .ref q14, .ref q15, .ref q16, .ref q17, .ref q18, .ref q19, .ref q20, .ref q21, .ref q22, .ref q23])), (q12, .inl (a 0, 104, .inl (upd (fun _ => 0) 8 0)))] H := hP
    have hD : va_D A [(q1, .inr (9, [.ref q2, .int 0, .int 0, .ref q3, .ref q4, .ref q5, .ref q6, .int 0, .int 0, .int 0, .ref q7, .ref q8, .int 0, .int 0, .int 0, .int 0, .int 0, .int 0, .int 0, .ref q9, .int 0, .ref q10, .int 0, .ref q11, .ref q12, .ref q13, .ref q14, .ref q15, .ref q16, .ref q17, .ref q18, .ref q19, .ref q20, .ref q21, .ref q22, .ref q23])), (q12, .inl (a 0, 104, .inl (upd (fun _ => 0) 8 0)))] := hD
    refine lv_iconst (v := 0) hx hb dX9_row_13 (by decide) ?_
    exact retMi C rfl (2, [], [], [], [], []) (Or.inr (Or.inr (⟨rfl, h2831, rfl⟩))) hP hD hS (Nat.le_of_ble_eq_true rfl) (Nat.le_of_ble_eq_true rfl) dX9_row_14

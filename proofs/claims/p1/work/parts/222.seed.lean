set_option maxHeartbeats 4000000 in
set_option maxRecDepth 100000 in
theorem c_X8_seed_0 (l : Launch) (D : va_G) (a : Nat → ClassId) (q1 q2 q3 q4 q5 q6 q7 q8 q9 q10 q11 q12 q13 q14 : Nat) (x1 : Int32) (sz : Nat) : CMi (S := SS) l MX8_seed 0 0 0 0 D a [.ref q1, .int x1] [(q1, .inr (8, [.ref q2, .int 0, .ref q3, .int 0, .int 0, .ref q4, .ref q5, .ref q6, .ref q7, .ref q8, .ref q9])), (q4, .inr (5, [.ref q10, .ref q11, .int 0, .int 0, .int 0, .ref q12, .int 0, .ref q13])), (q11, .inr (0, [.int 0, .int 0, .int 0, .int 0, .int 0, .ref q14]))] sz (fun r u => (u = (0, [], [], [], [], []) ∧ x1.toInt ≥ 0 ∧ r = 0) ∨ (u = (1, [], [], [], [], []) ∧ x1.toInt < 0 ∧ r = (-1))) (fun u => pk [[(q1, .inr (8, [.ref q2, .int 0, .ref q3, .int 0, .int 0, .ref q4, .ref q5, .ref q6, .ref q7, .ref q8, .ref q9])), (q4, .inr (5, [.ref q10, .ref q11, .int 0, .int 0, .int 0, .ref q12, .int 0, .ref q13])), (q11, .inr (0, [.int 0, .int 0, .int 0, .int 0, .int x1, .ref q14]))], [(q1, .inr (8, [.ref q2, .int 0, .ref q3, .int 0, .int 0, .ref q4, .ref q5, .ref q6, .ref q7, .ref q8, .ref q9])), (q4, .inr (5, [.ref q10, .ref q11, .int 0, .int 0, .int 0, .ref q12, .int 0, .ref q13])), (q11, .inr (0, [.int 0, .int 0, .int 0, .int 0, .int 0, .ref q14]))]] u.1) := by
  refine entMi (by decide) (Nat.le_of_ble_eq_true rfl) ?_
  intro p e s m below meth c C hK A hA hP hD ls hl
  obtain ⟨hx, hb, hml, hown, hts, hr, hlocks, hnm⟩ := id C
  have hb : c.code = cX8_seed := hb
  have hown : s.vm.findClass RX8 = some m.cls := hown
  have hS : va_S A s.heap s.heap [] := va_S.rf
  have hl : lv_has ls 3 [(0, .ref q1), (1, .int x1)] := hl
  refine lv_iload_n hx hb dX8_seed_0 rfl (lv_at hl 1 rfl) ?_
  refine lv_if_ge (tgt := 6) hx hb dX8_seed_1 (by decide) (fun c4025 => ?_) (fun c4025 => ?_)
  · have h4026 : x1.toInt ≥ 0 := bI_ge rfl (by decide) c4025
    refine lv_aload_n hx hb dX8_seed_6 rfl (lv_at hl 0 rfl) ?_
    refine va_get (D := D) (v := .ref q4) (C := RX8) (T := TX8) (N := 11) hx hb hts iX8 hown hK.1 hP 0 rfl rfl 5 (by decide) (hts _ t_305) (fun _ h9 => h9) rfl dX8_seed_7 ?_
    refine va_get (D := D) (v := .ref q11) (C := RX5) (T := TX5) (N := 8) hx hb hts iX5 hown hK.1 hP 1 rfl rfl 1 (by decide) (hts _ t_163) (fun _ h9 => h9) rfl dX8_seed_10 ?_
    refine va_get (D := D) (v := .int 0) (C := RX0) (T := TX0) (N := 6) hx hb hts iX0 hown hK.1 hP 2 rfl rfl 4 (by decide) (hts _ t_143) (fun _ h9 => h9) rfl dX8_seed_13 ?_
    refine lv_istore_n (lv' := [(2, .int 0), (0, .ref q1), (1, .int x1)]) hx hb dX8_seed_16 rfl hl (by decide) rfl (fun ls hl => ?_)
    refine lv_aload_n hx hb dX8_seed_17 rfl (lv_at hl 1 rfl) ?_
    refine va_get (D := D) (v := .ref q4) (C := RX8) (T := TX8) (N := 11) hx hb hts iX8 hown hK.1 hP 0 rfl rfl 5 (by decide) (hts _ t_305) (fun _ h9 => h9) rfl dX8_seed_18 ?_
    refine va_get (D := D) (v := .ref q11) (C := RX5) (T := TX5) (N := 8) hx hb hts iX5 hown hK.1 hP 1 rfl rfl 1 (by decide) (hts _ t_163) (fun _ h9 => h9) rfl dX8_seed_21 ?_
    refine lv_iload_n hx hb dX8_seed_24 rfl (lv_at hl 2 rfl) ?_
    refine va_put (D := D) (v := .int x1) (C := RX0) (T := TX0) (N := 6) hx hb hts iX0 tyX0 tyX0_ok nmX0 hown hK.1 hP hD hS 2 rfl rfl 4 (by decide) (hts _ t_143) (fun _ h9 => h9) rfl (tyX0_ok 4 (by decide)) rfl rfl (Nat.le_of_ble_eq_true rfl) dX8_seed_25 (fun H locs hP hD hS => ?_)
    have hP : va_P D classes [(q1, .inr (8, [.ref q2, .int 0, .ref q3, .int 0, .int 0, .ref q4, .ref q5, .ref q6, .ref q7, .ref q8, .ref q9])), (q4, .inr (5, [.ref q10, .ref q11, .int 0, .int 0, .int 0, .ref q12, .int 0, .ref q13])), (q11, .inr (0, [.int 0, .int 0, .int 0, .int 0, .int x1, .ref q14]))] H := hP
    have hD : va_D A [(q1, .inr (8, [.ref q2, .int 0, .ref q3, .int 0, .int 0, .ref q4, .ref q5, .ref q6, .ref q7, .ref q8, .ref q9])), (q4, .inr (5, [.ref q10, .ref q11, .int 0, .int 0, .int 0, .ref q12, .int 0, .ref q13])), (q11, .inr (0, [.int 0, .int 0, .int 0, .int 0, .int x1, .ref q14]))] := hD
    refine lv_iload_n hx hb dX8_seed_28 rfl (lv_at hl 0 rfl) ?_
    exact retMi C rfl (0, [], [], [], [], []) (Or.inl ⟨rfl, h4026, rfl⟩) hP hD hS (Nat.le_of_ble_eq_true rfl) (Nat.le_of_ble_eq_true rfl) dX8_seed_29
  · have h4027 : x1.toInt < 0 := bI_nge rfl (by decide) c4025
    refine lv_iconst (v := (-1)) hx hb dX8_seed_4 (by decide) ?_
    exact retMi C rfl (1, [], [], [], [], []) (Or.inr (⟨rfl, h4027, rfl⟩)) hP hD hS (Nat.le_of_ble_eq_true rfl) (Nat.le_of_ble_eq_true rfl) dX8_seed_5

set_option maxHeartbeats 4000000 in
set_option maxRecDepth 100000 in
theorem c_X9_seed_0 (l : Launch) (D : va_G) (a : Nat → ClassId) (q1 q2 q3 q4 q5 q6 q7 q8 q9 q10 q11 q12 q13 q14 q15 q16 q17 q18 q19 q20 q21 q22 q23 : Nat) (x1 : Int32) (sz : Nat) : CMi (S := SS) l MX9_seed 0 0 0 0 D a [.ref q1, .int x1] [(q1, .inr (9, [.ref q2, .int 0, .int 0, .ref q3, .ref q4, .ref q5, .ref q6, .int 0, .int 0, .int 0, .ref q7, .ref q8, .int 0, .int 0, .int 0, .int 0, .int 0, .int 0, .int 0, .ref q9, .int 0, .ref q10, .int 0, .ref q11, .ref q12, .ref q13, .ref q14, .ref q15, .ref q16, .ref q17, .ref q18, .ref q19, .ref q20, .ref q21, .ref q22, .ref q23])), (q12, .inl (a 0, 104, .inl (fun _ => 0)))] sz (fun r u => (u = (0, [], [], [], [], []) ∧ x1.toInt ≥ 0 ∧ r = 0) ∨ (u = (1, [], [], [], [], []) ∧ x1.toInt < 0 ∧ r = (-1))) (fun u => pk [[(q1, .inr (9, [.ref q2, .int 0, .int 0, .ref q3, .ref q4, .ref q5, .ref q6, .int 0, .int 0, .int 0, .ref q7, .ref q8, .int 0, .int 0, .int 0, .int 0, .int 0, .int 0, .int 0, .ref q9, .int 0, .ref q10, .int 0, .ref q11, .ref q12, .ref q13, .ref q14, .ref q15, .ref q16, .ref q17, .ref q18, .ref q19, .ref q20, .ref q21, .ref q22, .ref q23])), (q12, .inl (a 0, 104, .inl (upd (fun _ => 0) 9 x1)))], [(q1, .inr (9, [.ref q2, .int 0, .int 0, .ref q3, .ref q4, .ref q5, .ref q6, .int 0, .int 0, .int 0, .ref q7, .ref q8, .int 0, .int 0, .int 0, .int 0, .int 0, .int 0, .int 0, .ref q9, .int 0, .ref q10, .int 0, .ref q11, .ref q12, .ref q13, .ref q14, .ref q15, .ref q16, .ref q17, .ref q18, .ref q19, .ref q20, .ref q21, .ref q22, .ref q23])), (q12, .inl (a 0, 104, .inl (fun _ => 0)))]] u.1) := by
  refine entMi (by decide) (Nat.le_of_ble_eq_true rfl) ?_
  intro p e s m below meth c C hK A hA hP hD ls hl
  obtain ⟨hx, hb, hml, hown, hts, hr, hlocks, hnm⟩ := id C
  have hb : c.code = cX9_seed := hb
  have hown : s.vm.findClass RX9 = some m.cls := hown
  have hS : va_S A s.heap s.heap [] := va_S.rf
  have hl : lv_has ls 3 [(0, .ref q1), (1, .int x1)] := hl
  refine lv_iload_n hx hb dX9_seed_0 rfl (lv_at hl 1 rfl) ?_
  refine lv_if_ge (tgt := 6) hx hb dX9_seed_1 (by decide) (fun c4037 => ?_) (fun c4037 => ?_)
  · have h4038 : x1.toInt ≥ 0 := bI_ge rfl (by decide) c4037
    refine lv_aload_n hx hb dX9_seed_6 rfl (lv_at hl 0 rfl) ?_
    refine va_get (D := D) (v := .ref q12) (C := RX9) (T := TX9) (N := 36) hx hb hts iX9 hown hK.1 hP 0 rfl rfl 24 (by decide) (hts _ t_906) (fun _ h9 => h9) rfl dX9_seed_7 ?_
    refine lv_bipush (v := 9) hx hb dX9_seed_10 (by decide) ?_
    refine ald_i hx hb hK.1 hP 1 0 rfl rfl 9 (ix_lit (by decide)) dX9_seed_12 ?_
    refine lv_istore_n (lv' := [(2, .int 0), (0, .ref q1), (1, .int x1)]) hx hb dX9_seed_13 rfl hl (by decide) rfl (fun ls hl => ?_)
    refine lv_aload_n hx hb dX9_seed_14 rfl (lv_at hl 1 rfl) ?_
    refine va_get (D := D) (v := .ref q12) (C := RX9) (T := TX9) (N := 36) hx hb hts iX9 hown hK.1 hP 0 rfl rfl 24 (by decide) (hts _ t_906) (fun _ h9 => h9) rfl dX9_seed_15 ?_
    refine lv_bipush (v := 9) hx hb dX9_seed_18 (by decide) ?_
    refine lv_iload_n hx hb dX9_seed_20 rfl (lv_at hl 2 rfl) ?_
    refine ast_i hx hb hK.1 hP hD hS 1 0 rfl rfl 9 (ix_lit (by decide)) dX9_seed_21 (fun H locs hP hD hS => ?_)
    have hP : va_P D classes [(q1, .inr (9, [.ref q2, .int 0, .int 0, .ref q3, .ref q4, .ref q5, .ref q6, .int 0, .int 0, .int 0, .ref q7, .ref q8, .int 0, .int 0, .int 0, .int 0, .int 0, .int 0, .int 0, .ref q9, .int 0, .ref q10, .int 0, .ref q11, .ref q12, .ref q13, .ref q14, .ref q15, .ref q16, .ref q17, .ref q18, .ref q19, .ref q20, .ref q21, .ref q22, .ref q23])), (q12, .inl (a 0, 104, .inl (upd (fun _ => 0) 9 x1)))] H := hP
    have hD : va_D A [(q1, .inr (9, [.ref q2, .int 0, .int 0, .ref q3, .ref q4, .ref q5, .ref q6, .int 0, .int 0, .int 0, .ref q7, .ref q8, .int 0, .int 0, .int 0, .int 0, .int 0, .int 0, .int 0, .ref q9, .int 0, .ref q10, .int 0, .ref q11, .ref q12, .ref q13, .ref q14, .ref q15, .ref q16, .ref q17, .ref q18, .ref q19, .ref q20, .ref q21, .ref q22, .ref q23])), (q12, .inl (a 0, 104, .inl (upd (fun _ => 0) 9 x1)))] := hD
    refine lv_iload_n hx hb dX9_seed_22 rfl (lv_at hl 0 rfl) ?_
    exact retMi C rfl (0, [], [], [], [], []) (Or.inl ⟨rfl, h4038, rfl⟩) hP hD hS (Nat.le_of_ble_eq_true rfl) (Nat.le_of_ble_eq_true rfl) dX9_seed_23
  · have h4039 : x1.toInt < 0 := bI_nge rfl (by decide) c4037
    refine lv_iconst (v := (-1)) hx hb dX9_seed_4 (by decide) ?_
    exact retMi C rfl (1, [], [], [], [], []) (Or.inr (⟨rfl, h4039, rfl⟩)) hP hD hS (Nat.le_of_ble_eq_true rfl) (Nat.le_of_ble_eq_true rfl) dX9_seed_5

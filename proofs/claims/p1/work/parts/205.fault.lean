set_option maxHeartbeats 4000000 in
set_option maxRecDepth 100000 in
theorem c_X8_isFault_0 (l : Launch) (D : va_G) (a : Nat → ClassId) (q1 q2 q3 q4 q5 q6 q7 q8 q9 q10 q11 q12 q13 q14 q15 q16 q17 q18 q19 q20 q21 q22 q23 q24 q25 : Nat) (x1 : Int32) : CRi l MX8_isFault 0 0 D a [.ref q1, .int x1] [(q1, .inr (8, [.ref q2, .int 0, .ref q3, .int 0, .int 0, .ref q4, .ref q5, .ref q6, .ref q7, .ref q8, .ref q9])), (q10, .inr (7, [.int 0, .int 0, .int 0, .int 0, .int 0, .ref q11, .ref q12, .ref q13, .ref q14, .ref q15, .ref q16, .ref q17, .ref q18, .ref q19, .ref q20, .ref q21, .ref q22, .int 0])), (q4, .inr (5, [.ref q10, .ref q23, .int 0, .int 0, .int 0, .ref q24, .int 0, .ref q25]))] (fun r => (x1.toInt < 0 ∧ r = 0) ∨ (x1.toInt ≥ 0 ∧ x1.toInt ≥ 0 ∧ r = 0)) := by
  refine entR (by decide) (Nat.le_of_ble_eq_true rfl) ?_
  intro p e s m below meth c C hK hP ls hl
  obtain ⟨hx, hb, hml, hown, hts, hr, hlocks, hnm⟩ := id C
  have hb : c.code = cX8_isFault := hb
  have hown : s.vm.findClass RX8 = some m.cls := hown
  have hl : lv_has ls 2 [(0, .ref q1), (1, .int x1)] := hl
  refine lv_iload_n hx hb dX8_isFault_0 rfl (lv_at hl 1 rfl) ?_
  refine lv_if_lt (tgt := 22) hx hb dX8_isFault_1 (by decide) (fun c2488 => ?_) (fun c2488 => ?_)
  · have h2489 : x1.toInt < 0 := bI_lt rfl (by decide) c2488
    refine lv_iconst (v := 0) hx hb dX8_isFault_22 (by decide) ?_
    exact retRz C rfl (by decide) (Or.inl ⟨h2489, rfl⟩) dX8_isFault_23
  · have h2490 : x1.toInt ≥ 0 := bI_nlt rfl (by decide) c2488
    refine lv_iload_n hx hb dX8_isFault_4 rfl (lv_at hl 1 rfl) ?_
    refine lv_aload_n hx hb dX8_isFault_5 rfl (lv_at hl 0 rfl) ?_
    refine va_get (D := D) (v := .ref q4) (C := RX8) (T := TX8) (N := 11) hx hb hts iX8 hown hK.1 hP 0 rfl rfl 5 (by decide) (hts _ t_305) (fun _ h9 => h9) rfl dX8_isFault_6 ?_
    refine va_get (D := D) (v := .ref q10) (C := RX5) (T := TX5) (N := 8) hx hb hts iX5 hown hK.1 hP 2 rfl rfl 0 (by decide) (hts _ t_161) (fun _ h9 => h9) rfl dX8_isFault_9 ?_
    refine va_get (D := D) (v := .int 0) (C := RX7) (T := TX7) (N := 18) hx hb hts iX7 hown hK.1 hP 1 rfl rfl 3 (by decide) (hts _ t_47) (fun _ h9 => h9) rfl dX8_isFault_12 ?_
    refine lv_icmp_ge (tgt := 22) hx hb dX8_isFault_15 (by decide) (fun c2491 => ?_) (fun c2491 => ?_)
    · have h2492 : x1.toInt ≥ 0 := bI_ge rfl (by decide) c2491
      refine lv_iconst (v := 0) hx hb dX8_isFault_22 (by decide) ?_
      exact retRz C rfl (by decide) (Or.inr (⟨h2490, h2492, rfl⟩)) dX8_isFault_23
    · have h2493 : x1.toInt < 0 := bI_nge rfl (by decide) c2491
      exfalso; omega

set_option maxHeartbeats 4000000 in
set_option maxRecDepth 100000 in
theorem c_X8_fault_0 (l : Launch) (D : va_G) (a : Nat → ClassId) (q1 q2 q3 q4 q5 q6 q7 q8 q9 q10 q11 q12 q13 q14 q15 q16 q17 q18 q19 q20 q21 q22 q23 q24 q25 : Nat) (x1 x2 : Int32) : CRi l MX8_fault 1 21 D a [.ref q1, .int x1, .int x2] [(q1, .inr (8, [.ref q2, .int 0, .ref q3, .int 0, .int 0, .ref q4, .ref q5, .ref q6, .ref q7, .ref q8, .ref q9])), (q10, .inr (7, [.int 0, .int 0, .int 0, .int 0, .int 0, .ref q11, .ref q12, .ref q13, .ref q14, .ref q15, .ref q16, .ref q17, .ref q18, .ref q19, .ref q20, .ref q21, .ref q22, .int 0])), (q4, .inr (5, [.ref q10, .ref q23, .int 0, .int 0, .int 0, .ref q24, .int 0, .ref q25]))] (fun r => (x1.toInt < 0 ∧ r = (-2)) ∨ (x1.toInt ≥ 0 ∧ x1.toInt ≥ 0 ∧ r = (-2))) := by
  refine entR (by decide) (Nat.le_of_ble_eq_true rfl) ?_
  intro p e s m below meth c C hK hP ls hl
  obtain ⟨hx, hb, hml, hown, hts, hr, hlocks, hnm⟩ := id C
  have hb : c.code = cX8_fault := hb
  have hown : s.vm.findClass RX8 = some m.cls := hown
  have hl : lv_has ls 5 [(0, .ref q1), (1, .int x1), (2, .int x2)] := hl
  refine lv_aload_n hx hb dX8_fault_0 rfl (lv_at hl 0 rfl) ?_
  refine lv_iload_n hx hb dX8_fault_1 rfl (lv_at hl 1 rfl) ?_
  refine aftRi (runV (As := [.int x1]) (rest := []) C (c_X8_isFault_0 l D a q1 q2 q3 q4 q5 q6 q7 q8 q9 q10 q11 q12 q13 q14 q15 q16 q17 q18 q19 q20 q21 q22 q23 q24 q25 x1) lk_V_8_139 (okN_X8_isFault) ⟨Nat.le_of_ble_eq_true rfl, Nat.le_of_ble_eq_true rfl⟩ ⟨rfl, rfl⟩ (preV (preR hK (P_of_map (wc := [(q1, .inr (8, [.ref q2, .int 0, .ref q3, .int 0, .int 0, .ref q4, .ref q5, .ref q6, .ref q7, .ref q8, .ref q9])), (q10, .inr (7, [.int 0, .int 0, .int 0, .int 0, .int 0, .ref q11, .ref q12, .ref q13, .ref q14, .ref q15, .ref q16, .ref q17, .ref q18, .ref q19, .ref q20, .ref q21, .ref q22, .int 0])), (q4, .inr (5, [.ref q10, .ref q23, .int 0, .int 0, .int 0, .ref q24, .int 0, .ref q25]))]) hP [0, 1, 2] rfl)) (recvOf hK hP 0 rfl (ci := 8) rfl)) hl.1 rfl (Nat.le_of_ble_eq_true rfl) dX8_fault_2 ⟨Nat.le_of_ble_eq_true rfl, Nat.le_of_ble_eq_true rfl⟩) (fun x2506 hw => ?_)
  rcases hw with ⟨h2509, rfl⟩ | ⟨h2510, h2511, rfl⟩
  · refine lv_if_ne (tgt := 11) hx hb dX8_fault_5 (by decide) (fun c9 => absurd (by decide) c9) (fun c9 => ?_)
    refine lv_bipush (v := (-2)) hx hb dX8_fault_8 (by decide) ?_
    exact retRi C rfl (Or.inl ⟨h2509, rfl⟩) dX8_fault_10
  · refine lv_if_ne (tgt := 11) hx hb dX8_fault_5 (by decide) (fun c9 => absurd (by decide) c9) (fun c9 => ?_)
    refine lv_bipush (v := (-2)) hx hb dX8_fault_8 (by decide) ?_
    exact retRi C rfl (Or.inr (⟨h2510, h2511, rfl⟩)) dX8_fault_10

set_option maxHeartbeats 4000000 in
set_option maxRecDepth 100000 in
theorem c_X9_isFault_0 (l : Launch) (D : va_G) (a : Nat → ClassId) (q1 q2 q3 q4 q5 q6 q7 q8 q9 q10 q11 q12 q13 q14 q15 q16 q17 q18 q19 q20 q21 q22 q23 : Nat) (x1 : Int32) : CRi l MX9_isFault 0 0 D a [.ref q1, .int x1] [(q1, .inr (9, [.ref q2, .int 0, .int 0, .ref q3, .ref q4, .ref q5, .ref q6, .int 0, .int 0, .int 0, .ref q7, .ref q8, .int 0, .int 0, .int 0, .int 0, .int 0, .int 0, .int 0, .ref q9, .int 0, .ref q10, .int 0, .ref q11, .ref q12, .ref q13, .ref q14, .ref q15, .ref q16, .ref q17, .ref q18, .ref q19, .ref q20, .ref q21, .ref q22, .ref q23])), (q12, .inl (a 0, 104, .inl (fun _ => 0)))] (fun r => (x1.toInt < 0 ∧ r = 0) ∨ (x1.toInt ≥ 0 ∧ x1.toInt ≥ 0 ∧ r = 0)) := by
  refine entR (by decide) (Nat.le_of_ble_eq_true rfl) ?_
  intro p e s m below meth c C hK hP ls hl
  obtain ⟨hx, hb, hml, hown, hts, hr, hlocks, hnm⟩ := id C
  have hb : c.code = cX9_isFault := hb
  have hown : s.vm.findClass RX9 = some m.cls := hown
  have hl : lv_has ls 2 [(0, .ref q1), (1, .int x1)] := hl
  refine lv_iload_n hx hb dX9_isFault_0 rfl (lv_at hl 1 rfl) ?_
  refine lv_if_lt (tgt := 18) hx hb dX9_isFault_1 (by decide) (fun c2526 => ?_) (fun c2526 => ?_)
  · have h2527 : x1.toInt < 0 := bI_lt rfl (by decide) c2526
    refine lv_iconst (v := 0) hx hb dX9_isFault_18 (by decide) ?_
    exact retRz C rfl (by decide) (Or.inl ⟨h2527, rfl⟩) dX9_isFault_19
  · have h2528 : x1.toInt ≥ 0 := bI_nlt rfl (by decide) c2526
    refine lv_iload_n hx hb dX9_isFault_4 rfl (lv_at hl 1 rfl) ?_
    refine lv_aload_n hx hb dX9_isFault_5 rfl (lv_at hl 0 rfl) ?_
    refine va_get (D := D) (v := .ref q12) (C := RX9) (T := TX9) (N := 36) hx hb hts iX9 hown hK.1 hP 0 rfl rfl 24 (by decide) (hts _ t_906) (fun _ h9 => h9) rfl dX9_isFault_6 ?_
    refine lv_iconst (v := 0) hx hb dX9_isFault_9 (by decide) ?_
    refine ald_i hx hb hK.1 hP 1 0 rfl rfl 0 (ix_lit (by decide)) dX9_isFault_10 ?_
    refine lv_icmp_ge (tgt := 18) hx hb dX9_isFault_11 (by decide) (fun c2529 => ?_) (fun c2529 => ?_)
    · have h2530 : x1.toInt ≥ 0 := bI_ge rfl (by decide) c2529
      refine lv_iconst (v := 0) hx hb dX9_isFault_18 (by decide) ?_
      exact retRz C rfl (by decide) (Or.inr (⟨h2528, h2530, rfl⟩)) dX9_isFault_19
    · have h2531 : x1.toInt < 0 := bI_nge rfl (by decide) c2529
      exfalso; omega

set_option maxHeartbeats 4000000 in
set_option maxRecDepth 100000 in
theorem c_X9_fault_0 (l : Launch) (D : va_G) (a : Nat → ClassId) (q1 q2 q3 q4 q5 q6 q7 q8 q9 q10 q11 q12 q13 q14 q15 q16 q17 q18 q19 q20 q21 q22 q23 : Nat) (x1 x2 : Int32) : CRi l MX9_fault 1 21 D a [.ref q1, .int x1, .int x2] [(q1, .inr (9, [.ref q2, .int 0, .int 0, .ref q3, .ref q4, .ref q5, .ref q6, .int 0, .int 0, .int 0, .ref q7, .ref q8, .int 0, .int 0, .int 0, .int 0, .int 0, .int 0, .int 0, .ref q9, .int 0, .ref q10, .int 0, .ref q11, .ref q12, .ref q13, .ref q14, .ref q15, .ref q16, .ref q17, .ref q18, .ref q19, .ref q20, .ref q21, .ref q22, .ref q23])), (q12, .inl (a 0, 104, .inl (fun _ => 0)))] (fun r => (x1.toInt < 0 ∧ r = (-2)) ∨ (x1.toInt ≥ 0 ∧ x1.toInt ≥ 0 ∧ r = (-2))) := by
  refine entR (by decide) (Nat.le_of_ble_eq_true rfl) ?_
  intro p e s m below meth c C hK hP ls hl
  obtain ⟨hx, hb, hml, hown, hts, hr, hlocks, hnm⟩ := id C
  have hb : c.code = cX9_fault := hb
  have hown : s.vm.findClass RX9 = some m.cls := hown
  have hl : lv_has ls 3 [(0, .ref q1), (1, .int x1), (2, .int x2)] := hl
  refine lv_aload_n hx hb dX9_fault_0 rfl (lv_at hl 0 rfl) ?_
  refine lv_iload_n hx hb dX9_fault_1 rfl (lv_at hl 1 rfl) ?_
  refine aftRi (runV (As := [.int x1]) (rest := []) C (c_X9_isFault_0 l D a q1 q2 q3 q4 q5 q6 q7 q8 q9 q10 q11 q12 q13 q14 q15 q16 q17 q18 q19 q20 q21 q22 q23 x1) lk_V_9_280 (okN_X9_isFault) ⟨Nat.le_of_ble_eq_true rfl, Nat.le_of_ble_eq_true rfl⟩ ⟨rfl, rfl⟩ (preV (preR hK (P_of_map (wc := [(q1, .inr (9, [.ref q2, .int 0, .int 0, .ref q3, .ref q4, .ref q5, .ref q6, .int 0, .int 0, .int 0, .ref q7, .ref q8, .int 0, .int 0, .int 0, .int 0, .int 0, .int 0, .int 0, .ref q9, .int 0, .ref q10, .int 0, .ref q11, .ref q12, .ref q13, .ref q14, .ref q15, .ref q16, .ref q17, .ref q18, .ref q19, .ref q20, .ref q21, .ref q22, .ref q23])), (q12, .inl (a 0, 104, .inl (fun _ => 0)))]) hP [0, 1] rfl)) (recvOf hK hP 0 rfl (ci := 9) rfl)) hl.1 rfl (Nat.le_of_ble_eq_true rfl) dX9_fault_2 ⟨Nat.le_of_ble_eq_true rfl, Nat.le_of_ble_eq_true rfl⟩) (fun x2544 hw => ?_)
  rcases hw with ⟨h2547, rfl⟩ | ⟨h2548, h2549, rfl⟩
  · refine lv_if_eq (tgt := 20) hx hb dX9_fault_5 (by decide) (fun c9 => ?_) (fun c9 => absurd (by decide) c9)
    refine lv_bipush (v := (-2)) hx hb dX9_fault_20 (by decide) ?_
    exact retRi C rfl (Or.inl ⟨h2547, rfl⟩) dX9_fault_22
  · refine lv_if_eq (tgt := 20) hx hb dX9_fault_5 (by decide) (fun c9 => ?_) (fun c9 => absurd (by decide) c9)
    refine lv_bipush (v := (-2)) hx hb dX9_fault_20 (by decide) ?_
    exact retRi C rfl (Or.inr (⟨h2548, h2549, rfl⟩)) dX9_fault_22

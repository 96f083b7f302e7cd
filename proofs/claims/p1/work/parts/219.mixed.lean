set_option maxHeartbeats 4000000 in
set_option maxRecDepth 100000 in
theorem c_X8_mixed_0 (l : Launch) (D : va_G) (a : Nat → ClassId) (q1 q2 q3 q4 q5 q6 q7 q8 q9 q10 q11 q12 q13 : Nat) (x1 x2 : Int32) : CRi l MX8_mixed 2 45 D a [.ref q1, .int x1, .int x2] [(q1, .inr (8, [.ref q2, .int 0, .ref q3, .int 0, .int 0, .ref q4, .ref q5, .ref q6, .ref q7, .ref q8, .ref q9])), (q4, .inr (5, [.ref q10, .ref q11, .int 0, .int 0, .int 0, .ref q12, .int 0, .ref q13])), (q13, .inl (a 0, 8, .inl (fun _ => 0)))] (fun r => (x1.toInt < 0 ∧ r = (-1)) ∨ (x1.toInt ≥ 0 ∧ x1.toInt > 1 ∧ r = (-1)) ∨ (x1.toInt ≥ 0 ∧ x1.toInt ≤ 1 ∧ x2.toInt < 0 ∧ r = (-1)) ∨ (x1.toInt ≥ 0 ∧ x1.toInt ≤ 1 ∧ x2.toInt ≥ 0 ∧ x2.toInt ≤ 1 ∧ r = (-2)) ∨ (x1.toInt ≥ 0 ∧ x1.toInt ≤ 1 ∧ x2.toInt ≥ 0 ∧ x2.toInt > 1 ∧ r = (-1))) := by
  refine entR (by decide) (Nat.le_of_ble_eq_true rfl) ?_
  intro p e s m below meth c C hK hP ls hl
  obtain ⟨hx, hb, hml, hown, hts, hr, hlocks, hnm⟩ := id C
  have hb : c.code = cX8_mixed := hb
  have hown : s.vm.findClass RX8 = some m.cls := hown
  have hl : lv_has ls 7 [(0, .ref q1), (1, .int x1), (2, .int x2)] := hl
  refine lv_iload_n hx hb dX8_mixed_0 rfl (lv_at hl 1 rfl) ?_
  refine lv_if_lt (tgt := 18) hx hb dX8_mixed_1 (by decide) (fun c3505 => ?_) (fun c3505 => ?_)
  · have h3506 : x1.toInt < 0 := bI_lt rfl (by decide) c3505
    refine lv_iconst (v := (-1)) hx hb dX8_mixed_18 (by decide) ?_
    exact retRi C rfl (Or.inl ⟨h3506, rfl⟩) dX8_mixed_19
  · have h3507 : x1.toInt ≥ 0 := bI_nlt rfl (by decide) c3505
    refine lv_iload_n hx hb dX8_mixed_4 rfl (lv_at hl 1 rfl) ?_
    refine lv_iconst (v := 1) hx hb dX8_mixed_5 (by decide) ?_
    refine lv_icmp_gt (tgt := 18) hx hb dX8_mixed_6 (by decide) (fun c3508 => ?_) (fun c3508 => ?_)
    · have h3509 : x1.toInt > 1 := bI_gt rfl (by decide) c3508
      refine lv_iconst (v := (-1)) hx hb dX8_mixed_18 (by decide) ?_
      exact retRi C rfl (Or.inr (Or.inl ⟨h3507, h3509, rfl⟩)) dX8_mixed_19
    · have h3510 : x1.toInt ≤ 1 := bI_ngt rfl (by decide) c3508
      refine lv_iload_n hx hb dX8_mixed_9 rfl (lv_at hl 2 rfl) ?_
      refine lv_if_lt (tgt := 18) hx hb dX8_mixed_10 (by decide) (fun c3511 => ?_) (fun c3511 => ?_)
      · have h3512 : x2.toInt < 0 := bI_lt rfl (by decide) c3511
        refine lv_iconst (v := (-1)) hx hb dX8_mixed_18 (by decide) ?_
        exact retRi C rfl (Or.inr (Or.inr (Or.inl ⟨h3507, h3510, h3512, rfl⟩))) dX8_mixed_19
      · have h3513 : x2.toInt ≥ 0 := bI_nlt rfl (by decide) c3511
        refine lv_iload_n hx hb dX8_mixed_13 rfl (lv_at hl 2 rfl) ?_
        refine lv_iconst (v := 1) hx hb dX8_mixed_14 (by decide) ?_
        refine lv_icmp_le (tgt := 20) hx hb dX8_mixed_15 (by decide) (fun c3514 => ?_) (fun c3514 => ?_)
        · have h3515 : x2.toInt ≤ 1 := bI_le rfl (by decide) c3514
          refine lv_aload_n hx hb dX8_mixed_20 rfl (lv_at hl 0 rfl) ?_
          refine aftRi (runV (As := []) (rest := []) C (c_X8_rests_0 l D a q1 q2 q3 q4 q5 q6 q7 q8 q9 q10 q11 q12 q13) lk_V_8_286 (okN_X8_rests) ⟨Nat.le_of_ble_eq_true rfl, Nat.le_of_ble_eq_true rfl⟩ ⟨rfl, rfl⟩ (preV (preR hK (P_of_map (wc := [(q1, .inr (8, [.ref q2, .int 0, .ref q3, .int 0, .int 0, .ref q4, .ref q5, .ref q6, .ref q7, .ref q8, .ref q9])), (q4, .inr (5, [.ref q10, .ref q11, .int 0, .int 0, .int 0, .ref q12, .int 0, .ref q13])), (q13, .inl (a 0, 8, .inl (fun _ => 0)))]) hP [0, 1, 2] rfl)) (recvOf hK hP 0 rfl (ci := 8) rfl)) hl.1 rfl (Nat.le_of_ble_eq_true rfl) dX8_mixed_21 ⟨Nat.le_of_ble_eq_true rfl, Nat.le_of_ble_eq_true rfl⟩) (fun x3588 hw => ?_)
          obtain rfl := hw
          refine lv_if_eq (tgt := 30) hx hb dX8_mixed_24 (by decide) (fun c9 => absurd c9 (by decide)) (fun c9 => ?_)
          refine lv_bipush (v := (-2)) hx hb dX8_mixed_27 (by decide) ?_
          exact retRi C rfl (Or.inr (Or.inr (Or.inr (Or.inl ⟨h3507, h3510, h3513, h3515, rfl⟩)))) dX8_mixed_29
        · have h3591 : x2.toInt > 1 := bI_nle rfl (by decide) c3514
          refine lv_iconst (v := (-1)) hx hb dX8_mixed_18 (by decide) ?_
          exact retRi C rfl (Or.inr (Or.inr (Or.inr (Or.inr (⟨h3507, h3510, h3513, h3591, rfl⟩))))) dX8_mixed_19

set_option maxHeartbeats 4000000 in
set_option maxRecDepth 100000 in
theorem c_X9_in_3 (l : Launch) (D : va_G) (a : Nat → ClassId) (x1 : Int32) : CRi l MX9_in 0 0 D a [.long x1.toInt64, .long 0, .long 1] [] (fun r => (x1.toInt < 0 ∧ r = 0) ∨ (x1.toInt ≥ 0 ∧ x1.toInt > 1 ∧ r = 0) ∨ (x1.toInt ≥ 0 ∧ x1.toInt ≤ 1 ∧ r = 1)) := by
  refine entR (by decide) (Nat.le_of_ble_eq_true rfl) ?_
  intro p e s m below meth c C hK hP ls hl
  obtain ⟨hx, hb, hml, hown, hts, hr, hlocks, hnm⟩ := id C
  have hb : c.code = cX9_in := hb
  have hown : s.vm.findClass RX9 = some m.cls := hown
  have hl : lv_has ls 6 [(0, .long x1.toInt64), (2, .long 0), (4, .long 1)] := hl
  refine lv_lload_n hx hb dX9_in_0 rfl (lv_at hl 0 rfl) ?_
  refine lv_lload_n hx hb dX9_in_1 rfl (lv_at hl 1 rfl) ?_
  refine W.lcmp hx hb dX9_in_2 ?_
  refine lv_if_lt (tgt := 17) hx hb dX9_in_3 (by decide) (fun c3617 => ?_) (fun c3617 => ?_)
  · have h3618 : x1.toInt < 0 := cI_lt (Int32.toInt_toInt64 x1) (by decide) c3617
    refine lv_iconst (v := 0) hx hb dX9_in_17 (by decide) ?_
    exact retRz C rfl (by decide) (Or.inl ⟨h3618, rfl⟩) dX9_in_18
  · have h3619 : x1.toInt ≥ 0 := cI_nlt (Int32.toInt_toInt64 x1) (by decide) c3617
    refine lv_lload_n hx hb dX9_in_6 rfl (lv_at hl 0 rfl) ?_
    refine lv_lload hx hb dX9_in_7 (lv_at hl 2 rfl) ?_
    refine W.lcmp hx hb dX9_in_9 ?_
    refine lv_if_gt (tgt := 17) hx hb dX9_in_10 (by decide) (fun c3620 => ?_) (fun c3620 => ?_)
    · have h3621 : x1.toInt > 1 := cI_gt (Int32.toInt_toInt64 x1) (by decide) c3620
      refine lv_iconst (v := 0) hx hb dX9_in_17 (by decide) ?_
      exact retRz C rfl (by decide) (Or.inr (Or.inl ⟨h3619, h3621, rfl⟩)) dX9_in_18
    · have h3622 : x1.toInt ≤ 1 := cI_ngt (Int32.toInt_toInt64 x1) (by decide) c3620
      refine lv_iconst (v := 1) hx hb dX9_in_13 (by decide) ?_
      refine lv_goto (tgt := 18) hx hb dX9_in_14 (by decide) ?_
      exact retRz C rfl (by decide) (Or.inr (Or.inr (⟨h3619, h3622, rfl⟩))) dX9_in_18

set_option maxHeartbeats 4000000 in
set_option maxRecDepth 100000 in
theorem c_X9_mixed_0 (l : Launch) (D : va_G) (a : Nat → ClassId) (q1 q2 q3 q4 q5 q6 q7 q8 q9 q10 q11 q12 q13 q14 q15 q16 q17 q18 q19 q20 q21 q22 q23 : Nat) (x1 x2 : Int32) : CRi l MX9_mixed 2 42 D a [.ref q1, .int x1, .int x2] [(q1, .inr (9, [.ref q2, .int 0, .int 0, .ref q3, .ref q4, .ref q5, .ref q6, .int 0, .int 0, .int 0, .ref q7, .ref q8, .int 0, .int 0, .int 0, .int 0, .int 0, .int 0, .int 0, .ref q9, .int 0, .ref q10, .int 0, .ref q11, .ref q12, .ref q13, .ref q14, .ref q15, .ref q16, .ref q17, .ref q18, .ref q19, .ref q20, .ref q21, .ref q22, .ref q23])), (q12, .inl (a 0, 104, .inl (fun _ => 0)))] (fun r => (x1.toInt < 0 ∧ r = (-1)) ∨ (x1.toInt ≥ 0 ∧ x1.toInt > 1 ∧ r = (-1)) ∨ (x1.toInt ≥ 0 ∧ x1.toInt ≤ 1 ∧ x2.toInt < 0 ∧ r = (-1)) ∨ (x1.toInt ≥ 0 ∧ x1.toInt ≤ 1 ∧ x2.toInt ≥ 0 ∧ x2.toInt > 1 ∧ r = (-1)) ∨ (x1.toInt ≥ 0 ∧ x1.toInt ≤ 1 ∧ x2.toInt ≥ 0 ∧ x2.toInt ≤ 1 ∧ r = (-2))) := by
  refine entR (by decide) (Nat.le_of_ble_eq_true rfl) ?_
  intro p e s m below meth c C hK hP ls hl
  obtain ⟨hx, hb, hml, hown, hts, hr, hlocks, hnm⟩ := id C
  have hb : c.code = cX9_mixed := hb
  have hown : s.vm.findClass RX9 = some m.cls := hown
  have hl : lv_has ls 6 [(0, .ref q1), (1, .int x1), (2, .int x2)] := hl
  refine lv_iload_n hx hb dX9_mixed_0 rfl (lv_at hl 1 rfl) ?_
  refine lv_i2l (v := x1.toInt64) hx hb dX9_mixed_1 rfl ?_
  refine lv_lconst (v := 0) hx hb dX9_mixed_2 (by decide) ?_
  refine lv_lconst (v := 1) hx hb dX9_mixed_3 (by decide) ?_
  refine aftRi (runS (As := [.long x1.toInt64, .long 0, .long 1]) (rest := []) C (c_X9_in_3 l D a x1) lk_S_9_118 (okN_X9_in) ⟨Nat.le_of_ble_eq_true rfl, Nat.le_of_ble_eq_true rfl⟩ ⟨rfl, rfl⟩ (preR hK (P_of_map (wc := []) hP [] rfl)) hl.1 rfl (Nat.le_of_ble_eq_true rfl) dX9_mixed_4 ⟨Nat.le_of_ble_eq_true rfl, Nat.le_of_ble_eq_true rfl⟩) (fun x3648 hw => ?_)
  rcases hw with ⟨h3651, rfl⟩ | ⟨h3652, h3653, rfl⟩ | ⟨h3654, h3655, rfl⟩
  · refine lv_if_eq (tgt := 20) hx hb dX9_mixed_7 (by decide) (fun c9 => ?_) (fun c9 => absurd (by decide) c9)
    refine lv_iconst (v := (-1)) hx hb dX9_mixed_20 (by decide) ?_
    exact retRi C rfl (Or.inl ⟨h3651, rfl⟩) dX9_mixed_21
  · refine lv_if_eq (tgt := 20) hx hb dX9_mixed_7 (by decide) (fun c9 => ?_) (fun c9 => absurd (by decide) c9)
    refine lv_iconst (v := (-1)) hx hb dX9_mixed_20 (by decide) ?_
    exact retRi C rfl (Or.inr (Or.inl ⟨h3652, h3653, rfl⟩)) dX9_mixed_21
  · refine lv_if_eq (tgt := 20) hx hb dX9_mixed_7 (by decide) (fun c9 => absurd c9 (by decide)) (fun c9 => ?_)
    refine lv_iload_n hx hb dX9_mixed_10 rfl (lv_at hl 2 rfl) ?_
    refine lv_i2l (v := x2.toInt64) hx hb dX9_mixed_11 rfl ?_
    refine lv_lconst (v := 0) hx hb dX9_mixed_12 (by decide) ?_
    refine lv_lconst (v := 1) hx hb dX9_mixed_13 (by decide) ?_
    refine aftRi (runS (As := [.long x2.toInt64, .long 0, .long 1]) (rest := []) C (c_X9_in_3 l D a x2) lk_S_9_118 (okN_X9_in) ⟨Nat.le_of_ble_eq_true rfl, Nat.le_of_ble_eq_true rfl⟩ ⟨rfl, rfl⟩ (preR hK (P_of_map (wc := []) hP [] rfl)) hl.1 rfl (Nat.le_of_ble_eq_true rfl) dX9_mixed_14 ⟨Nat.le_of_ble_eq_true rfl, Nat.le_of_ble_eq_true rfl⟩) (fun x3656 hw => ?_)
    rcases hw with ⟨h3659, rfl⟩ | ⟨h3660, h3661, rfl⟩ | ⟨h3662, h3663, rfl⟩
    · refine lv_if_ne (tgt := 22) hx hb dX9_mixed_17 (by decide) (fun c9 => absurd (by decide) c9) (fun c9 => ?_)
      refine lv_iconst (v := (-1)) hx hb dX9_mixed_20 (by decide) ?_
      exact retRi C rfl (Or.inr (Or.inr (Or.inl ⟨h3654, h3655, h3659, rfl⟩))) dX9_mixed_21
    · refine lv_if_ne (tgt := 22) hx hb dX9_mixed_17 (by decide) (fun c9 => absurd (by decide) c9) (fun c9 => ?_)
      refine lv_iconst (v := (-1)) hx hb dX9_mixed_20 (by decide) ?_
      exact retRi C rfl (Or.inr (Or.inr (Or.inr (Or.inl ⟨h3654, h3655, h3660, h3661, rfl⟩)))) dX9_mixed_21
    · refine lv_if_ne (tgt := 22) hx hb dX9_mixed_17 (by decide) (fun c9 => ?_) (fun c9 => absurd c9 (by decide))
      refine lv_aload_n hx hb dX9_mixed_22 rfl (lv_at hl 0 rfl) ?_
      refine aftRi (runV (As := []) (rest := []) C (c_X9_rests_0 l D a q1 q2 q3 q4 q5 q6 q7 q8 q9 q10 q11 q12 q13 q14 q15 q16 q17 q18 q19 q20 q21 q22 q23) lk_V_9_404 (okN_X9_rests) ⟨Nat.le_of_ble_eq_true rfl, Nat.le_of_ble_eq_true rfl⟩ ⟨rfl, rfl⟩ (preV (preR hK (P_of_map (wc := [(q1, .inr (9, [.ref q2, .int 0, .int 0, .ref q3, .ref q4, .ref q5, .ref q6, .int 0, .int 0, .int 0, .ref q7, .ref q8, .int 0, .int 0, .int 0, .int 0, .int 0, .int 0, .int 0, .ref q9, .int 0, .ref q10, .int 0, .ref q11, .ref q12, .ref q13, .ref q14, .ref q15, .ref q16, .ref q17, .ref q18, .ref q19, .ref q20, .ref q21, .ref q22, .ref q23])), (q12, .inl (a 0, 104, .inl (fun _ => 0)))]) hP [0, 1] rfl)) (recvOf hK hP 0 rfl (ci := 9) rfl)) hl.1 rfl (Nat.le_of_ble_eq_true rfl) dX9_mixed_23 ⟨Nat.le_of_ble_eq_true rfl, Nat.le_of_ble_eq_true rfl⟩) (fun x3715 hw => ?_)
      obtain rfl := hw
      refine lv_if_le (tgt := 32) hx hb dX9_mixed_26 (by decide) (fun c9 => absurd c9 (by decide)) (fun c9 => ?_)
      refine lv_bipush (v := (-2)) hx hb dX9_mixed_29 (by decide) ?_
      exact retRi C rfl (Or.inr (Or.inr (Or.inr (Or.inr (⟨h3654, h3655, h3662, h3663, rfl⟩))))) dX9_mixed_31

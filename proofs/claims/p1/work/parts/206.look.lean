set_option maxHeartbeats 4000000 in
set_option maxRecDepth 100000 in
theorem c_X8_look_0 (l : Launch) (D : va_G) (a : Nat → ClassId) (q1 q2 q3 q4 q5 q6 q7 q8 q9 q10 q11 q12 q13 q14 q15 q16 q17 q18 q19 q20 q21 q22 q23 q24 q25 : Nat) (x1 : Int32) : CRi l MX8_look 1 21 D a [.ref q1, .int x1] [(q1, .inr (8, [.ref q2, .int 0, .ref q3, .int 0, .int 0, .ref q4, .ref q5, .ref q6, .ref q7, .ref q8, .ref q9])), (q10, .inr (7, [.int 0, .int 0, .int 0, .int 0, .int 0, .ref q11, .ref q12, .ref q13, .ref q14, .ref q15, .ref q16, .ref q17, .ref q18, .ref q19, .ref q20, .ref q21, .ref q22, .int 0])), (q4, .inr (5, [.ref q10, .ref q23, .int 0, .int 0, .int 0, .ref q24, .int 0, .ref q25]))] (fun r => (x1.toInt < 0 ∧ r = (-1)) ∨ (x1.toInt ≥ 0 ∧ x1.toInt ≥ 0 ∧ r = (-1))) := by
  refine entR (by decide) (Nat.le_of_ble_eq_true rfl) ?_
  intro p e s m below meth c C hK hP ls hl
  obtain ⟨hx, hb, hml, hown, hts, hr, hlocks, hnm⟩ := id C
  have hb : c.code = cX8_look := hb
  have hown : s.vm.findClass RX8 = some m.cls := hown
  have hl : lv_has ls 2 [(0, .ref q1), (1, .int x1)] := hl
  refine lv_aload_n hx hb dX8_look_0 rfl (lv_at hl 0 rfl) ?_
  refine lv_iload_n hx hb dX8_look_1 rfl (lv_at hl 1 rfl) ?_
  refine aftRi (runV (As := [.int x1]) (rest := []) C (c_X8_isFault_0 l D a q1 q2 q3 q4 q5 q6 q7 q8 q9 q10 q11 q12 q13 q14 q15 q16 q17 q18 q19 q20 q21 q22 q23 q24 q25 x1) lk_V_8_139 (okN_X8_isFault) ⟨Nat.le_of_ble_eq_true rfl, Nat.le_of_ble_eq_true rfl⟩ ⟨rfl, rfl⟩ (preV (preR hK (P_of_map (wc := [(q1, .inr (8, [.ref q2, .int 0, .ref q3, .int 0, .int 0, .ref q4, .ref q5, .ref q6, .ref q7, .ref q8, .ref q9])), (q10, .inr (7, [.int 0, .int 0, .int 0, .int 0, .int 0, .ref q11, .ref q12, .ref q13, .ref q14, .ref q15, .ref q16, .ref q17, .ref q18, .ref q19, .ref q20, .ref q21, .ref q22, .int 0])), (q4, .inr (5, [.ref q10, .ref q23, .int 0, .int 0, .int 0, .ref q24, .int 0, .ref q25]))]) hP [0, 1, 2] rfl)) (recvOf hK hP 0 rfl (ci := 8) rfl)) hl.1 rfl (Nat.le_of_ble_eq_true rfl) dX8_look_2 ⟨Nat.le_of_ble_eq_true rfl, Nat.le_of_ble_eq_true rfl⟩) (fun x2571 hw => ?_)
  rcases hw with ⟨h2574, rfl⟩ | ⟨h2575, h2576, rfl⟩
  · refine lv_if_ne (tgt := 10) hx hb dX8_look_5 (by decide) (fun c9 => absurd (by decide) c9) (fun c9 => ?_)
    refine lv_iconst (v := (-1)) hx hb dX8_look_8 (by decide) ?_
    exact retRi C rfl (Or.inl ⟨h2574, rfl⟩) dX8_look_9
  · refine lv_if_ne (tgt := 10) hx hb dX8_look_5 (by decide) (fun c9 => absurd (by decide) c9) (fun c9 => ?_)
    refine lv_iconst (v := (-1)) hx hb dX8_look_8 (by decide) ?_
    exact retRi C rfl (Or.inr (⟨h2575, h2576, rfl⟩)) dX8_look_9

set_option maxHeartbeats 4000000 in
set_option maxRecDepth 100000 in
theorem c_X9_look_0 (l : Launch) (D : va_G) (a : Nat → ClassId) (q1 q2 q3 q4 q5 q6 q7 q8 q9 q10 q11 q12 q13 q14 q15 q16 q17 q18 q19 q20 q21 q22 q23 : Nat) (x1 : Int32) : CRi l MX9_look 1 21 D a [.ref q1, .int x1] [(q1, .inr (9, [.ref q2, .int 0, .int 0, .ref q3, .ref q4, .ref q5, .ref q6, .int 0, .int 0, .int 0, .ref q7, .ref q8, .int 0, .int 0, .int 0, .int 0, .int 0, .int 0, .int 0, .ref q9, .int 0, .ref q10, .int 0, .ref q11, .ref q12, .ref q13, .ref q14, .ref q15, .ref q16, .ref q17, .ref q18, .ref q19, .ref q20, .ref q21, .ref q22, .ref q23])), (q12, .inl (a 0, 104, .inl (fun _ => 0)))] (fun r => (x1.toInt < 0 ∧ r = (-1)) ∨ (x1.toInt ≥ 0 ∧ x1.toInt ≥ 0 ∧ r = (-1))) := by
  refine entR (by decide) (Nat.le_of_ble_eq_true rfl) ?_
  intro p e s m below meth c C hK hP ls hl
  obtain ⟨hx, hb, hml, hown, hts, hr, hlocks, hnm⟩ := id C
  have hb : c.code = cX9_look := hb
  have hown : s.vm.findClass RX9 = some m.cls := hown
  have hl : lv_has ls 2 [(0, .ref q1), (1, .int x1)] := hl
  refine lv_aload_n hx hb dX9_look_0 rfl (lv_at hl 0 rfl) ?_
  refine lv_iload_n hx hb dX9_look_1 rfl (lv_at hl 1 rfl) ?_
  refine aftRi (runV (As := [.int x1]) (rest := []) C (c_X9_isFault_0 l D a q1 q2 q3 q4 q5 q6 q7 q8 q9 q10 q11 q12 q13 q14 q15 q16 q17 q18 q19 q20 q21 q22 q23 x1) lk_V_9_280 (okN_X9_isFault) ⟨Nat.le_of_ble_eq_true rfl, Nat.le_of_ble_eq_true rfl⟩ ⟨rfl, rfl⟩ (preV (preR hK (P_of_map (wc := [(q1, .inr (9, [.ref q2, .int 0, .int 0, .ref q3, .ref q4, .ref q5, .ref q6, .int 0, .int 0, .int 0, .ref q7, .ref q8, .int 0, .int 0, .int 0, .int 0, .int 0, .int 0, .int 0, .ref q9, .int 0, .ref q10, .int 0, .ref q11, .ref q12, .ref q13, .ref q14, .ref q15, .ref q16, .ref q17, .ref q18, .ref q19, .ref q20, .ref q21, .ref q22, .ref q23])), (q12, .inl (a 0, 104, .inl (fun _ => 0)))]) hP [0, 1] rfl)) (recvOf hK hP 0 rfl (ci := 9) rfl)) hl.1 rfl (Nat.le_of_ble_eq_true rfl) dX9_look_2 ⟨Nat.le_of_ble_eq_true rfl, Nat.le_of_ble_eq_true rfl⟩) (fun x2590 hw => ?_)
  rcases hw with ⟨h2593, rfl⟩ | ⟨h2594, h2595, rfl⟩
  · refine lv_if_ne (tgt := 10) hx hb dX9_look_5 (by decide) (fun c9 => absurd (by decide) c9) (fun c9 => ?_)
    refine lv_iconst (v := (-1)) hx hb dX9_look_8 (by decide) ?_
    exact retRi C rfl (Or.inl ⟨h2593, rfl⟩) dX9_look_9
  · refine lv_if_ne (tgt := 10) hx hb dX9_look_5 (by decide) (fun c9 => absurd (by decide) c9) (fun c9 => ?_)
    refine lv_iconst (v := (-1)) hx hb dX9_look_8 (by decide) ?_
    exact retRi C rfl (Or.inr (⟨h2594, h2595, rfl⟩)) dX9_look_9

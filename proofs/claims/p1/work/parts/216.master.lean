set_option maxHeartbeats 4000000 in
set_option maxRecDepth 100000 in
theorem c_X8_master_0 (l : Launch) (D : va_G) (a : Nat → ClassId) (q1 q2 q3 q4 q5 q6 q7 q8 q9 q10 q11 q12 q13 q14 q15 q16 q17 q18 q19 q20 q21 q22 q23 q24 q25 : Nat) (x1 x2 : Int32) : CRl l MX8_master 1 20 D a [.ref q1, .int x1, .int x2] [(q1, .inr (8, [.ref q2, .int 0, .ref q3, .int 0, .int 0, .ref q4, .ref q5, .ref q6, .ref q7, .ref q8, .ref q9])), (q10, .inr (7, [.int 0, .int 0, .int 0, .int 0, .int 0, .ref q11, .ref q12, .ref q13, .ref q14, .ref q15, .ref q16, .ref q17, .ref q18, .ref q19, .ref q20, .ref q21, .ref q22, .int 0])), (q4, .inr (5, [.ref q10, .ref q23, .int 0, .int 0, .int 0, .ref q24, .int 0, .ref q25]))] (fun r => (r = (-1000000000000))) := by
  refine entR (by decide) (Nat.le_of_ble_eq_true rfl) ?_
  intro p e s m below meth c C hK hP ls hl
  obtain ⟨hx, hb, hml, hown, hts, hr, hlocks, hnm⟩ := id C
  have hb : c.code = cX8_master := hb
  have hown : s.vm.findClass RX8 = some m.cls := hown
  have hl : lv_has ls 3 [(0, .ref q1), (1, .int x1), (2, .int x2)] := hl
  refine lv_aload_n hx hb dX8_master_0 rfl (lv_at hl 0 rfl) ?_
  refine aftRi (runV (As := []) (rest := []) C (c_X8_hasWork_0 l D a q1 q2 q3 q4 q5 q6 q7 q8 q9 q10 q11 q12 q13 q14 q15 q16 q17 q18 q19 q20 q21 q22 q23 q24 q25) lk_V_8_213 (okN_X8_hasWork) ⟨Nat.le_of_ble_eq_true rfl, Nat.le_of_ble_eq_true rfl⟩ ⟨rfl, rfl⟩ (preV (preR hK (P_of_map (wc := [(q1, .inr (8, [.ref q2, .int 0, .ref q3, .int 0, .int 0, .ref q4, .ref q5, .ref q6, .ref q7, .ref q8, .ref q9])), (q10, .inr (7, [.int 0, .int 0, .int 0, .int 0, .int 0, .ref q11, .ref q12, .ref q13, .ref q14, .ref q15, .ref q16, .ref q17, .ref q18, .ref q19, .ref q20, .ref q21, .ref q22, .int 0])), (q4, .inr (5, [.ref q10, .ref q23, .int 0, .int 0, .int 0, .ref q24, .int 0, .ref q25]))]) hP [0, 1, 2] rfl)) (recvOf hK hP 0 rfl (ci := 8) rfl)) hl.1 rfl (Nat.le_of_ble_eq_true rfl) dX8_master_1 ⟨Nat.le_of_ble_eq_true rfl, Nat.le_of_ble_eq_true rfl⟩) (fun x2960 hw => ?_)
  obtain rfl := hw
  refine lv_if_eq (tgt := 25) hx hb dX8_master_4 (by decide) (fun c9 => ?_) (fun c9 => absurd (by decide) c9)
  refine lv_ldc2 hx hb hown (hts _ t_809) dX8_master_25 ?_
  exact retRl C rfl rfl dX8_master_28

set_option maxHeartbeats 4000000 in
set_option maxRecDepth 100000 in
theorem c_X9_master_0 (l : Launch) (D : va_G) (a : Nat → ClassId) (q1 q2 q3 q4 q5 q6 q7 q8 q9 q10 q11 q12 q13 q14 q15 q16 q17 q18 q19 q20 q21 q22 q23 : Nat) (x1 x2 : Int32) : CRl l MX9_master 1 20 D a [.ref q1, .int x1, .int x2] [(q1, .inr (9, [.ref q2, .int 0, .int 0, .ref q3, .ref q4, .ref q5, .ref q6, .int 0, .int 0, .int 0, .ref q7, .ref q8, .int 0, .int 0, .int 0, .int 0, .int 0, .int 0, .int 0, .ref q9, .int 0, .ref q10, .int 0, .ref q11, .ref q12, .ref q13, .ref q14, .ref q15, .ref q16, .ref q17, .ref q18, .ref q19, .ref q20, .ref q21, .ref q22, .ref q23])), (q12, .inl (a 0, 104, .inl (fun _ => 0)))] (fun r => (r = (-1000000000000))) := by
  refine entR (by decide) (Nat.le_of_ble_eq_true rfl) ?_
  intro p e s m below meth c C hK hP ls hl
  obtain ⟨hx, hb, hml, hown, hts, hr, hlocks, hnm⟩ := id C
  have hb : c.code = cX9_master := hb
  have hown : s.vm.findClass RX9 = some m.cls := hown
  have hl : lv_has ls 13 [(0, .ref q1), (1, .int x1), (2, .int x2)] := hl
  refine lv_aload_n hx hb dX9_master_0 rfl (lv_at hl 0 rfl) ?_
  refine aftRi (runV (As := []) (rest := []) C (c_X9_isWork_0 l D a q1 q2 q3 q4 q5 q6 q7 q8 q9 q10 q11 q12 q13 q14 q15 q16 q17 q18 q19 q20 q21 q22 q23) lk_V_9_301 (okN_X9_isWork) ⟨Nat.le_of_ble_eq_true rfl, Nat.le_of_ble_eq_true rfl⟩ ⟨rfl, rfl⟩ (preV (preR hK (P_of_map (wc := [(q1, .inr (9, [.ref q2, .int 0, .int 0, .ref q3, .ref q4, .ref q5, .ref q6, .int 0, .int 0, .int 0, .ref q7, .ref q8, .int 0, .int 0, .int 0, .int 0, .int 0, .int 0, .int 0, .ref q9, .int 0, .ref q10, .int 0, .ref q11, .ref q12, .ref q13, .ref q14, .ref q15, .ref q16, .ref q17, .ref q18, .ref q19, .ref q20, .ref q21, .ref q22, .ref q23])), (q12, .inl (a 0, 104, .inl (fun _ => 0)))]) hP [0, 1] rfl)) (recvOf hK hP 0 rfl (ci := 9) rfl)) hl.1 rfl (Nat.le_of_ble_eq_true rfl) dX9_master_1 ⟨Nat.le_of_ble_eq_true rfl, Nat.le_of_ble_eq_true rfl⟩) (fun x2971 hw => ?_)
  obtain rfl := hw
  refine lv_if_eq (tgt := 31) hx hb dX9_master_4 (by decide) (fun c9 => ?_) (fun c9 => absurd (by decide) c9)
  refine lv_ldc2 hx hb hown (hts _ t_1344) dX9_master_31 ?_
  exact retRl C rfl rfl dX9_master_34

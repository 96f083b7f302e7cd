set_option maxHeartbeats 4000000 in
set_option maxRecDepth 100000 in
theorem c_X8_ruleForWork_0 (l : Launch) (D : va_G) (a : Nat → ClassId) (q1 q2 q3 q4 q5 q6 q7 q8 q9 : Nat) (x1 : Int32) : CRq l MX8_ruleForWork 0 0 D a [.ref q1, .int x1] [(q1, .inr (8, [.ref q2, .int 0, .ref q3, .int 0, .int 0, .ref q4, .ref q5, .ref q6, .ref q7, .ref q8, .ref q9]))] (fun r => (x1.toInt < 0 ∧ r = none) ∨ (x1.toInt ≥ 0 ∧ x1.toInt ≥ 0 ∧ r = none)) := by
  refine entR (by decide) (Nat.le_of_ble_eq_true rfl) ?_
  intro p e s m below meth c C hK hP ls hl
  obtain ⟨hx, hb, hml, hown, hts, hr, hlocks, hnm⟩ := id C
  have hb : c.code = cX8_ruleForWork := hb
  have hown : s.vm.findClass RX8 = some m.cls := hown
  have hl : lv_has ls 3 [(0, .ref q1), (1, .int x1)] := hl
  refine lv_iload_n hx hb dX8_ruleForWork_0 rfl (lv_at hl 1 rfl) ?_
  refine lv_if_lt (tgt := 32) hx hb dX8_ruleForWork_1 (by decide) (fun c2699 => ?_) (fun c2699 => ?_)
  · have h2700 : x1.toInt < 0 := bI_lt rfl (by decide) c2699
    refine lv_iconst (v := 0) hx hb dX8_ruleForWork_32 (by decide) ?_
    refine lv_istore_n (lv' := [(2, .int 0), (0, .ref q1), (1, .int x1)]) hx hb dX8_ruleForWork_33 rfl hl (by decide) rfl (fun ls hl => ?_)
    refine lv_iload_n hx hb dX8_ruleForWork_34 rfl (lv_at hl 0 rfl) ?_
    refine lv_if_eq (tgt := 47) hx hb dX8_ruleForWork_35 (by decide) (fun c9 => ?_) (fun c9 => absurd (by decide) c9)
    refine lv_null hx hb dX8_ruleForWork_47 ?_
    exact retRq (v := none) C rfl (Or.inl ⟨_, rfl⟩) (Or.inl ⟨h2700, rfl⟩) dX8_ruleForWork_48
  · have h2701 : x1.toInt ≥ 0 := bI_nlt rfl (by decide) c2699
    refine lv_iload_n hx hb dX8_ruleForWork_4 rfl (lv_at hl 1 rfl) ?_
    refine lv_aload_n hx hb dX8_ruleForWork_5 rfl (lv_at hl 0 rfl) ?_
    refine va_get (D := D) (v := .int 0) (C := RX8) (T := TX8) (N := 11) hx hb hts iX8 hown hK.1 hP 0 rfl rfl 3 (by decide) (hts _ t_303) (fun _ h9 => h9) rfl dX8_ruleForWork_6 ?_
    refine lv_icmp_ge (tgt := 32) hx hb dX8_ruleForWork_9 (by decide) (fun c2702 => ?_) (fun c2702 => ?_)
    · have h2703 : x1.toInt ≥ 0 := bI_ge rfl (by decide) c2702
      refine lv_iconst (v := 0) hx hb dX8_ruleForWork_32 (by decide) ?_
      refine lv_istore_n (lv' := [(2, .int 0), (0, .ref q1), (1, .int x1)]) hx hb dX8_ruleForWork_33 rfl hl (by decide) rfl (fun ls hl => ?_)
      refine lv_iload_n hx hb dX8_ruleForWork_34 rfl (lv_at hl 0 rfl) ?_
      refine lv_if_eq (tgt := 47) hx hb dX8_ruleForWork_35 (by decide) (fun c9 => ?_) (fun c9 => absurd (by decide) c9)
      refine lv_null hx hb dX8_ruleForWork_47 ?_
      exact retRq (v := none) C rfl (Or.inl ⟨_, rfl⟩) (Or.inr (⟨h2701, h2703, rfl⟩)) dX8_ruleForWork_48
    · have h2704 : x1.toInt < 0 := bI_nge rfl (by decide) c2702
      exfalso; omega

set_option maxHeartbeats 4000000 in
set_option maxRecDepth 100000 in
theorem c_X8_day_0 (l : Launch) (D : va_G) (a : Nat → ClassId) (q1 q2 q3 q4 q5 q6 q7 q8 q9 : Nat) (x1 : Int32) : CRi l MX8_day 1 22 D a [.ref q1, .int x1] [(q1, .inr (8, [.ref q2, .int 0, .ref q3, .int 0, .int 0, .ref q4, .ref q5, .ref q6, .ref q7, .ref q8, .ref q9]))] (fun r => (x1.toInt < 0 ∧ r = (-1000000)) ∨ (x1.toInt ≥ 0 ∧ x1.toInt ≥ 0 ∧ r = (-1000000))) := by
  refine entR (by decide) (Nat.le_of_ble_eq_true rfl) ?_
  intro p e s m below meth c C hK hP ls hl
  obtain ⟨hx, hb, hml, hown, hts, hr, hlocks, hnm⟩ := id C
  have hb : c.code = cX8_day := hb
  have hown : s.vm.findClass RX8 = some m.cls := hown
  have hl : lv_has ls 4 [(0, .ref q1), (1, .int x1)] := hl
  refine lv_aload_n hx hb dX8_day_0 rfl (lv_at hl 0 rfl) ?_
  refine lv_iload_n hx hb dX8_day_1 rfl (lv_at hl 1 rfl) ?_
  refine aftRq (runV (As := [.int x1]) (rest := []) C (c_X8_ruleForWork_0 l D a q1 q2 q3 q4 q5 q6 q7 q8 q9 x1) lk_V_8_228 (okN_X8_ruleForWork) ⟨Nat.le_of_ble_eq_true rfl, Nat.le_of_ble_eq_true rfl⟩ ⟨rfl, rfl⟩ (preV (preR hK (P_of_map (wc := [(q1, .inr (8, [.ref q2, .int 0, .ref q3, .int 0, .int 0, .ref q4, .ref q5, .ref q6, .ref q7, .ref q8, .ref q9]))]) hP [0] rfl)) (recvOf hK hP 0 rfl (ci := 8) rfl)) hl.1 rfl (Nat.le_of_ble_eq_true rfl) dX8_day_2 ⟨Nat.le_of_ble_eq_true rfl, Nat.le_of_ble_eq_true rfl⟩) (fun q2719 hw => ?_)
  rcases hw with ⟨h2720, rfl⟩ | ⟨h2721, h2722, rfl⟩
  · refine lv_astore_nN (lv' := [(2, .null), (0, .ref q1), (1, .int x1)]) hx hb dX8_day_5 rfl hl (by decide) rfl (fun ls hl => ?_)
    refine lv_aload_nN hx hb dX8_day_6 rfl (lv_at hl 0 rfl) ?_
    refine lv_ifnonnullN hx hb dX8_day_7 ?_
    refine lv_ldc hx hb hown (hts _ t_640) dX8_day_10 ?_
    exact retRi C rfl (Or.inl ⟨h2720, rfl⟩) dX8_day_12
  · refine lv_astore_nN (lv' := [(2, .null), (0, .ref q1), (1, .int x1)]) hx hb dX8_day_5 rfl hl (by decide) rfl (fun ls hl => ?_)
    refine lv_aload_nN hx hb dX8_day_6 rfl (lv_at hl 0 rfl) ?_
    refine lv_ifnonnullN hx hb dX8_day_7 ?_
    refine lv_ldc hx hb hown (hts _ t_640) dX8_day_10 ?_
    exact retRi C rfl (Or.inr (⟨h2721, h2722, rfl⟩)) dX8_day_12

set_option maxHeartbeats 4000000 in
set_option maxRecDepth 100000 in
theorem c_X9_day_0 (l : Launch) (D : va_G) (a : Nat → ClassId) (q1 q2 q3 q4 q5 q6 q7 q8 q9 q10 q11 q12 q13 q14 q15 q16 q17 q18 q19 q20 q21 q22 q23 : Nat) (x1 : Int32) : CRi l MX9_day 1 20 D a [.ref q1, .int x1] [(q1, .inr (9, [.ref q2, .int 0, .int 0, .ref q3, .ref q4, .ref q5, .ref q6, .int 0, .int 0, .int 0, .ref q7, .ref q8, .int 0, .int 0, .int 0, .int 0, .int 0, .int 0, .int 0, .ref q9, .int 0, .ref q10, .int 0, .ref q11, .ref q12, .ref q13, .ref q14, .ref q15, .ref q16, .ref q17, .ref q18, .ref q19, .ref q20, .ref q21, .ref q22, .ref q23])), (q12, .inl (a 0, 104, .inl (fun _ => 0)))] (fun r => (r = (-1000000))) := by
  refine entR (by decide) (Nat.le_of_ble_eq_true rfl) ?_
  intro p e s m below meth c C hK hP ls hl
  obtain ⟨hx, hb, hml, hown, hts, hr, hlocks, hnm⟩ := id C
  have hb : c.code = cX9_day := hb
  have hown : s.vm.findClass RX9 = some m.cls := hown
  have hl : lv_has ls 3 [(0, .ref q1), (1, .int x1)] := hl
  refine lv_aload_n hx hb dX9_day_0 rfl (lv_at hl 0 rfl) ?_
  refine aftRi (runV (As := []) (rest := []) C (c_X9_isWork_0 l D a q1 q2 q3 q4 q5 q6 q7 q8 q9 q10 q11 q12 q13 q14 q15 q16 q17 q18 q19 q20 q21 q22 q23) lk_V_9_301 (okN_X9_isWork) ⟨Nat.le_of_ble_eq_true rfl, Nat.le_of_ble_eq_true rfl⟩ ⟨rfl, rfl⟩ (preV (preR hK (P_of_map (wc := [(q1, .inr (9, [.ref q2, .int 0, .int 0, .ref q3, .ref q4, .ref q5, .ref q6, .int 0, .int 0, .int 0, .ref q7, .ref q8, .int 0, .int 0, .int 0, .int 0, .int 0, .int 0, .int 0, .ref q9, .int 0, .ref q10, .int 0, .ref q11, .ref q12, .ref q13, .ref q14, .ref q15, .ref q16, .ref q17, .ref q18, .ref q19, .ref q20, .ref q21, .ref q22, .ref q23])), (q12, .inl (a 0, 104, .inl (fun _ => 0)))]) hP [0, 1] rfl)) (recvOf hK hP 0 rfl (ci := 9) rfl)) hl.1 rfl (Nat.le_of_ble_eq_true rfl) dX9_day_1 ⟨Nat.le_of_ble_eq_true rfl, Nat.le_of_ble_eq_true rfl⟩) (fun x2733 hw => ?_)
  obtain rfl := hw
  refine lv_if_eq (tgt := 15) hx hb dX9_day_4 (by decide) (fun c9 => ?_) (fun c9 => absurd (by decide) c9)
  refine lv_ldcw hx hb hown (hts _ t_1199) dX9_day_15 ?_
  exact retRi C rfl rfl dX9_day_18

set_option maxHeartbeats 4000000 in
set_option maxRecDepth 100000 in
theorem c_X4_start_0 (l : Launch) (D : va_G) (a : Nat → ClassId) (q1 q2 q3 q4 q5 q6 : Nat) (sz : Nat) : CMv (S := SS) l MX4_start 0 0 0 0 D a [.ref q1] [(q1, .inr (4, [.ref q2, .ref q3, .int 0, .int 0, .int 0, .ref q4, .ref q5, .ref q6]))] sz (fun u => (u = (0, [], [], [], [], []))) (fun u => pk [[(q1, .inr (4, [.ref q2, .ref q3, .int 0, .int 0, .int 0, .ref q4, .ref q5, .ref q6]))]] u.1) := by
  refine entMv (by decide) (Nat.le_of_ble_eq_true rfl) ?_
  intro p e s m below meth c C hK A hA hP hD ls hl
  obtain ⟨hx, hb, hml, hown, hts, hr, hlocks, hnm⟩ := id C
  have hb : c.code = cX4_start := hb
  have hown : s.vm.findClass RX4 = some m.cls := hown
  have hS : va_S A s.heap s.heap [] := va_S.rf
  have hl : lv_has ls 1 [(0, .ref q1)] := hl
  refine lv_aload_n hx hb dX4_start_0 rfl (lv_at hl 0 rfl) ?_
  refine lv_iconst (v := 0) hx hb dX4_start_1 (by decide) ?_
  refine va_put (D := D) (v := .int 0) (C := RX4) (T := TX4) (N := 8) hx hb hts iX4 tyX4 tyX4_ok nmX4 hown hK.1 hP hD hS 0 rfl rfl 2 (by decide) (hts _ t_245) (fun _ h9 => h9) rfl (tyX4_ok 2 (by decide)) rfl rfl (Nat.le_of_ble_eq_true rfl) dX4_start_2 (fun H locs hP hD hS => ?_)
  have hP : va_P D classes [(q1, .inr (4, [.ref q2, .ref q3, .int 0, .int 0, .int 0, .ref q4, .ref q5, .ref q6]))] H := hP
  have hD : va_D A [(q1, .inr (4, [.ref q2, .ref q3, .int 0, .int 0, .int 0, .ref q4, .ref q5, .ref q6]))] := hD
  refine lv_aload_n hx hb dX4_start_5 rfl (lv_at hl 0 rfl) ?_
  refine lv_iconst (v := 0) hx hb dX4_start_6 (by decide) ?_
  refine va_put (D := D) (v := .int 0) (C := RX4) (T := TX4) (N := 8) hx hb hts iX4 tyX4 tyX4_ok nmX4 hown hK.1 hP hD hS 0 rfl rfl 3 (by decide) (hts _ t_246) (fun _ h9 => h9) rfl (tyX4_ok 3 (by decide)) rfl rfl (Nat.le_of_ble_eq_true rfl) dX4_start_7 (fun H locs hP hD hS => ?_)
  have hP : va_P D classes [(q1, .inr (4, [.ref q2, .ref q3, .int 0, .int 0, .int 0, .ref q4, .ref q5, .ref q6]))] H := hP
  have hD : va_D A [(q1, .inr (4, [.ref q2, .ref q3, .int 0, .int 0, .int 0, .ref q4, .ref q5, .ref q6]))] := hD
  refine lv_aload_n hx hb dX4_start_10 rfl (lv_at hl 0 rfl) ?_
  refine lv_iconst (v := 0) hx hb dX4_start_11 (by decide) ?_
  refine va_put (D := D) (v := .int 0) (C := RX4) (T := TX4) (N := 8) hx hb hts iX4 tyX4 tyX4_ok nmX4 hown hK.1 hP hD hS 0 rfl rfl 4 (by decide) (hts _ t_247) (fun _ h9 => h9) rfl (tyX4_ok 4 (by decide)) rfl rfl (Nat.le_of_ble_eq_true rfl) dX4_start_12 (fun H locs hP hD hS => ?_)
  have hP : va_P D classes [(q1, .inr (4, [.ref q2, .ref q3, .int 0, .int 0, .int 0, .ref q4, .ref q5, .ref q6]))] H := hP
  have hD : va_D A [(q1, .inr (4, [.ref q2, .ref q3, .int 0, .int 0, .int 0, .ref q4, .ref q5, .ref q6]))] := hD
  exact retMv C rfl (0, [], [], [], [], []) rfl hP hD hS (Nat.le_of_ble_eq_true rfl) (Nat.le_of_ble_eq_true rfl) dX4_start_15

set_option maxHeartbeats 4000000 in
set_option maxRecDepth 100000 in
theorem c_X4_readClause_0 (l : Launch) (D : va_G) (a : Nat → ClassId) (q2 q3 q4 q5 q1 q6 q7 q8 q9 : Nat) (sz : Nat) : CMv (S := SS) l MX4_readClause 1 21 0 0 D a [.ref q1] [(q2, .inr (6, [.ref q3, .ref q4, .ref q5, .int 1, .int 1, .int 300, .int 0, .int 0, .int 0])), (q1, .inr (4, [.ref q2, .ref q6, .int 0, .int 0, .int 0, .ref q7, .ref q8, .ref q9]))] sz (fun u => (u = (0, [], [], [], [], []))) (fun u => pk [[(q1, .inr (4, [.ref q2, .ref q6, .int 0, .int 0, .int 0, .ref q7, .ref q8, .ref q9])), (q2, .inr (6, [.ref q3, .ref q4, .ref q5, .int 1, .int 1, .int 300, .int 0, .int 0, .int 1]))]] u.1) := by
  refine entMv (by decide) (Nat.le_of_ble_eq_true rfl) ?_
  intro p e s m below meth c C hK A hA hP hD ls hl
  obtain ⟨hx, hb, hml, hown, hts, hr, hlocks, hnm⟩ := id C
  have hb : c.code = cX4_readClause := hb
  have hown : s.vm.findClass RX4 = some m.cls := hown
  have hS : va_S A s.heap s.heap [] := va_S.rf
  have hl : lv_has ls 3 [(0, .ref q1)] := hl
  refine lv_aload_n hx hb dX4_readClause_0 rfl (lv_at hl 0 rfl) ?_
  refine va_get (D := D) (v := .ref q2) (C := RX4) (T := TX4) (N := 8) hx hb hts iX4 hown hK.1 hP 1 rfl rfl 0 (by decide) (hts _ t_242) (fun _ h9 => h9) rfl dX4_readClause_1 ?_
  refine va_get (D := D) (v := .int 300) (C := RX6) (T := TX6) (N := 9) hx hb hts iX6 hown hK.1 hP 0 rfl rfl 5 (by decide) (hts _ t_214) (fun _ h9 => h9) rfl dX4_readClause_4 ?_
  refine lv_istore_n (lv' := [(1, .int 300), (0, .ref q1)]) hx hb dX4_readClause_7 rfl hl (by decide) rfl (fun ls hl => ?_)
  refine lv_iload_n hx hb dX4_readClause_8 rfl (lv_at hl 0 rfl) ?_
  refine lv_sipush (v := 306) hx hb dX4_readClause_9 (by decide) ?_
  refine lv_icmp_eq (tgt := 31) hx hb dX4_readClause_12 (by decide) (fun c9 => absurd c9 (by decide)) (fun c9 => ?_)
  refine lv_iload_n hx hb dX4_readClause_15 rfl (lv_at hl 0 rfl) ?_
  refine lv_sipush (v := 308) hx hb dX4_readClause_16 (by decide) ?_
  refine lv_icmp_eq (tgt := 31) hx hb dX4_readClause_19 (by decide) (fun c9 => absurd c9 (by decide)) (fun c9 => ?_)
  refine lv_aload_n hx hb dX4_readClause_22 rfl (lv_at hl 1 rfl) ?_
  refine va_get (D := D) (v := .ref q2) (C := RX4) (T := TX4) (N := 8) hx hb hts iX4 hown hK.1 hP 1 rfl rfl 0 (by decide) (hts _ t_242) (fun _ h9 => h9) rfl dX4_readClause_23 ?_
  refine lv_iconst (v := 0) hx hb dX4_readClause_26 (by decide) ?_
  refine afMv (runV (As := [.int 0]) (rest := []) C (c_X6_fail_0 l D a q2 q3 q4 q5 s.heap.size) lk_V_4_68 (okN_X6_fail) ⟨Nat.le_of_ble_eq_true rfl, Nat.le_of_ble_eq_true rfl⟩ ⟨rfl, rfl⟩ (preV (preM hK (P_of_map (wc := [(q2, .inr (6, [.ref q3, .ref q4, .ref q5, .int 1, .int 1, .int 300, .int 0, .int 0, .int 0]))]) hP [0] rfl) (hD.sub (ws' := [(q2, .inr (6, [.ref q3, .ref q4, .ref q5, .int 1, .int 1, .int 300, .int 0, .int 0, .int 0]))]) [0] (by decide) rfl)) (recvOf hK hP 0 rfl (ci := 6) rfl)) hl.1 rfl (Nat.le_of_ble_eq_true rfl) dX4_readClause_27 ⟨Nat.le_of_ble_eq_true rfl, Nat.le_of_ble_eq_true rfl⟩) hP hD hS hA [0] [1] (wr := [(q1, .inr (4, [.ref q2, .ref q6, .int 0, .int 0, .int 0, .ref q7, .ref q8, .ref q9]))]) rfl rfl (by decide) (by decide) (fun u H locs hw hP hD hS => ?_)
  obtain rfl := hw
  have hP : va_P D classes [(q1, .inr (4, [.ref q2, .ref q6, .int 0, .int 0, .int 0, .ref q7, .ref q8, .ref q9])), (q2, .inr (6, [.ref q3, .ref q4, .ref q5, .int 1, .int 1, .int 300, .int 0, .int 0, .int 1]))] H := hP
  have hD : va_D A [(q1, .inr (4, [.ref q2, .ref q6, .int 0, .int 0, .int 0, .ref q7, .ref q8, .ref q9])), (q2, .inr (6, [.ref q3, .ref q4, .ref q5, .int 1, .int 1, .int 300, .int 0, .int 0, .int 1]))] := hD
  exact retMv C rfl (0, [], [], [], [], []) rfl hP hD hS (Nat.le_of_ble_eq_true rfl) (Nat.le_of_ble_eq_true rfl) dX4_readClause_30

set_option maxHeartbeats 4000000 in
set_option maxRecDepth 100000 in
theorem c_X8_rule_0 (l : Launch) (D : va_G) (a : Nat → ClassId) (q1 q2 q3 q4 q5 q6 q7 q8 q9 q10 q11 q12 q13 q14 q15 q16 q17 : Nat) (sz : Nat) : CMi (S := SS) l MX8_rule 2 47 0 0 D a [.ref q1] [(q1, .inr (8, [.ref q2, .int 0, .ref q3, .int 0, .int 0, .ref q4, .ref q5, .ref q6, .ref q7, .ref q8, .ref q9])), (q3, .inl (a 4, 6, .inr (.inr (.inr (.inr (fun _ => none)))))), (q7, .inr (4, [.ref q10, .ref q11, .int 0, .int 0, .int 0, .ref q12, .ref q13, .ref q14])), (q10, .inr (6, [.ref q15, .ref q16, .ref q17, .int 0, .int 0, .int 0, .int 0, .int 0, .int 0])), (q15, .inl (a 0, 401, .inl (fun _ => 0))), (q16, .inl (a 0, 401, .inl (fun _ => 0))), (q17, .inl (a 0, 401, .inl (fun _ => 0)))] sz (fun r u => (u = (0, [], [], [], [], []) ∧ r = (-3))) (fun u => pk [[(q1, .inr (8, [.ref q2, .int 0, .ref q3, .int 0, .int 0, .ref q4, .ref q5, .ref q6, .ref q7, .ref q8, .ref q9])), (q3, .inl (a 4, 6, .inr (.inr (.inr (.inr (fun _ => none)))))), (q15, .inl (a 0, 401, .inl (upd (fun _ => 0) 0 300))), (q16, .inl (a 0, 401, .inl (upd (fun _ => 0) 0 0))), (q17, .inl (a 0, 401, .inl (upd (fun _ => 0) 0 0))), (q7, .inr (4, [.ref q10, .ref q11, .int 0, .int 0, .int 0, .ref q12, .ref q13, .ref q14])), (q10, .inr (6, [.ref q15, .ref q16, .ref q17, .int 1, .int 1, .int 300, .int 0, .int 0, .int 1]))]] u.1) := by
  refine entMi (by decide) (Nat.le_of_ble_eq_true rfl) ?_
  intro p e s m below meth c C hK A hA hP hD ls hl
  obtain ⟨hx, hb, hml, hown, hts, hr, hlocks, hnm⟩ := id C
  have hb : c.code = cX8_rule := hb
  have hown : s.vm.findClass RX8 = some m.cls := hown
  have hS : va_S A s.heap s.heap [] := va_S.rf
  have hl : lv_has ls 4 [(0, .ref q1)] := hl
  refine lv_aload_n hx hb dX8_rule_0 rfl (lv_at hl 0 rfl) ?_
  refine va_get (D := D) (v := .int 0) (C := RX8) (T := TX8) (N := 11) hx hb hts iX8 hown hK.1 hP 0 rfl rfl 3 (by decide) (hts _ t_303) (fun _ h9 => h9) rfl dX8_rule_1 ?_
  refine lv_if_lt (tgt := 19) hx hb dX8_rule_4 (by decide) (fun c9 => absurd c9 (by decide)) (fun c9 => ?_)
  refine lv_aload_n hx hb dX8_rule_7 rfl (lv_at hl 0 rfl) ?_
  refine va_get (D := D) (v := .int 0) (C := RX8) (T := TX8) (N := 11) hx hb hts iX8 hown hK.1 hP 0 rfl rfl 3 (by decide) (hts _ t_303) (fun _ h9 => h9) rfl dX8_rule_8 ?_
  refine lv_aload_n hx hb dX8_rule_11 rfl (lv_at hl 0 rfl) ?_
  refine va_get (D := D) (v := .ref q3) (C := RX8) (T := TX8) (N := 11) hx hb hts iX8 hown hK.1 hP 0 rfl rfl 2 (by decide) (hts _ t_302) (fun _ h9 => h9) rfl dX8_rule_12 ?_
  refine va_alen (v := 6) hx hb hK.1 hP 1 4 rfl rfl rfl dX8_rule_15 ?_
  refine lv_icmp_lt (tgt := 21) hx hb dX8_rule_16 (by decide) (fun c9 => ?_) (fun c9 => absurd (by decide) c9)
  refine lv_aload_n hx hb dX8_rule_21 rfl (lv_at hl 0 rfl) ?_
  refine va_get (D := D) (v := .ref q7) (C := RX8) (T := TX8) (N := 11) hx hb hts iX8 hown hK.1 hP 0 rfl rfl 8 (by decide) (hts _ t_308) (fun _ h9 => h9) rfl dX8_rule_22 ?_
  refine va_get (D := D) (v := .ref q10) (C := RX4) (T := TX4) (N := 8) hx hb hts iX4 hown hK.1 hP 2 rfl rfl 0 (by decide) (hts _ t_243) (fun _ h9 => h9) rfl dX8_rule_25 ?_
  refine lv_astore_n (lv' := [(1, .ref q10), (0, .ref q1)]) hx hb dX8_rule_28 rfl hl (by decide) rfl (fun ls hl => ?_)
  refine lv_aload_n hx hb dX8_rule_29 rfl (lv_at hl 0 rfl) ?_
  refine lv_aload_n hx hb dX8_rule_30 rfl (lv_at hl 1 rfl) ?_
  refine va_get (D := D) (v := .ref q2) (C := RX8) (T := TX8) (N := 11) hx hb hts iX8 hown hK.1 hP 0 rfl rfl 0 (by decide) (hts _ t_300) (fun _ h9 => h9) rfl dX8_rule_31 ?_
  refine lv_aload_n hx hb dX8_rule_34 rfl (lv_at hl 1 rfl) ?_
  refine va_get (D := D) (v := .int 0) (C := RX8) (T := TX8) (N := 11) hx hb hts iX8 hown hK.1 hP 0 rfl rfl 1 (by decide) (hts _ t_301) (fun _ h9 => h9) rfl dX8_rule_35 ?_
  refine afMv (runV (As := [.ref q2, .int 0]) (rest := []) C (c_X6_open_0 l D a q10 q15 q16 q17 q2 s.heap.size) lk_V_8_86 (okN_X6_open) ⟨Nat.le_of_ble_eq_true rfl, Nat.le_of_ble_eq_true rfl⟩ ⟨rfl, rfl⟩ (preV (preM hK (P_of_map (wc := [(q10, .inr (6, [.ref q15, .ref q16, .ref q17, .int 0, .int 0, .int 0, .int 0, .int 0, .int 0])), (q15, .inl (a 0, 401, .inl (fun _ => 0))), (q16, .inl (a 0, 401, .inl (fun _ => 0))), (q17, .inl (a 0, 401, .inl (fun _ => 0)))]) hP [3, 4, 5, 6] rfl) (hD.sub (ws' := [(q10, .inr (6, [.ref q15, .ref q16, .ref q17, .int 0, .int 0, .int 0, .int 0, .int 0, .int 0])), (q15, .inl (a 0, 401, .inl (fun _ => 0))), (q16, .inl (a 0, 401, .inl (fun _ => 0))), (q17, .inl (a 0, 401, .inl (fun _ => 0)))]) [3, 4, 5, 6] (by decide) rfl)) (recvOf hK hP 3 rfl (ci := 6) rfl)) hl.1 rfl (Nat.le_of_ble_eq_true rfl) dX8_rule_38 ⟨Nat.le_of_ble_eq_true rfl, Nat.le_of_ble_eq_true rfl⟩) hP hD hS hA [3, 4, 5, 6] [0, 1, 2] (wr := [(q1, .inr (8, [.ref q2, .int 0, .ref q3, .int 0, .int 0, .ref q4, .ref q5, .ref q6, .ref q7, .ref q8, .ref q9])), (q3, .inl (a 4, 6, .inr (.inr (.inr (.inr (fun _ => none)))))), (q7, .inr (4, [.ref q10, .ref q11, .int 0, .int 0, .int 0, .ref q12, .ref q13, .ref q14]))]) rfl rfl (by decide) (by decide) (fun u H locs hw hP hD hS => ?_)
  obtain rfl := hw
  have hP : va_P D classes [(q1, .inr (8, [.ref q2, .int 0, .ref q3, .int 0, .int 0, .ref q4, .ref q5, .ref q6, .ref q7, .ref q8, .ref q9])), (q3, .inl (a 4, 6, .inr (.inr (.inr (.inr (fun _ => none)))))), (q7, .inr (4, [.ref q10, .ref q11, .int 0, .int 0, .int 0, .ref q12, .ref q13, .ref q14])), (q10, .inr (6, [.ref q15, .ref q16, .ref q17, .int 1, .int 1, .int 300, .int 0, .int 0, .int 0])), (q15, .inl (a 0, 401, .inl (upd (fun _ => 0) 0 300))), (q16, .inl (a 0, 401, .inl (upd (fun _ => 0) 0 0))), (q17, .inl (a 0, 401, .inl (upd (fun _ => 0) 0 0)))] H := hP
  have hD : va_D A [(q1, .inr (8, [.ref q2, .int 0, .ref q3, .int 0, .int 0, .ref q4, .ref q5, .ref q6, .ref q7, .ref q8, .ref q9])), (q3, .inl (a 4, 6, .inr (.inr (.inr (.inr (fun _ => none)))))), (q7, .inr (4, [.ref q10, .ref q11, .int 0, .int 0, .int 0, .ref q12, .ref q13, .ref q14])), (q10, .inr (6, [.ref q15, .ref q16, .ref q17, .int 1, .int 1, .int 300, .int 0, .int 0, .int 0])), (q15, .inl (a 0, 401, .inl (upd (fun _ => 0) 0 300))), (q16, .inl (a 0, 401, .inl (upd (fun _ => 0) 0 0))), (q17, .inl (a 0, 401, .inl (upd (fun _ => 0) 0 0)))] := hD
  refine lv_aload_n hx hb dX8_rule_41 rfl (lv_at hl 1 rfl) ?_
  refine lv_iconst (v := 0) hx hb dX8_rule_42 (by decide) ?_
  refine va_put (D := D) (v := .int 0) (C := RX8) (T := TX8) (N := 11) hx hb hts iX8 tyX8 tyX8_ok nmX8 hown hK.1 hP hD hS 0 rfl rfl 1 (by decide) (hts _ t_301) (fun _ h9 => h9) rfl (tyX8_ok 1 (by decide)) rfl rfl (Nat.le_of_ble_eq_true rfl) dX8_rule_43 (fun H locs hP hD hS => ?_)
  have hP : va_P D classes [(q1, .inr (8, [.ref q2, .int 0, .ref q3, .int 0, .int 0, .ref q4, .ref q5, .ref q6, .ref q7, .ref q8, .ref q9])), (q3, .inl (a 4, 6, .inr (.inr (.inr (.inr (fun _ => none)))))), (q7, .inr (4, [.ref q10, .ref q11, .int 0, .int 0, .int 0, .ref q12, .ref q13, .ref q14])), (q10, .inr (6, [.ref q15, .ref q16, .ref q17, .int 1, .int 1, .int 300, .int 0, .int 0, .int 0])), (q15, .inl (a 0, 401, .inl (upd (fun _ => 0) 0 300))), (q16, .inl (a 0, 401, .inl (upd (fun _ => 0) 0 0))), (q17, .inl (a 0, 401, .inl (upd (fun _ => 0) 0 0)))] H := hP
  have hD : va_D A [(q1, .inr (8, [.ref q2, .int 0, .ref q3, .int 0, .int 0, .ref q4, .ref q5, .ref q6, .ref q7, .ref q8, .ref q9])), (q3, .inl (a 4, 6, .inr (.inr (.inr (.inr (fun _ => none)))))), (q7, .inr (4, [.ref q10, .ref q11, .int 0, .int 0, .int 0, .ref q12, .ref q13, .ref q14])), (q10, .inr (6, [.ref q15, .ref q16, .ref q17, .int 1, .int 1, .int 300, .int 0, .int 0, .int 0])), (q15, .inl (a 0, 401, .inl (upd (fun _ => 0) 0 300))), (q16, .inl (a 0, 401, .inl (upd (fun _ => 0) 0 0))), (q17, .inl (a 0, 401, .inl (upd (fun _ => 0) 0 0)))] := hD
  refine lv_aload_n hx hb dX8_rule_46 rfl (lv_at hl 1 rfl) ?_
  refine va_get (D := D) (v := .ref q7) (C := RX8) (T := TX8) (N := 11) hx hb hts iX8 hown hK.1 hP 0 rfl rfl 8 (by decide) (hts _ t_308) (fun _ h9 => h9) rfl dX8_rule_47 ?_
  refine afMv (runV (As := []) (rest := []) C (c_X4_start_0 l D a q7 q10 q11 q12 q13 q14 H.size) lk_V_8_105 (okN_X4_start) ⟨Nat.le_of_ble_eq_true rfl, Nat.le_of_ble_eq_true rfl⟩ ⟨rfl, rfl⟩ (preV (preM hK (P_of_map (wc := [(q7, .inr (4, [.ref q10, .ref q11, .int 0, .int 0, .int 0, .ref q12, .ref q13, .ref q14]))]) hP [2] rfl) (hD.sub (ws' := [(q7, .inr (4, [.ref q10, .ref q11, .int 0, .int 0, .int 0, .ref q12, .ref q13, .ref q14]))]) [2] (by decide) rfl)) (recvOf hK hP 2 rfl (ci := 4) rfl)) hl.1 rfl (Nat.le_of_ble_eq_true rfl) dX8_rule_50 ⟨Nat.le_of_ble_eq_true rfl, Nat.le_of_ble_eq_true rfl⟩) hP hD hS hA [2] [0, 1, 3, 4, 5, 6] (wr := [(q1, .inr (8, [.ref q2, .int 0, .ref q3, .int 0, .int 0, .ref q4, .ref q5, .ref q6, .ref q7, .ref q8, .ref q9])), (q3, .inl (a 4, 6, .inr (.inr (.inr (.inr (fun _ => none)))))), (q10, .inr (6, [.ref q15, .ref q16, .ref q17, .int 1, .int 1, .int 300, .int 0, .int 0, .int 0])), (q15, .inl (a 0, 401, .inl (upd (fun _ => 0) 0 300))), (q16, .inl (a 0, 401, .inl (upd (fun _ => 0) 0 0))), (q17, .inl (a 0, 401, .inl (upd (fun _ => 0) 0 0)))]) rfl rfl (by decide) (by decide) (fun u H locs hw hP hD hS => ?_)
  obtain rfl := hw
  have hP : va_P D classes [(q1, .inr (8, [.ref q2, .int 0, .ref q3, .int 0, .int 0, .ref q4, .ref q5, .ref q6, .ref q7, .ref q8, .ref q9])), (q3, .inl (a 4, 6, .inr (.inr (.inr (.inr (fun _ => none)))))), (q10, .inr (6, [.ref q15, .ref q16, .ref q17, .int 1, .int 1, .int 300, .int 0, .int 0, .int 0])), (q15, .inl (a 0, 401, .inl (upd (fun _ => 0) 0 300))), (q16, .inl (a 0, 401, .inl (upd (fun _ => 0) 0 0))), (q17, .inl (a 0, 401, .inl (upd (fun _ => 0) 0 0))), (q7, .inr (4, [.ref q10, .ref q11, .int 0, .int 0, .int 0, .ref q12, .ref q13, .ref q14]))] H := hP
  have hD : va_D A [(q1, .inr (8, [.ref q2, .int 0, .ref q3, .int 0, .int 0, .ref q4, .ref q5, .ref q6, .ref q7, .ref q8, .ref q9])), (q3, .inl (a 4, 6, .inr (.inr (.inr (.inr (fun _ => none)))))), (q10, .inr (6, [.ref q15, .ref q16, .ref q17, .int 1, .int 1, .int 300, .int 0, .int 0, .int 0])), (q15, .inl (a 0, 401, .inl (upd (fun _ => 0) 0 300))), (q16, .inl (a 0, 401, .inl (upd (fun _ => 0) 0 0))), (q17, .inl (a 0, 401, .inl (upd (fun _ => 0) 0 0))), (q7, .inr (4, [.ref q10, .ref q11, .int 0, .int 0, .int 0, .ref q12, .ref q13, .ref q14]))] := hD
  refine lv_iconst (v := 1) hx hb dX8_rule_53 (by decide) ?_
  refine lv_istore_n (lv' := [(2, .int 1), (1, .ref q10), (0, .ref q1)]) hx hb dX8_rule_54 rfl hl (by decide) rfl (fun ls hl => ?_)
  refine lv_iconst (v := 0) hx hb dX8_rule_55 (by decide) ?_
  refine lv_istore_n (lv' := [(3, .int 0), (2, .int 1), (1, .ref q10), (0, .ref q1)]) hx hb dX8_rule_56 rfl hl (by decide) rfl (fun ls hl => ?_)
  refine lv_iload_n hx hb dX8_rule_57 rfl (lv_at hl 1 rfl) ?_
  refine lv_if_eq (tgt := 85) hx hb dX8_rule_58 (by decide) (fun c9 => absurd c9 (by decide)) (fun c9 => ?_)
  refine lv_iload_n hx hb dX8_rule_61 rfl (lv_at hl 0 rfl) ?_
  refine lv_bipush (v := 12) hx hb dX8_rule_62 (by decide) ?_
  refine lv_icmp_gt (tgt := 85) hx hb dX8_rule_64 (by decide) (fun c9 => absurd c9 (by decide)) (fun c9 => ?_)
  refine lv_aload_n hx hb dX8_rule_67 rfl (lv_at hl 3 rfl) ?_
  refine va_get (D := D) (v := .ref q7) (C := RX8) (T := TX8) (N := 11) hx hb hts iX8 hown hK.1 hP 0 rfl rfl 8 (by decide) (hts _ t_308) (fun _ h9 => h9) rfl dX8_rule_68 ?_
  refine afMv (runV (As := []) (rest := []) C (c_X4_readClause_0 l D a q10 q15 q16 q17 q7 q11 q12 q13 q14 H.size) lk_V_8_108 (okN_X4_readClause) ⟨Nat.le_of_ble_eq_true rfl, Nat.le_of_ble_eq_true rfl⟩ ⟨rfl, rfl⟩ (preV (preM hK (P_of_map (wc := [(q10, .inr (6, [.ref q15, .ref q16, .ref q17, .int 1, .int 1, .int 300, .int 0, .int 0, .int 0])), (q7, .inr (4, [.ref q10, .ref q11, .int 0, .int 0, .int 0, .ref q12, .ref q13, .ref q14]))]) hP [2, 6] rfl) (hD.sub (ws' := [(q10, .inr (6, [.ref q15, .ref q16, .ref q17, .int 1, .int 1, .int 300, .int 0, .int 0, .int 0])), (q7, .inr (4, [.ref q10, .ref q11, .int 0, .int 0, .int 0, .ref q12, .ref q13, .ref q14]))]) [2, 6] (by decide) rfl)) (recvOf hK hP 6 rfl (ci := 4) rfl)) hl.1 rfl (Nat.le_of_ble_eq_true rfl) dX8_rule_71 ⟨Nat.le_of_ble_eq_true rfl, Nat.le_of_ble_eq_true rfl⟩) hP hD hS hA [2, 6] [0, 1, 3, 4, 5] (wr := [(q1, .inr (8, [.ref q2, .int 0, .ref q3, .int 0, .int 0, .ref q4, .ref q5, .ref q6, .ref q7, .ref q8, .ref q9])), (q3, .inl (a 4, 6, .inr (.inr (.inr (.inr (fun _ => none)))))), (q15, .inl (a 0, 401, .inl (upd (fun _ => 0) 0 300))), (q16, .inl (a 0, 401, .inl (upd (fun _ => 0) 0 0))), (q17, .inl (a 0, 401, .inl (upd (fun _ => 0) 0 0)))]) rfl rfl (by decide) (by decide) (fun u H locs hw hP hD hS => ?_)
  obtain rfl := hw
  have hP : va_P D classes [(q1, .inr (8, [.ref q2, .int 0, .ref q3, .int 0, .int 0, .ref q4, .ref q5, .ref q6, .ref q7, .ref q8, .ref q9])), (q3, .inl (a 4, 6, .inr (.inr (.inr (.inr (fun _ => none)))))), (q15, .inl (a 0, 401, .inl (upd (fun _ => 0) 0 300))), (q16, .inl (a 0, 401, .inl (upd (fun _ => 0) 0 0))), (q17, .inl (a 0, 401, .inl (upd (fun _ => 0) 0 0))), (q7, .inr (4, [.ref q10, .ref q11, .int 0, .int 0, .int 0, .ref q12, .ref q13, .ref q14])), (q10, .inr (6, [.ref q15, .ref q16, .ref q17, .int 1, .int 1, .int 300, .int 0, .int 0, .int 1]))] H := hP
  have hD : va_D A [(q1, .inr (8, [.ref q2, .int 0, .ref q3, .int 0, .int 0, .ref q4, .ref q5, .ref q6, .ref q7, .ref q8, .ref q9])), (q3, .inl (a 4, 6, .inr (.inr (.inr (.inr (fun _ => none)))))), (q15, .inl (a 0, 401, .inl (upd (fun _ => 0) 0 300))), (q16, .inl (a 0, 401, .inl (upd (fun _ => 0) 0 0))), (q17, .inl (a 0, 401, .inl (upd (fun _ => 0) 0 0))), (q7, .inr (4, [.ref q10, .ref q11, .int 0, .int 0, .int 0, .ref q12, .ref q13, .ref q14])), (q10, .inr (6, [.ref q15, .ref q16, .ref q17, .int 1, .int 1, .int 300, .int 0, .int 0, .int 1]))] := hD
  refine lv_aload_n hx hb dX8_rule_74 rfl (lv_at hl 2 rfl) ?_
  refine aftRi (runV (As := []) (rest := []) C (c_X6_anotherClause_0 l D a q10 q15 q16 q17) lk_V_8_111 (okN_X6_anotherClause) ⟨Nat.le_of_ble_eq_true rfl, Nat.le_of_ble_eq_true rfl⟩ ⟨rfl, rfl⟩ (preV (preR hK (P_of_map (wc := [(q10, .inr (6, [.ref q15, .ref q16, .ref q17, .int 1, .int 1, .int 300, .int 0, .int 0, .int 1]))]) hP [6] rfl)) (recvOf hK hP 6 rfl (ci := 6) rfl)) hl.1 rfl (Nat.le_of_ble_eq_true rfl) dX8_rule_75 ⟨Nat.le_of_ble_eq_true rfl, Nat.le_of_ble_eq_true rfl⟩) (fun x2252 hw => ?_)
  obtain rfl := hw
  refine lv_istore_n (lv' := [(2, .int 0), (3, .int 0), (1, .ref q10), (0, .ref q1)]) hx hb dX8_rule_78 rfl hl (by decide) rfl (fun ls hl => ?_)
  refine lv_iinc (v := 1) (lv' := [(3, .int 1), (2, .int 0), (1, .ref q10), (0, .ref q1)]) hx hb dX8_rule_79 hl (k := 1) rfl (by decide) (by decide) rfl (fun ls hl => ?_)
  refine lv_goto (tgt := 57) hx hb dX8_rule_82 (by decide) ?_
  refine lv_iload_n hx hb dX8_rule_57 rfl (lv_at hl 1 rfl) ?_
  refine lv_if_eq (tgt := 85) hx hb dX8_rule_58 (by decide) (fun c9 => ?_) (fun c9 => absurd (by decide) c9)
  refine lv_aload_n hx hb dX8_rule_85 rfl (lv_at hl 2 rfl) ?_
  refine va_get (D := D) (v := .int 1) (C := RX6) (T := TX6) (N := 9) hx hb hts iX6 hown hK.1 hP 6 rfl rfl 8 (by decide) (hts _ t_221) (fun _ h9 => h9) rfl dX8_rule_86 ?_
  refine lv_if_eq (tgt := 100) hx hb dX8_rule_89 (by decide) (fun c9 => absurd c9 (by decide)) (fun c9 => ?_)
  refine lv_bipush (v := (-2)) hx hb dX8_rule_92 (by decide) ?_
  refine lv_aload_n hx hb dX8_rule_94 rfl (lv_at hl 2 rfl) ?_
  refine va_get (D := D) (v := .int 1) (C := RX6) (T := TX6) (N := 9) hx hb hts iX6 hown hK.1 hP 6 rfl rfl 8 (by decide) (hts _ t_221) (fun _ h9 => h9) rfl dX8_rule_95 ?_
  refine lv_isub hx hb dX8_rule_98 ?_
  refine lv_topi (fun x2255 ex2255 => ?_)
  obtain rfl : x2255 = (-3) := ex2255.trans (by decide)
  exact retMi C rfl (0, [], [], [], [], []) ⟨rfl, rfl⟩ hP hD hS (Nat.le_of_ble_eq_true rfl) (Nat.le_of_ble_eq_true rfl) dX8_rule_99

set_option maxHeartbeats 4000000 in
set_option maxRecDepth 100000 in
theorem c_X9_see_1 (l : Launch) (D : va_G) (a : Nat → ClassId) (q1 q2 q3 q4 q5 q6 q7 q8 q9 q10 q11 q12 q13 q14 q15 q16 q17 q18 q19 q20 q21 q22 q23 : Nat) : CRi l MX9_see 0 0 D a [.ref q1] [(q1, .inr (9, [.ref q2, .int 0, .int 0, .ref q3, .ref q4, .ref q5, .ref q6, .int 0, .int 0, .int 0, .ref q7, .ref q8, .int 0, .int 0, .int 0, .int 0, .int 0, .int 0, .int 0, .ref q9, .int 0, .ref q10, .int 0, .ref q11, .ref q12, .ref q13, .ref q14, .ref q15, .ref q16, .ref q17, .ref q18, .ref q19, .ref q20, .ref q21, .ref q22, .ref q23]))] (fun r => (r = (-1))) := by
  refine entR (by decide) (Nat.le_of_ble_eq_true rfl) ?_
  intro p e s m below meth c C hK hP ls hl
  obtain ⟨hx, hb, hml, hown, hts, hr, hlocks, hnm⟩ := id C
  have hb : c.code = cX9_see := hb
  have hown : s.vm.findClass RX9 = some m.cls := hown
  have hl : lv_has ls 1 [(0, .ref q1)] := hl
  refine lv_aload_n hx hb dX9_see_0 rfl (lv_at hl 0 rfl) ?_
  refine va_get (D := D) (v := .int 0) (C := RX9) (T := TX9) (N := 36) hx hb hts iX9 hown hK.1 hP 0 rfl rfl 12 (by decide) (hts _ t_894) (fun _ h9 => h9) rfl dX9_see_1 ?_
  refine lv_aload_n hx hb dX9_see_4 rfl (lv_at hl 0 rfl) ?_
  refine va_get (D := D) (v := .int 0) (C := RX9) (T := TX9) (N := 36) hx hb hts iX9 hown hK.1 hP 0 rfl rfl 1 (by decide) (hts _ t_883) (fun _ h9 => h9) rfl dX9_see_5 ?_
  refine lv_icmp_ge (tgt := 38) hx hb dX9_see_8 (by decide) (fun c9 => ?_) (fun c9 => absurd (by decide) c9)
  refine lv_aload_n hx hb dX9_see_38 rfl (lv_at hl 0 rfl) ?_
  refine va_get (D := D) (v := .int 0) (C := RX9) (T := TX9) (N := 36) hx hb hts iX9 hown hK.1 hP 0 rfl rfl 12 (by decide) (hts _ t_894) (fun _ h9 => h9) rfl dX9_see_39 ?_
  refine lv_aload_n hx hb dX9_see_42 rfl (lv_at hl 0 rfl) ?_
  refine va_get (D := D) (v := .int 0) (C := RX9) (T := TX9) (N := 36) hx hb hts iX9 hown hK.1 hP 0 rfl rfl 1 (by decide) (hts _ t_883) (fun _ h9 => h9) rfl dX9_see_43 ?_
  refine lv_icmp_ge (tgt := 65) hx hb dX9_see_46 (by decide) (fun c9 => ?_) (fun c9 => absurd (by decide) c9)
  refine lv_iconst (v := (-1)) hx hb dX9_see_65 (by decide) ?_
  exact retRi C rfl rfl dX9_see_66

set_option maxHeartbeats 4000000 in
set_option maxRecDepth 100000 in
theorem c_X9_isLetter_1 (l : Launch) (D : va_G) (a : Nat → ClassId) (q1 q2 q3 q4 q5 q6 q7 q8 q9 q10 q11 q12 q13 q14 q15 q16 q17 q18 q19 q20 q21 q22 q23 : Nat) : CRi l MX9_isLetter 0 0 D a [.ref q1, .int 0] [(q1, .inr (9, [.ref q2, .int 0, .int 0, .ref q3, .ref q4, .ref q5, .ref q6, .int 0, .int 0, .int 0, .ref q7, .ref q8, .int 0, .int 0, .int 0, .int 0, .int 0, .int 0, .int 0, .ref q9, .int 0, .ref q10, .int 0, .ref q11, .ref q12, .ref q13, .ref q14, .ref q15, .ref q16, .ref q17, .ref q18, .ref q19, .ref q20, .ref q21, .ref q22, .ref q23]))] (fun r => (r = 0)) := by
  refine entR (by decide) (Nat.le_of_ble_eq_true rfl) ?_
  intro p e s m below meth c C hK hP ls hl
  obtain ⟨hx, hb, hml, hown, hts, hr, hlocks, hnm⟩ := id C
  have hb : c.code = cX9_isLetter := hb
  have hown : s.vm.findClass RX9 = some m.cls := hown
  have hl : lv_has ls 2 [(0, .ref q1), (1, .int 0)] := hl
  refine lv_iload_n hx hb dX9_isLetter_0 rfl (lv_at hl 1 rfl) ?_
  refine lv_aload_n hx hb dX9_isLetter_1 rfl (lv_at hl 0 rfl) ?_
  refine va_get (D := D) (v := .int 0) (C := RX9) (T := TX9) (N := 36) hx hb hts iX9 hown hK.1 hP 0 rfl rfl 1 (by decide) (hts _ t_883) (fun _ h9 => h9) rfl dX9_isLetter_2 ?_
  refine lv_icmp_ge (tgt := 34) hx hb dX9_isLetter_5 (by decide) (fun c9 => ?_) (fun c9 => absurd (by decide) c9)
  refine lv_iconst (v := 0) hx hb dX9_isLetter_34 (by decide) ?_
  exact retRz C rfl (by decide) rfl dX9_isLetter_35

set_option maxHeartbeats 4000000 in
set_option maxRecDepth 100000 in
theorem c_X9_isWord_3 (l : Launch) (D : va_G) (a : Nat → ClassId) (q1 q2 q3 q4 q5 q6 q7 q8 q9 q10 q11 q12 q13 q14 q15 q16 q17 q18 q19 q20 q21 q22 q23 : Nat) : CRi l MX9_isWord 1 21 D a [.ref q1, .long 1819242347] [(q1, .inr (9, [.ref q2, .int 0, .int 0, .ref q3, .ref q4, .ref q5, .ref q6, .int 0, .int 0, .int 0, .ref q7, .ref q8, .int 0, .int 0, .int 0, .int 0, .int 0, .int 0, .int 0, .ref q9, .int 0, .ref q10, .int 0, .ref q11, .ref q12, .ref q13, .ref q14, .ref q15, .ref q16, .ref q17, .ref q18, .ref q19, .ref q20, .ref q21, .ref q22, .ref q23]))] (fun r => (r = 0)) := by
  refine entR (by decide) (Nat.le_of_ble_eq_true rfl) ?_
  intro p e s m below meth c C hK hP ls hl
  obtain ⟨hx, hb, hml, hown, hts, hr, hlocks, hnm⟩ := id C
  have hb : c.code = cX9_isWord := hb
  have hown : s.vm.findClass RX9 = some m.cls := hown
  have hl : lv_has ls 6 [(0, .ref q1), (1, .long 1819242347)] := hl
  refine lv_aload_n hx hb dX9_isWord_0 rfl (lv_at hl 0 rfl) ?_
  refine aftRi (runV (As := []) (rest := []) C (c_X9_see_1 l D a q1 q2 q3 q4 q5 q6 q7 q8 q9 q10 q11 q12 q13 q14 q15 q16 q17 q18 q19 q20 q21 q22 q23) lk_V_9_93 (okN_X9_see) ⟨Nat.le_of_ble_eq_true rfl, Nat.le_of_ble_eq_true rfl⟩ ⟨rfl, rfl⟩ (preV (preR hK (P_of_map (wc := [(q1, .inr (9, [.ref q2, .int 0, .int 0, .ref q3, .ref q4, .ref q5, .ref q6, .int 0, .int 0, .int 0, .ref q7, .ref q8, .int 0, .int 0, .int 0, .int 0, .int 0, .int 0, .int 0, .ref q9, .int 0, .ref q10, .int 0, .ref q11, .ref q12, .ref q13, .ref q14, .ref q15, .ref q16, .ref q17, .ref q18, .ref q19, .ref q20, .ref q21, .ref q22, .ref q23]))]) hP [0] rfl)) (recvOf hK hP 0 rfl (ci := 9) rfl)) hl.1 rfl (Nat.le_of_ble_eq_true rfl) dX9_isWord_1 ⟨Nat.le_of_ble_eq_true rfl, Nat.le_of_ble_eq_true rfl⟩) (fun x2269 hw => ?_)
  obtain rfl := hw
  refine lv_pop hx hb dX9_isWord_4 rfl ?_
  refine lv_lconst (v := 0) hx hb dX9_isWord_5 (by decide) ?_
  refine lv_lstore_n (lv' := [(3, .long 0), (0, .ref q1), (1, .long 1819242347)]) hx hb dX9_isWord_6 rfl hl (by decide) rfl (fun ls hl => ?_)
  refine lv_iconst (v := 0) hx hb dX9_isWord_7 (by decide) ?_
  refine lv_istore (lv' := [(5, .int 0), (3, .long 0), (0, .ref q1), (1, .long 1819242347)]) hx hb dX9_isWord_8 hl (by decide) rfl (fun ls hl => ?_)
  refine lv_aload_n hx hb dX9_isWord_10 rfl (lv_at hl 2 rfl) ?_
  refine lv_aload_n hx hb dX9_isWord_11 rfl (lv_at hl 2 rfl) ?_
  refine va_get (D := D) (v := .int 0) (C := RX9) (T := TX9) (N := 36) hx hb hts iX9 hown hK.1 hP 0 rfl rfl 12 (by decide) (hts _ t_894) (fun _ h9 => h9) rfl dX9_isWord_12 ?_
  refine lv_iload hx hb dX9_isWord_15 (lv_at hl 0 rfl) ?_
  refine lv_iadd hx hb dX9_isWord_17 ?_
  refine lv_topi (fun x2272 ex2272 => ?_)
  obtain rfl : x2272 = 0 := ex2272.trans (by decide)
  refine aftRi (runV (As := [.int 0]) (rest := []) C (c_X9_isLetter_1 l D a q1 q2 q3 q4 q5 q6 q7 q8 q9 q10 q11 q12 q13 q14 q15 q16 q17 q18 q19 q20 q21 q22 q23) lk_V_9_97 (okN_X9_isLetter) ⟨Nat.le_of_ble_eq_true rfl, Nat.le_of_ble_eq_true rfl⟩ ⟨rfl, rfl⟩ (preV (preR hK (P_of_map (wc := [(q1, .inr (9, [.ref q2, .int 0, .int 0, .ref q3, .ref q4, .ref q5, .ref q6, .int 0, .int 0, .int 0, .ref q7, .ref q8, .int 0, .int 0, .int 0, .int 0, .int 0, .int 0, .int 0, .ref q9, .int 0, .ref q10, .int 0, .ref q11, .ref q12, .ref q13, .ref q14, .ref q15, .ref q16, .ref q17, .ref q18, .ref q19, .ref q20, .ref q21, .ref q22, .ref q23]))]) hP [0] rfl)) (recvOf hK hP 0 rfl (ci := 9) rfl)) hl.1 rfl (Nat.le_of_ble_eq_true rfl) dX9_isWord_18 ⟨Nat.le_of_ble_eq_true rfl, Nat.le_of_ble_eq_true rfl⟩) (fun x2273 hw => ?_)
  obtain rfl := hw
  refine lv_if_eq (tgt := 56) hx hb dX9_isWord_21 (by decide) (fun c9 => ?_) (fun c9 => absurd (by decide) c9)
  refine lv_iload hx hb dX9_isWord_56 (lv_at hl 0 rfl) ?_
  refine lv_if_le (tgt := 78) hx hb dX9_isWord_58 (by decide) (fun c9 => ?_) (fun c9 => absurd (by decide) c9)
  refine lv_iconst (v := 0) hx hb dX9_isWord_78 (by decide) ?_
  exact retRz C rfl (by decide) rfl dX9_isWord_79

set_option maxHeartbeats 4000000 in
set_option maxRecDepth 100000 in
theorem c_X9_isWord_4 (l : Launch) (D : va_G) (a : Nat → ClassId) (q1 q2 q3 q4 q5 q6 q7 q8 q9 q10 q11 q12 q13 q14 q15 q16 q17 q18 q19 q20 q21 q22 q23 : Nat) : CRi l MX9_isWord 1 21 D a [.ref q1, .long 1937010544] [(q1, .inr (9, [.ref q2, .int 0, .int 0, .ref q3, .ref q4, .ref q5, .ref q6, .int 0, .int 0, .int 0, .ref q7, .ref q8, .int 0, .int 0, .int 0, .int 0, .int 0, .int 0, .int 0, .ref q9, .int 0, .ref q10, .int 0, .ref q11, .ref q12, .ref q13, .ref q14, .ref q15, .ref q16, .ref q17, .ref q18, .ref q19, .ref q20, .ref q21, .ref q22, .ref q23]))] (fun r => (r = 0)) := by
  refine entR (by decide) (Nat.le_of_ble_eq_true rfl) ?_
  intro p e s m below meth c C hK hP ls hl
  obtain ⟨hx, hb, hml, hown, hts, hr, hlocks, hnm⟩ := id C
  have hb : c.code = cX9_isWord := hb
  have hown : s.vm.findClass RX9 = some m.cls := hown
  have hl : lv_has ls 6 [(0, .ref q1), (1, .long 1937010544)] := hl
  refine lv_aload_n hx hb dX9_isWord_0 rfl (lv_at hl 0 rfl) ?_
  refine aftRi (runV (As := []) (rest := []) C (c_X9_see_1 l D a q1 q2 q3 q4 q5 q6 q7 q8 q9 q10 q11 q12 q13 q14 q15 q16 q17 q18 q19 q20 q21 q22 q23) lk_V_9_93 (okN_X9_see) ⟨Nat.le_of_ble_eq_true rfl, Nat.le_of_ble_eq_true rfl⟩ ⟨rfl, rfl⟩ (preV (preR hK (P_of_map (wc := [(q1, .inr (9, [.ref q2, .int 0, .int 0, .ref q3, .ref q4, .ref q5, .ref q6, .int 0, .int 0, .int 0, .ref q7, .ref q8, .int 0, .int 0, .int 0, .int 0, .int 0, .int 0, .int 0, .ref q9, .int 0, .ref q10, .int 0, .ref q11, .ref q12, .ref q13, .ref q14, .ref q15, .ref q16, .ref q17, .ref q18, .ref q19, .ref q20, .ref q21, .ref q22, .ref q23]))]) hP [0] rfl)) (recvOf hK hP 0 rfl (ci := 9) rfl)) hl.1 rfl (Nat.le_of_ble_eq_true rfl) dX9_isWord_1 ⟨Nat.le_of_ble_eq_true rfl, Nat.le_of_ble_eq_true rfl⟩) (fun x2286 hw => ?_)
  obtain rfl := hw
  refine lv_pop hx hb dX9_isWord_4 rfl ?_
  refine lv_lconst (v := 0) hx hb dX9_isWord_5 (by decide) ?_
  refine lv_lstore_n (lv' := [(3, .long 0), (0, .ref q1), (1, .long 1937010544)]) hx hb dX9_isWord_6 rfl hl (by decide) rfl (fun ls hl => ?_)
  refine lv_iconst (v := 0) hx hb dX9_isWord_7 (by decide) ?_
  refine lv_istore (lv' := [(5, .int 0), (3, .long 0), (0, .ref q1), (1, .long 1937010544)]) hx hb dX9_isWord_8 hl (by decide) rfl (fun ls hl => ?_)
  refine lv_aload_n hx hb dX9_isWord_10 rfl (lv_at hl 2 rfl) ?_
  refine lv_aload_n hx hb dX9_isWord_11 rfl (lv_at hl 2 rfl) ?_
  refine va_get (D := D) (v := .int 0) (C := RX9) (T := TX9) (N := 36) hx hb hts iX9 hown hK.1 hP 0 rfl rfl 12 (by decide) (hts _ t_894) (fun _ h9 => h9) rfl dX9_isWord_12 ?_
  refine lv_iload hx hb dX9_isWord_15 (lv_at hl 0 rfl) ?_
  refine lv_iadd hx hb dX9_isWord_17 ?_
  refine lv_topi (fun x2289 ex2289 => ?_)
  obtain rfl : x2289 = 0 := ex2289.trans (by decide)
  refine aftRi (runV (As := [.int 0]) (rest := []) C (c_X9_isLetter_1 l D a q1 q2 q3 q4 q5 q6 q7 q8 q9 q10 q11 q12 q13 q14 q15 q16 q17 q18 q19 q20 q21 q22 q23) lk_V_9_97 (okN_X9_isLetter) ⟨Nat.le_of_ble_eq_true rfl, Nat.le_of_ble_eq_true rfl⟩ ⟨rfl, rfl⟩ (preV (preR hK (P_of_map (wc := [(q1, .inr (9, [.ref q2, .int 0, .int 0, .ref q3, .ref q4, .ref q5, .ref q6, .int 0, .int 0, .int 0, .ref q7, .ref q8, .int 0, .int 0, .int 0, .int 0, .int 0, .int 0, .int 0, .ref q9, .int 0, .ref q10, .int 0, .ref q11, .ref q12, .ref q13, .ref q14, .ref q15, .ref q16, .ref q17, .ref q18, .ref q19, .ref q20, .ref q21, .ref q22, .ref q23]))]) hP [0] rfl)) (recvOf hK hP 0 rfl (ci := 9) rfl)) hl.1 rfl (Nat.le_of_ble_eq_true rfl) dX9_isWord_18 ⟨Nat.le_of_ble_eq_true rfl, Nat.le_of_ble_eq_true rfl⟩) (fun x2290 hw => ?_)
  obtain rfl := hw
  refine lv_if_eq (tgt := 56) hx hb dX9_isWord_21 (by decide) (fun c9 => ?_) (fun c9 => absurd (by decide) c9)
  refine lv_iload hx hb dX9_isWord_56 (lv_at hl 0 rfl) ?_
  refine lv_if_le (tgt := 78) hx hb dX9_isWord_58 (by decide) (fun c9 => ?_) (fun c9 => absurd (by decide) c9)
  refine lv_iconst (v := 0) hx hb dX9_isWord_78 (by decide) ?_
  exact retRz C rfl (by decide) rfl dX9_isWord_79

set_option maxHeartbeats 4000000 in
set_option maxRecDepth 100000 in
theorem c_X9_fails_1 (l : Launch) (D : va_G) (a : Nat → ClassId) (q1 q2 q3 q4 q5 q6 q7 q8 q9 q10 q11 q12 q13 q14 q15 q16 q17 q18 q19 q20 q21 q22 q23 : Nat) (sz : Nat) : CMi (S := SS) l MX9_fails 0 0 0 0 D a [.ref q1, .int 0, .int 0] [(q1, .inr (9, [.ref q2, .int 0, .int 0, .ref q3, .ref q4, .ref q5, .ref q6, .int 0, .int 0, .int 0, .ref q7, .ref q8, .int 0, .int 0, .int 0, .int 0, .int 0, .int 0, .int 0, .ref q9, .int 0, .ref q10, .int 0, .ref q11, .ref q12, .ref q13, .ref q14, .ref q15, .ref q16, .ref q17, .ref q18, .ref q19, .ref q20, .ref q21, .ref q22, .ref q23]))] sz (fun r u => (u = (0, [], [], [], [], []) ∧ r = 0)) (fun u => pk [[(q1, .inr (9, [.ref q2, .int 0, .int 0, .ref q3, .ref q4, .ref q5, .ref q6, .int 0, .int 0, .int 0, .ref q7, .ref q8, .int 0, .int 1, .int 0, .int 0, .int 0, .int 0, .int 0, .ref q9, .int 0, .ref q10, .int 0, .ref q11, .ref q12, .ref q13, .ref q14, .ref q15, .ref q16, .ref q17, .ref q18, .ref q19, .ref q20, .ref q21, .ref q22, .ref q23]))]] u.1) := by
  refine entMi (by decide) (Nat.le_of_ble_eq_true rfl) ?_
  intro p e s m below meth c C hK A hA hP hD ls hl
  obtain ⟨hx, hb, hml, hown, hts, hr, hlocks, hnm⟩ := id C
  have hb : c.code = cX9_fails := hb
  have hown : s.vm.findClass RX9 = some m.cls := hown
  have hS : va_S A s.heap s.heap [] := va_S.rf
  have hl : lv_has ls 3 [(0, .ref q1), (1, .int 0), (2, .int 0)] := hl
  refine lv_aload_n hx hb dX9_fails_0 rfl (lv_at hl 0 rfl) ?_
  refine va_get (D := D) (v := .int 0) (C := RX9) (T := TX9) (N := 36) hx hb hts iX9 hown hK.1 hP 0 rfl rfl 13 (by decide) (hts _ t_895) (fun _ h9 => h9) rfl dX9_fails_1 ?_
  refine lv_if_ne (tgt := 19) hx hb dX9_fails_4 (by decide) (fun c9 => absurd (by decide) c9) (fun c9 => ?_)
  refine lv_aload_n hx hb dX9_fails_7 rfl (lv_at hl 0 rfl) ?_
  refine lv_iconst (v := 1) hx hb dX9_fails_8 (by decide) ?_
  refine lv_bipush (v := 8) hx hb dX9_fails_9 (by decide) ?_
  refine lv_iload_n hx hb dX9_fails_11 rfl (lv_at hl 2 rfl) ?_
  refine lv_imul hx hb dX9_fails_12 ?_
  refine lv_topi (fun x2299 ex2299 => ?_)
  obtain rfl : x2299 = 0 := ex2299.trans (by decide)
  refine lv_iadd hx hb dX9_fails_13 ?_
  refine lv_topi (fun x2300 ex2300 => ?_)
  obtain rfl : x2300 = 1 := ex2300.trans (by decide)
  refine lv_iload_n hx hb dX9_fails_14 rfl (lv_at hl 1 rfl) ?_
  refine lv_iadd hx hb dX9_fails_15 ?_
  refine lv_topi (fun x2301 ex2301 => ?_)
  obtain rfl : x2301 = 1 := ex2301.trans (by decide)
  refine va_put (D := D) (v := .int 1) (C := RX9) (T := TX9) (N := 36) hx hb hts iX9 tyX9 tyX9_ok nmX9 hown hK.1 hP hD hS 0 rfl rfl 13 (by decide) (hts _ t_895) (fun _ h9 => h9) rfl (tyX9_ok 13 (by decide)) rfl rfl (Nat.le_of_ble_eq_true rfl) dX9_fails_16 (fun H locs hP hD hS => ?_)
  have hP : va_P D classes [(q1, .inr (9, [.ref q2, .int 0, .int 0, .ref q3, .ref q4, .ref q5, .ref q6, .int 0, .int 0, .int 0, .ref q7, .ref q8, .int 0, .int 1, .int 0, .int 0, .int 0, .int 0, .int 0, .ref q9, .int 0, .ref q10, .int 0, .ref q11, .ref q12, .ref q13, .ref q14, .ref q15, .ref q16, .ref q17, .ref q18, .ref q19, .ref q20, .ref q21, .ref q22, .ref q23]))] H := hP
  have hD : va_D A [(q1, .inr (9, [.ref q2, .int 0, .int 0, .ref q3, .ref q4, .ref q5, .ref q6, .int 0, .int 0, .int 0, .ref q7, .ref q8, .int 0, .int 1, .int 0, .int 0, .int 0, .int 0, .int 0, .ref q9, .int 0, .ref q10, .int 0, .ref q11, .ref q12, .ref q13, .ref q14, .ref q15, .ref q16, .ref q17, .ref q18, .ref q19, .ref q20, .ref q21, .ref q22, .ref q23]))] := hD
  refine lv_iconst (v := 0) hx hb dX9_fails_19 (by decide) ?_
  exact retMz C rfl (by decide) (0, [], [], [], [], []) ⟨rfl, rfl⟩ hP hD hS (Nat.le_of_ble_eq_true rfl) (Nat.le_of_ble_eq_true rfl) dX9_fails_20

set_option maxHeartbeats 4000000 in
set_option maxRecDepth 100000 in
theorem c_X9_clauseHere_1 (l : Launch) (D : va_G) (a : Nat → ClassId) (q1 q2 q3 q4 q5 q6 q7 q8 q9 q10 q11 q12 q13 q14 q15 q16 q17 q18 q19 q20 q21 q22 q23 : Nat) (sz : Nat) : CMi (S := SS) l MX9_clauseHere 2 46 0 0 D a [.ref q1] [(q1, .inr (9, [.ref q2, .int 0, .int 0, .ref q3, .ref q4, .ref q5, .ref q6, .int 0, .int 0, .int 0, .ref q7, .ref q8, .int 0, .int 0, .int 0, .int 0, .int 0, .int 0, .int 0, .ref q9, .int 0, .ref q10, .int 0, .ref q11, .ref q12, .ref q13, .ref q14, .ref q15, .ref q16, .ref q17, .ref q18, .ref q19, .ref q20, .ref q21, .ref q22, .ref q23]))] sz (fun r u => (u = (0, [], [], [], [], []) ∧ r = 0)) (fun u => pk [[(q1, .inr (9, [.ref q2, .int 0, .int 0, .ref q3, .ref q4, .ref q5, .ref q6, .int 0, .int 0, .int 0, .ref q7, .ref q8, .int 0, .int 1, .int 0, .int 0, .int 0, .int 0, .int 0, .ref q9, .int 0, .ref q10, .int 0, .ref q11, .ref q12, .ref q13, .ref q14, .ref q15, .ref q16, .ref q17, .ref q18, .ref q19, .ref q20, .ref q21, .ref q22, .ref q23]))]] u.1) := by
  refine entMi (by decide) (Nat.le_of_ble_eq_true rfl) ?_
  intro p e s m below meth c C hK A hA hP hD ls hl
  obtain ⟨hx, hb, hml, hown, hts, hr, hlocks, hnm⟩ := id C
  have hb : c.code = cX9_clauseHere := hb
  have hown : s.vm.findClass RX9 = some m.cls := hown
  have hS : va_S A s.heap s.heap [] := va_S.rf
  have hl : lv_has ls 4 [(0, .ref q1)] := hl
  refine lv_aload_n hx hb dX9_clauseHere_0 rfl (lv_at hl 0 rfl) ?_
  refine aftRi (runV (As := []) (rest := []) C (c_X9_see_1 l D a q1 q2 q3 q4 q5 q6 q7 q8 q9 q10 q11 q12 q13 q14 q15 q16 q17 q18 q19 q20 q21 q22 q23) lk_V_9_93 (okN_X9_see) ⟨Nat.le_of_ble_eq_true rfl, Nat.le_of_ble_eq_true rfl⟩ ⟨rfl, rfl⟩ (preV (preR hK (P_of_map (wc := [(q1, .inr (9, [.ref q2, .int 0, .int 0, .ref q3, .ref q4, .ref q5, .ref q6, .int 0, .int 0, .int 0, .ref q7, .ref q8, .int 0, .int 0, .int 0, .int 0, .int 0, .int 0, .int 0, .ref q9, .int 0, .ref q10, .int 0, .ref q11, .ref q12, .ref q13, .ref q14, .ref q15, .ref q16, .ref q17, .ref q18, .ref q19, .ref q20, .ref q21, .ref q22, .ref q23]))]) hP [0] rfl)) (recvOf hK hP 0 rfl (ci := 9) rfl)) hl.1 rfl (Nat.le_of_ble_eq_true rfl) dX9_clauseHere_1 ⟨Nat.le_of_ble_eq_true rfl, Nat.le_of_ble_eq_true rfl⟩) (fun x2305 hw => ?_)
  obtain rfl := hw
  refine lv_pop hx hb dX9_clauseHere_4 rfl ?_
  refine lv_aload_n hx hb dX9_clauseHere_5 rfl (lv_at hl 0 rfl) ?_
  refine va_get (D := D) (v := .int 0) (C := RX9) (T := TX9) (N := 36) hx hb hts iX9 hown hK.1 hP 0 rfl rfl 12 (by decide) (hts _ t_894) (fun _ h9 => h9) rfl dX9_clauseHere_6 ?_
  refine lv_istore_n (lv' := [(1, .int 0), (0, .ref q1)]) hx hb dX9_clauseHere_9 rfl hl (by decide) rfl (fun ls hl => ?_)
  refine lv_aload_n hx hb dX9_clauseHere_10 rfl (lv_at hl 1 rfl) ?_
  refine va_get (D := D) (v := .int 0) (C := RX9) (T := TX9) (N := 36) hx hb hts iX9 hown hK.1 hP 0 rfl rfl 15 (by decide) (hts _ t_897) (fun _ h9 => h9) rfl dX9_clauseHere_11 ?_
  refine lv_bipush (v := 6) hx hb dX9_clauseHere_14 (by decide) ?_
  refine lv_icmp_ne (tgt := 23) hx hb dX9_clauseHere_16 (by decide) (fun c9 => ?_) (fun c9 => absurd c9 (by decide))
  refine lv_iconst (v := 0) hx hb dX9_clauseHere_23 (by decide) ?_
  refine lv_istore_n (lv' := [(2, .int 0), (1, .int 0), (0, .ref q1)]) hx hb dX9_clauseHere_24 rfl hl (by decide) rfl (fun ls hl => ?_)
  refine lv_iload_n hx hb dX9_clauseHere_25 rfl (lv_at hl 0 rfl) ?_
  refine lv_if_eq (tgt := 67) hx hb dX9_clauseHere_26 (by decide) (fun c9 => ?_) (fun c9 => absurd (by decide) c9)
  refine lv_aload_n hx hb dX9_clauseHere_67 rfl (lv_at hl 2 rfl) ?_
  refine lv_ldc2 hx hb hown (hts _ t_1031) dX9_clauseHere_68 ?_
  refine aftRi (runV (As := [.long 1819242347]) (rest := []) C (c_X9_isWord_3 l D a q1 q2 q3 q4 q5 q6 q7 q8 q9 q10 q11 q12 q13 q14 q15 q16 q17 q18 q19 q20 q21 q22 q23) lk_V_9_101 (okN_X9_isWord) ⟨Nat.le_of_ble_eq_true rfl, Nat.le_of_ble_eq_true rfl⟩ ⟨rfl, rfl⟩ (preV (preR hK (P_of_map (wc := [(q1, .inr (9, [.ref q2, .int 0, .int 0, .ref q3, .ref q4, .ref q5, .ref q6, .int 0, .int 0, .int 0, .ref q7, .ref q8, .int 0, .int 0, .int 0, .int 0, .int 0, .int 0, .int 0, .ref q9, .int 0, .ref q10, .int 0, .ref q11, .ref q12, .ref q13, .ref q14, .ref q15, .ref q16, .ref q17, .ref q18, .ref q19, .ref q20, .ref q21, .ref q22, .ref q23]))]) hP [0] rfl)) (recvOf hK hP 0 rfl (ci := 9) rfl)) hl.1 rfl (Nat.le_of_ble_eq_true rfl) dX9_clauseHere_71 ⟨Nat.le_of_ble_eq_true rfl, Nat.le_of_ble_eq_true rfl⟩) (fun x2315 hw => ?_)
  obtain rfl := hw
  refine lv_if_ne (tgt := 87) hx hb dX9_clauseHere_74 (by decide) (fun c9 => absurd (by decide) c9) (fun c9 => ?_)
  refine lv_aload_n hx hb dX9_clauseHere_77 rfl (lv_at hl 2 rfl) ?_
  refine lv_ldc2 hx hb hown (hts _ t_1032) dX9_clauseHere_78 ?_
  refine aftRi (runV (As := [.long 1937010544]) (rest := []) C (c_X9_isWord_4 l D a q1 q2 q3 q4 q5 q6 q7 q8 q9 q10 q11 q12 q13 q14 q15 q16 q17 q18 q19 q20 q21 q22 q23) lk_V_9_101 (okN_X9_isWord) ⟨Nat.le_of_ble_eq_true rfl, Nat.le_of_ble_eq_true rfl⟩ ⟨rfl, rfl⟩ (preV (preR hK (P_of_map (wc := [(q1, .inr (9, [.ref q2, .int 0, .int 0, .ref q3, .ref q4, .ref q5, .ref q6, .int 0, .int 0, .int 0, .ref q7, .ref q8, .int 0, .int 0, .int 0, .int 0, .int 0, .int 0, .int 0, .ref q9, .int 0, .ref q10, .int 0, .ref q11, .ref q12, .ref q13, .ref q14, .ref q15, .ref q16, .ref q17, .ref q18, .ref q19, .ref q20, .ref q21, .ref q22, .ref q23]))]) hP [0] rfl)) (recvOf hK hP 0 rfl (ci := 9) rfl)) hl.1 rfl (Nat.le_of_ble_eq_true rfl) dX9_clauseHere_81 ⟨Nat.le_of_ble_eq_true rfl, Nat.le_of_ble_eq_true rfl⟩) (fun x2325 hw => ?_)
  obtain rfl := hw
  refine lv_if_eq (tgt := 91) hx hb dX9_clauseHere_84 (by decide) (fun c9 => ?_) (fun c9 => absurd (by decide) c9)
  refine lv_iconst (v := 0) hx hb dX9_clauseHere_91 (by decide) ?_
  refine lv_istore_n (lv' := [(3, .int 0), (2, .int 0), (1, .int 0), (0, .ref q1)]) hx hb dX9_clauseHere_92 rfl hl (by decide) rfl (fun ls hl => ?_)
  refine lv_iload_n hx hb dX9_clauseHere_93 rfl (lv_at hl 0 rfl) ?_
  refine lv_if_ne (tgt := 104) hx hb dX9_clauseHere_94 (by decide) (fun c9 => absurd (by decide) c9) (fun c9 => ?_)
  refine lv_aload_n hx hb dX9_clauseHere_97 rfl (lv_at hl 3 rfl) ?_
  refine lv_iconst (v := 0) hx hb dX9_clauseHere_98 (by decide) ?_
  refine lv_iload_n hx hb dX9_clauseHere_99 rfl (lv_at hl 2 rfl) ?_
  refine afMi (runV (As := [.int 0, .int 0]) (rest := []) C (c_X9_fails_1 l D a q1 q2 q3 q4 q5 q6 q7 q8 q9 q10 q11 q12 q13 q14 q15 q16 q17 q18 q19 q20 q21 q22 q23 s.heap.size) lk_V_9_111 (okN_X9_fails) ⟨Nat.le_of_ble_eq_true rfl, Nat.le_of_ble_eq_true rfl⟩ ⟨rfl, rfl⟩ (preV (preM hK (P_of_map (wc := [(q1, .inr (9, [.ref q2, .int 0, .int 0, .ref q3, .ref q4, .ref q5, .ref q6, .int 0, .int 0, .int 0, .ref q7, .ref q8, .int 0, .int 0, .int 0, .int 0, .int 0, .int 0, .int 0, .ref q9, .int 0, .ref q10, .int 0, .ref q11, .ref q12, .ref q13, .ref q14, .ref q15, .ref q16, .ref q17, .ref q18, .ref q19, .ref q20, .ref q21, .ref q22, .ref q23]))]) hP [0] rfl) (hD.sub (ws' := [(q1, .inr (9, [.ref q2, .int 0, .int 0, .ref q3, .ref q4, .ref q5, .ref q6, .int 0, .int 0, .int 0, .ref q7, .ref q8, .int 0, .int 0, .int 0, .int 0, .int 0, .int 0, .int 0, .ref q9, .int 0, .ref q10, .int 0, .ref q11, .ref q12, .ref q13, .ref q14, .ref q15, .ref q16, .ref q17, .ref q18, .ref q19, .ref q20, .ref q21, .ref q22, .ref q23]))]) [0] (by decide) rfl)) (recvOf hK hP 0 rfl (ci := 9) rfl)) hl.1 rfl (Nat.le_of_ble_eq_true rfl) dX9_clauseHere_100 ⟨Nat.le_of_ble_eq_true rfl, Nat.le_of_ble_eq_true rfl⟩) hP hD hS hA [0] [] (wr := []) rfl rfl (by decide) (by decide) (fun x2331 u H locs hw hP hD hS => ?_)
  obtain ⟨rfl, rfl⟩ := hw
  have hP : va_P D classes [(q1, .inr (9, [.ref q2, .int 0, .int 0, .ref q3, .ref q4, .ref q5, .ref q6, .int 0, .int 0, .int 0, .ref q7, .ref q8, .int 0, .int 1, .int 0, .int 0, .int 0, .int 0, .int 0, .ref q9, .int 0, .ref q10, .int 0, .ref q11, .ref q12, .ref q13, .ref q14, .ref q15, .ref q16, .ref q17, .ref q18, .ref q19, .ref q20, .ref q21, .ref q22, .ref q23]))] H := hP
  have hD : va_D A [(q1, .inr (9, [.ref q2, .int 0, .int 0, .ref q3, .ref q4, .ref q5, .ref q6, .int 0, .int 0, .int 0, .ref q7, .ref q8, .int 0, .int 1, .int 0, .int 0, .int 0, .int 0, .int 0, .ref q9, .int 0, .ref q10, .int 0, .ref q11, .ref q12, .ref q13, .ref q14, .ref q15, .ref q16, .ref q17, .ref q18, .ref q19, .ref q20, .ref q21, .ref q22, .ref q23]))] := hD
  exact retMz C rfl (by decide) (0, [], [], [], [], []) ⟨rfl, rfl⟩ hP hD hS (Nat.le_of_ble_eq_true rfl) (Nat.le_of_ble_eq_true rfl) dX9_clauseHere_103

set_option maxHeartbeats 4000000 in
set_option maxRecDepth 100000 in
theorem c_X9_readsAll_1 (l : Launch) (D : va_G) (a : Nat → ClassId) (q1 q2 q3 q4 q5 q6 q7 q8 q9 q10 q11 q12 q13 q14 q15 q16 q17 q18 q19 q20 q21 q22 q23 : Nat) (sz : Nat) : CMi (S := SS) l MX9_readsAll 3 69 0 0 D a [.ref q1] [(q1, .inr (9, [.ref q2, .int 0, .int 0, .ref q3, .ref q4, .ref q5, .ref q6, .int 0, .int 0, .int 0, .ref q7, .ref q8, .int 0, .int 0, .int 0, .int 0, .int 0, .int 0, .int 0, .ref q9, .int 0, .ref q10, .int 0, .ref q11, .ref q12, .ref q13, .ref q14, .ref q15, .ref q16, .ref q17, .ref q18, .ref q19, .ref q20, .ref q21, .ref q22, .ref q23])), (q4, .inl (a 0, 7, .inl (fun _ => 0)))] sz (fun r u => (u = (0, [], [], [], [], []) ∧ r = 0)) (fun u => pk [[(q4, .inl (a 0, 7, .inl (upd (fun _ => 0) 0 0))), (q1, .inr (9, [.ref q2, .int 0, .int 0, .ref q3, .ref q4, .ref q5, .ref q6, .int 0, .int 0, .int 0, .ref q7, .ref q8, .int 0, .int 1, .int 0, .int 0, .int 0, .int 0, .int 0, .ref q9, .int 0, .ref q10, .int 0, .ref q11, .ref q12, .ref q13, .ref q14, .ref q15, .ref q16, .ref q17, .ref q18, .ref q19, .ref q20, .ref q21, .ref q22, .ref q23]))]] u.1) := by
  refine entMi (by decide) (Nat.le_of_ble_eq_true rfl) ?_
  intro p e s m below meth c C hK A hA hP hD ls hl
  obtain ⟨hx, hb, hml, hown, hts, hr, hlocks, hnm⟩ := id C
  have hb : c.code = cX9_readsAll := hb
  have hown : s.vm.findClass RX9 = some m.cls := hown
  have hS : va_S A s.heap s.heap [] := va_S.rf
  have hl : lv_has ls 2 [(0, .ref q1)] := hl
  refine lv_aload_n hx hb dX9_readsAll_0 rfl (lv_at hl 0 rfl) ?_
  refine va_get (D := D) (v := .ref q4) (C := RX9) (T := TX9) (N := 36) hx hb hts iX9 hown hK.1 hP 0 rfl rfl 4 (by decide) (hts _ t_886) (fun _ h9 => h9) rfl dX9_readsAll_1 ?_
  refine lv_aload_n hx hb dX9_readsAll_4 rfl (lv_at hl 0 rfl) ?_
  refine va_get (D := D) (v := .int 0) (C := RX9) (T := TX9) (N := 36) hx hb hts iX9 hown hK.1 hP 0 rfl rfl 15 (by decide) (hts _ t_897) (fun _ h9 => h9) rfl dX9_readsAll_5 ?_
  refine lv_iconst (v := 0) hx hb dX9_readsAll_8 (by decide) ?_
  refine ast_i hx hb hK.1 hP hD hS 1 0 rfl rfl 0 (ix_lit (by decide)) dX9_readsAll_9 (fun H locs hP hD hS => ?_)
  have hP : va_P D classes [(q1, .inr (9, [.ref q2, .int 0, .int 0, .ref q3, .ref q4, .ref q5, .ref q6, .int 0, .int 0, .int 0, .ref q7, .ref q8, .int 0, .int 0, .int 0, .int 0, .int 0, .int 0, .int 0, .ref q9, .int 0, .ref q10, .int 0, .ref q11, .ref q12, .ref q13, .ref q14, .ref q15, .ref q16, .ref q17, .ref q18, .ref q19, .ref q20, .ref q21, .ref q22, .ref q23])), (q4, .inl (a 0, 7, .inl (upd (fun _ => 0) 0 0)))] H := hP
  have hD : va_D A [(q1, .inr (9, [.ref q2, .int 0, .int 0, .ref q3, .ref q4, .ref q5, .ref q6, .int 0, .int 0, .int 0, .ref q7, .ref q8, .int 0, .int 0, .int 0, .int 0, .int 0, .int 0, .int 0, .ref q9, .int 0, .ref q10, .int 0, .ref q11, .ref q12, .ref q13, .ref q14, .ref q15, .ref q16, .ref q17, .ref q18, .ref q19, .ref q20, .ref q21, .ref q22, .ref q23])), (q4, .inl (a 0, 7, .inl (upd (fun _ => 0) 0 0)))] := hD
  refine lv_aload_n hx hb dX9_readsAll_10 rfl (lv_at hl 0 rfl) ?_
  refine lv_iconst (v := 0) hx hb dX9_readsAll_11 (by decide) ?_
  refine va_put (D := D) (v := .int 0) (C := RX9) (T := TX9) (N := 36) hx hb hts iX9 tyX9 tyX9_ok nmX9 hown hK.1 hP hD hS 0 rfl rfl 18 (by decide) (hts _ t_900) (fun _ h9 => h9) rfl (tyX9_ok 18 (by decide)) rfl rfl (Nat.le_of_ble_eq_true rfl) dX9_readsAll_12 (fun H locs hP hD hS => ?_)
  have hP : va_P D classes [(q1, .inr (9, [.ref q2, .int 0, .int 0, .ref q3, .ref q4, .ref q5, .ref q6, .int 0, .int 0, .int 0, .ref q7, .ref q8, .int 0, .int 0, .int 0, .int 0, .int 0, .int 0, .int 0, .ref q9, .int 0, .ref q10, .int 0, .ref q11, .ref q12, .ref q13, .ref q14, .ref q15, .ref q16, .ref q17, .ref q18, .ref q19, .ref q20, .ref q21, .ref q22, .ref q23])), (q4, .inl (a 0, 7, .inl (upd (fun _ => 0) 0 0)))] H := hP
  have hD : va_D A [(q1, .inr (9, [.ref q2, .int 0, .int 0, .ref q3, .ref q4, .ref q5, .ref q6, .int 0, .int 0, .int 0, .ref q7, .ref q8, .int 0, .int 0, .int 0, .int 0, .int 0, .int 0, .int 0, .ref q9, .int 0, .ref q10, .int 0, .ref q11, .ref q12, .ref q13, .ref q14, .ref q15, .ref q16, .ref q17, .ref q18, .ref q19, .ref q20, .ref q21, .ref q22, .ref q23])), (q4, .inl (a 0, 7, .inl (upd (fun _ => 0) 0 0)))] := hD
  refine lv_aload_n hx hb dX9_readsAll_15 rfl (lv_at hl 0 rfl) ?_
  refine lv_iconst (v := 0) hx hb dX9_readsAll_16 (by decide) ?_
  refine va_put (D := D) (v := .int 0) (C := RX9) (T := TX9) (N := 36) hx hb hts iX9 tyX9 tyX9_ok nmX9 hown hK.1 hP hD hS 0 rfl rfl 12 (by decide) (hts _ t_894) (fun _ h9 => h9) rfl (tyX9_ok 12 (by decide)) rfl rfl (Nat.le_of_ble_eq_true rfl) dX9_readsAll_17 (fun H locs hP hD hS => ?_)
  have hP : va_P D classes [(q1, .inr (9, [.ref q2, .int 0, .int 0, .ref q3, .ref q4, .ref q5, .ref q6, .int 0, .int 0, .int 0, .ref q7, .ref q8, .int 0, .int 0, .int 0, .int 0, .int 0, .int 0, .int 0, .ref q9, .int 0, .ref q10, .int 0, .ref q11, .ref q12, .ref q13, .ref q14, .ref q15, .ref q16, .ref q17, .ref q18, .ref q19, .ref q20, .ref q21, .ref q22, .ref q23])), (q4, .inl (a 0, 7, .inl (upd (fun _ => 0) 0 0)))] H := hP
  have hD : va_D A [(q1, .inr (9, [.ref q2, .int 0, .int 0, .ref q3, .ref q4, .ref q5, .ref q6, .int 0, .int 0, .int 0, .ref q7, .ref q8, .int 0, .int 0, .int 0, .int 0, .int 0, .int 0, .int 0, .ref q9, .int 0, .ref q10, .int 0, .ref q11, .ref q12, .ref q13, .ref q14, .ref q15, .ref q16, .ref q17, .ref q18, .ref q19, .ref q20, .ref q21, .ref q22, .ref q23])), (q4, .inl (a 0, 7, .inl (upd (fun _ => 0) 0 0)))] := hD
  refine lv_aload_n hx hb dX9_readsAll_20 rfl (lv_at hl 0 rfl) ?_
  refine lv_iconst (v := 0) hx hb dX9_readsAll_21 (by decide) ?_
  refine va_put (D := D) (v := .int 0) (C := RX9) (T := TX9) (N := 36) hx hb hts iX9 tyX9 tyX9_ok nmX9 hown hK.1 hP hD hS 0 rfl rfl 13 (by decide) (hts _ t_895) (fun _ h9 => h9) rfl (tyX9_ok 13 (by decide)) rfl rfl (Nat.le_of_ble_eq_true rfl) dX9_readsAll_22 (fun H locs hP hD hS => ?_)
  have hP : va_P D classes [(q1, .inr (9, [.ref q2, .int 0, .int 0, .ref q3, .ref q4, .ref q5, .ref q6, .int 0, .int 0, .int 0, .ref q7, .ref q8, .int 0, .int 0, .int 0, .int 0, .int 0, .int 0, .int 0, .ref q9, .int 0, .ref q10, .int 0, .ref q11, .ref q12, .ref q13, .ref q14, .ref q15, .ref q16, .ref q17, .ref q18, .ref q19, .ref q20, .ref q21, .ref q22, .ref q23])), (q4, .inl (a 0, 7, .inl (upd (fun _ => 0) 0 0)))] H := hP
  have hD : va_D A [(q1, .inr (9, [.ref q2, .int 0, .int 0, .ref q3, .ref q4, .ref q5, .ref q6, .int 0, .int 0, .int 0, .ref q7, .ref q8, .int 0, .int 0, .int 0, .int 0, .int 0, .int 0, .int 0, .ref q9, .int 0, .ref q10, .int 0, .ref q11, .ref q12, .ref q13, .ref q14, .ref q15, .ref q16, .ref q17, .ref q18, .ref q19, .ref q20, .ref q21, .ref q22, .ref q23])), (q4, .inl (a 0, 7, .inl (upd (fun _ => 0) 0 0)))] := hD
  refine lv_aload_n hx hb dX9_readsAll_25 rfl (lv_at hl 0 rfl) ?_
  refine lv_iconst (v := 0) hx hb dX9_readsAll_26 (by decide) ?_
  refine va_put (D := D) (v := .int 0) (C := RX9) (T := TX9) (N := 36) hx hb hts iX9 tyX9 tyX9_ok nmX9 hown hK.1 hP hD hS 0 rfl rfl 16 (by decide) (hts _ t_898) (fun _ h9 => h9) rfl (tyX9_ok 16 (by decide)) rfl rfl (Nat.le_of_ble_eq_true rfl) dX9_readsAll_27 (fun H locs hP hD hS => ?_)
  have hP : va_P D classes [(q1, .inr (9, [.ref q2, .int 0, .int 0, .ref q3, .ref q4, .ref q5, .ref q6, .int 0, .int 0, .int 0, .ref q7, .ref q8, .int 0, .int 0, .int 0, .int 0, .int 0, .int 0, .int 0, .ref q9, .int 0, .ref q10, .int 0, .ref q11, .ref q12, .ref q13, .ref q14, .ref q15, .ref q16, .ref q17, .ref q18, .ref q19, .ref q20, .ref q21, .ref q22, .ref q23])), (q4, .inl (a 0, 7, .inl (upd (fun _ => 0) 0 0)))] H := hP
  have hD : va_D A [(q1, .inr (9, [.ref q2, .int 0, .int 0, .ref q3, .ref q4, .ref q5, .ref q6, .int 0, .int 0, .int 0, .ref q7, .ref q8, .int 0, .int 0, .int 0, .int 0, .int 0, .int 0, .int 0, .ref q9, .int 0, .ref q10, .int 0, .ref q11, .ref q12, .ref q13, .ref q14, .ref q15, .ref q16, .ref q17, .ref q18, .ref q19, .ref q20, .ref q21, .ref q22, .ref q23])), (q4, .inl (a 0, 7, .inl (upd (fun _ => 0) 0 0)))] := hD
  refine lv_aload_n hx hb dX9_readsAll_30 rfl (lv_at hl 0 rfl) ?_
  refine afMi (runV (As := []) (rest := []) C (c_X9_clauseHere_1 l D a q1 q2 q3 q4 q5 q6 q7 q8 q9 q10 q11 q12 q13 q14 q15 q16 q17 q18 q19 q20 q21 q22 q23 H.size) lk_V_9_244 (okN_X9_clauseHere) ⟨Nat.le_of_ble_eq_true rfl, Nat.le_of_ble_eq_true rfl⟩ ⟨rfl, rfl⟩ (preV (preM hK (P_of_map (wc := [(q1, .inr (9, [.ref q2, .int 0, .int 0, .ref q3, .ref q4, .ref q5, .ref q6, .int 0, .int 0, .int 0, .ref q7, .ref q8, .int 0, .int 0, .int 0, .int 0, .int 0, .int 0, .int 0, .ref q9, .int 0, .ref q10, .int 0, .ref q11, .ref q12, .ref q13, .ref q14, .ref q15, .ref q16, .ref q17, .ref q18, .ref q19, .ref q20, .ref q21, .ref q22, .ref q23]))]) hP [0] rfl) (hD.sub (ws' := [(q1, .inr (9, [.ref q2, .int 0, .int 0, .ref q3, .ref q4, .ref q5, .ref q6, .int 0, .int 0, .int 0, .ref q7, .ref q8, .int 0, .int 0, .int 0, .int 0, .int 0, .int 0, .int 0, .ref q9, .int 0, .ref q10, .int 0, .ref q11, .ref q12, .ref q13, .ref q14, .ref q15, .ref q16, .ref q17, .ref q18, .ref q19, .ref q20, .ref q21, .ref q22, .ref q23]))]) [0] (by decide) rfl)) (recvOf hK hP 0 rfl (ci := 9) rfl)) hl.1 rfl (Nat.le_of_ble_eq_true rfl) dX9_readsAll_31 ⟨Nat.le_of_ble_eq_true rfl, Nat.le_of_ble_eq_true rfl⟩) hP hD hS hA [0] [1] (wr := [(q4, .inl (a 0, 7, .inl (upd (fun _ => 0) 0 0)))]) rfl rfl (by decide) (by decide) (fun x2366 u H locs hw hP hD hS => ?_)
  obtain ⟨rfl, rfl⟩ := hw
  have hP : va_P D classes [(q4, .inl (a 0, 7, .inl (upd (fun _ => 0) 0 0))), (q1, .inr (9, [.ref q2, .int 0, .int 0, .ref q3, .ref q4, .ref q5, .ref q6, .int 0, .int 0, .int 0, .ref q7, .ref q8, .int 0, .int 1, .int 0, .int 0, .int 0, .int 0, .int 0, .ref q9, .int 0, .ref q10, .int 0, .ref q11, .ref q12, .ref q13, .ref q14, .ref q15, .ref q16, .ref q17, .ref q18, .ref q19, .ref q20, .ref q21, .ref q22, .ref q23]))] H := hP
  have hD : va_D A [(q4, .inl (a 0, 7, .inl (upd (fun _ => 0) 0 0))), (q1, .inr (9, [.ref q2, .int 0, .int 0, .ref q3, .ref q4, .ref q5, .ref q6, .int 0, .int 0, .int 0, .ref q7, .ref q8, .int 0, .int 1, .int 0, .int 0, .int 0, .int 0, .int 0, .ref q9, .int 0, .ref q10, .int 0, .ref q11, .ref q12, .ref q13, .ref q14, .ref q15, .ref q16, .ref q17, .ref q18, .ref q19, .ref q20, .ref q21, .ref q22, .ref q23]))] := hD
  refine lv_istore_n (lv' := [(1, .int 0), (0, .ref q1)]) hx hb dX9_readsAll_34 rfl hl (by decide) rfl (fun ls hl => ?_)
  refine lv_iload_n hx hb dX9_readsAll_35 rfl (lv_at hl 0 rfl) ?_
  refine lv_if_eq (tgt := 66) hx hb dX9_readsAll_36 (by decide) (fun c9 => ?_) (fun c9 => absurd (by decide) c9)
  refine lv_iload_n hx hb dX9_readsAll_66 rfl (lv_at hl 0 rfl) ?_
  refine lv_if_eq (tgt := 88) hx hb dX9_readsAll_67 (by decide) (fun c9 => ?_) (fun c9 => absurd (by decide) c9)
  refine lv_iload_n hx hb dX9_readsAll_88 rfl (lv_at hl 0 rfl) ?_
  refine lv_if_eq (tgt := 118) hx hb dX9_readsAll_89 (by decide) (fun c9 => ?_) (fun c9 => absurd (by decide) c9)
  refine lv_aload_n hx hb dX9_readsAll_118 rfl (lv_at hl 1 rfl) ?_
  refine lv_iconst (v := 0) hx hb dX9_readsAll_119 (by decide) ?_
  refine va_put (D := D) (v := .int 0) (C := RX9) (T := TX9) (N := 36) hx hb hts iX9 tyX9 tyX9_ok nmX9 hown hK.1 hP hD hS 1 rfl rfl 1 (by decide) (hts _ t_883) (fun _ h9 => h9) rfl (tyX9_ok 1 (by decide)) rfl rfl (Nat.le_of_ble_eq_true rfl) dX9_readsAll_120 (fun H locs hP hD hS => ?_)
  have hP : va_P D classes [(q4, .inl (a 0, 7, .inl (upd (fun _ => 0) 0 0))), (q1, .inr (9, [.ref q2, .int 0, .int 0, .ref q3, .ref q4, .ref q5, .ref q6, .int 0, .int 0, .int 0, .ref q7, .ref q8, .int 0, .int 1, .int 0, .int 0, .int 0, .int 0, .int 0, .ref q9, .int 0, .ref q10, .int 0, .ref q11, .ref q12, .ref q13, .ref q14, .ref q15, .ref q16, .ref q17, .ref q18, .ref q19, .ref q20, .ref q21, .ref q22, .ref q23]))] H := hP
  have hD : va_D A [(q4, .inl (a 0, 7, .inl (upd (fun _ => 0) 0 0))), (q1, .inr (9, [.ref q2, .int 0, .int 0, .ref q3, .ref q4, .ref q5, .ref q6, .int 0, .int 0, .int 0, .ref q7, .ref q8, .int 0, .int 1, .int 0, .int 0, .int 0, .int 0, .int 0, .ref q9, .int 0, .ref q10, .int 0, .ref q11, .ref q12, .ref q13, .ref q14, .ref q15, .ref q16, .ref q17, .ref q18, .ref q19, .ref q20, .ref q21, .ref q22, .ref q23]))] := hD
  refine lv_aload_n hx hb dX9_readsAll_123 rfl (lv_at hl 1 rfl) ?_
  refine va_get (D := D) (v := .int 1) (C := RX9) (T := TX9) (N := 36) hx hb hts iX9 hown hK.1 hP 1 rfl rfl 13 (by decide) (hts _ t_895) (fun _ h9 => h9) rfl dX9_readsAll_124 ?_
  refine lv_if_ne (tgt := 134) hx hb dX9_readsAll_127 (by decide) (fun c9 => ?_) (fun c9 => absurd c9 (by decide))
  refine lv_iconst (v := 0) hx hb dX9_readsAll_134 (by decide) ?_
  exact retMz C rfl (by decide) (0, [], [], [], [], []) ⟨rfl, rfl⟩ hP hD hS (Nat.le_of_ble_eq_true rfl) (Nat.le_of_ble_eq_true rfl) dX9_readsAll_135

set_option maxHeartbeats 4000000 in
set_option maxRecDepth 100000 in
theorem c_X9_rule_0 (l : Launch) (D : va_G) (a : Nat → ClassId) (q1 q2 q3 q4 q5 q6 q7 q8 q9 q10 q11 q12 q13 q14 q15 q16 q17 q18 q19 q20 q21 q22 q23 : Nat) (sz : Nat) : CMi (S := SS) l MX9_rule 4 90 0 0 D a [.ref q1] [(q1, .inr (9, [.ref q2, .int 0, .int 0, .ref q3, .ref q4, .ref q5, .ref q6, .int 0, .int 0, .int 0, .ref q7, .ref q8, .int 0, .int 0, .int 0, .int 0, .int 0, .int 0, .int 0, .ref q9, .int 0, .ref q10, .int 0, .ref q11, .ref q12, .ref q13, .ref q14, .ref q15, .ref q16, .ref q17, .ref q18, .ref q19, .ref q20, .ref q21, .ref q22, .ref q23])), (q4, .inl (a 0, 7, .inl (fun _ => 0))), (q6, .inl (a 0, 6, .inl (fun _ => 0)))] sz (fun r u => (u = (0, [], [], [], [], []) ∧ r = (-3))) (fun u => pk [[(q6, .inl (a 0, 6, .inl (upd (fun _ => 0) 0 0))), (q4, .inl (a 0, 7, .inl (upd (fun _ => 0) 0 0))), (q1, .inr (9, [.ref q2, .int 0, .int 0, .ref q3, .ref q4, .ref q5, .ref q6, .int 0, .int 0, .int 0, .ref q7, .ref q8, .int 0, .int 1, .int 0, .int 0, .int 0, .int 0, .int 0, .ref q9, .int 0, .ref q10, .int 0, .ref q11, .ref q12, .ref q13, .ref q14, .ref q15, .ref q16, .ref q17, .ref q18, .ref q19, .ref q20, .ref q21, .ref q22, .ref q23]))]] u.1) := by
  refine entMi (by decide) (Nat.le_of_ble_eq_true rfl) ?_
  intro p e s m below meth c C hK A hA hP hD ls hl
  obtain ⟨hx, hb, hml, hown, hts, hr, hlocks, hnm⟩ := id C
  have hb : c.code = cX9_rule := hb
  have hown : s.vm.findClass RX9 = some m.cls := hown
  have hS : va_S A s.heap s.heap [] := va_S.rf
  have hl : lv_has ls 1 [(0, .ref q1)] := hl
  refine lv_aload_n hx hb dX9_rule_0 rfl (lv_at hl 0 rfl) ?_
  refine va_get (D := D) (v := .int 0) (C := RX9) (T := TX9) (N := 36) hx hb hts iX9 hown hK.1 hP 0 rfl rfl 2 (by decide) (hts _ t_884) (fun _ h9 => h9) rfl dX9_rule_1 ?_
  refine lv_bipush (v := 6) hx hb dX9_rule_4 (by decide) ?_
  refine lv_icmp_ne (tgt := 11) hx hb dX9_rule_6 (by decide) (fun c9 => ?_) (fun c9 => absurd c9 (by decide))
  refine lv_aload_n hx hb dX9_rule_11 rfl (lv_at hl 0 rfl) ?_
  refine lv_aload_n hx hb dX9_rule_12 rfl (lv_at hl 0 rfl) ?_
  refine va_get (D := D) (v := .int 0) (C := RX9) (T := TX9) (N := 36) hx hb hts iX9 hown hK.1 hP 0 rfl rfl 2 (by decide) (hts _ t_884) (fun _ h9 => h9) rfl dX9_rule_13 ?_
  refine va_put (D := D) (v := .int 0) (C := RX9) (T := TX9) (N := 36) hx hb hts iX9 tyX9 tyX9_ok nmX9 hown hK.1 hP hD hS 0 rfl rfl 15 (by decide) (hts _ t_897) (fun _ h9 => h9) rfl (tyX9_ok 15 (by decide)) rfl rfl (Nat.le_of_ble_eq_true rfl) dX9_rule_16 (fun H locs hP hD hS => ?_)
  have hP : va_P D classes [(q1, .inr (9, [.ref q2, .int 0, .int 0, .ref q3, .ref q4, .ref q5, .ref q6, .int 0, .int 0, .int 0, .ref q7, .ref q8, .int 0, .int 0, .int 0, .int 0, .int 0, .int 0, .int 0, .ref q9, .int 0, .ref q10, .int 0, .ref q11, .ref q12, .ref q13, .ref q14, .ref q15, .ref q16, .ref q17, .ref q18, .ref q19, .ref q20, .ref q21, .ref q22, .ref q23])), (q4, .inl (a 0, 7, .inl (fun _ => 0))), (q6, .inl (a 0, 6, .inl (fun _ => 0)))] H := hP
  have hD : va_D A [(q1, .inr (9, [.ref q2, .int 0, .int 0, .ref q3, .ref q4, .ref q5, .ref q6, .int 0, .int 0, .int 0, .ref q7, .ref q8, .int 0, .int 0, .int 0, .int 0, .int 0, .int 0, .int 0, .ref q9, .int 0, .ref q10, .int 0, .ref q11, .ref q12, .ref q13, .ref q14, .ref q15, .ref q16, .ref q17, .ref q18, .ref q19, .ref q20, .ref q21, .ref q22, .ref q23])), (q4, .inl (a 0, 7, .inl (fun _ => 0))), (q6, .inl (a 0, 6, .inl (fun _ => 0)))] := hD
  refine lv_aload_n hx hb dX9_rule_19 rfl (lv_at hl 0 rfl) ?_
  refine va_get (D := D) (v := .ref q6) (C := RX9) (T := TX9) (N := 36) hx hb hts iX9 hown hK.1 hP 0 rfl rfl 6 (by decide) (hts _ t_888) (fun _ h9 => h9) rfl dX9_rule_20 ?_
  refine lv_aload_n hx hb dX9_rule_23 rfl (lv_at hl 0 rfl) ?_
  refine va_get (D := D) (v := .int 0) (C := RX9) (T := TX9) (N := 36) hx hb hts iX9 hown hK.1 hP 0 rfl rfl 15 (by decide) (hts _ t_897) (fun _ h9 => h9) rfl dX9_rule_24 ?_
  refine lv_iconst (v := 0) hx hb dX9_rule_27 (by decide) ?_
  refine ast_i hx hb hK.1 hP hD hS 2 0 rfl rfl 0 (ix_lit (by decide)) dX9_rule_28 (fun H locs hP hD hS => ?_)
  have hP : va_P D classes [(q1, .inr (9, [.ref q2, .int 0, .int 0, .ref q3, .ref q4, .ref q5, .ref q6, .int 0, .int 0, .int 0, .ref q7, .ref q8, .int 0, .int 0, .int 0, .int 0, .int 0, .int 0, .int 0, .ref q9, .int 0, .ref q10, .int 0, .ref q11, .ref q12, .ref q13, .ref q14, .ref q15, .ref q16, .ref q17, .ref q18, .ref q19, .ref q20, .ref q21, .ref q22, .ref q23])), (q4, .inl (a 0, 7, .inl (fun _ => 0))), (q6, .inl (a 0, 6, .inl (upd (fun _ => 0) 0 0)))] H := hP
  have hD : va_D A [(q1, .inr (9, [.ref q2, .int 0, .int 0, .ref q3, .ref q4, .ref q5, .ref q6, .int 0, .int 0, .int 0, .ref q7, .ref q8, .int 0, .int 0, .int 0, .int 0, .int 0, .int 0, .int 0, .ref q9, .int 0, .ref q10, .int 0, .ref q11, .ref q12, .ref q13, .ref q14, .ref q15, .ref q16, .ref q17, .ref q18, .ref q19, .ref q20, .ref q21, .ref q22, .ref q23])), (q4, .inl (a 0, 7, .inl (fun _ => 0))), (q6, .inl (a 0, 6, .inl (upd (fun _ => 0) 0 0)))] := hD
  refine lv_aload_n hx hb dX9_rule_29 rfl (lv_at hl 0 rfl) ?_
  refine afMi (runV (As := []) (rest := []) C (c_X9_readsAll_1 l D a q1 q2 q3 q4 q5 q6 q7 q8 q9 q10 q11 q12 q13 q14 q15 q16 q17 q18 q19 q20 q21 q22 q23 H.size) lk_V_9_250 (okN_X9_readsAll) ⟨Nat.le_of_ble_eq_true rfl, Nat.le_of_ble_eq_true rfl⟩ ⟨rfl, rfl⟩ (preV (preM hK (P_of_map (wc := [(q1, .inr (9, [.ref q2, .int 0, .int 0, .ref q3, .ref q4, .ref q5, .ref q6, .int 0, .int 0, .int 0, .ref q7, .ref q8, .int 0, .int 0, .int 0, .int 0, .int 0, .int 0, .int 0, .ref q9, .int 0, .ref q10, .int 0, .ref q11, .ref q12, .ref q13, .ref q14, .ref q15, .ref q16, .ref q17, .ref q18, .ref q19, .ref q20, .ref q21, .ref q22, .ref q23])), (q4, .inl (a 0, 7, .inl (fun _ => 0)))]) hP [0, 1] rfl) (hD.sub (ws' := [(q1, .inr (9, [.ref q2, .int 0, .int 0, .ref q3, .ref q4, .ref q5, .ref q6, .int 0, .int 0, .int 0, .ref q7, .ref q8, .int 0, .int 0, .int 0, .int 0, .int 0, .int 0, .int 0, .ref q9, .int 0, .ref q10, .int 0, .ref q11, .ref q12, .ref q13, .ref q14, .ref q15, .ref q16, .ref q17, .ref q18, .ref q19, .ref q20, .ref q21, .ref q22, .ref q23])), (q4, .inl (a 0, 7, .inl (fun _ => 0)))]) [0, 1] (by decide) rfl)) (recvOf hK hP 0 rfl (ci := 9) rfl)) hl.1 rfl (Nat.le_of_ble_eq_true rfl) dX9_rule_30 ⟨Nat.le_of_ble_eq_true rfl, Nat.le_of_ble_eq_true rfl⟩) hP hD hS hA [0, 1] [2] (wr := [(q6, .inl (a 0, 6, .inl (upd (fun _ => 0) 0 0)))]) rfl rfl (by decide) (by decide) (fun x2405 u H locs hw hP hD hS => ?_)
  obtain ⟨rfl, rfl⟩ := hw
  have hP : va_P D classes [(q6, .inl (a 0, 6, .inl (upd (fun _ => 0) 0 0))), (q4, .inl (a 0, 7, .inl (upd (fun _ => 0) 0 0))), (q1, .inr (9, [.ref q2, .int 0, .int 0, .ref q3, .ref q4, .ref q5, .ref q6, .int 0, .int 0, .int 0, .ref q7, .ref q8, .int 0, .int 1, .int 0, .int 0, .int 0, .int 0, .int 0, .ref q9, .int 0, .ref q10, .int 0, .ref q11, .ref q12, .ref q13, .ref q14, .ref q15, .ref q16, .ref q17, .ref q18, .ref q19, .ref q20, .ref q21, .ref q22, .ref q23]))] H := hP
  have hD : va_D A [(q6, .inl (a 0, 6, .inl (upd (fun _ => 0) 0 0))), (q4, .inl (a 0, 7, .inl (upd (fun _ => 0) 0 0))), (q1, .inr (9, [.ref q2, .int 0, .int 0, .ref q3, .ref q4, .ref q5, .ref q6, .int 0, .int 0, .int 0, .ref q7, .ref q8, .int 0, .int 1, .int 0, .int 0, .int 0, .int 0, .int 0, .ref q9, .int 0, .ref q10, .int 0, .ref q11, .ref q12, .ref q13, .ref q14, .ref q15, .ref q16, .ref q17, .ref q18, .ref q19, .ref q20, .ref q21, .ref q22, .ref q23]))] := hD
  refine lv_if_ne (tgt := 44) hx hb dX9_rule_33 (by decide) (fun c9 => absurd (by decide) c9) (fun c9 => ?_)
  refine lv_bipush (v := (-2)) hx hb dX9_rule_36 (by decide) ?_
  refine lv_aload_n hx hb dX9_rule_38 rfl (lv_at hl 0 rfl) ?_
  refine va_get (D := D) (v := .int 1) (C := RX9) (T := TX9) (N := 36) hx hb hts iX9 hown hK.1 hP 2 rfl rfl 13 (by decide) (hts _ t_895) (fun _ h9 => h9) rfl dX9_rule_39 ?_
  refine lv_isub hx hb dX9_rule_42 ?_
  refine lv_topi (fun x2408 ex2408 => ?_)
  obtain rfl : x2408 = (-3) := ex2408.trans (by decide)
  exact retMi C rfl (0, [], [], [], [], []) ⟨rfl, rfl⟩ hP hD hS (Nat.le_of_ble_eq_true rfl) (Nat.le_of_ble_eq_true rfl) dX9_rule_43

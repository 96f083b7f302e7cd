set_option maxHeartbeats 4000000 in
set_option maxRecDepth 100000 in
theorem c_X8_at_0 (l : Launch) (D : va_G) (a : Nat → ClassId) (q1 : Nat) : CRi l MX8_at 0 0 D a [.ref q1, .int 0] [(q1, .inl (a 0, 8, .inl (fun _ => 0)))] (fun r => (r = 0)) := by
  refine entR (by decide) (Nat.le_of_ble_eq_true rfl) ?_
  intro p e s m below meth c C hK hP ls hl
  obtain ⟨hx, hb, hml, hown, hts, hr, hlocks, hnm⟩ := id C
  have hb : c.code = cX8_at := hb
  have hown : s.vm.findClass RX8 = some m.cls := hown
  have hl : lv_has ls 2 [(0, .ref q1), (1, .int 0)] := hl
  refine lv_iload_n hx hb dX8_at_0 rfl (lv_at hl 1 rfl) ?_
  refine lv_if_lt (tgt := 16) hx hb dX8_at_1 (by decide) (fun c9 => absurd c9 (by decide)) (fun c9 => ?_)
  refine lv_iload_n hx hb dX8_at_4 rfl (lv_at hl 1 rfl) ?_
  refine lv_aload_n hx hb dX8_at_5 rfl (lv_at hl 0 rfl) ?_
  refine va_alen (v := 8) hx hb hK.1 hP 0 0 rfl rfl rfl dX8_at_6 ?_
  refine lv_icmp_ge (tgt := 16) hx hb dX8_at_7 (by decide) (fun c9 => absurd c9 (by decide)) (fun c9 => ?_)
  refine lv_aload_n hx hb dX8_at_10 rfl (lv_at hl 0 rfl) ?_
  refine lv_iload_n hx hb dX8_at_11 rfl (lv_at hl 1 rfl) ?_
  refine ald_i hx hb hK.1 hP 0 0 rfl rfl 0 (ix_lit (by decide)) dX8_at_12 ?_
  refine lv_goto (tgt := 17) hx hb dX8_at_13 (by decide) ?_
  exact retRi C rfl rfl dX8_at_17

set_option maxHeartbeats 4000000 in
set_option maxRecDepth 100000 in
theorem c_X8_at_1 (l : Launch) (D : va_G) (a : Nat → ClassId) (q1 : Nat) : CRi l MX8_at 0 0 D a [.ref q1, .int 2] [(q1, .inl (a 0, 8, .inl (fun _ => 0)))] (fun r => (r = 0)) := by
  refine entR (by decide) (Nat.le_of_ble_eq_true rfl) ?_
  intro p e s m below meth c C hK hP ls hl
  obtain ⟨hx, hb, hml, hown, hts, hr, hlocks, hnm⟩ := id C
  have hb : c.code = cX8_at := hb
  have hown : s.vm.findClass RX8 = some m.cls := hown
  have hl : lv_has ls 2 [(0, .ref q1), (1, .int 2)] := hl
  refine lv_iload_n hx hb dX8_at_0 rfl (lv_at hl 1 rfl) ?_
  refine lv_if_lt (tgt := 16) hx hb dX8_at_1 (by decide) (fun c9 => absurd c9 (by decide)) (fun c9 => ?_)
  refine lv_iload_n hx hb dX8_at_4 rfl (lv_at hl 1 rfl) ?_
  refine lv_aload_n hx hb dX8_at_5 rfl (lv_at hl 0 rfl) ?_
  refine va_alen (v := 8) hx hb hK.1 hP 0 0 rfl rfl rfl dX8_at_6 ?_
  refine lv_icmp_ge (tgt := 16) hx hb dX8_at_7 (by decide) (fun c9 => absurd c9 (by decide)) (fun c9 => ?_)
  refine lv_aload_n hx hb dX8_at_10 rfl (lv_at hl 0 rfl) ?_
  refine lv_iload_n hx hb dX8_at_11 rfl (lv_at hl 1 rfl) ?_
  refine ald_i hx hb hK.1 hP 0 0 rfl rfl 2 (ix_lit (by decide)) dX8_at_12 ?_
  refine lv_goto (tgt := 17) hx hb dX8_at_13 (by decide) ?_
  exact retRi C rfl rfl dX8_at_17

set_option maxHeartbeats 4000000 in
set_option maxRecDepth 100000 in
theorem c_X8_at_2 (l : Launch) (D : va_G) (a : Nat → ClassId) (q1 : Nat) : CRi l MX8_at 0 0 D a [.ref q1, .int 4] [(q1, .inl (a 0, 8, .inl (fun _ => 0)))] (fun r => (r = 0)) := by
  refine entR (by decide) (Nat.le_of_ble_eq_true rfl) ?_
  intro p e s m below meth c C hK hP ls hl
  obtain ⟨hx, hb, hml, hown, hts, hr, hlocks, hnm⟩ := id C
  have hb : c.code = cX8_at := hb
  have hown : s.vm.findClass RX8 = some m.cls := hown
  have hl : lv_has ls 2 [(0, .ref q1), (1, .int 4)] := hl
  refine lv_iload_n hx hb dX8_at_0 rfl (lv_at hl 1 rfl) ?_
  refine lv_if_lt (tgt := 16) hx hb dX8_at_1 (by decide) (fun c9 => absurd c9 (by decide)) (fun c9 => ?_)
  refine lv_iload_n hx hb dX8_at_4 rfl (lv_at hl 1 rfl) ?_
  refine lv_aload_n hx hb dX8_at_5 rfl (lv_at hl 0 rfl) ?_
  refine va_alen (v := 8) hx hb hK.1 hP 0 0 rfl rfl rfl dX8_at_6 ?_
  refine lv_icmp_ge (tgt := 16) hx hb dX8_at_7 (by decide) (fun c9 => absurd c9 (by decide)) (fun c9 => ?_)
  refine lv_aload_n hx hb dX8_at_10 rfl (lv_at hl 0 rfl) ?_
  refine lv_iload_n hx hb dX8_at_11 rfl (lv_at hl 1 rfl) ?_
  refine ald_i hx hb hK.1 hP 0 0 rfl rfl 4 (ix_lit (by decide)) dX8_at_12 ?_
  refine lv_goto (tgt := 17) hx hb dX8_at_13 (by decide) ?_
  exact retRi C rfl rfl dX8_at_17

set_option maxHeartbeats 4000000 in
set_option maxRecDepth 100000 in
theorem c_X8_at_3 (l : Launch) (D : va_G) (a : Nat → ClassId) (q1 : Nat) : CRi l MX8_at 0 0 D a [.ref q1, .int 5] [(q1, .inl (a 0, 8, .inl (fun _ => 0)))] (fun r => (r = 0)) := by
  refine entR (by decide) (Nat.le_of_ble_eq_true rfl) ?_
  intro p e s m below meth c C hK hP ls hl
  obtain ⟨hx, hb, hml, hown, hts, hr, hlocks, hnm⟩ := id C
  have hb : c.code = cX8_at := hb
  have hown : s.vm.findClass RX8 = some m.cls := hown
  have hl : lv_has ls 2 [(0, .ref q1), (1, .int 5)] := hl
  refine lv_iload_n hx hb dX8_at_0 rfl (lv_at hl 1 rfl) ?_
  refine lv_if_lt (tgt := 16) hx hb dX8_at_1 (by decide) (fun c9 => absurd c9 (by decide)) (fun c9 => ?_)
  refine lv_iload_n hx hb dX8_at_4 rfl (lv_at hl 1 rfl) ?_
  refine lv_aload_n hx hb dX8_at_5 rfl (lv_at hl 0 rfl) ?_
  refine va_alen (v := 8) hx hb hK.1 hP 0 0 rfl rfl rfl dX8_at_6 ?_
  refine lv_icmp_ge (tgt := 16) hx hb dX8_at_7 (by decide) (fun c9 => absurd c9 (by decide)) (fun c9 => ?_)
  refine lv_aload_n hx hb dX8_at_10 rfl (lv_at hl 0 rfl) ?_
  refine lv_iload_n hx hb dX8_at_11 rfl (lv_at hl 1 rfl) ?_
  refine ald_i hx hb hK.1 hP 0 0 rfl rfl 5 (ix_lit (by decide)) dX8_at_12 ?_
  refine lv_goto (tgt := 17) hx hb dX8_at_13 (by decide) ?_
  exact retRi C rfl rfl dX8_at_17

set_option maxHeartbeats 4000000 in
set_option maxRecDepth 100000 in
theorem c_X8_at_4 (l : Launch) (D : va_G) (a : Nat → ClassId) (q1 : Nat) : CRi l MX8_at 0 0 D a [.ref q1, .int 1] [(q1, .inl (a 0, 8, .inl (fun _ => 0)))] (fun r => (r = 0)) := by
  refine entR (by decide) (Nat.le_of_ble_eq_true rfl) ?_
  intro p e s m below meth c C hK hP ls hl
  obtain ⟨hx, hb, hml, hown, hts, hr, hlocks, hnm⟩ := id C
  have hb : c.code = cX8_at := hb
  have hown : s.vm.findClass RX8 = some m.cls := hown
  have hl : lv_has ls 2 [(0, .ref q1), (1, .int 1)] := hl
  refine lv_iload_n hx hb dX8_at_0 rfl (lv_at hl 1 rfl) ?_
  refine lv_if_lt (tgt := 16) hx hb dX8_at_1 (by decide) (fun c9 => absurd c9 (by decide)) (fun c9 => ?_)
  refine lv_iload_n hx hb dX8_at_4 rfl (lv_at hl 1 rfl) ?_
  refine lv_aload_n hx hb dX8_at_5 rfl (lv_at hl 0 rfl) ?_
  refine va_alen (v := 8) hx hb hK.1 hP 0 0 rfl rfl rfl dX8_at_6 ?_
  refine lv_icmp_ge (tgt := 16) hx hb dX8_at_7 (by decide) (fun c9 => absurd c9 (by decide)) (fun c9 => ?_)
  refine lv_aload_n hx hb dX8_at_10 rfl (lv_at hl 0 rfl) ?_
  refine lv_iload_n hx hb dX8_at_11 rfl (lv_at hl 1 rfl) ?_
  refine ald_i hx hb hK.1 hP 0 0 rfl rfl 1 (ix_lit (by decide)) dX8_at_12 ?_
  refine lv_goto (tgt := 17) hx hb dX8_at_13 (by decide) ?_
  exact retRi C rfl rfl dX8_at_17

set_option maxHeartbeats 4000000 in
set_option maxRecDepth 100000 in
theorem c_X8_at_5 (l : Launch) (D : va_G) (a : Nat → ClassId) (q1 : Nat) : CRi l MX8_at 0 0 D a [.ref q1, .int 3] [(q1, .inl (a 0, 8, .inl (fun _ => 0)))] (fun r => (r = 0)) := by
  refine entR (by decide) (Nat.le_of_ble_eq_true rfl) ?_
  intro p e s m below meth c C hK hP ls hl
  obtain ⟨hx, hb, hml, hown, hts, hr, hlocks, hnm⟩ := id C
  have hb : c.code = cX8_at := hb
  have hown : s.vm.findClass RX8 = some m.cls := hown
  have hl : lv_has ls 2 [(0, .ref q1), (1, .int 3)] := hl
  refine lv_iload_n hx hb dX8_at_0 rfl (lv_at hl 1 rfl) ?_
  refine lv_if_lt (tgt := 16) hx hb dX8_at_1 (by decide) (fun c9 => absurd c9 (by decide)) (fun c9 => ?_)
  refine lv_iload_n hx hb dX8_at_4 rfl (lv_at hl 1 rfl) ?_
  refine lv_aload_n hx hb dX8_at_5 rfl (lv_at hl 0 rfl) ?_
  refine va_alen (v := 8) hx hb hK.1 hP 0 0 rfl rfl rfl dX8_at_6 ?_
  refine lv_icmp_ge (tgt := 16) hx hb dX8_at_7 (by decide) (fun c9 => absurd c9 (by decide)) (fun c9 => ?_)
  refine lv_aload_n hx hb dX8_at_10 rfl (lv_at hl 0 rfl) ?_
  refine lv_iload_n hx hb dX8_at_11 rfl (lv_at hl 1 rfl) ?_
  refine ald_i hx hb hK.1 hP 0 0 rfl rfl 3 (ix_lit (by decide)) dX8_at_12 ?_
  refine lv_goto (tgt := 17) hx hb dX8_at_13 (by decide) ?_
  exact retRi C rfl rfl dX8_at_17

set_option maxHeartbeats 4000000 in
set_option maxRecDepth 100000 in
theorem c_X8_at_6 (l : Launch) (D : va_G) (a : Nat → ClassId) (q1 : Nat) : CRi l MX8_at 0 0 D a [.ref q1, .int 6] [(q1, .inl (a 0, 8, .inl (fun _ => 0)))] (fun r => (r = 0)) := by
  refine entR (by decide) (Nat.le_of_ble_eq_true rfl) ?_
  intro p e s m below meth c C hK hP ls hl
  obtain ⟨hx, hb, hml, hown, hts, hr, hlocks, hnm⟩ := id C
  have hb : c.code = cX8_at := hb
  have hown : s.vm.findClass RX8 = some m.cls := hown
  have hl : lv_has ls 2 [(0, .ref q1), (1, .int 6)] := hl
  refine lv_iload_n hx hb dX8_at_0 rfl (lv_at hl 1 rfl) ?_
  refine lv_if_lt (tgt := 16) hx hb dX8_at_1 (by decide) (fun c9 => absurd c9 (by decide)) (fun c9 => ?_)
  refine lv_iload_n hx hb dX8_at_4 rfl (lv_at hl 1 rfl) ?_
  refine lv_aload_n hx hb dX8_at_5 rfl (lv_at hl 0 rfl) ?_
  refine va_alen (v := 8) hx hb hK.1 hP 0 0 rfl rfl rfl dX8_at_6 ?_
  refine lv_icmp_ge (tgt := 16) hx hb dX8_at_7 (by decide) (fun c9 => absurd c9 (by decide)) (fun c9 => ?_)
  refine lv_aload_n hx hb dX8_at_10 rfl (lv_at hl 0 rfl) ?_
  refine lv_iload_n hx hb dX8_at_11 rfl (lv_at hl 1 rfl) ?_
  refine ald_i hx hb hK.1 hP 0 0 rfl rfl 6 (ix_lit (by decide)) dX8_at_12 ?_
  refine lv_goto (tgt := 17) hx hb dX8_at_13 (by decide) ?_
  exact retRi C rfl rfl dX8_at_17

set_option maxHeartbeats 4000000 in
set_option maxRecDepth 100000 in
theorem c_X8_at_7 (l : Launch) (D : va_G) (a : Nat → ClassId) (q1 : Nat) : CRi l MX8_at 0 0 D a [.ref q1, .int 7] [(q1, .inl (a 0, 8, .inl (fun _ => 0)))] (fun r => (r = 0)) := by
  refine entR (by decide) (Nat.le_of_ble_eq_true rfl) ?_
  intro p e s m below meth c C hK hP ls hl
  obtain ⟨hx, hb, hml, hown, hts, hr, hlocks, hnm⟩ := id C
  have hb : c.code = cX8_at := hb
  have hown : s.vm.findClass RX8 = some m.cls := hown
  have hl : lv_has ls 2 [(0, .ref q1), (1, .int 7)] := hl
  refine lv_iload_n hx hb dX8_at_0 rfl (lv_at hl 1 rfl) ?_
  refine lv_if_lt (tgt := 16) hx hb dX8_at_1 (by decide) (fun c9 => absurd c9 (by decide)) (fun c9 => ?_)
  refine lv_iload_n hx hb dX8_at_4 rfl (lv_at hl 1 rfl) ?_
  refine lv_aload_n hx hb dX8_at_5 rfl (lv_at hl 0 rfl) ?_
  refine va_alen (v := 8) hx hb hK.1 hP 0 0 rfl rfl rfl dX8_at_6 ?_
  refine lv_icmp_ge (tgt := 16) hx hb dX8_at_7 (by decide) (fun c9 => absurd c9 (by decide)) (fun c9 => ?_)
  refine lv_aload_n hx hb dX8_at_10 rfl (lv_at hl 0 rfl) ?_
  refine lv_iload_n hx hb dX8_at_11 rfl (lv_at hl 1 rfl) ?_
  refine ald_i hx hb hK.1 hP 0 0 rfl rfl 7 (ix_lit (by decide)) dX8_at_12 ?_
  refine lv_goto (tgt := 17) hx hb dX8_at_13 (by decide) ?_
  exact retRi C rfl rfl dX8_at_17

set_option maxHeartbeats 4000000 in
set_option maxRecDepth 100000 in
theorem c_X8_rests_0 (l : Launch) (D : va_G) (a : Nat → ClassId) (q1 q2 q3 q4 q5 q6 q7 q8 q9 q10 q11 q12 q13 : Nat) : CRi l MX8_rests 1 21 D a [.ref q1] [(q1, .inr (8, [.ref q2, .int 0, .ref q3, .int 0, .int 0, .ref q4, .ref q5, .ref q6, .ref q7, .ref q8, .ref q9])), (q4, .inr (5, [.ref q10, .ref q11, .int 0, .int 0, .int 0, .ref q12, .int 0, .ref q13])), (q13, .inl (a 0, 8, .inl (fun _ => 0)))] (fun r => (r = 15)) := by
  refine entR (by decide) (Nat.le_of_ble_eq_true rfl) ?_
  intro p e s m below meth c C hK hP ls hl
  obtain ⟨hx, hb, hml, hown, hts, hr, hlocks, hnm⟩ := id C
  have hb : c.code = cX8_rests := hb
  have hown : s.vm.findClass RX8 = some m.cls := hown
  have hl : lv_has ls 5 [(0, .ref q1)] := hl
  refine lv_iconst (v := 0) hx hb dX8_rests_0 (by decide) ?_
  refine lv_istore_n (lv' := [(1, .int 0), (0, .ref q1)]) hx hb dX8_rests_1 rfl hl (by decide) rfl (fun ls hl => ?_)
  refine lv_iconst (v := 0) hx hb dX8_rests_2 (by decide) ?_
  refine lv_istore_n (lv' := [(2, .int 0), (1, .int 0), (0, .ref q1)]) hx hb dX8_rests_3 rfl hl (by decide) rfl (fun ls hl => ?_)
  refine lv_iload_n hx hb dX8_rests_4 rfl (lv_at hl 0 rfl) ?_
  refine lv_iconst (v := 4) hx hb dX8_rests_5 (by decide) ?_
  refine lv_icmp_ge (tgt := 101) hx hb dX8_rests_6 (by decide) (fun c9 => absurd c9 (by decide)) (fun c9 => ?_)
  refine lv_aload_n hx hb dX8_rests_9 rfl (lv_at hl 2 rfl) ?_
  refine va_get (D := D) (v := .ref q4) (C := RX8) (T := TX8) (N := 11) hx hb hts iX8 hown hK.1 hP 0 rfl rfl 5 (by decide) (hts _ t_305) (fun _ h9 => h9) rfl dX8_rests_10 ?_
  refine va_get (D := D) (v := .ref q13) (C := RX5) (T := TX5) (N := 8) hx hb hts iX5 hown hK.1 hP 1 rfl rfl 7 (by decide) (hts _ t_175) (fun _ h9 => h9) rfl dX8_rests_13 ?_
  refine lv_iload_n hx hb dX8_rests_16 rfl (lv_at hl 0 rfl) ?_
  refine aftRi (runS (As := [.ref q13, .int 0]) (rest := []) C (c_X8_at_0 l D a q13) lk_S_8_129 (okN_X8_at) ⟨Nat.le_of_ble_eq_true rfl, Nat.le_of_ble_eq_true rfl⟩ ⟨rfl, rfl⟩ (preR hK (P_of_map (wc := [(q13, .inl (a 0, 8, .inl (fun _ => 0)))]) hP [2] rfl)) hl.1 rfl (Nat.le_of_ble_eq_true rfl) dX8_rests_17 ⟨Nat.le_of_ble_eq_true rfl, Nat.le_of_ble_eq_true rfl⟩) (fun x3284 hw => ?_)
  obtain rfl := hw
  refine lv_aload_n hx hb dX8_rests_20 rfl (lv_at hl 2 rfl) ?_
  refine va_get (D := D) (v := .ref q4) (C := RX8) (T := TX8) (N := 11) hx hb hts iX8 hown hK.1 hP 0 rfl rfl 5 (by decide) (hts _ t_305) (fun _ h9 => h9) rfl dX8_rests_21 ?_
  refine va_get (D := D) (v := .ref q13) (C := RX5) (T := TX5) (N := 8) hx hb hts iX5 hown hK.1 hP 1 rfl rfl 7 (by decide) (hts _ t_175) (fun _ h9 => h9) rfl dX8_rests_24 ?_
  refine lv_iload_n hx hb dX8_rests_27 rfl (lv_at hl 0 rfl) ?_
  refine lv_iconst (v := 2) hx hb dX8_rests_28 (by decide) ?_
  refine lv_ixor hx hb dX8_rests_29 ?_
  refine lv_topi (fun x3287 ex3287 => ?_)
  obtain rfl : x3287 = 2 := ex3287.trans (by decide)
  refine aftRi (runS (As := [.ref q13, .int 2]) (rest := [.int 0]) C (c_X8_at_1 l D a q13) lk_S_8_129 (okN_X8_at) ⟨Nat.le_of_ble_eq_true rfl, Nat.le_of_ble_eq_true rfl⟩ ⟨rfl, rfl⟩ (preR hK (P_of_map (wc := [(q13, .inl (a 0, 8, .inl (fun _ => 0)))]) hP [2] rfl)) hl.1 rfl (Nat.le_of_ble_eq_true rfl) dX8_rests_30 ⟨Nat.le_of_ble_eq_true rfl, Nat.le_of_ble_eq_true rfl⟩) (fun x3288 hw => ?_)
  obtain rfl := hw
  refine lv_icmp_lt (tgt := 40) hx hb dX8_rests_33 (by decide) (fun c9 => absurd c9 (by decide)) (fun c9 => ?_)
  refine lv_iconst (v := 1) hx hb dX8_rests_36 (by decide) ?_
  refine lv_goto (tgt := 41) hx hb dX8_rests_37 (by decide) ?_
  refine lv_istore_n (lv' := [(3, .int 1), (2, .int 0), (1, .int 0), (0, .ref q1)]) hx hb dX8_rests_41 rfl hl (by decide) rfl (fun ls hl => ?_)
  refine lv_aload_n hx hb dX8_rests_42 rfl (lv_at hl 3 rfl) ?_
  refine va_get (D := D) (v := .ref q4) (C := RX8) (T := TX8) (N := 11) hx hb hts iX8 hown hK.1 hP 0 rfl rfl 5 (by decide) (hts _ t_305) (fun _ h9 => h9) rfl dX8_rests_43 ?_
  refine va_get (D := D) (v := .ref q13) (C := RX5) (T := TX5) (N := 8) hx hb hts iX5 hown hK.1 hP 1 rfl rfl 7 (by decide) (hts _ t_175) (fun _ h9 => h9) rfl dX8_rests_46 ?_
  refine lv_iconst (v := 4) hx hb dX8_rests_49 (by decide) ?_
  refine lv_iload_n hx hb dX8_rests_50 rfl (lv_at hl 1 rfl) ?_
  refine lv_iadd hx hb dX8_rests_51 ?_
  refine lv_topi (fun x3291 ex3291 => ?_)
  obtain rfl : x3291 = 4 := ex3291.trans (by decide)
  refine aftRi (runS (As := [.ref q13, .int 4]) (rest := []) C (c_X8_at_2 l D a q13) lk_S_8_129 (okN_X8_at) ⟨Nat.le_of_ble_eq_true rfl, Nat.le_of_ble_eq_true rfl⟩ ⟨rfl, rfl⟩ (preR hK (P_of_map (wc := [(q13, .inl (a 0, 8, .inl (fun _ => 0)))]) hP [2] rfl)) hl.1 rfl (Nat.le_of_ble_eq_true rfl) dX8_rests_52 ⟨Nat.le_of_ble_eq_true rfl, Nat.le_of_ble_eq_true rfl⟩) (fun x3292 hw => ?_)
  obtain rfl := hw
  refine lv_aload_n hx hb dX8_rests_55 rfl (lv_at hl 3 rfl) ?_
  refine va_get (D := D) (v := .ref q4) (C := RX8) (T := TX8) (N := 11) hx hb hts iX8 hown hK.1 hP 0 rfl rfl 5 (by decide) (hts _ t_305) (fun _ h9 => h9) rfl dX8_rests_56 ?_
  refine va_get (D := D) (v := .ref q13) (C := RX5) (T := TX5) (N := 8) hx hb hts iX5 hown hK.1 hP 1 rfl rfl 7 (by decide) (hts _ t_175) (fun _ h9 => h9) rfl dX8_rests_59 ?_
  refine lv_iconst (v := 4) hx hb dX8_rests_62 (by decide) ?_
  refine lv_iload_n hx hb dX8_rests_63 rfl (lv_at hl 1 rfl) ?_
  refine lv_iconst (v := 1) hx hb dX8_rests_64 (by decide) ?_
  refine lv_ixor hx hb dX8_rests_65 ?_
  refine lv_topi (fun x3295 ex3295 => ?_)
  obtain rfl : x3295 = 1 := ex3295.trans (by decide)
  refine lv_iadd hx hb dX8_rests_66 ?_
  refine lv_topi (fun x3296 ex3296 => ?_)
  obtain rfl : x3296 = 5 := ex3296.trans (by decide)
  refine aftRi (runS (As := [.ref q13, .int 5]) (rest := [.int 0]) C (c_X8_at_3 l D a q13) lk_S_8_129 (okN_X8_at) ⟨Nat.le_of_ble_eq_true rfl, Nat.le_of_ble_eq_true rfl⟩ ⟨rfl, rfl⟩ (preR hK (P_of_map (wc := [(q13, .inl (a 0, 8, .inl (fun _ => 0)))]) hP [2] rfl)) hl.1 rfl (Nat.le_of_ble_eq_true rfl) dX8_rests_67 ⟨Nat.le_of_ble_eq_true rfl, Nat.le_of_ble_eq_true rfl⟩) (fun x3297 hw => ?_)
  obtain rfl := hw
  refine lv_icmp_lt (tgt := 77) hx hb dX8_rests_70 (by decide) (fun c9 => absurd c9 (by decide)) (fun c9 => ?_)
  refine lv_iconst (v := 1) hx hb dX8_rests_73 (by decide) ?_
  refine lv_goto (tgt := 78) hx hb dX8_rests_74 (by decide) ?_
  refine lv_istore (lv' := [(4, .int 1), (3, .int 1), (2, .int 0), (1, .int 0), (0, .ref q1)]) hx hb dX8_rests_78 hl (by decide) rfl (fun ls hl => ?_)
  refine lv_iload_n hx hb dX8_rests_80 rfl (lv_at hl 1 rfl) ?_
  refine lv_if_eq (tgt := 95) hx hb dX8_rests_81 (by decide) (fun c9 => absurd c9 (by decide)) (fun c9 => ?_)
  refine lv_iload hx hb dX8_rests_84 (lv_at hl 0 rfl) ?_
  refine lv_if_eq (tgt := 95) hx hb dX8_rests_86 (by decide) (fun c9 => absurd c9 (by decide)) (fun c9 => ?_)
  refine lv_iload_n hx hb dX8_rests_89 rfl (lv_at hl 3 rfl) ?_
  refine lv_iconst (v := 1) hx hb dX8_rests_90 (by decide) ?_
  refine lv_iload_n hx hb dX8_rests_91 rfl (lv_at hl 2 rfl) ?_
  refine lv_ishl hx hb dX8_rests_92 ?_
  refine lv_topi (fun x3300 ex3300 => ?_)
  obtain rfl : x3300 = 1 := ex3300.trans (by decide)
  refine lv_ior hx hb dX8_rests_93 ?_
  refine lv_topi (fun x3301 ex3301 => ?_)
  obtain rfl : x3301 = 1 := ex3301.trans (by decide)
  refine lv_istore_n (lv' := [(1, .int 1), (4, .int 1), (3, .int 1), (2, .int 0), (0, .ref q1)]) hx hb dX8_rests_94 rfl hl (by decide) rfl (fun ls hl => ?_)
  refine lv_iinc (v := 1) (lv' := [(2, .int 1), (1, .int 1), (4, .int 1), (3, .int 1), (0, .ref q1)]) hx hb dX8_rests_95 hl (k := 3) rfl (by decide) (by decide) rfl (fun ls hl => ?_)
  refine lv_goto (tgt := 4) hx hb dX8_rests_98 (by decide) ?_
  refine lv_iload_n hx hb dX8_rests_4 rfl (lv_at hl 0 rfl) ?_
  refine lv_iconst (v := 4) hx hb dX8_rests_5 (by decide) ?_
  refine lv_icmp_ge (tgt := 101) hx hb dX8_rests_6 (by decide) (fun c9 => absurd c9 (by decide)) (fun c9 => ?_)
  refine lv_aload_n hx hb dX8_rests_9 rfl (lv_at hl 4 rfl) ?_
  refine va_get (D := D) (v := .ref q4) (C := RX8) (T := TX8) (N := 11) hx hb hts iX8 hown hK.1 hP 0 rfl rfl 5 (by decide) (hts _ t_305) (fun _ h9 => h9) rfl dX8_rests_10 ?_
  refine va_get (D := D) (v := .ref q13) (C := RX5) (T := TX5) (N := 8) hx hb hts iX5 hown hK.1 hP 1 rfl rfl 7 (by decide) (hts _ t_175) (fun _ h9 => h9) rfl dX8_rests_13 ?_
  refine lv_iload_n hx hb dX8_rests_16 rfl (lv_at hl 0 rfl) ?_
  refine aftRi (runS (As := [.ref q13, .int 1]) (rest := []) C (c_X8_at_4 l D a q13) lk_S_8_129 (okN_X8_at) ⟨Nat.le_of_ble_eq_true rfl, Nat.le_of_ble_eq_true rfl⟩ ⟨rfl, rfl⟩ (preR hK (P_of_map (wc := [(q13, .inl (a 0, 8, .inl (fun _ => 0)))]) hP [2] rfl)) hl.1 rfl (Nat.le_of_ble_eq_true rfl) dX8_rests_17 ⟨Nat.le_of_ble_eq_true rfl, Nat.le_of_ble_eq_true rfl⟩) (fun x3302 hw => ?_)
  obtain rfl := hw
  refine lv_aload_n hx hb dX8_rests_20 rfl (lv_at hl 4 rfl) ?_
  refine va_get (D := D) (v := .ref q4) (C := RX8) (T := TX8) (N := 11) hx hb hts iX8 hown hK.1 hP 0 rfl rfl 5 (by decide) (hts _ t_305) (fun _ h9 => h9) rfl dX8_rests_21 ?_
  refine va_get (D := D) (v := .ref q13) (C := RX5) (T := TX5) (N := 8) hx hb hts iX5 hown hK.1 hP 1 rfl rfl 7 (by decide) (hts _ t_175) (fun _ h9 => h9) rfl dX8_rests_24 ?_
  refine lv_iload_n hx hb dX8_rests_27 rfl (lv_at hl 0 rfl) ?_
  refine lv_iconst (v := 2) hx hb dX8_rests_28 (by decide) ?_
  refine lv_ixor hx hb dX8_rests_29 ?_
  refine lv_topi (fun x3305 ex3305 => ?_)
  obtain rfl : x3305 = 3 := ex3305.trans (by decide)
  refine aftRi (runS (As := [.ref q13, .int 3]) (rest := [.int 0]) C (c_X8_at_5 l D a q13) lk_S_8_129 (okN_X8_at) ⟨Nat.le_of_ble_eq_true rfl, Nat.le_of_ble_eq_true rfl⟩ ⟨rfl, rfl⟩ (preR hK (P_of_map (wc := [(q13, .inl (a 0, 8, .inl (fun _ => 0)))]) hP [2] rfl)) hl.1 rfl (Nat.le_of_ble_eq_true rfl) dX8_rests_30 ⟨Nat.le_of_ble_eq_true rfl, Nat.le_of_ble_eq_true rfl⟩) (fun x3306 hw => ?_)
  obtain rfl := hw
  refine lv_icmp_lt (tgt := 40) hx hb dX8_rests_33 (by decide) (fun c9 => absurd c9 (by decide)) (fun c9 => ?_)
  refine lv_iconst (v := 1) hx hb dX8_rests_36 (by decide) ?_
  refine lv_goto (tgt := 41) hx hb dX8_rests_37 (by decide) ?_
  refine lv_istore_n (lv' := [(3, .int 1), (2, .int 1), (1, .int 1), (4, .int 1), (0, .ref q1)]) hx hb dX8_rests_41 rfl hl (by decide) rfl (fun ls hl => ?_)
  refine lv_aload_n hx hb dX8_rests_42 rfl (lv_at hl 4 rfl) ?_
  refine va_get (D := D) (v := .ref q4) (C := RX8) (T := TX8) (N := 11) hx hb hts iX8 hown hK.1 hP 0 rfl rfl 5 (by decide) (hts _ t_305) (fun _ h9 => h9) rfl dX8_rests_43 ?_
  refine va_get (D := D) (v := .ref q13) (C := RX5) (T := TX5) (N := 8) hx hb hts iX5 hown hK.1 hP 1 rfl rfl 7 (by decide) (hts _ t_175) (fun _ h9 => h9) rfl dX8_rests_46 ?_
  refine lv_iconst (v := 4) hx hb dX8_rests_49 (by decide) ?_
  refine lv_iload_n hx hb dX8_rests_50 rfl (lv_at hl 1 rfl) ?_
  refine lv_iadd hx hb dX8_rests_51 ?_
  refine lv_topi (fun x3309 ex3309 => ?_)
  obtain rfl : x3309 = 5 := ex3309.trans (by decide)
  refine aftRi (runS (As := [.ref q13, .int 5]) (rest := []) C (c_X8_at_3 l D a q13) lk_S_8_129 (okN_X8_at) ⟨Nat.le_of_ble_eq_true rfl, Nat.le_of_ble_eq_true rfl⟩ ⟨rfl, rfl⟩ (preR hK (P_of_map (wc := [(q13, .inl (a 0, 8, .inl (fun _ => 0)))]) hP [2] rfl)) hl.1 rfl (Nat.le_of_ble_eq_true rfl) dX8_rests_52 ⟨Nat.le_of_ble_eq_true rfl, Nat.le_of_ble_eq_true rfl⟩) (fun x3310 hw => ?_)
  obtain rfl := hw
  refine lv_aload_n hx hb dX8_rests_55 rfl (lv_at hl 4 rfl) ?_
  refine va_get (D := D) (v := .ref q4) (C := RX8) (T := TX8) (N := 11) hx hb hts iX8 hown hK.1 hP 0 rfl rfl 5 (by decide) (hts _ t_305) (fun _ h9 => h9) rfl dX8_rests_56 ?_
  refine va_get (D := D) (v := .ref q13) (C := RX5) (T := TX5) (N := 8) hx hb hts iX5 hown hK.1 hP 1 rfl rfl 7 (by decide) (hts _ t_175) (fun _ h9 => h9) rfl dX8_rests_59 ?_
  refine lv_iconst (v := 4) hx hb dX8_rests_62 (by decide) ?_
  refine lv_iload_n hx hb dX8_rests_63 rfl (lv_at hl 1 rfl) ?_
  refine lv_iconst (v := 1) hx hb dX8_rests_64 (by decide) ?_
  refine lv_ixor hx hb dX8_rests_65 ?_
  refine lv_topi (fun x3313 ex3313 => ?_)
  obtain rfl : x3313 = 0 := ex3313.trans (by decide)
  refine lv_iadd hx hb dX8_rests_66 ?_
  refine lv_topi (fun x3314 ex3314 => ?_)
  obtain rfl : x3314 = 4 := ex3314.trans (by decide)
  refine aftRi (runS (As := [.ref q13, .int 4]) (rest := [.int 0]) C (c_X8_at_2 l D a q13) lk_S_8_129 (okN_X8_at) ⟨Nat.le_of_ble_eq_true rfl, Nat.le_of_ble_eq_true rfl⟩ ⟨rfl, rfl⟩ (preR hK (P_of_map (wc := [(q13, .inl (a 0, 8, .inl (fun _ => 0)))]) hP [2] rfl)) hl.1 rfl (Nat.le_of_ble_eq_true rfl) dX8_rests_67 ⟨Nat.le_of_ble_eq_true rfl, Nat.le_of_ble_eq_true rfl⟩) (fun x3315 hw => ?_)
  obtain rfl := hw
  refine lv_icmp_lt (tgt := 77) hx hb dX8_rests_70 (by decide) (fun c9 => absurd c9 (by decide)) (fun c9 => ?_)
  refine lv_iconst (v := 1) hx hb dX8_rests_73 (by decide) ?_
  refine lv_goto (tgt := 78) hx hb dX8_rests_74 (by decide) ?_
  refine lv_istore (lv' := [(4, .int 1), (3, .int 1), (2, .int 1), (1, .int 1), (0, .ref q1)]) hx hb dX8_rests_78 hl (by decide) rfl (fun ls hl => ?_)
  refine lv_iload_n hx hb dX8_rests_80 rfl (lv_at hl 1 rfl) ?_
  refine lv_if_eq (tgt := 95) hx hb dX8_rests_81 (by decide) (fun c9 => absurd c9 (by decide)) (fun c9 => ?_)
  refine lv_iload hx hb dX8_rests_84 (lv_at hl 0 rfl) ?_
  refine lv_if_eq (tgt := 95) hx hb dX8_rests_86 (by decide) (fun c9 => absurd c9 (by decide)) (fun c9 => ?_)
  refine lv_iload_n hx hb dX8_rests_89 rfl (lv_at hl 3 rfl) ?_
  refine lv_iconst (v := 1) hx hb dX8_rests_90 (by decide) ?_
  refine lv_iload_n hx hb dX8_rests_91 rfl (lv_at hl 2 rfl) ?_
  refine lv_ishl hx hb dX8_rests_92 ?_
  refine lv_topi (fun x3318 ex3318 => ?_)
  obtain rfl : x3318 = 2 := ex3318.trans (by decide)
  refine lv_ior hx hb dX8_rests_93 ?_
  refine lv_topi (fun x3319 ex3319 => ?_)
  obtain rfl : x3319 = 3 := ex3319.trans (by decide)
  refine lv_istore_n (lv' := [(1, .int 3), (4, .int 1), (3, .int 1), (2, .int 1), (0, .ref q1)]) hx hb dX8_rests_94 rfl hl (by decide) rfl (fun ls hl => ?_)
  refine lv_iinc (v := 2) (lv' := [(2, .int 2), (1, .int 3), (4, .int 1), (3, .int 1), (0, .ref q1)]) hx hb dX8_rests_95 hl (k := 3) rfl (by decide) (by decide) rfl (fun ls hl => ?_)
  refine lv_goto (tgt := 4) hx hb dX8_rests_98 (by decide) ?_
  refine lv_iload_n hx hb dX8_rests_4 rfl (lv_at hl 0 rfl) ?_
  refine lv_iconst (v := 4) hx hb dX8_rests_5 (by decide) ?_
  refine lv_icmp_ge (tgt := 101) hx hb dX8_rests_6 (by decide) (fun c9 => absurd c9 (by decide)) (fun c9 => ?_)
  refine lv_aload_n hx hb dX8_rests_9 rfl (lv_at hl 4 rfl) ?_
  refine va_get (D := D) (v := .ref q4) (C := RX8) (T := TX8) (N := 11) hx hb hts iX8 hown hK.1 hP 0 rfl rfl 5 (by decide) (hts _ t_305) (fun _ h9 => h9) rfl dX8_rests_10 ?_
  refine va_get (D := D) (v := .ref q13) (C := RX5) (T := TX5) (N := 8) hx hb hts iX5 hown hK.1 hP 1 rfl rfl 7 (by decide) (hts _ t_175) (fun _ h9 => h9) rfl dX8_rests_13 ?_
  refine lv_iload_n hx hb dX8_rests_16 rfl (lv_at hl 0 rfl) ?_
  refine aftRi (runS (As := [.ref q13, .int 2]) (rest := []) C (c_X8_at_1 l D a q13) lk_S_8_129 (okN_X8_at) ⟨Nat.le_of_ble_eq_true rfl, Nat.le_of_ble_eq_true rfl⟩ ⟨rfl, rfl⟩ (preR hK (P_of_map (wc := [(q13, .inl (a 0, 8, .inl (fun _ => 0)))]) hP [2] rfl)) hl.1 rfl (Nat.le_of_ble_eq_true rfl) dX8_rests_17 ⟨Nat.le_of_ble_eq_true rfl, Nat.le_of_ble_eq_true rfl⟩) (fun x3320 hw => ?_)
  obtain rfl := hw
  refine lv_aload_n hx hb dX8_rests_20 rfl (lv_at hl 4 rfl) ?_
  refine va_get (D := D) (v := .ref q4) (C := RX8) (T := TX8) (N := 11) hx hb hts iX8 hown hK.1 hP 0 rfl rfl 5 (by decide) (hts _ t_305) (fun _ h9 => h9) rfl dX8_rests_21 ?_
  refine va_get (D := D) (v := .ref q13) (C := RX5) (T := TX5) (N := 8) hx hb hts iX5 hown hK.1 hP 1 rfl rfl 7 (by decide) (hts _ t_175) (fun _ h9 => h9) rfl dX8_rests_24 ?_
  refine lv_iload_n hx hb dX8_rests_27 rfl (lv_at hl 0 rfl) ?_
  refine lv_iconst (v := 2) hx hb dX8_rests_28 (by decide) ?_
  refine lv_ixor hx hb dX8_rests_29 ?_
  refine lv_topi (fun x3323 ex3323 => ?_)
  obtain rfl : x3323 = 0 := ex3323.trans (by decide)
  refine aftRi (runS (As := [.ref q13, .int 0]) (rest := [.int 0]) C (c_X8_at_0 l D a q13) lk_S_8_129 (okN_X8_at) ⟨Nat.le_of_ble_eq_true rfl, Nat.le_of_ble_eq_true rfl⟩ ⟨rfl, rfl⟩ (preR hK (P_of_map (wc := [(q13, .inl (a 0, 8, .inl (fun _ => 0)))]) hP [2] rfl)) hl.1 rfl (Nat.le_of_ble_eq_true rfl) dX8_rests_30 ⟨Nat.le_of_ble_eq_true rfl, Nat.le_of_ble_eq_true rfl⟩) (fun x3324 hw => ?_)
  obtain rfl := hw
  refine lv_icmp_lt (tgt := 40) hx hb dX8_rests_33 (by decide) (fun c9 => absurd c9 (by decide)) (fun c9 => ?_)
  refine lv_iconst (v := 1) hx hb dX8_rests_36 (by decide) ?_
  refine lv_goto (tgt := 41) hx hb dX8_rests_37 (by decide) ?_
  refine lv_istore_n (lv' := [(3, .int 1), (2, .int 2), (1, .int 3), (4, .int 1), (0, .ref q1)]) hx hb dX8_rests_41 rfl hl (by decide) rfl (fun ls hl => ?_)
  refine lv_aload_n hx hb dX8_rests_42 rfl (lv_at hl 4 rfl) ?_
  refine va_get (D := D) (v := .ref q4) (C := RX8) (T := TX8) (N := 11) hx hb hts iX8 hown hK.1 hP 0 rfl rfl 5 (by decide) (hts _ t_305) (fun _ h9 => h9) rfl dX8_rests_43 ?_
  refine va_get (D := D) (v := .ref q13) (C := RX5) (T := TX5) (N := 8) hx hb hts iX5 hown hK.1 hP 1 rfl rfl 7 (by decide) (hts _ t_175) (fun _ h9 => h9) rfl dX8_rests_46 ?_
  refine lv_iconst (v := 4) hx hb dX8_rests_49 (by decide) ?_
  refine lv_iload_n hx hb dX8_rests_50 rfl (lv_at hl 1 rfl) ?_
  refine lv_iadd hx hb dX8_rests_51 ?_
  refine lv_topi (fun x3327 ex3327 => ?_)
  obtain rfl : x3327 = 6 := ex3327.trans (by decide)
  refine aftRi (runS (As := [.ref q13, .int 6]) (rest := []) C (c_X8_at_6 l D a q13) lk_S_8_129 (okN_X8_at) ⟨Nat.le_of_ble_eq_true rfl, Nat.le_of_ble_eq_true rfl⟩ ⟨rfl, rfl⟩ (preR hK (P_of_map (wc := [(q13, .inl (a 0, 8, .inl (fun _ => 0)))]) hP [2] rfl)) hl.1 rfl (Nat.le_of_ble_eq_true rfl) dX8_rests_52 ⟨Nat.le_of_ble_eq_true rfl, Nat.le_of_ble_eq_true rfl⟩) (fun x3328 hw => ?_)
  obtain rfl := hw
  refine lv_aload_n hx hb dX8_rests_55 rfl (lv_at hl 4 rfl) ?_
  refine va_get (D := D) (v := .ref q4) (C := RX8) (T := TX8) (N := 11) hx hb hts iX8 hown hK.1 hP 0 rfl rfl 5 (by decide) (hts _ t_305) (fun _ h9 => h9) rfl dX8_rests_56 ?_
  refine va_get (D := D) (v := .ref q13) (C := RX5) (T := TX5) (N := 8) hx hb hts iX5 hown hK.1 hP 1 rfl rfl 7 (by decide) (hts _ t_175) (fun _ h9 => h9) rfl dX8_rests_59 ?_
  refine lv_iconst (v := 4) hx hb dX8_rests_62 (by decide) ?_
  refine lv_iload_n hx hb dX8_rests_63 rfl (lv_at hl 1 rfl) ?_
  refine lv_iconst (v := 1) hx hb dX8_rests_64 (by decide) ?_
  refine lv_ixor hx hb dX8_rests_65 ?_
  refine lv_topi (fun x3331 ex3331 => ?_)
  obtain rfl : x3331 = 3 := ex3331.trans (by decide)
  refine lv_iadd hx hb dX8_rests_66 ?_
  refine lv_topi (fun x3332 ex3332 => ?_)
  obtain rfl : x3332 = 7 := ex3332.trans (by decide)
  refine aftRi (runS (As := [.ref q13, .int 7]) (rest := [.int 0]) C (c_X8_at_7 l D a q13) lk_S_8_129 (okN_X8_at) ⟨Nat.le_of_ble_eq_true rfl, Nat.le_of_ble_eq_true rfl⟩ ⟨rfl, rfl⟩ (preR hK (P_of_map (wc := [(q13, .inl (a 0, 8, .inl (fun _ => 0)))]) hP [2] rfl)) hl.1 rfl (Nat.le_of_ble_eq_true rfl) dX8_rests_67 ⟨Nat.le_of_ble_eq_true rfl, Nat.le_of_ble_eq_true rfl⟩) (fun x3333 hw => ?_)
  obtain rfl := hw
  refine lv_icmp_lt (tgt := 77) hx hb dX8_rests_70 (by decide) (fun c9 => absurd c9 (by decide)) (fun c9 => ?_)
  refine lv_iconst (v := 1) hx hb dX8_rests_73 (by decide) ?_
  refine lv_goto (tgt := 78) hx hb dX8_rests_74 (by decide) ?_
  refine lv_istore (lv' := [(4, .int 1), (3, .int 1), (2, .int 2), (1, .int 3), (0, .ref q1)]) hx hb dX8_rests_78 hl (by decide) rfl (fun ls hl => ?_)
  refine lv_iload_n hx hb dX8_rests_80 rfl (lv_at hl 1 rfl) ?_
  refine lv_if_eq (tgt := 95) hx hb dX8_rests_81 (by decide) (fun c9 => absurd c9 (by decide)) (fun c9 => ?_)
  refine lv_iload hx hb dX8_rests_84 (lv_at hl 0 rfl) ?_
  refine lv_if_eq (tgt := 95) hx hb dX8_rests_86 (by decide) (fun c9 => absurd c9 (by decide)) (fun c9 => ?_)
  refine lv_iload_n hx hb dX8_rests_89 rfl (lv_at hl 3 rfl) ?_
  refine lv_iconst (v := 1) hx hb dX8_rests_90 (by decide) ?_
  refine lv_iload_n hx hb dX8_rests_91 rfl (lv_at hl 2 rfl) ?_
  refine lv_ishl hx hb dX8_rests_92 ?_
  refine lv_topi (fun x3336 ex3336 => ?_)
  obtain rfl : x3336 = 4 := ex3336.trans (by decide)
  refine lv_ior hx hb dX8_rests_93 ?_
  refine lv_topi (fun x3337 ex3337 => ?_)
  obtain rfl : x3337 = 7 := ex3337.trans (by decide)
  refine lv_istore_n (lv' := [(1, .int 7), (4, .int 1), (3, .int 1), (2, .int 2), (0, .ref q1)]) hx hb dX8_rests_94 rfl hl (by decide) rfl (fun ls hl => ?_)
  refine lv_iinc (v := 3) (lv' := [(2, .int 3), (1, .int 7), (4, .int 1), (3, .int 1), (0, .ref q1)]) hx hb dX8_rests_95 hl (k := 3) rfl (by decide) (by decide) rfl (fun ls hl => ?_)
  refine lv_goto (tgt := 4) hx hb dX8_rests_98 (by decide) ?_
  refine lv_iload_n hx hb dX8_rests_4 rfl (lv_at hl 0 rfl) ?_
  refine lv_iconst (v := 4) hx hb dX8_rests_5 (by decide) ?_
  refine lv_icmp_ge (tgt := 101) hx hb dX8_rests_6 (by decide) (fun c9 => absurd c9 (by decide)) (fun c9 => ?_)
  refine lv_aload_n hx hb dX8_rests_9 rfl (lv_at hl 4 rfl) ?_
  refine va_get (D := D) (v := .ref q4) (C := RX8) (T := TX8) (N := 11) hx hb hts iX8 hown hK.1 hP 0 rfl rfl 5 (by decide) (hts _ t_305) (fun _ h9 => h9) rfl dX8_rests_10 ?_
  refine va_get (D := D) (v := .ref q13) (C := RX5) (T := TX5) (N := 8) hx hb hts iX5 hown hK.1 hP 1 rfl rfl 7 (by decide) (hts _ t_175) (fun _ h9 => h9) rfl dX8_rests_13 ?_
  refine lv_iload_n hx hb dX8_rests_16 rfl (lv_at hl 0 rfl) ?_
  refine aftRi (runS (As := [.ref q13, .int 3]) (rest := []) C (c_X8_at_5 l D a q13) lk_S_8_129 (okN_X8_at) ⟨Nat.le_of_ble_eq_true rfl, Nat.le_of_ble_eq_true rfl⟩ ⟨rfl, rfl⟩ (preR hK (P_of_map (wc := [(q13, .inl (a 0, 8, .inl (fun _ => 0)))]) hP [2] rfl)) hl.1 rfl (Nat.le_of_ble_eq_true rfl) dX8_rests_17 ⟨Nat.le_of_ble_eq_true rfl, Nat.le_of_ble_eq_true rfl⟩) (fun x3338 hw => ?_)
  obtain rfl := hw
  refine lv_aload_n hx hb dX8_rests_20 rfl (lv_at hl 4 rfl) ?_
  refine va_get (D := D) (v := .ref q4) (C := RX8) (T := TX8) (N := 11) hx hb hts iX8 hown hK.1 hP 0 rfl rfl 5 (by decide) (hts _ t_305) (fun _ h9 => h9) rfl dX8_rests_21 ?_
  refine va_get (D := D) (v := .ref q13) (C := RX5) (T := TX5) (N := 8) hx hb hts iX5 hown hK.1 hP 1 rfl rfl 7 (by decide) (hts _ t_175) (fun _ h9 => h9) rfl dX8_rests_24 ?_
  refine lv_iload_n hx hb dX8_rests_27 rfl (lv_at hl 0 rfl) ?_
  refine lv_iconst (v := 2) hx hb dX8_rests_28 (by decide) ?_
  refine lv_ixor hx hb dX8_rests_29 ?_
  refine lv_topi (fun x3341 ex3341 => ?_)
  obtain rfl : x3341 = 1 := ex3341.trans (by decide)
  refine aftRi (runS (As := [.ref q13, .int 1]) (rest := [.int 0]) C (c_X8_at_4 l D a q13) lk_S_8_129 (okN_X8_at) ⟨Nat.le_of_ble_eq_true rfl, Nat.le_of_ble_eq_true rfl⟩ ⟨rfl, rfl⟩ (preR hK (P_of_map (wc := [(q13, .inl (a 0, 8, .inl (fun _ => 0)))]) hP [2] rfl)) hl.1 rfl (Nat.le_of_ble_eq_true rfl) dX8_rests_30 ⟨Nat.le_of_ble_eq_true rfl, Nat.le_of_ble_eq_true rfl⟩) (fun x3342 hw => ?_)
  obtain rfl := hw
  refine lv_icmp_lt (tgt := 40) hx hb dX8_rests_33 (by decide) (fun c9 => absurd c9 (by decide)) (fun c9 => ?_)
  refine lv_iconst (v := 1) hx hb dX8_rests_36 (by decide) ?_
  refine lv_goto (tgt := 41) hx hb dX8_rests_37 (by decide) ?_
  refine lv_istore_n (lv' := [(3, .int 1), (2, .int 3), (1, .int 7), (4, .int 1), (0, .ref q1)]) hx hb dX8_rests_41 rfl hl (by decide) rfl (fun ls hl => ?_)
  refine lv_aload_n hx hb dX8_rests_42 rfl (lv_at hl 4 rfl) ?_
  refine va_get (D := D) (v := .ref q4) (C := RX8) (T := TX8) (N := 11) hx hb hts iX8 hown hK.1 hP 0 rfl rfl 5 (by decide) (hts _ t_305) (fun _ h9 => h9) rfl dX8_rests_43 ?_
  refine va_get (D := D) (v := .ref q13) (C := RX5) (T := TX5) (N := 8) hx hb hts iX5 hown hK.1 hP 1 rfl rfl 7 (by decide) (hts _ t_175) (fun _ h9 => h9) rfl dX8_rests_46 ?_
  refine lv_iconst (v := 4) hx hb dX8_rests_49 (by decide) ?_
  refine lv_iload_n hx hb dX8_rests_50 rfl (lv_at hl 1 rfl) ?_
  refine lv_iadd hx hb dX8_rests_51 ?_
  refine lv_topi (fun x3345 ex3345 => ?_)
  obtain rfl : x3345 = 7 := ex3345.trans (by decide)
  refine aftRi (runS (As := [.ref q13, .int 7]) (rest := []) C (c_X8_at_7 l D a q13) lk_S_8_129 (okN_X8_at) ⟨Nat.le_of_ble_eq_true rfl, Nat.le_of_ble_eq_true rfl⟩ ⟨rfl, rfl⟩ (preR hK (P_of_map (wc := [(q13, .inl (a 0, 8, .inl (fun _ => 0)))]) hP [2] rfl)) hl.1 rfl (Nat.le_of_ble_eq_true rfl) dX8_rests_52 ⟨Nat.le_of_ble_eq_true rfl, Nat.le_of_ble_eq_true rfl⟩) (fun x3346 hw => ?_)
  obtain rfl := hw
  refine lv_aload_n hx hb dX8_rests_55 rfl (lv_at hl 4 rfl) ?_
  refine va_get (D := D) (v := .ref q4) (C := RX8) (T := TX8) (N := 11) hx hb hts iX8 hown hK.1 hP 0 rfl rfl 5 (by decide) (hts _ t_305) (fun _ h9 => h9) rfl dX8_rests_56 ?_
  refine va_get (D := D) (v := .ref q13) (C := RX5) (T := TX5) (N := 8) hx hb hts iX5 hown hK.1 hP 1 rfl rfl 7 (by decide) (hts _ t_175) (fun _ h9 => h9) rfl dX8_rests_59 ?_
  refine lv_iconst (v := 4) hx hb dX8_rests_62 (by decide) ?_
  refine lv_iload_n hx hb dX8_rests_63 rfl (lv_at hl 1 rfl) ?_
  refine lv_iconst (v := 1) hx hb dX8_rests_64 (by decide) ?_
  refine lv_ixor hx hb dX8_rests_65 ?_
  refine lv_topi (fun x3349 ex3349 => ?_)
  obtain rfl : x3349 = 2 := ex3349.trans (by decide)
  refine lv_iadd hx hb dX8_rests_66 ?_
  refine lv_topi (fun x3350 ex3350 => ?_)
  obtain rfl : x3350 = 6 := ex3350.trans (by decide)
  refine aftRi (runS (As := [.ref q13, .int 6]) (rest := [.int 0]) C (c_X8_at_6 l D a q13) lk_S_8_129 (okN_X8_at) ⟨Nat.le_of_ble_eq_true rfl, Nat.le_of_ble_eq_true rfl⟩ ⟨rfl, rfl⟩ (preR hK (P_of_map (wc := [(q13, .inl (a 0, 8, .inl (fun _ => 0)))]) hP [2] rfl)) hl.1 rfl (Nat.le_of_ble_eq_true rfl) dX8_rests_67 ⟨Nat.le_of_ble_eq_true rfl, Nat.le_of_ble_eq_true rfl⟩) (fun x3351 hw => ?_)
  obtain rfl := hw
  refine lv_icmp_lt (tgt := 77) hx hb dX8_rests_70 (by decide) (fun c9 => absurd c9 (by decide)) (fun c9 => ?_)
  refine lv_iconst (v := 1) hx hb dX8_rests_73 (by decide) ?_
  refine lv_goto (tgt := 78) hx hb dX8_rests_74 (by decide) ?_
  refine lv_istore (lv' := [(4, .int 1), (3, .int 1), (2, .int 3), (1, .int 7), (0, .ref q1)]) hx hb dX8_rests_78 hl (by decide) rfl (fun ls hl => ?_)
  refine lv_iload_n hx hb dX8_rests_80 rfl (lv_at hl 1 rfl) ?_
  refine lv_if_eq (tgt := 95) hx hb dX8_rests_81 (by decide) (fun c9 => absurd c9 (by decide)) (fun c9 => ?_)
  refine lv_iload hx hb dX8_rests_84 (lv_at hl 0 rfl) ?_
  refine lv_if_eq (tgt := 95) hx hb dX8_rests_86 (by decide) (fun c9 => absurd c9 (by decide)) (fun c9 => ?_)
  refine lv_iload_n hx hb dX8_rests_89 rfl (lv_at hl 3 rfl) ?_
  refine lv_iconst (v := 1) hx hb dX8_rests_90 (by decide) ?_
  refine lv_iload_n hx hb dX8_rests_91 rfl (lv_at hl 2 rfl) ?_
  refine lv_ishl hx hb dX8_rests_92 ?_
  refine lv_topi (fun x3354 ex3354 => ?_)
  obtain rfl : x3354 = 8 := ex3354.trans (by decide)
  refine lv_ior hx hb dX8_rests_93 ?_
  refine lv_topi (fun x3355 ex3355 => ?_)
  obtain rfl : x3355 = 15 := ex3355.trans (by decide)
  refine lv_istore_n (lv' := [(1, .int 15), (4, .int 1), (3, .int 1), (2, .int 3), (0, .ref q1)]) hx hb dX8_rests_94 rfl hl (by decide) rfl (fun ls hl => ?_)
  refine lv_iinc (v := 4) (lv' := [(2, .int 4), (1, .int 15), (4, .int 1), (3, .int 1), (0, .ref q1)]) hx hb dX8_rests_95 hl (k := 3) rfl (by decide) (by decide) rfl (fun ls hl => ?_)
  refine lv_goto (tgt := 4) hx hb dX8_rests_98 (by decide) ?_
  refine lv_iload_n hx hb dX8_rests_4 rfl (lv_at hl 0 rfl) ?_
  refine lv_iconst (v := 4) hx hb dX8_rests_5 (by decide) ?_
  refine lv_icmp_ge (tgt := 101) hx hb dX8_rests_6 (by decide) (fun c9 => ?_) (fun c9 => absurd (by decide) c9)
  refine lv_iload_n hx hb dX8_rests_101 rfl (lv_at hl 1 rfl) ?_
  exact retRi C rfl rfl dX8_rests_102

set_option maxHeartbeats 4000000 in
set_option maxRecDepth 100000 in
theorem c_X9_gameOf_0 (l : Launch) (D : va_G) (a : Nat → ClassId) (q1 q2 q3 q4 q5 q6 q7 q8 q9 q10 q11 q12 q13 q14 q15 q16 q17 q18 q19 q20 q21 q22 q23 : Nat) : CRi l MX9_gameOf 0 0 D a [.ref q1, .int 0] [(q1, .inr (9, [.ref q2, .int 0, .int 0, .ref q3, .ref q4, .ref q5, .ref q6, .int 0, .int 0, .int 0, .ref q7, .ref q8, .int 0, .int 0, .int 0, .int 0, .int 0, .int 0, .int 0, .ref q9, .int 0, .ref q10, .int 0, .ref q11, .ref q12, .ref q13, .ref q14, .ref q15, .ref q16, .ref q17, .ref q18, .ref q19, .ref q20, .ref q21, .ref q22, .ref q23])), (q12, .inl (a 0, 104, .inl (fun _ => 0)))] (fun r => (r = 0)) := by
  refine entR (by decide) (Nat.le_of_ble_eq_true rfl) ?_
  intro p e s m below meth c C hK hP ls hl
  obtain ⟨hx, hb, hml, hown, hts, hr, hlocks, hnm⟩ := id C
  have hb : c.code = cX9_gameOf := hb
  have hown : s.vm.findClass RX9 = some m.cls := hown
  have hl : lv_has ls 2 [(0, .ref q1), (1, .int 0)] := hl
  refine lv_aload_n hx hb dX9_gameOf_0 rfl (lv_at hl 0 rfl) ?_
  refine va_get (D := D) (v := .ref q12) (C := RX9) (T := TX9) (N := 36) hx hb hts iX9 hown hK.1 hP 0 rfl rfl 24 (by decide) (hts _ t_906) (fun _ h9 => h9) rfl dX9_gameOf_1 ?_
  refine lv_bipush (v := 18) hx hb dX9_gameOf_4 (by decide) ?_
  refine lv_iload_n hx hb dX9_gameOf_6 rfl (lv_at hl 1 rfl) ?_
  refine lv_iadd hx hb dX9_gameOf_7 ?_
  refine lv_topi (fun x3360 ex3360 => ?_)
  obtain rfl : x3360 = 18 := ex3360.trans (by decide)
  refine ald_i hx hb hK.1 hP 1 0 rfl rfl 18 (ix_lit (by decide)) dX9_gameOf_8 ?_
  exact retRi C rfl rfl dX9_gameOf_9

set_option maxHeartbeats 4000000 in
set_option maxRecDepth 100000 in
theorem c_X9_gameOf_1 (l : Launch) (D : va_G) (a : Nat → ClassId) (q1 q2 q3 q4 q5 q6 q7 q8 q9 q10 q11 q12 q13 q14 q15 q16 q17 q18 q19 q20 q21 q22 q23 : Nat) : CRi l MX9_gameOf 0 0 D a [.ref q1, .int 2] [(q1, .inr (9, [.ref q2, .int 0, .int 0, .ref q3, .ref q4, .ref q5, .ref q6, .int 0, .int 0, .int 0, .ref q7, .ref q8, .int 0, .int 0, .int 0, .int 0, .int 0, .int 0, .int 0, .ref q9, .int 0, .ref q10, .int 0, .ref q11, .ref q12, .ref q13, .ref q14, .ref q15, .ref q16, .ref q17, .ref q18, .ref q19, .ref q20, .ref q21, .ref q22, .ref q23])), (q12, .inl (a 0, 104, .inl (fun _ => 0)))] (fun r => (r = 0)) := by
  refine entR (by decide) (Nat.le_of_ble_eq_true rfl) ?_
  intro p e s m below meth c C hK hP ls hl
  obtain ⟨hx, hb, hml, hown, hts, hr, hlocks, hnm⟩ := id C
  have hb : c.code = cX9_gameOf := hb
  have hown : s.vm.findClass RX9 = some m.cls := hown
  have hl : lv_has ls 2 [(0, .ref q1), (1, .int 2)] := hl
  refine lv_aload_n hx hb dX9_gameOf_0 rfl (lv_at hl 0 rfl) ?_
  refine va_get (D := D) (v := .ref q12) (C := RX9) (T := TX9) (N := 36) hx hb hts iX9 hown hK.1 hP 0 rfl rfl 24 (by decide) (hts _ t_906) (fun _ h9 => h9) rfl dX9_gameOf_1 ?_
  refine lv_bipush (v := 18) hx hb dX9_gameOf_4 (by decide) ?_
  refine lv_iload_n hx hb dX9_gameOf_6 rfl (lv_at hl 1 rfl) ?_
  refine lv_iadd hx hb dX9_gameOf_7 ?_
  refine lv_topi (fun x3365 ex3365 => ?_)
  obtain rfl : x3365 = 20 := ex3365.trans (by decide)
  refine ald_i hx hb hK.1 hP 1 0 rfl rfl 20 (ix_lit (by decide)) dX9_gameOf_8 ?_
  exact retRi C rfl rfl dX9_gameOf_9

set_option maxHeartbeats 4000000 in
set_option maxRecDepth 100000 in
theorem c_X9_gameOf_2 (l : Launch) (D : va_G) (a : Nat → ClassId) (q1 q2 q3 q4 q5 q6 q7 q8 q9 q10 q11 q12 q13 q14 q15 q16 q17 q18 q19 q20 q21 q22 q23 : Nat) : CRi l MX9_gameOf 0 0 D a [.ref q1, .int 4] [(q1, .inr (9, [.ref q2, .int 0, .int 0, .ref q3, .ref q4, .ref q5, .ref q6, .int 0, .int 0, .int 0, .ref q7, .ref q8, .int 0, .int 0, .int 0, .int 0, .int 0, .int 0, .int 0, .ref q9, .int 0, .ref q10, .int 0, .ref q11, .ref q12, .ref q13, .ref q14, .ref q15, .ref q16, .ref q17, .ref q18, .ref q19, .ref q20, .ref q21, .ref q22, .ref q23])), (q12, .inl (a 0, 104, .inl (fun _ => 0)))] (fun r => (r = 0)) := by
  refine entR (by decide) (Nat.le_of_ble_eq_true rfl) ?_
  intro p e s m below meth c C hK hP ls hl
  obtain ⟨hx, hb, hml, hown, hts, hr, hlocks, hnm⟩ := id C
  have hb : c.code = cX9_gameOf := hb
  have hown : s.vm.findClass RX9 = some m.cls := hown
  have hl : lv_has ls 2 [(0, .ref q1), (1, .int 4)] := hl
  refine lv_aload_n hx hb dX9_gameOf_0 rfl (lv_at hl 0 rfl) ?_
  refine va_get (D := D) (v := .ref q12) (C := RX9) (T := TX9) (N := 36) hx hb hts iX9 hown hK.1 hP 0 rfl rfl 24 (by decide) (hts _ t_906) (fun _ h9 => h9) rfl dX9_gameOf_1 ?_
  refine lv_bipush (v := 18) hx hb dX9_gameOf_4 (by decide) ?_
  refine lv_iload_n hx hb dX9_gameOf_6 rfl (lv_at hl 1 rfl) ?_
  refine lv_iadd hx hb dX9_gameOf_7 ?_
  refine lv_topi (fun x3370 ex3370 => ?_)
  obtain rfl : x3370 = 22 := ex3370.trans (by decide)
  refine ald_i hx hb hK.1 hP 1 0 rfl rfl 22 (ix_lit (by decide)) dX9_gameOf_8 ?_
  exact retRi C rfl rfl dX9_gameOf_9

set_option maxHeartbeats 4000000 in
set_option maxRecDepth 100000 in
theorem c_X9_gameOf_3 (l : Launch) (D : va_G) (a : Nat → ClassId) (q1 q2 q3 q4 q5 q6 q7 q8 q9 q10 q11 q12 q13 q14 q15 q16 q17 q18 q19 q20 q21 q22 q23 : Nat) : CRi l MX9_gameOf 0 0 D a [.ref q1, .int 5] [(q1, .inr (9, [.ref q2, .int 0, .int 0, .ref q3, .ref q4, .ref q5, .ref q6, .int 0, .int 0, .int 0, .ref q7, .ref q8, .int 0, .int 0, .int 0, .int 0, .int 0, .int 0, .int 0, .ref q9, .int 0, .ref q10, .int 0, .ref q11, .ref q12, .ref q13, .ref q14, .ref q15, .ref q16, .ref q17, .ref q18, .ref q19, .ref q20, .ref q21, .ref q22, .ref q23])), (q12, .inl (a 0, 104, .inl (fun _ => 0)))] (fun r => (r = 0)) := by
  refine entR (by decide) (Nat.le_of_ble_eq_true rfl) ?_
  intro p e s m below meth c C hK hP ls hl
  obtain ⟨hx, hb, hml, hown, hts, hr, hlocks, hnm⟩ := id C
  have hb : c.code = cX9_gameOf := hb
  have hown : s.vm.findClass RX9 = some m.cls := hown
  have hl : lv_has ls 2 [(0, .ref q1), (1, .int 5)] := hl
  refine lv_aload_n hx hb dX9_gameOf_0 rfl (lv_at hl 0 rfl) ?_
  refine va_get (D := D) (v := .ref q12) (C := RX9) (T := TX9) (N := 36) hx hb hts iX9 hown hK.1 hP 0 rfl rfl 24 (by decide) (hts _ t_906) (fun _ h9 => h9) rfl dX9_gameOf_1 ?_
  refine lv_bipush (v := 18) hx hb dX9_gameOf_4 (by decide) ?_
  refine lv_iload_n hx hb dX9_gameOf_6 rfl (lv_at hl 1 rfl) ?_
  refine lv_iadd hx hb dX9_gameOf_7 ?_
  refine lv_topi (fun x3375 ex3375 => ?_)
  obtain rfl : x3375 = 23 := ex3375.trans (by decide)
  refine ald_i hx hb hK.1 hP 1 0 rfl rfl 23 (ix_lit (by decide)) dX9_gameOf_8 ?_
  exact retRi C rfl rfl dX9_gameOf_9

set_option maxHeartbeats 4000000 in
set_option maxRecDepth 100000 in
theorem c_X9_gameOf_4 (l : Launch) (D : va_G) (a : Nat → ClassId) (q1 q2 q3 q4 q5 q6 q7 q8 q9 q10 q11 q12 q13 q14 q15 q16 q17 q18 q19 q20 q21 q22 q23 : Nat) : CRi l MX9_gameOf 0 0 D a [.ref q1, .int 1] [(q1, .inr (9, [.ref q2, .int 0, .int 0, .ref q3, .ref q4, .ref q5, .ref q6, .int 0, .int 0, .int 0, .ref q7, .ref q8, .int 0, .int 0, .int 0, .int 0, .int 0, .int 0, .int 0, .ref q9, .int 0, .ref q10, .int 0, .ref q11, .ref q12, .ref q13, .ref q14, .ref q15, .ref q16, .ref q17, .ref q18, .ref q19, .ref q20, .ref q21, .ref q22, .ref q23])), (q12, .inl (a 0, 104, .inl (fun _ => 0)))] (fun r => (r = 0)) := by
  refine entR (by decide) (Nat.le_of_ble_eq_true rfl) ?_
  intro p e s m below meth c C hK hP ls hl
  obtain ⟨hx, hb, hml, hown, hts, hr, hlocks, hnm⟩ := id C
  have hb : c.code = cX9_gameOf := hb
  have hown : s.vm.findClass RX9 = some m.cls := hown
  have hl : lv_has ls 2 [(0, .ref q1), (1, .int 1)] := hl
  refine lv_aload_n hx hb dX9_gameOf_0 rfl (lv_at hl 0 rfl) ?_
  refine va_get (D := D) (v := .ref q12) (C := RX9) (T := TX9) (N := 36) hx hb hts iX9 hown hK.1 hP 0 rfl rfl 24 (by decide) (hts _ t_906) (fun _ h9 => h9) rfl dX9_gameOf_1 ?_
  refine lv_bipush (v := 18) hx hb dX9_gameOf_4 (by decide) ?_
  refine lv_iload_n hx hb dX9_gameOf_6 rfl (lv_at hl 1 rfl) ?_
  refine lv_iadd hx hb dX9_gameOf_7 ?_
  refine lv_topi (fun x3380 ex3380 => ?_)
  obtain rfl : x3380 = 19 := ex3380.trans (by decide)
  refine ald_i hx hb hK.1 hP 1 0 rfl rfl 19 (ix_lit (by decide)) dX9_gameOf_8 ?_
  exact retRi C rfl rfl dX9_gameOf_9

set_option maxHeartbeats 4000000 in
set_option maxRecDepth 100000 in
theorem c_X9_gameOf_5 (l : Launch) (D : va_G) (a : Nat → ClassId) (q1 q2 q3 q4 q5 q6 q7 q8 q9 q10 q11 q12 q13 q14 q15 q16 q17 q18 q19 q20 q21 q22 q23 : Nat) : CRi l MX9_gameOf 0 0 D a [.ref q1, .int 3] [(q1, .inr (9, [.ref q2, .int 0, .int 0, .ref q3, .ref q4, .ref q5, .ref q6, .int 0, .int 0, .int 0, .ref q7, .ref q8, .int 0, .int 0, .int 0, .int 0, .int 0, .int 0, .int 0, .ref q9, .int 0, .ref q10, .int 0, .ref q11, .ref q12, .ref q13, .ref q14, .ref q15, .ref q16, .ref q17, .ref q18, .ref q19, .ref q20, .ref q21, .ref q22, .ref q23])), (q12, .inl (a 0, 104, .inl (fun _ => 0)))] (fun r => (r = 0)) := by
  refine entR (by decide) (Nat.le_of_ble_eq_true rfl) ?_
  intro p e s m below meth c C hK hP ls hl
  obtain ⟨hx, hb, hml, hown, hts, hr, hlocks, hnm⟩ := id C
  have hb : c.code = cX9_gameOf := hb
  have hown : s.vm.findClass RX9 = some m.cls := hown
  have hl : lv_has ls 2 [(0, .ref q1), (1, .int 3)] := hl
  refine lv_aload_n hx hb dX9_gameOf_0 rfl (lv_at hl 0 rfl) ?_
  refine va_get (D := D) (v := .ref q12) (C := RX9) (T := TX9) (N := 36) hx hb hts iX9 hown hK.1 hP 0 rfl rfl 24 (by decide) (hts _ t_906) (fun _ h9 => h9) rfl dX9_gameOf_1 ?_
  refine lv_bipush (v := 18) hx hb dX9_gameOf_4 (by decide) ?_
  refine lv_iload_n hx hb dX9_gameOf_6 rfl (lv_at hl 1 rfl) ?_
  refine lv_iadd hx hb dX9_gameOf_7 ?_
  refine lv_topi (fun x3385 ex3385 => ?_)
  obtain rfl : x3385 = 21 := ex3385.trans (by decide)
  refine ald_i hx hb hK.1 hP 1 0 rfl rfl 21 (ix_lit (by decide)) dX9_gameOf_8 ?_
  exact retRi C rfl rfl dX9_gameOf_9

set_option maxHeartbeats 4000000 in
set_option maxRecDepth 100000 in
theorem c_X9_gameOf_6 (l : Launch) (D : va_G) (a : Nat → ClassId) (q1 q2 q3 q4 q5 q6 q7 q8 q9 q10 q11 q12 q13 q14 q15 q16 q17 q18 q19 q20 q21 q22 q23 : Nat) : CRi l MX9_gameOf 0 0 D a [.ref q1, .int 6] [(q1, .inr (9, [.ref q2, .int 0, .int 0, .ref q3, .ref q4, .ref q5, .ref q6, .int 0, .int 0, .int 0, .ref q7, .ref q8, .int 0, .int 0, .int 0, .int 0, .int 0, .int 0, .int 0, .ref q9, .int 0, .ref q10, .int 0, .ref q11, .ref q12, .ref q13, .ref q14, .ref q15, .ref q16, .ref q17, .ref q18, .ref q19, .ref q20, .ref q21, .ref q22, .ref q23])), (q12, .inl (a 0, 104, .inl (fun _ => 0)))] (fun r => (r = 0)) := by
  refine entR (by decide) (Nat.le_of_ble_eq_true rfl) ?_
  intro p e s m below meth c C hK hP ls hl
  obtain ⟨hx, hb, hml, hown, hts, hr, hlocks, hnm⟩ := id C
  have hb : c.code = cX9_gameOf := hb
  have hown : s.vm.findClass RX9 = some m.cls := hown
  have hl : lv_has ls 2 [(0, .ref q1), (1, .int 6)] := hl
  refine lv_aload_n hx hb dX9_gameOf_0 rfl (lv_at hl 0 rfl) ?_
  refine va_get (D := D) (v := .ref q12) (C := RX9) (T := TX9) (N := 36) hx hb hts iX9 hown hK.1 hP 0 rfl rfl 24 (by decide) (hts _ t_906) (fun _ h9 => h9) rfl dX9_gameOf_1 ?_
  refine lv_bipush (v := 18) hx hb dX9_gameOf_4 (by decide) ?_
  refine lv_iload_n hx hb dX9_gameOf_6 rfl (lv_at hl 1 rfl) ?_
  refine lv_iadd hx hb dX9_gameOf_7 ?_
  refine lv_topi (fun x3403 ex3403 => ?_)
  obtain rfl : x3403 = 24 := ex3403.trans (by decide)
  refine ald_i hx hb hK.1 hP 1 0 rfl rfl 24 (ix_lit (by decide)) dX9_gameOf_8 ?_
  exact retRi C rfl rfl dX9_gameOf_9

set_option maxHeartbeats 4000000 in
set_option maxRecDepth 100000 in
theorem c_X9_gameOf_7 (l : Launch) (D : va_G) (a : Nat → ClassId) (q1 q2 q3 q4 q5 q6 q7 q8 q9 q10 q11 q12 q13 q14 q15 q16 q17 q18 q19 q20 q21 q22 q23 : Nat) : CRi l MX9_gameOf 0 0 D a [.ref q1, .int 7] [(q1, .inr (9, [.ref q2, .int 0, .int 0, .ref q3, .ref q4, .ref q5, .ref q6, .int 0, .int 0, .int 0, .ref q7, .ref q8, .int 0, .int 0, .int 0, .int 0, .int 0, .int 0, .int 0, .ref q9, .int 0, .ref q10, .int 0, .ref q11, .ref q12, .ref q13, .ref q14, .ref q15, .ref q16, .ref q17, .ref q18, .ref q19, .ref q20, .ref q21, .ref q22, .ref q23])), (q12, .inl (a 0, 104, .inl (fun _ => 0)))] (fun r => (r = 0)) := by
  refine entR (by decide) (Nat.le_of_ble_eq_true rfl) ?_
  intro p e s m below meth c C hK hP ls hl
  obtain ⟨hx, hb, hml, hown, hts, hr, hlocks, hnm⟩ := id C
  have hb : c.code = cX9_gameOf := hb
  have hown : s.vm.findClass RX9 = some m.cls := hown
  have hl : lv_has ls 2 [(0, .ref q1), (1, .int 7)] := hl
  refine lv_aload_n hx hb dX9_gameOf_0 rfl (lv_at hl 0 rfl) ?_
  refine va_get (D := D) (v := .ref q12) (C := RX9) (T := TX9) (N := 36) hx hb hts iX9 hown hK.1 hP 0 rfl rfl 24 (by decide) (hts _ t_906) (fun _ h9 => h9) rfl dX9_gameOf_1 ?_
  refine lv_bipush (v := 18) hx hb dX9_gameOf_4 (by decide) ?_
  refine lv_iload_n hx hb dX9_gameOf_6 rfl (lv_at hl 1 rfl) ?_
  refine lv_iadd hx hb dX9_gameOf_7 ?_
  refine lv_topi (fun x3408 ex3408 => ?_)
  obtain rfl : x3408 = 25 := ex3408.trans (by decide)
  refine ald_i hx hb hK.1 hP 1 0 rfl rfl 25 (ix_lit (by decide)) dX9_gameOf_8 ?_
  exact retRi C rfl rfl dX9_gameOf_9

set_option maxHeartbeats 4000000 in
set_option maxRecDepth 100000 in
theorem c_X9_rests_0 (l : Launch) (D : va_G) (a : Nat → ClassId) (q1 q2 q3 q4 q5 q6 q7 q8 q9 q10 q11 q12 q13 q14 q15 q16 q17 q18 q19 q20 q21 q22 q23 : Nat) : CRi l MX9_rests 1 21 D a [.ref q1] [(q1, .inr (9, [.ref q2, .int 0, .int 0, .ref q3, .ref q4, .ref q5, .ref q6, .int 0, .int 0, .int 0, .ref q7, .ref q8, .int 0, .int 0, .int 0, .int 0, .int 0, .int 0, .int 0, .ref q9, .int 0, .ref q10, .int 0, .ref q11, .ref q12, .ref q13, .ref q14, .ref q15, .ref q16, .ref q17, .ref q18, .ref q19, .ref q20, .ref q21, .ref q22, .ref q23])), (q12, .inl (a 0, 104, .inl (fun _ => 0)))] (fun r => (r = 15)) := by
  refine entR (by decide) (Nat.le_of_ble_eq_true rfl) ?_
  intro p e s m below meth c C hK hP ls hl
  obtain ⟨hx, hb, hml, hown, hts, hr, hlocks, hnm⟩ := id C
  have hb : c.code = cX9_rests := hb
  have hown : s.vm.findClass RX9 = some m.cls := hown
  have hl : lv_has ls 2 [(0, .ref q1)] := hl
  refine lv_aload_n hx hb dX9_rests_0 rfl (lv_at hl 0 rfl) ?_
  refine lv_iconst (v := 0) hx hb dX9_rests_1 (by decide) ?_
  refine aftRi (runV (As := [.int 0]) (rest := []) C (c_X9_gameOf_0 l D a q1 q2 q3 q4 q5 q6 q7 q8 q9 q10 q11 q12 q13 q14 q15 q16 q17 q18 q19 q20 q21 q22 q23) lk_V_9_401 (okN_X9_gameOf) ⟨Nat.le_of_ble_eq_true rfl, Nat.le_of_ble_eq_true rfl⟩ ⟨rfl, rfl⟩ (preV (preR hK (P_of_map (wc := [(q1, .inr (9, [.ref q2, .int 0, .int 0, .ref q3, .ref q4, .ref q5, .ref q6, .int 0, .int 0, .int 0, .ref q7, .ref q8, .int 0, .int 0, .int 0, .int 0, .int 0, .int 0, .int 0, .ref q9, .int 0, .ref q10, .int 0, .ref q11, .ref q12, .ref q13, .ref q14, .ref q15, .ref q16, .ref q17, .ref q18, .ref q19, .ref q20, .ref q21, .ref q22, .ref q23])), (q12, .inl (a 0, 104, .inl (fun _ => 0)))]) hP [0, 1] rfl)) (recvOf hK hP 0 rfl (ci := 9) rfl)) hl.1 rfl (Nat.le_of_ble_eq_true rfl) dX9_rests_2 ⟨Nat.le_of_ble_eq_true rfl, Nat.le_of_ble_eq_true rfl⟩) (fun x3427 hw => ?_)
  obtain rfl := hw
  refine lv_aload_n hx hb dX9_rests_5 rfl (lv_at hl 0 rfl) ?_
  refine lv_iconst (v := 2) hx hb dX9_rests_6 (by decide) ?_
  refine aftRi (runV (As := [.int 2]) (rest := [.int 0]) C (c_X9_gameOf_1 l D a q1 q2 q3 q4 q5 q6 q7 q8 q9 q10 q11 q12 q13 q14 q15 q16 q17 q18 q19 q20 q21 q22 q23) lk_V_9_401 (okN_X9_gameOf) ⟨Nat.le_of_ble_eq_true rfl, Nat.le_of_ble_eq_true rfl⟩ ⟨rfl, rfl⟩ (preV (preR hK (P_of_map (wc := [(q1, .inr (9, [.ref q2, .int 0, .int 0, .ref q3, .ref q4, .ref q5, .ref q6, .int 0, .int 0, .int 0, .ref q7, .ref q8, .int 0, .int 0, .int 0, .int 0, .int 0, .int 0, .int 0, .ref q9, .int 0, .ref q10, .int 0, .ref q11, .ref q12, .ref q13, .ref q14, .ref q15, .ref q16, .ref q17, .ref q18, .ref q19, .ref q20, .ref q21, .ref q22, .ref q23])), (q12, .inl (a 0, 104, .inl (fun _ => 0)))]) hP [0, 1] rfl)) (recvOf hK hP 0 rfl (ci := 9) rfl)) hl.1 rfl (Nat.le_of_ble_eq_true rfl) dX9_rests_7 ⟨Nat.le_of_ble_eq_true rfl, Nat.le_of_ble_eq_true rfl⟩) (fun x3431 hw => ?_)
  obtain rfl := hw
  refine lv_icmp_lt (tgt := 30) hx hb dX9_rests_10 (by decide) (fun c9 => absurd c9 (by decide)) (fun c9 => ?_)
  refine lv_aload_n hx hb dX9_rests_13 rfl (lv_at hl 0 rfl) ?_
  refine lv_iconst (v := 4) hx hb dX9_rests_14 (by decide) ?_
  refine aftRi (runV (As := [.int 4]) (rest := []) C (c_X9_gameOf_2 l D a q1 q2 q3 q4 q5 q6 q7 q8 q9 q10 q11 q12 q13 q14 q15 q16 q17 q18 q19 q20 q21 q22 q23) lk_V_9_401 (okN_X9_gameOf) ⟨Nat.le_of_ble_eq_true rfl, Nat.le_of_ble_eq_true rfl⟩ ⟨rfl, rfl⟩ (preV (preR hK (P_of_map (wc := [(q1, .inr (9, [.ref q2, .int 0, .int 0, .ref q3, .ref q4, .ref q5, .ref q6, .int 0, .int 0, .int 0, .ref q7, .ref q8, .int 0, .int 0, .int 0, .int 0, .int 0, .int 0, .int 0, .ref q9, .int 0, .ref q10, .int 0, .ref q11, .ref q12, .ref q13, .ref q14, .ref q15, .ref q16, .ref q17, .ref q18, .ref q19, .ref q20, .ref q21, .ref q22, .ref q23])), (q12, .inl (a 0, 104, .inl (fun _ => 0)))]) hP [0, 1] rfl)) (recvOf hK hP 0 rfl (ci := 9) rfl)) hl.1 rfl (Nat.le_of_ble_eq_true rfl) dX9_rests_15 ⟨Nat.le_of_ble_eq_true rfl, Nat.le_of_ble_eq_true rfl⟩) (fun x3435 hw => ?_)
  obtain rfl := hw
  refine lv_aload_n hx hb dX9_rests_18 rfl (lv_at hl 0 rfl) ?_
  refine lv_iconst (v := 5) hx hb dX9_rests_19 (by decide) ?_
  refine aftRi (runV (As := [.int 5]) (rest := [.int 0]) C (c_X9_gameOf_3 l D a q1 q2 q3 q4 q5 q6 q7 q8 q9 q10 q11 q12 q13 q14 q15 q16 q17 q18 q19 q20 q21 q22 q23) lk_V_9_401 (okN_X9_gameOf) ⟨Nat.le_of_ble_eq_true rfl, Nat.le_of_ble_eq_true rfl⟩ ⟨rfl, rfl⟩ (preV (preR hK (P_of_map (wc := [(q1, .inr (9, [.ref q2, .int 0, .int 0, .ref q3, .ref q4, .ref q5, .ref q6, .int 0, .int 0, .int 0, .ref q7, .ref q8, .int 0, .int 0, .int 0, .int 0, .int 0, .int 0, .int 0, .ref q9, .int 0, .ref q10, .int 0, .ref q11, .ref q12, .ref q13, .ref q14, .ref q15, .ref q16, .ref q17, .ref q18, .ref q19, .ref q20, .ref q21, .ref q22, .ref q23])), (q12, .inl (a 0, 104, .inl (fun _ => 0)))]) hP [0, 1] rfl)) (recvOf hK hP 0 rfl (ci := 9) rfl)) hl.1 rfl (Nat.le_of_ble_eq_true rfl) dX9_rests_20 ⟨Nat.le_of_ble_eq_true rfl, Nat.le_of_ble_eq_true rfl⟩) (fun x3439 hw => ?_)
  obtain rfl := hw
  refine lv_icmp_lt (tgt := 30) hx hb dX9_rests_23 (by decide) (fun c9 => absurd c9 (by decide)) (fun c9 => ?_)
  refine lv_iconst (v := 1) hx hb dX9_rests_26 (by decide) ?_
  refine lv_goto (tgt := 31) hx hb dX9_rests_27 (by decide) ?_
  refine lv_istore_n (lv' := [(1, .int 1), (0, .ref q1)]) hx hb dX9_rests_31 rfl hl (by decide) rfl (fun ls hl => ?_)
  refine lv_iload_n hx hb dX9_rests_32 rfl (lv_at hl 0 rfl) ?_
  refine lv_aload_n hx hb dX9_rests_33 rfl (lv_at hl 1 rfl) ?_
  refine lv_iconst (v := 1) hx hb dX9_rests_34 (by decide) ?_
  refine aftRi (runV (As := [.int 1]) (rest := [.int 1]) C (c_X9_gameOf_4 l D a q1 q2 q3 q4 q5 q6 q7 q8 q9 q10 q11 q12 q13 q14 q15 q16 q17 q18 q19 q20 q21 q22 q23) lk_V_9_401 (okN_X9_gameOf) ⟨Nat.le_of_ble_eq_true rfl, Nat.le_of_ble_eq_true rfl⟩ ⟨rfl, rfl⟩ (preV (preR hK (P_of_map (wc := [(q1, .inr (9, [.ref q2, .int 0, .int 0, .ref q3, .ref q4, .ref q5, .ref q6, .int 0, .int 0, .int 0, .ref q7, .ref q8, .int 0, .int 0, .int 0, .int 0, .int 0, .int 0, .int 0, .ref q9, .int 0, .ref q10, .int 0, .ref q11, .ref q12, .ref q13, .ref q14, .ref q15, .ref q16, .ref q17, .ref q18, .ref q19, .ref q20, .ref q21, .ref q22, .ref q23])), (q12, .inl (a 0, 104, .inl (fun _ => 0)))]) hP [0, 1] rfl)) (recvOf hK hP 0 rfl (ci := 9) rfl)) hl.1 rfl (Nat.le_of_ble_eq_true rfl) dX9_rests_35 ⟨Nat.le_of_ble_eq_true rfl, Nat.le_of_ble_eq_true rfl⟩) (fun x3443 hw => ?_)
  obtain rfl := hw
  refine lv_aload_n hx hb dX9_rests_38 rfl (lv_at hl 1 rfl) ?_
  refine lv_iconst (v := 3) hx hb dX9_rests_39 (by decide) ?_
  refine aftRi (runV (As := [.int 3]) (rest := [.int 0, .int 1]) C (c_X9_gameOf_5 l D a q1 q2 q3 q4 q5 q6 q7 q8 q9 q10 q11 q12 q13 q14 q15 q16 q17 q18 q19 q20 q21 q22 q23) lk_V_9_401 (okN_X9_gameOf) ⟨Nat.le_of_ble_eq_true rfl, Nat.le_of_ble_eq_true rfl⟩ ⟨rfl, rfl⟩ (preV (preR hK (P_of_map (wc := [(q1, .inr (9, [.ref q2, .int 0, .int 0, .ref q3, .ref q4, .ref q5, .ref q6, .int 0, .int 0, .int 0, .ref q7, .ref q8, .int 0, .int 0, .int 0, .int 0, .int 0, .int 0, .int 0, .ref q9, .int 0, .ref q10, .int 0, .ref q11, .ref q12, .ref q13, .ref q14, .ref q15, .ref q16, .ref q17, .ref q18, .ref q19, .ref q20, .ref q21, .ref q22, .ref q23])), (q12, .inl (a 0, 104, .inl (fun _ => 0)))]) hP [0, 1] rfl)) (recvOf hK hP 0 rfl (ci := 9) rfl)) hl.1 rfl (Nat.le_of_ble_eq_true rfl) dX9_rests_40 ⟨Nat.le_of_ble_eq_true rfl, Nat.le_of_ble_eq_true rfl⟩) (fun x3447 hw => ?_)
  obtain rfl := hw
  refine lv_icmp_lt (tgt := 63) hx hb dX9_rests_43 (by decide) (fun c9 => absurd c9 (by decide)) (fun c9 => ?_)
  refine lv_aload_n hx hb dX9_rests_46 rfl (lv_at hl 1 rfl) ?_
  refine lv_iconst (v := 5) hx hb dX9_rests_47 (by decide) ?_
  refine aftRi (runV (As := [.int 5]) (rest := [.int 1]) C (c_X9_gameOf_3 l D a q1 q2 q3 q4 q5 q6 q7 q8 q9 q10 q11 q12 q13 q14 q15 q16 q17 q18 q19 q20 q21 q22 q23) lk_V_9_401 (okN_X9_gameOf) ⟨Nat.le_of_ble_eq_true rfl, Nat.le_of_ble_eq_true rfl⟩ ⟨rfl, rfl⟩ (preV (preR hK (P_of_map (wc := [(q1, .inr (9, [.ref q2, .int 0, .int 0, .ref q3, .ref q4, .ref q5, .ref q6, .int 0, .int 0, .int 0, .ref q7, .ref q8, .int 0, .int 0, .int 0, .int 0, .int 0, .int 0, .int 0, .ref q9, .int 0, .ref q10, .int 0, .ref q11, .ref q12, .ref q13, .ref q14, .ref q15, .ref q16, .ref q17, .ref q18, .ref q19, .ref q20, .ref q21, .ref q22, .ref q23])), (q12, .inl (a 0, 104, .inl (fun _ => 0)))]) hP [0, 1] rfl)) (recvOf hK hP 0 rfl (ci := 9) rfl)) hl.1 rfl (Nat.le_of_ble_eq_true rfl) dX9_rests_48 ⟨Nat.le_of_ble_eq_true rfl, Nat.le_of_ble_eq_true rfl⟩) (fun x3450 hw => ?_)
  obtain rfl := hw
  refine lv_aload_n hx hb dX9_rests_51 rfl (lv_at hl 1 rfl) ?_
  refine lv_iconst (v := 4) hx hb dX9_rests_52 (by decide) ?_
  refine aftRi (runV (As := [.int 4]) (rest := [.int 0, .int 1]) C (c_X9_gameOf_2 l D a q1 q2 q3 q4 q5 q6 q7 q8 q9 q10 q11 q12 q13 q14 q15 q16 q17 q18 q19 q20 q21 q22 q23) lk_V_9_401 (okN_X9_gameOf) ⟨Nat.le_of_ble_eq_true rfl, Nat.le_of_ble_eq_true rfl⟩ ⟨rfl, rfl⟩ (preV (preR hK (P_of_map (wc := [(q1, .inr (9, [.ref q2, .int 0, .int 0, .ref q3, .ref q4, .ref q5, .ref q6, .int 0, .int 0, .int 0, .ref q7, .ref q8, .int 0, .int 0, .int 0, .int 0, .int 0, .int 0, .int 0, .ref q9, .int 0, .ref q10, .int 0, .ref q11, .ref q12, .ref q13, .ref q14, .ref q15, .ref q16, .ref q17, .ref q18, .ref q19, .ref q20, .ref q21, .ref q22, .ref q23])), (q12, .inl (a 0, 104, .inl (fun _ => 0)))]) hP [0, 1] rfl)) (recvOf hK hP 0 rfl (ci := 9) rfl)) hl.1 rfl (Nat.le_of_ble_eq_true rfl) dX9_rests_53 ⟨Nat.le_of_ble_eq_true rfl, Nat.le_of_ble_eq_true rfl⟩) (fun x3453 hw => ?_)
  obtain rfl := hw
  refine lv_icmp_lt (tgt := 63) hx hb dX9_rests_56 (by decide) (fun c9 => absurd c9 (by decide)) (fun c9 => ?_)
  refine lv_iconst (v := 2) hx hb dX9_rests_59 (by decide) ?_
  refine lv_goto (tgt := 64) hx hb dX9_rests_60 (by decide) ?_
  refine lv_ior hx hb dX9_rests_64 ?_
  refine lv_topi (fun x3456 ex3456 => ?_)
  obtain rfl : x3456 = 3 := ex3456.trans (by decide)
  refine lv_istore_n (lv' := [(1, .int 3), (0, .ref q1)]) hx hb dX9_rests_65 rfl hl (by decide) rfl (fun ls hl => ?_)
  refine lv_iload_n hx hb dX9_rests_66 rfl (lv_at hl 0 rfl) ?_
  refine lv_aload_n hx hb dX9_rests_67 rfl (lv_at hl 1 rfl) ?_
  refine lv_iconst (v := 2) hx hb dX9_rests_68 (by decide) ?_
  refine aftRi (runV (As := [.int 2]) (rest := [.int 3]) C (c_X9_gameOf_1 l D a q1 q2 q3 q4 q5 q6 q7 q8 q9 q10 q11 q12 q13 q14 q15 q16 q17 q18 q19 q20 q21 q22 q23) lk_V_9_401 (okN_X9_gameOf) ⟨Nat.le_of_ble_eq_true rfl, Nat.le_of_ble_eq_true rfl⟩ ⟨rfl, rfl⟩ (preV (preR hK (P_of_map (wc := [(q1, .inr (9, [.ref q2, .int 0, .int 0, .ref q3, .ref q4, .ref q5, .ref q6, .int 0, .int 0, .int 0, .ref q7, .ref q8, .int 0, .int 0, .int 0, .int 0, .int 0, .int 0, .int 0, .ref q9, .int 0, .ref q10, .int 0, .ref q11, .ref q12, .ref q13, .ref q14, .ref q15, .ref q16, .ref q17, .ref q18, .ref q19, .ref q20, .ref q21, .ref q22, .ref q23])), (q12, .inl (a 0, 104, .inl (fun _ => 0)))]) hP [0, 1] rfl)) (recvOf hK hP 0 rfl (ci := 9) rfl)) hl.1 rfl (Nat.le_of_ble_eq_true rfl) dX9_rests_69 ⟨Nat.le_of_ble_eq_true rfl, Nat.le_of_ble_eq_true rfl⟩) (fun x3457 hw => ?_)
  obtain rfl := hw
  refine lv_aload_n hx hb dX9_rests_72 rfl (lv_at hl 1 rfl) ?_
  refine lv_iconst (v := 0) hx hb dX9_rests_73 (by decide) ?_
  refine aftRi (runV (As := [.int 0]) (rest := [.int 0, .int 3]) C (c_X9_gameOf_0 l D a q1 q2 q3 q4 q5 q6 q7 q8 q9 q10 q11 q12 q13 q14 q15 q16 q17 q18 q19 q20 q21 q22 q23) lk_V_9_401 (okN_X9_gameOf) ⟨Nat.le_of_ble_eq_true rfl, Nat.le_of_ble_eq_true rfl⟩ ⟨rfl, rfl⟩ (preV (preR hK (P_of_map (wc := [(q1, .inr (9, [.ref q2, .int 0, .int 0, .ref q3, .ref q4, .ref q5, .ref q6, .int 0, .int 0, .int 0, .ref q7, .ref q8, .int 0, .int 0, .int 0, .int 0, .int 0, .int 0, .int 0, .ref q9, .int 0, .ref q10, .int 0, .ref q11, .ref q12, .ref q13, .ref q14, .ref q15, .ref q16, .ref q17, .ref q18, .ref q19, .ref q20, .ref q21, .ref q22, .ref q23])), (q12, .inl (a 0, 104, .inl (fun _ => 0)))]) hP [0, 1] rfl)) (recvOf hK hP 0 rfl (ci := 9) rfl)) hl.1 rfl (Nat.le_of_ble_eq_true rfl) dX9_rests_74 ⟨Nat.le_of_ble_eq_true rfl, Nat.le_of_ble_eq_true rfl⟩) (fun x3460 hw => ?_)
  obtain rfl := hw
  refine lv_icmp_lt (tgt := 99) hx hb dX9_rests_77 (by decide) (fun c9 => absurd c9 (by decide)) (fun c9 => ?_)
  refine lv_aload_n hx hb dX9_rests_80 rfl (lv_at hl 1 rfl) ?_
  refine lv_bipush (v := 6) hx hb dX9_rests_81 (by decide) ?_
  refine aftRi (runV (As := [.int 6]) (rest := [.int 3]) C (c_X9_gameOf_6 l D a q1 q2 q3 q4 q5 q6 q7 q8 q9 q10 q11 q12 q13 q14 q15 q16 q17 q18 q19 q20 q21 q22 q23) lk_V_9_401 (okN_X9_gameOf) ⟨Nat.le_of_ble_eq_true rfl, Nat.le_of_ble_eq_true rfl⟩ ⟨rfl, rfl⟩ (preV (preR hK (P_of_map (wc := [(q1, .inr (9, [.ref q2, .int 0, .int 0, .ref q3, .ref q4, .ref q5, .ref q6, .int 0, .int 0, .int 0, .ref q7, .ref q8, .int 0, .int 0, .int 0, .int 0, .int 0, .int 0, .int 0, .ref q9, .int 0, .ref q10, .int 0, .ref q11, .ref q12, .ref q13, .ref q14, .ref q15, .ref q16, .ref q17, .ref q18, .ref q19, .ref q20, .ref q21, .ref q22, .ref q23])), (q12, .inl (a 0, 104, .inl (fun _ => 0)))]) hP [0, 1] rfl)) (recvOf hK hP 0 rfl (ci := 9) rfl)) hl.1 rfl (Nat.le_of_ble_eq_true rfl) dX9_rests_83 ⟨Nat.le_of_ble_eq_true rfl, Nat.le_of_ble_eq_true rfl⟩) (fun x3464 hw => ?_)
  obtain rfl := hw
  refine lv_aload_n hx hb dX9_rests_86 rfl (lv_at hl 1 rfl) ?_
  refine lv_bipush (v := 7) hx hb dX9_rests_87 (by decide) ?_
  refine aftRi (runV (As := [.int 7]) (rest := [.int 0, .int 3]) C (c_X9_gameOf_7 l D a q1 q2 q3 q4 q5 q6 q7 q8 q9 q10 q11 q12 q13 q14 q15 q16 q17 q18 q19 q20 q21 q22 q23) lk_V_9_401 (okN_X9_gameOf) ⟨Nat.le_of_ble_eq_true rfl, Nat.le_of_ble_eq_true rfl⟩ ⟨rfl, rfl⟩ (preV (preR hK (P_of_map (wc := [(q1, .inr (9, [.ref q2, .int 0, .int 0, .ref q3, .ref q4, .ref q5, .ref q6, .int 0, .int 0, .int 0, .ref q7, .ref q8, .int 0, .int 0, .int 0, .int 0, .int 0, .int 0, .int 0, .ref q9, .int 0, .ref q10, .int 0, .ref q11, .ref q12, .ref q13, .ref q14, .ref q15, .ref q16, .ref q17, .ref q18, .ref q19, .ref q20, .ref q21, .ref q22, .ref q23])), (q12, .inl (a 0, 104, .inl (fun _ => 0)))]) hP [0, 1] rfl)) (recvOf hK hP 0 rfl (ci := 9) rfl)) hl.1 rfl (Nat.le_of_ble_eq_true rfl) dX9_rests_89 ⟨Nat.le_of_ble_eq_true rfl, Nat.le_of_ble_eq_true rfl⟩) (fun x3468 hw => ?_)
  obtain rfl := hw
  refine lv_icmp_lt (tgt := 99) hx hb dX9_rests_92 (by decide) (fun c9 => absurd c9 (by decide)) (fun c9 => ?_)
  refine lv_iconst (v := 4) hx hb dX9_rests_95 (by decide) ?_
  refine lv_goto (tgt := 100) hx hb dX9_rests_96 (by decide) ?_
  refine lv_ior hx hb dX9_rests_100 ?_
  refine lv_topi (fun x3471 ex3471 => ?_)
  obtain rfl : x3471 = 7 := ex3471.trans (by decide)
  refine lv_istore_n (lv' := [(1, .int 7), (0, .ref q1)]) hx hb dX9_rests_101 rfl hl (by decide) rfl (fun ls hl => ?_)
  refine lv_iload_n hx hb dX9_rests_102 rfl (lv_at hl 0 rfl) ?_
  refine lv_aload_n hx hb dX9_rests_103 rfl (lv_at hl 1 rfl) ?_
  refine lv_iconst (v := 3) hx hb dX9_rests_104 (by decide) ?_
  refine aftRi (runV (As := [.int 3]) (rest := [.int 7]) C (c_X9_gameOf_5 l D a q1 q2 q3 q4 q5 q6 q7 q8 q9 q10 q11 q12 q13 q14 q15 q16 q17 q18 q19 q20 q21 q22 q23) lk_V_9_401 (okN_X9_gameOf) ⟨Nat.le_of_ble_eq_true rfl, Nat.le_of_ble_eq_true rfl⟩ ⟨rfl, rfl⟩ (preV (preR hK (P_of_map (wc := [(q1, .inr (9, [.ref q2, .int 0, .int 0, .ref q3, .ref q4, .ref q5, .ref q6, .int 0, .int 0, .int 0, .ref q7, .ref q8, .int 0, .int 0, .int 0, .int 0, .int 0, .int 0, .int 0, .ref q9, .int 0, .ref q10, .int 0, .ref q11, .ref q12, .ref q13, .ref q14, .ref q15, .ref q16, .ref q17, .ref q18, .ref q19, .ref q20, .ref q21, .ref q22, .ref q23])), (q12, .inl (a 0, 104, .inl (fun _ => 0)))]) hP [0, 1] rfl)) (recvOf hK hP 0 rfl (ci := 9) rfl)) hl.1 rfl (Nat.le_of_ble_eq_true rfl) dX9_rests_105 ⟨Nat.le_of_ble_eq_true rfl, Nat.le_of_ble_eq_true rfl⟩) (fun x3472 hw => ?_)
  obtain rfl := hw
  refine lv_aload_n hx hb dX9_rests_108 rfl (lv_at hl 1 rfl) ?_
  refine lv_iconst (v := 1) hx hb dX9_rests_109 (by decide) ?_
  refine aftRi (runV (As := [.int 1]) (rest := [.int 0, .int 7]) C (c_X9_gameOf_4 l D a q1 q2 q3 q4 q5 q6 q7 q8 q9 q10 q11 q12 q13 q14 q15 q16 q17 q18 q19 q20 q21 q22 q23) lk_V_9_401 (okN_X9_gameOf) ⟨Nat.le_of_ble_eq_true rfl, Nat.le_of_ble_eq_true rfl⟩ ⟨rfl, rfl⟩ (preV (preR hK (P_of_map (wc := [(q1, .inr (9, [.ref q2, .int 0, .int 0, .ref q3, .ref q4, .ref q5, .ref q6, .int 0, .int 0, .int 0, .ref q7, .ref q8, .int 0, .int 0, .int 0, .int 0, .int 0, .int 0, .int 0, .ref q9, .int 0, .ref q10, .int 0, .ref q11, .ref q12, .ref q13, .ref q14, .ref q15, .ref q16, .ref q17, .ref q18, .ref q19, .ref q20, .ref q21, .ref q22, .ref q23])), (q12, .inl (a 0, 104, .inl (fun _ => 0)))]) hP [0, 1] rfl)) (recvOf hK hP 0 rfl (ci := 9) rfl)) hl.1 rfl (Nat.le_of_ble_eq_true rfl) dX9_rests_110 ⟨Nat.le_of_ble_eq_true rfl, Nat.le_of_ble_eq_true rfl⟩) (fun x3475 hw => ?_)
  obtain rfl := hw
  refine lv_icmp_lt (tgt := 136) hx hb dX9_rests_113 (by decide) (fun c9 => absurd c9 (by decide)) (fun c9 => ?_)
  refine lv_aload_n hx hb dX9_rests_116 rfl (lv_at hl 1 rfl) ?_
  refine lv_bipush (v := 7) hx hb dX9_rests_117 (by decide) ?_
  refine aftRi (runV (As := [.int 7]) (rest := [.int 7]) C (c_X9_gameOf_7 l D a q1 q2 q3 q4 q5 q6 q7 q8 q9 q10 q11 q12 q13 q14 q15 q16 q17 q18 q19 q20 q21 q22 q23) lk_V_9_401 (okN_X9_gameOf) ⟨Nat.le_of_ble_eq_true rfl, Nat.le_of_ble_eq_true rfl⟩ ⟨rfl, rfl⟩ (preV (preR hK (P_of_map (wc := [(q1, .inr (9, [.ref q2, .int 0, .int 0, .ref q3, .ref q4, .ref q5, .ref q6, .int 0, .int 0, .int 0, .ref q7, .ref q8, .int 0, .int 0, .int 0, .int 0, .int 0, .int 0, .int 0, .ref q9, .int 0, .ref q10, .int 0, .ref q11, .ref q12, .ref q13, .ref q14, .ref q15, .ref q16, .ref q17, .ref q18, .ref q19, .ref q20, .ref q21, .ref q22, .ref q23])), (q12, .inl (a 0, 104, .inl (fun _ => 0)))]) hP [0, 1] rfl)) (recvOf hK hP 0 rfl (ci := 9) rfl)) hl.1 rfl (Nat.le_of_ble_eq_true rfl) dX9_rests_119 ⟨Nat.le_of_ble_eq_true rfl, Nat.le_of_ble_eq_true rfl⟩) (fun x3478 hw => ?_)
  obtain rfl := hw
  refine lv_aload_n hx hb dX9_rests_122 rfl (lv_at hl 1 rfl) ?_
  refine lv_bipush (v := 6) hx hb dX9_rests_123 (by decide) ?_
  refine aftRi (runV (As := [.int 6]) (rest := [.int 0, .int 7]) C (c_X9_gameOf_6 l D a q1 q2 q3 q4 q5 q6 q7 q8 q9 q10 q11 q12 q13 q14 q15 q16 q17 q18 q19 q20 q21 q22 q23) lk_V_9_401 (okN_X9_gameOf) ⟨Nat.le_of_ble_eq_true rfl, Nat.le_of_ble_eq_true rfl⟩ ⟨rfl, rfl⟩ (preV (preR hK (P_of_map (wc := [(q1, .inr (9, [.ref q2, .int 0, .int 0, .ref q3, .ref q4, .ref q5, .ref q6, .int 0, .int 0, .int 0, .ref q7, .ref q8, .int 0, .int 0, .int 0, .int 0, .int 0, .int 0, .int 0, .ref q9, .int 0, .ref q10, .int 0, .ref q11, .ref q12, .ref q13, .ref q14, .ref q15, .ref q16, .ref q17, .ref q18, .ref q19, .ref q20, .ref q21, .ref q22, .ref q23])), (q12, .inl (a 0, 104, .inl (fun _ => 0)))]) hP [0, 1] rfl)) (recvOf hK hP 0 rfl (ci := 9) rfl)) hl.1 rfl (Nat.le_of_ble_eq_true rfl) dX9_rests_125 ⟨Nat.le_of_ble_eq_true rfl, Nat.le_of_ble_eq_true rfl⟩) (fun x3481 hw => ?_)
  obtain rfl := hw
  refine lv_icmp_lt (tgt := 136) hx hb dX9_rests_128 (by decide) (fun c9 => absurd c9 (by decide)) (fun c9 => ?_)
  refine lv_bipush (v := 8) hx hb dX9_rests_131 (by decide) ?_
  refine lv_goto (tgt := 137) hx hb dX9_rests_133 (by decide) ?_
  refine lv_ior hx hb dX9_rests_137 ?_
  refine lv_topi (fun x3484 ex3484 => ?_)
  obtain rfl : x3484 = 15 := ex3484.trans (by decide)
  exact retRi C rfl rfl dX9_rests_138

set_option maxHeartbeats 4000000 in
set_option maxRecDepth 100000 in
theorem c_X8_put_0 (l : Launch) (D : va_G) (a : Nat → ClassId) (q1 : Nat) (x1 : Int32) (sz : Nat) : CMv (S := SS) l MX8_put 0 0 0 0 D a [.ref q1, .int 0, .int (x1 &&& 255)] [(q1, .inl (a 0, 400, .inl (fun _ => 0)))] sz (fun u => (u = (0, [], [], [], [], []))) (fun u => pk [[(q1, .inl (a 0, 400, .inl (upd (fun _ => 0) 0 (x1 &&& 255))))]] u.1) := by
  refine entMv (by decide) (Nat.le_of_ble_eq_true rfl) ?_
  intro p e s m below meth c C hK A hA hP hD ls hl
  obtain ⟨hx, hb, hml, hown, hts, hr, hlocks, hnm⟩ := id C
  have hb : c.code = cX8_put := hb
  have hown : s.vm.findClass RX8 = some m.cls := hown
  have hS : va_S A s.heap s.heap [] := va_S.rf
  have hl : lv_has ls 3 [(0, .ref q1), (1, .int 0), (2, .int (x1 &&& 255))] := hl
  refine lv_iload_n hx hb dX8_put_0 rfl (lv_at hl 1 rfl) ?_
  refine lv_if_lt (tgt := 14) hx hb dX8_put_1 (by decide) (fun c9 => absurd c9 (by decide)) (fun c9 => ?_)
  refine lv_iload_n hx hb dX8_put_4 rfl (lv_at hl 1 rfl) ?_
  refine lv_aload_n hx hb dX8_put_5 rfl (lv_at hl 0 rfl) ?_
  refine va_alen (v := 400) hx hb hK.1 hP 0 0 rfl rfl rfl dX8_put_6 ?_
  refine lv_icmp_ge (tgt := 14) hx hb dX8_put_7 (by decide) (fun c9 => absurd c9 (by decide)) (fun c9 => ?_)
  refine lv_aload_n hx hb dX8_put_10 rfl (lv_at hl 0 rfl) ?_
  refine lv_iload_n hx hb dX8_put_11 rfl (lv_at hl 1 rfl) ?_
  refine lv_iload_n hx hb dX8_put_12 rfl (lv_at hl 2 rfl) ?_
  refine ast_i hx hb hK.1 hP hD hS 0 0 rfl rfl 0 (ix_lit (by decide)) dX8_put_13 (fun H locs hP hD hS => ?_)
  have hP : va_P D classes [(q1, .inl (a 0, 400, .inl (upd (fun _ => 0) 0 (x1 &&& 255))))] H := hP
  have hD : va_D A [(q1, .inl (a 0, 400, .inl (upd (fun _ => 0) 0 (x1 &&& 255))))] := hD
  exact retMv C rfl (0, [], [], [], [], []) rfl hP hD hS (Nat.le_of_ble_eq_true rfl) (Nat.le_of_ble_eq_true rfl) dX8_put_14

set_option maxHeartbeats 4000000 in
set_option maxRecDepth 100000 in
theorem c_X8_put_1 (l : Launch) (D : va_G) (a : Nat → ClassId) (q1 : Nat) (x2 x1 : Int32) (sz : Nat) : CMv (S := SS) l MX8_put 0 0 0 0 D a [.ref q1, .int 1, .int (x1 &&& 255)] [(q1, .inl (a 0, 400, .inl (upd (fun _ => 0) 0 (x2 &&& 255))))] sz (fun u => (u = (0, [], [], [], [], []))) (fun u => pk [[(q1, .inl (a 0, 400, .inl (upd (upd (fun _ => 0) 0 (x2 &&& 255)) 1 (x1 &&& 255))))]] u.1) := by
  refine entMv (by decide) (Nat.le_of_ble_eq_true rfl) ?_
  intro p e s m below meth c C hK A hA hP hD ls hl
  obtain ⟨hx, hb, hml, hown, hts, hr, hlocks, hnm⟩ := id C
  have hb : c.code = cX8_put := hb
  have hown : s.vm.findClass RX8 = some m.cls := hown
  have hS : va_S A s.heap s.heap [] := va_S.rf
  have hl : lv_has ls 3 [(0, .ref q1), (1, .int 1), (2, .int (x1 &&& 255))] := hl
  refine lv_iload_n hx hb dX8_put_0 rfl (lv_at hl 1 rfl) ?_
  refine lv_if_lt (tgt := 14) hx hb dX8_put_1 (by decide) (fun c9 => absurd c9 (by decide)) (fun c9 => ?_)
  refine lv_iload_n hx hb dX8_put_4 rfl (lv_at hl 1 rfl) ?_
  refine lv_aload_n hx hb dX8_put_5 rfl (lv_at hl 0 rfl) ?_
  refine va_alen (v := 400) hx hb hK.1 hP 0 0 rfl rfl rfl dX8_put_6 ?_
  refine lv_icmp_ge (tgt := 14) hx hb dX8_put_7 (by decide) (fun c9 => absurd c9 (by decide)) (fun c9 => ?_)
  refine lv_aload_n hx hb dX8_put_10 rfl (lv_at hl 0 rfl) ?_
  refine lv_iload_n hx hb dX8_put_11 rfl (lv_at hl 1 rfl) ?_
  refine lv_iload_n hx hb dX8_put_12 rfl (lv_at hl 2 rfl) ?_
  refine ast_i hx hb hK.1 hP hD hS 0 0 rfl rfl 1 (ix_lit (by decide)) dX8_put_13 (fun H locs hP hD hS => ?_)
  have hP : va_P D classes [(q1, .inl (a 0, 400, .inl (upd (upd (fun _ => 0) 0 (x2 &&& 255)) 1 (x1 &&& 255))))] H := hP
  have hD : va_D A [(q1, .inl (a 0, 400, .inl (upd (upd (fun _ => 0) 0 (x2 &&& 255)) 1 (x1 &&& 255))))] := hD
  exact retMv C rfl (0, [], [], [], [], []) rfl hP hD hS (Nat.le_of_ble_eq_true rfl) (Nat.le_of_ble_eq_true rfl) dX8_put_14

set_option maxHeartbeats 4000000 in
set_option maxRecDepth 100000 in
theorem c_X8_put_2 (l : Launch) (D : va_G) (a : Nat → ClassId) (q1 : Nat) (x2 x3 x1 : Int32) (sz : Nat) : CMv (S := SS) l MX8_put 0 0 0 0 D a [.ref q1, .int 2, .int (x1 &&& 255)] [(q1, .inl (a 0, 400, .inl (upd (upd (fun _ => 0) 0 (x2 &&& 255)) 1 (x3 &&& 255))))] sz (fun u => (u = (0, [], [], [], [], []))) (fun u => pk [[(q1, .inl (a 0, 400, .inl (upd (upd (upd (fun _ => 0) 0 (x2 &&& 255)) 1 (x3 &&& 255)) 2 (x1 &&& 255))))]] u.1) := by
  refine entMv (by decide) (Nat.le_of_ble_eq_true rfl) ?_
  intro p e s m below meth c C hK A hA hP hD ls hl
  obtain ⟨hx, hb, hml, hown, hts, hr, hlocks, hnm⟩ := id C
  have hb : c.code = cX8_put := hb
  have hown : s.vm.findClass RX8 = some m.cls := hown
  have hS : va_S A s.heap s.heap [] := va_S.rf
  have hl : lv_has ls 3 [(0, .ref q1), (1, .int 2), (2, .int (x1 &&& 255))] := hl
  refine lv_iload_n hx hb dX8_put_0 rfl (lv_at hl 1 rfl) ?_
  refine lv_if_lt (tgt := 14) hx hb dX8_put_1 (by decide) (fun c9 => absurd c9 (by decide)) (fun c9 => ?_)
  refine lv_iload_n hx hb dX8_put_4 rfl (lv_at hl 1 rfl) ?_
  refine lv_aload_n hx hb dX8_put_5 rfl (lv_at hl 0 rfl) ?_
  refine va_alen (v := 400) hx hb hK.1 hP 0 0 rfl rfl rfl dX8_put_6 ?_
  refine lv_icmp_ge (tgt := 14) hx hb dX8_put_7 (by decide) (fun c9 => absurd c9 (by decide)) (fun c9 => ?_)
  refine lv_aload_n hx hb dX8_put_10 rfl (lv_at hl 0 rfl) ?_
  refine lv_iload_n hx hb dX8_put_11 rfl (lv_at hl 1 rfl) ?_
  refine lv_iload_n hx hb dX8_put_12 rfl (lv_at hl 2 rfl) ?_
  refine ast_i hx hb hK.1 hP hD hS 0 0 rfl rfl 2 (ix_lit (by decide)) dX8_put_13 (fun H locs hP hD hS => ?_)
  have hP : va_P D classes [(q1, .inl (a 0, 400, .inl (upd (upd (upd (fun _ => 0) 0 (x2 &&& 255)) 1 (x3 &&& 255)) 2 (x1 &&& 255))))] H := hP
  have hD : va_D A [(q1, .inl (a 0, 400, .inl (upd (upd (upd (fun _ => 0) 0 (x2 &&& 255)) 1 (x3 &&& 255)) 2 (x1 &&& 255))))] := hD
  exact retMv C rfl (0, [], [], [], [], []) rfl hP hD hS (Nat.le_of_ble_eq_true rfl) (Nat.le_of_ble_eq_true rfl) dX8_put_14

set_option maxHeartbeats 4000000 in
set_option maxRecDepth 100000 in
theorem c_X8_put_3 (l : Launch) (D : va_G) (a : Nat → ClassId) (q1 : Nat) (x2 x3 x4 x1 : Int32) (sz : Nat) : CMv (S := SS) l MX8_put 0 0 0 0 D a [.ref q1, .int 3, .int (x1 &&& 255)] [(q1, .inl (a 0, 400, .inl (upd (upd (upd (fun _ => 0) 0 (x2 &&& 255)) 1 (x3 &&& 255)) 2 (x4 &&& 255))))] sz (fun u => (u = (0, [], [], [], [], []))) (fun u => pk [[(q1, .inl (a 0, 400, .inl (upd (upd (upd (upd (fun _ => 0) 0 (x2 &&& 255)) 1 (x3 &&& 255)) 2 (x4 &&& 255)) 3 (x1 &&& 255))))]] u.1) := by
  refine entMv (by decide) (Nat.le_of_ble_eq_true rfl) ?_
  intro p e s m below meth c C hK A hA hP hD ls hl
  obtain ⟨hx, hb, hml, hown, hts, hr, hlocks, hnm⟩ := id C
  have hb : c.code = cX8_put := hb
  have hown : s.vm.findClass RX8 = some m.cls := hown
  have hS : va_S A s.heap s.heap [] := va_S.rf
  have hl : lv_has ls 3 [(0, .ref q1), (1, .int 3), (2, .int (x1 &&& 255))] := hl
  refine lv_iload_n hx hb dX8_put_0 rfl (lv_at hl 1 rfl) ?_
  refine lv_if_lt (tgt := 14) hx hb dX8_put_1 (by decide) (fun c9 => absurd c9 (by decide)) (fun c9 => ?_)
  refine lv_iload_n hx hb dX8_put_4 rfl (lv_at hl 1 rfl) ?_
  refine lv_aload_n hx hb dX8_put_5 rfl (lv_at hl 0 rfl) ?_
  refine va_alen (v := 400) hx hb hK.1 hP 0 0 rfl rfl rfl dX8_put_6 ?_
  refine lv_icmp_ge (tgt := 14) hx hb dX8_put_7 (by decide) (fun c9 => absurd c9 (by decide)) (fun c9 => ?_)
  refine lv_aload_n hx hb dX8_put_10 rfl (lv_at hl 0 rfl) ?_
  refine lv_iload_n hx hb dX8_put_11 rfl (lv_at hl 1 rfl) ?_
  refine lv_iload_n hx hb dX8_put_12 rfl (lv_at hl 2 rfl) ?_
  refine ast_i hx hb hK.1 hP hD hS 0 0 rfl rfl 3 (ix_lit (by decide)) dX8_put_13 (fun H locs hP hD hS => ?_)
  have hP : va_P D classes [(q1, .inl (a 0, 400, .inl (upd (upd (upd (upd (fun _ => 0) 0 (x2 &&& 255)) 1 (x3 &&& 255)) 2 (x4 &&& 255)) 3 (x1 &&& 255))))] H := hP
  have hD : va_D A [(q1, .inl (a 0, 400, .inl (upd (upd (upd (upd (fun _ => 0) 0 (x2 &&& 255)) 1 (x3 &&& 255)) 2 (x4 &&& 255)) 3 (x1 &&& 255))))] := hD
  exact retMv C rfl (0, [], [], [], [], []) rfl hP hD hS (Nat.le_of_ble_eq_true rfl) (Nat.le_of_ble_eq_true rfl) dX8_put_14

set_option maxHeartbeats 4000000 in
set_option maxRecDepth 100000 in
theorem c_X8_putBytes_0 (l : Launch) (D : va_G) (a : Nat → ClassId) (q1 q2 q3 q4 q5 q6 q7 q8 q9 : Nat) (x1 : Int32) (sz : Nat) : CMv (S := SS) l MX8_putBytes 1 22 0 0 D a [.ref q1, .int x1] [(q1, .inr (8, [.ref q2, .int 0, .ref q3, .int 0, .int 0, .ref q4, .ref q5, .ref q6, .ref q7, .ref q8, .ref q9])), (q2, .inl (a 0, 400, .inl (fun _ => 0)))] sz (fun u => (∃ f1347 : Nat → Int32, u = (0, [], [], [], [f1347], []))) (fun u => pk [[(q1, .inr (8, [.ref q2, .int 4, .ref q3, .int 0, .int 0, .ref q4, .ref q5, .ref q6, .ref q7, .ref q8, .ref q9])), (q2, .inl (a 0, 400, .inl (u.2.2.2.2.1.getD 0 (fun _ => 0))))]] u.1) := by
  refine entMv (by decide) (Nat.le_of_ble_eq_true rfl) ?_
  intro p e s m below meth c C hK A hA hP hD ls hl
  obtain ⟨hx, hb, hml, hown, hts, hr, hlocks, hnm⟩ := id C
  have hb : c.code = cX8_putBytes := hb
  have hown : s.vm.findClass RX8 = some m.cls := hown
  have hS : va_S A s.heap s.heap [] := va_S.rf
  have hl : lv_has ls 3 [(0, .ref q1), (1, .int x1)] := hl
  refine lv_bipush (v := 24) hx hb dX8_putBytes_0 (by decide) ?_
  refine lv_istore_n (lv' := [(2, .int 24), (0, .ref q1), (1, .int x1)]) hx hb dX8_putBytes_2 rfl hl (by decide) rfl (fun ls hl => ?_)
  refine lv_iload_n hx hb dX8_putBytes_3 rfl (lv_at hl 0 rfl) ?_
  refine lv_if_lt (tgt := 41) hx hb dX8_putBytes_4 (by decide) (fun c9 => absurd c9 (by decide)) (fun c9 => ?_)
  refine lv_aload_n hx hb dX8_putBytes_7 rfl (lv_at hl 1 rfl) ?_
  refine va_get (D := D) (v := .ref q2) (C := RX8) (T := TX8) (N := 11) hx hb hts iX8 hown hK.1 hP 0 rfl rfl 0 (by decide) (hts _ t_300) (fun _ h9 => h9) rfl dX8_putBytes_8 ?_
  refine lv_aload_n hx hb dX8_putBytes_11 rfl (lv_at hl 1 rfl) ?_
  refine va_get (D := D) (v := .int 0) (C := RX8) (T := TX8) (N := 11) hx hb hts iX8 hown hK.1 hP 0 rfl rfl 1 (by decide) (hts _ t_301) (fun _ h9 => h9) rfl dX8_putBytes_12 ?_
  refine lv_iload_n hx hb dX8_putBytes_15 rfl (lv_at hl 2 rfl) ?_
  refine lv_iload_n hx hb dX8_putBytes_16 rfl (lv_at hl 0 rfl) ?_
  obtain ⟨x1327, ex1327⟩ : ∃ z : Int32, ((x1 : Int32).toUInt32 >>> ((24 : Int32).toUInt32 &&& Int32.toUInt32 31)).toInt32 = z := ⟨_, rfl⟩
  refine lv_iushr (v := x1327) hx hb dX8_putBytes_17 (by exact ex1327) ?_
  refine lv_sipush (v := 255) hx hb dX8_putBytes_18 (by decide) ?_
  refine lv_iand hx hb dX8_putBytes_21 ?_
  refine afMv (runS (As := [.ref q2, .int 0, .int (x1327 &&& 255)]) (rest := []) C (c_X8_put_0 l D a q2 x1327 s.heap.size) lk_S_8_78 (okN_X8_put) ⟨Nat.le_of_ble_eq_true rfl, Nat.le_of_ble_eq_true rfl⟩ ⟨rfl, rfl⟩ (preM hK (P_of_map (wc := [(q2, .inl (a 0, 400, .inl (fun _ => 0)))]) hP [1] rfl) (hD.sub (ws' := [(q2, .inl (a 0, 400, .inl (fun _ => 0)))]) [1] (by decide) rfl)) hl.1 rfl (Nat.le_of_ble_eq_true rfl) dX8_putBytes_22 ⟨Nat.le_of_ble_eq_true rfl, Nat.le_of_ble_eq_true rfl⟩) hP hD hS hA [1] [0] (wr := [(q1, .inr (8, [.ref q2, .int 0, .ref q3, .int 0, .int 0, .ref q4, .ref q5, .ref q6, .ref q7, .ref q8, .ref q9]))]) rfl rfl (by decide) (by decide) (fun u H locs hw hP hD hS => ?_)
  obtain rfl := hw
  have hP : va_P D classes [(q1, .inr (8, [.ref q2, .int 0, .ref q3, .int 0, .int 0, .ref q4, .ref q5, .ref q6, .ref q7, .ref q8, .ref q9])), (q2, .inl (a 0, 400, .inl (upd (fun _ => 0) 0 (x1327 &&& 255))))] H := hP
  have hD : va_D A [(q1, .inr (8, [.ref q2, .int 0, .ref q3, .int 0, .int 0, .ref q4, .ref q5, .ref q6, .ref q7, .ref q8, .ref q9])), (q2, .inl (a 0, 400, .inl (upd (fun _ => 0) 0 (x1327 &&& 255))))] := hD
  refine lv_aload_n hx hb dX8_putBytes_25 rfl (lv_at hl 1 rfl) ?_
  refine lv_dup hx hb dX8_putBytes_26 rfl ?_
  refine va_get (D := D) (v := .int 0) (C := RX8) (T := TX8) (N := 11) hx hb hts iX8 hown hK.1 hP 0 rfl rfl 1 (by decide) (hts _ t_301) (fun _ h9 => h9) rfl dX8_putBytes_27 ?_
  refine lv_iconst (v := 1) hx hb dX8_putBytes_30 (by decide) ?_
  refine lv_iadd hx hb dX8_putBytes_31 ?_
  refine lv_topi (fun x1331 ex1331 => ?_)
  obtain rfl : x1331 = 1 := ex1331.trans (by decide)
  refine va_put (D := D) (v := .int 1) (C := RX8) (T := TX8) (N := 11) hx hb hts iX8 tyX8 tyX8_ok nmX8 hown hK.1 hP hD hS 0 rfl rfl 1 (by decide) (hts _ t_301) (fun _ h9 => h9) rfl (tyX8_ok 1 (by decide)) rfl rfl (Nat.le_of_ble_eq_true rfl) dX8_putBytes_32 (fun H locs hP hD hS => ?_)
  have hP : va_P D classes [(q1, .inr (8, [.ref q2, .int 1, .ref q3, .int 0, .int 0, .ref q4, .ref q5, .ref q6, .ref q7, .ref q8, .ref q9])), (q2, .inl (a 0, 400, .inl (upd (fun _ => 0) 0 (x1327 &&& 255))))] H := hP
  have hD : va_D A [(q1, .inr (8, [.ref q2, .int 1, .ref q3, .int 0, .int 0, .ref q4, .ref q5, .ref q6, .ref q7, .ref q8, .ref q9])), (q2, .inl (a 0, 400, .inl (upd (fun _ => 0) 0 (x1327 &&& 255))))] := hD
  refine lv_iinc (v := 16) (lv' := [(2, .int 16), (0, .ref q1), (1, .int x1)]) hx hb dX8_putBytes_35 hl (k := 0) rfl (by decide) (by decide) rfl (fun ls hl => ?_)
  refine lv_goto (tgt := 3) hx hb dX8_putBytes_38 (by decide) ?_
  refine lv_iload_n hx hb dX8_putBytes_3 rfl (lv_at hl 0 rfl) ?_
  refine lv_if_lt (tgt := 41) hx hb dX8_putBytes_4 (by decide) (fun c9 => absurd c9 (by decide)) (fun c9 => ?_)
  refine lv_aload_n hx hb dX8_putBytes_7 rfl (lv_at hl 1 rfl) ?_
  refine va_get (D := D) (v := .ref q2) (C := RX8) (T := TX8) (N := 11) hx hb hts iX8 hown hK.1 hP 0 rfl rfl 0 (by decide) (hts _ t_300) (fun _ h9 => h9) rfl dX8_putBytes_8 ?_
  refine lv_aload_n hx hb dX8_putBytes_11 rfl (lv_at hl 1 rfl) ?_
  refine va_get (D := D) (v := .int 1) (C := RX8) (T := TX8) (N := 11) hx hb hts iX8 hown hK.1 hP 0 rfl rfl 1 (by decide) (hts _ t_301) (fun _ h9 => h9) rfl dX8_putBytes_12 ?_
  refine lv_iload_n hx hb dX8_putBytes_15 rfl (lv_at hl 2 rfl) ?_
  refine lv_iload_n hx hb dX8_putBytes_16 rfl (lv_at hl 0 rfl) ?_
  obtain ⟨x1332, ex1332⟩ : ∃ z : Int32, ((x1 : Int32).toUInt32 >>> ((16 : Int32).toUInt32 &&& Int32.toUInt32 31)).toInt32 = z := ⟨_, rfl⟩
  refine lv_iushr (v := x1332) hx hb dX8_putBytes_17 (by exact ex1332) ?_
  refine lv_sipush (v := 255) hx hb dX8_putBytes_18 (by decide) ?_
  refine lv_iand hx hb dX8_putBytes_21 ?_
  refine afMv (runS (As := [.ref q2, .int 1, .int (x1332 &&& 255)]) (rest := []) C (c_X8_put_1 l D a q2 x1327 x1332 H.size) lk_S_8_78 (okN_X8_put) ⟨Nat.le_of_ble_eq_true rfl, Nat.le_of_ble_eq_true rfl⟩ ⟨rfl, rfl⟩ (preM hK (P_of_map (wc := [(q2, .inl (a 0, 400, .inl (upd (fun _ => 0) 0 (x1327 &&& 255))))]) hP [1] rfl) (hD.sub (ws' := [(q2, .inl (a 0, 400, .inl (upd (fun _ => 0) 0 (x1327 &&& 255))))]) [1] (by decide) rfl)) hl.1 rfl (Nat.le_of_ble_eq_true rfl) dX8_putBytes_22 ⟨Nat.le_of_ble_eq_true rfl, Nat.le_of_ble_eq_true rfl⟩) hP hD hS hA [1] [0] (wr := [(q1, .inr (8, [.ref q2, .int 1, .ref q3, .int 0, .int 0, .ref q4, .ref q5, .ref q6, .ref q7, .ref q8, .ref q9]))]) rfl rfl (by decide) (by decide) (fun u H locs hw hP hD hS => ?_)
  obtain rfl := hw
  have hP : va_P D classes [(q1, .inr (8, [.ref q2, .int 1, .ref q3, .int 0, .int 0, .ref q4, .ref q5, .ref q6, .ref q7, .ref q8, .ref q9])), (q2, .inl (a 0, 400, .inl (upd (upd (fun _ => 0) 0 (x1327 &&& 255)) 1 (x1332 &&& 255))))] H := hP
  have hD : va_D A [(q1, .inr (8, [.ref q2, .int 1, .ref q3, .int 0, .int 0, .ref q4, .ref q5, .ref q6, .ref q7, .ref q8, .ref q9])), (q2, .inl (a 0, 400, .inl (upd (upd (fun _ => 0) 0 (x1327 &&& 255)) 1 (x1332 &&& 255))))] := hD
  refine lv_aload_n hx hb dX8_putBytes_25 rfl (lv_at hl 1 rfl) ?_
  refine lv_dup hx hb dX8_putBytes_26 rfl ?_
  refine va_get (D := D) (v := .int 1) (C := RX8) (T := TX8) (N := 11) hx hb hts iX8 hown hK.1 hP 0 rfl rfl 1 (by decide) (hts _ t_301) (fun _ h9 => h9) rfl dX8_putBytes_27 ?_
  refine lv_iconst (v := 1) hx hb dX8_putBytes_30 (by decide) ?_
  refine lv_iadd hx hb dX8_putBytes_31 ?_
  refine lv_topi (fun x1336 ex1336 => ?_)
  obtain rfl : x1336 = 2 := ex1336.trans (by decide)
  refine va_put (D := D) (v := .int 2) (C := RX8) (T := TX8) (N := 11) hx hb hts iX8 tyX8 tyX8_ok nmX8 hown hK.1 hP hD hS 0 rfl rfl 1 (by decide) (hts _ t_301) (fun _ h9 => h9) rfl (tyX8_ok 1 (by decide)) rfl rfl (Nat.le_of_ble_eq_true rfl) dX8_putBytes_32 (fun H locs hP hD hS => ?_)
  have hP : va_P D classes [(q1, .inr (8, [.ref q2, .int 2, .ref q3, .int 0, .int 0, .ref q4, .ref q5, .ref q6, .ref q7, .ref q8, .ref q9])), (q2, .inl (a 0, 400, .inl (upd (upd (fun _ => 0) 0 (x1327 &&& 255)) 1 (x1332 &&& 255))))] H := hP
  have hD : va_D A [(q1, .inr (8, [.ref q2, .int 2, .ref q3, .int 0, .int 0, .ref q4, .ref q5, .ref q6, .ref q7, .ref q8, .ref q9])), (q2, .inl (a 0, 400, .inl (upd (upd (fun _ => 0) 0 (x1327 &&& 255)) 1 (x1332 &&& 255))))] := hD
  refine lv_iinc (v := 8) (lv' := [(2, .int 8), (0, .ref q1), (1, .int x1)]) hx hb dX8_putBytes_35 hl (k := 0) rfl (by decide) (by decide) rfl (fun ls hl => ?_)
  refine lv_goto (tgt := 3) hx hb dX8_putBytes_38 (by decide) ?_
  refine lv_iload_n hx hb dX8_putBytes_3 rfl (lv_at hl 0 rfl) ?_
  refine lv_if_lt (tgt := 41) hx hb dX8_putBytes_4 (by decide) (fun c9 => absurd c9 (by decide)) (fun c9 => ?_)
  refine lv_aload_n hx hb dX8_putBytes_7 rfl (lv_at hl 1 rfl) ?_
  refine va_get (D := D) (v := .ref q2) (C := RX8) (T := TX8) (N := 11) hx hb hts iX8 hown hK.1 hP 0 rfl rfl 0 (by decide) (hts _ t_300) (fun _ h9 => h9) rfl dX8_putBytes_8 ?_
  refine lv_aload_n hx hb dX8_putBytes_11 rfl (lv_at hl 1 rfl) ?_
  refine va_get (D := D) (v := .int 2) (C := RX8) (T := TX8) (N := 11) hx hb hts iX8 hown hK.1 hP 0 rfl rfl 1 (by decide) (hts _ t_301) (fun _ h9 => h9) rfl dX8_putBytes_12 ?_
  refine lv_iload_n hx hb dX8_putBytes_15 rfl (lv_at hl 2 rfl) ?_
  refine lv_iload_n hx hb dX8_putBytes_16 rfl (lv_at hl 0 rfl) ?_
  obtain ⟨x1337, ex1337⟩ : ∃ z : Int32, ((x1 : Int32).toUInt32 >>> ((8 : Int32).toUInt32 &&& Int32.toUInt32 31)).toInt32 = z := ⟨_, rfl⟩
  refine lv_iushr (v := x1337) hx hb dX8_putBytes_17 (by exact ex1337) ?_
  refine lv_sipush (v := 255) hx hb dX8_putBytes_18 (by decide) ?_
  refine lv_iand hx hb dX8_putBytes_21 ?_
  refine afMv (runS (As := [.ref q2, .int 2, .int (x1337 &&& 255)]) (rest := []) C (c_X8_put_2 l D a q2 x1327 x1332 x1337 H.size) lk_S_8_78 (okN_X8_put) ⟨Nat.le_of_ble_eq_true rfl, Nat.le_of_ble_eq_true rfl⟩ ⟨rfl, rfl⟩ (preM hK (P_of_map (wc := [(q2, .inl (a 0, 400, .inl (upd (upd (fun _ => 0) 0 (x1327 &&& 255)) 1 (x1332 &&& 255))))]) hP [1] rfl) (hD.sub (ws' := [(q2, .inl (a 0, 400, .inl (upd (upd (fun _ => 0) 0 (x1327 &&& 255)) 1 (x1332 &&& 255))))]) [1] (by decide) rfl)) hl.1 rfl (Nat.le_of_ble_eq_true rfl) dX8_putBytes_22 ⟨Nat.le_of_ble_eq_true rfl, Nat.le_of_ble_eq_true rfl⟩) hP hD hS hA [1] [0] (wr := [(q1, .inr (8, [.ref q2, .int 2, .ref q3, .int 0, .int 0, .ref q4, .ref q5, .ref q6, .ref q7, .ref q8, .ref q9]))]) rfl rfl (by decide) (by decide) (fun u H locs hw hP hD hS => ?_)
  obtain rfl := hw
  have hP : va_P D classes [(q1, .inr (8, [.ref q2, .int 2, .ref q3, .int 0, .int 0, .ref q4, .ref q5, .ref q6, .ref q7, .ref q8, .ref q9])), (q2, .inl (a 0, 400, .inl (upd (upd (upd (fun _ => 0) 0 (x1327 &&& 255)) 1 (x1332 &&& 255)) 2 (x1337 &&& 255))))] H := hP
  have hD : va_D A [(q1, .inr (8, [.ref q2, .int 2, .ref q3, .int 0, .int 0, .ref q4, .ref q5, .ref q6, .ref q7, .ref q8, .ref q9])), (q2, .inl (a 0, 400, .inl (upd (upd (upd (fun _ => 0) 0 (x1327 &&& 255)) 1 (x1332 &&& 255)) 2 (x1337 &&& 255))))] := hD
  refine lv_aload_n hx hb dX8_putBytes_25 rfl (lv_at hl 1 rfl) ?_
  refine lv_dup hx hb dX8_putBytes_26 rfl ?_
  refine va_get (D := D) (v := .int 2) (C := RX8) (T := TX8) (N := 11) hx hb hts iX8 hown hK.1 hP 0 rfl rfl 1 (by decide) (hts _ t_301) (fun _ h9 => h9) rfl dX8_putBytes_27 ?_
  refine lv_iconst (v := 1) hx hb dX8_putBytes_30 (by decide) ?_
  refine lv_iadd hx hb dX8_putBytes_31 ?_
  refine lv_topi (fun x1341 ex1341 => ?_)
  obtain rfl : x1341 = 3 := ex1341.trans (by decide)
  refine va_put (D := D) (v := .int 3) (C := RX8) (T := TX8) (N := 11) hx hb hts iX8 tyX8 tyX8_ok nmX8 hown hK.1 hP hD hS 0 rfl rfl 1 (by decide) (hts _ t_301) (fun _ h9 => h9) rfl (tyX8_ok 1 (by decide)) rfl rfl (Nat.le_of_ble_eq_true rfl) dX8_putBytes_32 (fun H locs hP hD hS => ?_)
  have hP : va_P D classes [(q1, .inr (8, [.ref q2, .int 3, .ref q3, .int 0, .int 0, .ref q4, .ref q5, .ref q6, .ref q7, .ref q8, .ref q9])), (q2, .inl (a 0, 400, .inl (upd (upd (upd (fun _ => 0) 0 (x1327 &&& 255)) 1 (x1332 &&& 255)) 2 (x1337 &&& 255))))] H := hP
  have hD : va_D A [(q1, .inr (8, [.ref q2, .int 3, .ref q3, .int 0, .int 0, .ref q4, .ref q5, .ref q6, .ref q7, .ref q8, .ref q9])), (q2, .inl (a 0, 400, .inl (upd (upd (upd (fun _ => 0) 0 (x1327 &&& 255)) 1 (x1332 &&& 255)) 2 (x1337 &&& 255))))] := hD
  refine lv_iinc (v := 0) (lv' := [(2, .int 0), (0, .ref q1), (1, .int x1)]) hx hb dX8_putBytes_35 hl (k := 0) rfl (by decide) (by decide) rfl (fun ls hl => ?_)
  refine lv_goto (tgt := 3) hx hb dX8_putBytes_38 (by decide) ?_
  refine lv_iload_n hx hb dX8_putBytes_3 rfl (lv_at hl 0 rfl) ?_
  refine lv_if_lt (tgt := 41) hx hb dX8_putBytes_4 (by decide) (fun c9 => absurd c9 (by decide)) (fun c9 => ?_)
  refine lv_aload_n hx hb dX8_putBytes_7 rfl (lv_at hl 1 rfl) ?_
  refine va_get (D := D) (v := .ref q2) (C := RX8) (T := TX8) (N := 11) hx hb hts iX8 hown hK.1 hP 0 rfl rfl 0 (by decide) (hts _ t_300) (fun _ h9 => h9) rfl dX8_putBytes_8 ?_
  refine lv_aload_n hx hb dX8_putBytes_11 rfl (lv_at hl 1 rfl) ?_
  refine va_get (D := D) (v := .int 3) (C := RX8) (T := TX8) (N := 11) hx hb hts iX8 hown hK.1 hP 0 rfl rfl 1 (by decide) (hts _ t_301) (fun _ h9 => h9) rfl dX8_putBytes_12 ?_
  refine lv_iload_n hx hb dX8_putBytes_15 rfl (lv_at hl 2 rfl) ?_
  refine lv_iload_n hx hb dX8_putBytes_16 rfl (lv_at hl 0 rfl) ?_
  obtain ⟨x1342, ex1342⟩ : ∃ z : Int32, ((x1 : Int32).toUInt32 >>> ((0 : Int32).toUInt32 &&& Int32.toUInt32 31)).toInt32 = z := ⟨_, rfl⟩
  refine lv_iushr (v := x1342) hx hb dX8_putBytes_17 (by exact ex1342) ?_
  refine lv_sipush (v := 255) hx hb dX8_putBytes_18 (by decide) ?_
  refine lv_iand hx hb dX8_putBytes_21 ?_
  refine afMv (runS (As := [.ref q2, .int 3, .int (x1342 &&& 255)]) (rest := []) C (c_X8_put_3 l D a q2 x1327 x1332 x1337 x1342 H.size) lk_S_8_78 (okN_X8_put) ⟨Nat.le_of_ble_eq_true rfl, Nat.le_of_ble_eq_true rfl⟩ ⟨rfl, rfl⟩ (preM hK (P_of_map (wc := [(q2, .inl (a 0, 400, .inl (upd (upd (upd (fun _ => 0) 0 (x1327 &&& 255)) 1 (x1332 &&& 255)) 2 (x1337 &&& 255))))]) hP [1] rfl) (hD.sub (ws' := [(q2, .inl (a 0, 400, .inl (upd (upd (upd (fun _ => 0) 0 (x1327 &&& 255)) 1 (x1332 &&& 255)) 2 (x1337 &&& 255))))]) [1] (by decide) rfl)) hl.1 rfl (Nat.le_of_ble_eq_true rfl) dX8_putBytes_22 ⟨Nat.le_of_ble_eq_true rfl, Nat.le_of_ble_eq_true rfl⟩) hP hD hS hA [1] [0] (wr := [(q1, .inr (8, [.ref q2, .int 3, .ref q3, .int 0, .int 0, .ref q4, .ref q5, .ref q6, .ref q7, .ref q8, .ref q9]))]) rfl rfl (by decide) (by decide) (fun u H locs hw hP hD hS => ?_)
  obtain rfl := hw
  have hP : va_P D classes [(q1, .inr (8, [.ref q2, .int 3, .ref q3, .int 0, .int 0, .ref q4, .ref q5, .ref q6, .ref q7, .ref q8, .ref q9])), (q2, .inl (a 0, 400, .inl (upd (upd (upd (upd (fun _ => 0) 0 (x1327 &&& 255)) 1 (x1332 &&& 255)) 2 (x1337 &&& 255)) 3 (x1342 &&& 255))))] H := hP
  have hD : va_D A [(q1, .inr (8, [.ref q2, .int 3, .ref q3, .int 0, .int 0, .ref q4, .ref q5, .ref q6, .ref q7, .ref q8, .ref q9])), (q2, .inl (a 0, 400, .inl (upd (upd (upd (upd (fun _ => 0) 0 (x1327 &&& 255)) 1 (x1332 &&& 255)) 2 (x1337 &&& 255)) 3 (x1342 &&& 255))))] := hD
  refine lv_aload_n hx hb dX8_putBytes_25 rfl (lv_at hl 1 rfl) ?_
  refine lv_dup hx hb dX8_putBytes_26 rfl ?_
  refine va_get (D := D) (v := .int 3) (C := RX8) (T := TX8) (N := 11) hx hb hts iX8 hown hK.1 hP 0 rfl rfl 1 (by decide) (hts _ t_301) (fun _ h9 => h9) rfl dX8_putBytes_27 ?_
  refine lv_iconst (v := 1) hx hb dX8_putBytes_30 (by decide) ?_
  refine lv_iadd hx hb dX8_putBytes_31 ?_
  refine lv_topi (fun x1346 ex1346 => ?_)
  obtain rfl : x1346 = 4 := ex1346.trans (by decide)
  refine va_put (D := D) (v := .int 4) (C := RX8) (T := TX8) (N := 11) hx hb hts iX8 tyX8 tyX8_ok nmX8 hown hK.1 hP hD hS 0 rfl rfl 1 (by decide) (hts _ t_301) (fun _ h9 => h9) rfl (tyX8_ok 1 (by decide)) rfl rfl (Nat.le_of_ble_eq_true rfl) dX8_putBytes_32 (fun H locs hP hD hS => ?_)
  have hP : va_P D classes [(q1, .inr (8, [.ref q2, .int 4, .ref q3, .int 0, .int 0, .ref q4, .ref q5, .ref q6, .ref q7, .ref q8, .ref q9])), (q2, .inl (a 0, 400, .inl (upd (upd (upd (upd (fun _ => 0) 0 (x1327 &&& 255)) 1 (x1332 &&& 255)) 2 (x1337 &&& 255)) 3 (x1342 &&& 255))))] H := hP
  have hD : va_D A [(q1, .inr (8, [.ref q2, .int 4, .ref q3, .int 0, .int 0, .ref q4, .ref q5, .ref q6, .ref q7, .ref q8, .ref q9])), (q2, .inl (a 0, 400, .inl (upd (upd (upd (upd (fun _ => 0) 0 (x1327 &&& 255)) 1 (x1332 &&& 255)) 2 (x1337 &&& 255)) 3 (x1342 &&& 255))))] := hD
  refine lv_iinc (v := (-8)) (lv' := [(2, .int (-8)), (0, .ref q1), (1, .int x1)]) hx hb dX8_putBytes_35 hl (k := 0) rfl (by decide) (by decide) rfl (fun ls hl => ?_)
  refine lv_goto (tgt := 3) hx hb dX8_putBytes_38 (by decide) ?_
  refine lv_iload_n hx hb dX8_putBytes_3 rfl (lv_at hl 0 rfl) ?_
  refine lv_if_lt (tgt := 41) hx hb dX8_putBytes_4 (by decide) (fun c9 => ?_) (fun c9 => absurd (by decide) c9)
  exact retMv C rfl (0, [], [], [], [(upd (upd (upd (upd (fun _ => 0) 0 (x1327 &&& 255)) 1 (x1332 &&& 255)) 2 (x1337 &&& 255)) 3 (x1342 &&& 255))], []) ⟨(upd (upd (upd (upd (fun _ => 0) 0 (x1327 &&& 255)) 1 (x1332 &&& 255)) 2 (x1337 &&& 255)) 3 (x1342 &&& 255)), rfl⟩ hP hD hS (Nat.le_of_ble_eq_true rfl) (Nat.le_of_ble_eq_true rfl) dX8_putBytes_41

set_option maxHeartbeats 4000000 in
set_option maxRecDepth 100000 in
theorem c_X8_put_4 (l : Launch) (D : va_G) (a : Nat → ClassId) (q1 : Nat) (x1 : Int32) (f1 : Nat → Int32) (sz : Nat) : CMv (S := SS) l MX8_put 0 0 0 0 D a [.ref q1, .int 4, .int (x1 &&& 255)] [(q1, .inl (a 0, 400, .inl f1))] sz (fun u => (u = (0, [], [], [], [], []))) (fun u => pk [[(q1, .inl (a 0, 400, .inl (upd f1 4 (x1 &&& 255))))]] u.1) := by
  refine entMv (by decide) (Nat.le_of_ble_eq_true rfl) ?_
  intro p e s m below meth c C hK A hA hP hD ls hl
  obtain ⟨hx, hb, hml, hown, hts, hr, hlocks, hnm⟩ := id C
  have hb : c.code = cX8_put := hb
  have hown : s.vm.findClass RX8 = some m.cls := hown
  have hS : va_S A s.heap s.heap [] := va_S.rf
  have hl : lv_has ls 3 [(0, .ref q1), (1, .int 4), (2, .int (x1 &&& 255))] := hl
  refine lv_iload_n hx hb dX8_put_0 rfl (lv_at hl 1 rfl) ?_
  refine lv_if_lt (tgt := 14) hx hb dX8_put_1 (by decide) (fun c9 => absurd c9 (by decide)) (fun c9 => ?_)
  refine lv_iload_n hx hb dX8_put_4 rfl (lv_at hl 1 rfl) ?_
  refine lv_aload_n hx hb dX8_put_5 rfl (lv_at hl 0 rfl) ?_
  refine va_alen (v := 400) hx hb hK.1 hP 0 0 rfl rfl rfl dX8_put_6 ?_
  refine lv_icmp_ge (tgt := 14) hx hb dX8_put_7 (by decide) (fun c9 => absurd c9 (by decide)) (fun c9 => ?_)
  refine lv_aload_n hx hb dX8_put_10 rfl (lv_at hl 0 rfl) ?_
  refine lv_iload_n hx hb dX8_put_11 rfl (lv_at hl 1 rfl) ?_
  refine lv_iload_n hx hb dX8_put_12 rfl (lv_at hl 2 rfl) ?_
  refine ast_i hx hb hK.1 hP hD hS 0 0 rfl rfl 4 (ix_lit (by decide)) dX8_put_13 (fun H locs hP hD hS => ?_)
  have hP : va_P D classes [(q1, .inl (a 0, 400, .inl (upd f1 4 (x1 &&& 255))))] H := hP
  have hD : va_D A [(q1, .inl (a 0, 400, .inl (upd f1 4 (x1 &&& 255))))] := hD
  exact retMv C rfl (0, [], [], [], [], []) rfl hP hD hS (Nat.le_of_ble_eq_true rfl) (Nat.le_of_ble_eq_true rfl) dX8_put_14

set_option maxHeartbeats 4000000 in
set_option maxRecDepth 100000 in
theorem c_X8_put_5 (l : Launch) (D : va_G) (a : Nat → ClassId) (q1 : Nat) (x2 x1 : Int32) (f1 : Nat → Int32) (sz : Nat) : CMv (S := SS) l MX8_put 0 0 0 0 D a [.ref q1, .int 5, .int (x1 &&& 255)] [(q1, .inl (a 0, 400, .inl (upd f1 4 (x2 &&& 255))))] sz (fun u => (u = (0, [], [], [], [], []))) (fun u => pk [[(q1, .inl (a 0, 400, .inl (upd (upd f1 4 (x2 &&& 255)) 5 (x1 &&& 255))))]] u.1) := by
  refine entMv (by decide) (Nat.le_of_ble_eq_true rfl) ?_
  intro p e s m below meth c C hK A hA hP hD ls hl
  obtain ⟨hx, hb, hml, hown, hts, hr, hlocks, hnm⟩ := id C
  have hb : c.code = cX8_put := hb
  have hown : s.vm.findClass RX8 = some m.cls := hown
  have hS : va_S A s.heap s.heap [] := va_S.rf
  have hl : lv_has ls 3 [(0, .ref q1), (1, .int 5), (2, .int (x1 &&& 255))] := hl
  refine lv_iload_n hx hb dX8_put_0 rfl (lv_at hl 1 rfl) ?_
  refine lv_if_lt (tgt := 14) hx hb dX8_put_1 (by decide) (fun c9 => absurd c9 (by decide)) (fun c9 => ?_)
  refine lv_iload_n hx hb dX8_put_4 rfl (lv_at hl 1 rfl) ?_
  refine lv_aload_n hx hb dX8_put_5 rfl (lv_at hl 0 rfl) ?_
  refine va_alen (v := 400) hx hb hK.1 hP 0 0 rfl rfl rfl dX8_put_6 ?_
  refine lv_icmp_ge (tgt := 14) hx hb dX8_put_7 (by decide) (fun c9 => absurd c9 (by decide)) (fun c9 => ?_)
  refine lv_aload_n hx hb dX8_put_10 rfl (lv_at hl 0 rfl) ?_
  refine lv_iload_n hx hb dX8_put_11 rfl (lv_at hl 1 rfl) ?_
  refine lv_iload_n hx hb dX8_put_12 rfl (lv_at hl 2 rfl) ?_
  refine ast_i hx hb hK.1 hP hD hS 0 0 rfl rfl 5 (ix_lit (by decide)) dX8_put_13 (fun H locs hP hD hS => ?_)
  have hP : va_P D classes [(q1, .inl (a 0, 400, .inl (upd (upd f1 4 (x2 &&& 255)) 5 (x1 &&& 255))))] H := hP
  have hD : va_D A [(q1, .inl (a 0, 400, .inl (upd (upd f1 4 (x2 &&& 255)) 5 (x1 &&& 255))))] := hD
  exact retMv C rfl (0, [], [], [], [], []) rfl hP hD hS (Nat.le_of_ble_eq_true rfl) (Nat.le_of_ble_eq_true rfl) dX8_put_14

set_option maxHeartbeats 4000000 in
set_option maxRecDepth 100000 in
theorem c_X8_put_6 (l : Launch) (D : va_G) (a : Nat → ClassId) (q1 : Nat) (x2 x3 x1 : Int32) (f1 : Nat → Int32) (sz : Nat) : CMv (S := SS) l MX8_put 0 0 0 0 D a [.ref q1, .int 6, .int (x1 &&& 255)] [(q1, .inl (a 0, 400, .inl (upd (upd f1 4 (x2 &&& 255)) 5 (x3 &&& 255))))] sz (fun u => (u = (0, [], [], [], [], []))) (fun u => pk [[(q1, .inl (a 0, 400, .inl (upd (upd (upd f1 4 (x2 &&& 255)) 5 (x3 &&& 255)) 6 (x1 &&& 255))))]] u.1) := by
  refine entMv (by decide) (Nat.le_of_ble_eq_true rfl) ?_
  intro p e s m below meth c C hK A hA hP hD ls hl
  obtain ⟨hx, hb, hml, hown, hts, hr, hlocks, hnm⟩ := id C
  have hb : c.code = cX8_put := hb
  have hown : s.vm.findClass RX8 = some m.cls := hown
  have hS : va_S A s.heap s.heap [] := va_S.rf
  have hl : lv_has ls 3 [(0, .ref q1), (1, .int 6), (2, .int (x1 &&& 255))] := hl
  refine lv_iload_n hx hb dX8_put_0 rfl (lv_at hl 1 rfl) ?_
  refine lv_if_lt (tgt := 14) hx hb dX8_put_1 (by decide) (fun c9 => absurd c9 (by decide)) (fun c9 => ?_)
  refine lv_iload_n hx hb dX8_put_4 rfl (lv_at hl 1 rfl) ?_
  refine lv_aload_n hx hb dX8_put_5 rfl (lv_at hl 0 rfl) ?_
  refine va_alen (v := 400) hx hb hK.1 hP 0 0 rfl rfl rfl dX8_put_6 ?_
  refine lv_icmp_ge (tgt := 14) hx hb dX8_put_7 (by decide) (fun c9 => absurd c9 (by decide)) (fun c9 => ?_)
  refine lv_aload_n hx hb dX8_put_10 rfl (lv_at hl 0 rfl) ?_
  refine lv_iload_n hx hb dX8_put_11 rfl (lv_at hl 1 rfl) ?_
  refine lv_iload_n hx hb dX8_put_12 rfl (lv_at hl 2 rfl) ?_
  refine ast_i hx hb hK.1 hP hD hS 0 0 rfl rfl 6 (ix_lit (by decide)) dX8_put_13 (fun H locs hP hD hS => ?_)
  have hP : va_P D classes [(q1, .inl (a 0, 400, .inl (upd (upd (upd f1 4 (x2 &&& 255)) 5 (x3 &&& 255)) 6 (x1 &&& 255))))] H := hP
  have hD : va_D A [(q1, .inl (a 0, 400, .inl (upd (upd (upd f1 4 (x2 &&& 255)) 5 (x3 &&& 255)) 6 (x1 &&& 255))))] := hD
  exact retMv C rfl (0, [], [], [], [], []) rfl hP hD hS (Nat.le_of_ble_eq_true rfl) (Nat.le_of_ble_eq_true rfl) dX8_put_14

set_option maxHeartbeats 4000000 in
set_option maxRecDepth 100000 in
theorem c_X8_put_7 (l : Launch) (D : va_G) (a : Nat → ClassId) (q1 : Nat) (x2 x3 x4 x1 : Int32) (f1 : Nat → Int32) (sz : Nat) : CMv (S := SS) l MX8_put 0 0 0 0 D a [.ref q1, .int 7, .int (x1 &&& 255)] [(q1, .inl (a 0, 400, .inl (upd (upd (upd f1 4 (x2 &&& 255)) 5 (x3 &&& 255)) 6 (x4 &&& 255))))] sz (fun u => (u = (0, [], [], [], [], []))) (fun u => pk [[(q1, .inl (a 0, 400, .inl (upd (upd (upd (upd f1 4 (x2 &&& 255)) 5 (x3 &&& 255)) 6 (x4 &&& 255)) 7 (x1 &&& 255))))]] u.1) := by
  refine entMv (by decide) (Nat.le_of_ble_eq_true rfl) ?_
  intro p e s m below meth c C hK A hA hP hD ls hl
  obtain ⟨hx, hb, hml, hown, hts, hr, hlocks, hnm⟩ := id C
  have hb : c.code = cX8_put := hb
  have hown : s.vm.findClass RX8 = some m.cls := hown
  have hS : va_S A s.heap s.heap [] := va_S.rf
  have hl : lv_has ls 3 [(0, .ref q1), (1, .int 7), (2, .int (x1 &&& 255))] := hl
  refine lv_iload_n hx hb dX8_put_0 rfl (lv_at hl 1 rfl) ?_
  refine lv_if_lt (tgt := 14) hx hb dX8_put_1 (by decide) (fun c9 => absurd c9 (by decide)) (fun c9 => ?_)
  refine lv_iload_n hx hb dX8_put_4 rfl (lv_at hl 1 rfl) ?_
  refine lv_aload_n hx hb dX8_put_5 rfl (lv_at hl 0 rfl) ?_
  refine va_alen (v := 400) hx hb hK.1 hP 0 0 rfl rfl rfl dX8_put_6 ?_
  refine lv_icmp_ge (tgt := 14) hx hb dX8_put_7 (by decide) (fun c9 => absurd c9 (by decide)) (fun c9 => ?_)
  refine lv_aload_n hx hb dX8_put_10 rfl (lv_at hl 0 rfl) ?_
  refine lv_iload_n hx hb dX8_put_11 rfl (lv_at hl 1 rfl) ?_
  refine lv_iload_n hx hb dX8_put_12 rfl (lv_at hl 2 rfl) ?_
  refine ast_i hx hb hK.1 hP hD hS 0 0 rfl rfl 7 (ix_lit (by decide)) dX8_put_13 (fun H locs hP hD hS => ?_)
  have hP : va_P D classes [(q1, .inl (a 0, 400, .inl (upd (upd (upd (upd f1 4 (x2 &&& 255)) 5 (x3 &&& 255)) 6 (x4 &&& 255)) 7 (x1 &&& 255))))] H := hP
  have hD : va_D A [(q1, .inl (a 0, 400, .inl (upd (upd (upd (upd f1 4 (x2 &&& 255)) 5 (x3 &&& 255)) 6 (x4 &&& 255)) 7 (x1 &&& 255))))] := hD
  exact retMv C rfl (0, [], [], [], [], []) rfl hP hD hS (Nat.le_of_ble_eq_true rfl) (Nat.le_of_ble_eq_true rfl) dX8_put_14

set_option maxHeartbeats 4000000 in
set_option maxRecDepth 100000 in
theorem c_X8_putBytes_1 (l : Launch) (D : va_G) (a : Nat → ClassId) (q1 q2 q3 q4 q5 q6 q7 q8 q9 : Nat) (x1 : Int32) (f1 : Nat → Int32) (sz : Nat) : CMv (S := SS) l MX8_putBytes 1 22 0 0 D a [.ref q1, .int x1] [(q1, .inr (8, [.ref q2, .int 4, .ref q3, .int 0, .int 0, .ref q4, .ref q5, .ref q6, .ref q7, .ref q8, .ref q9])), (q2, .inl (a 0, 400, .inl f1))] sz (fun u => (∃ f1392 : Nat → Int32, u = (0, [], [], [], [f1392], []))) (fun u => pk [[(q1, .inr (8, [.ref q2, .int 8, .ref q3, .int 0, .int 0, .ref q4, .ref q5, .ref q6, .ref q7, .ref q8, .ref q9])), (q2, .inl (a 0, 400, .inl (u.2.2.2.2.1.getD 0 (fun _ => 0))))]] u.1) := by
  refine entMv (by decide) (Nat.le_of_ble_eq_true rfl) ?_
  intro p e s m below meth c C hK A hA hP hD ls hl
  obtain ⟨hx, hb, hml, hown, hts, hr, hlocks, hnm⟩ := id C
  have hb : c.code = cX8_putBytes := hb
  have hown : s.vm.findClass RX8 = some m.cls := hown
  have hS : va_S A s.heap s.heap [] := va_S.rf
  have hl : lv_has ls 3 [(0, .ref q1), (1, .int x1)] := hl
  refine lv_bipush (v := 24) hx hb dX8_putBytes_0 (by decide) ?_
  refine lv_istore_n (lv' := [(2, .int 24), (0, .ref q1), (1, .int x1)]) hx hb dX8_putBytes_2 rfl hl (by decide) rfl (fun ls hl => ?_)
  refine lv_iload_n hx hb dX8_putBytes_3 rfl (lv_at hl 0 rfl) ?_
  refine lv_if_lt (tgt := 41) hx hb dX8_putBytes_4 (by decide) (fun c9 => absurd c9 (by decide)) (fun c9 => ?_)
  refine lv_aload_n hx hb dX8_putBytes_7 rfl (lv_at hl 1 rfl) ?_
  refine va_get (D := D) (v := .ref q2) (C := RX8) (T := TX8) (N := 11) hx hb hts iX8 hown hK.1 hP 0 rfl rfl 0 (by decide) (hts _ t_300) (fun _ h9 => h9) rfl dX8_putBytes_8 ?_
  refine lv_aload_n hx hb dX8_putBytes_11 rfl (lv_at hl 1 rfl) ?_
  refine va_get (D := D) (v := .int 4) (C := RX8) (T := TX8) (N := 11) hx hb hts iX8 hown hK.1 hP 0 rfl rfl 1 (by decide) (hts _ t_301) (fun _ h9 => h9) rfl dX8_putBytes_12 ?_
  refine lv_iload_n hx hb dX8_putBytes_15 rfl (lv_at hl 2 rfl) ?_
  refine lv_iload_n hx hb dX8_putBytes_16 rfl (lv_at hl 0 rfl) ?_
  obtain ⟨x1372, ex1372⟩ : ∃ z : Int32, ((x1 : Int32).toUInt32 >>> ((24 : Int32).toUInt32 &&& Int32.toUInt32 31)).toInt32 = z := ⟨_, rfl⟩
  refine lv_iushr (v := x1372) hx hb dX8_putBytes_17 (by exact ex1372) ?_
  refine lv_sipush (v := 255) hx hb dX8_putBytes_18 (by decide) ?_
  refine lv_iand hx hb dX8_putBytes_21 ?_
  refine afMv (runS (As := [.ref q2, .int 4, .int (x1372 &&& 255)]) (rest := []) C (c_X8_put_4 l D a q2 x1372 f1 s.heap.size) lk_S_8_78 (okN_X8_put) ⟨Nat.le_of_ble_eq_true rfl, Nat.le_of_ble_eq_true rfl⟩ ⟨rfl, rfl⟩ (preM hK (P_of_map (wc := [(q2, .inl (a 0, 400, .inl f1))]) hP [1] rfl) (hD.sub (ws' := [(q2, .inl (a 0, 400, .inl f1))]) [1] (by decide) rfl)) hl.1 rfl (Nat.le_of_ble_eq_true rfl) dX8_putBytes_22 ⟨Nat.le_of_ble_eq_true rfl, Nat.le_of_ble_eq_true rfl⟩) hP hD hS hA [1] [0] (wr := [(q1, .inr (8, [.ref q2, .int 4, .ref q3, .int 0, .int 0, .ref q4, .ref q5, .ref q6, .ref q7, .ref q8, .ref q9]))]) rfl rfl (by decide) (by decide) (fun u H locs hw hP hD hS => ?_)
  obtain rfl := hw
  have hP : va_P D classes [(q1, .inr (8, [.ref q2, .int 4, .ref q3, .int 0, .int 0, .ref q4, .ref q5, .ref q6, .ref q7, .ref q8, .ref q9])), (q2, .inl (a 0, 400, .inl (upd f1 4 (x1372 &&& 255))))] H := hP
  have hD : va_D A [(q1, .inr (8, [.ref q2, .int 4, .ref q3, .int 0, .int 0, .ref q4, .ref q5, .ref q6, .ref q7, .ref q8, .ref q9])), (q2, .inl (a 0, 400, .inl (upd f1 4 (x1372 &&& 255))))] := hD
  refine lv_aload_n hx hb dX8_putBytes_25 rfl (lv_at hl 1 rfl) ?_
  refine lv_dup hx hb dX8_putBytes_26 rfl ?_
  refine va_get (D := D) (v := .int 4) (C := RX8) (T := TX8) (N := 11) hx hb hts iX8 hown hK.1 hP 0 rfl rfl 1 (by decide) (hts _ t_301) (fun _ h9 => h9) rfl dX8_putBytes_27 ?_
  refine lv_iconst (v := 1) hx hb dX8_putBytes_30 (by decide) ?_
  refine lv_iadd hx hb dX8_putBytes_31 ?_
  refine lv_topi (fun x1376 ex1376 => ?_)
  obtain rfl : x1376 = 5 := ex1376.trans (by decide)
  refine va_put (D := D) (v := .int 5) (C := RX8) (T := TX8) (N := 11) hx hb hts iX8 tyX8 tyX8_ok nmX8 hown hK.1 hP hD hS 0 rfl rfl 1 (by decide) (hts _ t_301) (fun _ h9 => h9) rfl (tyX8_ok 1 (by decide)) rfl rfl (Nat.le_of_ble_eq_true rfl) dX8_putBytes_32 (fun H locs hP hD hS => ?_)
  have hP : va_P D classes [(q1, .inr (8, [.ref q2, .int 5, .ref q3, .int 0, .int 0, .ref q4, .ref q5, .ref q6, .ref q7, .ref q8, .ref q9])), (q2, .inl (a 0, 400, .inl (upd f1 4 (x1372 &&& 255))))] H := hP
  have hD : va_D A [(q1, .inr (8, [.ref q2, .int 5, .ref q3, .int 0, .int 0, .ref q4, .ref q5, .ref q6, .ref q7, .ref q8, .ref q9])), (q2, .inl (a 0, 400, .inl (upd f1 4 (x1372 &&& 255))))] := hD
  refine lv_iinc (v := 16) (lv' := [(2, .int 16), (0, .ref q1), (1, .int x1)]) hx hb dX8_putBytes_35 hl (k := 0) rfl (by decide) (by decide) rfl (fun ls hl => ?_)
  refine lv_goto (tgt := 3) hx hb dX8_putBytes_38 (by decide) ?_
  refine lv_iload_n hx hb dX8_putBytes_3 rfl (lv_at hl 0 rfl) ?_
  refine lv_if_lt (tgt := 41) hx hb dX8_putBytes_4 (by decide) (fun c9 => absurd c9 (by decide)) (fun c9 => ?_)
  refine lv_aload_n hx hb dX8_putBytes_7 rfl (lv_at hl 1 rfl) ?_
  refine va_get (D := D) (v := .ref q2) (C := RX8) (T := TX8) (N := 11) hx hb hts iX8 hown hK.1 hP 0 rfl rfl 0 (by decide) (hts _ t_300) (fun _ h9 => h9) rfl dX8_putBytes_8 ?_
  refine lv_aload_n hx hb dX8_putBytes_11 rfl (lv_at hl 1 rfl) ?_
  refine va_get (D := D) (v := .int 5) (C := RX8) (T := TX8) (N := 11) hx hb hts iX8 hown hK.1 hP 0 rfl rfl 1 (by decide) (hts _ t_301) (fun _ h9 => h9) rfl dX8_putBytes_12 ?_
  refine lv_iload_n hx hb dX8_putBytes_15 rfl (lv_at hl 2 rfl) ?_
  refine lv_iload_n hx hb dX8_putBytes_16 rfl (lv_at hl 0 rfl) ?_
  obtain ⟨x1377, ex1377⟩ : ∃ z : Int32, ((x1 : Int32).toUInt32 >>> ((16 : Int32).toUInt32 &&& Int32.toUInt32 31)).toInt32 = z := ⟨_, rfl⟩
  refine lv_iushr (v := x1377) hx hb dX8_putBytes_17 (by exact ex1377) ?_
  refine lv_sipush (v := 255) hx hb dX8_putBytes_18 (by decide) ?_
  refine lv_iand hx hb dX8_putBytes_21 ?_
  refine afMv (runS (As := [.ref q2, .int 5, .int (x1377 &&& 255)]) (rest := []) C (c_X8_put_5 l D a q2 x1372 x1377 f1 H.size) lk_S_8_78 (okN_X8_put) ⟨Nat.le_of_ble_eq_true rfl, Nat.le_of_ble_eq_true rfl⟩ ⟨rfl, rfl⟩ (preM hK (P_of_map (wc := [(q2, .inl (a 0, 400, .inl (upd f1 4 (x1372 &&& 255))))]) hP [1] rfl) (hD.sub (ws' := [(q2, .inl (a 0, 400, .inl (upd f1 4 (x1372 &&& 255))))]) [1] (by decide) rfl)) hl.1 rfl (Nat.le_of_ble_eq_true rfl) dX8_putBytes_22 ⟨Nat.le_of_ble_eq_true rfl, Nat.le_of_ble_eq_true rfl⟩) hP hD hS hA [1] [0] (wr := [(q1, .inr (8, [.ref q2, .int 5, .ref q3, .int 0, .int 0, .ref q4, .ref q5, .ref q6, .ref q7, .ref q8, .ref q9]))]) rfl rfl (by decide) (by decide) (fun u H locs hw hP hD hS => ?_)
  obtain rfl := hw
  have hP : va_P D classes [(q1, .inr (8, [.ref q2, .int 5, .ref q3, .int 0, .int 0, .ref q4, .ref q5, .ref q6, .ref q7, .ref q8, .ref q9])), (q2, .inl (a 0, 400, .inl (upd (upd f1 4 (x1372 &&& 255)) 5 (x1377 &&& 255))))] H := hP
  have hD : va_D A [(q1, .inr (8, [.ref q2, .int 5, .ref q3, .int 0, .int 0, .ref q4, .ref q5, .ref q6, .ref q7, .ref q8, .ref q9])), (q2, .inl (a 0, 400, .inl (upd (upd f1 4 (x1372 &&& 255)) 5 (x1377 &&& 255))))] := hD
  refine lv_aload_n hx hb dX8_putBytes_25 rfl (lv_at hl 1 rfl) ?_
  refine lv_dup hx hb dX8_putBytes_26 rfl ?_
  refine va_get (D := D) (v := .int 5) (C := RX8) (T := TX8) (N := 11) hx hb hts iX8 hown hK.1 hP 0 rfl rfl 1 (by decide) (hts _ t_301) (fun _ h9 => h9) rfl dX8_putBytes_27 ?_
  refine lv_iconst (v := 1) hx hb dX8_putBytes_30 (by decide) ?_
  refine lv_iadd hx hb dX8_putBytes_31 ?_
  refine lv_topi (fun x1381 ex1381 => ?_)
  obtain rfl : x1381 = 6 := ex1381.trans (by decide)
  refine va_put (D := D) (v := .int 6) (C := RX8) (T := TX8) (N := 11) hx hb hts iX8 tyX8 tyX8_ok nmX8 hown hK.1 hP hD hS 0 rfl rfl 1 (by decide) (hts _ t_301) (fun _ h9 => h9) rfl (tyX8_ok 1 (by decide)) rfl rfl (Nat.le_of_ble_eq_true rfl) dX8_putBytes_32 (fun H locs hP hD hS => ?_)
  have hP : va_P D classes [(q1, .inr (8, [.ref q2, .int 6, .ref q3, .int 0, .int 0, .ref q4, .ref q5, .ref q6, .ref q7, .ref q8, .ref q9])), (q2, .inl (a 0, 400, .inl (upd (upd f1 4 (x1372 &&& 255)) 5 (x1377 &&& 255))))] H := hP
  have hD : va_D A [(q1, .inr (8, [.ref q2, .int 6, .ref q3, .int 0, .int 0, .ref q4, .ref q5, .ref q6, .ref q7, .ref q8, .ref q9])), (q2, .inl (a 0, 400, .inl (upd (upd f1 4 (x1372 &&& 255)) 5 (x1377 &&& 255))))] := hD
  refine lv_iinc (v := 8) (lv' := [(2, .int 8), (0, .ref q1), (1, .int x1)]) hx hb dX8_putBytes_35 hl (k := 0) rfl (by decide) (by decide) rfl (fun ls hl => ?_)
  refine lv_goto (tgt := 3) hx hb dX8_putBytes_38 (by decide) ?_
  refine lv_iload_n hx hb dX8_putBytes_3 rfl (lv_at hl 0 rfl) ?_
  refine lv_if_lt (tgt := 41) hx hb dX8_putBytes_4 (by decide) (fun c9 => absurd c9 (by decide)) (fun c9 => ?_)
  refine lv_aload_n hx hb dX8_putBytes_7 rfl (lv_at hl 1 rfl) ?_
  refine va_get (D := D) (v := .ref q2) (C := RX8) (T := TX8) (N := 11) hx hb hts iX8 hown hK.1 hP 0 rfl rfl 0 (by decide) (hts _ t_300) (fun _ h9 => h9) rfl dX8_putBytes_8 ?_
  refine lv_aload_n hx hb dX8_putBytes_11 rfl (lv_at hl 1 rfl) ?_
  refine va_get (D := D) (v := .int 6) (C := RX8) (T := TX8) (N := 11) hx hb hts iX8 hown hK.1 hP 0 rfl rfl 1 (by decide) (hts _ t_301) (fun _ h9 => h9) rfl dX8_putBytes_12 ?_
  refine lv_iload_n hx hb dX8_putBytes_15 rfl (lv_at hl 2 rfl) ?_
  refine lv_iload_n hx hb dX8_putBytes_16 rfl (lv_at hl 0 rfl) ?_
  obtain ⟨x1382, ex1382⟩ : ∃ z : Int32, ((x1 : Int32).toUInt32 >>> ((8 : Int32).toUInt32 &&& Int32.toUInt32 31)).toInt32 = z := ⟨_, rfl⟩
  refine lv_iushr (v := x1382) hx hb dX8_putBytes_17 (by exact ex1382) ?_
  refine lv_sipush (v := 255) hx hb dX8_putBytes_18 (by decide) ?_
  refine lv_iand hx hb dX8_putBytes_21 ?_
  refine afMv (runS (As := [.ref q2, .int 6, .int (x1382 &&& 255)]) (rest := []) C (c_X8_put_6 l D a q2 x1372 x1377 x1382 f1 H.size) lk_S_8_78 (okN_X8_put) ⟨Nat.le_of_ble_eq_true rfl, Nat.le_of_ble_eq_true rfl⟩ ⟨rfl, rfl⟩ (preM hK (P_of_map (wc := [(q2, .inl (a 0, 400, .inl (upd (upd f1 4 (x1372 &&& 255)) 5 (x1377 &&& 255))))]) hP [1] rfl) (hD.sub (ws' := [(q2, .inl (a 0, 400, .inl (upd (upd f1 4 (x1372 &&& 255)) 5 (x1377 &&& 255))))]) [1] (by decide) rfl)) hl.1 rfl (Nat.le_of_ble_eq_true rfl) dX8_putBytes_22 ⟨Nat.le_of_ble_eq_true rfl, Nat.le_of_ble_eq_true rfl⟩) hP hD hS hA [1] [0] (wr := [(q1, .inr (8, [.ref q2, .int 6, .ref q3, .int 0, .int 0, .ref q4, .ref q5, .ref q6, .ref q7, .ref q8, .ref q9]))]) rfl rfl (by decide) (by decide) (fun u H locs hw hP hD hS => ?_)
  obtain rfl := hw
  have hP : va_P D classes [(q1, .inr (8, [.ref q2, .int 6, .ref q3, .int 0, .int 0, .ref q4, .ref q5, .ref q6, .ref q7, .ref q8, .ref q9])), (q2, .inl (a 0, 400, .inl (upd (upd (upd f1 4 (x1372 &&& 255)) 5 (x1377 &&& 255)) 6 (x1382 &&& 255))))] H := hP
  have hD : va_D A [(q1, .inr (8, [.ref q2, .int 6, .ref q3, .int 0, .int 0, .ref q4, .ref q5, .ref q6, .ref q7, .ref q8, .ref q9])), (q2, .inl (a 0, 400, .inl (upd (upd (upd f1 4 (x1372 &&& 255)) 5 (x1377 &&& 255)) 6 (x1382 &&& 255))))] := hD
  refine lv_aload_n hx hb dX8_putBytes_25 rfl (lv_at hl 1 rfl) ?_
  refine lv_dup hx hb dX8_putBytes_26 rfl ?_
  refine va_get (D := D) (v := .int 6) (C := RX8) (T := TX8) (N := 11) hx hb hts iX8 hown hK.1 hP 0 rfl rfl 1 (by decide) (hts _ t_301) (fun _ h9 => h9) rfl dX8_putBytes_27 ?_
  refine lv_iconst (v := 1) hx hb dX8_putBytes_30 (by decide) ?_
  refine lv_iadd hx hb dX8_putBytes_31 ?_
  refine lv_topi (fun x1386 ex1386 => ?_)
  obtain rfl : x1386 = 7 := ex1386.trans (by decide)
  refine va_put (D := D) (v := .int 7) (C := RX8) (T := TX8) (N := 11) hx hb hts iX8 tyX8 tyX8_ok nmX8 hown hK.1 hP hD hS 0 rfl rfl 1 (by decide) (hts _ t_301) (fun _ h9 => h9) rfl (tyX8_ok 1 (by decide)) rfl rfl (Nat.le_of_ble_eq_true rfl) dX8_putBytes_32 (fun H locs hP hD hS => ?_)
  have hP : va_P D classes [(q1, .inr (8, [.ref q2, .int 7, .ref q3, .int 0, .int 0, .ref q4, .ref q5, .ref q6, .ref q7, .ref q8, .ref q9])), (q2, .inl (a 0, 400, .inl (upd (upd (upd f1 4 (x1372 &&& 255)) 5 (x1377 &&& 255)) 6 (x1382 &&& 255))))] H := hP
  have hD : va_D A [(q1, .inr (8, [.ref q2, .int 7, .ref q3, .int 0, .int 0, .ref q4, .ref q5, .ref q6, .ref q7, .ref q8, .ref q9])), (q2, .inl (a 0, 400, .inl (upd (upd (upd f1 4 (x1372 &&& 255)) 5 (x1377 &&& 255)) 6 (x1382 &&& 255))))] := hD
  refine lv_iinc (v := 0) (lv' := [(2, .int 0), (0, .ref q1), (1, .int x1)]) hx hb dX8_putBytes_35 hl (k := 0) rfl (by decide) (by decide) rfl (fun ls hl => ?_)
  refine lv_goto (tgt := 3) hx hb dX8_putBytes_38 (by decide) ?_
  refine lv_iload_n hx hb dX8_putBytes_3 rfl (lv_at hl 0 rfl) ?_
  refine lv_if_lt (tgt := 41) hx hb dX8_putBytes_4 (by decide) (fun c9 => absurd c9 (by decide)) (fun c9 => ?_)
  refine lv_aload_n hx hb dX8_putBytes_7 rfl (lv_at hl 1 rfl) ?_
  refine va_get (D := D) (v := .ref q2) (C := RX8) (T := TX8) (N := 11) hx hb hts iX8 hown hK.1 hP 0 rfl rfl 0 (by decide) (hts _ t_300) (fun _ h9 => h9) rfl dX8_putBytes_8 ?_
  refine lv_aload_n hx hb dX8_putBytes_11 rfl (lv_at hl 1 rfl) ?_
  refine va_get (D := D) (v := .int 7) (C := RX8) (T := TX8) (N := 11) hx hb hts iX8 hown hK.1 hP 0 rfl rfl 1 (by decide) (hts _ t_301) (fun _ h9 => h9) rfl dX8_putBytes_12 ?_
  refine lv_iload_n hx hb dX8_putBytes_15 rfl (lv_at hl 2 rfl) ?_
  refine lv_iload_n hx hb dX8_putBytes_16 rfl (lv_at hl 0 rfl) ?_
  obtain ⟨x1387, ex1387⟩ : ∃ z : Int32, ((x1 : Int32).toUInt32 >>> ((0 : Int32).toUInt32 &&& Int32.toUInt32 31)).toInt32 = z := ⟨_, rfl⟩
  refine lv_iushr (v := x1387) hx hb dX8_putBytes_17 (by exact ex1387) ?_
  refine lv_sipush (v := 255) hx hb dX8_putBytes_18 (by decide) ?_
  refine lv_iand hx hb dX8_putBytes_21 ?_
  refine afMv (runS (As := [.ref q2, .int 7, .int (x1387 &&& 255)]) (rest := []) C (c_X8_put_7 l D a q2 x1372 x1377 x1382 x1387 f1 H.size) lk_S_8_78 (okN_X8_put) ⟨Nat.le_of_ble_eq_true rfl, Nat.le_of_ble_eq_true rfl⟩ ⟨rfl, rfl⟩ (preM hK (P_of_map (wc := [(q2, .inl (a 0, 400, .inl (upd (upd (upd f1 4 (x1372 &&& 255)) 5 (x1377 &&& 255)) 6 (x1382 &&& 255))))]) hP [1] rfl) (hD.sub (ws' := [(q2, .inl (a 0, 400, .inl (upd (upd (upd f1 4 (x1372 &&& 255)) 5 (x1377 &&& 255)) 6 (x1382 &&& 255))))]) [1] (by decide) rfl)) hl.1 rfl (Nat.le_of_ble_eq_true rfl) dX8_putBytes_22 ⟨Nat.le_of_ble_eq_true rfl, Nat.le_of_ble_eq_true rfl⟩) hP hD hS hA [1] [0] (wr := [(q1, .inr (8, [.ref q2, .int 7, .ref q3, .int 0, .int 0, .ref q4, .ref q5, .ref q6, .ref q7, .ref q8, .ref q9]))]) rfl rfl (by decide) (by decide) (fun u H locs hw hP hD hS => ?_)
  obtain rfl := hw
  have hP : va_P D classes [(q1, .inr (8, [.ref q2, .int 7, .ref q3, .int 0, .int 0, .ref q4, .ref q5, .ref q6, .ref q7, .ref q8, .ref q9])), (q2, .inl (a 0, 400, .inl (upd (upd (upd (upd f1 4 (x1372 &&& 255)) 5 (x1377 &&& 255)) 6 (x1382 &&& 255)) 7 (x1387 &&& 255))))] H := hP
  have hD : va_D A [(q1, .inr (8, [.ref q2, .int 7, .ref q3, .int 0, .int 0, .ref q4, .ref q5, .ref q6, .ref q7, .ref q8, .ref q9])), (q2, .inl (a 0, 400, .inl (upd (upd (upd (upd f1 4 (x1372 &&& 255)) 5 (x1377 &&& 255)) 6 (x1382 &&& 255)) 7 (x1387 &&& 255))))] := hD
  refine lv_aload_n hx hb dX8_putBytes_25 rfl (lv_at hl 1 rfl) ?_
  refine lv_dup hx hb dX8_putBytes_26 rfl ?_
  refine va_get (D := D) (v := .int 7) (C := RX8) (T := TX8) (N := 11) hx hb hts iX8 hown hK.1 hP 0 rfl rfl 1 (by decide) (hts _ t_301) (fun _ h9 => h9) rfl dX8_putBytes_27 ?_
  refine lv_iconst (v := 1) hx hb dX8_putBytes_30 (by decide) ?_
  refine lv_iadd hx hb dX8_putBytes_31 ?_
  refine lv_topi (fun x1391 ex1391 => ?_)
  obtain rfl : x1391 = 8 := ex1391.trans (by decide)
  refine va_put (D := D) (v := .int 8) (C := RX8) (T := TX8) (N := 11) hx hb hts iX8 tyX8 tyX8_ok nmX8 hown hK.1 hP hD hS 0 rfl rfl 1 (by decide) (hts _ t_301) (fun _ h9 => h9) rfl (tyX8_ok 1 (by decide)) rfl rfl (Nat.le_of_ble_eq_true rfl) dX8_putBytes_32 (fun H locs hP hD hS => ?_)
  have hP : va_P D classes [(q1, .inr (8, [.ref q2, .int 8, .ref q3, .int 0, .int 0, .ref q4, .ref q5, .ref q6, .ref q7, .ref q8, .ref q9])), (q2, .inl (a 0, 400, .inl (upd (upd (upd (upd f1 4 (x1372 &&& 255)) 5 (x1377 &&& 255)) 6 (x1382 &&& 255)) 7 (x1387 &&& 255))))] H := hP
  have hD : va_D A [(q1, .inr (8, [.ref q2, .int 8, .ref q3, .int 0, .int 0, .ref q4, .ref q5, .ref q6, .ref q7, .ref q8, .ref q9])), (q2, .inl (a 0, 400, .inl (upd (upd (upd (upd f1 4 (x1372 &&& 255)) 5 (x1377 &&& 255)) 6 (x1382 &&& 255)) 7 (x1387 &&& 255))))] := hD
  refine lv_iinc (v := (-8)) (lv' := [(2, .int (-8)), (0, .ref q1), (1, .int x1)]) hx hb dX8_putBytes_35 hl (k := 0) rfl (by decide) (by decide) rfl (fun ls hl => ?_)
  refine lv_goto (tgt := 3) hx hb dX8_putBytes_38 (by decide) ?_
  refine lv_iload_n hx hb dX8_putBytes_3 rfl (lv_at hl 0 rfl) ?_
  refine lv_if_lt (tgt := 41) hx hb dX8_putBytes_4 (by decide) (fun c9 => ?_) (fun c9 => absurd (by decide) c9)
  exact retMv C rfl (0, [], [], [], [(upd (upd (upd (upd f1 4 (x1372 &&& 255)) 5 (x1377 &&& 255)) 6 (x1382 &&& 255)) 7 (x1387 &&& 255))], []) ⟨(upd (upd (upd (upd f1 4 (x1372 &&& 255)) 5 (x1377 &&& 255)) 6 (x1382 &&& 255)) 7 (x1387 &&& 255)), rfl⟩ hP hD hS (Nat.le_of_ble_eq_true rfl) (Nat.le_of_ble_eq_true rfl) dX8_putBytes_41

set_option maxHeartbeats 4000000 in
set_option maxRecDepth 100000 in
theorem c_X8_put_8 (l : Launch) (D : va_G) (a : Nat → ClassId) (q1 : Nat) (x1 : Int32) (f1 : Nat → Int32) (sz : Nat) : CMv (S := SS) l MX8_put 0 0 0 0 D a [.ref q1, .int 8, .int (x1 &&& 255)] [(q1, .inl (a 0, 400, .inl f1))] sz (fun u => (u = (0, [], [], [], [], []))) (fun u => pk [[(q1, .inl (a 0, 400, .inl (upd f1 8 (x1 &&& 255))))]] u.1) := by
  refine entMv (by decide) (Nat.le_of_ble_eq_true rfl) ?_
  intro p e s m below meth c C hK A hA hP hD ls hl
  obtain ⟨hx, hb, hml, hown, hts, hr, hlocks, hnm⟩ := id C
  have hb : c.code = cX8_put := hb
  have hown : s.vm.findClass RX8 = some m.cls := hown
  have hS : va_S A s.heap s.heap [] := va_S.rf
  have hl : lv_has ls 3 [(0, .ref q1), (1, .int 8), (2, .int (x1 &&& 255))] := hl
  refine lv_iload_n hx hb dX8_put_0 rfl (lv_at hl 1 rfl) ?_
  refine lv_if_lt (tgt := 14) hx hb dX8_put_1 (by decide) (fun c9 => absurd c9 (by decide)) (fun c9 => ?_)
  refine lv_iload_n hx hb dX8_put_4 rfl (lv_at hl 1 rfl) ?_
  refine lv_aload_n hx hb dX8_put_5 rfl (lv_at hl 0 rfl) ?_
  refine va_alen (v := 400) hx hb hK.1 hP 0 0 rfl rfl rfl dX8_put_6 ?_
  refine lv_icmp_ge (tgt := 14) hx hb dX8_put_7 (by decide) (fun c9 => absurd c9 (by decide)) (fun c9 => ?_)
  refine lv_aload_n hx hb dX8_put_10 rfl (lv_at hl 0 rfl) ?_
  refine lv_iload_n hx hb dX8_put_11 rfl (lv_at hl 1 rfl) ?_
  refine lv_iload_n hx hb dX8_put_12 rfl (lv_at hl 2 rfl) ?_
  refine ast_i hx hb hK.1 hP hD hS 0 0 rfl rfl 8 (ix_lit (by decide)) dX8_put_13 (fun H locs hP hD hS => ?_)
  have hP : va_P D classes [(q1, .inl (a 0, 400, .inl (upd f1 8 (x1 &&& 255))))] H := hP
  have hD : va_D A [(q1, .inl (a 0, 400, .inl (upd f1 8 (x1 &&& 255))))] := hD
  exact retMv C rfl (0, [], [], [], [], []) rfl hP hD hS (Nat.le_of_ble_eq_true rfl) (Nat.le_of_ble_eq_true rfl) dX8_put_14

set_option maxHeartbeats 4000000 in
set_option maxRecDepth 100000 in
theorem c_X8_put_9 (l : Launch) (D : va_G) (a : Nat → ClassId) (q1 : Nat) (x2 x1 : Int32) (f1 : Nat → Int32) (sz : Nat) : CMv (S := SS) l MX8_put 0 0 0 0 D a [.ref q1, .int 9, .int (x1 &&& 255)] [(q1, .inl (a 0, 400, .inl (upd f1 8 (x2 &&& 255))))] sz (fun u => (u = (0, [], [], [], [], []))) (fun u => pk [[(q1, .inl (a 0, 400, .inl (upd (upd f1 8 (x2 &&& 255)) 9 (x1 &&& 255))))]] u.1) := by
  refine entMv (by decide) (Nat.le_of_ble_eq_true rfl) ?_
  intro p e s m below meth c C hK A hA hP hD ls hl
  obtain ⟨hx, hb, hml, hown, hts, hr, hlocks, hnm⟩ := id C
  have hb : c.code = cX8_put := hb
  have hown : s.vm.findClass RX8 = some m.cls := hown
  have hS : va_S A s.heap s.heap [] := va_S.rf
  have hl : lv_has ls 3 [(0, .ref q1), (1, .int 9), (2, .int (x1 &&& 255))] := hl
  refine lv_iload_n hx hb dX8_put_0 rfl (lv_at hl 1 rfl) ?_
  refine lv_if_lt (tgt := 14) hx hb dX8_put_1 (by decide) (fun c9 => absurd c9 (by decide)) (fun c9 => ?_)
  refine lv_iload_n hx hb dX8_put_4 rfl (lv_at hl 1 rfl) ?_
  refine lv_aload_n hx hb dX8_put_5 rfl (lv_at hl 0 rfl) ?_
  refine va_alen (v := 400) hx hb hK.1 hP 0 0 rfl rfl rfl dX8_put_6 ?_
  refine lv_icmp_ge (tgt := 14) hx hb dX8_put_7 (by decide) (fun c9 => absurd c9 (by decide)) (fun c9 => ?_)
  refine lv_aload_n hx hb dX8_put_10 rfl (lv_at hl 0 rfl) ?_
  refine lv_iload_n hx hb dX8_put_11 rfl (lv_at hl 1 rfl) ?_
  refine lv_iload_n hx hb dX8_put_12 rfl (lv_at hl 2 rfl) ?_
  refine ast_i hx hb hK.1 hP hD hS 0 0 rfl rfl 9 (ix_lit (by decide)) dX8_put_13 (fun H locs hP hD hS => ?_)
  have hP : va_P D classes [(q1, .inl (a 0, 400, .inl (upd (upd f1 8 (x2 &&& 255)) 9 (x1 &&& 255))))] H := hP
  have hD : va_D A [(q1, .inl (a 0, 400, .inl (upd (upd f1 8 (x2 &&& 255)) 9 (x1 &&& 255))))] := hD
  exact retMv C rfl (0, [], [], [], [], []) rfl hP hD hS (Nat.le_of_ble_eq_true rfl) (Nat.le_of_ble_eq_true rfl) dX8_put_14

set_option maxHeartbeats 4000000 in
set_option maxRecDepth 100000 in
theorem c_X8_put_10 (l : Launch) (D : va_G) (a : Nat → ClassId) (q1 : Nat) (x2 x3 x1 : Int32) (f1 : Nat → Int32) (sz : Nat) : CMv (S := SS) l MX8_put 0 0 0 0 D a [.ref q1, .int 10, .int (x1 &&& 255)] [(q1, .inl (a 0, 400, .inl (upd (upd f1 8 (x2 &&& 255)) 9 (x3 &&& 255))))] sz (fun u => (u = (0, [], [], [], [], []))) (fun u => pk [[(q1, .inl (a 0, 400, .inl (upd (upd (upd f1 8 (x2 &&& 255)) 9 (x3 &&& 255)) 10 (x1 &&& 255))))]] u.1) := by
  refine entMv (by decide) (Nat.le_of_ble_eq_true rfl) ?_
  intro p e s m below meth c C hK A hA hP hD ls hl
  obtain ⟨hx, hb, hml, hown, hts, hr, hlocks, hnm⟩ := id C
  have hb : c.code = cX8_put := hb
  have hown : s.vm.findClass RX8 = some m.cls := hown
  have hS : va_S A s.heap s.heap [] := va_S.rf
  have hl : lv_has ls 3 [(0, .ref q1), (1, .int 10), (2, .int (x1 &&& 255))] := hl
  refine lv_iload_n hx hb dX8_put_0 rfl (lv_at hl 1 rfl) ?_
  refine lv_if_lt (tgt := 14) hx hb dX8_put_1 (by decide) (fun c9 => absurd c9 (by decide)) (fun c9 => ?_)
  refine lv_iload_n hx hb dX8_put_4 rfl (lv_at hl 1 rfl) ?_
  refine lv_aload_n hx hb dX8_put_5 rfl (lv_at hl 0 rfl) ?_
  refine va_alen (v := 400) hx hb hK.1 hP 0 0 rfl rfl rfl dX8_put_6 ?_
  refine lv_icmp_ge (tgt := 14) hx hb dX8_put_7 (by decide) (fun c9 => absurd c9 (by decide)) (fun c9 => ?_)
  refine lv_aload_n hx hb dX8_put_10 rfl (lv_at hl 0 rfl) ?_
  refine lv_iload_n hx hb dX8_put_11 rfl (lv_at hl 1 rfl) ?_
  refine lv_iload_n hx hb dX8_put_12 rfl (lv_at hl 2 rfl) ?_
  refine ast_i hx hb hK.1 hP hD hS 0 0 rfl rfl 10 (ix_lit (by decide)) dX8_put_13 (fun H locs hP hD hS => ?_)
  have hP : va_P D classes [(q1, .inl (a 0, 400, .inl (upd (upd (upd f1 8 (x2 &&& 255)) 9 (x3 &&& 255)) 10 (x1 &&& 255))))] H := hP
  have hD : va_D A [(q1, .inl (a 0, 400, .inl (upd (upd (upd f1 8 (x2 &&& 255)) 9 (x3 &&& 255)) 10 (x1 &&& 255))))] := hD
  exact retMv C rfl (0, [], [], [], [], []) rfl hP hD hS (Nat.le_of_ble_eq_true rfl) (Nat.le_of_ble_eq_true rfl) dX8_put_14

set_option maxHeartbeats 4000000 in
set_option maxRecDepth 100000 in
theorem c_X8_put_11 (l : Launch) (D : va_G) (a : Nat → ClassId) (q1 : Nat) (x2 x3 x4 x1 : Int32) (f1 : Nat → Int32) (sz : Nat) : CMv (S := SS) l MX8_put 0 0 0 0 D a [.ref q1, .int 11, .int (x1 &&& 255)] [(q1, .inl (a 0, 400, .inl (upd (upd (upd f1 8 (x2 &&& 255)) 9 (x3 &&& 255)) 10 (x4 &&& 255))))] sz (fun u => (u = (0, [], [], [], [], []))) (fun u => pk [[(q1, .inl (a 0, 400, .inl (upd (upd (upd (upd f1 8 (x2 &&& 255)) 9 (x3 &&& 255)) 10 (x4 &&& 255)) 11 (x1 &&& 255))))]] u.1) := by
  refine entMv (by decide) (Nat.le_of_ble_eq_true rfl) ?_
  intro p e s m below meth c C hK A hA hP hD ls hl
  obtain ⟨hx, hb, hml, hown, hts, hr, hlocks, hnm⟩ := id C
  have hb : c.code = cX8_put := hb
  have hown : s.vm.findClass RX8 = some m.cls := hown
  have hS : va_S A s.heap s.heap [] := va_S.rf
  have hl : lv_has ls 3 [(0, .ref q1), (1, .int 11), (2, .int (x1 &&& 255))] := hl
  refine lv_iload_n hx hb dX8_put_0 rfl (lv_at hl 1 rfl) ?_
  refine lv_if_lt (tgt := 14) hx hb dX8_put_1 (by decide) (fun c9 => absurd c9 (by decide)) (fun c9 => ?_)
  refine lv_iload_n hx hb dX8_put_4 rfl (lv_at hl 1 rfl) ?_
  refine lv_aload_n hx hb dX8_put_5 rfl (lv_at hl 0 rfl) ?_
  refine va_alen (v := 400) hx hb hK.1 hP 0 0 rfl rfl rfl dX8_put_6 ?_
  refine lv_icmp_ge (tgt := 14) hx hb dX8_put_7 (by decide) (fun c9 => absurd c9 (by decide)) (fun c9 => ?_)
  refine lv_aload_n hx hb dX8_put_10 rfl (lv_at hl 0 rfl) ?_
  refine lv_iload_n hx hb dX8_put_11 rfl (lv_at hl 1 rfl) ?_
  refine lv_iload_n hx hb dX8_put_12 rfl (lv_at hl 2 rfl) ?_
  refine ast_i hx hb hK.1 hP hD hS 0 0 rfl rfl 11 (ix_lit (by decide)) dX8_put_13 (fun H locs hP hD hS => ?_)
  have hP : va_P D classes [(q1, .inl (a 0, 400, .inl (upd (upd (upd (upd f1 8 (x2 &&& 255)) 9 (x3 &&& 255)) 10 (x4 &&& 255)) 11 (x1 &&& 255))))] H := hP
  have hD : va_D A [(q1, .inl (a 0, 400, .inl (upd (upd (upd (upd f1 8 (x2 &&& 255)) 9 (x3 &&& 255)) 10 (x4 &&& 255)) 11 (x1 &&& 255))))] := hD
  exact retMv C rfl (0, [], [], [], [], []) rfl hP hD hS (Nat.le_of_ble_eq_true rfl) (Nat.le_of_ble_eq_true rfl) dX8_put_14

set_option maxHeartbeats 4000000 in
set_option maxRecDepth 100000 in
theorem c_X8_putBytes_2 (l : Launch) (D : va_G) (a : Nat → ClassId) (q1 q2 q3 q4 q5 q6 q7 q8 q9 : Nat) (x1 : Int32) (f1 : Nat → Int32) (sz : Nat) : CMv (S := SS) l MX8_putBytes 1 22 0 0 D a [.ref q1, .int x1] [(q1, .inr (8, [.ref q2, .int 8, .ref q3, .int 0, .int 0, .ref q4, .ref q5, .ref q6, .ref q7, .ref q8, .ref q9])), (q2, .inl (a 0, 400, .inl f1))] sz (fun u => (∃ f1437 : Nat → Int32, u = (0, [], [], [], [f1437], []))) (fun u => pk [[(q1, .inr (8, [.ref q2, .int 12, .ref q3, .int 0, .int 0, .ref q4, .ref q5, .ref q6, .ref q7, .ref q8, .ref q9])), (q2, .inl (a 0, 400, .inl (u.2.2.2.2.1.getD 0 (fun _ => 0))))]] u.1) := by
  refine entMv (by decide) (Nat.le_of_ble_eq_true rfl) ?_
  intro p e s m below meth c C hK A hA hP hD ls hl
  obtain ⟨hx, hb, hml, hown, hts, hr, hlocks, hnm⟩ := id C
  have hb : c.code = cX8_putBytes := hb
  have hown : s.vm.findClass RX8 = some m.cls := hown
  have hS : va_S A s.heap s.heap [] := va_S.rf
  have hl : lv_has ls 3 [(0, .ref q1), (1, .int x1)] := hl
  refine lv_bipush (v := 24) hx hb dX8_putBytes_0 (by decide) ?_
  refine lv_istore_n (lv' := [(2, .int 24), (0, .ref q1), (1, .int x1)]) hx hb dX8_putBytes_2 rfl hl (by decide) rfl (fun ls hl => ?_)
  refine lv_iload_n hx hb dX8_putBytes_3 rfl (lv_at hl 0 rfl) ?_
  refine lv_if_lt (tgt := 41) hx hb dX8_putBytes_4 (by decide) (fun c9 => absurd c9 (by decide)) (fun c9 => ?_)
  refine lv_aload_n hx hb dX8_putBytes_7 rfl (lv_at hl 1 rfl) ?_
  refine va_get (D := D) (v := .ref q2) (C := RX8) (T := TX8) (N := 11) hx hb hts iX8 hown hK.1 hP 0 rfl rfl 0 (by decide) (hts _ t_300) (fun _ h9 => h9) rfl dX8_putBytes_8 ?_
  refine lv_aload_n hx hb dX8_putBytes_11 rfl (lv_at hl 1 rfl) ?_
  refine va_get (D := D) (v := .int 8) (C := RX8) (T := TX8) (N := 11) hx hb hts iX8 hown hK.1 hP 0 rfl rfl 1 (by decide) (hts _ t_301) (fun _ h9 => h9) rfl dX8_putBytes_12 ?_
  refine lv_iload_n hx hb dX8_putBytes_15 rfl (lv_at hl 2 rfl) ?_
  refine lv_iload_n hx hb dX8_putBytes_16 rfl (lv_at hl 0 rfl) ?_
  obtain ⟨x1417, ex1417⟩ : ∃ z : Int32, ((x1 : Int32).toUInt32 >>> ((24 : Int32).toUInt32 &&& Int32.toUInt32 31)).toInt32 = z := ⟨_, rfl⟩
  refine lv_iushr (v := x1417) hx hb dX8_putBytes_17 (by exact ex1417) ?_
  refine lv_sipush (v := 255) hx hb dX8_putBytes_18 (by decide) ?_
  refine lv_iand hx hb dX8_putBytes_21 ?_
  refine afMv (runS (As := [.ref q2, .int 8, .int (x1417 &&& 255)]) (rest := []) C (c_X8_put_8 l D a q2 x1417 f1 s.heap.size) lk_S_8_78 (okN_X8_put) ⟨Nat.le_of_ble_eq_true rfl, Nat.le_of_ble_eq_true rfl⟩ ⟨rfl, rfl⟩ (preM hK (P_of_map (wc := [(q2, .inl (a 0, 400, .inl f1))]) hP [1] rfl) (hD.sub (ws' := [(q2, .inl (a 0, 400, .inl f1))]) [1] (by decide) rfl)) hl.1 rfl (Nat.le_of_ble_eq_true rfl) dX8_putBytes_22 ⟨Nat.le_of_ble_eq_true rfl, Nat.le_of_ble_eq_true rfl⟩) hP hD hS hA [1] [0] (wr := [(q1, .inr (8, [.ref q2, .int 8, .ref q3, .int 0, .int 0, .ref q4, .ref q5, .ref q6, .ref q7, .ref q8, .ref q9]))]) rfl rfl (by decide) (by decide) (fun u H locs hw hP hD hS => ?_)
  obtain rfl := hw
  have hP : va_P D classes [(q1, .inr (8, [.ref q2, .int 8, .ref q3, .int 0, .int 0, .ref q4, .ref q5, .ref q6, .ref q7, .ref q8, .ref q9])), (q2, .inl (a 0, 400, .inl (upd f1 8 (x1417 &&& 255))))] H := hP
  have hD : va_D A [(q1, .inr (8, [.ref q2, .int 8, .ref q3, .int 0, .int 0, .ref q4, .ref q5, .ref q6, .ref q7, .ref q8, .ref q9])), (q2, .inl (a 0, 400, .inl (upd f1 8 (x1417 &&& 255))))] := hD
  refine lv_aload_n hx hb dX8_putBytes_25 rfl (lv_at hl 1 rfl) ?_
  refine lv_dup hx hb dX8_putBytes_26 rfl ?_
  refine va_get (D := D) (v := .int 8) (C := RX8) (T := TX8) (N := 11) hx hb hts iX8 hown hK.1 hP 0 rfl rfl 1 (by decide) (hts _ t_301) (fun _ h9 => h9) rfl dX8_putBytes_27 ?_
  refine lv_iconst (v := 1) hx hb dX8_putBytes_30 (by decide) ?_
  refine lv_iadd hx hb dX8_putBytes_31 ?_
  refine lv_topi (fun x1421 ex1421 => ?_)
  obtain rfl : x1421 = 9 := ex1421.trans (by decide)
  refine va_put (D := D) (v := .int 9) (C := RX8) (T := TX8) (N := 11) hx hb hts iX8 tyX8 tyX8_ok nmX8 hown hK.1 hP hD hS 0 rfl rfl 1 (by decide) (hts _ t_301) (fun _ h9 => h9) rfl (tyX8_ok 1 (by decide)) rfl rfl (Nat.le_of_ble_eq_true rfl) dX8_putBytes_32 (fun H locs hP hD hS => ?_)
  have hP : va_P D classes [(q1, .inr (8, [.ref q2, .int 9, .ref q3, .int 0, .int 0, .ref q4, .ref q5, .ref q6, .ref q7, .ref q8, .ref q9])), (q2, .inl (a 0, 400, .inl (upd f1 8 (x1417 &&& 255))))] H := hP
  have hD : va_D A [(q1, .inr (8, [.ref q2, .int 9, .ref q3, .int 0, .int 0, .ref q4, .ref q5, .ref q6, .ref q7, .ref q8, .ref q9])), (q2, .inl (a 0, 400, .inl (upd f1 8 (x1417 &&& 255))))] := hD
  refine lv_iinc (v := 16) (lv' := [(2, .int 16), (0, .ref q1), (1, .int x1)]) hx hb dX8_putBytes_35 hl (k := 0) rfl (by decide) (by decide) rfl (fun ls hl => ?_)
  refine lv_goto (tgt := 3) hx hb dX8_putBytes_38 (by decide) ?_
  refine lv_iload_n hx hb dX8_putBytes_3 rfl (lv_at hl 0 rfl) ?_
  refine lv_if_lt (tgt := 41) hx hb dX8_putBytes_4 (by decide) (fun c9 => absurd c9 (by decide)) (fun c9 => ?_)
  refine lv_aload_n hx hb dX8_putBytes_7 rfl (lv_at hl 1 rfl) ?_
  refine va_get (D := D) (v := .ref q2) (C := RX8) (T := TX8) (N := 11) hx hb hts iX8 hown hK.1 hP 0 rfl rfl 0 (by decide) (hts _ t_300) (fun _ h9 => h9) rfl dX8_putBytes_8 ?_
  refine lv_aload_n hx hb dX8_putBytes_11 rfl (lv_at hl 1 rfl) ?_
  refine va_get (D := D) (v := .int 9) (C := RX8) (T := TX8) (N := 11) hx hb hts iX8 hown hK.1 hP 0 rfl rfl 1 (by decide) (hts _ t_301) (fun _ h9 => h9) rfl dX8_putBytes_12 ?_
  refine lv_iload_n hx hb dX8_putBytes_15 rfl (lv_at hl 2 rfl) ?_
  refine lv_iload_n hx hb dX8_putBytes_16 rfl (lv_at hl 0 rfl) ?_
  obtain ⟨x1422, ex1422⟩ : ∃ z : Int32, ((x1 : Int32).toUInt32 >>> ((16 : Int32).toUInt32 &&& Int32.toUInt32 31)).toInt32 = z := ⟨_, rfl⟩
  refine lv_iushr (v := x1422) hx hb dX8_putBytes_17 (by exact ex1422) ?_
  refine lv_sipush (v := 255) hx hb dX8_putBytes_18 (by decide) ?_
  refine lv_iand hx hb dX8_putBytes_21 ?_
  refine afMv (runS (As := [.ref q2, .int 9, .int (x1422 &&& 255)]) (rest := []) C (c_X8_put_9 l D a q2 x1417 x1422 f1 H.size) lk_S_8_78 (okN_X8_put) ⟨Nat.le_of_ble_eq_true rfl, Nat.le_of_ble_eq_true rfl⟩ ⟨rfl, rfl⟩ (preM hK (P_of_map (wc := [(q2, .inl (a 0, 400, .inl (upd f1 8 (x1417 &&& 255))))]) hP [1] rfl) (hD.sub (ws' := [(q2, .inl (a 0, 400, .inl (upd f1 8 (x1417 &&& 255))))]) [1] (by decide) rfl)) hl.1 rfl (Nat.le_of_ble_eq_true rfl) dX8_putBytes_22 ⟨Nat.le_of_ble_eq_true rfl, Nat.le_of_ble_eq_true rfl⟩) hP hD hS hA [1] [0] (wr := [(q1, .inr (8, [.ref q2, .int 9, .ref q3, .int 0, .int 0, .ref q4, .ref q5, .ref q6, .ref q7, .ref q8, .ref q9]))]) rfl rfl (by decide) (by decide) (fun u H locs hw hP hD hS => ?_)
  obtain rfl := hw
  have hP : va_P D classes [(q1, .inr (8, [.ref q2, .int 9, .ref q3, .int 0, .int 0, .ref q4, .ref q5, .ref q6, .ref q7, .ref q8, .ref q9])), (q2, .inl (a 0, 400, .inl (upd (upd f1 8 (x1417 &&& 255)) 9 (x1422 &&& 255))))] H := hP
  have hD : va_D A [(q1, .inr (8, [.ref q2, .int 9, .ref q3, .int 0, .int 0, .ref q4, .ref q5, .ref q6, .ref q7, .ref q8, .ref q9])), (q2, .inl (a 0, 400, .inl (upd (upd f1 8 (x1417 &&& 255)) 9 (x1422 &&& 255))))] := hD
  refine lv_aload_n hx hb dX8_putBytes_25 rfl (lv_at hl 1 rfl) ?_
  refine lv_dup hx hb dX8_putBytes_26 rfl ?_
  refine va_get (D := D) (v := .int 9) (C := RX8) (T := TX8) (N := 11) hx hb hts iX8 hown hK.1 hP 0 rfl rfl 1 (by decide) (hts _ t_301) (fun _ h9 => h9) rfl dX8_putBytes_27 ?_
  refine lv_iconst (v := 1) hx hb dX8_putBytes_30 (by decide) ?_
  refine lv_iadd hx hb dX8_putBytes_31 ?_
  refine lv_topi (fun x1426 ex1426 => ?_)
  obtain rfl : x1426 = 10 := ex1426.trans (by decide)
  refine va_put (D := D) (v := .int 10) (C := RX8) (T := TX8) (N := 11) hx hb hts iX8 tyX8 tyX8_ok nmX8 hown hK.1 hP hD hS 0 rfl rfl 1 (by decide) (hts _ t_301) (fun _ h9 => h9) rfl (tyX8_ok 1 (by decide)) rfl rfl (Nat.le_of_ble_eq_true rfl) dX8_putBytes_32 (fun H locs hP hD hS => ?_)
  have hP : va_P D classes [(q1, .inr (8, [.ref q2, .int 10, .ref q3, .int 0, .int 0, .ref q4, .ref q5, .ref q6, .ref q7, .ref q8, .ref q9])), (q2, .inl (a 0, 400, .inl (upd (upd f1 8 (x1417 &&& 255)) 9 (x1422 &&& 255))))] H := hP
  have hD : va_D A [(q1, .inr (8, [.ref q2, .int 10, .ref q3, .int 0, .int 0, .ref q4, .ref q5, .ref q6, .ref q7, .ref q8, .ref q9])), (q2, .inl (a 0, 400, .inl (upd (upd f1 8 (x1417 &&& 255)) 9 (x1422 &&& 255))))] := hD
  refine lv_iinc (v := 8) (lv' := [(2, .int 8), (0, .ref q1), (1, .int x1)]) hx hb dX8_putBytes_35 hl (k := 0) rfl (by decide) (by decide) rfl (fun ls hl => ?_)
  refine lv_goto (tgt := 3) hx hb dX8_putBytes_38 (by decide) ?_
  refine lv_iload_n hx hb dX8_putBytes_3 rfl (lv_at hl 0 rfl) ?_
  refine lv_if_lt (tgt := 41) hx hb dX8_putBytes_4 (by decide) (fun c9 => absurd c9 (by decide)) (fun c9 => ?_)
  refine lv_aload_n hx hb dX8_putBytes_7 rfl (lv_at hl 1 rfl) ?_
  refine va_get (D := D) (v := .ref q2) (C := RX8) (T := TX8) (N := 11) hx hb hts iX8 hown hK.1 hP 0 rfl rfl 0 (by decide) (hts _ t_300) (fun _ h9 => h9) rfl dX8_putBytes_8 ?_
  refine lv_aload_n hx hb dX8_putBytes_11 rfl (lv_at hl 1 rfl) ?_
  refine va_get (D := D) (v := .int 10) (C := RX8) (T := TX8) (N := 11) hx hb hts iX8 hown hK.1 hP 0 rfl rfl 1 (by decide) (hts _ t_301) (fun _ h9 => h9) rfl dX8_putBytes_12 ?_
  refine lv_iload_n hx hb dX8_putBytes_15 rfl (lv_at hl 2 rfl) ?_
  refine lv_iload_n hx hb dX8_putBytes_16 rfl (lv_at hl 0 rfl) ?_
  obtain ⟨x1427, ex1427⟩ : ∃ z : Int32, ((x1 : Int32).toUInt32 >>> ((8 : Int32).toUInt32 &&& Int32.toUInt32 31)).toInt32 = z := ⟨_, rfl⟩
  refine lv_iushr (v := x1427) hx hb dX8_putBytes_17 (by exact ex1427) ?_
  refine lv_sipush (v := 255) hx hb dX8_putBytes_18 (by decide) ?_
  refine lv_iand hx hb dX8_putBytes_21 ?_
  refine afMv (runS (As := [.ref q2, .int 10, .int (x1427 &&& 255)]) (rest := []) C (c_X8_put_10 l D a q2 x1417 x1422 x1427 f1 H.size) lk_S_8_78 (okN_X8_put) ⟨Nat.le_of_ble_eq_true rfl, Nat.le_of_ble_eq_true rfl⟩ ⟨rfl, rfl⟩ (preM hK (P_of_map (wc := [(q2, .inl (a 0, 400, .inl (upd (upd f1 8 (x1417 &&& 255)) 9 (x1422 &&& 255))))]) hP [1] rfl) (hD.sub (ws' := [(q2, .inl (a 0, 400, .inl (upd (upd f1 8 (x1417 &&& 255)) 9 (x1422 &&& 255))))]) [1] (by decide) rfl)) hl.1 rfl (Nat.le_of_ble_eq_true rfl) dX8_putBytes_22 ⟨Nat.le_of_ble_eq_true rfl, Nat.le_of_ble_eq_true rfl⟩) hP hD hS hA [1] [0] (wr := [(q1, .inr (8, [.ref q2, .int 10, .ref q3, .int 0, .int 0, .ref q4, .ref q5, .ref q6, .ref q7, .ref q8, .ref q9]))]) rfl rfl (by decide) (by decide) (fun u H locs hw hP hD hS => ?_)
  obtain rfl := hw
  have hP : va_P D classes [(q1, .inr (8, [.ref q2, .int 10, .ref q3, .int 0, .int 0, .ref q4, .ref q5, .ref q6, .ref q7, .ref q8, .ref q9])), (q2, .inl (a 0, 400, .inl (upd (upd (upd f1 8 (x1417 &&& 255)) 9 (x1422 &&& 255)) 10 (x1427 &&& 255))))] H := hP
  have hD : va_D A [(q1, .inr (8, [.ref q2, .int 10, .ref q3, .int 0, .int 0, .ref q4, .ref q5, .ref q6, .ref q7, .ref q8, .ref q9])), (q2, .inl (a 0, 400, .inl (upd (upd (upd f1 8 (x1417 &&& 255)) 9 (x1422 &&& 255)) 10 (x1427 &&& 255))))] := hD
  refine lv_aload_n hx hb dX8_putBytes_25 rfl (lv_at hl 1 rfl) ?_
  refine lv_dup hx hb dX8_putBytes_26 rfl ?_
  refine va_get (D := D) (v := .int 10) (C := RX8) (T := TX8) (N := 11) hx hb hts iX8 hown hK.1 hP 0 rfl rfl 1 (by decide) (hts _ t_301) (fun _ h9 => h9) rfl dX8_putBytes_27 ?_
  refine lv_iconst (v := 1) hx hb dX8_putBytes_30 (by decide) ?_
  refine lv_iadd hx hb dX8_putBytes_31 ?_
  refine lv_topi (fun x1431 ex1431 => ?_)
  obtain rfl : x1431 = 11 := ex1431.trans (by decide)
  refine va_put (D := D) (v := .int 11) (C := RX8) (T := TX8) (N := 11) hx hb hts iX8 tyX8 tyX8_ok nmX8 hown hK.1 hP hD hS 0 rfl rfl 1 (by decide) (hts _ t_301) (fun _ h9 => h9) rfl (tyX8_ok 1 (by decide)) rfl rfl (Nat.le_of_ble_eq_true rfl) dX8_putBytes_32 (fun H locs hP hD hS => ?_)
  have hP : va_P D classes [(q1, .inr (8, [.ref q2, .int 11, .ref q3, .int 0, .int 0, .ref q4, .ref q5, .ref q6, .ref q7, .ref q8, .ref q9])), (q2, .inl (a 0, 400, .inl (upd (upd (upd f1 8 (x1417 &&& 255)) 9 (x1422 &&& 255)) 10 (x1427 &&& 255))))] H := hP
  have hD : va_D A [(q1, .inr (8, [.ref q2, .int 11, .ref q3, .int 0, .int 0, .ref q4, .ref q5, .ref q6, .ref q7, .ref q8, .ref q9])), (q2, .inl (a 0, 400, .inl (upd (upd (upd f1 8 (x1417 &&& 255)) 9 (x1422 &&& 255)) 10 (x1427 &&& 255))))] := hD
  refine lv_iinc (v := 0) (lv' := [(2, .int 0), (0, .ref q1), (1, .int x1)]) hx hb dX8_putBytes_35 hl (k := 0) rfl (by decide) (by decide) rfl (fun ls hl => ?_)
  refine lv_goto (tgt := 3) hx hb dX8_putBytes_38 (by decide) ?_
  refine lv_iload_n hx hb dX8_putBytes_3 rfl (lv_at hl 0 rfl) ?_
  refine lv_if_lt (tgt := 41) hx hb dX8_putBytes_4 (by decide) (fun c9 => absurd c9 (by decide)) (fun c9 => ?_)
  refine lv_aload_n hx hb dX8_putBytes_7 rfl (lv_at hl 1 rfl) ?_
  refine va_get (D := D) (v := .ref q2) (C := RX8) (T := TX8) (N := 11) hx hb hts iX8 hown hK.1 hP 0 rfl rfl 0 (by decide) (hts _ t_300) (fun _ h9 => h9) rfl dX8_putBytes_8 ?_
  refine lv_aload_n hx hb dX8_putBytes_11 rfl (lv_at hl 1 rfl) ?_
  refine va_get (D := D) (v := .int 11) (C := RX8) (T := TX8) (N := 11) hx hb hts iX8 hown hK.1 hP 0 rfl rfl 1 (by decide) (hts _ t_301) (fun _ h9 => h9) rfl dX8_putBytes_12 ?_
  refine lv_iload_n hx hb dX8_putBytes_15 rfl (lv_at hl 2 rfl) ?_
  refine lv_iload_n hx hb dX8_putBytes_16 rfl (lv_at hl 0 rfl) ?_
  obtain ⟨x1432, ex1432⟩ : ∃ z : Int32, ((x1 : Int32).toUInt32 >>> ((0 : Int32).toUInt32 &&& Int32.toUInt32 31)).toInt32 = z := ⟨_, rfl⟩
  refine lv_iushr (v := x1432) hx hb dX8_putBytes_17 (by exact ex1432) ?_
  refine lv_sipush (v := 255) hx hb dX8_putBytes_18 (by decide) ?_
  refine lv_iand hx hb dX8_putBytes_21 ?_
  refine afMv (runS (As := [.ref q2, .int 11, .int (x1432 &&& 255)]) (rest := []) C (c_X8_put_11 l D a q2 x1417 x1422 x1427 x1432 f1 H.size) lk_S_8_78 (okN_X8_put) ⟨Nat.le_of_ble_eq_true rfl, Nat.le_of_ble_eq_true rfl⟩ ⟨rfl, rfl⟩ (preM hK (P_of_map (wc := [(q2, .inl (a 0, 400, .inl (upd (upd (upd f1 8 (x1417 &&& 255)) 9 (x1422 &&& 255)) 10 (x1427 &&& 255))))]) hP [1] rfl) (hD.sub (ws' := [(q2, .inl (a 0, 400, .inl (upd (upd (upd f1 8 (x1417 &&& 255)) 9 (x1422 &&& 255)) 10 (x1427 &&& 255))))]) [1] (by decide) rfl)) hl.1 rfl (Nat.le_of_ble_eq_true rfl) dX8_putBytes_22 ⟨Nat.le_of_ble_eq_true rfl, Nat.le_of_ble_eq_true rfl⟩) hP hD hS hA [1] [0] (wr := [(q1, .inr (8, [.ref q2, .int 11, .ref q3, .int 0, .int 0, .ref q4, .ref q5, .ref q6, .ref q7, .ref q8, .ref q9]))]) rfl rfl (by decide) (by decide) (fun u H locs hw hP hD hS => ?_)
  obtain rfl := hw
  have hP : va_P D classes [(q1, .inr (8, [.ref q2, .int 11, .ref q3, .int 0, .int 0, .ref q4, .ref q5, .ref q6, .ref q7, .ref q8, .ref q9])), (q2, .inl (a 0, 400, .inl (upd (upd (upd (upd f1 8 (x1417 &&& 255)) 9 (x1422 &&& 255)) 10 (x1427 &&& 255)) 11 (x1432 &&& 255))))] H := hP
  have hD : va_D A [(q1, .inr (8, [.ref q2, .int 11, .ref q3, .int 0, .int 0, .ref q4, .ref q5, .ref q6, .ref q7, .ref q8, .ref q9])), (q2, .inl (a 0, 400, .inl (upd (upd (upd (upd f1 8 (x1417 &&& 255)) 9 (x1422 &&& 255)) 10 (x1427 &&& 255)) 11 (x1432 &&& 255))))] := hD
  refine lv_aload_n hx hb dX8_putBytes_25 rfl (lv_at hl 1 rfl) ?_
  refine lv_dup hx hb dX8_putBytes_26 rfl ?_
  refine va_get (D := D) (v := .int 11) (C := RX8) (T := TX8) (N := 11) hx hb hts iX8 hown hK.1 hP 0 rfl rfl 1 (by decide) (hts _ t_301) (fun _ h9 => h9) rfl dX8_putBytes_27 ?_
  refine lv_iconst (v := 1) hx hb dX8_putBytes_30 (by decide) ?_
  refine lv_iadd hx hb dX8_putBytes_31 ?_
  refine lv_topi (fun x1436 ex1436 => ?_)
  obtain rfl : x1436 = 12 := ex1436.trans (by decide)
  refine va_put (D := D) (v := .int 12) (C := RX8) (T := TX8) (N := 11) hx hb hts iX8 tyX8 tyX8_ok nmX8 hown hK.1 hP hD hS 0 rfl rfl 1 (by decide) (hts _ t_301) (fun _ h9 => h9) rfl (tyX8_ok 1 (by decide)) rfl rfl (Nat.le_of_ble_eq_true rfl) dX8_putBytes_32 (fun H locs hP hD hS => ?_)
  have hP : va_P D classes [(q1, .inr (8, [.ref q2, .int 12, .ref q3, .int 0, .int 0, .ref q4, .ref q5, .ref q6, .ref q7, .ref q8, .ref q9])), (q2, .inl (a 0, 400, .inl (upd (upd (upd (upd f1 8 (x1417 &&& 255)) 9 (x1422 &&& 255)) 10 (x1427 &&& 255)) 11 (x1432 &&& 255))))] H := hP
  have hD : va_D A [(q1, .inr (8, [.ref q2, .int 12, .ref q3, .int 0, .int 0, .ref q4, .ref q5, .ref q6, .ref q7, .ref q8, .ref q9])), (q2, .inl (a 0, 400, .inl (upd (upd (upd (upd f1 8 (x1417 &&& 255)) 9 (x1422 &&& 255)) 10 (x1427 &&& 255)) 11 (x1432 &&& 255))))] := hD
  refine lv_iinc (v := (-8)) (lv' := [(2, .int (-8)), (0, .ref q1), (1, .int x1)]) hx hb dX8_putBytes_35 hl (k := 0) rfl (by decide) (by decide) rfl (fun ls hl => ?_)
  refine lv_goto (tgt := 3) hx hb dX8_putBytes_38 (by decide) ?_
  refine lv_iload_n hx hb dX8_putBytes_3 rfl (lv_at hl 0 rfl) ?_
  refine lv_if_lt (tgt := 41) hx hb dX8_putBytes_4 (by decide) (fun c9 => ?_) (fun c9 => absurd (by decide) c9)
  exact retMv C rfl (0, [], [], [], [(upd (upd (upd (upd f1 8 (x1417 &&& 255)) 9 (x1422 &&& 255)) 10 (x1427 &&& 255)) 11 (x1432 &&& 255))], []) ⟨(upd (upd (upd (upd f1 8 (x1417 &&& 255)) 9 (x1422 &&& 255)) 10 (x1427 &&& 255)) 11 (x1432 &&& 255)), rfl⟩ hP hD hS (Nat.le_of_ble_eq_true rfl) (Nat.le_of_ble_eq_true rfl) dX8_putBytes_41

set_option maxHeartbeats 4000000 in
set_option maxRecDepth 100000 in
theorem c_X8_put_12 (l : Launch) (D : va_G) (a : Nat → ClassId) (q1 : Nat) (x1 : Int32) (f1 : Nat → Int32) (sz : Nat) : CMv (S := SS) l MX8_put 0 0 0 0 D a [.ref q1, .int 12, .int (x1 &&& 255)] [(q1, .inl (a 0, 400, .inl f1))] sz (fun u => (u = (0, [], [], [], [], []))) (fun u => pk [[(q1, .inl (a 0, 400, .inl (upd f1 12 (x1 &&& 255))))]] u.1) := by
  refine entMv (by decide) (Nat.le_of_ble_eq_true rfl) ?_
  intro p e s m below meth c C hK A hA hP hD ls hl
  obtain ⟨hx, hb, hml, hown, hts, hr, hlocks, hnm⟩ := id C
  have hb : c.code = cX8_put := hb
  have hown : s.vm.findClass RX8 = some m.cls := hown
  have hS : va_S A s.heap s.heap [] := va_S.rf
  have hl : lv_has ls 3 [(0, .ref q1), (1, .int 12), (2, .int (x1 &&& 255))] := hl
  refine lv_iload_n hx hb dX8_put_0 rfl (lv_at hl 1 rfl) ?_
  refine lv_if_lt (tgt := 14) hx hb dX8_put_1 (by decide) (fun c9 => absurd c9 (by decide)) (fun c9 => ?_)
  refine lv_iload_n hx hb dX8_put_4 rfl (lv_at hl 1 rfl) ?_
  refine lv_aload_n hx hb dX8_put_5 rfl (lv_at hl 0 rfl) ?_
  refine va_alen (v := 400) hx hb hK.1 hP 0 0 rfl rfl rfl dX8_put_6 ?_
  refine lv_icmp_ge (tgt := 14) hx hb dX8_put_7 (by decide) (fun c9 => absurd c9 (by decide)) (fun c9 => ?_)
  refine lv_aload_n hx hb dX8_put_10 rfl (lv_at hl 0 rfl) ?_
  refine lv_iload_n hx hb dX8_put_11 rfl (lv_at hl 1 rfl) ?_
  refine lv_iload_n hx hb dX8_put_12 rfl (lv_at hl 2 rfl) ?_
  refine ast_i hx hb hK.1 hP hD hS 0 0 rfl rfl 12 (ix_lit (by decide)) dX8_put_13 (fun H locs hP hD hS => ?_)
  have hP : va_P D classes [(q1, .inl (a 0, 400, .inl (upd f1 12 (x1 &&& 255))))] H := hP
  have hD : va_D A [(q1, .inl (a 0, 400, .inl (upd f1 12 (x1 &&& 255))))] := hD
  exact retMv C rfl (0, [], [], [], [], []) rfl hP hD hS (Nat.le_of_ble_eq_true rfl) (Nat.le_of_ble_eq_true rfl) dX8_put_14

set_option maxHeartbeats 4000000 in
set_option maxRecDepth 100000 in
theorem c_X8_put_13 (l : Launch) (D : va_G) (a : Nat → ClassId) (q1 : Nat) (x2 x1 : Int32) (f1 : Nat → Int32) (sz : Nat) : CMv (S := SS) l MX8_put 0 0 0 0 D a [.ref q1, .int 13, .int (x1 &&& 255)] [(q1, .inl (a 0, 400, .inl (upd f1 12 (x2 &&& 255))))] sz (fun u => (u = (0, [], [], [], [], []))) (fun u => pk [[(q1, .inl (a 0, 400, .inl (upd (upd f1 12 (x2 &&& 255)) 13 (x1 &&& 255))))]] u.1) := by
  refine entMv (by decide) (Nat.le_of_ble_eq_true rfl) ?_
  intro p e s m below meth c C hK A hA hP hD ls hl
  obtain ⟨hx, hb, hml, hown, hts, hr, hlocks, hnm⟩ := id C
  have hb : c.code = cX8_put := hb
  have hown : s.vm.findClass RX8 = some m.cls := hown
  have hS : va_S A s.heap s.heap [] := va_S.rf
  have hl : lv_has ls 3 [(0, .ref q1), (1, .int 13), (2, .int (x1 &&& 255))] := hl
  refine lv_iload_n hx hb dX8_put_0 rfl (lv_at hl 1 rfl) ?_
  refine lv_if_lt (tgt := 14) hx hb dX8_put_1 (by decide) (fun c9 => absurd c9 (by decide)) (fun c9 => ?_)
  refine lv_iload_n hx hb dX8_put_4 rfl (lv_at hl 1 rfl) ?_
  refine lv_aload_n hx hb dX8_put_5 rfl (lv_at hl 0 rfl) ?_
  refine va_alen (v := 400) hx hb hK.1 hP 0 0 rfl rfl rfl dX8_put_6 ?_
  refine lv_icmp_ge (tgt := 14) hx hb dX8_put_7 (by decide) (fun c9 => absurd c9 (by decide)) (fun c9 => ?_)
  refine lv_aload_n hx hb dX8_put_10 rfl (lv_at hl 0 rfl) ?_
  refine lv_iload_n hx hb dX8_put_11 rfl (lv_at hl 1 rfl) ?_
  refine lv_iload_n hx hb dX8_put_12 rfl (lv_at hl 2 rfl) ?_
  refine ast_i hx hb hK.1 hP hD hS 0 0 rfl rfl 13 (ix_lit (by decide)) dX8_put_13 (fun H locs hP hD hS => ?_)
  have hP : va_P D classes [(q1, .inl (a 0, 400, .inl (upd (upd f1 12 (x2 &&& 255)) 13 (x1 &&& 255))))] H := hP
  have hD : va_D A [(q1, .inl (a 0, 400, .inl (upd (upd f1 12 (x2 &&& 255)) 13 (x1 &&& 255))))] := hD
  exact retMv C rfl (0, [], [], [], [], []) rfl hP hD hS (Nat.le_of_ble_eq_true rfl) (Nat.le_of_ble_eq_true rfl) dX8_put_14

set_option maxHeartbeats 4000000 in
set_option maxRecDepth 100000 in
theorem c_X8_put_14 (l : Launch) (D : va_G) (a : Nat → ClassId) (q1 : Nat) (x2 x3 x1 : Int32) (f1 : Nat → Int32) (sz : Nat) : CMv (S := SS) l MX8_put 0 0 0 0 D a [.ref q1, .int 14, .int (x1 &&& 255)] [(q1, .inl (a 0, 400, .inl (upd (upd f1 12 (x2 &&& 255)) 13 (x3 &&& 255))))] sz (fun u => (u = (0, [], [], [], [], []))) (fun u => pk [[(q1, .inl (a 0, 400, .inl (upd (upd (upd f1 12 (x2 &&& 255)) 13 (x3 &&& 255)) 14 (x1 &&& 255))))]] u.1) := by
  refine entMv (by decide) (Nat.le_of_ble_eq_true rfl) ?_
  intro p e s m below meth c C hK A hA hP hD ls hl
  obtain ⟨hx, hb, hml, hown, hts, hr, hlocks, hnm⟩ := id C
  have hb : c.code = cX8_put := hb
  have hown : s.vm.findClass RX8 = some m.cls := hown
  have hS : va_S A s.heap s.heap [] := va_S.rf
  have hl : lv_has ls 3 [(0, .ref q1), (1, .int 14), (2, .int (x1 &&& 255))] := hl
  refine lv_iload_n hx hb dX8_put_0 rfl (lv_at hl 1 rfl) ?_
  refine lv_if_lt (tgt := 14) hx hb dX8_put_1 (by decide) (fun c9 => absurd c9 (by decide)) (fun c9 => ?_)
  refine lv_iload_n hx hb dX8_put_4 rfl (lv_at hl 1 rfl) ?_
  refine lv_aload_n hx hb dX8_put_5 rfl (lv_at hl 0 rfl) ?_
  refine va_alen (v := 400) hx hb hK.1 hP 0 0 rfl rfl rfl dX8_put_6 ?_
  refine lv_icmp_ge (tgt := 14) hx hb dX8_put_7 (by decide) (fun c9 => absurd c9 (by decide)) (fun c9 => ?_)
  refine lv_aload_n hx hb dX8_put_10 rfl (lv_at hl 0 rfl) ?_
  refine lv_iload_n hx hb dX8_put_11 rfl (lv_at hl 1 rfl) ?_
  refine lv_iload_n hx hb dX8_put_12 rfl (lv_at hl 2 rfl) ?_
  refine ast_i hx hb hK.1 hP hD hS 0 0 rfl rfl 14 (ix_lit (by decide)) dX8_put_13 (fun H locs hP hD hS => ?_)
  have hP : va_P D classes [(q1, .inl (a 0, 400, .inl (upd (upd (upd f1 12 (x2 &&& 255)) 13 (x3 &&& 255)) 14 (x1 &&& 255))))] H := hP
  have hD : va_D A [(q1, .inl (a 0, 400, .inl (upd (upd (upd f1 12 (x2 &&& 255)) 13 (x3 &&& 255)) 14 (x1 &&& 255))))] := hD
  exact retMv C rfl (0, [], [], [], [], []) rfl hP hD hS (Nat.le_of_ble_eq_true rfl) (Nat.le_of_ble_eq_true rfl) dX8_put_14

set_option maxHeartbeats 4000000 in
set_option maxRecDepth 100000 in
theorem c_X8_put_15 (l : Launch) (D : va_G) (a : Nat → ClassId) (q1 : Nat) (x2 x3 x4 x1 : Int32) (f1 : Nat → Int32) (sz : Nat) : CMv (S := SS) l MX8_put 0 0 0 0 D a [.ref q1, .int 15, .int (x1 &&& 255)] [(q1, .inl (a 0, 400, .inl (upd (upd (upd f1 12 (x2 &&& 255)) 13 (x3 &&& 255)) 14 (x4 &&& 255))))] sz (fun u => (u = (0, [], [], [], [], []))) (fun u => pk [[(q1, .inl (a 0, 400, .inl (upd (upd (upd (upd f1 12 (x2 &&& 255)) 13 (x3 &&& 255)) 14 (x4 &&& 255)) 15 (x1 &&& 255))))]] u.1) := by
  refine entMv (by decide) (Nat.le_of_ble_eq_true rfl) ?_
  intro p e s m below meth c C hK A hA hP hD ls hl
  obtain ⟨hx, hb, hml, hown, hts, hr, hlocks, hnm⟩ := id C
  have hb : c.code = cX8_put := hb
  have hown : s.vm.findClass RX8 = some m.cls := hown
  have hS : va_S A s.heap s.heap [] := va_S.rf
  have hl : lv_has ls 3 [(0, .ref q1), (1, .int 15), (2, .int (x1 &&& 255))] := hl
  refine lv_iload_n hx hb dX8_put_0 rfl (lv_at hl 1 rfl) ?_
  refine lv_if_lt (tgt := 14) hx hb dX8_put_1 (by decide) (fun c9 => absurd c9 (by decide)) (fun c9 => ?_)
  refine lv_iload_n hx hb dX8_put_4 rfl (lv_at hl 1 rfl) ?_
  refine lv_aload_n hx hb dX8_put_5 rfl (lv_at hl 0 rfl) ?_
  refine va_alen (v := 400) hx hb hK.1 hP 0 0 rfl rfl rfl dX8_put_6 ?_
  refine lv_icmp_ge (tgt := 14) hx hb dX8_put_7 (by decide) (fun c9 => absurd c9 (by decide)) (fun c9 => ?_)
  refine lv_aload_n hx hb dX8_put_10 rfl (lv_at hl 0 rfl) ?_
  refine lv_iload_n hx hb dX8_put_11 rfl (lv_at hl 1 rfl) ?_
  refine lv_iload_n hx hb dX8_put_12 rfl (lv_at hl 2 rfl) ?_
  refine ast_i hx hb hK.1 hP hD hS 0 0 rfl rfl 15 (ix_lit (by decide)) dX8_put_13 (fun H locs hP hD hS => ?_)
  have hP : va_P D classes [(q1, .inl (a 0, 400, .inl (upd (upd (upd (upd f1 12 (x2 &&& 255)) 13 (x3 &&& 255)) 14 (x4 &&& 255)) 15 (x1 &&& 255))))] H := hP
  have hD : va_D A [(q1, .inl (a 0, 400, .inl (upd (upd (upd (upd f1 12 (x2 &&& 255)) 13 (x3 &&& 255)) 14 (x4 &&& 255)) 15 (x1 &&& 255))))] := hD
  exact retMv C rfl (0, [], [], [], [], []) rfl hP hD hS (Nat.le_of_ble_eq_true rfl) (Nat.le_of_ble_eq_true rfl) dX8_put_14

set_option maxHeartbeats 4000000 in
set_option maxRecDepth 100000 in
theorem c_X8_putBytes_3 (l : Launch) (D : va_G) (a : Nat → ClassId) (q1 q2 q3 q4 q5 q6 q7 q8 q9 : Nat) (x1 : Int32) (f1 : Nat → Int32) (sz : Nat) : CMv (S := SS) l MX8_putBytes 1 22 0 0 D a [.ref q1, .int x1] [(q1, .inr (8, [.ref q2, .int 12, .ref q3, .int 0, .int 0, .ref q4, .ref q5, .ref q6, .ref q7, .ref q8, .ref q9])), (q2, .inl (a 0, 400, .inl f1))] sz (fun u => (∃ f1482 : Nat → Int32, u = (0, [], [], [], [f1482], []))) (fun u => pk [[(q1, .inr (8, [.ref q2, .int 16, .ref q3, .int 0, .int 0, .ref q4, .ref q5, .ref q6, .ref q7, .ref q8, .ref q9])), (q2, .inl (a 0, 400, .inl (u.2.2.2.2.1.getD 0 (fun _ => 0))))]] u.1) := by
  refine entMv (by decide) (Nat.le_of_ble_eq_true rfl) ?_
  intro p e s m below meth c C hK A hA hP hD ls hl
  obtain ⟨hx, hb, hml, hown, hts, hr, hlocks, hnm⟩ := id C
  have hb : c.code = cX8_putBytes := hb
  have hown : s.vm.findClass RX8 = some m.cls := hown
  have hS : va_S A s.heap s.heap [] := va_S.rf
  have hl : lv_has ls 3 [(0, .ref q1), (1, .int x1)] := hl
  refine lv_bipush (v := 24) hx hb dX8_putBytes_0 (by decide) ?_
  refine lv_istore_n (lv' := [(2, .int 24), (0, .ref q1), (1, .int x1)]) hx hb dX8_putBytes_2 rfl hl (by decide) rfl (fun ls hl => ?_)
  refine lv_iload_n hx hb dX8_putBytes_3 rfl (lv_at hl 0 rfl) ?_
  refine lv_if_lt (tgt := 41) hx hb dX8_putBytes_4 (by decide) (fun c9 => absurd c9 (by decide)) (fun c9 => ?_)
  refine lv_aload_n hx hb dX8_putBytes_7 rfl (lv_at hl 1 rfl) ?_
  refine va_get (D := D) (v := .ref q2) (C := RX8) (T := TX8) (N := 11) hx hb hts iX8 hown hK.1 hP 0 rfl rfl 0 (by decide) (hts _ t_300) (fun _ h9 => h9) rfl dX8_putBytes_8 ?_
  refine lv_aload_n hx hb dX8_putBytes_11 rfl (lv_at hl 1 rfl) ?_
  refine va_get (D := D) (v := .int 12) (C := RX8) (T := TX8) (N := 11) hx hb hts iX8 hown hK.1 hP 0 rfl rfl 1 (by decide) (hts _ t_301) (fun _ h9 => h9) rfl dX8_putBytes_12 ?_
  refine lv_iload_n hx hb dX8_putBytes_15 rfl (lv_at hl 2 rfl) ?_
  refine lv_iload_n hx hb dX8_putBytes_16 rfl (lv_at hl 0 rfl) ?_
  obtain ⟨x1462, ex1462⟩ : ∃ z : Int32, ((x1 : Int32).toUInt32 >>> ((24 : Int32).toUInt32 &&& Int32.toUInt32 31)).toInt32 = z := ⟨_, rfl⟩
  refine lv_iushr (v := x1462) hx hb dX8_putBytes_17 (by exact ex1462) ?_
  refine lv_sipush (v := 255) hx hb dX8_putBytes_18 (by decide) ?_
  refine lv_iand hx hb dX8_putBytes_21 ?_
  refine afMv (runS (As := [.ref q2, .int 12, .int (x1462 &&& 255)]) (rest := []) C (c_X8_put_12 l D a q2 x1462 f1 s.heap.size) lk_S_8_78 (okN_X8_put) ⟨Nat.le_of_ble_eq_true rfl, Nat.le_of_ble_eq_true rfl⟩ ⟨rfl, rfl⟩ (preM hK (P_of_map (wc := [(q2, .inl (a 0, 400, .inl f1))]) hP [1] rfl) (hD.sub (ws' := [(q2, .inl (a 0, 400, .inl f1))]) [1] (by decide) rfl)) hl.1 rfl (Nat.le_of_ble_eq_true rfl) dX8_putBytes_22 ⟨Nat.le_of_ble_eq_true rfl, Nat.le_of_ble_eq_true rfl⟩) hP hD hS hA [1] [0] (wr := [(q1, .inr (8, [.ref q2, .int 12, .ref q3, .int 0, .int 0, .ref q4, .ref q5, .ref q6, .ref q7, .ref q8, .ref q9]))]) rfl rfl (by decide) (by decide) (fun u H locs hw hP hD hS => ?_)
  obtain rfl := hw
  have hP : va_P D classes [(q1, .inr (8, [.ref q2, .int 12, .ref q3, .int 0, .int 0, .ref q4, .ref q5, .ref q6, .ref q7, .ref q8, .ref q9])), (q2, .inl (a 0, 400, .inl (upd f1 12 (x1462 &&& 255))))] H := hP
  have hD : va_D A [(q1, .inr (8, [.ref q2, .int 12, .ref q3, .int 0, .int 0, .ref q4, .ref q5, .ref q6, .ref q7, .ref q8, .ref q9])), (q2, .inl (a 0, 400, .inl (upd f1 12 (x1462 &&& 255))))] := hD
  refine lv_aload_n hx hb dX8_putBytes_25 rfl (lv_at hl 1 rfl) ?_
  refine lv_dup hx hb dX8_putBytes_26 rfl ?_
  refine va_get (D := D) (v := .int 12) (C := RX8) (T := TX8) (N := 11) hx hb hts iX8 hown hK.1 hP 0 rfl rfl 1 (by decide) (hts _ t_301) (fun _ h9 => h9) rfl dX8_putBytes_27 ?_
  refine lv_iconst (v := 1) hx hb dX8_putBytes_30 (by decide) ?_
  refine lv_iadd hx hb dX8_putBytes_31 ?_
  refine lv_topi (fun x1466 ex1466 => ?_)
  obtain rfl : x1466 = 13 := ex1466.trans (by decide)
  refine va_put (D := D) (v := .int 13) (C := RX8) (T := TX8) (N := 11) hx hb hts iX8 tyX8 tyX8_ok nmX8 hown hK.1 hP hD hS 0 rfl rfl 1 (by decide) (hts _ t_301) (fun _ h9 => h9) rfl (tyX8_ok 1 (by decide)) rfl rfl (Nat.le_of_ble_eq_true rfl) dX8_putBytes_32 (fun H locs hP hD hS => ?_)
  have hP : va_P D classes [(q1, .inr (8, [.ref q2, .int 13, .ref q3, .int 0, .int 0, .ref q4, .ref q5, .ref q6, .ref q7, .ref q8, .ref q9])), (q2, .inl (a 0, 400, .inl (upd f1 12 (x1462 &&& 255))))] H := hP
  have hD : va_D A [(q1, .inr (8, [.ref q2, .int 13, .ref q3, .int 0, .int 0, .ref q4, .ref q5, .ref q6, .ref q7, .ref q8, .ref q9])), (q2, .inl (a 0, 400, .inl (upd f1 12 (x1462 &&& 255))))] := hD
  refine lv_iinc (v := 16) (lv' := [(2, .int 16), (0, .ref q1), (1, .int x1)]) hx hb dX8_putBytes_35 hl (k := 0) rfl (by decide) (by decide) rfl (fun ls hl => ?_)
  refine lv_goto (tgt := 3) hx hb dX8_putBytes_38 (by decide) ?_
  refine lv_iload_n hx hb dX8_putBytes_3 rfl (lv_at hl 0 rfl) ?_
  refine lv_if_lt (tgt := 41) hx hb dX8_putBytes_4 (by decide) (fun c9 => absurd c9 (by decide)) (fun c9 => ?_)
  refine lv_aload_n hx hb dX8_putBytes_7 rfl (lv_at hl 1 rfl) ?_
  refine va_get (D := D) (v := .ref q2) (C := RX8) (T := TX8) (N := 11) hx hb hts iX8 hown hK.1 hP 0 rfl rfl 0 (by decide) (hts _ t_300) (fun _ h9 => h9) rfl dX8_putBytes_8 ?_
  refine lv_aload_n hx hb dX8_putBytes_11 rfl (lv_at hl 1 rfl) ?_
  refine va_get (D := D) (v := .int 13) (C := RX8) (T := TX8) (N := 11) hx hb hts iX8 hown hK.1 hP 0 rfl rfl 1 (by decide) (hts _ t_301) (fun _ h9 => h9) rfl dX8_putBytes_12 ?_
  refine lv_iload_n hx hb dX8_putBytes_15 rfl (lv_at hl 2 rfl) ?_
  refine lv_iload_n hx hb dX8_putBytes_16 rfl (lv_at hl 0 rfl) ?_
  obtain ⟨x1467, ex1467⟩ : ∃ z : Int32, ((x1 : Int32).toUInt32 >>> ((16 : Int32).toUInt32 &&& Int32.toUInt32 31)).toInt32 = z := ⟨_, rfl⟩
  refine lv_iushr (v := x1467) hx hb dX8_putBytes_17 (by exact ex1467) ?_
  refine lv_sipush (v := 255) hx hb dX8_putBytes_18 (by decide) ?_
  refine lv_iand hx hb dX8_putBytes_21 ?_
  refine afMv (runS (As := [.ref q2, .int 13, .int (x1467 &&& 255)]) (rest := []) C (c_X8_put_13 l D a q2 x1462 x1467 f1 H.size) lk_S_8_78 (okN_X8_put) ⟨Nat.le_of_ble_eq_true rfl, Nat.le_of_ble_eq_true rfl⟩ ⟨rfl, rfl⟩ (preM hK (P_of_map (wc := [(q2, .inl (a 0, 400, .inl (upd f1 12 (x1462 &&& 255))))]) hP [1] rfl) (hD.sub (ws' := [(q2, .inl (a 0, 400, .inl (upd f1 12 (x1462 &&& 255))))]) [1] (by decide) rfl)) hl.1 rfl (Nat.le_of_ble_eq_true rfl) dX8_putBytes_22 ⟨Nat.le_of_ble_eq_true rfl, Nat.le_of_ble_eq_true rfl⟩) hP hD hS hA [1] [0] (wr := [(q1, .inr (8, [.ref q2, .int 13, .ref q3, .int 0, .int 0, .ref q4, .ref q5, .ref q6, .ref q7, .ref q8, .ref q9]))]) rfl rfl (by decide) (by decide) (fun u H locs hw hP hD hS => ?_)
  obtain rfl := hw
  have hP : va_P D classes [(q1, .inr (8, [.ref q2, .int 13, .ref q3, .int 0, .int 0, .ref q4, .ref q5, .ref q6, .ref q7, .ref q8, .ref q9])), (q2, .inl (a 0, 400, .inl (upd (upd f1 12 (x1462 &&& 255)) 13 (x1467 &&& 255))))] H := hP
  have hD : va_D A [(q1, .inr (8, [.ref q2, .int 13, .ref q3, .int 0, .int 0, .ref q4, .ref q5, .ref q6, .ref q7, .ref q8, .ref q9])), (q2, .inl (a 0, 400, .inl (upd (upd f1 12 (x1462 &&& 255)) 13 (x1467 &&& 255))))] := hD
  refine lv_aload_n hx hb dX8_putBytes_25 rfl (lv_at hl 1 rfl) ?_
  refine lv_dup hx hb dX8_putBytes_26 rfl ?_
  refine va_get (D := D) (v := .int 13) (C := RX8) (T := TX8) (N := 11) hx hb hts iX8 hown hK.1 hP 0 rfl rfl 1 (by decide) (hts _ t_301) (fun _ h9 => h9) rfl dX8_putBytes_27 ?_
  refine lv_iconst (v := 1) hx hb dX8_putBytes_30 (by decide) ?_
  refine lv_iadd hx hb dX8_putBytes_31 ?_
  refine lv_topi (fun x1471 ex1471 => ?_)
  obtain rfl : x1471 = 14 := ex1471.trans (by decide)
  refine va_put (D := D) (v := .int 14) (C := RX8) (T := TX8) (N := 11) hx hb hts iX8 tyX8 tyX8_ok nmX8 hown hK.1 hP hD hS 0 rfl rfl 1 (by decide) (hts _ t_301) (fun _ h9 => h9) rfl (tyX8_ok 1 (by decide)) rfl rfl (Nat.le_of_ble_eq_true rfl) dX8_putBytes_32 (fun H locs hP hD hS => ?_)
  have hP : va_P D classes [(q1, .inr (8, [.ref q2, .int 14, .ref q3, .int 0, .int 0, .ref q4, .ref q5, .ref q6, .ref q7, .ref q8, .ref q9])), (q2, .inl (a 0, 400, .inl (upd (upd f1 12 (x1462 &&& 255)) 13 (x1467 &&& 255))))] H := hP
  have hD : va_D A [(q1, .inr (8, [.ref q2, .int 14, .ref q3, .int 0, .int 0, .ref q4, .ref q5, .ref q6, .ref q7, .ref q8, .ref q9])), (q2, .inl (a 0, 400, .inl (upd (upd f1 12 (x1462 &&& 255)) 13 (x1467 &&& 255))))] := hD
  refine lv_iinc (v := 8) (lv' := [(2, .int 8), (0, .ref q1), (1, .int x1)]) hx hb dX8_putBytes_35 hl (k := 0) rfl (by decide) (by decide) rfl (fun ls hl => ?_)
  refine lv_goto (tgt := 3) hx hb dX8_putBytes_38 (by decide) ?_
  refine lv_iload_n hx hb dX8_putBytes_3 rfl (lv_at hl 0 rfl) ?_
  refine lv_if_lt (tgt := 41) hx hb dX8_putBytes_4 (by decide) (fun c9 => absurd c9 (by decide)) (fun c9 => ?_)
  refine lv_aload_n hx hb dX8_putBytes_7 rfl (lv_at hl 1 rfl) ?_
  refine va_get (D := D) (v := .ref q2) (C := RX8) (T := TX8) (N := 11) hx hb hts iX8 hown hK.1 hP 0 rfl rfl 0 (by decide) (hts _ t_300) (fun _ h9 => h9) rfl dX8_putBytes_8 ?_
  refine lv_aload_n hx hb dX8_putBytes_11 rfl (lv_at hl 1 rfl) ?_
  refine va_get (D := D) (v := .int 14) (C := RX8) (T := TX8) (N := 11) hx hb hts iX8 hown hK.1 hP 0 rfl rfl 1 (by decide) (hts _ t_301) (fun _ h9 => h9) rfl dX8_putBytes_12 ?_
  refine lv_iload_n hx hb dX8_putBytes_15 rfl (lv_at hl 2 rfl) ?_
  refine lv_iload_n hx hb dX8_putBytes_16 rfl (lv_at hl 0 rfl) ?_
  obtain ⟨x1472, ex1472⟩ : ∃ z : Int32, ((x1 : Int32).toUInt32 >>> ((8 : Int32).toUInt32 &&& Int32.toUInt32 31)).toInt32 = z := ⟨_, rfl⟩
  refine lv_iushr (v := x1472) hx hb dX8_putBytes_17 (by exact ex1472) ?_
  refine lv_sipush (v := 255) hx hb dX8_putBytes_18 (by decide) ?_
  refine lv_iand hx hb dX8_putBytes_21 ?_
  refine afMv (runS (As := [.ref q2, .int 14, .int (x1472 &&& 255)]) (rest := []) C (c_X8_put_14 l D a q2 x1462 x1467 x1472 f1 H.size) lk_S_8_78 (okN_X8_put) ⟨Nat.le_of_ble_eq_true rfl, Nat.le_of_ble_eq_true rfl⟩ ⟨rfl, rfl⟩ (preM hK (P_of_map (wc := [(q2, .inl (a 0, 400, .inl (upd (upd f1 12 (x1462 &&& 255)) 13 (x1467 &&& 255))))]) hP [1] rfl) (hD.sub (ws' := [(q2, .inl (a 0, 400, .inl (upd (upd f1 12 (x1462 &&& 255)) 13 (x1467 &&& 255))))]) [1] (by decide) rfl)) hl.1 rfl (Nat.le_of_ble_eq_true rfl) dX8_putBytes_22 ⟨Nat.le_of_ble_eq_true rfl, Nat.le_of_ble_eq_true rfl⟩) hP hD hS hA [1] [0] (wr := [(q1, .inr (8, [.ref q2, .int 14, .ref q3, .int 0, .int 0, .ref q4, .ref q5, .ref q6, .ref q7, .ref q8, .ref q9]))]) rfl rfl (by decide) (by decide) (fun u H locs hw hP hD hS => ?_)
  obtain rfl := hw
  have hP : va_P D classes [(q1, .inr (8, [.ref q2, .int 14, .ref q3, .int 0, .int 0, .ref q4, .ref q5, .ref q6, .ref q7, .ref q8, .ref q9])), (q2, .inl (a 0, 400, .inl (upd (upd (upd f1 12 (x1462 &&& 255)) 13 (x1467 &&& 255)) 14 (x1472 &&& 255))))] H := hP
  have hD : va_D A [(q1, .inr (8, [.ref q2, .int 14, .ref q3, .int 0, .int 0, .ref q4, .ref q5, .ref q6, .ref q7, .ref q8, .ref q9])), (q2, .inl (a 0, 400, .inl (upd (upd (upd f1 12 (x1462 &&& 255)) 13 (x1467 &&& 255)) 14 (x1472 &&& 255))))] := hD
  refine lv_aload_n hx hb dX8_putBytes_25 rfl (lv_at hl 1 rfl) ?_
  refine lv_dup hx hb dX8_putBytes_26 rfl ?_
  refine va_get (D := D) (v := .int 14) (C := RX8) (T := TX8) (N := 11) hx hb hts iX8 hown hK.1 hP 0 rfl rfl 1 (by decide) (hts _ t_301) (fun _ h9 => h9) rfl dX8_putBytes_27 ?_
  refine lv_iconst (v := 1) hx hb dX8_putBytes_30 (by decide) ?_
  refine lv_iadd hx hb dX8_putBytes_31 ?_
  refine lv_topi (fun x1476 ex1476 => ?_)
  obtain rfl : x1476 = 15 := ex1476.trans (by decide)
  refine va_put (D := D) (v := .int 15) (C := RX8) (T := TX8) (N := 11) hx hb hts iX8 tyX8 tyX8_ok nmX8 hown hK.1 hP hD hS 0 rfl rfl 1 (by decide) (hts _ t_301) (fun _ h9 => h9) rfl (tyX8_ok 1 (by decide)) rfl rfl (Nat.le_of_ble_eq_true rfl) dX8_putBytes_32 (fun H locs hP hD hS => ?_)
  have hP : va_P D classes [(q1, .inr (8, [.ref q2, .int 15, .ref q3, .int 0, .int 0, .ref q4, .ref q5, .ref q6, .ref q7, .ref q8, .ref q9])), (q2, .inl (a 0, 400, .inl (upd (upd (upd f1 12 (x1462 &&& 255)) 13 (x1467 &&& 255)) 14 (x1472 &&& 255))))] H := hP
  have hD : va_D A [(q1, .inr (8, [.ref q2, .int 15, .ref q3, .int 0, .int 0, .ref q4, .ref q5, .ref q6, .ref q7, .ref q8, .ref q9])), (q2, .inl (a 0, 400, .inl (upd (upd (upd f1 12 (x1462 &&& 255)) 13 (x1467 &&& 255)) 14 (x1472 &&& 255))))] := hD
  refine lv_iinc (v := 0) (lv' := [(2, .int 0), (0, .ref q1), (1, .int x1)]) hx hb dX8_putBytes_35 hl (k := 0) rfl (by decide) (by decide) rfl (fun ls hl => ?_)
  refine lv_goto (tgt := 3) hx hb dX8_putBytes_38 (by decide) ?_
  refine lv_iload_n hx hb dX8_putBytes_3 rfl (lv_at hl 0 rfl) ?_
  refine lv_if_lt (tgt := 41) hx hb dX8_putBytes_4 (by decide) (fun c9 => absurd c9 (by decide)) (fun c9 => ?_)
  refine lv_aload_n hx hb dX8_putBytes_7 rfl (lv_at hl 1 rfl) ?_
  refine va_get (D := D) (v := .ref q2) (C := RX8) (T := TX8) (N := 11) hx hb hts iX8 hown hK.1 hP 0 rfl rfl 0 (by decide) (hts _ t_300) (fun _ h9 => h9) rfl dX8_putBytes_8 ?_
  refine lv_aload_n hx hb dX8_putBytes_11 rfl (lv_at hl 1 rfl) ?_
  refine va_get (D := D) (v := .int 15) (C := RX8) (T := TX8) (N := 11) hx hb hts iX8 hown hK.1 hP 0 rfl rfl 1 (by decide) (hts _ t_301) (fun _ h9 => h9) rfl dX8_putBytes_12 ?_
  refine lv_iload_n hx hb dX8_putBytes_15 rfl (lv_at hl 2 rfl) ?_
  refine lv_iload_n hx hb dX8_putBytes_16 rfl (lv_at hl 0 rfl) ?_
  obtain ⟨x1477, ex1477⟩ : ∃ z : Int32, ((x1 : Int32).toUInt32 >>> ((0 : Int32).toUInt32 &&& Int32.toUInt32 31)).toInt32 = z := ⟨_, rfl⟩
  refine lv_iushr (v := x1477) hx hb dX8_putBytes_17 (by exact ex1477) ?_
  refine lv_sipush (v := 255) hx hb dX8_putBytes_18 (by decide) ?_
  refine lv_iand hx hb dX8_putBytes_21 ?_
  refine afMv (runS (As := [.ref q2, .int 15, .int (x1477 &&& 255)]) (rest := []) C (c_X8_put_15 l D a q2 x1462 x1467 x1472 x1477 f1 H.size) lk_S_8_78 (okN_X8_put) ⟨Nat.le_of_ble_eq_true rfl, Nat.le_of_ble_eq_true rfl⟩ ⟨rfl, rfl⟩ (preM hK (P_of_map (wc := [(q2, .inl (a 0, 400, .inl (upd (upd (upd f1 12 (x1462 &&& 255)) 13 (x1467 &&& 255)) 14 (x1472 &&& 255))))]) hP [1] rfl) (hD.sub (ws' := [(q2, .inl (a 0, 400, .inl (upd (upd (upd f1 12 (x1462 &&& 255)) 13 (x1467 &&& 255)) 14 (x1472 &&& 255))))]) [1] (by decide) rfl)) hl.1 rfl (Nat.le_of_ble_eq_true rfl) dX8_putBytes_22 ⟨Nat.le_of_ble_eq_true rfl, Nat.le_of_ble_eq_true rfl⟩) hP hD hS hA [1] [0] (wr := [(q1, .inr (8, [.ref q2, .int 15, .ref q3, .int 0, .int 0, .ref q4, .ref q5, .ref q6, .ref q7, .ref q8, .ref q9]))]) rfl rfl (by decide) (by decide) (fun u H locs hw hP hD hS => ?_)
  obtain rfl := hw
  have hP : va_P D classes [(q1, .inr (8, [.ref q2, .int 15, .ref q3, .int 0, .int 0, .ref q4, .ref q5, .ref q6, .ref q7, .ref q8, .ref q9])), (q2, .inl (a 0, 400, .inl (upd (upd (upd (upd f1 12 (x1462 &&& 255)) 13 (x1467 &&& 255)) 14 (x1472 &&& 255)) 15 (x1477 &&& 255))))] H := hP
  have hD : va_D A [(q1, .inr (8, [.ref q2, .int 15, .ref q3, .int 0, .int 0, .ref q4, .ref q5, .ref q6, .ref q7, .ref q8, .ref q9])), (q2, .inl (a 0, 400, .inl (upd (upd (upd (upd f1 12 (x1462 &&& 255)) 13 (x1467 &&& 255)) 14 (x1472 &&& 255)) 15 (x1477 &&& 255))))] := hD
  refine lv_aload_n hx hb dX8_putBytes_25 rfl (lv_at hl 1 rfl) ?_
  refine lv_dup hx hb dX8_putBytes_26 rfl ?_
  refine va_get (D := D) (v := .int 15) (C := RX8) (T := TX8) (N := 11) hx hb hts iX8 hown hK.1 hP 0 rfl rfl 1 (by decide) (hts _ t_301) (fun _ h9 => h9) rfl dX8_putBytes_27 ?_
  refine lv_iconst (v := 1) hx hb dX8_putBytes_30 (by decide) ?_
  refine lv_iadd hx hb dX8_putBytes_31 ?_
  refine lv_topi (fun x1481 ex1481 => ?_)
  obtain rfl : x1481 = 16 := ex1481.trans (by decide)
  refine va_put (D := D) (v := .int 16) (C := RX8) (T := TX8) (N := 11) hx hb hts iX8 tyX8 tyX8_ok nmX8 hown hK.1 hP hD hS 0 rfl rfl 1 (by decide) (hts _ t_301) (fun _ h9 => h9) rfl (tyX8_ok 1 (by decide)) rfl rfl (Nat.le_of_ble_eq_true rfl) dX8_putBytes_32 (fun H locs hP hD hS => ?_)
  have hP : va_P D classes [(q1, .inr (8, [.ref q2, .int 16, .ref q3, .int 0, .int 0, .ref q4, .ref q5, .ref q6, .ref q7, .ref q8, .ref q9])), (q2, .inl (a 0, 400, .inl (upd (upd (upd (upd f1 12 (x1462 &&& 255)) 13 (x1467 &&& 255)) 14 (x1472 &&& 255)) 15 (x1477 &&& 255))))] H := hP
  have hD : va_D A [(q1, .inr (8, [.ref q2, .int 16, .ref q3, .int 0, .int 0, .ref q4, .ref q5, .ref q6, .ref q7, .ref q8, .ref q9])), (q2, .inl (a 0, 400, .inl (upd (upd (upd (upd f1 12 (x1462 &&& 255)) 13 (x1467 &&& 255)) 14 (x1472 &&& 255)) 15 (x1477 &&& 255))))] := hD
  refine lv_iinc (v := (-8)) (lv' := [(2, .int (-8)), (0, .ref q1), (1, .int x1)]) hx hb dX8_putBytes_35 hl (k := 0) rfl (by decide) (by decide) rfl (fun ls hl => ?_)
  refine lv_goto (tgt := 3) hx hb dX8_putBytes_38 (by decide) ?_
  refine lv_iload_n hx hb dX8_putBytes_3 rfl (lv_at hl 0 rfl) ?_
  refine lv_if_lt (tgt := 41) hx hb dX8_putBytes_4 (by decide) (fun c9 => ?_) (fun c9 => absurd (by decide) c9)
  exact retMv C rfl (0, [], [], [], [(upd (upd (upd (upd f1 12 (x1462 &&& 255)) 13 (x1467 &&& 255)) 14 (x1472 &&& 255)) 15 (x1477 &&& 255))], []) ⟨(upd (upd (upd (upd f1 12 (x1462 &&& 255)) 13 (x1467 &&& 255)) 14 (x1472 &&& 255)) 15 (x1477 &&& 255)), rfl⟩ hP hD hS (Nat.le_of_ble_eq_true rfl) (Nat.le_of_ble_eq_true rfl) dX8_putBytes_41

set_option maxHeartbeats 4000000 in
set_option maxRecDepth 100000 in
theorem c_X8_put_16 (l : Launch) (D : va_G) (a : Nat → ClassId) (q1 : Nat) (x1 : Int32) (f1 : Nat → Int32) (sz : Nat) : CMv (S := SS) l MX8_put 0 0 0 0 D a [.ref q1, .int 16, .int (x1 &&& 255)] [(q1, .inl (a 0, 400, .inl f1))] sz (fun u => (u = (0, [], [], [], [], []))) (fun u => pk [[(q1, .inl (a 0, 400, .inl (upd f1 16 (x1 &&& 255))))]] u.1) := by
  refine entMv (by decide) (Nat.le_of_ble_eq_true rfl) ?_
  intro p e s m below meth c C hK A hA hP hD ls hl
  obtain ⟨hx, hb, hml, hown, hts, hr, hlocks, hnm⟩ := id C
  have hb : c.code = cX8_put := hb
  have hown : s.vm.findClass RX8 = some m.cls := hown
  have hS : va_S A s.heap s.heap [] := va_S.rf
  have hl : lv_has ls 3 [(0, .ref q1), (1, .int 16), (2, .int (x1 &&& 255))] := hl
  refine lv_iload_n hx hb dX8_put_0 rfl (lv_at hl 1 rfl) ?_
  refine lv_if_lt (tgt := 14) hx hb dX8_put_1 (by decide) (fun c9 => absurd c9 (by decide)) (fun c9 => ?_)
  refine lv_iload_n hx hb dX8_put_4 rfl (lv_at hl 1 rfl) ?_
  refine lv_aload_n hx hb dX8_put_5 rfl (lv_at hl 0 rfl) ?_
  refine va_alen (v := 400) hx hb hK.1 hP 0 0 rfl rfl rfl dX8_put_6 ?_
  refine lv_icmp_ge (tgt := 14) hx hb dX8_put_7 (by decide) (fun c9 => absurd c9 (by decide)) (fun c9 => ?_)
  refine lv_aload_n hx hb dX8_put_10 rfl (lv_at hl 0 rfl) ?_
  refine lv_iload_n hx hb dX8_put_11 rfl (lv_at hl 1 rfl) ?_
  refine lv_iload_n hx hb dX8_put_12 rfl (lv_at hl 2 rfl) ?_
  refine ast_i hx hb hK.1 hP hD hS 0 0 rfl rfl 16 (ix_lit (by decide)) dX8_put_13 (fun H locs hP hD hS => ?_)
  have hP : va_P D classes [(q1, .inl (a 0, 400, .inl (upd f1 16 (x1 &&& 255))))] H := hP
  have hD : va_D A [(q1, .inl (a 0, 400, .inl (upd f1 16 (x1 &&& 255))))] := hD
  exact retMv C rfl (0, [], [], [], [], []) rfl hP hD hS (Nat.le_of_ble_eq_true rfl) (Nat.le_of_ble_eq_true rfl) dX8_put_14

set_option maxHeartbeats 4000000 in
set_option maxRecDepth 100000 in
theorem c_X8_put_17 (l : Launch) (D : va_G) (a : Nat → ClassId) (q1 : Nat) (x2 x1 : Int32) (f1 : Nat → Int32) (sz : Nat) : CMv (S := SS) l MX8_put 0 0 0 0 D a [.ref q1, .int 17, .int (x1 &&& 255)] [(q1, .inl (a 0, 400, .inl (upd f1 16 (x2 &&& 255))))] sz (fun u => (u = (0, [], [], [], [], []))) (fun u => pk [[(q1, .inl (a 0, 400, .inl (upd (upd f1 16 (x2 &&& 255)) 17 (x1 &&& 255))))]] u.1) := by
  refine entMv (by decide) (Nat.le_of_ble_eq_true rfl) ?_
  intro p e s m below meth c C hK A hA hP hD ls hl
  obtain ⟨hx, hb, hml, hown, hts, hr, hlocks, hnm⟩ := id C
  have hb : c.code = cX8_put := hb
  have hown : s.vm.findClass RX8 = some m.cls := hown
  have hS : va_S A s.heap s.heap [] := va_S.rf
  have hl : lv_has ls 3 [(0, .ref q1), (1, .int 17), (2, .int (x1 &&& 255))] := hl
  refine lv_iload_n hx hb dX8_put_0 rfl (lv_at hl 1 rfl) ?_
  refine lv_if_lt (tgt := 14) hx hb dX8_put_1 (by decide) (fun c9 => absurd c9 (by decide)) (fun c9 => ?_)
  refine lv_iload_n hx hb dX8_put_4 rfl (lv_at hl 1 rfl) ?_
  refine lv_aload_n hx hb dX8_put_5 rfl (lv_at hl 0 rfl) ?_
  refine va_alen (v := 400) hx hb hK.1 hP 0 0 rfl rfl rfl dX8_put_6 ?_
  refine lv_icmp_ge (tgt := 14) hx hb dX8_put_7 (by decide) (fun c9 => absurd c9 (by decide)) (fun c9 => ?_)
  refine lv_aload_n hx hb dX8_put_10 rfl (lv_at hl 0 rfl) ?_
  refine lv_iload_n hx hb dX8_put_11 rfl (lv_at hl 1 rfl) ?_
  refine lv_iload_n hx hb dX8_put_12 rfl (lv_at hl 2 rfl) ?_
  refine ast_i hx hb hK.1 hP hD hS 0 0 rfl rfl 17 (ix_lit (by decide)) dX8_put_13 (fun H locs hP hD hS => ?_)
  have hP : va_P D classes [(q1, .inl (a 0, 400, .inl (upd (upd f1 16 (x2 &&& 255)) 17 (x1 &&& 255))))] H := hP
  have hD : va_D A [(q1, .inl (a 0, 400, .inl (upd (upd f1 16 (x2 &&& 255)) 17 (x1 &&& 255))))] := hD
  exact retMv C rfl (0, [], [], [], [], []) rfl hP hD hS (Nat.le_of_ble_eq_true rfl) (Nat.le_of_ble_eq_true rfl) dX8_put_14

set_option maxHeartbeats 4000000 in
set_option maxRecDepth 100000 in
theorem c_X8_put_18 (l : Launch) (D : va_G) (a : Nat → ClassId) (q1 : Nat) (x2 x3 x1 : Int32) (f1 : Nat → Int32) (sz : Nat) : CMv (S := SS) l MX8_put 0 0 0 0 D a [.ref q1, .int 18, .int (x1 &&& 255)] [(q1, .inl (a 0, 400, .inl (upd (upd f1 16 (x2 &&& 255)) 17 (x3 &&& 255))))] sz (fun u => (u = (0, [], [], [], [], []))) (fun u => pk [[(q1, .inl (a 0, 400, .inl (upd (upd (upd f1 16 (x2 &&& 255)) 17 (x3 &&& 255)) 18 (x1 &&& 255))))]] u.1) := by
  refine entMv (by decide) (Nat.le_of_ble_eq_true rfl) ?_
  intro p e s m below meth c C hK A hA hP hD ls hl
  obtain ⟨hx, hb, hml, hown, hts, hr, hlocks, hnm⟩ := id C
  have hb : c.code = cX8_put := hb
  have hown : s.vm.findClass RX8 = some m.cls := hown
  have hS : va_S A s.heap s.heap [] := va_S.rf
  have hl : lv_has ls 3 [(0, .ref q1), (1, .int 18), (2, .int (x1 &&& 255))] := hl
  refine lv_iload_n hx hb dX8_put_0 rfl (lv_at hl 1 rfl) ?_
  refine lv_if_lt (tgt := 14) hx hb dX8_put_1 (by decide) (fun c9 => absurd c9 (by decide)) (fun c9 => ?_)
  refine lv_iload_n hx hb dX8_put_4 rfl (lv_at hl 1 rfl) ?_
  refine lv_aload_n hx hb dX8_put_5 rfl (lv_at hl 0 rfl) ?_
  refine va_alen (v := 400) hx hb hK.1 hP 0 0 rfl rfl rfl dX8_put_6 ?_
  refine lv_icmp_ge (tgt := 14) hx hb dX8_put_7 (by decide) (fun c9 => absurd c9 (by decide)) (fun c9 => ?_)
  refine lv_aload_n hx hb dX8_put_10 rfl (lv_at hl 0 rfl) ?_
  refine lv_iload_n hx hb dX8_put_11 rfl (lv_at hl 1 rfl) ?_
  refine lv_iload_n hx hb dX8_put_12 rfl (lv_at hl 2 rfl) ?_
  refine ast_i hx hb hK.1 hP hD hS 0 0 rfl rfl 18 (ix_lit (by decide)) dX8_put_13 (fun H locs hP hD hS => ?_)
  have hP : va_P D classes [(q1, .inl (a 0, 400, .inl (upd (upd (upd f1 16 (x2 &&& 255)) 17 (x3 &&& 255)) 18 (x1 &&& 255))))] H := hP
  have hD : va_D A [(q1, .inl (a 0, 400, .inl (upd (upd (upd f1 16 (x2 &&& 255)) 17 (x3 &&& 255)) 18 (x1 &&& 255))))] := hD
  exact retMv C rfl (0, [], [], [], [], []) rfl hP hD hS (Nat.le_of_ble_eq_true rfl) (Nat.le_of_ble_eq_true rfl) dX8_put_14

set_option maxHeartbeats 4000000 in
set_option maxRecDepth 100000 in
theorem c_X8_put_19 (l : Launch) (D : va_G) (a : Nat → ClassId) (q1 : Nat) (x2 x3 x4 x1 : Int32) (f1 : Nat → Int32) (sz : Nat) : CMv (S := SS) l MX8_put 0 0 0 0 D a [.ref q1, .int 19, .int (x1 &&& 255)] [(q1, .inl (a 0, 400, .inl (upd (upd (upd f1 16 (x2 &&& 255)) 17 (x3 &&& 255)) 18 (x4 &&& 255))))] sz (fun u => (u = (0, [], [], [], [], []))) (fun u => pk [[(q1, .inl (a 0, 400, .inl (upd (upd (upd (upd f1 16 (x2 &&& 255)) 17 (x3 &&& 255)) 18 (x4 &&& 255)) 19 (x1 &&& 255))))]] u.1) := by
  refine entMv (by decide) (Nat.le_of_ble_eq_true rfl) ?_
  intro p e s m below meth c C hK A hA hP hD ls hl
  obtain ⟨hx, hb, hml, hown, hts, hr, hlocks, hnm⟩ := id C
  have hb : c.code = cX8_put := hb
  have hown : s.vm.findClass RX8 = some m.cls := hown
  have hS : va_S A s.heap s.heap [] := va_S.rf
  have hl : lv_has ls 3 [(0, .ref q1), (1, .int 19), (2, .int (x1 &&& 255))] := hl
  refine lv_iload_n hx hb dX8_put_0 rfl (lv_at hl 1 rfl) ?_
  refine lv_if_lt (tgt := 14) hx hb dX8_put_1 (by decide) (fun c9 => absurd c9 (by decide)) (fun c9 => ?_)
  refine lv_iload_n hx hb dX8_put_4 rfl (lv_at hl 1 rfl) ?_
  refine lv_aload_n hx hb dX8_put_5 rfl (lv_at hl 0 rfl) ?_
  refine va_alen (v := 400) hx hb hK.1 hP 0 0 rfl rfl rfl dX8_put_6 ?_
  refine lv_icmp_ge (tgt := 14) hx hb dX8_put_7 (by decide) (fun c9 => absurd c9 (by decide)) (fun c9 => ?_)
  refine lv_aload_n hx hb dX8_put_10 rfl (lv_at hl 0 rfl) ?_
  refine lv_iload_n hx hb dX8_put_11 rfl (lv_at hl 1 rfl) ?_
  refine lv_iload_n hx hb dX8_put_12 rfl (lv_at hl 2 rfl) ?_
  refine ast_i hx hb hK.1 hP hD hS 0 0 rfl rfl 19 (ix_lit (by decide)) dX8_put_13 (fun H locs hP hD hS => ?_)
  have hP : va_P D classes [(q1, .inl (a 0, 400, .inl (upd (upd (upd (upd f1 16 (x2 &&& 255)) 17 (x3 &&& 255)) 18 (x4 &&& 255)) 19 (x1 &&& 255))))] H := hP
  have hD : va_D A [(q1, .inl (a 0, 400, .inl (upd (upd (upd (upd f1 16 (x2 &&& 255)) 17 (x3 &&& 255)) 18 (x4 &&& 255)) 19 (x1 &&& 255))))] := hD
  exact retMv C rfl (0, [], [], [], [], []) rfl hP hD hS (Nat.le_of_ble_eq_true rfl) (Nat.le_of_ble_eq_true rfl) dX8_put_14

set_option maxHeartbeats 4000000 in
set_option maxRecDepth 100000 in
theorem c_X8_putBytes_4 (l : Launch) (D : va_G) (a : Nat → ClassId) (q1 q2 q3 q4 q5 q6 q7 q8 q9 : Nat) (x1 : Int32) (f1 : Nat → Int32) (sz : Nat) : CMv (S := SS) l MX8_putBytes 1 22 0 0 D a [.ref q1, .int x1] [(q1, .inr (8, [.ref q2, .int 16, .ref q3, .int 0, .int 0, .ref q4, .ref q5, .ref q6, .ref q7, .ref q8, .ref q9])), (q2, .inl (a 0, 400, .inl f1))] sz (fun u => (∃ f1527 : Nat → Int32, u = (0, [], [], [], [f1527], []))) (fun u => pk [[(q1, .inr (8, [.ref q2, .int 20, .ref q3, .int 0, .int 0, .ref q4, .ref q5, .ref q6, .ref q7, .ref q8, .ref q9])), (q2, .inl (a 0, 400, .inl (u.2.2.2.2.1.getD 0 (fun _ => 0))))]] u.1) := by
  refine entMv (by decide) (Nat.le_of_ble_eq_true rfl) ?_
  intro p e s m below meth c C hK A hA hP hD ls hl
  obtain ⟨hx, hb, hml, hown, hts, hr, hlocks, hnm⟩ := id C
  have hb : c.code = cX8_putBytes := hb
  have hown : s.vm.findClass RX8 = some m.cls := hown
  have hS : va_S A s.heap s.heap [] := va_S.rf
  have hl : lv_has ls 3 [(0, .ref q1), (1, .int x1)] := hl
  refine lv_bipush (v := 24) hx hb dX8_putBytes_0 (by decide) ?_
  refine lv_istore_n (lv' := [(2, .int 24), (0, .ref q1), (1, .int x1)]) hx hb dX8_putBytes_2 rfl hl (by decide) rfl (fun ls hl => ?_)
  refine lv_iload_n hx hb dX8_putBytes_3 rfl (lv_at hl 0 rfl) ?_
  refine lv_if_lt (tgt := 41) hx hb dX8_putBytes_4 (by decide) (fun c9 => absurd c9 (by decide)) (fun c9 => ?_)
  refine lv_aload_n hx hb dX8_putBytes_7 rfl (lv_at hl 1 rfl) ?_
  refine va_get (D := D) (v := .ref q2) (C := RX8) (T := TX8) (N := 11) hx hb hts iX8 hown hK.1 hP 0 rfl rfl 0 (by decide) (hts _ t_300) (fun _ h9 => h9) rfl dX8_putBytes_8 ?_
  refine lv_aload_n hx hb dX8_putBytes_11 rfl (lv_at hl 1 rfl) ?_
  refine va_get (D := D) (v := .int 16) (C := RX8) (T := TX8) (N := 11) hx hb hts iX8 hown hK.1 hP 0 rfl rfl 1 (by decide) (hts _ t_301) (fun _ h9 => h9) rfl dX8_putBytes_12 ?_
  refine lv_iload_n hx hb dX8_putBytes_15 rfl (lv_at hl 2 rfl) ?_
  refine lv_iload_n hx hb dX8_putBytes_16 rfl (lv_at hl 0 rfl) ?_
  obtain ⟨x1507, ex1507⟩ : ∃ z : Int32, ((x1 : Int32).toUInt32 >>> ((24 : Int32).toUInt32 &&& Int32.toUInt32 31)).toInt32 = z := ⟨_, rfl⟩
  refine lv_iushr (v := x1507) hx hb dX8_putBytes_17 (by exact ex1507) ?_
  refine lv_sipush (v := 255) hx hb dX8_putBytes_18 (by decide) ?_
  refine lv_iand hx hb dX8_putBytes_21 ?_
  refine afMv (runS (As := [.ref q2, .int 16, .int (x1507 &&& 255)]) (rest := []) C (c_X8_put_16 l D a q2 x1507 f1 s.heap.size) lk_S_8_78 (okN_X8_put) ⟨Nat.le_of_ble_eq_true rfl, Nat.le_of_ble_eq_true rfl⟩ ⟨rfl, rfl⟩ (preM hK (P_of_map (wc := [(q2, .inl (a 0, 400, .inl f1))]) hP [1] rfl) (hD.sub (ws' := [(q2, .inl (a 0, 400, .inl f1))]) [1] (by decide) rfl)) hl.1 rfl (Nat.le_of_ble_eq_true rfl) dX8_putBytes_22 ⟨Nat.le_of_ble_eq_true rfl, Nat.le_of_ble_eq_true rfl⟩) hP hD hS hA [1] [0] (wr := [(q1, .inr (8, [.ref q2, .int 16, .ref q3, .int 0, .int 0, .ref q4, .ref q5, .ref q6, .ref q7, .ref q8, .ref q9]))]) rfl rfl (by decide) (by decide) (fun u H locs hw hP hD hS => ?_)
  obtain rfl := hw
  have hP : va_P D classes [(q1, .inr (8, [.ref q2, .int 16, .ref q3, .int 0, .int 0, .ref q4, .ref q5, .ref q6, .ref q7, .ref q8, .ref q9])), (q2, .inl (a 0, 400, .inl (upd f1 16 (x1507 &&& 255))))] H := hP
  have hD : va_D A [(q1, .inr (8, [.ref q2, .int 16, .ref q3, .int 0, .int 0, .ref q4, .ref q5, .ref q6, .ref q7, .ref q8, .ref q9])), (q2, .inl (a 0, 400, .inl (upd f1 16 (x1507 &&& 255))))] := hD
  refine lv_aload_n hx hb dX8_putBytes_25 rfl (lv_at hl 1 rfl) ?_
  refine lv_dup hx hb dX8_putBytes_26 rfl ?_
  refine va_get (D := D) (v := .int 16) (C := RX8) (T := TX8) (N := 11) hx hb hts iX8 hown hK.1 hP 0 rfl rfl 1 (by decide) (hts _ t_301) (fun _ h9 => h9) rfl dX8_putBytes_27 ?_
  refine lv_iconst (v := 1) hx hb dX8_putBytes_30 (by decide) ?_
  refine lv_iadd hx hb dX8_putBytes_31 ?_
  refine lv_topi (fun x1511 ex1511 => ?_)
  obtain rfl : x1511 = 17 := ex1511.trans (by decide)
  refine va_put (D := D) (v := .int 17) (C := RX8) (T := TX8) (N := 11) hx hb hts iX8 tyX8 tyX8_ok nmX8 hown hK.1 hP hD hS 0 rfl rfl 1 (by decide) (hts _ t_301) (fun _ h9 => h9) rfl (tyX8_ok 1 (by decide)) rfl rfl (Nat.le_of_ble_eq_true rfl) dX8_putBytes_32 (fun H locs hP hD hS => ?_)
  have hP : va_P D classes [(q1, .inr (8, [.ref q2, .int 17, .ref q3, .int 0, .int 0, .ref q4, .ref q5, .ref q6, .ref q7, .ref q8, .ref q9])), (q2, .inl (a 0, 400, .inl (upd f1 16 (x1507 &&& 255))))] H := hP
  have hD : va_D A [(q1, .inr (8, [.ref q2, .int 17, .ref q3, .int 0, .int 0, .ref q4, .ref q5, .ref q6, .ref q7, .ref q8, .ref q9])), (q2, .inl (a 0, 400, .inl (upd f1 16 (x1507 &&& 255))))] := hD
  refine lv_iinc (v := 16) (lv' := [(2, .int 16), (0, .ref q1), (1, .int x1)]) hx hb dX8_putBytes_35 hl (k := 0) rfl (by decide) (by decide) rfl (fun ls hl => ?_)
  refine lv_goto (tgt := 3) hx hb dX8_putBytes_38 (by decide) ?_
  refine lv_iload_n hx hb dX8_putBytes_3 rfl (lv_at hl 0 rfl) ?_
  refine lv_if_lt (tgt := 41) hx hb dX8_putBytes_4 (by decide) (fun c9 => absurd c9 (by decide)) (fun c9 => ?_)
  refine lv_aload_n hx hb dX8_putBytes_7 rfl (lv_at hl 1 rfl) ?_
  refine va_get (D := D) (v := .ref q2) (C := RX8) (T := TX8) (N := 11) hx hb hts iX8 hown hK.1 hP 0 rfl rfl 0 (by decide) (hts _ t_300) (fun _ h9 => h9) rfl dX8_putBytes_8 ?_
  refine lv_aload_n hx hb dX8_putBytes_11 rfl (lv_at hl 1 rfl) ?_
  refine va_get (D := D) (v := .int 17) (C := RX8) (T := TX8) (N := 11) hx hb hts iX8 hown hK.1 hP 0 rfl rfl 1 (by decide) (hts _ t_301) (fun _ h9 => h9) rfl dX8_putBytes_12 ?_
  refine lv_iload_n hx hb dX8_putBytes_15 rfl (lv_at hl 2 rfl) ?_
  refine lv_iload_n hx hb dX8_putBytes_16 rfl (lv_at hl 0 rfl) ?_
  obtain ⟨x1512, ex1512⟩ : ∃ z : Int32, ((x1 : Int32).toUInt32 >>> ((16 : Int32).toUInt32 &&& Int32.toUInt32 31)).toInt32 = z := ⟨_, rfl⟩
  refine lv_iushr (v := x1512) hx hb dX8_putBytes_17 (by exact ex1512) ?_
  refine lv_sipush (v := 255) hx hb dX8_putBytes_18 (by decide) ?_
  refine lv_iand hx hb dX8_putBytes_21 ?_
  refine afMv (runS (As := [.ref q2, .int 17, .int (x1512 &&& 255)]) (rest := []) C (c_X8_put_17 l D a q2 x1507 x1512 f1 H.size) lk_S_8_78 (okN_X8_put) ⟨Nat.le_of_ble_eq_true rfl, Nat.le_of_ble_eq_true rfl⟩ ⟨rfl, rfl⟩ (preM hK (P_of_map (wc := [(q2, .inl (a 0, 400, .inl (upd f1 16 (x1507 &&& 255))))]) hP [1] rfl) (hD.sub (ws' := [(q2, .inl (a 0, 400, .inl (upd f1 16 (x1507 &&& 255))))]) [1] (by decide) rfl)) hl.1 rfl (Nat.le_of_ble_eq_true rfl) dX8_putBytes_22 ⟨Nat.le_of_ble_eq_true rfl, Nat.le_of_ble_eq_true rfl⟩) hP hD hS hA [1] [0] (wr := [(q1, .inr (8, [.ref q2, .int 17, .ref q3, .int 0, .int 0, .ref q4, .ref q5, .ref q6, .ref q7, .ref q8, .ref q9]))]) rfl rfl (by decide) (by decide) (fun u H locs hw hP hD hS => ?_)
  obtain rfl := hw
  have hP : va_P D classes [(q1, .inr (8, [.ref q2, .int 17, .ref q3, .int 0, .int 0, .ref q4, .ref q5, .ref q6, .ref q7, .ref q8, .ref q9])), (q2, .inl (a 0, 400, .inl (upd (upd f1 16 (x1507 &&& 255)) 17 (x1512 &&& 255))))] H := hP
  have hD : va_D A [(q1, .inr (8, [.ref q2, .int 17, .ref q3, .int 0, .int 0, .ref q4, .ref q5, .ref q6, .ref q7, .ref q8, .ref q9])), (q2, .inl (a 0, 400, .inl (upd (upd f1 16 (x1507 &&& 255)) 17 (x1512 &&& 255))))] := hD
  refine lv_aload_n hx hb dX8_putBytes_25 rfl (lv_at hl 1 rfl) ?_
  refine lv_dup hx hb dX8_putBytes_26 rfl ?_
  refine va_get (D := D) (v := .int 17) (C := RX8) (T := TX8) (N := 11) hx hb hts iX8 hown hK.1 hP 0 rfl rfl 1 (by decide) (hts _ t_301) (fun _ h9 => h9) rfl dX8_putBytes_27 ?_
  refine lv_iconst (v := 1) hx hb dX8_putBytes_30 (by decide) ?_
  refine lv_iadd hx hb dX8_putBytes_31 ?_
  refine lv_topi (fun x1516 ex1516 => ?_)
  obtain rfl : x1516 = 18 := ex1516.trans (by decide)
  refine va_put (D := D) (v := .int 18) (C := RX8) (T := TX8) (N := 11) hx hb hts iX8 tyX8 tyX8_ok nmX8 hown hK.1 hP hD hS 0 rfl rfl 1 (by decide) (hts _ t_301) (fun _ h9 => h9) rfl (tyX8_ok 1 (by decide)) rfl rfl (Nat.le_of_ble_eq_true rfl) dX8_putBytes_32 (fun H locs hP hD hS => ?_)
  have hP : va_P D classes [(q1, .inr (8, [.ref q2, .int 18, .ref q3, .int 0, .int 0, .ref q4, .ref q5, .ref q6, .ref q7, .ref q8, .ref q9])), (q2, .inl (a 0, 400, .inl (upd (upd f1 16 (x1507 &&& 255)) 17 (x1512 &&& 255))))] H := hP
  have hD : va_D A [(q1, .inr (8, [.ref q2, .int 18, .ref q3, .int 0, .int 0, .ref q4, .ref q5, .ref q6, .ref q7, .ref q8, .ref q9])), (q2, .inl (a 0, 400, .inl (upd (upd f1 16 (x1507 &&& 255)) 17 (x1512 &&& 255))))] := hD
  refine lv_iinc (v := 8) (lv' := [(2, .int 8), (0, .ref q1), (1, .int x1)]) hx hb dX8_putBytes_35 hl (k := 0) rfl (by decide) (by decide) rfl (fun ls hl => ?_)
  refine lv_goto (tgt := 3) hx hb dX8_putBytes_38 (by decide) ?_
  refine lv_iload_n hx hb dX8_putBytes_3 rfl (lv_at hl 0 rfl) ?_
  refine lv_if_lt (tgt := 41) hx hb dX8_putBytes_4 (by decide) (fun c9 => absurd c9 (by decide)) (fun c9 => ?_)
  refine lv_aload_n hx hb dX8_putBytes_7 rfl (lv_at hl 1 rfl) ?_
  refine va_get (D := D) (v := .ref q2) (C := RX8) (T := TX8) (N := 11) hx hb hts iX8 hown hK.1 hP 0 rfl rfl 0 (by decide) (hts _ t_300) (fun _ h9 => h9) rfl dX8_putBytes_8 ?_
  refine lv_aload_n hx hb dX8_putBytes_11 rfl (lv_at hl 1 rfl) ?_
  refine va_get (D := D) (v := .int 18) (C := RX8) (T := TX8) (N := 11) hx hb hts iX8 hown hK.1 hP 0 rfl rfl 1 (by decide) (hts _ t_301) (fun _ h9 => h9) rfl dX8_putBytes_12 ?_
  refine lv_iload_n hx hb dX8_putBytes_15 rfl (lv_at hl 2 rfl) ?_
  refine lv_iload_n hx hb dX8_putBytes_16 rfl (lv_at hl 0 rfl) ?_
  obtain ⟨x1517, ex1517⟩ : ∃ z : Int32, ((x1 : Int32).toUInt32 >>> ((8 : Int32).toUInt32 &&& Int32.toUInt32 31)).toInt32 = z := ⟨_, rfl⟩
  refine lv_iushr (v := x1517) hx hb dX8_putBytes_17 (by exact ex1517) ?_
  refine lv_sipush (v := 255) hx hb dX8_putBytes_18 (by decide) ?_
  refine lv_iand hx hb dX8_putBytes_21 ?_
  refine afMv (runS (As := [.ref q2, .int 18, .int (x1517 &&& 255)]) (rest := []) C (c_X8_put_18 l D a q2 x1507 x1512 x1517 f1 H.size) lk_S_8_78 (okN_X8_put) ⟨Nat.le_of_ble_eq_true rfl, Nat.le_of_ble_eq_true rfl⟩ ⟨rfl, rfl⟩ (preM hK (P_of_map (wc := [(q2, .inl (a 0, 400, .inl (upd (upd f1 16 (x1507 &&& 255)) 17 (x1512 &&& 255))))]) hP [1] rfl) (hD.sub (ws' := [(q2, .inl (a 0, 400, .inl (upd (upd f1 16 (x1507 &&& 255)) 17 (x1512 &&& 255))))]) [1] (by decide) rfl)) hl.1 rfl (Nat.le_of_ble_eq_true rfl) dX8_putBytes_22 ⟨Nat.le_of_ble_eq_true rfl, Nat.le_of_ble_eq_true rfl⟩) hP hD hS hA [1] [0] (wr := [(q1, .inr (8, [.ref q2, .int 18, .ref q3, .int 0, .int 0, .ref q4, .ref q5, .ref q6, .ref q7, .ref q8, .ref q9]))]) rfl rfl (by decide) (by decide) (fun u H locs hw hP hD hS => ?_)
  obtain rfl := hw
  have hP : va_P D classes [(q1, .inr (8, [.ref q2, .int 18, .ref q3, .int 0, .int 0, .ref q4, .ref q5, .ref q6, .ref q7, .ref q8, .ref q9])), (q2, .inl (a 0, 400, .inl (upd (upd (upd f1 16 (x1507 &&& 255)) 17 (x1512 &&& 255)) 18 (x1517 &&& 255))))] H := hP
  have hD : va_D A [(q1, .inr (8, [.ref q2, .int 18, .ref q3, .int 0, .int 0, .ref q4, .ref q5, .ref q6, .ref q7, .ref q8, .ref q9])), (q2, .inl (a 0, 400, .inl (upd (upd (upd f1 16 (x1507 &&& 255)) 17 (x1512 &&& 255)) 18 (x1517 &&& 255))))] := hD
  refine lv_aload_n hx hb dX8_putBytes_25 rfl (lv_at hl 1 rfl) ?_
  refine lv_dup hx hb dX8_putBytes_26 rfl ?_
  refine va_get (D := D) (v := .int 18) (C := RX8) (T := TX8) (N := 11) hx hb hts iX8 hown hK.1 hP 0 rfl rfl 1 (by decide) (hts _ t_301) (fun _ h9 => h9) rfl dX8_putBytes_27 ?_
  refine lv_iconst (v := 1) hx hb dX8_putBytes_30 (by decide) ?_
  refine lv_iadd hx hb dX8_putBytes_31 ?_
  refine lv_topi (fun x1521 ex1521 => ?_)
  obtain rfl : x1521 = 19 := ex1521.trans (by decide)
  refine va_put (D := D) (v := .int 19) (C := RX8) (T := TX8) (N := 11) hx hb hts iX8 tyX8 tyX8_ok nmX8 hown hK.1 hP hD hS 0 rfl rfl 1 (by decide) (hts _ t_301) (fun _ h9 => h9) rfl (tyX8_ok 1 (by decide)) rfl rfl (Nat.le_of_ble_eq_true rfl) dX8_putBytes_32 (fun H locs hP hD hS => ?_)
  have hP : va_P D classes [(q1, .inr (8, [.ref q2, .int 19, .ref q3, .int 0, .int 0, .ref q4, .ref q5, .ref q6, .ref q7, .ref q8, .ref q9])), (q2, .inl (a 0, 400, .inl (upd (upd (upd f1 16 (x1507 &&& 255)) 17 (x1512 &&& 255)) 18 (x1517 &&& 255))))] H := hP
  have hD : va_D A [(q1, .inr (8, [.ref q2, .int 19, .ref q3, .int 0, .int 0, .ref q4, .ref q5, .ref q6, .ref q7, .ref q8, .ref q9])), (q2, .inl (a 0, 400, .inl (upd (upd (upd f1 16 (x1507 &&& 255)) 17 (x1512 &&& 255)) 18 (x1517 &&& 255))))] := hD
  refine lv_iinc (v := 0) (lv' := [(2, .int 0), (0, .ref q1), (1, .int x1)]) hx hb dX8_putBytes_35 hl (k := 0) rfl (by decide) (by decide) rfl (fun ls hl => ?_)
  refine lv_goto (tgt := 3) hx hb dX8_putBytes_38 (by decide) ?_
  refine lv_iload_n hx hb dX8_putBytes_3 rfl (lv_at hl 0 rfl) ?_
  refine lv_if_lt (tgt := 41) hx hb dX8_putBytes_4 (by decide) (fun c9 => absurd c9 (by decide)) (fun c9 => ?_)
  refine lv_aload_n hx hb dX8_putBytes_7 rfl (lv_at hl 1 rfl) ?_
  refine va_get (D := D) (v := .ref q2) (C := RX8) (T := TX8) (N := 11) hx hb hts iX8 hown hK.1 hP 0 rfl rfl 0 (by decide) (hts _ t_300) (fun _ h9 => h9) rfl dX8_putBytes_8 ?_
  refine lv_aload_n hx hb dX8_putBytes_11 rfl (lv_at hl 1 rfl) ?_
  refine va_get (D := D) (v := .int 19) (C := RX8) (T := TX8) (N := 11) hx hb hts iX8 hown hK.1 hP 0 rfl rfl 1 (by decide) (hts _ t_301) (fun _ h9 => h9) rfl dX8_putBytes_12 ?_
  refine lv_iload_n hx hb dX8_putBytes_15 rfl (lv_at hl 2 rfl) ?_
  refine lv_iload_n hx hb dX8_putBytes_16 rfl (lv_at hl 0 rfl) ?_
  obtain ⟨x1522, ex1522⟩ : ∃ z : Int32, ((x1 : Int32).toUInt32 >>> ((0 : Int32).toUInt32 &&& Int32.toUInt32 31)).toInt32 = z := ⟨_, rfl⟩
  refine lv_iushr (v := x1522) hx hb dX8_putBytes_17 (by exact ex1522) ?_
  refine lv_sipush (v := 255) hx hb dX8_putBytes_18 (by decide) ?_
  refine lv_iand hx hb dX8_putBytes_21 ?_
  refine afMv (runS (As := [.ref q2, .int 19, .int (x1522 &&& 255)]) (rest := []) C (c_X8_put_19 l D a q2 x1507 x1512 x1517 x1522 f1 H.size) lk_S_8_78 (okN_X8_put) ⟨Nat.le_of_ble_eq_true rfl, Nat.le_of_ble_eq_true rfl⟩ ⟨rfl, rfl⟩ (preM hK (P_of_map (wc := [(q2, .inl (a 0, 400, .inl (upd (upd (upd f1 16 (x1507 &&& 255)) 17 (x1512 &&& 255)) 18 (x1517 &&& 255))))]) hP [1] rfl) (hD.sub (ws' := [(q2, .inl (a 0, 400, .inl (upd (upd (upd f1 16 (x1507 &&& 255)) 17 (x1512 &&& 255)) 18 (x1517 &&& 255))))]) [1] (by decide) rfl)) hl.1 rfl (Nat.le_of_ble_eq_true rfl) dX8_putBytes_22 ⟨Nat.le_of_ble_eq_true rfl, Nat.le_of_ble_eq_true rfl⟩) hP hD hS hA [1] [0] (wr := [(q1, .inr (8, [.ref q2, .int 19, .ref q3, .int 0, .int 0, .ref q4, .ref q5, .ref q6, .ref q7, .ref q8, .ref q9]))]) rfl rfl (by decide) (by decide) (fun u H locs hw hP hD hS => ?_)
  obtain rfl := hw
  have hP : va_P D classes [(q1, .inr (8, [.ref q2, .int 19, .ref q3, .int 0, .int 0, .ref q4, .ref q5, .ref q6, .ref q7, .ref q8, .ref q9])), (q2, .inl (a 0, 400, .inl (upd (upd (upd (upd f1 16 (x1507 &&& 255)) 17 (x1512 &&& 255)) 18 (x1517 &&& 255)) 19 (x1522 &&& 255))))] H := hP
  have hD : va_D A [(q1, .inr (8, [.ref q2, .int 19, .ref q3, .int 0, .int 0, .ref q4, .ref q5, .ref q6, .ref q7, .ref q8, .ref q9])), (q2, .inl (a 0, 400, .inl (upd (upd (upd (upd f1 16 (x1507 &&& 255)) 17 (x1512 &&& 255)) 18 (x1517 &&& 255)) 19 (x1522 &&& 255))))] := hD
  refine lv_aload_n hx hb dX8_putBytes_25 rfl (lv_at hl 1 rfl) ?_
  refine lv_dup hx hb dX8_putBytes_26 rfl ?_
  refine va_get (D := D) (v := .int 19) (C := RX8) (T := TX8) (N := 11) hx hb hts iX8 hown hK.1 hP 0 rfl rfl 1 (by decide) (hts _ t_301) (fun _ h9 => h9) rfl dX8_putBytes_27 ?_
  refine lv_iconst (v := 1) hx hb dX8_putBytes_30 (by decide) ?_
  refine lv_iadd hx hb dX8_putBytes_31 ?_
  refine lv_topi (fun x1526 ex1526 => ?_)
  obtain rfl : x1526 = 20 := ex1526.trans (by decide)
  refine va_put (D := D) (v := .int 20) (C := RX8) (T := TX8) (N := 11) hx hb hts iX8 tyX8 tyX8_ok nmX8 hown hK.1 hP hD hS 0 rfl rfl 1 (by decide) (hts _ t_301) (fun _ h9 => h9) rfl (tyX8_ok 1 (by decide)) rfl rfl (Nat.le_of_ble_eq_true rfl) dX8_putBytes_32 (fun H locs hP hD hS => ?_)
  have hP : va_P D classes [(q1, .inr (8, [.ref q2, .int 20, .ref q3, .int 0, .int 0, .ref q4, .ref q5, .ref q6, .ref q7, .ref q8, .ref q9])), (q2, .inl (a 0, 400, .inl (upd (upd (upd (upd f1 16 (x1507 &&& 255)) 17 (x1512 &&& 255)) 18 (x1517 &&& 255)) 19 (x1522 &&& 255))))] H := hP
  have hD : va_D A [(q1, .inr (8, [.ref q2, .int 20, .ref q3, .int 0, .int 0, .ref q4, .ref q5, .ref q6, .ref q7, .ref q8, .ref q9])), (q2, .inl (a 0, 400, .inl (upd (upd (upd (upd f1 16 (x1507 &&& 255)) 17 (x1512 &&& 255)) 18 (x1517 &&& 255)) 19 (x1522 &&& 255))))] := hD
  refine lv_iinc (v := (-8)) (lv' := [(2, .int (-8)), (0, .ref q1), (1, .int x1)]) hx hb dX8_putBytes_35 hl (k := 0) rfl (by decide) (by decide) rfl (fun ls hl => ?_)
  refine lv_goto (tgt := 3) hx hb dX8_putBytes_38 (by decide) ?_
  refine lv_iload_n hx hb dX8_putBytes_3 rfl (lv_at hl 0 rfl) ?_
  refine lv_if_lt (tgt := 41) hx hb dX8_putBytes_4 (by decide) (fun c9 => ?_) (fun c9 => absurd (by decide) c9)
  exact retMv C rfl (0, [], [], [], [(upd (upd (upd (upd f1 16 (x1507 &&& 255)) 17 (x1512 &&& 255)) 18 (x1517 &&& 255)) 19 (x1522 &&& 255))], []) ⟨(upd (upd (upd (upd f1 16 (x1507 &&& 255)) 17 (x1512 &&& 255)) 18 (x1517 &&& 255)) 19 (x1522 &&& 255)), rfl⟩ hP hD hS (Nat.le_of_ble_eq_true rfl) (Nat.le_of_ble_eq_true rfl) dX8_putBytes_41

set_option maxHeartbeats 4000000 in
set_option maxRecDepth 100000 in
theorem c_X8_feed_0 (l : Launch) (D : va_G) (a : Nat → ClassId) (q1 q2 q3 q4 q5 q6 q7 q8 q9 : Nat) (x1 x2 x3 x4 x5 : Int32) (sz : Nat) : CMi (S := SS) l MX8_feed 2 44 0 0 D a [.ref q1, .int x1, .int x2, .int x3, .int x4, .int x5] [(q1, .inr (8, [.ref q2, .int 0, .ref q3, .int 0, .int 0, .ref q4, .ref q5, .ref q6, .ref q7, .ref q8, .ref q9])), (q2, .inl (a 0, 400, .inl (fun _ => 0)))] sz (fun r u => (∃ f1652 : Nat → Int32, u = (0, [], [], [], [f1652], []) ∧ r = 20)) (fun u => pk [[(q1, .inr (8, [.ref q2, .int 20, .ref q3, .int 0, .int 0, .ref q4, .ref q5, .ref q6, .ref q7, .ref q8, .ref q9])), (q2, .inl (a 0, 400, .inl (u.2.2.2.2.1.getD 0 (fun _ => 0))))]] u.1) := by
  refine entMi (by decide) (Nat.le_of_ble_eq_true rfl) ?_
  intro p e s m below meth c C hK A hA hP hD ls hl
  obtain ⟨hx, hb, hml, hown, hts, hr, hlocks, hnm⟩ := id C
  have hb : c.code = cX8_feed := hb
  have hown : s.vm.findClass RX8 = some m.cls := hown
  have hS : va_S A s.heap s.heap [] := va_S.rf
  have hl : lv_has ls 6 [(0, .ref q1), (1, .int x1), (2, .int x2), (3, .int x3), (4, .int x4), (5, .int x5)] := hl
  refine lv_aload_n hx hb dX8_feed_0 rfl (lv_at hl 0 rfl) ?_
  refine va_get (D := D) (v := .int 0) (C := RX8) (T := TX8) (N := 11) hx hb hts iX8 hown hK.1 hP 0 rfl rfl 1 (by decide) (hts _ t_301) (fun _ h9 => h9) rfl dX8_feed_1 ?_
  refine lv_bipush (v := 20) hx hb dX8_feed_4 (by decide) ?_
  refine lv_iadd hx hb dX8_feed_6 ?_
  refine lv_topi (fun x1532 ex1532 => ?_)
  obtain rfl : x1532 = 20 := ex1532.trans (by decide)
  refine lv_sipush (v := 400) hx hb dX8_feed_7 (by decide) ?_
  refine lv_icmp_le (tgt := 15) hx hb dX8_feed_10 (by decide) (fun c9 => ?_) (fun c9 => absurd (by decide) c9)
  refine lv_aload_n hx hb dX8_feed_15 rfl (lv_at hl 0 rfl) ?_
  refine lv_iload_n hx hb dX8_feed_16 rfl (lv_at hl 1 rfl) ?_
  refine afMv (runV (As := [.int x1]) (rest := []) C (c_X8_putBytes_0 l D a q1 q2 q3 q4 q5 q6 q7 q8 q9 x1 s.heap.size) lk_V_8_75 (okN_X8_putBytes) ⟨Nat.le_of_ble_eq_true rfl, Nat.le_of_ble_eq_true rfl⟩ ⟨rfl, rfl⟩ (preV (preM hK (P_of_map (wc := [(q1, .inr (8, [.ref q2, .int 0, .ref q3, .int 0, .int 0, .ref q4, .ref q5, .ref q6, .ref q7, .ref q8, .ref q9])), (q2, .inl (a 0, 400, .inl (fun _ => 0)))]) hP [0, 1] rfl) (hD.sub (ws' := [(q1, .inr (8, [.ref q2, .int 0, .ref q3, .int 0, .int 0, .ref q4, .ref q5, .ref q6, .ref q7, .ref q8, .ref q9])), (q2, .inl (a 0, 400, .inl (fun _ => 0)))]) [0, 1] (by decide) rfl)) (recvOf hK hP 0 rfl (ci := 8) rfl)) hl.1 rfl (Nat.le_of_ble_eq_true rfl) dX8_feed_17 ⟨Nat.le_of_ble_eq_true rfl, Nat.le_of_ble_eq_true rfl⟩) hP hD hS hA [0, 1] [] (wr := []) rfl rfl (by decide) (by decide) (fun u H locs hw hP hD hS => ?_)
  obtain ⟨f1556, rfl⟩ := hw
  have hP : va_P D classes [(q1, .inr (8, [.ref q2, .int 4, .ref q3, .int 0, .int 0, .ref q4, .ref q5, .ref q6, .ref q7, .ref q8, .ref q9])), (q2, .inl (a 0, 400, .inl f1556))] H := hP
  have hD : va_D A [(q1, .inr (8, [.ref q2, .int 4, .ref q3, .int 0, .int 0, .ref q4, .ref q5, .ref q6, .ref q7, .ref q8, .ref q9])), (q2, .inl (a 0, 400, .inl f1556))] := hD
  refine lv_aload_n hx hb dX8_feed_20 rfl (lv_at hl 0 rfl) ?_
  refine lv_iload_n hx hb dX8_feed_21 rfl (lv_at hl 2 rfl) ?_
  refine afMv (runV (As := [.int x2]) (rest := []) C (c_X8_putBytes_1 l D a q1 q2 q3 q4 q5 q6 q7 q8 q9 x2 f1556 H.size) lk_V_8_75 (okN_X8_putBytes) ⟨Nat.le_of_ble_eq_true rfl, Nat.le_of_ble_eq_true rfl⟩ ⟨rfl, rfl⟩ (preV (preM hK (P_of_map (wc := [(q1, .inr (8, [.ref q2, .int 4, .ref q3, .int 0, .int 0, .ref q4, .ref q5, .ref q6, .ref q7, .ref q8, .ref q9])), (q2, .inl (a 0, 400, .inl f1556))]) hP [0, 1] rfl) (hD.sub (ws' := [(q1, .inr (8, [.ref q2, .int 4, .ref q3, .int 0, .int 0, .ref q4, .ref q5, .ref q6, .ref q7, .ref q8, .ref q9])), (q2, .inl (a 0, 400, .inl f1556))]) [0, 1] (by decide) rfl)) (recvOf hK hP 0 rfl (ci := 8) rfl)) hl.1 rfl (Nat.le_of_ble_eq_true rfl) dX8_feed_22 ⟨Nat.le_of_ble_eq_true rfl, Nat.le_of_ble_eq_true rfl⟩) hP hD hS hA [0, 1] [] (wr := []) rfl rfl (by decide) (by decide) (fun u H locs hw hP hD hS => ?_)
  obtain ⟨f1580, rfl⟩ := hw
  have hP : va_P D classes [(q1, .inr (8, [.ref q2, .int 8, .ref q3, .int 0, .int 0, .ref q4, .ref q5, .ref q6, .ref q7, .ref q8, .ref q9])), (q2, .inl (a 0, 400, .inl f1580))] H := hP
  have hD : va_D A [(q1, .inr (8, [.ref q2, .int 8, .ref q3, .int 0, .int 0, .ref q4, .ref q5, .ref q6, .ref q7, .ref q8, .ref q9])), (q2, .inl (a 0, 400, .inl f1580))] := hD
  refine lv_aload_n hx hb dX8_feed_25 rfl (lv_at hl 0 rfl) ?_
  refine lv_iload_n hx hb dX8_feed_26 rfl (lv_at hl 3 rfl) ?_
  refine afMv (runV (As := [.int x3]) (rest := []) C (c_X8_putBytes_2 l D a q1 q2 q3 q4 q5 q6 q7 q8 q9 x3 f1580 H.size) lk_V_8_75 (okN_X8_putBytes) ⟨Nat.le_of_ble_eq_true rfl, Nat.le_of_ble_eq_true rfl⟩ ⟨rfl, rfl⟩ (preV (preM hK (P_of_map (wc := [(q1, .inr (8, [.ref q2, .int 8, .ref q3, .int 0, .int 0, .ref q4, .ref q5, .ref q6, .ref q7, .ref q8, .ref q9])), (q2, .inl (a 0, 400, .inl f1580))]) hP [0, 1] rfl) (hD.sub (ws' := [(q1, .inr (8, [.ref q2, .int 8, .ref q3, .int 0, .int 0, .ref q4, .ref q5, .ref q6, .ref q7, .ref q8, .ref q9])), (q2, .inl (a 0, 400, .inl f1580))]) [0, 1] (by decide) rfl)) (recvOf hK hP 0 rfl (ci := 8) rfl)) hl.1 rfl (Nat.le_of_ble_eq_true rfl) dX8_feed_27 ⟨Nat.le_of_ble_eq_true rfl, Nat.le_of_ble_eq_true rfl⟩) hP hD hS hA [0, 1] [] (wr := []) rfl rfl (by decide) (by decide) (fun u H locs hw hP hD hS => ?_)
  obtain ⟨f1604, rfl⟩ := hw
  have hP : va_P D classes [(q1, .inr (8, [.ref q2, .int 12, .ref q3, .int 0, .int 0, .ref q4, .ref q5, .ref q6, .ref q7, .ref q8, .ref q9])), (q2, .inl (a 0, 400, .inl f1604))] H := hP
  have hD : va_D A [(q1, .inr (8, [.ref q2, .int 12, .ref q3, .int 0, .int 0, .ref q4, .ref q5, .ref q6, .ref q7, .ref q8, .ref q9])), (q2, .inl (a 0, 400, .inl f1604))] := hD
  refine lv_aload_n hx hb dX8_feed_30 rfl (lv_at hl 0 rfl) ?_
  refine lv_iload hx hb dX8_feed_31 (lv_at hl 4 rfl) ?_
  refine afMv (runV (As := [.int x4]) (rest := []) C (c_X8_putBytes_3 l D a q1 q2 q3 q4 q5 q6 q7 q8 q9 x4 f1604 H.size) lk_V_8_75 (okN_X8_putBytes) ⟨Nat.le_of_ble_eq_true rfl, Nat.le_of_ble_eq_true rfl⟩ ⟨rfl, rfl⟩ (preV (preM hK (P_of_map (wc := [(q1, .inr (8, [.ref q2, .int 12, .ref q3, .int 0, .int 0, .ref q4, .ref q5, .ref q6, .ref q7, .ref q8, .ref q9])), (q2, .inl (a 0, 400, .inl f1604))]) hP [0, 1] rfl) (hD.sub (ws' := [(q1, .inr (8, [.ref q2, .int 12, .ref q3, .int 0, .int 0, .ref q4, .ref q5, .ref q6, .ref q7, .ref q8, .ref q9])), (q2, .inl (a 0, 400, .inl f1604))]) [0, 1] (by decide) rfl)) (recvOf hK hP 0 rfl (ci := 8) rfl)) hl.1 rfl (Nat.le_of_ble_eq_true rfl) dX8_feed_33 ⟨Nat.le_of_ble_eq_true rfl, Nat.le_of_ble_eq_true rfl⟩) hP hD hS hA [0, 1] [] (wr := []) rfl rfl (by decide) (by decide) (fun u H locs hw hP hD hS => ?_)
  obtain ⟨f1628, rfl⟩ := hw
  have hP : va_P D classes [(q1, .inr (8, [.ref q2, .int 16, .ref q3, .int 0, .int 0, .ref q4, .ref q5, .ref q6, .ref q7, .ref q8, .ref q9])), (q2, .inl (a 0, 400, .inl f1628))] H := hP
  have hD : va_D A [(q1, .inr (8, [.ref q2, .int 16, .ref q3, .int 0, .int 0, .ref q4, .ref q5, .ref q6, .ref q7, .ref q8, .ref q9])), (q2, .inl (a 0, 400, .inl f1628))] := hD
  refine lv_aload_n hx hb dX8_feed_36 rfl (lv_at hl 0 rfl) ?_
  refine lv_iload hx hb dX8_feed_37 (lv_at hl 5 rfl) ?_
  refine afMv (runV (As := [.int x5]) (rest := []) C (c_X8_putBytes_4 l D a q1 q2 q3 q4 q5 q6 q7 q8 q9 x5 f1628 H.size) lk_V_8_75 (okN_X8_putBytes) ⟨Nat.le_of_ble_eq_true rfl, Nat.le_of_ble_eq_true rfl⟩ ⟨rfl, rfl⟩ (preV (preM hK (P_of_map (wc := [(q1, .inr (8, [.ref q2, .int 16, .ref q3, .int 0, .int 0, .ref q4, .ref q5, .ref q6, .ref q7, .ref q8, .ref q9])), (q2, .inl (a 0, 400, .inl f1628))]) hP [0, 1] rfl) (hD.sub (ws' := [(q1, .inr (8, [.ref q2, .int 16, .ref q3, .int 0, .int 0, .ref q4, .ref q5, .ref q6, .ref q7, .ref q8, .ref q9])), (q2, .inl (a 0, 400, .inl f1628))]) [0, 1] (by decide) rfl)) (recvOf hK hP 0 rfl (ci := 8) rfl)) hl.1 rfl (Nat.le_of_ble_eq_true rfl) dX8_feed_39 ⟨Nat.le_of_ble_eq_true rfl, Nat.le_of_ble_eq_true rfl⟩) hP hD hS hA [0, 1] [] (wr := []) rfl rfl (by decide) (by decide) (fun u H locs hw hP hD hS => ?_)
  obtain ⟨f1652, rfl⟩ := hw
  have hP : va_P D classes [(q1, .inr (8, [.ref q2, .int 20, .ref q3, .int 0, .int 0, .ref q4, .ref q5, .ref q6, .ref q7, .ref q8, .ref q9])), (q2, .inl (a 0, 400, .inl f1652))] H := hP
  have hD : va_D A [(q1, .inr (8, [.ref q2, .int 20, .ref q3, .int 0, .int 0, .ref q4, .ref q5, .ref q6, .ref q7, .ref q8, .ref q9])), (q2, .inl (a 0, 400, .inl f1652))] := hD
  refine lv_aload_n hx hb dX8_feed_42 rfl (lv_at hl 0 rfl) ?_
  refine va_get (D := D) (v := .int 20) (C := RX8) (T := TX8) (N := 11) hx hb hts iX8 hown hK.1 hP 0 rfl rfl 1 (by decide) (hts _ t_301) (fun _ h9 => h9) rfl dX8_feed_43 ?_
  exact retMi C rfl (0, [], [], [], [f1652], []) ⟨f1652, rfl, rfl⟩ hP hD hS (Nat.le_of_ble_eq_true rfl) (Nat.le_of_ble_eq_true rfl) dX8_feed_46

set_option maxHeartbeats 4000000 in
set_option maxRecDepth 100000 in
theorem c_X9_four_0 (l : Launch) (D : va_G) (a : Nat → ClassId) (q1 q2 q3 q4 q5 q6 q7 q8 q9 q10 q11 q12 q13 q14 q15 q16 q17 q18 q19 q20 q21 q22 q23 : Nat) (x1 : Int32) (sz : Nat) : CMv (S := SS) l MX9_four 0 0 0 0 D a [.ref q1, .int x1] [(q1, .inr (9, [.ref q2, .int 0, .int 0, .ref q3, .ref q4, .ref q5, .ref q6, .int 0, .int 0, .int 0, .ref q7, .ref q8, .int 0, .int 0, .int 0, .int 0, .int 0, .int 0, .int 0, .ref q9, .int 0, .ref q10, .int 0, .ref q11, .ref q12, .ref q13, .ref q14, .ref q15, .ref q16, .ref q17, .ref q18, .ref q19, .ref q20, .ref q21, .ref q22, .ref q23])), (q2, .inl (a 2, 400, .inl (fun _ => 0)))] sz (fun u => (∃ f1671 : Nat → Int32, u = (0, [], [], [], [f1671], []))) (fun u => pk [[(q1, .inr (9, [.ref q2, .int 4, .int 0, .ref q3, .ref q4, .ref q5, .ref q6, .int 0, .int 0, .int 0, .ref q7, .ref q8, .int 0, .int 0, .int 0, .int 0, .int 0, .int 0, .int 0, .ref q9, .int 0, .ref q10, .int 0, .ref q11, .ref q12, .ref q13, .ref q14, .ref q15, .ref q16, .ref q17, .ref q18, .ref q19, .ref q20, .ref q21, .ref q22, .ref q23])), (q2, .inl (a 2, 400, .inl (u.2.2.2.2.1.getD 0 (fun _ => 0))))]] u.1) := by
  refine entMv (by decide) (Nat.le_of_ble_eq_true rfl) ?_
  intro p e s m below meth c C hK A hA hP hD ls hl
  obtain ⟨hx, hb, hml, hown, hts, hr, hlocks, hnm⟩ := id C
  have hb : c.code = cX9_four := hb
  have hown : s.vm.findClass RX9 = some m.cls := hown
  have hS : va_S A s.heap s.heap [] := va_S.rf
  have hl : lv_has ls 3 [(0, .ref q1), (1, .int x1)] := hl
  refine lv_bipush (v := 24) hx hb dX9_four_0 (by decide) ?_
  refine lv_istore_n (lv' := [(2, .int 24), (0, .ref q1), (1, .int x1)]) hx hb dX9_four_2 rfl hl (by decide) rfl (fun ls hl => ?_)
  refine lv_iload_n hx hb dX9_four_3 rfl (lv_at hl 0 rfl) ?_
  refine lv_if_lt (tgt := 36) hx hb dX9_four_4 (by decide) (fun c9 => absurd c9 (by decide)) (fun c9 => ?_)
  refine lv_aload_n hx hb dX9_four_7 rfl (lv_at hl 1 rfl) ?_
  refine va_get (D := D) (v := .ref q2) (C := RX9) (T := TX9) (N := 36) hx hb hts iX9 hown hK.1 hP 0 rfl rfl 0 (by decide) (hts _ t_882) (fun _ h9 => h9) rfl dX9_four_8 ?_
  refine lv_aload_n hx hb dX9_four_11 rfl (lv_at hl 1 rfl) ?_
  refine va_get (D := D) (v := .int 0) (C := RX9) (T := TX9) (N := 36) hx hb hts iX9 hown hK.1 hP 0 rfl rfl 1 (by decide) (hts _ t_883) (fun _ h9 => h9) rfl dX9_four_12 ?_
  refine lv_iload_n hx hb dX9_four_15 rfl (lv_at hl 2 rfl) ?_
  refine lv_iload_n hx hb dX9_four_16 rfl (lv_at hl 0 rfl) ?_
  refine lv_ishr hx hb dX9_four_17 ?_
  refine lv_i2b (v := (x1 >>> (24 &&& 31)).toInt8.toInt32) hx hb dX9_four_18 rfl ?_
  refine ast_b hx hb hK.1 hP hD hS 1 2 rfl rfl 0 (ix_lit (by decide)) dX9_four_19 (fun H locs hP hD hS => ?_)
  have hP : va_P D classes [(q1, .inr (9, [.ref q2, .int 0, .int 0, .ref q3, .ref q4, .ref q5, .ref q6, .int 0, .int 0, .int 0, .ref q7, .ref q8, .int 0, .int 0, .int 0, .int 0, .int 0, .int 0, .int 0, .ref q9, .int 0, .ref q10, .int 0, .ref q11, .ref q12, .ref q13, .ref q14, .ref q15, .ref q16, .ref q17, .ref q18, .ref q19, .ref q20, .ref q21, .ref q22, .ref q23])), (q2, .inl (a 2, 400, .inl (upd (fun _ => 0) 0 (vp_nar .byte ((x1 >>> (24 &&& 31)).toInt8.toInt32)))))] H := hP
  have hD : va_D A [(q1, .inr (9, [.ref q2, .int 0, .int 0, .ref q3, .ref q4, .ref q5, .ref q6, .int 0, .int 0, .int 0, .ref q7, .ref q8, .int 0, .int 0, .int 0, .int 0, .int 0, .int 0, .int 0, .ref q9, .int 0, .ref q10, .int 0, .ref q11, .ref q12, .ref q13, .ref q14, .ref q15, .ref q16, .ref q17, .ref q18, .ref q19, .ref q20, .ref q21, .ref q22, .ref q23])), (q2, .inl (a 2, 400, .inl (upd (fun _ => 0) 0 (vp_nar .byte ((x1 >>> (24 &&& 31)).toInt8.toInt32)))))] := hD
  refine lv_aload_n hx hb dX9_four_20 rfl (lv_at hl 1 rfl) ?_
  refine lv_dup hx hb dX9_four_21 rfl ?_
  refine va_get (D := D) (v := .int 0) (C := RX9) (T := TX9) (N := 36) hx hb hts iX9 hown hK.1 hP 0 rfl rfl 1 (by decide) (hts _ t_883) (fun _ h9 => h9) rfl dX9_four_22 ?_
  refine lv_iconst (v := 1) hx hb dX9_four_25 (by decide) ?_
  refine lv_iadd hx hb dX9_four_26 ?_
  refine lv_topi (fun x1667 ex1667 => ?_)
  obtain rfl : x1667 = 1 := ex1667.trans (by decide)
  refine va_put (D := D) (v := .int 1) (C := RX9) (T := TX9) (N := 36) hx hb hts iX9 tyX9 tyX9_ok nmX9 hown hK.1 hP hD hS 0 rfl rfl 1 (by decide) (hts _ t_883) (fun _ h9 => h9) rfl (tyX9_ok 1 (by decide)) rfl rfl (Nat.le_of_ble_eq_true rfl) dX9_four_27 (fun H locs hP hD hS => ?_)
  have hP : va_P D classes [(q1, .inr (9, [.ref q2, .int 1, .int 0, .ref q3, .ref q4, .ref q5, .ref q6, .int 0, .int 0, .int 0, .ref q7, .ref q8, .int 0, .int 0, .int 0, .int 0, .int 0, .int 0, .int 0, .ref q9, .int 0, .ref q10, .int 0, .ref q11, .ref q12, .ref q13, .ref q14, .ref q15, .ref q16, .ref q17, .ref q18, .ref q19, .ref q20, .ref q21, .ref q22, .ref q23])), (q2, .inl (a 2, 400, .inl (upd (fun _ => 0) 0 (vp_nar .byte ((x1 >>> (24 &&& 31)).toInt8.toInt32)))))] H := hP
  have hD : va_D A [(q1, .inr (9, [.ref q2, .int 1, .int 0, .ref q3, .ref q4, .ref q5, .ref q6, .int 0, .int 0, .int 0, .ref q7, .ref q8, .int 0, .int 0, .int 0, .int 0, .int 0, .int 0, .int 0, .ref q9, .int 0, .ref q10, .int 0, .ref q11, .ref q12, .ref q13, .ref q14, .ref q15, .ref q16, .ref q17, .ref q18, .ref q19, .ref q20, .ref q21, .ref q22, .ref q23])), (q2, .inl (a 2, 400, .inl (upd (fun _ => 0) 0 (vp_nar .byte ((x1 >>> (24 &&& 31)).toInt8.toInt32)))))] := hD
  refine lv_iinc (v := 16) (lv' := [(2, .int 16), (0, .ref q1), (1, .int x1)]) hx hb dX9_four_30 hl (k := 0) rfl (by decide) (by decide) rfl (fun ls hl => ?_)
  refine lv_goto (tgt := 3) hx hb dX9_four_33 (by decide) ?_
  refine lv_iload_n hx hb dX9_four_3 rfl (lv_at hl 0 rfl) ?_
  refine lv_if_lt (tgt := 36) hx hb dX9_four_4 (by decide) (fun c9 => absurd c9 (by decide)) (fun c9 => ?_)
  refine lv_aload_n hx hb dX9_four_7 rfl (lv_at hl 1 rfl) ?_
  refine va_get (D := D) (v := .ref q2) (C := RX9) (T := TX9) (N := 36) hx hb hts iX9 hown hK.1 hP 0 rfl rfl 0 (by decide) (hts _ t_882) (fun _ h9 => h9) rfl dX9_four_8 ?_
  refine lv_aload_n hx hb dX9_four_11 rfl (lv_at hl 1 rfl) ?_
  refine va_get (D := D) (v := .int 1) (C := RX9) (T := TX9) (N := 36) hx hb hts iX9 hown hK.1 hP 0 rfl rfl 1 (by decide) (hts _ t_883) (fun _ h9 => h9) rfl dX9_four_12 ?_
  refine lv_iload_n hx hb dX9_four_15 rfl (lv_at hl 2 rfl) ?_
  refine lv_iload_n hx hb dX9_four_16 rfl (lv_at hl 0 rfl) ?_
  refine lv_ishr hx hb dX9_four_17 ?_
  refine lv_i2b (v := (x1 >>> (16 &&& 31)).toInt8.toInt32) hx hb dX9_four_18 rfl ?_
  refine ast_b hx hb hK.1 hP hD hS 1 2 rfl rfl 1 (ix_lit (by decide)) dX9_four_19 (fun H locs hP hD hS => ?_)
  have hP : va_P D classes [(q1, .inr (9, [.ref q2, .int 1, .int 0, .ref q3, .ref q4, .ref q5, .ref q6, .int 0, .int 0, .int 0, .ref q7, .ref q8, .int 0, .int 0, .int 0, .int 0, .int 0, .int 0, .int 0, .ref q9, .int 0, .ref q10, .int 0, .ref q11, .ref q12, .ref q13, .ref q14, .ref q15, .ref q16, .ref q17, .ref q18, .ref q19, .ref q20, .ref q21, .ref q22, .ref q23])), (q2, .inl (a 2, 400, .inl (upd (upd (fun _ => 0) 0 (vp_nar .byte ((x1 >>> (24 &&& 31)).toInt8.toInt32))) 1 (vp_nar .byte ((x1 >>> (16 &&& 31)).toInt8.toInt32)))))] H := hP
  have hD : va_D A [(q1, .inr (9, [.ref q2, .int 1, .int 0, .ref q3, .ref q4, .ref q5, .ref q6, .int 0, .int 0, .int 0, .ref q7, .ref q8, .int 0, .int 0, .int 0, .int 0, .int 0, .int 0, .int 0, .ref q9, .int 0, .ref q10, .int 0, .ref q11, .ref q12, .ref q13, .ref q14, .ref q15, .ref q16, .ref q17, .ref q18, .ref q19, .ref q20, .ref q21, .ref q22, .ref q23])), (q2, .inl (a 2, 400, .inl (upd (upd (fun _ => 0) 0 (vp_nar .byte ((x1 >>> (24 &&& 31)).toInt8.toInt32))) 1 (vp_nar .byte ((x1 >>> (16 &&& 31)).toInt8.toInt32)))))] := hD
  refine lv_aload_n hx hb dX9_four_20 rfl (lv_at hl 1 rfl) ?_
  refine lv_dup hx hb dX9_four_21 rfl ?_
  refine va_get (D := D) (v := .int 1) (C := RX9) (T := TX9) (N := 36) hx hb hts iX9 hown hK.1 hP 0 rfl rfl 1 (by decide) (hts _ t_883) (fun _ h9 => h9) rfl dX9_four_22 ?_
  refine lv_iconst (v := 1) hx hb dX9_four_25 (by decide) ?_
  refine lv_iadd hx hb dX9_four_26 ?_
  refine lv_topi (fun x1668 ex1668 => ?_)
  obtain rfl : x1668 = 2 := ex1668.trans (by decide)
  refine va_put (D := D) (v := .int 2) (C := RX9) (T := TX9) (N := 36) hx hb hts iX9 tyX9 tyX9_ok nmX9 hown hK.1 hP hD hS 0 rfl rfl 1 (by decide) (hts _ t_883) (fun _ h9 => h9) rfl (tyX9_ok 1 (by decide)) rfl rfl (Nat.le_of_ble_eq_true rfl) dX9_four_27 (fun H locs hP hD hS => ?_)
  have hP : va_P D classes [(q1, .inr (9, [.ref q2, .int 2, .int 0, .ref q3, .ref q4, .ref q5, .ref q6, .int 0, .int 0, .int 0, .ref q7, .ref q8, .int 0, .int 0, .int 0, .int 0, .int 0, .int 0, .int 0, .ref q9, .int 0, .ref q10, .int 0, .ref q11, .ref q12, .ref q13, .ref q14, .ref q15, .ref q16, .ref q17, .ref q18, .ref q19, .ref q20, .ref q21, .ref q22, .ref q23])), (q2, .inl (a 2, 400, .inl (upd (upd (fun _ => 0) 0 (vp_nar .byte ((x1 >>> (24 &&& 31)).toInt8.toInt32))) 1 (vp_nar .byte ((x1 >>> (16 &&& 31)).toInt8.toInt32)))))] H := hP
  have hD : va_D A [(q1, .inr (9, [.ref q2, .int 2, .int 0, .ref q3, .ref q4, .ref q5, .ref q6, .int 0, .int 0, .int 0, .ref q7, .ref q8, .int 0, .int 0, .int 0, .int 0, .int 0, .int 0, .int 0, .ref q9, .int 0, .ref q10, .int 0, .ref q11, .ref q12, .ref q13, .ref q14, .ref q15, .ref q16, .ref q17, .ref q18, .ref q19, .ref q20, .ref q21, .ref q22, .ref q23])), (q2, .inl (a 2, 400, .inl (upd (upd (fun _ => 0) 0 (vp_nar .byte ((x1 >>> (24 &&& 31)).toInt8.toInt32))) 1 (vp_nar .byte ((x1 >>> (16 &&& 31)).toInt8.toInt32)))))] := hD
  refine lv_iinc (v := 8) (lv' := [(2, .int 8), (0, .ref q1), (1, .int x1)]) hx hb dX9_four_30 hl (k := 0) rfl (by decide) (by decide) rfl (fun ls hl => ?_)
  refine lv_goto (tgt := 3) hx hb dX9_four_33 (by decide) ?_
  refine lv_iload_n hx hb dX9_four_3 rfl (lv_at hl 0 rfl) ?_
  refine lv_if_lt (tgt := 36) hx hb dX9_four_4 (by decide) (fun c9 => absurd c9 (by decide)) (fun c9 => ?_)
  refine lv_aload_n hx hb dX9_four_7 rfl (lv_at hl 1 rfl) ?_
  refine va_get (D := D) (v := .ref q2) (C := RX9) (T := TX9) (N := 36) hx hb hts iX9 hown hK.1 hP 0 rfl rfl 0 (by decide) (hts _ t_882) (fun _ h9 => h9) rfl dX9_four_8 ?_
  refine lv_aload_n hx hb dX9_four_11 rfl (lv_at hl 1 rfl) ?_
  refine va_get (D := D) (v := .int 2) (C := RX9) (T := TX9) (N := 36) hx hb hts iX9 hown hK.1 hP 0 rfl rfl 1 (by decide) (hts _ t_883) (fun _ h9 => h9) rfl dX9_four_12 ?_
  refine lv_iload_n hx hb dX9_four_15 rfl (lv_at hl 2 rfl) ?_
  refine lv_iload_n hx hb dX9_four_16 rfl (lv_at hl 0 rfl) ?_
  refine lv_ishr hx hb dX9_four_17 ?_
  refine lv_i2b (v := (x1 >>> (8 &&& 31)).toInt8.toInt32) hx hb dX9_four_18 rfl ?_
  refine ast_b hx hb hK.1 hP hD hS 1 2 rfl rfl 2 (ix_lit (by decide)) dX9_four_19 (fun H locs hP hD hS => ?_)
  have hP : va_P D classes [(q1, .inr (9, [.ref q2, .int 2, .int 0, .ref q3, .ref q4, .ref q5, .ref q6, .int 0, .int 0, .int 0, .ref q7, .ref q8, .int 0, .int 0, .int 0, .int 0, .int 0, .int 0, .int 0, .ref q9, .int 0, .ref q10, .int 0, .ref q11, .ref q12, .ref q13, .ref q14, .ref q15, .ref q16, .ref q17, .ref q18, .ref q19, .ref q20, .ref q21, .ref q22, .ref q23])), (q2, .inl (a 2, 400, .inl (upd (upd (upd (fun _ => 0) 0 (vp_nar .byte ((x1 >>> (24 &&& 31)).toInt8.toInt32))) 1 (vp_nar .byte ((x1 >>> (16 &&& 31)).toInt8.toInt32))) 2 (vp_nar .byte ((x1 >>> (8 &&& 31)).toInt8.toInt32)))))] H := hP
  have hD : va_D A [(q1, .inr (9, [.ref q2, .int 2, .int 0, .ref q3, .ref q4, .ref q5, .ref q6, .int 0, .int 0, .int 0, .ref q7, .ref q8, .int 0, .int 0, .int 0, .int 0, .int 0, .int 0, .int 0, .ref q9, .int 0, .ref q10, .int 0, .ref q11, .ref q12, .ref q13, .ref q14, .ref q15, .ref q16, .ref q17, .ref q18, .ref q19, .ref q20, .ref q21, .ref q22, .ref q23])), (q2, .inl (a 2, 400, .inl (upd (upd (upd (fun _ => 0) 0 (vp_nar .byte ((x1 >>> (24 &&& 31)).toInt8.toInt32))) 1 (vp_nar .byte ((x1 >>> (16 &&& 31)).toInt8.toInt32))) 2 (vp_nar .byte ((x1 >>> (8 &&& 31)).toInt8.toInt32)))))] := hD
  refine lv_aload_n hx hb dX9_four_20 rfl (lv_at hl 1 rfl) ?_
  refine lv_dup hx hb dX9_four_21 rfl ?_
  refine va_get (D := D) (v := .int 2) (C := RX9) (T := TX9) (N := 36) hx hb hts iX9 hown hK.1 hP 0 rfl rfl 1 (by decide) (hts _ t_883) (fun _ h9 => h9) rfl dX9_four_22 ?_
  refine lv_iconst (v := 1) hx hb dX9_four_25 (by decide) ?_
  refine lv_iadd hx hb dX9_four_26 ?_
  refine lv_topi (fun x1669 ex1669 => ?_)
  obtain rfl : x1669 = 3 := ex1669.trans (by decide)
  refine va_put (D := D) (v := .int 3) (C := RX9) (T := TX9) (N := 36) hx hb hts iX9 tyX9 tyX9_ok nmX9 hown hK.1 hP hD hS 0 rfl rfl 1 (by decide) (hts _ t_883) (fun _ h9 => h9) rfl (tyX9_ok 1 (by decide)) rfl rfl (Nat.le_of_ble_eq_true rfl) dX9_four_27 (fun H locs hP hD hS => ?_)
  have hP : va_P D classes [(q1, .inr (9, [.ref q2, .int 3, .int 0, .ref q3, .ref q4, .ref q5, .ref q6, .int 0, .int 0, .int 0, .ref q7, .ref q8, .int 0, .int 0, .int 0, .int 0, .int 0, .int 0, .int 0, .ref q9, .int 0, .ref q10, .int 0, .ref q11, .ref q12, .ref q13, .ref q14, .ref q15, .ref q16, .ref q17, .ref q18, .ref q19, .ref q20, .ref q21, .ref q22, .ref q23])), (q2, .inl (a 2, 400, .inl (upd (upd (upd (fun _ => 0) 0 (vp_nar .byte ((x1 >>> (24 &&& 31)).toInt8.toInt32))) 1 (vp_nar .byte ((x1 >>> (16 &&& 31)).toInt8.toInt32))) 2 (vp_nar .byte ((x1 >>> (8 &&& 31)).toInt8.toInt32)))))] H := hP
  have hD : va_D A [(q1, .inr (9, [.ref q2, .int 3, .int 0, .ref q3, .ref q4, .ref q5, .ref q6, .int 0, .int 0, .int 0, .ref q7, .ref q8, .int 0, .int 0, .int 0, .int 0, .int 0, .int 0, .int 0, .ref q9, .int 0, .ref q10, .int 0, .ref q11, .ref q12, .ref q13, .ref q14, .ref q15, .ref q16, .ref q17, .ref q18, .ref q19, .ref q20, .ref q21, .ref q22, .ref q23])), (q2, .inl (a 2, 400, .inl (upd (upd (upd (fun _ => 0) 0 (vp_nar .byte ((x1 >>> (24 &&& 31)).toInt8.toInt32))) 1 (vp_nar .byte ((x1 >>> (16 &&& 31)).toInt8.toInt32))) 2 (vp_nar .byte ((x1 >>> (8 &&& 31)).toInt8.toInt32)))))] := hD
  refine lv_iinc (v := 0) (lv' := [(2, .int 0), (0, .ref q1), (1, .int x1)]) hx hb dX9_four_30 hl (k := 0) rfl (by decide) (by decide) rfl (fun ls hl => ?_)
  refine lv_goto (tgt := 3) hx hb dX9_four_33 (by decide) ?_
  refine lv_iload_n hx hb dX9_four_3 rfl (lv_at hl 0 rfl) ?_
  refine lv_if_lt (tgt := 36) hx hb dX9_four_4 (by decide) (fun c9 => absurd c9 (by decide)) (fun c9 => ?_)
  refine lv_aload_n hx hb dX9_four_7 rfl (lv_at hl 1 rfl) ?_
  refine va_get (D := D) (v := .ref q2) (C := RX9) (T := TX9) (N := 36) hx hb hts iX9 hown hK.1 hP 0 rfl rfl 0 (by decide) (hts _ t_882) (fun _ h9 => h9) rfl dX9_four_8 ?_
  refine lv_aload_n hx hb dX9_four_11 rfl (lv_at hl 1 rfl) ?_
  refine va_get (D := D) (v := .int 3) (C := RX9) (T := TX9) (N := 36) hx hb hts iX9 hown hK.1 hP 0 rfl rfl 1 (by decide) (hts _ t_883) (fun _ h9 => h9) rfl dX9_four_12 ?_
  refine lv_iload_n hx hb dX9_four_15 rfl (lv_at hl 2 rfl) ?_
  refine lv_iload_n hx hb dX9_four_16 rfl (lv_at hl 0 rfl) ?_
  refine lv_ishr hx hb dX9_four_17 ?_
  refine lv_i2b (v := (x1 >>> (0 &&& 31)).toInt8.toInt32) hx hb dX9_four_18 rfl ?_
  refine ast_b hx hb hK.1 hP hD hS 1 2 rfl rfl 3 (ix_lit (by decide)) dX9_four_19 (fun H locs hP hD hS => ?_)
  have hP : va_P D classes [(q1, .inr (9, [.ref q2, .int 3, .int 0, .ref q3, .ref q4, .ref q5, .ref q6, .int 0, .int 0, .int 0, .ref q7, .ref q8, .int 0, .int 0, .int 0, .int 0, .int 0, .int 0, .int 0, .ref q9, .int 0, .ref q10, .int 0, .ref q11, .ref q12, .ref q13, .ref q14, .ref q15, .ref q16, .ref q17, .ref q18, .ref q19, .ref q20, .ref q21, .ref q22, .ref q23])), (q2, .inl (a 2, 400, .inl (upd (upd (upd (upd (fun _ => 0) 0 (vp_nar .byte ((x1 >>> (24 &&& 31)).toInt8.toInt32))) 1 (vp_nar .byte ((x1 >>> (16 &&& 31)).toInt8.toInt32))) 2 (vp_nar .byte ((x1 >>> (8 &&& 31)).toInt8.toInt32))) 3 (vp_nar .byte ((x1 >>> (0 &&& 31)).toInt8.toInt32)))))] H := hP
  have hD : va_D A [(q1, .inr (9, [.ref q2, .int 3, .int 0, .ref q3, .ref q4, .ref q5, .ref q6, .int 0, .int 0, .int 0, .ref q7, .ref q8, .int 0, .int 0, .int 0, .int 0, .int 0, .int 0, .int 0, .ref q9, .int 0, .ref q10, .int 0, .ref q11, .ref q12, .ref q13, .ref q14, .ref q15, .ref q16, .ref q17, .ref q18, .ref q19, .ref q20, .ref q21, .ref q22, .ref q23])), (q2, .inl (a 2, 400, .inl (upd (upd (upd (upd (fun _ => 0) 0 (vp_nar .byte ((x1 >>> (24 &&& 31)).toInt8.toInt32))) 1 (vp_nar .byte ((x1 >>> (16 &&& 31)).toInt8.toInt32))) 2 (vp_nar .byte ((x1 >>> (8 &&& 31)).toInt8.toInt32))) 3 (vp_nar .byte ((x1 >>> (0 &&& 31)).toInt8.toInt32)))))] := hD
  refine lv_aload_n hx hb dX9_four_20 rfl (lv_at hl 1 rfl) ?_
  refine lv_dup hx hb dX9_four_21 rfl ?_
  refine va_get (D := D) (v := .int 3) (C := RX9) (T := TX9) (N := 36) hx hb hts iX9 hown hK.1 hP 0 rfl rfl 1 (by decide) (hts _ t_883) (fun _ h9 => h9) rfl dX9_four_22 ?_
  refine lv_iconst (v := 1) hx hb dX9_four_25 (by decide) ?_
  refine lv_iadd hx hb dX9_four_26 ?_
  refine lv_topi (fun x1670 ex1670 => ?_)
  obtain rfl : x1670 = 4 := ex1670.trans (by decide)
  refine va_put (D := D) (v := .int 4) (C := RX9) (T := TX9) (N := 36) hx hb hts iX9 tyX9 tyX9_ok nmX9 hown hK.1 hP hD hS 0 rfl rfl 1 (by decide) (hts _ t_883) (fun _ h9 => h9) rfl (tyX9_ok 1 (by decide)) rfl rfl (Nat.le_of_ble_eq_true rfl) dX9_four_27 (fun H locs hP hD hS => ?_)
  have hP : va_P D classes [(q1, .inr (9, [.ref q2, .int 4, .int 0, .ref q3, .ref q4, .ref q5, .ref q6, .int 0, .int 0, .int 0, .ref q7, .ref q8, .int 0, .int 0, .int 0, .int 0, .int 0, .int 0, .int 0, .ref q9, .int 0, .ref q10, .int 0, .ref q11, .ref q12, .ref q13, .ref q14, .ref q15, .ref q16, .ref q17, .ref q18, .ref q19, .ref q20, .ref q21, .ref q22, .ref q23])), (q2, .inl (a 2, 400, .inl (upd (upd (upd (upd (fun _ => 0) 0 (vp_nar .byte ((x1 >>> (24 &&& 31)).toInt8.toInt32))) 1 (vp_nar .byte ((x1 >>> (16 &&& 31)).toInt8.toInt32))) 2 (vp_nar .byte ((x1 >>> (8 &&& 31)).toInt8.toInt32))) 3 (vp_nar .byte ((x1 >>> (0 &&& 31)).toInt8.toInt32)))))] H := hP
  have hD : va_D A [(q1, .inr (9, [.ref q2, .int 4, .int 0, .ref q3, .ref q4, .ref q5, .ref q6, .int 0, .int 0, .int 0, .ref q7, .ref q8, .int 0, .int 0, .int 0, .int 0, .int 0, .int 0, .int 0, .ref q9, .int 0, .ref q10, .int 0, .ref q11, .ref q12, .ref q13, .ref q14, .ref q15, .ref q16, .ref q17, .ref q18, .ref q19, .ref q20, .ref q21, .ref q22, .ref q23])), (q2, .inl (a 2, 400, .inl (upd (upd (upd (upd (fun _ => 0) 0 (vp_nar .byte ((x1 >>> (24 &&& 31)).toInt8.toInt32))) 1 (vp_nar .byte ((x1 >>> (16 &&& 31)).toInt8.toInt32))) 2 (vp_nar .byte ((x1 >>> (8 &&& 31)).toInt8.toInt32))) 3 (vp_nar .byte ((x1 >>> (0 &&& 31)).toInt8.toInt32)))))] := hD
  refine lv_iinc (v := (-8)) (lv' := [(2, .int (-8)), (0, .ref q1), (1, .int x1)]) hx hb dX9_four_30 hl (k := 0) rfl (by decide) (by decide) rfl (fun ls hl => ?_)
  refine lv_goto (tgt := 3) hx hb dX9_four_33 (by decide) ?_
  refine lv_iload_n hx hb dX9_four_3 rfl (lv_at hl 0 rfl) ?_
  refine lv_if_lt (tgt := 36) hx hb dX9_four_4 (by decide) (fun c9 => ?_) (fun c9 => absurd (by decide) c9)
  exact retMv C rfl (0, [], [], [], [(upd (upd (upd (upd (fun _ => 0) 0 (vp_nar .byte ((x1 >>> (24 &&& 31)).toInt8.toInt32))) 1 (vp_nar .byte ((x1 >>> (16 &&& 31)).toInt8.toInt32))) 2 (vp_nar .byte ((x1 >>> (8 &&& 31)).toInt8.toInt32))) 3 (vp_nar .byte ((x1 >>> (0 &&& 31)).toInt8.toInt32)))], []) ⟨(upd (upd (upd (upd (fun _ => 0) 0 (vp_nar .byte ((x1 >>> (24 &&& 31)).toInt8.toInt32))) 1 (vp_nar .byte ((x1 >>> (16 &&& 31)).toInt8.toInt32))) 2 (vp_nar .byte ((x1 >>> (8 &&& 31)).toInt8.toInt32))) 3 (vp_nar .byte ((x1 >>> (0 &&& 31)).toInt8.toInt32))), rfl⟩ hP hD hS (Nat.le_of_ble_eq_true rfl) (Nat.le_of_ble_eq_true rfl) dX9_four_36

set_option maxHeartbeats 4000000 in
set_option maxRecDepth 100000 in
theorem c_X9_four_1 (l : Launch) (D : va_G) (a : Nat → ClassId) (q1 q2 q3 q4 q5 q6 q7 q8 q9 q10 q11 q12 q13 q14 q15 q16 q17 q18 q19 q20 q21 q22 q23 : Nat) (x1 : Int32) (f1 : Nat → Int32) (sz : Nat) : CMv (S := SS) l MX9_four 0 0 0 0 D a [.ref q1, .int x1] [(q1, .inr (9, [.ref q2, .int 4, .int 0, .ref q3, .ref q4, .ref q5, .ref q6, .int 0, .int 0, .int 0, .ref q7, .ref q8, .int 0, .int 0, .int 0, .int 0, .int 0, .int 0, .int 0, .ref q9, .int 0, .ref q10, .int 0, .ref q11, .ref q12, .ref q13, .ref q14, .ref q15, .ref q16, .ref q17, .ref q18, .ref q19, .ref q20, .ref q21, .ref q22, .ref q23])), (q2, .inl (a 2, 400, .inl f1))] sz (fun u => (∃ f1684 : Nat → Int32, u = (0, [], [], [], [f1684], []))) (fun u => pk [[(q1, .inr (9, [.ref q2, .int 8, .int 0, .ref q3, .ref q4, .ref q5, .ref q6, .int 0, .int 0, .int 0, .ref q7, .ref q8, .int 0, .int 0, .int 0, .int 0, .int 0, .int 0, .int 0, .ref q9, .int 0, .ref q10, .int 0, .ref q11, .ref q12, .ref q13, .ref q14, .ref q15, .ref q16, .ref q17, .ref q18, .ref q19, .ref q20, .ref q21, .ref q22, .ref q23])), (q2, .inl (a 2, 400, .inl (u.2.2.2.2.1.getD 0 (fun _ => 0))))]] u.1) := by
  refine entMv (by decide) (Nat.le_of_ble_eq_true rfl) ?_
  intro p e s m below meth c C hK A hA hP hD ls hl
  obtain ⟨hx, hb, hml, hown, hts, hr, hlocks, hnm⟩ := id C
  have hb : c.code = cX9_four := hb
  have hown : s.vm.findClass RX9 = some m.cls := hown
  have hS : va_S A s.heap s.heap [] := va_S.rf
  have hl : lv_has ls 3 [(0, .ref q1), (1, .int x1)] := hl
  refine lv_bipush (v := 24) hx hb dX9_four_0 (by decide) ?_
  refine lv_istore_n (lv' := [(2, .int 24), (0, .ref q1), (1, .int x1)]) hx hb dX9_four_2 rfl hl (by decide) rfl (fun ls hl => ?_)
  refine lv_iload_n hx hb dX9_four_3 rfl (lv_at hl 0 rfl) ?_
  refine lv_if_lt (tgt := 36) hx hb dX9_four_4 (by decide) (fun c9 => absurd c9 (by decide)) (fun c9 => ?_)
  refine lv_aload_n hx hb dX9_four_7 rfl (lv_at hl 1 rfl) ?_
  refine va_get (D := D) (v := .ref q2) (C := RX9) (T := TX9) (N := 36) hx hb hts iX9 hown hK.1 hP 0 rfl rfl 0 (by decide) (hts _ t_882) (fun _ h9 => h9) rfl dX9_four_8 ?_
  refine lv_aload_n hx hb dX9_four_11 rfl (lv_at hl 1 rfl) ?_
  refine va_get (D := D) (v := .int 4) (C := RX9) (T := TX9) (N := 36) hx hb hts iX9 hown hK.1 hP 0 rfl rfl 1 (by decide) (hts _ t_883) (fun _ h9 => h9) rfl dX9_four_12 ?_
  refine lv_iload_n hx hb dX9_four_15 rfl (lv_at hl 2 rfl) ?_
  refine lv_iload_n hx hb dX9_four_16 rfl (lv_at hl 0 rfl) ?_
  refine lv_ishr hx hb dX9_four_17 ?_
  refine lv_i2b (v := (x1 >>> (24 &&& 31)).toInt8.toInt32) hx hb dX9_four_18 rfl ?_
  refine ast_b hx hb hK.1 hP hD hS 1 2 rfl rfl 4 (ix_lit (by decide)) dX9_four_19 (fun H locs hP hD hS => ?_)
  have hP : va_P D classes [(q1, .inr (9, [.ref q2, .int 4, .int 0, .ref q3, .ref q4, .ref q5, .ref q6, .int 0, .int 0, .int 0, .ref q7, .ref q8, .int 0, .int 0, .int 0, .int 0, .int 0, .int 0, .int 0, .ref q9, .int 0, .ref q10, .int 0, .ref q11, .ref q12, .ref q13, .ref q14, .ref q15, .ref q16, .ref q17, .ref q18, .ref q19, .ref q20, .ref q21, .ref q22, .ref q23])), (q2, .inl (a 2, 400, .inl (upd f1 4 (vp_nar .byte ((x1 >>> (24 &&& 31)).toInt8.toInt32)))))] H := hP
  have hD : va_D A [(q1, .inr (9, [.ref q2, .int 4, .int 0, .ref q3, .ref q4, .ref q5, .ref q6, .int 0, .int 0, .int 0, .ref q7, .ref q8, .int 0, .int 0, .int 0, .int 0, .int 0, .int 0, .int 0, .ref q9, .int 0, .ref q10, .int 0, .ref q11, .ref q12, .ref q13, .ref q14, .ref q15, .ref q16, .ref q17, .ref q18, .ref q19, .ref q20, .ref q21, .ref q22, .ref q23])), (q2, .inl (a 2, 400, .inl (upd f1 4 (vp_nar .byte ((x1 >>> (24 &&& 31)).toInt8.toInt32)))))] := hD
  refine lv_aload_n hx hb dX9_four_20 rfl (lv_at hl 1 rfl) ?_
  refine lv_dup hx hb dX9_four_21 rfl ?_
  refine va_get (D := D) (v := .int 4) (C := RX9) (T := TX9) (N := 36) hx hb hts iX9 hown hK.1 hP 0 rfl rfl 1 (by decide) (hts _ t_883) (fun _ h9 => h9) rfl dX9_four_22 ?_
  refine lv_iconst (v := 1) hx hb dX9_four_25 (by decide) ?_
  refine lv_iadd hx hb dX9_four_26 ?_
  refine lv_topi (fun x1680 ex1680 => ?_)
  obtain rfl : x1680 = 5 := ex1680.trans (by decide)
  refine va_put (D := D) (v := .int 5) (C := RX9) (T := TX9) (N := 36) hx hb hts iX9 tyX9 tyX9_ok nmX9 hown hK.1 hP hD hS 0 rfl rfl 1 (by decide) (hts _ t_883) (fun _ h9 => h9) rfl (tyX9_ok 1 (by decide)) rfl rfl (Nat.le_of_ble_eq_true rfl) dX9_four_27 (fun H locs hP hD hS => ?_)
  have hP : va_P D classes [(q1, .inr (9, [.ref q2, .int 5, .int 0, .ref q3, .ref q4, .ref q5, .ref q6, .int 0, .int 0, .int 0, .ref q7, .ref q8, .int 0, .int 0, .int 0, .int 0, .int 0, .int 0, .int 0, .ref q9, .int 0, .ref q10, .int 0, .ref q11, .ref q12, .ref q13, .ref q14, .ref q15, .ref q16, .ref q17, .ref q18, .ref q19, .ref q20, .ref q21, .ref q22, .ref q23])), (q2, .inl (a 2, 400, .inl (upd f1 4 (vp_nar .byte ((x1 >>> (24 &&& 31)).toInt8.toInt32)))))] H := hP
  have hD : va_D A [(q1, .inr (9, [.ref q2, .int 5, .int 0, .ref q3, .ref q4, .ref q5, .ref q6, .int 0, .int 0, .int 0, .ref q7, .ref q8, .int 0, .int 0, .int 0, .int 0, .int 0, .int 0, .int 0, .ref q9, .int 0, .ref q10, .int 0, .ref q11, .ref q12, .ref q13, .ref q14, .ref q15, .ref q16, .ref q17, .ref q18, .ref q19, .ref q20, .ref q21, .ref q22, .ref q23])), (q2, .inl (a 2, 400, .inl (upd f1 4 (vp_nar .byte ((x1 >>> (24 &&& 31)).toInt8.toInt32)))))] := hD
  refine lv_iinc (v := 16) (lv' := [(2, .int 16), (0, .ref q1), (1, .int x1)]) hx hb dX9_four_30 hl (k := 0) rfl (by decide) (by decide) rfl (fun ls hl => ?_)
  refine lv_goto (tgt := 3) hx hb dX9_four_33 (by decide) ?_
  refine lv_iload_n hx hb dX9_four_3 rfl (lv_at hl 0 rfl) ?_
  refine lv_if_lt (tgt := 36) hx hb dX9_four_4 (by decide) (fun c9 => absurd c9 (by decide)) (fun c9 => ?_)
  refine lv_aload_n hx hb dX9_four_7 rfl (lv_at hl 1 rfl) ?_
  refine va_get (D := D) (v := .ref q2) (C := RX9) (T := TX9) (N := 36) hx hb hts iX9 hown hK.1 hP 0 rfl rfl 0 (by decide) (hts _ t_882) (fun _ h9 => h9) rfl dX9_four_8 ?_
  refine lv_aload_n hx hb dX9_four_11 rfl (lv_at hl 1 rfl) ?_
  refine va_get (D := D) (v := .int 5) (C := RX9) (T := TX9) (N := 36) hx hb hts iX9 hown hK.1 hP 0 rfl rfl 1 (by decide) (hts _ t_883) (fun _ h9 => h9) rfl dX9_four_12 ?_
  refine lv_iload_n hx hb dX9_four_15 rfl (lv_at hl 2 rfl) ?_
  refine lv_iload_n hx hb dX9_four_16 rfl (lv_at hl 0 rfl) ?_
  refine lv_ishr hx hb dX9_four_17 ?_
  refine lv_i2b (v := (x1 >>> (16 &&& 31)).toInt8.toInt32) hx hb dX9_four_18 rfl ?_
  refine ast_b hx hb hK.1 hP hD hS 1 2 rfl rfl 5 (ix_lit (by decide)) dX9_four_19 (fun H locs hP hD hS => ?_)
  have hP : va_P D classes [(q1, .inr (9, [.ref q2, .int 5, .int 0, .ref q3, .ref q4, .ref q5, .ref q6, .int 0, .int 0, .int 0, .ref q7, .ref q8, .int 0, .int 0, .int 0, .int 0, .int 0, .int 0, .int 0, .ref q9, .int 0, .ref q10, .int 0, .ref q11, .ref q12, .ref q13, .ref q14, .ref q15, .ref q16, .ref q17, .ref q18, .ref q19, .ref q20, .ref q21, .ref q22, .ref q23])), (q2, .inl (a 2, 400, .inl (upd (upd f1 4 (vp_nar .byte ((x1 >>> (24 &&& 31)).toInt8.toInt32))) 5 (vp_nar .byte ((x1 >>> (16 &&& 31)).toInt8.toInt32)))))] H := hP
  have hD : va_D A [(q1, .inr (9, [.ref q2, .int 5, .int 0, .ref q3, .ref q4, .ref q5, .ref q6, .int 0, .int 0, .int 0, .ref q7, .ref q8, .int 0, .int 0, .int 0, .int 0, .int 0, .int 0, .int 0, .ref q9, .int 0, .ref q10, .int 0, .ref q11, .ref q12, .ref q13, .ref q14, .ref q15, .ref q16, .ref q17, .ref q18, .ref q19, .ref q20, .ref q21, .ref q22, .ref q23])), (q2, .inl (a 2, 400, .inl (upd (upd f1 4 (vp_nar .byte ((x1 >>> (24 &&& 31)).toInt8.toInt32))) 5 (vp_nar .byte ((x1 >>> (16 &&& 31)).toInt8.toInt32)))))] := hD
  refine lv_aload_n hx hb dX9_four_20 rfl (lv_at hl 1 rfl) ?_
  refine lv_dup hx hb dX9_four_21 rfl ?_
  refine va_get (D := D) (v := .int 5) (C := RX9) (T := TX9) (N := 36) hx hb hts iX9 hown hK.1 hP 0 rfl rfl 1 (by decide) (hts _ t_883) (fun _ h9 => h9) rfl dX9_four_22 ?_
  refine lv_iconst (v := 1) hx hb dX9_four_25 (by decide) ?_
  refine lv_iadd hx hb dX9_four_26 ?_
  refine lv_topi (fun x1681 ex1681 => ?_)
  obtain rfl : x1681 = 6 := ex1681.trans (by decide)
  refine va_put (D := D) (v := .int 6) (C := RX9) (T := TX9) (N := 36) hx hb hts iX9 tyX9 tyX9_ok nmX9 hown hK.1 hP hD hS 0 rfl rfl 1 (by decide) (hts _ t_883) (fun _ h9 => h9) rfl (tyX9_ok 1 (by decide)) rfl rfl (Nat.le_of_ble_eq_true rfl) dX9_four_27 (fun H locs hP hD hS => ?_)
  have hP : va_P D classes [(q1, .inr (9, [.ref q2, .int 6, .int 0, .ref q3, .ref q4, .ref q5, .ref q6, .int 0, .int 0, .int 0, .ref q7, .ref q8, .int 0, .int 0, .int 0, .int 0, .int 0, .int 0, .int 0, .ref q9, .int 0, .ref q10, .int 0, .ref q11, .ref q12, .ref q13, .ref q14, .ref q15, .ref q16, .ref q17, .ref q18, .ref q19, .ref q20, .ref q21, .ref q22, .ref q23])), (q2, .inl (a 2, 400, .inl (upd (upd f1 4 (vp_nar .byte ((x1 >>> (24 &&& 31)).toInt8.toInt32))) 5 (vp_nar .byte ((x1 >>> (16 &&& 31)).toInt8.toInt32)))))] H := hP
  have hD : va_D A [(q1, .inr (9, [.ref q2, .int 6, .int 0, .ref q3, .ref q4, .ref q5, .ref q6, .int 0, .int 0, .int 0, .ref q7, .ref q8, .int 0, .int 0, .int 0, .int 0, .int 0, .int 0, .int 0, .ref q9, .int 0, .ref q10, .int 0, .ref q11, .ref q12, .ref q13, .ref q14, .ref q15, .ref q16, .ref q17, .ref q18, .ref q19, .ref q20, .ref q21, .ref q22, .ref q23])), (q2, .inl (a 2, 400, .inl (upd (upd f1 4 (vp_nar .byte ((x1 >>> (24 &&& 31)).toInt8.toInt32))) 5 (vp_nar .byte ((x1 >>> (16 &&& 31)).toInt8.toInt32)))))] := hD
  refine lv_iinc (v := 8) (lv' := [(2, .int 8), (0, .ref q1), (1, .int x1)]) hx hb dX9_four_30 hl (k := 0) rfl (by decide) (by decide) rfl (fun ls hl => ?_)
  refine lv_goto (tgt := 3) hx hb dX9_four_33 (by decide) ?_
  refine lv_iload_n hx hb dX9_four_3 rfl (lv_at hl 0 rfl) ?_
  refine lv_if_lt (tgt := 36) hx hb dX9_four_4 (by decide) (fun c9 => absurd c9 (by decide)) (fun c9 => ?_)
  refine lv_aload_n hx hb dX9_four_7 rfl (lv_at hl 1 rfl) ?_
  refine va_get (D := D) (v := .ref q2) (C := RX9) (T := TX9) (N := 36) hx hb hts iX9 hown hK.1 hP 0 rfl rfl 0 (by decide) (hts _ t_882) (fun _ h9 => h9) rfl dX9_four_8 ?_
  refine lv_aload_n hx hb dX9_four_11 rfl (lv_at hl 1 rfl) ?_
  refine va_get (D := D) (v := .int 6) (C := RX9) (T := TX9) (N := 36) hx hb hts iX9 hown hK.1 hP 0 rfl rfl 1 (by decide) (hts _ t_883) (fun _ h9 => h9) rfl dX9_four_12 ?_
  refine lv_iload_n hx hb dX9_four_15 rfl (lv_at hl 2 rfl) ?_
  refine lv_iload_n hx hb dX9_four_16 rfl (lv_at hl 0 rfl) ?_
  refine lv_ishr hx hb dX9_four_17 ?_
  refine lv_i2b (v := (x1 >>> (8 &&& 31)).toInt8.toInt32) hx hb dX9_four_18 rfl ?_
  refine ast_b hx hb hK.1 hP hD hS 1 2 rfl rfl 6 (ix_lit (by decide)) dX9_four_19 (fun H locs hP hD hS => ?_)
  have hP : va_P D classes [(q1, .inr (9, [.ref q2, .int 6, .int 0, .ref q3, .ref q4, .ref q5, .ref q6, .int 0, .int 0, .int 0, .ref q7, .ref q8, .int 0, .int 0, .int 0, .int 0, .int 0, .int 0, .int 0, .ref q9, .int 0, .ref q10, .int 0, .ref q11, .ref q12, .ref q13, .ref q14, .ref q15, .ref q16, .ref q17, .ref q18, .ref q19, .ref q20, .ref q21, .ref q22, .ref q23])), (q2, .inl (a 2, 400, .inl (upd (upd (upd f1 4 (vp_nar .byte ((x1 >>> (24 &&& 31)).toInt8.toInt32))) 5 (vp_nar .byte ((x1 >>> (16 &&& 31)).toInt8.toInt32))) 6 (vp_nar .byte ((x1 >>> (8 &&& 31)).toInt8.toInt32)))))] H := hP
  have hD : va_D A [(q1, .inr (9, [.ref q2, .int 6, .int 0, .ref q3, .ref q4, .ref q5, .ref q6, .int 0, .int 0, .int 0, .ref q7, .ref q8, .int 0, .int 0, .int 0, .int 0, .int 0, .int 0, .int 0, .ref q9, .int 0, .ref q10, .int 0, .ref q11, .ref q12, .ref q13, .ref q14, .ref q15, .ref q16, .ref q17, .ref q18, .ref q19, .ref q20, .ref q21, .ref q22, .ref q23])), (q2, .inl (a 2, 400, .inl (upd (upd (upd f1 4 (vp_nar .byte ((x1 >>> (24 &&& 31)).toInt8.toInt32))) 5 (vp_nar .byte ((x1 >>> (16 &&& 31)).toInt8.toInt32))) 6 (vp_nar .byte ((x1 >>> (8 &&& 31)).toInt8.toInt32)))))] := hD
  refine lv_aload_n hx hb dX9_four_20 rfl (lv_at hl 1 rfl) ?_
  refine lv_dup hx hb dX9_four_21 rfl ?_
  refine va_get (D := D) (v := .int 6) (C := RX9) (T := TX9) (N := 36) hx hb hts iX9 hown hK.1 hP 0 rfl rfl 1 (by decide) (hts _ t_883) (fun _ h9 => h9) rfl dX9_four_22 ?_
  refine lv_iconst (v := 1) hx hb dX9_four_25 (by decide) ?_
  refine lv_iadd hx hb dX9_four_26 ?_
  refine lv_topi (fun x1682 ex1682 => ?_)
  obtain rfl : x1682 = 7 := ex1682.trans (by decide)
  refine va_put (D := D) (v := .int 7) (C := RX9) (T := TX9) (N := 36) hx hb hts iX9 tyX9 tyX9_ok nmX9 hown hK.1 hP hD hS 0 rfl rfl 1 (by decide) (hts _ t_883) (fun _ h9 => h9) rfl (tyX9_ok 1 (by decide)) rfl rfl (Nat.le_of_ble_eq_true rfl) dX9_four_27 (fun H locs hP hD hS => ?_)
  have hP : va_P D classes [(q1, .inr (9, [.ref q2, .int 7, .int 0, .ref q3, .ref q4, .ref q5, .ref q6, .int 0, .int 0, .int 0, .ref q7, .ref q8, .int 0, .int 0, .int 0, .int 0, .int 0, .int 0, .int 0, .ref q9, .int 0, .ref q10, .int 0, .ref q11, .ref q12, .ref q13, .ref q14, .ref q15, .ref q16, .ref q17, .ref q18, .ref q19, .ref q20, .ref q21, .ref q22, .ref q23])), (q2, .inl (a 2, 400, .inl (upd (upd (upd f1 4 (vp_nar .byte ((x1 >>> (24 &&& 31)).toInt8.toInt32))) 5 (vp_nar .byte ((x1 >>> (16 &&& 31)).toInt8.toInt32))) 6 (vp_nar .byte ((x1 >>> (8 &&& 31)).toInt8.toInt32)))))] H := hP
  have hD : va_D A [(q1, .inr (9, [.ref q2, .int 7, .int 0, .ref q3, .ref q4, .ref q5, .ref q6, .int 0, .int 0, .int 0, .ref q7, .ref q8, .int 0, .int 0, .int 0, .int 0, .int 0, .int 0, .int 0, .ref q9, .int 0, .ref q10, .int 0, .ref q11, .ref q12, .ref q13, .ref q14, .ref q15, .ref q16, .ref q17, .ref q18, .ref q19, .ref q20, .ref q21, .ref q22, .ref q23])), (q2, .inl (a 2, 400, .inl (upd (upd (upd f1 4 (vp_nar .byte ((x1 >>> (24 &&& 31)).toInt8.toInt32))) 5 (vp_nar .byte ((x1 >>> (16 &&& 31)).toInt8.toInt32))) 6 (vp_nar .byte ((x1 >>> (8 &&& 31)).toInt8.toInt32)))))] := hD
  refine lv_iinc (v := 0) (lv' := [(2, .int 0), (0, .ref q1), (1, .int x1)]) hx hb dX9_four_30 hl (k := 0) rfl (by decide) (by decide) rfl (fun ls hl => ?_)
  refine lv_goto (tgt := 3) hx hb dX9_four_33 (by decide) ?_
  refine lv_iload_n hx hb dX9_four_3 rfl (lv_at hl 0 rfl) ?_
  refine lv_if_lt (tgt := 36) hx hb dX9_four_4 (by decide) (fun c9 => absurd c9 (by decide)) (fun c9 => ?_)
  refine lv_aload_n hx hb dX9_four_7 rfl (lv_at hl 1 rfl) ?_
  refine va_get (D := D) (v := .ref q2) (C := RX9) (T := TX9) (N := 36) hx hb hts iX9 hown hK.1 hP 0 rfl rfl 0 (by decide) (hts _ t_882) (fun _ h9 => h9) rfl dX9_four_8 ?_
  refine lv_aload_n hx hb dX9_four_11 rfl (lv_at hl 1 rfl) ?_
  refine va_get (D := D) (v := .int 7) (C := RX9) (T := TX9) (N := 36) hx hb hts iX9 hown hK.1 hP 0 rfl rfl 1 (by decide) (hts _ t_883) (fun _ h9 => h9) rfl dX9_four_12 ?_
  refine lv_iload_n hx hb dX9_four_15 rfl (lv_at hl 2 rfl) ?_
  refine lv_iload_n hx hb dX9_four_16 rfl (lv_at hl 0 rfl) ?_
  refine lv_ishr hx hb dX9_four_17 ?_
  refine lv_i2b (v := (x1 >>> (0 &&& 31)).toInt8.toInt32) hx hb dX9_four_18 rfl ?_
  refine ast_b hx hb hK.1 hP hD hS 1 2 rfl rfl 7 (ix_lit (by decide)) dX9_four_19 (fun H locs hP hD hS => ?_)
  have hP : va_P D classes [(q1, .inr (9, [.ref q2, .int 7, .int 0, .ref q3, .ref q4, .ref q5, .ref q6, .int 0, .int 0, .int 0, .ref q7, .ref q8, .int 0, .int 0, .int 0, .int 0, .int 0, .int 0, .int 0, .ref q9, .int 0, .ref q10, .int 0, .ref q11, .ref q12, .ref q13, .ref q14, .ref q15, .ref q16, .ref q17, .ref q18, .ref q19, .ref q20, .ref q21, .ref q22, .ref q23])), (q2, .inl (a 2, 400, .inl (upd (upd (upd (upd f1 4 (vp_nar .byte ((x1 >>> (24 &&& 31)).toInt8.toInt32))) 5 (vp_nar .byte ((x1 >>> (16 &&& 31)).toInt8.toInt32))) 6 (vp_nar .byte ((x1 >>> (8 &&& 31)).toInt8.toInt32))) 7 (vp_nar .byte ((x1 >>> (0 &&& 31)).toInt8.toInt32)))))] H := hP
  have hD : va_D A [(q1, .inr (9, [.ref q2, .int 7, .int 0, .ref q3, .ref q4, .ref q5, .ref q6, .int 0, .int 0, .int 0, .ref q7, .ref q8, .int 0, .int 0, .int 0, .int 0, .int 0, .int 0, .int 0, .ref q9, .int 0, .ref q10, .int 0, .ref q11, .ref q12, .ref q13, .ref q14, .ref q15, .ref q16, .ref q17, .ref q18, .ref q19, .ref q20, .ref q21, .ref q22, .ref q23])), (q2, .inl (a 2, 400, .inl (upd (upd (upd (upd f1 4 (vp_nar .byte ((x1 >>> (24 &&& 31)).toInt8.toInt32))) 5 (vp_nar .byte ((x1 >>> (16 &&& 31)).toInt8.toInt32))) 6 (vp_nar .byte ((x1 >>> (8 &&& 31)).toInt8.toInt32))) 7 (vp_nar .byte ((x1 >>> (0 &&& 31)).toInt8.toInt32)))))] := hD
  refine lv_aload_n hx hb dX9_four_20 rfl (lv_at hl 1 rfl) ?_
  refine lv_dup hx hb dX9_four_21 rfl ?_
  refine va_get (D := D) (v := .int 7) (C := RX9) (T := TX9) (N := 36) hx hb hts iX9 hown hK.1 hP 0 rfl rfl 1 (by decide) (hts _ t_883) (fun _ h9 => h9) rfl dX9_four_22 ?_
  refine lv_iconst (v := 1) hx hb dX9_four_25 (by decide) ?_
  refine lv_iadd hx hb dX9_four_26 ?_
  refine lv_topi (fun x1683 ex1683 => ?_)
  obtain rfl : x1683 = 8 := ex1683.trans (by decide)
  refine va_put (D := D) (v := .int 8) (C := RX9) (T := TX9) (N := 36) hx hb hts iX9 tyX9 tyX9_ok nmX9 hown hK.1 hP hD hS 0 rfl rfl 1 (by decide) (hts _ t_883) (fun _ h9 => h9) rfl (tyX9_ok 1 (by decide)) rfl rfl (Nat.le_of_ble_eq_true rfl) dX9_four_27 (fun H locs hP hD hS => ?_)
  have hP : va_P D classes [(q1, .inr (9, [.ref q2, .int 8, .int 0, .ref q3, .ref q4, .ref q5, .ref q6, .int 0, .int 0, .int 0, .ref q7, .ref q8, .int 0, .int 0, .int 0, .int 0, .int 0, .int 0, .int 0, .ref q9, .int 0, .ref q10, .int 0, .ref q11, .ref q12, .ref q13, .ref q14, .ref q15, .ref q16, .ref q17, .ref q18, .ref q19, .ref q20, .ref q21, .ref q22, .ref q23])), (q2, .inl (a 2, 400, .inl (upd (upd (upd (upd f1 4 (vp_nar .byte ((x1 >>> (24 &&& 31)).toInt8.toInt32))) 5 (vp_nar .byte ((x1 >>> (16 &&& 31)).toInt8.toInt32))) 6 (vp_nar .byte ((x1 >>> (8 &&& 31)).toInt8.toInt32))) 7 (vp_nar .byte ((x1 >>> (0 &&& 31)).toInt8.toInt32)))))] H := hP
  have hD : va_D A [(q1, .inr (9, [.ref q2, .int 8, .int 0, .ref q3, .ref q4, .ref q5, .ref q6, .int 0, .int 0, .int 0, .ref q7, .ref q8, .int 0, .int 0, .int 0, .int 0, .int 0, .int 0, .int 0, .ref q9, .int 0, .ref q10, .int 0, .ref q11, .ref q12, .ref q13, .ref q14, .ref q15, .ref q16, .ref q17, .ref q18, .ref q19, .ref q20, .ref q21, .ref q22, .ref q23])), (q2, .inl (a 2, 400, .inl (upd (upd (upd (upd f1 4 (vp_nar .byte ((x1 >>> (24 &&& 31)).toInt8.toInt32))) 5 (vp_nar .byte ((x1 >>> (16 &&& 31)).toInt8.toInt32))) 6 (vp_nar .byte ((x1 >>> (8 &&& 31)).toInt8.toInt32))) 7 (vp_nar .byte ((x1 >>> (0 &&& 31)).toInt8.toInt32)))))] := hD
  refine lv_iinc (v := (-8)) (lv' := [(2, .int (-8)), (0, .ref q1), (1, .int x1)]) hx hb dX9_four_30 hl (k := 0) rfl (by decide) (by decide) rfl (fun ls hl => ?_)
  refine lv_goto (tgt := 3) hx hb dX9_four_33 (by decide) ?_
  refine lv_iload_n hx hb dX9_four_3 rfl (lv_at hl 0 rfl) ?_
  refine lv_if_lt (tgt := 36) hx hb dX9_four_4 (by decide) (fun c9 => ?_) (fun c9 => absurd (by decide) c9)
  exact retMv C rfl (0, [], [], [], [(upd (upd (upd (upd f1 4 (vp_nar .byte ((x1 >>> (24 &&& 31)).toInt8.toInt32))) 5 (vp_nar .byte ((x1 >>> (16 &&& 31)).toInt8.toInt32))) 6 (vp_nar .byte ((x1 >>> (8 &&& 31)).toInt8.toInt32))) 7 (vp_nar .byte ((x1 >>> (0 &&& 31)).toInt8.toInt32)))], []) ⟨(upd (upd (upd (upd f1 4 (vp_nar .byte ((x1 >>> (24 &&& 31)).toInt8.toInt32))) 5 (vp_nar .byte ((x1 >>> (16 &&& 31)).toInt8.toInt32))) 6 (vp_nar .byte ((x1 >>> (8 &&& 31)).toInt8.toInt32))) 7 (vp_nar .byte ((x1 >>> (0 &&& 31)).toInt8.toInt32))), rfl⟩ hP hD hS (Nat.le_of_ble_eq_true rfl) (Nat.le_of_ble_eq_true rfl) dX9_four_36

set_option maxHeartbeats 4000000 in
set_option maxRecDepth 100000 in
theorem c_X9_four_2 (l : Launch) (D : va_G) (a : Nat → ClassId) (q1 q2 q3 q4 q5 q6 q7 q8 q9 q10 q11 q12 q13 q14 q15 q16 q17 q18 q19 q20 q21 q22 q23 : Nat) (x1 : Int32) (f1 : Nat → Int32) (sz : Nat) : CMv (S := SS) l MX9_four 0 0 0 0 D a [.ref q1, .int x1] [(q1, .inr (9, [.ref q2, .int 8, .int 0, .ref q3, .ref q4, .ref q5, .ref q6, .int 0, .int 0, .int 0, .ref q7, .ref q8, .int 0, .int 0, .int 0, .int 0, .int 0, .int 0, .int 0, .ref q9, .int 0, .ref q10, .int 0, .ref q11, .ref q12, .ref q13, .ref q14, .ref q15, .ref q16, .ref q17, .ref q18, .ref q19, .ref q20, .ref q21, .ref q22, .ref q23])), (q2, .inl (a 2, 400, .inl f1))] sz (fun u => (∃ f1697 : Nat → Int32, u = (0, [], [], [], [f1697], []))) (fun u => pk [[(q1, .inr (9, [.ref q2, .int 12, .int 0, .ref q3, .ref q4, .ref q5, .ref q6, .int 0, .int 0, .int 0, .ref q7, .ref q8, .int 0, .int 0, .int 0, .int 0, .int 0, .int 0, .int 0, .ref q9, .int 0, .ref q10, .int 0, .ref q11, .ref q12, .ref q13, .ref q14, .ref q15, .ref q16, .ref q17, .ref q18, .ref q19, .ref q20, .ref q21, .ref q22, .ref q23])), (q2, .inl (a 2, 400, .inl (u.2.2.2.2.1.getD 0 (fun _ => 0))))]] u.1) := by
  refine entMv (by decide) (Nat.le_of_ble_eq_true rfl) ?_
  intro p e s m below meth c C hK A hA hP hD ls hl
  obtain ⟨hx, hb, hml, hown, hts, hr, hlocks, hnm⟩ := id C
  have hb : c.code = cX9_four := hb
  have hown : s.vm.findClass RX9 = some m.cls := hown
  have hS : va_S A s.heap s.heap [] := va_S.rf
  have hl : lv_has ls 3 [(0, .ref q1), (1, .int x1)] := hl
  refine lv_bipush (v := 24) hx hb dX9_four_0 (by decide) ?_
  refine lv_istore_n (lv' := [(2, .int 24), (0, .ref q1), (1, .int x1)]) hx hb dX9_four_2 rfl hl (by decide) rfl (fun ls hl => ?_)
  refine lv_iload_n hx hb dX9_four_3 rfl (lv_at hl 0 rfl) ?_
  refine lv_if_lt (tgt := 36) hx hb dX9_four_4 (by decide) (fun c9 => absurd c9 (by decide)) (fun c9 => ?_)
  refine lv_aload_n hx hb dX9_four_7 rfl (lv_at hl 1 rfl) ?_
  refine va_get (D := D) (v := .ref q2) (C := RX9) (T := TX9) (N := 36) hx hb hts iX9 hown hK.1 hP 0 rfl rfl 0 (by decide) (hts _ t_882) (fun _ h9 => h9) rfl dX9_four_8 ?_
  refine lv_aload_n hx hb dX9_four_11 rfl (lv_at hl 1 rfl) ?_
  refine va_get (D := D) (v := .int 8) (C := RX9) (T := TX9) (N := 36) hx hb hts iX9 hown hK.1 hP 0 rfl rfl 1 (by decide) (hts _ t_883) (fun _ h9 => h9) rfl dX9_four_12 ?_
  refine lv_iload_n hx hb dX9_four_15 rfl (lv_at hl 2 rfl) ?_
  refine lv_iload_n hx hb dX9_four_16 rfl (lv_at hl 0 rfl) ?_
  refine lv_ishr hx hb dX9_four_17 ?_
  refine lv_i2b (v := (x1 >>> (24 &&& 31)).toInt8.toInt32) hx hb dX9_four_18 rfl ?_
  refine ast_b hx hb hK.1 hP hD hS 1 2 rfl rfl 8 (ix_lit (by decide)) dX9_four_19 (fun H locs hP hD hS => ?_)
  have hP : va_P D classes [(q1, .inr (9, [.ref q2, .int 8, .int 0, .ref q3, .ref q4, .ref q5, .ref q6, .int 0, .int 0, .int 0, .ref q7, .ref q8, .int 0, .int 0, .int 0, .int 0, .int 0, .int 0, .int 0, .ref q9, .int 0, .ref q10, .int 0, .ref q11, .ref q12, .ref q13, .ref q14, .ref q15, .ref q16, .ref q17, .ref q18, .ref q19, .ref q20, .ref q21, .ref q22, .ref q23])), (q2, .inl (a 2, 400, .inl (upd f1 8 (vp_nar .byte ((x1 >>> (24 &&& 31)).toInt8.toInt32)))))] H := hP
  have hD : va_D A [(q1, .inr (9, [.ref q2, .int 8, .int 0, .ref q3, .ref q4, .ref q5, .ref q6, .int 0, .int 0, .int 0, .ref q7, .ref q8, .int 0, .int 0, .int 0, .int 0, .int 0, .int 0, .int 0, .ref q9, .int 0, .ref q10, .int 0, .ref q11, .ref q12, .ref q13, .ref q14, .ref q15, .ref q16, .ref q17, .ref q18, .ref q19, .ref q20, .ref q21, .ref q22, .ref q23])), (q2, .inl (a 2, 400, .inl (upd f1 8 (vp_nar .byte ((x1 >>> (24 &&& 31)).toInt8.toInt32)))))] := hD
  refine lv_aload_n hx hb dX9_four_20 rfl (lv_at hl 1 rfl) ?_
  refine lv_dup hx hb dX9_four_21 rfl ?_
  refine va_get (D := D) (v := .int 8) (C := RX9) (T := TX9) (N := 36) hx hb hts iX9 hown hK.1 hP 0 rfl rfl 1 (by decide) (hts _ t_883) (fun _ h9 => h9) rfl dX9_four_22 ?_
  refine lv_iconst (v := 1) hx hb dX9_four_25 (by decide) ?_
  refine lv_iadd hx hb dX9_four_26 ?_
  refine lv_topi (fun x1693 ex1693 => ?_)
  obtain rfl : x1693 = 9 := ex1693.trans (by decide)
  refine va_put (D := D) (v := .int 9) (C := RX9) (T := TX9) (N := 36) hx hb hts iX9 tyX9 tyX9_ok nmX9 hown hK.1 hP hD hS 0 rfl rfl 1 (by decide) (hts _ t_883) (fun _ h9 => h9) rfl (tyX9_ok 1 (by decide)) rfl rfl (Nat.le_of_ble_eq_true rfl) dX9_four_27 (fun H locs hP hD hS => ?_)
  have hP : va_P D classes [(q1, .inr (9, [.ref q2, .int 9, .int 0, .ref q3, .ref q4, .ref q5, .ref q6, .int 0, .int 0, .int 0, .ref q7, .ref q8, .int 0, .int 0, .int 0, .int 0, .int 0, .int 0, .int 0, .ref q9, .int 0, .ref q10, .int 0, .ref q11, .ref q12, .ref q13, .ref q14, .ref q15, .ref q16, .ref q17, .ref q18, .ref q19, .ref q20, .ref q21, .ref q22, .ref q23])), (q2, .inl (a 2, 400, .inl (upd f1 8 (vp_nar .byte ((x1 >>> (24 &&& 31)).toInt8.toInt32)))))] H := hP
  have hD : va_D A [(q1, .inr (9, [.ref q2, .int 9, .int 0, .ref q3, .ref q4, .ref q5, .ref q6, .int 0, .int 0, .int 0, .ref q7, .ref q8, .int 0, .int 0, .int 0, .int 0, .int 0, .int 0, .int 0, .ref q9, .int 0, .ref q10, .int 0, .ref q11, .ref q12, .ref q13, .ref q14, .ref q15, .ref q16, .ref q17, .ref q18, .ref q19, .ref q20, .ref q21, .ref q22, .ref q23])), (q2, .inl (a 2, 400, .inl (upd f1 8 (vp_nar .byte ((x1 >>> (24 &&& 31)).toInt8.toInt32)))))] := hD
  refine lv_iinc (v := 16) (lv' := [(2, .int 16), (0, .ref q1), (1, .int x1)]) hx hb dX9_four_30 hl (k := 0) rfl (by decide) (by decide) rfl (fun ls hl => ?_)
  refine lv_goto (tgt := 3) hx hb dX9_four_33 (by decide) ?_
  refine lv_iload_n hx hb dX9_four_3 rfl (lv_at hl 0 rfl) ?_
  refine lv_if_lt (tgt := 36) hx hb dX9_four_4 (by decide) (fun c9 => absurd c9 (by decide)) (fun c9 => ?_)
  refine lv_aload_n hx hb dX9_four_7 rfl (lv_at hl 1 rfl) ?_
  refine va_get (D := D) (v := .ref q2) (C := RX9) (T := TX9) (N := 36) hx hb hts iX9 hown hK.1 hP 0 rfl rfl 0 (by decide) (hts _ t_882) (fun _ h9 => h9) rfl dX9_four_8 ?_
  refine lv_aload_n hx hb dX9_four_11 rfl (lv_at hl 1 rfl) ?_
  refine va_get (D := D) (v := .int 9) (C := RX9) (T := TX9) (N := 36) hx hb hts iX9 hown hK.1 hP 0 rfl rfl 1 (by decide) (hts _ t_883) (fun _ h9 => h9) rfl dX9_four_12 ?_
  refine lv_iload_n hx hb dX9_four_15 rfl (lv_at hl 2 rfl) ?_
  refine lv_iload_n hx hb dX9_four_16 rfl (lv_at hl 0 rfl) ?_
  refine lv_ishr hx hb dX9_four_17 ?_
  refine lv_i2b (v := (x1 >>> (16 &&& 31)).toInt8.toInt32) hx hb dX9_four_18 rfl ?_
  refine ast_b hx hb hK.1 hP hD hS 1 2 rfl rfl 9 (ix_lit (by decide)) dX9_four_19 (fun H locs hP hD hS => ?_)
  have hP : va_P D classes [(q1, .inr (9, [.ref q2, .int 9, .int 0, .ref q3, .ref q4, .ref q5, .ref q6, .int 0, .int 0, .int 0, .ref q7, .ref q8, .int 0, .int 0, .int 0, .int 0, .int 0, .int 0, .int 0, .ref q9, .int 0, .ref q10, .int 0, .ref q11, .ref q12, .ref q13, .ref q14, .ref q15, .ref q16, .ref q17, .ref q18, .ref q19, .ref q20, .ref q21, .ref q22, .ref q23])), (q2, .inl (a 2, 400, .inl (upd (upd f1 8 (vp_nar .byte ((x1 >>> (24 &&& 31)).toInt8.toInt32))) 9 (vp_nar .byte ((x1 >>> (16 &&& 31)).toInt8.toInt32)))))] H := hP
  have hD : va_D A [(q1, .inr (9, [.ref q2, .int 9, .int 0, .ref q3, .ref q4, .ref q5, .ref q6, .int 0, .int 0, .int 0, .ref q7, .ref q8, .int 0, .int 0, .int 0, .int 0, .int 0, .int 0, .int 0, .ref q9, .int 0, .ref q10, .int 0, .ref q11, .ref q12, .ref q13, .ref q14, .ref q15, .ref q16, .ref q17, .ref q18, .ref q19, .ref q20, .ref q21, .ref q22, .ref q23])), (q2, .inl (a 2, 400, .inl (upd (upd f1 8 (vp_nar .byte ((x1 >>> (24 &&& 31)).toInt8.toInt32))) 9 (vp_nar .byte ((x1 >>> (16 &&& 31)).toInt8.toInt32)))))] := hD
  refine lv_aload_n hx hb dX9_four_20 rfl (lv_at hl 1 rfl) ?_
  refine lv_dup hx hb dX9_four_21 rfl ?_
  refine va_get (D := D) (v := .int 9) (C := RX9) (T := TX9) (N := 36) hx hb hts iX9 hown hK.1 hP 0 rfl rfl 1 (by decide) (hts _ t_883) (fun _ h9 => h9) rfl dX9_four_22 ?_
  refine lv_iconst (v := 1) hx hb dX9_four_25 (by decide) ?_
  refine lv_iadd hx hb dX9_four_26 ?_
  refine lv_topi (fun x1694 ex1694 => ?_)
  obtain rfl : x1694 = 10 := ex1694.trans (by decide)
  refine va_put (D := D) (v := .int 10) (C := RX9) (T := TX9) (N := 36) hx hb hts iX9 tyX9 tyX9_ok nmX9 hown hK.1 hP hD hS 0 rfl rfl 1 (by decide) (hts _ t_883) (fun _ h9 => h9) rfl (tyX9_ok 1 (by decide)) rfl rfl (Nat.le_of_ble_eq_true rfl) dX9_four_27 (fun H locs hP hD hS => ?_)
  have hP : va_P D classes [(q1, .inr (9, [.ref q2, .int 10, .int 0, .ref q3, .ref q4, .ref q5, .ref q6, .int 0, .int 0, .int 0, .ref q7, .ref q8, .int 0, .int 0, .int 0, .int 0, .int 0, .int 0, .int 0, .ref q9, .int 0, .ref q10, .int 0, .ref q11, .ref q12, .ref q13, .ref q14, .ref q15, .ref q16, .ref q17, .ref q18, .ref q19, .ref q20, .ref q21, .ref q22, .ref q23])), (q2, .inl (a 2, 400, .inl (upd (upd f1 8 (vp_nar .byte ((x1 >>> (24 &&& 31)).toInt8.toInt32))) 9 (vp_nar .byte ((x1 >>> (16 &&& 31)).toInt8.toInt32)))))] H := hP
  have hD : va_D A [(q1, .inr (9, [.ref q2, .int 10, .int 0, .ref q3, .ref q4, .ref q5, .ref q6, .int 0, .int 0, .int 0, .ref q7, .ref q8, .int 0, .int 0, .int 0, .int 0, .int 0, .int 0, .int 0, .ref q9, .int 0, .ref q10, .int 0, .ref q11, .ref q12, .ref q13, .ref q14, .ref q15, .ref q16, .ref q17, .ref q18, .ref q19, .ref q20, .ref q21, .ref q22, .ref q23])), (q2, .inl (a 2, 400, .inl (upd (upd f1 8 (vp_nar .byte ((x1 >>> (24 &&& 31)).toInt8.toInt32))) 9 (vp_nar .byte ((x1 >>> (16 &&& 31)).toInt8.toInt32)))))] := hD
  refine lv_iinc (v := 8) (lv' := [(2, .int 8), (0, .ref q1), (1, .int x1)]) hx hb dX9_four_30 hl (k := 0) rfl (by decide) (by decide) rfl (fun ls hl => ?_)
  refine lv_goto (tgt := 3) hx hb dX9_four_33 (by decide) ?_
  refine lv_iload_n hx hb dX9_four_3 rfl (lv_at hl 0 rfl) ?_
  refine lv_if_lt (tgt := 36) hx hb dX9_four_4 (by decide) (fun c9 => absurd c9 (by decide)) (fun c9 => ?_)
  refine lv_aload_n hx hb dX9_four_7 rfl (lv_at hl 1 rfl) ?_
  refine va_get (D := D) (v := .ref q2) (C := RX9) (T := TX9) (N := 36) hx hb hts iX9 hown hK.1 hP 0 rfl rfl 0 (by decide) (hts _ t_882) (fun _ h9 => h9) rfl dX9_four_8 ?_
  refine lv_aload_n hx hb dX9_four_11 rfl (lv_at hl 1 rfl) ?_
  refine va_get (D := D) (v := .int 10) (C := RX9) (T := TX9) (N := 36) hx hb hts iX9 hown hK.1 hP 0 rfl rfl 1 (by decide) (hts _ t_883) (fun _ h9 => h9) rfl dX9_four_12 ?_
  refine lv_iload_n hx hb dX9_four_15 rfl (lv_at hl 2 rfl) ?_
  refine lv_iload_n hx hb dX9_four_16 rfl (lv_at hl 0 rfl) ?_
  refine lv_ishr hx hb dX9_four_17 ?_
  refine lv_i2b (v := (x1 >>> (8 &&& 31)).toInt8.toInt32) hx hb dX9_four_18 rfl ?_
  refine ast_b hx hb hK.1 hP hD hS 1 2 rfl rfl 10 (ix_lit (by decide)) dX9_four_19 (fun H locs hP hD hS => ?_)
  have hP : va_P D classes [(q1, .inr (9, [.ref q2, .int 10, .int 0, .ref q3, .ref q4, .ref q5, .ref q6, .int 0, .int 0, .int 0, .ref q7, .ref q8, .int 0, .int 0, .int 0, .int 0, .int 0, .int 0, .int 0, .ref q9, .int 0, .ref q10, .int 0, .ref q11, .ref q12, .ref q13, .ref q14, .ref q15, .ref q16, .ref q17, .ref q18, .ref q19, .ref q20, .ref q21, .ref q22, .ref q23])), (q2, .inl (a 2, 400, .inl (upd (upd (upd f1 8 (vp_nar .byte ((x1 >>> (24 &&& 31)).toInt8.toInt32))) 9 (vp_nar .byte ((x1 >>> (16 &&& 31)).toInt8.toInt32))) 10 (vp_nar .byte ((x1 >>> (8 &&& 31)).toInt8.toInt32)))))] H := hP
  have hD : va_D A [(q1, .inr (9, [.ref q2, .int 10, .int 0, .ref q3, .ref q4, .ref q5, .ref q6, .int 0, .int 0, .int 0, .ref q7, .ref q8, .int 0, .int 0, .int 0, .int 0, .int 0, .int 0, .int 0, .ref q9, .int 0, .ref q10, .int 0, .ref q11, .ref q12, .ref q13, .ref q14, .ref q15, .ref q16, .ref q17, .ref q18, .ref q19, .ref q20, .ref q21, .ref q22, .ref q23])), (q2, .inl (a 2, 400, .inl (upd (upd (upd f1 8 (vp_nar .byte ((x1 >>> (24 &&& 31)).toInt8.toInt32))) 9 (vp_nar .byte ((x1 >>> (16 &&& 31)).toInt8.toInt32))) 10 (vp_nar .byte ((x1 >>> (8 &&& 31)).toInt8.toInt32)))))] := hD
  refine lv_aload_n hx hb dX9_four_20 rfl (lv_at hl 1 rfl) ?_
  refine lv_dup hx hb dX9_four_21 rfl ?_
  refine va_get (D := D) (v := .int 10) (C := RX9) (T := TX9) (N := 36) hx hb hts iX9 hown hK.1 hP 0 rfl rfl 1 (by decide) (hts _ t_883) (fun _ h9 => h9) rfl dX9_four_22 ?_
  refine lv_iconst (v := 1) hx hb dX9_four_25 (by decide) ?_
  refine lv_iadd hx hb dX9_four_26 ?_
  refine lv_topi (fun x1695 ex1695 => ?_)
  obtain rfl : x1695 = 11 := ex1695.trans (by decide)
  refine va_put (D := D) (v := .int 11) (C := RX9) (T := TX9) (N := 36) hx hb hts iX9 tyX9 tyX9_ok nmX9 hown hK.1 hP hD hS 0 rfl rfl 1 (by decide) (hts _ t_883) (fun _ h9 => h9) rfl (tyX9_ok 1 (by decide)) rfl rfl (Nat.le_of_ble_eq_true rfl) dX9_four_27 (fun H locs hP hD hS => ?_)
  have hP : va_P D classes [(q1, .inr (9, [.ref q2, .int 11, .int 0, .ref q3, .ref q4, .ref q5, .ref q6, .int 0, .int 0, .int 0, .ref q7, .ref q8, .int 0, .int 0, .int 0, .int 0, .int 0, .int 0, .int 0, .ref q9, .int 0, .ref q10, .int 0, .ref q11, .ref q12, .ref q13, .ref q14, .ref q15, .ref q16, .ref q17, .ref q18, .ref q19, .ref q20, .ref q21, .ref q22, .ref q23])), (q2, .inl (a 2, 400, .inl (upd (upd (upd f1 8 (vp_nar .byte ((x1 >>> (24 &&& 31)).toInt8.toInt32))) 9 (vp_nar .byte ((x1 >>> (16 &&& 31)).toInt8.toInt32))) 10 (vp_nar .byte ((x1 >>> (8 &&& 31)).toInt8.toInt32)))))] H := hP
  have hD : va_D A [(q1, .inr (9, [.ref q2, .int 11, .int 0, .ref q3, .ref q4, .ref q5, .ref q6, .int 0, .int 0, .int 0, .ref q7, .ref q8, .int 0, .int 0, .int 0, .int 0, .int 0, .int 0, .int 0, .ref q9, .int 0, .ref q10, .int 0, .ref q11, .ref q12, .ref q13, .ref q14, .ref q15, .ref q16, .ref q17, .ref q18, .ref q19, .ref q20, .ref q21, .ref q22, .ref q23])), (q2, .inl (a 2, 400, .inl (upd (upd (upd f1 8 (vp_nar .byte ((x1 >>> (24 &&& 31)).toInt8.toInt32))) 9 (vp_nar .byte ((x1 >>> (16 &&& 31)).toInt8.toInt32))) 10 (vp_nar .byte ((x1 >>> (8 &&& 31)).toInt8.toInt32)))))] := hD
  refine lv_iinc (v := 0) (lv' := [(2, .int 0), (0, .ref q1), (1, .int x1)]) hx hb dX9_four_30 hl (k := 0) rfl (by decide) (by decide) rfl (fun ls hl => ?_)
  refine lv_goto (tgt := 3) hx hb dX9_four_33 (by decide) ?_
  refine lv_iload_n hx hb dX9_four_3 rfl (lv_at hl 0 rfl) ?_
  refine lv_if_lt (tgt := 36) hx hb dX9_four_4 (by decide) (fun c9 => absurd c9 (by decide)) (fun c9 => ?_)
  refine lv_aload_n hx hb dX9_four_7 rfl (lv_at hl 1 rfl) ?_
  refine va_get (D := D) (v := .ref q2) (C := RX9) (T := TX9) (N := 36) hx hb hts iX9 hown hK.1 hP 0 rfl rfl 0 (by decide) (hts _ t_882) (fun _ h9 => h9) rfl dX9_four_8 ?_
  refine lv_aload_n hx hb dX9_four_11 rfl (lv_at hl 1 rfl) ?_
  refine va_get (D := D) (v := .int 11) (C := RX9) (T := TX9) (N := 36) hx hb hts iX9 hown hK.1 hP 0 rfl rfl 1 (by decide) (hts _ t_883) (fun _ h9 => h9) rfl dX9_four_12 ?_
  refine lv_iload_n hx hb dX9_four_15 rfl (lv_at hl 2 rfl) ?_
  refine lv_iload_n hx hb dX9_four_16 rfl (lv_at hl 0 rfl) ?_
  refine lv_ishr hx hb dX9_four_17 ?_
  refine lv_i2b (v := (x1 >>> (0 &&& 31)).toInt8.toInt32) hx hb dX9_four_18 rfl ?_
  refine ast_b hx hb hK.1 hP hD hS 1 2 rfl rfl 11 (ix_lit (by decide)) dX9_four_19 (fun H locs hP hD hS => ?_)
  have hP : va_P D classes [(q1, .inr (9, [.ref q2, .int 11, .int 0, .ref q3, .ref q4, .ref q5, .ref q6, .int 0, .int 0, .int 0, .ref q7, .ref q8, .int 0, .int 0, .int 0, .int 0, .int 0, .int 0, .int 0, .ref q9, .int 0, .ref q10, .int 0, .ref q11, .ref q12, .ref q13, .ref q14, .ref q15, .ref q16, .ref q17, .ref q18, .ref q19, .ref q20, .ref q21, .ref q22, .ref q23])), (q2, .inl (a 2, 400, .inl (upd (upd (upd (upd f1 8 (vp_nar .byte ((x1 >>> (24 &&& 31)).toInt8.toInt32))) 9 (vp_nar .byte ((x1 >>> (16 &&& 31)).toInt8.toInt32))) 10 (vp_nar .byte ((x1 >>> (8 &&& 31)).toInt8.toInt32))) 11 (vp_nar .byte ((x1 >>> (0 &&& 31)).toInt8.toInt32)))))] H := hP
  have hD : va_D A [(q1, .inr (9, [.ref q2, .int 11, .int 0, .ref q3, .ref q4, .ref q5, .ref q6, .int 0, .int 0, .int 0, .ref q7, .ref q8, .int 0, .int 0, .int 0, .int 0, .int 0, .int 0, .int 0, .ref q9, .int 0, .ref q10, .int 0, .ref q11, .ref q12, .ref q13, .ref q14, .ref q15, .ref q16, .ref q17, .ref q18, .ref q19, .ref q20, .ref q21, .ref q22, .ref q23])), (q2, .inl (a 2, 400, .inl (upd (upd (upd (upd f1 8 (vp_nar .byte ((x1 >>> (24 &&& 31)).toInt8.toInt32))) 9 (vp_nar .byte ((x1 >>> (16 &&& 31)).toInt8.toInt32))) 10 (vp_nar .byte ((x1 >>> (8 &&& 31)).toInt8.toInt32))) 11 (vp_nar .byte ((x1 >>> (0 &&& 31)).toInt8.toInt32)))))] := hD
  refine lv_aload_n hx hb dX9_four_20 rfl (lv_at hl 1 rfl) ?_
  refine lv_dup hx hb dX9_four_21 rfl ?_
  refine va_get (D := D) (v := .int 11) (C := RX9) (T := TX9) (N := 36) hx hb hts iX9 hown hK.1 hP 0 rfl rfl 1 (by decide) (hts _ t_883) (fun _ h9 => h9) rfl dX9_four_22 ?_
  refine lv_iconst (v := 1) hx hb dX9_four_25 (by decide) ?_
  refine lv_iadd hx hb dX9_four_26 ?_
  refine lv_topi (fun x1696 ex1696 => ?_)
  obtain rfl : x1696 = 12 := ex1696.trans (by decide)
  refine va_put (D := D) (v := .int 12) (C := RX9) (T := TX9) (N := 36) hx hb hts iX9 tyX9 tyX9_ok nmX9 hown hK.1 hP hD hS 0 rfl rfl 1 (by decide) (hts _ t_883) (fun _ h9 => h9) rfl (tyX9_ok 1 (by decide)) rfl rfl (Nat.le_of_ble_eq_true rfl) dX9_four_27 (fun H locs hP hD hS => ?_)
  have hP : va_P D classes [(q1, .inr (9, [.ref q2, .int 12, .int 0, .ref q3, .ref q4, .ref q5, .ref q6, .int 0, .int 0, .int 0, .ref q7, .ref q8, .int 0, .int 0, .int 0, .int 0, .int 0, .int 0, .int 0, .ref q9, .int 0, .ref q10, .int 0, .ref q11, .ref q12, .ref q13, .ref q14, .ref q15, .ref q16, .ref q17, .ref q18, .ref q19, .ref q20, .ref q21, .ref q22, .ref q23])), (q2, .inl (a 2, 400, .inl (upd (upd (upd (upd f1 8 (vp_nar .byte ((x1 >>> (24 &&& 31)).toInt8.toInt32))) 9 (vp_nar .byte ((x1 >>> (16 &&& 31)).toInt8.toInt32))) 10 (vp_nar .byte ((x1 >>> (8 &&& 31)).toInt8.toInt32))) 11 (vp_nar .byte ((x1 >>> (0 &&& 31)).toInt8.toInt32)))))] H := hP
  have hD : va_D A [(q1, .inr (9, [.ref q2, .int 12, .int 0, .ref q3, .ref q4, .ref q5, .ref q6, .int 0, .int 0, .int 0, .ref q7, .ref q8, .int 0, .int 0, .int 0, .int 0, .int 0, .int 0, .int 0, .ref q9, .int 0, .ref q10, .int 0, .ref q11, .ref q12, .ref q13, .ref q14, .ref q15, .ref q16, .ref q17, .ref q18, .ref q19, .ref q20, .ref q21, .ref q22, .ref q23])), (q2, .inl (a 2, 400, .inl (upd (upd (upd (upd f1 8 (vp_nar .byte ((x1 >>> (24 &&& 31)).toInt8.toInt32))) 9 (vp_nar .byte ((x1 >>> (16 &&& 31)).toInt8.toInt32))) 10 (vp_nar .byte ((x1 >>> (8 &&& 31)).toInt8.toInt32))) 11 (vp_nar .byte ((x1 >>> (0 &&& 31)).toInt8.toInt32)))))] := hD
  refine lv_iinc (v := (-8)) (lv' := [(2, .int (-8)), (0, .ref q1), (1, .int x1)]) hx hb dX9_four_30 hl (k := 0) rfl (by decide) (by decide) rfl (fun ls hl => ?_)
  refine lv_goto (tgt := 3) hx hb dX9_four_33 (by decide) ?_
  refine lv_iload_n hx hb dX9_four_3 rfl (lv_at hl 0 rfl) ?_
  refine lv_if_lt (tgt := 36) hx hb dX9_four_4 (by decide) (fun c9 => ?_) (fun c9 => absurd (by decide) c9)
  exact retMv C rfl (0, [], [], [], [(upd (upd (upd (upd f1 8 (vp_nar .byte ((x1 >>> (24 &&& 31)).toInt8.toInt32))) 9 (vp_nar .byte ((x1 >>> (16 &&& 31)).toInt8.toInt32))) 10 (vp_nar .byte ((x1 >>> (8 &&& 31)).toInt8.toInt32))) 11 (vp_nar .byte ((x1 >>> (0 &&& 31)).toInt8.toInt32)))], []) ⟨(upd (upd (upd (upd f1 8 (vp_nar .byte ((x1 >>> (24 &&& 31)).toInt8.toInt32))) 9 (vp_nar .byte ((x1 >>> (16 &&& 31)).toInt8.toInt32))) 10 (vp_nar .byte ((x1 >>> (8 &&& 31)).toInt8.toInt32))) 11 (vp_nar .byte ((x1 >>> (0 &&& 31)).toInt8.toInt32))), rfl⟩ hP hD hS (Nat.le_of_ble_eq_true rfl) (Nat.le_of_ble_eq_true rfl) dX9_four_36

set_option maxHeartbeats 4000000 in
set_option maxRecDepth 100000 in
theorem c_X9_four_3 (l : Launch) (D : va_G) (a : Nat → ClassId) (q1 q2 q3 q4 q5 q6 q7 q8 q9 q10 q11 q12 q13 q14 q15 q16 q17 q18 q19 q20 q21 q22 q23 : Nat) (x1 : Int32) (f1 : Nat → Int32) (sz : Nat) : CMv (S := SS) l MX9_four 0 0 0 0 D a [.ref q1, .int x1] [(q1, .inr (9, [.ref q2, .int 12, .int 0, .ref q3, .ref q4, .ref q5, .ref q6, .int 0, .int 0, .int 0, .ref q7, .ref q8, .int 0, .int 0, .int 0, .int 0, .int 0, .int 0, .int 0, .ref q9, .int 0, .ref q10, .int 0, .ref q11, .ref q12, .ref q13, .ref q14, .ref q15, .ref q16, .ref q17, .ref q18, .ref q19, .ref q20, .ref q21, .ref q22, .ref q23])), (q2, .inl (a 2, 400, .inl f1))] sz (fun u => (∃ f1710 : Nat → Int32, u = (0, [], [], [], [f1710], []))) (fun u => pk [[(q1, .inr (9, [.ref q2, .int 16, .int 0, .ref q3, .ref q4, .ref q5, .ref q6, .int 0, .int 0, .int 0, .ref q7, .ref q8, .int 0, .int 0, .int 0, .int 0, .int 0, .int 0, .int 0, .ref q9, .int 0, .ref q10, .int 0, .ref q11, .ref q12, .ref q13, .ref q14, .ref q15, .ref q16, .ref q17, .ref q18, .ref q19, .ref q20, .ref q21, .ref q22, .ref q23])), (q2, .inl (a 2, 400, .inl (u.2.2.2.2.1.getD 0 (fun _ => 0))))]] u.1) := by
  refine entMv (by decide) (Nat.le_of_ble_eq_true rfl) ?_
  intro p e s m below meth c C hK A hA hP hD ls hl
  obtain ⟨hx, hb, hml, hown, hts, hr, hlocks, hnm⟩ := id C
  have hb : c.code = cX9_four := hb
  have hown : s.vm.findClass RX9 = some m.cls := hown
  have hS : va_S A s.heap s.heap [] := va_S.rf
  have hl : lv_has ls 3 [(0, .ref q1), (1, .int x1)] := hl
  refine lv_bipush (v := 24) hx hb dX9_four_0 (by decide) ?_
  refine lv_istore_n (lv' := [(2, .int 24), (0, .ref q1), (1, .int x1)]) hx hb dX9_four_2 rfl hl (by decide) rfl (fun ls hl => ?_)
  refine lv_iload_n hx hb dX9_four_3 rfl (lv_at hl 0 rfl) ?_
  refine lv_if_lt (tgt := 36) hx hb dX9_four_4 (by decide) (fun c9 => absurd c9 (by decide)) (fun c9 => ?_)
  refine lv_aload_n hx hb dX9_four_7 rfl (lv_at hl 1 rfl) ?_
  refine va_get (D := D) (v := .ref q2) (C := RX9) (T := TX9) (N := 36) hx hb hts iX9 hown hK.1 hP 0 rfl rfl 0 (by decide) (hts _ t_882) (fun _ h9 => h9) rfl dX9_four_8 ?_
  refine lv_aload_n hx hb dX9_four_11 rfl (lv_at hl 1 rfl) ?_
  refine va_get (D := D) (v := .int 12) (C := RX9) (T := TX9) (N := 36) hx hb hts iX9 hown hK.1 hP 0 rfl rfl 1 (by decide) (hts _ t_883) (fun _ h9 => h9) rfl dX9_four_12 ?_
  refine lv_iload_n hx hb dX9_four_15 rfl (lv_at hl 2 rfl) ?_
  refine lv_iload_n hx hb dX9_four_16 rfl (lv_at hl 0 rfl) ?_
  refine lv_ishr hx hb dX9_four_17 ?_
  refine lv_i2b (v := (x1 >>> (24 &&& 31)).toInt8.toInt32) hx hb dX9_four_18 rfl ?_
  refine ast_b hx hb hK.1 hP hD hS 1 2 rfl rfl 12 (ix_lit (by decide)) dX9_four_19 (fun H locs hP hD hS => ?_)
  have hP : va_P D classes [(q1, .inr (9, [.ref q2, .int 12, .int 0, .ref q3, .ref q4, .ref q5, .ref q6, .int 0, .int 0, .int 0, .ref q7, .ref q8, .int 0, .int 0, .int 0, .int 0, .int 0, .int 0, .int 0, .ref q9, .int 0, .ref q10, .int 0, .ref q11, .ref q12, .ref q13, .ref q14, .ref q15, .ref q16, .ref q17, .ref q18, .ref q19, .ref q20, .ref q21, .ref q22, .ref q23])), (q2, .inl (a 2, 400, .inl (upd f1 12 (vp_nar .byte ((x1 >>> (24 &&& 31)).toInt8.toInt32)))))] H := hP
  have hD : va_D A [(q1, .inr (9, [.ref q2, .int 12, .int 0, .ref q3, .ref q4, .ref q5, .ref q6, .int 0, .int 0, .int 0, .ref q7, .ref q8, .int 0, .int 0, .int 0, .int 0, .int 0, .int 0, .int 0, .ref q9, .int 0, .ref q10, .int 0, .ref q11, .ref q12, .ref q13, .ref q14, .ref q15, .ref q16, .ref q17, .ref q18, .ref q19, .ref q20, .ref q21, .ref q22, .ref q23])), (q2, .inl (a 2, 400, .inl (upd f1 12 (vp_nar .byte ((x1 >>> (24 &&& 31)).toInt8.toInt32)))))] := hD
  refine lv_aload_n hx hb dX9_four_20 rfl (lv_at hl 1 rfl) ?_
  refine lv_dup hx hb dX9_four_21 rfl ?_
  refine va_get (D := D) (v := .int 12) (C := RX9) (T := TX9) (N := 36) hx hb hts iX9 hown hK.1 hP 0 rfl rfl 1 (by decide) (hts _ t_883) (fun _ h9 => h9) rfl dX9_four_22 ?_
  refine lv_iconst (v := 1) hx hb dX9_four_25 (by decide) ?_
  refine lv_iadd hx hb dX9_four_26 ?_
  refine lv_topi (fun x1706 ex1706 => ?_)
  obtain rfl : x1706 = 13 := ex1706.trans (by decide)
  refine va_put (D := D) (v := .int 13) (C := RX9) (T := TX9) (N := 36) hx hb hts iX9 tyX9 tyX9_ok nmX9 hown hK.1 hP hD hS 0 rfl rfl 1 (by decide) (hts _ t_883) (fun _ h9 => h9) rfl (tyX9_ok 1 (by decide)) rfl rfl (Nat.le_of_ble_eq_true rfl) dX9_four_27 (fun H locs hP hD hS => ?_)
  have hP : va_P D classes [(q1, .inr (9, [.ref q2, .int 13, .int 0, .ref q3, .ref q4, .ref q5, .ref q6, .int 0, .int 0, .int 0, .ref q7, .ref q8, .int 0, .int 0, .int 0, .int 0, .int 0, .int 0, .int 0, .ref q9, .int 0, .ref q10, .int 0, .ref q11, .ref q12, .ref q13, .ref q14, .ref q15, .ref q16, .ref q17, .ref q18, .ref q19, .ref q20, .ref q21, .ref q22, .ref q23])), (q2, .inl (a 2, 400, .inl (upd f1 12 (vp_nar .byte ((x1 >>> (24 &&& 31)).toInt8.toInt32)))))] H := hP
  have hD : va_D A [(q1, .inr (9, [.ref q2, .int 13, .int 0, .ref q3, .ref q4, .ref q5, .ref q6, .int 0, .int 0, .int 0, .ref q7, .ref q8, .int 0, .int 0, .int 0, .int 0, .int 0, .int 0, .int 0, .ref q9, .int 0, .ref q10, .int 0, .ref q11, .ref q12, .ref q13, .ref q14, .ref q15, .ref q16, .ref q17, .ref q18, .ref q19, .ref q20, .ref q21, .ref q22, .ref q23])), (q2, .inl (a 2, 400, .inl (upd f1 12 (vp_nar .byte ((x1 >>> (24 &&& 31)).toInt8.toInt32)))))] := hD
  refine lv_iinc (v := 16) (lv' := [(2, .int 16), (0, .ref q1), (1, .int x1)]) hx hb dX9_four_30 hl (k := 0) rfl (by decide) (by decide) rfl (fun ls hl => ?_)
  refine lv_goto (tgt := 3) hx hb dX9_four_33 (by decide) ?_
  refine lv_iload_n hx hb dX9_four_3 rfl (lv_at hl 0 rfl) ?_
  refine lv_if_lt (tgt := 36) hx hb dX9_four_4 (by decide) (fun c9 => absurd c9 (by decide)) (fun c9 => ?_)
  refine lv_aload_n hx hb dX9_four_7 rfl (lv_at hl 1 rfl) ?_
  refine va_get (D := D) (v := .ref q2) (C := RX9) (T := TX9) (N := 36) hx hb hts iX9 hown hK.1 hP 0 rfl rfl 0 (by decide) (hts _ t_882) (fun _ h9 => h9) rfl dX9_four_8 ?_
  refine lv_aload_n hx hb dX9_four_11 rfl (lv_at hl 1 rfl) ?_
  refine va_get (D := D) (v := .int 13) (C := RX9) (T := TX9) (N := 36) hx hb hts iX9 hown hK.1 hP 0 rfl rfl 1 (by decide) (hts _ t_883) (fun _ h9 => h9) rfl dX9_four_12 ?_
  refine lv_iload_n hx hb dX9_four_15 rfl (lv_at hl 2 rfl) ?_
  refine lv_iload_n hx hb dX9_four_16 rfl (lv_at hl 0 rfl) ?_
  refine lv_ishr hx hb dX9_four_17 ?_
  refine lv_i2b (v := (x1 >>> (16 &&& 31)).toInt8.toInt32) hx hb dX9_four_18 rfl ?_
  refine ast_b hx hb hK.1 hP hD hS 1 2 rfl rfl 13 (ix_lit (by decide)) dX9_four_19 (fun H locs hP hD hS => ?_)
  have hP : va_P D classes [(q1, .inr (9, [.ref q2, .int 13, .int 0, .ref q3, .ref q4, .ref q5, .ref q6, .int 0, .int 0, .int 0, .ref q7, .ref q8, .int 0, .int 0, .int 0, .int 0, .int 0, .int 0, .int 0, .ref q9, .int 0, .ref q10, .int 0, .ref q11, .ref q12, .ref q13, .ref q14, .ref q15, .ref q16, .ref q17, .ref q18, .ref q19, .ref q20, .ref q21, .ref q22, .ref q23])), (q2, .inl (a 2, 400, .inl (upd (upd f1 12 (vp_nar .byte ((x1 >>> (24 &&& 31)).toInt8.toInt32))) 13 (vp_nar .byte ((x1 >>> (16 &&& 31)).toInt8.toInt32)))))] H := hP
  have hD : va_D A [(q1, .inr (9, [.ref q2, .int 13, .int 0, .ref q3, .ref q4, .ref q5, .ref q6, .int 0, .int 0, .int 0, .ref q7, .ref q8, .int 0, .int 0, .int 0, .int 0, .int 0, .int 0, .int 0, .ref q9, .int 0, .ref q10, .int 0, .ref q11, .ref q12, .ref q13, .ref q14, .ref q15, .ref q16, .ref q17, .ref q18, .ref q19, .ref q20, .ref q21, .ref q22, .ref q23])), (q2, .inl (a 2, 400, .inl (upd (upd f1 12 (vp_nar .byte ((x1 >>> (24 &&& 31)).toInt8.toInt32))) 13 (vp_nar .byte ((x1 >>> (16 &&& 31)).toInt8.toInt32)))))] := hD
  refine lv_aload_n hx hb dX9_four_20 rfl (lv_at hl 1 rfl) ?_
  refine lv_dup hx hb dX9_four_21 rfl ?_
  refine va_get (D := D) (v := .int 13) (C := RX9) (T := TX9) (N := 36) hx hb hts iX9 hown hK.1 hP 0 rfl rfl 1 (by decide) (hts _ t_883) (fun _ h9 => h9) rfl dX9_four_22 ?_
  refine lv_iconst (v := 1) hx hb dX9_four_25 (by decide) ?_
  refine lv_iadd hx hb dX9_four_26 ?_
  refine lv_topi (fun x1707 ex1707 => ?_)
  obtain rfl : x1707 = 14 := ex1707.trans (by decide)
  refine va_put (D := D) (v := .int 14) (C := RX9) (T := TX9) (N := 36) hx hb hts iX9 tyX9 tyX9_ok nmX9 hown hK.1 hP hD hS 0 rfl rfl 1 (by decide) (hts _ t_883) (fun _ h9 => h9) rfl (tyX9_ok 1 (by decide)) rfl rfl (Nat.le_of_ble_eq_true rfl) dX9_four_27 (fun H locs hP hD hS => ?_)
  have hP : va_P D classes [(q1, .inr (9, [.ref q2, .int 14, .int 0, .ref q3, .ref q4, .ref q5, .ref q6, .int 0, .int 0, .int 0, .ref q7, .ref q8, .int 0, .int 0, .int 0, .int 0, .int 0, .int 0, .int 0, .ref q9, .int 0, .ref q10, .int 0, .ref q11, .ref q12, .ref q13, .ref q14, .ref q15, .ref q16, .ref q17, .ref q18, .ref q19, .ref q20, .ref q21, .ref q22, .ref q23])), (q2, .inl (a 2, 400, .inl (upd (upd f1 12 (vp_nar .byte ((x1 >>> (24 &&& 31)).toInt8.toInt32))) 13 (vp_nar .byte ((x1 >>> (16 &&& 31)).toInt8.toInt32)))))] H := hP
  have hD : va_D A [(q1, .inr (9, [.ref q2, .int 14, .int 0, .ref q3, .ref q4, .ref q5, .ref q6, .int 0, .int 0, .int 0, .ref q7, .ref q8, .int 0, .int 0, .int 0, .int 0, .int 0, .int 0, .int 0, .ref q9, .int 0, .ref q10, .int 0, .ref q11, .ref q12, .ref q13, .ref q14, .ref q15, .ref q16, .ref q17, .ref q18, .ref q19, .ref q20, .ref q21, .ref q22, .ref q23])), (q2, .inl (a 2, 400, .inl (upd (upd f1 12 (vp_nar .byte ((x1 >>> (24 &&& 31)).toInt8.toInt32))) 13 (vp_nar .byte ((x1 >>> (16 &&& 31)).toInt8.toInt32)))))] := hD
  refine lv_iinc (v := 8) (lv' := [(2, .int 8), (0, .ref q1), (1, .int x1)]) hx hb dX9_four_30 hl (k := 0) rfl (by decide) (by decide) rfl (fun ls hl => ?_)
  refine lv_goto (tgt := 3) hx hb dX9_four_33 (by decide) ?_
  refine lv_iload_n hx hb dX9_four_3 rfl (lv_at hl 0 rfl) ?_
  refine lv_if_lt (tgt := 36) hx hb dX9_four_4 (by decide) (fun c9 => absurd c9 (by decide)) (fun c9 => ?_)
  refine lv_aload_n hx hb dX9_four_7 rfl (lv_at hl 1 rfl) ?_
  refine va_get (D := D) (v := .ref q2) (C := RX9) (T := TX9) (N := 36) hx hb hts iX9 hown hK.1 hP 0 rfl rfl 0 (by decide) (hts _ t_882) (fun _ h9 => h9) rfl dX9_four_8 ?_
  refine lv_aload_n hx hb dX9_four_11 rfl (lv_at hl 1 rfl) ?_
  refine va_get (D := D) (v := .int 14) (C := RX9) (T := TX9) (N := 36) hx hb hts iX9 hown hK.1 hP 0 rfl rfl 1 (by decide) (hts _ t_883) (fun _ h9 => h9) rfl dX9_four_12 ?_
  refine lv_iload_n hx hb dX9_four_15 rfl (lv_at hl 2 rfl) ?_
  refine lv_iload_n hx hb dX9_four_16 rfl (lv_at hl 0 rfl) ?_
  refine lv_ishr hx hb dX9_four_17 ?_
  refine lv_i2b (v := (x1 >>> (8 &&& 31)).toInt8.toInt32) hx hb dX9_four_18 rfl ?_
  refine ast_b hx hb hK.1 hP hD hS 1 2 rfl rfl 14 (ix_lit (by decide)) dX9_four_19 (fun H locs hP hD hS => ?_)
  have hP : va_P D classes [(q1, .inr (9, [.ref q2, .int 14, .int 0, .ref q3, .ref q4, .ref q5, .ref q6, .int 0, .int 0, .int 0, .ref q7, .ref q8, .int 0, .int 0, .int 0, .int 0, .int 0, .int 0, .int 0, .ref q9, .int 0, .ref q10, .int 0, .ref q11, .ref q12, .ref q13, .ref q14, .ref q15, .ref q16, .ref q17, .ref q18, .ref q19, .ref q20, .ref q21, .ref q22, .ref q23])), (q2, .inl (a 2, 400, .inl (upd (upd (upd f1 12 (vp_nar .byte ((x1 >>> (24 &&& 31)).toInt8.toInt32))) 13 (vp_nar .byte ((x1 >>> (16 &&& 31)).toInt8.toInt32))) 14 (vp_nar .byte ((x1 >>> (8 &&& 31)).toInt8.toInt32)))))] H := hP
  have hD : va_D A [(q1, .inr (9, [.ref q2, .int 14, .int 0, .ref q3, .ref q4, .ref q5, .ref q6, .int 0, .int 0, .int 0, .ref q7, .ref q8, .int 0, .int 0, .int 0, .int 0, .int 0, .int 0, .int 0, .ref q9, .int 0, .ref q10, .int 0, .ref q11, .ref q12, .ref q13, .ref q14, .ref q15, .ref q16, .ref q17, .ref q18, .ref q19, .ref q20, .ref q21, .ref q22, .ref q23])), (q2, .inl (a 2, 400, .inl (upd (upd (upd f1 12 (vp_nar .byte ((x1 >>> (24 &&& 31)).toInt8.toInt32))) 13 (vp_nar .byte ((x1 >>> (16 &&& 31)).toInt8.toInt32))) 14 (vp_nar .byte ((x1 >>> (8 &&& 31)).toInt8.toInt32)))))] := hD
  refine lv_aload_n hx hb dX9_four_20 rfl (lv_at hl 1 rfl) ?_
  refine lv_dup hx hb dX9_four_21 rfl ?_
  refine va_get (D := D) (v := .int 14) (C := RX9) (T := TX9) (N := 36) hx hb hts iX9 hown hK.1 hP 0 rfl rfl 1 (by decide) (hts _ t_883) (fun _ h9 => h9) rfl dX9_four_22 ?_
  refine lv_iconst (v := 1) hx hb dX9_four_25 (by decide) ?_
  refine lv_iadd hx hb dX9_four_26 ?_
  refine lv_topi (fun x1708 ex1708 => ?_)
  obtain rfl : x1708 = 15 := ex1708.trans (by decide)
  refine va_put (D := D) (v := .int 15) (C := RX9) (T := TX9) (N := 36) hx hb hts iX9 tyX9 tyX9_ok nmX9 hown hK.1 hP hD hS 0 rfl rfl 1 (by decide) (hts _ t_883) (fun _ h9 => h9) rfl (tyX9_ok 1 (by decide)) rfl rfl (Nat.le_of_ble_eq_true rfl) dX9_four_27 (fun H locs hP hD hS => ?_)
  have hP : va_P D classes [(q1, .inr (9, [.ref q2, .int 15, .int 0, .ref q3, .ref q4, .ref q5, .ref q6, .int 0, .int 0, .int 0, .ref q7, .ref q8, .int 0, .int 0, .int 0, .int 0, .int 0, .int 0, .int 0, .ref q9, .int 0, .ref q10, .int 0, .ref q11, .ref q12, .ref q13, .ref q14, .ref q15, .ref q16, .ref q17, .ref q18, .ref q19, .ref q20, .ref q21, .ref q22, .ref q23])), (q2, .inl (a 2, 400, .inl (upd (upd (upd f1 12 (vp_nar .byte ((x1 >>> (24 &&& 31)).toInt8.toInt32))) 13 (vp_nar .byte ((x1 >>> (16 &&& 31)).toInt8.toInt32))) 14 (vp_nar .byte ((x1 >>> (8 &&& 31)).toInt8.toInt32)))))] H := hP
  have hD : va_D A [(q1, .inr (9, [.ref q2, .int 15, .int 0, .ref q3, .ref q4, .ref q5, .ref q6, .int 0, .int 0, .int 0, .ref q7, .ref q8, .int 0, .int 0, .int 0, .int 0, .int 0, .int 0, .int 0, .ref q9, .int 0, .ref q10, .int 0, .ref q11, .ref q12, .ref q13, .ref q14, .ref q15, .ref q16, .ref q17, .ref q18, .ref q19, .ref q20, .ref q21, .ref q22, .ref q23])), (q2, .inl (a 2, 400, .inl (upd (upd (upd f1 12 (vp_nar .byte ((x1 >>> (24 &&& 31)).toInt8.toInt32))) 13 (vp_nar .byte ((x1 >>> (16 &&& 31)).toInt8.toInt32))) 14 (vp_nar .byte ((x1 >>> (8 &&& 31)).toInt8.toInt32)))))] := hD
  refine lv_iinc (v := 0) (lv' := [(2, .int 0), (0, .ref q1), (1, .int x1)]) hx hb dX9_four_30 hl (k := 0) rfl (by decide) (by decide) rfl (fun ls hl => ?_)
  refine lv_goto (tgt := 3) hx hb dX9_four_33 (by decide) ?_
  refine lv_iload_n hx hb dX9_four_3 rfl (lv_at hl 0 rfl) ?_
  refine lv_if_lt (tgt := 36) hx hb dX9_four_4 (by decide) (fun c9 => absurd c9 (by decide)) (fun c9 => ?_)
  refine lv_aload_n hx hb dX9_four_7 rfl (lv_at hl 1 rfl) ?_
  refine va_get (D := D) (v := .ref q2) (C := RX9) (T := TX9) (N := 36) hx hb hts iX9 hown hK.1 hP 0 rfl rfl 0 (by decide) (hts _ t_882) (fun _ h9 => h9) rfl dX9_four_8 ?_
  refine lv_aload_n hx hb dX9_four_11 rfl (lv_at hl 1 rfl) ?_
  refine va_get (D := D) (v := .int 15) (C := RX9) (T := TX9) (N := 36) hx hb hts iX9 hown hK.1 hP 0 rfl rfl 1 (by decide) (hts _ t_883) (fun _ h9 => h9) rfl dX9_four_12 ?_
  refine lv_iload_n hx hb dX9_four_15 rfl (lv_at hl 2 rfl) ?_
  refine lv_iload_n hx hb dX9_four_16 rfl (lv_at hl 0 rfl) ?_
  refine lv_ishr hx hb dX9_four_17 ?_
  refine lv_i2b (v := (x1 >>> (0 &&& 31)).toInt8.toInt32) hx hb dX9_four_18 rfl ?_
  refine ast_b hx hb hK.1 hP hD hS 1 2 rfl rfl 15 (ix_lit (by decide)) dX9_four_19 (fun H locs hP hD hS => ?_)
  have hP : va_P D classes [(q1, .inr (9, [.ref q2, .int 15, .int 0, .ref q3, .ref q4, .ref q5, .ref q6, .int 0, .int 0, .int 0, .ref q7, .ref q8, .int 0, .int 0, .int 0, .int 0, .int 0, .int 0, .int 0, .ref q9, .int 0, .ref q10, .int 0, .ref q11, .ref q12, .ref q13, .ref q14, .ref q15, .ref q16, .ref q17, .ref q18, .ref q19, .ref q20, .ref q21, .ref q22, .ref q23])), (q2, .inl (a 2, 400, .inl (upd (upd (upd (upd f1 12 (vp_nar .byte ((x1 >>> (24 &&& 31)).toInt8.toInt32))) 13 (vp_nar .byte ((x1 >>> (16 &&& 31)).toInt8.toInt32))) 14 (vp_nar .byte ((x1 >>> (8 &&& 31)).toInt8.toInt32))) 15 (vp_nar .byte ((x1 >>> (0 &&& 31)).toInt8.toInt32)))))] H := hP
  have hD : va_D A [(q1, .inr (9, [.ref q2, .int 15, .int 0, .ref q3, .ref q4, .ref q5, .ref q6, .int 0, .int 0, .int 0, .ref q7, .ref q8, .int 0, .int 0, .int 0, .int 0, .int 0, .int 0, .int 0, .ref q9, .int 0, .ref q10, .int 0, .ref q11, .ref q12, .ref q13, .ref q14, .ref q15, .ref q16, .ref q17, .ref q18, .ref q19, .ref q20, .ref q21, .ref q22, .ref q23])), (q2, .inl (a 2, 400, .inl (upd (upd (upd (upd f1 12 (vp_nar .byte ((x1 >>> (24 &&& 31)).toInt8.toInt32))) 13 (vp_nar .byte ((x1 >>> (16 &&& 31)).toInt8.toInt32))) 14 (vp_nar .byte ((x1 >>> (8 &&& 31)).toInt8.toInt32))) 15 (vp_nar .byte ((x1 >>> (0 &&& 31)).toInt8.toInt32)))))] := hD
  refine lv_aload_n hx hb dX9_four_20 rfl (lv_at hl 1 rfl) ?_
  refine lv_dup hx hb dX9_four_21 rfl ?_
  refine va_get (D := D) (v := .int 15) (C := RX9) (T := TX9) (N := 36) hx hb hts iX9 hown hK.1 hP 0 rfl rfl 1 (by decide) (hts _ t_883) (fun _ h9 => h9) rfl dX9_four_22 ?_
  refine lv_iconst (v := 1) hx hb dX9_four_25 (by decide) ?_
  refine lv_iadd hx hb dX9_four_26 ?_
  refine lv_topi (fun x1709 ex1709 => ?_)
  obtain rfl : x1709 = 16 := ex1709.trans (by decide)
  refine va_put (D := D) (v := .int 16) (C := RX9) (T := TX9) (N := 36) hx hb hts iX9 tyX9 tyX9_ok nmX9 hown hK.1 hP hD hS 0 rfl rfl 1 (by decide) (hts _ t_883) (fun _ h9 => h9) rfl (tyX9_ok 1 (by decide)) rfl rfl (Nat.le_of_ble_eq_true rfl) dX9_four_27 (fun H locs hP hD hS => ?_)
  have hP : va_P D classes [(q1, .inr (9, [.ref q2, .int 16, .int 0, .ref q3, .ref q4, .ref q5, .ref q6, .int 0, .int 0, .int 0, .ref q7, .ref q8, .int 0, .int 0, .int 0, .int 0, .int 0, .int 0, .int 0, .ref q9, .int 0, .ref q10, .int 0, .ref q11, .ref q12, .ref q13, .ref q14, .ref q15, .ref q16, .ref q17, .ref q18, .ref q19, .ref q20, .ref q21, .ref q22, .ref q23])), (q2, .inl (a 2, 400, .inl (upd (upd (upd (upd f1 12 (vp_nar .byte ((x1 >>> (24 &&& 31)).toInt8.toInt32))) 13 (vp_nar .byte ((x1 >>> (16 &&& 31)).toInt8.toInt32))) 14 (vp_nar .byte ((x1 >>> (8 &&& 31)).toInt8.toInt32))) 15 (vp_nar .byte ((x1 >>> (0 &&& 31)).toInt8.toInt32)))))] H := hP
  have hD : va_D A [(q1, .inr (9, [.ref q2, .int 16, .int 0, .ref q3, .ref q4, .ref q5, .ref q6, .int 0, .int 0, .int 0, .ref q7, .ref q8, .int 0, .int 0, .int 0, .int 0, .int 0, .int 0, .int 0, .ref q9, .int 0, .ref q10, .int 0, .ref q11, .ref q12, .ref q13, .ref q14, .ref q15, .ref q16, .ref q17, .ref q18, .ref q19, .ref q20, .ref q21, .ref q22, .ref q23])), (q2, .inl (a 2, 400, .inl (upd (upd (upd (upd f1 12 (vp_nar .byte ((x1 >>> (24 &&& 31)).toInt8.toInt32))) 13 (vp_nar .byte ((x1 >>> (16 &&& 31)).toInt8.toInt32))) 14 (vp_nar .byte ((x1 >>> (8 &&& 31)).toInt8.toInt32))) 15 (vp_nar .byte ((x1 >>> (0 &&& 31)).toInt8.toInt32)))))] := hD
  refine lv_iinc (v := (-8)) (lv' := [(2, .int (-8)), (0, .ref q1), (1, .int x1)]) hx hb dX9_four_30 hl (k := 0) rfl (by decide) (by decide) rfl (fun ls hl => ?_)
  refine lv_goto (tgt := 3) hx hb dX9_four_33 (by decide) ?_
  refine lv_iload_n hx hb dX9_four_3 rfl (lv_at hl 0 rfl) ?_
  refine lv_if_lt (tgt := 36) hx hb dX9_four_4 (by decide) (fun c9 => ?_) (fun c9 => absurd (by decide) c9)
  exact retMv C rfl (0, [], [], [], [(upd (upd (upd (upd f1 12 (vp_nar .byte ((x1 >>> (24 &&& 31)).toInt8.toInt32))) 13 (vp_nar .byte ((x1 >>> (16 &&& 31)).toInt8.toInt32))) 14 (vp_nar .byte ((x1 >>> (8 &&& 31)).toInt8.toInt32))) 15 (vp_nar .byte ((x1 >>> (0 &&& 31)).toInt8.toInt32)))], []) ⟨(upd (upd (upd (upd f1 12 (vp_nar .byte ((x1 >>> (24 &&& 31)).toInt8.toInt32))) 13 (vp_nar .byte ((x1 >>> (16 &&& 31)).toInt8.toInt32))) 14 (vp_nar .byte ((x1 >>> (8 &&& 31)).toInt8.toInt32))) 15 (vp_nar .byte ((x1 >>> (0 &&& 31)).toInt8.toInt32))), rfl⟩ hP hD hS (Nat.le_of_ble_eq_true rfl) (Nat.le_of_ble_eq_true rfl) dX9_four_36

set_option maxHeartbeats 4000000 in
set_option maxRecDepth 100000 in
theorem c_X9_four_4 (l : Launch) (D : va_G) (a : Nat → ClassId) (q1 q2 q3 q4 q5 q6 q7 q8 q9 q10 q11 q12 q13 q14 q15 q16 q17 q18 q19 q20 q21 q22 q23 : Nat) (x1 : Int32) (f1 : Nat → Int32) (sz : Nat) : CMv (S := SS) l MX9_four 0 0 0 0 D a [.ref q1, .int x1] [(q1, .inr (9, [.ref q2, .int 16, .int 0, .ref q3, .ref q4, .ref q5, .ref q6, .int 0, .int 0, .int 0, .ref q7, .ref q8, .int 0, .int 0, .int 0, .int 0, .int 0, .int 0, .int 0, .ref q9, .int 0, .ref q10, .int 0, .ref q11, .ref q12, .ref q13, .ref q14, .ref q15, .ref q16, .ref q17, .ref q18, .ref q19, .ref q20, .ref q21, .ref q22, .ref q23])), (q2, .inl (a 2, 400, .inl f1))] sz (fun u => (∃ f1723 : Nat → Int32, u = (0, [], [], [], [f1723], []))) (fun u => pk [[(q1, .inr (9, [.ref q2, .int 20, .int 0, .ref q3, .ref q4, .ref q5, .ref q6, .int 0, .int 0, .int 0, .ref q7, .ref q8, .int 0, .int 0, .int 0, .int 0, .int 0, .int 0, .int 0, .ref q9, .int 0, .ref q10, .int 0, .ref q11, .ref q12, .ref q13, .ref q14, .ref q15, .ref q16, .ref q17, .ref q18, .ref q19, .ref q20, .ref q21, .ref q22, .ref q23])), (q2, .inl (a 2, 400, .inl (u.2.2.2.2.1.getD 0 (fun _ => 0))))]] u.1) := by
  refine entMv (by decide) (Nat.le_of_ble_eq_true rfl) ?_
  intro p e s m below meth c C hK A hA hP hD ls hl
  obtain ⟨hx, hb, hml, hown, hts, hr, hlocks, hnm⟩ := id C
  have hb : c.code = cX9_four := hb
  have hown : s.vm.findClass RX9 = some m.cls := hown
  have hS : va_S A s.heap s.heap [] := va_S.rf
  have hl : lv_has ls 3 [(0, .ref q1), (1, .int x1)] := hl
  refine lv_bipush (v := 24) hx hb dX9_four_0 (by decide) ?_
  refine lv_istore_n (lv' := [(2, .int 24), (0, .ref q1), (1, .int x1)]) hx hb dX9_four_2 rfl hl (by decide) rfl (fun ls hl => ?_)
  refine lv_iload_n hx hb dX9_four_3 rfl (lv_at hl 0 rfl) ?_
  refine lv_if_lt (tgt := 36) hx hb dX9_four_4 (by decide) (fun c9 => absurd c9 (by decide)) (fun c9 => ?_)
  refine lv_aload_n hx hb dX9_four_7 rfl (lv_at hl 1 rfl) ?_
  refine va_get (D := D) (v := .ref q2) (C := RX9) (T := TX9) (N := 36) hx hb hts iX9 hown hK.1 hP 0 rfl rfl 0 (by decide) (hts _ t_882) (fun _ h9 => h9) rfl dX9_four_8 ?_
  refine lv_aload_n hx hb dX9_four_11 rfl (lv_at hl 1 rfl) ?_
  refine va_get (D := D) (v := .int 16) (C := RX9) (T := TX9) (N := 36) hx hb hts iX9 hown hK.1 hP 0 rfl rfl 1 (by decide) (hts _ t_883) (fun _ h9 => h9) rfl dX9_four_12 ?_
  refine lv_iload_n hx hb dX9_four_15 rfl (lv_at hl 2 rfl) ?_
  refine lv_iload_n hx hb dX9_four_16 rfl (lv_at hl 0 rfl) ?_
  refine lv_ishr hx hb dX9_four_17 ?_
  refine lv_i2b (v := (x1 >>> (24 &&& 31)).toInt8.toInt32) hx hb dX9_four_18 rfl ?_
  refine ast_b hx hb hK.1 hP hD hS 1 2 rfl rfl 16 (ix_lit (by decide)) dX9_four_19 (fun H locs hP hD hS => ?_)
  have hP : va_P D classes [(q1, .inr (9, [.ref q2, .int 16, .int 0, .ref q3, .ref q4, .ref q5, .ref q6, .int 0, .int 0, .int 0, .ref q7, .ref q8, .int 0, .int 0, .int 0, .int 0, .int 0, .int 0, .int 0, .ref q9, .int 0, .ref q10, .int 0, .ref q11, .ref q12, .ref q13, .ref q14, .ref q15, .ref q16, .ref q17, .ref q18, .ref q19, .ref q20, .ref q21, .ref q22, .ref q23])), (q2, .inl (a 2, 400, .inl (upd f1 16 (vp_nar .byte ((x1 >>> (24 &&& 31)).toInt8.toInt32)))))] H := hP
  have hD : va_D A [(q1, .inr (9, [.ref q2, .int 16, .int 0, .ref q3, .ref q4, .ref q5, .ref q6, .int 0, .int 0, .int 0, .ref q7, .ref q8, .int 0, .int 0, .int 0, .int 0, .int 0, .int 0, .int 0, .ref q9, .int 0, .ref q10, .int 0, .ref q11, .ref q12, .ref q13, .ref q14, .ref q15, .ref q16, .ref q17, .ref q18, .ref q19, .ref q20, .ref q21, .ref q22, .ref q23])), (q2, .inl (a 2, 400, .inl (upd f1 16 (vp_nar .byte ((x1 >>> (24 &&& 31)).toInt8.toInt32)))))] := hD
  refine lv_aload_n hx hb dX9_four_20 rfl (lv_at hl 1 rfl) ?_
  refine lv_dup hx hb dX9_four_21 rfl ?_
  refine va_get (D := D) (v := .int 16) (C := RX9) (T := TX9) (N := 36) hx hb hts iX9 hown hK.1 hP 0 rfl rfl 1 (by decide) (hts _ t_883) (fun _ h9 => h9) rfl dX9_four_22 ?_
  refine lv_iconst (v := 1) hx hb dX9_four_25 (by decide) ?_
  refine lv_iadd hx hb dX9_four_26 ?_
  refine lv_topi (fun x1719 ex1719 => ?_)
  obtain rfl : x1719 = 17 := ex1719.trans (by decide)
  refine va_put (D := D) (v := .int 17) (C := RX9) (T := TX9) (N := 36) hx hb hts iX9 tyX9 tyX9_ok nmX9 hown hK.1 hP hD hS 0 rfl rfl 1 (by decide) (hts _ t_883) (fun _ h9 => h9) rfl (tyX9_ok 1 (by decide)) rfl rfl (Nat.le_of_ble_eq_true rfl) dX9_four_27 (fun H locs hP hD hS => ?_)
  have hP : va_P D classes [(q1, .inr (9, [.ref q2, .int 17, .int 0, .ref q3, .ref q4, .ref q5, .ref q6, .int 0, .int 0, .int 0, .ref q7, .ref q8, .int 0, .int 0, .int 0, .int 0, .int 0, .int 0, .int 0, .ref q9, .int 0, .ref q10, .int 0, .ref q11, .ref q12, .ref q13, .ref q14, .ref q15, .ref q16, .ref q17, .ref q18, .ref q19, .ref q20, .ref q21, .ref q22, .ref q23])), (q2, .inl (a 2, 400, .inl (upd f1 16 (vp_nar .byte ((x1 >>> (24 &&& 31)).toInt8.toInt32)))))] H := hP
  have hD : va_D A [(q1, .inr (9, [.ref q2, .int 17, .int 0, .ref q3, .ref q4, .ref q5, .ref q6, .int 0, .int 0, .int 0, .ref q7, .ref q8, .int 0, .int 0, .int 0, .int 0, .int 0, .int 0, .int 0, .ref q9, .int 0, .ref q10, .int 0, .ref q11, .ref q12, .ref q13, .ref q14, .ref q15, .ref q16, .ref q17, .ref q18, .ref q19, .ref q20, .ref q21, .ref q22, .ref q23])), (q2, .inl (a 2, 400, .inl (upd f1 16 (vp_nar .byte ((x1 >>> (24 &&& 31)).toInt8.toInt32)))))] := hD
  refine lv_iinc (v := 16) (lv' := [(2, .int 16), (0, .ref q1), (1, .int x1)]) hx hb dX9_four_30 hl (k := 0) rfl (by decide) (by decide) rfl (fun ls hl => ?_)
  refine lv_goto (tgt := 3) hx hb dX9_four_33 (by decide) ?_
  refine lv_iload_n hx hb dX9_four_3 rfl (lv_at hl 0 rfl) ?_
  refine lv_if_lt (tgt := 36) hx hb dX9_four_4 (by decide) (fun c9 => absurd c9 (by decide)) (fun c9 => ?_)
  refine lv_aload_n hx hb dX9_four_7 rfl (lv_at hl 1 rfl) ?_
  refine va_get (D := D) (v := .ref q2) (C := RX9) (T := TX9) (N := 36) hx hb hts iX9 hown hK.1 hP 0 rfl rfl 0 (by decide) (hts _ t_882) (fun _ h9 => h9) rfl dX9_four_8 ?_
  refine lv_aload_n hx hb dX9_four_11 rfl (lv_at hl 1 rfl) ?_
  refine va_get (D := D) (v := .int 17) (C := RX9) (T := TX9) (N := 36) hx hb hts iX9 hown hK.1 hP 0 rfl rfl 1 (by decide) (hts _ t_883) (fun _ h9 => h9) rfl dX9_four_12 ?_
  refine lv_iload_n hx hb dX9_four_15 rfl (lv_at hl 2 rfl) ?_
  refine lv_iload_n hx hb dX9_four_16 rfl (lv_at hl 0 rfl) ?_
  refine lv_ishr hx hb dX9_four_17 ?_
  refine lv_i2b (v := (x1 >>> (16 &&& 31)).toInt8.toInt32) hx hb dX9_four_18 rfl ?_
  refine ast_b hx hb hK.1 hP hD hS 1 2 rfl rfl 17 (ix_lit (by decide)) dX9_four_19 (fun H locs hP hD hS => ?_)
  have hP : va_P D classes [(q1, .inr (9, [.ref q2, .int 17, .int 0, .ref q3, .ref q4, .ref q5, .ref q6, .int 0, .int 0, .int 0, .ref q7, .ref q8, .int 0, .int 0, .int 0, .int 0, .int 0, .int 0, .int 0, .ref q9, .int 0, .ref q10, .int 0, .ref q11, .ref q12, .ref q13, .ref q14, .ref q15, .ref q16, .ref q17, .ref q18, .ref q19, .ref q20, .ref q21, .ref q22, .ref q23])), (q2, .inl (a 2, 400, .inl (upd (upd f1 16 (vp_nar .byte ((x1 >>> (24 &&& 31)).toInt8.toInt32))) 17 (vp_nar .byte ((x1 >>> (16 &&& 31)).toInt8.toInt32)))))] H := hP
  have hD : va_D A [(q1, .inr (9, [.ref q2, .int 17, .int 0, .ref q3, .ref q4, .ref q5, .ref q6, .int 0, .int 0, .int 0, .ref q7, .ref q8, .int 0, .int 0, .int 0, .int 0, .int 0, .int 0, .int 0, .ref q9, .int 0, .ref q10, .int 0, .ref q11, .ref q12, .ref q13, .ref q14, .ref q15, .ref q16, .ref q17, .ref q18, .ref q19, .ref q20, .ref q21, .ref q22, .ref q23])), (q2, .inl (a 2, 400, .inl (upd (upd f1 16 (vp_nar .byte ((x1 >>> (24 &&& 31)).toInt8.toInt32))) 17 (vp_nar .byte ((x1 >>> (16 &&& 31)).toInt8.toInt32)))))] := hD
  refine lv_aload_n hx hb dX9_four_20 rfl (lv_at hl 1 rfl) ?_
  refine lv_dup hx hb dX9_four_21 rfl ?_
  refine va_get (D := D) (v := .int 17) (C := RX9) (T := TX9) (N := 36) hx hb hts iX9 hown hK.1 hP 0 rfl rfl 1 (by decide) (hts _ t_883) (fun _ h9 => h9) rfl dX9_four_22 ?_
  refine lv_iconst (v := 1) hx hb dX9_four_25 (by decide) ?_
  refine lv_iadd hx hb dX9_four_26 ?_
  refine lv_topi (fun x1720 ex1720 => ?_)
  obtain rfl : x1720 = 18 := ex1720.trans (by decide)
  refine va_put (D := D) (v := .int 18) (C := RX9) (T := TX9) (N := 36) hx hb hts iX9 tyX9 tyX9_ok nmX9 hown hK.1 hP hD hS 0 rfl rfl 1 (by decide) (hts _ t_883) (fun _ h9 => h9) rfl (tyX9_ok 1 (by decide)) rfl rfl (Nat.le_of_ble_eq_true rfl) dX9_four_27 (fun H locs hP hD hS => ?_)
  have hP : va_P D classes [(q1, .inr (9, [.ref q2, .int 18, .int 0, .ref q3, .ref q4, .ref q5, .ref q6, .int 0, .int 0, .int 0, .ref q7, .ref q8, .int 0, .int 0, .int 0, .int 0, .int 0, .int 0, .int 0, .ref q9, .int 0, .ref q10, .int 0, .ref q11, .ref q12, .ref q13, .ref q14, .ref q15, .ref q16, .ref q17, .ref q18, .ref q19, .ref q20, .ref q21, .ref q22, .ref q23])), (q2, .inl (a 2, 400, .inl (upd (upd f1 16 (vp_nar .byte ((x1 >>> (24 &&& 31)).toInt8.toInt32))) 17 (vp_nar .byte ((x1 >>> (16 &&& 31)).toInt8.toInt32)))))] H := hP
  have hD : va_D A [(q1, .inr (9, [.ref q2, .int 18, .int 0, .ref q3, .ref q4, .ref q5, .ref q6, .int 0, .int 0, .int 0, .ref q7, .ref q8, .int 0, .int 0, .int 0, .int 0, .int 0, .int 0, .int 0, .ref q9, .int 0, .ref q10, .int 0, .ref q11, .ref q12, .ref q13, .ref q14, .ref q15, .ref q16, .ref q17, .ref q18, .ref q19, .ref q20, .ref q21, .ref q22, .ref q23])), (q2, .inl (a 2, 400, .inl (upd (upd f1 16 (vp_nar .byte ((x1 >>> (24 &&& 31)).toInt8.toInt32))) 17 (vp_nar .byte ((x1 >>> (16 &&& 31)).toInt8.toInt32)))))] := hD
  refine lv_iinc (v := 8) (lv' := [(2, .int 8), (0, .ref q1), (1, .int x1)]) hx hb dX9_four_30 hl (k := 0) rfl (by decide) (by decide) rfl (fun ls hl => ?_)
  refine lv_goto (tgt := 3) hx hb dX9_four_33 (by decide) ?_
  refine lv_iload_n hx hb dX9_four_3 rfl (lv_at hl 0 rfl) ?_
  refine lv_if_lt (tgt := 36) hx hb dX9_four_4 (by decide) (fun c9 => absurd c9 (by decide)) (fun c9 => ?_)
  refine lv_aload_n hx hb dX9_four_7 rfl (lv_at hl 1 rfl) ?_
  refine va_get (D := D) (v := .ref q2) (C := RX9) (T := TX9) (N := 36) hx hb hts iX9 hown hK.1 hP 0 rfl rfl 0 (by decide) (hts _ t_882) (fun _ h9 => h9) rfl dX9_four_8 ?_
  refine lv_aload_n hx hb dX9_four_11 rfl (lv_at hl 1 rfl) ?_
  refine va_get (D := D) (v := .int 18) (C := RX9) (T := TX9) (N := 36) hx hb hts iX9 hown hK.1 hP 0 rfl rfl 1 (by decide) (hts _ t_883) (fun _ h9 => h9) rfl dX9_four_12 ?_
  refine lv_iload_n hx hb dX9_four_15 rfl (lv_at hl 2 rfl) ?_
  refine lv_iload_n hx hb dX9_four_16 rfl (lv_at hl 0 rfl) ?_
  refine lv_ishr hx hb dX9_four_17 ?_
  refine lv_i2b (v := (x1 >>> (8 &&& 31)).toInt8.toInt32) hx hb dX9_four_18 rfl ?_
  refine ast_b hx hb hK.1 hP hD hS 1 2 rfl rfl 18 (ix_lit (by decide)) dX9_four_19 (fun H locs hP hD hS => ?_)
  have hP : va_P D classes [(q1, .inr (9, [.ref q2, .int 18, .int 0, .ref q3, .ref q4, .ref q5, .ref q6, .int 0, .int 0, .int 0, .ref q7, .ref q8, .int 0, .int 0, .int 0, .int 0, .int 0, .int 0, .int 0, .ref q9, .int 0, .ref q10, .int 0, .ref q11, .ref q12, .ref q13, .ref q14, .ref q15, .ref q16, .ref q17, .ref q18, .ref q19, .ref q20, .ref q21, .ref q22, .ref q23])), (q2, .inl (a 2, 400, .inl (upd (upd (upd f1 16 (vp_nar .byte ((x1 >>> (24 &&& 31)).toInt8.toInt32))) 17 (vp_nar .byte ((x1 >>> (16 &&& 31)).toInt8.toInt32))) 18 (vp_nar .byte ((x1 >>> (8 &&& 31)).toInt8.toInt32)))))] H := hP
  have hD : va_D A [(q1, .inr (9, [.ref q2, .int 18, .int 0, .ref q3, .ref q4, .ref q5, .ref q6, .int 0, .int 0, .int 0, .ref q7, .ref q8, .int 0, .int 0, .int 0, .int 0, .int 0, .int 0, .int 0, .ref q9, .int 0, .ref q10, .int 0, .ref q11, .ref q12, .ref q13, .ref q14, .ref q15, .ref q16, .ref q17, .ref q18, .ref q19, .ref q20, .ref q21, .ref q22, .ref q23])), (q2, .inl (a 2, 400, .inl (upd (upd (upd f1 16 (vp_nar .byte ((x1 >>> (24 &&& 31)).toInt8.toInt32))) 17 (vp_nar .byte ((x1 >>> (16 &&& 31)).toInt8.toInt32))) 18 (vp_nar .byte ((x1 >>> (8 &&& 31)).toInt8.toInt32)))))] := hD
  refine lv_aload_n hx hb dX9_four_20 rfl (lv_at hl 1 rfl) ?_
  refine lv_dup hx hb dX9_four_21 rfl ?_
  refine va_get (D := D) (v := .int 18) (C := RX9) (T := TX9) (N := 36) hx hb hts iX9 hown hK.1 hP 0 rfl rfl 1 (by decide) (hts _ t_883) (fun _ h9 => h9) rfl dX9_four_22 ?_
  refine lv_iconst (v := 1) hx hb dX9_four_25 (by decide) ?_
  refine lv_iadd hx hb dX9_four_26 ?_
  refine lv_topi (fun x1721 ex1721 => ?_)
  obtain rfl : x1721 = 19 := ex1721.trans (by decide)
  refine va_put (D := D) (v := .int 19) (C := RX9) (T := TX9) (N := 36) hx hb hts iX9 tyX9 tyX9_ok nmX9 hown hK.1 hP hD hS 0 rfl rfl 1 (by decide) (hts _ t_883) (fun _ h9 => h9) rfl (tyX9_ok 1 (by decide)) rfl rfl (Nat.le_of_ble_eq_true rfl) dX9_four_27 (fun H locs hP hD hS => ?_)
  have hP : va_P D classes [(q1, .inr (9, [.ref q2, .int 19, .int 0, .ref q3, .ref q4, .ref q5, .ref q6, .int 0, .int 0, .int 0, .ref q7, .ref q8, .int 0, .int 0, .int 0, .int 0, .int 0, .int 0, .int 0, .ref q9, .int 0, .ref q10, .int 0, .ref q11, .ref q12, .ref q13, .ref q14, .ref q15, .ref q16, .ref q17, .ref q18, .ref q19, .ref q20, .ref q21, .ref q22, .ref q23])), (q2, .inl (a 2, 400, .inl (upd (upd (upd f1 16 (vp_nar .byte ((x1 >>> (24 &&& 31)).toInt8.toInt32))) 17 (vp_nar .byte ((x1 >>> (16 &&& 31)).toInt8.toInt32))) 18 (vp_nar .byte ((x1 >>> (8 &&& 31)).toInt8.toInt32)))))] H := hP
  have hD : va_D A [(q1, .inr (9, [.ref q2, .int 19, .int 0, .ref q3, .ref q4, .ref q5, .ref q6, .int 0, .int 0, .int 0, .ref q7, .ref q8, .int 0, .int 0, .int 0, .int 0, .int 0, .int 0, .int 0, .ref q9, .int 0, .ref q10, .int 0, .ref q11, .ref q12, .ref q13, .ref q14, .ref q15, .ref q16, .ref q17, .ref q18, .ref q19, .ref q20, .ref q21, .ref q22, .ref q23])), (q2, .inl (a 2, 400, .inl (upd (upd (upd f1 16 (vp_nar .byte ((x1 >>> (24 &&& 31)).toInt8.toInt32))) 17 (vp_nar .byte ((x1 >>> (16 &&& 31)).toInt8.toInt32))) 18 (vp_nar .byte ((x1 >>> (8 &&& 31)).toInt8.toInt32)))))] := hD
  refine lv_iinc (v := 0) (lv' := [(2, .int 0), (0, .ref q1), (1, .int x1)]) hx hb dX9_four_30 hl (k := 0) rfl (by decide) (by decide) rfl (fun ls hl => ?_)
  refine lv_goto (tgt := 3) hx hb dX9_four_33 (by decide) ?_
  refine lv_iload_n hx hb dX9_four_3 rfl (lv_at hl 0 rfl) ?_
  refine lv_if_lt (tgt := 36) hx hb dX9_four_4 (by decide) (fun c9 => absurd c9 (by decide)) (fun c9 => ?_)
  refine lv_aload_n hx hb dX9_four_7 rfl (lv_at hl 1 rfl) ?_
  refine va_get (D := D) (v := .ref q2) (C := RX9) (T := TX9) (N := 36) hx hb hts iX9 hown hK.1 hP 0 rfl rfl 0 (by decide) (hts _ t_882) (fun _ h9 => h9) rfl dX9_four_8 ?_
  refine lv_aload_n hx hb dX9_four_11 rfl (lv_at hl 1 rfl) ?_
  refine va_get (D := D) (v := .int 19) (C := RX9) (T := TX9) (N := 36) hx hb hts iX9 hown hK.1 hP 0 rfl rfl 1 (by decide) (hts _ t_883) (fun _ h9 => h9) rfl dX9_four_12 ?_
  refine lv_iload_n hx hb dX9_four_15 rfl (lv_at hl 2 rfl) ?_
  refine lv_iload_n hx hb dX9_four_16 rfl (lv_at hl 0 rfl) ?_
  refine lv_ishr hx hb dX9_four_17 ?_
  refine lv_i2b (v := (x1 >>> (0 &&& 31)).toInt8.toInt32) hx hb dX9_four_18 rfl ?_
  refine ast_b hx hb hK.1 hP hD hS 1 2 rfl rfl 19 (ix_lit (by decide)) dX9_four_19 (fun H locs hP hD hS => ?_)
  have hP : va_P D classes [(q1, .inr (9, [.ref q2, .int 19, .int 0, .ref q3, .ref q4, .ref q5, .ref q6, .int 0, .int 0, .int 0, .ref q7, .ref q8, .int 0, .int 0, .int 0, .int 0, .int 0, .int 0, .int 0, .ref q9, .int 0, .ref q10, .int 0, .ref q11, .ref q12, .ref q13, .ref q14, .ref q15, .ref q16, .ref q17, .ref q18, .ref q19, .ref q20, .ref q21, .ref q22, .ref q23])), (q2, .inl (a 2, 400, .inl (upd (upd (upd (upd f1 16 (vp_nar .byte ((x1 >>> (24 &&& 31)).toInt8.toInt32))) 17 (vp_nar .byte ((x1 >>> (16 &&& 31)).toInt8.toInt32))) 18 (vp_nar .byte ((x1 >>> (8 &&& 31)).toInt8.toInt32))) 19 (vp_nar .byte ((x1 >>> (0 &&& 31)).toInt8.toInt32)))))] H := hP
  have hD : va_D A [(q1, .inr (9, [.ref q2, .int 19, .int 0, .ref q3, .ref q4, .ref q5, .ref q6, .int 0, .int 0, .int 0, .ref q7, .ref q8, .int 0, .int 0, .int 0, .int 0, .int 0, .int 0, .int 0, .ref q9, .int 0, .ref q10, .int 0, .ref q11, .ref q12, .ref q13, .ref q14, .ref q15, .ref q16, .ref q17, .ref q18, .ref q19, .ref q20, .ref q21, .ref q22, .ref q23])), (q2, .inl (a 2, 400, .inl (upd (upd (upd (upd f1 16 (vp_nar .byte ((x1 >>> (24 &&& 31)).toInt8.toInt32))) 17 (vp_nar .byte ((x1 >>> (16 &&& 31)).toInt8.toInt32))) 18 (vp_nar .byte ((x1 >>> (8 &&& 31)).toInt8.toInt32))) 19 (vp_nar .byte ((x1 >>> (0 &&& 31)).toInt8.toInt32)))))] := hD
  refine lv_aload_n hx hb dX9_four_20 rfl (lv_at hl 1 rfl) ?_
  refine lv_dup hx hb dX9_four_21 rfl ?_
  refine va_get (D := D) (v := .int 19) (C := RX9) (T := TX9) (N := 36) hx hb hts iX9 hown hK.1 hP 0 rfl rfl 1 (by decide) (hts _ t_883) (fun _ h9 => h9) rfl dX9_four_22 ?_
  refine lv_iconst (v := 1) hx hb dX9_four_25 (by decide) ?_
  refine lv_iadd hx hb dX9_four_26 ?_
  refine lv_topi (fun x1722 ex1722 => ?_)
  obtain rfl : x1722 = 20 := ex1722.trans (by decide)
  refine va_put (D := D) (v := .int 20) (C := RX9) (T := TX9) (N := 36) hx hb hts iX9 tyX9 tyX9_ok nmX9 hown hK.1 hP hD hS 0 rfl rfl 1 (by decide) (hts _ t_883) (fun _ h9 => h9) rfl (tyX9_ok 1 (by decide)) rfl rfl (Nat.le_of_ble_eq_true rfl) dX9_four_27 (fun H locs hP hD hS => ?_)
  have hP : va_P D classes [(q1, .inr (9, [.ref q2, .int 20, .int 0, .ref q3, .ref q4, .ref q5, .ref q6, .int 0, .int 0, .int 0, .ref q7, .ref q8, .int 0, .int 0, .int 0, .int 0, .int 0, .int 0, .int 0, .ref q9, .int 0, .ref q10, .int 0, .ref q11, .ref q12, .ref q13, .ref q14, .ref q15, .ref q16, .ref q17, .ref q18, .ref q19, .ref q20, .ref q21, .ref q22, .ref q23])), (q2, .inl (a 2, 400, .inl (upd (upd (upd (upd f1 16 (vp_nar .byte ((x1 >>> (24 &&& 31)).toInt8.toInt32))) 17 (vp_nar .byte ((x1 >>> (16 &&& 31)).toInt8.toInt32))) 18 (vp_nar .byte ((x1 >>> (8 &&& 31)).toInt8.toInt32))) 19 (vp_nar .byte ((x1 >>> (0 &&& 31)).toInt8.toInt32)))))] H := hP
  have hD : va_D A [(q1, .inr (9, [.ref q2, .int 20, .int 0, .ref q3, .ref q4, .ref q5, .ref q6, .int 0, .int 0, .int 0, .ref q7, .ref q8, .int 0, .int 0, .int 0, .int 0, .int 0, .int 0, .int 0, .ref q9, .int 0, .ref q10, .int 0, .ref q11, .ref q12, .ref q13, .ref q14, .ref q15, .ref q16, .ref q17, .ref q18, .ref q19, .ref q20, .ref q21, .ref q22, .ref q23])), (q2, .inl (a 2, 400, .inl (upd (upd (upd (upd f1 16 (vp_nar .byte ((x1 >>> (24 &&& 31)).toInt8.toInt32))) 17 (vp_nar .byte ((x1 >>> (16 &&& 31)).toInt8.toInt32))) 18 (vp_nar .byte ((x1 >>> (8 &&& 31)).toInt8.toInt32))) 19 (vp_nar .byte ((x1 >>> (0 &&& 31)).toInt8.toInt32)))))] := hD
  refine lv_iinc (v := (-8)) (lv' := [(2, .int (-8)), (0, .ref q1), (1, .int x1)]) hx hb dX9_four_30 hl (k := 0) rfl (by decide) (by decide) rfl (fun ls hl => ?_)
  refine lv_goto (tgt := 3) hx hb dX9_four_33 (by decide) ?_
  refine lv_iload_n hx hb dX9_four_3 rfl (lv_at hl 0 rfl) ?_
  refine lv_if_lt (tgt := 36) hx hb dX9_four_4 (by decide) (fun c9 => ?_) (fun c9 => absurd (by decide) c9)
  exact retMv C rfl (0, [], [], [], [(upd (upd (upd (upd f1 16 (vp_nar .byte ((x1 >>> (24 &&& 31)).toInt8.toInt32))) 17 (vp_nar .byte ((x1 >>> (16 &&& 31)).toInt8.toInt32))) 18 (vp_nar .byte ((x1 >>> (8 &&& 31)).toInt8.toInt32))) 19 (vp_nar .byte ((x1 >>> (0 &&& 31)).toInt8.toInt32)))], []) ⟨(upd (upd (upd (upd f1 16 (vp_nar .byte ((x1 >>> (24 &&& 31)).toInt8.toInt32))) 17 (vp_nar .byte ((x1 >>> (16 &&& 31)).toInt8.toInt32))) 18 (vp_nar .byte ((x1 >>> (8 &&& 31)).toInt8.toInt32))) 19 (vp_nar .byte ((x1 >>> (0 &&& 31)).toInt8.toInt32))), rfl⟩ hP hD hS (Nat.le_of_ble_eq_true rfl) (Nat.le_of_ble_eq_true rfl) dX9_four_36

set_option maxHeartbeats 4000000 in
set_option maxRecDepth 100000 in
theorem c_X9_feed_0 (l : Launch) (D : va_G) (a : Nat → ClassId) (q1 q2 q3 q4 q5 q6 q7 q8 q9 q10 q11 q12 q13 q14 q15 q16 q17 q18 q19 q20 q21 q22 q23 : Nat) (x1 x2 x3 x4 x5 : Int32) (sz : Nat) : CMi (S := SS) l MX9_feed 1 22 0 0 D a [.ref q1, .int x1, .int x2, .int x3, .int x4, .int x5] [(q1, .inr (9, [.ref q2, .int 0, .int 0, .ref q3, .ref q4, .ref q5, .ref q6, .int 0, .int 0, .int 0, .ref q7, .ref q8, .int 0, .int 0, .int 0, .int 0, .int 0, .int 0, .int 0, .ref q9, .int 0, .ref q10, .int 0, .ref q11, .ref q12, .ref q13, .ref q14, .ref q15, .ref q16, .ref q17, .ref q18, .ref q19, .ref q20, .ref q21, .ref q22, .ref q23])), (q2, .inl (a 2, 400, .inl (fun _ => 0)))] sz (fun r u => (∃ f1768 : Nat → Int32, u = (0, [], [], [], [f1768], []) ∧ r = 20)) (fun u => pk [[(q1, .inr (9, [.ref q2, .int 20, .int 0, .ref q3, .ref q4, .ref q5, .ref q6, .int 0, .int 0, .int 0, .ref q7, .ref q8, .int 0, .int 0, .int 0, .int 0, .int 0, .int 0, .int 0, .ref q9, .int 0, .ref q10, .int 0, .ref q11, .ref q12, .ref q13, .ref q14, .ref q15, .ref q16, .ref q17, .ref q18, .ref q19, .ref q20, .ref q21, .ref q22, .ref q23])), (q2, .inl (a 2, 400, .inl (u.2.2.2.2.1.getD 0 (fun _ => 0))))]] u.1) := by
  refine entMi (by decide) (Nat.le_of_ble_eq_true rfl) ?_
  intro p e s m below meth c C hK A hA hP hD ls hl
  obtain ⟨hx, hb, hml, hown, hts, hr, hlocks, hnm⟩ := id C
  have hb : c.code = cX9_feed := hb
  have hown : s.vm.findClass RX9 = some m.cls := hown
  have hS : va_S A s.heap s.heap [] := va_S.rf
  have hl : lv_has ls 6 [(0, .ref q1), (1, .int x1), (2, .int x2), (3, .int x3), (4, .int x4), (5, .int x5)] := hl
  refine lv_aload_n hx hb dX9_feed_0 rfl (lv_at hl 0 rfl) ?_
  refine va_get (D := D) (v := .int 0) (C := RX9) (T := TX9) (N := 36) hx hb hts iX9 hown hK.1 hP 0 rfl rfl 1 (by decide) (hts _ t_883) (fun _ h9 => h9) rfl dX9_feed_1 ?_
  refine lv_bipush (v := 20) hx hb dX9_feed_4 (by decide) ?_
  refine lv_iadd hx hb dX9_feed_6 ?_
  refine lv_topi (fun x1728 ex1728 => ?_)
  obtain rfl : x1728 = 20 := ex1728.trans (by decide)
  refine lv_sipush (v := 400) hx hb dX9_feed_7 (by decide) ?_
  refine lv_icmp_le (tgt := 15) hx hb dX9_feed_10 (by decide) (fun c9 => ?_) (fun c9 => absurd (by decide) c9)
  refine lv_aload_n hx hb dX9_feed_15 rfl (lv_at hl 0 rfl) ?_
  refine lv_iload_n hx hb dX9_feed_16 rfl (lv_at hl 1 rfl) ?_
  refine afMv (runV (As := [.int x1]) (rest := []) C (c_X9_four_0 l D a q1 q2 q3 q4 q5 q6 q7 q8 q9 q10 q11 q12 q13 q14 q15 q16 q17 q18 q19 q20 q21 q22 q23 x1 s.heap.size) lk_V_9_83 (okN_X9_four) ⟨Nat.le_of_ble_eq_true rfl, Nat.le_of_ble_eq_true rfl⟩ ⟨rfl, rfl⟩ (preV (preM hK (P_of_map (wc := [(q1, .inr (9, [.ref q2, .int 0, .int 0, .ref q3, .ref q4, .ref q5, .ref q6, .int 0, .int 0, .int 0, .ref q7, .ref q8, .int 0, .int 0, .int 0, .int 0, .int 0, .int 0, .int 0, .ref q9, .int 0, .ref q10, .int 0, .ref q11, .ref q12, .ref q13, .ref q14, .ref q15, .ref q16, .ref q17, .ref q18, .ref q19, .ref q20, .ref q21, .ref q22, .ref q23])), (q2, .inl (a 2, 400, .inl (fun _ => 0)))]) hP [0, 1] rfl) (hD.sub (ws' := [(q1, .inr (9, [.ref q2, .int 0, .int 0, .ref q3, .ref q4, .ref q5, .ref q6, .int 0, .int 0, .int 0, .ref q7, .ref q8, .int 0, .int 0, .int 0, .int 0, .int 0, .int 0, .int 0, .ref q9, .int 0, .ref q10, .int 0, .ref q11, .ref q12, .ref q13, .ref q14, .ref q15, .ref q16, .ref q17, .ref q18, .ref q19, .ref q20, .ref q21, .ref q22, .ref q23])), (q2, .inl (a 2, 400, .inl (fun _ => 0)))]) [0, 1] (by decide) rfl)) (recvOf hK hP 0 rfl (ci := 9) rfl)) hl.1 rfl (Nat.le_of_ble_eq_true rfl) dX9_feed_17 ⟨Nat.le_of_ble_eq_true rfl, Nat.le_of_ble_eq_true rfl⟩) hP hD hS hA [0, 1] [] (wr := []) rfl rfl (by decide) (by decide) (fun u H locs hw hP hD hS => ?_)
  obtain ⟨f1736, rfl⟩ := hw
  have hP : va_P D classes [(q1, .inr (9, [.ref q2, .int 4, .int 0, .ref q3, .ref q4, .ref q5, .ref q6, .int 0, .int 0, .int 0, .ref q7, .ref q8, .int 0, .int 0, .int 0, .int 0, .int 0, .int 0, .int 0, .ref q9, .int 0, .ref q10, .int 0, .ref q11, .ref q12, .ref q13, .ref q14, .ref q15, .ref q16, .ref q17, .ref q18, .ref q19, .ref q20, .ref q21, .ref q22, .ref q23])), (q2, .inl (a 2, 400, .inl f1736))] H := hP
  have hD : va_D A [(q1, .inr (9, [.ref q2, .int 4, .int 0, .ref q3, .ref q4, .ref q5, .ref q6, .int 0, .int 0, .int 0, .ref q7, .ref q8, .int 0, .int 0, .int 0, .int 0, .int 0, .int 0, .int 0, .ref q9, .int 0, .ref q10, .int 0, .ref q11, .ref q12, .ref q13, .ref q14, .ref q15, .ref q16, .ref q17, .ref q18, .ref q19, .ref q20, .ref q21, .ref q22, .ref q23])), (q2, .inl (a 2, 400, .inl f1736))] := hD
  refine lv_aload_n hx hb dX9_feed_20 rfl (lv_at hl 0 rfl) ?_
  refine lv_iload_n hx hb dX9_feed_21 rfl (lv_at hl 2 rfl) ?_
  refine afMv (runV (As := [.int x2]) (rest := []) C (c_X9_four_1 l D a q1 q2 q3 q4 q5 q6 q7 q8 q9 q10 q11 q12 q13 q14 q15 q16 q17 q18 q19 q20 q21 q22 q23 x2 f1736 H.size) lk_V_9_83 (okN_X9_four) ⟨Nat.le_of_ble_eq_true rfl, Nat.le_of_ble_eq_true rfl⟩ ⟨rfl, rfl⟩ (preV (preM hK (P_of_map (wc := [(q1, .inr (9, [.ref q2, .int 4, .int 0, .ref q3, .ref q4, .ref q5, .ref q6, .int 0, .int 0, .int 0, .ref q7, .ref q8, .int 0, .int 0, .int 0, .int 0, .int 0, .int 0, .int 0, .ref q9, .int 0, .ref q10, .int 0, .ref q11, .ref q12, .ref q13, .ref q14, .ref q15, .ref q16, .ref q17, .ref q18, .ref q19, .ref q20, .ref q21, .ref q22, .ref q23])), (q2, .inl (a 2, 400, .inl f1736))]) hP [0, 1] rfl) (hD.sub (ws' := [(q1, .inr (9, [.ref q2, .int 4, .int 0, .ref q3, .ref q4, .ref q5, .ref q6, .int 0, .int 0, .int 0, .ref q7, .ref q8, .int 0, .int 0, .int 0, .int 0, .int 0, .int 0, .int 0, .ref q9, .int 0, .ref q10, .int 0, .ref q11, .ref q12, .ref q13, .ref q14, .ref q15, .ref q16, .ref q17, .ref q18, .ref q19, .ref q20, .ref q21, .ref q22, .ref q23])), (q2, .inl (a 2, 400, .inl f1736))]) [0, 1] (by decide) rfl)) (recvOf hK hP 0 rfl (ci := 9) rfl)) hl.1 rfl (Nat.le_of_ble_eq_true rfl) dX9_feed_22 ⟨Nat.le_of_ble_eq_true rfl, Nat.le_of_ble_eq_true rfl⟩) hP hD hS hA [0, 1] [] (wr := []) rfl rfl (by decide) (by decide) (fun u H locs hw hP hD hS => ?_)
  obtain ⟨f1744, rfl⟩ := hw
  have hP : va_P D classes [(q1, .inr (9, [.ref q2, .int 8, .int 0, .ref q3, .ref q4, .ref q5, .ref q6, .int 0, .int 0, .int 0, .ref q7, .ref q8, .int 0, .int 0, .int 0, .int 0, .int 0, .int 0, .int 0, .ref q9, .int 0, .ref q10, .int 0, .ref q11, .ref q12, .ref q13, .ref q14, .ref q15, .ref q16, .ref q17, .ref q18, .ref q19, .ref q20, .ref q21, .ref q22, .ref q23])), (q2, .inl (a 2, 400, .inl f1744))] H := hP
  have hD : va_D A [(q1, .inr (9, [.ref q2, .int 8, .int 0, .ref q3, .ref q4, .ref q5, .ref q6, .int 0, .int 0, .int 0, .ref q7, .ref q8, .int 0, .int 0, .int 0, .int 0, .int 0, .int 0, .int 0, .ref q9, .int 0, .ref q10, .int 0, .ref q11, .ref q12, .ref q13, .ref q14, .ref q15, .ref q16, .ref q17, .ref q18, .ref q19, .ref q20, .ref q21, .ref q22, .ref q23])), (q2, .inl (a 2, 400, .inl f1744))] := hD
  refine lv_aload_n hx hb dX9_feed_25 rfl (lv_at hl 0 rfl) ?_
  refine lv_iload_n hx hb dX9_feed_26 rfl (lv_at hl 3 rfl) ?_
  refine afMv (runV (As := [.int x3]) (rest := []) C (c_X9_four_2 l D a q1 q2 q3 q4 q5 q6 q7 q8 q9 q10 q11 q12 q13 q14 q15 q16 q17 q18 q19 q20 q21 q22 q23 x3 f1744 H.size) lk_V_9_83 (okN_X9_four) ⟨Nat.le_of_ble_eq_true rfl, Nat.le_of_ble_eq_true rfl⟩ ⟨rfl, rfl⟩ (preV (preM hK (P_of_map (wc := [(q1, .inr (9, [.ref q2, .int 8, .int 0, .ref q3, .ref q4, .ref q5, .ref q6, .int 0, .int 0, .int 0, .ref q7, .ref q8, .int 0, .int 0, .int 0, .int 0, .int 0, .int 0, .int 0, .ref q9, .int 0, .ref q10, .int 0, .ref q11, .ref q12, .ref q13, .ref q14, .ref q15, .ref q16, .ref q17, .ref q18, .ref q19, .ref q20, .ref q21, .ref q22, .ref q23])), (q2, .inl (a 2, 400, .inl f1744))]) hP [0, 1] rfl) (hD.sub (ws' := [(q1, .inr (9, [.ref q2, .int 8, .int 0, .ref q3, .ref q4, .ref q5, .ref q6, .int 0, .int 0, .int 0, .ref q7, .ref q8, .int 0, .int 0, .int 0, .int 0, .int 0, .int 0, .int 0, .ref q9, .int 0, .ref q10, .int 0, .ref q11, .ref q12, .ref q13, .ref q14, .ref q15, .ref q16, .ref q17, .ref q18, .ref q19, .ref q20, .ref q21, .ref q22, .ref q23])), (q2, .inl (a 2, 400, .inl f1744))]) [0, 1] (by decide) rfl)) (recvOf hK hP 0 rfl (ci := 9) rfl)) hl.1 rfl (Nat.le_of_ble_eq_true rfl) dX9_feed_27 ⟨Nat.le_of_ble_eq_true rfl, Nat.le_of_ble_eq_true rfl⟩) hP hD hS hA [0, 1] [] (wr := []) rfl rfl (by decide) (by decide) (fun u H locs hw hP hD hS => ?_)
  obtain ⟨f1752, rfl⟩ := hw
  have hP : va_P D classes [(q1, .inr (9, [.ref q2, .int 12, .int 0, .ref q3, .ref q4, .ref q5, .ref q6, .int 0, .int 0, .int 0, .ref q7, .ref q8, .int 0, .int 0, .int 0, .int 0, .int 0, .int 0, .int 0, .ref q9, .int 0, .ref q10, .int 0, .ref q11, .ref q12, .ref q13, .ref q14, .ref q15, .ref q16, .ref q17, .ref q18, .ref q19, .ref q20, .ref q21, .ref q22, .ref q23])), (q2, .inl (a 2, 400, .inl f1752))] H := hP
  have hD : va_D A [(q1, .inr (9, [.ref q2, .int 12, .int 0, .ref q3, .ref q4, .ref q5, .ref q6, .int 0, .int 0, .int 0, .ref q7, .ref q8, .int 0, .int 0, .int 0, .int 0, .int 0, .int 0, .int 0, .ref q9, .int 0, .ref q10, .int 0, .ref q11, .ref q12, .ref q13, .ref q14, .ref q15, .ref q16, .ref q17, .ref q18, .ref q19, .ref q20, .ref q21, .ref q22, .ref q23])), (q2, .inl (a 2, 400, .inl f1752))] := hD
  refine lv_aload_n hx hb dX9_feed_30 rfl (lv_at hl 0 rfl) ?_
  refine lv_iload hx hb dX9_feed_31 (lv_at hl 4 rfl) ?_
  refine afMv (runV (As := [.int x4]) (rest := []) C (c_X9_four_3 l D a q1 q2 q3 q4 q5 q6 q7 q8 q9 q10 q11 q12 q13 q14 q15 q16 q17 q18 q19 q20 q21 q22 q23 x4 f1752 H.size) lk_V_9_83 (okN_X9_four) ⟨Nat.le_of_ble_eq_true rfl, Nat.le_of_ble_eq_true rfl⟩ ⟨rfl, rfl⟩ (preV (preM hK (P_of_map (wc := [(q1, .inr (9, [.ref q2, .int 12, .int 0, .ref q3, .ref q4, .ref q5, .ref q6, .int 0, .int 0, .int 0, .ref q7, .ref q8, .int 0, .int 0, .int 0, .int 0, .int 0, .int 0, .int 0, .ref q9, .int 0, .ref q10, .int 0, .ref q11, .ref q12, .ref q13, .ref q14, .ref q15, .ref q16, .ref q17, .ref q18, .ref q19, .ref q20, .ref q21, .ref q22, .ref q23])), (q2, .inl (a 2, 400, .inl f1752))]) hP [0, 1] rfl) (hD.sub (ws' := [(q1, .inr (9, [.ref q2, .int 12, .int 0, .ref q3, .ref q4, .ref q5, .ref q6, .int 0, .int 0, .int 0, .ref q7, .ref q8, .int 0, .int 0, .int 0, .int 0, .int 0, .int 0, .int 0, .ref q9, .int 0, .ref q10, .int 0, .ref q11, .ref q12, .ref q13, .ref q14, .ref q15, .ref q16, .ref q17, .ref q18, .ref q19, .ref q20, .ref q21, .ref q22, .ref q23])), (q2, .inl (a 2, 400, .inl f1752))]) [0, 1] (by decide) rfl)) (recvOf hK hP 0 rfl (ci := 9) rfl)) hl.1 rfl (Nat.le_of_ble_eq_true rfl) dX9_feed_33 ⟨Nat.le_of_ble_eq_true rfl, Nat.le_of_ble_eq_true rfl⟩) hP hD hS hA [0, 1] [] (wr := []) rfl rfl (by decide) (by decide) (fun u H locs hw hP hD hS => ?_)
  obtain ⟨f1760, rfl⟩ := hw
  have hP : va_P D classes [(q1, .inr (9, [.ref q2, .int 16, .int 0, .ref q3, .ref q4, .ref q5, .ref q6, .int 0, .int 0, .int 0, .ref q7, .ref q8, .int 0, .int 0, .int 0, .int 0, .int 0, .int 0, .int 0, .ref q9, .int 0, .ref q10, .int 0, .ref q11, .ref q12, .ref q13, .ref q14, .ref q15, .ref q16, .ref q17, .ref q18, .ref q19, .ref q20, .ref q21, .ref q22, .ref q23])), (q2, .inl (a 2, 400, .inl f1760))] H := hP
  have hD : va_D A [(q1, .inr (9, [.ref q2, .int 16, .int 0, .ref q3, .ref q4, .ref q5, .ref q6, .int 0, .int 0, .int 0, .ref q7, .ref q8, .int 0, .int 0, .int 0, .int 0, .int 0, .int 0, .int 0, .ref q9, .int 0, .ref q10, .int 0, .ref q11, .ref q12, .ref q13, .ref q14, .ref q15, .ref q16, .ref q17, .ref q18, .ref q19, .ref q20, .ref q21, .ref q22, .ref q23])), (q2, .inl (a 2, 400, .inl f1760))] := hD
  refine lv_aload_n hx hb dX9_feed_36 rfl (lv_at hl 0 rfl) ?_
  refine lv_iload hx hb dX9_feed_37 (lv_at hl 5 rfl) ?_
  refine afMv (runV (As := [.int x5]) (rest := []) C (c_X9_four_4 l D a q1 q2 q3 q4 q5 q6 q7 q8 q9 q10 q11 q12 q13 q14 q15 q16 q17 q18 q19 q20 q21 q22 q23 x5 f1760 H.size) lk_V_9_83 (okN_X9_four) ⟨Nat.le_of_ble_eq_true rfl, Nat.le_of_ble_eq_true rfl⟩ ⟨rfl, rfl⟩ (preV (preM hK (P_of_map (wc := [(q1, .inr (9, [.ref q2, .int 16, .int 0, .ref q3, .ref q4, .ref q5, .ref q6, .int 0, .int 0, .int 0, .ref q7, .ref q8, .int 0, .int 0, .int 0, .int 0, .int 0, .int 0, .int 0, .ref q9, .int 0, .ref q10, .int 0, .ref q11, .ref q12, .ref q13, .ref q14, .ref q15, .ref q16, .ref q17, .ref q18, .ref q19, .ref q20, .ref q21, .ref q22, .ref q23])), (q2, .inl (a 2, 400, .inl f1760))]) hP [0, 1] rfl) (hD.sub (ws' := [(q1, .inr (9, [.ref q2, .int 16, .int 0, .ref q3, .ref q4, .ref q5, .ref q6, .int 0, .int 0, .int 0, .ref q7, .ref q8, .int 0, .int 0, .int 0, .int 0, .int 0, .int 0, .int 0, .ref q9, .int 0, .ref q10, .int 0, .ref q11, .ref q12, .ref q13, .ref q14, .ref q15, .ref q16, .ref q17, .ref q18, .ref q19, .ref q20, .ref q21, .ref q22, .ref q23])), (q2, .inl (a 2, 400, .inl f1760))]) [0, 1] (by decide) rfl)) (recvOf hK hP 0 rfl (ci := 9) rfl)) hl.1 rfl (Nat.le_of_ble_eq_true rfl) dX9_feed_39 ⟨Nat.le_of_ble_eq_true rfl, Nat.le_of_ble_eq_true rfl⟩) hP hD hS hA [0, 1] [] (wr := []) rfl rfl (by decide) (by decide) (fun u H locs hw hP hD hS => ?_)
  obtain ⟨f1768, rfl⟩ := hw
  have hP : va_P D classes [(q1, .inr (9, [.ref q2, .int 20, .int 0, .ref q3, .ref q4, .ref q5, .ref q6, .int 0, .int 0, .int 0, .ref q7, .ref q8, .int 0, .int 0, .int 0, .int 0, .int 0, .int 0, .int 0, .ref q9, .int 0, .ref q10, .int 0, .ref q11, .ref q12, .ref q13, .ref q14, .ref q15, .ref q16, .ref q17, .ref q18, .ref q19, .ref q20, .ref q21, .ref q22, .ref q23])), (q2, .inl (a 2, 400, .inl f1768))] H := hP
  have hD : va_D A [(q1, .inr (9, [.ref q2, .int 20, .int 0, .ref q3, .ref q4, .ref q5, .ref q6, .int 0, .int 0, .int 0, .ref q7, .ref q8, .int 0, .int 0, .int 0, .int 0, .int 0, .int 0, .int 0, .ref q9, .int 0, .ref q10, .int 0, .ref q11, .ref q12, .ref q13, .ref q14, .ref q15, .ref q16, .ref q17, .ref q18, .ref q19, .ref q20, .ref q21, .ref q22, .ref q23])), (q2, .inl (a 2, 400, .inl f1768))] := hD
  refine lv_aload_n hx hb dX9_feed_42 rfl (lv_at hl 0 rfl) ?_
  refine va_get (D := D) (v := .int 20) (C := RX9) (T := TX9) (N := 36) hx hb hts iX9 hown hK.1 hP 0 rfl rfl 1 (by decide) (hts _ t_883) (fun _ h9 => h9) rfl dX9_feed_43 ?_
  exact retMi C rfl (0, [], [], [], [f1768], []) ⟨f1768, rfl, rfl⟩ hP hD hS (Nat.le_of_ble_eq_true rfl) (Nat.le_of_ble_eq_true rfl) dX9_feed_46

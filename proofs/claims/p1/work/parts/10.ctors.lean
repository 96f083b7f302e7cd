set_option maxHeartbeats 4000000 in
set_option maxRecDepth 100000 in
/-- a DAY -/
theorem c_X0_init (l : Launch) (D : va_G) (a : Nat → ClassId) (q : Nat) (sz : Nat) : CMv (S := Nat) l MX0_init 1 20 1 10 D a [.ref q] [(q, .inr (0, [.int 0, .int 0, .int 0, .int 0, .int 0, .null]))] sz (fun _ => True) (fun u => [(q, .inr (0, [.int 0, .int 0, .int 0, .int 0, .int 0, .ref u])), (u, .inl (a 0, 10, .inl (fun _ => 0)))]) := by
  refine entMv (by decide) (Nat.le_of_ble_eq_true rfl) ?_
  intro p e s m below meth c C hK A hA hP hD ls hl
  obtain ⟨hx, hb, hml, hown, hts, hr, hlocks, hnm⟩ := id C
  have hb : c.code = cX0_init := hb
  have hown : s.vm.findClass RX0 = some m.cls := hown
  have hS : va_S A s.heap s.heap [] := va_S.rf
  have hl : lv_has ls 1 [(0, .ref q)] := hl
  refine lv_aload_n hx hb dX0_init_0 rfl (lv_at hl 0 rfl) ?_
  refine W.objInit hx hb hown (hts _ t_129) (hts _ t_25) (hts _ t_26) rfl (by rw [hml]; exact hl.1) rfl dX0_init_1 (Nat.le_of_ble_eq_true rfl) (Nat.le_of_ble_eq_true rfl) ?_
  refine W.eq (g2 := F0 m 4 ls []) rfl ?_
  refine lv_aload_n hx hb dX0_init_4 rfl (lv_at hl 0 rfl) ?_
  refine lv_bipush (v := 10) hx hb dX0_init_5 (by decide) ?_
  refine newA (atype := .int) (a0 := (10, .inl (fun _ => 0))) hx hb hK 0 rfl ra_int (hts _ t_119) rfl hP hD hS hA (fun _ => rfl) (by decide) (by decide) (by decide) (Nat.le_of_ble_eq_true rfl) (Nat.le_of_ble_eq_true rfl) dX0_init_7 (fun q1 H hP hD hS => ?_)
  have hP : va_P D classes [(q, .inr (0, [.int 0, .int 0, .int 0, .int 0, .int 0, .null])), (q1, .inl (a 0, 10, .inl (fun _ => 0)))] H := hP
  have hD : va_D A [(q, .inr (0, [.int 0, .int 0, .int 0, .int 0, .int 0, .null])), (q1, .inl (a 0, 10, .inl (fun _ => 0)))] := hD
  refine W.cs (cells' := 1) (slots' := 10) rfl rfl ?_
  refine va_putF (D := D) (v := .ref q1) (C := RX0) (T := TX0) (N := 6) hx hb hts iX0 tyX0 tyX0_ok nmX0 hown hK.1 hP hD hS 0 rfl rfl 5 (by decide) (hts _ t_144) (fun _ h9 => h9) rfl (hnm rfl) rfl (tyX0_ok 5 (by decide)) rfl rfl (Nat.le_of_ble_eq_true rfl) dX0_init_9 (fun H locs hP hD hS => ?_)
  have hP : va_P D classes [(q, .inr (0, [.int 0, .int 0, .int 0, .int 0, .int 0, .ref q1])), (q1, .inl (a 0, 10, .inl (fun _ => 0)))] H := hP
  have hD : va_D A [(q, .inr (0, [.int 0, .int 0, .int 0, .int 0, .int 0, .ref q1])), (q1, .inl (a 0, 10, .inl (fun _ => 0)))] := hD
  exact retMv C rfl q1 (trivial) hP hD hS (Nat.le_of_ble_eq_true rfl) (Nat.le_of_ble_eq_true rfl) dX0_init_12

set_option maxHeartbeats 4000000 in
set_option maxRecDepth 100000 in
theorem c_X1_init (l : Launch) (D : va_G) (a : Nat → ClassId) (q : Nat) (sz : Nat) : CMv (S := Nat × Nat) l MX1_init 1 20 2 4096 D a [.ref q] [(q, .inr (1, [.null, .null, .int 0, .long 0]))] sz (fun _ => True) (fun u => [(q, .inr (1, [.ref u.1, .ref u.2, .int 0, .long 0])), (u.1, .inl (a 1, 2048, .inr (.inl (fun _ => 0)))), (u.2, .inl (a 1, 2048, .inr (.inl (fun _ => 0))))]) := by
  refine entMv (by decide) (Nat.le_of_ble_eq_true rfl) ?_
  intro p e s m below meth c C hK A hA hP hD ls hl
  obtain ⟨hx, hb, hml, hown, hts, hr, hlocks, hnm⟩ := id C
  have hb : c.code = cX1_init := hb
  have hown : s.vm.findClass RX1 = some m.cls := hown
  have hS : va_S A s.heap s.heap [] := va_S.rf
  have hl : lv_has ls 1 [(0, .ref q)] := hl
  refine lv_aload_n hx hb dX1_init_0 rfl (lv_at hl 0 rfl) ?_
  refine W.objInit hx hb hown (hts _ t_284) (hts _ t_25) (hts _ t_26) rfl (by rw [hml]; exact hl.1) rfl dX1_init_1 (Nat.le_of_ble_eq_true rfl) (Nat.le_of_ble_eq_true rfl) ?_
  refine W.eq (g2 := F0 m 4 ls []) rfl ?_
  refine lv_aload_n hx hb dX1_init_4 rfl (lv_at hl 0 rfl) ?_
  refine lv_sipush (v := 2048) hx hb dX1_init_5 (by decide) ?_
  refine newA (atype := .long) (a0 := (2048, .inr (.inl (fun _ => 0)))) hx hb hK 1 rfl ra_long (hts _ t_278) rfl hP hD hS hA (fun _ => rfl) (by decide) (by decide) (by decide) (Nat.le_of_ble_eq_true rfl) (Nat.le_of_ble_eq_true rfl) dX1_init_8 (fun q1 H hP hD hS => ?_)
  have hP : va_P D classes [(q, .inr (1, [.null, .null, .int 0, .long 0])), (q1, .inl (a 1, 2048, .inr (.inl (fun _ => 0))))] H := hP
  have hD : va_D A [(q, .inr (1, [.null, .null, .int 0, .long 0])), (q1, .inl (a 1, 2048, .inr (.inl (fun _ => 0))))] := hD
  refine W.cs (cells' := 1) (slots' := 2048) rfl rfl ?_
  refine va_putF (D := D) (v := .ref q1) (C := RX1) (T := TX1) (N := 4) hx hb hts iX1 tyX1 tyX1_ok nmX1 hown hK.1 hP hD hS 0 rfl rfl 0 (by decide) (hts _ t_285) (fun _ h9 => h9) rfl (hnm rfl) rfl (tyX1_ok 0 (by decide)) rfl rfl (Nat.le_of_ble_eq_true rfl) dX1_init_10 (fun H locs hP hD hS => ?_)
  have hP : va_P D classes [(q, .inr (1, [.ref q1, .null, .int 0, .long 0])), (q1, .inl (a 1, 2048, .inr (.inl (fun _ => 0))))] H := hP
  have hD : va_D A [(q, .inr (1, [.ref q1, .null, .int 0, .long 0])), (q1, .inl (a 1, 2048, .inr (.inl (fun _ => 0))))] := hD
  refine lv_aload_n hx hb dX1_init_13 rfl (lv_at hl 0 rfl) ?_
  refine lv_sipush (v := 2048) hx hb dX1_init_14 (by decide) ?_
  refine newA (atype := .long) (a0 := (2048, .inr (.inl (fun _ => 0)))) hx hb hK 1 rfl ra_long (hts _ t_278) rfl hP hD hS hA (fun _ => rfl) (by decide) (by decide) (by decide) (Nat.le_of_ble_eq_true rfl) (Nat.le_of_ble_eq_true rfl) dX1_init_17 (fun q2 H hP hD hS => ?_)
  have hP : va_P D classes [(q, .inr (1, [.ref q1, .null, .int 0, .long 0])), (q1, .inl (a 1, 2048, .inr (.inl (fun _ => 0)))), (q2, .inl (a 1, 2048, .inr (.inl (fun _ => 0))))] H := hP
  have hD : va_D A [(q, .inr (1, [.ref q1, .null, .int 0, .long 0])), (q1, .inl (a 1, 2048, .inr (.inl (fun _ => 0)))), (q2, .inl (a 1, 2048, .inr (.inl (fun _ => 0))))] := hD
  refine W.cs (cells' := 2) (slots' := 4096) rfl rfl ?_
  refine va_putF (D := D) (v := .ref q2) (C := RX1) (T := TX1) (N := 4) hx hb hts iX1 tyX1 tyX1_ok nmX1 hown hK.1 hP hD hS 0 rfl rfl 1 (by decide) (hts _ t_286) (fun _ h9 => h9) rfl (hnm rfl) rfl (tyX1_ok 1 (by decide)) rfl rfl (Nat.le_of_ble_eq_true rfl) dX1_init_19 (fun H locs hP hD hS => ?_)
  have hP : va_P D classes [(q, .inr (1, [.ref q1, .ref q2, .int 0, .long 0])), (q1, .inl (a 1, 2048, .inr (.inl (fun _ => 0)))), (q2, .inl (a 1, 2048, .inr (.inl (fun _ => 0))))] H := hP
  have hD : va_D A [(q, .inr (1, [.ref q1, .ref q2, .int 0, .long 0])), (q1, .inl (a 1, 2048, .inr (.inl (fun _ => 0)))), (q2, .inl (a 1, 2048, .inr (.inl (fun _ => 0))))] := hD
  exact retMv C rfl (q1, q2) (trivial) hP hD hS (Nat.le_of_ble_eq_true rfl) (Nat.le_of_ble_eq_true rfl) dX1_init_22

set_option maxHeartbeats 4000000 in
set_option maxRecDepth 100000 in
theorem c_X2_init (l : Launch) (D : va_G) (a : Nat → ClassId) (q : Nat) (sz : Nat) : CMv (S := Nat) l MX2_init 1 20 1 32 D a [.ref q] [(q, .inr (2, [.null]))] sz (fun _ => True) (fun u => [(q, .inr (2, [.ref u])), (u, .inl (a 1, 32, .inr (.inl (fun _ => 0))))]) := by
  refine entMv (by decide) (Nat.le_of_ble_eq_true rfl) ?_
  intro p e s m below meth c C hK A hA hP hD ls hl
  obtain ⟨hx, hb, hml, hown, hts, hr, hlocks, hnm⟩ := id C
  have hb : c.code = cX2_init := hb
  have hown : s.vm.findClass RX2 = some m.cls := hown
  have hS : va_S A s.heap s.heap [] := va_S.rf
  have hl : lv_has ls 1 [(0, .ref q)] := hl
  refine lv_aload_n hx hb dX2_init_0 rfl (lv_at hl 0 rfl) ?_
  refine W.objInit hx hb hown (hts _ t_273) (hts _ t_25) (hts _ t_26) rfl (by rw [hml]; exact hl.1) rfl dX2_init_1 (Nat.le_of_ble_eq_true rfl) (Nat.le_of_ble_eq_true rfl) ?_
  refine W.eq (g2 := F0 m 4 ls []) rfl ?_
  refine lv_aload_n hx hb dX2_init_4 rfl (lv_at hl 0 rfl) ?_
  refine lv_bipush (v := 32) hx hb dX2_init_5 (by decide) ?_
  refine newA (atype := .long) (a0 := (32, .inr (.inl (fun _ => 0)))) hx hb hK 1 rfl ra_long (hts _ t_278) rfl hP hD hS hA (fun _ => rfl) (by decide) (by decide) (by decide) (Nat.le_of_ble_eq_true rfl) (Nat.le_of_ble_eq_true rfl) dX2_init_7 (fun q1 H hP hD hS => ?_)
  have hP : va_P D classes [(q, .inr (2, [.null])), (q1, .inl (a 1, 32, .inr (.inl (fun _ => 0))))] H := hP
  have hD : va_D A [(q, .inr (2, [.null])), (q1, .inl (a 1, 32, .inr (.inl (fun _ => 0))))] := hD
  refine W.cs (cells' := 1) (slots' := 32) rfl rfl ?_
  refine va_putF (D := D) (v := .ref q1) (C := RX2) (T := TX2) (N := 1) hx hb hts iX2 tyX2 tyX2_ok nmX2 hown hK.1 hP hD hS 0 rfl rfl 0 (by decide) (hts _ t_274) (fun _ h9 => h9) rfl (hnm rfl) rfl (tyX2_ok 0 (by decide)) rfl rfl (Nat.le_of_ble_eq_true rfl) dX2_init_9 (fun H locs hP hD hS => ?_)
  have hP : va_P D classes [(q, .inr (2, [.ref q1])), (q1, .inl (a 1, 32, .inr (.inl (fun _ => 0))))] H := hP
  have hD : va_D A [(q, .inr (2, [.ref q1])), (q1, .inl (a 1, 32, .inr (.inl (fun _ => 0))))] := hD
  exact retMv C rfl q1 (trivial) hP hD hS (Nat.le_of_ble_eq_true rfl) (Nat.le_of_ble_eq_true rfl) dX2_init_12

set_option maxHeartbeats 4000000 in
set_option maxRecDepth 100000 in
theorem c_X6_init (l : Launch) (D : va_G) (a : Nat → ClassId) (q : Nat) (sz : Nat) : CMv (S := Nat × Nat × Nat) l MX6_init 1 20 3 1203 D a [.ref q] [(q, .inr (6, [.null, .null, .null, .int 0, .int 0, .int 0, .int 0, .int 0, .int 0]))] sz (fun _ => True) (fun u => [(q, .inr (6, [.ref u.1, .ref u.2.1, .ref u.2.2, .int 0, .int 0, .int 0, .int 0, .int 0, .int 0])), (u.1, .inl (a 0, 401, .inl (fun _ => 0))), (u.2.1, .inl (a 0, 401, .inl (fun _ => 0))), (u.2.2, .inl (a 0, 401, .inl (fun _ => 0)))]) := by
  refine entMv (by decide) (Nat.le_of_ble_eq_true rfl) ?_
  intro p e s m below meth c C hK A hA hP hD ls hl
  obtain ⟨hx, hb, hml, hown, hts, hr, hlocks, hnm⟩ := id C
  have hb : c.code = cX6_init := hb
  have hown : s.vm.findClass RX6 = some m.cls := hown
  have hS : va_S A s.heap s.heap [] := va_S.rf
  have hl : lv_has ls 1 [(0, .ref q)] := hl
  refine lv_aload_n hx hb dX6_init_0 rfl (lv_at hl 0 rfl) ?_
  refine W.objInit hx hb hown (hts _ t_207) (hts _ t_25) (hts _ t_26) rfl (by rw [hml]; exact hl.1) rfl dX6_init_1 (Nat.le_of_ble_eq_true rfl) (Nat.le_of_ble_eq_true rfl) ?_
  refine W.eq (g2 := F0 m 4 ls []) rfl ?_
  refine lv_aload_n hx hb dX6_init_4 rfl (lv_at hl 0 rfl) ?_
  refine lv_sipush (v := 401) hx hb dX6_init_5 (by decide) ?_
  refine newA (atype := .int) (a0 := (401, .inl (fun _ => 0))) hx hb hK 0 rfl ra_int (hts _ t_119) rfl hP hD hS hA (fun _ => rfl) (by decide) (by decide) (by decide) (Nat.le_of_ble_eq_true rfl) (Nat.le_of_ble_eq_true rfl) dX6_init_8 (fun q1 H hP hD hS => ?_)
  have hP : va_P D classes [(q, .inr (6, [.null, .null, .null, .int 0, .int 0, .int 0, .int 0, .int 0, .int 0])), (q1, .inl (a 0, 401, .inl (fun _ => 0)))] H := hP
  have hD : va_D A [(q, .inr (6, [.null, .null, .null, .int 0, .int 0, .int 0, .int 0, .int 0, .int 0])), (q1, .inl (a 0, 401, .inl (fun _ => 0)))] := hD
  refine W.cs (cells' := 1) (slots' := 401) rfl rfl ?_
  refine va_putF (D := D) (v := .ref q1) (C := RX6) (T := TX6) (N := 9) hx hb hts iX6 tyX6 tyX6_ok nmX6 hown hK.1 hP hD hS 0 rfl rfl 0 (by decide) (hts _ t_208) (fun _ h9 => h9) rfl (hnm rfl) rfl (tyX6_ok 0 (by decide)) rfl rfl (Nat.le_of_ble_eq_true rfl) dX6_init_10 (fun H locs hP hD hS => ?_)
  have hP : va_P D classes [(q, .inr (6, [.ref q1, .null, .null, .int 0, .int 0, .int 0, .int 0, .int 0, .int 0])), (q1, .inl (a 0, 401, .inl (fun _ => 0)))] H := hP
  have hD : va_D A [(q, .inr (6, [.ref q1, .null, .null, .int 0, .int 0, .int 0, .int 0, .int 0, .int 0])), (q1, .inl (a 0, 401, .inl (fun _ => 0)))] := hD
  refine lv_aload_n hx hb dX6_init_13 rfl (lv_at hl 0 rfl) ?_
  refine lv_sipush (v := 401) hx hb dX6_init_14 (by decide) ?_
  refine newA (atype := .int) (a0 := (401, .inl (fun _ => 0))) hx hb hK 0 rfl ra_int (hts _ t_119) rfl hP hD hS hA (fun _ => rfl) (by decide) (by decide) (by decide) (Nat.le_of_ble_eq_true rfl) (Nat.le_of_ble_eq_true rfl) dX6_init_17 (fun q2 H hP hD hS => ?_)
  have hP : va_P D classes [(q, .inr (6, [.ref q1, .null, .null, .int 0, .int 0, .int 0, .int 0, .int 0, .int 0])), (q1, .inl (a 0, 401, .inl (fun _ => 0))), (q2, .inl (a 0, 401, .inl (fun _ => 0)))] H := hP
  have hD : va_D A [(q, .inr (6, [.ref q1, .null, .null, .int 0, .int 0, .int 0, .int 0, .int 0, .int 0])), (q1, .inl (a 0, 401, .inl (fun _ => 0))), (q2, .inl (a 0, 401, .inl (fun _ => 0)))] := hD
  refine W.cs (cells' := 2) (slots' := 802) rfl rfl ?_
  refine va_putF (D := D) (v := .ref q2) (C := RX6) (T := TX6) (N := 9) hx hb hts iX6 tyX6 tyX6_ok nmX6 hown hK.1 hP hD hS 0 rfl rfl 1 (by decide) (hts _ t_209) (fun _ h9 => h9) rfl (hnm rfl) rfl (tyX6_ok 1 (by decide)) rfl rfl (Nat.le_of_ble_eq_true rfl) dX6_init_19 (fun H locs hP hD hS => ?_)
  have hP : va_P D classes [(q, .inr (6, [.ref q1, .ref q2, .null, .int 0, .int 0, .int 0, .int 0, .int 0, .int 0])), (q1, .inl (a 0, 401, .inl (fun _ => 0))), (q2, .inl (a 0, 401, .inl (fun _ => 0)))] H := hP
  have hD : va_D A [(q, .inr (6, [.ref q1, .ref q2, .null, .int 0, .int 0, .int 0, .int 0, .int 0, .int 0])), (q1, .inl (a 0, 401, .inl (fun _ => 0))), (q2, .inl (a 0, 401, .inl (fun _ => 0)))] := hD
  refine lv_aload_n hx hb dX6_init_22 rfl (lv_at hl 0 rfl) ?_
  refine lv_sipush (v := 401) hx hb dX6_init_23 (by decide) ?_
  refine newA (atype := .int) (a0 := (401, .inl (fun _ => 0))) hx hb hK 0 rfl ra_int (hts _ t_119) rfl hP hD hS hA (fun _ => rfl) (by decide) (by decide) (by decide) (Nat.le_of_ble_eq_true rfl) (Nat.le_of_ble_eq_true rfl) dX6_init_26 (fun q3 H hP hD hS => ?_)
  have hP : va_P D classes [(q, .inr (6, [.ref q1, .ref q2, .null, .int 0, .int 0, .int 0, .int 0, .int 0, .int 0])), (q1, .inl (a 0, 401, .inl (fun _ => 0))), (q2, .inl (a 0, 401, .inl (fun _ => 0))), (q3, .inl (a 0, 401, .inl (fun _ => 0)))] H := hP
  have hD : va_D A [(q, .inr (6, [.ref q1, .ref q2, .null, .int 0, .int 0, .int 0, .int 0, .int 0, .int 0])), (q1, .inl (a 0, 401, .inl (fun _ => 0))), (q2, .inl (a 0, 401, .inl (fun _ => 0))), (q3, .inl (a 0, 401, .inl (fun _ => 0)))] := hD
  refine W.cs (cells' := 3) (slots' := 1203) rfl rfl ?_
  refine va_putF (D := D) (v := .ref q3) (C := RX6) (T := TX6) (N := 9) hx hb hts iX6 tyX6 tyX6_ok nmX6 hown hK.1 hP hD hS 0 rfl rfl 2 (by decide) (hts _ t_210) (fun _ h9 => h9) rfl (hnm rfl) rfl (tyX6_ok 2 (by decide)) rfl rfl (Nat.le_of_ble_eq_true rfl) dX6_init_28 (fun H locs hP hD hS => ?_)
  have hP : va_P D classes [(q, .inr (6, [.ref q1, .ref q2, .ref q3, .int 0, .int 0, .int 0, .int 0, .int 0, .int 0])), (q1, .inl (a 0, 401, .inl (fun _ => 0))), (q2, .inl (a 0, 401, .inl (fun _ => 0))), (q3, .inl (a 0, 401, .inl (fun _ => 0)))] H := hP
  have hD : va_D A [(q, .inr (6, [.ref q1, .ref q2, .ref q3, .int 0, .int 0, .int 0, .int 0, .int 0, .int 0])), (q1, .inl (a 0, 401, .inl (fun _ => 0))), (q2, .inl (a 0, 401, .inl (fun _ => 0))), (q3, .inl (a 0, 401, .inl (fun _ => 0)))] := hD
  exact retMv C rfl (q1, q2, q3) (trivial) hP hD hS (Nat.le_of_ble_eq_true rfl) (Nat.le_of_ble_eq_true rfl) dX6_init_31

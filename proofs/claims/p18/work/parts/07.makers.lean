set_option maxHeartbeats 4000000 in
set_option maxRecDepth 100000 in
theorem c_X7_init_0 (l : Launch) (D : va_G) (a : Nat → ClassId) (q1 : Nat) (x1 : Int32) (sz : Nat) : CMv (S := SS) l MX7_init 1 20 12 108 D a [.ref q1, .int x1] [(q1, .inr (7, [.int 0, .int 0, .int 0, .int 0, .int 0, .null, .null, .null, .null, .null, .null, .null, .null, .null, .null, .null, .null, .int 0]))] sz (fun u => (∃ q1001 : Nat, ∃ q1002 : Nat, ∃ q1003 : Nat, ∃ q1004 : Nat, ∃ q1005 : Nat, ∃ q1006 : Nat, ∃ q1007 : Nat, ∃ q1008 : Nat, ∃ q1009 : Nat, ∃ q1010 : Nat, ∃ q1011 : Nat, ∃ q1012 : Nat, u = (0, [q1001, q1002, q1003, q1004, q1005, q1006, q1007, q1008, q1009, q1010, q1011, q1012], [], [], [], []))) (fun u => pk [[(q1, .inr (7, [.int x1, .int 0, .int 0, .int 0, .int 0, .ref (u.2.1.getD 0 0), .ref (u.2.1.getD 1 0), .ref (u.2.1.getD 2 0), .ref (u.2.1.getD 3 0), .ref (u.2.1.getD 4 0), .ref (u.2.1.getD 5 0), .ref (u.2.1.getD 6 0), .ref (u.2.1.getD 7 0), .ref (u.2.1.getD 8 0), .ref (u.2.1.getD 9 0), .ref (u.2.1.getD 10 0), .ref (u.2.1.getD 11 0), .int 0])), ((u.2.1.getD 0 0), .inl (a 0, 6, .inl (fun _ => 0))), ((u.2.1.getD 1 0), .inl (a 0, 6, .inl (fun _ => 0))), ((u.2.1.getD 2 0), .inl (a 0, 6, .inl (fun _ => 0))), ((u.2.1.getD 3 0), .inl (a 0, 10, .inl (fun _ => 0))), ((u.2.1.getD 4 0), .inl (a 0, 10, .inl (fun _ => 0))), ((u.2.1.getD 5 0), .inl (a 0, 10, .inl (fun _ => 0))), ((u.2.1.getD 6 0), .inl (a 0, 10, .inl (fun _ => 0))), ((u.2.1.getD 7 0), .inl (a 0, 10, .inl (fun _ => 0))), ((u.2.1.getD 8 0), .inl (a 0, 10, .inl (fun _ => 0))), ((u.2.1.getD 9 0), .inl (a 0, 10, .inl (fun _ => 0))), ((u.2.1.getD 10 0), .inl (a 0, 10, .inl (fun _ => 0))), ((u.2.1.getD 11 0), .inl (a 0, 10, .inl (fun _ => 0)))]] u.1) := by
  refine entMv (by decide) (Nat.le_of_ble_eq_true rfl) ?_
  intro p e s m below meth c C hK A hA hP hD ls hl
  obtain ⟨hx, hb, hml, hown, hts, hr, hlocks, hnm⟩ := id C
  have hb : c.code = cX7_init := hb
  have hown : s.vm.findClass RX7 = some m.cls := hown
  have hS : va_S A s.heap s.heap [] := va_S.rf
  have hl : lv_has ls 2 [(0, .ref q1), (1, .int x1)] := hl
  refine lv_aload_n hx hb dX7_init_0 rfl (lv_at hl 0 rfl) ?_
  refine W.objInit hx hb hown (hts _ t_36) (hts _ t_25) (hts _ t_26) rfl (by rw [hml]; exact hl.1) rfl dX7_init_1 (Nat.le_of_ble_eq_true rfl) (Nat.le_of_ble_eq_true rfl) ?_
  refine W.eq (g2 := F0 m 4 ls []) rfl ?_
  refine lv_aload_n hx hb dX7_init_4 rfl (lv_at hl 0 rfl) ?_
  refine lv_iload_n hx hb dX7_init_5 rfl (lv_at hl 1 rfl) ?_
  refine va_putF (D := D) (v := .int x1) (C := RX7) (T := TX7) (N := 18) hx hb hts iX7 tyX7 tyX7_ok nmX7 hown hK.1 hP hD hS 0 rfl rfl 0 (by decide) (hts _ t_37) (fun _ h9 => h9) rfl (hnm rfl) rfl (tyX7_ok 0 (by decide)) rfl rfl (Nat.le_of_ble_eq_true rfl) dX7_init_6 (fun H locs hP hD hS => ?_)
  have hP : va_P D classes [(q1, .inr (7, [.int x1, .int 0, .int 0, .int 0, .int 0, .null, .null, .null, .null, .null, .null, .null, .null, .null, .null, .null, .null, .int 0]))] H := hP
  have hD : va_D A [(q1, .inr (7, [.int x1, .int 0, .int 0, .int 0, .int 0, .null, .null, .null, .null, .null, .null, .null, .null, .null, .null, .null, .null, .int 0]))] := hD
  refine lv_aload_n hx hb dX7_init_9 rfl (lv_at hl 0 rfl) ?_
  refine lv_bipush (v := 6) hx hb dX7_init_10 (by decide) ?_
  refine newA (atype := .int) (a0 := (6, .inl (fun _ => 0))) hx hb hK 0 rfl ra_int (hts _ t_119) rfl hP hD hS hA (fun _ => rfl) (by decide) (by decide) (by decide) (Nat.le_of_ble_eq_true rfl) (Nat.le_of_ble_eq_true rfl) dX7_init_12 (fun q1001 H hP hD hS => ?_)
  have hP : va_P D classes [(q1, .inr (7, [.int x1, .int 0, .int 0, .int 0, .int 0, .null, .null, .null, .null, .null, .null, .null, .null, .null, .null, .null, .null, .int 0])), (q1001, .inl (a 0, 6, .inl (fun _ => 0)))] H := hP
  have hD : va_D A [(q1, .inr (7, [.int x1, .int 0, .int 0, .int 0, .int 0, .null, .null, .null, .null, .null, .null, .null, .null, .null, .null, .null, .null, .int 0])), (q1001, .inl (a 0, 6, .inl (fun _ => 0)))] := hD
  refine W.cs (cells' := 1) (slots' := 6) rfl rfl ?_
  refine va_putF (D := D) (v := .ref q1001) (C := RX7) (T := TX7) (N := 18) hx hb hts iX7 tyX7 tyX7_ok nmX7 hown hK.1 hP hD hS 0 rfl rfl 5 (by decide) (hts _ t_49) (fun _ h9 => h9) rfl (hnm rfl) rfl (tyX7_ok 5 (by decide)) rfl rfl (Nat.le_of_ble_eq_true rfl) dX7_init_14 (fun H locs hP hD hS => ?_)
  have hP : va_P D classes [(q1, .inr (7, [.int x1, .int 0, .int 0, .int 0, .int 0, .ref q1001, .null, .null, .null, .null, .null, .null, .null, .null, .null, .null, .null, .int 0])), (q1001, .inl (a 0, 6, .inl (fun _ => 0)))] H := hP
  have hD : va_D A [(q1, .inr (7, [.int x1, .int 0, .int 0, .int 0, .int 0, .ref q1001, .null, .null, .null, .null, .null, .null, .null, .null, .null, .null, .null, .int 0])), (q1001, .inl (a 0, 6, .inl (fun _ => 0)))] := hD
  refine lv_aload_n hx hb dX7_init_17 rfl (lv_at hl 0 rfl) ?_
  refine lv_bipush (v := 6) hx hb dX7_init_18 (by decide) ?_
  refine newA (atype := .int) (a0 := (6, .inl (fun _ => 0))) hx hb hK 0 rfl ra_int (hts _ t_119) rfl hP hD hS hA (fun _ => rfl) (by decide) (by decide) (by decide) (Nat.le_of_ble_eq_true rfl) (Nat.le_of_ble_eq_true rfl) dX7_init_20 (fun q1002 H hP hD hS => ?_)
  have hP : va_P D classes [(q1, .inr (7, [.int x1, .int 0, .int 0, .int 0, .int 0, .ref q1001, .null, .null, .null, .null, .null, .null, .null, .null, .null, .null, .null, .int 0])), (q1001, .inl (a 0, 6, .inl (fun _ => 0))), (q1002, .inl (a 0, 6, .inl (fun _ => 0)))] H := hP
  have hD : va_D A [(q1, .inr (7, [.int x1, .int 0, .int 0, .int 0, .int 0, .ref q1001, .null, .null, .null, .null, .null, .null, .null, .null, .null, .null, .null, .int 0])), (q1001, .inl (a 0, 6, .inl (fun _ => 0))), (q1002, .inl (a 0, 6, .inl (fun _ => 0)))] := hD
  refine W.cs (cells' := 2) (slots' := 12) rfl rfl ?_
  refine va_putF (D := D) (v := .ref q1002) (C := RX7) (T := TX7) (N := 18) hx hb hts iX7 tyX7 tyX7_ok nmX7 hown hK.1 hP hD hS 0 rfl rfl 6 (by decide) (hts _ t_51) (fun _ h9 => h9) rfl (hnm rfl) rfl (tyX7_ok 6 (by decide)) rfl rfl (Nat.le_of_ble_eq_true rfl) dX7_init_22 (fun H locs hP hD hS => ?_)
  have hP : va_P D classes [(q1, .inr (7, [.int x1, .int 0, .int 0, .int 0, .int 0, .ref q1001, .ref q1002, .null, .null, .null, .null, .null, .null, .null, .null, .null, .null, .int 0])), (q1001, .inl (a 0, 6, .inl (fun _ => 0))), (q1002, .inl (a 0, 6, .inl (fun _ => 0)))] H := hP
  have hD : va_D A [(q1, .inr (7, [.int x1, .int 0, .int 0, .int 0, .int 0, .ref q1001, .ref q1002, .null, .null, .null, .null, .null, .null, .null, .null, .null, .null, .int 0])), (q1001, .inl (a 0, 6, .inl (fun _ => 0))), (q1002, .inl (a 0, 6, .inl (fun _ => 0)))] := hD
  refine lv_aload_n hx hb dX7_init_25 rfl (lv_at hl 0 rfl) ?_
  refine lv_bipush (v := 6) hx hb dX7_init_26 (by decide) ?_
  refine newA (atype := .int) (a0 := (6, .inl (fun _ => 0))) hx hb hK 0 rfl ra_int (hts _ t_119) rfl hP hD hS hA (fun _ => rfl) (by decide) (by decide) (by decide) (Nat.le_of_ble_eq_true rfl) (Nat.le_of_ble_eq_true rfl) dX7_init_28 (fun q1003 H hP hD hS => ?_)
  have hP : va_P D classes [(q1, .inr (7, [.int x1, .int 0, .int 0, .int 0, .int 0, .ref q1001, .ref q1002, .null, .null, .null, .null, .null, .null, .null, .null, .null, .null, .int 0])), (q1001, .inl (a 0, 6, .inl (fun _ => 0))), (q1002, .inl (a 0, 6, .inl (fun _ => 0))), (q1003, .inl (a 0, 6, .inl (fun _ => 0)))] H := hP
  have hD : va_D A [(q1, .inr (7, [.int x1, .int 0, .int 0, .int 0, .int 0, .ref q1001, .ref q1002, .null, .null, .null, .null, .null, .null, .null, .null, .null, .null, .int 0])), (q1001, .inl (a 0, 6, .inl (fun _ => 0))), (q1002, .inl (a 0, 6, .inl (fun _ => 0))), (q1003, .inl (a 0, 6, .inl (fun _ => 0)))] := hD
  refine W.cs (cells' := 3) (slots' := 18) rfl rfl ?_
  refine va_putF (D := D) (v := .ref q1003) (C := RX7) (T := TX7) (N := 18) hx hb hts iX7 tyX7 tyX7_ok nmX7 hown hK.1 hP hD hS 0 rfl rfl 7 (by decide) (hts _ t_53) (fun _ h9 => h9) rfl (hnm rfl) rfl (tyX7_ok 7 (by decide)) rfl rfl (Nat.le_of_ble_eq_true rfl) dX7_init_30 (fun H locs hP hD hS => ?_)
  have hP : va_P D classes [(q1, .inr (7, [.int x1, .int 0, .int 0, .int 0, .int 0, .ref q1001, .ref q1002, .ref q1003, .null, .null, .null, .null, .null, .null, .null, .null, .null, .int 0])), (q1001, .inl (a 0, 6, .inl (fun _ => 0))), (q1002, .inl (a 0, 6, .inl (fun _ => 0))), (q1003, .inl (a 0, 6, .inl (fun _ => 0)))] H := hP
  have hD : va_D A [(q1, .inr (7, [.int x1, .int 0, .int 0, .int 0, .int 0, .ref q1001, .ref q1002, .ref q1003, .null, .null, .null, .null, .null, .null, .null, .null, .null, .int 0])), (q1001, .inl (a 0, 6, .inl (fun _ => 0))), (q1002, .inl (a 0, 6, .inl (fun _ => 0))), (q1003, .inl (a 0, 6, .inl (fun _ => 0)))] := hD
  refine lv_aload_n hx hb dX7_init_33 rfl (lv_at hl 0 rfl) ?_
  refine lv_bipush (v := 10) hx hb dX7_init_34 (by decide) ?_
  refine newA (atype := .int) (a0 := (10, .inl (fun _ => 0))) hx hb hK 0 rfl ra_int (hts _ t_119) rfl hP hD hS hA (fun _ => rfl) (by decide) (by decide) (by decide) (Nat.le_of_ble_eq_true rfl) (Nat.le_of_ble_eq_true rfl) dX7_init_36 (fun q1004 H hP hD hS => ?_)
  have hP : va_P D classes [(q1, .inr (7, [.int x1, .int 0, .int 0, .int 0, .int 0, .ref q1001, .ref q1002, .ref q1003, .null, .null, .null, .null, .null, .null, .null, .null, .null, .int 0])), (q1001, .inl (a 0, 6, .inl (fun _ => 0))), (q1002, .inl (a 0, 6, .inl (fun _ => 0))), (q1003, .inl (a 0, 6, .inl (fun _ => 0))), (q1004, .inl (a 0, 10, .inl (fun _ => 0)))] H := hP
  have hD : va_D A [(q1, .inr (7, [.int x1, .int 0, .int 0, .int 0, .int 0, .ref q1001, .ref q1002, .ref q1003, .null, .null, .null, .null, .null, .null, .null, .null, .null, .int 0])), (q1001, .inl (a 0, 6, .inl (fun _ => 0))), (q1002, .inl (a 0, 6, .inl (fun _ => 0))), (q1003, .inl (a 0, 6, .inl (fun _ => 0))), (q1004, .inl (a 0, 10, .inl (fun _ => 0)))] := hD
  refine W.cs (cells' := 4) (slots' := 28) rfl rfl ?_
  refine va_putF (D := D) (v := .ref q1004) (C := RX7) (T := TX7) (N := 18) hx hb hts iX7 tyX7 tyX7_ok nmX7 hown hK.1 hP hD hS 0 rfl rfl 8 (by decide) (hts _ t_55) (fun _ h9 => h9) rfl (hnm rfl) rfl (tyX7_ok 8 (by decide)) rfl rfl (Nat.le_of_ble_eq_true rfl) dX7_init_38 (fun H locs hP hD hS => ?_)
  have hP : va_P D classes [(q1, .inr (7, [.int x1, .int 0, .int 0, .int 0, .int 0, .ref q1001, .ref q1002, .ref q1003, .ref q1004, .null, .null, .null, .null, .null, .null, .null, .null, .int 0])), (q1001, .inl (a 0, 6, .inl (fun _ => 0))), (q1002, .inl (a 0, 6, .inl (fun _ => 0))), (q1003, .inl (a 0, 6, .inl (fun _ => 0))), (q1004, .inl (a 0, 10, .inl (fun _ => 0)))] H := hP
  have hD : va_D A [(q1, .inr (7, [.int x1, .int 0, .int 0, .int 0, .int 0, .ref q1001, .ref q1002, .ref q1003, .ref q1004, .null, .null, .null, .null, .null, .null, .null, .null, .int 0])), (q1001, .inl (a 0, 6, .inl (fun _ => 0))), (q1002, .inl (a 0, 6, .inl (fun _ => 0))), (q1003, .inl (a 0, 6, .inl (fun _ => 0))), (q1004, .inl (a 0, 10, .inl (fun _ => 0)))] := hD
  refine lv_aload_n hx hb dX7_init_41 rfl (lv_at hl 0 rfl) ?_
  refine lv_bipush (v := 10) hx hb dX7_init_42 (by decide) ?_
  refine newA (atype := .int) (a0 := (10, .inl (fun _ => 0))) hx hb hK 0 rfl ra_int (hts _ t_119) rfl hP hD hS hA (fun _ => rfl) (by decide) (by decide) (by decide) (Nat.le_of_ble_eq_true rfl) (Nat.le_of_ble_eq_true rfl) dX7_init_44 (fun q1005 H hP hD hS => ?_)
  have hP : va_P D classes [(q1, .inr (7, [.int x1, .int 0, .int 0, .int 0, .int 0, .ref q1001, .ref q1002, .ref q1003, .ref q1004, .null, .null, .null, .null, .null, .null, .null, .null, .int 0])), (q1001, .inl (a 0, 6, .inl (fun _ => 0))), (q1002, .inl (a 0, 6, .inl (fun _ => 0))), (q1003, .inl (a 0, 6, .inl (fun _ => 0))), (q1004, .inl (a 0, 10, .inl (fun _ => 0))), (q1005, .inl (a 0, 10, .inl (fun _ => 0)))] H := hP
  have hD : va_D A [(q1, .inr (7, [.int x1, .int 0, .int 0, .int 0, .int 0, .ref q1001, .ref q1002, .ref q1003, .ref q1004, .null, .null, .null, .null, .null, .null, .null, .null, .int 0])), (q1001, .inl (a 0, 6, .inl (fun _ => 0))), (q1002, .inl (a 0, 6, .inl (fun _ => 0))), (q1003, .inl (a 0, 6, .inl (fun _ => 0))), (q1004, .inl (a 0, 10, .inl (fun _ => 0))), (q1005, .inl (a 0, 10, .inl (fun _ => 0)))] := hD
  refine W.cs (cells' := 5) (slots' := 38) rfl rfl ?_
  refine va_putF (D := D) (v := .ref q1005) (C := RX7) (T := TX7) (N := 18) hx hb hts iX7 tyX7 tyX7_ok nmX7 hown hK.1 hP hD hS 0 rfl rfl 9 (by decide) (hts _ t_58) (fun _ h9 => h9) rfl (hnm rfl) rfl (tyX7_ok 9 (by decide)) rfl rfl (Nat.le_of_ble_eq_true rfl) dX7_init_46 (fun H locs hP hD hS => ?_)
  have hP : va_P D classes [(q1, .inr (7, [.int x1, .int 0, .int 0, .int 0, .int 0, .ref q1001, .ref q1002, .ref q1003, .ref q1004, .ref q1005, .null, .null, .null, .null, .null, .null, .null, .int 0])), (q1001, .inl (a 0, 6, .inl (fun _ => 0))), (q1002, .inl (a 0, 6, .inl (fun _ => 0))), (q1003, .inl (a 0, 6, .inl (fun _ => 0))), (q1004, .inl (a 0, 10, .inl (fun _ => 0))), (q1005, .inl (a 0, 10, .inl (fun _ => 0)))] H := hP
  have hD : va_D A [(q1, .inr (7, [.int x1, .int 0, .int 0, .int 0, .int 0, .ref q1001, .ref q1002, .ref q1003, .ref q1004, .ref q1005, .null, .null, .null, .null, .null, .null, .null, .int 0])), (q1001, .inl (a 0, 6, .inl (fun _ => 0))), (q1002, .inl (a 0, 6, .inl (fun _ => 0))), (q1003, .inl (a 0, 6, .inl (fun _ => 0))), (q1004, .inl (a 0, 10, .inl (fun _ => 0))), (q1005, .inl (a 0, 10, .inl (fun _ => 0)))] := hD
  refine lv_aload_n hx hb dX7_init_49 rfl (lv_at hl 0 rfl) ?_
  refine lv_bipush (v := 10) hx hb dX7_init_50 (by decide) ?_
  refine newA (atype := .int) (a0 := (10, .inl (fun _ => 0))) hx hb hK 0 rfl ra_int (hts _ t_119) rfl hP hD hS hA (fun _ => rfl) (by decide) (by decide) (by decide) (Nat.le_of_ble_eq_true rfl) (Nat.le_of_ble_eq_true rfl) dX7_init_52 (fun q1006 H hP hD hS => ?_)
  have hP : va_P D classes [(q1, .inr (7, [.int x1, .int 0, .int 0, .int 0, .int 0, .ref q1001, .ref q1002, .ref q1003, .ref q1004, .ref q1005, .null, .null, .null, .null, .null, .null, .null, .int 0])), (q1001, .inl (a 0, 6, .inl (fun _ => 0))), (q1002, .inl (a 0, 6, .inl (fun _ => 0))), (q1003, .inl (a 0, 6, .inl (fun _ => 0))), (q1004, .inl (a 0, 10, .inl (fun _ => 0))), (q1005, .inl (a 0, 10, .inl (fun _ => 0))), (q1006, .inl (a 0, 10, .inl (fun _ => 0)))] H := hP
  have hD : va_D A [(q1, .inr (7, [.int x1, .int 0, .int 0, .int 0, .int 0, .ref q1001, .ref q1002, .ref q1003, .ref q1004, .ref q1005, .null, .null, .null, .null, .null, .null, .null, .int 0])), (q1001, .inl (a 0, 6, .inl (fun _ => 0))), (q1002, .inl (a 0, 6, .inl (fun _ => 0))), (q1003, .inl (a 0, 6, .inl (fun _ => 0))), (q1004, .inl (a 0, 10, .inl (fun _ => 0))), (q1005, .inl (a 0, 10, .inl (fun _ => 0))), (q1006, .inl (a 0, 10, .inl (fun _ => 0)))] := hD
  refine W.cs (cells' := 6) (slots' := 48) rfl rfl ?_
  refine va_putF (D := D) (v := .ref q1006) (C := RX7) (T := TX7) (N := 18) hx hb hts iX7 tyX7 tyX7_ok nmX7 hown hK.1 hP hD hS 0 rfl rfl 10 (by decide) (hts _ t_63) (fun _ h9 => h9) rfl (hnm rfl) rfl (tyX7_ok 10 (by decide)) rfl rfl (Nat.le_of_ble_eq_true rfl) dX7_init_54 (fun H locs hP hD hS => ?_)
  have hP : va_P D classes [(q1, .inr (7, [.int x1, .int 0, .int 0, .int 0, .int 0, .ref q1001, .ref q1002, .ref q1003, .ref q1004, .ref q1005, .ref q1006, .null, .null, .null, .null, .null, .null, .int 0])), (q1001, .inl (a 0, 6, .inl (fun _ => 0))), (q1002, .inl (a 0, 6, .inl (fun _ => 0))), (q1003, .inl (a 0, 6, .inl (fun _ => 0))), (q1004, .inl (a 0, 10, .inl (fun _ => 0))), (q1005, .inl (a 0, 10, .inl (fun _ => 0))), (q1006, .inl (a 0, 10, .inl (fun _ => 0)))] H := hP
  have hD : va_D A [(q1, .inr (7, [.int x1, .int 0, .int 0, .int 0, .int 0, .ref q1001, .ref q1002, .ref q1003, .ref q1004, .ref q1005, .ref q1006, .null, .null, .null, .null, .null, .null, .int 0])), (q1001, .inl (a 0, 6, .inl (fun _ => 0))), (q1002, .inl (a 0, 6, .inl (fun _ => 0))), (q1003, .inl (a 0, 6, .inl (fun _ => 0))), (q1004, .inl (a 0, 10, .inl (fun _ => 0))), (q1005, .inl (a 0, 10, .inl (fun _ => 0))), (q1006, .inl (a 0, 10, .inl (fun _ => 0)))] := hD
  refine lv_aload_n hx hb dX7_init_57 rfl (lv_at hl 0 rfl) ?_
  refine lv_bipush (v := 10) hx hb dX7_init_58 (by decide) ?_
  refine newA (atype := .int) (a0 := (10, .inl (fun _ => 0))) hx hb hK 0 rfl ra_int (hts _ t_119) rfl hP hD hS hA (fun _ => rfl) (by decide) (by decide) (by decide) (Nat.le_of_ble_eq_true rfl) (Nat.le_of_ble_eq_true rfl) dX7_init_60 (fun q1007 H hP hD hS => ?_)
  have hP : va_P D classes [(q1, .inr (7, [.int x1, .int 0, .int 0, .int 0, .int 0, .ref q1001, .ref q1002, .ref q1003, .ref q1004, .ref q1005, .ref q1006, .null, .null, .null, .null, .null, .null, .int 0])), (q1001, .inl (a 0, 6, .inl (fun _ => 0))), (q1002, .inl (a 0, 6, .inl (fun _ => 0))), (q1003, .inl (a 0, 6, .inl (fun _ => 0))), (q1004, .inl (a 0, 10, .inl (fun _ => 0))), (q1005, .inl (a 0, 10, .inl (fun _ => 0))), (q1006, .inl (a 0, 10, .inl (fun _ => 0))), (q1007, .inl (a 0, 10, .inl (fun _ => 0)))] H := hP
  have hD : va_D A [(q1, .inr (7, [.int x1, .int 0, .int 0, .int 0, .int 0, .ref q1001, .ref q1002, .ref q1003, .ref q1004, .ref q1005, .ref q1006, .null, .null, .null, .null, .null, .null, .int 0])), (q1001, .inl (a 0, 6, .inl (fun _ => 0))), (q1002, .inl (a 0, 6, .inl (fun _ => 0))), (q1003, .inl (a 0, 6, .inl (fun _ => 0))), (q1004, .inl (a 0, 10, .inl (fun _ => 0))), (q1005, .inl (a 0, 10, .inl (fun _ => 0))), (q1006, .inl (a 0, 10, .inl (fun _ => 0))), (q1007, .inl (a 0, 10, .inl (fun _ => 0)))] := hD
  refine W.cs (cells' := 7) (slots' := 58) rfl rfl ?_
  refine va_putF (D := D) (v := .ref q1007) (C := RX7) (T := TX7) (N := 18) hx hb hts iX7 tyX7 tyX7_ok nmX7 hown hK.1 hP hD hS 0 rfl rfl 11 (by decide) (hts _ t_68) (fun _ h9 => h9) rfl (hnm rfl) rfl (tyX7_ok 11 (by decide)) rfl rfl (Nat.le_of_ble_eq_true rfl) dX7_init_62 (fun H locs hP hD hS => ?_)
  have hP : va_P D classes [(q1, .inr (7, [.int x1, .int 0, .int 0, .int 0, .int 0, .ref q1001, .ref q1002, .ref q1003, .ref q1004, .ref q1005, .ref q1006, .ref q1007, .null, .null, .null, .null, .null, .int 0])), (q1001, .inl (a 0, 6, .inl (fun _ => 0))), (q1002, .inl (a 0, 6, .inl (fun _ => 0))), (q1003, .inl (a 0, 6, .inl (fun _ => 0))), (q1004, .inl (a 0, 10, .inl (fun _ => 0))), (q1005, .inl (a 0, 10, .inl (fun _ => 0))), (q1006, .inl (a 0, 10, .inl (fun _ => 0))), (q1007, .inl (a 0, 10, .inl (fun _ => 0)))] H := hP
  have hD : va_D A [(q1, .inr (7, [.int x1, .int 0, .int 0, .int 0, .int 0, .ref q1001, .ref q1002, .ref q1003, .ref q1004, .ref q1005, .ref q1006, .ref q1007, .null, .null, .null, .null, .null, .int 0])), (q1001, .inl (a 0, 6, .inl (fun _ => 0))), (q1002, .inl (a 0, 6, .inl (fun _ => 0))), (q1003, .inl (a 0, 6, .inl (fun _ => 0))), (q1004, .inl (a 0, 10, .inl (fun _ => 0))), (q1005, .inl (a 0, 10, .inl (fun _ => 0))), (q1006, .inl (a 0, 10, .inl (fun _ => 0))), (q1007, .inl (a 0, 10, .inl (fun _ => 0)))] := hD
  refine lv_aload_n hx hb dX7_init_65 rfl (lv_at hl 0 rfl) ?_
  refine lv_bipush (v := 10) hx hb dX7_init_66 (by decide) ?_
  refine newA (atype := .int) (a0 := (10, .inl (fun _ => 0))) hx hb hK 0 rfl ra_int (hts _ t_119) rfl hP hD hS hA (fun _ => rfl) (by decide) (by decide) (by decide) (Nat.le_of_ble_eq_true rfl) (Nat.le_of_ble_eq_true rfl) dX7_init_68 (fun q1008 H hP hD hS => ?_)
  have hP : va_P D classes [(q1, .inr (7, [.int x1, .int 0, .int 0, .int 0, .int 0, .ref q1001, .ref q1002, .ref q1003, .ref q1004, .ref q1005, .ref q1006, .ref q1007, .null, .null, .null, .null, .null, .int 0])), (q1001, .inl (a 0, 6, .inl (fun _ => 0))), (q1002, .inl (a 0, 6, .inl (fun _ => 0))), (q1003, .inl (a 0, 6, .inl (fun _ => 0))), (q1004, .inl (a 0, 10, .inl (fun _ => 0))), (q1005, .inl (a 0, 10, .inl (fun _ => 0))), (q1006, .inl (a 0, 10, .inl (fun _ => 0))), (q1007, .inl (a 0, 10, .inl (fun _ => 0))), (q1008, .inl (a 0, 10, .inl (fun _ => 0)))] H := hP
  have hD : va_D A [(q1, .inr (7, [.int x1, .int 0, .int 0, .int 0, .int 0, .ref q1001, .ref q1002, .ref q1003, .ref q1004, .ref q1005, .ref q1006, .ref q1007, .null, .null, .null, .null, .null, .int 0])), (q1001, .inl (a 0, 6, .inl (fun _ => 0))), (q1002, .inl (a 0, 6, .inl (fun _ => 0))), (q1003, .inl (a 0, 6, .inl (fun _ => 0))), (q1004, .inl (a 0, 10, .inl (fun _ => 0))), (q1005, .inl (a 0, 10, .inl (fun _ => 0))), (q1006, .inl (a 0, 10, .inl (fun _ => 0))), (q1007, .inl (a 0, 10, .inl (fun _ => 0))), (q1008, .inl (a 0, 10, .inl (fun _ => 0)))] := hD
  refine W.cs (cells' := 8) (slots' := 68) rfl rfl ?_
  refine va_putF (D := D) (v := .ref q1008) (C := RX7) (T := TX7) (N := 18) hx hb hts iX7 tyX7 tyX7_ok nmX7 hown hK.1 hP hD hS 0 rfl rfl 12 (by decide) (hts _ t_70) (fun _ h9 => h9) rfl (hnm rfl) rfl (tyX7_ok 12 (by decide)) rfl rfl (Nat.le_of_ble_eq_true rfl) dX7_init_70 (fun H locs hP hD hS => ?_)
  have hP : va_P D classes [(q1, .inr (7, [.int x1, .int 0, .int 0, .int 0, .int 0, .ref q1001, .ref q1002, .ref q1003, .ref q1004, .ref q1005, .ref q1006, .ref q1007, .ref q1008, .null, .null, .null, .null, .int 0])), (q1001, .inl (a 0, 6, .inl (fun _ => 0))), (q1002, .inl (a 0, 6, .inl (fun _ => 0))), (q1003, .inl (a 0, 6, .inl (fun _ => 0))), (q1004, .inl (a 0, 10, .inl (fun _ => 0))), (q1005, .inl (a 0, 10, .inl (fun _ => 0))), (q1006, .inl (a 0, 10, .inl (fun _ => 0))), (q1007, .inl (a 0, 10, .inl (fun _ => 0))), (q1008, .inl (a 0, 10, .inl (fun _ => 0)))] H := hP
  have hD : va_D A [(q1, .inr (7, [.int x1, .int 0, .int 0, .int 0, .int 0, .ref q1001, .ref q1002, .ref q1003, .ref q1004, .ref q1005, .ref q1006, .ref q1007, .ref q1008, .null, .null, .null, .null, .int 0])), (q1001, .inl (a 0, 6, .inl (fun _ => 0))), (q1002, .inl (a 0, 6, .inl (fun _ => 0))), (q1003, .inl (a 0, 6, .inl (fun _ => 0))), (q1004, .inl (a 0, 10, .inl (fun _ => 0))), (q1005, .inl (a 0, 10, .inl (fun _ => 0))), (q1006, .inl (a 0, 10, .inl (fun _ => 0))), (q1007, .inl (a 0, 10, .inl (fun _ => 0))), (q1008, .inl (a 0, 10, .inl (fun _ => 0)))] := hD
  refine lv_aload_n hx hb dX7_init_73 rfl (lv_at hl 0 rfl) ?_
  refine lv_bipush (v := 10) hx hb dX7_init_74 (by decide) ?_
  refine newA (atype := .int) (a0 := (10, .inl (fun _ => 0))) hx hb hK 0 rfl ra_int (hts _ t_119) rfl hP hD hS hA (fun _ => rfl) (by decide) (by decide) (by decide) (Nat.le_of_ble_eq_true rfl) (Nat.le_of_ble_eq_true rfl) dX7_init_76 (fun q1009 H hP hD hS => ?_)
  have hP : va_P D classes [(q1, .inr (7, [.int x1, .int 0, .int 0, .int 0, .int 0, .ref q1001, .ref q1002, .ref q1003, .ref q1004, .ref q1005, .ref q1006, .ref q1007, .ref q1008, .null, .null, .null, .null, .int 0])), (q1001, .inl (a 0, 6, .inl (fun _ => 0))), (q1002, .inl (a 0, 6, .inl (fun _ => 0))), (q1003, .inl (a 0, 6, .inl (fun _ => 0))), (q1004, .inl (a 0, 10, .inl (fun _ => 0))), (q1005, .inl (a 0, 10, .inl (fun _ => 0))), (q1006, .inl (a 0, 10, .inl (fun _ => 0))), (q1007, .inl (a 0, 10, .inl (fun _ => 0))), (q1008, .inl (a 0, 10, .inl (fun _ => 0))), (q1009, .inl (a 0, 10, .inl (fun _ => 0)))] H := hP
  have hD : va_D A [(q1, .inr (7, [.int x1, .int 0, .int 0, .int 0, .int 0, .ref q1001, .ref q1002, .ref q1003, .ref q1004, .ref q1005, .ref q1006, .ref q1007, .ref q1008, .null, .null, .null, .null, .int 0])), (q1001, .inl (a 0, 6, .inl (fun _ => 0))), (q1002, .inl (a 0, 6, .inl (fun _ => 0))), (q1003, .inl (a 0, 6, .inl (fun _ => 0))), (q1004, .inl (a 0, 10, .inl (fun _ => 0))), (q1005, .inl (a 0, 10, .inl (fun _ => 0))), (q1006, .inl (a 0, 10, .inl (fun _ => 0))), (q1007, .inl (a 0, 10, .inl (fun _ => 0))), (q1008, .inl (a 0, 10, .inl (fun _ => 0))), (q1009, .inl (a 0, 10, .inl (fun _ => 0)))] := hD
  refine W.cs (cells' := 9) (slots' := 78) rfl rfl ?_
  refine va_putF (D := D) (v := .ref q1009) (C := RX7) (T := TX7) (N := 18) hx hb hts iX7 tyX7 tyX7_ok nmX7 hown hK.1 hP hD hS 0 rfl rfl 13 (by decide) (hts _ t_75) (fun _ h9 => h9) rfl (hnm rfl) rfl (tyX7_ok 13 (by decide)) rfl rfl (Nat.le_of_ble_eq_true rfl) dX7_init_78 (fun H locs hP hD hS => ?_)
  have hP : va_P D classes [(q1, .inr (7, [.int x1, .int 0, .int 0, .int 0, .int 0, .ref q1001, .ref q1002, .ref q1003, .ref q1004, .ref q1005, .ref q1006, .ref q1007, .ref q1008, .ref q1009, .null, .null, .null, .int 0])), (q1001, .inl (a 0, 6, .inl (fun _ => 0))), (q1002, .inl (a 0, 6, .inl (fun _ => 0))), (q1003, .inl (a 0, 6, .inl (fun _ => 0))), (q1004, .inl (a 0, 10, .inl (fun _ => 0))), (q1005, .inl (a 0, 10, .inl (fun _ => 0))), (q1006, .inl (a 0, 10, .inl (fun _ => 0))), (q1007, .inl (a 0, 10, .inl (fun _ => 0))), (q1008, .inl (a 0, 10, .inl (fun _ => 0))), (q1009, .inl (a 0, 10, .inl (fun _ => 0)))] H := hP
  have hD : va_D A [(q1, .inr (7, [.int x1, .int 0, .int 0, .int 0, .int 0, .ref q1001, .ref q1002, .ref q1003, .ref q1004, .ref q1005, .ref q1006, .ref q1007, .ref q1008, .ref q1009, .null, .null, .null, .int 0])), (q1001, .inl (a 0, 6, .inl (fun _ => 0))), (q1002, .inl (a 0, 6, .inl (fun _ => 0))), (q1003, .inl (a 0, 6, .inl (fun _ => 0))), (q1004, .inl (a 0, 10, .inl (fun _ => 0))), (q1005, .inl (a 0, 10, .inl (fun _ => 0))), (q1006, .inl (a 0, 10, .inl (fun _ => 0))), (q1007, .inl (a 0, 10, .inl (fun _ => 0))), (q1008, .inl (a 0, 10, .inl (fun _ => 0))), (q1009, .inl (a 0, 10, .inl (fun _ => 0)))] := hD
  refine lv_aload_n hx hb dX7_init_81 rfl (lv_at hl 0 rfl) ?_
  refine lv_bipush (v := 10) hx hb dX7_init_82 (by decide) ?_
  refine newA (atype := .int) (a0 := (10, .inl (fun _ => 0))) hx hb hK 0 rfl ra_int (hts _ t_119) rfl hP hD hS hA (fun _ => rfl) (by decide) (by decide) (by decide) (Nat.le_of_ble_eq_true rfl) (Nat.le_of_ble_eq_true rfl) dX7_init_84 (fun q1010 H hP hD hS => ?_)
  have hP : va_P D classes [(q1, .inr (7, [.int x1, .int 0, .int 0, .int 0, .int 0, .ref q1001, .ref q1002, .ref q1003, .ref q1004, .ref q1005, .ref q1006, .ref q1007, .ref q1008, .ref q1009, .null, .null, .null, .int 0])), (q1001, .inl (a 0, 6, .inl (fun _ => 0))), (q1002, .inl (a 0, 6, .inl (fun _ => 0))), (q1003, .inl (a 0, 6, .inl (fun _ => 0))), (q1004, .inl (a 0, 10, .inl (fun _ => 0))), (q1005, .inl (a 0, 10, .inl (fun _ => 0))), (q1006, .inl (a 0, 10, .inl (fun _ => 0))), (q1007, .inl (a 0, 10, .inl (fun _ => 0))), (q1008, .inl (a 0, 10, .inl (fun _ => 0))), (q1009, .inl (a 0, 10, .inl (fun _ => 0))), (q1010, .inl (a 0, 10, .inl (fun _ => 0)))] H := hP
  have hD : va_D A [(q1, .inr (7, [.int x1, .int 0, .int 0, .int 0, .int 0, .ref q1001, .ref q1002, .ref q1003, .ref q1004, .ref q1005, .ref q1006, .ref q1007, .ref q1008, .ref q1009, .null, .null, .null, .int 0])), (q1001, .inl (a 0, 6, .inl (fun _ => 0))), (q1002, .inl (a 0, 6, .inl (fun _ => 0))), (q1003, .inl (a 0, 6, .inl (fun _ => 0))), (q1004, .inl (a 0, 10, .inl (fun _ => 0))), (q1005, .inl (a 0, 10, .inl (fun _ => 0))), (q1006, .inl (a 0, 10, .inl (fun _ => 0))), (q1007, .inl (a 0, 10, .inl (fun _ => 0))), (q1008, .inl (a 0, 10, .inl (fun _ => 0))), (q1009, .inl (a 0, 10, .inl (fun _ => 0))), (q1010, .inl (a 0, 10, .inl (fun _ => 0)))] := hD
  refine W.cs (cells' := 10) (slots' := 88) rfl rfl ?_
  refine va_putF (D := D) (v := .ref q1010) (C := RX7) (T := TX7) (N := 18) hx hb hts iX7 tyX7 tyX7_ok nmX7 hown hK.1 hP hD hS 0 rfl rfl 14 (by decide) (hts _ t_76) (fun _ h9 => h9) rfl (hnm rfl) rfl (tyX7_ok 14 (by decide)) rfl rfl (Nat.le_of_ble_eq_true rfl) dX7_init_86 (fun H locs hP hD hS => ?_)
  have hP : va_P D classes [(q1, .inr (7, [.int x1, .int 0, .int 0, .int 0, .int 0, .ref q1001, .ref q1002, .ref q1003, .ref q1004, .ref q1005, .ref q1006, .ref q1007, .ref q1008, .ref q1009, .ref q1010, .null, .null, .int 0])), (q1001, .inl (a 0, 6, .inl (fun _ => 0))), (q1002, .inl (a 0, 6, .inl (fun _ => 0))), (q1003, .inl (a 0, 6, .inl (fun _ => 0))), (q1004, .inl (a 0, 10, .inl (fun _ => 0))), (q1005, .inl (a 0, 10, .inl (fun _ => 0))), (q1006, .inl (a 0, 10, .inl (fun _ => 0))), (q1007, .inl (a 0, 10, .inl (fun _ => 0))), (q1008, .inl (a 0, 10, .inl (fun _ => 0))), (q1009, .inl (a 0, 10, .inl (fun _ => 0))), (q1010, .inl (a 0, 10, .inl (fun _ => 0)))] H := hP
  have hD : va_D A [(q1, .inr (7, [.int x1, .int 0, .int 0, .int 0, .int 0, .ref q1001, .ref q1002, .ref q1003, .ref q1004, .ref q1005, .ref q1006, .ref q1007, .ref q1008, .ref q1009, .ref q1010, .null, .null, .int 0])), (q1001, .inl (a 0, 6, .inl (fun _ => 0))), (q1002, .inl (a 0, 6, .inl (fun _ => 0))), (q1003, .inl (a 0, 6, .inl (fun _ => 0))), (q1004, .inl (a 0, 10, .inl (fun _ => 0))), (q1005, .inl (a 0, 10, .inl (fun _ => 0))), (q1006, .inl (a 0, 10, .inl (fun _ => 0))), (q1007, .inl (a 0, 10, .inl (fun _ => 0))), (q1008, .inl (a 0, 10, .inl (fun _ => 0))), (q1009, .inl (a 0, 10, .inl (fun _ => 0))), (q1010, .inl (a 0, 10, .inl (fun _ => 0)))] := hD
  refine lv_aload_n hx hb dX7_init_89 rfl (lv_at hl 0 rfl) ?_
  refine lv_bipush (v := 10) hx hb dX7_init_90 (by decide) ?_
  refine newA (atype := .int) (a0 := (10, .inl (fun _ => 0))) hx hb hK 0 rfl ra_int (hts _ t_119) rfl hP hD hS hA (fun _ => rfl) (by decide) (by decide) (by decide) (Nat.le_of_ble_eq_true rfl) (Nat.le_of_ble_eq_true rfl) dX7_init_92 (fun q1011 H hP hD hS => ?_)
  have hP : va_P D classes [(q1, .inr (7, [.int x1, .int 0, .int 0, .int 0, .int 0, .ref q1001, .ref q1002, .ref q1003, .ref q1004, .ref q1005, .ref q1006, .ref q1007, .ref q1008, .ref q1009, .ref q1010, .null, .null, .int 0])), (q1001, .inl (a 0, 6, .inl (fun _ => 0))), (q1002, .inl (a 0, 6, .inl (fun _ => 0))), (q1003, .inl (a 0, 6, .inl (fun _ => 0))), (q1004, .inl (a 0, 10, .inl (fun _ => 0))), (q1005, .inl (a 0, 10, .inl (fun _ => 0))), (q1006, .inl (a 0, 10, .inl (fun _ => 0))), (q1007, .inl (a 0, 10, .inl (fun _ => 0))), (q1008, .inl (a 0, 10, .inl (fun _ => 0))), (q1009, .inl (a 0, 10, .inl (fun _ => 0))), (q1010, .inl (a 0, 10, .inl (fun _ => 0))), (q1011, .inl (a 0, 10, .inl (fun _ => 0)))] H := hP
  have hD : va_D A [(q1, .inr (7, [.int x1, .int 0, .int 0, .int 0, .int 0, .ref q1001, .ref q1002, .ref q1003, .ref q1004, .ref q1005, .ref q1006, .ref q1007, .ref q1008, .ref q1009, .ref q1010, .null, .null, .int 0])), (q1001, .inl (a 0, 6, .inl (fun _ => 0))), (q1002, .inl (a 0, 6, .inl (fun _ => 0))), (q1003, .inl (a 0, 6, .inl (fun _ => 0))), (q1004, .inl (a 0, 10, .inl (fun _ => 0))), (q1005, .inl (a 0, 10, .inl (fun _ => 0))), (q1006, .inl (a 0, 10, .inl (fun _ => 0))), (q1007, .inl (a 0, 10, .inl (fun _ => 0))), (q1008, .inl (a 0, 10, .inl (fun _ => 0))), (q1009, .inl (a 0, 10, .inl (fun _ => 0))), (q1010, .inl (a 0, 10, .inl (fun _ => 0))), (q1011, .inl (a 0, 10, .inl (fun _ => 0)))] := hD
  refine W.cs (cells' := 11) (slots' := 98) rfl rfl ?_
  refine va_putF (D := D) (v := .ref q1011) (C := RX7) (T := TX7) (N := 18) hx hb hts iX7 tyX7 tyX7_ok nmX7 hown hK.1 hP hD hS 0 rfl rfl 15 (by decide) (hts _ t_78) (fun _ h9 => h9) rfl (hnm rfl) rfl (tyX7_ok 15 (by decide)) rfl rfl (Nat.le_of_ble_eq_true rfl) dX7_init_94 (fun H locs hP hD hS => ?_)
  have hP : va_P D classes [(q1, .inr (7, [.int x1, .int 0, .int 0, .int 0, .int 0, .ref q1001, .ref q1002, .ref q1003, .ref q1004, .ref q1005, .ref q1006, .ref q1007, .ref q1008, .ref q1009, .ref q1010, .ref q1011, .null, .int 0])), (q1001, .inl (a 0, 6, .inl (fun _ => 0))), (q1002, .inl (a 0, 6, .inl (fun _ => 0))), (q1003, .inl (a 0, 6, .inl (fun _ => 0))), (q1004, .inl (a 0, 10, .inl (fun _ => 0))), (q1005, .inl (a 0, 10, .inl (fun _ => 0))), (q1006, .inl (a 0, 10, .inl (fun _ => 0))), (q1007, .inl (a 0, 10, .inl (fun _ => 0))), (q1008, .inl (a 0, 10, .inl (fun _ => 0))), (q1009, .inl (a 0, 10, .inl (fun _ => 0))), (q1010, .inl (a 0, 10, .inl (fun _ => 0))), (q1011, .inl (a 0, 10, .inl (fun _ => 0)))] H := hP
  have hD : va_D A [(q1, .inr (7, [.int x1, .int 0, .int 0, .int 0, .int 0, .ref q1001, .ref q1002, .ref q1003, .ref q1004, .ref q1005, .ref q1006, .ref q1007, .ref q1008, .ref q1009, .ref q1010, .ref q1011, .null, .int 0])), (q1001, .inl (a 0, 6, .inl (fun _ => 0))), (q1002, .inl (a 0, 6, .inl (fun _ => 0))), (q1003, .inl (a 0, 6, .inl (fun _ => 0))), (q1004, .inl (a 0, 10, .inl (fun _ => 0))), (q1005, .inl (a 0, 10, .inl (fun _ => 0))), (q1006, .inl (a 0, 10, .inl (fun _ => 0))), (q1007, .inl (a 0, 10, .inl (fun _ => 0))), (q1008, .inl (a 0, 10, .inl (fun _ => 0))), (q1009, .inl (a 0, 10, .inl (fun _ => 0))), (q1010, .inl (a 0, 10, .inl (fun _ => 0))), (q1011, .inl (a 0, 10, .inl (fun _ => 0)))] := hD
  refine lv_aload_n hx hb dX7_init_97 rfl (lv_at hl 0 rfl) ?_
  refine lv_bipush (v := 10) hx hb dX7_init_98 (by decide) ?_
  refine newA (atype := .int) (a0 := (10, .inl (fun _ => 0))) hx hb hK 0 rfl ra_int (hts _ t_119) rfl hP hD hS hA (fun _ => rfl) (by decide) (by decide) (by decide) (Nat.le_of_ble_eq_true rfl) (Nat.le_of_ble_eq_true rfl) dX7_init_100 (fun q1012 H hP hD hS => ?_)
  have hP : va_P D classes [(q1, .inr (7, [.int x1, .int 0, .int 0, .int 0, .int 0, .ref q1001, .ref q1002, .ref q1003, .ref q1004, .ref q1005, .ref q1006, .ref q1007, .ref q1008, .ref q1009, .ref q1010, .ref q1011, .null, .int 0])), (q1001, .inl (a 0, 6, .inl (fun _ => 0))), (q1002, .inl (a 0, 6, .inl (fun _ => 0))), (q1003, .inl (a 0, 6, .inl (fun _ => 0))), (q1004, .inl (a 0, 10, .inl (fun _ => 0))), (q1005, .inl (a 0, 10, .inl (fun _ => 0))), (q1006, .inl (a 0, 10, .inl (fun _ => 0))), (q1007, .inl (a 0, 10, .inl (fun _ => 0))), (q1008, .inl (a 0, 10, .inl (fun _ => 0))), (q1009, .inl (a 0, 10, .inl (fun _ => 0))), (q1010, .inl (a 0, 10, .inl (fun _ => 0))), (q1011, .inl (a 0, 10, .inl (fun _ => 0))), (q1012, .inl (a 0, 10, .inl (fun _ => 0)))] H := hP
  have hD : va_D A [(q1, .inr (7, [.int x1, .int 0, .int 0, .int 0, .int 0, .ref q1001, .ref q1002, .ref q1003, .ref q1004, .ref q1005, .ref q1006, .ref q1007, .ref q1008, .ref q1009, .ref q1010, .ref q1011, .null, .int 0])), (q1001, .inl (a 0, 6, .inl (fun _ => 0))), (q1002, .inl (a 0, 6, .inl (fun _ => 0))), (q1003, .inl (a 0, 6, .inl (fun _ => 0))), (q1004, .inl (a 0, 10, .inl (fun _ => 0))), (q1005, .inl (a 0, 10, .inl (fun _ => 0))), (q1006, .inl (a 0, 10, .inl (fun _ => 0))), (q1007, .inl (a 0, 10, .inl (fun _ => 0))), (q1008, .inl (a 0, 10, .inl (fun _ => 0))), (q1009, .inl (a 0, 10, .inl (fun _ => 0))), (q1010, .inl (a 0, 10, .inl (fun _ => 0))), (q1011, .inl (a 0, 10, .inl (fun _ => 0))), (q1012, .inl (a 0, 10, .inl (fun _ => 0)))] := hD
  refine W.cs (cells' := 12) (slots' := 108) rfl rfl ?_
  refine va_putF (D := D) (v := .ref q1012) (C := RX7) (T := TX7) (N := 18) hx hb hts iX7 tyX7 tyX7_ok nmX7 hown hK.1 hP hD hS 0 rfl rfl 16 (by decide) (hts _ t_79) (fun _ h9 => h9) rfl (hnm rfl) rfl (tyX7_ok 16 (by decide)) rfl rfl (Nat.le_of_ble_eq_true rfl) dX7_init_102 (fun H locs hP hD hS => ?_)
  have hP : va_P D classes [(q1, .inr (7, [.int x1, .int 0, .int 0, .int 0, .int 0, .ref q1001, .ref q1002, .ref q1003, .ref q1004, .ref q1005, .ref q1006, .ref q1007, .ref q1008, .ref q1009, .ref q1010, .ref q1011, .ref q1012, .int 0])), (q1001, .inl (a 0, 6, .inl (fun _ => 0))), (q1002, .inl (a 0, 6, .inl (fun _ => 0))), (q1003, .inl (a 0, 6, .inl (fun _ => 0))), (q1004, .inl (a 0, 10, .inl (fun _ => 0))), (q1005, .inl (a 0, 10, .inl (fun _ => 0))), (q1006, .inl (a 0, 10, .inl (fun _ => 0))), (q1007, .inl (a 0, 10, .inl (fun _ => 0))), (q1008, .inl (a 0, 10, .inl (fun _ => 0))), (q1009, .inl (a 0, 10, .inl (fun _ => 0))), (q1010, .inl (a 0, 10, .inl (fun _ => 0))), (q1011, .inl (a 0, 10, .inl (fun _ => 0))), (q1012, .inl (a 0, 10, .inl (fun _ => 0)))] H := hP
  have hD : va_D A [(q1, .inr (7, [.int x1, .int 0, .int 0, .int 0, .int 0, .ref q1001, .ref q1002, .ref q1003, .ref q1004, .ref q1005, .ref q1006, .ref q1007, .ref q1008, .ref q1009, .ref q1010, .ref q1011, .ref q1012, .int 0])), (q1001, .inl (a 0, 6, .inl (fun _ => 0))), (q1002, .inl (a 0, 6, .inl (fun _ => 0))), (q1003, .inl (a 0, 6, .inl (fun _ => 0))), (q1004, .inl (a 0, 10, .inl (fun _ => 0))), (q1005, .inl (a 0, 10, .inl (fun _ => 0))), (q1006, .inl (a 0, 10, .inl (fun _ => 0))), (q1007, .inl (a 0, 10, .inl (fun _ => 0))), (q1008, .inl (a 0, 10, .inl (fun _ => 0))), (q1009, .inl (a 0, 10, .inl (fun _ => 0))), (q1010, .inl (a 0, 10, .inl (fun _ => 0))), (q1011, .inl (a 0, 10, .inl (fun _ => 0))), (q1012, .inl (a 0, 10, .inl (fun _ => 0)))] := hD
  exact retMv C rfl (0, [q1001, q1002, q1003, q1004, q1005, q1006, q1007, q1008, q1009, q1010, q1011, q1012], [], [], [], []) ⟨q1001, q1002, q1003, q1004, q1005, q1006, q1007, q1008, q1009, q1010, q1011, q1012, rfl⟩ hP hD hS (Nat.le_of_ble_eq_true rfl) (Nat.le_of_ble_eq_true rfl) dX7_init_105

set_option maxHeartbeats 4000000 in
set_option maxRecDepth 100000 in
theorem c_X0_init_0 (l : Launch) (D : va_G) (a : Nat → ClassId) (q1 : Nat) (sz : Nat) : CMv (S := SS) l MX0_init 1 20 1 10 D a [.ref q1] [(q1, .inr (0, [.int 0, .int 0, .int 0, .int 0, .int 0, .null]))] sz (fun u => (∃ q1015 : Nat, u = (0, [q1015], [], [], [], []))) (fun u => pk [[(q1, .inr (0, [.int 0, .int 0, .int 0, .int 0, .int 0, .ref (u.2.1.getD 0 0)])), ((u.2.1.getD 0 0), .inl (a 0, 10, .inl (fun _ => 0)))]] u.1) := by
  refine entMv (by decide) (Nat.le_of_ble_eq_true rfl) ?_
  intro p e s m below meth c C hK A hA hP hD ls hl
  obtain ⟨hx, hb, hml, hown, hts, hr, hlocks, hnm⟩ := id C
  have hb : c.code = cX0_init := hb
  have hown : s.vm.findClass RX0 = some m.cls := hown
  have hS : va_S A s.heap s.heap [] := va_S.rf
  have hl : lv_has ls 1 [(0, .ref q1)] := hl
  refine lv_aload_n hx hb dX0_init_0 rfl (lv_at hl 0 rfl) ?_
  refine W.objInit hx hb hown (hts _ t_129) (hts _ t_25) (hts _ t_26) rfl (by rw [hml]; exact hl.1) rfl dX0_init_1 (Nat.le_of_ble_eq_true rfl) (Nat.le_of_ble_eq_true rfl) ?_
  refine W.eq (g2 := F0 m 4 ls []) rfl ?_
  refine lv_aload_n hx hb dX0_init_4 rfl (lv_at hl 0 rfl) ?_
  refine lv_bipush (v := 10) hx hb dX0_init_5 (by decide) ?_
  refine newA (atype := .int) (a0 := (10, .inl (fun _ => 0))) hx hb hK 0 rfl ra_int (hts _ t_119) rfl hP hD hS hA (fun _ => rfl) (by decide) (by decide) (by decide) (Nat.le_of_ble_eq_true rfl) (Nat.le_of_ble_eq_true rfl) dX0_init_7 (fun q1015 H hP hD hS => ?_)
  have hP : va_P D classes [(q1, .inr (0, [.int 0, .int 0, .int 0, .int 0, .int 0, .null])), (q1015, .inl (a 0, 10, .inl (fun _ => 0)))] H := hP
  have hD : va_D A [(q1, .inr (0, [.int 0, .int 0, .int 0, .int 0, .int 0, .null])), (q1015, .inl (a 0, 10, .inl (fun _ => 0)))] := hD
  refine W.cs (cells' := 1) (slots' := 10) rfl rfl ?_
  refine va_putF (D := D) (v := .ref q1015) (C := RX0) (T := TX0) (N := 6) hx hb hts iX0 tyX0 tyX0_ok nmX0 hown hK.1 hP hD hS 0 rfl rfl 5 (by decide) (hts _ t_144) (fun _ h9 => h9) rfl (hnm rfl) rfl (tyX0_ok 5 (by decide)) rfl rfl (Nat.le_of_ble_eq_true rfl) dX0_init_9 (fun H locs hP hD hS => ?_)
  have hP : va_P D classes [(q1, .inr (0, [.int 0, .int 0, .int 0, .int 0, .int 0, .ref q1015])), (q1015, .inl (a 0, 10, .inl (fun _ => 0)))] H := hP
  have hD : va_D A [(q1, .inr (0, [.int 0, .int 0, .int 0, .int 0, .int 0, .ref q1015])), (q1015, .inl (a 0, 10, .inl (fun _ => 0)))] := hD
  exact retMv C rfl (0, [q1015], [], [], [], []) ⟨q1015, rfl⟩ hP hD hS (Nat.le_of_ble_eq_true rfl) (Nat.le_of_ble_eq_true rfl) dX0_init_12

set_option maxHeartbeats 4000000 in
set_option maxRecDepth 100000 in
theorem c_X5_init_0 (l : Launch) (D : va_G) (a : Nat → ClassId) (q1 q2 : Nat) (sz : Nat) : CMv (S := SS) l MX5_init 2 40 4 32 D a [.ref q1, .ref q2] [(q1, .inr (5, [.null, .null, .int 0, .int 0, .int 0, .null, .int 0, .null]))] sz (fun u => (∃ q1013 : Nat, ∃ q1020 : Nat, ∃ q1021 : Nat, ∃ q1019 : Nat, u = (0, [q1013, q1020, q1021, q1019], [], [], [], []))) (fun u => pk [[(q1, .inr (5, [.ref q2, .ref (u.2.1.getD 0 0), .int 0, .int 0, .int 0, .ref (u.2.1.getD 1 0), .int 0, .ref (u.2.1.getD 2 0)])), ((u.2.1.getD 0 0), .inr (0, [.int 0, .int 0, .int 0, .int 0, .int 0, .ref (u.2.1.getD 3 0)])), ((u.2.1.getD 3 0), .inl (a 0, 10, .inl (fun _ => 0))), ((u.2.1.getD 1 0), .inl (a 0, 8, .inl (fun _ => 0))), ((u.2.1.getD 2 0), .inl (a 0, 8, .inl (fun _ => 0)))]] u.1) := by
  refine entMv (by decide) (Nat.le_of_ble_eq_true rfl) ?_
  intro p e s m below meth c C hK A hA hP hD ls hl
  obtain ⟨hx, hb, hml, hown, hts, hr, hlocks, hnm⟩ := id C
  have hb : c.code = cX5_init := hb
  have hown : s.vm.findClass RX5 = some m.cls := hown
  have hS : va_S A s.heap s.heap [] := va_S.rf
  have hl : lv_has ls 2 [(0, .ref q1), (1, .ref q2)] := hl
  refine lv_aload_n hx hb dX5_init_0 rfl (lv_at hl 0 rfl) ?_
  refine W.objInit hx hb hown (hts _ t_123) (hts _ t_25) (hts _ t_26) rfl (by rw [hml]; exact hl.1) rfl dX5_init_1 (Nat.le_of_ble_eq_true rfl) (Nat.le_of_ble_eq_true rfl) ?_
  refine W.eq (g2 := F0 m 4 ls []) rfl ?_
  refine lv_aload_n hx hb dX5_init_4 rfl (lv_at hl 0 rfl) ?_
  refine lv_aload_n hx hb dX5_init_5 rfl (lv_at hl 1 rfl) ?_
  refine va_put (D := D) (v := .ref q2) (C := RX5) (T := TX5) (N := 8) hx hb hts iX5 tyX5 tyX5_ok nmX5 hown hK.1 hP hD hS 0 rfl rfl 0 (by decide) (hts _ t_160) (fun _ h9 => h9) rfl (tyX5_ok 0 (by decide)) rfl rfl (Nat.le_of_ble_eq_true rfl) dX5_init_6 (fun H locs hP hD hS => ?_)
  have hP : va_P D classes [(q1, .inr (5, [.ref q2, .null, .int 0, .int 0, .int 0, .null, .int 0, .null]))] H := hP
  have hD : va_D A [(q1, .inr (5, [.ref q2, .null, .int 0, .int 0, .int 0, .null, .int 0, .null]))] := hD
  refine lv_aload_n hx hb dX5_init_9 rfl (lv_at hl 0 rfl) ?_
  refine va_new (ci := 0) (fs := [.int 0, .int 0, .int 0, .int 0, .int 0, .null]) (C := RX0) (T := TX0) (N := 6) hx hb hts iX0 tyX0 tyX0_ok hown (hts _ t_124) (hts _ t_125) (hts _ t_4) hK.1 hP hD hS hA rfl (dfX0) (Nat.le_of_ble_eq_true rfl) (Nat.le_of_ble_eq_true rfl) dX5_init_10 (fun q1013 H hP hD hS => ?_)
  have hP : va_P D classes [(q1, .inr (5, [.ref q2, .null, .int 0, .int 0, .int 0, .null, .int 0, .null])), (q1013, .inr (0, [.int 0, .int 0, .int 0, .int 0, .int 0, .null]))] H := hP
  have hD : va_D A [(q1, .inr (5, [.ref q2, .null, .int 0, .int 0, .int 0, .null, .int 0, .null])), (q1013, .inr (0, [.int 0, .int 0, .int 0, .int 0, .int 0, .null]))] := hD
  refine W.cs (cells' := 1) (slots' := 6) rfl rfl ?_
  refine lv_dup hx hb dX5_init_13 rfl ?_
  refine afMv (runI (As := []) (rest := [.ref q1013, .ref q1]) C (c_X0_init_0 l D a q1013 H.size) lk_I_5_17 (okN_X0_init) ⟨Nat.le_of_ble_eq_true rfl, Nat.le_of_ble_eq_true rfl⟩ ⟨rfl, rfl⟩ (preM hK (P_of_map (wc := [(q1013, .inr (0, [.int 0, .int 0, .int 0, .int 0, .int 0, .null]))]) hP [1] rfl) (hD.sub (ws' := [(q1013, .inr (0, [.int 0, .int 0, .int 0, .int 0, .int 0, .null]))]) [1] (by decide) rfl)) hl.1 rfl (Nat.le_of_ble_eq_true rfl) dX5_init_14 ⟨Nat.le_of_ble_eq_true rfl, Nat.le_of_ble_eq_true rfl⟩) hP hD hS hA [1] [0] (wr := [(q1, .inr (5, [.ref q2, .null, .int 0, .int 0, .int 0, .null, .int 0, .null]))]) rfl rfl (by decide) (by decide) (fun u H locs hw hP hD hS => ?_)
  obtain ⟨q1019, rfl⟩ := hw
  have hP : va_P D classes [(q1, .inr (5, [.ref q2, .null, .int 0, .int 0, .int 0, .null, .int 0, .null])), (q1013, .inr (0, [.int 0, .int 0, .int 0, .int 0, .int 0, .ref q1019])), (q1019, .inl (a 0, 10, .inl (fun _ => 0)))] H := hP
  have hD : va_D A [(q1, .inr (5, [.ref q2, .null, .int 0, .int 0, .int 0, .null, .int 0, .null])), (q1013, .inr (0, [.int 0, .int 0, .int 0, .int 0, .int 0, .ref q1019])), (q1019, .inl (a 0, 10, .inl (fun _ => 0)))] := hD
  refine W.cs (cells' := 2) (slots' := 16) rfl rfl ?_
  refine va_putF (D := D) (v := .ref q1013) (C := RX5) (T := TX5) (N := 8) hx hb hts iX5 tyX5 tyX5_ok nmX5 hown hK.1 hP hD hS 0 rfl rfl 1 (by decide) (hts _ t_162) (fun _ h9 => h9) rfl (hnm rfl) rfl (tyX5_ok 1 (by decide)) rfl rfl (Nat.le_of_ble_eq_true rfl) dX5_init_17 (fun H locs hP hD hS => ?_)
  have hP : va_P D classes [(q1, .inr (5, [.ref q2, .ref q1013, .int 0, .int 0, .int 0, .null, .int 0, .null])), (q1013, .inr (0, [.int 0, .int 0, .int 0, .int 0, .int 0, .ref q1019])), (q1019, .inl (a 0, 10, .inl (fun _ => 0)))] H := hP
  have hD : va_D A [(q1, .inr (5, [.ref q2, .ref q1013, .int 0, .int 0, .int 0, .null, .int 0, .null])), (q1013, .inr (0, [.int 0, .int 0, .int 0, .int 0, .int 0, .ref q1019])), (q1019, .inl (a 0, 10, .inl (fun _ => 0)))] := hD
  refine lv_aload_n hx hb dX5_init_20 rfl (lv_at hl 0 rfl) ?_
  refine lv_bipush (v := 8) hx hb dX5_init_21 (by decide) ?_
  refine newA (atype := .int) (a0 := (8, .inl (fun _ => 0))) hx hb hK 0 rfl ra_int (hts _ t_119) rfl hP hD hS hA (fun _ => rfl) (by decide) (by decide) (by decide) (Nat.le_of_ble_eq_true rfl) (Nat.le_of_ble_eq_true rfl) dX5_init_23 (fun q1020 H hP hD hS => ?_)
  have hP : va_P D classes [(q1, .inr (5, [.ref q2, .ref q1013, .int 0, .int 0, .int 0, .null, .int 0, .null])), (q1013, .inr (0, [.int 0, .int 0, .int 0, .int 0, .int 0, .ref q1019])), (q1019, .inl (a 0, 10, .inl (fun _ => 0))), (q1020, .inl (a 0, 8, .inl (fun _ => 0)))] H := hP
  have hD : va_D A [(q1, .inr (5, [.ref q2, .ref q1013, .int 0, .int 0, .int 0, .null, .int 0, .null])), (q1013, .inr (0, [.int 0, .int 0, .int 0, .int 0, .int 0, .ref q1019])), (q1019, .inl (a 0, 10, .inl (fun _ => 0))), (q1020, .inl (a 0, 8, .inl (fun _ => 0)))] := hD
  refine W.cs (cells' := 3) (slots' := 24) rfl rfl ?_
  refine va_putF (D := D) (v := .ref q1020) (C := RX5) (T := TX5) (N := 8) hx hb hts iX5 tyX5 tyX5_ok nmX5 hown hK.1 hP hD hS 0 rfl rfl 5 (by decide) (hts _ t_170) (fun _ h9 => h9) rfl (hnm rfl) rfl (tyX5_ok 5 (by decide)) rfl rfl (Nat.le_of_ble_eq_true rfl) dX5_init_25 (fun H locs hP hD hS => ?_)
  have hP : va_P D classes [(q1, .inr (5, [.ref q2, .ref q1013, .int 0, .int 0, .int 0, .ref q1020, .int 0, .null])), (q1013, .inr (0, [.int 0, .int 0, .int 0, .int 0, .int 0, .ref q1019])), (q1019, .inl (a 0, 10, .inl (fun _ => 0))), (q1020, .inl (a 0, 8, .inl (fun _ => 0)))] H := hP
  have hD : va_D A [(q1, .inr (5, [.ref q2, .ref q1013, .int 0, .int 0, .int 0, .ref q1020, .int 0, .null])), (q1013, .inr (0, [.int 0, .int 0, .int 0, .int 0, .int 0, .ref q1019])), (q1019, .inl (a 0, 10, .inl (fun _ => 0))), (q1020, .inl (a 0, 8, .inl (fun _ => 0)))] := hD
  refine lv_aload_n hx hb dX5_init_28 rfl (lv_at hl 0 rfl) ?_
  refine lv_bipush (v := 8) hx hb dX5_init_29 (by decide) ?_
  refine newA (atype := .int) (a0 := (8, .inl (fun _ => 0))) hx hb hK 0 rfl ra_int (hts _ t_119) rfl hP hD hS hA (fun _ => rfl) (by decide) (by decide) (by decide) (Nat.le_of_ble_eq_true rfl) (Nat.le_of_ble_eq_true rfl) dX5_init_31 (fun q1021 H hP hD hS => ?_)
  have hP : va_P D classes [(q1, .inr (5, [.ref q2, .ref q1013, .int 0, .int 0, .int 0, .ref q1020, .int 0, .null])), (q1013, .inr (0, [.int 0, .int 0, .int 0, .int 0, .int 0, .ref q1019])), (q1019, .inl (a 0, 10, .inl (fun _ => 0))), (q1020, .inl (a 0, 8, .inl (fun _ => 0))), (q1021, .inl (a 0, 8, .inl (fun _ => 0)))] H := hP
  have hD : va_D A [(q1, .inr (5, [.ref q2, .ref q1013, .int 0, .int 0, .int 0, .ref q1020, .int 0, .null])), (q1013, .inr (0, [.int 0, .int 0, .int 0, .int 0, .int 0, .ref q1019])), (q1019, .inl (a 0, 10, .inl (fun _ => 0))), (q1020, .inl (a 0, 8, .inl (fun _ => 0))), (q1021, .inl (a 0, 8, .inl (fun _ => 0)))] := hD
  refine W.cs (cells' := 4) (slots' := 32) rfl rfl ?_
  refine va_putF (D := D) (v := .ref q1021) (C := RX5) (T := TX5) (N := 8) hx hb hts iX5 tyX5 tyX5_ok nmX5 hown hK.1 hP hD hS 0 rfl rfl 7 (by decide) (hts _ t_174) (fun _ h9 => h9) rfl (hnm rfl) rfl (tyX5_ok 7 (by decide)) rfl rfl (Nat.le_of_ble_eq_true rfl) dX5_init_33 (fun H locs hP hD hS => ?_)
  have hP : va_P D classes [(q1, .inr (5, [.ref q2, .ref q1013, .int 0, .int 0, .int 0, .ref q1020, .int 0, .ref q1021])), (q1013, .inr (0, [.int 0, .int 0, .int 0, .int 0, .int 0, .ref q1019])), (q1019, .inl (a 0, 10, .inl (fun _ => 0))), (q1020, .inl (a 0, 8, .inl (fun _ => 0))), (q1021, .inl (a 0, 8, .inl (fun _ => 0)))] H := hP
  have hD : va_D A [(q1, .inr (5, [.ref q2, .ref q1013, .int 0, .int 0, .int 0, .ref q1020, .int 0, .ref q1021])), (q1013, .inr (0, [.int 0, .int 0, .int 0, .int 0, .int 0, .ref q1019])), (q1019, .inl (a 0, 10, .inl (fun _ => 0))), (q1020, .inl (a 0, 8, .inl (fun _ => 0))), (q1021, .inl (a 0, 8, .inl (fun _ => 0)))] := hD
  exact retMv C rfl (0, [q1013, q1020, q1021, q1019], [], [], [], []) ⟨q1013, q1020, q1021, q1019, rfl⟩ hP hD hS (Nat.le_of_ble_eq_true rfl) (Nat.le_of_ble_eq_true rfl) dX5_init_36

set_option maxHeartbeats 4000000 in
set_option maxRecDepth 100000 in
theorem c_X3_init_0 (l : Launch) (D : va_G) (a : Nat → ClassId) (q1 q2 q3 q4 q5 : Nat) (x1 : Int32) (sz : Nat) : CMv (S := SS) l MX3_init 1 20 0 0 D a [.ref q1, .ref q2, .int x1, .ref q3, .ref q4, .ref q5] [(q1, .inr (3, [.null, .int 0, .null, .null, .null]))] sz (fun u => (u = (0, [], [], [], [], []))) (fun u => pk [[(q1, .inr (3, [.ref q2, .int x1, .ref q3, .ref q4, .ref q5]))]] u.1) := by
  refine entMv (by decide) (Nat.le_of_ble_eq_true rfl) ?_
  intro p e s m below meth c C hK A hA hP hD ls hl
  obtain ⟨hx, hb, hml, hown, hts, hr, hlocks, hnm⟩ := id C
  have hb : c.code = cX3_init := hb
  have hown : s.vm.findClass RX3 = some m.cls := hown
  have hS : va_S A s.heap s.heap [] := va_S.rf
  have hl : lv_has ls 6 [(0, .ref q1), (1, .ref q2), (2, .int x1), (3, .ref q3), (4, .ref q4), (5, .ref q5)] := hl
  refine lv_aload_n hx hb dX3_init_0 rfl (lv_at hl 0 rfl) ?_
  refine W.objInit hx hb hown (hts _ t_580) (hts _ t_25) (hts _ t_26) rfl (by rw [hml]; exact hl.1) rfl dX3_init_1 (Nat.le_of_ble_eq_true rfl) (Nat.le_of_ble_eq_true rfl) ?_
  refine W.eq (g2 := F0 m 4 ls []) rfl ?_
  refine lv_aload_n hx hb dX3_init_4 rfl (lv_at hl 0 rfl) ?_
  refine lv_aload_n hx hb dX3_init_5 rfl (lv_at hl 1 rfl) ?_
  refine va_putF (D := D) (v := .ref q2) (C := RX3) (T := TX3) (N := 5) hx hb hts iX3 tyX3 tyX3_ok nmX3 hown hK.1 hP hD hS 0 rfl rfl 0 (by decide) (hts _ t_581) (fun _ h9 => h9) rfl (hnm rfl) rfl (tyX3_ok 0 (by decide)) rfl rfl (Nat.le_of_ble_eq_true rfl) dX3_init_6 (fun H locs hP hD hS => ?_)
  have hP : va_P D classes [(q1, .inr (3, [.ref q2, .int 0, .null, .null, .null]))] H := hP
  have hD : va_D A [(q1, .inr (3, [.ref q2, .int 0, .null, .null, .null]))] := hD
  refine lv_aload_n hx hb dX3_init_9 rfl (lv_at hl 0 rfl) ?_
  refine lv_iload_n hx hb dX3_init_10 rfl (lv_at hl 2 rfl) ?_
  refine va_putF (D := D) (v := .int x1) (C := RX3) (T := TX3) (N := 5) hx hb hts iX3 tyX3 tyX3_ok nmX3 hown hK.1 hP hD hS 0 rfl rfl 1 (by decide) (hts _ t_583) (fun _ h9 => h9) rfl (hnm rfl) rfl (tyX3_ok 1 (by decide)) rfl rfl (Nat.le_of_ble_eq_true rfl) dX3_init_11 (fun H locs hP hD hS => ?_)
  have hP : va_P D classes [(q1, .inr (3, [.ref q2, .int x1, .null, .null, .null]))] H := hP
  have hD : va_D A [(q1, .inr (3, [.ref q2, .int x1, .null, .null, .null]))] := hD
  refine lv_aload_n hx hb dX3_init_14 rfl (lv_at hl 0 rfl) ?_
  refine lv_aload_n hx hb dX3_init_15 rfl (lv_at hl 3 rfl) ?_
  refine va_putF (D := D) (v := .ref q3) (C := RX3) (T := TX3) (N := 5) hx hb hts iX3 tyX3 tyX3_ok nmX3 hown hK.1 hP hD hS 0 rfl rfl 2 (by decide) (hts _ t_585) (fun _ h9 => h9) rfl (hnm rfl) rfl (tyX3_ok 2 (by decide)) rfl rfl (Nat.le_of_ble_eq_true rfl) dX3_init_16 (fun H locs hP hD hS => ?_)
  have hP : va_P D classes [(q1, .inr (3, [.ref q2, .int x1, .ref q3, .null, .null]))] H := hP
  have hD : va_D A [(q1, .inr (3, [.ref q2, .int x1, .ref q3, .null, .null]))] := hD
  refine lv_aload_n hx hb dX3_init_19 rfl (lv_at hl 0 rfl) ?_
  refine lv_aload hx hb dX3_init_20 (lv_at hl 4 rfl) ?_
  refine va_putF (D := D) (v := .ref q4) (C := RX3) (T := TX3) (N := 5) hx hb hts iX3 tyX3 tyX3_ok nmX3 hown hK.1 hP hD hS 0 rfl rfl 3 (by decide) (hts _ t_587) (fun _ h9 => h9) rfl (hnm rfl) rfl (tyX3_ok 3 (by decide)) rfl rfl (Nat.le_of_ble_eq_true rfl) dX3_init_22 (fun H locs hP hD hS => ?_)
  have hP : va_P D classes [(q1, .inr (3, [.ref q2, .int x1, .ref q3, .ref q4, .null]))] H := hP
  have hD : va_D A [(q1, .inr (3, [.ref q2, .int x1, .ref q3, .ref q4, .null]))] := hD
  refine lv_aload_n hx hb dX3_init_25 rfl (lv_at hl 0 rfl) ?_
  refine lv_aload hx hb dX3_init_26 (lv_at hl 5 rfl) ?_
  refine va_putF (D := D) (v := .ref q5) (C := RX3) (T := TX3) (N := 5) hx hb hts iX3 tyX3 tyX3_ok nmX3 hown hK.1 hP hD hS 0 rfl rfl 4 (by decide) (hts _ t_589) (fun _ h9 => h9) rfl (hnm rfl) rfl (tyX3_ok 4 (by decide)) rfl rfl (Nat.le_of_ble_eq_true rfl) dX3_init_28 (fun H locs hP hD hS => ?_)
  have hP : va_P D classes [(q1, .inr (3, [.ref q2, .int x1, .ref q3, .ref q4, .ref q5]))] H := hP
  have hD : va_D A [(q1, .inr (3, [.ref q2, .int x1, .ref q3, .ref q4, .ref q5]))] := hD
  exact retMv C rfl (0, [], [], [], [], []) rfl hP hD hS (Nat.le_of_ble_eq_true rfl) (Nat.le_of_ble_eq_true rfl) dX3_init_31
theorem t_sameclone : Cond.sameMethod "[I" "java/lang/Object" "clone" "()Ljava/lang/Object;" ∈ TBg := tb_of (List.mem_of_getElem? (i := 565) (by decide +kernel)) (by decide +kernel)
theorem t_selclone : Cond.selects "[I" ⟨"[I", "clone", "()Ljava/lang/Object;"⟩ ⟨"java/lang/Object", "clone", "()Ljava/lang/Object;"⟩ ∈ TBg := tb_of (List.mem_of_getElem? (i := 568) (by decide +kernel)) (by decide +kernel)
theorem cell_cpy {cA : ClassId} {f : Nat → Int32} {n : Nat} : vp_cell cA (n, .inl (va_cpy f (fun _ => 0) 0 0 n)) = vp_cell cA (n, .inl f) := by
  refine cell_congr (fun k hk => ?_)
  exact (pk_cpy_in (Nat.zero_le k) (by omega)).trans (by rw [Nat.sub_zero, Nat.zero_add])
theorem min_x {x : Int32} (h1 : x.toNatClampNeg ≤ 400) (h0 : ¬ x < 0) (hne : ¬ x = 400) : mnI 400 x = x := by
  have e : x < 400 := by
    obtain ⟨j, hj, rfl⟩ := nI_of h0
    rw [nI_clamp hj] at h1
    rcases Nat.lt_or_ge j 400 with q | q
    · exact nI_lt q (by decide)
    · have : j = 400 := Nat.le_antisymm h1 q
      subst this; exact absurd rfl hne
  exact if_pos e
set_option maxHeartbeats 4000000 in
set_option maxRecDepth 100000 in
theorem mJ7_copyOf (l : Launch) (D : va_G) (a : Nat → ClassId) {q : Nat} {f : Nat → Int32} {x : Int32} (hx0 : ¬ x < 0) (hx1 : x.toNatClampNeg ≤ 400) (sz : Nat) : CMq (S := Nat) l MJ7_copyOf_59c91 1 60 1 400 D a [.ref q, .int x] (ra0 a q 400 f) sz (fun r u => r = some u) (fun u => ra0 a q 400 f ++ ra0 a u x.toNatClampNeg f) := by
  refine entM (Qf := fun A => va_Qq (fun r u => r = some u) (Bw D A (fun u => ra0 a q 400 f ++ ra0 a u x.toNatClampNeg f)) A) (by decide) (Nat.le_of_ble_eq_true rfl) ?_
  intro p e s m below meth c C hK A hA hP hD ls hl
  obtain ⟨hx, hb, hml, hown, hts, hr, hlocks, hnm⟩ := id C
  have hb : c.code = cJ7_copyOf_59c91 := hb
  have hown : s.vm.findClass RJ7 = some m.cls := hown
  have hS : va_S A s.heap s.heap [] := va_S.rf
  have hl : lv_has ls 3 [(0, .ref q), (1, .int x)] := hl
  refine lv_iload_n hx hb dJ7_copyOf_59c91_0 rfl (lv_at hl 1 rfl) ?_
  refine lv_aload_n hx hb dJ7_copyOf_59c91_1 rfl (lv_at hl 0 rfl) ?_
  refine va_alen (v := 400) hx hb hK.1 hP 0 0 rfl rfl rfl dJ7_copyOf_59c91_2 ?_
  refine lv_icmp_ne (tgt := 14) hx hb dJ7_copyOf_59c91_3 (by decide) (fun c9 => ?_) (fun c9 => ?_)
  · refine lv_iload_n hx hb dJ7_copyOf_59c91_14 rfl (lv_at hl 1 rfl) ?_
    refine newA (atype := .int) (a0 := (x.toNatClampNeg, .inl (fun _ => 0))) hx hb hK 0 rfl ra_int (hts _ t_119) rfl hP hD hS hA (fun _ => rfl) hx0 rfl (by show x.toNatClampNeg * 4 ≤ _; omega) (Nat.le_of_ble_eq_true rfl) (by show 0 + x.toNatClampNeg ≤ 400; omega) dJ7_copyOf_59c91_15 (fun q2 H hP hD hS => ?_)
    have hP : va_P D classes (ra0 a q 400 f ++ ra0 a q2 x.toNatClampNeg (fun _ => 0)) H := hP
    have hD : va_D A (ra0 a q 400 f ++ ra0 a q2 x.toNatClampNeg (fun _ => 0)) := hD
    refine lv_astore_n (lv' := [(2, .ref q2), (0, .ref q), (1, .int x)]) hx hb dJ7_copyOf_59c91_17 rfl hl (by decide) rfl (fun ls hl => ?_)
    refine lv_aload_n hx hb dJ7_copyOf_59c91_18 rfl (lv_at hl 1 rfl) ?_
    refine lv_iconst (v := 0) hx hb dJ7_copyOf_59c91_19 (by decide) ?_
    refine lv_aload_n hx hb dJ7_copyOf_59c91_20 rfl (lv_at hl 0 rfl) ?_
    refine lv_iconst (v := 0) hx hb dJ7_copyOf_59c91_21 (by decide) ?_
    refine lv_aload_n hx hb dJ7_copyOf_59c91_22 rfl (lv_at hl 1 rfl) ?_
    refine va_alen (v := 400) hx hb hK.1 hP 0 0 rfl rfl rfl dJ7_copyOf_59c91_23 ?_
    refine lv_iload_n hx hb dJ7_copyOf_59c91_24 rfl (lv_at hl 2 rfl) ?_
    refine va_mmin hx hb (by rw [hml]; exact hl.1.symm) hown (hts _ t_571) (hts _ t_556) (hts _ t_14) (hts _ t_557) (Nat.le_of_ble_eq_true rfl) (Nat.le_of_ble_eq_true rfl) (Nat.le_of_ble_eq_true rfl) (by show 0 + x.toNatClampNeg ≤ 400; omega) dJ7_copyOf_59c91_25 ?_
    refine lv_topi (fun x2 ex2 => ?_)
    obtain rfl : x2 = x := ex2.trans (min_x hx1 hx0 c9)
    refine va_copyi hx hb (by rw [hml]; exact hl.1.symm) hown (hts _ t_572) (hts _ t_574) (hts _ t_573) (hts _ t_17) hK.1 hP hD hS 0 1 0 0 rfl rfl rfl rfl rfl (by decide) (by decide) hx0 (by show 0 + _ ≤ 400; omega) (by show 0 + _ ≤ _; omega) (fun _ _ => rfl) (Nat.le_of_ble_eq_true rfl) (Nat.le_of_ble_eq_true rfl) dJ7_copyOf_59c91_28 (fun H locs hP hD hS => ?_)
    have hP : va_P D classes (ra0 a q 400 f ++ ra0 a q2 x2.toNatClampNeg (va_cpy f (fun _ => 0) 0 0 x2.toNatClampNeg)) H := hP
    have hD : va_D A (ra0 a q 400 f ++ ra0 a q2 x2.toNatClampNeg (va_cpy f (fun _ => 0) 0 0 x2.toNatClampNeg)) := hD
    refine lv_aload_n hx hb dJ7_copyOf_59c91_31 rfl (lv_at hl 0 rfl) ?_
    have hP2 : va_P D classes (ra0 a q 400 f ++ ra0 a q2 x2.toNatClampNeg f) H := by
      intro k z hz
      match k, hz with
      | 0, hz => exact hP 0 z hz
      | 1, hz => cases hz; have := hP 1 _ rfl; exact this.trans (congrArg some cell_cpy)
    have hD2 : va_D A (ra0 a q 400 f ++ ra0 a q2 x2.toNatClampNeg f) := ⟨fun i j p1 p2 h1 h2 e => by
      match i, j, h1, h2 with
      | 0, 0, _, _ => rfl
      | 1, 1, _, _ => rfl
      | 0, 1, h1, h2 => cases h1; cases h2; exact hD.1 0 1 _ _ rfl rfl e
      | 1, 0, h1, h2 => cases h1; cases h2; exact hD.1 1 0 _ _ rfl rfl e, fun k z hz => by
      match k, hz with
      | 0, hz => exact hD.2 0 z hz
      | 1, hz => cases hz; exact hD.2 1 (q2, .inl (a 0, x2.toNatClampNeg, .inl (va_cpy f (fun _ => 0) 0 0 x2.toNatClampNeg))) rfl⟩
    exact retMq (v := some q2) C rfl (Or.inr ⟨_, rfl⟩) q2 rfl hP2 hD2 hS (Nat.le_of_ble_eq_true rfl) (by show 0 + x2.toNatClampNeg ≤ 400; omega) dJ7_copyOf_59c91_32
  · refine lv_aload_n hx hb dJ7_copyOf_59c91_6 rfl (lv_at hl 0 rfl) ?_
    refine va_clone hx hb (by rw [hml]; exact hl.1.symm) hown (hts _ t_564) (hts _ t_sameclone) (hts _ t_566) (hts _ t_567) (hts _ t_selclone) hK.2.2.2.2 hK.1 hP hD hS hA 0 0 rfl rfl (hK.1.2 0 _ rfl).2 (fun i v h => fit_int h) (Nat.le_of_ble_eq_true rfl) (Nat.le_of_ble_eq_true rfl) (Nat.le_of_ble_eq_true rfl) (Nat.le_of_ble_eq_true rfl) dJ7_copyOf_59c91_7 (fun q2 H _ hP hD hS => ?_)
    have hP : va_P D classes (ra0 a q 400 f ++ ra0 a q2 400 f) H := hP
    have hD : va_D A (ra0 a q 400 f ++ ra0 a q2 400 f) := hD
    refine va_castA hx hb hown (hts _ t_570) hP 1 rfl (hK.1.2 0 _ rfl).2 dJ7_copyOf_59c91_10 ?_
    subst c9
    exact retMq (v := some q2) C rfl (Or.inr ⟨_, rfl⟩) q2 rfl hP hD hS (Nat.le_of_ble_eq_true rfl) (Nat.le_of_ble_eq_true rfl) dJ7_copyOf_59c91_13
set_option maxHeartbeats 4000000 in
set_option maxRecDepth 100000 in
theorem mX4_makeRule (l : Launch) (D : va_G) (a : Nat → ClassId) {q_t : Nat} {Q_t : Nat → Nat} {z_t : Sx} (sz : Nat) : CMq (S := Nat × (Nat → Nat)) l MX4_makeRule 3 100 5 441 D a [.ref q_t] (rc4 a q_t Q_t z_t) sz (fun r u => r = some u.1) (fun u => rc4 a q_t Q_t z_t ++ rc3 a u.1 u.2 (ruleN z_t) (ruleZ z_t)) := by
  refine entM (Qf := fun A => va_Qq (fun r (u : Nat × (Nat → Nat)) => r = some u.1) (Bw D A (fun u => rc4 a q_t Q_t z_t ++ rc3 a u.1 u.2 (ruleN z_t) (ruleZ z_t))) A) (by decide) (Nat.le_of_ble_eq_true rfl) ?_
  intro p e s m below meth c C hK A hA hP hD ls hl
  obtain ⟨hx, hb, hml, hown, hts, hr, hlocks, hnm⟩ := id C
  have hb : c.code = cX4_makeRule := hb
  have hown : s.vm.findClass RX4 = some m.cls := hown
  have hS : va_S A s.heap s.heap [] := va_S.rf
  have hl : lv_has ls 2 [(0, .ref q_t)] := hl
  refine lv_iconst (v := 0) hx hb dX4_makeRule_0 (by decide) ?_
  refine lv_aload_n hx hb dX4_makeRule_1 rfl (lv_at hl 0 rfl) ?_
  refine va_get (D := D) (v := .int (gI z_t 2)) (C := RX4) (T := TX4) (N := 8) hx hb hts iX4 hown hK.1 hP 0 rfl rfl 2 (by decide) (hts _ t_245) (fun _ h9 => h9) rfl dX4_makeRule_2 ?_
  refine lv_sipush (v := 400) hx hb dX4_makeRule_5 (by decide) ?_
  refine va_mmin hx hb (by rw [hml]; exact hl.1.symm) hown (hts _ t_555) (hts _ t_556) (hts _ t_14) (hts _ t_557) (Nat.le_of_ble_eq_true rfl) (Nat.le_of_ble_eq_true rfl) (Nat.le_of_ble_eq_true rfl) (Nat.le_of_ble_eq_true rfl) dX4_makeRule_8 ?_
  refine va_mmax hx hb (by rw [hml]; exact hl.1.symm) hown (hts _ t_558) (hts _ t_497) (hts _ t_14) (hts _ t_498) (Nat.le_of_ble_eq_true rfl) (Nat.le_of_ble_eq_true rfl) (Nat.le_of_ble_eq_true rfl) (Nat.le_of_ble_eq_true rfl) dX4_makeRule_11 ?_
  refine lv_topi (fun x1 ex1 => ?_)
  have hx1 : ¬ x1 < 0 ∧ x1.toNatClampNeg ≤ 400 := by rw [ex1]; exact rule_sz (gI z_t 2)
  have hn1 : x1.toNatClampNeg = ruleN z_t := by rw [ex1]; rfl
  refine lv_istore_n (lv' := [(1, .int x1), (0, .ref q_t)]) hx hb dX4_makeRule_14 rfl hl (by decide) rfl (fun ls hl => ?_)
  refine va_new (ci := 3) (fs := [.null, .int 0, .null, .null, .null]) (C := RX3) (T := TX3) (N := 5) hx hb hts iX3 tyX3 tyX3_ok hown (hts _ t_559) (hts _ t_560) (hts _ t_16) hK.1 hP hD hS hA rfl (dfX3) (Nat.le_of_ble_eq_true rfl) (Nat.le_of_ble_eq_true rfl) dX4_makeRule_15 (fun qN H hP hD hS => ?_)
  have hP : va_P D classes (rc4 a q_t Q_t z_t ++ [(qN, .inr (3, [.null, .int 0, .null, .null, .null]))]) H := hP
  have hD : va_D A (rc4 a q_t Q_t z_t ++ [(qN, .inr (3, [.null, .int 0, .null, .null, .null]))]) := hD
  refine W.cs (cells' := 1) (slots' := 5) rfl rfl ?_
  refine lv_dup hx hb dX4_makeRule_18 rfl ?_
  refine lv_aload_n hx hb dX4_makeRule_19 rfl (lv_at hl 1 rfl) ?_
  refine va_get (D := D) (v := .ref (Q_t 1)) (C := RX4) (T := TX4) (N := 8) hx hb hts iX4 hown hK.1 hP 0 rfl rfl 1 (by decide) (hts _ t_244) (fun _ h9 => h9) rfl dX4_makeRule_20 ?_
  refine lv_iload_n hx hb dX4_makeRule_23 rfl (lv_at hl 0 rfl) ?_
  refine cNq (runS (As := [.ref (Q_t 1), .int x1]) (rest := [.ref qN, .ref qN]) C (mJ7_copyOf l D a hx1.1 hx1.2 H.size) lk_S_4_52 okN_J7_copyOf_59c91 ⟨Nat.le_of_ble_eq_true rfl, Nat.le_of_ble_eq_true rfl⟩ ⟨rfl, rfl⟩ (preM hK (P_of_map (wc := ra0 a (Q_t 1) 400 (gT z_t 1)) hP [1] rfl) (hD.sub (ws' := ra0 a (Q_t 1) 400 (gT z_t 1)) [1] (by decide) rfl)) hl.1 rfl (Nat.le_of_ble_eq_true rfl) dX4_makeRule_24 ⟨Nat.le_of_ble_eq_true rfl, Nat.le_of_ble_eq_true rfl⟩) hP hD hS hA [1] [0, 2, 3, 4, 5] [0, 5, 1, 2, 3, 4, 6] rfl rfl (by decide) (by decide) (fw := fun qc => rc4 a q_t Q_t z_t ++ ([(qN, .inr (3, [.null, .int 0, .null, .null, .null]))] ++ ra0 a qc x1.toNatClampNeg (gT z_t 1))) (fun _ => rfl) (by decide) (fun qc H locs hP hD hS => ?_)
  have hP : va_P D classes (rc4 a q_t Q_t z_t ++ ([(qN, .inr (3, [.null, .int 0, .null, .null, .null]))] ++ ra0 a qc x1.toNatClampNeg (gT z_t 1))) H := hP
  have hD : va_D A (rc4 a q_t Q_t z_t ++ ([(qN, .inr (3, [.null, .int 0, .null, .null, .null]))] ++ ra0 a qc x1.toNatClampNeg (gT z_t 1))) := hD
  refine W.cs (cells' := 2) (slots' := 405) rfl rfl ?_
  refine lv_aload_n hx hb dX4_makeRule_27 rfl (lv_at hl 1 rfl) ?_
  refine va_get (D := D) (v := .int (gI z_t 4)) (C := RX4) (T := TX4) (N := 8) hx hb hts iX4 hown hK.1 hP 0 rfl rfl 4 (by decide) (hts _ t_247) (fun _ h9 => h9) rfl dX4_makeRule_28 ?_
  refine lv_aload_n hx hb dX4_makeRule_31 rfl (lv_at hl 1 rfl) ?_
  refine va_get (D := D) (v := .ref (Q_t 5)) (C := RX4) (T := TX4) (N := 8) hx hb hts iX4 hown hK.1 hP 0 rfl rfl 5 (by decide) (hts _ t_248) (fun _ h9 => h9) rfl dX4_makeRule_32 ?_
  refine va_clone hx hb (by rw [hml]; exact hl.1.symm) hown (hts _ t_575) (hts _ t_sameclone) (hts _ t_566) (hts _ t_567) (hts _ t_selclone) hK.2.2.2.2 hK.1 hP hD hS hA 2 0 rfl rfl (hK.1.2 0 _ rfl).2 (fun i v h => fit_int h) (Nat.le_of_ble_eq_true rfl) (Nat.le_of_ble_eq_true rfl) (Nat.le_of_ble_eq_true rfl) (Nat.le_of_ble_eq_true rfl) dX4_makeRule_35 (fun qb H _ hP hD hS => ?_)
  have hP : va_P D classes (rc4 a q_t Q_t z_t ++ ([(qN, .inr (3, [.null, .int 0, .null, .null, .null]))] ++ (ra0 a qc x1.toNatClampNeg (gT z_t 1) ++ ra0 a qb 12 (gT z_t 5)))) H := hP
  have hD : va_D A (rc4 a q_t Q_t z_t ++ ([(qN, .inr (3, [.null, .int 0, .null, .null, .null]))] ++ (ra0 a qc x1.toNatClampNeg (gT z_t 1) ++ ra0 a qb 12 (gT z_t 5)))) := hD
  refine W.cs (cells' := 3) (slots' := 417) rfl rfl ?_
  refine va_castA hx hb hown (hts _ t_576) hP 7 rfl (hK.1.2 0 _ rfl).2 dX4_makeRule_38 ?_
  refine lv_aload_n hx hb dX4_makeRule_41 rfl (lv_at hl 1 rfl) ?_
  refine va_get (D := D) (v := .ref (Q_t 6)) (C := RX4) (T := TX4) (N := 8) hx hb hts iX4 hown hK.1 hP 0 rfl rfl 6 (by decide) (hts _ t_249) (fun _ h9 => h9) rfl dX4_makeRule_42 ?_
  refine va_clone hx hb (by rw [hml]; exact hl.1.symm) hown (hts _ t_575) (hts _ t_sameclone) (hts _ t_566) (hts _ t_567) (hts _ t_selclone) hK.2.2.2.2 hK.1 hP hD hS hA 3 0 rfl rfl (hK.1.2 0 _ rfl).2 (fun i v h => fit_int h) (Nat.le_of_ble_eq_true rfl) (Nat.le_of_ble_eq_true rfl) (Nat.le_of_ble_eq_true rfl) (Nat.le_of_ble_eq_true rfl) dX4_makeRule_45 (fun qm H _ hP hD hS => ?_)
  have hP : va_P D classes (rc4 a q_t Q_t z_t ++ ([(qN, .inr (3, [.null, .int 0, .null, .null, .null]))] ++ (ra0 a qc x1.toNatClampNeg (gT z_t 1) ++ ra0 a qb 12 (gT z_t 5) ++ ra0 a qm 12 (gT z_t 6)))) H := hP
  have hD : va_D A (rc4 a q_t Q_t z_t ++ ([(qN, .inr (3, [.null, .int 0, .null, .null, .null]))] ++ (ra0 a qc x1.toNatClampNeg (gT z_t 1) ++ ra0 a qb 12 (gT z_t 5) ++ ra0 a qm 12 (gT z_t 6)))) := hD
  refine W.cs (cells' := 4) (slots' := 429) rfl rfl ?_
  refine va_castA hx hb hown (hts _ t_576) hP 8 rfl (hK.1.2 0 _ rfl).2 dX4_makeRule_48 ?_
  refine lv_aload_n hx hb dX4_makeRule_51 rfl (lv_at hl 1 rfl) ?_
  refine va_get (D := D) (v := .ref (Q_t 7)) (C := RX4) (T := TX4) (N := 8) hx hb hts iX4 hown hK.1 hP 0 rfl rfl 7 (by decide) (hts _ t_250) (fun _ h9 => h9) rfl dX4_makeRule_52 ?_
  refine va_clone hx hb (by rw [hml]; exact hl.1.symm) hown (hts _ t_575) (hts _ t_sameclone) (hts _ t_566) (hts _ t_567) (hts _ t_selclone) hK.2.2.2.2 hK.1 hP hD hS hA 4 0 rfl rfl (hK.1.2 0 _ rfl).2 (fun i v h => fit_int h) (Nat.le_of_ble_eq_true rfl) (Nat.le_of_ble_eq_true rfl) (Nat.le_of_ble_eq_true rfl) (Nat.le_of_ble_eq_true rfl) dX4_makeRule_55 (fun qf H _ hP hD hS => ?_)
  have hP : va_P D classes (rc4 a q_t Q_t z_t ++ ([(qN, .inr (3, [.null, .int 0, .null, .null, .null]))] ++ (ra0 a qc x1.toNatClampNeg (gT z_t 1) ++ ra0 a qb 12 (gT z_t 5) ++ ra0 a qm 12 (gT z_t 6) ++ ra0 a qf 12 (gT z_t 7)))) H := hP
  have hD : va_D A (rc4 a q_t Q_t z_t ++ ([(qN, .inr (3, [.null, .int 0, .null, .null, .null]))] ++ (ra0 a qc x1.toNatClampNeg (gT z_t 1) ++ ra0 a qb 12 (gT z_t 5) ++ ra0 a qm 12 (gT z_t 6) ++ ra0 a qf 12 (gT z_t 7)))) := hD
  refine W.cs (cells' := 5) (slots' := 441) rfl rfl ?_
  refine va_castA hx hb hown (hts _ t_576) hP 9 rfl (hK.1.2 0 _ rfl).2 dX4_makeRule_58 ?_
  refine afMv (runI (As := [.ref qc, .int (gI z_t 4), .ref qb, .ref qm, .ref qf]) (rest := [.ref qN]) C (c_X3_init_0 l D a qN qc qb qm qf (gI z_t 4) H.size) lk_I_4_63 okN_X3_init ⟨Nat.le_of_ble_eq_true rfl, Nat.le_of_ble_eq_true rfl⟩ ⟨rfl, rfl⟩ (preM hK (P_of_map (wc := [(qN, .inr (3, [.null, .int 0, .null, .null, .null]))]) hP [5] rfl) (hD.sub (ws' := [(qN, .inr (3, [.null, .int 0, .null, .null, .null]))]) [5] (by decide) rfl)) hl.1 rfl (Nat.le_of_ble_eq_true rfl) dX4_makeRule_61 ⟨Nat.le_of_ble_eq_true rfl, Nat.le_of_ble_eq_true rfl⟩) hP hD hS hA [5] [0, 1, 2, 3, 4, 6, 7, 8, 9] (wr := rc4 a q_t Q_t z_t ++ (ra0 a qc x1.toNatClampNeg (gT z_t 1) ++ (ra0 a qb 12 (gT z_t 5) ++ (ra0 a qm 12 (gT z_t 6) ++ ra0 a qf 12 (gT z_t 7))))) rfl rfl (by decide) (by decide) (fun u H locs hw hP hD hS => ?_)
  obtain rfl := hw
  refine W.cs (cells' := 5) (slots' := 441) rfl rfl ?_
  have hP : va_P D classes (rc4 a q_t Q_t z_t ++ rc3 a qN (fun k => [qc, 0, qb, qm, qf].getD k 0) (ruleN z_t) (ruleZ z_t)) H := by rw [← hn1]; exact P_of_map hP [0, 1, 2, 3, 4, 9, 5, 6, 7, 8] rfl
  have hD : va_D A (rc4 a q_t Q_t z_t ++ rc3 a qN (fun k => [qc, 0, qb, qm, qf].getD k 0) (ruleN z_t) (ruleZ z_t)) := by rw [← hn1]; exact hD.sub [0, 1, 2, 3, 4, 9, 5, 6, 7, 8] (by decide) rfl
  exact retMq (v := some qN) C rfl (Or.inl ⟨_, rfl⟩) (qN, fun k => [qc, 0, qb, qm, qf].getD k 0) rfl hP hD hS (Nat.le_of_ble_eq_true rfl) (Nat.le_of_ble_eq_true rfl) dX4_makeRule_64

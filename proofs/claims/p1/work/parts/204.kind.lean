set_option maxHeartbeats 4000000 in
set_option maxRecDepth 100000 in
theorem c_X8_kind_0 (l : Launch) (D : va_G) (a : Nat → ClassId) (q101 q383 q384 q385 q386 q387 q388 q389 q390 q391 q392 q393 q394 q395 q396 q397 q398 q399 q400 q401 q402 q403 q404 q405 q406 : Nat) (x1 x2 : Int32) : CRi l MX8_kind 0 0 D a [.ref q101, .int x1, .int x2] [(q101, .inr (8, [.ref q383, .int 0, .ref q384, .int 0, .int 0, .ref q385, .ref q386, .ref q387, .ref q388, .ref q389, .ref q390])), (q391, .inr (7, [.int 0, .int 0, .int 0, .int 0, .int 0, .ref q392, .ref q393, .ref q394, .ref q395, .ref q396, .ref q397, .ref q398, .ref q399, .ref q400, .ref q401, .ref q402, .ref q403, .int 0])), (q385, .inr (5, [.ref q391, .ref q404, .int 0, .int 0, .int 0, .ref q405, .int 0, .ref q406]))] (fun r => (x1.toInt < 0 ∧ r = (-1)) ∨ (x1.toInt ≥ 0 ∧ x1.toInt ≥ 0 ∧ r = (-1))) := by
  refine entR (by decide) (Nat.le_of_ble_eq_true rfl) ?_
  intro p e s m below meth c C hK hP ls hl
  obtain ⟨hx, hb, hml, hown, hts, hr, hlocks, hnm⟩ := id C
  have hb : c.code = cX8_kind := hb
  have hown : s.vm.findClass RX8 = some m.cls := hown
  have hl : lv_has ls 4 [(0, .ref q101), (1, .int x1), (2, .int x2)] := hl
  refine lv_aload_n hx hb dX8_kind_0 rfl (lv_at hl 0 rfl) ?_
  refine va_get (D := D) (v := .ref q385) (C := RX8) (T := TX8) (N := 11) hx hb hts iX8 hown hK.1 hP 0 rfl rfl 5 (by decide) (hts _ t_305) (fun _ h9 => h9) rfl dX8_kind_1 ?_
  refine va_get (D := D) (v := .ref q391) (C := RX5) (T := TX5) (N := 8) hx hb hts iX5 hown hK.1 hP 2 rfl rfl 0 (by decide) (hts _ t_161) (fun _ h9 => h9) rfl dX8_kind_4 ?_
  refine lv_astore_n (lv' := [(3, .ref q391), (0, .ref q101), (1, .int x1), (2, .int x2)]) hx hb dX8_kind_7 rfl hl (by decide) rfl (fun ls hl => ?_)
  refine lv_iload_n hx hb dX8_kind_8 rfl (lv_at hl 2 rfl) ?_
  refine lv_if_lt (tgt := 20) hx hb dX8_kind_9 (by decide) (fun c498 => ?_) (fun c498 => ?_)
  · have h499 : x1.toInt < 0 := bI_lt rfl (by decide) c498
    refine lv_iconst (v := (-1)) hx hb dX8_kind_20 (by decide) ?_
    exact retRi C rfl (Or.inl ⟨h499, rfl⟩) dX8_kind_21
  · have h500 : x1.toInt ≥ 0 := bI_nlt rfl (by decide) c498
    refine lv_iload_n hx hb dX8_kind_12 rfl (lv_at hl 2 rfl) ?_
    refine lv_aload_n hx hb dX8_kind_13 rfl (lv_at hl 0 rfl) ?_
    refine va_get (D := D) (v := .int 0) (C := RX7) (T := TX7) (N := 18) hx hb hts iX7 hown hK.1 hP 1 rfl rfl 2 (by decide) (hts _ t_43) (fun _ h9 => h9) rfl dX8_kind_14 ?_
    refine lv_icmp_lt (tgt := 22) hx hb dX8_kind_17 (by decide) (fun c501 => ?_) (fun c501 => ?_)
    · have h502 : x1.toInt < 0 := bI_lt rfl (by decide) c501
      exfalso; omega
    · have h503 : x1.toInt ≥ 0 := bI_nlt rfl (by decide) c501
      refine lv_iconst (v := (-1)) hx hb dX8_kind_20 (by decide) ?_
      exact retRi C rfl (Or.inr (⟨h500, h503, rfl⟩)) dX8_kind_21

set_option maxHeartbeats 4000000 in
set_option maxRecDepth 100000 in
theorem c_X9_in_0 (l : Launch) (D : va_G) (a : Nat → ClassId) (x1 : Int32) : CRi l MX9_in 0 0 D a [.long x1.toInt64, .long 0, .long (-1)] [] (fun r => (x1.toInt < 0 ∧ r = 0) ∨ (x1.toInt ≥ 0 ∧ x1.toInt > (-1) ∧ r = 0)) := by
  refine entR (by decide) (Nat.le_of_ble_eq_true rfl) ?_
  intro p e s m below meth c C hK hP ls hl
  obtain ⟨hx, hb, hml, hown, hts, hr, hlocks, hnm⟩ := id C
  have hb : c.code = cX9_in := hb
  have hown : s.vm.findClass RX9 = some m.cls := hown
  have hl : lv_has ls 6 [(0, .long x1.toInt64), (2, .long 0), (4, .long (-1))] := hl
  refine lv_lload_n hx hb dX9_in_0 rfl (lv_at hl 0 rfl) ?_
  refine lv_lload_n hx hb dX9_in_1 rfl (lv_at hl 1 rfl) ?_
  refine W.lcmp hx hb dX9_in_2 ?_
  refine lv_if_lt (tgt := 17) hx hb dX9_in_3 (by decide) (fun c519 => ?_) (fun c519 => ?_)
  · have h520 : x1.toInt < 0 := cI_lt (Int32.toInt_toInt64 x1) (by decide) c519
    refine lv_iconst (v := 0) hx hb dX9_in_17 (by decide) ?_
    exact retRz C rfl (by decide) (Or.inl ⟨h520, rfl⟩) dX9_in_18
  · have h521 : x1.toInt ≥ 0 := cI_nlt (Int32.toInt_toInt64 x1) (by decide) c519
    refine lv_lload_n hx hb dX9_in_6 rfl (lv_at hl 0 rfl) ?_
    refine lv_lload hx hb dX9_in_7 (lv_at hl 2 rfl) ?_
    refine W.lcmp hx hb dX9_in_9 ?_
    refine lv_if_gt (tgt := 17) hx hb dX9_in_10 (by decide) (fun c522 => ?_) (fun c522 => ?_)
    · have h523 : x1.toInt > (-1) := cI_gt (Int32.toInt_toInt64 x1) (by decide) c522
      refine lv_iconst (v := 0) hx hb dX9_in_17 (by decide) ?_
      exact retRz C rfl (by decide) (Or.inr (⟨h521, h523, rfl⟩)) dX9_in_18
    · have h524 : x1.toInt ≤ (-1) := cI_ngt (Int32.toInt_toInt64 x1) (by decide) c522
      exfalso; omega

set_option maxHeartbeats 4000000 in
set_option maxRecDepth 100000 in
theorem c_X9_kind_0 (l : Launch) (D : va_G) (a : Nat → ClassId) (q420 q468 q469 q470 q471 q472 q473 q474 q475 q476 q477 q478 q479 q480 q481 q482 q483 q484 q485 q486 q487 q488 q489 : Nat) (x1 x2 : Int32) : CRi l MX9_kind 1 25 D a [.ref q420, .int x1, .int x2] [(q420, .inr (9, [.ref q468, .int 0, .int 0, .ref q469, .ref q470, .ref q471, .ref q472, .int 0, .int 0, .int 0, .ref q473, .ref q474, .int 0, .int 0, .int 0, .int 0, .int 0, .int 0, .int 0, .ref q475, .int 0, .ref q476, .int 0, .ref q477, .ref q478, .ref q479, .ref q480, .ref q481, .ref q482, .ref q483, .ref q484, .ref q485, .ref q486, .ref q487, .ref q488, .ref q489])), (q478, .inl (a 0, 104, .inl (fun _ => 0)))] (fun r => (x1.toInt < 0 ∧ r = (-1)) ∨ (x1.toInt ≥ 0 ∧ x1.toInt > (-1) ∧ r = (-1))) := by
  refine entR (by decide) (Nat.le_of_ble_eq_true rfl) ?_
  intro p e s m below meth c C hK hP ls hl
  obtain ⟨hx, hb, hml, hown, hts, hr, hlocks, hnm⟩ := id C
  have hb : c.code = cX9_kind := hb
  have hown : s.vm.findClass RX9 = some m.cls := hown
  have hl : lv_has ls 3 [(0, .ref q420), (1, .int x1), (2, .int x2)] := hl
  refine lv_iload_n hx hb dX9_kind_0 rfl (lv_at hl 1 rfl) ?_
  refine lv_i2l (v := x1.toInt64) hx hb dX9_kind_1 rfl ?_
  refine lv_lconst (v := 0) hx hb dX9_kind_2 (by decide) ?_
  refine lv_aload_n hx hb dX9_kind_3 rfl (lv_at hl 0 rfl) ?_
  refine va_get (D := D) (v := .ref q478) (C := RX9) (T := TX9) (N := 36) hx hb hts iX9 hown hK.1 hP 0 rfl rfl 24 (by decide) (hts _ t_906) (fun _ h9 => h9) rfl dX9_kind_4 ?_
  refine lv_iconst (v := 1) hx hb dX9_kind_7 (by decide) ?_
  refine ald_i hx hb hK.1 hP 1 0 rfl rfl 1 (ix_lit (by decide)) dX9_kind_8 ?_
  refine lv_iconst (v := 1) hx hb dX9_kind_9 (by decide) ?_
  refine lv_isub hx hb dX9_kind_10 ?_
  refine lv_topi (fun x531 ex531 => ?_)
  obtain rfl : x531 = (-1) := ex531.trans (by decide)
  refine lv_i2l (v := (-1)) hx hb dX9_kind_11 (by decide) ?_
  refine aftRi (runS (As := [.long x1.toInt64, .long 0, .long (-1)]) (rest := []) C (c_X9_in_0 l D a x1) lk_S_9_118 (okN_X9_in) ⟨Nat.le_of_ble_eq_true rfl, Nat.le_of_ble_eq_true rfl⟩ ⟨rfl, rfl⟩ (preR hK (P_of_map (wc := []) hP [] rfl)) hl.1 rfl (Nat.le_of_ble_eq_true rfl) dX9_kind_12 ⟨Nat.le_of_ble_eq_true rfl, Nat.le_of_ble_eq_true rfl⟩) (fun x538 hw => ?_)
  rcases hw with ⟨h541, rfl⟩ | ⟨h542, h543, rfl⟩
  · refine lv_if_eq (tgt := 46) hx hb dX9_kind_15 (by decide) (fun c9 => ?_) (fun c9 => absurd (by decide) c9)
    refine lv_iconst (v := (-1)) hx hb dX9_kind_46 (by decide) ?_
    exact retRi C rfl (Or.inl ⟨h541, rfl⟩) dX9_kind_47
  · refine lv_if_eq (tgt := 46) hx hb dX9_kind_15 (by decide) (fun c9 => ?_) (fun c9 => absurd (by decide) c9)
    refine lv_iconst (v := (-1)) hx hb dX9_kind_46 (by decide) ?_
    exact retRi C rfl (Or.inr (⟨h542, h543, rfl⟩)) dX9_kind_47

set_option maxHeartbeats 4000000 in
set_option maxRecDepth 100000 in
theorem c_X8_isFault_0 (l : Launch) (D : va_G) (a : Nat → ClassId) (q101 q383 q384 q385 q386 q387 q388 q389 q390 q391 q392 q393 q394 q395 q396 q397 q398 q399 q400 q401 q402 q403 q404 q405 q406 : Nat) (x1 : Int32) : CRi l MX8_isFault 0 0 D a [.ref q101, .int x1] [(q101, .inr (8, [.ref q383, .int 0, .ref q384, .int 0, .int 0, .ref q385, .ref q386, .ref q387, .ref q388, .ref q389, .ref q390])), (q391, .inr (7, [.int 0, .int 0, .int 0, .int 0, .int 0, .ref q392, .ref q393, .ref q394, .ref q395, .ref q396, .ref q397, .ref q398, .ref q399, .ref q400, .ref q401, .ref q402, .ref q403, .int 0])), (q385, .inr (5, [.ref q391, .ref q404, .int 0, .int 0, .int 0, .ref q405, .int 0, .ref q406]))] (fun r => (x1.toInt < 0 ∧ r = 0) ∨ (x1.toInt ≥ 0 ∧ x1.toInt ≥ 0 ∧ r = 0)) := by
  refine entR (by decide) (Nat.le_of_ble_eq_true rfl) ?_
  intro p e s m below meth c C hK hP ls hl
  obtain ⟨hx, hb, hml, hown, hts, hr, hlocks, hnm⟩ := id C
  have hb : c.code = cX8_isFault := hb
  have hown : s.vm.findClass RX8 = some m.cls := hown
  have hl : lv_has ls 2 [(0, .ref q101), (1, .int x1)] := hl
  refine lv_iload_n hx hb dX8_isFault_0 rfl (lv_at hl 1 rfl) ?_
  refine lv_if_lt (tgt := 22) hx hb dX8_isFault_1 (by decide) (fun c566 => ?_) (fun c566 => ?_)
  · have h567 : x1.toInt < 0 := bI_lt rfl (by decide) c566
    refine lv_iconst (v := 0) hx hb dX8_isFault_22 (by decide) ?_
    exact retRz C rfl (by decide) (Or.inl ⟨h567, rfl⟩) dX8_isFault_23
  · have h568 : x1.toInt ≥ 0 := bI_nlt rfl (by decide) c566
    refine lv_iload_n hx hb dX8_isFault_4 rfl (lv_at hl 1 rfl) ?_
    refine lv_aload_n hx hb dX8_isFault_5 rfl (lv_at hl 0 rfl) ?_
    refine va_get (D := D) (v := .ref q385) (C := RX8) (T := TX8) (N := 11) hx hb hts iX8 hown hK.1 hP 0 rfl rfl 5 (by decide) (hts _ t_305) (fun _ h9 => h9) rfl dX8_isFault_6 ?_
    refine va_get (D := D) (v := .ref q391) (C := RX5) (T := TX5) (N := 8) hx hb hts iX5 hown hK.1 hP 2 rfl rfl 0 (by decide) (hts _ t_161) (fun _ h9 => h9) rfl dX8_isFault_9 ?_
    refine va_get (D := D) (v := .int 0) (C := RX7) (T := TX7) (N := 18) hx hb hts iX7 hown hK.1 hP 1 rfl rfl 3 (by decide) (hts _ t_47) (fun _ h9 => h9) rfl dX8_isFault_12 ?_
    refine lv_icmp_ge (tgt := 22) hx hb dX8_isFault_15 (by decide) (fun c569 => ?_) (fun c569 => ?_)
    · have h570 : x1.toInt ≥ 0 := bI_ge rfl (by decide) c569
      refine lv_iconst (v := 0) hx hb dX8_isFault_22 (by decide) ?_
      exact retRz C rfl (by decide) (Or.inr (⟨h568, h570, rfl⟩)) dX8_isFault_23
    · have h571 : x1.toInt < 0 := bI_nge rfl (by decide) c569
      exfalso; omega

set_option maxHeartbeats 4000000 in
set_option maxRecDepth 100000 in
theorem c_X8_fault_0 (l : Launch) (D : va_G) (a : Nat → ClassId) (q101 q383 q384 q385 q386 q387 q388 q389 q390 q391 q392 q393 q394 q395 q396 q397 q398 q399 q400 q401 q402 q403 q404 q405 q406 : Nat) (x1 x2 : Int32) : CRi l MX8_fault 1 21 D a [.ref q101, .int x1, .int x2] [(q101, .inr (8, [.ref q383, .int 0, .ref q384, .int 0, .int 0, .ref q385, .ref q386, .ref q387, .ref q388, .ref q389, .ref q390])), (q391, .inr (7, [.int 0, .int 0, .int 0, .int 0, .int 0, .ref q392, .ref q393, .ref q394, .ref q395, .ref q396, .ref q397, .ref q398, .ref q399, .ref q400, .ref q401, .ref q402, .ref q403, .int 0])), (q385, .inr (5, [.ref q391, .ref q404, .int 0, .int 0, .int 0, .ref q405, .int 0, .ref q406]))] (fun r => (x1.toInt < 0 ∧ r = (-2)) ∨ (x1.toInt ≥ 0 ∧ x1.toInt ≥ 0 ∧ r = (-2))) := by
  refine entR (by decide) (Nat.le_of_ble_eq_true rfl) ?_
  intro p e s m below meth c C hK hP ls hl
  obtain ⟨hx, hb, hml, hown, hts, hr, hlocks, hnm⟩ := id C
  have hb : c.code = cX8_fault := hb
  have hown : s.vm.findClass RX8 = some m.cls := hown
  have hl : lv_has ls 5 [(0, .ref q101), (1, .int x1), (2, .int x2)] := hl
  refine lv_aload_n hx hb dX8_fault_0 rfl (lv_at hl 0 rfl) ?_
  refine lv_iload_n hx hb dX8_fault_1 rfl (lv_at hl 1 rfl) ?_
  refine aftRi (runV (As := [.int x1]) (rest := []) C (c_X8_isFault_0 l D a q101 q383 q384 q385 q386 q387 q388 q389 q390 q391 q392 q393 q394 q395 q396 q397 q398 q399 q400 q401 q402 q403 q404 q405 q406 x1) lk_V_8_139 (okN_X8_isFault) ⟨Nat.le_of_ble_eq_true rfl, Nat.le_of_ble_eq_true rfl⟩ ⟨rfl, rfl⟩ (preV (preR hK (P_of_map (wc := [(q101, .inr (8, [.ref q383, .int 0, .ref q384, .int 0, .int 0, .ref q385, .ref q386, .ref q387, .ref q388, .ref q389, .ref q390])), (q391, .inr (7, [.int 0, .int 0, .int 0, .int 0, .int 0, .ref q392, .ref q393, .ref q394, .ref q395, .ref q396, .ref q397, .ref q398, .ref q399, .ref q400, .ref q401, .ref q402, .ref q403, .int 0])), (q385, .inr (5, [.ref q391, .ref q404, .int 0, .int 0, .int 0, .ref q405, .int 0, .ref q406]))]) hP [0, 1, 2] rfl)) (recvOf hK hP 0 rfl (ci := 8) rfl)) hl.1 rfl (Nat.le_of_ble_eq_true rfl) dX8_fault_2 ⟨Nat.le_of_ble_eq_true rfl, Nat.le_of_ble_eq_true rfl⟩) (fun x584 hw => ?_)
  rcases hw with ⟨h587, rfl⟩ | ⟨h588, h589, rfl⟩
  · refine lv_if_ne (tgt := 11) hx hb dX8_fault_5 (by decide) (fun c9 => absurd c9 (by decide)) (fun c9 => ?_)
    refine lv_bipush (v := (-2)) hx hb dX8_fault_8 (by decide) ?_
    exact retRi C rfl (Or.inl ⟨h587, rfl⟩) dX8_fault_10
  · refine lv_if_ne (tgt := 11) hx hb dX8_fault_5 (by decide) (fun c9 => absurd c9 (by decide)) (fun c9 => ?_)
    refine lv_bipush (v := (-2)) hx hb dX8_fault_8 (by decide) ?_
    exact retRi C rfl (Or.inr (⟨h588, h589, rfl⟩)) dX8_fault_10

set_option maxHeartbeats 4000000 in
set_option maxRecDepth 100000 in
theorem c_X9_isFault_0 (l : Launch) (D : va_G) (a : Nat → ClassId) (q420 q468 q469 q470 q471 q472 q473 q474 q475 q476 q477 q478 q479 q480 q481 q482 q483 q484 q485 q486 q487 q488 q489 : Nat) (x1 : Int32) : CRi l MX9_isFault 0 0 D a [.ref q420, .int x1] [(q420, .inr (9, [.ref q468, .int 0, .int 0, .ref q469, .ref q470, .ref q471, .ref q472, .int 0, .int 0, .int 0, .ref q473, .ref q474, .int 0, .int 0, .int 0, .int 0, .int 0, .int 0, .int 0, .ref q475, .int 0, .ref q476, .int 0, .ref q477, .ref q478, .ref q479, .ref q480, .ref q481, .ref q482, .ref q483, .ref q484, .ref q485, .ref q486, .ref q487, .ref q488, .ref q489])), (q478, .inl (a 0, 104, .inl (fun _ => 0)))] (fun r => (x1.toInt < 0 ∧ r = 0) ∨ (x1.toInt ≥ 0 ∧ x1.toInt ≥ 0 ∧ r = 0)) := by
  refine entR (by decide) (Nat.le_of_ble_eq_true rfl) ?_
  intro p e s m below meth c C hK hP ls hl
  obtain ⟨hx, hb, hml, hown, hts, hr, hlocks, hnm⟩ := id C
  have hb : c.code = cX9_isFault := hb
  have hown : s.vm.findClass RX9 = some m.cls := hown
  have hl : lv_has ls 2 [(0, .ref q420), (1, .int x1)] := hl
  refine lv_iload_n hx hb dX9_isFault_0 rfl (lv_at hl 1 rfl) ?_
  refine lv_if_lt (tgt := 18) hx hb dX9_isFault_1 (by decide) (fun c604 => ?_) (fun c604 => ?_)
  · have h605 : x1.toInt < 0 := bI_lt rfl (by decide) c604
    refine lv_iconst (v := 0) hx hb dX9_isFault_18 (by decide) ?_
    exact retRz C rfl (by decide) (Or.inl ⟨h605, rfl⟩) dX9_isFault_19
  · have h606 : x1.toInt ≥ 0 := bI_nlt rfl (by decide) c604
    refine lv_iload_n hx hb dX9_isFault_4 rfl (lv_at hl 1 rfl) ?_
    refine lv_aload_n hx hb dX9_isFault_5 rfl (lv_at hl 0 rfl) ?_
    refine va_get (D := D) (v := .ref q478) (C := RX9) (T := TX9) (N := 36) hx hb hts iX9 hown hK.1 hP 0 rfl rfl 24 (by decide) (hts _ t_906) (fun _ h9 => h9) rfl dX9_isFault_6 ?_
    refine lv_iconst (v := 0) hx hb dX9_isFault_9 (by decide) ?_
    refine ald_i hx hb hK.1 hP 1 0 rfl rfl 0 (ix_lit (by decide)) dX9_isFault_10 ?_
    refine lv_icmp_ge (tgt := 18) hx hb dX9_isFault_11 (by decide) (fun c607 => ?_) (fun c607 => ?_)
    · have h608 : x1.toInt ≥ 0 := bI_ge rfl (by decide) c607
      refine lv_iconst (v := 0) hx hb dX9_isFault_18 (by decide) ?_
      exact retRz C rfl (by decide) (Or.inr (⟨h606, h608, rfl⟩)) dX9_isFault_19
    · have h609 : x1.toInt < 0 := bI_nge rfl (by decide) c607
      exfalso; omega

set_option maxHeartbeats 4000000 in
set_option maxRecDepth 100000 in
theorem c_X9_fault_0 (l : Launch) (D : va_G) (a : Nat → ClassId) (q420 q468 q469 q470 q471 q472 q473 q474 q475 q476 q477 q478 q479 q480 q481 q482 q483 q484 q485 q486 q487 q488 q489 : Nat) (x1 x2 : Int32) : CRi l MX9_fault 1 21 D a [.ref q420, .int x1, .int x2] [(q420, .inr (9, [.ref q468, .int 0, .int 0, .ref q469, .ref q470, .ref q471, .ref q472, .int 0, .int 0, .int 0, .ref q473, .ref q474, .int 0, .int 0, .int 0, .int 0, .int 0, .int 0, .int 0, .ref q475, .int 0, .ref q476, .int 0, .ref q477, .ref q478, .ref q479, .ref q480, .ref q481, .ref q482, .ref q483, .ref q484, .ref q485, .ref q486, .ref q487, .ref q488, .ref q489])), (q478, .inl (a 0, 104, .inl (fun _ => 0)))] (fun r => (x1.toInt < 0 ∧ r = (-2)) ∨ (x1.toInt ≥ 0 ∧ x1.toInt ≥ 0 ∧ r = (-2))) := by
  refine entR (by decide) (Nat.le_of_ble_eq_true rfl) ?_
  intro p e s m below meth c C hK hP ls hl
  obtain ⟨hx, hb, hml, hown, hts, hr, hlocks, hnm⟩ := id C
  have hb : c.code = cX9_fault := hb
  have hown : s.vm.findClass RX9 = some m.cls := hown
  have hl : lv_has ls 3 [(0, .ref q420), (1, .int x1), (2, .int x2)] := hl
  refine lv_aload_n hx hb dX9_fault_0 rfl (lv_at hl 0 rfl) ?_
  refine lv_iload_n hx hb dX9_fault_1 rfl (lv_at hl 1 rfl) ?_
  refine aftRi (runV (As := [.int x1]) (rest := []) C (c_X9_isFault_0 l D a q420 q468 q469 q470 q471 q472 q473 q474 q475 q476 q477 q478 q479 q480 q481 q482 q483 q484 q485 q486 q487 q488 q489 x1) lk_V_9_280 (okN_X9_isFault) ⟨Nat.le_of_ble_eq_true rfl, Nat.le_of_ble_eq_true rfl⟩ ⟨rfl, rfl⟩ (preV (preR hK (P_of_map (wc := [(q420, .inr (9, [.ref q468, .int 0, .int 0, .ref q469, .ref q470, .ref q471, .ref q472, .int 0, .int 0, .int 0, .ref q473, .ref q474, .int 0, .int 0, .int 0, .int 0, .int 0, .int 0, .int 0, .ref q475, .int 0, .ref q476, .int 0, .ref q477, .ref q478, .ref q479, .ref q480, .ref q481, .ref q482, .ref q483, .ref q484, .ref q485, .ref q486, .ref q487, .ref q488, .ref q489])), (q478, .inl (a 0, 104, .inl (fun _ => 0)))]) hP [0, 1] rfl)) (recvOf hK hP 0 rfl (ci := 9) rfl)) hl.1 rfl (Nat.le_of_ble_eq_true rfl) dX9_fault_2 ⟨Nat.le_of_ble_eq_true rfl, Nat.le_of_ble_eq_true rfl⟩) (fun x622 hw => ?_)
  rcases hw with ⟨h625, rfl⟩ | ⟨h626, h627, rfl⟩
  · refine lv_if_eq (tgt := 20) hx hb dX9_fault_5 (by decide) (fun c9 => ?_) (fun c9 => absurd (by decide) c9)
    refine lv_bipush (v := (-2)) hx hb dX9_fault_20 (by decide) ?_
    exact retRi C rfl (Or.inl ⟨h625, rfl⟩) dX9_fault_22
  · refine lv_if_eq (tgt := 20) hx hb dX9_fault_5 (by decide) (fun c9 => ?_) (fun c9 => absurd (by decide) c9)
    refine lv_bipush (v := (-2)) hx hb dX9_fault_20 (by decide) ?_
    exact retRi C rfl (Or.inr (⟨h626, h627, rfl⟩)) dX9_fault_22

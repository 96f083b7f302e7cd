set_option maxHeartbeats 4000000 in
set_option maxRecDepth 100000 in
theorem c_X8_look_0 (l : Launch) (D : va_G) (a : Nat → ClassId) (q101 q383 q384 q385 q386 q387 q388 q389 q390 q391 q392 q393 q394 q395 q396 q397 q398 q399 q400 q401 q402 q403 q404 q405 q406 : Nat) (x1 : Int32) : CRi l MX8_look 1 21 D a [.ref q101, .int x1] [(q101, .inr (8, [.ref q383, .int 0, .ref q384, .int 0, .int 0, .ref q385, .ref q386, .ref q387, .ref q388, .ref q389, .ref q390])), (q391, .inr (7, [.int 0, .int 0, .int 0, .int 0, .int 0, .ref q392, .ref q393, .ref q394, .ref q395, .ref q396, .ref q397, .ref q398, .ref q399, .ref q400, .ref q401, .ref q402, .ref q403, .int 0])), (q385, .inr (5, [.ref q391, .ref q404, .int 0, .int 0, .int 0, .ref q405, .int 0, .ref q406]))] (fun r => (x1.toInt < 0 ∧ r = (-1)) ∨ (x1.toInt ≥ 0 ∧ x1.toInt ≥ 0 ∧ r = (-1))) := by
  refine entR (by decide) (Nat.le_of_ble_eq_true rfl) ?_
  intro p e s m below meth c C hK hP ls hl
  obtain ⟨hx, hb, hml, hown, hts, hr, hlocks, hnm⟩ := id C
  have hb : c.code = cX8_look := hb
  have hown : s.vm.findClass RX8 = some m.cls := hown
  have hl : lv_has ls 2 [(0, .ref q101), (1, .int x1)] := hl
  refine lv_aload_n hx hb dX8_look_0 rfl (lv_at hl 0 rfl) ?_
  refine lv_iload_n hx hb dX8_look_1 rfl (lv_at hl 1 rfl) ?_
  refine aftRi (runV (As := [.int x1]) (rest := []) C (c_X8_isFault_0 l D a q101 q383 q384 q385 q386 q387 q388 q389 q390 q391 q392 q393 q394 q395 q396 q397 q398 q399 q400 q401 q402 q403 q404 q405 q406 x1) lk_V_8_139 (okN_X8_isFault) ⟨Nat.le_of_ble_eq_true rfl, Nat.le_of_ble_eq_true rfl⟩ ⟨rfl, rfl⟩ (preV (preR hK (P_of_map (wc := [(q101, .inr (8, [.ref q383, .int 0, .ref q384, .int 0, .int 0, .ref q385, .ref q386, .ref q387, .ref q388, .ref q389, .ref q390])), (q391, .inr (7, [.int 0, .int 0, .int 0, .int 0, .int 0, .ref q392, .ref q393, .ref q394, .ref q395, .ref q396, .ref q397, .ref q398, .ref q399, .ref q400, .ref q401, .ref q402, .ref q403, .int 0])), (q385, .inr (5, [.ref q391, .ref q404, .int 0, .int 0, .int 0, .ref q405, .int 0, .ref q406]))]) hP [0, 1, 2] rfl)) (recvOf hK hP 0 rfl (ci := 8) rfl)) hl.1 rfl (Nat.le_of_ble_eq_true rfl) dX8_look_2 ⟨Nat.le_of_ble_eq_true rfl, Nat.le_of_ble_eq_true rfl⟩) (fun x649 hw => ?_)
  rcases hw with ⟨h652, rfl⟩ | ⟨h653, h654, rfl⟩
  · refine lv_if_ne (tgt := 10) hx hb dX8_look_5 (by decide) (fun c9 => absurd c9 (by decide)) (fun c9 => ?_)
    refine lv_iconst (v := (-1)) hx hb dX8_look_8 (by decide) ?_
    exact retRi C rfl (Or.inl ⟨h652, rfl⟩) dX8_look_9
  · refine lv_if_ne (tgt := 10) hx hb dX8_look_5 (by decide) (fun c9 => absurd c9 (by decide)) (fun c9 => ?_)
    refine lv_iconst (v := (-1)) hx hb dX8_look_8 (by decide) ?_
    exact retRi C rfl (Or.inr (⟨h653, h654, rfl⟩)) dX8_look_9

set_option maxHeartbeats 4000000 in
set_option maxRecDepth 100000 in
theorem c_X9_look_0 (l : Launch) (D : va_G) (a : Nat → ClassId) (q420 q468 q469 q470 q471 q472 q473 q474 q475 q476 q477 q478 q479 q480 q481 q482 q483 q484 q485 q486 q487 q488 q489 : Nat) (x1 : Int32) : CRi l MX9_look 1 21 D a [.ref q420, .int x1] [(q420, .inr (9, [.ref q468, .int 0, .int 0, .ref q469, .ref q470, .ref q471, .ref q472, .int 0, .int 0, .int 0, .ref q473, .ref q474, .int 0, .int 0, .int 0, .int 0, .int 0, .int 0, .int 0, .ref q475, .int 0, .ref q476, .int 0, .ref q477, .ref q478, .ref q479, .ref q480, .ref q481, .ref q482, .ref q483, .ref q484, .ref q485, .ref q486, .ref q487, .ref q488, .ref q489])), (q478, .inl (a 0, 104, .inl (fun _ => 0)))] (fun r => (x1.toInt < 0 ∧ r = (-1)) ∨ (x1.toInt ≥ 0 ∧ x1.toInt ≥ 0 ∧ r = (-1))) := by
  refine entR (by decide) (Nat.le_of_ble_eq_true rfl) ?_
  intro p e s m below meth c C hK hP ls hl
  obtain ⟨hx, hb, hml, hown, hts, hr, hlocks, hnm⟩ := id C
  have hb : c.code = cX9_look := hb
  have hown : s.vm.findClass RX9 = some m.cls := hown
  have hl : lv_has ls 2 [(0, .ref q420), (1, .int x1)] := hl
  refine lv_aload_n hx hb dX9_look_0 rfl (lv_at hl 0 rfl) ?_
  refine lv_iload_n hx hb dX9_look_1 rfl (lv_at hl 1 rfl) ?_
  refine aftRi (runV (As := [.int x1]) (rest := []) C (c_X9_isFault_0 l D a q420 q468 q469 q470 q471 q472 q473 q474 q475 q476 q477 q478 q479 q480 q481 q482 q483 q484 q485 q486 q487 q488 q489 x1) lk_V_9_280 (okN_X9_isFault) ⟨Nat.le_of_ble_eq_true rfl, Nat.le_of_ble_eq_true rfl⟩ ⟨rfl, rfl⟩ (preV (preR hK (P_of_map (wc := [(q420, .inr (9, [.ref q468, .int 0, .int 0, .ref q469, .ref q470, .ref q471, .ref q472, .int 0, .int 0, .int 0, .ref q473, .ref q474, .int 0, .int 0, .int 0, .int 0, .int 0, .int 0, .int 0, .ref q475, .int 0, .ref q476, .int 0, .ref q477, .ref q478, .ref q479, .ref q480, .ref q481, .ref q482, .ref q483, .ref q484, .ref q485, .ref q486, .ref q487, .ref q488, .ref q489])), (q478, .inl (a 0, 104, .inl (fun _ => 0)))]) hP [0, 1] rfl)) (recvOf hK hP 0 rfl (ci := 9) rfl)) hl.1 rfl (Nat.le_of_ble_eq_true rfl) dX9_look_2 ⟨Nat.le_of_ble_eq_true rfl, Nat.le_of_ble_eq_true rfl⟩) (fun x668 hw => ?_)
  rcases hw with ⟨h671, rfl⟩ | ⟨h672, h673, rfl⟩
  · refine lv_if_ne (tgt := 10) hx hb dX9_look_5 (by decide) (fun c9 => absurd c9 (by decide)) (fun c9 => ?_)
    refine lv_iconst (v := (-1)) hx hb dX9_look_8 (by decide) ?_
    exact retRi C rfl (Or.inl ⟨h671, rfl⟩) dX9_look_9
  · refine lv_if_ne (tgt := 10) hx hb dX9_look_5 (by decide) (fun c9 => absurd c9 (by decide)) (fun c9 => ?_)
    refine lv_iconst (v := (-1)) hx hb dX9_look_8 (by decide) ?_
    exact retRi C rfl (Or.inr (⟨h672, h673, rfl⟩)) dX9_look_9

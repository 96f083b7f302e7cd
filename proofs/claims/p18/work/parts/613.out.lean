/-! An image's number that is none: IMAGE and BACK refuse. -/
set_option maxHeartbeats 4000000 in
set_option maxRecDepth 100000 in
theorem mX8_back_out (l : Launch) (D : va_G) (a : Nat → ClassId) {q_t : Nat} {Q_t : Nat → Nat} {z_t : Sx} {B_t_6 : Nat → Option Nat} {x1 : Int32} (h : ¬ (0 ≤ x1.toInt ∧ x1.toInt < 4)) : CRi l MX8_back 0 0 D a [.ref q_t, .int x1] (rc8 a q_t Q_t z_t ++ (rb5 a (Q_t 6) 4 B_t_6)) (fun r => r = (-1)) := by
  have e0 : (0 : Int32).toInt = 0 := by decide
  have e4 : (4 : Int32).toInt = 4 := by decide
  refine entR (by decide) (Nat.le_of_ble_eq_true rfl) ?_
  intro p e s m below meth c C hK hP ls hl
  obtain ⟨hx, hb, hml, hown, hts, hr, hlocks, hnm⟩ := id C
  have hb : c.code = cX8_back := hb
  have hown : s.vm.findClass RX8 = some m.cls := hown
  have hl : lv_has ls 3 [(0, .ref q_t), (1, .int x1)] := hl
  refine lv_iload_n hx hb dX8_back_0 rfl (lv_at hl 1 rfl) ?_
  refine lv_if_lt (tgt := 13) hx hb dX8_back_1 (by decide) (fun c1 => ?_) (fun c1 => ?_)
  · refine lv_iconst (v := (-1)) hx hb dX8_back_13 (by decide) ?_
    exact rRi C rfl rfl dX8_back_14
  · refine lv_iload_n hx hb dX8_back_4 rfl (lv_at hl 1 rfl) ?_
    refine lv_aload_n hx hb dX8_back_5 rfl (lv_at hl 0 rfl) ?_
    refine va_get (D := D) (v := .ref (Q_t 6)) (C := RX8) (T := TX8) (N := 11) hx hb hts iX8 hown hK.1 hP 0 rfl rfl 6 (by decide) (hts _ t_306) (fun _ h9 => h9) rfl dX8_back_6 ?_
    refine va_alen (v := 4) hx hb hK.1 hP 2 5 rfl rfl rfl dX8_back_9 ?_
    refine lv_icmp_lt (tgt := 15) hx hb dX8_back_10 (by decide) (fun c2 => ?_) (fun c2 => ?_)
    · have c1i := bI_nlt rfl e0 c1
      have c2i := bI_lt rfl e4 c2
      exact absurd ⟨by omega, by omega⟩ h
    · refine lv_iconst (v := (-1)) hx hb dX8_back_13 (by decide) ?_
      exact rRi C rfl rfl dX8_back_14

/-! An image's number that is none: IMAGE and BACK refuse. -/
set_option maxHeartbeats 4000000 in
set_option maxRecDepth 100000 in
theorem mX8_image_out (l : Launch) (D : va_G) (a : Nat → ClassId) {q_t : Nat} {Q_t : Nat → Nat} {z_t : Sx} {B_t_6 : Nat → Option Nat} {x1 : Int32} (h : ¬ (0 ≤ x1.toInt ∧ x1.toInt < 4)) : CRi l MX8_image 0 0 D a [.ref q_t, .int x1] (rc8 a q_t Q_t z_t ++ (rb5 a (Q_t 6) 4 B_t_6)) (fun r => r = (-1)) := by
  have e0 : (0 : Int32).toInt = 0 := by decide
  have e4 : (4 : Int32).toInt = 4 := by decide
  refine entR (by decide) (Nat.le_of_ble_eq_true rfl) ?_
  intro p e s m below meth c C hK hP ls hl
  obtain ⟨hx, hb, hml, hown, hts, hr, hlocks, hnm⟩ := id C
  have hb : c.code = cX8_image := hb
  have hown : s.vm.findClass RX8 = some m.cls := hown
  have hl : lv_has ls 3 [(0, .ref q_t), (1, .int x1)] := hl
  refine lv_iload_n hx hb dX8_image_0 rfl (lv_at hl 1 rfl) ?_
  refine lv_if_lt (tgt := 13) hx hb dX8_image_1 (by decide) (fun c1 => ?_) (fun c1 => ?_)
  · refine lv_iconst (v := (-1)) hx hb dX8_image_13 (by decide) ?_
    exact rRi C rfl rfl dX8_image_14
  · refine lv_iload_n hx hb dX8_image_4 rfl (lv_at hl 1 rfl) ?_
    refine lv_aload_n hx hb dX8_image_5 rfl (lv_at hl 0 rfl) ?_
    refine va_get (D := D) (v := .ref (Q_t 6)) (C := RX8) (T := TX8) (N := 11) hx hb hts iX8 hown hK.1 hP 0 rfl rfl 6 (by decide) (hts _ t_306) (fun _ h9 => h9) rfl dX8_image_6 ?_
    refine va_alen (v := 4) hx hb hK.1 hP 2 5 rfl rfl rfl dX8_image_9 ?_
    refine lv_icmp_lt (tgt := 15) hx hb dX8_image_10 (by decide) (fun c2 => ?_) (fun c2 => ?_)
    · have c1i := bI_nlt rfl e0 c1
      have c2i := bI_lt rfl e4 c2
      exact absurd ⟨by omega, by omega⟩ h
    · refine lv_iconst (v := (-1)) hx hb dX8_image_13 (by decide) ?_
      exact rRi C rfl rfl dX8_image_14


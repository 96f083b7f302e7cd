set_option maxHeartbeats 4000000 in
set_option maxRecDepth 100000 in
theorem mX8_image_some (l : Launch) (D : va_G) (a : Nat → ClassId) {q_R : Nat} {q_t : Nat} {Q_t : Nat → Nat} {z_t : Sx} {Q_t_5 : Nat → Nat} {z_t_5 : Sx} {Q_t_5_1 : Nat → Nat} {z_t_5_1 : Sx} {B_t_6 : Nat → Option Nat} {Q_R : Nat → Nat} {z_R : Sx} {Q_R_1 : Nat → Nat} {z_R_1 : Sx} {x1 : Int32} (hm : B_t_6 x1.toNatClampNeg = some q_R) {y : Int32 × Sx × Sx} (h : fX8_image_some z_t z_t_5 z_t_5_1 B_t_6 z_R z_R_1 x1 = some y) (sz : Nat) : CMi (S := Unit) l MX8_image 3 102 0 0 D a [.ref q_t, .int x1] (rc8 a q_t Q_t z_t ++ (rc5 a (Q_t 5) Q_t_5 z_t_5 ++ (rc0 a (Q_t_5 1) Q_t_5_1 z_t_5_1 ++ (rb5 a (Q_t 6) 4 B_t_6 ++ (rc5 a q_R Q_R z_R ++ (rc0 a (Q_R 1) Q_R_1 z_R_1)))))) sz (fun r _ => r = y.1) (fun _ => rc8 a q_t Q_t z_t ++ (rc5 a (Q_t 5) Q_t_5 z_t_5 ++ (rc0 a (Q_t_5 1) Q_t_5_1 z_t_5_1 ++ (rb5 a (Q_t 6) 4 B_t_6 ++ (rc5 a q_R (va_up Q_R 0 (Q_t_5 0)) y.2.1 ++ (rc0 a (Q_R 1) Q_R_1 y.2.2)))))) := by
  unfold fX8_image_some at h
  refine entMi (by decide) (Nat.le_of_ble_eq_true rfl) ?_
  intro p e s m below meth c C hK A hA hP hD ls hl
  obtain ⟨hx, hb, hml, hown, hts, hr, hlocks, hnm⟩ := id C
  have hb : c.code = cX8_image := hb
  have hown : s.vm.findClass RX8 = some m.cls := hown
  have hS : va_S A s.heap s.heap [] := va_S.rf
  have hl : lv_has ls 3 [(0, .ref q_t), (1, .int x1)] := hl
  refine lv_iload_n hx hb dX8_image_0 rfl (lv_at hl 1 rfl) ?_
  refine lv_if_lt (tgt := 13) hx hb dX8_image_1 (by decide) (fun c1 => ?_) (fun c1 => ?_)
  · have h := ite_t c1 h
    cases h
  · have h := ite_f c1 h
    refine lv_iload_n hx hb dX8_image_4 rfl (lv_at hl 1 rfl) ?_
    refine lv_aload_n hx hb dX8_image_5 rfl (lv_at hl 0 rfl) ?_
    refine va_get (D := D) (v := .ref (Q_t 6)) (C := RX8) (T := TX8) (N := 11) hx hb hts iX8 hown hK.1 hP 0 rfl rfl 6 (by decide) (hts _ t_306) (fun _ h9 => h9) rfl dX8_image_6 ?_
    refine va_alen (v := 4) hx hb hK.1 hP 7 5 rfl rfl rfl dX8_image_9 ?_
    refine lv_icmp_lt (tgt := 15) hx hb dX8_image_10 (by decide) (fun c2 => ?_) (fun c2 => ?_)
    · have h := ite_t c2 h
      refine lv_aload_n hx hb dX8_image_15 rfl (lv_at hl 0 rfl) ?_
      refine va_get (D := D) (v := .ref (Q_t 6)) (C := RX8) (T := TX8) (N := 11) hx hb hts iX8 hown hK.1 hP 0 rfl rfl 6 (by decide) (hts _ t_306) (fun _ h9 => h9) rfl dX8_image_16 ?_
      refine lv_iload_n hx hb dX8_image_19 rfl (lv_at hl 1 rfl) ?_
      obtain ⟨g3, h⟩ := gd_some h
      refine ald_q hx hb hK.1 hP 7 5 rfl rfl x1.toNatClampNeg (ix_g g3) dX8_image_20 ?_
      rw [hm]
      refine lv_astore_n (lv' := [(2, .ref q_R), (0, .ref q_t), (1, .int x1)]) hx hb dX8_image_21 rfl hl (by decide) rfl (fun ls hl => ?_)
      refine lv_aload_n hx hb dX8_image_22 rfl (lv_at hl 0 rfl) ?_
      refine lv_ifnonnull (tgt := 48) hx hb dX8_image_23 (by decide) ?_
      refine lv_aload_n hx hb dX8_image_48 rfl (lv_at hl 0 rfl) ?_
      refine lv_aload_n hx hb dX8_image_49 rfl (lv_at hl 1 rfl) ?_
      refine va_get (D := D) (v := .ref (Q_t 5)) (C := RX8) (T := TX8) (N := 11) hx hb hts iX8 hown hK.1 hP 0 rfl rfl 5 (by decide) (hts _ t_305) (fun _ h9 => h9) rfl dX8_image_50 ?_
      obtain ⟨z5, z6, hc4, h⟩ := bd2_some h
      refine cMv (runV (As := [.ref (Q_t 5)]) (rest := []) C (mX5_copyFrom l D a (q_t := q_R) (q_p1 := (Q_t 5)) (Q_t := Q_R) (Q_t_1 := Q_R_1) (Q_p1 := Q_t_5) (Q_p1_1 := Q_t_5_1) hc4 s.heap.size) lk_V_8_300 okN_X5_copyFrom ⟨Nat.le_of_ble_eq_true rfl, Nat.le_of_ble_eq_true rfl⟩ ⟨rfl, rfl⟩ (preV (preM hK (P_of_map (wc := rc5 a q_R Q_R z_R ++ (rc0 a (Q_R 1) Q_R_1 z_R_1 ++ (rc5 a (Q_t 5) Q_t_5 z_t_5 ++ (rc0 a (Q_t_5 1) Q_t_5_1 z_t_5_1)))) hP [8, 9, 10, 11, 12, 2, 3, 4, 5, 6] rfl) (hD.sub (ws' := rc5 a q_R Q_R z_R ++ (rc0 a (Q_R 1) Q_R_1 z_R_1 ++ (rc5 a (Q_t 5) Q_t_5 z_t_5 ++ (rc0 a (Q_t_5 1) Q_t_5_1 z_t_5_1)))) [8, 9, 10, 11, 12, 2, 3, 4, 5, 6] (by decide) rfl)) (recvOf hK hP 8 rfl (ci := 5) rfl)) hl.1 rfl (Nat.le_of_ble_eq_true rfl) dX8_image_53 ⟨Nat.le_of_ble_eq_true rfl, Nat.le_of_ble_eq_true rfl⟩) hP hD hS hA [8, 9, 10, 11, 12, 2, 3, 4, 5, 6] [0, 1, 7] [0, 1, 8, 9, 10, 11, 12, 2, 3, 4, 5, 6, 7] rfl rfl (by decide) (by decide) (fw := rc8 a q_t Q_t z_t ++ (rc5 a (Q_t 5) Q_t_5 z_t_5 ++ (rc0 a (Q_t_5 1) Q_t_5_1 z_t_5_1 ++ (rb5 a (Q_t 6) 4 B_t_6 ++ (rc5 a q_R (va_up Q_R 0 (Q_t_5 0)) z5 ++ (rc0 a (Q_R 1) Q_R_1 z6)))))) rfl (by decide) (fun H locs hP hD hS => ?_)
      have hP : va_P D classes (rc8 a q_t Q_t z_t ++ (rc5 a (Q_t 5) Q_t_5 z_t_5 ++ (rc0 a (Q_t_5 1) Q_t_5_1 z_t_5_1 ++ (rb5 a (Q_t 6) 4 B_t_6 ++ (rc5 a q_R (va_up Q_R 0 (Q_t_5 0)) z5 ++ (rc0 a (Q_R 1) Q_R_1 z6)))))) H := hP
      have hD : va_D A (rc8 a q_t Q_t z_t ++ (rc5 a (Q_t 5) Q_t_5 z_t_5 ++ (rc0 a (Q_t_5 1) Q_t_5_1 z_t_5_1 ++ (rb5 a (Q_t 6) 4 B_t_6 ++ (rc5 a q_R (va_up Q_R 0 (Q_t_5 0)) z5 ++ (rc0 a (Q_R 1) Q_R_1 z6)))))) := hD
      refine lv_aload_n hx hb dX8_image_56 rfl (lv_at hl 1 rfl) ?_
      refine va_get (D := D) (v := .ref (Q_t 5)) (C := RX8) (T := TX8) (N := 11) hx hb hts iX8 hown hK.1 hP 0 rfl rfl 5 (by decide) (hts _ t_305) (fun _ h9 => h9) rfl dX8_image_57 ?_
      refine va_get (D := D) (v := .int (gI z_t_5 4)) (C := RX5) (T := TX5) (N := 8) hx hb hts iX5 hown hK.1 hP 2 rfl rfl 4 (by decide) (hts _ t_169) (fun _ h9 => h9) rfl dX8_image_60 ?_
      obtain rfl := Option.some.inj h
      exact retMi C rfl () rfl hP hD hS (Nat.le_refl 0) (Nat.le_refl 0) dX8_image_63
    · have h := ite_f c2 h
      cases h

set_option maxHeartbeats 4000000 in
set_option maxRecDepth 100000 in
theorem mX8_kind (l : Launch) (D : va_G) (a : Nat → ClassId) {q_t : Nat} {Q_t : Nat → Nat} {z_t : Sx} {Q_t_5 : Nat → Nat} {z_t_5 : Sx} {Q_t_5_0 : Nat → Nat} {z_t_5_0 : Sx} {x1 : Int32} {x2 : Int32} {y : Int32} (h : fX8_kind z_t z_t_5 z_t_5_0 x1 x2 = some y) : CRi l MX8_kind 1 21 D a [.ref q_t, .int x1, .int x2] (rc8 a q_t Q_t z_t ++ (rc5 a (Q_t 5) Q_t_5 z_t_5 ++ (rc7 a (Q_t_5 0) Q_t_5_0 z_t_5_0))) (fun r => r = y) := by
  unfold fX8_kind at h
  refine entR (by decide) (Nat.le_of_ble_eq_true rfl) ?_
  intro p e s m below meth c C hK hP ls hl
  obtain ⟨hx, hb, hml, hown, hts, hr, hlocks, hnm⟩ := id C
  have hb : c.code = cX8_kind := hb
  have hown : s.vm.findClass RX8 = some m.cls := hown
  have hl : lv_has ls 4 [(0, .ref q_t), (1, .int x1), (2, .int x2)] := hl
  refine lv_aload_n hx hb dX8_kind_0 rfl (lv_at hl 0 rfl) ?_
  refine va_get (D := D) (v := .ref (Q_t 5)) (C := RX8) (T := TX8) (N := 11) hx hb hts iX8 hown hK.1 hP 0 rfl rfl 5 (by decide) (hts _ t_305) (fun _ h9 => h9) rfl dX8_kind_1 ?_
  refine va_get (D := D) (v := .ref (Q_t_5 0)) (C := RX5) (T := TX5) (N := 8) hx hb hts iX5 hown hK.1 hP 2 rfl rfl 0 (by decide) (hts _ t_161) (fun _ h9 => h9) rfl dX8_kind_4 ?_
  refine lv_astore_n (lv' := [(3, .ref (Q_t_5 0)), (0, .ref q_t), (1, .int x1), (2, .int x2)]) hx hb dX8_kind_7 rfl hl (by decide) rfl (fun ls hl => ?_)
  refine lv_iload_n hx hb dX8_kind_8 rfl (lv_at hl 2 rfl) ?_
  refine lv_if_lt (tgt := 20) hx hb dX8_kind_9 (by decide) (fun c1 => ?_) (fun c1 => ?_)
  · have h := ite_t c1 h
    refine lv_iconst (v := (-1)) hx hb dX8_kind_20 (by decide) ?_
    exact rRi C rfl (Option.some.inj h) dX8_kind_21
  · have h := ite_f c1 h
    refine lv_iload_n hx hb dX8_kind_12 rfl (lv_at hl 2 rfl) ?_
    refine lv_aload_n hx hb dX8_kind_13 rfl (lv_at hl 0 rfl) ?_
    refine va_get (D := D) (v := .int (gI z_t_5_0 2)) (C := RX7) (T := TX7) (N := 18) hx hb hts iX7 hown hK.1 hP 5 rfl rfl 2 (by decide) (hts _ t_43) (fun _ h9 => h9) rfl dX8_kind_14 ?_
    refine lv_icmp_lt (tgt := 22) hx hb dX8_kind_17 (by decide) (fun c2 => ?_) (fun c2 => ?_)
    · have h := ite_t c2 h
      refine lv_iload_n hx hb dX8_kind_22 rfl (lv_at hl 3 rfl) ?_
      by_cases c3_0 : x2 = 0
      · have h := ite_t c3_0 h
        refine lv_tableIn (off := 25) (tgt := 48) hx hb dX8_kind_23 (by rw [c3_0]; decide) (by rw [c3_0]; decide) (by rw [c3_0]; decide) (by decide) ?_
        refine lv_aload_n hx hb dX8_kind_48 rfl (lv_at hl 0 rfl) ?_
        refine va_get (D := D) (v := .ref (Q_t_5_0 5)) (C := RX7) (T := TX7) (N := 18) hx hb hts iX7 hown hK.1 hP 5 rfl rfl 5 (by decide) (hts _ t_50) (fun _ h9 => h9) rfl dX8_kind_49 ?_
        refine lv_iload_n hx hb dX8_kind_52 rfl (lv_at hl 2 rfl) ?_
        obtain ⟨r5, hc4, h⟩ := bd_some h
        refine cRi (runS (As := [.ref (Q_t_5_0 5), .int x1]) (rest := []) C (mX8_at l D a (q_p0 := (Q_t_5_0 5)) hc4) lk_S_8_129 okN_X8_at ⟨Nat.le_of_ble_eq_true rfl, Nat.le_of_ble_eq_true rfl⟩ ⟨rfl, rfl⟩ (preR hK (P_of_map (wc := ra0 a (Q_t_5_0 5) 6 (gT z_t_5_0 5)) hP [6] rfl)) hl.1 rfl (Nat.le_of_ble_eq_true rfl) dX8_kind_53 ⟨Nat.le_of_ble_eq_true rfl, Nat.le_of_ble_eq_true rfl⟩) ?_
        exact rRi C rfl (Option.some.inj h) dX8_kind_56
      have h := ite_f c3_0 h
      by_cases c3_1 : x2 = 1
      · have h := ite_t c3_1 h
        refine lv_tableIn (off := 34) (tgt := 57) hx hb dX8_kind_23 (by rw [c3_1]; decide) (by rw [c3_1]; decide) (by rw [c3_1]; decide) (by decide) ?_
        refine lv_aload_n hx hb dX8_kind_57 rfl (lv_at hl 0 rfl) ?_
        refine va_get (D := D) (v := .ref (Q_t_5_0 6)) (C := RX7) (T := TX7) (N := 18) hx hb hts iX7 hown hK.1 hP 5 rfl rfl 6 (by decide) (hts _ t_52) (fun _ h9 => h9) rfl dX8_kind_58 ?_
        refine lv_iload_n hx hb dX8_kind_61 rfl (lv_at hl 2 rfl) ?_
        obtain ⟨r7, hc6, h⟩ := bd_some h
        refine cRi (runS (As := [.ref (Q_t_5_0 6), .int x1]) (rest := []) C (mX8_at l D a (q_p0 := (Q_t_5_0 6)) hc6) lk_S_8_129 okN_X8_at ⟨Nat.le_of_ble_eq_true rfl, Nat.le_of_ble_eq_true rfl⟩ ⟨rfl, rfl⟩ (preR hK (P_of_map (wc := ra0 a (Q_t_5_0 6) 6 (gT z_t_5_0 6)) hP [7] rfl)) hl.1 rfl (Nat.le_of_ble_eq_true rfl) dX8_kind_62 ⟨Nat.le_of_ble_eq_true rfl, Nat.le_of_ble_eq_true rfl⟩) ?_
        exact rRi C rfl (Option.some.inj h) dX8_kind_65
      have h := ite_f c3_1 h
      by_cases c3_2 : x2 = 2
      · have h := ite_t c3_2 h
        refine lv_tableIn (off := 43) (tgt := 66) hx hb dX8_kind_23 (by rw [c3_2]; decide) (by rw [c3_2]; decide) (by rw [c3_2]; decide) (by decide) ?_
        refine lv_aload_n hx hb dX8_kind_66 rfl (lv_at hl 0 rfl) ?_
        refine va_get (D := D) (v := .ref (Q_t_5_0 7)) (C := RX7) (T := TX7) (N := 18) hx hb hts iX7 hown hK.1 hP 5 rfl rfl 7 (by decide) (hts _ t_54) (fun _ h9 => h9) rfl dX8_kind_67 ?_
        refine lv_iload_n hx hb dX8_kind_70 rfl (lv_at hl 2 rfl) ?_
        obtain ⟨r9, hc8, h⟩ := bd_some h
        refine cRi (runS (As := [.ref (Q_t_5_0 7), .int x1]) (rest := []) C (mX8_at l D a (q_p0 := (Q_t_5_0 7)) hc8) lk_S_8_129 okN_X8_at ⟨Nat.le_of_ble_eq_true rfl, Nat.le_of_ble_eq_true rfl⟩ ⟨rfl, rfl⟩ (preR hK (P_of_map (wc := ra0 a (Q_t_5_0 7) 6 (gT z_t_5_0 7)) hP [8] rfl)) hl.1 rfl (Nat.le_of_ble_eq_true rfl) dX8_kind_71 ⟨Nat.le_of_ble_eq_true rfl, Nat.le_of_ble_eq_true rfl⟩) ?_
        exact rRi C rfl (Option.some.inj h) dX8_kind_74
      have h := ite_f c3_2 h
      refine lv_tableOut (tgt := 75) hx hb dX8_kind_23 (by have := lv_neT c3_0 (show (0 : Int32).toInt = 0 by decide); have := lv_neT c3_1 (show (1 : Int32).toInt = 1 by decide); have := lv_neT c3_2 (show (2 : Int32).toInt = 2 by decide); omega) (by decide) ?_
      refine lv_iconst (v := (-1)) hx hb dX8_kind_75 (by decide) ?_
      exact rRi C rfl (Option.some.inj h) dX8_kind_76
    · have h := ite_f c2 h
      refine lv_iconst (v := (-1)) hx hb dX8_kind_20 (by decide) ?_
      exact rRi C rfl (Option.some.inj h) dX8_kind_21

set_option maxHeartbeats 4000000 in
set_option maxRecDepth 100000 in
theorem mX8_look (l : Launch) (D : va_G) (a : Nat → ClassId) {q_t : Nat} {Q_t : Nat → Nat} {z_t : Sx} {Q_t_5 : Nat → Nat} {z_t_5 : Sx} {Q_t_5_0 : Nat → Nat} {z_t_5_0 : Sx} {Q_t_5_1 : Nat → Nat} {z_t_5_1 : Sx} {x1 : Int32} {y : Int32 × Sx} (h : fX8_look z_t z_t_5 z_t_5_0 z_t_5_1 x1 = some y) (sz : Nat) : CMi (S := Unit) l MX8_look 2 44 0 0 D a [.ref q_t, .int x1] (rc8 a q_t Q_t z_t ++ (rc5 a (Q_t 5) Q_t_5 z_t_5 ++ (rc7 a (Q_t_5 0) Q_t_5_0 z_t_5_0 ++ (rc0 a (Q_t_5 1) Q_t_5_1 z_t_5_1)))) sz (fun r _ => r = y.1) (fun _ => rc8 a q_t Q_t z_t ++ (rc5 a (Q_t 5) Q_t_5 z_t_5 ++ (rc7 a (Q_t_5 0) Q_t_5_0 z_t_5_0 ++ (rc0 a (Q_t_5 1) Q_t_5_1 y.2)))) := by
  unfold fX8_look at h
  refine entMi (by decide) (Nat.le_of_ble_eq_true rfl) ?_
  intro p e s m below meth c C hK A hA hP hD ls hl
  obtain ⟨hx, hb, hml, hown, hts, hr, hlocks, hnm⟩ := id C
  have hb : c.code = cX8_look := hb
  have hown : s.vm.findClass RX8 = some m.cls := hown
  have hS : va_S A s.heap s.heap [] := va_S.rf
  have hl : lv_has ls 2 [(0, .ref q_t), (1, .int x1)] := hl
  refine lv_aload_n hx hb dX8_look_0 rfl (lv_at hl 0 rfl) ?_
  refine lv_iload_n hx hb dX8_look_1 rfl (lv_at hl 1 rfl) ?_
  obtain ⟨r2, hc1, h⟩ := bd_some h
  refine cRi (runV (As := [.int x1]) (rest := []) C (mX8_isFault l D a (q_t := q_t) (Q_t := Q_t) (Q_t_5 := Q_t_5) (Q_t_5_0 := Q_t_5_0) hc1) lk_V_8_139 okN_X8_isFault ⟨Nat.le_of_ble_eq_true rfl, Nat.le_of_ble_eq_true rfl⟩ ⟨rfl, rfl⟩ (preV (preR hK (P_of_map (wc := rc8 a q_t Q_t z_t ++ (rc5 a (Q_t 5) Q_t_5 z_t_5 ++ (rc7 a (Q_t_5 0) Q_t_5_0 z_t_5_0))) hP [0, 1, 2, 3, 4, 5, 6, 7, 8, 9, 10, 11, 12, 13, 14, 15, 16, 17] rfl)) (recvOf hK hP 0 rfl (ci := 8) rfl)) hl.1 rfl (Nat.le_of_ble_eq_true rfl) dX8_look_2 ⟨Nat.le_of_ble_eq_true rfl, Nat.le_of_ble_eq_true rfl⟩) ?_
  refine lv_if_ne (tgt := 10) hx hb dX8_look_5 (by decide) (fun c3 => ?_) (fun c3 => ?_)
  · have h := ite_f c3 h
    refine lv_aload_n hx hb dX8_look_10 rfl (lv_at hl 0 rfl) ?_
    refine va_get (D := D) (v := .ref (Q_t 5)) (C := RX8) (T := TX8) (N := 11) hx hb hts iX8 hown hK.1 hP 0 rfl rfl 5 (by decide) (hts _ t_305) (fun _ h9 => h9) rfl dX8_look_11 ?_
    refine va_get (D := D) (v := .ref (Q_t_5 0)) (C := RX5) (T := TX5) (N := 8) hx hb hts iX5 hown hK.1 hP 2 rfl rfl 0 (by decide) (hts _ t_161) (fun _ h9 => h9) rfl dX8_look_14 ?_
    refine lv_iload_n hx hb dX8_look_17 rfl (lv_at hl 1 rfl) ?_
    refine lv_aload_n hx hb dX8_look_18 rfl (lv_at hl 0 rfl) ?_
    refine va_get (D := D) (v := .ref (Q_t 5)) (C := RX8) (T := TX8) (N := 11) hx hb hts iX8 hown hK.1 hP 0 rfl rfl 5 (by decide) (hts _ t_305) (fun _ h9 => h9) rfl dX8_look_19 ?_
    refine va_get (D := D) (v := .ref (Q_t_5 1)) (C := RX5) (T := TX5) (N := 8) hx hb hts iX5 hown hK.1 hP 2 rfl rfl 1 (by decide) (hts _ t_163) (fun _ h9 => h9) rfl dX8_look_22 ?_
    obtain ⟨r5, hc4, h⟩ := bd_some h
    refine cRi (runV (As := []) (rest := [.int x1, .ref (Q_t_5 0)]) C (mX0_gone l D a (q_t := (Q_t_5 1)) (Q_t := Q_t_5_1) hc4) lk_V_8_171 okN_X0_gone ⟨Nat.le_of_ble_eq_true rfl, Nat.le_of_ble_eq_true rfl⟩ ⟨rfl, rfl⟩ (preV (preR hK (P_of_map (wc := rc0 a (Q_t_5 1) Q_t_5_1 z_t_5_1) hP [18, 19] rfl)) (recvOf hK hP 18 rfl (ci := 0) rfl)) hl.1 rfl (Nat.le_of_ble_eq_true rfl) dX8_look_25 ⟨Nat.le_of_ble_eq_true rfl, Nat.le_of_ble_eq_true rfl⟩) ?_
    obtain ⟨r7, hc6, h⟩ := bd_some h
    refine cRi (runV (As := [.int x1, .int r5]) (rest := []) C (mX7_isOpen l D a (q_t := (Q_t_5 0)) (Q_t := Q_t_5_0) hc6) lk_V_8_175 okN_X7_isOpen ⟨Nat.le_of_ble_eq_true rfl, Nat.le_of_ble_eq_true rfl⟩ ⟨rfl, rfl⟩ (preV (preR hK (P_of_map (wc := rc7 a (Q_t_5 0) Q_t_5_0 z_t_5_0) hP [5, 6, 7, 8, 9, 10, 11, 12, 13, 14, 15, 16, 17] rfl)) (recvOf hK hP 5 rfl (ci := 7) rfl)) hl.1 rfl (Nat.le_of_ble_eq_true rfl) dX8_look_28 ⟨Nat.le_of_ble_eq_true rfl, Nat.le_of_ble_eq_true rfl⟩) ?_
    refine lv_if_ne (tgt := 37) hx hb dX8_look_31 (by decide) (fun c8 => ?_) (fun c8 => ?_)
    · have h := ite_f c8 h
      refine lv_aload_n hx hb dX8_look_37 rfl (lv_at hl 0 rfl) ?_
      refine va_get (D := D) (v := .ref (Q_t 5)) (C := RX8) (T := TX8) (N := 11) hx hb hts iX8 hown hK.1 hP 0 rfl rfl 5 (by decide) (hts _ t_305) (fun _ h9 => h9) rfl dX8_look_38 ?_
      refine va_get (D := D) (v := .ref (Q_t_5 0)) (C := RX5) (T := TX5) (N := 8) hx hb hts iX5 hown hK.1 hP 2 rfl rfl 0 (by decide) (hts _ t_161) (fun _ h9 => h9) rfl dX8_look_41 ?_
      refine va_get (D := D) (v := .ref (Q_t_5_0 9)) (C := RX7) (T := TX7) (N := 18) hx hb hts iX7 hown hK.1 hP 5 rfl rfl 9 (by decide) (hts _ t_62) (fun _ h9 => h9) rfl dX8_look_44 ?_
      refine lv_iload_n hx hb dX8_look_47 rfl (lv_at hl 1 rfl) ?_
      obtain ⟨r10, hc9, h⟩ := bd_some h
      refine cRi (runS (As := [.ref (Q_t_5_0 9), .int x1]) (rest := []) C (mX8_at l D a (q_p0 := (Q_t_5_0 9)) hc9) lk_S_8_129 okN_X8_at ⟨Nat.le_of_ble_eq_true rfl, Nat.le_of_ble_eq_true rfl⟩ ⟨rfl, rfl⟩ (preR hK (P_of_map (wc := ra0 a (Q_t_5_0 9) 10 (gT z_t_5_0 9)) hP [10] rfl)) hl.1 rfl (Nat.le_of_ble_eq_true rfl) dX8_look_48 ⟨Nat.le_of_ble_eq_true rfl, Nat.le_of_ble_eq_true rfl⟩) ?_
      refine lv_aload_n hx hb dX8_look_51 rfl (lv_at hl 0 rfl) ?_
      refine va_get (D := D) (v := .ref (Q_t 5)) (C := RX8) (T := TX8) (N := 11) hx hb hts iX8 hown hK.1 hP 0 rfl rfl 5 (by decide) (hts _ t_305) (fun _ h9 => h9) rfl dX8_look_52 ?_
      refine va_get (D := D) (v := .ref (Q_t_5 1)) (C := RX5) (T := TX5) (N := 8) hx hb hts iX5 hown hK.1 hP 2 rfl rfl 1 (by decide) (hts _ t_163) (fun _ h9 => h9) rfl dX8_look_55 ?_
      refine va_get (D := D) (v := .int (gI z_t_5_1 0)) (C := RX0) (T := TX0) (N := 6) hx hb hts iX0 hown hK.1 hP 18 rfl rfl 0 (by decide) (hts _ t_132) (fun _ h9 => h9) rfl dX8_look_58 ?_
      refine lv_icmp_le (tgt := 67) hx hb dX8_look_61 (by decide) (fun c11 => ?_) (fun c11 => ?_)
      · have h := ite_t c11 h
        refine lv_aload_n hx hb dX8_look_67 rfl (lv_at hl 0 rfl) ?_
        refine va_get (D := D) (v := .ref (Q_t 5)) (C := RX8) (T := TX8) (N := 11) hx hb hts iX8 hown hK.1 hP 0 rfl rfl 5 (by decide) (hts _ t_305) (fun _ h9 => h9) rfl dX8_look_68 ?_
        refine va_get (D := D) (v := .ref (Q_t_5 1)) (C := RX5) (T := TX5) (N := 8) hx hb hts iX5 hown hK.1 hP 2 rfl rfl 1 (by decide) (hts _ t_163) (fun _ h9 => h9) rfl dX8_look_71 ?_
        refine lv_aload_n hx hb dX8_look_74 rfl (lv_at hl 0 rfl) ?_
        refine va_get (D := D) (v := .ref (Q_t 5)) (C := RX8) (T := TX8) (N := 11) hx hb hts iX8 hown hK.1 hP 0 rfl rfl 5 (by decide) (hts _ t_305) (fun _ h9 => h9) rfl dX8_look_75 ?_
        refine va_get (D := D) (v := .ref (Q_t_5 0)) (C := RX5) (T := TX5) (N := 8) hx hb hts iX5 hown hK.1 hP 2 rfl rfl 0 (by decide) (hts _ t_161) (fun _ h9 => h9) rfl dX8_look_78 ?_
        refine lv_iload_n hx hb dX8_look_81 rfl (lv_at hl 1 rfl) ?_
        obtain ⟨r13, z14, hc12, h⟩ := bd2_some h
        refine cMi (runV (As := [.ref (Q_t_5 0), .int x1]) (rest := []) C (mX0_lookFor l D a (q_t := (Q_t_5 1)) (q_p1 := (Q_t_5 0)) (Q_t := Q_t_5_1) (Q_p1 := Q_t_5_0) hc12 s.heap.size) lk_V_8_209 okN_X0_lookFor ⟨Nat.le_of_ble_eq_true rfl, Nat.le_of_ble_eq_true rfl⟩ ⟨rfl, rfl⟩ (preV (preM hK (P_of_map (wc := rc0 a (Q_t_5 1) Q_t_5_1 z_t_5_1 ++ (rc7 a (Q_t_5 0) Q_t_5_0 z_t_5_0)) hP [18, 19, 5, 6, 7, 8, 9, 10, 11, 12, 13, 14, 15, 16, 17] rfl) (hD.sub (ws' := rc0 a (Q_t_5 1) Q_t_5_1 z_t_5_1 ++ (rc7 a (Q_t_5 0) Q_t_5_0 z_t_5_0)) [18, 19, 5, 6, 7, 8, 9, 10, 11, 12, 13, 14, 15, 16, 17] (by decide) rfl)) (recvOf hK hP 18 rfl (ci := 0) rfl)) hl.1 rfl (Nat.le_of_ble_eq_true rfl) dX8_look_82 ⟨Nat.le_of_ble_eq_true rfl, Nat.le_of_ble_eq_true rfl⟩) hP hD hS hA [18, 19, 5, 6, 7, 8, 9, 10, 11, 12, 13, 14, 15, 16, 17] [0, 1, 2, 3, 4] [0, 1, 2, 3, 4, 7, 8, 9, 10, 11, 12, 13, 14, 15, 16, 17, 18, 19, 5, 6] rfl rfl (by decide) (by decide) (fw := rc8 a q_t Q_t z_t ++ (rc5 a (Q_t 5) Q_t_5 z_t_5 ++ (rc7 a (Q_t_5 0) Q_t_5_0 z_t_5_0 ++ (rc0 a (Q_t_5 1) Q_t_5_1 z14)))) rfl (by decide) (fun H locs hP hD hS => ?_)
        have hP : va_P D classes (rc8 a q_t Q_t z_t ++ (rc5 a (Q_t 5) Q_t_5 z_t_5 ++ (rc7 a (Q_t_5 0) Q_t_5_0 z_t_5_0 ++ (rc0 a (Q_t_5 1) Q_t_5_1 z14)))) H := hP
        have hD : va_D A (rc8 a q_t Q_t z_t ++ (rc5 a (Q_t 5) Q_t_5 z_t_5 ++ (rc7 a (Q_t_5 0) Q_t_5_0 z_t_5_0 ++ (rc0 a (Q_t_5 1) Q_t_5_1 z14)))) := hD
        refine lv_if_eq (tgt := 92) hx hb dX8_look_85 (by decide) (fun c15 => ?_) (fun c15 => ?_)
        · have h := ite_t c15 h
          refine lv_iconst (v := 0) hx hb dX8_look_92 (by decide) ?_
          obtain rfl := Option.some.inj h
          exact retMi C rfl () rfl hP hD hS (Nat.le_refl 0) (Nat.le_refl 0) dX8_look_93
        · have h := ite_f c15 h
          refine lv_iconst (v := 1) hx hb dX8_look_88 (by decide) ?_
          refine lv_goto (tgt := 93) hx hb dX8_look_89 (by decide) ?_
          obtain rfl := Option.some.inj h
          exact retMi C rfl () rfl hP hD hS (Nat.le_refl 0) (Nat.le_refl 0) dX8_look_93
      · have h := ite_f c11 h
        refine lv_bipush (v := (-3)) hx hb dX8_look_64 (by decide) ?_
        obtain rfl := Option.some.inj h
        exact retMi C rfl () rfl hP hD hS (Nat.le_refl 0) (Nat.le_refl 0) dX8_look_66
    · have h := ite_t c8 h
      refine lv_bipush (v := (-2)) hx hb dX8_look_34 (by decide) ?_
      obtain rfl := Option.some.inj h
      exact retMi C rfl () rfl hP hD hS (Nat.le_refl 0) (Nat.le_refl 0) dX8_look_36
  · have h := ite_t c3 h
    refine lv_iconst (v := (-1)) hx hb dX8_look_8 (by decide) ?_
    obtain rfl := Option.some.inj h
    exact retMi C rfl () rfl hP hD hS (Nat.le_refl 0) (Nat.le_refl 0) dX8_look_9

set_option maxHeartbeats 4000000 in
set_option maxRecDepth 100000 in
theorem mX8_master (l : Launch) (D : va_G) (a : Nat → ClassId) {q_t : Nat} {Q_t : Nat → Nat} {z_t : Sx} {Q_t_5 : Nat → Nat} {z_t_5 : Sx} {Q_t_5_0 : Nat → Nat} {z_t_5_0 : Sx} {Q_t_5_1 : Nat → Nat} {z_t_5_1 : Sx} {Q_t_10 : Nat → Nat} {z_t_10 : Sx} {x1 : Int32} {x2 : Int32} {y : Int64 × Sx} (h : fX8_master z_t z_t_5 z_t_5_0 z_t_5_1 z_t_10 x1 x2 = some y) (sz : Nat) : CMl (S := Unit) l MX8_master 55 1616 0 0 D a [.ref q_t, .int x1, .int x2] (rc8 a q_t Q_t z_t ++ (rc5 a (Q_t 5) Q_t_5 z_t_5 ++ (rc7 a (Q_t_5 0) Q_t_5_0 z_t_5_0 ++ (rc0 a (Q_t_5 1) Q_t_5_1 z_t_5_1 ++ (rc1 a (Q_t 10) Q_t_10 z_t_10))))) sz (fun r _ => r = y.1) (fun _ => rc8 a q_t Q_t z_t ++ (rc5 a (Q_t 5) Q_t_5 z_t_5 ++ (rc7 a (Q_t_5 0) Q_t_5_0 z_t_5_0 ++ (rc0 a (Q_t_5 1) Q_t_5_1 z_t_5_1 ++ (rc1 a (Q_t 10) Q_t_10 y.2))))) := by
  unfold fX8_master at h
  refine entMl (by decide) (Nat.le_of_ble_eq_true rfl) ?_
  intro p e s m below meth c C hK A hA hP hD ls hl
  obtain ⟨hx, hb, hml, hown, hts, hr, hlocks, hnm⟩ := id C
  have hb : c.code = cX8_master := hb
  have hown : s.vm.findClass RX8 = some m.cls := hown
  have hS : va_S A s.heap s.heap [] := va_S.rf
  have hl : lv_has ls 3 [(0, .ref q_t), (1, .int x1), (2, .int x2)] := hl
  refine lv_aload_n hx hb dX8_master_0 rfl (lv_at hl 0 rfl) ?_
  obtain ⟨r2, hc1, h⟩ := bd_some h
  refine cRi (runV (As := []) (rest := []) C (mX8_hasWork l D a (q_t := q_t) (Q_t := Q_t) (Q_t_5 := Q_t_5) (Q_t_5_0 := Q_t_5_0) hc1) lk_V_8_213 okN_X8_hasWork ⟨Nat.le_of_ble_eq_true rfl, Nat.le_of_ble_eq_true rfl⟩ ⟨rfl, rfl⟩ (preV (preR hK (P_of_map (wc := rc8 a q_t Q_t z_t ++ (rc5 a (Q_t 5) Q_t_5 z_t_5 ++ (rc7 a (Q_t_5 0) Q_t_5_0 z_t_5_0))) hP [0, 1, 2, 3, 4, 5, 6, 7, 8, 9, 10, 11, 12, 13, 14, 15, 16, 17] rfl)) (recvOf hK hP 0 rfl (ci := 8) rfl)) hl.1 rfl (Nat.le_of_ble_eq_true rfl) dX8_master_1 ⟨Nat.le_of_ble_eq_true rfl, Nat.le_of_ble_eq_true rfl⟩) ?_
  refine lv_if_eq (tgt := 25) hx hb dX8_master_4 (by decide) (fun c3 => ?_) (fun c3 => ?_)
  · have h := ite_t c3 h
    refine lv_ldc2 hx hb hown (hts _ t_809) dX8_master_25 ?_
    obtain rfl := Option.some.inj h
    exact retMl C rfl () rfl hP hD hS (Nat.le_refl 0) (Nat.le_refl 0) dX8_master_28
  · have h := ite_f c3 h
    refine lv_iload_n hx hb dX8_master_7 rfl (lv_at hl 1 rfl) ?_
    refine lv_if_lt (tgt := 25) hx hb dX8_master_8 (by decide) (fun c4 => ?_) (fun c4 => ?_)
    · have h := ite_t c4 h
      refine lv_ldc2 hx hb hown (hts _ t_809) dX8_master_25 ?_
      obtain rfl := Option.some.inj h
      exact retMl C rfl () rfl hP hD hS (Nat.le_refl 0) (Nat.le_refl 0) dX8_master_28
    · have h := ite_f c4 h
      refine lv_iload_n hx hb dX8_master_11 rfl (lv_at hl 1 rfl) ?_
      refine lv_iconst (v := 4) hx hb dX8_master_12 (by decide) ?_
      refine lv_icmp_gt (tgt := 25) hx hb dX8_master_13 (by decide) (fun c5 => ?_) (fun c5 => ?_)
      · have h := ite_t c5 h
        refine lv_ldc2 hx hb hown (hts _ t_809) dX8_master_25 ?_
        obtain rfl := Option.some.inj h
        exact retMl C rfl () rfl hP hD hS (Nat.le_refl 0) (Nat.le_refl 0) dX8_master_28
      · have h := ite_f c5 h
        refine lv_iload_n hx hb dX8_master_16 rfl (lv_at hl 2 rfl) ?_
        refine lv_if_lt (tgt := 25) hx hb dX8_master_17 (by decide) (fun c6 => ?_) (fun c6 => ?_)
        · have h := ite_t c6 h
          refine lv_ldc2 hx hb hown (hts _ t_809) dX8_master_25 ?_
          obtain rfl := Option.some.inj h
          exact retMl C rfl () rfl hP hD hS (Nat.le_refl 0) (Nat.le_refl 0) dX8_master_28
        · have h := ite_f c6 h
          refine lv_iload_n hx hb dX8_master_20 rfl (lv_at hl 2 rfl) ?_
          refine lv_iconst (v := 2) hx hb dX8_master_21 (by decide) ?_
          refine lv_icmp_le (tgt := 29) hx hb dX8_master_22 (by decide) (fun c7 => ?_) (fun c7 => ?_)
          · have h := ite_t c7 h
            refine lv_aload_n hx hb dX8_master_29 rfl (lv_at hl 0 rfl) ?_
            refine va_get (D := D) (v := .ref (Q_t 10)) (C := RX8) (T := TX8) (N := 11) hx hb hts iX8 hown hK.1 hP 0 rfl rfl 10 (by decide) (hts _ t_310) (fun _ h9 => h9) rfl dX8_master_30 ?_
            refine lv_aload_n hx hb dX8_master_33 rfl (lv_at hl 0 rfl) ?_
            refine va_get (D := D) (v := .ref (Q_t 5)) (C := RX8) (T := TX8) (N := 11) hx hb hts iX8 hown hK.1 hP 0 rfl rfl 5 (by decide) (hts _ t_305) (fun _ h9 => h9) rfl dX8_master_34 ?_
            refine va_get (D := D) (v := .ref (Q_t_5 0)) (C := RX5) (T := TX5) (N := 8) hx hb hts iX5 hown hK.1 hP 2 rfl rfl 0 (by decide) (hts _ t_161) (fun _ h9 => h9) rfl dX8_master_37 ?_
            refine lv_iload_n hx hb dX8_master_40 rfl (lv_at hl 1 rfl) ?_
            refine lv_aload_n hx hb dX8_master_41 rfl (lv_at hl 0 rfl) ?_
            refine va_get (D := D) (v := .ref (Q_t 5)) (C := RX8) (T := TX8) (N := 11) hx hb hts iX8 hown hK.1 hP 0 rfl rfl 5 (by decide) (hts _ t_305) (fun _ h9 => h9) rfl dX8_master_42 ?_
            refine va_get (D := D) (v := .ref (Q_t_5 1)) (C := RX5) (T := TX5) (N := 8) hx hb hts iX5 hown hK.1 hP 2 rfl rfl 1 (by decide) (hts _ t_163) (fun _ h9 => h9) rfl dX8_master_45 ?_
            obtain ⟨r9, hc8, h⟩ := bd_some h
            refine cRi (runV (As := []) (rest := [.int x1, .ref (Q_t_5 0), .ref (Q_t 10)]) C (mX0_gone l D a (q_t := (Q_t_5 1)) (Q_t := Q_t_5_1) hc8) lk_V_8_171 okN_X0_gone ⟨Nat.le_of_ble_eq_true rfl, Nat.le_of_ble_eq_true rfl⟩ ⟨rfl, rfl⟩ (preV (preR hK (P_of_map (wc := rc0 a (Q_t_5 1) Q_t_5_1 z_t_5_1) hP [18, 19] rfl)) (recvOf hK hP 18 rfl (ci := 0) rfl)) hl.1 rfl (Nat.le_of_ble_eq_true rfl) dX8_master_48 ⟨Nat.le_of_ble_eq_true rfl, Nat.le_of_ble_eq_true rfl⟩) ?_
            refine lv_aload_n hx hb dX8_master_51 rfl (lv_at hl 0 rfl) ?_
            refine va_get (D := D) (v := .ref (Q_t 5)) (C := RX8) (T := TX8) (N := 11) hx hb hts iX8 hown hK.1 hP 0 rfl rfl 5 (by decide) (hts _ t_305) (fun _ h9 => h9) rfl dX8_master_52 ?_
            refine va_get (D := D) (v := .ref (Q_t_5 1)) (C := RX5) (T := TX5) (N := 8) hx hb hts iX5 hown hK.1 hP 2 rfl rfl 1 (by decide) (hts _ t_163) (fun _ h9 => h9) rfl dX8_master_55 ?_
            refine va_get (D := D) (v := .int (gI z_t_5_1 0)) (C := RX0) (T := TX0) (N := 6) hx hb hts iX0 hown hK.1 hP 18 rfl rfl 0 (by decide) (hts _ t_132) (fun _ h9 => h9) rfl dX8_master_58 ?_
            obtain ⟨z11, hc10, h⟩ := bd_some h
            refine cMv (runV (As := [.ref (Q_t_5 0), .int x1, .int r9, .int (gI z_t_5_1 0)]) (rest := []) C (mX1_weighSets l D a (q_t := (Q_t 10)) (q_p1 := (Q_t_5 0)) (Q_t := Q_t_10) (Q_p1 := Q_t_5_0) hc10 s.heap.size) lk_V_8_272 okN_X1_weighSets ⟨Nat.le_of_ble_eq_true rfl, Nat.le_of_ble_eq_true rfl⟩ ⟨rfl, rfl⟩ (preV (preM hK (P_of_map (wc := rc1 a (Q_t 10) Q_t_10 z_t_10 ++ (rc7 a (Q_t_5 0) Q_t_5_0 z_t_5_0)) hP [20, 21, 22, 5, 6, 7, 8, 9, 10, 11, 12, 13, 14, 15, 16, 17] rfl) (hD.sub (ws' := rc1 a (Q_t 10) Q_t_10 z_t_10 ++ (rc7 a (Q_t_5 0) Q_t_5_0 z_t_5_0)) [20, 21, 22, 5, 6, 7, 8, 9, 10, 11, 12, 13, 14, 15, 16, 17] (by decide) rfl)) (recvOf hK hP 20 rfl (ci := 1) rfl)) hl.1 rfl (Nat.le_of_ble_eq_true rfl) dX8_master_61 ⟨Nat.le_of_ble_eq_true rfl, Nat.le_of_ble_eq_true rfl⟩) hP hD hS hA [20, 21, 22, 5, 6, 7, 8, 9, 10, 11, 12, 13, 14, 15, 16, 17] [0, 1, 2, 3, 4, 18, 19] [0, 1, 2, 3, 4, 10, 11, 12, 13, 14, 15, 16, 17, 18, 19, 20, 21, 22, 5, 6, 7, 8, 9] rfl rfl (by decide) (by decide) (fw := rc8 a q_t Q_t z_t ++ (rc5 a (Q_t 5) Q_t_5 z_t_5 ++ (rc7 a (Q_t_5 0) Q_t_5_0 z_t_5_0 ++ (rc0 a (Q_t_5 1) Q_t_5_1 z_t_5_1 ++ (rc1 a (Q_t 10) Q_t_10 z11))))) rfl (by decide) (fun H locs hP hD hS => ?_)
            have hP : va_P D classes (rc8 a q_t Q_t z_t ++ (rc5 a (Q_t 5) Q_t_5 z_t_5 ++ (rc7 a (Q_t_5 0) Q_t_5_0 z_t_5_0 ++ (rc0 a (Q_t_5 1) Q_t_5_1 z_t_5_1 ++ (rc1 a (Q_t 10) Q_t_10 z11))))) H := hP
            have hD : va_D A (rc8 a q_t Q_t z_t ++ (rc5 a (Q_t 5) Q_t_5 z_t_5 ++ (rc7 a (Q_t_5 0) Q_t_5_0 z_t_5_0 ++ (rc0 a (Q_t_5 1) Q_t_5_1 z_t_5_1 ++ (rc1 a (Q_t 10) Q_t_10 z11))))) := hD
            refine lv_iload_n hx hb dX8_master_64 rfl (lv_at hl 2 rfl) ?_
            refine lv_iconst (v := 2) hx hb dX8_master_65 (by decide) ?_
            refine lv_icmp_ne (tgt := 80) hx hb dX8_master_66 (by decide) (fun c12 => ?_) (fun c12 => ?_)
            · have h := ite_f c12 h
              refine lv_aload_n hx hb dX8_master_80 rfl (lv_at hl 0 rfl) ?_
              refine va_get (D := D) (v := .ref (Q_t 10)) (C := RX8) (T := TX8) (N := 11) hx hb hts iX8 hown hK.1 hP 0 rfl rfl 10 (by decide) (hts _ t_310) (fun _ h9 => h9) rfl dX8_master_81 ?_
              refine va_get (D := D) (v := .long (gJ z11 3 0)) (C := RX1) (T := TX1) (N := 4) hx hb hts iX1 hown hK.1 hP 20 rfl rfl 3 (by decide) (hts _ t_290) (fun _ h9 => h9) rfl dX8_master_84 ?_
              refine lv_iload_n hx hb dX8_master_87 rfl (lv_at hl 1 rfl) ?_
              obtain ⟨r14, hc13, h⟩ := bd_some h
              refine cRl (runS (As := [.int x1]) (rest := [.long (gJ z11 3 0)]) C (mX8_hundreds l D a hc13) lk_S_8_249 okN_X8_hundreds ⟨Nat.le_of_ble_eq_true rfl, Nat.le_of_ble_eq_true rfl⟩ ⟨rfl, rfl⟩ (preR hK (P_of_map (wc := []) hP [] rfl)) hl.1 rfl (Nat.le_of_ble_eq_true rfl) dX8_master_88 ⟨Nat.le_of_ble_eq_true rfl, Nat.le_of_ble_eq_true rfl⟩) ?_
              refine lv_iload_n hx hb dX8_master_91 rfl (lv_at hl 2 rfl) ?_
              obtain ⟨r16, hc15, h⟩ := bd_some h
              refine cRl (runS (As := [.long (gJ z11 3 0), .long r14, .int x2]) (rest := []) C (mX8_partOf l D a hc15) lk_S_8_253 okN_X8_partOf ⟨Nat.le_of_ble_eq_true rfl, Nat.le_of_ble_eq_true rfl⟩ ⟨rfl, rfl⟩ (preR hK (P_of_map (wc := []) hP [] rfl)) hl.1 rfl (Nat.le_of_ble_eq_true rfl) dX8_master_92 ⟨Nat.le_of_ble_eq_true rfl, Nat.le_of_ble_eq_true rfl⟩) ?_
              obtain rfl := Option.some.inj h
              exact retMl C rfl () rfl hP hD hS (Nat.le_refl 0) (Nat.le_refl 0) dX8_master_95
            · have h := ite_t c12 h
              refine lv_aload_n hx hb dX8_master_69 rfl (lv_at hl 0 rfl) ?_
              refine va_get (D := D) (v := .ref (Q_t 10)) (C := RX8) (T := TX8) (N := 11) hx hb hts iX8 hown hK.1 hP 0 rfl rfl 10 (by decide) (hts _ t_310) (fun _ h9 => h9) rfl dX8_master_70 ?_
              refine va_get (D := D) (v := .int (gI z11 2)) (C := RX1) (T := TX1) (N := 4) hx hb hts iX1 hown hK.1 hP 20 rfl rfl 2 (by decide) (hts _ t_288) (fun _ h9 => h9) rfl dX8_master_73 ?_
              refine lv_i2l (v := (gI z11 2).toInt64) hx hb dX8_master_76 rfl ?_
              refine lv_goto (tgt := 95) hx hb dX8_master_77 (by decide) ?_
              obtain rfl := Option.some.inj h
              exact retMl C rfl () rfl hP hD hS (Nat.le_refl 0) (Nat.le_refl 0) dX8_master_95
          · have h := ite_f c7 h
            refine lv_ldc2 hx hb hown (hts _ t_809) dX8_master_25 ?_
            obtain rfl := Option.some.inj h
            exact retMl C rfl () rfl hP hD hS (Nat.le_refl 0) (Nat.le_refl 0) dX8_master_28

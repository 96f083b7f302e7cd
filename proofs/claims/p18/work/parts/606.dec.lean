set_option maxHeartbeats 4000000 in
set_option maxRecDepth 100000 in
theorem mX8_would_some (l : Launch) (D : va_G) (a : Nat → ClassId) {q_R : Nat} {q_t : Nat} {Q_t : Nat → Nat} {z_t : Sx} {B_t_2 : Nat → Option Nat} {Q_t_5 : Nat → Nat} {z_t_5 : Sx} {Q_t_5_0 : Nat → Nat} {z_t_5_0 : Sx} {Q_t_5_1 : Nat → Nat} {z_t_5_1 : Sx} {Q_t_7 : Nat → Nat} {z_t_7 : Sx} {Q_t_9 : Nat → Nat} {z_t_9 : Sx} {Q_R : Nat → Nat} {nc_R : Nat} {z_R : Sx} {x1 : Int32} {x2 : Int32} (hm : fX8_ruleForWork z_t B_t_2 z_t_5 z_t_5_0 x1 = some (some q_R)) {y : Int32 × Sx × Sx} (h : fX8_would_some z_t B_t_2 z_t_5 z_t_5_0 z_t_5_1 z_t_7 z_t_9 nc_R z_R x1 x2 = some y) (sz : Nat) : CMi (S := Unit) l MX8_would 6 162 0 0 D a [.ref q_t, .int x1, .int x2] (rc8 a q_t Q_t z_t ++ (rb4 a (Q_t 2) 6 B_t_2 ++ (rc5 a (Q_t 5) Q_t_5 z_t_5 ++ (rc7 a (Q_t_5 0) Q_t_5_0 z_t_5_0 ++ (rc0 a (Q_t_5 1) Q_t_5_1 z_t_5_1 ++ (rc0 a (Q_t 7) Q_t_7 z_t_7 ++ (rc2 a (Q_t 9) Q_t_9 z_t_9 ++ (rc3 a q_R Q_R nc_R z_R)))))))) sz (fun r _ => r = y.1) (fun _ => rc8 a q_t Q_t z_t ++ (rb4 a (Q_t 2) 6 B_t_2 ++ (rc5 a (Q_t 5) Q_t_5 z_t_5 ++ (rc7 a (Q_t_5 0) Q_t_5_0 z_t_5_0 ++ (rc0 a (Q_t_5 1) Q_t_5_1 z_t_5_1 ++ (rc0 a (Q_t 7) Q_t_7 y.2.1 ++ (rc2 a (Q_t 9) Q_t_9 y.2.2 ++ (rc3 a q_R Q_R nc_R z_R)))))))) := by
  unfold fX8_would_some at h
  refine entMi (by decide) (Nat.le_of_ble_eq_true rfl) ?_
  intro p e s m below meth c C hK A hA hP hD ls hl
  obtain ⟨hx, hb, hml, hown, hts, hr, hlocks, hnm⟩ := id C
  have hb : c.code = cX8_would := hb
  have hown : s.vm.findClass RX8 = some m.cls := hown
  have hS : va_S A s.heap s.heap [] := va_S.rf
  have hl : lv_has ls 5 [(0, .ref q_t), (1, .int x1), (2, .int x2)] := hl
  refine lv_aload_n hx hb dX8_would_0 rfl (lv_at hl 0 rfl) ?_
  refine lv_iload_n hx hb dX8_would_1 rfl (lv_at hl 1 rfl) ?_
  obtain ⟨r2, hc1, h⟩ := bd_some h
  refine cRq (runV (As := [.int x1]) (rest := []) C (mX8_ruleForWork l D a (q_t := q_t) (Q_t := Q_t) (Q_t_5 := Q_t_5) (Q_t_5_0 := Q_t_5_0) hc1) lk_V_8_228 okN_X8_ruleForWork ⟨Nat.le_of_ble_eq_true rfl, Nat.le_of_ble_eq_true rfl⟩ ⟨rfl, rfl⟩ (preV (preR hK (P_of_map (wc := rc8 a q_t Q_t z_t ++ (rb4 a (Q_t 2) 6 B_t_2 ++ (rc5 a (Q_t 5) Q_t_5 z_t_5 ++ (rc7 a (Q_t_5 0) Q_t_5_0 z_t_5_0)))) hP [0, 1, 2, 3, 4, 5, 6, 7, 8, 9, 10, 11, 12, 13, 14, 15, 16, 17, 18] rfl)) (recvOf hK hP 0 rfl (ci := 8) rfl)) hl.1 rfl (Nat.le_of_ble_eq_true rfl) dX8_would_2 ⟨Nat.le_of_ble_eq_true rfl, Nat.le_of_ble_eq_true rfl⟩) ?_
  obtain rfl := Option.some.inj (hc1.symm.trans hm)
  refine lv_astore_n (lv' := [(3, .ref q_R), (0, .ref q_t), (1, .int x1), (2, .int x2)]) hx hb dX8_would_5 rfl hl (by decide) rfl (fun ls hl => ?_)
  refine lv_aload_n hx hb dX8_would_6 rfl (lv_at hl 0 rfl) ?_
  refine lv_ifnull hx hb dX8_would_7 ?_
  refine lv_iload_n hx hb dX8_would_10 rfl (lv_at hl 3 rfl) ?_
  refine lv_if_lt (tgt := 19) hx hb dX8_would_11 (by decide) (fun c3 => ?_) (fun c3 => ?_)
  · have h := ite_t c3 h
    refine lv_ldc hx hb hown (hts _ t_640) dX8_would_19 ?_
    obtain rfl := Option.some.inj h
    exact retMi C rfl () rfl hP hD hS (Nat.le_refl 0) (Nat.le_refl 0) dX8_would_21
  · have h := ite_f c3 h
    refine lv_iload_n hx hb dX8_would_14 rfl (lv_at hl 3 rfl) ?_
    refine lv_iconst (v := 4) hx hb dX8_would_15 (by decide) ?_
    refine lv_icmp_le (tgt := 22) hx hb dX8_would_16 (by decide) (fun c4 => ?_) (fun c4 => ?_)
    · have h := ite_t c4 h
      refine lv_aload_n hx hb dX8_would_22 rfl (lv_at hl 1 rfl) ?_
      refine va_get (D := D) (v := .ref (Q_t 7)) (C := RX8) (T := TX8) (N := 11) hx hb hts iX8 hown hK.1 hP 0 rfl rfl 7 (by decide) (hts _ t_307) (fun _ h9 => h9) rfl dX8_would_23 ?_
      refine lv_aload_n hx hb dX8_would_26 rfl (lv_at hl 1 rfl) ?_
      refine va_get (D := D) (v := .ref (Q_t 5)) (C := RX8) (T := TX8) (N := 11) hx hb hts iX8 hown hK.1 hP 0 rfl rfl 5 (by decide) (hts _ t_305) (fun _ h9 => h9) rfl dX8_would_27 ?_
      refine va_get (D := D) (v := .ref (Q_t_5 1)) (C := RX5) (T := TX5) (N := 8) hx hb hts iX5 hown hK.1 hP 3 rfl rfl 1 (by decide) (hts _ t_163) (fun _ h9 => h9) rfl dX8_would_30 ?_
      obtain ⟨z6, hc5, h⟩ := bd_some h
      refine cMv (runV (As := [.ref (Q_t_5 1)]) (rest := []) C (mX0_copyFrom l D a (q_t := (Q_t 7)) (q_p1 := (Q_t_5 1)) (Q_t := Q_t_7) (Q_p1 := Q_t_5_1) hc5 s.heap.size) lk_V_8_236 okN_X0_copyFrom ⟨Nat.le_of_ble_eq_true rfl, Nat.le_of_ble_eq_true rfl⟩ ⟨rfl, rfl⟩ (preV (preM hK (P_of_map (wc := rc0 a (Q_t 7) Q_t_7 z_t_7 ++ (rc0 a (Q_t_5 1) Q_t_5_1 z_t_5_1)) hP [21, 22, 19, 20] rfl) (hD.sub (ws' := rc0 a (Q_t 7) Q_t_7 z_t_7 ++ (rc0 a (Q_t_5 1) Q_t_5_1 z_t_5_1)) [21, 22, 19, 20] (by decide) rfl)) (recvOf hK hP 21 rfl (ci := 0) rfl)) hl.1 rfl (Nat.le_of_ble_eq_true rfl) dX8_would_33 ⟨Nat.le_of_ble_eq_true rfl, Nat.le_of_ble_eq_true rfl⟩) hP hD hS hA [21, 22, 19, 20] [0, 1, 2, 3, 4, 5, 6, 7, 8, 9, 10, 11, 12, 13, 14, 15, 16, 17, 18, 23, 24, 25, 26, 27, 28, 29] [0, 1, 2, 3, 4, 5, 6, 7, 8, 9, 10, 11, 12, 13, 14, 15, 16, 17, 18, 28, 29, 26, 27, 19, 20, 21, 22, 23, 24, 25] rfl rfl (by decide) (by decide) (fw := rc8 a q_t Q_t z_t ++ (rb4 a (Q_t 2) 6 B_t_2 ++ (rc5 a (Q_t 5) Q_t_5 z_t_5 ++ (rc7 a (Q_t_5 0) Q_t_5_0 z_t_5_0 ++ (rc0 a (Q_t_5 1) Q_t_5_1 z_t_5_1 ++ (rc0 a (Q_t 7) Q_t_7 z6 ++ (rc2 a (Q_t 9) Q_t_9 z_t_9 ++ (rc3 a q_R Q_R nc_R z_R)))))))) rfl (by decide) (fun H locs hP hD hS => ?_)
      have hP : va_P D classes (rc8 a q_t Q_t z_t ++ (rb4 a (Q_t 2) 6 B_t_2 ++ (rc5 a (Q_t 5) Q_t_5 z_t_5 ++ (rc7 a (Q_t_5 0) Q_t_5_0 z_t_5_0 ++ (rc0 a (Q_t_5 1) Q_t_5_1 z_t_5_1 ++ (rc0 a (Q_t 7) Q_t_7 z6 ++ (rc2 a (Q_t 9) Q_t_9 z_t_9 ++ (rc3 a q_R Q_R nc_R z_R)))))))) H := hP
      have hD : va_D A (rc8 a q_t Q_t z_t ++ (rb4 a (Q_t 2) 6 B_t_2 ++ (rc5 a (Q_t 5) Q_t_5 z_t_5 ++ (rc7 a (Q_t_5 0) Q_t_5_0 z_t_5_0 ++ (rc0 a (Q_t_5 1) Q_t_5_1 z_t_5_1 ++ (rc0 a (Q_t 7) Q_t_7 z6 ++ (rc2 a (Q_t 9) Q_t_9 z_t_9 ++ (rc3 a q_R Q_R nc_R z_R)))))))) := hD
      refine lv_aload_n hx hb dX8_would_36 rfl (lv_at hl 1 rfl) ?_
      refine va_get (D := D) (v := .ref (Q_t 9)) (C := RX8) (T := TX8) (N := 11) hx hb hts iX8 hown hK.1 hP 0 rfl rfl 9 (by decide) (hts _ t_309) (fun _ h9 => h9) rfl dX8_would_37 ?_
      refine lv_aload_n hx hb dX8_would_40 rfl (lv_at hl 1 rfl) ?_
      refine va_get (D := D) (v := .ref (Q_t 5)) (C := RX8) (T := TX8) (N := 11) hx hb hts iX8 hown hK.1 hP 0 rfl rfl 5 (by decide) (hts _ t_305) (fun _ h9 => h9) rfl dX8_would_41 ?_
      refine va_get (D := D) (v := .ref (Q_t_5 0)) (C := RX5) (T := TX5) (N := 8) hx hb hts iX5 hown hK.1 hP 3 rfl rfl 0 (by decide) (hts _ t_161) (fun _ h9 => h9) rfl dX8_would_44 ?_
      refine lv_aload_n hx hb dX8_would_47 rfl (lv_at hl 0 rfl) ?_
      refine lv_aload_n hx hb dX8_would_48 rfl (lv_at hl 1 rfl) ?_
      refine va_get (D := D) (v := .ref (Q_t 7)) (C := RX8) (T := TX8) (N := 11) hx hb hts iX8 hown hK.1 hP 0 rfl rfl 7 (by decide) (hts _ t_307) (fun _ h9 => h9) rfl dX8_would_49 ?_
      obtain ⟨r8, z9, z10, hc7, h⟩ := bd3_some h
      refine cMi (runV (As := [.ref (Q_t_5 0), .ref q_R, .ref (Q_t 7)]) (rest := []) C (mX2_play l D a (q_t := (Q_t 9)) (q_p1 := (Q_t_5 0)) (q_p2 := q_R) (q_p3 := (Q_t 7)) (Q_t := Q_t_9) (Q_p1 := Q_t_5_0) (Q_p2 := Q_R) (Q_p3 := Q_t_7) hc7 H.size) lk_V_8_232 okN_X2_play ⟨Nat.le_of_ble_eq_true rfl, Nat.le_of_ble_eq_true rfl⟩ ⟨rfl, rfl⟩ (preV (preM hK (P_of_map (wc := rc2 a (Q_t 9) Q_t_9 z_t_9 ++ (rc7 a (Q_t_5 0) Q_t_5_0 z_t_5_0 ++ (rc3 a q_R Q_R nc_R z_R ++ (rc0 a (Q_t 7) Q_t_7 z6)))) hP [23, 24, 6, 7, 8, 9, 10, 11, 12, 13, 14, 15, 16, 17, 18, 25, 26, 27, 28, 29, 21, 22] rfl) (hD.sub (ws' := rc2 a (Q_t 9) Q_t_9 z_t_9 ++ (rc7 a (Q_t_5 0) Q_t_5_0 z_t_5_0 ++ (rc3 a q_R Q_R nc_R z_R ++ (rc0 a (Q_t 7) Q_t_7 z6)))) [23, 24, 6, 7, 8, 9, 10, 11, 12, 13, 14, 15, 16, 17, 18, 25, 26, 27, 28, 29, 21, 22] (by decide) rfl)) (recvOf hK hP 23 rfl (ci := 2) rfl)) hl.1 rfl (Nat.le_of_ble_eq_true rfl) dX8_would_52 ⟨Nat.le_of_ble_eq_true rfl, Nat.le_of_ble_eq_true rfl⟩) hP hD hS hA [23, 24, 6, 7, 8, 9, 10, 11, 12, 13, 14, 15, 16, 17, 18, 25, 26, 27, 28, 29, 21, 22] [0, 1, 2, 3, 4, 5, 19, 20] [0, 1, 2, 3, 4, 5, 10, 11, 12, 13, 14, 15, 16, 17, 18, 19, 20, 21, 22, 6, 7, 28, 29, 8, 9, 23, 24, 25, 26, 27] rfl rfl (by decide) (by decide) (fw := rc8 a q_t Q_t z_t ++ (rb4 a (Q_t 2) 6 B_t_2 ++ (rc5 a (Q_t 5) Q_t_5 z_t_5 ++ (rc7 a (Q_t_5 0) Q_t_5_0 z_t_5_0 ++ (rc0 a (Q_t_5 1) Q_t_5_1 z_t_5_1 ++ (rc0 a (Q_t 7) Q_t_7 z10 ++ (rc2 a (Q_t 9) Q_t_9 z9 ++ (rc3 a q_R Q_R nc_R z_R)))))))) rfl (by decide) (fun H locs hP hD hS => ?_)
      have hP : va_P D classes (rc8 a q_t Q_t z_t ++ (rb4 a (Q_t 2) 6 B_t_2 ++ (rc5 a (Q_t 5) Q_t_5 z_t_5 ++ (rc7 a (Q_t_5 0) Q_t_5_0 z_t_5_0 ++ (rc0 a (Q_t_5 1) Q_t_5_1 z_t_5_1 ++ (rc0 a (Q_t 7) Q_t_7 z10 ++ (rc2 a (Q_t 9) Q_t_9 z9 ++ (rc3 a q_R Q_R nc_R z_R)))))))) H := hP
      have hD : va_D A (rc8 a q_t Q_t z_t ++ (rb4 a (Q_t 2) 6 B_t_2 ++ (rc5 a (Q_t 5) Q_t_5 z_t_5 ++ (rc7 a (Q_t_5 0) Q_t_5_0 z_t_5_0 ++ (rc0 a (Q_t_5 1) Q_t_5_1 z_t_5_1 ++ (rc0 a (Q_t 7) Q_t_7 z10 ++ (rc2 a (Q_t 9) Q_t_9 z9 ++ (rc3 a q_R Q_R nc_R z_R)))))))) := hD
      refine lv_istore (lv' := [(4, .int r8), (3, .ref q_R), (0, .ref q_t), (1, .int x1), (2, .int x2)]) hx hb dX8_would_55 hl (by decide) rfl (fun ls hl => ?_)
      refine lv_iload_n hx hb dX8_would_57 rfl (lv_at hl 4 rfl) ?_
      by_cases c11_0 : x2 = 0
      · have h := ite_t c11_0 h
        refine lv_tableIn (off := 30) (tgt := 88) hx hb dX8_would_58 (by rw [c11_0]; decide) (by rw [c11_0]; decide) (by rw [c11_0]; decide) (by decide) ?_
        refine lv_aload_n hx hb dX8_would_88 rfl (lv_at hl 2 rfl) ?_
        refine va_get (D := D) (v := .ref (Q_t 7)) (C := RX8) (T := TX8) (N := 11) hx hb hts iX8 hown hK.1 hP 0 rfl rfl 7 (by decide) (hts _ t_307) (fun _ h9 => h9) rfl dX8_would_89 ?_
        refine va_get (D := D) (v := .int (gI z10 1)) (C := RX0) (T := TX0) (N := 6) hx hb hts iX0 hown hK.1 hP 21 rfl rfl 1 (by decide) (hts _ t_135) (fun _ h9 => h9) rfl dX8_would_92 ?_
        refine lv_aload_n hx hb dX8_would_95 rfl (lv_at hl 2 rfl) ?_
        refine va_get (D := D) (v := .ref (Q_t 5)) (C := RX8) (T := TX8) (N := 11) hx hb hts iX8 hown hK.1 hP 0 rfl rfl 5 (by decide) (hts _ t_305) (fun _ h9 => h9) rfl dX8_would_96 ?_
        refine va_get (D := D) (v := .ref (Q_t_5 1)) (C := RX5) (T := TX5) (N := 8) hx hb hts iX5 hown hK.1 hP 3 rfl rfl 1 (by decide) (hts _ t_163) (fun _ h9 => h9) rfl dX8_would_99 ?_
        refine va_get (D := D) (v := .int (gI z_t_5_1 1)) (C := RX0) (T := TX0) (N := 6) hx hb hts iX0 hown hK.1 hP 19 rfl rfl 1 (by decide) (hts _ t_135) (fun _ h9 => h9) rfl dX8_would_102 ?_
        refine lv_isub hx hb dX8_would_105 ?_
        obtain rfl := Option.some.inj h
        exact retMi C rfl () rfl hP hD hS (Nat.le_refl 0) (Nat.le_refl 0) dX8_would_106
      have h := ite_f c11_0 h
      by_cases c11_1 : x2 = 1
      · have h := ite_t c11_1 h
        refine lv_tableIn (off := 49) (tgt := 107) hx hb dX8_would_58 (by rw [c11_1]; decide) (by rw [c11_1]; decide) (by rw [c11_1]; decide) (by decide) ?_
        refine lv_aload_n hx hb dX8_would_107 rfl (lv_at hl 2 rfl) ?_
        refine va_get (D := D) (v := .ref (Q_t 7)) (C := RX8) (T := TX8) (N := 11) hx hb hts iX8 hown hK.1 hP 0 rfl rfl 7 (by decide) (hts _ t_307) (fun _ h9 => h9) rfl dX8_would_108 ?_
        refine va_get (D := D) (v := .int (gI z10 2)) (C := RX0) (T := TX0) (N := 6) hx hb hts iX0 hown hK.1 hP 21 rfl rfl 2 (by decide) (hts _ t_138) (fun _ h9 => h9) rfl dX8_would_111 ?_
        refine lv_aload_n hx hb dX8_would_114 rfl (lv_at hl 2 rfl) ?_
        refine va_get (D := D) (v := .ref (Q_t 5)) (C := RX8) (T := TX8) (N := 11) hx hb hts iX8 hown hK.1 hP 0 rfl rfl 5 (by decide) (hts _ t_305) (fun _ h9 => h9) rfl dX8_would_115 ?_
        refine va_get (D := D) (v := .ref (Q_t_5 1)) (C := RX5) (T := TX5) (N := 8) hx hb hts iX5 hown hK.1 hP 3 rfl rfl 1 (by decide) (hts _ t_163) (fun _ h9 => h9) rfl dX8_would_118 ?_
        refine va_get (D := D) (v := .int (gI z_t_5_1 2)) (C := RX0) (T := TX0) (N := 6) hx hb hts iX0 hown hK.1 hP 19 rfl rfl 2 (by decide) (hts _ t_138) (fun _ h9 => h9) rfl dX8_would_121 ?_
        refine lv_iconst (v := (-1)) hx hb dX8_would_124 (by decide) ?_
        refine lv_ixor hx hb dX8_would_125 ?_
        refine lv_iand hx hb dX8_would_126 ?_
        obtain rfl := Option.some.inj h
        exact retMi C rfl () rfl hP hD hS (Nat.le_refl 0) (Nat.le_refl 0) dX8_would_127
      have h := ite_f c11_1 h
      by_cases c11_2 : x2 = 2
      · have h := ite_t c11_2 h
        refine lv_tableIn (off := 70) (tgt := 128) hx hb dX8_would_58 (by rw [c11_2]; decide) (by rw [c11_2]; decide) (by rw [c11_2]; decide) (by decide) ?_
        refine lv_aload_n hx hb dX8_would_128 rfl (lv_at hl 2 rfl) ?_
        refine va_get (D := D) (v := .ref (Q_t 7)) (C := RX8) (T := TX8) (N := 11) hx hb hts iX8 hown hK.1 hP 0 rfl rfl 7 (by decide) (hts _ t_307) (fun _ h9 => h9) rfl dX8_would_129 ?_
        refine va_get (D := D) (v := .int (gI z10 0)) (C := RX0) (T := TX0) (N := 6) hx hb hts iX0 hown hK.1 hP 21 rfl rfl 0 (by decide) (hts _ t_132) (fun _ h9 => h9) rfl dX8_would_132 ?_
        obtain rfl := Option.some.inj h
        exact retMi C rfl () rfl hP hD hS (Nat.le_refl 0) (Nat.le_refl 0) dX8_would_135
      have h := ite_f c11_2 h
      by_cases c11_3 : x2 = 3
      · have h := ite_t c11_3 h
        refine lv_tableIn (off := 78) (tgt := 136) hx hb dX8_would_58 (by rw [c11_3]; decide) (by rw [c11_3]; decide) (by rw [c11_3]; decide) (by decide) ?_
        refine lv_aload_n hx hb dX8_would_136 rfl (lv_at hl 2 rfl) ?_
        refine va_get (D := D) (v := .ref (Q_t 5)) (C := RX8) (T := TX8) (N := 11) hx hb hts iX8 hown hK.1 hP 0 rfl rfl 5 (by decide) (hts _ t_305) (fun _ h9 => h9) rfl dX8_would_137 ?_
        refine va_get (D := D) (v := .ref (Q_t_5 0)) (C := RX5) (T := TX5) (N := 8) hx hb hts iX5 hown hK.1 hP 3 rfl rfl 0 (by decide) (hts _ t_161) (fun _ h9 => h9) rfl dX8_would_140 ?_
        refine lv_aload_n hx hb dX8_would_143 rfl (lv_at hl 2 rfl) ?_
        refine va_get (D := D) (v := .ref (Q_t 7)) (C := RX8) (T := TX8) (N := 11) hx hb hts iX8 hown hK.1 hP 0 rfl rfl 7 (by decide) (hts _ t_307) (fun _ h9 => h9) rfl dX8_would_144 ?_
        obtain ⟨r13, hc12, h⟩ := bd_some h
        refine cRi (runV (As := []) (rest := [.ref (Q_t_5 0)]) C (mX0_gone l D a (q_t := (Q_t 7)) (Q_t := Q_t_7) hc12) lk_V_8_171 okN_X0_gone ⟨Nat.le_of_ble_eq_true rfl, Nat.le_of_ble_eq_true rfl⟩ ⟨rfl, rfl⟩ (preV (preR hK (P_of_map (wc := rc0 a (Q_t 7) Q_t_7 z10) hP [21, 22] rfl)) (recvOf hK hP 21 rfl (ci := 0) rfl)) hl.1 rfl (Nat.le_of_ble_eq_true rfl) dX8_would_147 ⟨Nat.le_of_ble_eq_true rfl, Nat.le_of_ble_eq_true rfl⟩) ?_
        obtain ⟨r15, hc14, h⟩ := bd_some h
        refine cRi (runV (As := [.int r13]) (rest := []) C (mX7_hiddenCoins l D a (q_t := (Q_t_5 0)) (Q_t := Q_t_5_0) hc14) lk_V_8_222 okN_X7_hiddenCoins ⟨Nat.le_of_ble_eq_true rfl, Nat.le_of_ble_eq_true rfl⟩ ⟨rfl, rfl⟩ (preV (preR hK (P_of_map (wc := rc7 a (Q_t_5 0) Q_t_5_0 z_t_5_0) hP [6, 7, 8, 9, 10, 11, 12, 13, 14, 15, 16, 17, 18] rfl)) (recvOf hK hP 6 rfl (ci := 7) rfl)) hl.1 rfl (Nat.le_of_ble_eq_true rfl) dX8_would_150 ⟨Nat.le_of_ble_eq_true rfl, Nat.le_of_ble_eq_true rfl⟩) ?_
        obtain rfl := Option.some.inj h
        exact retMi C rfl () rfl hP hD hS (Nat.le_refl 0) (Nat.le_refl 0) dX8_would_153
      have h := ite_f c11_3 h
      refine lv_tableOut (tgt := 154) hx hb dX8_would_58 (by have := lv_neT c11_0 (show (0 : Int32).toInt = 0 by decide); have := lv_neT c11_1 (show (1 : Int32).toInt = 1 by decide); have := lv_neT c11_2 (show (2 : Int32).toInt = 2 by decide); have := lv_neT c11_3 (show (3 : Int32).toInt = 3 by decide); omega) (by decide) ?_
      refine lv_iload hx hb dX8_would_154 (lv_at hl 0 rfl) ?_
      obtain rfl := Option.some.inj h
      exact retMi C rfl () rfl hP hD hS (Nat.le_refl 0) (Nat.le_refl 0) dX8_would_156
    · have h := ite_f c4 h
      refine lv_ldc hx hb hown (hts _ t_640) dX8_would_19 ?_
      obtain rfl := Option.some.inj h
      exact retMi C rfl () rfl hP hD hS (Nat.le_refl 0) (Nat.le_refl 0) dX8_would_21


set_option maxHeartbeats 4000000 in
set_option maxRecDepth 100000 in
theorem mX8_image_none (l : Launch) (D : va_G) (a : Nat → ClassId) {q_t : Nat} {Q_t : Nat → Nat} {z_t : Sx} {Q_t_5 : Nat → Nat} {z_t_5 : Sx} {Q_t_5_1 : Nat → Nat} {z_t_5_1 : Sx} {B_t_6 : Nat → Option Nat} {x1 : Int32} (hm : B_t_6 x1.toNatClampNeg = none) {y : Int32 × Sx × Sx} (h : fX8_image_none z_t z_t_5 z_t_5_1 B_t_6 x1 = some y) (sz : Nat) : CMi (S := Nat × (Nat → Nat) × (Nat → Nat)) l MX8_image 3 102 5 40 D a [.ref q_t, .int x1] (rc8 a q_t Q_t z_t ++ (rc5 a (Q_t 5) Q_t_5 z_t_5 ++ (rc0 a (Q_t_5 1) Q_t_5_1 z_t_5_1 ++ (rb5 a (Q_t 6) 4 B_t_6)))) sz (fun r u => r = y.1) (fun u => rc8 a q_t Q_t z_t ++ (rc5 a (Q_t 5) Q_t_5 z_t_5 ++ (rc0 a (Q_t_5 1) Q_t_5_1 z_t_5_1 ++ (rb5 a (Q_t 6) 4 (va_up B_t_6 x1.toNatClampNeg (some u.1)) ++ (rc5 a u.1 (va_up u.2.1 0 (Q_t_5 0)) y.2.1 ++ (rc0 a (u.2.1 1) u.2.2 y.2.2)))))) := by
  unfold fX8_image_none at h
  refine entMi (by decide) (Nat.le_of_ble_eq_true rfl) ?_
  intro p e s m below meth c C hK A hA hP hD ls hl
  obtain ⟨hx, hb, hml, hown, hts, hr, hlocks, hnm⟩ := id C
  have hb : c.code = cX8_image := hb
  have hown : s.vm.findClass RX8 = some m.cls := hown
  have hS : va_S A s.heap s.heap [] := va_S.rf
  have hl : lv_has ls 3 [(0, .ref q_t), (1, .int x1)] := hl
  refine lv_iload_n hx hb dX8_image_0 rfl (lv_at hl 1 rfl) ?_
  refine lv_if_lt (tgt := 13) hx hb dX8_image_1 (by decide) (fun c1 => ?_) (fun c1 => ?_)
  · have h := ite_t c1 h
    cases h
  · have h := ite_f c1 h
    refine lv_iload_n hx hb dX8_image_4 rfl (lv_at hl 1 rfl) ?_
    refine lv_aload_n hx hb dX8_image_5 rfl (lv_at hl 0 rfl) ?_
    refine va_get (D := D) (v := .ref (Q_t 6)) (C := RX8) (T := TX8) (N := 11) hx hb hts iX8 hown hK.1 hP 0 rfl rfl 6 (by decide) (hts _ t_306) (fun _ h9 => h9) rfl dX8_image_6 ?_
    refine va_alen (v := 4) hx hb hK.1 hP 7 5 rfl rfl rfl dX8_image_9 ?_
    refine lv_icmp_lt (tgt := 15) hx hb dX8_image_10 (by decide) (fun c2 => ?_) (fun c2 => ?_)
    · have h := ite_t c2 h
      refine lv_aload_n hx hb dX8_image_15 rfl (lv_at hl 0 rfl) ?_
      refine va_get (D := D) (v := .ref (Q_t 6)) (C := RX8) (T := TX8) (N := 11) hx hb hts iX8 hown hK.1 hP 0 rfl rfl 6 (by decide) (hts _ t_306) (fun _ h9 => h9) rfl dX8_image_16 ?_
      refine lv_iload_n hx hb dX8_image_19 rfl (lv_at hl 1 rfl) ?_
      obtain ⟨g3, h⟩ := gd_some h
      refine ald_q hx hb hK.1 hP 7 5 rfl rfl x1.toNatClampNeg (ix_g g3) dX8_image_20 ?_
      rw [hm]
      refine lv_astore_nN (lv' := [(2, .null), (0, .ref q_t), (1, .int x1)]) hx hb dX8_image_21 rfl hl (by decide) rfl (fun ls hl => ?_)
      refine lv_aload_nN hx hb dX8_image_22 rfl (lv_at hl 0 rfl) ?_
      refine lv_ifnonnullN hx hb dX8_image_23 ?_
      refine va_new (ci := 5) (fs := [.null, .null, .int 0, .int 0, .int 0, .null, .int 0, .null]) (C := RX5) (T := TX5) (N := 8) hx hb hts iX5 tyX5 tyX5_ok hown (hts _ t_29) (hts _ t_30) (hts _ t_2) hK.1 hP hD hS hA rfl (dfX5) (Nat.le_of_ble_eq_true rfl) (Nat.le_of_ble_eq_true rfl) dX8_image_26 (fun q_N H hP hD hS => ?_)
      refine W.cs (cells' := 1) (slots' := 8) rfl rfl ?_
      have hP : va_P D classes (rc8 a q_t Q_t z_t ++ (rc5 a (Q_t 5) Q_t_5 z_t_5 ++ (rc0 a (Q_t_5 1) Q_t_5_1 z_t_5_1 ++ (rb5 a (Q_t 6) 4 B_t_6 ++ ([(q_N, .inr (5, [.null, .null, .int 0, .int 0, .int 0, .null, .int 0, .null]))]))))) H := hP
      have hD : va_D A (rc8 a q_t Q_t z_t ++ (rc5 a (Q_t 5) Q_t_5 z_t_5 ++ (rc0 a (Q_t_5 1) Q_t_5_1 z_t_5_1 ++ (rb5 a (Q_t 6) 4 B_t_6 ++ ([(q_N, .inr (5, [.null, .null, .int 0, .int 0, .int 0, .null, .int 0, .null]))]))))) := hD
      refine lv_dup hx hb dX8_image_29 rfl ?_
      refine lv_aload_n hx hb dX8_image_30 rfl (lv_at hl 1 rfl) ?_
      refine va_get (D := D) (v := .ref (Q_t 5)) (C := RX8) (T := TX8) (N := 11) hx hb hts iX8 hown hK.1 hP 0 rfl rfl 5 (by decide) (hts _ t_305) (fun _ h9 => h9) rfl dX8_image_31 ?_
      refine va_get (D := D) (v := .ref (Q_t_5 0)) (C := RX5) (T := TX5) (N := 8) hx hb hts iX5 hown hK.1 hP 2 rfl rfl 0 (by decide) (hts _ t_161) (fun _ h9 => h9) rfl dX8_image_34 ?_
      refine afMv (runI (As := [.ref (Q_t_5 0)]) (rest := [.ref q_N]) C (c_X5_init_0 l D a q_N (Q_t_5 0) H.size) lk_I_8_36 okN_X5_init ⟨Nat.le_of_ble_eq_true rfl, Nat.le_of_ble_eq_true rfl⟩ ⟨rfl, rfl⟩ (preM hK (P_of_map (wc := [(q_N, .inr (5, [.null, .null, .int 0, .int 0, .int 0, .null, .int 0, .null]))]) hP [8] rfl) (hD.sub (ws' := [(q_N, .inr (5, [.null, .null, .int 0, .int 0, .int 0, .null, .int 0, .null]))]) [8] (by decide) rfl)) hl.1 rfl (Nat.le_of_ble_eq_true rfl) dX8_image_37 ⟨Nat.le_of_ble_eq_true rfl, Nat.le_of_ble_eq_true rfl⟩) hP hD hS hA [8] [0, 1, 2, 3, 4, 5, 6, 7] (wr := rc8 a q_t Q_t z_t ++ (rc5 a (Q_t 5) Q_t_5 z_t_5 ++ (rc0 a (Q_t_5 1) Q_t_5_1 z_t_5_1 ++ (rb5 a (Q_t 6) 4 B_t_6)))) rfl rfl (by decide) (by decide) (fun u H locs hw hP hD hS => ?_)
      obtain ⟨q1013, q1020, q1021, q1019, rfl⟩ := hw
      obtain ⟨Q_N, eQN⟩ : ∃ Q : Nat → Nat, Q = (fun k => [(Q_t_5 0), q1013, 0, 0, 0, q1020, 0, q1021].getD k 0) := ⟨_, rfl⟩
      obtain ⟨Q_N1, eQN1⟩ : ∃ Q : Nat → Nat, Q = (fun k => [0, 0, 0, 0, 0, q1019].getD k 0) := ⟨_, rfl⟩
      have hP : va_P D classes (rc8 a q_t Q_t z_t ++ (rc5 a (Q_t 5) Q_t_5 z_t_5 ++ (rc0 a (Q_t_5 1) Q_t_5_1 z_t_5_1 ++ (rb5 a (Q_t 6) 4 B_t_6 ++ (rc5 a q_N Q_N Z0 ++ (rc0 a (Q_N 1) Q_N1 Z0)))))) H := by rw [eQN, eQN1]; exact P_of_map hP [0, 1, 2, 3, 4, 5, 6, 7, 8, 11, 12, 9, 10] rfl
      have hD : va_D A (rc8 a q_t Q_t z_t ++ (rc5 a (Q_t 5) Q_t_5 z_t_5 ++ (rc0 a (Q_t_5 1) Q_t_5_1 z_t_5_1 ++ (rb5 a (Q_t 6) 4 B_t_6 ++ (rc5 a q_N Q_N Z0 ++ (rc0 a (Q_N 1) Q_N1 Z0)))))) := by rw [eQN, eQN1]; exact hD.sub [0, 1, 2, 3, 4, 5, 6, 7, 8, 11, 12, 9, 10] (by decide) rfl
      refine W.cs (cells' := 5) (slots' := 40) rfl rfl ?_
      refine lv_astore_n (lv' := [(2, .ref q_N), (0, .ref q_t), (1, .int x1)]) hx hb dX8_image_40 rfl hl (by decide) rfl (fun ls hl => ?_)
      refine lv_aload_n hx hb dX8_image_41 rfl (lv_at hl 1 rfl) ?_
      refine va_get (D := D) (v := .ref (Q_t 6)) (C := RX8) (T := TX8) (N := 11) hx hb hts iX8 hown hK.1 hP 0 rfl rfl 6 (by decide) (hts _ t_306) (fun _ h9 => h9) rfl dX8_image_42 ?_
      refine lv_iload_n hx hb dX8_image_45 rfl (lv_at hl 2 rfl) ?_
      refine lv_aload_n hx hb dX8_image_46 rfl (lv_at hl 0 rfl) ?_
      obtain ⟨g4, h⟩ := gd_some h
      refine ast_q hx hb hK.1 hP hD hS 7 5 8 5 rfl rfl rfl rfl x1.toNatClampNeg (ix_g g4) dX8_image_47 (fun H locs hP hD hS => ?_)
      have hP : va_P D classes (rc8 a q_t Q_t z_t ++ (rc5 a (Q_t 5) Q_t_5 z_t_5 ++ (rc0 a (Q_t_5 1) Q_t_5_1 z_t_5_1 ++ (rb5 a (Q_t 6) 4 (va_up B_t_6 x1.toNatClampNeg (some q_N)) ++ (rc5 a q_N Q_N Z0 ++ (rc0 a (Q_N 1) Q_N1 Z0)))))) H := hP
      have hD : va_D A (rc8 a q_t Q_t z_t ++ (rc5 a (Q_t 5) Q_t_5 z_t_5 ++ (rc0 a (Q_t_5 1) Q_t_5_1 z_t_5_1 ++ (rb5 a (Q_t 6) 4 (va_up B_t_6 x1.toNatClampNeg (some q_N)) ++ (rc5 a q_N Q_N Z0 ++ (rc0 a (Q_N 1) Q_N1 Z0)))))) := hD
      refine lv_aload_n hx hb dX8_image_48 rfl (lv_at hl 0 rfl) ?_
      refine lv_aload_n hx hb dX8_image_49 rfl (lv_at hl 1 rfl) ?_
      refine va_get (D := D) (v := .ref (Q_t 5)) (C := RX8) (T := TX8) (N := 11) hx hb hts iX8 hown hK.1 hP 0 rfl rfl 5 (by decide) (hts _ t_305) (fun _ h9 => h9) rfl dX8_image_50 ?_
      obtain ⟨z6, z7, hc5, h⟩ := bd2_some h
      refine cMv (runV (As := [.ref (Q_t 5)]) (rest := []) C (mX5_copyFrom l D a (q_t := q_N) (q_p1 := (Q_t 5)) (Q_t := Q_N) (Q_t_1 := Q_N1) (Q_p1 := Q_t_5) (Q_p1_1 := Q_t_5_1) hc5 H.size) lk_V_8_300 okN_X5_copyFrom ⟨Nat.le_of_ble_eq_true rfl, Nat.le_of_ble_eq_true rfl⟩ ⟨rfl, rfl⟩ (preV (preM hK (P_of_map (wc := rc5 a q_N Q_N Z0 ++ (rc0 a (Q_N 1) Q_N1 Z0 ++ (rc5 a (Q_t 5) Q_t_5 z_t_5 ++ (rc0 a (Q_t_5 1) Q_t_5_1 z_t_5_1)))) hP [8, 9, 10, 11, 12, 2, 3, 4, 5, 6] rfl) (hD.sub (ws' := rc5 a q_N Q_N Z0 ++ (rc0 a (Q_N 1) Q_N1 Z0 ++ (rc5 a (Q_t 5) Q_t_5 z_t_5 ++ (rc0 a (Q_t_5 1) Q_t_5_1 z_t_5_1)))) [8, 9, 10, 11, 12, 2, 3, 4, 5, 6] (by decide) rfl)) (recvOf hK hP 8 rfl (ci := 5) rfl)) hl.1 rfl (Nat.le_of_ble_eq_true rfl) dX8_image_53 ⟨Nat.le_of_ble_eq_true rfl, Nat.le_of_ble_eq_true rfl⟩) hP hD hS hA [8, 9, 10, 11, 12, 2, 3, 4, 5, 6] [0, 1, 7] [0, 1, 8, 9, 10, 11, 12, 2, 3, 4, 5, 6, 7] rfl rfl (by decide) (by decide) (fw := rc8 a q_t Q_t z_t ++ (rc5 a (Q_t 5) Q_t_5 z_t_5 ++ (rc0 a (Q_t_5 1) Q_t_5_1 z_t_5_1 ++ (rb5 a (Q_t 6) 4 (va_up B_t_6 x1.toNatClampNeg (some q_N)) ++ (rc5 a q_N (va_up Q_N 0 (Q_t_5 0)) z6 ++ (rc0 a (Q_N 1) Q_N1 z7)))))) rfl (by decide) (fun H locs hP hD hS => ?_)
      have hP : va_P D classes (rc8 a q_t Q_t z_t ++ (rc5 a (Q_t 5) Q_t_5 z_t_5 ++ (rc0 a (Q_t_5 1) Q_t_5_1 z_t_5_1 ++ (rb5 a (Q_t 6) 4 (va_up B_t_6 x1.toNatClampNeg (some q_N)) ++ (rc5 a q_N (va_up Q_N 0 (Q_t_5 0)) z6 ++ (rc0 a (Q_N 1) Q_N1 z7)))))) H := hP
      have hD : va_D A (rc8 a q_t Q_t z_t ++ (rc5 a (Q_t 5) Q_t_5 z_t_5 ++ (rc0 a (Q_t_5 1) Q_t_5_1 z_t_5_1 ++ (rb5 a (Q_t 6) 4 (va_up B_t_6 x1.toNatClampNeg (some q_N)) ++ (rc5 a q_N (va_up Q_N 0 (Q_t_5 0)) z6 ++ (rc0 a (Q_N 1) Q_N1 z7)))))) := hD
      refine lv_aload_n hx hb dX8_image_56 rfl (lv_at hl 1 rfl) ?_
      refine va_get (D := D) (v := .ref (Q_t 5)) (C := RX8) (T := TX8) (N := 11) hx hb hts iX8 hown hK.1 hP 0 rfl rfl 5 (by decide) (hts _ t_305) (fun _ h9 => h9) rfl dX8_image_57 ?_
      refine va_get (D := D) (v := .int (gI z_t_5 4)) (C := RX5) (T := TX5) (N := 8) hx hb hts iX5 hown hK.1 hP 2 rfl rfl 4 (by decide) (hts _ t_169) (fun _ h9 => h9) rfl dX8_image_60 ?_
      cases h
      exact retMi C rfl (q_N, Q_N, Q_N1) rfl hP hD hS (Nat.le_of_ble_eq_true rfl) (Nat.le_of_ble_eq_true rfl) dX8_image_63
    · have h := ite_f c2 h
      cases h


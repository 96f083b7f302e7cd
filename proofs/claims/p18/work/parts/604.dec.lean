set_option maxHeartbeats 4000000 in
set_option maxRecDepth 100000 in
theorem mX8_work_fail (l : Launch) (D : va_G) (a : Nat → ClassId) {adK adV : Nat → Nat} {q_t : Nat} {Q_t : Nat → Nat} {z_t : Sx} {Q_t_5 : Nat → Nat} {z_t_5 : Sx} {Q_t_5_1 : Nat → Nat} {z_t_5_1 : Sx} {Q_t_8 : Nat → Nat} {z_t_8 : Sx} {Q_t_8_0 : Nat → Nat} {z_t_8_0 : Sx} {y : Int32 × Sx × Sx × Sx × Sx} (h : fX8_work_fail z_t z_t_5 z_t_5_1 z_t_8 z_t_8_0 = some y) (sz : Nat) : CMsi (S := Unit) l MX8_work 9 220 13 126 D a adK adV [.ref q_t] (rc8 a q_t Q_t z_t ++ (rc5 a (Q_t 5) Q_t_5 z_t_5 ++ (rc0 a (Q_t_5 1) Q_t_5_1 z_t_5_1 ++ (rc4 a (Q_t 8) Q_t_8 z_t_8 ++ (rc6 a (Q_t_8 0) Q_t_8_0 z_t_8_0))))) sz (fun r u => r = y.1) (fun u => rc8 a q_t Q_t y.2.1 ++ (rc5 a (Q_t 5) Q_t_5 y.2.2.1 ++ (rc0 a (Q_t_5 1) Q_t_5_1 y.2.2.2.1 ++ (rc4 a (Q_t 8) Q_t_8 z_t_8 ++ (rc6 a (Q_t_8 0) Q_t_8_0 y.2.2.2.2))))) := by
  unfold fX8_work_fail at h
  refine entMsi (by decide) (Nat.le_of_ble_eq_true rfl) ?_
  intro p e s m below meth c C hK A hA hP hD hV ls hl
  obtain ⟨hx, hb, hml, hown, hts, hr, hlocks, hnm⟩ := id C
  have hb : c.code = cX8_work := hb
  have hown : s.vm.findClass RX8 = some m.cls := hown
  have hS : va_S A s.heap s.heap [] := va_S.rf
  have hl : lv_has ls 3 [(0, .ref q_t)] := hl
  refine lv_aload_n hx hb dX8_work_0 rfl (lv_at hl 0 rfl) ?_
  refine va_get (D := D) (v := .ref (Q_t 8)) (C := RX8) (T := TX8) (N := 11) hx hb hts iX8 hown hK.1 hP 0 rfl rfl 8 (by decide) (hts _ t_308) (fun _ h9 => h9) rfl dX8_work_1 ?_
  refine va_get (D := D) (v := .ref (Q_t_8 0)) (C := RX4) (T := TX4) (N := 8) hx hb hts iX4 hown hK.1 hP 7 rfl rfl 0 (by decide) (hts _ t_243) (fun _ h9 => h9) rfl dX8_work_4 ?_
  refine lv_astore_n (lv' := [(1, .ref (Q_t_8 0)), (0, .ref q_t)]) hx hb dX8_work_7 rfl hl (by decide) rfl (fun ls hl => ?_)
  refine lv_aload_n hx hb dX8_work_8 rfl (lv_at hl 0 rfl) ?_
  refine lv_aload_n hx hb dX8_work_9 rfl (lv_at hl 1 rfl) ?_
  refine va_get (D := D) (v := .ref (Q_t 0)) (C := RX8) (T := TX8) (N := 11) hx hb hts iX8 hown hK.1 hP 0 rfl rfl 0 (by decide) (hts _ t_300) (fun _ h9 => h9) rfl dX8_work_10 ?_
  refine lv_aload_n hx hb dX8_work_13 rfl (lv_at hl 1 rfl) ?_
  refine va_get (D := D) (v := .int (gI z_t 1)) (C := RX8) (T := TX8) (N := 11) hx hb hts iX8 hown hK.1 hP 0 rfl rfl 1 (by decide) (hts _ t_301) (fun _ h9 => h9) rfl dX8_work_14 ?_
  obtain ⟨z2, hc1, h⟩ := bd_some h
  refine cMv (runV (As := [.ref (Q_t 0), .int (gI z_t 1)]) (rest := []) C (mX6_open l D a (q_t := (Q_t_8 0)) (q_p1 := (Q_t 0)) (Q_t := Q_t_8_0) hc1 s.heap.size) lk_V_8_86 okN_X6_open ⟨Nat.le_of_ble_eq_true rfl, Nat.le_of_ble_eq_true rfl⟩ ⟨rfl, rfl⟩ (preV (preMs hK (P_of_map (wc := rc6 a (Q_t_8 0) Q_t_8_0 z_t_8_0 ++ (ra0 a (Q_t 0) 400 (gT z_t 0))) hP [12, 13, 14, 15, 1] rfl) (hD.sub (ws' := rc6 a (Q_t_8 0) Q_t_8_0 z_t_8_0 ++ (ra0 a (Q_t 0) 400 (gT z_t 0))) [12, 13, 14, 15, 1] (by decide) rfl) ((hV.kept hS.2.1).narrow (va_free (wc := rc6 a (Q_t_8 0) Q_t_8_0 z_t_8_0 ++ (ra0 a (Q_t 0) 400 (gT z_t 0))) hD hS hA [12, 13, 14, 15, 1] rfl))) (recvOf hK hP 12 rfl (ci := 6) rfl)) hl.1 rfl (Nat.le_of_ble_eq_true rfl) dX8_work_17 ⟨Nat.le_of_ble_eq_true rfl, Nat.le_of_ble_eq_true rfl⟩) hP hD hS hA [12, 13, 14, 15, 1] [0, 2, 3, 4, 5, 6, 7, 8, 9, 10, 11] [0, 15, 1, 2, 3, 4, 5, 6, 7, 8, 9, 10, 11, 12, 13, 14] rfl rfl (by decide) (by decide) (fw := rc8 a q_t Q_t z_t ++ (rc5 a (Q_t 5) Q_t_5 z_t_5 ++ (rc0 a (Q_t_5 1) Q_t_5_1 z_t_5_1 ++ (rc4 a (Q_t 8) Q_t_8 z_t_8 ++ (rc6 a (Q_t_8 0) Q_t_8_0 z2))))) rfl (by decide) (fun H locs hP hD hS => ?_)
  have hP : va_P D classes (rc8 a q_t Q_t z_t ++ (rc5 a (Q_t 5) Q_t_5 z_t_5 ++ (rc0 a (Q_t_5 1) Q_t_5_1 z_t_5_1 ++ (rc4 a (Q_t 8) Q_t_8 z_t_8 ++ (rc6 a (Q_t_8 0) Q_t_8_0 z2))))) H := hP
  have hD : va_D A (rc8 a q_t Q_t z_t ++ (rc5 a (Q_t 5) Q_t_5 z_t_5 ++ (rc0 a (Q_t_5 1) Q_t_5_1 z_t_5_1 ++ (rc4 a (Q_t 8) Q_t_8 z_t_8 ++ (rc6 a (Q_t_8 0) Q_t_8_0 z2))))) := hD
  refine lv_aload_n hx hb dX8_work_20 rfl (lv_at hl 1 rfl) ?_
  refine lv_iconst (v := 0) hx hb dX8_work_21 (by decide) ?_
  refine va_put (D := D) (v := .int 0) (C := RX8) (T := TX8) (N := 11) hx hb hts iX8 tyX8 tyX8_ok nmX8 hown hK.1 hP hD hS 0 rfl rfl 1 (by decide) (hts _ t_301) (fun _ h9 => h9) rfl (tyX8_ok 1 (by decide)) rfl rfl (Nat.le_of_ble_eq_true rfl) dX8_work_22 (fun H locs hP hD hS => ?_)
  have hP : va_P D classes (rc8 a q_t Q_t (sI z_t 1 0) ++ (rc5 a (Q_t 5) Q_t_5 z_t_5 ++ (rc0 a (Q_t_5 1) Q_t_5_1 z_t_5_1 ++ (rc4 a (Q_t 8) Q_t_8 z_t_8 ++ (rc6 a (Q_t_8 0) Q_t_8_0 z2))))) H := hP
  have hD : va_D A (rc8 a q_t Q_t (sI z_t 1 0) ++ (rc5 a (Q_t 5) Q_t_5 z_t_5 ++ (rc0 a (Q_t_5 1) Q_t_5_1 z_t_5_1 ++ (rc4 a (Q_t 8) Q_t_8 z_t_8 ++ (rc6 a (Q_t_8 0) Q_t_8_0 z2))))) := hD
  refine va_new (ci := 7) (fs := [.int 0, .int 0, .int 0, .int 0, .int 0, .null, .null, .null, .null, .null, .null, .null, .null, .null, .null, .null, .null, .int 0]) (C := RX7) (T := TX7) (N := 18) hx hb hts iX7 tyX7 tyX7_ok hown (hts _ t_31) (hts _ t_32) (hts _ t_3) hK.1 hP hD hS hA rfl (dfX7) (Nat.le_of_ble_eq_true rfl) (Nat.le_of_ble_eq_true rfl) dX8_work_25 (fun q_N H hP hD hS => ?_)
  refine W.cs (cells' := 1) (slots' := 18) rfl rfl ?_
  have hP : va_P D classes (rc8 a q_t Q_t (sI z_t 1 0) ++ (rc5 a (Q_t 5) Q_t_5 z_t_5 ++ (rc0 a (Q_t_5 1) Q_t_5_1 z_t_5_1 ++ (rc4 a (Q_t 8) Q_t_8 z_t_8 ++ (rc6 a (Q_t_8 0) Q_t_8_0 z2 ++ ([(q_N, .inr (7, [.int 0, .int 0, .int 0, .int 0, .int 0, .null, .null, .null, .null, .null, .null, .null, .null, .null, .null, .null, .null, .int 0]))])))))) H := hP
  have hD : va_D A (rc8 a q_t Q_t (sI z_t 1 0) ++ (rc5 a (Q_t 5) Q_t_5 z_t_5 ++ (rc0 a (Q_t_5 1) Q_t_5_1 z_t_5_1 ++ (rc4 a (Q_t 8) Q_t_8 z_t_8 ++ (rc6 a (Q_t_8 0) Q_t_8_0 z2 ++ ([(q_N, .inr (7, [.int 0, .int 0, .int 0, .int 0, .int 0, .null, .null, .null, .null, .null, .null, .null, .null, .null, .null, .null, .null, .int 0]))])))))) := hD
  refine lv_dup hx hb dX8_work_28 rfl ?_
  refine lv_aload_n hx hb dX8_work_29 rfl (lv_at hl 1 rfl) ?_
  refine va_get (D := D) (v := .int (gI z_t 4)) (C := RX8) (T := TX8) (N := 11) hx hb hts iX8 hown hK.1 hP 0 rfl rfl 4 (by decide) (hts _ t_304) (fun _ h9 => h9) rfl dX8_work_30 ?_
  refine lv_iconst (v := 1) hx hb dX8_work_33 (by decide) ?_
  refine lv_iadd hx hb dX8_work_34 ?_
  refine afMv (runI (As := [.int ((gI z_t 4) + 1)]) (rest := [.ref q_N]) C (c_X7_init_0 l D a q_N ((gI z_t 4) + 1) H.size) lk_I_8_33 okN_X7_init ⟨Nat.le_of_ble_eq_true rfl, Nat.le_of_ble_eq_true rfl⟩ ⟨rfl, rfl⟩ (preM hK (P_of_map (wc := [(q_N, .inr (7, [.int 0, .int 0, .int 0, .int 0, .int 0, .null, .null, .null, .null, .null, .null, .null, .null, .null, .null, .null, .null, .int 0]))]) hP [16] rfl) (hD.sub (ws' := [(q_N, .inr (7, [.int 0, .int 0, .int 0, .int 0, .int 0, .null, .null, .null, .null, .null, .null, .null, .null, .null, .null, .null, .null, .int 0]))]) [16] (by decide) rfl)) hl.1 rfl (Nat.le_of_ble_eq_true rfl) dX8_work_35 ⟨Nat.le_of_ble_eq_true rfl, Nat.le_of_ble_eq_true rfl⟩) hP hD hS hA [16] [0, 1, 2, 3, 4, 5, 6, 7, 8, 9, 10, 11, 12, 13, 14, 15] (wr := rc8 a q_t Q_t (sI z_t 1 0) ++ (rc5 a (Q_t 5) Q_t_5 z_t_5 ++ (rc0 a (Q_t_5 1) Q_t_5_1 z_t_5_1 ++ (rc4 a (Q_t 8) Q_t_8 z_t_8 ++ (rc6 a (Q_t_8 0) Q_t_8_0 z2))))) rfl rfl (by decide) (by decide) (fun u H locs hw hP hD hS => ?_)
  obtain ⟨q1001, q1002, q1003, q1004, q1005, q1006, q1007, q1008, q1009, q1010, q1011, q1012, rfl⟩ := hw
  obtain ⟨Q_N, eQN⟩ : ∃ Q : Nat → Nat, Q = (fun k => [0, 0, 0, 0, 0, q1001, q1002, q1003, q1004, q1005, q1006, q1007, q1008, q1009, q1010, q1011, q1012, 0].getD k 0) := ⟨_, rfl⟩
  have hP : va_P D classes (rc8 a q_t Q_t (sI z_t 1 0) ++ (rc5 a (Q_t 5) Q_t_5 z_t_5 ++ (rc0 a (Q_t_5 1) Q_t_5_1 z_t_5_1 ++ (rc4 a (Q_t 8) Q_t_8 z_t_8 ++ (rc6 a (Q_t_8 0) Q_t_8_0 z2 ++ (rc7 a q_N Q_N (sI Z0 0 ((gI z_t 4) + 1)))))))) H := by rw [eQN]; exact P_of_map hP [0, 1, 2, 3, 4, 5, 6, 7, 8, 9, 10, 11, 12, 13, 14, 15, 16, 17, 18, 19, 20, 21, 22, 23, 24, 25, 26, 27, 28] rfl
  have hD : va_D A (rc8 a q_t Q_t (sI z_t 1 0) ++ (rc5 a (Q_t 5) Q_t_5 z_t_5 ++ (rc0 a (Q_t_5 1) Q_t_5_1 z_t_5_1 ++ (rc4 a (Q_t 8) Q_t_8 z_t_8 ++ (rc6 a (Q_t_8 0) Q_t_8_0 z2 ++ (rc7 a q_N Q_N (sI Z0 0 ((gI z_t 4) + 1)))))))) := by rw [eQN]; exact hD.sub [0, 1, 2, 3, 4, 5, 6, 7, 8, 9, 10, 11, 12, 13, 14, 15, 16, 17, 18, 19, 20, 21, 22, 23, 24, 25, 26, 27, 28] (by decide) rfl
  refine W.cs (cells' := 13) (slots' := 126) rfl rfl ?_
  refine lv_astore_n (lv' := [(2, .ref q_N), (1, .ref (Q_t_8 0)), (0, .ref q_t)]) hx hb dX8_work_38 rfl hl (by decide) rfl (fun ls hl => ?_)
  refine lv_aload_n hx hb dX8_work_39 rfl (lv_at hl 0 rfl) ?_
  refine lv_aload_n hx hb dX8_work_40 rfl (lv_at hl 1 rfl) ?_
  obtain ⟨z4, z5, hc3, h⟩ := bd2_some h
  refine cMv (runV (As := [.ref (Q_t_8 0)]) (rest := []) C (mX7_readFrom l D a (q_t := q_N) (q_p1 := (Q_t_8 0)) (Q_t := Q_N) (Q_p1 := Q_t_8_0) hc3 H.size) lk_V_8_92 okN_X7_readFrom ⟨Nat.le_of_ble_eq_true rfl, Nat.le_of_ble_eq_true rfl⟩ ⟨rfl, rfl⟩ (preV (preM hK (P_of_map (wc := rc7 a q_N Q_N (sI Z0 0 ((gI z_t 4) + 1)) ++ (rc6 a (Q_t_8 0) Q_t_8_0 z2)) hP [16, 17, 18, 19, 20, 21, 22, 23, 24, 25, 26, 27, 28, 12, 13, 14, 15] rfl) (hD.sub (ws' := rc7 a q_N Q_N (sI Z0 0 ((gI z_t 4) + 1)) ++ (rc6 a (Q_t_8 0) Q_t_8_0 z2)) [16, 17, 18, 19, 20, 21, 22, 23, 24, 25, 26, 27, 28, 12, 13, 14, 15] (by decide) rfl)) (recvOf hK hP 16 rfl (ci := 7) rfl)) hl.1 rfl (Nat.le_of_ble_eq_true rfl) dX8_work_41 ⟨Nat.le_of_ble_eq_true rfl, Nat.le_of_ble_eq_true rfl⟩) hP hD hS hA [16, 17, 18, 19, 20, 21, 22, 23, 24, 25, 26, 27, 28, 12, 13, 14, 15] [0, 1, 2, 3, 4, 5, 6, 7, 8, 9, 10, 11] [0, 1, 2, 3, 4, 5, 6, 7, 8, 9, 10, 11, 25, 26, 27, 28, 12, 13, 14, 15, 16, 17, 18, 19, 20, 21, 22, 23, 24] rfl rfl (by decide) (by decide) (fw := rc8 a q_t Q_t (sI z_t 1 0) ++ (rc5 a (Q_t 5) Q_t_5 z_t_5 ++ (rc0 a (Q_t_5 1) Q_t_5_1 z_t_5_1 ++ (rc4 a (Q_t 8) Q_t_8 z_t_8 ++ (rc6 a (Q_t_8 0) Q_t_8_0 z5 ++ (rc7 a q_N Q_N z4)))))) rfl (by decide) (fun H locs hP hD hS => ?_)
  have hP : va_P D classes (rc8 a q_t Q_t (sI z_t 1 0) ++ (rc5 a (Q_t 5) Q_t_5 z_t_5 ++ (rc0 a (Q_t_5 1) Q_t_5_1 z_t_5_1 ++ (rc4 a (Q_t 8) Q_t_8 z_t_8 ++ (rc6 a (Q_t_8 0) Q_t_8_0 z5 ++ (rc7 a q_N Q_N z4)))))) H := hP
  have hD : va_D A (rc8 a q_t Q_t (sI z_t 1 0) ++ (rc5 a (Q_t 5) Q_t_5 z_t_5 ++ (rc0 a (Q_t_5 1) Q_t_5_1 z_t_5_1 ++ (rc4 a (Q_t 8) Q_t_8 z_t_8 ++ (rc6 a (Q_t_8 0) Q_t_8_0 z5 ++ (rc7 a q_N Q_N z4)))))) := hD
  refine lv_aload_n hx hb dX8_work_44 rfl (lv_at hl 1 rfl) ?_
  refine va_get (D := D) (v := .int (gI z5 8)) (C := RX6) (T := TX6) (N := 9) hx hb hts iX6 hown hK.1 hP 12 rfl rfl 8 (by decide) (hts _ t_221) (fun _ h9 => h9) rfl dX8_work_45 ?_
  refine lv_if_eq (tgt := 59) hx hb dX8_work_48 (by decide) (fun c6 => ?_) (fun c6 => ?_)
  · have h := ite_t c6 h
    cases h
  · have h := ite_f c6 h
    refine lv_bipush (v := (-2)) hx hb dX8_work_51 (by decide) ?_
    refine lv_aload_n hx hb dX8_work_53 rfl (lv_at hl 1 rfl) ?_
    refine va_get (D := D) (v := .int (gI z5 8)) (C := RX6) (T := TX6) (N := 9) hx hb hts iX6 hown hK.1 hP 12 rfl rfl 8 (by decide) (hts _ t_221) (fun _ h9 => h9) rfl dX8_work_54 ?_
    refine lv_isub hx hb dX8_work_57 ?_
    obtain rfl := Option.some.inj h
    have hP := P_of_map (wc := rc8 a q_t Q_t (sI z_t 1 0) ++ (rc5 a (Q_t 5) Q_t_5 z_t_5 ++ (rc0 a (Q_t_5 1) Q_t_5_1 z_t_5_1 ++ (rc4 a (Q_t 8) Q_t_8 z_t_8 ++ (rc6 a (Q_t_8 0) Q_t_8_0 z5))))) hP [0, 1, 2, 3, 4, 5, 6, 7, 8, 9, 10, 11, 12, 13, 14, 15] rfl
    have hD := hD.sub (ws' := rc8 a q_t Q_t (sI z_t 1 0) ++ (rc5 a (Q_t 5) Q_t_5 z_t_5 ++ (rc0 a (Q_t_5 1) Q_t_5_1 z_t_5_1 ++ (rc4 a (Q_t 8) Q_t_8 z_t_8 ++ (rc6 a (Q_t_8 0) Q_t_8_0 z5))))) [0, 1, 2, 3, 4, 5, 6, 7, 8, 9, 10, 11, 12, 13, 14, 15] (by decide) rfl
    exact retMi C rfl () rfl hP hD hS (Nat.le_of_ble_eq_true rfl) (Nat.le_of_ble_eq_true rfl) dX8_work_58


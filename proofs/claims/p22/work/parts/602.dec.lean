

set_option maxHeartbeats 4000000 in
set_option maxRecDepth 100000 in
theorem mX8_work_fail (l : Launch) (D : va_G) (a : Nat → ClassId) {adK adV : Nat → Nat} {q_t : Nat} {Q_t : Nat → Nat} {z_t : Sx} {Q_t_5 : Nat → Nat} {z_t_5 : Sx} {Q_t_5_1 : Nat → Nat} {z_t_5_1 : Sx} {Q_t_8 : Nat → Nat} {z_t_8 : Sx} {Q_t_8_0 : Nat → Nat} {z_t_8_0 : Sx} {y : Int32 × Sx × Sx × Sx × Sx} (h : fX8_work_fail z_t z_t_5 z_t_5_1 z_t_8 z_t_8_0 = some y) (sz : Nat) : CMsi (S := Unit) l MX8_work 9 220 13 126 D a adK adV [.ref q_t] (rc8 a q_t Q_t z_t ++ (rc5 a (Q_t 5) Q_t_5 z_t_5 ++ (rc0 a (Q_t_5 1) Q_t_5_1 z_t_5_1 ++ (rc4 a (Q_t 8) Q_t_8 z_t_8 ++ (rc6 a (Q_t_8 0) Q_t_8_0 z_t_8_0))))) sz (fun r u => r = y.1) (fun u => rc8 a q_t Q_t y.2.1 ++ (rc5 a (Q_t 5) Q_t_5 y.2.2.1 ++ (rc0 a (Q_t_5 1) Q_t_5_1 y.2.2.2.1 ++ (rc4 a (Q_t 8) Q_t_8 z_t_8 ++ (rc6 a (Q_t_8 0) Q_t_8_0 y.2.2.2.2))))) := by
  unfold fX8_work_fail at h
  refine entMsi (by decide) (Nat.le_of_ble_eq_true rfl) ?_
  intro p e s m below meth c C hK A hA hP hD hV ls hl
  obtain ⟨hx, hb, hml, hown, hts, hr, hlocks, hnm⟩ := id C
  have hb : c.code = cX8_work := hb
  have hown : s.vm.findClass RX8 = some m.cls := hown
  have hS : va_S A s.heap s.heap [] := va_S.rf
  have hl : lv_has ls 3 [(0, .ref q_t)] := hl
  refine lv_aload_n hx hb dX8_work_0 rfl (lv_at hl 0 rfl) ?_
  refine va_get (D := D) (v := .ref (Q_t 8)) (C := RX8) (T := TX8) (N := 11) hx hb hts iX8 hown hK.1 hP 0 rfl rfl 8 (by decide) (hts _ t_308) (fun _ h9 => h9) rfl dX8_work_1 ?_
  refine va_get (D := D) (v := .ref (Q_t_8 0)) (C := RX4) (T := TX4) (N := 8) hx hb hts iX4 hown hK.1 hP 7 rfl rfl 0 (by decide) (hts _ t_243) (fun _ h9 => h9) rfl dX8_work_4 ?_
  refine lv_astore_n (lv' := [(1, .ref (Q_t_8 0)), (0, .ref q_t)]) hx hb dX8_work_7 rfl hl (by decide) rfl (fun ls hl => ?_)
  refine lv_aload_n hx hb dX8_work_8 rfl (lv_at hl 0 rfl) ?_
  refine lv_aload_n hx hb dX8_work_9 rfl (lv_at hl 1 rfl) ?_
  refine va_get (D := D) (v := .ref (Q_t 0)) (C := RX8) (T := TX8) (N := 11) hx hb hts iX8 hown hK.1 hP 0 rfl rfl 0 (by decide) (hts _ t_300) (fun _ h9 => h9) rfl dX8_work_10 ?_
  refine lv_aload_n hx hb dX8_work_13 rfl (lv_at hl 1 rfl) ?_
  refine va_get (D := D) (v := .int (gI z_t 1)) (C := RX8) (T := TX8) (N := 11) hx hb hts iX8 hown hK.1 hP 0 rfl rfl 1 (by decide) (hts _ t_301) (fun _ h9 => h9) rfl dX8_work_14 ?_
  obtain ⟨z2, hc1, h⟩ := bd_some h
  refine cMv (runV (As := [.ref (Q_t 0), .int (gI z_t 1)]) (rest := []) C (mX6_open l D a (q_t := (Q_t_8 0)) (q_p1 := (Q_t 0)) (Q_t := Q_t_8_0) hc1 s.heap.size) lk_V_8_86 okN_X6_open ⟨Nat.le_of_ble_eq_true rfl, Nat.le_of_ble_eq_true rfl⟩ ⟨rfl, rfl⟩ (preV (preMs hK (P_of_map (wc := rc6 a (Q_t_8 0) Q_t_8_0 z_t_8_0 ++ (ra0 a (Q_t 0) 400 (gT z_t 0))) hP [12, 13, 14, 15, 1] rfl) (hD.sub (ws' := rc6 a (Q_t_8 0) Q_t_8_0 z_t_8_0 ++ (ra0 a (Q_t 0) 400 (gT z_t 0))) [12, 13, 14, 15, 1] (by decide) rfl) ((hV.kept hS.2.1).narrow (va_free (wc := rc6 a (Q_t_8 0) Q_t_8_0 z_t_8_0 ++ (ra0 a (Q_t 0) 400 (gT z_t 0))) hD hS hA [12, 13, 14, 15, 1] rfl))) (recvOf hK hP 12 rfl (ci := 6) rfl)) hl.1 rfl (Nat.le_of_ble_eq_true rfl) dX8_work_17 ⟨Nat.le_of_ble_eq_true rfl, Nat.le_of_ble_eq_true rfl⟩) hP hD hS hA [12, 13, 14, 15, 1] [0, 2, 3, 4, 5, 6, 7, 8, 9, 10, 11] [0, 15, 1, 2, 3, 4, 5, 6, 7, 8, 9, 10, 11, 12, 13, 14] rfl rfl (by decide) (by decide) (fw := rc8 a q_t Q_t z_t ++ (rc5 a (Q_t 5) Q_t_5 z_t_5 ++ (rc0 a (Q_t_5 1) Q_t_5_1 z_t_5_1 ++ (rc4 a (Q_t 8) Q_t_8 z_t_8 ++ (rc6 a (Q_t_8 0) Q_t_8_0 z2))))) rfl (by decide) (fun H locs hP hD hS => ?_)
  have hP : va_P D classes (rc8 a q_t Q_t z_t ++ (rc5 a (Q_t 5) Q_t_5 z_t_5 ++ (rc0 a (Q_t_5 1) Q_t_5_1 z_t_5_1 ++ (rc4 a (Q_t 8) Q_t_8 z_t_8 ++ (rc6 a (Q_t_8 0) Q_t_8_0 z2))))) H := hP
  have hD : va_D A (rc8 a q_t Q_t z_t ++ (rc5 a (Q_t 5) Q_t_5 z_t_5 ++ (rc0 a (Q_t_5 1) Q_t_5_1 z_t_5_1 ++ (rc4 a (Q_t 8) Q_t_8 z_t_8 ++ (rc6 a (Q_t_8 0) Q_t_8_0 z2))))) := hD
  refine lv_aload_n hx hb dX8_work_20 rfl (lv_at hl 1 rfl) ?_
  refine lv_iconst (v := 0) hx hb dX8_work_21 (by decide) ?_
  refine va_put (D := D) (v := .int 0) (C := RX8) (T := TX8) (N := 11) hx hb hts iX8 tyX8 tyX8_ok nmX8 hown hK.1 hP hD hS 0 rfl rfl 1 (by decide) (hts _ t_301) (fun _ h9 => h9) rfl (tyX8_ok 1 (by decide)) rfl rfl (Nat.le_of_ble_eq_true rfl) dX8_work_22 (fun H locs hP hD hS => ?_)
  have hP : va_P D classes (rc8 a q_t Q_t (sI z_t 1 0) ++ (rc5 a (Q_t 5) Q_t_5 z_t_5 ++ (rc0 a (Q_t_5 1) Q_t_5_1 z_t_5_1 ++ (rc4 a (Q_t 8) Q_t_8 z_t_8 ++ (rc6 a (Q_t_8 0) Q_t_8_0 z2))))) H := hP
  have hD : va_D A (rc8 a q_t Q_t (sI z_t 1 0) ++ (rc5 a (Q_t 5) Q_t_5 z_t_5 ++ (rc0 a (Q_t_5 1) Q_t_5_1 z_t_5_1 ++ (rc4 a (Q_t 8) Q_t_8 z_t_8 ++ (rc6 a (Q_t_8 0) Q_t_8_0 z2))))) := hD
  refine va_new (ci := 7) (fs := [.int 0, .int 0, .int 0, .int 0, .int 0, .null, .null, .null, .null, .null, .null, .null, .null, .null, .null, .null, .null, .int 0]) (C := RX7) (T := TX7) (N := 18) hx hb hts iX7 tyX7 tyX7_ok hown (hts _ t_31) (hts _ t_32) (hts _ t_3) hK.1 hP hD hS hA rfl (dfX7) (Nat.le_of_ble_eq_true rfl) (Nat.le_of_ble_eq_true rfl) dX8_work_25 (fun q_N H hP hD hS => ?_)
  refine W.cs (cells' := 1) (slots' := 18) rfl rfl ?_
  have hP : va_P D classes (rc8 a q_t Q_t (sI z_t 1 0) ++ (rc5 a (Q_t 5) Q_t_5 z_t_5 ++ (rc0 a (Q_t_5 1) Q_t_5_1 z_t_5_1 ++ (rc4 a (Q_t 8) Q_t_8 z_t_8 ++ (rc6 a (Q_t_8 0) Q_t_8_0 z2 ++ ([(q_N, .inr (7, [.int 0, .int 0, .int 0, .int 0, .int 0, .null, .null, .null, .null, .null, .null, .null, .null, .null, .null, .null, .null, .int 0]))])))))) H := hP
  have hD : va_D A (rc8 a q_t Q_t (sI z_t 1 0) ++ (rc5 a (Q_t 5) Q_t_5 z_t_5 ++ (rc0 a (Q_t_5 1) Q_t_5_1 z_t_5_1 ++ (rc4 a (Q_t 8) Q_t_8 z_t_8 ++ (rc6 a (Q_t_8 0) Q_t_8_0 z2 ++ ([(q_N, .inr (7, [.int 0, .int 0, .int 0, .int 0, .int 0, .null, .null, .null, .null, .null, .null, .null, .null, .null, .null, .null, .null, .int 0]))])))))) := hD
  refine lv_dup hx hb dX8_work_28 rfl ?_
  refine lv_aload_n hx hb dX8_work_29 rfl (lv_at hl 1 rfl) ?_
  refine va_get (D := D) (v := .int (gI z_t 4)) (C := RX8) (T := TX8) (N := 11) hx hb hts iX8 hown hK.1 hP 0 rfl rfl 4 (by decide) (hts _ t_304) (fun _ h9 => h9) rfl dX8_work_30 ?_
  refine lv_iconst (v := 1) hx hb dX8_work_33 (by decide) ?_
  refine lv_iadd hx hb dX8_work_34 ?_
  refine afMv (runI (As := [.int ((gI z_t 4) + 1)]) (rest := [.ref q_N]) C (c_X7_init_0 l D a q_N ((gI z_t 4) + 1) H.size) lk_I_8_33 okN_X7_init ⟨Nat.le_of_ble_eq_true rfl, Nat.le_of_ble_eq_true rfl⟩ ⟨rfl, rfl⟩ (preM hK (P_of_map (wc := [(q_N, .inr (7, [.int 0, .int 0, .int 0, .int 0, .int 0, .null, .null, .null, .null, .null, .null, .null, .null, .null, .null, .null, .null, .int 0]))]) hP [16] rfl) (hD.sub (ws' := [(q_N, .inr (7, [.int 0, .int 0, .int 0, .int 0, .int 0, .null, .null, .null, .null, .null, .null, .null, .null, .null, .null, .null, .null, .int 0]))]) [16] (by decide) rfl)) hl.1 rfl (Nat.le_of_ble_eq_true rfl) dX8_work_35 ⟨Nat.le_of_ble_eq_true rfl, Nat.le_of_ble_eq_true rfl⟩) hP hD hS hA [16] [0, 1, 2, 3, 4, 5, 6, 7, 8, 9, 10, 11, 12, 13, 14, 15] (wr := rc8 a q_t Q_t (sI z_t 1 0) ++ (rc5 a (Q_t 5) Q_t_5 z_t_5 ++ (rc0 a (Q_t_5 1) Q_t_5_1 z_t_5_1 ++ (rc4 a (Q_t 8) Q_t_8 z_t_8 ++ (rc6 a (Q_t_8 0) Q_t_8_0 z2))))) rfl rfl (by decide) (by decide) (fun u H locs hw hP hD hS => ?_)
  obtain ⟨q1001, q1002, q1003, q1004, q1005, q1006, q1007, q1008, q1009, q1010, q1011, q1012, rfl⟩ := hw
  obtain ⟨Q_N, eQN⟩ : ∃ Q : Nat → Nat, Q = (fun k => [0, 0, 0, 0, 0, q1001, q1002, q1003, q1004, q1005, q1006, q1007, q1008, q1009, q1010, q1011, q1012, 0].getD k 0) := ⟨_, rfl⟩
  have hP : va_P D classes (rc8 a q_t Q_t (sI z_t 1 0) ++ (rc5 a (Q_t 5) Q_t_5 z_t_5 ++ (rc0 a (Q_t_5 1) Q_t_5_1 z_t_5_1 ++ (rc4 a (Q_t 8) Q_t_8 z_t_8 ++ (rc6 a (Q_t_8 0) Q_t_8_0 z2 ++ (rc7 a q_N Q_N (sI Z0 0 ((gI z_t 4) + 1)))))))) H := by rw [eQN]; exact P_of_map hP [0, 1, 2, 3, 4, 5, 6, 7, 8, 9, 10, 11, 12, 13, 14, 15, 16, 17, 18, 19, 20, 21, 22, 23, 24, 25, 26, 27, 28] rfl
  have hD : va_D A (rc8 a q_t Q_t (sI z_t 1 0) ++ (rc5 a (Q_t 5) Q_t_5 z_t_5 ++ (rc0 a (Q_t_5 1) Q_t_5_1 z_t_5_1 ++ (rc4 a (Q_t 8) Q_t_8 z_t_8 ++ (rc6 a (Q_t_8 0) Q_t_8_0 z2 ++ (rc7 a q_N Q_N (sI Z0 0 ((gI z_t 4) + 1)))))))) := by rw [eQN]; exact hD.sub [0, 1, 2, 3, 4, 5, 6, 7, 8, 9, 10, 11, 12, 13, 14, 15, 16, 17, 18, 19, 20, 21, 22, 23, 24, 25, 26, 27, 28] (by decide) rfl
  refine W.cs (cells' := 13) (slots' := 126) rfl rfl ?_
  refine lv_astore_n (lv' := [(2, .ref q_N), (1, .ref (Q_t_8 0)), (0, .ref q_t)]) hx hb dX8_work_38 rfl hl (by decide) rfl (fun ls hl => ?_)
  refine lv_aload_n hx hb dX8_work_39 rfl (lv_at hl 0 rfl) ?_
  refine lv_aload_n hx hb dX8_work_40 rfl (lv_at hl 1 rfl) ?_
  obtain ⟨z4, z5, hc3, h⟩ := bd2_some h
  refine cMv (runV (As := [.ref (Q_t_8 0)]) (rest := []) C (mX7_readFrom l D a (q_t := q_N) (q_p1 := (Q_t_8 0)) (Q_t := Q_N) (Q_p1 := Q_t_8_0) hc3 H.size) lk_V_8_92 okN_X7_readFrom ⟨Nat.le_of_ble_eq_true rfl, Nat.le_of_ble_eq_true rfl⟩ ⟨rfl, rfl⟩ (preV (preM hK (P_of_map (wc := rc7 a q_N Q_N (sI Z0 0 ((gI z_t 4) + 1)) ++ (rc6 a (Q_t_8 0) Q_t_8_0 z2)) hP [16, 17, 18, 19, 20, 21, 22, 23, 24, 25, 26, 27, 28, 12, 13, 14, 15] rfl) (hD.sub (ws' := rc7 a q_N Q_N (sI Z0 0 ((gI z_t 4) + 1)) ++ (rc6 a (Q_t_8 0) Q_t_8_0 z2)) [16, 17, 18, 19, 20, 21, 22, 23, 24, 25, 26, 27, 28, 12, 13, 14, 15] (by decide) rfl)) (recvOf hK hP 16 rfl (ci := 7) rfl)) hl.1 rfl (Nat.le_of_ble_eq_true rfl) dX8_work_41 ⟨Nat.le_of_ble_eq_true rfl, Nat.le_of_ble_eq_true rfl⟩) hP hD hS hA [16, 17, 18, 19, 20, 21, 22, 23, 24, 25, 26, 27, 28, 12, 13, 14, 15] [0, 1, 2, 3, 4, 5, 6, 7, 8, 9, 10, 11] [0, 1, 2, 3, 4, 5, 6, 7, 8, 9, 10, 11, 25, 26, 27, 28, 12, 13, 14, 15, 16, 17, 18, 19, 20, 21, 22, 23, 24] rfl rfl (by decide) (by decide) (fw := rc8 a q_t Q_t (sI z_t 1 0) ++ (rc5 a (Q_t 5) Q_t_5 z_t_5 ++ (rc0 a (Q_t_5 1) Q_t_5_1 z_t_5_1 ++ (rc4 a (Q_t 8) Q_t_8 z_t_8 ++ (rc6 a (Q_t_8 0) Q_t_8_0 z5 ++ (rc7 a q_N Q_N z4)))))) rfl (by decide) (fun H locs hP hD hS => ?_)
  have hP : va_P D classes (rc8 a q_t Q_t (sI z_t 1 0) ++ (rc5 a (Q_t 5) Q_t_5 z_t_5 ++ (rc0 a (Q_t_5 1) Q_t_5_1 z_t_5_1 ++ (rc4 a (Q_t 8) Q_t_8 z_t_8 ++ (rc6 a (Q_t_8 0) Q_t_8_0 z5 ++ (rc7 a q_N Q_N z4)))))) H := hP
  have hD : va_D A (rc8 a q_t Q_t (sI z_t 1 0) ++ (rc5 a (Q_t 5) Q_t_5 z_t_5 ++ (rc0 a (Q_t_5 1) Q_t_5_1 z_t_5_1 ++ (rc4 a (Q_t 8) Q_t_8 z_t_8 ++ (rc6 a (Q_t_8 0) Q_t_8_0 z5 ++ (rc7 a q_N Q_N z4)))))) := hD
  refine lv_aload_n hx hb dX8_work_44 rfl (lv_at hl 1 rfl) ?_
  refine va_get (D := D) (v := .int (gI z5 8)) (C := RX6) (T := TX6) (N := 9) hx hb hts iX6 hown hK.1 hP 12 rfl rfl 8 (by decide) (hts _ t_221) (fun _ h9 => h9) rfl dX8_work_45 ?_
  refine lv_if_eq (tgt := 59) hx hb dX8_work_48 (by decide) (fun c6 => ?_) (fun c6 => ?_)
  · have h := ite_t c6 h
    cases h
  · have h := ite_f c6 h
    refine lv_bipush (v := (-2)) hx hb dX8_work_51 (by decide) ?_
    refine lv_aload_n hx hb dX8_work_53 rfl (lv_at hl 1 rfl) ?_
    refine va_get (D := D) (v := .int (gI z5 8)) (C := RX6) (T := TX6) (N := 9) hx hb hts iX6 hown hK.1 hP 12 rfl rfl 8 (by decide) (hts _ t_221) (fun _ h9 => h9) rfl dX8_work_54 ?_
    refine lv_isub hx hb dX8_work_57 ?_
    cases h
    have hP := P_of_map (wc := rc8 a q_t Q_t (sI z_t 1 0) ++ (rc5 a (Q_t 5) Q_t_5 z_t_5 ++ (rc0 a (Q_t_5 1) Q_t_5_1 z_t_5_1 ++ (rc4 a (Q_t 8) Q_t_8 z_t_8 ++ (rc6 a (Q_t_8 0) Q_t_8_0 z5))))) hP [0, 1, 2, 3, 4, 5, 6, 7, 8, 9, 10, 11, 12, 13, 14, 15] rfl
    have hD := hD.sub (ws' := rc8 a q_t Q_t (sI z_t 1 0) ++ (rc5 a (Q_t 5) Q_t_5 z_t_5 ++ (rc0 a (Q_t_5 1) Q_t_5_1 z_t_5_1 ++ (rc4 a (Q_t 8) Q_t_8 z_t_8 ++ (rc6 a (Q_t_8 0) Q_t_8_0 z5))))) [0, 1, 2, 3, 4, 5, 6, 7, 8, 9, 10, 11, 12, 13, 14, 15] (by decide) rfl
    exact retMi C rfl () rfl hP hD hS (Nat.le_of_ble_eq_true rfl) (Nat.le_of_ble_eq_true rfl) dX8_work_58

set_option maxHeartbeats 4000000 in
set_option maxRecDepth 100000 in
theorem mX8_work_ok (l : Launch) (D : va_G) (a : Nat → ClassId) {adK adV : Nat → Nat} {q_t : Nat} {Q_t : Nat → Nat} {z_t : Sx} {Q_t_5 : Nat → Nat} {z_t_5 : Sx} {Q_t_5_1 : Nat → Nat} {z_t_5_1 : Sx} {Q_t_8 : Nat → Nat} {z_t_8 : Sx} {Q_t_8_0 : Nat → Nat} {z_t_8_0 : Sx} {y : Int32 × Sx × Sx × Sx × Sx × Sx} (h : fX8_work_ok z_t z_t_5 z_t_5_1 z_t_8 z_t_8_0 = some y) (sz : Nat) : CMsi (S := Nat × (Nat → Nat)) l MX8_work 9 220 13 126 D a adK adV [.ref q_t] (rc8 a q_t Q_t z_t ++ (rc5 a (Q_t 5) Q_t_5 z_t_5 ++ (rc0 a (Q_t_5 1) Q_t_5_1 z_t_5_1 ++ (rc4 a (Q_t 8) Q_t_8 z_t_8 ++ (rc6 a (Q_t_8 0) Q_t_8_0 z_t_8_0))))) sz (fun r u => r = y.1) (fun u => rc8 a q_t Q_t y.2.1 ++ (rc5 a (Q_t 5) (va_up Q_t_5 0 u.1) y.2.2.1 ++ (rc0 a (Q_t_5 1) Q_t_5_1 y.2.2.2.1 ++ (rc4 a (Q_t 8) Q_t_8 z_t_8 ++ (rc6 a (Q_t_8 0) Q_t_8_0 y.2.2.2.2.1 ++ (rc7 a u.1 u.2 y.2.2.2.2.2)))))) := by
  unfold fX8_work_ok at h
  refine entMsi (by decide) (Nat.le_of_ble_eq_true rfl) ?_
  intro p e s m below meth c C hK A hA hP hD hV ls hl
  obtain ⟨hx, hb, hml, hown, hts, hr, hlocks, hnm⟩ := id C
  have hb : c.code = cX8_work := hb
  have hown : s.vm.findClass RX8 = some m.cls := hown
  have hS : va_S A s.heap s.heap [] := va_S.rf
  have hl : lv_has ls 3 [(0, .ref q_t)] := hl
  refine lv_aload_n hx hb dX8_work_0 rfl (lv_at hl 0 rfl) ?_
  refine va_get (D := D) (v := .ref (Q_t 8)) (C := RX8) (T := TX8) (N := 11) hx hb hts iX8 hown hK.1 hP 0 rfl rfl 8 (by decide) (hts _ t_308) (fun _ h9 => h9) rfl dX8_work_1 ?_
  refine va_get (D := D) (v := .ref (Q_t_8 0)) (C := RX4) (T := TX4) (N := 8) hx hb hts iX4 hown hK.1 hP 7 rfl rfl 0 (by decide) (hts _ t_243) (fun _ h9 => h9) rfl dX8_work_4 ?_
  refine lv_astore_n (lv' := [(1, .ref (Q_t_8 0)), (0, .ref q_t)]) hx hb dX8_work_7 rfl hl (by decide) rfl (fun ls hl => ?_)
  refine lv_aload_n hx hb dX8_work_8 rfl (lv_at hl 0 rfl) ?_
  refine lv_aload_n hx hb dX8_work_9 rfl (lv_at hl 1 rfl) ?_
  refine va_get (D := D) (v := .ref (Q_t 0)) (C := RX8) (T := TX8) (N := 11) hx hb hts iX8 hown hK.1 hP 0 rfl rfl 0 (by decide) (hts _ t_300) (fun _ h9 => h9) rfl dX8_work_10 ?_
  refine lv_aload_n hx hb dX8_work_13 rfl (lv_at hl 1 rfl) ?_
  refine va_get (D := D) (v := .int (gI z_t 1)) (C := RX8) (T := TX8) (N := 11) hx hb hts iX8 hown hK.1 hP 0 rfl rfl 1 (by decide) (hts _ t_301) (fun _ h9 => h9) rfl dX8_work_14 ?_
  obtain ⟨z2, hc1, h⟩ := bd_some h
  refine cMv (runV (As := [.ref (Q_t 0), .int (gI z_t 1)]) (rest := []) C (mX6_open l D a (q_t := (Q_t_8 0)) (q_p1 := (Q_t 0)) (Q_t := Q_t_8_0) hc1 s.heap.size) lk_V_8_86 okN_X6_open ⟨Nat.le_of_ble_eq_true rfl, Nat.le_of_ble_eq_true rfl⟩ ⟨rfl, rfl⟩ (preV (preMs hK (P_of_map (wc := rc6 a (Q_t_8 0) Q_t_8_0 z_t_8_0 ++ (ra0 a (Q_t 0) 400 (gT z_t 0))) hP [12, 13, 14, 15, 1] rfl) (hD.sub (ws' := rc6 a (Q_t_8 0) Q_t_8_0 z_t_8_0 ++ (ra0 a (Q_t 0) 400 (gT z_t 0))) [12, 13, 14, 15, 1] (by decide) rfl) ((hV.kept hS.2.1).narrow (va_free (wc := rc6 a (Q_t_8 0) Q_t_8_0 z_t_8_0 ++ (ra0 a (Q_t 0) 400 (gT z_t 0))) hD hS hA [12, 13, 14, 15, 1] rfl))) (recvOf hK hP 12 rfl (ci := 6) rfl)) hl.1 rfl (Nat.le_of_ble_eq_true rfl) dX8_work_17 ⟨Nat.le_of_ble_eq_true rfl, Nat.le_of_ble_eq_true rfl⟩) hP hD hS hA [12, 13, 14, 15, 1] [0, 2, 3, 4, 5, 6, 7, 8, 9, 10, 11] [0, 15, 1, 2, 3, 4, 5, 6, 7, 8, 9, 10, 11, 12, 13, 14] rfl rfl (by decide) (by decide) (fw := rc8 a q_t Q_t z_t ++ (rc5 a (Q_t 5) Q_t_5 z_t_5 ++ (rc0 a (Q_t_5 1) Q_t_5_1 z_t_5_1 ++ (rc4 a (Q_t 8) Q_t_8 z_t_8 ++ (rc6 a (Q_t_8 0) Q_t_8_0 z2))))) rfl (by decide) (fun H locs hP hD hS => ?_)
  have hP : va_P D classes (rc8 a q_t Q_t z_t ++ (rc5 a (Q_t 5) Q_t_5 z_t_5 ++ (rc0 a (Q_t_5 1) Q_t_5_1 z_t_5_1 ++ (rc4 a (Q_t 8) Q_t_8 z_t_8 ++ (rc6 a (Q_t_8 0) Q_t_8_0 z2))))) H := hP
  have hD : va_D A (rc8 a q_t Q_t z_t ++ (rc5 a (Q_t 5) Q_t_5 z_t_5 ++ (rc0 a (Q_t_5 1) Q_t_5_1 z_t_5_1 ++ (rc4 a (Q_t 8) Q_t_8 z_t_8 ++ (rc6 a (Q_t_8 0) Q_t_8_0 z2))))) := hD
  refine lv_aload_n hx hb dX8_work_20 rfl (lv_at hl 1 rfl) ?_
  refine lv_iconst (v := 0) hx hb dX8_work_21 (by decide) ?_
  refine va_put (D := D) (v := .int 0) (C := RX8) (T := TX8) (N := 11) hx hb hts iX8 tyX8 tyX8_ok nmX8 hown hK.1 hP hD hS 0 rfl rfl 1 (by decide) (hts _ t_301) (fun _ h9 => h9) rfl (tyX8_ok 1 (by decide)) rfl rfl (Nat.le_of_ble_eq_true rfl) dX8_work_22 (fun H locs hP hD hS => ?_)
  have hP : va_P D classes (rc8 a q_t Q_t (sI z_t 1 0) ++ (rc5 a (Q_t 5) Q_t_5 z_t_5 ++ (rc0 a (Q_t_5 1) Q_t_5_1 z_t_5_1 ++ (rc4 a (Q_t 8) Q_t_8 z_t_8 ++ (rc6 a (Q_t_8 0) Q_t_8_0 z2))))) H := hP
  have hD : va_D A (rc8 a q_t Q_t (sI z_t 1 0) ++ (rc5 a (Q_t 5) Q_t_5 z_t_5 ++ (rc0 a (Q_t_5 1) Q_t_5_1 z_t_5_1 ++ (rc4 a (Q_t 8) Q_t_8 z_t_8 ++ (rc6 a (Q_t_8 0) Q_t_8_0 z2))))) := hD
  refine va_new (ci := 7) (fs := [.int 0, .int 0, .int 0, .int 0, .int 0, .null, .null, .null, .null, .null, .null, .null, .null, .null, .null, .null, .null, .int 0]) (C := RX7) (T := TX7) (N := 18) hx hb hts iX7 tyX7 tyX7_ok hown (hts _ t_31) (hts _ t_32) (hts _ t_3) hK.1 hP hD hS hA rfl (dfX7) (Nat.le_of_ble_eq_true rfl) (Nat.le_of_ble_eq_true rfl) dX8_work_25 (fun q_N H hP hD hS => ?_)
  refine W.cs (cells' := 1) (slots' := 18) rfl rfl ?_
  have hP : va_P D classes (rc8 a q_t Q_t (sI z_t 1 0) ++ (rc5 a (Q_t 5) Q_t_5 z_t_5 ++ (rc0 a (Q_t_5 1) Q_t_5_1 z_t_5_1 ++ (rc4 a (Q_t 8) Q_t_8 z_t_8 ++ (rc6 a (Q_t_8 0) Q_t_8_0 z2 ++ ([(q_N, .inr (7, [.int 0, .int 0, .int 0, .int 0, .int 0, .null, .null, .null, .null, .null, .null, .null, .null, .null, .null, .null, .null, .int 0]))])))))) H := hP
  have hD : va_D A (rc8 a q_t Q_t (sI z_t 1 0) ++ (rc5 a (Q_t 5) Q_t_5 z_t_5 ++ (rc0 a (Q_t_5 1) Q_t_5_1 z_t_5_1 ++ (rc4 a (Q_t 8) Q_t_8 z_t_8 ++ (rc6 a (Q_t_8 0) Q_t_8_0 z2 ++ ([(q_N, .inr (7, [.int 0, .int 0, .int 0, .int 0, .int 0, .null, .null, .null, .null, .null, .null, .null, .null, .null, .null, .null, .null, .int 0]))])))))) := hD
  refine lv_dup hx hb dX8_work_28 rfl ?_
  refine lv_aload_n hx hb dX8_work_29 rfl (lv_at hl 1 rfl) ?_
  refine va_get (D := D) (v := .int (gI z_t 4)) (C := RX8) (T := TX8) (N := 11) hx hb hts iX8 hown hK.1 hP 0 rfl rfl 4 (by decide) (hts _ t_304) (fun _ h9 => h9) rfl dX8_work_30 ?_
  refine lv_iconst (v := 1) hx hb dX8_work_33 (by decide) ?_
  refine lv_iadd hx hb dX8_work_34 ?_
  refine afMv (runI (As := [.int ((gI z_t 4) + 1)]) (rest := [.ref q_N]) C (c_X7_init_0 l D a q_N ((gI z_t 4) + 1) H.size) lk_I_8_33 okN_X7_init ⟨Nat.le_of_ble_eq_true rfl, Nat.le_of_ble_eq_true rfl⟩ ⟨rfl, rfl⟩ (preM hK (P_of_map (wc := [(q_N, .inr (7, [.int 0, .int 0, .int 0, .int 0, .int 0, .null, .null, .null, .null, .null, .null, .null, .null, .null, .null, .null, .null, .int 0]))]) hP [16] rfl) (hD.sub (ws' := [(q_N, .inr (7, [.int 0, .int 0, .int 0, .int 0, .int 0, .null, .null, .null, .null, .null, .null, .null, .null, .null, .null, .null, .null, .int 0]))]) [16] (by decide) rfl)) hl.1 rfl (Nat.le_of_ble_eq_true rfl) dX8_work_35 ⟨Nat.le_of_ble_eq_true rfl, Nat.le_of_ble_eq_true rfl⟩) hP hD hS hA [16] [0, 1, 2, 3, 4, 5, 6, 7, 8, 9, 10, 11, 12, 13, 14, 15] (wr := rc8 a q_t Q_t (sI z_t 1 0) ++ (rc5 a (Q_t 5) Q_t_5 z_t_5 ++ (rc0 a (Q_t_5 1) Q_t_5_1 z_t_5_1 ++ (rc4 a (Q_t 8) Q_t_8 z_t_8 ++ (rc6 a (Q_t_8 0) Q_t_8_0 z2))))) rfl rfl (by decide) (by decide) (fun u H locs hw hP hD hS => ?_)
  obtain ⟨q1001, q1002, q1003, q1004, q1005, q1006, q1007, q1008, q1009, q1010, q1011, q1012, rfl⟩ := hw
  obtain ⟨Q_N, eQN⟩ : ∃ Q : Nat → Nat, Q = (fun k => [0, 0, 0, 0, 0, q1001, q1002, q1003, q1004, q1005, q1006, q1007, q1008, q1009, q1010, q1011, q1012, 0].getD k 0) := ⟨_, rfl⟩
  have hP : va_P D classes (rc8 a q_t Q_t (sI z_t 1 0) ++ (rc5 a (Q_t 5) Q_t_5 z_t_5 ++ (rc0 a (Q_t_5 1) Q_t_5_1 z_t_5_1 ++ (rc4 a (Q_t 8) Q_t_8 z_t_8 ++ (rc6 a (Q_t_8 0) Q_t_8_0 z2 ++ (rc7 a q_N Q_N (sI Z0 0 ((gI z_t 4) + 1)))))))) H := by rw [eQN]; exact P_of_map hP [0, 1, 2, 3, 4, 5, 6, 7, 8, 9, 10, 11, 12, 13, 14, 15, 16, 17, 18, 19, 20, 21, 22, 23, 24, 25, 26, 27, 28] rfl
  have hD : va_D A (rc8 a q_t Q_t (sI z_t 1 0) ++ (rc5 a (Q_t 5) Q_t_5 z_t_5 ++ (rc0 a (Q_t_5 1) Q_t_5_1 z_t_5_1 ++ (rc4 a (Q_t 8) Q_t_8 z_t_8 ++ (rc6 a (Q_t_8 0) Q_t_8_0 z2 ++ (rc7 a q_N Q_N (sI Z0 0 ((gI z_t 4) + 1)))))))) := by rw [eQN]; exact hD.sub [0, 1, 2, 3, 4, 5, 6, 7, 8, 9, 10, 11, 12, 13, 14, 15, 16, 17, 18, 19, 20, 21, 22, 23, 24, 25, 26, 27, 28] (by decide) rfl
  refine W.cs (cells' := 13) (slots' := 126) rfl rfl ?_
  refine lv_astore_n (lv' := [(2, .ref q_N), (1, .ref (Q_t_8 0)), (0, .ref q_t)]) hx hb dX8_work_38 rfl hl (by decide) rfl (fun ls hl => ?_)
  refine lv_aload_n hx hb dX8_work_39 rfl (lv_at hl 0 rfl) ?_
  refine lv_aload_n hx hb dX8_work_40 rfl (lv_at hl 1 rfl) ?_
  obtain ⟨z4, z5, hc3, h⟩ := bd2_some h
  refine cMv (runV (As := [.ref (Q_t_8 0)]) (rest := []) C (mX7_readFrom l D a (q_t := q_N) (q_p1 := (Q_t_8 0)) (Q_t := Q_N) (Q_p1 := Q_t_8_0) hc3 H.size) lk_V_8_92 okN_X7_readFrom ⟨Nat.le_of_ble_eq_true rfl, Nat.le_of_ble_eq_true rfl⟩ ⟨rfl, rfl⟩ (preV (preM hK (P_of_map (wc := rc7 a q_N Q_N (sI Z0 0 ((gI z_t 4) + 1)) ++ (rc6 a (Q_t_8 0) Q_t_8_0 z2)) hP [16, 17, 18, 19, 20, 21, 22, 23, 24, 25, 26, 27, 28, 12, 13, 14, 15] rfl) (hD.sub (ws' := rc7 a q_N Q_N (sI Z0 0 ((gI z_t 4) + 1)) ++ (rc6 a (Q_t_8 0) Q_t_8_0 z2)) [16, 17, 18, 19, 20, 21, 22, 23, 24, 25, 26, 27, 28, 12, 13, 14, 15] (by decide) rfl)) (recvOf hK hP 16 rfl (ci := 7) rfl)) hl.1 rfl (Nat.le_of_ble_eq_true rfl) dX8_work_41 ⟨Nat.le_of_ble_eq_true rfl, Nat.le_of_ble_eq_true rfl⟩) hP hD hS hA [16, 17, 18, 19, 20, 21, 22, 23, 24, 25, 26, 27, 28, 12, 13, 14, 15] [0, 1, 2, 3, 4, 5, 6, 7, 8, 9, 10, 11] [0, 1, 2, 3, 4, 5, 6, 7, 8, 9, 10, 11, 25, 26, 27, 28, 12, 13, 14, 15, 16, 17, 18, 19, 20, 21, 22, 23, 24] rfl rfl (by decide) (by decide) (fw := rc8 a q_t Q_t (sI z_t 1 0) ++ (rc5 a (Q_t 5) Q_t_5 z_t_5 ++ (rc0 a (Q_t_5 1) Q_t_5_1 z_t_5_1 ++ (rc4 a (Q_t 8) Q_t_8 z_t_8 ++ (rc6 a (Q_t_8 0) Q_t_8_0 z5 ++ (rc7 a q_N Q_N z4)))))) rfl (by decide) (fun H locs hP hD hS => ?_)
  have hP : va_P D classes (rc8 a q_t Q_t (sI z_t 1 0) ++ (rc5 a (Q_t 5) Q_t_5 z_t_5 ++ (rc0 a (Q_t_5 1) Q_t_5_1 z_t_5_1 ++ (rc4 a (Q_t 8) Q_t_8 z_t_8 ++ (rc6 a (Q_t_8 0) Q_t_8_0 z5 ++ (rc7 a q_N Q_N z4)))))) H := hP
  have hD : va_D A (rc8 a q_t Q_t (sI z_t 1 0) ++ (rc5 a (Q_t 5) Q_t_5 z_t_5 ++ (rc0 a (Q_t_5 1) Q_t_5_1 z_t_5_1 ++ (rc4 a (Q_t 8) Q_t_8 z_t_8 ++ (rc6 a (Q_t_8 0) Q_t_8_0 z5 ++ (rc7 a q_N Q_N z4)))))) := hD
  refine lv_aload_n hx hb dX8_work_44 rfl (lv_at hl 1 rfl) ?_
  refine va_get (D := D) (v := .int (gI z5 8)) (C := RX6) (T := TX6) (N := 9) hx hb hts iX6 hown hK.1 hP 12 rfl rfl 8 (by decide) (hts _ t_221) (fun _ h9 => h9) rfl dX8_work_45 ?_
  refine lv_if_eq (tgt := 59) hx hb dX8_work_48 (by decide) (fun c6 => ?_) (fun c6 => ?_)
  · have h := ite_t c6 h
    refine lv_aload_n hx hb dX8_work_59 rfl (lv_at hl 2 rfl) ?_
    refine lv_dup hx hb dX8_work_60 rfl ?_
    refine va_get (D := D) (v := .int (gI z_t 4)) (C := RX8) (T := TX8) (N := 11) hx hb hts iX8 hown hK.1 hP 0 rfl rfl 4 (by decide) (hts _ t_304) (fun _ h9 => h9) rfl dX8_work_61 ?_
    refine lv_iconst (v := 1) hx hb dX8_work_64 (by decide) ?_
    refine lv_iadd hx hb dX8_work_65 ?_
    refine va_put (D := D) (v := .int ((gI z_t 4) + 1)) (C := RX8) (T := TX8) (N := 11) hx hb hts iX8 tyX8 tyX8_ok nmX8 hown hK.1 hP hD hS 0 rfl rfl 4 (by decide) (hts _ t_304) (fun _ h9 => h9) rfl (tyX8_ok 4 (by decide)) rfl rfl (Nat.le_of_ble_eq_true rfl) dX8_work_66 (fun H locs hP hD hS => ?_)
    have hP : va_P D classes (rc8 a q_t Q_t (sI (sI z_t 1 0) 4 ((gI z_t 4) + 1)) ++ (rc5 a (Q_t 5) Q_t_5 z_t_5 ++ (rc0 a (Q_t_5 1) Q_t_5_1 z_t_5_1 ++ (rc4 a (Q_t 8) Q_t_8 z_t_8 ++ (rc6 a (Q_t_8 0) Q_t_8_0 z5 ++ (rc7 a q_N Q_N z4)))))) H := hP
    have hD : va_D A (rc8 a q_t Q_t (sI (sI z_t 1 0) 4 ((gI z_t 4) + 1)) ++ (rc5 a (Q_t 5) Q_t_5 z_t_5 ++ (rc0 a (Q_t_5 1) Q_t_5_1 z_t_5_1 ++ (rc4 a (Q_t 8) Q_t_8 z_t_8 ++ (rc6 a (Q_t_8 0) Q_t_8_0 z5 ++ (rc7 a q_N Q_N z4)))))) := hD
    refine lv_aload_n hx hb dX8_work_69 rfl (lv_at hl 2 rfl) ?_
    refine va_get (D := D) (v := .ref (Q_t 5)) (C := RX8) (T := TX8) (N := 11) hx hb hts iX8 hown hK.1 hP 0 rfl rfl 5 (by decide) (hts _ t_305) (fun _ h9 => h9) rfl dX8_work_70 ?_
    refine lv_aload_n hx hb dX8_work_73 rfl (lv_at hl 0 rfl) ?_
    obtain ⟨z8, z9, hc7, h⟩ := bd2_some h
    refine cMv (runV (As := [.ref q_N]) (rest := []) C (mX5_beginWork l D a (q_t := (Q_t 5)) (q_p1 := q_N) (Q_t := Q_t_5) (Q_t_1 := Q_t_5_1) (Q_p1 := Q_N) hc7 H.size) lk_V_8_99 okN_X5_beginWork ⟨Nat.le_of_ble_eq_true rfl, Nat.le_of_ble_eq_true rfl⟩ ⟨rfl, rfl⟩ (preV (preM hK (P_of_map (wc := rc5 a (Q_t 5) Q_t_5 z_t_5 ++ (rc0 a (Q_t_5 1) Q_t_5_1 z_t_5_1 ++ (rc7 a q_N Q_N z4))) hP [2, 3, 4, 5, 6, 16, 17, 18, 19, 20, 21, 22, 23, 24, 25, 26, 27, 28] rfl) (hD.sub (ws' := rc5 a (Q_t 5) Q_t_5 z_t_5 ++ (rc0 a (Q_t_5 1) Q_t_5_1 z_t_5_1 ++ (rc7 a q_N Q_N z4))) [2, 3, 4, 5, 6, 16, 17, 18, 19, 20, 21, 22, 23, 24, 25, 26, 27, 28] (by decide) rfl)) (recvOf hK hP 2 rfl (ci := 5) rfl)) hl.1 rfl (Nat.le_of_ble_eq_true rfl) dX8_work_74 ⟨Nat.le_of_ble_eq_true rfl, Nat.le_of_ble_eq_true rfl⟩) hP hD hS hA [2, 3, 4, 5, 6, 16, 17, 18, 19, 20, 21, 22, 23, 24, 25, 26, 27, 28] [0, 1, 7, 8, 9, 10, 11, 12, 13, 14, 15] [0, 1, 11, 12, 13, 14, 15, 2, 3, 4, 5, 6, 7, 8, 9, 10, 16, 17, 18, 19, 20, 21, 22, 23, 24, 25, 26, 27, 28] rfl rfl (by decide) (by decide) (fw := rc8 a q_t Q_t (sI (sI z_t 1 0) 4 ((gI z_t 4) + 1)) ++ (rc5 a (Q_t 5) (va_up Q_t_5 0 q_N) z8 ++ (rc0 a (Q_t_5 1) Q_t_5_1 z9 ++ (rc4 a (Q_t 8) Q_t_8 z_t_8 ++ (rc6 a (Q_t_8 0) Q_t_8_0 z5 ++ (rc7 a q_N Q_N z4)))))) rfl (by decide) (fun H locs hP hD hS => ?_)
    have hP : va_P D classes (rc8 a q_t Q_t (sI (sI z_t 1 0) 4 ((gI z_t 4) + 1)) ++ (rc5 a (Q_t 5) (va_up Q_t_5 0 q_N) z8 ++ (rc0 a (Q_t_5 1) Q_t_5_1 z9 ++ (rc4 a (Q_t 8) Q_t_8 z_t_8 ++ (rc6 a (Q_t_8 0) Q_t_8_0 z5 ++ (rc7 a q_N Q_N z4)))))) H := hP
    have hD : va_D A (rc8 a q_t Q_t (sI (sI z_t 1 0) 4 ((gI z_t 4) + 1)) ++ (rc5 a (Q_t 5) (va_up Q_t_5 0 q_N) z8 ++ (rc0 a (Q_t_5 1) Q_t_5_1 z9 ++ (rc4 a (Q_t 8) Q_t_8 z_t_8 ++ (rc6 a (Q_t_8 0) Q_t_8_0 z5 ++ (rc7 a q_N Q_N z4)))))) := hD
    refine lv_aload_n hx hb dX8_work_77 rfl (lv_at hl 0 rfl) ?_
    refine va_get (D := D) (v := .int (gI z4 3)) (C := RX7) (T := TX7) (N := 18) hx hb hts iX7 hown hK.1 hP 16 rfl rfl 3 (by decide) (hts _ t_47) (fun _ h9 => h9) rfl dX8_work_78 ?_
    cases h
    exact retMi C rfl (q_N, Q_N) rfl hP hD hS (Nat.le_of_ble_eq_true rfl) (Nat.le_of_ble_eq_true rfl) dX8_work_81
  · have h := ite_f c6 h
    cases h

set_option maxHeartbeats 4000000 in
set_option maxRecDepth 100000 in
theorem mX8_worth (l : Launch) (D : va_G) (a : Nat → ClassId) {q_t : Nat} {Q_t : Nat → Nat} {z_t : Sx} {Q_t_5 : Nat → Nat} {z_t_5 : Sx} {Q_t_5_0 : Nat → Nat} {z_t_5_0 : Sx} {Q_t_5_1 : Nat → Nat} {z_t_5_1 : Sx} {x1 : Int32} {y : Int64} (h : fX8_worth z_t z_t_5 z_t_5_0 z_t_5_1 x1 = some y) : CRl l MX8_worth 18 567 D a [.ref q_t, .int x1] (rc8 a q_t Q_t z_t ++ (rc5 a (Q_t 5) Q_t_5 z_t_5 ++ (rc7 a (Q_t_5 0) Q_t_5_0 z_t_5_0 ++ (rc0 a (Q_t_5 1) Q_t_5_1 z_t_5_1)))) (fun r => r = y) := by
  unfold fX8_worth at h
  refine entR (by decide) (Nat.le_of_ble_eq_true rfl) ?_
  intro p e s m below meth c C hK hP ls hl
  obtain ⟨hx, hb, hml, hown, hts, hr, hlocks, hnm⟩ := id C
  have hb : c.code = cX8_worth := hb
  have hown : s.vm.findClass RX8 = some m.cls := hown
  have hl : lv_has ls 4 [(0, .ref q_t), (1, .int x1)] := hl
  refine lv_aload_n hx hb dX8_worth_0 rfl (lv_at hl 0 rfl) ?_
  obtain ⟨r2, hc1, h⟩ := bd_some h
  refine cRi (runV (As := []) (rest := []) C (mX8_hasWork l D a (q_t := q_t) (Q_t := Q_t) (Q_t_5 := Q_t_5) (Q_t_5_0 := Q_t_5_0) hc1) lk_V_8_213 okN_X8_hasWork ⟨Nat.le_of_ble_eq_true rfl, Nat.le_of_ble_eq_true rfl⟩ ⟨rfl, rfl⟩ (preV (preR hK (P_of_map (wc := rc8 a q_t Q_t z_t ++ (rc5 a (Q_t 5) Q_t_5 z_t_5 ++ (rc7 a (Q_t_5 0) Q_t_5_0 z_t_5_0))) hP [0, 1, 2, 3, 4, 5, 6, 7, 8, 9, 10, 11, 12, 13, 14, 15, 16, 17] rfl)) (recvOf hK hP 0 rfl (ci := 8) rfl)) hl.1 rfl (Nat.le_of_ble_eq_true rfl) dX8_worth_1 ⟨Nat.le_of_ble_eq_true rfl, Nat.le_of_ble_eq_true rfl⟩) ?_
  refine lv_if_eq (tgt := 16) hx hb dX8_worth_4 (by decide) (fun c3 => ?_) (fun c3 => ?_)
  · have h := ite_t c3 h
    refine lv_ldc2 hx hb hown (hts _ t_753) dX8_worth_16 ?_
    exact rRl C rfl (Option.some.inj h) dX8_worth_19
  · have h := ite_f c3 h
    refine lv_iload_n hx hb dX8_worth_7 rfl (lv_at hl 1 rfl) ?_
    refine lv_if_lt (tgt := 16) hx hb dX8_worth_8 (by decide) (fun c4 => ?_) (fun c4 => ?_)
    · have h := ite_t c4 h
      refine lv_ldc2 hx hb hown (hts _ t_753) dX8_worth_16 ?_
      exact rRl C rfl (Option.some.inj h) dX8_worth_19
    · have h := ite_f c4 h
      refine lv_iload_n hx hb dX8_worth_11 rfl (lv_at hl 1 rfl) ?_
      refine lv_iconst (v := 1) hx hb dX8_worth_12 (by decide) ?_
      refine lv_icmp_le (tgt := 20) hx hb dX8_worth_13 (by decide) (fun c5 => ?_) (fun c5 => ?_)
      · have h := ite_t c5 h
        refine lv_aload_n hx hb dX8_worth_20 rfl (lv_at hl 0 rfl) ?_
        refine lv_iconst (v := 0) hx hb dX8_worth_21 (by decide) ?_
        refine lv_aload_n hx hb dX8_worth_22 rfl (lv_at hl 0 rfl) ?_
        refine va_get (D := D) (v := .ref (Q_t 5)) (C := RX8) (T := TX8) (N := 11) hx hb hts iX8 hown hK.1 hP 0 rfl rfl 5 (by decide) (hts _ t_305) (fun _ h9 => h9) rfl dX8_worth_23 ?_
        refine va_get (D := D) (v := .ref (Q_t_5 1)) (C := RX5) (T := TX5) (N := 8) hx hb hts iX5 hown hK.1 hP 2 rfl rfl 1 (by decide) (hts _ t_163) (fun _ h9 => h9) rfl dX8_worth_26 ?_
        obtain ⟨r7, hc6, h⟩ := bd_some h
        refine cRi (runV (As := []) (rest := [.int 0, .ref q_t]) C (mX0_gone l D a (q_t := (Q_t_5 1)) (Q_t := Q_t_5_1) hc6) lk_V_8_171 okN_X0_gone ⟨Nat.le_of_ble_eq_true rfl, Nat.le_of_ble_eq_true rfl⟩ ⟨rfl, rfl⟩ (preV (preR hK (P_of_map (wc := rc0 a (Q_t_5 1) Q_t_5_1 z_t_5_1) hP [18, 19] rfl)) (recvOf hK hP 18 rfl (ci := 0) rfl)) hl.1 rfl (Nat.le_of_ble_eq_true rfl) dX8_worth_29 ⟨Nat.le_of_ble_eq_true rfl, Nat.le_of_ble_eq_true rfl⟩) ?_
        refine lv_aload_n hx hb dX8_worth_32 rfl (lv_at hl 0 rfl) ?_
        refine va_get (D := D) (v := .ref (Q_t 5)) (C := RX8) (T := TX8) (N := 11) hx hb hts iX8 hown hK.1 hP 0 rfl rfl 5 (by decide) (hts _ t_305) (fun _ h9 => h9) rfl dX8_worth_33 ?_
        refine va_get (D := D) (v := .ref (Q_t_5 1)) (C := RX5) (T := TX5) (N := 8) hx hb hts iX5 hown hK.1 hP 2 rfl rfl 1 (by decide) (hts _ t_163) (fun _ h9 => h9) rfl dX8_worth_36 ?_
        refine va_get (D := D) (v := .int (gI z_t_5_1 0)) (C := RX0) (T := TX0) (N := 6) hx hb hts iX0 hown hK.1 hP 18 rfl rfl 0 (by decide) (hts _ t_132) (fun _ h9 => h9) rfl dX8_worth_39 ?_
        refine lv_iconst (v := (-1)) hx hb dX8_worth_42 (by decide) ?_
        obtain ⟨r9, hc8, h⟩ := bd_some h
        refine cRl (runV (As := [.int 0, .int r7, .int (gI z_t_5_1 0), .int (-1)]) (rest := []) C (mX8_rowMean l D a 16 (q_t := q_t) (Q_t := Q_t) (Q_t_5 := Q_t_5) (Q_t_5_0 := Q_t_5_0) hc8) lk_V_8_245 okN_X8_rowMean ⟨Nat.le_of_ble_eq_true rfl, Nat.le_of_ble_eq_true rfl⟩ ⟨rfl, rfl⟩ (preV (preR hK (P_of_map (wc := rc8 a q_t Q_t z_t ++ (rc5 a (Q_t 5) Q_t_5 z_t_5 ++ (rc7 a (Q_t_5 0) Q_t_5_0 z_t_5_0))) hP [0, 1, 2, 3, 4, 5, 6, 7, 8, 9, 10, 11, 12, 13, 14, 15, 16, 17] rfl)) (recvOf hK hP 0 rfl (ci := 8) rfl)) hl.1 rfl (Nat.le_of_ble_eq_true rfl) dX8_worth_43 ⟨Nat.le_of_ble_eq_true rfl, Nat.le_of_ble_eq_true rfl⟩) ?_
        refine lv_lstore_n (lv' := [(2, .long r9), (0, .ref q_t), (1, .int x1)]) hx hb dX8_worth_46 rfl hl (by decide) rfl (fun ls hl => ?_)
        refine lv_lload_n hx hb dX8_worth_47 rfl (lv_at hl 0 rfl) ?_
        refine lv_aload_n hx hb dX8_worth_48 rfl (lv_at hl 1 rfl) ?_
        refine va_get (D := D) (v := .ref (Q_t 5)) (C := RX8) (T := TX8) (N := 11) hx hb hts iX8 hown hK.1 hP 0 rfl rfl 5 (by decide) (hts _ t_305) (fun _ h9 => h9) rfl dX8_worth_49 ?_
        refine va_get (D := D) (v := .int (gI z_t_5 6)) (C := RX5) (T := TX5) (N := 8) hx hb hts iX5 hown hK.1 hP 2 rfl rfl 6 (by decide) (hts _ t_173) (fun _ h9 => h9) rfl dX8_worth_52 ?_
        obtain ⟨r11, hc10, h⟩ := bd_some h
        refine cRl (runS (As := [.int (gI z_t_5 6)]) (rest := [.long r9]) C (mX8_hundreds l D a hc10) lk_S_8_249 okN_X8_hundreds ⟨Nat.le_of_ble_eq_true rfl, Nat.le_of_ble_eq_true rfl⟩ ⟨rfl, rfl⟩ (preR hK (P_of_map (wc := []) hP [] rfl)) hl.1 rfl (Nat.le_of_ble_eq_true rfl) dX8_worth_55 ⟨Nat.le_of_ble_eq_true rfl, Nat.le_of_ble_eq_true rfl⟩) ?_
        refine lv_iload_n hx hb dX8_worth_58 rfl (lv_at hl 2 rfl) ?_
        obtain ⟨r13, hc12, h⟩ := bd_some h
        refine cRl (runS (As := [.long r9, .long r11, .int x1]) (rest := []) C (mX8_partOf l D a hc12) lk_S_8_253 okN_X8_partOf ⟨Nat.le_of_ble_eq_true rfl, Nat.le_of_ble_eq_true rfl⟩ ⟨rfl, rfl⟩ (preR hK (P_of_map (wc := []) hP [] rfl)) hl.1 rfl (Nat.le_of_ble_eq_true rfl) dX8_worth_59 ⟨Nat.le_of_ble_eq_true rfl, Nat.le_of_ble_eq_true rfl⟩) ?_
        exact rRl C rfl (Option.some.inj h) dX8_worth_62
      · have h := ite_f c5 h
        refine lv_ldc2 hx hb hown (hts _ t_753) dX8_worth_16 ?_
        exact rRl C rfl (Option.some.inj h) dX8_worth_19

set_option maxHeartbeats 4000000 in
set_option maxRecDepth 100000 in
theorem mX8_would_none (l : Launch) (D : va_G) (a : Nat → ClassId) {q_t : Nat} {Q_t : Nat → Nat} {z_t : Sx} {B_t_2 : Nat → Option Nat} {Q_t_5 : Nat → Nat} {z_t_5 : Sx} {Q_t_5_0 : Nat → Nat} {z_t_5_0 : Sx} {x1 : Int32} {x2 : Int32} (hm : fX8_ruleForWork z_t B_t_2 z_t_5 z_t_5_0 x1 = some none) {y : Int32} (h : fX8_would_none z_t B_t_2 z_t_5 z_t_5_0 x1 x2 = some y) : CRi l MX8_would 2 42 D a [.ref q_t, .int x1, .int x2] (rc8 a q_t Q_t z_t ++ (rb4 a (Q_t 2) 6 B_t_2 ++ (rc5 a (Q_t 5) Q_t_5 z_t_5 ++ (rc7 a (Q_t_5 0) Q_t_5_0 z_t_5_0)))) (fun r => r = y) := by
  unfold fX8_would_none at h
  refine entR (by decide) (Nat.le_of_ble_eq_true rfl) ?_
  intro p e s m below meth c C hK hP ls hl
  obtain ⟨hx, hb, hml, hown, hts, hr, hlocks, hnm⟩ := id C
  have hb : c.code = cX8_would := hb
  have hown : s.vm.findClass RX8 = some m.cls := hown
  have hl : lv_has ls 5 [(0, .ref q_t), (1, .int x1), (2, .int x2)] := hl
  refine lv_aload_n hx hb dX8_would_0 rfl (lv_at hl 0 rfl) ?_
  refine lv_iload_n hx hb dX8_would_1 rfl (lv_at hl 1 rfl) ?_
  obtain ⟨r2, hc1, h⟩ := bd_some h
  refine cRq (runV (As := [.int x1]) (rest := []) C (mX8_ruleForWork l D a (q_t := q_t) (Q_t := Q_t) (Q_t_5 := Q_t_5) (Q_t_5_0 := Q_t_5_0) hc1) lk_V_8_228 okN_X8_ruleForWork ⟨Nat.le_of_ble_eq_true rfl, Nat.le_of_ble_eq_true rfl⟩ ⟨rfl, rfl⟩ (preV (preR hK hP) (recvOf hK hP 0 rfl (ci := 8) rfl)) hl.1 rfl (Nat.le_of_ble_eq_true rfl) dX8_would_2 ⟨Nat.le_of_ble_eq_true rfl, Nat.le_of_ble_eq_true rfl⟩) ?_
  obtain rfl := Option.some.inj (hc1.symm.trans hm)
  refine lv_astore_nN (lv' := [(3, .null), (0, .ref q_t), (1, .int x1), (2, .int x2)]) hx hb dX8_would_5 rfl hl (by decide) rfl (fun ls hl => ?_)
  refine lv_aload_nN hx hb dX8_would_6 rfl (lv_at hl 0 rfl) ?_
  refine lv_ifnullN (tgt := 19) hx hb dX8_would_7 (by decide) ?_
  refine lv_ldc hx hb hown (hts _ t_640) dX8_would_19 ?_
  exact rRi C rfl (Option.some.inj h) dX8_would_21

set_option maxHeartbeats 4000000 in
set_option maxRecDepth 100000 in
theorem mX8_would_some (l : Launch) (D : va_G) (a : Nat → ClassId) {q_R : Nat} {q_t : Nat} {Q_t : Nat → Nat} {z_t : Sx} {B_t_2 : Nat → Option Nat} {Q_t_5 : Nat → Nat} {z_t_5 : Sx} {Q_t_5_0 : Nat → Nat} {z_t_5_0 : Sx} {Q_t_5_1 : Nat → Nat} {z_t_5_1 : Sx} {Q_t_7 : Nat → Nat} {z_t_7 : Sx} {Q_t_9 : Nat → Nat} {z_t_9 : Sx} {Q_R : Nat → Nat} {nc_R : Nat} {z_R : Sx} {x1 : Int32} {x2 : Int32} (hm : fX8_ruleForWork z_t B_t_2 z_t_5 z_t_5_0 x1 = some (some q_R)) {y : Int32 × Sx × Sx} (h : fX8_would_some z_t B_t_2 z_t_5 z_t_5_0 z_t_5_1 z_t_7 z_t_9 nc_R z_R x1 x2 = some y) (sz : Nat) : CMi (S := Unit) l MX8_would 6 162 0 0 D a [.ref q_t, .int x1, .int x2] (rc8 a q_t Q_t z_t ++ (rb4 a (Q_t 2) 6 B_t_2 ++ (rc5 a (Q_t 5) Q_t_5 z_t_5 ++ (rc7 a (Q_t_5 0) Q_t_5_0 z_t_5_0 ++ (rc0 a (Q_t_5 1) Q_t_5_1 z_t_5_1 ++ (rc0 a (Q_t 7) Q_t_7 z_t_7 ++ (rc2 a (Q_t 9) Q_t_9 z_t_9 ++ (rc3 a q_R Q_R nc_R z_R)))))))) sz (fun r _ => r = y.1) (fun _ => rc8 a q_t Q_t z_t ++ (rb4 a (Q_t 2) 6 B_t_2 ++ (rc5 a (Q_t 5) Q_t_5 z_t_5 ++ (rc7 a (Q_t_5 0) Q_t_5_0 z_t_5_0 ++ (rc0 a (Q_t_5 1) Q_t_5_1 z_t_5_1 ++ (rc0 a (Q_t 7) Q_t_7 y.2.1 ++ (rc2 a (Q_t 9) Q_t_9 y.2.2 ++ (rc3 a q_R Q_R nc_R z_R)))))))) := by
  unfold fX8_would_some at h
  refine entMi (by decide) (Nat.le_of_ble_eq_true rfl) ?_
  intro p e s m below meth c C hK A hA hP hD ls hl
  obtain ⟨hx, hb, hml, hown, hts, hr, hlocks, hnm⟩ := id C
  have hb : c.code = cX8_would := hb
  have hown : s.vm.findClass RX8 = some m.cls := hown
  have hS : va_S A s.heap s.heap [] := va_S.rf
  have hl : lv_has ls 5 [(0, .ref q_t), (1, .int x1), (2, .int x2)] := hl
  refine lv_aload_n hx hb dX8_would_0 rfl (lv_at hl 0 rfl) ?_
  refine lv_iload_n hx hb dX8_would_1 rfl (lv_at hl 1 rfl) ?_
  obtain ⟨r2, hc1, h⟩ := bd_some h
  refine cRq (runV (As := [.int x1]) (rest := []) C (mX8_ruleForWork l D a (q_t := q_t) (Q_t := Q_t) (Q_t_5 := Q_t_5) (Q_t_5_0 := Q_t_5_0) hc1) lk_V_8_228 okN_X8_ruleForWork ⟨Nat.le_of_ble_eq_true rfl, Nat.le_of_ble_eq_true rfl⟩ ⟨rfl, rfl⟩ (preV (preR hK (P_of_map (wc := rc8 a q_t Q_t z_t ++ (rb4 a (Q_t 2) 6 B_t_2 ++ (rc5 a (Q_t 5) Q_t_5 z_t_5 ++ (rc7 a (Q_t_5 0) Q_t_5_0 z_t_5_0)))) hP [0, 1, 2, 3, 4, 5, 6, 7, 8, 9, 10, 11, 12, 13, 14, 15, 16, 17, 18] rfl)) (recvOf hK hP 0 rfl (ci := 8) rfl)) hl.1 rfl (Nat.le_of_ble_eq_true rfl) dX8_would_2 ⟨Nat.le_of_ble_eq_true rfl, Nat.le_of_ble_eq_true rfl⟩) ?_
  obtain rfl := Option.some.inj (hc1.symm.trans hm)
  refine lv_astore_n (lv' := [(3, .ref q_R), (0, .ref q_t), (1, .int x1), (2, .int x2)]) hx hb dX8_would_5 rfl hl (by decide) rfl (fun ls hl => ?_)
  refine lv_aload_n hx hb dX8_would_6 rfl (lv_at hl 0 rfl) ?_
  refine lv_ifnull hx hb dX8_would_7 ?_
  refine lv_iload_n hx hb dX8_would_10 rfl (lv_at hl 3 rfl) ?_
  refine lv_if_lt (tgt := 19) hx hb dX8_would_11 (by decide) (fun c3 => ?_) (fun c3 => ?_)
  · have h := ite_t c3 h
    refine lv_ldc hx hb hown (hts _ t_640) dX8_would_19 ?_
    exact rMi C rfl h (g := fun y => rc8 a q_t Q_t z_t ++ (rb4 a (Q_t 2) 6 B_t_2 ++ (rc5 a (Q_t 5) Q_t_5 z_t_5 ++ (rc7 a (Q_t_5 0) Q_t_5_0 z_t_5_0 ++ (rc0 a (Q_t_5 1) Q_t_5_1 z_t_5_1 ++ (rc0 a (Q_t 7) Q_t_7 y.2.1 ++ (rc2 a (Q_t 9) Q_t_9 y.2.2 ++ (rc3 a q_R Q_R nc_R z_R)))))))) (pr := fun y => y.1) hP hD hS dX8_would_21
  · have h := ite_f c3 h
    refine lv_iload_n hx hb dX8_would_14 rfl (lv_at hl 3 rfl) ?_
    refine lv_iconst (v := 4) hx hb dX8_would_15 (by decide) ?_
    refine lv_icmp_le (tgt := 22) hx hb dX8_would_16 (by decide) (fun c4 => ?_) (fun c4 => ?_)
    · have h := ite_t c4 h
      refine lv_aload_n hx hb dX8_would_22 rfl (lv_at hl 1 rfl) ?_
      refine va_get (D := D) (v := .ref (Q_t 7)) (C := RX8) (T := TX8) (N := 11) hx hb hts iX8 hown hK.1 hP 0 rfl rfl 7 (by decide) (hts _ t_307) (fun _ h9 => h9) rfl dX8_would_23 ?_
      refine lv_aload_n hx hb dX8_would_26 rfl (lv_at hl 1 rfl) ?_
      refine va_get (D := D) (v := .ref (Q_t 5)) (C := RX8) (T := TX8) (N := 11) hx hb hts iX8 hown hK.1 hP 0 rfl rfl 5 (by decide) (hts _ t_305) (fun _ h9 => h9) rfl dX8_would_27 ?_
      refine va_get (D := D) (v := .ref (Q_t_5 1)) (C := RX5) (T := TX5) (N := 8) hx hb hts iX5 hown hK.1 hP 3 rfl rfl 1 (by decide) (hts _ t_163) (fun _ h9 => h9) rfl dX8_would_30 ?_
      obtain ⟨z6, hc5, h⟩ := bd_some h
      refine cMv (runV (As := [.ref (Q_t_5 1)]) (rest := []) C (mX0_copyFrom l D a (q_t := (Q_t 7)) (q_p1 := (Q_t_5 1)) (Q_t := Q_t_7) (Q_p1 := Q_t_5_1) hc5 s.heap.size) lk_V_8_236 okN_X0_copyFrom ⟨Nat.le_of_ble_eq_true rfl, Nat.le_of_ble_eq_true rfl⟩ ⟨rfl, rfl⟩ (preV (preM hK (P_of_map (wc := rc0 a (Q_t 7) Q_t_7 z_t_7 ++ (rc0 a (Q_t_5 1) Q_t_5_1 z_t_5_1)) hP [21, 22, 19, 20] rfl) (hD.sub (ws' := rc0 a (Q_t 7) Q_t_7 z_t_7 ++ (rc0 a (Q_t_5 1) Q_t_5_1 z_t_5_1)) [21, 22, 19, 20] (by decide) rfl)) (recvOf hK hP 21 rfl (ci := 0) rfl)) hl.1 rfl (Nat.le_of_ble_eq_true rfl) dX8_would_33 ⟨Nat.le_of_ble_eq_true rfl, Nat.le_of_ble_eq_true rfl⟩) hP hD hS hA [21, 22, 19, 20] [0, 1, 2, 3, 4, 5, 6, 7, 8, 9, 10, 11, 12, 13, 14, 15, 16, 17, 18, 23, 24, 25, 26, 27, 28, 29] [0, 1, 2, 3, 4, 5, 6, 7, 8, 9, 10, 11, 12, 13, 14, 15, 16, 17, 18, 28, 29, 26, 27, 19, 20, 21, 22, 23, 24, 25] rfl rfl (by decide) (by decide) (fw := rc8 a q_t Q_t z_t ++ (rb4 a (Q_t 2) 6 B_t_2 ++ (rc5 a (Q_t 5) Q_t_5 z_t_5 ++ (rc7 a (Q_t_5 0) Q_t_5_0 z_t_5_0 ++ (rc0 a (Q_t_5 1) Q_t_5_1 z_t_5_1 ++ (rc0 a (Q_t 7) Q_t_7 z6 ++ (rc2 a (Q_t 9) Q_t_9 z_t_9 ++ (rc3 a q_R Q_R nc_R z_R)))))))) rfl (by decide) (fun H locs hP hD hS => ?_)
      have hP : va_P D classes (rc8 a q_t Q_t z_t ++ (rb4 a (Q_t 2) 6 B_t_2 ++ (rc5 a (Q_t 5) Q_t_5 z_t_5 ++ (rc7 a (Q_t_5 0) Q_t_5_0 z_t_5_0 ++ (rc0 a (Q_t_5 1) Q_t_5_1 z_t_5_1 ++ (rc0 a (Q_t 7) Q_t_7 z6 ++ (rc2 a (Q_t 9) Q_t_9 z_t_9 ++ (rc3 a q_R Q_R nc_R z_R)))))))) H := hP
      have hD : va_D A (rc8 a q_t Q_t z_t ++ (rb4 a (Q_t 2) 6 B_t_2 ++ (rc5 a (Q_t 5) Q_t_5 z_t_5 ++ (rc7 a (Q_t_5 0) Q_t_5_0 z_t_5_0 ++ (rc0 a (Q_t_5 1) Q_t_5_1 z_t_5_1 ++ (rc0 a (Q_t 7) Q_t_7 z6 ++ (rc2 a (Q_t 9) Q_t_9 z_t_9 ++ (rc3 a q_R Q_R nc_R z_R)))))))) := hD
      refine lv_aload_n hx hb dX8_would_36 rfl (lv_at hl 1 rfl) ?_
      refine va_get (D := D) (v := .ref (Q_t 9)) (C := RX8) (T := TX8) (N := 11) hx hb hts iX8 hown hK.1 hP 0 rfl rfl 9 (by decide) (hts _ t_309) (fun _ h9 => h9) rfl dX8_would_37 ?_
      refine lv_aload_n hx hb dX8_would_40 rfl (lv_at hl 1 rfl) ?_
      refine va_get (D := D) (v := .ref (Q_t 5)) (C := RX8) (T := TX8) (N := 11) hx hb hts iX8 hown hK.1 hP 0 rfl rfl 5 (by decide) (hts _ t_305) (fun _ h9 => h9) rfl dX8_would_41 ?_
      refine va_get (D := D) (v := .ref (Q_t_5 0)) (C := RX5) (T := TX5) (N := 8) hx hb hts iX5 hown hK.1 hP 3 rfl rfl 0 (by decide) (hts _ t_161) (fun _ h9 => h9) rfl dX8_would_44 ?_
      refine lv_aload_n hx hb dX8_would_47 rfl (lv_at hl 0 rfl) ?_
      refine lv_aload_n hx hb dX8_would_48 rfl (lv_at hl 1 rfl) ?_
      refine va_get (D := D) (v := .ref (Q_t 7)) (C := RX8) (T := TX8) (N := 11) hx hb hts iX8 hown hK.1 hP 0 rfl rfl 7 (by decide) (hts _ t_307) (fun _ h9 => h9) rfl dX8_would_49 ?_
      obtain ⟨r8, z9, z10, hc7, h⟩ := bd3_some h
      refine cMi (runV (As := [.ref (Q_t_5 0), .ref q_R, .ref (Q_t 7)]) (rest := []) C (mX2_play l D a (q_t := (Q_t 9)) (q_p1 := (Q_t_5 0)) (q_p2 := q_R) (q_p3 := (Q_t 7)) (Q_t := Q_t_9) (Q_p1 := Q_t_5_0) (Q_p2 := Q_R) (Q_p3 := Q_t_7) hc7 H.size) lk_V_8_232 okN_X2_play ⟨Nat.le_of_ble_eq_true rfl, Nat.le_of_ble_eq_true rfl⟩ ⟨rfl, rfl⟩ (preV (preM hK (P_of_map (wc := rc2 a (Q_t 9) Q_t_9 z_t_9 ++ (rc7 a (Q_t_5 0) Q_t_5_0 z_t_5_0 ++ (rc3 a q_R Q_R nc_R z_R ++ (rc0 a (Q_t 7) Q_t_7 z6)))) hP [23, 24, 6, 7, 8, 9, 10, 11, 12, 13, 14, 15, 16, 17, 18, 25, 26, 27, 28, 29, 21, 22] rfl) (hD.sub (ws' := rc2 a (Q_t 9) Q_t_9 z_t_9 ++ (rc7 a (Q_t_5 0) Q_t_5_0 z_t_5_0 ++ (rc3 a q_R Q_R nc_R z_R ++ (rc0 a (Q_t 7) Q_t_7 z6)))) [23, 24, 6, 7, 8, 9, 10, 11, 12, 13, 14, 15, 16, 17, 18, 25, 26, 27, 28, 29, 21, 22] (by decide) rfl)) (recvOf hK hP 23 rfl (ci := 2) rfl)) hl.1 rfl (Nat.le_of_ble_eq_true rfl) dX8_would_52 ⟨Nat.le_of_ble_eq_true rfl, Nat.le_of_ble_eq_true rfl⟩) hP hD hS hA [23, 24, 6, 7, 8, 9, 10, 11, 12, 13, 14, 15, 16, 17, 18, 25, 26, 27, 28, 29, 21, 22] [0, 1, 2, 3, 4, 5, 19, 20] [0, 1, 2, 3, 4, 5, 10, 11, 12, 13, 14, 15, 16, 17, 18, 19, 20, 21, 22, 6, 7, 28, 29, 8, 9, 23, 24, 25, 26, 27] rfl rfl (by decide) (by decide) (fw := rc8 a q_t Q_t z_t ++ (rb4 a (Q_t 2) 6 B_t_2 ++ (rc5 a (Q_t 5) Q_t_5 z_t_5 ++ (rc7 a (Q_t_5 0) Q_t_5_0 z_t_5_0 ++ (rc0 a (Q_t_5 1) Q_t_5_1 z_t_5_1 ++ (rc0 a (Q_t 7) Q_t_7 z10 ++ (rc2 a (Q_t 9) Q_t_9 z9 ++ (rc3 a q_R Q_R nc_R z_R)))))))) rfl (by decide) (fun H locs hP hD hS => ?_)
      have hP : va_P D classes (rc8 a q_t Q_t z_t ++ (rb4 a (Q_t 2) 6 B_t_2 ++ (rc5 a (Q_t 5) Q_t_5 z_t_5 ++ (rc7 a (Q_t_5 0) Q_t_5_0 z_t_5_0 ++ (rc0 a (Q_t_5 1) Q_t_5_1 z_t_5_1 ++ (rc0 a (Q_t 7) Q_t_7 z10 ++ (rc2 a (Q_t 9) Q_t_9 z9 ++ (rc3 a q_R Q_R nc_R z_R)))))))) H := hP
      have hD : va_D A (rc8 a q_t Q_t z_t ++ (rb4 a (Q_t 2) 6 B_t_2 ++ (rc5 a (Q_t 5) Q_t_5 z_t_5 ++ (rc7 a (Q_t_5 0) Q_t_5_0 z_t_5_0 ++ (rc0 a (Q_t_5 1) Q_t_5_1 z_t_5_1 ++ (rc0 a (Q_t 7) Q_t_7 z10 ++ (rc2 a (Q_t 9) Q_t_9 z9 ++ (rc3 a q_R Q_R nc_R z_R)))))))) := hD
      refine lv_istore (lv' := [(4, .int r8), (3, .ref q_R), (0, .ref q_t), (1, .int x1), (2, .int x2)]) hx hb dX8_would_55 hl (by decide) rfl (fun ls hl => ?_)
      refine lv_iload_n hx hb dX8_would_57 rfl (lv_at hl 4 rfl) ?_
      by_cases c11_0 : x2 = 0
      · have h := ite_t c11_0 h
        refine lv_tableIn (off := 30) (tgt := 88) hx hb dX8_would_58 (by rw [c11_0]; decide) (by rw [c11_0]; decide) (by rw [c11_0]; decide) (by decide) ?_
        refine lv_aload_n hx hb dX8_would_88 rfl (lv_at hl 2 rfl) ?_
        refine va_get (D := D) (v := .ref (Q_t 7)) (C := RX8) (T := TX8) (N := 11) hx hb hts iX8 hown hK.1 hP 0 rfl rfl 7 (by decide) (hts _ t_307) (fun _ h9 => h9) rfl dX8_would_89 ?_
        refine va_get (D := D) (v := .int (gI z10 1)) (C := RX0) (T := TX0) (N := 6) hx hb hts iX0 hown hK.1 hP 21 rfl rfl 1 (by decide) (hts _ t_135) (fun _ h9 => h9) rfl dX8_would_92 ?_
        refine lv_aload_n hx hb dX8_would_95 rfl (lv_at hl 2 rfl) ?_
        refine va_get (D := D) (v := .ref (Q_t 5)) (C := RX8) (T := TX8) (N := 11) hx hb hts iX8 hown hK.1 hP 0 rfl rfl 5 (by decide) (hts _ t_305) (fun _ h9 => h9) rfl dX8_would_96 ?_
        refine va_get (D := D) (v := .ref (Q_t_5 1)) (C := RX5) (T := TX5) (N := 8) hx hb hts iX5 hown hK.1 hP 3 rfl rfl 1 (by decide) (hts _ t_163) (fun _ h9 => h9) rfl dX8_would_99 ?_
        refine va_get (D := D) (v := .int (gI z_t_5_1 1)) (C := RX0) (T := TX0) (N := 6) hx hb hts iX0 hown hK.1 hP 19 rfl rfl 1 (by decide) (hts _ t_135) (fun _ h9 => h9) rfl dX8_would_102 ?_
        refine lv_isub hx hb dX8_would_105 ?_
        exact rMi C rfl h (g := fun y => rc8 a q_t Q_t z_t ++ (rb4 a (Q_t 2) 6 B_t_2 ++ (rc5 a (Q_t 5) Q_t_5 z_t_5 ++ (rc7 a (Q_t_5 0) Q_t_5_0 z_t_5_0 ++ (rc0 a (Q_t_5 1) Q_t_5_1 z_t_5_1 ++ (rc0 a (Q_t 7) Q_t_7 y.2.1 ++ (rc2 a (Q_t 9) Q_t_9 y.2.2 ++ (rc3 a q_R Q_R nc_R z_R)))))))) (pr := fun y => y.1) hP hD hS dX8_would_106
      have h := ite_f c11_0 h
      by_cases c11_1 : x2 = 1
      · have h := ite_t c11_1 h
        refine lv_tableIn (off := 49) (tgt := 107) hx hb dX8_would_58 (by rw [c11_1]; decide) (by rw [c11_1]; decide) (by rw [c11_1]; decide) (by decide) ?_
        refine lv_aload_n hx hb dX8_would_107 rfl (lv_at hl 2 rfl) ?_
        refine va_get (D := D) (v := .ref (Q_t 7)) (C := RX8) (T := TX8) (N := 11) hx hb hts iX8 hown hK.1 hP 0 rfl rfl 7 (by decide) (hts _ t_307) (fun _ h9 => h9) rfl dX8_would_108 ?_
        refine va_get (D := D) (v := .int (gI z10 2)) (C := RX0) (T := TX0) (N := 6) hx hb hts iX0 hown hK.1 hP 21 rfl rfl 2 (by decide) (hts _ t_138) (fun _ h9 => h9) rfl dX8_would_111 ?_
        refine lv_aload_n hx hb dX8_would_114 rfl (lv_at hl 2 rfl) ?_
        refine va_get (D := D) (v := .ref (Q_t 5)) (C := RX8) (T := TX8) (N := 11) hx hb hts iX8 hown hK.1 hP 0 rfl rfl 5 (by decide) (hts _ t_305) (fun _ h9 => h9) rfl dX8_would_115 ?_
        refine va_get (D := D) (v := .ref (Q_t_5 1)) (C := RX5) (T := TX5) (N := 8) hx hb hts iX5 hown hK.1 hP 3 rfl rfl 1 (by decide) (hts _ t_163) (fun _ h9 => h9) rfl dX8_would_118 ?_
        refine va_get (D := D) (v := .int (gI z_t_5_1 2)) (C := RX0) (T := TX0) (N := 6) hx hb hts iX0 hown hK.1 hP 19 rfl rfl 2 (by decide) (hts _ t_138) (fun _ h9 => h9) rfl dX8_would_121 ?_
        refine lv_iconst (v := (-1)) hx hb dX8_would_124 (by decide) ?_
        refine lv_ixor hx hb dX8_would_125 ?_
        refine lv_iand hx hb dX8_would_126 ?_
        exact rMi C rfl h (g := fun y => rc8 a q_t Q_t z_t ++ (rb4 a (Q_t 2) 6 B_t_2 ++ (rc5 a (Q_t 5) Q_t_5 z_t_5 ++ (rc7 a (Q_t_5 0) Q_t_5_0 z_t_5_0 ++ (rc0 a (Q_t_5 1) Q_t_5_1 z_t_5_1 ++ (rc0 a (Q_t 7) Q_t_7 y.2.1 ++ (rc2 a (Q_t 9) Q_t_9 y.2.2 ++ (rc3 a q_R Q_R nc_R z_R)))))))) (pr := fun y => y.1) hP hD hS dX8_would_127
      have h := ite_f c11_1 h
      by_cases c11_2 : x2 = 2
      · have h := ite_t c11_2 h
        refine lv_tableIn (off := 70) (tgt := 128) hx hb dX8_would_58 (by rw [c11_2]; decide) (by rw [c11_2]; decide) (by rw [c11_2]; decide) (by decide) ?_
        refine lv_aload_n hx hb dX8_would_128 rfl (lv_at hl 2 rfl) ?_
        refine va_get (D := D) (v := .ref (Q_t 7)) (C := RX8) (T := TX8) (N := 11) hx hb hts iX8 hown hK.1 hP 0 rfl rfl 7 (by decide) (hts _ t_307) (fun _ h9 => h9) rfl dX8_would_129 ?_
        refine va_get (D := D) (v := .int (gI z10 0)) (C := RX0) (T := TX0) (N := 6) hx hb hts iX0 hown hK.1 hP 21 rfl rfl 0 (by decide) (hts _ t_132) (fun _ h9 => h9) rfl dX8_would_132 ?_
        exact rMi C rfl h (g := fun y => rc8 a q_t Q_t z_t ++ (rb4 a (Q_t 2) 6 B_t_2 ++ (rc5 a (Q_t 5) Q_t_5 z_t_5 ++ (rc7 a (Q_t_5 0) Q_t_5_0 z_t_5_0 ++ (rc0 a (Q_t_5 1) Q_t_5_1 z_t_5_1 ++ (rc0 a (Q_t 7) Q_t_7 y.2.1 ++ (rc2 a (Q_t 9) Q_t_9 y.2.2 ++ (rc3 a q_R Q_R nc_R z_R)))))))) (pr := fun y => y.1) hP hD hS dX8_would_135
      have h := ite_f c11_2 h
      by_cases c11_3 : x2 = 3
      · have h := ite_t c11_3 h
        refine lv_tableIn (off := 78) (tgt := 136) hx hb dX8_would_58 (by rw [c11_3]; decide) (by rw [c11_3]; decide) (by rw [c11_3]; decide) (by decide) ?_
        refine lv_aload_n hx hb dX8_would_136 rfl (lv_at hl 2 rfl) ?_
        refine va_get (D := D) (v := .ref (Q_t 5)) (C := RX8) (T := TX8) (N := 11) hx hb hts iX8 hown hK.1 hP 0 rfl rfl 5 (by decide) (hts _ t_305) (fun _ h9 => h9) rfl dX8_would_137 ?_
        refine va_get (D := D) (v := .ref (Q_t_5 0)) (C := RX5) (T := TX5) (N := 8) hx hb hts iX5 hown hK.1 hP 3 rfl rfl 0 (by decide) (hts _ t_161) (fun _ h9 => h9) rfl dX8_would_140 ?_
        refine lv_aload_n hx hb dX8_would_143 rfl (lv_at hl 2 rfl) ?_
        refine va_get (D := D) (v := .ref (Q_t 7)) (C := RX8) (T := TX8) (N := 11) hx hb hts iX8 hown hK.1 hP 0 rfl rfl 7 (by decide) (hts _ t_307) (fun _ h9 => h9) rfl dX8_would_144 ?_
        obtain ⟨r13, hc12, h⟩ := bd_some h
        refine cRi (runV (As := []) (rest := [.ref (Q_t_5 0)]) C (mX0_gone l D a (q_t := (Q_t 7)) (Q_t := Q_t_7) hc12) lk_V_8_171 okN_X0_gone ⟨Nat.le_of_ble_eq_true rfl, Nat.le_of_ble_eq_true rfl⟩ ⟨rfl, rfl⟩ (preV (preR hK (P_of_map (wc := rc0 a (Q_t 7) Q_t_7 z10) hP [21, 22] rfl)) (recvOf hK hP 21 rfl (ci := 0) rfl)) hl.1 rfl (Nat.le_of_ble_eq_true rfl) dX8_would_147 ⟨Nat.le_of_ble_eq_true rfl, Nat.le_of_ble_eq_true rfl⟩) ?_
        obtain ⟨r15, hc14, h⟩ := bd_some h
        refine cRi (runV (As := [.int r13]) (rest := []) C (mX7_hiddenCoins l D a (q_t := (Q_t_5 0)) (Q_t := Q_t_5_0) hc14) lk_V_8_222 okN_X7_hiddenCoins ⟨Nat.le_of_ble_eq_true rfl, Nat.le_of_ble_eq_true rfl⟩ ⟨rfl, rfl⟩ (preV (preR hK (P_of_map (wc := rc7 a (Q_t_5 0) Q_t_5_0 z_t_5_0) hP [6, 7, 8, 9, 10, 11, 12, 13, 14, 15, 16, 17, 18] rfl)) (recvOf hK hP 6 rfl (ci := 7) rfl)) hl.1 rfl (Nat.le_of_ble_eq_true rfl) dX8_would_150 ⟨Nat.le_of_ble_eq_true rfl, Nat.le_of_ble_eq_true rfl⟩) ?_
        exact rMi C rfl h (g := fun y => rc8 a q_t Q_t z_t ++ (rb4 a (Q_t 2) 6 B_t_2 ++ (rc5 a (Q_t 5) Q_t_5 z_t_5 ++ (rc7 a (Q_t_5 0) Q_t_5_0 z_t_5_0 ++ (rc0 a (Q_t_5 1) Q_t_5_1 z_t_5_1 ++ (rc0 a (Q_t 7) Q_t_7 y.2.1 ++ (rc2 a (Q_t 9) Q_t_9 y.2.2 ++ (rc3 a q_R Q_R nc_R z_R)))))))) (pr := fun y => y.1) hP hD hS dX8_would_153
      have h := ite_f c11_3 h
      refine lv_tableOut (tgt := 154) hx hb dX8_would_58 (by have := lv_neT c11_0 (show (0 : Int32).toInt = 0 by decide); have := lv_neT c11_1 (show (1 : Int32).toInt = 1 by decide); have := lv_neT c11_2 (show (2 : Int32).toInt = 2 by decide); have := lv_neT c11_3 (show (3 : Int32).toInt = 3 by decide); omega) (by decide) ?_
      refine lv_iload hx hb dX8_would_154 (lv_at hl 0 rfl) ?_
      exact rMi C rfl h (g := fun y => rc8 a q_t Q_t z_t ++ (rb4 a (Q_t 2) 6 B_t_2 ++ (rc5 a (Q_t 5) Q_t_5 z_t_5 ++ (rc7 a (Q_t_5 0) Q_t_5_0 z_t_5_0 ++ (rc0 a (Q_t_5 1) Q_t_5_1 z_t_5_1 ++ (rc0 a (Q_t 7) Q_t_7 y.2.1 ++ (rc2 a (Q_t 9) Q_t_9 y.2.2 ++ (rc3 a q_R Q_R nc_R z_R)))))))) (pr := fun y => y.1) hP hD hS dX8_would_156
    · have h := ite_f c4 h
      refine lv_ldc hx hb hown (hts _ t_640) dX8_would_19 ?_
      exact rMi C rfl h (g := fun y => rc8 a q_t Q_t z_t ++ (rb4 a (Q_t 2) 6 B_t_2 ++ (rc5 a (Q_t 5) Q_t_5 z_t_5 ++ (rc7 a (Q_t_5 0) Q_t_5_0 z_t_5_0 ++ (rc0 a (Q_t_5 1) Q_t_5_1 z_t_5_1 ++ (rc0 a (Q_t 7) Q_t_7 y.2.1 ++ (rc2 a (Q_t 9) Q_t_9 y.2.2 ++ (rc3 a q_R Q_R nc_R z_R)))))))) (pr := fun y => y.1) hP hD hS dX8_would_21

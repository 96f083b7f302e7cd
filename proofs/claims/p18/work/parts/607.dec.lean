set_option maxHeartbeats 4000000 in
set_option maxRecDepth 100000 in
theorem wX8_weeks_some_54 {p : Program} {l : Launch} {e : Env} {s : State} {m : MethodId} {below : List Frame} {meth : Method} {c : Code} {D : va_G} {a : Nat → ClassId} {A : Nat → Prop} {q_t : Nat} {q_R : Nat} {Q_t : Nat → Nat} {Q_t_5 : Nat → Nat} {Q_t_5_0 : Nat → Nat} {Q_t_5_1 : Nat → Nat} {Q_t_7 : Nat → Nat} {Q_t_9 : Nat → Nat} {Q_R : Nat → Nat} {z_t : Sx} {B_t_2 : Nat → Option Nat} {z_t_5 : Sx} {z_t_5_0 : Sx} {z_t_5_1 : Sx} {nc_R : Nat} {z_R : Sx} {x10 : Int32} {x20 : Int32} {x30 : Int32} {x2 : Int32} {x3 : Int32} (C : Cx p s m #[.ref q_t, .int x10, .int x20, .int x30] meth c MX8_weeks) (hK : KK D a s) (hA : ∀ q, s.heap.size ≤ q → A q) {y : Int32 × Sx × Sx} : ∀ (n : Nat) (z_t_7 : Sx) (z_t_9 : Sx) (x5 : Int32) (x6 : Int32) (H : Heap) (locs : List Loc) (ls : Array Slot), lX8_weeks_some_54 z_t B_t_2 z_t_5 z_t_5_0 z_t_5_1 nc_R z_R x2 x3 n z_t_7 z_t_9 x5 x6 = some y → va_P D classes (rc8 a q_t Q_t z_t ++ (rb4 a (Q_t 2) 6 B_t_2 ++ (rc5 a (Q_t 5) Q_t_5 z_t_5 ++ (rc7 a (Q_t_5 0) Q_t_5_0 z_t_5_0 ++ (rc0 a (Q_t_5 1) Q_t_5_1 z_t_5_1 ++ (rc0 a (Q_t 7) Q_t_7 z_t_7 ++ (rc2 a (Q_t 9) Q_t_9 z_t_9 ++ (rc3 a q_R Q_R nc_R z_R)))))))) H → va_D A (rc8 a q_t Q_t z_t ++ (rb4 a (Q_t 2) 6 B_t_2 ++ (rc5 a (Q_t 5) Q_t_5 z_t_5 ++ (rc7 a (Q_t_5 0) Q_t_5_0 z_t_5_0 ++ (rc0 a (Q_t_5 1) Q_t_5_1 z_t_5_1 ++ (rc0 a (Q_t 7) Q_t_7 z_t_7 ++ (rc2 a (Q_t 9) Q_t_9 z_t_9 ++ (rc3 a q_R Q_R nc_R z_R)))))))) → va_S A s.heap H locs → lv_has ls 7 [(0, .ref q_t), (2, .int x2), (3, .int x3), (4, .ref q_R), (5, .int x5), (6, .int x6)] → W p l e (rmM 6 0 0 162) s m #[.ref q_t, .int x10, .int x20, .int x30] below meth c H locs 0 0 (MQ below (va_Qi (fun r (_ : Unit) => r = y.1) (Bw D A (fun _ => rc8 a q_t Q_t z_t ++ (rb4 a (Q_t 2) 6 B_t_2 ++ (rc5 a (Q_t 5) Q_t_5 z_t_5 ++ (rc7 a (Q_t_5 0) Q_t_5_0 z_t_5_0 ++ (rc0 a (Q_t_5 1) Q_t_5_1 z_t_5_1 ++ (rc0 a (Q_t 7) Q_t_7 y.2.1 ++ (rc2 a (Q_t 9) Q_t_9 y.2.2 ++ (rc3 a q_R Q_R nc_R z_R))))))))) A) #[.ref q_t, .int x10, .int x20, .int x30] s 0 0 A) (F0 m 54 ls []) := by
  obtain ⟨hx, hb, hml, hown, hts, hr, hlocks, hnm⟩ := id C
  have hb : c.code = cX8_weeks := hb
  have hown : s.vm.findClass RX8 = some m.cls := hown
  intro n
  induction n with
  | zero => intro z_t_7 z_t_9 x5 x6 H locs ls h; rw [lX8_weeks_some_54] at h; cases h
  | succ n ih =>
    intro z_t_7 z_t_9 x5 x6 H locs ls h hP hD hS hl
    rw [lX8_weeks_some_54] at h
    refine lv_iload hx hb dX8_weeks_54 (lv_at hl 5 rfl) ?_
    refine lv_iload_n hx hb dX8_weeks_56 rfl (lv_at hl 1 rfl) ?_
    refine lv_bipush (v := 6) hx hb dX8_weeks_57 (by decide) ?_
    refine lv_imul hx hb dX8_weeks_59 ?_
    refine lv_icmp_ge (tgt := 161) hx hb dX8_weeks_60 (by decide) (fun c9 => ?_) (fun c9 => ?_)
    · have h := ite_t c9 h
      refine lv_iload hx hb dX8_weeks_161 (lv_at hl 4 rfl) ?_
      obtain rfl := Option.some.inj h
      exact retMi C rfl () rfl hP hD hS (Nat.le_refl 0) (Nat.le_refl 0) dX8_weeks_163
    · have h := ite_f c9 h
      refine lv_aload_n hx hb dX8_weeks_63 rfl (lv_at hl 0 rfl) ?_
      refine va_get (D := D) (v := .ref (Q_t 7)) (C := RX8) (T := TX8) (N := 11) hx hb hts iX8 hown hK.1 hP 0 rfl rfl 7 (by decide) (hts _ t_307) (fun _ h9 => h9) rfl dX8_weeks_64 ?_
      refine lv_aload_n hx hb dX8_weeks_67 rfl (lv_at hl 0 rfl) ?_
      refine va_get (D := D) (v := .ref (Q_t 5)) (C := RX8) (T := TX8) (N := 11) hx hb hts iX8 hown hK.1 hP 0 rfl rfl 5 (by decide) (hts _ t_305) (fun _ h9 => h9) rfl dX8_weeks_68 ?_
      refine va_get (D := D) (v := .ref (Q_t_5 0)) (C := RX5) (T := TX5) (N := 8) hx hb hts iX5 hown hK.1 hP 3 rfl rfl 0 (by decide) (hts _ t_161) (fun _ h9 => h9) rfl dX8_weeks_71 ?_
      refine va_get (D := D) (v := .int (gI z_t_5_0 1)) (C := RX7) (T := TX7) (N := 18) hx hb hts iX7 hown hK.1 hP 6 rfl rfl 1 (by decide) (hts _ t_41) (fun _ h9 => h9) rfl dX8_weeks_74 ?_
      obtain ⟨z11, hc10, h⟩ := bd_some h
      refine cMv (runV (As := [.int (gI z_t_5_0 1)]) (rest := []) C (mX0_begin l D a (q_t := (Q_t 7)) (Q_t := Q_t_7) hc10 H.size) lk_V_8_225 okN_X0_begin ⟨Nat.le_of_ble_eq_true rfl, Nat.le_of_ble_eq_true rfl⟩ ⟨rfl, rfl⟩ (preV (preM hK (P_of_map (wc := rc0 a (Q_t 7) Q_t_7 z_t_7) hP [21, 22] rfl) (hD.sub (ws' := rc0 a (Q_t 7) Q_t_7 z_t_7) [21, 22] (by decide) rfl)) (recvOf hK hP 21 rfl (ci := 0) rfl)) hl.1 rfl (Nat.le_of_ble_eq_true rfl) dX8_weeks_77 ⟨Nat.le_of_ble_eq_true rfl, Nat.le_of_ble_eq_true rfl⟩) hP hD hS hA [21, 22] [0, 1, 2, 3, 4, 5, 6, 7, 8, 9, 10, 11, 12, 13, 14, 15, 16, 17, 18, 19, 20, 23, 24, 25, 26, 27, 28, 29] [0, 1, 2, 3, 4, 5, 6, 7, 8, 9, 10, 11, 12, 13, 14, 15, 16, 17, 18, 19, 20, 28, 29, 21, 22, 23, 24, 25, 26, 27] rfl rfl (by decide) (by decide) (fw := rc8 a q_t Q_t z_t ++ (rb4 a (Q_t 2) 6 B_t_2 ++ (rc5 a (Q_t 5) Q_t_5 z_t_5 ++ (rc7 a (Q_t_5 0) Q_t_5_0 z_t_5_0 ++ (rc0 a (Q_t_5 1) Q_t_5_1 z_t_5_1 ++ (rc0 a (Q_t 7) Q_t_7 z11 ++ (rc2 a (Q_t 9) Q_t_9 z_t_9 ++ (rc3 a q_R Q_R nc_R z_R)))))))) rfl (by decide) (fun H locs hP hD hS => ?_)
      have hP : va_P D classes (rc8 a q_t Q_t z_t ++ (rb4 a (Q_t 2) 6 B_t_2 ++ (rc5 a (Q_t 5) Q_t_5 z_t_5 ++ (rc7 a (Q_t_5 0) Q_t_5_0 z_t_5_0 ++ (rc0 a (Q_t_5 1) Q_t_5_1 z_t_5_1 ++ (rc0 a (Q_t 7) Q_t_7 z11 ++ (rc2 a (Q_t 9) Q_t_9 z_t_9 ++ (rc3 a q_R Q_R nc_R z_R)))))))) H := hP
      have hD : va_D A (rc8 a q_t Q_t z_t ++ (rb4 a (Q_t 2) 6 B_t_2 ++ (rc5 a (Q_t 5) Q_t_5 z_t_5 ++ (rc7 a (Q_t_5 0) Q_t_5_0 z_t_5_0 ++ (rc0 a (Q_t_5 1) Q_t_5_1 z_t_5_1 ++ (rc0 a (Q_t 7) Q_t_7 z11 ++ (rc2 a (Q_t 9) Q_t_9 z_t_9 ++ (rc3 a q_R Q_R nc_R z_R)))))))) := hD
      refine lv_aload_n hx hb dX8_weeks_80 rfl (lv_at hl 0 rfl) ?_
      refine va_get (D := D) (v := .ref (Q_t 9)) (C := RX8) (T := TX8) (N := 11) hx hb hts iX8 hown hK.1 hP 0 rfl rfl 9 (by decide) (hts _ t_309) (fun _ h9 => h9) rfl dX8_weeks_81 ?_
      refine lv_aload_n hx hb dX8_weeks_84 rfl (lv_at hl 0 rfl) ?_
      refine va_get (D := D) (v := .ref (Q_t 5)) (C := RX8) (T := TX8) (N := 11) hx hb hts iX8 hown hK.1 hP 0 rfl rfl 5 (by decide) (hts _ t_305) (fun _ h9 => h9) rfl dX8_weeks_85 ?_
      refine va_get (D := D) (v := .ref (Q_t_5 0)) (C := RX5) (T := TX5) (N := 8) hx hb hts iX5 hown hK.1 hP 3 rfl rfl 0 (by decide) (hts _ t_161) (fun _ h9 => h9) rfl dX8_weeks_88 ?_
      refine lv_aload hx hb dX8_weeks_91 (lv_at hl 3 rfl) ?_
      refine lv_aload_n hx hb dX8_weeks_93 rfl (lv_at hl 0 rfl) ?_
      refine va_get (D := D) (v := .ref (Q_t 7)) (C := RX8) (T := TX8) (N := 11) hx hb hts iX8 hown hK.1 hP 0 rfl rfl 7 (by decide) (hts _ t_307) (fun _ h9 => h9) rfl dX8_weeks_94 ?_
      obtain ⟨r13, z14, z15, hc12, h⟩ := bd3_some h
      refine cMi (runV (As := [.ref (Q_t_5 0), .ref q_R, .ref (Q_t 7)]) (rest := []) C (mX2_play l D a (q_t := (Q_t 9)) (q_p1 := (Q_t_5 0)) (q_p2 := q_R) (q_p3 := (Q_t 7)) (Q_t := Q_t_9) (Q_p1 := Q_t_5_0) (Q_p2 := Q_R) (Q_p3 := Q_t_7) hc12 H.size) lk_V_8_232 okN_X2_play ⟨Nat.le_of_ble_eq_true rfl, Nat.le_of_ble_eq_true rfl⟩ ⟨rfl, rfl⟩ (preV (preM hK (P_of_map (wc := rc2 a (Q_t 9) Q_t_9 z_t_9 ++ (rc7 a (Q_t_5 0) Q_t_5_0 z_t_5_0 ++ (rc3 a q_R Q_R nc_R z_R ++ (rc0 a (Q_t 7) Q_t_7 z11)))) hP [23, 24, 6, 7, 8, 9, 10, 11, 12, 13, 14, 15, 16, 17, 18, 25, 26, 27, 28, 29, 21, 22] rfl) (hD.sub (ws' := rc2 a (Q_t 9) Q_t_9 z_t_9 ++ (rc7 a (Q_t_5 0) Q_t_5_0 z_t_5_0 ++ (rc3 a q_R Q_R nc_R z_R ++ (rc0 a (Q_t 7) Q_t_7 z11)))) [23, 24, 6, 7, 8, 9, 10, 11, 12, 13, 14, 15, 16, 17, 18, 25, 26, 27, 28, 29, 21, 22] (by decide) rfl)) (recvOf hK hP 23 rfl (ci := 2) rfl)) hl.1 rfl (Nat.le_of_ble_eq_true rfl) dX8_weeks_97 ⟨Nat.le_of_ble_eq_true rfl, Nat.le_of_ble_eq_true rfl⟩) hP hD hS hA [23, 24, 6, 7, 8, 9, 10, 11, 12, 13, 14, 15, 16, 17, 18, 25, 26, 27, 28, 29, 21, 22] [0, 1, 2, 3, 4, 5, 19, 20] [0, 1, 2, 3, 4, 5, 10, 11, 12, 13, 14, 15, 16, 17, 18, 19, 20, 21, 22, 6, 7, 28, 29, 8, 9, 23, 24, 25, 26, 27] rfl rfl (by decide) (by decide) (fw := rc8 a q_t Q_t z_t ++ (rb4 a (Q_t 2) 6 B_t_2 ++ (rc5 a (Q_t 5) Q_t_5 z_t_5 ++ (rc7 a (Q_t_5 0) Q_t_5_0 z_t_5_0 ++ (rc0 a (Q_t_5 1) Q_t_5_1 z_t_5_1 ++ (rc0 a (Q_t 7) Q_t_7 z15 ++ (rc2 a (Q_t 9) Q_t_9 z14 ++ (rc3 a q_R Q_R nc_R z_R)))))))) rfl (by decide) (fun H locs hP hD hS => ?_)
      have hP : va_P D classes (rc8 a q_t Q_t z_t ++ (rb4 a (Q_t 2) 6 B_t_2 ++ (rc5 a (Q_t 5) Q_t_5 z_t_5 ++ (rc7 a (Q_t_5 0) Q_t_5_0 z_t_5_0 ++ (rc0 a (Q_t_5 1) Q_t_5_1 z_t_5_1 ++ (rc0 a (Q_t 7) Q_t_7 z15 ++ (rc2 a (Q_t 9) Q_t_9 z14 ++ (rc3 a q_R Q_R nc_R z_R)))))))) H := hP
      have hD : va_D A (rc8 a q_t Q_t z_t ++ (rb4 a (Q_t 2) 6 B_t_2 ++ (rc5 a (Q_t 5) Q_t_5 z_t_5 ++ (rc7 a (Q_t_5 0) Q_t_5_0 z_t_5_0 ++ (rc0 a (Q_t_5 1) Q_t_5_1 z_t_5_1 ++ (rc0 a (Q_t 7) Q_t_7 z15 ++ (rc2 a (Q_t 9) Q_t_9 z14 ++ (rc3 a q_R Q_R nc_R z_R)))))))) := hD
      refine lv_pop hx hb dX8_weeks_100 rfl ?_
      refine lv_iload hx hb dX8_weeks_101 (lv_at hl 4 rfl) ?_
      refine lv_iload_n hx hb dX8_weeks_103 rfl (lv_at hl 2 rfl) ?_
      obtain ⟨J16, eJ16, h⟩ := jn_some h
      have hJ16 : ∀ (i17 : Int32) (i18 : Int32) (H : Heap) (locs : List Loc) (ls : Array Slot), J16 i17 i18 = some y → va_P D classes (rc8 a q_t Q_t z_t ++ (rb4 a (Q_t 2) 6 B_t_2 ++ (rc5 a (Q_t 5) Q_t_5 z_t_5 ++ (rc7 a (Q_t_5 0) Q_t_5_0 z_t_5_0 ++ (rc0 a (Q_t_5 1) Q_t_5_1 z_t_5_1 ++ (rc0 a (Q_t 7) Q_t_7 z15 ++ (rc2 a (Q_t 9) Q_t_9 z14 ++ (rc3 a q_R Q_R nc_R z_R)))))))) H → va_D A (rc8 a q_t Q_t z_t ++ (rb4 a (Q_t 2) 6 B_t_2 ++ (rc5 a (Q_t 5) Q_t_5 z_t_5 ++ (rc7 a (Q_t_5 0) Q_t_5_0 z_t_5_0 ++ (rc0 a (Q_t_5 1) Q_t_5_1 z_t_5_1 ++ (rc0 a (Q_t 7) Q_t_7 z15 ++ (rc2 a (Q_t 9) Q_t_9 z14 ++ (rc3 a q_R Q_R nc_R z_R)))))))) → va_S A s.heap H locs → lv_has ls 7 [(0, .ref q_t), (2, .int x2), (3, .int x3), (4, .ref q_R), (6, .int x6)] → W p l e (rmM 6 0 0 162) s m #[.ref q_t, .int x10, .int x20, .int x30] below meth c H locs 0 0 (MQ below (va_Qi (fun r (_ : Unit) => r = y.1) (Bw D A (fun _ => rc8 a q_t Q_t z_t ++ (rb4 a (Q_t 2) 6 B_t_2 ++ (rc5 a (Q_t 5) Q_t_5 z_t_5 ++ (rc7 a (Q_t_5 0) Q_t_5_0 z_t_5_0 ++ (rc0 a (Q_t_5 1) Q_t_5_1 z_t_5_1 ++ (rc0 a (Q_t 7) Q_t_7 y.2.1 ++ (rc2 a (Q_t 9) Q_t_9 y.2.2 ++ (rc3 a q_R Q_R nc_R z_R))))))))) A) #[.ref q_t, .int x10, .int x20, .int x30] s 0 0 A) (F0 m 152 ls [.int i17, .int i18]) := by
        intro i17 i18 H locs ls h hP hD hS hl
        rw [eJ16] at h
        refine lv_iadd hx hb dX8_weeks_152 ?_
        refine lv_istore (lv' := [(5, .int (i18 + i17)), (0, .ref q_t), (2, .int x2), (3, .int x3), (4, .ref q_R), (6, .int x6)]) hx hb dX8_weeks_153 hl (by decide) rfl (fun ls hl => ?_)
        refine lv_iinc (v := x6 + 1) (lv' := [(6, .int (x6 + 1)), (5, .int (i18 + i17)), (0, .ref q_t), (2, .int x2), (3, .int x3), (4, .ref q_R)]) hx hb dX8_weeks_155 hl (k := 5) rfl rfl (by decide) rfl (fun ls hl => ?_)
        refine lv_goto (tgt := 54) hx hb dX8_weeks_158 (by decide) ?_
        exact ih z15 z14 (i18 + i17) (x6 + 1) _ _ ls h hP hD hS (lv_sub hl [2, 3, 4, 5, 1, 0] rfl)
      refine lv_if_ne (tgt := 117) hx hb dX8_weeks_104 (by decide) (fun c19 => ?_) (fun c19 => ?_)
      · have h := ite_f c19 h
        refine lv_iload_n hx hb dX8_weeks_117 rfl (lv_at hl 2 rfl) ?_
        refine lv_iconst (v := 1) hx hb dX8_weeks_118 (by decide) ?_
        refine lv_icmp_ne (tgt := 135) hx hb dX8_weeks_119 (by decide) (fun c20 => ?_) (fun c20 => ?_)
        · have h := ite_f c20 h
          refine lv_aload_n hx hb dX8_weeks_135 rfl (lv_at hl 0 rfl) ?_
          refine va_get (D := D) (v := .ref (Q_t 5)) (C := RX8) (T := TX8) (N := 11) hx hb hts iX8 hown hK.1 hP 0 rfl rfl 5 (by decide) (hts _ t_305) (fun _ h9 => h9) rfl dX8_weeks_136 ?_
          refine va_get (D := D) (v := .ref (Q_t_5 0)) (C := RX5) (T := TX5) (N := 8) hx hb hts iX5 hown hK.1 hP 3 rfl rfl 0 (by decide) (hts _ t_161) (fun _ h9 => h9) rfl dX8_weeks_139 ?_
          refine lv_aload_n hx hb dX8_weeks_142 rfl (lv_at hl 0 rfl) ?_
          refine va_get (D := D) (v := .ref (Q_t 7)) (C := RX8) (T := TX8) (N := 11) hx hb hts iX8 hown hK.1 hP 0 rfl rfl 7 (by decide) (hts _ t_307) (fun _ h9 => h9) rfl dX8_weeks_143 ?_
          obtain ⟨r22, hc21, h⟩ := bd_some h
          refine cRi (runV (As := []) (rest := [.ref (Q_t_5 0), .int x5]) C (mX0_gone l D a (q_t := (Q_t 7)) (Q_t := Q_t_7) hc21) lk_V_8_171 okN_X0_gone ⟨Nat.le_of_ble_eq_true rfl, Nat.le_of_ble_eq_true rfl⟩ ⟨rfl, rfl⟩ (preV (preR hK (P_of_map (wc := rc0 a (Q_t 7) Q_t_7 z15) hP [21, 22] rfl)) (recvOf hK hP 21 rfl (ci := 0) rfl)) hl.1 rfl (Nat.le_of_ble_eq_true rfl) dX8_weeks_146 ⟨Nat.le_of_ble_eq_true rfl, Nat.le_of_ble_eq_true rfl⟩) ?_
          obtain ⟨r24, hc23, h⟩ := bd_some h
          refine cRi (runV (As := [.int r22]) (rest := [.int x5]) C (mX7_hiddenCoins l D a (q_t := (Q_t_5 0)) (Q_t := Q_t_5_0) hc23) lk_V_8_222 okN_X7_hiddenCoins ⟨Nat.le_of_ble_eq_true rfl, Nat.le_of_ble_eq_true rfl⟩ ⟨rfl, rfl⟩ (preV (preR hK (P_of_map (wc := rc7 a (Q_t_5 0) Q_t_5_0 z_t_5_0) hP [6, 7, 8, 9, 10, 11, 12, 13, 14, 15, 16, 17, 18] rfl)) (recvOf hK hP 6 rfl (ci := 7) rfl)) hl.1 rfl (Nat.le_of_ble_eq_true rfl) dX8_weeks_149 ⟨Nat.le_of_ble_eq_true rfl, Nat.le_of_ble_eq_true rfl⟩) ?_
          exact hJ16 r24 x5 _ _ ls h hP hD hS (lv_sub hl [0, 1, 2, 3, 5] rfl)
        · have h := ite_t c20 h
          refine lv_aload_n hx hb dX8_weeks_122 rfl (lv_at hl 0 rfl) ?_
          refine va_get (D := D) (v := .ref (Q_t 7)) (C := RX8) (T := TX8) (N := 11) hx hb hts iX8 hown hK.1 hP 0 rfl rfl 7 (by decide) (hts _ t_307) (fun _ h9 => h9) rfl dX8_weeks_123 ?_
          refine va_get (D := D) (v := .int (gI z15 2)) (C := RX0) (T := TX0) (N := 6) hx hb hts iX0 hown hK.1 hP 21 rfl rfl 2 (by decide) (hts _ t_138) (fun _ h9 => h9) rfl dX8_weeks_126 ?_
          obtain ⟨r26, hc25, h⟩ := bd_some h
          refine cRi (runS (As := [.int (gI z15 2)]) (rest := [.int x5]) C (mJ6_bitCount_0f7a4 l D a hc25) lk_S_8_181 okN_J6_bitCount_0f7a4 ⟨Nat.le_of_ble_eq_true rfl, Nat.le_of_ble_eq_true rfl⟩ ⟨rfl, rfl⟩ (preR hK (P_of_map (wc := []) hP [] rfl)) hl.1 rfl (Nat.le_of_ble_eq_true rfl) dX8_weeks_129 ⟨Nat.le_of_ble_eq_true rfl, Nat.le_of_ble_eq_true rfl⟩) ?_
          refine lv_goto (tgt := 152) hx hb dX8_weeks_132 (by decide) ?_
          exact hJ16 r26 x5 _ _ ls h hP hD hS (lv_sub hl [0, 1, 2, 3, 5] rfl)
      · have h := ite_t c19 h
        refine lv_aload_n hx hb dX8_weeks_107 rfl (lv_at hl 0 rfl) ?_
        refine va_get (D := D) (v := .ref (Q_t 7)) (C := RX8) (T := TX8) (N := 11) hx hb hts iX8 hown hK.1 hP 0 rfl rfl 7 (by decide) (hts _ t_307) (fun _ h9 => h9) rfl dX8_weeks_108 ?_
        refine va_get (D := D) (v := .int (gI z15 1)) (C := RX0) (T := TX0) (N := 6) hx hb hts iX0 hown hK.1 hP 21 rfl rfl 1 (by decide) (hts _ t_135) (fun _ h9 => h9) rfl dX8_weeks_111 ?_
        refine lv_goto (tgt := 152) hx hb dX8_weeks_114 (by decide) ?_
        exact hJ16 (gI z15 1) x5 _ _ ls h hP hD hS (lv_sub hl [0, 1, 2, 3, 5] rfl)

set_option maxHeartbeats 4000000 in
set_option maxRecDepth 100000 in
theorem mX8_weeks_some (l : Launch) (D : va_G) (a : Nat → ClassId) {q_R : Nat} {q_t : Nat} {Q_t : Nat → Nat} {z_t : Sx} {B_t_2 : Nat → Option Nat} {Q_t_5 : Nat → Nat} {z_t_5 : Sx} {Q_t_5_0 : Nat → Nat} {z_t_5_0 : Sx} {Q_t_5_1 : Nat → Nat} {z_t_5_1 : Sx} {Q_t_7 : Nat → Nat} {z_t_7 : Sx} {Q_t_9 : Nat → Nat} {z_t_9 : Sx} {Q_R : Nat → Nat} {nc_R : Nat} {z_R : Sx} {x1 : Int32} {x2 : Int32} {x3 : Int32} (hm : fX8_ruleForWork z_t B_t_2 z_t_5 z_t_5_0 x1 = some (some q_R)) {y : Int32 × Sx × Sx} (h : fX8_weeks_some z_t B_t_2 z_t_5 z_t_5_0 z_t_5_1 z_t_7 z_t_9 nc_R z_R x1 x2 x3 = some y) (sz : Nat) : CMi (S := Unit) l MX8_weeks 6 162 0 0 D a [.ref q_t, .int x1, .int x2, .int x3] (rc8 a q_t Q_t z_t ++ (rb4 a (Q_t 2) 6 B_t_2 ++ (rc5 a (Q_t 5) Q_t_5 z_t_5 ++ (rc7 a (Q_t_5 0) Q_t_5_0 z_t_5_0 ++ (rc0 a (Q_t_5 1) Q_t_5_1 z_t_5_1 ++ (rc0 a (Q_t 7) Q_t_7 z_t_7 ++ (rc2 a (Q_t 9) Q_t_9 z_t_9 ++ (rc3 a q_R Q_R nc_R z_R)))))))) sz (fun r _ => r = y.1) (fun _ => rc8 a q_t Q_t z_t ++ (rb4 a (Q_t 2) 6 B_t_2 ++ (rc5 a (Q_t 5) Q_t_5 z_t_5 ++ (rc7 a (Q_t_5 0) Q_t_5_0 z_t_5_0 ++ (rc0 a (Q_t_5 1) Q_t_5_1 z_t_5_1 ++ (rc0 a (Q_t 7) Q_t_7 y.2.1 ++ (rc2 a (Q_t 9) Q_t_9 y.2.2 ++ (rc3 a q_R Q_R nc_R z_R)))))))) := by
  unfold fX8_weeks_some at h
  refine entMi (by decide) (Nat.le_of_ble_eq_true rfl) ?_
  intro p e s m below meth c C hK A hA hP hD ls hl
  obtain ⟨hx, hb, hml, hown, hts, hr, hlocks, hnm⟩ := id C
  have hb : c.code = cX8_weeks := hb
  have hown : s.vm.findClass RX8 = some m.cls := hown
  have hS : va_S A s.heap s.heap [] := va_S.rf
  have hl : lv_has ls 7 [(0, .ref q_t), (1, .int x1), (2, .int x2), (3, .int x3)] := hl
  refine lv_aload_n hx hb dX8_weeks_0 rfl (lv_at hl 0 rfl) ?_
  refine lv_iload_n hx hb dX8_weeks_1 rfl (lv_at hl 1 rfl) ?_
  obtain ⟨r2, hc1, h⟩ := bd_some h
  refine cRq (runV (As := [.int x1]) (rest := []) C (mX8_ruleForWork l D a (q_t := q_t) (Q_t := Q_t) (Q_t_5 := Q_t_5) (Q_t_5_0 := Q_t_5_0) hc1) lk_V_8_228 okN_X8_ruleForWork ⟨Nat.le_of_ble_eq_true rfl, Nat.le_of_ble_eq_true rfl⟩ ⟨rfl, rfl⟩ (preV (preR hK (P_of_map (wc := rc8 a q_t Q_t z_t ++ (rb4 a (Q_t 2) 6 B_t_2 ++ (rc5 a (Q_t 5) Q_t_5 z_t_5 ++ (rc7 a (Q_t_5 0) Q_t_5_0 z_t_5_0)))) hP [0, 1, 2, 3, 4, 5, 6, 7, 8, 9, 10, 11, 12, 13, 14, 15, 16, 17, 18] rfl)) (recvOf hK hP 0 rfl (ci := 8) rfl)) hl.1 rfl (Nat.le_of_ble_eq_true rfl) dX8_weeks_2 ⟨Nat.le_of_ble_eq_true rfl, Nat.le_of_ble_eq_true rfl⟩) ?_
  obtain rfl := Option.some.inj (hc1.symm.trans hm)
  refine lv_astore (lv' := [(4, .ref q_R), (0, .ref q_t), (1, .int x1), (2, .int x2), (3, .int x3)]) hx hb dX8_weeks_5 hl (by decide) rfl (fun ls hl => ?_)
  refine lv_aload hx hb dX8_weeks_7 (lv_at hl 0 rfl) ?_
  refine lv_ifnull hx hb dX8_weeks_9 ?_
  refine lv_iload_n hx hb dX8_weeks_12 rfl (lv_at hl 3 rfl) ?_
  refine lv_iconst (v := 1) hx hb dX8_weeks_13 (by decide) ?_
  refine lv_icmp_lt (tgt := 32) hx hb dX8_weeks_14 (by decide) (fun c3 => ?_) (fun c3 => ?_)
  · have h := ite_t c3 h
    refine lv_iconst (v := (-1)) hx hb dX8_weeks_32 (by decide) ?_
    obtain rfl := Option.some.inj h
    exact retMi C rfl () rfl hP hD hS (Nat.le_refl 0) (Nat.le_refl 0) dX8_weeks_33
  · have h := ite_f c3 h
    refine lv_iload_n hx hb dX8_weeks_17 rfl (lv_at hl 3 rfl) ?_
    refine lv_bipush (v := 20) hx hb dX8_weeks_18 (by decide) ?_
    refine lv_icmp_gt (tgt := 32) hx hb dX8_weeks_20 (by decide) (fun c4 => ?_) (fun c4 => ?_)
    · have h := ite_t c4 h
      refine lv_iconst (v := (-1)) hx hb dX8_weeks_32 (by decide) ?_
      obtain rfl := Option.some.inj h
      exact retMi C rfl () rfl hP hD hS (Nat.le_refl 0) (Nat.le_refl 0) dX8_weeks_33
    · have h := ite_f c4 h
      refine lv_iload_n hx hb dX8_weeks_23 rfl (lv_at hl 4 rfl) ?_
      refine lv_if_lt (tgt := 32) hx hb dX8_weeks_24 (by decide) (fun c5 => ?_) (fun c5 => ?_)
      · have h := ite_t c5 h
        refine lv_iconst (v := (-1)) hx hb dX8_weeks_32 (by decide) ?_
        obtain rfl := Option.some.inj h
        exact retMi C rfl () rfl hP hD hS (Nat.le_refl 0) (Nat.le_refl 0) dX8_weeks_33
      · have h := ite_f c5 h
        refine lv_iload_n hx hb dX8_weeks_27 rfl (lv_at hl 4 rfl) ?_
        refine lv_iconst (v := 2) hx hb dX8_weeks_28 (by decide) ?_
        refine lv_icmp_le (tgt := 34) hx hb dX8_weeks_29 (by decide) (fun c6 => ?_) (fun c6 => ?_)
        · have h := ite_t c6 h
          refine lv_aload_n hx hb dX8_weeks_34 rfl (lv_at hl 1 rfl) ?_
          refine va_get (D := D) (v := .ref (Q_t 7)) (C := RX8) (T := TX8) (N := 11) hx hb hts iX8 hown hK.1 hP 0 rfl rfl 7 (by decide) (hts _ t_307) (fun _ h9 => h9) rfl dX8_weeks_35 ?_
          refine lv_aload_n hx hb dX8_weeks_38 rfl (lv_at hl 1 rfl) ?_
          refine va_get (D := D) (v := .ref (Q_t 5)) (C := RX8) (T := TX8) (N := 11) hx hb hts iX8 hown hK.1 hP 0 rfl rfl 5 (by decide) (hts _ t_305) (fun _ h9 => h9) rfl dX8_weeks_39 ?_
          refine va_get (D := D) (v := .ref (Q_t_5 1)) (C := RX5) (T := TX5) (N := 8) hx hb hts iX5 hown hK.1 hP 3 rfl rfl 1 (by decide) (hts _ t_163) (fun _ h9 => h9) rfl dX8_weeks_42 ?_
          obtain ⟨z8, hc7, h⟩ := bd_some h
          refine cMv (runV (As := [.ref (Q_t_5 1)]) (rest := []) C (mX0_copyFrom l D a (q_t := (Q_t 7)) (q_p1 := (Q_t_5 1)) (Q_t := Q_t_7) (Q_p1 := Q_t_5_1) hc7 s.heap.size) lk_V_8_236 okN_X0_copyFrom ⟨Nat.le_of_ble_eq_true rfl, Nat.le_of_ble_eq_true rfl⟩ ⟨rfl, rfl⟩ (preV (preM hK (P_of_map (wc := rc0 a (Q_t 7) Q_t_7 z_t_7 ++ (rc0 a (Q_t_5 1) Q_t_5_1 z_t_5_1)) hP [21, 22, 19, 20] rfl) (hD.sub (ws' := rc0 a (Q_t 7) Q_t_7 z_t_7 ++ (rc0 a (Q_t_5 1) Q_t_5_1 z_t_5_1)) [21, 22, 19, 20] (by decide) rfl)) (recvOf hK hP 21 rfl (ci := 0) rfl)) hl.1 rfl (Nat.le_of_ble_eq_true rfl) dX8_weeks_45 ⟨Nat.le_of_ble_eq_true rfl, Nat.le_of_ble_eq_true rfl⟩) hP hD hS hA [21, 22, 19, 20] [0, 1, 2, 3, 4, 5, 6, 7, 8, 9, 10, 11, 12, 13, 14, 15, 16, 17, 18, 23, 24, 25, 26, 27, 28, 29] [0, 1, 2, 3, 4, 5, 6, 7, 8, 9, 10, 11, 12, 13, 14, 15, 16, 17, 18, 28, 29, 26, 27, 19, 20, 21, 22, 23, 24, 25] rfl rfl (by decide) (by decide) (fw := rc8 a q_t Q_t z_t ++ (rb4 a (Q_t 2) 6 B_t_2 ++ (rc5 a (Q_t 5) Q_t_5 z_t_5 ++ (rc7 a (Q_t_5 0) Q_t_5_0 z_t_5_0 ++ (rc0 a (Q_t_5 1) Q_t_5_1 z_t_5_1 ++ (rc0 a (Q_t 7) Q_t_7 z8 ++ (rc2 a (Q_t 9) Q_t_9 z_t_9 ++ (rc3 a q_R Q_R nc_R z_R)))))))) rfl (by decide) (fun H locs hP hD hS => ?_)
          have hP : va_P D classes (rc8 a q_t Q_t z_t ++ (rb4 a (Q_t 2) 6 B_t_2 ++ (rc5 a (Q_t 5) Q_t_5 z_t_5 ++ (rc7 a (Q_t_5 0) Q_t_5_0 z_t_5_0 ++ (rc0 a (Q_t_5 1) Q_t_5_1 z_t_5_1 ++ (rc0 a (Q_t 7) Q_t_7 z8 ++ (rc2 a (Q_t 9) Q_t_9 z_t_9 ++ (rc3 a q_R Q_R nc_R z_R)))))))) H := hP
          have hD : va_D A (rc8 a q_t Q_t z_t ++ (rb4 a (Q_t 2) 6 B_t_2 ++ (rc5 a (Q_t 5) Q_t_5 z_t_5 ++ (rc7 a (Q_t_5 0) Q_t_5_0 z_t_5_0 ++ (rc0 a (Q_t_5 1) Q_t_5_1 z_t_5_1 ++ (rc0 a (Q_t 7) Q_t_7 z8 ++ (rc2 a (Q_t 9) Q_t_9 z_t_9 ++ (rc3 a q_R Q_R nc_R z_R)))))))) := hD
          refine lv_iconst (v := 0) hx hb dX8_weeks_48 (by decide) ?_
          refine lv_istore (lv' := [(5, .int 0), (4, .ref q_R), (0, .ref q_t), (1, .int x1), (2, .int x2), (3, .int x3)]) hx hb dX8_weeks_49 hl (by decide) rfl (fun ls hl => ?_)
          refine lv_iconst (v := 0) hx hb dX8_weeks_51 (by decide) ?_
          refine lv_istore (lv' := [(6, .int 0), (5, .int 0), (4, .ref q_R), (0, .ref q_t), (1, .int x1), (2, .int x2), (3, .int x3)]) hx hb dX8_weeks_52 hl (by decide) rfl (fun ls hl => ?_)
          refine wX8_weeks_some_54 C hK hA FU z8 z_t_9 0 0 _ _ ls h hP hD hS (lv_sub hl [3, 5, 6, 2, 1, 0] rfl)
        · have h := ite_f c6 h
          refine lv_iconst (v := (-1)) hx hb dX8_weeks_32 (by decide) ?_
          obtain rfl := Option.some.inj h
          exact retMi C rfl () rfl hP hD hS (Nat.le_refl 0) (Nat.le_refl 0) dX8_weeks_33



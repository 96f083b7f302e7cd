set_option maxHeartbeats 4000000 in
set_option maxRecDepth 100000 in
theorem mX8_mend (l : Launch) (D : va_G) (a : Nat → ClassId) {q_t : Nat} {Q_t : Nat → Nat} {z_t : Sx} {Q_t_5 : Nat → Nat} {z_t_5 : Sx} {Q_t_5_0 : Nat → Nat} {z_t_5_0 : Sx} {Q_t_5_1 : Nat → Nat} {z_t_5_1 : Sx} {x1 : Int32} {y : Int32 × Sx × Sx} (h : fX8_mend z_t z_t_5 z_t_5_0 z_t_5_1 x1 = some y) (sz : Nat) : CMi (S := Unit) l MX8_mend 1 21 0 0 D a [.ref q_t, .int x1] (rc8 a q_t Q_t z_t ++ (rc5 a (Q_t 5) Q_t_5 z_t_5 ++ (rc7 a (Q_t_5 0) Q_t_5_0 z_t_5_0 ++ (rc0 a (Q_t_5 1) Q_t_5_1 z_t_5_1)))) sz (fun r _ => r = y.1) (fun _ => rc8 a q_t Q_t z_t ++ (rc5 a (Q_t 5) Q_t_5 y.2.1 ++ (rc7 a (Q_t_5 0) Q_t_5_0 z_t_5_0 ++ (rc0 a (Q_t_5 1) Q_t_5_1 y.2.2)))) := by
  unfold fX8_mend at h
  refine entMi (by decide) (Nat.le_of_ble_eq_true rfl) ?_
  intro p e s m below meth c C hK A hA hP hD ls hl
  obtain ⟨hx, hb, hml, hown, hts, hr, hlocks, hnm⟩ := id C
  have hb : c.code = cX8_mend := hb
  have hown : s.vm.findClass RX8 = some m.cls := hown
  have hS : va_S A s.heap s.heap [] := va_S.rf
  have hl : lv_has ls 2 [(0, .ref q_t), (1, .int x1)] := hl
  refine lv_aload_n hx hb dX8_mend_0 rfl (lv_at hl 0 rfl) ?_
  refine lv_iload_n hx hb dX8_mend_1 rfl (lv_at hl 1 rfl) ?_
  obtain ⟨r2, hc1, h⟩ := bd_some h
  refine cRi (runV (As := [.int x1]) (rest := []) C (mX8_isFault l D a (q_t := q_t) (Q_t := Q_t) (Q_t_5 := Q_t_5) (Q_t_5_0 := Q_t_5_0) hc1) lk_V_8_139 okN_X8_isFault ⟨Nat.le_of_ble_eq_true rfl, Nat.le_of_ble_eq_true rfl⟩ ⟨rfl, rfl⟩ (preV (preR hK (P_of_map (wc := rc8 a q_t Q_t z_t ++ (rc5 a (Q_t 5) Q_t_5 z_t_5 ++ (rc7 a (Q_t_5 0) Q_t_5_0 z_t_5_0))) hP [0, 1, 2, 3, 4, 5, 6, 7, 8, 9, 10, 11, 12, 13, 14, 15, 16, 17] rfl)) (recvOf hK hP 0 rfl (ci := 8) rfl)) hl.1 rfl (Nat.le_of_ble_eq_true rfl) dX8_mend_2 ⟨Nat.le_of_ble_eq_true rfl, Nat.le_of_ble_eq_true rfl⟩) ?_
  refine lv_if_eq (tgt := 25) hx hb dX8_mend_5 (by decide) (fun c3 => ?_) (fun c3 => ?_)
  · have h := ite_t c3 h
    refine lv_ldc hx hb hown (hts _ t_640) dX8_mend_25 ?_
    obtain rfl := Option.some.inj h
    exact retMi C rfl () rfl hP hD hS (Nat.le_refl 0) (Nat.le_refl 0) dX8_mend_27
  · have h := ite_f c3 h
    refine lv_aload_n hx hb dX8_mend_8 rfl (lv_at hl 0 rfl) ?_
    refine va_get (D := D) (v := .ref (Q_t 5)) (C := RX8) (T := TX8) (N := 11) hx hb hts iX8 hown hK.1 hP 0 rfl rfl 5 (by decide) (hts _ t_305) (fun _ h9 => h9) rfl dX8_mend_9 ?_
    refine va_get (D := D) (v := .ref (Q_t_5 1)) (C := RX5) (T := TX5) (N := 8) hx hb hts iX5 hown hK.1 hP 2 rfl rfl 1 (by decide) (hts _ t_163) (fun _ h9 => h9) rfl dX8_mend_12 ?_
    obtain ⟨r5, hc4, h⟩ := bd_some h
    refine cRi (runV (As := []) (rest := []) C (mX0_gone l D a (q_t := (Q_t_5 1)) (Q_t := Q_t_5_1) hc4) lk_V_8_171 okN_X0_gone ⟨Nat.le_of_ble_eq_true rfl, Nat.le_of_ble_eq_true rfl⟩ ⟨rfl, rfl⟩ (preV (preR hK (P_of_map (wc := rc0 a (Q_t_5 1) Q_t_5_1 z_t_5_1) hP [18, 19] rfl)) (recvOf hK hP 18 rfl (ci := 0) rfl)) hl.1 rfl (Nat.le_of_ble_eq_true rfl) dX8_mend_15 ⟨Nat.le_of_ble_eq_true rfl, Nat.le_of_ble_eq_true rfl⟩) ?_
    refine lv_iload_n hx hb dX8_mend_18 rfl (lv_at hl 1 rfl) ?_
    obtain ⟨r7, hc6, h⟩ := bd_some h
    refine cRi (runS (As := [.int r5, .int x1]) (rest := []) C (mX8_has l D a hc6) lk_S_8_161 okN_X8_has ⟨Nat.le_of_ble_eq_true rfl, Nat.le_of_ble_eq_true rfl⟩ ⟨rfl, rfl⟩ (preR hK (P_of_map (wc := []) hP [] rfl)) hl.1 rfl (Nat.le_of_ble_eq_true rfl) dX8_mend_19 ⟨Nat.le_of_ble_eq_true rfl, Nat.le_of_ble_eq_true rfl⟩) ?_
    refine lv_if_eq (tgt := 28) hx hb dX8_mend_22 (by decide) (fun c8 => ?_) (fun c8 => ?_)
    · have h := ite_t c8 h
      refine lv_aload_n hx hb dX8_mend_28 rfl (lv_at hl 0 rfl) ?_
      refine va_get (D := D) (v := .ref (Q_t 5)) (C := RX8) (T := TX8) (N := 11) hx hb hts iX8 hown hK.1 hP 0 rfl rfl 5 (by decide) (hts _ t_305) (fun _ h9 => h9) rfl dX8_mend_29 ?_
      refine va_get (D := D) (v := .ref (Q_t_5 1)) (C := RX5) (T := TX5) (N := 8) hx hb hts iX5 hown hK.1 hP 2 rfl rfl 1 (by decide) (hts _ t_163) (fun _ h9 => h9) rfl dX8_mend_32 ?_
      refine lv_dup hx hb dX8_mend_35 rfl ?_
      refine va_get (D := D) (v := .int (gI z_t_5_1 3)) (C := RX0) (T := TX0) (N := 6) hx hb hts iX0 hown hK.1 hP 18 rfl rfl 3 (by decide) (hts _ t_141) (fun _ h9 => h9) rfl dX8_mend_36 ?_
      refine lv_iload_n hx hb dX8_mend_39 rfl (lv_at hl 1 rfl) ?_
      obtain ⟨r10, hc9, h⟩ := bd_some h
      refine cRi (runS (As := [.int x1]) (rest := [.int (gI z_t_5_1 3), .ref (Q_t_5 1)]) C (mX8_bit l D a hc9) lk_S_8_216 okN_X8_bit ⟨Nat.le_of_ble_eq_true rfl, Nat.le_of_ble_eq_true rfl⟩ ⟨rfl, rfl⟩ (preR hK (P_of_map (wc := []) hP [] rfl)) hl.1 rfl (Nat.le_of_ble_eq_true rfl) dX8_mend_40 ⟨Nat.le_of_ble_eq_true rfl, Nat.le_of_ble_eq_true rfl⟩) ?_
      refine lv_ior hx hb dX8_mend_43 ?_
      refine va_put (D := D) (v := .int ((gI z_t_5_1 3) ||| r10)) (C := RX0) (T := TX0) (N := 6) hx hb hts iX0 tyX0 tyX0_ok nmX0 hown hK.1 hP hD hS 18 rfl rfl 3 (by decide) (hts _ t_141) (fun _ h9 => h9) rfl (tyX0_ok 3 (by decide)) rfl rfl (Nat.le_of_ble_eq_true rfl) dX8_mend_44 (fun H locs hP hD hS => ?_)
      have hP : va_P D classes (rc8 a q_t Q_t z_t ++ (rc5 a (Q_t 5) Q_t_5 z_t_5 ++ (rc7 a (Q_t_5 0) Q_t_5_0 z_t_5_0 ++ (rc0 a (Q_t_5 1) Q_t_5_1 (sI z_t_5_1 3 ((gI z_t_5_1 3) ||| r10)))))) H := hP
      have hD : va_D A (rc8 a q_t Q_t z_t ++ (rc5 a (Q_t 5) Q_t_5 z_t_5 ++ (rc7 a (Q_t_5 0) Q_t_5_0 z_t_5_0 ++ (rc0 a (Q_t_5 1) Q_t_5_1 (sI z_t_5_1 3 ((gI z_t_5_1 3) ||| r10)))))) := hD
      refine lv_aload_n hx hb dX8_mend_47 rfl (lv_at hl 0 rfl) ?_
      refine va_get (D := D) (v := .ref (Q_t 5)) (C := RX8) (T := TX8) (N := 11) hx hb hts iX8 hown hK.1 hP 0 rfl rfl 5 (by decide) (hts _ t_305) (fun _ h9 => h9) rfl dX8_mend_48 ?_
      refine lv_dup hx hb dX8_mend_51 rfl ?_
      refine va_get (D := D) (v := .int (gI z_t_5 2)) (C := RX5) (T := TX5) (N := 8) hx hb hts iX5 hown hK.1 hP 2 rfl rfl 2 (by decide) (hts _ t_165) (fun _ h9 => h9) rfl dX8_mend_52 ?_
      refine lv_aload_n hx hb dX8_mend_55 rfl (lv_at hl 0 rfl) ?_
      refine va_get (D := D) (v := .ref (Q_t 5)) (C := RX8) (T := TX8) (N := 11) hx hb hts iX8 hown hK.1 hP 0 rfl rfl 5 (by decide) (hts _ t_305) (fun _ h9 => h9) rfl dX8_mend_56 ?_
      refine va_get (D := D) (v := .ref (Q_t_5 0)) (C := RX5) (T := TX5) (N := 8) hx hb hts iX5 hown hK.1 hP 2 rfl rfl 0 (by decide) (hts _ t_161) (fun _ h9 => h9) rfl dX8_mend_59 ?_
      refine va_get (D := D) (v := .ref (Q_t_5_0 14)) (C := RX7) (T := TX7) (N := 18) hx hb hts iX7 hown hK.1 hP 5 rfl rfl 14 (by decide) (hts _ t_77) (fun _ h9 => h9) rfl dX8_mend_62 ?_
      refine lv_iload_n hx hb dX8_mend_65 rfl (lv_at hl 1 rfl) ?_
      obtain ⟨r12, hc11, h⟩ := bd_some h
      refine cRi (runS (As := [.ref (Q_t_5_0 14), .int x1]) (rest := [.int (gI z_t_5 2), .ref (Q_t 5)]) C (mX8_at l D a (q_p0 := (Q_t_5_0 14)) hc11) lk_S_8_129 okN_X8_at ⟨Nat.le_of_ble_eq_true rfl, Nat.le_of_ble_eq_true rfl⟩ ⟨rfl, rfl⟩ (preR hK (P_of_map (wc := ra0 a (Q_t_5_0 14) 10 (gT z_t_5_0 14)) hP [15] rfl)) hl.1 rfl (Nat.le_of_ble_eq_true rfl) dX8_mend_66 ⟨Nat.le_of_ble_eq_true rfl, Nat.le_of_ble_eq_true rfl⟩) ?_
      refine lv_isub hx hb dX8_mend_69 ?_
      refine va_put (D := D) (v := .int ((gI z_t_5 2) - r12)) (C := RX5) (T := TX5) (N := 8) hx hb hts iX5 tyX5 tyX5_ok nmX5 hown hK.1 hP hD hS 2 rfl rfl 2 (by decide) (hts _ t_165) (fun _ h9 => h9) rfl (tyX5_ok 2 (by decide)) rfl rfl (Nat.le_of_ble_eq_true rfl) dX8_mend_70 (fun H locs hP hD hS => ?_)
      have hP : va_P D classes (rc8 a q_t Q_t z_t ++ (rc5 a (Q_t 5) Q_t_5 (sI z_t_5 2 ((gI z_t_5 2) - r12)) ++ (rc7 a (Q_t_5 0) Q_t_5_0 z_t_5_0 ++ (rc0 a (Q_t_5 1) Q_t_5_1 (sI z_t_5_1 3 ((gI z_t_5_1 3) ||| r10)))))) H := hP
      have hD : va_D A (rc8 a q_t Q_t z_t ++ (rc5 a (Q_t 5) Q_t_5 (sI z_t_5 2 ((gI z_t_5 2) - r12)) ++ (rc7 a (Q_t_5 0) Q_t_5_0 z_t_5_0 ++ (rc0 a (Q_t_5 1) Q_t_5_1 (sI z_t_5_1 3 ((gI z_t_5_1 3) ||| r10)))))) := hD
      refine lv_aload_n hx hb dX8_mend_73 rfl (lv_at hl 0 rfl) ?_
      refine va_get (D := D) (v := .ref (Q_t 5)) (C := RX8) (T := TX8) (N := 11) hx hb hts iX8 hown hK.1 hP 0 rfl rfl 5 (by decide) (hts _ t_305) (fun _ h9 => h9) rfl dX8_mend_74 ?_
      refine va_get (D := D) (v := .int ((gI z_t_5 2) - r12)) (C := RX5) (T := TX5) (N := 8) hx hb hts iX5 hown hK.1 hP 2 rfl rfl 2 (by decide) (hts _ t_165) (fun _ h9 => h9) rfl dX8_mend_77 ?_
      obtain rfl := Option.some.inj h
      exact retMi C rfl () rfl hP hD hS (Nat.le_refl 0) (Nat.le_refl 0) dX8_mend_80
    · have h := ite_f c8 h
      refine lv_ldc hx hb hown (hts _ t_640) dX8_mend_25 ?_
      obtain rfl := Option.some.inj h
      exact retMi C rfl () rfl hP hD hS (Nat.le_refl 0) (Nat.le_refl 0) dX8_mend_27

set_option maxHeartbeats 4000000 in
set_option maxRecDepth 100000 in
theorem wX8_rests_4 {p : Program} {l : Launch} {e : Env} {s : State} {m : MethodId} {below : List Frame} {meth : Method} {c : Code} {D : va_G} {a : Nat → ClassId} {q_t : Nat} {Q_t : Nat → Nat} {Q_t_5 : Nat → Nat} {z_t : Sx} {z_t_5 : Sx} (C : Cx p s m #[.ref q_t] meth c MX8_rests) (hK : KK D a s) {y : Int32} (hP : va_P D classes (rc8 a q_t Q_t z_t ++ (rc5 a (Q_t 5) Q_t_5 z_t_5)) s.heap) : ∀ (n : Nat) (x1 : Int32) (x2 : Int32) (ls : Array Slot), lX8_rests_4 z_t z_t_5 n x1 x2 = some y → lv_has ls 5 [(0, .ref q_t), (1, .int x1), (2, .int x2)] → W p l e (rmM 1 0 0 21) s m #[.ref q_t] below meth c s.heap [] 0 0 (MQ below (vp_Si (fun r => r = y)) #[.ref q_t] s 0 0 (fun _ => False)) (F0 m 4 ls []) := by
  obtain ⟨hx, hb, hml, hown, hts, hr, hlocks, hnm⟩ := id C
  have hb : c.code = cX8_rests := hb
  have hown : s.vm.findClass RX8 = some m.cls := hown
  intro n
  induction n with
  | zero => intro x1 x2 ls h; rw [lX8_rests_4] at h; cases h
  | succ n ih =>
    intro x1 x2 ls h hl
    rw [lX8_rests_4] at h
    refine lv_iload_n hx hb dX8_rests_4 rfl (lv_at hl 2 rfl) ?_
    refine lv_iconst (v := 4) hx hb dX8_rests_5 (by decide) ?_
    refine lv_icmp_ge (tgt := 101) hx hb dX8_rests_6 (by decide) (fun c1 => ?_) (fun c1 => ?_)
    · have h := ite_t c1 h
      refine lv_iload_n hx hb dX8_rests_101 rfl (lv_at hl 1 rfl) ?_
      exact rRi C rfl (Option.some.inj h) dX8_rests_102
    · have h := ite_f c1 h
      refine lv_aload_n hx hb dX8_rests_9 rfl (lv_at hl 0 rfl) ?_
      refine va_get (D := D) (v := .ref (Q_t 5)) (C := RX8) (T := TX8) (N := 11) hx hb hts iX8 hown hK.1 hP 0 rfl rfl 5 (by decide) (hts _ t_305) (fun _ h9 => h9) rfl dX8_rests_10 ?_
      refine va_get (D := D) (v := .ref (Q_t_5 7)) (C := RX5) (T := TX5) (N := 8) hx hb hts iX5 hown hK.1 hP 2 rfl rfl 7 (by decide) (hts _ t_175) (fun _ h9 => h9) rfl dX8_rests_13 ?_
      refine lv_iload_n hx hb dX8_rests_16 rfl (lv_at hl 2 rfl) ?_
      obtain ⟨r3, hc2, h⟩ := bd_some h
      refine cRi (runS (As := [.ref (Q_t_5 7), .int x2]) (rest := []) C (mX8_at l D a (q_p0 := (Q_t_5 7)) hc2) lk_S_8_129 okN_X8_at ⟨Nat.le_of_ble_eq_true rfl, Nat.le_of_ble_eq_true rfl⟩ ⟨rfl, rfl⟩ (preR hK (P_of_map (wc := ra0 a (Q_t_5 7) 8 (gT z_t_5 7)) hP [4] rfl)) hl.1 rfl (Nat.le_of_ble_eq_true rfl) dX8_rests_17 ⟨Nat.le_of_ble_eq_true rfl, Nat.le_of_ble_eq_true rfl⟩) ?_
      refine lv_aload_n hx hb dX8_rests_20 rfl (lv_at hl 0 rfl) ?_
      refine va_get (D := D) (v := .ref (Q_t 5)) (C := RX8) (T := TX8) (N := 11) hx hb hts iX8 hown hK.1 hP 0 rfl rfl 5 (by decide) (hts _ t_305) (fun _ h9 => h9) rfl dX8_rests_21 ?_
      refine va_get (D := D) (v := .ref (Q_t_5 7)) (C := RX5) (T := TX5) (N := 8) hx hb hts iX5 hown hK.1 hP 2 rfl rfl 7 (by decide) (hts _ t_175) (fun _ h9 => h9) rfl dX8_rests_24 ?_
      refine lv_iload_n hx hb dX8_rests_27 rfl (lv_at hl 2 rfl) ?_
      refine lv_iconst (v := 2) hx hb dX8_rests_28 (by decide) ?_
      refine lv_ixor hx hb dX8_rests_29 ?_
      obtain ⟨r5, hc4, h⟩ := bd_some h
      refine cRi (runS (As := [.ref (Q_t_5 7), .int (x2 ^^^ 2)]) (rest := [.int r3]) C (mX8_at l D a (q_p0 := (Q_t_5 7)) hc4) lk_S_8_129 okN_X8_at ⟨Nat.le_of_ble_eq_true rfl, Nat.le_of_ble_eq_true rfl⟩ ⟨rfl, rfl⟩ (preR hK (P_of_map (wc := ra0 a (Q_t_5 7) 8 (gT z_t_5 7)) hP [4] rfl)) hl.1 rfl (Nat.le_of_ble_eq_true rfl) dX8_rests_30 ⟨Nat.le_of_ble_eq_true rfl, Nat.le_of_ble_eq_true rfl⟩) ?_
      obtain ⟨J6, eJ6, h⟩ := jn_some h
      have hJ6 : ∀ (i7 : Int32) (ls : Array Slot), J6 i7 = some y → lv_has ls 5 [(0, .ref q_t), (1, .int x1), (2, .int x2)] → W p l e (rmM 1 0 0 21) s m #[.ref q_t] below meth c s.heap [] 0 0 (MQ below (vp_Si (fun r => r = y)) #[.ref q_t] s 0 0 (fun _ => False)) (F0 m 41 ls [.int i7]) := by
        intro i7 ls h hl
        rw [eJ6] at h
        refine lv_istore_n (lv' := [(3, .int i7), (0, .ref q_t), (1, .int x1), (2, .int x2)]) hx hb dX8_rests_41 rfl hl (by decide) rfl (fun ls hl => ?_)
        refine lv_aload_n hx hb dX8_rests_42 rfl (lv_at hl 1 rfl) ?_
        refine va_get (D := D) (v := .ref (Q_t 5)) (C := RX8) (T := TX8) (N := 11) hx hb hts iX8 hown hK.1 hP 0 rfl rfl 5 (by decide) (hts _ t_305) (fun _ h9 => h9) rfl dX8_rests_43 ?_
        refine va_get (D := D) (v := .ref (Q_t_5 7)) (C := RX5) (T := TX5) (N := 8) hx hb hts iX5 hown hK.1 hP 2 rfl rfl 7 (by decide) (hts _ t_175) (fun _ h9 => h9) rfl dX8_rests_46 ?_
        refine lv_iconst (v := 4) hx hb dX8_rests_49 (by decide) ?_
        refine lv_iload_n hx hb dX8_rests_50 rfl (lv_at hl 3 rfl) ?_
        refine lv_iadd hx hb dX8_rests_51 ?_
        obtain ⟨r9, hc8, h⟩ := bd_some h
        refine cRi (runS (As := [.ref (Q_t_5 7), .int (4 + x2)]) (rest := []) C (mX8_at l D a (q_p0 := (Q_t_5 7)) hc8) lk_S_8_129 okN_X8_at ⟨Nat.le_of_ble_eq_true rfl, Nat.le_of_ble_eq_true rfl⟩ ⟨rfl, rfl⟩ (preR hK (P_of_map (wc := ra0 a (Q_t_5 7) 8 (gT z_t_5 7)) hP [4] rfl)) hl.1 rfl (Nat.le_of_ble_eq_true rfl) dX8_rests_52 ⟨Nat.le_of_ble_eq_true rfl, Nat.le_of_ble_eq_true rfl⟩) ?_
        refine lv_aload_n hx hb dX8_rests_55 rfl (lv_at hl 1 rfl) ?_
        refine va_get (D := D) (v := .ref (Q_t 5)) (C := RX8) (T := TX8) (N := 11) hx hb hts iX8 hown hK.1 hP 0 rfl rfl 5 (by decide) (hts _ t_305) (fun _ h9 => h9) rfl dX8_rests_56 ?_
        refine va_get (D := D) (v := .ref (Q_t_5 7)) (C := RX5) (T := TX5) (N := 8) hx hb hts iX5 hown hK.1 hP 2 rfl rfl 7 (by decide) (hts _ t_175) (fun _ h9 => h9) rfl dX8_rests_59 ?_
        refine lv_iconst (v := 4) hx hb dX8_rests_62 (by decide) ?_
        refine lv_iload_n hx hb dX8_rests_63 rfl (lv_at hl 3 rfl) ?_
        refine lv_iconst (v := 1) hx hb dX8_rests_64 (by decide) ?_
        refine lv_ixor hx hb dX8_rests_65 ?_
        refine lv_iadd hx hb dX8_rests_66 ?_
        obtain ⟨r11, hc10, h⟩ := bd_some h
        refine cRi (runS (As := [.ref (Q_t_5 7), .int (4 + (x2 ^^^ 1))]) (rest := [.int r9]) C (mX8_at l D a (q_p0 := (Q_t_5 7)) hc10) lk_S_8_129 okN_X8_at ⟨Nat.le_of_ble_eq_true rfl, Nat.le_of_ble_eq_true rfl⟩ ⟨rfl, rfl⟩ (preR hK (P_of_map (wc := ra0 a (Q_t_5 7) 8 (gT z_t_5 7)) hP [4] rfl)) hl.1 rfl (Nat.le_of_ble_eq_true rfl) dX8_rests_67 ⟨Nat.le_of_ble_eq_true rfl, Nat.le_of_ble_eq_true rfl⟩) ?_
        obtain ⟨J12, eJ12, h⟩ := jn_some h
        have hJ12 : ∀ (i13 : Int32) (ls : Array Slot), J12 i13 = some y → lv_has ls 5 [(0, .ref q_t), (1, .int x1), (2, .int x2), (3, .int i7)] → W p l e (rmM 1 0 0 21) s m #[.ref q_t] below meth c s.heap [] 0 0 (MQ below (vp_Si (fun r => r = y)) #[.ref q_t] s 0 0 (fun _ => False)) (F0 m 78 ls [.int i13]) := by
          intro i13 ls h hl
          rw [eJ12] at h
          refine lv_istore (lv' := [(4, .int i13), (0, .ref q_t), (1, .int x1), (2, .int x2), (3, .int i7)]) hx hb dX8_rests_78 hl (by decide) rfl (fun ls hl => ?_)
          refine lv_iload_n hx hb dX8_rests_80 rfl (lv_at hl 4 rfl) ?_
          obtain ⟨J14, eJ14, h⟩ := jn_some h
          have hJ14 : ∀ (i15 : Int32) (ls : Array Slot), J14 i15 = some y → lv_has ls 5 [(0, .ref q_t), (1, .int i15), (2, .int x2)] → W p l e (rmM 1 0 0 21) s m #[.ref q_t] below meth c s.heap [] 0 0 (MQ below (vp_Si (fun r => r = y)) #[.ref q_t] s 0 0 (fun _ => False)) (F0 m 95 ls []) := by
            intro i15 ls h hl
            rw [eJ14] at h
            refine lv_iinc (v := x2 + 1) (lv' := [(2, .int (x2 + 1)), (0, .ref q_t), (1, .int i15)]) hx hb dX8_rests_95 hl (k := 2) rfl rfl (by decide) rfl (fun ls hl => ?_)
            refine lv_goto (tgt := 4) hx hb dX8_rests_98 (by decide) ?_
            exact ih i15 (x2 + 1) ls h (lv_sub hl [1, 2, 0] rfl)
          refine lv_if_eq (tgt := 95) hx hb dX8_rests_81 (by decide) (fun c16 => ?_) (fun c16 => ?_)
          · have h := ite_t c16 h
            exact hJ14 x1 ls h (lv_sub hl [1, 2, 3] rfl)
          · have h := ite_f c16 h
            refine lv_iload hx hb dX8_rests_84 (lv_at hl 0 rfl) ?_
            refine lv_if_eq (tgt := 95) hx hb dX8_rests_86 (by decide) (fun c17 => ?_) (fun c17 => ?_)
            · have h := ite_t c17 h
              exact hJ14 x1 ls h (lv_sub hl [1, 2, 3] rfl)
            · have h := ite_f c17 h
              refine lv_iload_n hx hb dX8_rests_89 rfl (lv_at hl 2 rfl) ?_
              refine lv_iconst (v := 1) hx hb dX8_rests_90 (by decide) ?_
              refine lv_iload_n hx hb dX8_rests_91 rfl (lv_at hl 3 rfl) ?_
              refine lv_ishl hx hb dX8_rests_92 ?_
              refine lv_ior hx hb dX8_rests_93 ?_
              refine lv_istore_n (lv' := [(1, .int (x1 ||| ((1 : Int32) <<< (x2 &&& 31)))), (4, .int i13), (0, .ref q_t), (2, .int x2), (3, .int i7)]) hx hb dX8_rests_94 rfl hl (by decide) rfl (fun ls hl => ?_)
              exact hJ14 (x1 ||| ((1 : Int32) <<< (x2 &&& 31))) ls h (lv_sub hl [2, 0, 3] rfl)
        refine lv_icmp_lt (tgt := 77) hx hb dX8_rests_70 (by decide) (fun c18 => ?_) (fun c18 => ?_)
        · have h := ite_t c18 h
          refine lv_iconst (v := 0) hx hb dX8_rests_77 (by decide) ?_
          exact hJ12 0 ls h (lv_sub hl [1, 2, 3, 0] rfl)
        · have h := ite_f c18 h
          refine lv_iconst (v := 1) hx hb dX8_rests_73 (by decide) ?_
          refine lv_goto (tgt := 78) hx hb dX8_rests_74 (by decide) ?_
          exact hJ12 1 ls h (lv_sub hl [1, 2, 3, 0] rfl)
      refine lv_icmp_lt (tgt := 40) hx hb dX8_rests_33 (by decide) (fun c19 => ?_) (fun c19 => ?_)
      · have h := ite_t c19 h
        refine lv_iconst (v := 0) hx hb dX8_rests_40 (by decide) ?_
        exact hJ6 0 ls h (lv_sub hl [0, 1, 2] rfl)
      · have h := ite_f c19 h
        refine lv_iconst (v := 1) hx hb dX8_rests_36 (by decide) ?_
        refine lv_goto (tgt := 41) hx hb dX8_rests_37 (by decide) ?_
        exact hJ6 1 ls h (lv_sub hl [0, 1, 2] rfl)

set_option maxHeartbeats 4000000 in
set_option maxRecDepth 100000 in
theorem mX8_rests (l : Launch) (D : va_G) (a : Nat → ClassId) {q_t : Nat} {Q_t : Nat → Nat} {z_t : Sx} {Q_t_5 : Nat → Nat} {z_t_5 : Sx} {y : Int32} (h : fX8_rests z_t z_t_5 = some y) : CRi l MX8_rests 1 21 D a [.ref q_t] (rc8 a q_t Q_t z_t ++ (rc5 a (Q_t 5) Q_t_5 z_t_5)) (fun r => r = y) := by
  unfold fX8_rests at h
  refine entR (by decide) (Nat.le_of_ble_eq_true rfl) ?_
  intro p e s m below meth c C hK hP ls hl
  obtain ⟨hx, hb, hml, hown, hts, hr, hlocks, hnm⟩ := id C
  have hb : c.code = cX8_rests := hb
  have hown : s.vm.findClass RX8 = some m.cls := hown
  have hl : lv_has ls 5 [(0, .ref q_t)] := hl
  refine lv_iconst (v := 0) hx hb dX8_rests_0 (by decide) ?_
  refine lv_istore_n (lv' := [(1, .int 0), (0, .ref q_t)]) hx hb dX8_rests_1 rfl hl (by decide) rfl (fun ls hl => ?_)
  refine lv_iconst (v := 0) hx hb dX8_rests_2 (by decide) ?_
  refine lv_istore_n (lv' := [(2, .int 0), (1, .int 0), (0, .ref q_t)]) hx hb dX8_rests_3 rfl hl (by decide) rfl (fun ls hl => ?_)
  refine wX8_rests_4 C hK hP FU 0 0 ls h (lv_sub hl [2, 1, 0] rfl)

set_option maxHeartbeats 4000000 in
set_option maxRecDepth 100000 in
theorem mX8_mixed (l : Launch) (D : va_G) (a : Nat → ClassId) {q_t : Nat} {Q_t : Nat → Nat} {z_t : Sx} {Q_t_5 : Nat → Nat} {z_t_5 : Sx} {x1 : Int32} {x2 : Int32} {y : Int32} (h : fX8_mixed z_t z_t_5 x1 x2 = some y) : CRi l MX8_mixed 2 61 D a [.ref q_t, .int x1, .int x2] (rc8 a q_t Q_t z_t ++ (rc5 a (Q_t 5) Q_t_5 z_t_5)) (fun r => r = y) := by
  unfold fX8_mixed at h
  refine entR (by decide) (Nat.le_of_ble_eq_true rfl) ?_
  intro p e s m below meth c C hK hP ls hl
  obtain ⟨hx, hb, hml, hown, hts, hr, hlocks, hnm⟩ := id C
  have hb : c.code = cX8_mixed := hb
  have hown : s.vm.findClass RX8 = some m.cls := hown
  have hl : lv_has ls 7 [(0, .ref q_t), (1, .int x1), (2, .int x2)] := hl
  refine lv_iload_n hx hb dX8_mixed_0 rfl (lv_at hl 1 rfl) ?_
  refine lv_if_lt (tgt := 18) hx hb dX8_mixed_1 (by decide) (fun c1 => ?_) (fun c1 => ?_)
  · have h := ite_t c1 h
    refine lv_iconst (v := (-1)) hx hb dX8_mixed_18 (by decide) ?_
    exact rRi C rfl (Option.some.inj h) dX8_mixed_19
  · have h := ite_f c1 h
    refine lv_iload_n hx hb dX8_mixed_4 rfl (lv_at hl 1 rfl) ?_
    refine lv_iconst (v := 1) hx hb dX8_mixed_5 (by decide) ?_
    refine lv_icmp_gt (tgt := 18) hx hb dX8_mixed_6 (by decide) (fun c2 => ?_) (fun c2 => ?_)
    · have h := ite_t c2 h
      refine lv_iconst (v := (-1)) hx hb dX8_mixed_18 (by decide) ?_
      exact rRi C rfl (Option.some.inj h) dX8_mixed_19
    · have h := ite_f c2 h
      refine lv_iload_n hx hb dX8_mixed_9 rfl (lv_at hl 2 rfl) ?_
      refine lv_if_lt (tgt := 18) hx hb dX8_mixed_10 (by decide) (fun c3 => ?_) (fun c3 => ?_)
      · have h := ite_t c3 h
        refine lv_iconst (v := (-1)) hx hb dX8_mixed_18 (by decide) ?_
        exact rRi C rfl (Option.some.inj h) dX8_mixed_19
      · have h := ite_f c3 h
        refine lv_iload_n hx hb dX8_mixed_13 rfl (lv_at hl 2 rfl) ?_
        refine lv_iconst (v := 1) hx hb dX8_mixed_14 (by decide) ?_
        refine lv_icmp_le (tgt := 20) hx hb dX8_mixed_15 (by decide) (fun c4 => ?_) (fun c4 => ?_)
        · have h := ite_t c4 h
          refine lv_aload_n hx hb dX8_mixed_20 rfl (lv_at hl 0 rfl) ?_
          obtain ⟨r6, hc5, h⟩ := bd_some h
          refine cRi (runV (As := []) (rest := []) C (mX8_rests l D a (q_t := q_t) (Q_t := Q_t) (Q_t_5 := Q_t_5) hc5) lk_V_8_286 okN_X8_rests ⟨Nat.le_of_ble_eq_true rfl, Nat.le_of_ble_eq_true rfl⟩ ⟨rfl, rfl⟩ (preV (preR hK hP) (recvOf hK hP 0 rfl (ci := 8) rfl)) hl.1 rfl (Nat.le_of_ble_eq_true rfl) dX8_mixed_21 ⟨Nat.le_of_ble_eq_true rfl, Nat.le_of_ble_eq_true rfl⟩) ?_
          refine lv_if_eq (tgt := 30) hx hb dX8_mixed_24 (by decide) (fun c7 => ?_) (fun c7 => ?_)
          · have h := ite_t c7 h
            refine lv_aload_n hx hb dX8_mixed_30 rfl (lv_at hl 0 rfl) ?_
            refine va_get (D := D) (v := .ref (Q_t 5)) (C := RX8) (T := TX8) (N := 11) hx hb hts iX8 hown hK.1 hP 0 rfl rfl 5 (by decide) (hts _ t_305) (fun _ h9 => h9) rfl dX8_mixed_31 ?_
            refine va_get (D := D) (v := .ref (Q_t_5 7)) (C := RX5) (T := TX5) (N := 8) hx hb hts iX5 hown hK.1 hP 2 rfl rfl 7 (by decide) (hts _ t_175) (fun _ h9 => h9) rfl dX8_mixed_34 ?_
            refine lv_astore_n (lv' := [(3, .ref (Q_t_5 7)), (0, .ref q_t), (1, .int x1), (2, .int x2)]) hx hb dX8_mixed_37 rfl hl (by decide) rfl (fun ls hl => ?_)
            refine lv_iload_n hx hb dX8_mixed_38 rfl (lv_at hl 2 rfl) ?_
            obtain ⟨J8, eJ8, h⟩ := jn_some h
            have hJ8 : ∀ (i9 : Int32) (ls : Array Slot), J8 i9 = some y → lv_has ls 7 [(1, .int x1), (2, .int x2), (3, .ref (Q_t_5 7))] → W p l e (rmM 2 0 0 61) s m #[.ref q_t, .int x1, .int x2] below meth c s.heap [] 0 0 (MQ below (vp_Si (fun r => r = y)) #[.ref q_t, .int x1, .int x2] s 0 0 (fun _ => False)) (F0 m 67 ls [.int i9]) := by
              intro i9 ls h hl
              rw [eJ8] at h
              refine lv_istore (lv' := [(4, .int i9), (1, .int x1), (2, .int x2), (3, .ref (Q_t_5 7))]) hx hb dX8_mixed_67 hl (by decide) rfl (fun ls hl => ?_)
              refine lv_iload_n hx hb dX8_mixed_69 rfl (lv_at hl 1 rfl) ?_
              obtain ⟨J10, eJ10, h⟩ := jn_some h
              have hJ10 : ∀ (i11 : Int32) (ls : Array Slot), J10 i11 = some y → lv_has ls 7 [(2, .int x2), (4, .int i9)] → W p l e (rmM 2 0 0 61) s m #[.ref q_t, .int x1, .int x2] below meth c s.heap [] 0 0 (MQ below (vp_Si (fun r => r = y)) #[.ref q_t, .int x1, .int x2] s 0 0 (fun _ => False)) (F0 m 100 ls [.int i11]) := by
                intro i11 ls h hl
                rw [eJ10] at h
                refine lv_istore (lv' := [(5, .int i11), (2, .int x2), (4, .int i9)]) hx hb dX8_mixed_100 hl (by decide) rfl (fun ls hl => ?_)
                refine lv_iload hx hb dX8_mixed_102 (lv_at hl 2 rfl) ?_
                refine lv_iload hx hb dX8_mixed_104 (lv_at hl 0 rfl) ?_
                refine lv_iadd hx hb dX8_mixed_106 ?_
                obtain ⟨J12, eJ12, h⟩ := jn_some h
                have hJ12 : ∀ (i13 : Int32) (ls : Array Slot), J12 i13 = some y → lv_has ls 7 [(2, .int x2), (4, .int i9), (5, .int i11)] → W p l e (rmM 2 0 0 61) s m #[.ref q_t, .int x1, .int x2] below meth c s.heap [] 0 0 (MQ below (vp_Si (fun r => r = y)) #[.ref q_t, .int x1, .int x2] s 0 0 (fun _ => False)) (F0 m 118 ls [.int i13]) := by
                  intro i13 ls h hl
                  rw [eJ12] at h
                  refine lv_istore (lv' := [(6, .int i13), (2, .int x2), (4, .int i9), (5, .int i11)]) hx hb dX8_mixed_118 hl (by decide) rfl (fun ls hl => ?_)
                  refine lv_iload hx hb dX8_mixed_120 (lv_at hl 0 rfl) ?_
                  refine lv_i2l (v := i13.toInt64) hx hb dX8_mixed_122 rfl ?_
                  refine lv_iload hx hb dX8_mixed_123 (lv_at hl 2 rfl) ?_
                  refine lv_iload hx hb dX8_mixed_125 (lv_at hl 3 rfl) ?_
                  refine lv_iadd hx hb dX8_mixed_127 ?_
                  refine va_mabs hx hb (by rw [hml]; exact hl.1.symm) hown (hts _ t_843) (hts _ t_844) (hts _ t_14) (hts _ t_845) (Nat.le_of_ble_eq_true rfl) (Nat.le_of_ble_eq_true rfl) (Nat.le_of_ble_eq_true rfl) (Nat.le_of_ble_eq_true rfl) dX8_mixed_128 ?_
                  refine lv_i2l (v := (abI (i9 + i11)).toInt64) hx hb dX8_mixed_131 rfl ?_
                  refine lv_iload_n hx hb dX8_mixed_132 rfl (lv_at hl 1 rfl) ?_
                  obtain ⟨r15, hc14, h⟩ := bd_some h
                  refine cRl (runS (As := [.long i13.toInt64, .long ((abI (i9 + i11)).toInt64), .int x2]) (rest := []) C (mX8_partOf l D a hc14) lk_S_8_253 okN_X8_partOf ⟨Nat.le_of_ble_eq_true rfl, Nat.le_of_ble_eq_true rfl⟩ ⟨rfl, rfl⟩ (preR hK (P_of_map (wc := []) hP [] rfl)) hl.1 rfl (Nat.le_of_ble_eq_true rfl) dX8_mixed_133 ⟨Nat.le_of_ble_eq_true rfl, Nat.le_of_ble_eq_true rfl⟩) ?_
                  refine lv_l2i (v := r15.toInt32) hx hb dX8_mixed_136 rfl ?_
                  exact rRi C rfl (Option.some.inj h) dX8_mixed_137
                refine lv_if_ge (tgt := 116) hx hb dX8_mixed_107 (by decide) (fun c16 => ?_) (fun c16 => ?_)
                · have h := ite_t c16 h
                  refine lv_iload hx hb dX8_mixed_116 (lv_at hl 0 rfl) ?_
                  exact hJ12 i11 ls h (lv_sub hl [1, 2, 0] rfl)
                · have h := ite_f c16 h
                  refine lv_iload hx hb dX8_mixed_110 (lv_at hl 0 rfl) ?_
                  refine lv_ineg hx hb dX8_mixed_112 ?_
                  refine lv_goto (tgt := 118) hx hb dX8_mixed_113 (by decide) ?_
                  exact hJ12 (-i11) ls h (lv_sub hl [1, 2, 0] rfl)
              refine lv_if_ne (tgt := 89) hx hb dX8_mixed_70 (by decide) (fun c17 => ?_) (fun c17 => ?_)
              · have h := ite_f c17 h
                refine lv_aload_n hx hb dX8_mixed_89 rfl (lv_at hl 3 rfl) ?_
                refine lv_iconst (v := 3) hx hb dX8_mixed_90 (by decide) ?_
                obtain ⟨r19, hc18, h⟩ := bd_some h
                refine cRi (runS (As := [.ref (Q_t_5 7), .int 3]) (rest := []) C (mX8_at l D a (q_p0 := (Q_t_5 7)) hc18) lk_S_8_129 okN_X8_at ⟨Nat.le_of_ble_eq_true rfl, Nat.le_of_ble_eq_true rfl⟩ ⟨rfl, rfl⟩ (preR hK (P_of_map (wc := ra0 a (Q_t_5 7) 8 (gT z_t_5 7)) hP [4] rfl)) hl.1 rfl (Nat.le_of_ble_eq_true rfl) dX8_mixed_91 ⟨Nat.le_of_ble_eq_true rfl, Nat.le_of_ble_eq_true rfl⟩) ?_
                refine lv_aload_n hx hb dX8_mixed_94 rfl (lv_at hl 3 rfl) ?_
                refine lv_iconst (v := 1) hx hb dX8_mixed_95 (by decide) ?_
                obtain ⟨r21, hc20, h⟩ := bd_some h
                refine cRi (runS (As := [.ref (Q_t_5 7), .int 1]) (rest := [.int r19]) C (mX8_at l D a (q_p0 := (Q_t_5 7)) hc20) lk_S_8_129 okN_X8_at ⟨Nat.le_of_ble_eq_true rfl, Nat.le_of_ble_eq_true rfl⟩ ⟨rfl, rfl⟩ (preR hK (P_of_map (wc := ra0 a (Q_t_5 7) 8 (gT z_t_5 7)) hP [4] rfl)) hl.1 rfl (Nat.le_of_ble_eq_true rfl) dX8_mixed_96 ⟨Nat.le_of_ble_eq_true rfl, Nat.le_of_ble_eq_true rfl⟩) ?_
                refine lv_isub hx hb dX8_mixed_99 ?_
                exact hJ10 (r19 - r21) ls h (lv_sub hl [2, 0] rfl)
              · have h := ite_t c17 h
                refine lv_aload_n hx hb dX8_mixed_73 rfl (lv_at hl 3 rfl) ?_
                refine lv_bipush (v := 7) hx hb dX8_mixed_74 (by decide) ?_
                obtain ⟨r23, hc22, h⟩ := bd_some h
                refine cRi (runS (As := [.ref (Q_t_5 7), .int 7]) (rest := []) C (mX8_at l D a (q_p0 := (Q_t_5 7)) hc22) lk_S_8_129 okN_X8_at ⟨Nat.le_of_ble_eq_true rfl, Nat.le_of_ble_eq_true rfl⟩ ⟨rfl, rfl⟩ (preR hK (P_of_map (wc := ra0 a (Q_t_5 7) 8 (gT z_t_5 7)) hP [4] rfl)) hl.1 rfl (Nat.le_of_ble_eq_true rfl) dX8_mixed_76 ⟨Nat.le_of_ble_eq_true rfl, Nat.le_of_ble_eq_true rfl⟩) ?_
                refine lv_aload_n hx hb dX8_mixed_79 rfl (lv_at hl 3 rfl) ?_
                refine lv_bipush (v := 6) hx hb dX8_mixed_80 (by decide) ?_
                obtain ⟨r25, hc24, h⟩ := bd_some h
                refine cRi (runS (As := [.ref (Q_t_5 7), .int 6]) (rest := [.int r23]) C (mX8_at l D a (q_p0 := (Q_t_5 7)) hc24) lk_S_8_129 okN_X8_at ⟨Nat.le_of_ble_eq_true rfl, Nat.le_of_ble_eq_true rfl⟩ ⟨rfl, rfl⟩ (preR hK (P_of_map (wc := ra0 a (Q_t_5 7) 8 (gT z_t_5 7)) hP [4] rfl)) hl.1 rfl (Nat.le_of_ble_eq_true rfl) dX8_mixed_82 ⟨Nat.le_of_ble_eq_true rfl, Nat.le_of_ble_eq_true rfl⟩) ?_
                refine lv_isub hx hb dX8_mixed_85 ?_
                refine lv_goto (tgt := 100) hx hb dX8_mixed_86 (by decide) ?_
                exact hJ10 (r23 - r25) ls h (lv_sub hl [2, 0] rfl)
            refine lv_if_ne (tgt := 56) hx hb dX8_mixed_39 (by decide) (fun c26 => ?_) (fun c26 => ?_)
            · have h := ite_f c26 h
              refine lv_aload_n hx hb dX8_mixed_56 rfl (lv_at hl 0 rfl) ?_
              refine lv_iconst (v := 0) hx hb dX8_mixed_57 (by decide) ?_
              obtain ⟨r28, hc27, h⟩ := bd_some h
              refine cRi (runS (As := [.ref (Q_t_5 7), .int 0]) (rest := []) C (mX8_at l D a (q_p0 := (Q_t_5 7)) hc27) lk_S_8_129 okN_X8_at ⟨Nat.le_of_ble_eq_true rfl, Nat.le_of_ble_eq_true rfl⟩ ⟨rfl, rfl⟩ (preR hK (P_of_map (wc := ra0 a (Q_t_5 7) 8 (gT z_t_5 7)) hP [4] rfl)) hl.1 rfl (Nat.le_of_ble_eq_true rfl) dX8_mixed_58 ⟨Nat.le_of_ble_eq_true rfl, Nat.le_of_ble_eq_true rfl⟩) ?_
              refine lv_aload_n hx hb dX8_mixed_61 rfl (lv_at hl 0 rfl) ?_
              refine lv_iconst (v := 2) hx hb dX8_mixed_62 (by decide) ?_
              obtain ⟨r30, hc29, h⟩ := bd_some h
              refine cRi (runS (As := [.ref (Q_t_5 7), .int 2]) (rest := [.int r28]) C (mX8_at l D a (q_p0 := (Q_t_5 7)) hc29) lk_S_8_129 okN_X8_at ⟨Nat.le_of_ble_eq_true rfl, Nat.le_of_ble_eq_true rfl⟩ ⟨rfl, rfl⟩ (preR hK (P_of_map (wc := ra0 a (Q_t_5 7) 8 (gT z_t_5 7)) hP [4] rfl)) hl.1 rfl (Nat.le_of_ble_eq_true rfl) dX8_mixed_63 ⟨Nat.le_of_ble_eq_true rfl, Nat.le_of_ble_eq_true rfl⟩) ?_
              refine lv_isub hx hb dX8_mixed_66 ?_
              exact hJ8 (r28 - r30) ls h (lv_sub hl [2, 3, 0] rfl)
            · have h := ite_t c26 h
              refine lv_aload_n hx hb dX8_mixed_42 rfl (lv_at hl 0 rfl) ?_
              refine lv_iconst (v := 4) hx hb dX8_mixed_43 (by decide) ?_
              obtain ⟨r32, hc31, h⟩ := bd_some h
              refine cRi (runS (As := [.ref (Q_t_5 7), .int 4]) (rest := []) C (mX8_at l D a (q_p0 := (Q_t_5 7)) hc31) lk_S_8_129 okN_X8_at ⟨Nat.le_of_ble_eq_true rfl, Nat.le_of_ble_eq_true rfl⟩ ⟨rfl, rfl⟩ (preR hK (P_of_map (wc := ra0 a (Q_t_5 7) 8 (gT z_t_5 7)) hP [4] rfl)) hl.1 rfl (Nat.le_of_ble_eq_true rfl) dX8_mixed_44 ⟨Nat.le_of_ble_eq_true rfl, Nat.le_of_ble_eq_true rfl⟩) ?_
              refine lv_aload_n hx hb dX8_mixed_47 rfl (lv_at hl 0 rfl) ?_
              refine lv_iconst (v := 5) hx hb dX8_mixed_48 (by decide) ?_
              obtain ⟨r34, hc33, h⟩ := bd_some h
              refine cRi (runS (As := [.ref (Q_t_5 7), .int 5]) (rest := [.int r32]) C (mX8_at l D a (q_p0 := (Q_t_5 7)) hc33) lk_S_8_129 okN_X8_at ⟨Nat.le_of_ble_eq_true rfl, Nat.le_of_ble_eq_true rfl⟩ ⟨rfl, rfl⟩ (preR hK (P_of_map (wc := ra0 a (Q_t_5 7) 8 (gT z_t_5 7)) hP [4] rfl)) hl.1 rfl (Nat.le_of_ble_eq_true rfl) dX8_mixed_49 ⟨Nat.le_of_ble_eq_true rfl, Nat.le_of_ble_eq_true rfl⟩) ?_
              refine lv_isub hx hb dX8_mixed_52 ?_
              refine lv_goto (tgt := 67) hx hb dX8_mixed_53 (by decide) ?_
              exact hJ8 (r32 - r34) ls h (lv_sub hl [2, 3, 0] rfl)
          · have h := ite_f c7 h
            refine lv_bipush (v := (-2)) hx hb dX8_mixed_27 (by decide) ?_
            exact rRi C rfl (Option.some.inj h) dX8_mixed_29
        · have h := ite_f c4 h
          refine lv_iconst (v := (-1)) hx hb dX8_mixed_18 (by decide) ?_
          exact rRi C rfl (Option.some.inj h) dX8_mixed_19

set_option maxHeartbeats 4000000 in
set_option maxRecDepth 100000 in
theorem mX8_row (l : Launch) (D : va_G) (a : Nat → ClassId) {q_t : Nat} {Q_t : Nat → Nat} {z_t : Sx} {Q_t_5 : Nat → Nat} {z_t_5 : Sx} {Q_t_5_0 : Nat → Nat} {z_t_5_0 : Sx} {x1 : Int32} {y : Int32 × Sx} (h : fX8_row z_t z_t_5 z_t_5_0 x1 = some y) (sz : Nat) : CMi (S := Unit) l MX8_row 1 22 0 0 D a [.ref q_t, .int x1] (rc8 a q_t Q_t z_t ++ (rc5 a (Q_t 5) Q_t_5 z_t_5 ++ (rc7 a (Q_t_5 0) Q_t_5_0 z_t_5_0))) sz (fun r _ => r = y.1) (fun _ => rc8 a q_t Q_t z_t ++ (rc5 a (Q_t 5) Q_t_5 y.2 ++ (rc7 a (Q_t_5 0) Q_t_5_0 z_t_5_0))) := by
  unfold fX8_row at h
  refine entMi (by decide) (Nat.le_of_ble_eq_true rfl) ?_
  intro p e s m below meth c C hK A hA hP hD ls hl
  obtain ⟨hx, hb, hml, hown, hts, hr, hlocks, hnm⟩ := id C
  have hb : c.code = cX8_row := hb
  have hown : s.vm.findClass RX8 = some m.cls := hown
  have hS : va_S A s.heap s.heap [] := va_S.rf
  have hl : lv_has ls 2 [(0, .ref q_t), (1, .int x1)] := hl
  refine lv_iload_n hx hb dX8_row_0 rfl (lv_at hl 1 rfl) ?_
  refine lv_iconst (v := (-1)) hx hb dX8_row_1 (by decide) ?_
  refine lv_icmp_ne (tgt := 15) hx hb dX8_row_2 (by decide) (fun c1 => ?_) (fun c1 => ?_)
  · have h := ite_f c1 h
    refine lv_aload_n hx hb dX8_row_15 rfl (lv_at hl 0 rfl) ?_
    refine lv_iload_n hx hb dX8_row_16 rfl (lv_at hl 1 rfl) ?_
    obtain ⟨r3, hc2, h⟩ := bd_some h
    refine cRi (runV (As := [.int x1]) (rest := []) C (mX8_isFault l D a (q_t := q_t) (Q_t := Q_t) (Q_t_5 := Q_t_5) (Q_t_5_0 := Q_t_5_0) hc2) lk_V_8_139 okN_X8_isFault ⟨Nat.le_of_ble_eq_true rfl, Nat.le_of_ble_eq_true rfl⟩ ⟨rfl, rfl⟩ (preV (preR hK hP) (recvOf hK hP 0 rfl (ci := 8) rfl)) hl.1 rfl (Nat.le_of_ble_eq_true rfl) dX8_row_17 ⟨Nat.le_of_ble_eq_true rfl, Nat.le_of_ble_eq_true rfl⟩) ?_
    refine lv_if_eq (tgt := 35) hx hb dX8_row_20 (by decide) (fun c4 => ?_) (fun c4 => ?_)
    · have h := ite_t c4 h
      refine lv_bipush (v := (-2)) hx hb dX8_row_35 (by decide) ?_
      exact rMi C rfl h (g := fun y => rc8 a q_t Q_t z_t ++ (rc5 a (Q_t 5) Q_t_5 y.2 ++ (rc7 a (Q_t_5 0) Q_t_5_0 z_t_5_0))) (pr := fun y => y.1) hP hD hS dX8_row_37
    · have h := ite_f c4 h
      refine lv_aload_n hx hb dX8_row_23 rfl (lv_at hl 0 rfl) ?_
      refine va_get (D := D) (v := .ref (Q_t 5)) (C := RX8) (T := TX8) (N := 11) hx hb hts iX8 hown hK.1 hP 0 rfl rfl 5 (by decide) (hts _ t_305) (fun _ h9 => h9) rfl dX8_row_24 ?_
      refine va_get (D := D) (v := .int (gI z_t_5 6)) (C := RX5) (T := TX5) (N := 8) hx hb hts iX5 hown hK.1 hP 2 rfl rfl 6 (by decide) (hts _ t_173) (fun _ h9 => h9) rfl dX8_row_27 ?_
      refine lv_bipush (v := 8) hx hb dX8_row_30 (by decide) ?_
      refine lv_icmp_lt (tgt := 38) hx hb dX8_row_32 (by decide) (fun c5 => ?_) (fun c5 => ?_)
      · have h := ite_t c5 h
        refine lv_aload_n hx hb dX8_row_38 rfl (lv_at hl 0 rfl) ?_
        refine va_get (D := D) (v := .ref (Q_t 5)) (C := RX8) (T := TX8) (N := 11) hx hb hts iX8 hown hK.1 hP 0 rfl rfl 5 (by decide) (hts _ t_305) (fun _ h9 => h9) rfl dX8_row_39 ?_
        refine va_get (D := D) (v := .ref (Q_t_5 5)) (C := RX5) (T := TX5) (N := 8) hx hb hts iX5 hown hK.1 hP 2 rfl rfl 5 (by decide) (hts _ t_171) (fun _ h9 => h9) rfl dX8_row_42 ?_
        refine lv_aload_n hx hb dX8_row_45 rfl (lv_at hl 0 rfl) ?_
        refine va_get (D := D) (v := .ref (Q_t 5)) (C := RX8) (T := TX8) (N := 11) hx hb hts iX8 hown hK.1 hP 0 rfl rfl 5 (by decide) (hts _ t_305) (fun _ h9 => h9) rfl dX8_row_46 ?_
        refine va_get (D := D) (v := .int (gI z_t_5 6)) (C := RX5) (T := TX5) (N := 8) hx hb hts iX5 hown hK.1 hP 2 rfl rfl 6 (by decide) (hts _ t_173) (fun _ h9 => h9) rfl dX8_row_49 ?_
        refine lv_iload_n hx hb dX8_row_52 rfl (lv_at hl 1 rfl) ?_
        obtain ⟨z7, hc6, h⟩ := bd_some h
        refine cMv (runS (As := [.ref (Q_t_5 5), .int (gI z_t_5 6), .int x1]) (rest := []) C (mX8_put l D a (q_p0 := (Q_t_5 5)) hc6 s.heap.size) lk_S_8_78 okN_X8_put ⟨Nat.le_of_ble_eq_true rfl, Nat.le_of_ble_eq_true rfl⟩ ⟨rfl, rfl⟩ (preM hK (P_of_map (wc := ra0 a (Q_t_5 5) 8 (gT z_t_5 5)) hP [3] rfl) (hD.sub (ws' := ra0 a (Q_t_5 5) 8 (gT z_t_5 5)) [3] (by decide) rfl)) hl.1 rfl (Nat.le_of_ble_eq_true rfl) dX8_row_53 ⟨Nat.le_of_ble_eq_true rfl, Nat.le_of_ble_eq_true rfl⟩) hP hD hS hA [3] [0, 1, 2, 4, 5, 6, 7, 8, 9, 10, 11, 12, 13, 14, 15, 16, 17] [0, 1, 2, 17, 3, 4, 5, 6, 7, 8, 9, 10, 11, 12, 13, 14, 15, 16] rfl rfl (by decide) (by decide) (fw := rc8 a q_t Q_t z_t ++ (rc5 a (Q_t 5) Q_t_5 (sTf z_t_5 5 z7) ++ (rc7 a (Q_t_5 0) Q_t_5_0 z_t_5_0))) rfl (by decide) (fun H locs hP hD hS => ?_)
        have hP : va_P D classes (rc8 a q_t Q_t z_t ++ (rc5 a (Q_t 5) Q_t_5 (sTf z_t_5 5 z7) ++ (rc7 a (Q_t_5 0) Q_t_5_0 z_t_5_0))) H := hP
        have hD : va_D A (rc8 a q_t Q_t z_t ++ (rc5 a (Q_t 5) Q_t_5 (sTf z_t_5 5 z7) ++ (rc7 a (Q_t_5 0) Q_t_5_0 z_t_5_0))) := hD
        refine lv_aload_n hx hb dX8_row_56 rfl (lv_at hl 0 rfl) ?_
        refine va_get (D := D) (v := .ref (Q_t 5)) (C := RX8) (T := TX8) (N := 11) hx hb hts iX8 hown hK.1 hP 0 rfl rfl 5 (by decide) (hts _ t_305) (fun _ h9 => h9) rfl dX8_row_57 ?_
        refine lv_dup hx hb dX8_row_60 rfl ?_
        refine va_get (D := D) (v := .int (gI z_t_5 6)) (C := RX5) (T := TX5) (N := 8) hx hb hts iX5 hown hK.1 hP 2 rfl rfl 6 (by decide) (hts _ t_173) (fun _ h9 => h9) rfl dX8_row_61 ?_
        refine lv_iconst (v := 1) hx hb dX8_row_64 (by decide) ?_
        refine lv_iadd hx hb dX8_row_65 ?_
        refine va_put (D := D) (v := .int ((gI z_t_5 6) + 1)) (C := RX5) (T := TX5) (N := 8) hx hb hts iX5 tyX5 tyX5_ok nmX5 hown hK.1 hP hD hS 2 rfl rfl 6 (by decide) (hts _ t_173) (fun _ h9 => h9) rfl (tyX5_ok 6 (by decide)) rfl rfl (Nat.le_of_ble_eq_true rfl) dX8_row_66 (fun H locs hP hD hS => ?_)
        have hP : va_P D classes (rc8 a q_t Q_t z_t ++ (rc5 a (Q_t 5) Q_t_5 (sI (sTf z_t_5 5 z7) 6 ((gI z_t_5 6) + 1)) ++ (rc7 a (Q_t_5 0) Q_t_5_0 z_t_5_0))) H := hP
        have hD : va_D A (rc8 a q_t Q_t z_t ++ (rc5 a (Q_t 5) Q_t_5 (sI (sTf z_t_5 5 z7) 6 ((gI z_t_5 6) + 1)) ++ (rc7 a (Q_t_5 0) Q_t_5_0 z_t_5_0))) := hD
        refine lv_aload_n hx hb dX8_row_69 rfl (lv_at hl 0 rfl) ?_
        refine va_get (D := D) (v := .ref (Q_t 5)) (C := RX8) (T := TX8) (N := 11) hx hb hts iX8 hown hK.1 hP 0 rfl rfl 5 (by decide) (hts _ t_305) (fun _ h9 => h9) rfl dX8_row_70 ?_
        refine va_get (D := D) (v := .int ((gI z_t_5 6) + 1)) (C := RX5) (T := TX5) (N := 8) hx hb hts iX5 hown hK.1 hP 2 rfl rfl 6 (by decide) (hts _ t_173) (fun _ h9 => h9) rfl dX8_row_73 ?_
        exact rMi C rfl h (g := fun y => rc8 a q_t Q_t z_t ++ (rc5 a (Q_t 5) Q_t_5 y.2 ++ (rc7 a (Q_t_5 0) Q_t_5_0 z_t_5_0))) (pr := fun y => y.1) hP hD hS dX8_row_76
      · have h := ite_f c5 h
        refine lv_bipush (v := (-2)) hx hb dX8_row_35 (by decide) ?_
        exact rMi C rfl h (g := fun y => rc8 a q_t Q_t z_t ++ (rc5 a (Q_t 5) Q_t_5 y.2 ++ (rc7 a (Q_t_5 0) Q_t_5_0 z_t_5_0))) (pr := fun y => y.1) hP hD hS dX8_row_37
  · have h := ite_t c1 h
    refine lv_aload_n hx hb dX8_row_5 rfl (lv_at hl 0 rfl) ?_
    refine va_get (D := D) (v := .ref (Q_t 5)) (C := RX8) (T := TX8) (N := 11) hx hb hts iX8 hown hK.1 hP 0 rfl rfl 5 (by decide) (hts _ t_305) (fun _ h9 => h9) rfl dX8_row_6 ?_
    refine lv_iconst (v := 0) hx hb dX8_row_9 (by decide) ?_
    refine va_put (D := D) (v := .int 0) (C := RX5) (T := TX5) (N := 8) hx hb hts iX5 tyX5 tyX5_ok nmX5 hown hK.1 hP hD hS 2 rfl rfl 6 (by decide) (hts _ t_173) (fun _ h9 => h9) rfl (tyX5_ok 6 (by decide)) rfl rfl (Nat.le_of_ble_eq_true rfl) dX8_row_10 (fun H locs hP hD hS => ?_)
    have hP : va_P D classes (rc8 a q_t Q_t z_t ++ (rc5 a (Q_t 5) Q_t_5 (sI z_t_5 6 0) ++ (rc7 a (Q_t_5 0) Q_t_5_0 z_t_5_0))) H := hP
    have hD : va_D A (rc8 a q_t Q_t z_t ++ (rc5 a (Q_t 5) Q_t_5 (sI z_t_5 6 0) ++ (rc7 a (Q_t_5 0) Q_t_5_0 z_t_5_0))) := hD
    refine lv_iconst (v := 0) hx hb dX8_row_13 (by decide) ?_
    exact rMi C rfl h (g := fun y => rc8 a q_t Q_t z_t ++ (rc5 a (Q_t 5) Q_t_5 y.2 ++ (rc7 a (Q_t_5 0) Q_t_5_0 z_t_5_0))) (pr := fun y => y.1) hP hD hS dX8_row_14

set_option maxHeartbeats 4000000 in
set_option maxRecDepth 100000 in
theorem gmX8_rowMean (l : Launch) (D : va_G) (a : Nat → ClassId) {F LO : Nat} {rec : Sx → Sx → Sx → Int32 → Int32 → Int32 → Int32 → Option (Int64)} (hrec : ∀ {q_t : Nat} {Q_t : Nat → Nat} {z_t : Sx} {Q_t_5 : Nat → Nat} {z_t_5 : Sx} {Q_t_5_0 : Nat → Nat} {z_t_5_0 : Sx} {x1 : Int32} {x2 : Int32} {x3 : Int32} {x4 : Int32} {y9 : Int64}, rec z_t z_t_5 z_t_5_0 x1 x2 x3 x4 = some y9 → CRl l MX8_rowMean F LO D a [.ref q_t, .int x1, .int x2, .int x3, .int x4] (rc8 a q_t Q_t z_t ++ (rc5 a (Q_t 5) Q_t_5 z_t_5 ++ (rc7 a (Q_t_5 0) Q_t_5_0 z_t_5_0))) (fun r => r = y9)) (hF : 1 ≤ F) (hL : 23 ≤ LO) {q_t : Nat} {Q_t : Nat → Nat} {z_t : Sx} {Q_t_5 : Nat → Nat} {z_t_5 : Sx} {Q_t_5_0 : Nat → Nat} {z_t_5_0 : Sx} {x1 : Int32} {x2 : Int32} {x3 : Int32} {x4 : Int32} {y : Int64} (h : gX8_rowMean rec z_t z_t_5 z_t_5_0 x1 x2 x3 x4 = some y) : CRl l MX8_rowMean (F + 1) (LO + 32) D a [.ref q_t, .int x1, .int x2, .int x3, .int x4] (rc8 a q_t Q_t z_t ++ (rc5 a (Q_t 5) Q_t_5 z_t_5 ++ (rc7 a (Q_t_5 0) Q_t_5_0 z_t_5_0))) (fun r => r = y) := by
  unfold gX8_rowMean at h
  refine entR (by decide) (Nat.le_of_ble_eq_true rfl) ?_
  intro p e s m below meth c C hK hP ls hl
  obtain ⟨hx, hb, hml, hown, hts, hr, hlocks, hnm⟩ := id C
  have hb : c.code = cX8_rowMean := hb
  have hown : s.vm.findClass RX8 = some m.cls := hown
  have hl : lv_has ls 13 [(0, .ref q_t), (1, .int x1), (2, .int x2), (3, .int x3), (4, .int x4)] := hl
  refine lv_iload_n hx hb dX8_rowMean_0 rfl (lv_at hl 1 rfl) ?_
  refine lv_aload_n hx hb dX8_rowMean_1 rfl (lv_at hl 0 rfl) ?_
  refine va_get (D := D) (v := .ref (Q_t 5)) (C := RX8) (T := TX8) (N := 11) hx hb hts iX8 hown hK.1 hP 0 rfl rfl 5 (by decide) (hts _ t_305) (fun _ h9 => h9) rfl dX8_rowMean_2 ?_
  refine va_get (D := D) (v := .int (gI z_t_5 6)) (C := RX5) (T := TX5) (N := 8) hx hb hts iX5 hown hK.1 hP 2 rfl rfl 6 (by decide) (hts _ t_173) (fun _ h9 => h9) rfl dX8_rowMean_5 ?_
  refine lv_icmp_ge (tgt := 17) hx hb dX8_rowMean_8 (by decide) (fun c1 => ?_) (fun c1 => ?_)
  · have h := ite_t c1 h
    refine lv_lconst (v := 0) hx hb dX8_rowMean_17 (by decide) ?_
    exact rRl C rfl (Option.some.inj h) dX8_rowMean_18
  · have h := ite_f c1 h
    refine lv_iload_n hx hb dX8_rowMean_11 rfl (lv_at hl 1 rfl) ?_
    refine lv_bipush (v := 8) hx hb dX8_rowMean_12 (by decide) ?_
    refine lv_icmp_lt (tgt := 19) hx hb dX8_rowMean_14 (by decide) (fun c2 => ?_) (fun c2 => ?_)
    · have h := ite_t c2 h
      refine lv_aload_n hx hb dX8_rowMean_19 rfl (lv_at hl 0 rfl) ?_
      refine va_get (D := D) (v := .ref (Q_t 5)) (C := RX8) (T := TX8) (N := 11) hx hb hts iX8 hown hK.1 hP 0 rfl rfl 5 (by decide) (hts _ t_305) (fun _ h9 => h9) rfl dX8_rowMean_20 ?_
      refine va_get (D := D) (v := .ref (Q_t_5 5)) (C := RX5) (T := TX5) (N := 8) hx hb hts iX5 hown hK.1 hP 2 rfl rfl 5 (by decide) (hts _ t_171) (fun _ h9 => h9) rfl dX8_rowMean_23 ?_
      refine lv_iload_n hx hb dX8_rowMean_26 rfl (lv_at hl 1 rfl) ?_
      obtain ⟨r4, hc3, h⟩ := bd_some h
      refine cRi (runS (As := [.ref (Q_t_5 5), .int x1]) (rest := []) C (mX8_at l D a (q_p0 := (Q_t_5 5)) hc3) lk_S_8_129 okN_X8_at (by constructor; (show 0 + 1 ≤ F + 1; omega); (show 8 + (2 + 11) + (0) ≤ LO + 32; omega)) ⟨rfl, rfl⟩ (preR hK (P_of_map (wc := ra0 a (Q_t_5 5) 8 (gT z_t_5 5)) hP [3] rfl)) hl.1 rfl (Nat.le_of_ble_eq_true rfl) dX8_rowMean_27 ⟨Nat.le_of_ble_eq_true rfl, Nat.le_of_ble_eq_true rfl⟩) ?_
      refine lv_istore (lv' := [(5, .int r4), (0, .ref q_t), (1, .int x1), (2, .int x2), (3, .int x3), (4, .int x4)]) hx hb dX8_rowMean_30 hl (by decide) rfl (fun ls hl => ?_)
      refine lv_aload_n hx hb dX8_rowMean_32 rfl (lv_at hl 1 rfl) ?_
      refine va_get (D := D) (v := .ref (Q_t 5)) (C := RX8) (T := TX8) (N := 11) hx hb hts iX8 hown hK.1 hP 0 rfl rfl 5 (by decide) (hts _ t_305) (fun _ h9 => h9) rfl dX8_rowMean_33 ?_
      refine va_get (D := D) (v := .ref (Q_t_5 0)) (C := RX5) (T := TX5) (N := 8) hx hb hts iX5 hown hK.1 hP 2 rfl rfl 0 (by decide) (hts _ t_161) (fun _ h9 => h9) rfl dX8_rowMean_36 ?_
      refine va_get (D := D) (v := .ref (Q_t_5_0 9)) (C := RX7) (T := TX7) (N := 18) hx hb hts iX7 hown hK.1 hP 5 rfl rfl 9 (by decide) (hts _ t_62) (fun _ h9 => h9) rfl dX8_rowMean_39 ?_
      refine lv_iload hx hb dX8_rowMean_42 (lv_at hl 0 rfl) ?_
      obtain ⟨r6, hc5, h⟩ := bd_some h
      refine cRi (runS (As := [.ref (Q_t_5_0 9), .int r4]) (rest := []) C (mX8_at l D a (q_p0 := (Q_t_5_0 9)) hc5) lk_S_8_129 okN_X8_at (by constructor; (show 0 + 1 ≤ F + 1; omega); (show 8 + (2 + 11) + (0) ≤ LO + 32; omega)) ⟨rfl, rfl⟩ (preR hK (P_of_map (wc := ra0 a (Q_t_5_0 9) 10 (gT z_t_5_0 9)) hP [10] rfl)) hl.1 rfl (Nat.le_of_ble_eq_true rfl) dX8_rowMean_44 ⟨Nat.le_of_ble_eq_true rfl, Nat.le_of_ble_eq_true rfl⟩) ?_
      refine lv_istore (lv' := [(6, .int r6), (5, .int r4), (0, .ref q_t), (1, .int x1), (2, .int x2), (3, .int x3), (4, .int x4)]) hx hb dX8_rowMean_47 hl (by decide) rfl (fun ls hl => ?_)
      refine lv_aload_n hx hb dX8_rowMean_49 rfl (lv_at hl 2 rfl) ?_
      refine va_get (D := D) (v := .ref (Q_t 5)) (C := RX8) (T := TX8) (N := 11) hx hb hts iX8 hown hK.1 hP 0 rfl rfl 5 (by decide) (hts _ t_305) (fun _ h9 => h9) rfl dX8_rowMean_50 ?_
      refine va_get (D := D) (v := .ref (Q_t_5 0)) (C := RX5) (T := TX5) (N := 8) hx hb hts iX5 hown hK.1 hP 2 rfl rfl 0 (by decide) (hts _ t_161) (fun _ h9 => h9) rfl dX8_rowMean_53 ?_
      refine lv_iload hx hb dX8_rowMean_56 (lv_at hl 1 rfl) ?_
      refine lv_iload_n hx hb dX8_rowMean_58 rfl (lv_at hl 4 rfl) ?_
      obtain ⟨r8, hc7, h⟩ := bd_some h
      refine cRi (runV (As := [.int r4, .int x2]) (rest := []) C (mX7_isOpen l D a (q_t := (Q_t_5 0)) (Q_t := Q_t_5_0) hc7) lk_V_8_175 okN_X7_isOpen (by constructor; (show 0 + 1 ≤ F + 1; omega); (show 8 + (4 + 11) + (0) ≤ LO + 32; omega)) ⟨rfl, rfl⟩ (preV (preR hK (P_of_map (wc := rc7 a (Q_t_5 0) Q_t_5_0 z_t_5_0) hP [5, 6, 7, 8, 9, 10, 11, 12, 13, 14, 15, 16, 17] rfl)) (recvOf hK hP 5 rfl (ci := 7) rfl)) hl.1 rfl (Nat.le_of_ble_eq_true rfl) dX8_rowMean_59 ⟨Nat.le_of_ble_eq_true rfl, Nat.le_of_ble_eq_true rfl⟩) ?_
      obtain ⟨J9, eJ9, h⟩ := jn_some h
      have hJ9 : ∀ (ls : Array Slot), J9 = some y → lv_has ls 13 [(0, .ref q_t), (1, .int x1), (2, .int x2), (3, .int x3), (4, .int x4)] → W p l e (rmM (F + 1) 0 0 (LO + 32)) s m #[.ref q_t, .int x1, .int x2, .int x3, .int x4] below meth c s.heap [] 0 0 (MQ below (vp_Sl (fun r => r = y)) #[.ref q_t, .int x1, .int x2, .int x3, .int x4] s 0 0 (fun _ => False)) (F0 m 71 ls []) := by
        intro ls h hl
        rw [eJ9] at h
        refine lv_ldc2 hx hb hown (hts _ t_758) dX8_rowMean_71 ?_
        refine lv_aload_n hx hb dX8_rowMean_74 rfl (lv_at hl 0 rfl) ?_
        refine lv_iload_n hx hb dX8_rowMean_75 rfl (lv_at hl 1 rfl) ?_
        refine lv_iconst (v := 1) hx hb dX8_rowMean_76 (by decide) ?_
        refine lv_iadd hx hb dX8_rowMean_77 ?_
        refine lv_iload_n hx hb dX8_rowMean_78 rfl (lv_at hl 2 rfl) ?_
        refine lv_iload_n hx hb dX8_rowMean_79 rfl (lv_at hl 3 rfl) ?_
        refine lv_iload hx hb dX8_rowMean_80 (lv_at hl 4 rfl) ?_
        obtain ⟨r11, hc10, h⟩ := bd_some h
        refine cRl (runV (As := [.int (x1 + 1), .int x2, .int x3, .int x4]) (rest := [.long 100]) C (hrec (q_t := q_t) (Q_t := Q_t) (Q_t_5 := Q_t_5) (Q_t_5_0 := Q_t_5_0) hc10) lk_V_8_245 okN_X8_rowMean (by constructor; (show F + 0 + 1 ≤ F + 1; omega); (show 8 + (13 + 11) + (LO + 0) ≤ LO + 32; omega)) ⟨rfl, rfl⟩ (preV (preR hK hP) (recvOf hK hP 0 rfl (ci := 8) rfl)) hl.1 rfl (Nat.le_of_ble_eq_true rfl) dX8_rowMean_82 ⟨Nat.le_of_ble_eq_true rfl, Nat.le_of_ble_eq_true rfl⟩) ?_
        refine lv_lmul hx hb dX8_rowMean_85 ?_
        exact rRl C rfl (Option.some.inj h) dX8_rowMean_86
      refine lv_if_eq (tgt := 71) hx hb dX8_rowMean_62 (by decide) (fun c12 => ?_) (fun c12 => ?_)
      · have h := ite_t c12 h
        exact hJ9 ls h (lv_sub hl [2, 3, 4, 5, 6] rfl)
      · have h := ite_f c12 h
        refine lv_iload hx hb dX8_rowMean_65 (lv_at hl 0 rfl) ?_
        refine lv_iload_n hx hb dX8_rowMean_67 rfl (lv_at hl 5 rfl) ?_
        refine lv_icmp_le (tgt := 87) hx hb dX8_rowMean_68 (by decide) (fun c13 => ?_) (fun c13 => ?_)
        · have h := ite_t c13 h
          refine lv_aload_n hx hb dX8_rowMean_87 rfl (lv_at hl 2 rfl) ?_
          refine va_get (D := D) (v := .ref (Q_t 5)) (C := RX8) (T := TX8) (N := 11) hx hb hts iX8 hown hK.1 hP 0 rfl rfl 5 (by decide) (hts _ t_305) (fun _ h9 => h9) rfl dX8_rowMean_88 ?_
          refine va_get (D := D) (v := .ref (Q_t_5 0)) (C := RX5) (T := TX5) (N := 8) hx hb hts iX5 hown hK.1 hP 2 rfl rfl 0 (by decide) (hts _ t_161) (fun _ h9 => h9) rfl dX8_rowMean_91 ?_
          refine va_get (D := D) (v := .ref (Q_t_5_0 10)) (C := RX7) (T := TX7) (N := 18) hx hb hts iX7 hown hK.1 hP 5 rfl rfl 10 (by decide) (hts _ t_67) (fun _ h9 => h9) rfl dX8_rowMean_94 ?_
          refine lv_iload hx hb dX8_rowMean_97 (lv_at hl 1 rfl) ?_
          obtain ⟨r15, hc14, h⟩ := bd_some h
          refine cRi (runS (As := [.ref (Q_t_5_0 10), .int r4]) (rest := []) C (mX8_at l D a (q_p0 := (Q_t_5_0 10)) hc14) lk_S_8_129 okN_X8_at (by constructor; (show 0 + 1 ≤ F + 1; omega); (show 8 + (2 + 11) + (0) ≤ LO + 32; omega)) ⟨rfl, rfl⟩ (preR hK (P_of_map (wc := ra0 a (Q_t_5_0 10) 10 (gT z_t_5_0 10)) hP [11] rfl)) hl.1 rfl (Nat.le_of_ble_eq_true rfl) dX8_rowMean_99 ⟨Nat.le_of_ble_eq_true rfl, Nat.le_of_ble_eq_true rfl⟩) ?_
          refine lv_istore (lv' := [(7, .int r15), (6, .int r6), (5, .int r4), (0, .ref q_t), (1, .int x1), (2, .int x2), (3, .int x3), (4, .int x4)]) hx hb dX8_rowMean_102 hl (by decide) rfl (fun ls hl => ?_)
          refine lv_iload hx hb dX8_rowMean_104 (lv_at hl 7 rfl) ?_
          refine lv_iconst (v := (-1)) hx hb dX8_rowMean_106 (by decide) ?_
          obtain ⟨J16, eJ16, h⟩ := jn_some h
          have hJ16 : ∀ (i17 : Int32) (ls : Array Slot), J16 i17 = some y → lv_has ls 13 [(0, .ref q_t), (1, .int x1), (2, .int x2), (3, .int x3), (4, .int x4), (5, .int r4), (6, .int r6), (7, .int r15)] → W p l e (rmM (F + 1) 0 0 (LO + 32)) s m #[.ref q_t, .int x1, .int x2, .int x3, .int x4] below meth c s.heap [] 0 0 (MQ below (vp_Sl (fun r => r = y)) #[.ref q_t, .int x1, .int x2, .int x3, .int x4] s 0 0 (fun _ => False)) (F0 m 140 ls [.int i17]) := by
            intro i17 ls h hl
            rw [eJ16] at h
            refine lv_istore (lv' := [(8, .int i17), (0, .ref q_t), (1, .int x1), (2, .int x2), (3, .int x3), (4, .int x4), (5, .int r4), (6, .int r6), (7, .int r15)]) hx hb dX8_rowMean_140 hl (by decide) rfl (fun ls hl => ?_)
            refine lv_iload hx hb dX8_rowMean_142 (lv_at hl 0 rfl) ?_
            refine lv_i2l (v := i17.toInt64) hx hb dX8_rowMean_144 rfl ?_
            refine lv_aload_n hx hb dX8_rowMean_145 rfl (lv_at hl 1 rfl) ?_
            refine va_get (D := D) (v := .ref (Q_t 5)) (C := RX8) (T := TX8) (N := 11) hx hb hts iX8 hown hK.1 hP 0 rfl rfl 5 (by decide) (hts _ t_305) (fun _ h9 => h9) rfl dX8_rowMean_146 ?_
            refine va_get (D := D) (v := .int (gI z_t_5 6)) (C := RX5) (T := TX5) (N := 8) hx hb hts iX5 hown hK.1 hP 2 rfl rfl 6 (by decide) (hts _ t_173) (fun _ h9 => h9) rfl dX8_rowMean_149 ?_
            refine lv_iload_n hx hb dX8_rowMean_152 rfl (lv_at hl 2 rfl) ?_
            refine lv_isub hx hb dX8_rowMean_153 ?_
            refine lv_iconst (v := 1) hx hb dX8_rowMean_154 (by decide) ?_
            refine lv_isub hx hb dX8_rowMean_155 ?_
            obtain ⟨r19, hc18, h⟩ := bd_some h
            refine cRl (runS (As := [.int (((gI z_t_5 6) - x1) - 1)]) (rest := [.long i17.toInt64]) C (mX8_hundreds l D a hc18) lk_S_8_249 okN_X8_hundreds (by constructor; (show 0 + 1 ≤ F + 1; omega); (show 8 + (4 + 11) + (0) ≤ LO + 32; omega)) ⟨rfl, rfl⟩ (preR hK (P_of_map (wc := []) hP [] rfl)) hl.1 rfl (Nat.le_of_ble_eq_true rfl) dX8_rowMean_156 ⟨Nat.le_of_ble_eq_true rfl, Nat.le_of_ble_eq_true rfl⟩) ?_
            refine lv_lmul hx hb dX8_rowMean_159 ?_
            refine lv_aload_n hx hb dX8_rowMean_160 rfl (lv_at hl 1 rfl) ?_
            refine lv_iload_n hx hb dX8_rowMean_161 rfl (lv_at hl 2 rfl) ?_
            refine lv_iconst (v := 1) hx hb dX8_rowMean_162 (by decide) ?_
            refine lv_iadd hx hb dX8_rowMean_163 ?_
            refine lv_iload_n hx hb dX8_rowMean_164 rfl (lv_at hl 3 rfl) ?_
            refine lv_iload hx hb dX8_rowMean_165 (lv_at hl 6 rfl) ?_
            obtain ⟨r21, hc20, h⟩ := bd_some h
            refine cRi (runS (As := [.int r4]) (rest := [.int x2, .int (x1 + 1), .ref q_t, .long (i17.toInt64 * r19)]) C (mX8_bit l D a hc20) lk_S_8_216 okN_X8_bit (by constructor; (show 0 + 1 ≤ F + 1; omega); (show 8 + (1 + 11) + (0) ≤ LO + 32; omega)) ⟨rfl, rfl⟩ (preR hK (P_of_map (wc := []) hP [] rfl)) hl.1 rfl (Nat.le_of_ble_eq_true rfl) dX8_rowMean_167 ⟨Nat.le_of_ble_eq_true rfl, Nat.le_of_ble_eq_true rfl⟩) ?_
            refine lv_ior hx hb dX8_rowMean_170 ?_
            refine lv_iload_n hx hb dX8_rowMean_171 rfl (lv_at hl 4 rfl) ?_
            refine lv_iload hx hb dX8_rowMean_172 (lv_at hl 7 rfl) ?_
            refine lv_isub hx hb dX8_rowMean_174 ?_
            refine lv_iload hx hb dX8_rowMean_175 (lv_at hl 5 rfl) ?_
            obtain ⟨r23, hc22, h⟩ := bd_some h
            refine cRl (runV (As := [.int (x1 + 1), .int (x2 ||| r21), .int (x3 - r6), .int x4]) (rest := [.long (i17.toInt64 * r19)]) C (hrec (q_t := q_t) (Q_t := Q_t) (Q_t_5 := Q_t_5) (Q_t_5_0 := Q_t_5_0) hc22) lk_V_8_245 okN_X8_rowMean (by constructor; (show F + 0 + 1 ≤ F + 1; omega); (show 8 + (13 + 11) + (LO + 0) ≤ LO + 32; omega)) ⟨rfl, rfl⟩ (preV (preR hK hP) (recvOf hK hP 0 rfl (ci := 8) rfl)) hl.1 rfl (Nat.le_of_ble_eq_true rfl) dX8_rowMean_177 ⟨Nat.le_of_ble_eq_true rfl, Nat.le_of_ble_eq_true rfl⟩) ?_
            refine lv_ladd hx hb dX8_rowMean_180 ?_
            refine lv_lstore (lv' := [(9, .long ((i17.toInt64 * r19) + r23)), (8, .int i17), (0, .ref q_t), (1, .int x1), (2, .int x2), (3, .int x3), (4, .int x4), (5, .int r4), (6, .int r6), (7, .int r15)]) hx hb dX8_rowMean_181 hl (by decide) rfl (fun ls hl => ?_)
            refine lv_aload_n hx hb dX8_rowMean_183 rfl (lv_at hl 2 rfl) ?_
            refine lv_iload_n hx hb dX8_rowMean_184 rfl (lv_at hl 3 rfl) ?_
            refine lv_iconst (v := 1) hx hb dX8_rowMean_185 (by decide) ?_
            refine lv_iadd hx hb dX8_rowMean_186 ?_
            refine lv_iload_n hx hb dX8_rowMean_187 rfl (lv_at hl 4 rfl) ?_
            refine lv_iload_n hx hb dX8_rowMean_188 rfl (lv_at hl 5 rfl) ?_
            refine lv_iload hx hb dX8_rowMean_189 (lv_at hl 8 rfl) ?_
            refine lv_isub hx hb dX8_rowMean_191 ?_
            refine lv_iload hx hb dX8_rowMean_192 (lv_at hl 6 rfl) ?_
            obtain ⟨r25, hc24, h⟩ := bd_some h
            refine cRl (runV (As := [.int (x1 + 1), .int x2, .int (x3 - r6), .int x4]) (rest := []) C (hrec (q_t := q_t) (Q_t := Q_t) (Q_t_5 := Q_t_5) (Q_t_5_0 := Q_t_5_0) hc24) lk_V_8_245 okN_X8_rowMean (by constructor; (show F + 0 + 1 ≤ F + 1; omega); (show 8 + (13 + 11) + (LO + 0) ≤ LO + 32; omega)) ⟨rfl, rfl⟩ (preV (preR hK hP) (recvOf hK hP 0 rfl (ci := 8) rfl)) hl.1 rfl (Nat.le_of_ble_eq_true rfl) dX8_rowMean_194 ⟨Nat.le_of_ble_eq_true rfl, Nat.le_of_ble_eq_true rfl⟩) ?_
            refine lv_lstore (lv' := [(11, .long r25), (9, .long ((i17.toInt64 * r19) + r23)), (8, .int i17), (0, .ref q_t), (1, .int x1), (2, .int x2), (3, .int x3), (4, .int x4), (5, .int r4), (6, .int r6), (7, .int r15)]) hx hb dX8_rowMean_197 hl (by decide) rfl (fun ls hl => ?_)
            refine lv_iload hx hb dX8_rowMean_199 (lv_at hl 10 rfl) ?_
            refine lv_i2l (v := r15.toInt64) hx hb dX8_rowMean_201 rfl ?_
            refine lv_lload hx hb dX8_rowMean_202 (lv_at hl 1 rfl) ?_
            refine lv_lmul hx hb dX8_rowMean_204 ?_
            refine lv_bipush (v := 100) hx hb dX8_rowMean_205 (by decide) ?_
            refine lv_iload hx hb dX8_rowMean_207 (lv_at hl 10 rfl) ?_
            refine lv_isub hx hb dX8_rowMean_209 ?_
            refine lv_i2l (v := (100 - r15).toInt64) hx hb dX8_rowMean_210 rfl ?_
            refine lv_lload hx hb dX8_rowMean_211 (lv_at hl 0 rfl) ?_
            refine lv_lmul hx hb dX8_rowMean_213 ?_
            refine lv_ladd hx hb dX8_rowMean_214 ?_
            exact rRl C rfl (Option.some.inj h) dX8_rowMean_215
          refine lv_icmp_ne (tgt := 128) hx hb dX8_rowMean_107 (by decide) (fun c26 => ?_) (fun c26 => ?_)
          · have h := ite_f c26 h
            refine lv_iload hx hb dX8_rowMean_128 (lv_at hl 2 rfl) ?_
            refine lv_iload hx hb dX8_rowMean_130 (lv_at hl 7 rfl) ?_
            refine lv_icmp_ne (tgt := 139) hx hb dX8_rowMean_132 (by decide) (fun c27 => ?_) (fun c27 => ?_)
            · have h := ite_f c27 h
              refine lv_iconst (v := 0) hx hb dX8_rowMean_139 (by decide) ?_
              exact hJ16 0 ls h (lv_sub hl [3, 4, 5, 6, 7, 2, 1, 0] rfl)
            · have h := ite_t c27 h
              refine lv_iconst (v := 1) hx hb dX8_rowMean_135 (by decide) ?_
              refine lv_goto (tgt := 140) hx hb dX8_rowMean_136 (by decide) ?_
              exact hJ16 1 ls h (lv_sub hl [3, 4, 5, 6, 7, 2, 1, 0] rfl)
          · have h := ite_t c26 h
            refine lv_aload_n hx hb dX8_rowMean_110 rfl (lv_at hl 3 rfl) ?_
            refine va_get (D := D) (v := .ref (Q_t 5)) (C := RX8) (T := TX8) (N := 11) hx hb hts iX8 hown hK.1 hP 0 rfl rfl 5 (by decide) (hts _ t_305) (fun _ h9 => h9) rfl dX8_rowMean_111 ?_
            refine va_get (D := D) (v := .ref (Q_t_5 0)) (C := RX5) (T := TX5) (N := 8) hx hb hts iX5 hown hK.1 hP 2 rfl rfl 0 (by decide) (hts _ t_161) (fun _ h9 => h9) rfl dX8_rowMean_114 ?_
            refine va_get (D := D) (v := .ref (Q_t_5_0 12)) (C := RX7) (T := TX7) (N := 18) hx hb hts iX7 hown hK.1 hP 5 rfl rfl 12 (by decide) (hts _ t_74) (fun _ h9 => h9) rfl dX8_rowMean_117 ?_
            refine lv_iload hx hb dX8_rowMean_120 (lv_at hl 2 rfl) ?_
            obtain ⟨r29, hc28, h⟩ := bd_some h
            refine cRi (runS (As := [.ref (Q_t_5_0 12), .int r4]) (rest := []) C (mX8_at l D a (q_p0 := (Q_t_5_0 12)) hc28) lk_S_8_129 okN_X8_at (by constructor; (show 0 + 1 ≤ F + 1; omega); (show 8 + (2 + 11) + (0) ≤ LO + 32; omega)) ⟨rfl, rfl⟩ (preR hK (P_of_map (wc := ra0 a (Q_t_5_0 12) 10 (gT z_t_5_0 12)) hP [13] rfl)) hl.1 rfl (Nat.le_of_ble_eq_true rfl) dX8_rowMean_122 ⟨Nat.le_of_ble_eq_true rfl, Nat.le_of_ble_eq_true rfl⟩) ?_
            refine lv_goto (tgt := 140) hx hb dX8_rowMean_125 (by decide) ?_
            exact hJ16 r29 ls h (lv_sub hl [3, 4, 5, 6, 7, 2, 1, 0] rfl)
        · have h := ite_f c13 h
          exact hJ9 ls h (lv_sub hl [2, 3, 4, 5, 6] rfl)
    · have h := ite_f c2 h
      refine lv_lconst (v := 0) hx hb dX8_rowMean_17 (by decide) ?_
      exact rRl C rfl (Option.some.inj h) dX8_rowMean_18

set_option maxHeartbeats 4000000 in
theorem mX8_rowMean (l : Launch) (D : va_G) (a : Nat → ClassId) : ∀ (dp : Nat) {q_t : Nat} {Q_t : Nat → Nat} {z_t : Sx} {Q_t_5 : Nat → Nat} {z_t_5 : Sx} {Q_t_5_0 : Nat → Nat} {z_t_5_0 : Sx} {x1 : Int32} {x2 : Int32} {x3 : Int32} {x4 : Int32} {y : Int64}, fX8_rowMean dp z_t z_t_5 z_t_5_0 x1 x2 x3 x4 = some y → CRl l MX8_rowMean (1 + 1 * dp) (23 + 32 * dp) D a [.ref q_t, .int x1, .int x2, .int x3, .int x4] (rc8 a q_t Q_t z_t ++ (rc5 a (Q_t 5) Q_t_5 z_t_5 ++ (rc7 a (Q_t_5 0) Q_t_5_0 z_t_5_0))) (fun r => r = y) := by
  intro dp
  induction dp with
  | zero => intros; rename_i h; cases h
  | succ dp ih =>
    intros
    rename_i h
    have e1 : 1 + 1 * (dp + 1) = 1 + 1 * dp + 1 := by omega
    have e2 : 23 + 32 * (dp + 1) = 23 + 32 * dp + 32 := by omega
    rw [e1, e2]
    exact gmX8_rowMean l D a ih (by omega) (by omega) h



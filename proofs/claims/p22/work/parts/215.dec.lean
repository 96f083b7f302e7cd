def fX8_mend (z_t : Sx) (z_t_5 : Sx) (z_t_5_0 : Sx) (z_t_5_1 : Sx) (x1 : Int32) : Option (Int32 × Sx × Sx) := bd (fX8_isFault z_t z_t_5 z_t_5_0 x1) (fun r2 => if r2 = 0 then some ((-1000000), z_t_5, z_t_5_1) else bd (fX0_gone z_t_5_1) (fun r5 => bd (fX8_has r5 x1) (fun r7 => if r7 = 0 then bd (fX8_bit x1) (fun r10 => bd (fX8_at 10 (gT z_t_5_0 14) x1) (fun r12 => some ((gI z_t_5 2) - r12, sI z_t_5 2 ((gI z_t_5 2) - r12), sI z_t_5_1 3 ((gI z_t_5_1 3) ||| r10)))) else some ((-1000000), z_t_5, z_t_5_1))))

set_option maxHeartbeats 4000000 in
set_option maxRecDepth 100000 in
theorem mX8_mend (l : Launch) (D : va_G) (a : Nat → ClassId) {q_t : Nat} {Q_t : Nat → Nat} {z_t : Sx} {Q_t_5 : Nat → Nat} {z_t_5 : Sx} {Q_t_5_0 : Nat → Nat} {z_t_5_0 : Sx} {Q_t_5_1 : Nat → Nat} {z_t_5_1 : Sx} {x1 : Int32} {y : Int32 × Sx × Sx} (h : fX8_mend z_t z_t_5 z_t_5_0 z_t_5_1 x1 = some y) (sz : Nat) : CMi (S := Unit) l MX8_mend 1 21 0 0 D a [.ref q_t, .int x1] (rc8 a q_t Q_t z_t ++ (rc5 a (Q_t 5) Q_t_5 z_t_5 ++ (rc7 a (Q_t_5 0) Q_t_5_0 z_t_5_0 ++ (rc0 a (Q_t_5 1) Q_t_5_1 z_t_5_1)))) sz (fun r _ => r = y.1) (fun _ => rc8 a q_t Q_t z_t ++ (rc5 a (Q_t 5) Q_t_5 y.2.1 ++ (rc7 a (Q_t_5 0) Q_t_5_0 z_t_5_0 ++ (rc0 a (Q_t_5 1) Q_t_5_1 y.2.2)))) := by
  unfold fX8_mend at h
  refine entMi (by decide) (Nat.le_of_ble_eq_true rfl) ?_
  intro p e s m below meth c C hK A hA hP hD ls hl
  obtain ⟨hx, hb, hml, hown, hts, hr, hlocks, hnm⟩ := id C
  have hb : c.code = cX8_mend := hb
  have hown : s.vm.findClass RX8 = some m.cls := hown
  have hS : va_S A s.heap s.heap [] := va_S.rf
  have hl : lv_has ls 2 [(0, .ref q_t), (1, .int x1)] := hl
  refine lv_aload_n hx hb dX8_mend_0 rfl (lv_at hl 0 rfl) ?_
  refine lv_iload_n hx hb dX8_mend_1 rfl (lv_at hl 1 rfl) ?_
  obtain ⟨r2, hc1, h⟩ := bd_some h
  refine cRi (runV (As := [.int x1]) (rest := []) C (mX8_isFault l D a hc1) lk_V_8_139 okN_X8_isFault ⟨Nat.le_of_ble_eq_true rfl, Nat.le_of_ble_eq_true rfl⟩ ⟨rfl, rfl⟩ (preV (preR hK (P_of_map (wc := rc8 a q_t Q_t z_t ++ (rc5 a (Q_t 5) Q_t_5 z_t_5 ++ (rc7 a (Q_t_5 0) Q_t_5_0 z_t_5_0))) hP [0, 1, 2, 3, 4, 5, 6, 7, 8, 9, 10, 11, 12, 13, 14, 15, 16, 17] rfl)) (recvOf hK hP 0 rfl (ci := 8) rfl)) hl.1 rfl (Nat.le_of_ble_eq_true rfl) dX8_mend_2 ⟨Nat.le_of_ble_eq_true rfl, Nat.le_of_ble_eq_true rfl⟩) ?_
  refine lv_if_eq (tgt := 25) hx hb dX8_mend_5 (by decide) (fun c3 => ?_) (fun c3 => ?_)
  · have h := ite_t c3 h
    refine lv_ldc hx hb hown (hts _ t_640) dX8_mend_25 ?_
    exact rMi C rfl h (g := fun y => rc8 a q_t Q_t z_t ++ (rc5 a (Q_t 5) Q_t_5 y.2.1 ++ (rc7 a (Q_t_5 0) Q_t_5_0 z_t_5_0 ++ (rc0 a (Q_t_5 1) Q_t_5_1 y.2.2)))) (pr := fun y => y.1) hP hD hS dX8_mend_27
  · have h := ite_f c3 h
    refine lv_aload_n hx hb dX8_mend_8 rfl (lv_at hl 0 rfl) ?_
    refine va_get (D := D) (v := .ref (Q_t 5)) (C := RX8) (T := TX8) (N := 11) hx hb hts iX8 hown hK.1 hP 0 rfl rfl 5 (by decide) (hts _ t_305) (fun _ h9 => h9) rfl dX8_mend_9 ?_
    refine va_get (D := D) (v := .ref (Q_t_5 1)) (C := RX5) (T := TX5) (N := 8) hx hb hts iX5 hown hK.1 hP 2 rfl rfl 1 (by decide) (hts _ t_163) (fun _ h9 => h9) rfl dX8_mend_12 ?_
    obtain ⟨r5, hc4, h⟩ := bd_some h
    refine cRi (runV (As := []) (rest := []) C (mX0_gone l D a hc4) lk_V_8_171 okN_X0_gone ⟨Nat.le_of_ble_eq_true rfl, Nat.le_of_ble_eq_true rfl⟩ ⟨rfl, rfl⟩ (preV (preR hK (P_of_map (wc := rc0 a (Q_t_5 1) Q_t_5_1 z_t_5_1) hP [18, 19] rfl)) (recvOf hK hP 18 rfl (ci := 0) rfl)) hl.1 rfl (Nat.le_of_ble_eq_true rfl) dX8_mend_15 ⟨Nat.le_of_ble_eq_true rfl, Nat.le_of_ble_eq_true rfl⟩) ?_
    refine lv_iload_n hx hb dX8_mend_18 rfl (lv_at hl 1 rfl) ?_
    obtain ⟨r7, hc6, h⟩ := bd_some h
    refine cRi (runS (As := [.int r5, .int x1]) (rest := []) C (mX8_has l D a hc6) lk_S_8_161 okN_X8_has ⟨Nat.le_of_ble_eq_true rfl, Nat.le_of_ble_eq_true rfl⟩ ⟨rfl, rfl⟩ (preR hK (P_of_map (wc := []) hP [] rfl)) hl.1 rfl (Nat.le_of_ble_eq_true rfl) dX8_mend_19 ⟨Nat.le_of_ble_eq_true rfl, Nat.le_of_ble_eq_true rfl⟩) ?_
    refine lv_if_eq (tgt := 28) hx hb dX8_mend_22 (by decide) (fun c8 => ?_) (fun c8 => ?_)
    · have h := ite_t c8 h
      refine lv_aload_n hx hb dX8_mend_28 rfl (lv_at hl 0 rfl) ?_
      refine va_get (D := D) (v := .ref (Q_t 5)) (C := RX8) (T := TX8) (N := 11) hx hb hts iX8 hown hK.1 hP 0 rfl rfl 5 (by decide) (hts _ t_305) (fun _ h9 => h9) rfl dX8_mend_29 ?_
      refine va_get (D := D) (v := .ref (Q_t_5 1)) (C := RX5) (T := TX5) (N := 8) hx hb hts iX5 hown hK.1 hP 2 rfl rfl 1 (by decide) (hts _ t_163) (fun _ h9 => h9) rfl dX8_mend_32 ?_
      refine lv_dup hx hb dX8_mend_35 rfl ?_
      refine va_get (D := D) (v := .int (gI z_t_5_1 3)) (C := RX0) (T := TX0) (N := 6) hx hb hts iX0 hown hK.1 hP 18 rfl rfl 3 (by decide) (hts _ t_141) (fun _ h9 => h9) rfl dX8_mend_36 ?_
      refine lv_iload_n hx hb dX8_mend_39 rfl (lv_at hl 1 rfl) ?_
      obtain ⟨r10, hc9, h⟩ := bd_some h
      refine cRi (runS (As := [.int x1]) (rest := [.int (gI z_t_5_1 3), .ref (Q_t_5 1)]) C (mX8_bit l D a hc9) lk_S_8_216 okN_X8_bit ⟨Nat.le_of_ble_eq_true rfl, Nat.le_of_ble_eq_true rfl⟩ ⟨rfl, rfl⟩ (preR hK (P_of_map (wc := []) hP [] rfl)) hl.1 rfl (Nat.le_of_ble_eq_true rfl) dX8_mend_40 ⟨Nat.le_of_ble_eq_true rfl, Nat.le_of_ble_eq_true rfl⟩) ?_
      refine lv_ior hx hb dX8_mend_43 ?_
      refine va_put (D := D) (v := .int ((gI z_t_5_1 3) ||| r10)) (C := RX0) (T := TX0) (N := 6) hx hb hts iX0 tyX0 tyX0_ok nmX0 hown hK.1 hP hD hS 18 rfl rfl 3 (by decide) (hts _ t_141) (fun _ h9 => h9) rfl (tyX0_ok 3 (by decide)) rfl rfl (Nat.le_of_ble_eq_true rfl) dX8_mend_44 (fun H locs hP hD hS => ?_)
      have hP : va_P D classes (rc8 a q_t Q_t z_t ++ (rc5 a (Q_t 5) Q_t_5 z_t_5 ++ (rc7 a (Q_t_5 0) Q_t_5_0 z_t_5_0 ++ (rc0 a (Q_t_5 1) Q_t_5_1 (sI z_t_5_1 3 ((gI z_t_5_1 3) ||| r10)))))) H := hP
      have hD : va_D A (rc8 a q_t Q_t z_t ++ (rc5 a (Q_t 5) Q_t_5 z_t_5 ++ (rc7 a (Q_t_5 0) Q_t_5_0 z_t_5_0 ++ (rc0 a (Q_t_5 1) Q_t_5_1 (sI z_t_5_1 3 ((gI z_t_5_1 3) ||| r10)))))) := hD
      refine lv_aload_n hx hb dX8_mend_47 rfl (lv_at hl 0 rfl) ?_
      refine va_get (D := D) (v := .ref (Q_t 5)) (C := RX8) (T := TX8) (N := 11) hx hb hts iX8 hown hK.1 hP 0 rfl rfl 5 (by decide) (hts _ t_305) (fun _ h9 => h9) rfl dX8_mend_48 ?_
      refine lv_dup hx hb dX8_mend_51 rfl ?_
      refine va_get (D := D) (v := .int (gI z_t_5 2)) (C := RX5) (T := TX5) (N := 8) hx hb hts iX5 hown hK.1 hP 2 rfl rfl 2 (by decide) (hts _ t_165) (fun _ h9 => h9) rfl dX8_mend_52 ?_
      refine lv_aload_n hx hb dX8_mend_55 rfl (lv_at hl 0 rfl) ?_
      refine va_get (D := D) (v := .ref (Q_t 5)) (C := RX8) (T := TX8) (N := 11) hx hb hts iX8 hown hK.1 hP 0 rfl rfl 5 (by decide) (hts _ t_305) (fun _ h9 => h9) rfl dX8_mend_56 ?_
      refine va_get (D := D) (v := .ref (Q_t_5 0)) (C := RX5) (T := TX5) (N := 8) hx hb hts iX5 hown hK.1 hP 2 rfl rfl 0 (by decide) (hts _ t_161) (fun _ h9 => h9) rfl dX8_mend_59 ?_
      refine va_get (D := D) (v := .ref (Q_t_5_0 14)) (C := RX7) (T := TX7) (N := 18) hx hb hts iX7 hown hK.1 hP 5 rfl rfl 14 (by decide) (hts _ t_77) (fun _ h9 => h9) rfl dX8_mend_62 ?_
      refine lv_iload_n hx hb dX8_mend_65 rfl (lv_at hl 1 rfl) ?_
      obtain ⟨r12, hc11, h⟩ := bd_some h
      refine cRi (runS (As := [.ref (Q_t_5_0 14), .int x1]) (rest := [.int (gI z_t_5 2), .ref (Q_t 5)]) C (mX8_at l D a hc11) lk_S_8_129 okN_X8_at ⟨Nat.le_of_ble_eq_true rfl, Nat.le_of_ble_eq_true rfl⟩ ⟨rfl, rfl⟩ (preR hK (P_of_map (wc := ra0 a (Q_t_5_0 14) 10 (gT z_t_5_0 14)) hP [15] rfl)) hl.1 rfl (Nat.le_of_ble_eq_true rfl) dX8_mend_66 ⟨Nat.le_of_ble_eq_true rfl, Nat.le_of_ble_eq_true rfl⟩) ?_
      refine lv_isub hx hb dX8_mend_69 ?_
      refine va_put (D := D) (v := .int ((gI z_t_5 2) - r12)) (C := RX5) (T := TX5) (N := 8) hx hb hts iX5 tyX5 tyX5_ok nmX5 hown hK.1 hP hD hS 2 rfl rfl 2 (by decide) (hts _ t_165) (fun _ h9 => h9) rfl (tyX5_ok 2 (by decide)) rfl rfl (Nat.le_of_ble_eq_true rfl) dX8_mend_70 (fun H locs hP hD hS => ?_)
      have hP : va_P D classes (rc8 a q_t Q_t z_t ++ (rc5 a (Q_t 5) Q_t_5 (sI z_t_5 2 ((gI z_t_5 2) - r12)) ++ (rc7 a (Q_t_5 0) Q_t_5_0 z_t_5_0 ++ (rc0 a (Q_t_5 1) Q_t_5_1 (sI z_t_5_1 3 ((gI z_t_5_1 3) ||| r10)))))) H := hP
      have hD : va_D A (rc8 a q_t Q_t z_t ++ (rc5 a (Q_t 5) Q_t_5 (sI z_t_5 2 ((gI z_t_5 2) - r12)) ++ (rc7 a (Q_t_5 0) Q_t_5_0 z_t_5_0 ++ (rc0 a (Q_t_5 1) Q_t_5_1 (sI z_t_5_1 3 ((gI z_t_5_1 3) ||| r10)))))) := hD
      refine lv_aload_n hx hb dX8_mend_73 rfl (lv_at hl 0 rfl) ?_
      refine va_get (D := D) (v := .ref (Q_t 5)) (C := RX8) (T := TX8) (N := 11) hx hb hts iX8 hown hK.1 hP 0 rfl rfl 5 (by decide) (hts _ t_305) (fun _ h9 => h9) rfl dX8_mend_74 ?_
      refine va_get (D := D) (v := .int ((gI z_t_5 2) - r12)) (C := RX5) (T := TX5) (N := 8) hx hb hts iX5 hown hK.1 hP 2 rfl rfl 2 (by decide) (hts _ t_165) (fun _ h9 => h9) rfl dX8_mend_77 ?_
      exact rMi C rfl h (g := fun y => rc8 a q_t Q_t z_t ++ (rc5 a (Q_t 5) Q_t_5 y.2.1 ++ (rc7 a (Q_t_5 0) Q_t_5_0 z_t_5_0 ++ (rc0 a (Q_t_5 1) Q_t_5_1 y.2.2)))) (pr := fun y => y.1) hP hD hS dX8_mend_80
    · have h := ite_f c8 h
      refine lv_ldc hx hb hown (hts _ t_640) dX8_mend_25 ?_
      exact rMi C rfl h (g := fun y => rc8 a q_t Q_t z_t ++ (rc5 a (Q_t 5) Q_t_5 y.2.1 ++ (rc7 a (Q_t_5 0) Q_t_5_0 z_t_5_0 ++ (rc0 a (Q_t_5 1) Q_t_5_1 y.2.2)))) (pr := fun y => y.1) hP hD hS dX8_mend_27

def lX8_rests_4 (z_t : Sx) (z_t_5 : Sx) : Nat → Int32 → Int32 → Option (Int32)
  | 0, _, _ => none
  | n + 1, x1, x2 => if 4 ≤ x2 then some x1 else bd (fX8_at 8 (gT z_t_5 7) x2) (fun r3 => bd (fX8_at 8 (gT z_t_5 7) (x2 ^^^ 2)) (fun r5 => jn (fun (i7 : Int32) => bd (fX8_at 8 (gT z_t_5 7) (4 + x2)) (fun r9 => bd (fX8_at 8 (gT z_t_5 7) (4 + (x2 ^^^ 1))) (fun r11 => jn (fun (i13 : Int32) => jn (fun (i15 : Int32) => lX8_rests_4 z_t z_t_5 n i15 (x2 + 1)) (fun J14 => if i7 = 0 then J14 x1 else if i13 = 0 then J14 x1 else J14 (x1 ||| ((1 : Int32) <<< (x2 &&& 31))))) (fun J12 => if r9 < r11 then J12 0 else J12 1)))) (fun J6 => if r3 < r5 then J6 0 else J6 1)))
def fX8_rests (z_t : Sx) (z_t_5 : Sx) : Option (Int32) := lX8_rests_4 z_t z_t_5 FU 0 0

set_option maxHeartbeats 4000000 in
set_option maxRecDepth 100000 in
theorem wX8_rests_4 {p : Program} {l : Launch} {e : Env} {s : State} {m : MethodId} {below : List Frame} {meth : Method} {c : Code} {D : va_G} {a : Nat → ClassId} {q_t : Nat} {Q_t : Nat → Nat} {Q_t_5 : Nat → Nat} {z_t : Sx} {z_t_5 : Sx} (C : Cx p s m #[.ref q_t] meth c MX8_rests) (hK : KK D a s) {y : Int32} (hP : va_P D classes (rc8 a q_t Q_t z_t ++ (rc5 a (Q_t 5) Q_t_5 z_t_5)) s.heap) : ∀ (n : Nat) (x1 : Int32) (x2 : Int32) (ls : Array Slot), lX8_rests_4 z_t z_t_5 n x1 x2 = some y → lv_has ls 5 [(0, .ref q_t), (1, .int x1), (2, .int x2)] → W p l e (rmM 1 0 0 21) s m #[.ref q_t] below meth c s.heap [] 0 0 (MQ below (vp_Si (fun r => r = y)) #[.ref q_t] s 0 0 (fun _ => False)) (F0 m 4 ls []) := by
  obtain ⟨hx, hb, hml, hown, hts, hr, hlocks, hnm⟩ := id C
  have hb : c.code = cX8_rests := hb
  have hown : s.vm.findClass RX8 = some m.cls := hown
  intro n
  induction n with
  | zero => intro x1 x2 ls h; rw [lX8_rests_4] at h; cases h
  | succ n ih =>
    intro x1 x2 ls h hl
    rw [lX8_rests_4] at h
    refine lv_iload_n hx hb dX8_rests_4 rfl (lv_at hl 2 rfl) ?_
    refine lv_iconst (v := 4) hx hb dX8_rests_5 (by decide) ?_
    refine lv_icmp_ge (tgt := 101) hx hb dX8_rests_6 (by decide) (fun c1 => ?_) (fun c1 => ?_)
    · have h := ite_t c1 h
      refine lv_iload_n hx hb dX8_rests_101 rfl (lv_at hl 1 rfl) ?_
      exact rRi C rfl (Option.some.inj h) dX8_rests_102
    · have h := ite_f c1 h
      refine lv_aload_n hx hb dX8_rests_9 rfl (lv_at hl 0 rfl) ?_
      refine va_get (D := D) (v := .ref (Q_t 5)) (C := RX8) (T := TX8) (N := 11) hx hb hts iX8 hown hK.1 hP 0 rfl rfl 5 (by decide) (hts _ t_305) (fun _ h9 => h9) rfl dX8_rests_10 ?_
      refine va_get (D := D) (v := .ref (Q_t_5 7)) (C := RX5) (T := TX5) (N := 8) hx hb hts iX5 hown hK.1 hP 2 rfl rfl 7 (by decide) (hts _ t_175) (fun _ h9 => h9) rfl dX8_rests_13 ?_
      refine lv_iload_n hx hb dX8_rests_16 rfl (lv_at hl 2 rfl) ?_
      obtain ⟨r3, hc2, h⟩ := bd_some h
      refine cRi (runS (As := [.ref (Q_t_5 7), .int x2]) (rest := []) C (mX8_at l D a hc2) lk_S_8_129 okN_X8_at ⟨Nat.le_of_ble_eq_true rfl, Nat.le_of_ble_eq_true rfl⟩ ⟨rfl, rfl⟩ (preR hK (P_of_map (wc := ra0 a (Q_t_5 7) 8 (gT z_t_5 7)) hP [4] rfl)) hl.1 rfl (Nat.le_of_ble_eq_true rfl) dX8_rests_17 ⟨Nat.le_of_ble_eq_true rfl, Nat.le_of_ble_eq_true rfl⟩) ?_
      refine lv_aload_n hx hb dX8_rests_20 rfl (lv_at hl 0 rfl) ?_
      refine va_get (D := D) (v := .ref (Q_t 5)) (C := RX8) (T := TX8) (N := 11) hx hb hts iX8 hown hK.1 hP 0 rfl rfl 5 (by decide) (hts _ t_305) (fun _ h9 => h9) rfl dX8_rests_21 ?_
      refine va_get (D := D) (v := .ref (Q_t_5 7)) (C := RX5) (T := TX5) (N := 8) hx hb hts iX5 hown hK.1 hP 2 rfl rfl 7 (by decide) (hts _ t_175) (fun _ h9 => h9) rfl dX8_rests_24 ?_
      refine lv_iload_n hx hb dX8_rests_27 rfl (lv_at hl 2 rfl) ?_
      refine lv_iconst (v := 2) hx hb dX8_rests_28 (by decide) ?_
      refine lv_ixor hx hb dX8_rests_29 ?_
      obtain ⟨r5, hc4, h⟩ := bd_some h
      refine cRi (runS (As := [.ref (Q_t_5 7), .int (x2 ^^^ 2)]) (rest := [.int r3]) C (mX8_at l D a hc4) lk_S_8_129 okN_X8_at ⟨Nat.le_of_ble_eq_true rfl, Nat.le_of_ble_eq_true rfl⟩ ⟨rfl, rfl⟩ (preR hK (P_of_map (wc := ra0 a (Q_t_5 7) 8 (gT z_t_5 7)) hP [4] rfl)) hl.1 rfl (Nat.le_of_ble_eq_true rfl) dX8_rests_30 ⟨Nat.le_of_ble_eq_true rfl, Nat.le_of_ble_eq_true rfl⟩) ?_
      obtain ⟨J6, eJ6, h⟩ := jn_some h
      have hJ6 : ∀ (i7 : Int32) (ls : Array Slot), J6 i7 = some y → lv_has ls 5 [(0, .ref q_t), (1, .int x1), (2, .int x2)] → W p l e (rmM 1 0 0 21) s m #[.ref q_t] below meth c s.heap [] 0 0 (MQ below (vp_Si (fun r => r = y)) #[.ref q_t] s 0 0 (fun _ => False)) (F0 m 41 ls [.int i7]) := by
        intro i7 ls h hl
        rw [eJ6] at h
        refine lv_istore_n (lv' := [(3, .int i7), (0, .ref q_t), (1, .int x1), (2, .int x2)]) hx hb dX8_rests_41 rfl hl (by decide) rfl (fun ls hl => ?_)
        refine lv_aload_n hx hb dX8_rests_42 rfl (lv_at hl 1 rfl) ?_
        refine va_get (D := D) (v := .ref (Q_t 5)) (C := RX8) (T := TX8) (N := 11) hx hb hts iX8 hown hK.1 hP 0 rfl rfl 5 (by decide) (hts _ t_305) (fun _ h9 => h9) rfl dX8_rests_43 ?_
        refine va_get (D := D) (v := .ref (Q_t_5 7)) (C := RX5) (T := TX5) (N := 8) hx hb hts iX5 hown hK.1 hP 2 rfl rfl 7 (by decide) (hts _ t_175) (fun _ h9 => h9) rfl dX8_rests_46 ?_
        refine lv_iconst (v := 4) hx hb dX8_rests_49 (by decide) ?_
        refine lv_iload_n hx hb dX8_rests_50 rfl (lv_at hl 3 rfl) ?_
        refine lv_iadd hx hb dX8_rests_51 ?_
        obtain ⟨r9, hc8, h⟩ := bd_some h
        refine cRi (runS (As := [.ref (Q_t_5 7), .int (4 + x2)]) (rest := []) C (mX8_at l D a hc8) lk_S_8_129 okN_X8_at ⟨Nat.le_of_ble_eq_true rfl, Nat.le_of_ble_eq_true rfl⟩ ⟨rfl, rfl⟩ (preR hK (P_of_map (wc := ra0 a (Q_t_5 7) 8 (gT z_t_5 7)) hP [4] rfl)) hl.1 rfl (Nat.le_of_ble_eq_true rfl) dX8_rests_52 ⟨Nat.le_of_ble_eq_true rfl, Nat.le_of_ble_eq_true rfl⟩) ?_
        refine lv_aload_n hx hb dX8_rests_55 rfl (lv_at hl 1 rfl) ?_
        refine va_get (D := D) (v := .ref (Q_t 5)) (C := RX8) (T := TX8) (N := 11) hx hb hts iX8 hown hK.1 hP 0 rfl rfl 5 (by decide) (hts _ t_305) (fun _ h9 => h9) rfl dX8_rests_56 ?_
        refine va_get (D := D) (v := .ref (Q_t_5 7)) (C := RX5) (T := TX5) (N := 8) hx hb hts iX5 hown hK.1 hP 2 rfl rfl 7 (by decide) (hts _ t_175) (fun _ h9 => h9) rfl dX8_rests_59 ?_
        refine lv_iconst (v := 4) hx hb dX8_rests_62 (by decide) ?_
        refine lv_iload_n hx hb dX8_rests_63 rfl (lv_at hl 3 rfl) ?_
        refine lv_iconst (v := 1) hx hb dX8_rests_64 (by decide) ?_
        refine lv_ixor hx hb dX8_rests_65 ?_
        refine lv_iadd hx hb dX8_rests_66 ?_
        obtain ⟨r11, hc10, h⟩ := bd_some h
        refine cRi (runS (As := [.ref (Q_t_5 7), .int (4 + (x2 ^^^ 1))]) (rest := [.int r9]) C (mX8_at l D a hc10) lk_S_8_129 okN_X8_at ⟨Nat.le_of_ble_eq_true rfl, Nat.le_of_ble_eq_true rfl⟩ ⟨rfl, rfl⟩ (preR hK (P_of_map (wc := ra0 a (Q_t_5 7) 8 (gT z_t_5 7)) hP [4] rfl)) hl.1 rfl (Nat.le_of_ble_eq_true rfl) dX8_rests_67 ⟨Nat.le_of_ble_eq_true rfl, Nat.le_of_ble_eq_true rfl⟩) ?_
        obtain ⟨J12, eJ12, h⟩ := jn_some h
        have hJ12 : ∀ (i13 : Int32) (ls : Array Slot), J12 i13 = some y → lv_has ls 5 [(0, .ref q_t), (1, .int x1), (2, .int x2), (3, .int i7)] → W p l e (rmM 1 0 0 21) s m #[.ref q_t] below meth c s.heap [] 0 0 (MQ below (vp_Si (fun r => r = y)) #[.ref q_t] s 0 0 (fun _ => False)) (F0 m 78 ls [.int i13]) := by
          intro i13 ls h hl
          rw [eJ12] at h
          refine lv_istore (lv' := [(4, .int i13), (0, .ref q_t), (1, .int x1), (2, .int x2), (3, .int i7)]) hx hb dX8_rests_78 hl (by decide) rfl (fun ls hl => ?_)
          refine lv_iload_n hx hb dX8_rests_80 rfl (lv_at hl 4 rfl) ?_
          obtain ⟨J14, eJ14, h⟩ := jn_some h
          have hJ14 : ∀ (i15 : Int32) (ls : Array Slot), J14 i15 = some y → lv_has ls 5 [(0, .ref q_t), (1, .int i15), (2, .int x2)] → W p l e (rmM 1 0 0 21) s m #[.ref q_t] below meth c s.heap [] 0 0 (MQ below (vp_Si (fun r => r = y)) #[.ref q_t] s 0 0 (fun _ => False)) (F0 m 95 ls []) := by
            intro i15 ls h hl
            rw [eJ14] at h
            refine lv_iinc (v := x2 + 1) (lv' := [(2, .int (x2 + 1)), (0, .ref q_t), (1, .int i15)]) hx hb dX8_rests_95 hl (k := 2) rfl rfl (by decide) rfl (fun ls hl => ?_)
            refine lv_goto (tgt := 4) hx hb dX8_rests_98 (by decide) ?_
            exact ih i15 (x2 + 1) ls h (lv_sub hl [1, 2, 0] rfl)
          refine lv_if_eq (tgt := 95) hx hb dX8_rests_81 (by decide) (fun c16 => ?_) (fun c16 => ?_)
          · have h := ite_t c16 h
            exact hJ14 x1 ls h (lv_sub hl [1, 2, 3] rfl)
          · have h := ite_f c16 h
            refine lv_iload hx hb dX8_rests_84 (lv_at hl 0 rfl) ?_
            refine lv_if_eq (tgt := 95) hx hb dX8_rests_86 (by decide) (fun c17 => ?_) (fun c17 => ?_)
            · have h := ite_t c17 h
              exact hJ14 x1 ls h (lv_sub hl [1, 2, 3] rfl)
            · have h := ite_f c17 h
              refine lv_iload_n hx hb dX8_rests_89 rfl (lv_at hl 2 rfl) ?_
              refine lv_iconst (v := 1) hx hb dX8_rests_90 (by decide) ?_
              refine lv_iload_n hx hb dX8_rests_91 rfl (lv_at hl 3 rfl) ?_
              refine lv_ishl hx hb dX8_rests_92 ?_
              refine lv_ior hx hb dX8_rests_93 ?_
              refine lv_istore_n (lv' := [(1, .int (x1 ||| ((1 : Int32) <<< (x2 &&& 31)))), (4, .int i13), (0, .ref q_t), (2, .int x2), (3, .int i7)]) hx hb dX8_rests_94 rfl hl (by decide) rfl (fun ls hl => ?_)
              exact hJ14 (x1 ||| ((1 : Int32) <<< (x2 &&& 31))) ls h (lv_sub hl [2, 0, 3] rfl)
        refine lv_icmp_lt (tgt := 77) hx hb dX8_rests_70 (by decide) (fun c18 => ?_) (fun c18 => ?_)
        · have h := ite_t c18 h
          refine lv_iconst (v := 0) hx hb dX8_rests_77 (by decide) ?_
          exact hJ12 0 ls h (lv_sub hl [1, 2, 3, 0] rfl)
        · have h := ite_f c18 h
          refine lv_iconst (v := 1) hx hb dX8_rests_73 (by decide) ?_
          refine lv_goto (tgt := 78) hx hb dX8_rests_74 (by decide) ?_
          exact hJ12 1 ls h (lv_sub hl [1, 2, 3, 0] rfl)
      refine lv_icmp_lt (tgt := 40) hx hb dX8_rests_33 (by decide) (fun c19 => ?_) (fun c19 => ?_)
      · have h := ite_t c19 h
        refine lv_iconst (v := 0) hx hb dX8_rests_40 (by decide) ?_
        exact hJ6 0 ls h (lv_sub hl [0, 1, 2] rfl)
      · have h := ite_f c19 h
        refine lv_iconst (v := 1) hx hb dX8_rests_36 (by decide) ?_
        refine lv_goto (tgt := 41) hx hb dX8_rests_37 (by decide) ?_
        exact hJ6 1 ls h (lv_sub hl [0, 1, 2] rfl)

set_option maxHeartbeats 4000000 in
set_option maxRecDepth 100000 in
theorem mX8_rests (l : Launch) (D : va_G) (a : Nat → ClassId) {q_t : Nat} {Q_t : Nat → Nat} {z_t : Sx} {Q_t_5 : Nat → Nat} {z_t_5 : Sx} {y : Int32} (h : fX8_rests z_t z_t_5 = some y) : CRi l MX8_rests 1 21 D a [.ref q_t] (rc8 a q_t Q_t z_t ++ (rc5 a (Q_t 5) Q_t_5 z_t_5)) (fun r => r = y) := by
  unfold fX8_rests at h
  refine entR (by decide) (Nat.le_of_ble_eq_true rfl) ?_
  intro p e s m below meth c C hK hP ls hl
  obtain ⟨hx, hb, hml, hown, hts, hr, hlocks, hnm⟩ := id C
  have hb : c.code = cX8_rests := hb
  have hown : s.vm.findClass RX8 = some m.cls := hown
  have hl : lv_has ls 5 [(0, .ref q_t)] := hl
  refine lv_iconst (v := 0) hx hb dX8_rests_0 (by decide) ?_
  refine lv_istore_n (lv' := [(1, .int 0), (0, .ref q_t)]) hx hb dX8_rests_1 rfl hl (by decide) rfl (fun ls hl => ?_)
  refine lv_iconst (v := 0) hx hb dX8_rests_2 (by decide) ?_
  refine lv_istore_n (lv' := [(2, .int 0), (1, .int 0), (0, .ref q_t)]) hx hb dX8_rests_3 rfl hl (by decide) rfl (fun ls hl => ?_)
  refine wX8_rests_4 C hK hP FU 0 0 ls h (lv_sub hl [2, 1, 0] rfl)

def fX8_mixed (z_t : Sx) (z_t_5 : Sx) (x1 : Int32) (x2 : Int32) : Option (Int32) := if x1 < 0 then some (-1) else if 1 < x1 then some (-1) else if x2 < 0 then some (-1) else if x2 ≤ 1 then bd (fX8_rests z_t z_t_5) (fun r6 => if r6 = 0 then jn (fun (i9 : Int32) => jn (fun (i11 : Int32) => jn (fun (i13 : Int32) => bd (fX8_partOf i13.toInt64 ((abI (i9 + i11)).toInt64) x2) (fun r15 => some r15.toInt32)) (fun J12 => if 0 ≤ (i9 + i11) then J12 i11 else J12 (-i11))) (fun J10 => if x1 = 0 then bd (fX8_at 8 (gT z_t_5 7) 7) (fun r23 => bd (fX8_at 8 (gT z_t_5 7) 6) (fun r25 => J10 (r23 - r25))) else bd (fX8_at 8 (gT z_t_5 7) 3) (fun r19 => bd (fX8_at 8 (gT z_t_5 7) 1) (fun r21 => J10 (r19 - r21))))) (fun J8 => if x1 = 0 then bd (fX8_at 8 (gT z_t_5 7) 4) (fun r32 => bd (fX8_at 8 (gT z_t_5 7) 5) (fun r34 => J8 (r32 - r34))) else bd (fX8_at 8 (gT z_t_5 7) 0) (fun r28 => bd (fX8_at 8 (gT z_t_5 7) 2) (fun r30 => J8 (r28 - r30)))) else some (-2)) else some (-1)

set_option maxHeartbeats 4000000 in
set_option maxRecDepth 100000 in
theorem mX8_mixed (l : Launch) (D : va_G) (a : Nat → ClassId) {q_t : Nat} {Q_t : Nat → Nat} {z_t : Sx} {Q_t_5 : Nat → Nat} {z_t_5 : Sx} {x1 : Int32} {x2 : Int32} {y : Int32} (h : fX8_mixed z_t z_t_5 x1 x2 = some y) : CRi l MX8_mixed 2 61 D a [.ref q_t, .int x1, .int x2] (rc8 a q_t Q_t z_t ++ (rc5 a (Q_t 5) Q_t_5 z_t_5)) (fun r => r = y) := by
  unfold fX8_mixed at h
  refine entR (by decide) (Nat.le_of_ble_eq_true rfl) ?_
  intro p e s m below meth c C hK hP ls hl
  obtain ⟨hx, hb, hml, hown, hts, hr, hlocks, hnm⟩ := id C
  have hb : c.code = cX8_mixed := hb
  have hown : s.vm.findClass RX8 = some m.cls := hown
  have hl : lv_has ls 7 [(0, .ref q_t), (1, .int x1), (2, .int x2)] := hl
  refine lv_iload_n hx hb dX8_mixed_0 rfl (lv_at hl 1 rfl) ?_
  refine lv_if_lt (tgt := 18) hx hb dX8_mixed_1 (by decide) (fun c1 => ?_) (fun c1 => ?_)
  · have h := ite_t c1 h
    refine lv_iconst (v := (-1)) hx hb dX8_mixed_18 (by decide) ?_
    exact rRi C rfl (Option.some.inj h) dX8_mixed_19
  · have h := ite_f c1 h
    refine lv_iload_n hx hb dX8_mixed_4 rfl (lv_at hl 1 rfl) ?_
    refine lv_iconst (v := 1) hx hb dX8_mixed_5 (by decide) ?_
    refine lv_icmp_gt (tgt := 18) hx hb dX8_mixed_6 (by decide) (fun c2 => ?_) (fun c2 => ?_)
    · have h := ite_t c2 h
      refine lv_iconst (v := (-1)) hx hb dX8_mixed_18 (by decide) ?_
      exact rRi C rfl (Option.some.inj h) dX8_mixed_19
    · have h := ite_f c2 h
      refine lv_iload_n hx hb dX8_mixed_9 rfl (lv_at hl 2 rfl) ?_
      refine lv_if_lt (tgt := 18) hx hb dX8_mixed_10 (by decide) (fun c3 => ?_) (fun c3 => ?_)
      · have h := ite_t c3 h
        refine lv_iconst (v := (-1)) hx hb dX8_mixed_18 (by decide) ?_
        exact rRi C rfl (Option.some.inj h) dX8_mixed_19
      · have h := ite_f c3 h
        refine lv_iload_n hx hb dX8_mixed_13 rfl (lv_at hl 2 rfl) ?_
        refine lv_iconst (v := 1) hx hb dX8_mixed_14 (by decide) ?_
        refine lv_icmp_le (tgt := 20) hx hb dX8_mixed_15 (by decide) (fun c4 => ?_) (fun c4 => ?_)
        · have h := ite_t c4 h
          refine lv_aload_n hx hb dX8_mixed_20 rfl (lv_at hl 0 rfl) ?_
          obtain ⟨r6, hc5, h⟩ := bd_some h
          refine cRi (runV (As := []) (rest := []) C (mX8_rests l D a hc5) lk_V_8_286 okN_X8_rests ⟨Nat.le_of_ble_eq_true rfl, Nat.le_of_ble_eq_true rfl⟩ ⟨rfl, rfl⟩ (preV (preR hK hP) (recvOf hK hP 0 rfl (ci := 8) rfl)) hl.1 rfl (Nat.le_of_ble_eq_true rfl) dX8_mixed_21 ⟨Nat.le_of_ble_eq_true rfl, Nat.le_of_ble_eq_true rfl⟩) ?_
          refine lv_if_eq (tgt := 30) hx hb dX8_mixed_24 (by decide) (fun c7 => ?_) (fun c7 => ?_)
          · have h := ite_t c7 h
            refine lv_aload_n hx hb dX8_mixed_30 rfl (lv_at hl 0 rfl) ?_
            refine va_get (D := D) (v := .ref (Q_t 5)) (C := RX8) (T := TX8) (N := 11) hx hb hts iX8 hown hK.1 hP 0 rfl rfl 5 (by decide) (hts _ t_305) (fun _ h9 => h9) rfl dX8_mixed_31 ?_
            refine va_get (D := D) (v := .ref (Q_t_5 7)) (C := RX5) (T := TX5) (N := 8) hx hb hts iX5 hown hK.1 hP 2 rfl rfl 7 (by decide) (hts _ t_175) (fun _ h9 => h9) rfl dX8_mixed_34 ?_
            refine lv_astore_n (lv' := [(3, .ref (Q_t_5 7)), (0, .ref q_t), (1, .int x1), (2, .int x2)]) hx hb dX8_mixed_37 rfl hl (by decide) rfl (fun ls hl => ?_)
            refine lv_iload_n hx hb dX8_mixed_38 rfl (lv_at hl 2 rfl) ?_
            obtain ⟨J8, eJ8, h⟩ := jn_some h
            have hJ8 : ∀ (i9 : Int32) (ls : Array Slot), J8 i9 = some y → lv_has ls 7 [(1, .int x1), (2, .int x2), (3, .ref (Q_t_5 7))] → W p l e (rmM 2 0 0 61) s m #[.ref q_t, .int x1, .int x2] below meth c s.heap [] 0 0 (MQ below (vp_Si (fun r => r = y)) #[.ref q_t, .int x1, .int x2] s 0 0 (fun _ => False)) (F0 m 67 ls [.int i9]) := by
              intro i9 ls h hl
              rw [eJ8] at h
              refine lv_istore (lv' := [(4, .int i9), (1, .int x1), (2, .int x2), (3, .ref (Q_t_5 7))]) hx hb dX8_mixed_67 hl (by decide) rfl (fun ls hl => ?_)
              refine lv_iload_n hx hb dX8_mixed_69 rfl (lv_at hl 1 rfl) ?_
              obtain ⟨J10, eJ10, h⟩ := jn_some h
              have hJ10 : ∀ (i11 : Int32) (ls : Array Slot), J10 i11 = some y → lv_has ls 7 [(2, .int x2), (4, .int i9)] → W p l e (rmM 2 0 0 61) s m #[.ref q_t, .int x1, .int x2] below meth c s.heap [] 0 0 (MQ below (vp_Si (fun r => r = y)) #[.ref q_t, .int x1, .int x2] s 0 0 (fun _ => False)) (F0 m 100 ls [.int i11]) := by
                intro i11 ls h hl
                rw [eJ10] at h
                refine lv_istore (lv' := [(5, .int i11), (2, .int x2), (4, .int i9)]) hx hb dX8_mixed_100 hl (by decide) rfl (fun ls hl => ?_)
                refine lv_iload hx hb dX8_mixed_102 (lv_at hl 2 rfl) ?_
                refine lv_iload hx hb dX8_mixed_104 (lv_at hl 0 rfl) ?_
                refine lv_iadd hx hb dX8_mixed_106 ?_
                obtain ⟨J12, eJ12, h⟩ := jn_some h
                have hJ12 : ∀ (i13 : Int32) (ls : Array Slot), J12 i13 = some y → lv_has ls 7 [(2, .int x2), (4, .int i9), (5, .int i11)] → W p l e (rmM 2 0 0 61) s m #[.ref q_t, .int x1, .int x2] below meth c s.heap [] 0 0 (MQ below (vp_Si (fun r => r = y)) #[.ref q_t, .int x1, .int x2] s 0 0 (fun _ => False)) (F0 m 118 ls [.int i13]) := by
                  intro i13 ls h hl
                  rw [eJ12] at h
                  refine lv_istore (lv' := [(6, .int i13), (2, .int x2), (4, .int i9), (5, .int i11)]) hx hb dX8_mixed_118 hl (by decide) rfl (fun ls hl => ?_)
                  refine lv_iload hx hb dX8_mixed_120 (lv_at hl 0 rfl) ?_
                  refine lv_i2l (v := i13.toInt64) hx hb dX8_mixed_122 rfl ?_
                  refine lv_iload hx hb dX8_mixed_123 (lv_at hl 2 rfl) ?_
                  refine lv_iload hx hb dX8_mixed_125 (lv_at hl 3 rfl) ?_
                  refine lv_iadd hx hb dX8_mixed_127 ?_
                  refine va_mabs hx hb (by rw [hml]; exact hl.1.symm) hown (hts _ t_843) (hts _ t_844) (hts _ t_14) (hts _ t_845) (Nat.le_of_ble_eq_true rfl) (Nat.le_of_ble_eq_true rfl) (Nat.le_of_ble_eq_true rfl) (Nat.le_of_ble_eq_true rfl) dX8_mixed_128 ?_
                  refine lv_i2l (v := (abI (i9 + i11)).toInt64) hx hb dX8_mixed_131 rfl ?_
                  refine lv_iload_n hx hb dX8_mixed_132 rfl (lv_at hl 1 rfl) ?_
                  obtain ⟨r15, hc14, h⟩ := bd_some h
                  refine cRl (runS (As := [.long i13.toInt64, .long ((abI (i9 + i11)).toInt64), .int x2]) (rest := []) C (mX8_partOf l D a hc14) lk_S_8_253 okN_X8_partOf ⟨Nat.le_of_ble_eq_true rfl, Nat.le_of_ble_eq_true rfl⟩ ⟨rfl, rfl⟩ (preR hK (P_of_map (wc := []) hP [] rfl)) hl.1 rfl (Nat.le_of_ble_eq_true rfl) dX8_mixed_133 ⟨Nat.le_of_ble_eq_true rfl, Nat.le_of_ble_eq_true rfl⟩) ?_
                  refine lv_l2i (v := r15.toInt32) hx hb dX8_mixed_136 rfl ?_
                  exact rRi C rfl (Option.some.inj h) dX8_mixed_137
                refine lv_if_ge (tgt := 116) hx hb dX8_mixed_107 (by decide) (fun c16 => ?_) (fun c16 => ?_)
                · have h := ite_t c16 h
                  refine lv_iload hx hb dX8_mixed_116 (lv_at hl 0 rfl) ?_
                  exact hJ12 i11 ls h (lv_sub hl [1, 2, 0] rfl)
                · have h := ite_f c16 h
                  refine lv_iload hx hb dX8_mixed_110 (lv_at hl 0 rfl) ?_
                  refine lv_ineg hx hb dX8_mixed_112 ?_
                  refine lv_goto (tgt := 118) hx hb dX8_mixed_113 (by decide) ?_
                  exact hJ12 (-i11) ls h (lv_sub hl [1, 2, 0] rfl)
              refine lv_if_ne (tgt := 89) hx hb dX8_mixed_70 (by decide) (fun c17 => ?_) (fun c17 => ?_)
              · have h := ite_f c17 h
                refine lv_aload_n hx hb dX8_mixed_89 rfl (lv_at hl 3 rfl) ?_
                refine lv_iconst (v := 3) hx hb dX8_mixed_90 (by decide) ?_
                obtain ⟨r19, hc18, h⟩ := bd_some h
                refine cRi (runS (As := [.ref (Q_t_5 7), .int 3]) (rest := []) C (mX8_at l D a hc18) lk_S_8_129 okN_X8_at ⟨Nat.le_of_ble_eq_true rfl, Nat.le_of_ble_eq_true rfl⟩ ⟨rfl, rfl⟩ (preR hK (P_of_map (wc := ra0 a (Q_t_5 7) 8 (gT z_t_5 7)) hP [4] rfl)) hl.1 rfl (Nat.le_of_ble_eq_true rfl) dX8_mixed_91 ⟨Nat.le_of_ble_eq_true rfl, Nat.le_of_ble_eq_true rfl⟩) ?_
                refine lv_aload_n hx hb dX8_mixed_94 rfl (lv_at hl 3 rfl) ?_
                refine lv_iconst (v := 1) hx hb dX8_mixed_95 (by decide) ?_
                obtain ⟨r21, hc20, h⟩ := bd_some h
                refine cRi (runS (As := [.ref (Q_t_5 7), .int 1]) (rest := [.int r19]) C (mX8_at l D a hc20) lk_S_8_129 okN_X8_at ⟨Nat.le_of_ble_eq_true rfl, Nat.le_of_ble_eq_true rfl⟩ ⟨rfl, rfl⟩ (preR hK (P_of_map (wc := ra0 a (Q_t_5 7) 8 (gT z_t_5 7)) hP [4] rfl)) hl.1 rfl (Nat.le_of_ble_eq_true rfl) dX8_mixed_96 ⟨Nat.le_of_ble_eq_true rfl, Nat.le_of_ble_eq_true rfl⟩) ?_
                refine lv_isub hx hb dX8_mixed_99 ?_
                exact hJ10 (r19 - r21) ls h (lv_sub hl [2, 0] rfl)
              · have h := ite_t c17 h
                refine lv_aload_n hx hb dX8_mixed_73 rfl (lv_at hl 3 rfl) ?_
                refine lv_bipush (v := 7) hx hb dX8_mixed_74 (by decide) ?_
                obtain ⟨r23, hc22, h⟩ := bd_some h
                refine cRi (runS (As := [.ref (Q_t_5 7), .int 7]) (rest := []) C (mX8_at l D a hc22) lk_S_8_129 okN_X8_at ⟨Nat.le_of_ble_eq_true rfl, Nat.le_of_ble_eq_true rfl⟩ ⟨rfl, rfl⟩ (preR hK (P_of_map (wc := ra0 a (Q_t_5 7) 8 (gT z_t_5 7)) hP [4] rfl)) hl.1 rfl (Nat.le_of_ble_eq_true rfl) dX8_mixed_76 ⟨Nat.le_of_ble_eq_true rfl, Nat.le_of_ble_eq_true rfl⟩) ?_
                refine lv_aload_n hx hb dX8_mixed_79 rfl (lv_at hl 3 rfl) ?_
                refine lv_bipush (v := 6) hx hb dX8_mixed_80 (by decide) ?_
                obtain ⟨r25, hc24, h⟩ := bd_some h
                refine cRi (runS (As := [.ref (Q_t_5 7), .int 6]) (rest := [.int r23]) C (mX8_at l D a hc24) lk_S_8_129 okN_X8_at ⟨Nat.le_of_ble_eq_true rfl, Nat.le_of_ble_eq_true rfl⟩ ⟨rfl, rfl⟩ (preR hK (P_of_map (wc := ra0 a (Q_t_5 7) 8 (gT z_t_5 7)) hP [4] rfl)) hl.1 rfl (Nat.le_of_ble_eq_true rfl) dX8_mixed_82 ⟨Nat.le_of_ble_eq_true rfl, Nat.le_of_ble_eq_true rfl⟩) ?_
                refine lv_isub hx hb dX8_mixed_85 ?_
                refine lv_goto (tgt := 100) hx hb dX8_mixed_86 (by decide) ?_
                exact hJ10 (r23 - r25) ls h (lv_sub hl [2, 0] rfl)
            refine lv_if_ne (tgt := 56) hx hb dX8_mixed_39 (by decide) (fun c26 => ?_) (fun c26 => ?_)
            · have h := ite_f c26 h
              refine lv_aload_n hx hb dX8_mixed_56 rfl (lv_at hl 0 rfl) ?_
              refine lv_iconst (v := 0) hx hb dX8_mixed_57 (by decide) ?_
              obtain ⟨r28, hc27, h⟩ := bd_some h
              refine cRi (runS (As := [.ref (Q_t_5 7), .int 0]) (rest := []) C (mX8_at l D a hc27) lk_S_8_129 okN_X8_at ⟨Nat.le_of_ble_eq_true rfl, Nat.le_of_ble_eq_true rfl⟩ ⟨rfl, rfl⟩ (preR hK (P_of_map (wc := ra0 a (Q_t_5 7) 8 (gT z_t_5 7)) hP [4] rfl)) hl.1 rfl (Nat.le_of_ble_eq_true rfl) dX8_mixed_58 ⟨Nat.le_of_ble_eq_true rfl, Nat.le_of_ble_eq_true rfl⟩) ?_
              refine lv_aload_n hx hb dX8_mixed_61 rfl (lv_at hl 0 rfl) ?_
              refine lv_iconst (v := 2) hx hb dX8_mixed_62 (by decide) ?_
              obtain ⟨r30, hc29, h⟩ := bd_some h
              refine cRi (runS (As := [.ref (Q_t_5 7), .int 2]) (rest := [.int r28]) C (mX8_at l D a hc29) lk_S_8_129 okN_X8_at ⟨Nat.le_of_ble_eq_true rfl, Nat.le_of_ble_eq_true rfl⟩ ⟨rfl, rfl⟩ (preR hK (P_of_map (wc := ra0 a (Q_t_5 7) 8 (gT z_t_5 7)) hP [4] rfl)) hl.1 rfl (Nat.le_of_ble_eq_true rfl) dX8_mixed_63 ⟨Nat.le_of_ble_eq_true rfl, Nat.le_of_ble_eq_true rfl⟩) ?_
              refine lv_isub hx hb dX8_mixed_66 ?_
              exact hJ8 (r28 - r30) ls h (lv_sub hl [2, 3, 0] rfl)
            · have h := ite_t c26 h
              refine lv_aload_n hx hb dX8_mixed_42 rfl (lv_at hl 0 rfl) ?_
              refine lv_iconst (v := 4) hx hb dX8_mixed_43 (by decide) ?_
              obtain ⟨r32, hc31, h⟩ := bd_some h
              refine cRi (runS (As := [.ref (Q_t_5 7), .int 4]) (rest := []) C (mX8_at l D a hc31) lk_S_8_129 okN_X8_at ⟨Nat.le_of_ble_eq_true rfl, Nat.le_of_ble_eq_true rfl⟩ ⟨rfl, rfl⟩ (preR hK (P_of_map (wc := ra0 a (Q_t_5 7) 8 (gT z_t_5 7)) hP [4] rfl)) hl.1 rfl (Nat.le_of_ble_eq_true rfl) dX8_mixed_44 ⟨Nat.le_of_ble_eq_true rfl, Nat.le_of_ble_eq_true rfl⟩) ?_
              refine lv_aload_n hx hb dX8_mixed_47 rfl (lv_at hl 0 rfl) ?_
              refine lv_iconst (v := 5) hx hb dX8_mixed_48 (by decide) ?_
              obtain ⟨r34, hc33, h⟩ := bd_some h
              refine cRi (runS (As := [.ref (Q_t_5 7), .int 5]) (rest := [.int r32]) C (mX8_at l D a hc33) lk_S_8_129 okN_X8_at ⟨Nat.le_of_ble_eq_true rfl, Nat.le_of_ble_eq_true rfl⟩ ⟨rfl, rfl⟩ (preR hK (P_of_map (wc := ra0 a (Q_t_5 7) 8 (gT z_t_5 7)) hP [4] rfl)) hl.1 rfl (Nat.le_of_ble_eq_true rfl) dX8_mixed_49 ⟨Nat.le_of_ble_eq_true rfl, Nat.le_of_ble_eq_true rfl⟩) ?_
              refine lv_isub hx hb dX8_mixed_52 ?_
              refine lv_goto (tgt := 67) hx hb dX8_mixed_53 (by decide) ?_
              exact hJ8 (r32 - r34) ls h (lv_sub hl [2, 3, 0] rfl)
          · have h := ite_f c7 h
            refine lv_bipush (v := (-2)) hx hb dX8_mixed_27 (by decide) ?_
            exact rRi C rfl (Option.some.inj h) dX8_mixed_29
        · have h := ite_f c4 h
          refine lv_iconst (v := (-1)) hx hb dX8_mixed_18 (by decide) ?_
          exact rRi C rfl (Option.some.inj h) dX8_mixed_19

def fX8_row (z_t : Sx) (z_t_5 : Sx) (z_t_5_0 : Sx) (x1 : Int32) : Option (Int32 × Sx) := if x1 = (-1) then some (0, sI z_t_5 6 0) else bd (fX8_isFault z_t z_t_5 z_t_5_0 x1) (fun r3 => if r3 = 0 then some ((-2), z_t_5) else if (gI z_t_5 6) < 8 then bd (fX8_put 8 (gT z_t_5 5) (gI z_t_5 6) x1) (fun z7 => some ((gI z_t_5 6) + 1, sI (sTf z_t_5 5 z7) 6 ((gI z_t_5 6) + 1))) else some ((-2), z_t_5))

set_option maxHeartbeats 4000000 in
set_option maxRecDepth 100000 in
theorem mX8_row (l : Launch) (D : va_G) (a : Nat → ClassId) {q_t : Nat} {Q_t : Nat → Nat} {z_t : Sx} {Q_t_5 : Nat → Nat} {z_t_5 : Sx} {Q_t_5_0 : Nat → Nat} {z_t_5_0 : Sx} {x1 : Int32} {y : Int32 × Sx} (h : fX8_row z_t z_t_5 z_t_5_0 x1 = some y) (sz : Nat) : CMi (S := Unit) l MX8_row 1 22 0 0 D a [.ref q_t, .int x1] (rc8 a q_t Q_t z_t ++ (rc5 a (Q_t 5) Q_t_5 z_t_5 ++ (rc7 a (Q_t_5 0) Q_t_5_0 z_t_5_0))) sz (fun r _ => r = y.1) (fun _ => rc8 a q_t Q_t z_t ++ (rc5 a (Q_t 5) Q_t_5 y.2 ++ (rc7 a (Q_t_5 0) Q_t_5_0 z_t_5_0))) := by
  unfold fX8_row at h
  refine entMi (by decide) (Nat.le_of_ble_eq_true rfl) ?_
  intro p e s m below meth c C hK A hA hP hD ls hl
  obtain ⟨hx, hb, hml, hown, hts, hr, hlocks, hnm⟩ := id C
  have hb : c.code = cX8_row := hb
  have hown : s.vm.findClass RX8 = some m.cls := hown
  have hS : va_S A s.heap s.heap [] := va_S.rf
  have hl : lv_has ls 2 [(0, .ref q_t), (1, .int x1)] := hl
  refine lv_iload_n hx hb dX8_row_0 rfl (lv_at hl 1 rfl) ?_
  refine lv_iconst (v := (-1)) hx hb dX8_row_1 (by decide) ?_
  refine lv_icmp_ne (tgt := 15) hx hb dX8_row_2 (by decide) (fun c1 => ?_) (fun c1 => ?_)
  · have h := ite_f c1 h
    refine lv_aload_n hx hb dX8_row_15 rfl (lv_at hl 0 rfl) ?_
    refine lv_iload_n hx hb dX8_row_16 rfl (lv_at hl 1 rfl) ?_
    obtain ⟨r3, hc2, h⟩ := bd_some h
    refine cRi (runV (As := [.int x1]) (rest := []) C (mX8_isFault l D a hc2) lk_V_8_139 okN_X8_isFault ⟨Nat.le_of_ble_eq_true rfl, Nat.le_of_ble_eq_true rfl⟩ ⟨rfl, rfl⟩ (preV (preR hK hP) (recvOf hK hP 0 rfl (ci := 8) rfl)) hl.1 rfl (Nat.le_of_ble_eq_true rfl) dX8_row_17 ⟨Nat.le_of_ble_eq_true rfl, Nat.le_of_ble_eq_true rfl⟩) ?_
    refine lv_if_eq (tgt := 35) hx hb dX8_row_20 (by decide) (fun c4 => ?_) (fun c4 => ?_)
    · have h := ite_t c4 h
      refine lv_bipush (v := (-2)) hx hb dX8_row_35 (by decide) ?_
      exact rMi C rfl h (g := fun y => rc8 a q_t Q_t z_t ++ (rc5 a (Q_t 5) Q_t_5 y.2 ++ (rc7 a (Q_t_5 0) Q_t_5_0 z_t_5_0))) (pr := fun y => y.1) hP hD hS dX8_row_37
    · have h := ite_f c4 h
      refine lv_aload_n hx hb dX8_row_23 rfl (lv_at hl 0 rfl) ?_
      refine va_get (D := D) (v := .ref (Q_t 5)) (C := RX8) (T := TX8) (N := 11) hx hb hts iX8 hown hK.1 hP 0 rfl rfl 5 (by decide) (hts _ t_305) (fun _ h9 => h9) rfl dX8_row_24 ?_
      refine va_get (D := D) (v := .int (gI z_t_5 6)) (C := RX5) (T := TX5) (N := 8) hx hb hts iX5 hown hK.1 hP 2 rfl rfl 6 (by decide) (hts _ t_173) (fun _ h9 => h9) rfl dX8_row_27 ?_
      refine lv_bipush (v := 8) hx hb dX8_row_30 (by decide) ?_
      refine lv_icmp_lt (tgt := 38) hx hb dX8_row_32 (by decide) (fun c5 => ?_) (fun c5 => ?_)
      · have h := ite_t c5 h
        refine lv_aload_n hx hb dX8_row_38 rfl (lv_at hl 0 rfl) ?_
        refine va_get (D := D) (v := .ref (Q_t 5)) (C := RX8) (T := TX8) (N := 11) hx hb hts iX8 hown hK.1 hP 0 rfl rfl 5 (by decide) (hts _ t_305) (fun _ h9 => h9) rfl dX8_row_39 ?_
        refine va_get (D := D) (v := .ref (Q_t_5 5)) (C := RX5) (T := TX5) (N := 8) hx hb hts iX5 hown hK.1 hP 2 rfl rfl 5 (by decide) (hts _ t_171) (fun _ h9 => h9) rfl dX8_row_42 ?_
        refine lv_aload_n hx hb dX8_row_45 rfl (lv_at hl 0 rfl) ?_
        refine va_get (D := D) (v := .ref (Q_t 5)) (C := RX8) (T := TX8) (N := 11) hx hb hts iX8 hown hK.1 hP 0 rfl rfl 5 (by decide) (hts _ t_305) (fun _ h9 => h9) rfl dX8_row_46 ?_
        refine va_get (D := D) (v := .int (gI z_t_5 6)) (C := RX5) (T := TX5) (N := 8) hx hb hts iX5 hown hK.1 hP 2 rfl rfl 6 (by decide) (hts _ t_173) (fun _ h9 => h9) rfl dX8_row_49 ?_
        refine lv_iload_n hx hb dX8_row_52 rfl (lv_at hl 1 rfl) ?_
        obtain ⟨z7, hc6, h⟩ := bd_some h
        refine cMv (runS (As := [.ref (Q_t_5 5), .int (gI z_t_5 6), .int x1]) (rest := []) C (mX8_put l D a hc6 s.heap.size) lk_S_8_78 okN_X8_put ⟨Nat.le_of_ble_eq_true rfl, Nat.le_of_ble_eq_true rfl⟩ ⟨rfl, rfl⟩ (preM hK (P_of_map (wc := ra0 a (Q_t_5 5) 8 (gT z_t_5 5)) hP [3] rfl) (hD.sub (ws' := ra0 a (Q_t_5 5) 8 (gT z_t_5 5)) [3] (by decide) rfl)) hl.1 rfl (Nat.le_of_ble_eq_true rfl) dX8_row_53 ⟨Nat.le_of_ble_eq_true rfl, Nat.le_of_ble_eq_true rfl⟩) hP hD hS hA [3] [0, 1, 2, 4, 5, 6, 7, 8, 9, 10, 11, 12, 13, 14, 15, 16, 17] [0, 1, 2, 17, 3, 4, 5, 6, 7, 8, 9, 10, 11, 12, 13, 14, 15, 16] rfl rfl (by decide) (by decide) (fw := rc8 a q_t Q_t z_t ++ (rc5 a (Q_t 5) Q_t_5 (sTf z_t_5 5 z7) ++ (rc7 a (Q_t_5 0) Q_t_5_0 z_t_5_0))) rfl (by decide) (fun H locs hP hD hS => ?_)
        have hP : va_P D classes (rc8 a q_t Q_t z_t ++ (rc5 a (Q_t 5) Q_t_5 (sTf z_t_5 5 z7) ++ (rc7 a (Q_t_5 0) Q_t_5_0 z_t_5_0))) H := hP
        have hD : va_D A (rc8 a q_t Q_t z_t ++ (rc5 a (Q_t 5) Q_t_5 (sTf z_t_5 5 z7) ++ (rc7 a (Q_t_5 0) Q_t_5_0 z_t_5_0))) := hD
        refine lv_aload_n hx hb dX8_row_56 rfl (lv_at hl 0 rfl) ?_
        refine va_get (D := D) (v := .ref (Q_t 5)) (C := RX8) (T := TX8) (N := 11) hx hb hts iX8 hown hK.1 hP 0 rfl rfl 5 (by decide) (hts _ t_305) (fun _ h9 => h9) rfl dX8_row_57 ?_
        refine lv_dup hx hb dX8_row_60 rfl ?_
        refine va_get (D := D) (v := .int (gI z_t_5 6)) (C := RX5) (T := TX5) (N := 8) hx hb hts iX5 hown hK.1 hP 2 rfl rfl 6 (by decide) (hts _ t_173) (fun _ h9 => h9) rfl dX8_row_61 ?_
        refine lv_iconst (v := 1) hx hb dX8_row_64 (by decide) ?_
        refine lv_iadd hx hb dX8_row_65 ?_
        refine va_put (D := D) (v := .int ((gI z_t_5 6) + 1)) (C := RX5) (T := TX5) (N := 8) hx hb hts iX5 tyX5 tyX5_ok nmX5 hown hK.1 hP hD hS 2 rfl rfl 6 (by decide) (hts _ t_173) (fun _ h9 => h9) rfl (tyX5_ok 6 (by decide)) rfl rfl (Nat.le_of_ble_eq_true rfl) dX8_row_66 (fun H locs hP hD hS => ?_)
        have hP : va_P D classes (rc8 a q_t Q_t z_t ++ (rc5 a (Q_t 5) Q_t_5 (sI (sTf z_t_5 5 z7) 6 ((gI z_t_5 6) + 1)) ++ (rc7 a (Q_t_5 0) Q_t_5_0 z_t_5_0))) H := hP
        have hD : va_D A (rc8 a q_t Q_t z_t ++ (rc5 a (Q_t 5) Q_t_5 (sI (sTf z_t_5 5 z7) 6 ((gI z_t_5 6) + 1)) ++ (rc7 a (Q_t_5 0) Q_t_5_0 z_t_5_0))) := hD
        refine lv_aload_n hx hb dX8_row_69 rfl (lv_at hl 0 rfl) ?_
        refine va_get (D := D) (v := .ref (Q_t 5)) (C := RX8) (T := TX8) (N := 11) hx hb hts iX8 hown hK.1 hP 0 rfl rfl 5 (by decide) (hts _ t_305) (fun _ h9 => h9) rfl dX8_row_70 ?_
        refine va_get (D := D) (v := .int ((gI z_t_5 6) + 1)) (C := RX5) (T := TX5) (N := 8) hx hb hts iX5 hown hK.1 hP 2 rfl rfl 6 (by decide) (hts _ t_173) (fun _ h9 => h9) rfl dX8_row_73 ?_
        exact rMi C rfl h (g := fun y => rc8 a q_t Q_t z_t ++ (rc5 a (Q_t 5) Q_t_5 y.2 ++ (rc7 a (Q_t_5 0) Q_t_5_0 z_t_5_0))) (pr := fun y => y.1) hP hD hS dX8_row_76
      · have h := ite_f c5 h
        refine lv_bipush (v := (-2)) hx hb dX8_row_35 (by decide) ?_
        exact rMi C rfl h (g := fun y => rc8 a q_t Q_t z_t ++ (rc5 a (Q_t 5) Q_t_5 y.2 ++ (rc7 a (Q_t_5 0) Q_t_5_0 z_t_5_0))) (pr := fun y => y.1) hP hD hS dX8_row_37
  · have h := ite_t c1 h
    refine lv_aload_n hx hb dX8_row_5 rfl (lv_at hl 0 rfl) ?_
    refine va_get (D := D) (v := .ref (Q_t 5)) (C := RX8) (T := TX8) (N := 11) hx hb hts iX8 hown hK.1 hP 0 rfl rfl 5 (by decide) (hts _ t_305) (fun _ h9 => h9) rfl dX8_row_6 ?_
    refine lv_iconst (v := 0) hx hb dX8_row_9 (by decide) ?_
    refine va_put (D := D) (v := .int 0) (C := RX5) (T := TX5) (N := 8) hx hb hts iX5 tyX5 tyX5_ok nmX5 hown hK.1 hP hD hS 2 rfl rfl 6 (by decide) (hts _ t_173) (fun _ h9 => h9) rfl (tyX5_ok 6 (by decide)) rfl rfl (Nat.le_of_ble_eq_true rfl) dX8_row_10 (fun H locs hP hD hS => ?_)
    have hP : va_P D classes (rc8 a q_t Q_t z_t ++ (rc5 a (Q_t 5) Q_t_5 (sI z_t_5 6 0) ++ (rc7 a (Q_t_5 0) Q_t_5_0 z_t_5_0))) H := hP
    have hD : va_D A (rc8 a q_t Q_t z_t ++ (rc5 a (Q_t 5) Q_t_5 (sI z_t_5 6 0) ++ (rc7 a (Q_t_5 0) Q_t_5_0 z_t_5_0))) := hD
    refine lv_iconst (v := 0) hx hb dX8_row_13 (by decide) ?_
    exact rMi C rfl h (g := fun y => rc8 a q_t Q_t z_t ++ (rc5 a (Q_t 5) Q_t_5 y.2 ++ (rc7 a (Q_t_5 0) Q_t_5_0 z_t_5_0))) (pr := fun y => y.1) hP hD hS dX8_row_14

def gX8_rowMean (rec : Sx → Sx → Sx → Int32 → Int32 → Int32 → Int32 → Option (Int64)) (z_t : Sx) (z_t_5 : Sx) (z_t_5_0 : Sx) (x1 : Int32) (x2 : Int32) (x3 : Int32) (x4 : Int32) : Option (Int64) := if (gI z_t_5 6) ≤ x1 then some 0 else if x1 < 8 then bd (fX8_at 8 (gT z_t_5 5) x1) (fun r4 => bd (fX8_at 10 (gT z_t_5_0 9) r4) (fun r6 => bd (fX7_isOpen z_t_5_0 r4 x2) (fun r8 => jn (bd (rec z_t z_t_5 z_t_5_0 (x1 + 1) x2 x3 x4) (fun r11 => some (100 * r11))) (fun J9 => if r8 = 0 then J9 else if r6 ≤ x3 then bd (fX8_at 10 (gT z_t_5_0 10) r4) (fun r15 => jn (fun (i17 : Int32) => bd (fX8_hundreds (((gI z_t_5 6) - x1) - 1)) (fun r19 => bd (fX8_bit r4) (fun r21 => bd (rec z_t z_t_5 z_t_5_0 (x1 + 1) (x2 ||| r21) (x3 - r6) x4) (fun r23 => bd (rec z_t z_t_5 z_t_5_0 (x1 + 1) x2 (x3 - r6) x4) (fun r25 => some ((r15.toInt64 * ((i17.toInt64 * r19) + r23)) + (((100 - r15).toInt64) * r25))))))) (fun J16 => if x4 = (-1) then bd (fX8_at 10 (gT z_t_5_0 12) r4) (fun r29 => J16 r29) else if r4 = x4 then J16 1 else J16 0)) else J9)))) else some 0
def fX8_rowMean : Nat → Sx → Sx → Sx → Int32 → Int32 → Int32 → Int32 → Option (Int64)
  | 0 => fun _ _ _ _ _ _ _ => none
  | dp + 1 => gX8_rowMean (fX8_rowMean dp)

set_option maxHeartbeats 4000000 in
set_option maxRecDepth 100000 in
theorem gmX8_rowMean (l : Launch) (D : va_G) (a : Nat → ClassId) {F LO : Nat} {rec : Sx → Sx → Sx → Int32 → Int32 → Int32 → Int32 → Option (Int64)} (hrec : ∀ {q_t : Nat} {Q_t : Nat → Nat} {z_t : Sx} {Q_t_5 : Nat → Nat} {z_t_5 : Sx} {Q_t_5_0 : Nat → Nat} {z_t_5_0 : Sx} {x1 : Int32} {x2 : Int32} {x3 : Int32} {x4 : Int32} {y9 : Int64}, rec z_t z_t_5 z_t_5_0 x1 x2 x3 x4 = some y9 → CRl l MX8_rowMean F LO D a [.ref q_t, .int x1, .int x2, .int x3, .int x4] (rc8 a q_t Q_t z_t ++ (rc5 a (Q_t 5) Q_t_5 z_t_5 ++ (rc7 a (Q_t_5 0) Q_t_5_0 z_t_5_0))) (fun r => r = y9)) (hF : 1 ≤ F) (hL : 23 ≤ LO) {q_t : Nat} {Q_t : Nat → Nat} {z_t : Sx} {Q_t_5 : Nat → Nat} {z_t_5 : Sx} {Q_t_5_0 : Nat → Nat} {z_t_5_0 : Sx} {x1 : Int32} {x2 : Int32} {x3 : Int32} {x4 : Int32} {y : Int64} (h : gX8_rowMean rec z_t z_t_5 z_t_5_0 x1 x2 x3 x4 = some y) : CRl l MX8_rowMean (F + 1) (LO + 32) D a [.ref q_t, .int x1, .int x2, .int x3, .int x4] (rc8 a q_t Q_t z_t ++ (rc5 a (Q_t 5) Q_t_5 z_t_5 ++ (rc7 a (Q_t_5 0) Q_t_5_0 z_t_5_0))) (fun r => r = y) := by
  unfold gX8_rowMean at h
  refine entR (by decide) (Nat.le_of_ble_eq_true rfl) ?_
  intro p e s m below meth c C hK hP ls hl
  obtain ⟨hx, hb, hml, hown, hts, hr, hlocks, hnm⟩ := id C
  have hb : c.code = cX8_rowMean := hb
  have hown : s.vm.findClass RX8 = some m.cls := hown
  have hl : lv_has ls 13 [(0, .ref q_t), (1, .int x1), (2, .int x2), (3, .int x3), (4, .int x4)] := hl
  refine lv_iload_n hx hb dX8_rowMean_0 rfl (lv_at hl 1 rfl) ?_
  refine lv_aload_n hx hb dX8_rowMean_1 rfl (lv_at hl 0 rfl) ?_
  refine va_get (D := D) (v := .ref (Q_t 5)) (C := RX8) (T := TX8) (N := 11) hx hb hts iX8 hown hK.1 hP 0 rfl rfl 5 (by decide) (hts _ t_305) (fun _ h9 => h9) rfl dX8_rowMean_2 ?_
  refine va_get (D := D) (v := .int (gI z_t_5 6)) (C := RX5) (T := TX5) (N := 8) hx hb hts iX5 hown hK.1 hP 2 rfl rfl 6 (by decide) (hts _ t_173) (fun _ h9 => h9) rfl dX8_rowMean_5 ?_
  refine lv_icmp_ge (tgt := 17) hx hb dX8_rowMean_8 (by decide) (fun c1 => ?_) (fun c1 => ?_)
  · have h := ite_t c1 h
    refine lv_lconst (v := 0) hx hb dX8_rowMean_17 (by decide) ?_
    exact rRl C rfl (Option.some.inj h) dX8_rowMean_18
  · have h := ite_f c1 h
    refine lv_iload_n hx hb dX8_rowMean_11 rfl (lv_at hl 1 rfl) ?_
    refine lv_bipush (v := 8) hx hb dX8_rowMean_12 (by decide) ?_
    refine lv_icmp_lt (tgt := 19) hx hb dX8_rowMean_14 (by decide) (fun c2 => ?_) (fun c2 => ?_)
    · have h := ite_t c2 h
      refine lv_aload_n hx hb dX8_rowMean_19 rfl (lv_at hl 0 rfl) ?_
      refine va_get (D := D) (v := .ref (Q_t 5)) (C := RX8) (T := TX8) (N := 11) hx hb hts iX8 hown hK.1 hP 0 rfl rfl 5 (by decide) (hts _ t_305) (fun _ h9 => h9) rfl dX8_rowMean_20 ?_
      refine va_get (D := D) (v := .ref (Q_t_5 5)) (C := RX5) (T := TX5) (N := 8) hx hb hts iX5 hown hK.1 hP 2 rfl rfl 5 (by decide) (hts _ t_171) (fun _ h9 => h9) rfl dX8_rowMean_23 ?_
      refine lv_iload_n hx hb dX8_rowMean_26 rfl (lv_at hl 1 rfl) ?_
      obtain ⟨r4, hc3, h⟩ := bd_some h
      refine cRi (runS (As := [.ref (Q_t_5 5), .int x1]) (rest := []) C (mX8_at l D a hc3) lk_S_8_129 okN_X8_at (by constructor; (show 0 + 1 ≤ F + 1; omega); (show 8 + (2 + 11) + (0) ≤ LO + 32; omega)) ⟨rfl, rfl⟩ (preR hK (P_of_map (wc := ra0 a (Q_t_5 5) 8 (gT z_t_5 5)) hP [3] rfl)) hl.1 rfl (Nat.le_of_ble_eq_true rfl) dX8_rowMean_27 ⟨Nat.le_of_ble_eq_true rfl, Nat.le_of_ble_eq_true rfl⟩) ?_
      refine lv_istore (lv' := [(5, .int r4), (0, .ref q_t), (1, .int x1), (2, .int x2), (3, .int x3), (4, .int x4)]) hx hb dX8_rowMean_30 hl (by decide) rfl (fun ls hl => ?_)
      refine lv_aload_n hx hb dX8_rowMean_32 rfl (lv_at hl 1 rfl) ?_
      refine va_get (D := D) (v := .ref (Q_t 5)) (C := RX8) (T := TX8) (N := 11) hx hb hts iX8 hown hK.1 hP 0 rfl rfl 5 (by decide) (hts _ t_305) (fun _ h9 => h9) rfl dX8_rowMean_33 ?_
      refine va_get (D := D) (v := .ref (Q_t_5 0)) (C := RX5) (T := TX5) (N := 8) hx hb hts iX5 hown hK.1 hP 2 rfl rfl 0 (by decide) (hts _ t_161) (fun _ h9 => h9) rfl dX8_rowMean_36 ?_
      refine va_get (D := D) (v := .ref (Q_t_5_0 9)) (C := RX7) (T := TX7) (N := 18) hx hb hts iX7 hown hK.1 hP 5 rfl rfl 9 (by decide) (hts _ t_62) (fun _ h9 => h9) rfl dX8_rowMean_39 ?_
      refine lv_iload hx hb dX8_rowMean_42 (lv_at hl 0 rfl) ?_
      obtain ⟨r6, hc5, h⟩ := bd_some h
      refine cRi (runS (As := [.ref (Q_t_5_0 9), .int r4]) (rest := []) C (mX8_at l D a hc5) lk_S_8_129 okN_X8_at (by constructor; (show 0 + 1 ≤ F + 1; omega); (show 8 + (2 + 11) + (0) ≤ LO + 32; omega)) ⟨rfl, rfl⟩ (preR hK (P_of_map (wc := ra0 a (Q_t_5_0 9) 10 (gT z_t_5_0 9)) hP [10] rfl)) hl.1 rfl (Nat.le_of_ble_eq_true rfl) dX8_rowMean_44 ⟨Nat.le_of_ble_eq_true rfl, Nat.le_of_ble_eq_true rfl⟩) ?_
      refine lv_istore (lv' := [(6, .int r6), (5, .int r4), (0, .ref q_t), (1, .int x1), (2, .int x2), (3, .int x3), (4, .int x4)]) hx hb dX8_rowMean_47 hl (by decide) rfl (fun ls hl => ?_)
      refine lv_aload_n hx hb dX8_rowMean_49 rfl (lv_at hl 2 rfl) ?_
      refine va_get (D := D) (v := .ref (Q_t 5)) (C := RX8) (T := TX8) (N := 11) hx hb hts iX8 hown hK.1 hP 0 rfl rfl 5 (by decide) (hts _ t_305) (fun _ h9 => h9) rfl dX8_rowMean_50 ?_
      refine va_get (D := D) (v := .ref (Q_t_5 0)) (C := RX5) (T := TX5) (N := 8) hx hb hts iX5 hown hK.1 hP 2 rfl rfl 0 (by decide) (hts _ t_161) (fun _ h9 => h9) rfl dX8_rowMean_53 ?_
      refine lv_iload hx hb dX8_rowMean_56 (lv_at hl 1 rfl) ?_
      refine lv_iload_n hx hb dX8_rowMean_58 rfl (lv_at hl 4 rfl) ?_
      obtain ⟨r8, hc7, h⟩ := bd_some h
      refine cRi (runV (As := [.int r4, .int x2]) (rest := []) C (mX7_isOpen l D a hc7) lk_V_8_175 okN_X7_isOpen (by constructor; (show 0 + 1 ≤ F + 1; omega); (show 8 + (4 + 11) + (0) ≤ LO + 32; omega)) ⟨rfl, rfl⟩ (preV (preR hK (P_of_map (wc := rc7 a (Q_t_5 0) Q_t_5_0 z_t_5_0) hP [5, 6, 7, 8, 9, 10, 11, 12, 13, 14, 15, 16, 17] rfl)) (recvOf hK hP 5 rfl (ci := 7) rfl)) hl.1 rfl (Nat.le_of_ble_eq_true rfl) dX8_rowMean_59 ⟨Nat.le_of_ble_eq_true rfl, Nat.le_of_ble_eq_true rfl⟩) ?_
      obtain ⟨J9, eJ9, h⟩ := jn_some h
      have hJ9 : ∀ (ls : Array Slot), J9 = some y → lv_has ls 13 [(0, .ref q_t), (1, .int x1), (2, .int x2), (3, .int x3), (4, .int x4)] → W p l e (rmM (F + 1) 0 0 (LO + 32)) s m #[.ref q_t, .int x1, .int x2, .int x3, .int x4] below meth c s.heap [] 0 0 (MQ below (vp_Sl (fun r => r = y)) #[.ref q_t, .int x1, .int x2, .int x3, .int x4] s 0 0 (fun _ => False)) (F0 m 71 ls []) := by
        intro ls h hl
        rw [eJ9] at h
        refine lv_ldc2 hx hb hown (hts _ t_758) dX8_rowMean_71 ?_
        refine lv_aload_n hx hb dX8_rowMean_74 rfl (lv_at hl 0 rfl) ?_
        refine lv_iload_n hx hb dX8_rowMean_75 rfl (lv_at hl 1 rfl) ?_
        refine lv_iconst (v := 1) hx hb dX8_rowMean_76 (by decide) ?_
        refine lv_iadd hx hb dX8_rowMean_77 ?_
        refine lv_iload_n hx hb dX8_rowMean_78 rfl (lv_at hl 2 rfl) ?_
        refine lv_iload_n hx hb dX8_rowMean_79 rfl (lv_at hl 3 rfl) ?_
        refine lv_iload hx hb dX8_rowMean_80 (lv_at hl 4 rfl) ?_
        obtain ⟨r11, hc10, h⟩ := bd_some h
        refine cRl (runV (As := [.int (x1 + 1), .int x2, .int x3, .int x4]) (rest := [.long 100]) C (hrec hc10) lk_V_8_245 okN_X8_rowMean (by constructor; (show F + 0 + 1 ≤ F + 1; omega); (show 8 + (13 + 11) + (LO + 0) ≤ LO + 32; omega)) ⟨rfl, rfl⟩ (preV (preR hK hP) (recvOf hK hP 0 rfl (ci := 8) rfl)) hl.1 rfl (Nat.le_of_ble_eq_true rfl) dX8_rowMean_82 ⟨Nat.le_of_ble_eq_true rfl, Nat.le_of_ble_eq_true rfl⟩) ?_
        refine lv_lmul hx hb dX8_rowMean_85 ?_
        exact rRl C rfl (Option.some.inj h) dX8_rowMean_86
      refine lv_if_eq (tgt := 71) hx hb dX8_rowMean_62 (by decide) (fun c12 => ?_) (fun c12 => ?_)
      · have h := ite_t c12 h
        exact hJ9 ls h (lv_sub hl [2, 3, 4, 5, 6] rfl)
      · have h := ite_f c12 h
        refine lv_iload hx hb dX8_rowMean_65 (lv_at hl 0 rfl) ?_
        refine lv_iload_n hx hb dX8_rowMean_67 rfl (lv_at hl 5 rfl) ?_
        refine lv_icmp_le (tgt := 87) hx hb dX8_rowMean_68 (by decide) (fun c13 => ?_) (fun c13 => ?_)
        · have h := ite_t c13 h
          refine lv_aload_n hx hb dX8_rowMean_87 rfl (lv_at hl 2 rfl) ?_
          refine va_get (D := D) (v := .ref (Q_t 5)) (C := RX8) (T := TX8) (N := 11) hx hb hts iX8 hown hK.1 hP 0 rfl rfl 5 (by decide) (hts _ t_305) (fun _ h9 => h9) rfl dX8_rowMean_88 ?_
          refine va_get (D := D) (v := .ref (Q_t_5 0)) (C := RX5) (T := TX5) (N := 8) hx hb hts iX5 hown hK.1 hP 2 rfl rfl 0 (by decide) (hts _ t_161) (fun _ h9 => h9) rfl dX8_rowMean_91 ?_
          refine va_get (D := D) (v := .ref (Q_t_5_0 10)) (C := RX7) (T := TX7) (N := 18) hx hb hts iX7 hown hK.1 hP 5 rfl rfl 10 (by decide) (hts _ t_67) (fun _ h9 => h9) rfl dX8_rowMean_94 ?_
          refine lv_iload hx hb dX8_rowMean_97 (lv_at hl 1 rfl) ?_
          obtain ⟨r15, hc14, h⟩ := bd_some h
          refine cRi (runS (As := [.ref (Q_t_5_0 10), .int r4]) (rest := []) C (mX8_at l D a hc14) lk_S_8_129 okN_X8_at (by constructor; (show 0 + 1 ≤ F + 1; omega); (show 8 + (2 + 11) + (0) ≤ LO + 32; omega)) ⟨rfl, rfl⟩ (preR hK (P_of_map (wc := ra0 a (Q_t_5_0 10) 10 (gT z_t_5_0 10)) hP [11] rfl)) hl.1 rfl (Nat.le_of_ble_eq_true rfl) dX8_rowMean_99 ⟨Nat.le_of_ble_eq_true rfl, Nat.le_of_ble_eq_true rfl⟩) ?_
          refine lv_istore (lv' := [(7, .int r15), (6, .int r6), (5, .int r4), (0, .ref q_t), (1, .int x1), (2, .int x2), (3, .int x3), (4, .int x4)]) hx hb dX8_rowMean_102 hl (by decide) rfl (fun ls hl => ?_)
          refine lv_iload hx hb dX8_rowMean_104 (lv_at hl 7 rfl) ?_
          refine lv_iconst (v := (-1)) hx hb dX8_rowMean_106 (by decide) ?_
          obtain ⟨J16, eJ16, h⟩ := jn_some h
          have hJ16 : ∀ (i17 : Int32) (ls : Array Slot), J16 i17 = some y → lv_has ls 13 [(0, .ref q_t), (1, .int x1), (2, .int x2), (3, .int x3), (4, .int x4), (5, .int r4), (6, .int r6), (7, .int r15)] → W p l e (rmM (F + 1) 0 0 (LO + 32)) s m #[.ref q_t, .int x1, .int x2, .int x3, .int x4] below meth c s.heap [] 0 0 (MQ below (vp_Sl (fun r => r = y)) #[.ref q_t, .int x1, .int x2, .int x3, .int x4] s 0 0 (fun _ => False)) (F0 m 140 ls [.int i17]) := by
            intro i17 ls h hl
            rw [eJ16] at h
            refine lv_istore (lv' := [(8, .int i17), (0, .ref q_t), (1, .int x1), (2, .int x2), (3, .int x3), (4, .int x4), (5, .int r4), (6, .int r6), (7, .int r15)]) hx hb dX8_rowMean_140 hl (by decide) rfl (fun ls hl => ?_)
            refine lv_iload hx hb dX8_rowMean_142 (lv_at hl 0 rfl) ?_
            refine lv_i2l (v := i17.toInt64) hx hb dX8_rowMean_144 rfl ?_
            refine lv_aload_n hx hb dX8_rowMean_145 rfl (lv_at hl 1 rfl) ?_
            refine va_get (D := D) (v := .ref (Q_t 5)) (C := RX8) (T := TX8) (N := 11) hx hb hts iX8 hown hK.1 hP 0 rfl rfl 5 (by decide) (hts _ t_305) (fun _ h9 => h9) rfl dX8_rowMean_146 ?_
            refine va_get (D := D) (v := .int (gI z_t_5 6)) (C := RX5) (T := TX5) (N := 8) hx hb hts iX5 hown hK.1 hP 2 rfl rfl 6 (by decide) (hts _ t_173) (fun _ h9 => h9) rfl dX8_rowMean_149 ?_
            refine lv_iload_n hx hb dX8_rowMean_152 rfl (lv_at hl 2 rfl) ?_
            refine lv_isub hx hb dX8_rowMean_153 ?_
            refine lv_iconst (v := 1) hx hb dX8_rowMean_154 (by decide) ?_
            refine lv_isub hx hb dX8_rowMean_155 ?_
            obtain ⟨r19, hc18, h⟩ := bd_some h
            refine cRl (runS (As := [.int (((gI z_t_5 6) - x1) - 1)]) (rest := [.long i17.toInt64]) C (mX8_hundreds l D a hc18) lk_S_8_249 okN_X8_hundreds (by constructor; (show 0 + 1 ≤ F + 1; omega); (show 8 + (4 + 11) + (0) ≤ LO + 32; omega)) ⟨rfl, rfl⟩ (preR hK (P_of_map (wc := []) hP [] rfl)) hl.1 rfl (Nat.le_of_ble_eq_true rfl) dX8_rowMean_156 ⟨Nat.le_of_ble_eq_true rfl, Nat.le_of_ble_eq_true rfl⟩) ?_
            refine lv_lmul hx hb dX8_rowMean_159 ?_
            refine lv_aload_n hx hb dX8_rowMean_160 rfl (lv_at hl 1 rfl) ?_
            refine lv_iload_n hx hb dX8_rowMean_161 rfl (lv_at hl 2 rfl) ?_
            refine lv_iconst (v := 1) hx hb dX8_rowMean_162 (by decide) ?_
            refine lv_iadd hx hb dX8_rowMean_163 ?_
            refine lv_iload_n hx hb dX8_rowMean_164 rfl (lv_at hl 3 rfl) ?_
            refine lv_iload hx hb dX8_rowMean_165 (lv_at hl 6 rfl) ?_
            obtain ⟨r21, hc20, h⟩ := bd_some h
            refine cRi (runS (As := [.int r4]) (rest := [.int x2, .int (x1 + 1), .ref q_t, .long (i17.toInt64 * r19)]) C (mX8_bit l D a hc20) lk_S_8_216 okN_X8_bit (by constructor; (show 0 + 1 ≤ F + 1; omega); (show 8 + (1 + 11) + (0) ≤ LO + 32; omega)) ⟨rfl, rfl⟩ (preR hK (P_of_map (wc := []) hP [] rfl)) hl.1 rfl (Nat.le_of_ble_eq_true rfl) dX8_rowMean_167 ⟨Nat.le_of_ble_eq_true rfl, Nat.le_of_ble_eq_true rfl⟩) ?_
            refine lv_ior hx hb dX8_rowMean_170 ?_
            refine lv_iload_n hx hb dX8_rowMean_171 rfl (lv_at hl 4 rfl) ?_
            refine lv_iload hx hb dX8_rowMean_172 (lv_at hl 7 rfl) ?_
            refine lv_isub hx hb dX8_rowMean_174 ?_
            refine lv_iload hx hb dX8_rowMean_175 (lv_at hl 5 rfl) ?_
            obtain ⟨r23, hc22, h⟩ := bd_some h
            refine cRl (runV (As := [.int (x1 + 1), .int (x2 ||| r21), .int (x3 - r6), .int x4]) (rest := [.long (i17.toInt64 * r19)]) C (hrec hc22) lk_V_8_245 okN_X8_rowMean (by constructor; (show F + 0 + 1 ≤ F + 1; omega); (show 8 + (13 + 11) + (LO + 0) ≤ LO + 32; omega)) ⟨rfl, rfl⟩ (preV (preR hK hP) (recvOf hK hP 0 rfl (ci := 8) rfl)) hl.1 rfl (Nat.le_of_ble_eq_true rfl) dX8_rowMean_177 ⟨Nat.le_of_ble_eq_true rfl, Nat.le_of_ble_eq_true rfl⟩) ?_
            refine lv_ladd hx hb dX8_rowMean_180 ?_
            refine lv_lstore (lv' := [(9, .long ((i17.toInt64 * r19) + r23)), (8, .int i17), (0, .ref q_t), (1, .int x1), (2, .int x2), (3, .int x3), (4, .int x4), (5, .int r4), (6, .int r6), (7, .int r15)]) hx hb dX8_rowMean_181 hl (by decide) rfl (fun ls hl => ?_)
            refine lv_aload_n hx hb dX8_rowMean_183 rfl (lv_at hl 2 rfl) ?_
            refine lv_iload_n hx hb dX8_rowMean_184 rfl (lv_at hl 3 rfl) ?_
            refine lv_iconst (v := 1) hx hb dX8_rowMean_185 (by decide) ?_
            refine lv_iadd hx hb dX8_rowMean_186 ?_
            refine lv_iload_n hx hb dX8_rowMean_187 rfl (lv_at hl 4 rfl) ?_
            refine lv_iload_n hx hb dX8_rowMean_188 rfl (lv_at hl 5 rfl) ?_
            refine lv_iload hx hb dX8_rowMean_189 (lv_at hl 8 rfl) ?_
            refine lv_isub hx hb dX8_rowMean_191 ?_
            refine lv_iload hx hb dX8_rowMean_192 (lv_at hl 6 rfl) ?_
            obtain ⟨r25, hc24, h⟩ := bd_some h
            refine cRl (runV (As := [.int (x1 + 1), .int x2, .int (x3 - r6), .int x4]) (rest := []) C (hrec hc24) lk_V_8_245 okN_X8_rowMean (by constructor; (show F + 0 + 1 ≤ F + 1; omega); (show 8 + (13 + 11) + (LO + 0) ≤ LO + 32; omega)) ⟨rfl, rfl⟩ (preV (preR hK hP) (recvOf hK hP 0 rfl (ci := 8) rfl)) hl.1 rfl (Nat.le_of_ble_eq_true rfl) dX8_rowMean_194 ⟨Nat.le_of_ble_eq_true rfl, Nat.le_of_ble_eq_true rfl⟩) ?_
            refine lv_lstore (lv' := [(11, .long r25), (9, .long ((i17.toInt64 * r19) + r23)), (8, .int i17), (0, .ref q_t), (1, .int x1), (2, .int x2), (3, .int x3), (4, .int x4), (5, .int r4), (6, .int r6), (7, .int r15)]) hx hb dX8_rowMean_197 hl (by decide) rfl (fun ls hl => ?_)
            refine lv_iload hx hb dX8_rowMean_199 (lv_at hl 10 rfl) ?_
            refine lv_i2l (v := r15.toInt64) hx hb dX8_rowMean_201 rfl ?_
            refine lv_lload hx hb dX8_rowMean_202 (lv_at hl 1 rfl) ?_
            refine lv_lmul hx hb dX8_rowMean_204 ?_
            refine lv_bipush (v := 100) hx hb dX8_rowMean_205 (by decide) ?_
            refine lv_iload hx hb dX8_rowMean_207 (lv_at hl 10 rfl) ?_
            refine lv_isub hx hb dX8_rowMean_209 ?_
            refine lv_i2l (v := (100 - r15).toInt64) hx hb dX8_rowMean_210 rfl ?_
            refine lv_lload hx hb dX8_rowMean_211 (lv_at hl 0 rfl) ?_
            refine lv_lmul hx hb dX8_rowMean_213 ?_
            refine lv_ladd hx hb dX8_rowMean_214 ?_
            exact rRl C rfl (Option.some.inj h) dX8_rowMean_215
          refine lv_icmp_ne (tgt := 128) hx hb dX8_rowMean_107 (by decide) (fun c26 => ?_) (fun c26 => ?_)
          · have h := ite_f c26 h
            refine lv_iload hx hb dX8_rowMean_128 (lv_at hl 2 rfl) ?_
            refine lv_iload hx hb dX8_rowMean_130 (lv_at hl 7 rfl) ?_
            refine lv_icmp_ne (tgt := 139) hx hb dX8_rowMean_132 (by decide) (fun c27 => ?_) (fun c27 => ?_)
            · have h := ite_f c27 h
              refine lv_iconst (v := 0) hx hb dX8_rowMean_139 (by decide) ?_
              exact hJ16 0 ls h (lv_sub hl [3, 4, 5, 6, 7, 2, 1, 0] rfl)
            · have h := ite_t c27 h
              refine lv_iconst (v := 1) hx hb dX8_rowMean_135 (by decide) ?_
              refine lv_goto (tgt := 140) hx hb dX8_rowMean_136 (by decide) ?_
              exact hJ16 1 ls h (lv_sub hl [3, 4, 5, 6, 7, 2, 1, 0] rfl)
          · have h := ite_t c26 h
            refine lv_aload_n hx hb dX8_rowMean_110 rfl (lv_at hl 3 rfl) ?_
            refine va_get (D := D) (v := .ref (Q_t 5)) (C := RX8) (T := TX8) (N := 11) hx hb hts iX8 hown hK.1 hP 0 rfl rfl 5 (by decide) (hts _ t_305) (fun _ h9 => h9) rfl dX8_rowMean_111 ?_
            refine va_get (D := D) (v := .ref (Q_t_5 0)) (C := RX5) (T := TX5) (N := 8) hx hb hts iX5 hown hK.1 hP 2 rfl rfl 0 (by decide) (hts _ t_161) (fun _ h9 => h9) rfl dX8_rowMean_114 ?_
            refine va_get (D := D) (v := .ref (Q_t_5_0 12)) (C := RX7) (T := TX7) (N := 18) hx hb hts iX7 hown hK.1 hP 5 rfl rfl 12 (by decide) (hts _ t_74) (fun _ h9 => h9) rfl dX8_rowMean_117 ?_
            refine lv_iload hx hb dX8_rowMean_120 (lv_at hl 2 rfl) ?_
            obtain ⟨r29, hc28, h⟩ := bd_some h
            refine cRi (runS (As := [.ref (Q_t_5_0 12), .int r4]) (rest := []) C (mX8_at l D a hc28) lk_S_8_129 okN_X8_at (by constructor; (show 0 + 1 ≤ F + 1; omega); (show 8 + (2 + 11) + (0) ≤ LO + 32; omega)) ⟨rfl, rfl⟩ (preR hK (P_of_map (wc := ra0 a (Q_t_5_0 12) 10 (gT z_t_5_0 12)) hP [13] rfl)) hl.1 rfl (Nat.le_of_ble_eq_true rfl) dX8_rowMean_122 ⟨Nat.le_of_ble_eq_true rfl, Nat.le_of_ble_eq_true rfl⟩) ?_
            refine lv_goto (tgt := 140) hx hb dX8_rowMean_125 (by decide) ?_
            exact hJ16 r29 ls h (lv_sub hl [3, 4, 5, 6, 7, 2, 1, 0] rfl)
        · have h := ite_f c13 h
          exact hJ9 ls h (lv_sub hl [2, 3, 4, 5, 6] rfl)
    · have h := ite_f c2 h
      refine lv_lconst (v := 0) hx hb dX8_rowMean_17 (by decide) ?_
      exact rRl C rfl (Option.some.inj h) dX8_rowMean_18

set_option maxHeartbeats 4000000 in
theorem mX8_rowMean (l : Launch) (D : va_G) (a : Nat → ClassId) : ∀ (dp : Nat) {q_t : Nat} {Q_t : Nat → Nat} {z_t : Sx} {Q_t_5 : Nat → Nat} {z_t_5 : Sx} {Q_t_5_0 : Nat → Nat} {z_t_5_0 : Sx} {x1 : Int32} {x2 : Int32} {x3 : Int32} {x4 : Int32} {y : Int64}, fX8_rowMean dp z_t z_t_5 z_t_5_0 x1 x2 x3 x4 = some y → CRl l MX8_rowMean (1 + 1 * dp) (23 + 32 * dp) D a [.ref q_t, .int x1, .int x2, .int x3, .int x4] (rc8 a q_t Q_t z_t ++ (rc5 a (Q_t 5) Q_t_5 z_t_5 ++ (rc7 a (Q_t_5 0) Q_t_5_0 z_t_5_0))) (fun r => r = y) := by
  intro dp
  induction dp with
  | zero => intros; rename_i h; cases h
  | succ dp ih =>
    intros
    rename_i h
    have e1 : 1 + 1 * (dp + 1) = 1 + 1 * dp + 1 := by omega
    have e2 : 23 + 32 * (dp + 1) = 23 + 32 * dp + 32 := by omega
    rw [e1, e2]
    exact gmX8_rowMean l D a ih (by omega) (by omega) h

def fX8_seed (z_t : Sx) (z_t_5 : Sx) (z_t_5_1 : Sx) (x1 : Int32) : Option (Int32 × Sx) := if 0 ≤ x1 then some (gI z_t_5_1 4, sI z_t_5_1 4 x1) else some ((-1), z_t_5_1)

set_option maxHeartbeats 4000000 in
set_option maxRecDepth 100000 in
theorem mX8_seed (l : Launch) (D : va_G) (a : Nat → ClassId) {q_t : Nat} {Q_t : Nat → Nat} {z_t : Sx} {Q_t_5 : Nat → Nat} {z_t_5 : Sx} {Q_t_5_1 : Nat → Nat} {z_t_5_1 : Sx} {x1 : Int32} {y : Int32 × Sx} (h : fX8_seed z_t z_t_5 z_t_5_1 x1 = some y) (sz : Nat) : CMi (S := Unit) l MX8_seed 0 0 0 0 D a [.ref q_t, .int x1] (rc8 a q_t Q_t z_t ++ (rc5 a (Q_t 5) Q_t_5 z_t_5 ++ (rc0 a (Q_t_5 1) Q_t_5_1 z_t_5_1))) sz (fun r _ => r = y.1) (fun _ => rc8 a q_t Q_t z_t ++ (rc5 a (Q_t 5) Q_t_5 z_t_5 ++ (rc0 a (Q_t_5 1) Q_t_5_1 y.2))) := by
  unfold fX8_seed at h
  refine entMi (by decide) (Nat.le_of_ble_eq_true rfl) ?_
  intro p e s m below meth c C hK A hA hP hD ls hl
  obtain ⟨hx, hb, hml, hown, hts, hr, hlocks, hnm⟩ := id C
  have hb : c.code = cX8_seed := hb
  have hown : s.vm.findClass RX8 = some m.cls := hown
  have hS : va_S A s.heap s.heap [] := va_S.rf
  have hl : lv_has ls 3 [(0, .ref q_t), (1, .int x1)] := hl
  refine lv_iload_n hx hb dX8_seed_0 rfl (lv_at hl 1 rfl) ?_
  refine lv_if_ge (tgt := 6) hx hb dX8_seed_1 (by decide) (fun c1 => ?_) (fun c1 => ?_)
  · have h := ite_t c1 h
    refine lv_aload_n hx hb dX8_seed_6 rfl (lv_at hl 0 rfl) ?_
    refine va_get (D := D) (v := .ref (Q_t 5)) (C := RX8) (T := TX8) (N := 11) hx hb hts iX8 hown hK.1 hP 0 rfl rfl 5 (by decide) (hts _ t_305) (fun _ h9 => h9) rfl dX8_seed_7 ?_
    refine va_get (D := D) (v := .ref (Q_t_5 1)) (C := RX5) (T := TX5) (N := 8) hx hb hts iX5 hown hK.1 hP 2 rfl rfl 1 (by decide) (hts _ t_163) (fun _ h9 => h9) rfl dX8_seed_10 ?_
    refine va_get (D := D) (v := .int (gI z_t_5_1 4)) (C := RX0) (T := TX0) (N := 6) hx hb hts iX0 hown hK.1 hP 5 rfl rfl 4 (by decide) (hts _ t_143) (fun _ h9 => h9) rfl dX8_seed_13 ?_
    refine lv_istore_n (lv' := [(2, .int (gI z_t_5_1 4)), (0, .ref q_t), (1, .int x1)]) hx hb dX8_seed_16 rfl hl (by decide) rfl (fun ls hl => ?_)
    refine lv_aload_n hx hb dX8_seed_17 rfl (lv_at hl 1 rfl) ?_
    refine va_get (D := D) (v := .ref (Q_t 5)) (C := RX8) (T := TX8) (N := 11) hx hb hts iX8 hown hK.1 hP 0 rfl rfl 5 (by decide) (hts _ t_305) (fun _ h9 => h9) rfl dX8_seed_18 ?_
    refine va_get (D := D) (v := .ref (Q_t_5 1)) (C := RX5) (T := TX5) (N := 8) hx hb hts iX5 hown hK.1 hP 2 rfl rfl 1 (by decide) (hts _ t_163) (fun _ h9 => h9) rfl dX8_seed_21 ?_
    refine lv_iload_n hx hb dX8_seed_24 rfl (lv_at hl 2 rfl) ?_
    refine va_put (D := D) (v := .int x1) (C := RX0) (T := TX0) (N := 6) hx hb hts iX0 tyX0 tyX0_ok nmX0 hown hK.1 hP hD hS 5 rfl rfl 4 (by decide) (hts _ t_143) (fun _ h9 => h9) rfl (tyX0_ok 4 (by decide)) rfl rfl (Nat.le_of_ble_eq_true rfl) dX8_seed_25 (fun H locs hP hD hS => ?_)
    have hP : va_P D classes (rc8 a q_t Q_t z_t ++ (rc5 a (Q_t 5) Q_t_5 z_t_5 ++ (rc0 a (Q_t_5 1) Q_t_5_1 (sI z_t_5_1 4 x1)))) H := hP
    have hD : va_D A (rc8 a q_t Q_t z_t ++ (rc5 a (Q_t 5) Q_t_5 z_t_5 ++ (rc0 a (Q_t_5 1) Q_t_5_1 (sI z_t_5_1 4 x1)))) := hD
    refine lv_iload_n hx hb dX8_seed_28 rfl (lv_at hl 0 rfl) ?_
    exact rMi C rfl h (g := fun y => rc8 a q_t Q_t z_t ++ (rc5 a (Q_t 5) Q_t_5 z_t_5 ++ (rc0 a (Q_t_5 1) Q_t_5_1 y.2))) (pr := fun y => y.1) hP hD hS dX8_seed_29
  · have h := ite_f c1 h
    refine lv_iconst (v := (-1)) hx hb dX8_seed_4 (by decide) ?_
    exact rMi C rfl h (g := fun y => rc8 a q_t Q_t z_t ++ (rc5 a (Q_t 5) Q_t_5 z_t_5 ++ (rc0 a (Q_t_5 1) Q_t_5_1 y.2))) (pr := fun y => y.1) hP hD hS dX8_seed_5

def fX8_seen (z_t : Sx) (z_t_5 : Sx) (z_t_5_0 : Sx) (z_t_5_1 : Sx) (x1 : Int32) (x2 : Int32) : Option (Int64) := bd (fX8_isFault z_t z_t_5 z_t_5_0 x1) (fun r2 => if r2 = 0 then some (-1) else if x2 < 0 then some (-1) else if x2 ≤ 1 then bd (fX8_has (gI z_t_5_1 2) x1) (fun r7 => if r7 = 0 then bd (fX0_gone z_t_5_1) (fun r10 => bd (fX8_rowMean 16 z_t z_t_5 z_t_5_0 0 r10 (gI z_t_5_1 0) x1) (fun r12 => bd (fX8_hundreds (gI z_t_5 6)) (fun r14 => bd (fX8_partOf r12 r14 x2) (fun r16 => some r16)))) else some 1) else some (-1))

set_option maxHeartbeats 4000000 in
set_option maxRecDepth 100000 in
theorem mX8_seen (l : Launch) (D : va_G) (a : Nat → ClassId) {q_t : Nat} {Q_t : Nat → Nat} {z_t : Sx} {Q_t_5 : Nat → Nat} {z_t_5 : Sx} {Q_t_5_0 : Nat → Nat} {z_t_5_0 : Sx} {Q_t_5_1 : Nat → Nat} {z_t_5_1 : Sx} {x1 : Int32} {x2 : Int32} {y : Int64} (h : fX8_seen z_t z_t_5 z_t_5_0 z_t_5_1 x1 x2 = some y) : CRl l MX8_seen 18 567 D a [.ref q_t, .int x1, .int x2] (rc8 a q_t Q_t z_t ++ (rc5 a (Q_t 5) Q_t_5 z_t_5 ++ (rc7 a (Q_t_5 0) Q_t_5_0 z_t_5_0 ++ (rc0 a (Q_t_5 1) Q_t_5_1 z_t_5_1)))) (fun r => r = y) := by
  unfold fX8_seen at h
  refine entR (by decide) (Nat.le_of_ble_eq_true rfl) ?_
  intro p e s m below meth c C hK hP ls hl
  obtain ⟨hx, hb, hml, hown, hts, hr, hlocks, hnm⟩ := id C
  have hb : c.code = cX8_seen := hb
  have hown : s.vm.findClass RX8 = some m.cls := hown
  have hl : lv_has ls 5 [(0, .ref q_t), (1, .int x1), (2, .int x2)] := hl
  refine lv_aload_n hx hb dX8_seen_0 rfl (lv_at hl 0 rfl) ?_
  refine lv_iload_n hx hb dX8_seen_1 rfl (lv_at hl 1 rfl) ?_
  obtain ⟨r2, hc1, h⟩ := bd_some h
  refine cRi (runV (As := [.int x1]) (rest := []) C (mX8_isFault l D a hc1) lk_V_8_139 okN_X8_isFault ⟨Nat.le_of_ble_eq_true rfl, Nat.le_of_ble_eq_true rfl⟩ ⟨rfl, rfl⟩ (preV (preR hK (P_of_map (wc := rc8 a q_t Q_t z_t ++ (rc5 a (Q_t 5) Q_t_5 z_t_5 ++ (rc7 a (Q_t_5 0) Q_t_5_0 z_t_5_0))) hP [0, 1, 2, 3, 4, 5, 6, 7, 8, 9, 10, 11, 12, 13, 14, 15, 16, 17] rfl)) (recvOf hK hP 0 rfl (ci := 8) rfl)) hl.1 rfl (Nat.le_of_ble_eq_true rfl) dX8_seen_2 ⟨Nat.le_of_ble_eq_true rfl, Nat.le_of_ble_eq_true rfl⟩) ?_
  refine lv_if_eq (tgt := 17) hx hb dX8_seen_5 (by decide) (fun c3 => ?_) (fun c3 => ?_)
  · have h := ite_t c3 h
    refine lv_ldc2 hx hb hown (hts _ t_753) dX8_seen_17 ?_
    exact rRl C rfl (Option.some.inj h) dX8_seen_20
  · have h := ite_f c3 h
    refine lv_iload_n hx hb dX8_seen_8 rfl (lv_at hl 2 rfl) ?_
    refine lv_if_lt (tgt := 17) hx hb dX8_seen_9 (by decide) (fun c4 => ?_) (fun c4 => ?_)
    · have h := ite_t c4 h
      refine lv_ldc2 hx hb hown (hts _ t_753) dX8_seen_17 ?_
      exact rRl C rfl (Option.some.inj h) dX8_seen_20
    · have h := ite_f c4 h
      refine lv_iload_n hx hb dX8_seen_12 rfl (lv_at hl 2 rfl) ?_
      refine lv_iconst (v := 1) hx hb dX8_seen_13 (by decide) ?_
      refine lv_icmp_le (tgt := 21) hx hb dX8_seen_14 (by decide) (fun c5 => ?_) (fun c5 => ?_)
      · have h := ite_t c5 h
        refine lv_aload_n hx hb dX8_seen_21 rfl (lv_at hl 0 rfl) ?_
        refine va_get (D := D) (v := .ref (Q_t 5)) (C := RX8) (T := TX8) (N := 11) hx hb hts iX8 hown hK.1 hP 0 rfl rfl 5 (by decide) (hts _ t_305) (fun _ h9 => h9) rfl dX8_seen_22 ?_
        refine va_get (D := D) (v := .ref (Q_t_5 1)) (C := RX5) (T := TX5) (N := 8) hx hb hts iX5 hown hK.1 hP 2 rfl rfl 1 (by decide) (hts _ t_163) (fun _ h9 => h9) rfl dX8_seen_25 ?_
        refine va_get (D := D) (v := .int (gI z_t_5_1 2)) (C := RX0) (T := TX0) (N := 6) hx hb hts iX0 hown hK.1 hP 18 rfl rfl 2 (by decide) (hts _ t_138) (fun _ h9 => h9) rfl dX8_seen_28 ?_
        refine lv_iload_n hx hb dX8_seen_31 rfl (lv_at hl 1 rfl) ?_
        obtain ⟨r7, hc6, h⟩ := bd_some h
        refine cRi (runS (As := [.int (gI z_t_5_1 2), .int x1]) (rest := []) C (mX8_has l D a hc6) lk_S_8_161 okN_X8_has ⟨Nat.le_of_ble_eq_true rfl, Nat.le_of_ble_eq_true rfl⟩ ⟨rfl, rfl⟩ (preR hK (P_of_map (wc := []) hP [] rfl)) hl.1 rfl (Nat.le_of_ble_eq_true rfl) dX8_seen_32 ⟨Nat.le_of_ble_eq_true rfl, Nat.le_of_ble_eq_true rfl⟩) ?_
        refine lv_if_eq (tgt := 40) hx hb dX8_seen_35 (by decide) (fun c8 => ?_) (fun c8 => ?_)
        · have h := ite_t c8 h
          refine lv_aload_n hx hb dX8_seen_40 rfl (lv_at hl 0 rfl) ?_
          refine lv_iconst (v := 0) hx hb dX8_seen_41 (by decide) ?_
          refine lv_aload_n hx hb dX8_seen_42 rfl (lv_at hl 0 rfl) ?_
          refine va_get (D := D) (v := .ref (Q_t 5)) (C := RX8) (T := TX8) (N := 11) hx hb hts iX8 hown hK.1 hP 0 rfl rfl 5 (by decide) (hts _ t_305) (fun _ h9 => h9) rfl dX8_seen_43 ?_
          refine va_get (D := D) (v := .ref (Q_t_5 1)) (C := RX5) (T := TX5) (N := 8) hx hb hts iX5 hown hK.1 hP 2 rfl rfl 1 (by decide) (hts _ t_163) (fun _ h9 => h9) rfl dX8_seen_46 ?_
          obtain ⟨r10, hc9, h⟩ := bd_some h
          refine cRi (runV (As := []) (rest := [.int 0, .ref q_t]) C (mX0_gone l D a hc9) lk_V_8_171 okN_X0_gone ⟨Nat.le_of_ble_eq_true rfl, Nat.le_of_ble_eq_true rfl⟩ ⟨rfl, rfl⟩ (preV (preR hK (P_of_map (wc := rc0 a (Q_t_5 1) Q_t_5_1 z_t_5_1) hP [18, 19] rfl)) (recvOf hK hP 18 rfl (ci := 0) rfl)) hl.1 rfl (Nat.le_of_ble_eq_true rfl) dX8_seen_49 ⟨Nat.le_of_ble_eq_true rfl, Nat.le_of_ble_eq_true rfl⟩) ?_
          refine lv_aload_n hx hb dX8_seen_52 rfl (lv_at hl 0 rfl) ?_
          refine va_get (D := D) (v := .ref (Q_t 5)) (C := RX8) (T := TX8) (N := 11) hx hb hts iX8 hown hK.1 hP 0 rfl rfl 5 (by decide) (hts _ t_305) (fun _ h9 => h9) rfl dX8_seen_53 ?_
          refine va_get (D := D) (v := .ref (Q_t_5 1)) (C := RX5) (T := TX5) (N := 8) hx hb hts iX5 hown hK.1 hP 2 rfl rfl 1 (by decide) (hts _ t_163) (fun _ h9 => h9) rfl dX8_seen_56 ?_
          refine va_get (D := D) (v := .int (gI z_t_5_1 0)) (C := RX0) (T := TX0) (N := 6) hx hb hts iX0 hown hK.1 hP 18 rfl rfl 0 (by decide) (hts _ t_132) (fun _ h9 => h9) rfl dX8_seen_59 ?_
          refine lv_iload_n hx hb dX8_seen_62 rfl (lv_at hl 1 rfl) ?_
          obtain ⟨r12, hc11, h⟩ := bd_some h
          refine cRl (runV (As := [.int 0, .int r10, .int (gI z_t_5_1 0), .int x1]) (rest := []) C (mX8_rowMean l D a 16 hc11) lk_V_8_245 okN_X8_rowMean ⟨Nat.le_of_ble_eq_true rfl, Nat.le_of_ble_eq_true rfl⟩ ⟨rfl, rfl⟩ (preV (preR hK (P_of_map (wc := rc8 a q_t Q_t z_t ++ (rc5 a (Q_t 5) Q_t_5 z_t_5 ++ (rc7 a (Q_t_5 0) Q_t_5_0 z_t_5_0))) hP [0, 1, 2, 3, 4, 5, 6, 7, 8, 9, 10, 11, 12, 13, 14, 15, 16, 17] rfl)) (recvOf hK hP 0 rfl (ci := 8) rfl)) hl.1 rfl (Nat.le_of_ble_eq_true rfl) dX8_seen_63 ⟨Nat.le_of_ble_eq_true rfl, Nat.le_of_ble_eq_true rfl⟩) ?_
          refine lv_lstore_n (lv' := [(3, .long r12), (0, .ref q_t), (1, .int x1), (2, .int x2)]) hx hb dX8_seen_66 rfl hl (by decide) rfl (fun ls hl => ?_)
          refine lv_lload_n hx hb dX8_seen_67 rfl (lv_at hl 0 rfl) ?_
          refine lv_aload_n hx hb dX8_seen_68 rfl (lv_at hl 1 rfl) ?_
          refine va_get (D := D) (v := .ref (Q_t 5)) (C := RX8) (T := TX8) (N := 11) hx hb hts iX8 hown hK.1 hP 0 rfl rfl 5 (by decide) (hts _ t_305) (fun _ h9 => h9) rfl dX8_seen_69 ?_
          refine va_get (D := D) (v := .int (gI z_t_5 6)) (C := RX5) (T := TX5) (N := 8) hx hb hts iX5 hown hK.1 hP 2 rfl rfl 6 (by decide) (hts _ t_173) (fun _ h9 => h9) rfl dX8_seen_72 ?_
          obtain ⟨r14, hc13, h⟩ := bd_some h
          refine cRl (runS (As := [.int (gI z_t_5 6)]) (rest := [.long r12]) C (mX8_hundreds l D a hc13) lk_S_8_249 okN_X8_hundreds ⟨Nat.le_of_ble_eq_true rfl, Nat.le_of_ble_eq_true rfl⟩ ⟨rfl, rfl⟩ (preR hK (P_of_map (wc := []) hP [] rfl)) hl.1 rfl (Nat.le_of_ble_eq_true rfl) dX8_seen_75 ⟨Nat.le_of_ble_eq_true rfl, Nat.le_of_ble_eq_true rfl⟩) ?_
          refine lv_iload_n hx hb dX8_seen_78 rfl (lv_at hl 3 rfl) ?_
          obtain ⟨r16, hc15, h⟩ := bd_some h
          refine cRl (runS (As := [.long r12, .long r14, .int x2]) (rest := []) C (mX8_partOf l D a hc15) lk_S_8_253 okN_X8_partOf ⟨Nat.le_of_ble_eq_true rfl, Nat.le_of_ble_eq_true rfl⟩ ⟨rfl, rfl⟩ (preR hK (P_of_map (wc := []) hP [] rfl)) hl.1 rfl (Nat.le_of_ble_eq_true rfl) dX8_seen_79 ⟨Nat.le_of_ble_eq_true rfl, Nat.le_of_ble_eq_true rfl⟩) ?_
          exact rRl C rfl (Option.some.inj h) dX8_seen_82
        · have h := ite_f c8 h
          refine lv_lconst (v := 1) hx hb dX8_seen_38 (by decide) ?_
          exact rRl C rfl (Option.some.inj h) dX8_seen_39
      · have h := ite_f c5 h
        refine lv_ldc2 hx hb hown (hts _ t_753) dX8_seen_17 ?_
        exact rRl C rfl (Option.some.inj h) dX8_seen_20

def fX8_weeks_none (z_t : Sx) (B_t_2 : Nat → Option Nat) (z_t_5 : Sx) (z_t_5_0 : Sx) (x1 : Int32) (x2 : Int32) (x3 : Int32) : Option (Int32) := bd (fX8_ruleForWork z_t B_t_2 z_t_5 z_t_5_0 x1) (fun r2 => some (-1))

set_option maxHeartbeats 4000000 in
set_option maxRecDepth 100000 in
theorem mX8_weeks_none (l : Launch) (D : va_G) (a : Nat → ClassId) {q_t : Nat} {Q_t : Nat → Nat} {z_t : Sx} {B_t_2 : Nat → Option Nat} {Q_t_5 : Nat → Nat} {z_t_5 : Sx} {Q_t_5_0 : Nat → Nat} {z_t_5_0 : Sx} {x1 : Int32} {x2 : Int32} {x3 : Int32} (hm : fX8_ruleForWork z_t B_t_2 z_t_5 z_t_5_0 x1 = some none) {y : Int32} (h : fX8_weeks_none z_t B_t_2 z_t_5 z_t_5_0 x1 x2 x3 = some y) : CRi l MX8_weeks 2 42 D a [.ref q_t, .int x1, .int x2, .int x3] (rc8 a q_t Q_t z_t ++ (rb4 a (Q_t 2) 6 B_t_2 ++ (rc5 a (Q_t 5) Q_t_5 z_t_5 ++ (rc7 a (Q_t_5 0) Q_t_5_0 z_t_5_0)))) (fun r => r = y) := by
  unfold fX8_weeks_none at h
  refine entR (by decide) (Nat.le_of_ble_eq_true rfl) ?_
  intro p e s m below meth c C hK hP ls hl
  obtain ⟨hx, hb, hml, hown, hts, hr, hlocks, hnm⟩ := id C
  have hb : c.code = cX8_weeks := hb
  have hown : s.vm.findClass RX8 = some m.cls := hown
  have hl : lv_has ls 7 [(0, .ref q_t), (1, .int x1), (2, .int x2), (3, .int x3)] := hl
  refine lv_aload_n hx hb dX8_weeks_0 rfl (lv_at hl 0 rfl) ?_
  refine lv_iload_n hx hb dX8_weeks_1 rfl (lv_at hl 1 rfl) ?_
  obtain ⟨r2, hc1, h⟩ := bd_some h
  refine cRq (runV (As := [.int x1]) (rest := []) C (mX8_ruleForWork l D a hc1) lk_V_8_228 okN_X8_ruleForWork ⟨Nat.le_of_ble_eq_true rfl, Nat.le_of_ble_eq_true rfl⟩ ⟨rfl, rfl⟩ (preV (preR hK hP) (recvOf hK hP 0 rfl (ci := 8) rfl)) hl.1 rfl (Nat.le_of_ble_eq_true rfl) dX8_weeks_2 ⟨Nat.le_of_ble_eq_true rfl, Nat.le_of_ble_eq_true rfl⟩) ?_
  obtain rfl := Option.some.inj (hc1.symm.trans hm)
  refine lv_astoreN (lv' := [(4, .null), (0, .ref q_t), (1, .int x1), (2, .int x2), (3, .int x3)]) hx hb dX8_weeks_5 hl (by decide) rfl (fun ls hl => ?_)
  refine lv_aloadN hx hb dX8_weeks_7 (lv_at hl 0 rfl) ?_
  refine lv_ifnullN (tgt := 32) hx hb dX8_weeks_9 (by decide) ?_
  refine lv_iconst (v := (-1)) hx hb dX8_weeks_32 (by decide) ?_
  exact rRi C rfl (Option.some.inj h) dX8_weeks_33

def lX8_weeks_some_54 (z_t : Sx) (B_t_2 : Nat → Option Nat) (z_t_5 : Sx) (z_t_5_0 : Sx) (z_t_5_1 : Sx) (nc_R : Nat) (z_R : Sx) (x2 : Int32) (x3 : Int32) : Nat → Sx → Sx → Int32 → Int32 → Option (Int32 × Sx × Sx)
  | 0, _, _, _, _ => none
  | n + 1, z_t_7, z_t_9, x5, x6 => if (x2 * 6) ≤ x6 then some (x5, z_t_7, z_t_9) else bd (fX0_begin z_t_7 (gI z_t_5_0 1)) (fun z11 => bd3 (fX2_play z_t_9 z_t_5_0 nc_R z_R z11) (fun r13 z14 z15 => jn (fun (i17 : Int32) (i18 : Int32) => lX8_weeks_some_54 z_t B_t_2 z_t_5 z_t_5_0 z_t_5_1 nc_R z_R x2 x3 n z15 z14 (i18 + i17) (x6 + 1)) (fun J16 => if x3 = 0 then J16 (gI z15 1) x5 else if x3 = 1 then bd (fJ6_bitCount_0f7a4 (gI z15 2)) (fun r26 => J16 r26 x5) else bd (fX0_gone z15) (fun r22 => bd (fX7_hiddenCoins z_t_5_0 r22) (fun r24 => J16 r24 x5)))))
def fX8_weeks_some (z_t : Sx) (B_t_2 : Nat → Option Nat) (z_t_5 : Sx) (z_t_5_0 : Sx) (z_t_5_1 : Sx) (z_t_7 : Sx) (z_t_9 : Sx) (nc_R : Nat) (z_R : Sx) (x1 : Int32) (x2 : Int32) (x3 : Int32) : Option (Int32 × Sx × Sx) := bd (fX8_ruleForWork z_t B_t_2 z_t_5 z_t_5_0 x1) (fun r2 => if x2 < 1 then some ((-1), z_t_7, z_t_9) else if 20 < x2 then some ((-1), z_t_7, z_t_9) else if x3 < 0 then some ((-1), z_t_7, z_t_9) else if x3 ≤ 2 then bd (fX0_copyFrom z_t_7 z_t_5_1) (fun z8 => lX8_weeks_some_54 z_t B_t_2 z_t_5 z_t_5_0 z_t_5_1 nc_R z_R x2 x3 FU z8 z_t_9 0 0) else some ((-1), z_t_7, z_t_9))

set_option maxHeartbeats 4000000 in
set_option maxRecDepth 100000 in
theorem wX8_weeks_some_54 {p : Program} {l : Launch} {e : Env} {s : State} {m : MethodId} {below : List Frame} {meth : Method} {c : Code} {D : va_G} {a : Nat → ClassId} {A : Nat → Prop} {q_t : Nat} {Q_t : Nat → Nat} {Q_t_5 : Nat → Nat} {Q_t_5_0 : Nat → Nat} {Q_t_5_1 : Nat → Nat} {Q_t_7 : Nat → Nat} {Q_t_9 : Nat → Nat} {Q_R : Nat → Nat} {z_t : Sx} {B_t_2 : Nat → Option Nat} {z_t_5 : Sx} {z_t_5_0 : Sx} {z_t_5_1 : Sx} {nc_R : Nat} {z_R : Sx} {x10 : Int32} {x20 : Int32} {x30 : Int32} {x2 : Int32} {x3 : Int32} (C : Cx p s m #[.ref q_t, .int x10, .int x20, .int x30] meth c MX8_weeks) (hK : KK D a s) (hA : ∀ q, s.heap.size ≤ q → A q) {y : Int32 × Sx × Sx} : ∀ (n : Nat) (z_t_7 : Sx) (z_t_9 : Sx) (x5 : Int32) (x6 : Int32) (H : Heap) (locs : List Loc) (ls : Array Slot), lX8_weeks_some_54 z_t B_t_2 z_t_5 z_t_5_0 z_t_5_1 nc_R z_R x2 x3 n z_t_7 z_t_9 x5 x6 = some y → va_P D classes (rc8 a q_t Q_t z_t ++ (rb4 a (Q_t 2) 6 B_t_2 ++ (rc5 a (Q_t 5) Q_t_5 z_t_5 ++ (rc7 a (Q_t_5 0) Q_t_5_0 z_t_5_0 ++ (rc0 a (Q_t_5 1) Q_t_5_1 z_t_5_1 ++ (rc0 a (Q_t 7) Q_t_7 z_t_7 ++ (rc2 a (Q_t 9) Q_t_9 z_t_9 ++ (rc3 a q_R Q_R nc_R z_R)))))))) H → va_D A (rc8 a q_t Q_t z_t ++ (rb4 a (Q_t 2) 6 B_t_2 ++ (rc5 a (Q_t 5) Q_t_5 z_t_5 ++ (rc7 a (Q_t_5 0) Q_t_5_0 z_t_5_0 ++ (rc0 a (Q_t_5 1) Q_t_5_1 z_t_5_1 ++ (rc0 a (Q_t 7) Q_t_7 z_t_7 ++ (rc2 a (Q_t 9) Q_t_9 z_t_9 ++ (rc3 a q_R Q_R nc_R z_R)))))))) → va_S A s.heap H locs → lv_has ls 7 [(0, .ref q_t), (2, .int x2), (3, .int x3), (4, .ref q_R), (5, .int x5), (6, .int x6)] → W p l e (rmM 6 0 0 162) s m #[.ref q_t, .int x10, .int x20, .int x30] below meth c H locs 0 0 (MQ below (va_Qi (fun r (_ : Unit) => r = y.1) (Bw D A (fun _ => rc8 a q_t Q_t z_t ++ (rb4 a (Q_t 2) 6 B_t_2 ++ (rc5 a (Q_t 5) Q_t_5 z_t_5 ++ (rc7 a (Q_t_5 0) Q_t_5_0 z_t_5_0 ++ (rc0 a (Q_t_5 1) Q_t_5_1 z_t_5_1 ++ (rc0 a (Q_t 7) Q_t_7 y.2.1 ++ (rc2 a (Q_t 9) Q_t_9 y.2.2 ++ (rc3 a q_R Q_R nc_R z_R))))))))) A) #[.ref q_t, .int x10, .int x20, .int x30] s 0 0 A) (F0 m 54 ls []) := by
  obtain ⟨hx, hb, hml, hown, hts, hr, hlocks, hnm⟩ := id C
  have hb : c.code = cX8_weeks := hb
  have hown : s.vm.findClass RX8 = some m.cls := hown
  intro n
  induction n with
  | zero => intro z_t_7 z_t_9 x5 x6 H locs ls h; rw [lX8_weeks_some_54] at h; cases h
  | succ n ih =>
    intro z_t_7 z_t_9 x5 x6 H locs ls h hP hD hS hl
    rw [lX8_weeks_some_54] at h
    refine lv_iload hx hb dX8_weeks_54 (lv_at hl 5 rfl) ?_
    refine lv_iload_n hx hb dX8_weeks_56 rfl (lv_at hl 1 rfl) ?_
    refine lv_bipush (v := 6) hx hb dX8_weeks_57 (by decide) ?_
    refine lv_imul hx hb dX8_weeks_59 ?_
    refine lv_icmp_ge (tgt := 161) hx hb dX8_weeks_60 (by decide) (fun c9 => ?_) (fun c9 => ?_)
    · have h := ite_t c9 h
      refine lv_iload hx hb dX8_weeks_161 (lv_at hl 4 rfl) ?_
      exact rMi C rfl h (g := fun y => rc8 a q_t Q_t z_t ++ (rb4 a (Q_t 2) 6 B_t_2 ++ (rc5 a (Q_t 5) Q_t_5 z_t_5 ++ (rc7 a (Q_t_5 0) Q_t_5_0 z_t_5_0 ++ (rc0 a (Q_t_5 1) Q_t_5_1 z_t_5_1 ++ (rc0 a (Q_t 7) Q_t_7 y.2.1 ++ (rc2 a (Q_t 9) Q_t_9 y.2.2 ++ (rc3 a q_R Q_R nc_R z_R)))))))) (pr := fun y => y.1) hP hD hS dX8_weeks_163
    · have h := ite_f c9 h
      refine lv_aload_n hx hb dX8_weeks_63 rfl (lv_at hl 0 rfl) ?_
      refine va_get (D := D) (v := .ref (Q_t 7)) (C := RX8) (T := TX8) (N := 11) hx hb hts iX8 hown hK.1 hP 0 rfl rfl 7 (by decide) (hts _ t_307) (fun _ h9 => h9) rfl dX8_weeks_64 ?_
      refine lv_aload_n hx hb dX8_weeks_67 rfl (lv_at hl 0 rfl) ?_
      refine va_get (D := D) (v := .ref (Q_t 5)) (C := RX8) (T := TX8) (N := 11) hx hb hts iX8 hown hK.1 hP 0 rfl rfl 5 (by decide) (hts _ t_305) (fun _ h9 => h9) rfl dX8_weeks_68 ?_
      refine va_get (D := D) (v := .ref (Q_t_5 0)) (C := RX5) (T := TX5) (N := 8) hx hb hts iX5 hown hK.1 hP 3 rfl rfl 0 (by decide) (hts _ t_161) (fun _ h9 => h9) rfl dX8_weeks_71 ?_
      refine va_get (D := D) (v := .int (gI z_t_5_0 1)) (C := RX7) (T := TX7) (N := 18) hx hb hts iX7 hown hK.1 hP 6 rfl rfl 1 (by decide) (hts _ t_41) (fun _ h9 => h9) rfl dX8_weeks_74 ?_
      obtain ⟨z11, hc10, h⟩ := bd_some h
      refine cMv (runV (As := [.int (gI z_t_5_0 1)]) (rest := []) C (mX0_begin l D a hc10 H.size) lk_V_8_225 okN_X0_begin ⟨Nat.le_of_ble_eq_true rfl, Nat.le_of_ble_eq_true rfl⟩ ⟨rfl, rfl⟩ (preV (preM hK (P_of_map (wc := rc0 a (Q_t 7) Q_t_7 z_t_7) hP [21, 22] rfl) (hD.sub (ws' := rc0 a (Q_t 7) Q_t_7 z_t_7) [21, 22] (by decide) rfl)) (recvOf hK hP 21 rfl (ci := 0) rfl)) hl.1 rfl (Nat.le_of_ble_eq_true rfl) dX8_weeks_77 ⟨Nat.le_of_ble_eq_true rfl, Nat.le_of_ble_eq_true rfl⟩) hP hD hS hA [21, 22] [0, 1, 2, 3, 4, 5, 6, 7, 8, 9, 10, 11, 12, 13, 14, 15, 16, 17, 18, 19, 20, 23, 24, 25, 26, 27, 28, 29] [0, 1, 2, 3, 4, 5, 6, 7, 8, 9, 10, 11, 12, 13, 14, 15, 16, 17, 18, 19, 20, 28, 29, 21, 22, 23, 24, 25, 26, 27] rfl rfl (by decide) (by decide) (fw := rc8 a q_t Q_t z_t ++ (rb4 a (Q_t 2) 6 B_t_2 ++ (rc5 a (Q_t 5) Q_t_5 z_t_5 ++ (rc7 a (Q_t_5 0) Q_t_5_0 z_t_5_0 ++ (rc0 a (Q_t_5 1) Q_t_5_1 z_t_5_1 ++ (rc0 a (Q_t 7) Q_t_7 z11 ++ (rc2 a (Q_t 9) Q_t_9 z_t_9 ++ (rc3 a q_R Q_R nc_R z_R)))))))) rfl (by decide) (fun H locs hP hD hS => ?_)
      have hP : va_P D classes (rc8 a q_t Q_t z_t ++ (rb4 a (Q_t 2) 6 B_t_2 ++ (rc5 a (Q_t 5) Q_t_5 z_t_5 ++ (rc7 a (Q_t_5 0) Q_t_5_0 z_t_5_0 ++ (rc0 a (Q_t_5 1) Q_t_5_1 z_t_5_1 ++ (rc0 a (Q_t 7) Q_t_7 z11 ++ (rc2 a (Q_t 9) Q_t_9 z_t_9 ++ (rc3 a q_R Q_R nc_R z_R)))))))) H := hP
      have hD : va_D A (rc8 a q_t Q_t z_t ++ (rb4 a (Q_t 2) 6 B_t_2 ++ (rc5 a (Q_t 5) Q_t_5 z_t_5 ++ (rc7 a (Q_t_5 0) Q_t_5_0 z_t_5_0 ++ (rc0 a (Q_t_5 1) Q_t_5_1 z_t_5_1 ++ (rc0 a (Q_t 7) Q_t_7 z11 ++ (rc2 a (Q_t 9) Q_t_9 z_t_9 ++ (rc3 a q_R Q_R nc_R z_R)))))))) := hD
      refine lv_aload_n hx hb dX8_weeks_80 rfl (lv_at hl 0 rfl) ?_
      refine va_get (D := D) (v := .ref (Q_t 9)) (C := RX8) (T := TX8) (N := 11) hx hb hts iX8 hown hK.1 hP 0 rfl rfl 9 (by decide) (hts _ t_309) (fun _ h9 => h9) rfl dX8_weeks_81 ?_
      refine lv_aload_n hx hb dX8_weeks_84 rfl (lv_at hl 0 rfl) ?_
      refine va_get (D := D) (v := .ref (Q_t 5)) (C := RX8) (T := TX8) (N := 11) hx hb hts iX8 hown hK.1 hP 0 rfl rfl 5 (by decide) (hts _ t_305) (fun _ h9 => h9) rfl dX8_weeks_85 ?_
      refine va_get (D := D) (v := .ref (Q_t_5 0)) (C := RX5) (T := TX5) (N := 8) hx hb hts iX5 hown hK.1 hP 3 rfl rfl 0 (by decide) (hts _ t_161) (fun _ h9 => h9) rfl dX8_weeks_88 ?_
      refine lv_aload hx hb dX8_weeks_91 (lv_at hl 3 rfl) ?_
      refine lv_aload_n hx hb dX8_weeks_93 rfl (lv_at hl 0 rfl) ?_
      refine va_get (D := D) (v := .ref (Q_t 7)) (C := RX8) (T := TX8) (N := 11) hx hb hts iX8 hown hK.1 hP 0 rfl rfl 7 (by decide) (hts _ t_307) (fun _ h9 => h9) rfl dX8_weeks_94 ?_
      obtain ⟨r13, z14, z15, hc12, h⟩ := bd3_some h
      refine cMi (runV (As := [.ref (Q_t_5 0), .ref q_R, .ref (Q_t 7)]) (rest := []) C (mX2_play l D a hc12 H.size) lk_V_8_232 okN_X2_play ⟨Nat.le_of_ble_eq_true rfl, Nat.le_of_ble_eq_true rfl⟩ ⟨rfl, rfl⟩ (preV (preM hK (P_of_map (wc := rc2 a (Q_t 9) Q_t_9 z_t_9 ++ (rc7 a (Q_t_5 0) Q_t_5_0 z_t_5_0 ++ (rc3 a q_R Q_R nc_R z_R ++ (rc0 a (Q_t 7) Q_t_7 z11)))) hP [23, 24, 6, 7, 8, 9, 10, 11, 12, 13, 14, 15, 16, 17, 18, 25, 26, 27, 28, 29, 21, 22] rfl) (hD.sub (ws' := rc2 a (Q_t 9) Q_t_9 z_t_9 ++ (rc7 a (Q_t_5 0) Q_t_5_0 z_t_5_0 ++ (rc3 a q_R Q_R nc_R z_R ++ (rc0 a (Q_t 7) Q_t_7 z11)))) [23, 24, 6, 7, 8, 9, 10, 11, 12, 13, 14, 15, 16, 17, 18, 25, 26, 27, 28, 29, 21, 22] (by decide) rfl)) (recvOf hK hP 23 rfl (ci := 2) rfl)) hl.1 rfl (Nat.le_of_ble_eq_true rfl) dX8_weeks_97 ⟨Nat.le_of_ble_eq_true rfl, Nat.le_of_ble_eq_true rfl⟩) hP hD hS hA [23, 24, 6, 7, 8, 9, 10, 11, 12, 13, 14, 15, 16, 17, 18, 25, 26, 27, 28, 29, 21, 22] [0, 1, 2, 3, 4, 5, 19, 20] [0, 1, 2, 3, 4, 5, 10, 11, 12, 13, 14, 15, 16, 17, 18, 19, 20, 21, 22, 6, 7, 28, 29, 8, 9, 23, 24, 25, 26, 27] rfl rfl (by decide) (by decide) (fw := rc8 a q_t Q_t z_t ++ (rb4 a (Q_t 2) 6 B_t_2 ++ (rc5 a (Q_t 5) Q_t_5 z_t_5 ++ (rc7 a (Q_t_5 0) Q_t_5_0 z_t_5_0 ++ (rc0 a (Q_t_5 1) Q_t_5_1 z_t_5_1 ++ (rc0 a (Q_t 7) Q_t_7 z15 ++ (rc2 a (Q_t 9) Q_t_9 z14 ++ (rc3 a q_R Q_R nc_R z_R)))))))) rfl (by decide) (fun H locs hP hD hS => ?_)
      have hP : va_P D classes (rc8 a q_t Q_t z_t ++ (rb4 a (Q_t 2) 6 B_t_2 ++ (rc5 a (Q_t 5) Q_t_5 z_t_5 ++ (rc7 a (Q_t_5 0) Q_t_5_0 z_t_5_0 ++ (rc0 a (Q_t_5 1) Q_t_5_1 z_t_5_1 ++ (rc0 a (Q_t 7) Q_t_7 z15 ++ (rc2 a (Q_t 9) Q_t_9 z14 ++ (rc3 a q_R Q_R nc_R z_R)))))))) H := hP
      have hD : va_D A (rc8 a q_t Q_t z_t ++ (rb4 a (Q_t 2) 6 B_t_2 ++ (rc5 a (Q_t 5) Q_t_5 z_t_5 ++ (rc7 a (Q_t_5 0) Q_t_5_0 z_t_5_0 ++ (rc0 a (Q_t_5 1) Q_t_5_1 z_t_5_1 ++ (rc0 a (Q_t 7) Q_t_7 z15 ++ (rc2 a (Q_t 9) Q_t_9 z14 ++ (rc3 a q_R Q_R nc_R z_R)))))))) := hD
      refine lv_pop hx hb dX8_weeks_100 rfl ?_
      refine lv_iload hx hb dX8_weeks_101 (lv_at hl 4 rfl) ?_
      refine lv_iload_n hx hb dX8_weeks_103 rfl (lv_at hl 2 rfl) ?_
      obtain ⟨J16, eJ16, h⟩ := jn_some h
      have hJ16 : ∀ (i17 : Int32) (i18 : Int32) (H : Heap) (locs : List Loc) (ls : Array Slot), J16 i17 i18 = some y → va_P D classes (rc8 a q_t Q_t z_t ++ (rb4 a (Q_t 2) 6 B_t_2 ++ (rc5 a (Q_t 5) Q_t_5 z_t_5 ++ (rc7 a (Q_t_5 0) Q_t_5_0 z_t_5_0 ++ (rc0 a (Q_t_5 1) Q_t_5_1 z_t_5_1 ++ (rc0 a (Q_t 7) Q_t_7 z15 ++ (rc2 a (Q_t 9) Q_t_9 z14 ++ (rc3 a q_R Q_R nc_R z_R)))))))) H → va_D A (rc8 a q_t Q_t z_t ++ (rb4 a (Q_t 2) 6 B_t_2 ++ (rc5 a (Q_t 5) Q_t_5 z_t_5 ++ (rc7 a (Q_t_5 0) Q_t_5_0 z_t_5_0 ++ (rc0 a (Q_t_5 1) Q_t_5_1 z_t_5_1 ++ (rc0 a (Q_t 7) Q_t_7 z15 ++ (rc2 a (Q_t 9) Q_t_9 z14 ++ (rc3 a q_R Q_R nc_R z_R)))))))) → va_S A s.heap H locs → lv_has ls 7 [(0, .ref q_t), (2, .int x2), (3, .int x3), (4, .ref q_R), (6, .int x6)] → W p l e (rmM 6 0 0 162) s m #[.ref q_t, .int x10, .int x20, .int x30] below meth c H locs 0 0 (MQ below (va_Qi (fun r (_ : Unit) => r = y.1) (Bw D A (fun _ => rc8 a q_t Q_t z_t ++ (rb4 a (Q_t 2) 6 B_t_2 ++ (rc5 a (Q_t 5) Q_t_5 z_t_5 ++ (rc7 a (Q_t_5 0) Q_t_5_0 z_t_5_0 ++ (rc0 a (Q_t_5 1) Q_t_5_1 z_t_5_1 ++ (rc0 a (Q_t 7) Q_t_7 y.2.1 ++ (rc2 a (Q_t 9) Q_t_9 y.2.2 ++ (rc3 a q_R Q_R nc_R z_R))))))))) A) #[.ref q_t, .int x10, .int x20, .int x30] s 0 0 A) (F0 m 152 ls [.int i17, .int i18]) := by
        intro i17 i18 H locs ls h hP hD hS hl
        rw [eJ16] at h
        refine lv_iadd hx hb dX8_weeks_152 ?_
        refine lv_istore (lv' := [(5, .int (i18 + i17)), (0, .ref q_t), (2, .int x2), (3, .int x3), (4, .ref q_R), (6, .int x6)]) hx hb dX8_weeks_153 hl (by decide) rfl (fun ls hl => ?_)
        refine lv_iinc (v := x6 + 1) (lv' := [(6, .int (x6 + 1)), (5, .int (i18 + i17)), (0, .ref q_t), (2, .int x2), (3, .int x3), (4, .ref q_R)]) hx hb dX8_weeks_155 hl (k := 5) rfl rfl (by decide) rfl (fun ls hl => ?_)
        refine lv_goto (tgt := 54) hx hb dX8_weeks_158 (by decide) ?_
        exact ih z15 z14 (i18 + i17) (x6 + 1) _ _ ls h hP hD hS (lv_sub hl [2, 3, 4, 5, 1, 0] rfl)
      refine lv_if_ne (tgt := 117) hx hb dX8_weeks_104 (by decide) (fun c19 => ?_) (fun c19 => ?_)
      · have h := ite_f c19 h
        refine lv_iload_n hx hb dX8_weeks_117 rfl (lv_at hl 2 rfl) ?_
        refine lv_iconst (v := 1) hx hb dX8_weeks_118 (by decide) ?_
        refine lv_icmp_ne (tgt := 135) hx hb dX8_weeks_119 (by decide) (fun c20 => ?_) (fun c20 => ?_)
        · have h := ite_f c20 h
          refine lv_aload_n hx hb dX8_weeks_135 rfl (lv_at hl 0 rfl) ?_
          refine va_get (D := D) (v := .ref (Q_t 5)) (C := RX8) (T := TX8) (N := 11) hx hb hts iX8 hown hK.1 hP 0 rfl rfl 5 (by decide) (hts _ t_305) (fun _ h9 => h9) rfl dX8_weeks_136 ?_
          refine va_get (D := D) (v := .ref (Q_t_5 0)) (C := RX5) (T := TX5) (N := 8) hx hb hts iX5 hown hK.1 hP 3 rfl rfl 0 (by decide) (hts _ t_161) (fun _ h9 => h9) rfl dX8_weeks_139 ?_
          refine lv_aload_n hx hb dX8_weeks_142 rfl (lv_at hl 0 rfl) ?_
          refine va_get (D := D) (v := .ref (Q_t 7)) (C := RX8) (T := TX8) (N := 11) hx hb hts iX8 hown hK.1 hP 0 rfl rfl 7 (by decide) (hts _ t_307) (fun _ h9 => h9) rfl dX8_weeks_143 ?_
          obtain ⟨r22, hc21, h⟩ := bd_some h
          refine cRi (runV (As := []) (rest := [.ref (Q_t_5 0), .int x5]) C (mX0_gone l D a hc21) lk_V_8_171 okN_X0_gone ⟨Nat.le_of_ble_eq_true rfl, Nat.le_of_ble_eq_true rfl⟩ ⟨rfl, rfl⟩ (preV (preR hK (P_of_map (wc := rc0 a (Q_t 7) Q_t_7 z15) hP [21, 22] rfl)) (recvOf hK hP 21 rfl (ci := 0) rfl)) hl.1 rfl (Nat.le_of_ble_eq_true rfl) dX8_weeks_146 ⟨Nat.le_of_ble_eq_true rfl, Nat.le_of_ble_eq_true rfl⟩) ?_
          obtain ⟨r24, hc23, h⟩ := bd_some h
          refine cRi (runV (As := [.int r22]) (rest := [.int x5]) C (mX7_hiddenCoins l D a hc23) lk_V_8_222 okN_X7_hiddenCoins ⟨Nat.le_of_ble_eq_true rfl, Nat.le_of_ble_eq_true rfl⟩ ⟨rfl, rfl⟩ (preV (preR hK (P_of_map (wc := rc7 a (Q_t_5 0) Q_t_5_0 z_t_5_0) hP [6, 7, 8, 9, 10, 11, 12, 13, 14, 15, 16, 17, 18] rfl)) (recvOf hK hP 6 rfl (ci := 7) rfl)) hl.1 rfl (Nat.le_of_ble_eq_true rfl) dX8_weeks_149 ⟨Nat.le_of_ble_eq_true rfl, Nat.le_of_ble_eq_true rfl⟩) ?_
          exact hJ16 r24 x5 _ _ ls h hP hD hS (lv_sub hl [0, 1, 2, 3, 5] rfl)
        · have h := ite_t c20 h
          refine lv_aload_n hx hb dX8_weeks_122 rfl (lv_at hl 0 rfl) ?_
          refine va_get (D := D) (v := .ref (Q_t 7)) (C := RX8) (T := TX8) (N := 11) hx hb hts iX8 hown hK.1 hP 0 rfl rfl 7 (by decide) (hts _ t_307) (fun _ h9 => h9) rfl dX8_weeks_123 ?_
          refine va_get (D := D) (v := .int (gI z15 2)) (C := RX0) (T := TX0) (N := 6) hx hb hts iX0 hown hK.1 hP 21 rfl rfl 2 (by decide) (hts _ t_138) (fun _ h9 => h9) rfl dX8_weeks_126 ?_
          obtain ⟨r26, hc25, h⟩ := bd_some h
          refine cRi (runS (As := [.int (gI z15 2)]) (rest := [.int x5]) C (mJ6_bitCount_0f7a4 l D a hc25) lk_S_8_181 okN_J6_bitCount_0f7a4 ⟨Nat.le_of_ble_eq_true rfl, Nat.le_of_ble_eq_true rfl⟩ ⟨rfl, rfl⟩ (preR hK (P_of_map (wc := []) hP [] rfl)) hl.1 rfl (Nat.le_of_ble_eq_true rfl) dX8_weeks_129 ⟨Nat.le_of_ble_eq_true rfl, Nat.le_of_ble_eq_true rfl⟩) ?_
          refine lv_goto (tgt := 152) hx hb dX8_weeks_132 (by decide) ?_
          exact hJ16 r26 x5 _ _ ls h hP hD hS (lv_sub hl [0, 1, 2, 3, 5] rfl)
      · have h := ite_t c19 h
        refine lv_aload_n hx hb dX8_weeks_107 rfl (lv_at hl 0 rfl) ?_
        refine va_get (D := D) (v := .ref (Q_t 7)) (C := RX8) (T := TX8) (N := 11) hx hb hts iX8 hown hK.1 hP 0 rfl rfl 7 (by decide) (hts _ t_307) (fun _ h9 => h9) rfl dX8_weeks_108 ?_
        refine va_get (D := D) (v := .int (gI z15 1)) (C := RX0) (T := TX0) (N := 6) hx hb hts iX0 hown hK.1 hP 21 rfl rfl 1 (by decide) (hts _ t_135) (fun _ h9 => h9) rfl dX8_weeks_111 ?_
        refine lv_goto (tgt := 152) hx hb dX8_weeks_114 (by decide) ?_
        exact hJ16 (gI z15 1) x5 _ _ ls h hP hD hS (lv_sub hl [0, 1, 2, 3, 5] rfl)

set_option maxHeartbeats 4000000 in
set_option maxRecDepth 100000 in
theorem mX8_weeks_some (l : Launch) (D : va_G) (a : Nat → ClassId) {q_R : Nat} {q_t : Nat} {Q_t : Nat → Nat} {z_t : Sx} {B_t_2 : Nat → Option Nat} {Q_t_5 : Nat → Nat} {z_t_5 : Sx} {Q_t_5_0 : Nat → Nat} {z_t_5_0 : Sx} {Q_t_5_1 : Nat → Nat} {z_t_5_1 : Sx} {Q_t_7 : Nat → Nat} {z_t_7 : Sx} {Q_t_9 : Nat → Nat} {z_t_9 : Sx} {Q_R : Nat → Nat} {nc_R : Nat} {z_R : Sx} {x1 : Int32} {x2 : Int32} {x3 : Int32} (hm : fX8_ruleForWork z_t B_t_2 z_t_5 z_t_5_0 x1 = some (some q_R)) {y : Int32 × Sx × Sx} (h : fX8_weeks_some z_t B_t_2 z_t_5 z_t_5_0 z_t_5_1 z_t_7 z_t_9 nc_R z_R x1 x2 x3 = some y) (sz : Nat) : CMi (S := Unit) l MX8_weeks 6 162 0 0 D a [.ref q_t, .int x1, .int x2, .int x3] (rc8 a q_t Q_t z_t ++ (rb4 a (Q_t 2) 6 B_t_2 ++ (rc5 a (Q_t 5) Q_t_5 z_t_5 ++ (rc7 a (Q_t_5 0) Q_t_5_0 z_t_5_0 ++ (rc0 a (Q_t_5 1) Q_t_5_1 z_t_5_1 ++ (rc0 a (Q_t 7) Q_t_7 z_t_7 ++ (rc2 a (Q_t 9) Q_t_9 z_t_9 ++ (rc3 a q_R Q_R nc_R z_R)))))))) sz (fun r _ => r = y.1) (fun _ => rc8 a q_t Q_t z_t ++ (rb4 a (Q_t 2) 6 B_t_2 ++ (rc5 a (Q_t 5) Q_t_5 z_t_5 ++ (rc7 a (Q_t_5 0) Q_t_5_0 z_t_5_0 ++ (rc0 a (Q_t_5 1) Q_t_5_1 z_t_5_1 ++ (rc0 a (Q_t 7) Q_t_7 y.2.1 ++ (rc2 a (Q_t 9) Q_t_9 y.2.2 ++ (rc3 a q_R Q_R nc_R z_R)))))))) := by
  unfold fX8_weeks_some at h
  refine entMi (by decide) (Nat.le_of_ble_eq_true rfl) ?_
  intro p e s m below meth c C hK A hA hP hD ls hl
  obtain ⟨hx, hb, hml, hown, hts, hr, hlocks, hnm⟩ := id C
  have hb : c.code = cX8_weeks := hb
  have hown : s.vm.findClass RX8 = some m.cls := hown
  have hS : va_S A s.heap s.heap [] := va_S.rf
  have hl : lv_has ls 7 [(0, .ref q_t), (1, .int x1), (2, .int x2), (3, .int x3)] := hl
  refine lv_aload_n hx hb dX8_weeks_0 rfl (lv_at hl 0 rfl) ?_
  refine lv_iload_n hx hb dX8_weeks_1 rfl (lv_at hl 1 rfl) ?_
  obtain ⟨r2, hc1, h⟩ := bd_some h
  refine cRq (runV (As := [.int x1]) (rest := []) C (mX8_ruleForWork l D a hc1) lk_V_8_228 okN_X8_ruleForWork ⟨Nat.le_of_ble_eq_true rfl, Nat.le_of_ble_eq_true rfl⟩ ⟨rfl, rfl⟩ (preV (preR hK (P_of_map (wc := rc8 a q_t Q_t z_t ++ (rb4 a (Q_t 2) 6 B_t_2 ++ (rc5 a (Q_t 5) Q_t_5 z_t_5 ++ (rc7 a (Q_t_5 0) Q_t_5_0 z_t_5_0)))) hP [0, 1, 2, 3, 4, 5, 6, 7, 8, 9, 10, 11, 12, 13, 14, 15, 16, 17, 18] rfl)) (recvOf hK hP 0 rfl (ci := 8) rfl)) hl.1 rfl (Nat.le_of_ble_eq_true rfl) dX8_weeks_2 ⟨Nat.le_of_ble_eq_true rfl, Nat.le_of_ble_eq_true rfl⟩) ?_
  obtain rfl := Option.some.inj (hc1.symm.trans hm)
  refine lv_astore (lv' := [(4, .ref q_R), (0, .ref q_t), (1, .int x1), (2, .int x2), (3, .int x3)]) hx hb dX8_weeks_5 hl (by decide) rfl (fun ls hl => ?_)
  refine lv_aload hx hb dX8_weeks_7 (lv_at hl 0 rfl) ?_
  refine lv_ifnull hx hb dX8_weeks_9 ?_
  refine lv_iload_n hx hb dX8_weeks_12 rfl (lv_at hl 3 rfl) ?_
  refine lv_iconst (v := 1) hx hb dX8_weeks_13 (by decide) ?_
  refine lv_icmp_lt (tgt := 32) hx hb dX8_weeks_14 (by decide) (fun c3 => ?_) (fun c3 => ?_)
  · have h := ite_t c3 h
    refine lv_iconst (v := (-1)) hx hb dX8_weeks_32 (by decide) ?_
    exact rMi C rfl h (g := fun y => rc8 a q_t Q_t z_t ++ (rb4 a (Q_t 2) 6 B_t_2 ++ (rc5 a (Q_t 5) Q_t_5 z_t_5 ++ (rc7 a (Q_t_5 0) Q_t_5_0 z_t_5_0 ++ (rc0 a (Q_t_5 1) Q_t_5_1 z_t_5_1 ++ (rc0 a (Q_t 7) Q_t_7 y.2.1 ++ (rc2 a (Q_t 9) Q_t_9 y.2.2 ++ (rc3 a q_R Q_R nc_R z_R)))))))) (pr := fun y => y.1) hP hD hS dX8_weeks_33
  · have h := ite_f c3 h
    refine lv_iload_n hx hb dX8_weeks_17 rfl (lv_at hl 3 rfl) ?_
    refine lv_bipush (v := 20) hx hb dX8_weeks_18 (by decide) ?_
    refine lv_icmp_gt (tgt := 32) hx hb dX8_weeks_20 (by decide) (fun c4 => ?_) (fun c4 => ?_)
    · have h := ite_t c4 h
      refine lv_iconst (v := (-1)) hx hb dX8_weeks_32 (by decide) ?_
      exact rMi C rfl h (g := fun y => rc8 a q_t Q_t z_t ++ (rb4 a (Q_t 2) 6 B_t_2 ++ (rc5 a (Q_t 5) Q_t_5 z_t_5 ++ (rc7 a (Q_t_5 0) Q_t_5_0 z_t_5_0 ++ (rc0 a (Q_t_5 1) Q_t_5_1 z_t_5_1 ++ (rc0 a (Q_t 7) Q_t_7 y.2.1 ++ (rc2 a (Q_t 9) Q_t_9 y.2.2 ++ (rc3 a q_R Q_R nc_R z_R)))))))) (pr := fun y => y.1) hP hD hS dX8_weeks_33
    · have h := ite_f c4 h
      refine lv_iload_n hx hb dX8_weeks_23 rfl (lv_at hl 4 rfl) ?_
      refine lv_if_lt (tgt := 32) hx hb dX8_weeks_24 (by decide) (fun c5 => ?_) (fun c5 => ?_)
      · have h := ite_t c5 h
        refine lv_iconst (v := (-1)) hx hb dX8_weeks_32 (by decide) ?_
        exact rMi C rfl h (g := fun y => rc8 a q_t Q_t z_t ++ (rb4 a (Q_t 2) 6 B_t_2 ++ (rc5 a (Q_t 5) Q_t_5 z_t_5 ++ (rc7 a (Q_t_5 0) Q_t_5_0 z_t_5_0 ++ (rc0 a (Q_t_5 1) Q_t_5_1 z_t_5_1 ++ (rc0 a (Q_t 7) Q_t_7 y.2.1 ++ (rc2 a (Q_t 9) Q_t_9 y.2.2 ++ (rc3 a q_R Q_R nc_R z_R)))))))) (pr := fun y => y.1) hP hD hS dX8_weeks_33
      · have h := ite_f c5 h
        refine lv_iload_n hx hb dX8_weeks_27 rfl (lv_at hl 4 rfl) ?_
        refine lv_iconst (v := 2) hx hb dX8_weeks_28 (by decide) ?_
        refine lv_icmp_le (tgt := 34) hx hb dX8_weeks_29 (by decide) (fun c6 => ?_) (fun c6 => ?_)
        · have h := ite_t c6 h
          refine lv_aload_n hx hb dX8_weeks_34 rfl (lv_at hl 1 rfl) ?_
          refine va_get (D := D) (v := .ref (Q_t 7)) (C := RX8) (T := TX8) (N := 11) hx hb hts iX8 hown hK.1 hP 0 rfl rfl 7 (by decide) (hts _ t_307) (fun _ h9 => h9) rfl dX8_weeks_35 ?_
          refine lv_aload_n hx hb dX8_weeks_38 rfl (lv_at hl 1 rfl) ?_
          refine va_get (D := D) (v := .ref (Q_t 5)) (C := RX8) (T := TX8) (N := 11) hx hb hts iX8 hown hK.1 hP 0 rfl rfl 5 (by decide) (hts _ t_305) (fun _ h9 => h9) rfl dX8_weeks_39 ?_
          refine va_get (D := D) (v := .ref (Q_t_5 1)) (C := RX5) (T := TX5) (N := 8) hx hb hts iX5 hown hK.1 hP 3 rfl rfl 1 (by decide) (hts _ t_163) (fun _ h9 => h9) rfl dX8_weeks_42 ?_
          obtain ⟨z8, hc7, h⟩ := bd_some h
          refine cMv (runV (As := [.ref (Q_t_5 1)]) (rest := []) C (mX0_copyFrom l D a hc7 s.heap.size) lk_V_8_236 okN_X0_copyFrom ⟨Nat.le_of_ble_eq_true rfl, Nat.le_of_ble_eq_true rfl⟩ ⟨rfl, rfl⟩ (preV (preM hK (P_of_map (wc := rc0 a (Q_t 7) Q_t_7 z_t_7 ++ (rc0 a (Q_t_5 1) Q_t_5_1 z_t_5_1)) hP [21, 22, 19, 20] rfl) (hD.sub (ws' := rc0 a (Q_t 7) Q_t_7 z_t_7 ++ (rc0 a (Q_t_5 1) Q_t_5_1 z_t_5_1)) [21, 22, 19, 20] (by decide) rfl)) (recvOf hK hP 21 rfl (ci := 0) rfl)) hl.1 rfl (Nat.le_of_ble_eq_true rfl) dX8_weeks_45 ⟨Nat.le_of_ble_eq_true rfl, Nat.le_of_ble_eq_true rfl⟩) hP hD hS hA [21, 22, 19, 20] [0, 1, 2, 3, 4, 5, 6, 7, 8, 9, 10, 11, 12, 13, 14, 15, 16, 17, 18, 23, 24, 25, 26, 27, 28, 29] [0, 1, 2, 3, 4, 5, 6, 7, 8, 9, 10, 11, 12, 13, 14, 15, 16, 17, 18, 28, 29, 26, 27, 19, 20, 21, 22, 23, 24, 25] rfl rfl (by decide) (by decide) (fw := rc8 a q_t Q_t z_t ++ (rb4 a (Q_t 2) 6 B_t_2 ++ (rc5 a (Q_t 5) Q_t_5 z_t_5 ++ (rc7 a (Q_t_5 0) Q_t_5_0 z_t_5_0 ++ (rc0 a (Q_t_5 1) Q_t_5_1 z_t_5_1 ++ (rc0 a (Q_t 7) Q_t_7 z8 ++ (rc2 a (Q_t 9) Q_t_9 z_t_9 ++ (rc3 a q_R Q_R nc_R z_R)))))))) rfl (by decide) (fun H locs hP hD hS => ?_)
          have hP : va_P D classes (rc8 a q_t Q_t z_t ++ (rb4 a (Q_t 2) 6 B_t_2 ++ (rc5 a (Q_t 5) Q_t_5 z_t_5 ++ (rc7 a (Q_t_5 0) Q_t_5_0 z_t_5_0 ++ (rc0 a (Q_t_5 1) Q_t_5_1 z_t_5_1 ++ (rc0 a (Q_t 7) Q_t_7 z8 ++ (rc2 a (Q_t 9) Q_t_9 z_t_9 ++ (rc3 a q_R Q_R nc_R z_R)))))))) H := hP
          have hD : va_D A (rc8 a q_t Q_t z_t ++ (rb4 a (Q_t 2) 6 B_t_2 ++ (rc5 a (Q_t 5) Q_t_5 z_t_5 ++ (rc7 a (Q_t_5 0) Q_t_5_0 z_t_5_0 ++ (rc0 a (Q_t_5 1) Q_t_5_1 z_t_5_1 ++ (rc0 a (Q_t 7) Q_t_7 z8 ++ (rc2 a (Q_t 9) Q_t_9 z_t_9 ++ (rc3 a q_R Q_R nc_R z_R)))))))) := hD
          refine lv_iconst (v := 0) hx hb dX8_weeks_48 (by decide) ?_
          refine lv_istore (lv' := [(5, .int 0), (4, .ref q_R), (0, .ref q_t), (1, .int x1), (2, .int x2), (3, .int x3)]) hx hb dX8_weeks_49 hl (by decide) rfl (fun ls hl => ?_)
          refine lv_iconst (v := 0) hx hb dX8_weeks_51 (by decide) ?_
          refine lv_istore (lv' := [(6, .int 0), (5, .int 0), (4, .ref q_R), (0, .ref q_t), (1, .int x1), (2, .int x2), (3, .int x3)]) hx hb dX8_weeks_52 hl (by decide) rfl (fun ls hl => ?_)
          refine wX8_weeks_some_54 C hK hA FU z8 z_t_9 0 0 _ _ ls h hP hD hS (lv_sub hl [3, 5, 6, 2, 1, 0] rfl)
        · have h := ite_f c6 h
          refine lv_iconst (v := (-1)) hx hb dX8_weeks_32 (by decide) ?_
          exact rMi C rfl h (g := fun y => rc8 a q_t Q_t z_t ++ (rb4 a (Q_t 2) 6 B_t_2 ++ (rc5 a (Q_t 5) Q_t_5 z_t_5 ++ (rc7 a (Q_t_5 0) Q_t_5_0 z_t_5_0 ++ (rc0 a (Q_t_5 1) Q_t_5_1 z_t_5_1 ++ (rc0 a (Q_t 7) Q_t_7 y.2.1 ++ (rc2 a (Q_t 9) Q_t_9 y.2.2 ++ (rc3 a q_R Q_R nc_R z_R)))))))) (pr := fun y => y.1) hP hD hS dX8_weeks_33

def fX8_worth (z_t : Sx) (z_t_5 : Sx) (z_t_5_0 : Sx) (z_t_5_1 : Sx) (x1 : Int32) : Option (Int64) := bd (fX8_hasWork z_t z_t_5 z_t_5_0) (fun r2 => if r2 = 0 then some (-1) else if x1 < 0 then some (-1) else if x1 ≤ 1 then bd (fX0_gone z_t_5_1) (fun r7 => bd (fX8_rowMean 16 z_t z_t_5 z_t_5_0 0 r7 (gI z_t_5_1 0) (-1)) (fun r9 => bd (fX8_hundreds (gI z_t_5 6)) (fun r11 => bd (fX8_partOf r9 r11 x1) (fun r13 => some r13)))) else some (-1))

set_option maxHeartbeats 4000000 in
set_option maxRecDepth 100000 in
theorem mX8_worth (l : Launch) (D : va_G) (a : Nat → ClassId) {q_t : Nat} {Q_t : Nat → Nat} {z_t : Sx} {Q_t_5 : Nat → Nat} {z_t_5 : Sx} {Q_t_5_0 : Nat → Nat} {z_t_5_0 : Sx} {Q_t_5_1 : Nat → Nat} {z_t_5_1 : Sx} {x1 : Int32} {y : Int64} (h : fX8_worth z_t z_t_5 z_t_5_0 z_t_5_1 x1 = some y) : CRl l MX8_worth 18 567 D a [.ref q_t, .int x1] (rc8 a q_t Q_t z_t ++ (rc5 a (Q_t 5) Q_t_5 z_t_5 ++ (rc7 a (Q_t_5 0) Q_t_5_0 z_t_5_0 ++ (rc0 a (Q_t_5 1) Q_t_5_1 z_t_5_1)))) (fun r => r = y) := by
  unfold fX8_worth at h
  refine entR (by decide) (Nat.le_of_ble_eq_true rfl) ?_
  intro p e s m below meth c C hK hP ls hl
  obtain ⟨hx, hb, hml, hown, hts, hr, hlocks, hnm⟩ := id C
  have hb : c.code = cX8_worth := hb
  have hown : s.vm.findClass RX8 = some m.cls := hown
  have hl : lv_has ls 4 [(0, .ref q_t), (1, .int x1)] := hl
  refine lv_aload_n hx hb dX8_worth_0 rfl (lv_at hl 0 rfl) ?_
  obtain ⟨r2, hc1, h⟩ := bd_some h
  refine cRi (runV (As := []) (rest := []) C (mX8_hasWork l D a hc1) lk_V_8_213 okN_X8_hasWork ⟨Nat.le_of_ble_eq_true rfl, Nat.le_of_ble_eq_true rfl⟩ ⟨rfl, rfl⟩ (preV (preR hK (P_of_map (wc := rc8 a q_t Q_t z_t ++ (rc5 a (Q_t 5) Q_t_5 z_t_5 ++ (rc7 a (Q_t_5 0) Q_t_5_0 z_t_5_0))) hP [0, 1, 2, 3, 4, 5, 6, 7, 8, 9, 10, 11, 12, 13, 14, 15, 16, 17] rfl)) (recvOf hK hP 0 rfl (ci := 8) rfl)) hl.1 rfl (Nat.le_of_ble_eq_true rfl) dX8_worth_1 ⟨Nat.le_of_ble_eq_true rfl, Nat.le_of_ble_eq_true rfl⟩) ?_
  refine lv_if_eq (tgt := 16) hx hb dX8_worth_4 (by decide) (fun c3 => ?_) (fun c3 => ?_)
  · have h := ite_t c3 h
    refine lv_ldc2 hx hb hown (hts _ t_753) dX8_worth_16 ?_
    exact rRl C rfl (Option.some.inj h) dX8_worth_19
  · have h := ite_f c3 h
    refine lv_iload_n hx hb dX8_worth_7 rfl (lv_at hl 1 rfl) ?_
    refine lv_if_lt (tgt := 16) hx hb dX8_worth_8 (by decide) (fun c4 => ?_) (fun c4 => ?_)
    · have h := ite_t c4 h
      refine lv_ldc2 hx hb hown (hts _ t_753) dX8_worth_16 ?_
      exact rRl C rfl (Option.some.inj h) dX8_worth_19
    · have h := ite_f c4 h
      refine lv_iload_n hx hb dX8_worth_11 rfl (lv_at hl 1 rfl) ?_
      refine lv_iconst (v := 1) hx hb dX8_worth_12 (by decide) ?_
      refine lv_icmp_le (tgt := 20) hx hb dX8_worth_13 (by decide) (fun c5 => ?_) (fun c5 => ?_)
      · have h := ite_t c5 h
        refine lv_aload_n hx hb dX8_worth_20 rfl (lv_at hl 0 rfl) ?_
        refine lv_iconst (v := 0) hx hb dX8_worth_21 (by decide) ?_
        refine lv_aload_n hx hb dX8_worth_22 rfl (lv_at hl 0 rfl) ?_
        refine va_get (D := D) (v := .ref (Q_t 5)) (C := RX8) (T := TX8) (N := 11) hx hb hts iX8 hown hK.1 hP 0 rfl rfl 5 (by decide) (hts _ t_305) (fun _ h9 => h9) rfl dX8_worth_23 ?_
        refine va_get (D := D) (v := .ref (Q_t_5 1)) (C := RX5) (T := TX5) (N := 8) hx hb hts iX5 hown hK.1 hP 2 rfl rfl 1 (by decide) (hts _ t_163) (fun _ h9 => h9) rfl dX8_worth_26 ?_
        obtain ⟨r7, hc6, h⟩ := bd_some h
        refine cRi (runV (As := []) (rest := [.int 0, .ref q_t]) C (mX0_gone l D a hc6) lk_V_8_171 okN_X0_gone ⟨Nat.le_of_ble_eq_true rfl, Nat.le_of_ble_eq_true rfl⟩ ⟨rfl, rfl⟩ (preV (preR hK (P_of_map (wc := rc0 a (Q_t_5 1) Q_t_5_1 z_t_5_1) hP [18, 19] rfl)) (recvOf hK hP 18 rfl (ci := 0) rfl)) hl.1 rfl (Nat.le_of_ble_eq_true rfl) dX8_worth_29 ⟨Nat.le_of_ble_eq_true rfl, Nat.le_of_ble_eq_true rfl⟩) ?_
        refine lv_aload_n hx hb dX8_worth_32 rfl (lv_at hl 0 rfl) ?_
        refine va_get (D := D) (v := .ref (Q_t 5)) (C := RX8) (T := TX8) (N := 11) hx hb hts iX8 hown hK.1 hP 0 rfl rfl 5 (by decide) (hts _ t_305) (fun _ h9 => h9) rfl dX8_worth_33 ?_
        refine va_get (D := D) (v := .ref (Q_t_5 1)) (C := RX5) (T := TX5) (N := 8) hx hb hts iX5 hown hK.1 hP 2 rfl rfl 1 (by decide) (hts _ t_163) (fun _ h9 => h9) rfl dX8_worth_36 ?_
        refine va_get (D := D) (v := .int (gI z_t_5_1 0)) (C := RX0) (T := TX0) (N := 6) hx hb hts iX0 hown hK.1 hP 18 rfl rfl 0 (by decide) (hts _ t_132) (fun _ h9 => h9) rfl dX8_worth_39 ?_
        refine lv_iconst (v := (-1)) hx hb dX8_worth_42 (by decide) ?_
        obtain ⟨r9, hc8, h⟩ := bd_some h
        refine cRl (runV (As := [.int 0, .int r7, .int (gI z_t_5_1 0), .int (-1)]) (rest := []) C (mX8_rowMean l D a 16 hc8) lk_V_8_245 okN_X8_rowMean ⟨Nat.le_of_ble_eq_true rfl, Nat.le_of_ble_eq_true rfl⟩ ⟨rfl, rfl⟩ (preV (preR hK (P_of_map (wc := rc8 a q_t Q_t z_t ++ (rc5 a (Q_t 5) Q_t_5 z_t_5 ++ (rc7 a (Q_t_5 0) Q_t_5_0 z_t_5_0))) hP [0, 1, 2, 3, 4, 5, 6, 7, 8, 9, 10, 11, 12, 13, 14, 15, 16, 17] rfl)) (recvOf hK hP 0 rfl (ci := 8) rfl)) hl.1 rfl (Nat.le_of_ble_eq_true rfl) dX8_worth_43 ⟨Nat.le_of_ble_eq_true rfl, Nat.le_of_ble_eq_true rfl⟩) ?_
        refine lv_lstore_n (lv' := [(2, .long r9), (0, .ref q_t), (1, .int x1)]) hx hb dX8_worth_46 rfl hl (by decide) rfl (fun ls hl => ?_)
        refine lv_lload_n hx hb dX8_worth_47 rfl (lv_at hl 0 rfl) ?_
        refine lv_aload_n hx hb dX8_worth_48 rfl (lv_at hl 1 rfl) ?_
        refine va_get (D := D) (v := .ref (Q_t 5)) (C := RX8) (T := TX8) (N := 11) hx hb hts iX8 hown hK.1 hP 0 rfl rfl 5 (by decide) (hts _ t_305) (fun _ h9 => h9) rfl dX8_worth_49 ?_
        refine va_get (D := D) (v := .int (gI z_t_5 6)) (C := RX5) (T := TX5) (N := 8) hx hb hts iX5 hown hK.1 hP 2 rfl rfl 6 (by decide) (hts _ t_173) (fun _ h9 => h9) rfl dX8_worth_52 ?_
        obtain ⟨r11, hc10, h⟩ := bd_some h
        refine cRl (runS (As := [.int (gI z_t_5 6)]) (rest := [.long r9]) C (mX8_hundreds l D a hc10) lk_S_8_249 okN_X8_hundreds ⟨Nat.le_of_ble_eq_true rfl, Nat.le_of_ble_eq_true rfl⟩ ⟨rfl, rfl⟩ (preR hK (P_of_map (wc := []) hP [] rfl)) hl.1 rfl (Nat.le_of_ble_eq_true rfl) dX8_worth_55 ⟨Nat.le_of_ble_eq_true rfl, Nat.le_of_ble_eq_true rfl⟩) ?_
        refine lv_iload_n hx hb dX8_worth_58 rfl (lv_at hl 2 rfl) ?_
        obtain ⟨r13, hc12, h⟩ := bd_some h
        refine cRl (runS (As := [.long r9, .long r11, .int x1]) (rest := []) C (mX8_partOf l D a hc12) lk_S_8_253 okN_X8_partOf ⟨Nat.le_of_ble_eq_true rfl, Nat.le_of_ble_eq_true rfl⟩ ⟨rfl, rfl⟩ (preR hK (P_of_map (wc := []) hP [] rfl)) hl.1 rfl (Nat.le_of_ble_eq_true rfl) dX8_worth_59 ⟨Nat.le_of_ble_eq_true rfl, Nat.le_of_ble_eq_true rfl⟩) ?_
        exact rRl C rfl (Option.some.inj h) dX8_worth_62
      · have h := ite_f c5 h
        refine lv_ldc2 hx hb hown (hts _ t_753) dX8_worth_16 ?_
        exact rRl C rfl (Option.some.inj h) dX8_worth_19

def fX8_would_none (z_t : Sx) (B_t_2 : Nat → Option Nat) (z_t_5 : Sx) (z_t_5_0 : Sx) (x1 : Int32) (x2 : Int32) : Option (Int32) := bd (fX8_ruleForWork z_t B_t_2 z_t_5 z_t_5_0 x1) (fun r2 => some (-1000000))

set_option maxHeartbeats 4000000 in
set_option maxRecDepth 100000 in
theorem mX8_would_none (l : Launch) (D : va_G) (a : Nat → ClassId) {q_t : Nat} {Q_t : Nat → Nat} {z_t : Sx} {B_t_2 : Nat → Option Nat} {Q_t_5 : Nat → Nat} {z_t_5 : Sx} {Q_t_5_0 : Nat → Nat} {z_t_5_0 : Sx} {x1 : Int32} {x2 : Int32} (hm : fX8_ruleForWork z_t B_t_2 z_t_5 z_t_5_0 x1 = some none) {y : Int32} (h : fX8_would_none z_t B_t_2 z_t_5 z_t_5_0 x1 x2 = some y) : CRi l MX8_would 2 42 D a [.ref q_t, .int x1, .int x2] (rc8 a q_t Q_t z_t ++ (rb4 a (Q_t 2) 6 B_t_2 ++ (rc5 a (Q_t 5) Q_t_5 z_t_5 ++ (rc7 a (Q_t_5 0) Q_t_5_0 z_t_5_0)))) (fun r => r = y) := by
  unfold fX8_would_none at h
  refine entR (by decide) (Nat.le_of_ble_eq_true rfl) ?_
  intro p e s m below meth c C hK hP ls hl
  obtain ⟨hx, hb, hml, hown, hts, hr, hlocks, hnm⟩ := id C
  have hb : c.code = cX8_would := hb
  have hown : s.vm.findClass RX8 = some m.cls := hown
  have hl : lv_has ls 5 [(0, .ref q_t), (1, .int x1), (2, .int x2)] := hl
  refine lv_aload_n hx hb dX8_would_0 rfl (lv_at hl 0 rfl) ?_
  refine lv_iload_n hx hb dX8_would_1 rfl (lv_at hl 1 rfl) ?_
  obtain ⟨r2, hc1, h⟩ := bd_some h
  refine cRq (runV (As := [.int x1]) (rest := []) C (mX8_ruleForWork l D a hc1) lk_V_8_228 okN_X8_ruleForWork ⟨Nat.le_of_ble_eq_true rfl, Nat.le_of_ble_eq_true rfl⟩ ⟨rfl, rfl⟩ (preV (preR hK hP) (recvOf hK hP 0 rfl (ci := 8) rfl)) hl.1 rfl (Nat.le_of_ble_eq_true rfl) dX8_would_2 ⟨Nat.le_of_ble_eq_true rfl, Nat.le_of_ble_eq_true rfl⟩) ?_
  obtain rfl := Option.some.inj (hc1.symm.trans hm)
  refine lv_astore_nN (lv' := [(3, .null), (0, .ref q_t), (1, .int x1), (2, .int x2)]) hx hb dX8_would_5 rfl hl (by decide) rfl (fun ls hl => ?_)
  refine lv_aload_nN hx hb dX8_would_6 rfl (lv_at hl 0 rfl) ?_
  refine lv_ifnullN (tgt := 19) hx hb dX8_would_7 (by decide) ?_
  refine lv_ldc hx hb hown (hts _ t_640) dX8_would_19 ?_
  exact rRi C rfl (Option.some.inj h) dX8_would_21

def fX8_would_some (z_t : Sx) (B_t_2 : Nat → Option Nat) (z_t_5 : Sx) (z_t_5_0 : Sx) (z_t_5_1 : Sx) (z_t_7 : Sx) (z_t_9 : Sx) (nc_R : Nat) (z_R : Sx) (x1 : Int32) (x2 : Int32) : Option (Int32 × Sx × Sx) := bd (fX8_ruleForWork z_t B_t_2 z_t_5 z_t_5_0 x1) (fun r2 => if x2 < 0 then some ((-1000000), z_t_7, z_t_9) else if x2 ≤ 4 then bd (fX0_copyFrom z_t_7 z_t_5_1) (fun z6 => bd3 (fX2_play z_t_9 z_t_5_0 nc_R z_R z6) (fun r8 z9 z10 => if x2 = 0 then some ((gI z10 1) - (gI z_t_5_1 1), z10, z9) else if x2 = 1 then some ((gI z10 2) &&& ((gI z_t_5_1 2) ^^^ (-1)), z10, z9) else if x2 = 2 then some (gI z10 0, z10, z9) else if x2 = 3 then bd (fX0_gone z10) (fun r13 => bd (fX7_hiddenCoins z_t_5_0 r13) (fun r15 => some (r15, z10, z9))) else some (r8, z10, z9))) else some ((-1000000), z_t_7, z_t_9))

set_option maxHeartbeats 4000000 in
set_option maxRecDepth 100000 in
theorem mX8_would_some (l : Launch) (D : va_G) (a : Nat → ClassId) {q_R : Nat} {q_t : Nat} {Q_t : Nat → Nat} {z_t : Sx} {B_t_2 : Nat → Option Nat} {Q_t_5 : Nat → Nat} {z_t_5 : Sx} {Q_t_5_0 : Nat → Nat} {z_t_5_0 : Sx} {Q_t_5_1 : Nat → Nat} {z_t_5_1 : Sx} {Q_t_7 : Nat → Nat} {z_t_7 : Sx} {Q_t_9 : Nat → Nat} {z_t_9 : Sx} {Q_R : Nat → Nat} {nc_R : Nat} {z_R : Sx} {x1 : Int32} {x2 : Int32} (hm : fX8_ruleForWork z_t B_t_2 z_t_5 z_t_5_0 x1 = some (some q_R)) {y : Int32 × Sx × Sx} (h : fX8_would_some z_t B_t_2 z_t_5 z_t_5_0 z_t_5_1 z_t_7 z_t_9 nc_R z_R x1 x2 = some y) (sz : Nat) : CMi (S := Unit) l MX8_would 6 162 0 0 D a [.ref q_t, .int x1, .int x2] (rc8 a q_t Q_t z_t ++ (rb4 a (Q_t 2) 6 B_t_2 ++ (rc5 a (Q_t 5) Q_t_5 z_t_5 ++ (rc7 a (Q_t_5 0) Q_t_5_0 z_t_5_0 ++ (rc0 a (Q_t_5 1) Q_t_5_1 z_t_5_1 ++ (rc0 a (Q_t 7) Q_t_7 z_t_7 ++ (rc2 a (Q_t 9) Q_t_9 z_t_9 ++ (rc3 a q_R Q_R nc_R z_R)))))))) sz (fun r _ => r = y.1) (fun _ => rc8 a q_t Q_t z_t ++ (rb4 a (Q_t 2) 6 B_t_2 ++ (rc5 a (Q_t 5) Q_t_5 z_t_5 ++ (rc7 a (Q_t_5 0) Q_t_5_0 z_t_5_0 ++ (rc0 a (Q_t_5 1) Q_t_5_1 z_t_5_1 ++ (rc0 a (Q_t 7) Q_t_7 y.2.1 ++ (rc2 a (Q_t 9) Q_t_9 y.2.2 ++ (rc3 a q_R Q_R nc_R z_R)))))))) := by
  unfold fX8_would_some at h
  refine entMi (by decide) (Nat.le_of_ble_eq_true rfl) ?_
  intro p e s m below meth c C hK A hA hP hD ls hl
  obtain ⟨hx, hb, hml, hown, hts, hr, hlocks, hnm⟩ := id C
  have hb : c.code = cX8_would := hb
  have hown : s.vm.findClass RX8 = some m.cls := hown
  have hS : va_S A s.heap s.heap [] := va_S.rf
  have hl : lv_has ls 5 [(0, .ref q_t), (1, .int x1), (2, .int x2)] := hl
  refine lv_aload_n hx hb dX8_would_0 rfl (lv_at hl 0 rfl) ?_
  refine lv_iload_n hx hb dX8_would_1 rfl (lv_at hl 1 rfl) ?_
  obtain ⟨r2, hc1, h⟩ := bd_some h
  refine cRq (runV (As := [.int x1]) (rest := []) C (mX8_ruleForWork l D a hc1) lk_V_8_228 okN_X8_ruleForWork ⟨Nat.le_of_ble_eq_true rfl, Nat.le_of_ble_eq_true rfl⟩ ⟨rfl, rfl⟩ (preV (preR hK (P_of_map (wc := rc8 a q_t Q_t z_t ++ (rb4 a (Q_t 2) 6 B_t_2 ++ (rc5 a (Q_t 5) Q_t_5 z_t_5 ++ (rc7 a (Q_t_5 0) Q_t_5_0 z_t_5_0)))) hP [0, 1, 2, 3, 4, 5, 6, 7, 8, 9, 10, 11, 12, 13, 14, 15, 16, 17, 18] rfl)) (recvOf hK hP 0 rfl (ci := 8) rfl)) hl.1 rfl (Nat.le_of_ble_eq_true rfl) dX8_would_2 ⟨Nat.le_of_ble_eq_true rfl, Nat.le_of_ble_eq_true rfl⟩) ?_
  obtain rfl := Option.some.inj (hc1.symm.trans hm)
  refine lv_astore_n (lv' := [(3, .ref q_R), (0, .ref q_t), (1, .int x1), (2, .int x2)]) hx hb dX8_would_5 rfl hl (by decide) rfl (fun ls hl => ?_)
  refine lv_aload_n hx hb dX8_would_6 rfl (lv_at hl 0 rfl) ?_
  refine lv_ifnull hx hb dX8_would_7 ?_
  refine lv_iload_n hx hb dX8_would_10 rfl (lv_at hl 3 rfl) ?_
  refine lv_if_lt (tgt := 19) hx hb dX8_would_11 (by decide) (fun c3 => ?_) (fun c3 => ?_)
  · have h := ite_t c3 h
    refine lv_ldc hx hb hown (hts _ t_640) dX8_would_19 ?_
    exact rMi C rfl h (g := fun y => rc8 a q_t Q_t z_t ++ (rb4 a (Q_t 2) 6 B_t_2 ++ (rc5 a (Q_t 5) Q_t_5 z_t_5 ++ (rc7 a (Q_t_5 0) Q_t_5_0 z_t_5_0 ++ (rc0 a (Q_t_5 1) Q_t_5_1 z_t_5_1 ++ (rc0 a (Q_t 7) Q_t_7 y.2.1 ++ (rc2 a (Q_t 9) Q_t_9 y.2.2 ++ (rc3 a q_R Q_R nc_R z_R)))))))) (pr := fun y => y.1) hP hD hS dX8_would_21
  · have h := ite_f c3 h
    refine lv_iload_n hx hb dX8_would_14 rfl (lv_at hl 3 rfl) ?_
    refine lv_iconst (v := 4) hx hb dX8_would_15 (by decide) ?_
    refine lv_icmp_le (tgt := 22) hx hb dX8_would_16 (by decide) (fun c4 => ?_) (fun c4 => ?_)
    · have h := ite_t c4 h
      refine lv_aload_n hx hb dX8_would_22 rfl (lv_at hl 1 rfl) ?_
      refine va_get (D := D) (v := .ref (Q_t 7)) (C := RX8) (T := TX8) (N := 11) hx hb hts iX8 hown hK.1 hP 0 rfl rfl 7 (by decide) (hts _ t_307) (fun _ h9 => h9) rfl dX8_would_23 ?_
      refine lv_aload_n hx hb dX8_would_26 rfl (lv_at hl 1 rfl) ?_
      refine va_get (D := D) (v := .ref (Q_t 5)) (C := RX8) (T := TX8) (N := 11) hx hb hts iX8 hown hK.1 hP 0 rfl rfl 5 (by decide) (hts _ t_305) (fun _ h9 => h9) rfl dX8_would_27 ?_
      refine va_get (D := D) (v := .ref (Q_t_5 1)) (C := RX5) (T := TX5) (N := 8) hx hb hts iX5 hown hK.1 hP 3 rfl rfl 1 (by decide) (hts _ t_163) (fun _ h9 => h9) rfl dX8_would_30 ?_
      obtain ⟨z6, hc5, h⟩ := bd_some h
      refine cMv (runV (As := [.ref (Q_t_5 1)]) (rest := []) C (mX0_copyFrom l D a hc5 s.heap.size) lk_V_8_236 okN_X0_copyFrom ⟨Nat.le_of_ble_eq_true rfl, Nat.le_of_ble_eq_true rfl⟩ ⟨rfl, rfl⟩ (preV (preM hK (P_of_map (wc := rc0 a (Q_t 7) Q_t_7 z_t_7 ++ (rc0 a (Q_t_5 1) Q_t_5_1 z_t_5_1)) hP [21, 22, 19, 20] rfl) (hD.sub (ws' := rc0 a (Q_t 7) Q_t_7 z_t_7 ++ (rc0 a (Q_t_5 1) Q_t_5_1 z_t_5_1)) [21, 22, 19, 20] (by decide) rfl)) (recvOf hK hP 21 rfl (ci := 0) rfl)) hl.1 rfl (Nat.le_of_ble_eq_true rfl) dX8_would_33 ⟨Nat.le_of_ble_eq_true rfl, Nat.le_of_ble_eq_true rfl⟩) hP hD hS hA [21, 22, 19, 20] [0, 1, 2, 3, 4, 5, 6, 7, 8, 9, 10, 11, 12, 13, 14, 15, 16, 17, 18, 23, 24, 25, 26, 27, 28, 29] [0, 1, 2, 3, 4, 5, 6, 7, 8, 9, 10, 11, 12, 13, 14, 15, 16, 17, 18, 28, 29, 26, 27, 19, 20, 21, 22, 23, 24, 25] rfl rfl (by decide) (by decide) (fw := rc8 a q_t Q_t z_t ++ (rb4 a (Q_t 2) 6 B_t_2 ++ (rc5 a (Q_t 5) Q_t_5 z_t_5 ++ (rc7 a (Q_t_5 0) Q_t_5_0 z_t_5_0 ++ (rc0 a (Q_t_5 1) Q_t_5_1 z_t_5_1 ++ (rc0 a (Q_t 7) Q_t_7 z6 ++ (rc2 a (Q_t 9) Q_t_9 z_t_9 ++ (rc3 a q_R Q_R nc_R z_R)))))))) rfl (by decide) (fun H locs hP hD hS => ?_)
      have hP : va_P D classes (rc8 a q_t Q_t z_t ++ (rb4 a (Q_t 2) 6 B_t_2 ++ (rc5 a (Q_t 5) Q_t_5 z_t_5 ++ (rc7 a (Q_t_5 0) Q_t_5_0 z_t_5_0 ++ (rc0 a (Q_t_5 1) Q_t_5_1 z_t_5_1 ++ (rc0 a (Q_t 7) Q_t_7 z6 ++ (rc2 a (Q_t 9) Q_t_9 z_t_9 ++ (rc3 a q_R Q_R nc_R z_R)))))))) H := hP
      have hD : va_D A (rc8 a q_t Q_t z_t ++ (rb4 a (Q_t 2) 6 B_t_2 ++ (rc5 a (Q_t 5) Q_t_5 z_t_5 ++ (rc7 a (Q_t_5 0) Q_t_5_0 z_t_5_0 ++ (rc0 a (Q_t_5 1) Q_t_5_1 z_t_5_1 ++ (rc0 a (Q_t 7) Q_t_7 z6 ++ (rc2 a (Q_t 9) Q_t_9 z_t_9 ++ (rc3 a q_R Q_R nc_R z_R)))))))) := hD
      refine lv_aload_n hx hb dX8_would_36 rfl (lv_at hl 1 rfl) ?_
      refine va_get (D := D) (v := .ref (Q_t 9)) (C := RX8) (T := TX8) (N := 11) hx hb hts iX8 hown hK.1 hP 0 rfl rfl 9 (by decide) (hts _ t_309) (fun _ h9 => h9) rfl dX8_would_37 ?_
      refine lv_aload_n hx hb dX8_would_40 rfl (lv_at hl 1 rfl) ?_
      refine va_get (D := D) (v := .ref (Q_t 5)) (C := RX8) (T := TX8) (N := 11) hx hb hts iX8 hown hK.1 hP 0 rfl rfl 5 (by decide) (hts _ t_305) (fun _ h9 => h9) rfl dX8_would_41 ?_
      refine va_get (D := D) (v := .ref (Q_t_5 0)) (C := RX5) (T := TX5) (N := 8) hx hb hts iX5 hown hK.1 hP 3 rfl rfl 0 (by decide) (hts _ t_161) (fun _ h9 => h9) rfl dX8_would_44 ?_
      refine lv_aload_n hx hb dX8_would_47 rfl (lv_at hl 0 rfl) ?_
      refine lv_aload_n hx hb dX8_would_48 rfl (lv_at hl 1 rfl) ?_
      refine va_get (D := D) (v := .ref (Q_t 7)) (C := RX8) (T := TX8) (N := 11) hx hb hts iX8 hown hK.1 hP 0 rfl rfl 7 (by decide) (hts _ t_307) (fun _ h9 => h9) rfl dX8_would_49 ?_
      obtain ⟨r8, z9, z10, hc7, h⟩ := bd3_some h
      refine cMi (runV (As := [.ref (Q_t_5 0), .ref q_R, .ref (Q_t 7)]) (rest := []) C (mX2_play l D a hc7 H.size) lk_V_8_232 okN_X2_play ⟨Nat.le_of_ble_eq_true rfl, Nat.le_of_ble_eq_true rfl⟩ ⟨rfl, rfl⟩ (preV (preM hK (P_of_map (wc := rc2 a (Q_t 9) Q_t_9 z_t_9 ++ (rc7 a (Q_t_5 0) Q_t_5_0 z_t_5_0 ++ (rc3 a q_R Q_R nc_R z_R ++ (rc0 a (Q_t 7) Q_t_7 z6)))) hP [23, 24, 6, 7, 8, 9, 10, 11, 12, 13, 14, 15, 16, 17, 18, 25, 26, 27, 28, 29, 21, 22] rfl) (hD.sub (ws' := rc2 a (Q_t 9) Q_t_9 z_t_9 ++ (rc7 a (Q_t_5 0) Q_t_5_0 z_t_5_0 ++ (rc3 a q_R Q_R nc_R z_R ++ (rc0 a (Q_t 7) Q_t_7 z6)))) [23, 24, 6, 7, 8, 9, 10, 11, 12, 13, 14, 15, 16, 17, 18, 25, 26, 27, 28, 29, 21, 22] (by decide) rfl)) (recvOf hK hP 23 rfl (ci := 2) rfl)) hl.1 rfl (Nat.le_of_ble_eq_true rfl) dX8_would_52 ⟨Nat.le_of_ble_eq_true rfl, Nat.le_of_ble_eq_true rfl⟩) hP hD hS hA [23, 24, 6, 7, 8, 9, 10, 11, 12, 13, 14, 15, 16, 17, 18, 25, 26, 27, 28, 29, 21, 22] [0, 1, 2, 3, 4, 5, 19, 20] [0, 1, 2, 3, 4, 5, 10, 11, 12, 13, 14, 15, 16, 17, 18, 19, 20, 21, 22, 6, 7, 28, 29, 8, 9, 23, 24, 25, 26, 27] rfl rfl (by decide) (by decide) (fw := rc8 a q_t Q_t z_t ++ (rb4 a (Q_t 2) 6 B_t_2 ++ (rc5 a (Q_t 5) Q_t_5 z_t_5 ++ (rc7 a (Q_t_5 0) Q_t_5_0 z_t_5_0 ++ (rc0 a (Q_t_5 1) Q_t_5_1 z_t_5_1 ++ (rc0 a (Q_t 7) Q_t_7 z10 ++ (rc2 a (Q_t 9) Q_t_9 z9 ++ (rc3 a q_R Q_R nc_R z_R)))))))) rfl (by decide) (fun H locs hP hD hS => ?_)
      have hP : va_P D classes (rc8 a q_t Q_t z_t ++ (rb4 a (Q_t 2) 6 B_t_2 ++ (rc5 a (Q_t 5) Q_t_5 z_t_5 ++ (rc7 a (Q_t_5 0) Q_t_5_0 z_t_5_0 ++ (rc0 a (Q_t_5 1) Q_t_5_1 z_t_5_1 ++ (rc0 a (Q_t 7) Q_t_7 z10 ++ (rc2 a (Q_t 9) Q_t_9 z9 ++ (rc3 a q_R Q_R nc_R z_R)))))))) H := hP
      have hD : va_D A (rc8 a q_t Q_t z_t ++ (rb4 a (Q_t 2) 6 B_t_2 ++ (rc5 a (Q_t 5) Q_t_5 z_t_5 ++ (rc7 a (Q_t_5 0) Q_t_5_0 z_t_5_0 ++ (rc0 a (Q_t_5 1) Q_t_5_1 z_t_5_1 ++ (rc0 a (Q_t 7) Q_t_7 z10 ++ (rc2 a (Q_t 9) Q_t_9 z9 ++ (rc3 a q_R Q_R nc_R z_R)))))))) := hD
      refine lv_istore (lv' := [(4, .int r8), (3, .ref q_R), (0, .ref q_t), (1, .int x1), (2, .int x2)]) hx hb dX8_would_55 hl (by decide) rfl (fun ls hl => ?_)
      refine lv_iload_n hx hb dX8_would_57 rfl (lv_at hl 4 rfl) ?_
      by_cases c11_0 : x2 = 0
      · have h := ite_t c11_0 h
        refine lv_tableIn (off := 30) (tgt := 88) hx hb dX8_would_58 (by rw [c11_0]; decide) (by rw [c11_0]; decide) (by rw [c11_0]; decide) (by decide) ?_
        refine lv_aload_n hx hb dX8_would_88 rfl (lv_at hl 2 rfl) ?_
        refine va_get (D := D) (v := .ref (Q_t 7)) (C := RX8) (T := TX8) (N := 11) hx hb hts iX8 hown hK.1 hP 0 rfl rfl 7 (by decide) (hts _ t_307) (fun _ h9 => h9) rfl dX8_would_89 ?_
        refine va_get (D := D) (v := .int (gI z10 1)) (C := RX0) (T := TX0) (N := 6) hx hb hts iX0 hown hK.1 hP 21 rfl rfl 1 (by decide) (hts _ t_135) (fun _ h9 => h9) rfl dX8_would_92 ?_
        refine lv_aload_n hx hb dX8_would_95 rfl (lv_at hl 2 rfl) ?_
        refine va_get (D := D) (v := .ref (Q_t 5)) (C := RX8) (T := TX8) (N := 11) hx hb hts iX8 hown hK.1 hP 0 rfl rfl 5 (by decide) (hts _ t_305) (fun _ h9 => h9) rfl dX8_would_96 ?_
        refine va_get (D := D) (v := .ref (Q_t_5 1)) (C := RX5) (T := TX5) (N := 8) hx hb hts iX5 hown hK.1 hP 3 rfl rfl 1 (by decide) (hts _ t_163) (fun _ h9 => h9) rfl dX8_would_99 ?_
        refine va_get (D := D) (v := .int (gI z_t_5_1 1)) (C := RX0) (T := TX0) (N := 6) hx hb hts iX0 hown hK.1 hP 19 rfl rfl 1 (by decide) (hts _ t_135) (fun _ h9 => h9) rfl dX8_would_102 ?_
        refine lv_isub hx hb dX8_would_105 ?_
        exact rMi C rfl h (g := fun y => rc8 a q_t Q_t z_t ++ (rb4 a (Q_t 2) 6 B_t_2 ++ (rc5 a (Q_t 5) Q_t_5 z_t_5 ++ (rc7 a (Q_t_5 0) Q_t_5_0 z_t_5_0 ++ (rc0 a (Q_t_5 1) Q_t_5_1 z_t_5_1 ++ (rc0 a (Q_t 7) Q_t_7 y.2.1 ++ (rc2 a (Q_t 9) Q_t_9 y.2.2 ++ (rc3 a q_R Q_R nc_R z_R)))))))) (pr := fun y => y.1) hP hD hS dX8_would_106
      have h := ite_f c11_0 h
      by_cases c11_1 : x2 = 1
      · have h := ite_t c11_1 h
        refine lv_tableIn (off := 49) (tgt := 107) hx hb dX8_would_58 (by rw [c11_1]; decide) (by rw [c11_1]; decide) (by rw [c11_1]; decide) (by decide) ?_
        refine lv_aload_n hx hb dX8_would_107 rfl (lv_at hl 2 rfl) ?_
        refine va_get (D := D) (v := .ref (Q_t 7)) (C := RX8) (T := TX8) (N := 11) hx hb hts iX8 hown hK.1 hP 0 rfl rfl 7 (by decide) (hts _ t_307) (fun _ h9 => h9) rfl dX8_would_108 ?_
        refine va_get (D := D) (v := .int (gI z10 2)) (C := RX0) (T := TX0) (N := 6) hx hb hts iX0 hown hK.1 hP 21 rfl rfl 2 (by decide) (hts _ t_138) (fun _ h9 => h9) rfl dX8_would_111 ?_
        refine lv_aload_n hx hb dX8_would_114 rfl (lv_at hl 2 rfl) ?_
        refine va_get (D := D) (v := .ref (Q_t 5)) (C := RX8) (T := TX8) (N := 11) hx hb hts iX8 hown hK.1 hP 0 rfl rfl 5 (by decide) (hts _ t_305) (fun _ h9 => h9) rfl dX8_would_115 ?_
        refine va_get (D := D) (v := .ref (Q_t_5 1)) (C := RX5) (T := TX5) (N := 8) hx hb hts iX5 hown hK.1 hP 3 rfl rfl 1 (by decide) (hts _ t_163) (fun _ h9 => h9) rfl dX8_would_118 ?_
        refine va_get (D := D) (v := .int (gI z_t_5_1 2)) (C := RX0) (T := TX0) (N := 6) hx hb hts iX0 hown hK.1 hP 19 rfl rfl 2 (by decide) (hts _ t_138) (fun _ h9 => h9) rfl dX8_would_121 ?_
        refine lv_iconst (v := (-1)) hx hb dX8_would_124 (by decide) ?_
        refine lv_ixor hx hb dX8_would_125 ?_
        refine lv_iand hx hb dX8_would_126 ?_
        exact rMi C rfl h (g := fun y => rc8 a q_t Q_t z_t ++ (rb4 a (Q_t 2) 6 B_t_2 ++ (rc5 a (Q_t 5) Q_t_5 z_t_5 ++ (rc7 a (Q_t_5 0) Q_t_5_0 z_t_5_0 ++ (rc0 a (Q_t_5 1) Q_t_5_1 z_t_5_1 ++ (rc0 a (Q_t 7) Q_t_7 y.2.1 ++ (rc2 a (Q_t 9) Q_t_9 y.2.2 ++ (rc3 a q_R Q_R nc_R z_R)))))))) (pr := fun y => y.1) hP hD hS dX8_would_127
      have h := ite_f c11_1 h
      by_cases c11_2 : x2 = 2
      · have h := ite_t c11_2 h
        refine lv_tableIn (off := 70) (tgt := 128) hx hb dX8_would_58 (by rw [c11_2]; decide) (by rw [c11_2]; decide) (by rw [c11_2]; decide) (by decide) ?_
        refine lv_aload_n hx hb dX8_would_128 rfl (lv_at hl 2 rfl) ?_
        refine va_get (D := D) (v := .ref (Q_t 7)) (C := RX8) (T := TX8) (N := 11) hx hb hts iX8 hown hK.1 hP 0 rfl rfl 7 (by decide) (hts _ t_307) (fun _ h9 => h9) rfl dX8_would_129 ?_
        refine va_get (D := D) (v := .int (gI z10 0)) (C := RX0) (T := TX0) (N := 6) hx hb hts iX0 hown hK.1 hP 21 rfl rfl 0 (by decide) (hts _ t_132) (fun _ h9 => h9) rfl dX8_would_132 ?_
        exact rMi C rfl h (g := fun y => rc8 a q_t Q_t z_t ++ (rb4 a (Q_t 2) 6 B_t_2 ++ (rc5 a (Q_t 5) Q_t_5 z_t_5 ++ (rc7 a (Q_t_5 0) Q_t_5_0 z_t_5_0 ++ (rc0 a (Q_t_5 1) Q_t_5_1 z_t_5_1 ++ (rc0 a (Q_t 7) Q_t_7 y.2.1 ++ (rc2 a (Q_t 9) Q_t_9 y.2.2 ++ (rc3 a q_R Q_R nc_R z_R)))))))) (pr := fun y => y.1) hP hD hS dX8_would_135
      have h := ite_f c11_2 h
      by_cases c11_3 : x2 = 3
      · have h := ite_t c11_3 h
        refine lv_tableIn (off := 78) (tgt := 136) hx hb dX8_would_58 (by rw [c11_3]; decide) (by rw [c11_3]; decide) (by rw [c11_3]; decide) (by decide) ?_
        refine lv_aload_n hx hb dX8_would_136 rfl (lv_at hl 2 rfl) ?_
        refine va_get (D := D) (v := .ref (Q_t 5)) (C := RX8) (T := TX8) (N := 11) hx hb hts iX8 hown hK.1 hP 0 rfl rfl 5 (by decide) (hts _ t_305) (fun _ h9 => h9) rfl dX8_would_137 ?_
        refine va_get (D := D) (v := .ref (Q_t_5 0)) (C := RX5) (T := TX5) (N := 8) hx hb hts iX5 hown hK.1 hP 3 rfl rfl 0 (by decide) (hts _ t_161) (fun _ h9 => h9) rfl dX8_would_140 ?_
        refine lv_aload_n hx hb dX8_would_143 rfl (lv_at hl 2 rfl) ?_
        refine va_get (D := D) (v := .ref (Q_t 7)) (C := RX8) (T := TX8) (N := 11) hx hb hts iX8 hown hK.1 hP 0 rfl rfl 7 (by decide) (hts _ t_307) (fun _ h9 => h9) rfl dX8_would_144 ?_
        obtain ⟨r13, hc12, h⟩ := bd_some h
        refine cRi (runV (As := []) (rest := [.ref (Q_t_5 0)]) C (mX0_gone l D a hc12) lk_V_8_171 okN_X0_gone ⟨Nat.le_of_ble_eq_true rfl, Nat.le_of_ble_eq_true rfl⟩ ⟨rfl, rfl⟩ (preV (preR hK (P_of_map (wc := rc0 a (Q_t 7) Q_t_7 z10) hP [21, 22] rfl)) (recvOf hK hP 21 rfl (ci := 0) rfl)) hl.1 rfl (Nat.le_of_ble_eq_true rfl) dX8_would_147 ⟨Nat.le_of_ble_eq_true rfl, Nat.le_of_ble_eq_true rfl⟩) ?_
        obtain ⟨r15, hc14, h⟩ := bd_some h
        refine cRi (runV (As := [.int r13]) (rest := []) C (mX7_hiddenCoins l D a hc14) lk_V_8_222 okN_X7_hiddenCoins ⟨Nat.le_of_ble_eq_true rfl, Nat.le_of_ble_eq_true rfl⟩ ⟨rfl, rfl⟩ (preV (preR hK (P_of_map (wc := rc7 a (Q_t_5 0) Q_t_5_0 z_t_5_0) hP [6, 7, 8, 9, 10, 11, 12, 13, 14, 15, 16, 17, 18] rfl)) (recvOf hK hP 6 rfl (ci := 7) rfl)) hl.1 rfl (Nat.le_of_ble_eq_true rfl) dX8_would_150 ⟨Nat.le_of_ble_eq_true rfl, Nat.le_of_ble_eq_true rfl⟩) ?_
        exact rMi C rfl h (g := fun y => rc8 a q_t Q_t z_t ++ (rb4 a (Q_t 2) 6 B_t_2 ++ (rc5 a (Q_t 5) Q_t_5 z_t_5 ++ (rc7 a (Q_t_5 0) Q_t_5_0 z_t_5_0 ++ (rc0 a (Q_t_5 1) Q_t_5_1 z_t_5_1 ++ (rc0 a (Q_t 7) Q_t_7 y.2.1 ++ (rc2 a (Q_t 9) Q_t_9 y.2.2 ++ (rc3 a q_R Q_R nc_R z_R)))))))) (pr := fun y => y.1) hP hD hS dX8_would_153
      have h := ite_f c11_3 h
      refine lv_tableOut (tgt := 154) hx hb dX8_would_58 (by have := lv_neT c11_0 (show (0 : Int32).toInt = 0 by decide); have := lv_neT c11_1 (show (1 : Int32).toInt = 1 by decide); have := lv_neT c11_2 (show (2 : Int32).toInt = 2 by decide); have := lv_neT c11_3 (show (3 : Int32).toInt = 3 by decide); omega) (by decide) ?_
      refine lv_iload hx hb dX8_would_154 (lv_at hl 0 rfl) ?_
      exact rMi C rfl h (g := fun y => rc8 a q_t Q_t z_t ++ (rb4 a (Q_t 2) 6 B_t_2 ++ (rc5 a (Q_t 5) Q_t_5 z_t_5 ++ (rc7 a (Q_t_5 0) Q_t_5_0 z_t_5_0 ++ (rc0 a (Q_t_5 1) Q_t_5_1 z_t_5_1 ++ (rc0 a (Q_t 7) Q_t_7 y.2.1 ++ (rc2 a (Q_t 9) Q_t_9 y.2.2 ++ (rc3 a q_R Q_R nc_R z_R)))))))) (pr := fun y => y.1) hP hD hS dX8_would_156
    · have h := ite_f c4 h
      refine lv_ldc hx hb hown (hts _ t_640) dX8_would_19 ?_
      exact rMi C rfl h (g := fun y => rc8 a q_t Q_t z_t ++ (rb4 a (Q_t 2) 6 B_t_2 ++ (rc5 a (Q_t 5) Q_t_5 z_t_5 ++ (rc7 a (Q_t_5 0) Q_t_5_0 z_t_5_0 ++ (rc0 a (Q_t_5 1) Q_t_5_1 z_t_5_1 ++ (rc0 a (Q_t 7) Q_t_7 y.2.1 ++ (rc2 a (Q_t 9) Q_t_9 y.2.2 ++ (rc3 a q_R Q_R nc_R z_R)))))))) (pr := fun y => y.1) hP hD hS dX8_would_21

def fX8_fine (z_t : Sx) (z_t_5 : Sx) (z_t_5_0 : Sx) (z_t_5_1 : Sx) (x1 : Int32) : Option (Int32 × Sx) := bd (fX8_hasWork z_t z_t_5 z_t_5_0) (fun r2 => if r2 = 0 then some ((-1000000), z_t_5_1) else if x1 < 0 then some ((-1000000), z_t_5_1) else if x1 ≤ 999 then some ((gI z_t_5_1 1) - x1, sI z_t_5_1 1 ((gI z_t_5_1 1) - x1)) else some ((-1000000), z_t_5_1))

set_option maxHeartbeats 4000000 in
set_option maxRecDepth 100000 in
theorem mX8_fine (l : Launch) (D : va_G) (a : Nat → ClassId) {q_t : Nat} {Q_t : Nat → Nat} {z_t : Sx} {Q_t_5 : Nat → Nat} {z_t_5 : Sx} {Q_t_5_0 : Nat → Nat} {z_t_5_0 : Sx} {Q_t_5_1 : Nat → Nat} {z_t_5_1 : Sx} {x1 : Int32} {y : Int32 × Sx} (h : fX8_fine z_t z_t_5 z_t_5_0 z_t_5_1 x1 = some y) (sz : Nat) : CMi (S := Unit) l MX8_fine 1 20 0 0 D a [.ref q_t, .int x1] (rc8 a q_t Q_t z_t ++ (rc5 a (Q_t 5) Q_t_5 z_t_5 ++ (rc7 a (Q_t_5 0) Q_t_5_0 z_t_5_0 ++ (rc0 a (Q_t_5 1) Q_t_5_1 z_t_5_1)))) sz (fun r _ => r = y.1) (fun _ => rc8 a q_t Q_t z_t ++ (rc5 a (Q_t 5) Q_t_5 z_t_5 ++ (rc7 a (Q_t_5 0) Q_t_5_0 z_t_5_0 ++ (rc0 a (Q_t_5 1) Q_t_5_1 y.2)))) := by
  unfold fX8_fine at h
  refine entMi (by decide) (Nat.le_of_ble_eq_true rfl) ?_
  intro p e s m below meth c C hK A hA hP hD ls hl
  obtain ⟨hx, hb, hml, hown, hts, hr, hlocks, hnm⟩ := id C
  have hb : c.code = cX8_fine := hb
  have hown : s.vm.findClass RX8 = some m.cls := hown
  have hS : va_S A s.heap s.heap [] := va_S.rf
  have hl : lv_has ls 2 [(0, .ref q_t), (1, .int x1)] := hl
  refine lv_aload_n hx hb dX8_fine_0 rfl (lv_at hl 0 rfl) ?_
  obtain ⟨r2, hc1, h⟩ := bd_some h
  refine cRi (runV (As := []) (rest := []) C (mX8_hasWork l D a hc1) lk_V_8_213 okN_X8_hasWork ⟨Nat.le_of_ble_eq_true rfl, Nat.le_of_ble_eq_true rfl⟩ ⟨rfl, rfl⟩ (preV (preR hK (P_of_map (wc := rc8 a q_t Q_t z_t ++ (rc5 a (Q_t 5) Q_t_5 z_t_5 ++ (rc7 a (Q_t_5 0) Q_t_5_0 z_t_5_0))) hP [0, 1, 2, 3, 4, 5, 6, 7, 8, 9, 10, 11, 12, 13, 14, 15, 16, 17] rfl)) (recvOf hK hP 0 rfl (ci := 8) rfl)) hl.1 rfl (Nat.le_of_ble_eq_true rfl) dX8_fine_1 ⟨Nat.le_of_ble_eq_true rfl, Nat.le_of_ble_eq_true rfl⟩) ?_
  refine lv_if_eq (tgt := 18) hx hb dX8_fine_4 (by decide) (fun c3 => ?_) (fun c3 => ?_)
  · have h := ite_t c3 h
    refine lv_ldc hx hb hown (hts _ t_640) dX8_fine_18 ?_
    exact rMi C rfl h (g := fun y => rc8 a q_t Q_t z_t ++ (rc5 a (Q_t 5) Q_t_5 z_t_5 ++ (rc7 a (Q_t_5 0) Q_t_5_0 z_t_5_0 ++ (rc0 a (Q_t_5 1) Q_t_5_1 y.2)))) (pr := fun y => y.1) hP hD hS dX8_fine_20
  · have h := ite_f c3 h
    refine lv_iload_n hx hb dX8_fine_7 rfl (lv_at hl 1 rfl) ?_
    refine lv_if_lt (tgt := 18) hx hb dX8_fine_8 (by decide) (fun c4 => ?_) (fun c4 => ?_)
    · have h := ite_t c4 h
      refine lv_ldc hx hb hown (hts _ t_640) dX8_fine_18 ?_
      exact rMi C rfl h (g := fun y => rc8 a q_t Q_t z_t ++ (rc5 a (Q_t 5) Q_t_5 z_t_5 ++ (rc7 a (Q_t_5 0) Q_t_5_0 z_t_5_0 ++ (rc0 a (Q_t_5 1) Q_t_5_1 y.2)))) (pr := fun y => y.1) hP hD hS dX8_fine_20
    · have h := ite_f c4 h
      refine lv_iload_n hx hb dX8_fine_11 rfl (lv_at hl 1 rfl) ?_
      refine lv_sipush (v := 999) hx hb dX8_fine_12 (by decide) ?_
      refine lv_icmp_le (tgt := 21) hx hb dX8_fine_15 (by decide) (fun c5 => ?_) (fun c5 => ?_)
      · have h := ite_t c5 h
        refine lv_aload_n hx hb dX8_fine_21 rfl (lv_at hl 0 rfl) ?_
        refine va_get (D := D) (v := .ref (Q_t 5)) (C := RX8) (T := TX8) (N := 11) hx hb hts iX8 hown hK.1 hP 0 rfl rfl 5 (by decide) (hts _ t_305) (fun _ h9 => h9) rfl dX8_fine_22 ?_
        refine va_get (D := D) (v := .ref (Q_t_5 1)) (C := RX5) (T := TX5) (N := 8) hx hb hts iX5 hown hK.1 hP 2 rfl rfl 1 (by decide) (hts _ t_163) (fun _ h9 => h9) rfl dX8_fine_25 ?_
        refine lv_dup hx hb dX8_fine_28 rfl ?_
        refine va_get (D := D) (v := .int (gI z_t_5_1 1)) (C := RX0) (T := TX0) (N := 6) hx hb hts iX0 hown hK.1 hP 18 rfl rfl 1 (by decide) (hts _ t_135) (fun _ h9 => h9) rfl dX8_fine_29 ?_
        refine lv_iload_n hx hb dX8_fine_32 rfl (lv_at hl 1 rfl) ?_
        refine lv_isub hx hb dX8_fine_33 ?_
        refine va_put (D := D) (v := .int ((gI z_t_5_1 1) - x1)) (C := RX0) (T := TX0) (N := 6) hx hb hts iX0 tyX0 tyX0_ok nmX0 hown hK.1 hP hD hS 18 rfl rfl 1 (by decide) (hts _ t_135) (fun _ h9 => h9) rfl (tyX0_ok 1 (by decide)) rfl rfl (Nat.le_of_ble_eq_true rfl) dX8_fine_34 (fun H locs hP hD hS => ?_)
        have hP : va_P D classes (rc8 a q_t Q_t z_t ++ (rc5 a (Q_t 5) Q_t_5 z_t_5 ++ (rc7 a (Q_t_5 0) Q_t_5_0 z_t_5_0 ++ (rc0 a (Q_t_5 1) Q_t_5_1 (sI z_t_5_1 1 ((gI z_t_5_1 1) - x1)))))) H := hP
        have hD : va_D A (rc8 a q_t Q_t z_t ++ (rc5 a (Q_t 5) Q_t_5 z_t_5 ++ (rc7 a (Q_t_5 0) Q_t_5_0 z_t_5_0 ++ (rc0 a (Q_t_5 1) Q_t_5_1 (sI z_t_5_1 1 ((gI z_t_5_1 1) - x1)))))) := hD
        refine lv_aload_n hx hb dX8_fine_37 rfl (lv_at hl 0 rfl) ?_
        refine va_get (D := D) (v := .ref (Q_t 5)) (C := RX8) (T := TX8) (N := 11) hx hb hts iX8 hown hK.1 hP 0 rfl rfl 5 (by decide) (hts _ t_305) (fun _ h9 => h9) rfl dX8_fine_38 ?_
        refine va_get (D := D) (v := .ref (Q_t_5 1)) (C := RX5) (T := TX5) (N := 8) hx hb hts iX5 hown hK.1 hP 2 rfl rfl 1 (by decide) (hts _ t_163) (fun _ h9 => h9) rfl dX8_fine_41 ?_
        refine va_get (D := D) (v := .int ((gI z_t_5_1 1) - x1)) (C := RX0) (T := TX0) (N := 6) hx hb hts iX0 hown hK.1 hP 18 rfl rfl 1 (by decide) (hts _ t_135) (fun _ h9 => h9) rfl dX8_fine_44 ?_
        exact rMi C rfl h (g := fun y => rc8 a q_t Q_t z_t ++ (rc5 a (Q_t 5) Q_t_5 z_t_5 ++ (rc7 a (Q_t_5 0) Q_t_5_0 z_t_5_0 ++ (rc0 a (Q_t_5 1) Q_t_5_1 y.2)))) (pr := fun y => y.1) hP hD hS dX8_fine_47
      · have h := ite_f c5 h
        refine lv_ldc hx hb hown (hts _ t_640) dX8_fine_18 ?_
        exact rMi C rfl h (g := fun y => rc8 a q_t Q_t z_t ++ (rc5 a (Q_t 5) Q_t_5 z_t_5 ++ (rc7 a (Q_t_5 0) Q_t_5_0 z_t_5_0 ++ (rc0 a (Q_t_5 1) Q_t_5_1 y.2)))) (pr := fun y => y.1) hP hD hS dX8_fine_20

def lX8_fits_57 (k127 : Int32 → Int32 → Int32 → Option (Int32)) (z_t : Sx) (z_t_5 : Sx) (z_t_5_0 : Sx) (z_t_5_1 : Sx) (x1 : Int32) (x2 : Int32) (x3 : Int32) : Nat → Int32 → Int32 → Int32 → Int32 → Option (Int32)
  | 0, _, _, _, _ => none
  | n + 1, x4, x5, x6, x7 => if x3 < x7 then k127 x4 x5 x6 else bd (fX7_payOf z_t_5_0 x7) (fun r12 => jn (fun (i14 : Int32) (i15 : Int32) (i16 : Int32) => lX8_fits_57 k127 z_t z_t_5 z_t_5_0 z_t_5_1 x1 x2 x3 n i14 i15 i16 (x7 + 1)) (fun J13 => if r12 = x1 then bd (fX7_couldBeFound z_t_5_0 x7 (gI z_t_5_1 3)) (fun r19 => if r19 = 0 then J13 x4 x5 x6 else J13 (x4 + 1) (x5 &&& x7) (x6 ||| x7)) else J13 x4 x5 x6))
def fX8_fits (z_t : Sx) (z_t_5 : Sx) (z_t_5_0 : Sx) (z_t_5_1 : Sx) (x1 : Int32) (x2 : Int32) : Option (Int32) := bd (fX8_hasWork z_t z_t_5 z_t_5_0) (fun r2 => if r2 = 0 then some (-1) else if x1 < 0 then some (-1) else if 9999 < x1 then some (-1) else if x2 < 0 then some (-1) else if x2 ≤ 2 then bd (fX8_bit (gI z_t_5_0 3)) (fun r9 => lX8_fits_57 (fun (i21 : Int32) (i22 : Int32) (i23 : Int32) => if x2 = 0 then some i21 else if i21 = 0 then some i21 else if x2 = 1 then some i22 else some ((r9 - 1) &&& (i23 ^^^ (-1)))) z_t z_t_5 z_t_5_0 z_t_5_1 x1 x2 (r9 - 1) FU 0 (r9 - 1) 0 0) else some (-1))

set_option maxHeartbeats 4000000 in
set_option maxRecDepth 100000 in
theorem wX8_fits_57 {p : Program} {l : Launch} {e : Env} {s : State} {m : MethodId} {below : List Frame} {meth : Method} {c : Code} {D : va_G} {a : Nat → ClassId} {q_t : Nat} {Q_t : Nat → Nat} {Q_t_5 : Nat → Nat} {Q_t_5_0 : Nat → Nat} {Q_t_5_1 : Nat → Nat} {z_t : Sx} {z_t_5 : Sx} {z_t_5_0 : Sx} {z_t_5_1 : Sx} {x10 : Int32} {x20 : Int32} {x1 : Int32} {x2 : Int32} {x3 : Int32} (C : Cx p s m #[.ref q_t, .int x10, .int x20] meth c MX8_fits) (hK : KK D a s) {y : Int32} (hP : va_P D classes (rc8 a q_t Q_t z_t ++ (rc5 a (Q_t 5) Q_t_5 z_t_5 ++ (rc7 a (Q_t_5 0) Q_t_5_0 z_t_5_0 ++ (rc0 a (Q_t_5 1) Q_t_5_1 z_t_5_1)))) s.heap) {k127 : Int32 → Int32 → Int32 → Option (Int32)} (hk127 : ∀ (x4k : Int32) (x5k : Int32) (x6k : Int32) (ls : Array Slot), k127 x4k x5k x6k = some y → lv_has ls 8 [(2, .int x2), (3, .int x3), (4, .int x4k), (5, .int x5k), (6, .int x6k)] → W p l e (rmM 3 0 0 66) s m #[.ref q_t, .int x10, .int x20] below meth c s.heap [] 0 0 (MQ below (vp_Si (fun r => r = y)) #[.ref q_t, .int x10, .int x20] s 0 0 (fun _ => False)) (F0 m 127 ls [])) : ∀ (n : Nat) (x4 : Int32) (x5 : Int32) (x6 : Int32) (x7 : Int32) (ls : Array Slot), lX8_fits_57 k127 z_t z_t_5 z_t_5_0 z_t_5_1 x1 x2 x3 n x4 x5 x6 x7 = some y → lv_has ls 8 [(0, .ref q_t), (1, .int x1), (2, .int x2), (3, .int x3), (4, .int x4), (5, .int x5), (6, .int x6), (7, .int x7)] → W p l e (rmM 3 0 0 66) s m #[.ref q_t, .int x10, .int x20] below meth c s.heap [] 0 0 (MQ below (vp_Si (fun r => r = y)) #[.ref q_t, .int x10, .int x20] s 0 0 (fun _ => False)) (F0 m 57 ls []) := by
  obtain ⟨hx, hb, hml, hown, hts, hr, hlocks, hnm⟩ := id C
  have hb : c.code = cX8_fits := hb
  have hown : s.vm.findClass RX8 = some m.cls := hown
  intro n
  induction n with
  | zero => intro x4 x5 x6 x7 ls h; rw [lX8_fits_57] at h; cases h
  | succ n ih =>
    intro x4 x5 x6 x7 ls h hl
    rw [lX8_fits_57] at h
    refine lv_iload hx hb dX8_fits_57 (lv_at hl 7 rfl) ?_
    refine lv_iload_n hx hb dX8_fits_59 rfl (lv_at hl 3 rfl) ?_
    refine lv_icmp_gt (tgt := 127) hx hb dX8_fits_60 (by decide) (fun c10 => ?_) (fun c10 => ?_)
    · have h := ite_t c10 h
      exact hk127 x4 x5 x6 ls h (lv_sub hl [2, 3, 4, 5, 6] rfl)
    · have h := ite_f c10 h
      refine lv_aload_n hx hb dX8_fits_63 rfl (lv_at hl 0 rfl) ?_
      refine va_get (D := D) (v := .ref (Q_t 5)) (C := RX8) (T := TX8) (N := 11) hx hb hts iX8 hown hK.1 hP 0 rfl rfl 5 (by decide) (hts _ t_305) (fun _ h9 => h9) rfl dX8_fits_64 ?_
      refine va_get (D := D) (v := .ref (Q_t_5 0)) (C := RX5) (T := TX5) (N := 8) hx hb hts iX5 hown hK.1 hP 2 rfl rfl 0 (by decide) (hts _ t_161) (fun _ h9 => h9) rfl dX8_fits_67 ?_
      refine lv_iload hx hb dX8_fits_70 (lv_at hl 7 rfl) ?_
      obtain ⟨r12, hc11, h⟩ := bd_some h
      refine cRi (runV (As := [.int x7]) (rest := []) C (mX7_payOf l D a hc11) lk_V_8_294 okN_X7_payOf ⟨Nat.le_of_ble_eq_true rfl, Nat.le_of_ble_eq_true rfl⟩ ⟨rfl, rfl⟩ (preV (preR hK (P_of_map (wc := rc7 a (Q_t_5 0) Q_t_5_0 z_t_5_0) hP [5, 6, 7, 8, 9, 10, 11, 12, 13, 14, 15, 16, 17] rfl)) (recvOf hK hP 5 rfl (ci := 7) rfl)) hl.1 rfl (Nat.le_of_ble_eq_true rfl) dX8_fits_72 ⟨Nat.le_of_ble_eq_true rfl, Nat.le_of_ble_eq_true rfl⟩) ?_
      refine lv_iload_n hx hb dX8_fits_75 rfl (lv_at hl 1 rfl) ?_
      obtain ⟨J13, eJ13, h⟩ := jn_some h
      have hJ13 : ∀ (i14 : Int32) (i15 : Int32) (i16 : Int32) (ls : Array Slot), J13 i14 i15 i16 = some y → lv_has ls 8 [(0, .ref q_t), (1, .int x1), (2, .int x2), (3, .int x3), (4, .int i14), (5, .int i15), (6, .int i16), (7, .int x7)] → W p l e (rmM 3 0 0 66) s m #[.ref q_t, .int x10, .int x20] below meth c s.heap [] 0 0 (MQ below (vp_Si (fun r => r = y)) #[.ref q_t, .int x10, .int x20] s 0 0 (fun _ => False)) (F0 m 121 ls []) := by
        intro i14 i15 i16 ls h hl
        rw [eJ13] at h
        refine lv_iinc (v := x7 + 1) (lv' := [(7, .int (x7 + 1)), (0, .ref q_t), (1, .int x1), (2, .int x2), (3, .int x3), (4, .int i14), (5, .int i15), (6, .int i16)]) hx hb dX8_fits_121 hl (k := 7) rfl rfl (by decide) rfl (fun ls hl => ?_)
        refine lv_goto (tgt := 57) hx hb dX8_fits_124 (by decide) ?_
        exact ih i14 i15 i16 (x7 + 1) ls h (lv_sub hl [1, 2, 3, 4, 5, 6, 7, 0] rfl)
      refine lv_icmp_ne (tgt := 121) hx hb dX8_fits_76 (by decide) (fun c17 => ?_) (fun c17 => ?_)
      · have h := ite_f c17 h
        exact hJ13 x4 x5 x6 ls h (lv_sub hl [0, 1, 2, 3, 4, 5, 6, 7] rfl)
      · have h := ite_t c17 h
        refine lv_aload_n hx hb dX8_fits_79 rfl (lv_at hl 0 rfl) ?_
        refine va_get (D := D) (v := .ref (Q_t 5)) (C := RX8) (T := TX8) (N := 11) hx hb hts iX8 hown hK.1 hP 0 rfl rfl 5 (by decide) (hts _ t_305) (fun _ h9 => h9) rfl dX8_fits_80 ?_
        refine va_get (D := D) (v := .ref (Q_t_5 0)) (C := RX5) (T := TX5) (N := 8) hx hb hts iX5 hown hK.1 hP 2 rfl rfl 0 (by decide) (hts _ t_161) (fun _ h9 => h9) rfl dX8_fits_83 ?_
        refine lv_iload hx hb dX8_fits_86 (lv_at hl 7 rfl) ?_
        refine lv_aload_n hx hb dX8_fits_88 rfl (lv_at hl 0 rfl) ?_
        refine va_get (D := D) (v := .ref (Q_t 5)) (C := RX8) (T := TX8) (N := 11) hx hb hts iX8 hown hK.1 hP 0 rfl rfl 5 (by decide) (hts _ t_305) (fun _ h9 => h9) rfl dX8_fits_89 ?_
        refine va_get (D := D) (v := .ref (Q_t_5 1)) (C := RX5) (T := TX5) (N := 8) hx hb hts iX5 hown hK.1 hP 2 rfl rfl 1 (by decide) (hts _ t_163) (fun _ h9 => h9) rfl dX8_fits_92 ?_
        refine va_get (D := D) (v := .int (gI z_t_5_1 3)) (C := RX0) (T := TX0) (N := 6) hx hb hts iX0 hown hK.1 hP 18 rfl rfl 3 (by decide) (hts _ t_141) (fun _ h9 => h9) rfl dX8_fits_95 ?_
        obtain ⟨r19, hc18, h⟩ := bd_some h
        refine cRi (runV (As := [.int x7, .int (gI z_t_5_1 3)]) (rest := []) C (mX7_couldBeFound l D a hc18) lk_V_8_297 okN_X7_couldBeFound ⟨Nat.le_of_ble_eq_true rfl, Nat.le_of_ble_eq_true rfl⟩ ⟨rfl, rfl⟩ (preV (preR hK (P_of_map (wc := rc7 a (Q_t_5 0) Q_t_5_0 z_t_5_0) hP [5, 6, 7, 8, 9, 10, 11, 12, 13, 14, 15, 16, 17] rfl)) (recvOf hK hP 5 rfl (ci := 7) rfl)) hl.1 rfl (Nat.le_of_ble_eq_true rfl) dX8_fits_98 ⟨Nat.le_of_ble_eq_true rfl, Nat.le_of_ble_eq_true rfl⟩) ?_
        refine lv_if_eq (tgt := 121) hx hb dX8_fits_101 (by decide) (fun c20 => ?_) (fun c20 => ?_)
        · have h := ite_t c20 h
          exact hJ13 x4 x5 x6 ls h (lv_sub hl [0, 1, 2, 3, 4, 5, 6, 7] rfl)
        · have h := ite_f c20 h
          refine lv_iinc (v := x4 + 1) (lv' := [(4, .int (x4 + 1)), (0, .ref q_t), (1, .int x1), (2, .int x2), (3, .int x3), (5, .int x5), (6, .int x6), (7, .int x7)]) hx hb dX8_fits_104 hl (k := 4) rfl rfl (by decide) rfl (fun ls hl => ?_)
          refine lv_iload hx hb dX8_fits_107 (lv_at hl 5 rfl) ?_
          refine lv_iload hx hb dX8_fits_109 (lv_at hl 7 rfl) ?_
          refine lv_iand hx hb dX8_fits_111 ?_
          refine lv_istore (lv' := [(5, .int (x5 &&& x7)), (4, .int (x4 + 1)), (0, .ref q_t), (1, .int x1), (2, .int x2), (3, .int x3), (6, .int x6), (7, .int x7)]) hx hb dX8_fits_112 hl (by decide) rfl (fun ls hl => ?_)
          refine lv_iload hx hb dX8_fits_114 (lv_at hl 6 rfl) ?_
          refine lv_iload hx hb dX8_fits_116 (lv_at hl 7 rfl) ?_
          refine lv_ior hx hb dX8_fits_118 ?_
          refine lv_istore (lv' := [(6, .int (x6 ||| x7)), (5, .int (x5 &&& x7)), (4, .int (x4 + 1)), (0, .ref q_t), (1, .int x1), (2, .int x2), (3, .int x3), (7, .int x7)]) hx hb dX8_fits_119 hl (by decide) rfl (fun ls hl => ?_)
          exact hJ13 (x4 + 1) (x5 &&& x7) (x6 ||| x7) ls h (lv_sub hl [3, 4, 5, 6, 2, 1, 0, 7] rfl)

set_option maxHeartbeats 4000000 in
set_option maxRecDepth 100000 in
theorem mX8_fits (l : Launch) (D : va_G) (a : Nat → ClassId) {q_t : Nat} {Q_t : Nat → Nat} {z_t : Sx} {Q_t_5 : Nat → Nat} {z_t_5 : Sx} {Q_t_5_0 : Nat → Nat} {z_t_5_0 : Sx} {Q_t_5_1 : Nat → Nat} {z_t_5_1 : Sx} {x1 : Int32} {x2 : Int32} {y : Int32} (h : fX8_fits z_t z_t_5 z_t_5_0 z_t_5_1 x1 x2 = some y) : CRi l MX8_fits 3 66 D a [.ref q_t, .int x1, .int x2] (rc8 a q_t Q_t z_t ++ (rc5 a (Q_t 5) Q_t_5 z_t_5 ++ (rc7 a (Q_t_5 0) Q_t_5_0 z_t_5_0 ++ (rc0 a (Q_t_5 1) Q_t_5_1 z_t_5_1)))) (fun r => r = y) := by
  unfold fX8_fits at h
  refine entR (by decide) (Nat.le_of_ble_eq_true rfl) ?_
  intro p e s m below meth c C hK hP ls hl
  obtain ⟨hx, hb, hml, hown, hts, hr, hlocks, hnm⟩ := id C
  have hb : c.code = cX8_fits := hb
  have hown : s.vm.findClass RX8 = some m.cls := hown
  have hl : lv_has ls 8 [(0, .ref q_t), (1, .int x1), (2, .int x2)] := hl
  refine lv_aload_n hx hb dX8_fits_0 rfl (lv_at hl 0 rfl) ?_
  obtain ⟨r2, hc1, h⟩ := bd_some h
  refine cRi (runV (As := []) (rest := []) C (mX8_hasWork l D a hc1) lk_V_8_213 okN_X8_hasWork ⟨Nat.le_of_ble_eq_true rfl, Nat.le_of_ble_eq_true rfl⟩ ⟨rfl, rfl⟩ (preV (preR hK (P_of_map (wc := rc8 a q_t Q_t z_t ++ (rc5 a (Q_t 5) Q_t_5 z_t_5 ++ (rc7 a (Q_t_5 0) Q_t_5_0 z_t_5_0))) hP [0, 1, 2, 3, 4, 5, 6, 7, 8, 9, 10, 11, 12, 13, 14, 15, 16, 17] rfl)) (recvOf hK hP 0 rfl (ci := 8) rfl)) hl.1 rfl (Nat.le_of_ble_eq_true rfl) dX8_fits_1 ⟨Nat.le_of_ble_eq_true rfl, Nat.le_of_ble_eq_true rfl⟩) ?_
  refine lv_if_eq (tgt := 27) hx hb dX8_fits_4 (by decide) (fun c3 => ?_) (fun c3 => ?_)
  · have h := ite_t c3 h
    refine lv_iconst (v := (-1)) hx hb dX8_fits_27 (by decide) ?_
    exact rRi C rfl (Option.some.inj h) dX8_fits_28
  · have h := ite_f c3 h
    refine lv_iload_n hx hb dX8_fits_7 rfl (lv_at hl 1 rfl) ?_
    refine lv_if_lt (tgt := 27) hx hb dX8_fits_8 (by decide) (fun c4 => ?_) (fun c4 => ?_)
    · have h := ite_t c4 h
      refine lv_iconst (v := (-1)) hx hb dX8_fits_27 (by decide) ?_
      exact rRi C rfl (Option.some.inj h) dX8_fits_28
    · have h := ite_f c4 h
      refine lv_iload_n hx hb dX8_fits_11 rfl (lv_at hl 1 rfl) ?_
      refine lv_sipush (v := 9999) hx hb dX8_fits_12 (by decide) ?_
      refine lv_icmp_gt (tgt := 27) hx hb dX8_fits_15 (by decide) (fun c5 => ?_) (fun c5 => ?_)
      · have h := ite_t c5 h
        refine lv_iconst (v := (-1)) hx hb dX8_fits_27 (by decide) ?_
        exact rRi C rfl (Option.some.inj h) dX8_fits_28
      · have h := ite_f c5 h
        refine lv_iload_n hx hb dX8_fits_18 rfl (lv_at hl 2 rfl) ?_
        refine lv_if_lt (tgt := 27) hx hb dX8_fits_19 (by decide) (fun c6 => ?_) (fun c6 => ?_)
        · have h := ite_t c6 h
          refine lv_iconst (v := (-1)) hx hb dX8_fits_27 (by decide) ?_
          exact rRi C rfl (Option.some.inj h) dX8_fits_28
        · have h := ite_f c6 h
          refine lv_iload_n hx hb dX8_fits_22 rfl (lv_at hl 2 rfl) ?_
          refine lv_iconst (v := 2) hx hb dX8_fits_23 (by decide) ?_
          refine lv_icmp_le (tgt := 29) hx hb dX8_fits_24 (by decide) (fun c7 => ?_) (fun c7 => ?_)
          · have h := ite_t c7 h
            refine lv_aload_n hx hb dX8_fits_29 rfl (lv_at hl 0 rfl) ?_
            refine va_get (D := D) (v := .ref (Q_t 5)) (C := RX8) (T := TX8) (N := 11) hx hb hts iX8 hown hK.1 hP 0 rfl rfl 5 (by decide) (hts _ t_305) (fun _ h9 => h9) rfl dX8_fits_30 ?_
            refine va_get (D := D) (v := .ref (Q_t_5 0)) (C := RX5) (T := TX5) (N := 8) hx hb hts iX5 hown hK.1 hP 2 rfl rfl 0 (by decide) (hts _ t_161) (fun _ h9 => h9) rfl dX8_fits_33 ?_
            refine va_get (D := D) (v := .int (gI z_t_5_0 3)) (C := RX7) (T := TX7) (N := 18) hx hb hts iX7 hown hK.1 hP 5 rfl rfl 3 (by decide) (hts _ t_47) (fun _ h9 => h9) rfl dX8_fits_36 ?_
            obtain ⟨r9, hc8, h⟩ := bd_some h
            refine cRi (runS (As := [.int (gI z_t_5_0 3)]) (rest := []) C (mX8_bit l D a hc8) lk_S_8_216 okN_X8_bit ⟨Nat.le_of_ble_eq_true rfl, Nat.le_of_ble_eq_true rfl⟩ ⟨rfl, rfl⟩ (preR hK (P_of_map (wc := []) hP [] rfl)) hl.1 rfl (Nat.le_of_ble_eq_true rfl) dX8_fits_39 ⟨Nat.le_of_ble_eq_true rfl, Nat.le_of_ble_eq_true rfl⟩) ?_
            refine lv_iconst (v := 1) hx hb dX8_fits_42 (by decide) ?_
            refine lv_isub hx hb dX8_fits_43 ?_
            refine lv_istore_n (lv' := [(3, .int (r9 - 1)), (0, .ref q_t), (1, .int x1), (2, .int x2)]) hx hb dX8_fits_44 rfl hl (by decide) rfl (fun ls hl => ?_)
            refine lv_iconst (v := 0) hx hb dX8_fits_45 (by decide) ?_
            refine lv_istore (lv' := [(4, .int 0), (3, .int (r9 - 1)), (0, .ref q_t), (1, .int x1), (2, .int x2)]) hx hb dX8_fits_46 hl (by decide) rfl (fun ls hl => ?_)
            refine lv_iload_n hx hb dX8_fits_48 rfl (lv_at hl 1 rfl) ?_
            refine lv_istore (lv' := [(5, .int (r9 - 1)), (4, .int 0), (3, .int (r9 - 1)), (0, .ref q_t), (1, .int x1), (2, .int x2)]) hx hb dX8_fits_49 hl (by decide) rfl (fun ls hl => ?_)
            refine lv_iconst (v := 0) hx hb dX8_fits_51 (by decide) ?_
            refine lv_istore (lv' := [(6, .int 0), (5, .int (r9 - 1)), (4, .int 0), (3, .int (r9 - 1)), (0, .ref q_t), (1, .int x1), (2, .int x2)]) hx hb dX8_fits_52 hl (by decide) rfl (fun ls hl => ?_)
            refine lv_iconst (v := 0) hx hb dX8_fits_54 (by decide) ?_
            refine lv_istore (lv' := [(7, .int 0), (6, .int 0), (5, .int (r9 - 1)), (4, .int 0), (3, .int (r9 - 1)), (0, .ref q_t), (1, .int x1), (2, .int x2)]) hx hb dX8_fits_55 hl (by decide) rfl (fun ls hl => ?_)
            refine wX8_fits_57 C hK hP ?_ FU 0 (r9 - 1) 0 0 ls h (lv_sub hl [5, 6, 7, 4, 3, 2, 1, 0] rfl)
            · intro i21 i22 i23 ls h hl
              refine lv_iload_n hx hb dX8_fits_127 rfl (lv_at hl 0 rfl) ?_
              refine lv_if_eq (tgt := 136) hx hb dX8_fits_128 (by decide) (fun c24 => ?_) (fun c24 => ?_)
              · have h := ite_t c24 h
                refine lv_iload hx hb dX8_fits_136 (lv_at hl 2 rfl) ?_
                exact rRi C rfl (Option.some.inj h) dX8_fits_138
              · have h := ite_f c24 h
                refine lv_iload hx hb dX8_fits_131 (lv_at hl 2 rfl) ?_
                refine lv_if_ne (tgt := 139) hx hb dX8_fits_133 (by decide) (fun c25 => ?_) (fun c25 => ?_)
                · have h := ite_f c25 h
                  refine lv_iload_n hx hb dX8_fits_139 rfl (lv_at hl 0 rfl) ?_
                  refine lv_iconst (v := 1) hx hb dX8_fits_140 (by decide) ?_
                  refine lv_icmp_ne (tgt := 149) hx hb dX8_fits_141 (by decide) (fun c26 => ?_) (fun c26 => ?_)
                  · have h := ite_f c26 h
                    refine lv_iload_n hx hb dX8_fits_149 rfl (lv_at hl 1 rfl) ?_
                    refine lv_iload hx hb dX8_fits_150 (lv_at hl 4 rfl) ?_
                    refine lv_iconst (v := (-1)) hx hb dX8_fits_152 (by decide) ?_
                    refine lv_ixor hx hb dX8_fits_153 ?_
                    refine lv_iand hx hb dX8_fits_154 ?_
                    exact rRi C rfl (Option.some.inj h) dX8_fits_155
                  · have h := ite_t c26 h
                    refine lv_iload hx hb dX8_fits_144 (lv_at hl 3 rfl) ?_
                    refine lv_goto (tgt := 155) hx hb dX8_fits_146 (by decide) ?_
                    exact rRi C rfl (Option.some.inj h) dX8_fits_155
                · have h := ite_t c25 h
                  refine lv_iload hx hb dX8_fits_136 (lv_at hl 2 rfl) ?_
                  exact rRi C rfl (Option.some.inj h) dX8_fits_138
          · have h := ite_f c7 h
            refine lv_iconst (v := (-1)) hx hb dX8_fits_27 (by decide) ?_
            exact rRi C rfl (Option.some.inj h) dX8_fits_28

def fX8_game (z_t : Sx) (z_t_5 : Sx) (x1 : Int32) (x2 : Int32) : Option (Int32 × Sx) := if x1 < 0 then some ((-1000), z_t_5) else if 8 ≤ x1 then some ((-1000), z_t_5) else if x2 < (-99) then some ((-1000), z_t_5) else if x2 ≤ 99 then gd (inb x1 8) (some (gT z_t_5 7 x1.toNatClampNeg, sT z_t_5 7 x1.toNatClampNeg x2)) else some ((-1000), z_t_5)

set_option maxHeartbeats 4000000 in
set_option maxRecDepth 100000 in
theorem mX8_game (l : Launch) (D : va_G) (a : Nat → ClassId) {q_t : Nat} {Q_t : Nat → Nat} {z_t : Sx} {Q_t_5 : Nat → Nat} {z_t_5 : Sx} {x1 : Int32} {x2 : Int32} {y : Int32 × Sx} (h : fX8_game z_t z_t_5 x1 x2 = some y) (sz : Nat) : CMi (S := Unit) l MX8_game 0 0 0 0 D a [.ref q_t, .int x1, .int x2] (rc8 a q_t Q_t z_t ++ (rc5 a (Q_t 5) Q_t_5 z_t_5)) sz (fun r _ => r = y.1) (fun _ => rc8 a q_t Q_t z_t ++ (rc5 a (Q_t 5) Q_t_5 y.2)) := by
  unfold fX8_game at h
  refine entMi (by decide) (Nat.le_of_ble_eq_true rfl) ?_
  intro p e s m below meth c C hK A hA hP hD ls hl
  obtain ⟨hx, hb, hml, hown, hts, hr, hlocks, hnm⟩ := id C
  have hb : c.code = cX8_game := hb
  have hown : s.vm.findClass RX8 = some m.cls := hown
  have hS : va_S A s.heap s.heap [] := va_S.rf
  have hl : lv_has ls 4 [(0, .ref q_t), (1, .int x1), (2, .int x2)] := hl
  refine lv_iload_n hx hb dX8_game_0 rfl (lv_at hl 1 rfl) ?_
  refine lv_if_lt (tgt := 28) hx hb dX8_game_1 (by decide) (fun c1 => ?_) (fun c1 => ?_)
  · have h := ite_t c1 h
    refine lv_sipush (v := (-1000)) hx hb dX8_game_28 (by decide) ?_
    exact rMi C rfl h (g := fun y => rc8 a q_t Q_t z_t ++ (rc5 a (Q_t 5) Q_t_5 y.2)) (pr := fun y => y.1) hP hD hS dX8_game_31
  · have h := ite_f c1 h
    refine lv_iload_n hx hb dX8_game_4 rfl (lv_at hl 1 rfl) ?_
    refine lv_aload_n hx hb dX8_game_5 rfl (lv_at hl 0 rfl) ?_
    refine va_get (D := D) (v := .ref (Q_t 5)) (C := RX8) (T := TX8) (N := 11) hx hb hts iX8 hown hK.1 hP 0 rfl rfl 5 (by decide) (hts _ t_305) (fun _ h9 => h9) rfl dX8_game_6 ?_
    refine va_get (D := D) (v := .ref (Q_t_5 7)) (C := RX5) (T := TX5) (N := 8) hx hb hts iX5 hown hK.1 hP 2 rfl rfl 7 (by decide) (hts _ t_175) (fun _ h9 => h9) rfl dX8_game_9 ?_
    refine va_alen (v := 8) hx hb hK.1 hP 4 0 rfl rfl rfl dX8_game_12 ?_
    refine lv_icmp_ge (tgt := 28) hx hb dX8_game_13 (by decide) (fun c2 => ?_) (fun c2 => ?_)
    · have h := ite_t c2 h
      refine lv_sipush (v := (-1000)) hx hb dX8_game_28 (by decide) ?_
      exact rMi C rfl h (g := fun y => rc8 a q_t Q_t z_t ++ (rc5 a (Q_t 5) Q_t_5 y.2)) (pr := fun y => y.1) hP hD hS dX8_game_31
    · have h := ite_f c2 h
      refine lv_iload_n hx hb dX8_game_16 rfl (lv_at hl 2 rfl) ?_
      refine lv_bipush (v := (-99)) hx hb dX8_game_17 (by decide) ?_
      refine lv_icmp_lt (tgt := 28) hx hb dX8_game_19 (by decide) (fun c3 => ?_) (fun c3 => ?_)
      · have h := ite_t c3 h
        refine lv_sipush (v := (-1000)) hx hb dX8_game_28 (by decide) ?_
        exact rMi C rfl h (g := fun y => rc8 a q_t Q_t z_t ++ (rc5 a (Q_t 5) Q_t_5 y.2)) (pr := fun y => y.1) hP hD hS dX8_game_31
      · have h := ite_f c3 h
        refine lv_iload_n hx hb dX8_game_22 rfl (lv_at hl 2 rfl) ?_
        refine lv_bipush (v := 99) hx hb dX8_game_23 (by decide) ?_
        refine lv_icmp_le (tgt := 32) hx hb dX8_game_25 (by decide) (fun c4 => ?_) (fun c4 => ?_)
        · have h := ite_t c4 h
          refine lv_aload_n hx hb dX8_game_32 rfl (lv_at hl 0 rfl) ?_
          refine va_get (D := D) (v := .ref (Q_t 5)) (C := RX8) (T := TX8) (N := 11) hx hb hts iX8 hown hK.1 hP 0 rfl rfl 5 (by decide) (hts _ t_305) (fun _ h9 => h9) rfl dX8_game_33 ?_
          refine va_get (D := D) (v := .ref (Q_t_5 7)) (C := RX5) (T := TX5) (N := 8) hx hb hts iX5 hown hK.1 hP 2 rfl rfl 7 (by decide) (hts _ t_175) (fun _ h9 => h9) rfl dX8_game_36 ?_
          refine lv_iload_n hx hb dX8_game_39 rfl (lv_at hl 1 rfl) ?_
          obtain ⟨g5, h⟩ := gd_some h
          refine ald_i hx hb hK.1 hP 4 0 rfl rfl x1.toNatClampNeg (ix_g g5) dX8_game_40 ?_
          refine lv_istore_n (lv' := [(3, .int (gT z_t_5 7 x1.toNatClampNeg)), (0, .ref q_t), (1, .int x1), (2, .int x2)]) hx hb dX8_game_41 rfl hl (by decide) rfl (fun ls hl => ?_)
          refine lv_aload_n hx hb dX8_game_42 rfl (lv_at hl 1 rfl) ?_
          refine va_get (D := D) (v := .ref (Q_t 5)) (C := RX8) (T := TX8) (N := 11) hx hb hts iX8 hown hK.1 hP 0 rfl rfl 5 (by decide) (hts _ t_305) (fun _ h9 => h9) rfl dX8_game_43 ?_
          refine va_get (D := D) (v := .ref (Q_t_5 7)) (C := RX5) (T := TX5) (N := 8) hx hb hts iX5 hown hK.1 hP 2 rfl rfl 7 (by decide) (hts _ t_175) (fun _ h9 => h9) rfl dX8_game_46 ?_
          refine lv_iload_n hx hb dX8_game_49 rfl (lv_at hl 2 rfl) ?_
          refine lv_iload_n hx hb dX8_game_50 rfl (lv_at hl 3 rfl) ?_
          refine ast_i hx hb hK.1 hP hD hS 4 0 rfl rfl x1.toNatClampNeg (ix_g g5) dX8_game_51 (fun H locs hP hD hS => ?_)
          have hP : va_P D classes (rc8 a q_t Q_t z_t ++ (rc5 a (Q_t 5) Q_t_5 (sT z_t_5 7 x1.toNatClampNeg x2))) H := hP
          have hD : va_D A (rc8 a q_t Q_t z_t ++ (rc5 a (Q_t 5) Q_t_5 (sT z_t_5 7 x1.toNatClampNeg x2))) := hD
          refine lv_iload_n hx hb dX8_game_52 rfl (lv_at hl 0 rfl) ?_
          exact rMi C rfl h (g := fun y => rc8 a q_t Q_t z_t ++ (rc5 a (Q_t 5) Q_t_5 y.2)) (pr := fun y => y.1) hP hD hS dX8_game_53
        · have h := ite_f c4 h
          refine lv_sipush (v := (-1000)) hx hb dX8_game_28 (by decide) ?_
          exact rMi C rfl h (g := fun y => rc8 a q_t Q_t z_t ++ (rc5 a (Q_t 5) Q_t_5 y.2)) (pr := fun y => y.1) hP hD hS dX8_game_31

def fX8_kind (z_t : Sx) (z_t_5 : Sx) (z_t_5_0 : Sx) (x1 : Int32) (x2 : Int32) : Option (Int32) := if x1 < 0 then some (-1) else if x1 < (gI z_t_5_0 2) then if x2 = 0 then bd (fX8_at 6 (gT z_t_5_0 5) x1) (fun r5 => some r5) else if x2 = 1 then bd (fX8_at 6 (gT z_t_5_0 6) x1) (fun r7 => some r7) else if x2 = 2 then bd (fX8_at 6 (gT z_t_5_0 7) x1) (fun r9 => some r9) else some (-1) else some (-1)

set_option maxHeartbeats 4000000 in
set_option maxRecDepth 100000 in
theorem mX8_kind (l : Launch) (D : va_G) (a : Nat → ClassId) {q_t : Nat} {Q_t : Nat → Nat} {z_t : Sx} {Q_t_5 : Nat → Nat} {z_t_5 : Sx} {Q_t_5_0 : Nat → Nat} {z_t_5_0 : Sx} {x1 : Int32} {x2 : Int32} {y : Int32} (h : fX8_kind z_t z_t_5 z_t_5_0 x1 x2 = some y) : CRi l MX8_kind 1 21 D a [.ref q_t, .int x1, .int x2] (rc8 a q_t Q_t z_t ++ (rc5 a (Q_t 5) Q_t_5 z_t_5 ++ (rc7 a (Q_t_5 0) Q_t_5_0 z_t_5_0))) (fun r => r = y) := by
  unfold fX8_kind at h
  refine entR (by decide) (Nat.le_of_ble_eq_true rfl) ?_
  intro p e s m below meth c C hK hP ls hl
  obtain ⟨hx, hb, hml, hown, hts, hr, hlocks, hnm⟩ := id C
  have hb : c.code = cX8_kind := hb
  have hown : s.vm.findClass RX8 = some m.cls := hown
  have hl : lv_has ls 4 [(0, .ref q_t), (1, .int x1), (2, .int x2)] := hl
  refine lv_aload_n hx hb dX8_kind_0 rfl (lv_at hl 0 rfl) ?_
  refine va_get (D := D) (v := .ref (Q_t 5)) (C := RX8) (T := TX8) (N := 11) hx hb hts iX8 hown hK.1 hP 0 rfl rfl 5 (by decide) (hts _ t_305) (fun _ h9 => h9) rfl dX8_kind_1 ?_
  refine va_get (D := D) (v := .ref (Q_t_5 0)) (C := RX5) (T := TX5) (N := 8) hx hb hts iX5 hown hK.1 hP 2 rfl rfl 0 (by decide) (hts _ t_161) (fun _ h9 => h9) rfl dX8_kind_4 ?_
  refine lv_astore_n (lv' := [(3, .ref (Q_t_5 0)), (0, .ref q_t), (1, .int x1), (2, .int x2)]) hx hb dX8_kind_7 rfl hl (by decide) rfl (fun ls hl => ?_)
  refine lv_iload_n hx hb dX8_kind_8 rfl (lv_at hl 2 rfl) ?_
  refine lv_if_lt (tgt := 20) hx hb dX8_kind_9 (by decide) (fun c1 => ?_) (fun c1 => ?_)
  · have h := ite_t c1 h
    refine lv_iconst (v := (-1)) hx hb dX8_kind_20 (by decide) ?_
    exact rRi C rfl (Option.some.inj h) dX8_kind_21
  · have h := ite_f c1 h
    refine lv_iload_n hx hb dX8_kind_12 rfl (lv_at hl 2 rfl) ?_
    refine lv_aload_n hx hb dX8_kind_13 rfl (lv_at hl 0 rfl) ?_
    refine va_get (D := D) (v := .int (gI z_t_5_0 2)) (C := RX7) (T := TX7) (N := 18) hx hb hts iX7 hown hK.1 hP 5 rfl rfl 2 (by decide) (hts _ t_43) (fun _ h9 => h9) rfl dX8_kind_14 ?_
    refine lv_icmp_lt (tgt := 22) hx hb dX8_kind_17 (by decide) (fun c2 => ?_) (fun c2 => ?_)
    · have h := ite_t c2 h
      refine lv_iload_n hx hb dX8_kind_22 rfl (lv_at hl 3 rfl) ?_
      by_cases c3_0 : x2 = 0
      · have h := ite_t c3_0 h
        refine lv_tableIn (off := 25) (tgt := 48) hx hb dX8_kind_23 (by rw [c3_0]; decide) (by rw [c3_0]; decide) (by rw [c3_0]; decide) (by decide) ?_
        refine lv_aload_n hx hb dX8_kind_48 rfl (lv_at hl 0 rfl) ?_
        refine va_get (D := D) (v := .ref (Q_t_5_0 5)) (C := RX7) (T := TX7) (N := 18) hx hb hts iX7 hown hK.1 hP 5 rfl rfl 5 (by decide) (hts _ t_50) (fun _ h9 => h9) rfl dX8_kind_49 ?_
        refine lv_iload_n hx hb dX8_kind_52 rfl (lv_at hl 2 rfl) ?_
        obtain ⟨r5, hc4, h⟩ := bd_some h
        refine cRi (runS (As := [.ref (Q_t_5_0 5), .int x1]) (rest := []) C (mX8_at l D a hc4) lk_S_8_129 okN_X8_at ⟨Nat.le_of_ble_eq_true rfl, Nat.le_of_ble_eq_true rfl⟩ ⟨rfl, rfl⟩ (preR hK (P_of_map (wc := ra0 a (Q_t_5_0 5) 6 (gT z_t_5_0 5)) hP [6] rfl)) hl.1 rfl (Nat.le_of_ble_eq_true rfl) dX8_kind_53 ⟨Nat.le_of_ble_eq_true rfl, Nat.le_of_ble_eq_true rfl⟩) ?_
        exact rRi C rfl (Option.some.inj h) dX8_kind_56
      have h := ite_f c3_0 h
      by_cases c3_1 : x2 = 1
      · have h := ite_t c3_1 h
        refine lv_tableIn (off := 34) (tgt := 57) hx hb dX8_kind_23 (by rw [c3_1]; decide) (by rw [c3_1]; decide) (by rw [c3_1]; decide) (by decide) ?_
        refine lv_aload_n hx hb dX8_kind_57 rfl (lv_at hl 0 rfl) ?_
        refine va_get (D := D) (v := .ref (Q_t_5_0 6)) (C := RX7) (T := TX7) (N := 18) hx hb hts iX7 hown hK.1 hP 5 rfl rfl 6 (by decide) (hts _ t_52) (fun _ h9 => h9) rfl dX8_kind_58 ?_
        refine lv_iload_n hx hb dX8_kind_61 rfl (lv_at hl 2 rfl) ?_
        obtain ⟨r7, hc6, h⟩ := bd_some h
        refine cRi (runS (As := [.ref (Q_t_5_0 6), .int x1]) (rest := []) C (mX8_at l D a hc6) lk_S_8_129 okN_X8_at ⟨Nat.le_of_ble_eq_true rfl, Nat.le_of_ble_eq_true rfl⟩ ⟨rfl, rfl⟩ (preR hK (P_of_map (wc := ra0 a (Q_t_5_0 6) 6 (gT z_t_5_0 6)) hP [7] rfl)) hl.1 rfl (Nat.le_of_ble_eq_true rfl) dX8_kind_62 ⟨Nat.le_of_ble_eq_true rfl, Nat.le_of_ble_eq_true rfl⟩) ?_
        exact rRi C rfl (Option.some.inj h) dX8_kind_65
      have h := ite_f c3_1 h
      by_cases c3_2 : x2 = 2
      · have h := ite_t c3_2 h
        refine lv_tableIn (off := 43) (tgt := 66) hx hb dX8_kind_23 (by rw [c3_2]; decide) (by rw [c3_2]; decide) (by rw [c3_2]; decide) (by decide) ?_
        refine lv_aload_n hx hb dX8_kind_66 rfl (lv_at hl 0 rfl) ?_
        refine va_get (D := D) (v := .ref (Q_t_5_0 7)) (C := RX7) (T := TX7) (N := 18) hx hb hts iX7 hown hK.1 hP 5 rfl rfl 7 (by decide) (hts _ t_54) (fun _ h9 => h9) rfl dX8_kind_67 ?_
        refine lv_iload_n hx hb dX8_kind_70 rfl (lv_at hl 2 rfl) ?_
        obtain ⟨r9, hc8, h⟩ := bd_some h
        refine cRi (runS (As := [.ref (Q_t_5_0 7), .int x1]) (rest := []) C (mX8_at l D a hc8) lk_S_8_129 okN_X8_at ⟨Nat.le_of_ble_eq_true rfl, Nat.le_of_ble_eq_true rfl⟩ ⟨rfl, rfl⟩ (preR hK (P_of_map (wc := ra0 a (Q_t_5_0 7) 6 (gT z_t_5_0 7)) hP [8] rfl)) hl.1 rfl (Nat.le_of_ble_eq_true rfl) dX8_kind_71 ⟨Nat.le_of_ble_eq_true rfl, Nat.le_of_ble_eq_true rfl⟩) ?_
        exact rRi C rfl (Option.some.inj h) dX8_kind_74
      have h := ite_f c3_2 h
      refine lv_tableOut (tgt := 75) hx hb dX8_kind_23 (by have := lv_neT c3_0 (show (0 : Int32).toInt = 0 by decide); have := lv_neT c3_1 (show (1 : Int32).toInt = 1 by decide); have := lv_neT c3_2 (show (2 : Int32).toInt = 2 by decide); omega) (by decide) ?_
      refine lv_iconst (v := (-1)) hx hb dX8_kind_75 (by decide) ?_
      exact rRi C rfl (Option.some.inj h) dX8_kind_76
    · have h := ite_f c2 h
      refine lv_iconst (v := (-1)) hx hb dX8_kind_20 (by decide) ?_
      exact rRi C rfl (Option.some.inj h) dX8_kind_21

def fX8_look (z_t : Sx) (z_t_5 : Sx) (z_t_5_0 : Sx) (z_t_5_1 : Sx) (x1 : Int32) : Option (Int32 × Sx) := bd (fX8_isFault z_t z_t_5 z_t_5_0 x1) (fun r2 => if r2 = 0 then some ((-1), z_t_5_1) else bd (fX0_gone z_t_5_1) (fun r5 => bd (fX7_isOpen z_t_5_0 x1 r5) (fun r7 => if r7 = 0 then some ((-2), z_t_5_1) else bd (fX8_at 10 (gT z_t_5_0 9) x1) (fun r10 => if r10 ≤ (gI z_t_5_1 0) then bd2 (fX0_lookFor z_t_5_1 z_t_5_0 x1) (fun r13 z14 => if r13 = 0 then some (0, z14) else some (1, z14)) else some ((-3), z_t_5_1)))))

set_option maxHeartbeats 4000000 in
set_option maxRecDepth 100000 in
theorem mX8_look (l : Launch) (D : va_G) (a : Nat → ClassId) {q_t : Nat} {Q_t : Nat → Nat} {z_t : Sx} {Q_t_5 : Nat → Nat} {z_t_5 : Sx} {Q_t_5_0 : Nat → Nat} {z_t_5_0 : Sx} {Q_t_5_1 : Nat → Nat} {z_t_5_1 : Sx} {x1 : Int32} {y : Int32 × Sx} (h : fX8_look z_t z_t_5 z_t_5_0 z_t_5_1 x1 = some y) (sz : Nat) : CMi (S := Unit) l MX8_look 2 44 0 0 D a [.ref q_t, .int x1] (rc8 a q_t Q_t z_t ++ (rc5 a (Q_t 5) Q_t_5 z_t_5 ++ (rc7 a (Q_t_5 0) Q_t_5_0 z_t_5_0 ++ (rc0 a (Q_t_5 1) Q_t_5_1 z_t_5_1)))) sz (fun r _ => r = y.1) (fun _ => rc8 a q_t Q_t z_t ++ (rc5 a (Q_t 5) Q_t_5 z_t_5 ++ (rc7 a (Q_t_5 0) Q_t_5_0 z_t_5_0 ++ (rc0 a (Q_t_5 1) Q_t_5_1 y.2)))) := by
  unfold fX8_look at h
  refine entMi (by decide) (Nat.le_of_ble_eq_true rfl) ?_
  intro p e s m below meth c C hK A hA hP hD ls hl
  obtain ⟨hx, hb, hml, hown, hts, hr, hlocks, hnm⟩ := id C
  have hb : c.code = cX8_look := hb
  have hown : s.vm.findClass RX8 = some m.cls := hown
  have hS : va_S A s.heap s.heap [] := va_S.rf
  have hl : lv_has ls 2 [(0, .ref q_t), (1, .int x1)] := hl
  refine lv_aload_n hx hb dX8_look_0 rfl (lv_at hl 0 rfl) ?_
  refine lv_iload_n hx hb dX8_look_1 rfl (lv_at hl 1 rfl) ?_
  obtain ⟨r2, hc1, h⟩ := bd_some h
  refine cRi (runV (As := [.int x1]) (rest := []) C (mX8_isFault l D a hc1) lk_V_8_139 okN_X8_isFault ⟨Nat.le_of_ble_eq_true rfl, Nat.le_of_ble_eq_true rfl⟩ ⟨rfl, rfl⟩ (preV (preR hK (P_of_map (wc := rc8 a q_t Q_t z_t ++ (rc5 a (Q_t 5) Q_t_5 z_t_5 ++ (rc7 a (Q_t_5 0) Q_t_5_0 z_t_5_0))) hP [0, 1, 2, 3, 4, 5, 6, 7, 8, 9, 10, 11, 12, 13, 14, 15, 16, 17] rfl)) (recvOf hK hP 0 rfl (ci := 8) rfl)) hl.1 rfl (Nat.le_of_ble_eq_true rfl) dX8_look_2 ⟨Nat.le_of_ble_eq_true rfl, Nat.le_of_ble_eq_true rfl⟩) ?_
  refine lv_if_ne (tgt := 10) hx hb dX8_look_5 (by decide) (fun c3 => ?_) (fun c3 => ?_)
  · have h := ite_f c3 h
    refine lv_aload_n hx hb dX8_look_10 rfl (lv_at hl 0 rfl) ?_
    refine va_get (D := D) (v := .ref (Q_t 5)) (C := RX8) (T := TX8) (N := 11) hx hb hts iX8 hown hK.1 hP 0 rfl rfl 5 (by decide) (hts _ t_305) (fun _ h9 => h9) rfl dX8_look_11 ?_
    refine va_get (D := D) (v := .ref (Q_t_5 0)) (C := RX5) (T := TX5) (N := 8) hx hb hts iX5 hown hK.1 hP 2 rfl rfl 0 (by decide) (hts _ t_161) (fun _ h9 => h9) rfl dX8_look_14 ?_
    refine lv_iload_n hx hb dX8_look_17 rfl (lv_at hl 1 rfl) ?_
    refine lv_aload_n hx hb dX8_look_18 rfl (lv_at hl 0 rfl) ?_
    refine va_get (D := D) (v := .ref (Q_t 5)) (C := RX8) (T := TX8) (N := 11) hx hb hts iX8 hown hK.1 hP 0 rfl rfl 5 (by decide) (hts _ t_305) (fun _ h9 => h9) rfl dX8_look_19 ?_
    refine va_get (D := D) (v := .ref (Q_t_5 1)) (C := RX5) (T := TX5) (N := 8) hx hb hts iX5 hown hK.1 hP 2 rfl rfl 1 (by decide) (hts _ t_163) (fun _ h9 => h9) rfl dX8_look_22 ?_
    obtain ⟨r5, hc4, h⟩ := bd_some h
    refine cRi (runV (As := []) (rest := [.int x1, .ref (Q_t_5 0)]) C (mX0_gone l D a hc4) lk_V_8_171 okN_X0_gone ⟨Nat.le_of_ble_eq_true rfl, Nat.le_of_ble_eq_true rfl⟩ ⟨rfl, rfl⟩ (preV (preR hK (P_of_map (wc := rc0 a (Q_t_5 1) Q_t_5_1 z_t_5_1) hP [18, 19] rfl)) (recvOf hK hP 18 rfl (ci := 0) rfl)) hl.1 rfl (Nat.le_of_ble_eq_true rfl) dX8_look_25 ⟨Nat.le_of_ble_eq_true rfl, Nat.le_of_ble_eq_true rfl⟩) ?_
    obtain ⟨r7, hc6, h⟩ := bd_some h
    refine cRi (runV (As := [.int x1, .int r5]) (rest := []) C (mX7_isOpen l D a hc6) lk_V_8_175 okN_X7_isOpen ⟨Nat.le_of_ble_eq_true rfl, Nat.le_of_ble_eq_true rfl⟩ ⟨rfl, rfl⟩ (preV (preR hK (P_of_map (wc := rc7 a (Q_t_5 0) Q_t_5_0 z_t_5_0) hP [5, 6, 7, 8, 9, 10, 11, 12, 13, 14, 15, 16, 17] rfl)) (recvOf hK hP 5 rfl (ci := 7) rfl)) hl.1 rfl (Nat.le_of_ble_eq_true rfl) dX8_look_28 ⟨Nat.le_of_ble_eq_true rfl, Nat.le_of_ble_eq_true rfl⟩) ?_
    refine lv_if_ne (tgt := 37) hx hb dX8_look_31 (by decide) (fun c8 => ?_) (fun c8 => ?_)
    · have h := ite_f c8 h
      refine lv_aload_n hx hb dX8_look_37 rfl (lv_at hl 0 rfl) ?_
      refine va_get (D := D) (v := .ref (Q_t 5)) (C := RX8) (T := TX8) (N := 11) hx hb hts iX8 hown hK.1 hP 0 rfl rfl 5 (by decide) (hts _ t_305) (fun _ h9 => h9) rfl dX8_look_38 ?_
      refine va_get (D := D) (v := .ref (Q_t_5 0)) (C := RX5) (T := TX5) (N := 8) hx hb hts iX5 hown hK.1 hP 2 rfl rfl 0 (by decide) (hts _ t_161) (fun _ h9 => h9) rfl dX8_look_41 ?_
      refine va_get (D := D) (v := .ref (Q_t_5_0 9)) (C := RX7) (T := TX7) (N := 18) hx hb hts iX7 hown hK.1 hP 5 rfl rfl 9 (by decide) (hts _ t_62) (fun _ h9 => h9) rfl dX8_look_44 ?_
      refine lv_iload_n hx hb dX8_look_47 rfl (lv_at hl 1 rfl) ?_
      obtain ⟨r10, hc9, h⟩ := bd_some h
      refine cRi (runS (As := [.ref (Q_t_5_0 9), .int x1]) (rest := []) C (mX8_at l D a hc9) lk_S_8_129 okN_X8_at ⟨Nat.le_of_ble_eq_true rfl, Nat.le_of_ble_eq_true rfl⟩ ⟨rfl, rfl⟩ (preR hK (P_of_map (wc := ra0 a (Q_t_5_0 9) 10 (gT z_t_5_0 9)) hP [10] rfl)) hl.1 rfl (Nat.le_of_ble_eq_true rfl) dX8_look_48 ⟨Nat.le_of_ble_eq_true rfl, Nat.le_of_ble_eq_true rfl⟩) ?_
      refine lv_aload_n hx hb dX8_look_51 rfl (lv_at hl 0 rfl) ?_
      refine va_get (D := D) (v := .ref (Q_t 5)) (C := RX8) (T := TX8) (N := 11) hx hb hts iX8 hown hK.1 hP 0 rfl rfl 5 (by decide) (hts _ t_305) (fun _ h9 => h9) rfl dX8_look_52 ?_
      refine va_get (D := D) (v := .ref (Q_t_5 1)) (C := RX5) (T := TX5) (N := 8) hx hb hts iX5 hown hK.1 hP 2 rfl rfl 1 (by decide) (hts _ t_163) (fun _ h9 => h9) rfl dX8_look_55 ?_
      refine va_get (D := D) (v := .int (gI z_t_5_1 0)) (C := RX0) (T := TX0) (N := 6) hx hb hts iX0 hown hK.1 hP 18 rfl rfl 0 (by decide) (hts _ t_132) (fun _ h9 => h9) rfl dX8_look_58 ?_
      refine lv_icmp_le (tgt := 67) hx hb dX8_look_61 (by decide) (fun c11 => ?_) (fun c11 => ?_)
      · have h := ite_t c11 h
        refine lv_aload_n hx hb dX8_look_67 rfl (lv_at hl 0 rfl) ?_
        refine va_get (D := D) (v := .ref (Q_t 5)) (C := RX8) (T := TX8) (N := 11) hx hb hts iX8 hown hK.1 hP 0 rfl rfl 5 (by decide) (hts _ t_305) (fun _ h9 => h9) rfl dX8_look_68 ?_
        refine va_get (D := D) (v := .ref (Q_t_5 1)) (C := RX5) (T := TX5) (N := 8) hx hb hts iX5 hown hK.1 hP 2 rfl rfl 1 (by decide) (hts _ t_163) (fun _ h9 => h9) rfl dX8_look_71 ?_
        refine lv_aload_n hx hb dX8_look_74 rfl (lv_at hl 0 rfl) ?_
        refine va_get (D := D) (v := .ref (Q_t 5)) (C := RX8) (T := TX8) (N := 11) hx hb hts iX8 hown hK.1 hP 0 rfl rfl 5 (by decide) (hts _ t_305) (fun _ h9 => h9) rfl dX8_look_75 ?_
        refine va_get (D := D) (v := .ref (Q_t_5 0)) (C := RX5) (T := TX5) (N := 8) hx hb hts iX5 hown hK.1 hP 2 rfl rfl 0 (by decide) (hts _ t_161) (fun _ h9 => h9) rfl dX8_look_78 ?_
        refine lv_iload_n hx hb dX8_look_81 rfl (lv_at hl 1 rfl) ?_
        obtain ⟨r13, z14, hc12, h⟩ := bd2_some h
        refine cMi (runV (As := [.ref (Q_t_5 0), .int x1]) (rest := []) C (mX0_lookFor l D a hc12 s.heap.size) lk_V_8_209 okN_X0_lookFor ⟨Nat.le_of_ble_eq_true rfl, Nat.le_of_ble_eq_true rfl⟩ ⟨rfl, rfl⟩ (preV (preM hK (P_of_map (wc := rc0 a (Q_t_5 1) Q_t_5_1 z_t_5_1 ++ (rc7 a (Q_t_5 0) Q_t_5_0 z_t_5_0)) hP [18, 19, 5, 6, 7, 8, 9, 10, 11, 12, 13, 14, 15, 16, 17] rfl) (hD.sub (ws' := rc0 a (Q_t_5 1) Q_t_5_1 z_t_5_1 ++ (rc7 a (Q_t_5 0) Q_t_5_0 z_t_5_0)) [18, 19, 5, 6, 7, 8, 9, 10, 11, 12, 13, 14, 15, 16, 17] (by decide) rfl)) (recvOf hK hP 18 rfl (ci := 0) rfl)) hl.1 rfl (Nat.le_of_ble_eq_true rfl) dX8_look_82 ⟨Nat.le_of_ble_eq_true rfl, Nat.le_of_ble_eq_true rfl⟩) hP hD hS hA [18, 19, 5, 6, 7, 8, 9, 10, 11, 12, 13, 14, 15, 16, 17] [0, 1, 2, 3, 4] [0, 1, 2, 3, 4, 7, 8, 9, 10, 11, 12, 13, 14, 15, 16, 17, 18, 19, 5, 6] rfl rfl (by decide) (by decide) (fw := rc8 a q_t Q_t z_t ++ (rc5 a (Q_t 5) Q_t_5 z_t_5 ++ (rc7 a (Q_t_5 0) Q_t_5_0 z_t_5_0 ++ (rc0 a (Q_t_5 1) Q_t_5_1 z14)))) rfl (by decide) (fun H locs hP hD hS => ?_)
        have hP : va_P D classes (rc8 a q_t Q_t z_t ++ (rc5 a (Q_t 5) Q_t_5 z_t_5 ++ (rc7 a (Q_t_5 0) Q_t_5_0 z_t_5_0 ++ (rc0 a (Q_t_5 1) Q_t_5_1 z14)))) H := hP
        have hD : va_D A (rc8 a q_t Q_t z_t ++ (rc5 a (Q_t 5) Q_t_5 z_t_5 ++ (rc7 a (Q_t_5 0) Q_t_5_0 z_t_5_0 ++ (rc0 a (Q_t_5 1) Q_t_5_1 z14)))) := hD
        refine lv_if_eq (tgt := 92) hx hb dX8_look_85 (by decide) (fun c15 => ?_) (fun c15 => ?_)
        · have h := ite_t c15 h
          refine lv_iconst (v := 0) hx hb dX8_look_92 (by decide) ?_
          exact rMi C rfl h (g := fun y => rc8 a q_t Q_t z_t ++ (rc5 a (Q_t 5) Q_t_5 z_t_5 ++ (rc7 a (Q_t_5 0) Q_t_5_0 z_t_5_0 ++ (rc0 a (Q_t_5 1) Q_t_5_1 y.2)))) (pr := fun y => y.1) hP hD hS dX8_look_93
        · have h := ite_f c15 h
          refine lv_iconst (v := 1) hx hb dX8_look_88 (by decide) ?_
          refine lv_goto (tgt := 93) hx hb dX8_look_89 (by decide) ?_
          exact rMi C rfl h (g := fun y => rc8 a q_t Q_t z_t ++ (rc5 a (Q_t 5) Q_t_5 z_t_5 ++ (rc7 a (Q_t_5 0) Q_t_5_0 z_t_5_0 ++ (rc0 a (Q_t_5 1) Q_t_5_1 y.2)))) (pr := fun y => y.1) hP hD hS dX8_look_93
      · have h := ite_f c11 h
        refine lv_bipush (v := (-3)) hx hb dX8_look_64 (by decide) ?_
        exact rMi C rfl h (g := fun y => rc8 a q_t Q_t z_t ++ (rc5 a (Q_t 5) Q_t_5 z_t_5 ++ (rc7 a (Q_t_5 0) Q_t_5_0 z_t_5_0 ++ (rc0 a (Q_t_5 1) Q_t_5_1 y.2)))) (pr := fun y => y.1) hP hD hS dX8_look_66
    · have h := ite_t c8 h
      refine lv_bipush (v := (-2)) hx hb dX8_look_34 (by decide) ?_
      exact rMi C rfl h (g := fun y => rc8 a q_t Q_t z_t ++ (rc5 a (Q_t 5) Q_t_5 z_t_5 ++ (rc7 a (Q_t_5 0) Q_t_5_0 z_t_5_0 ++ (rc0 a (Q_t_5 1) Q_t_5_1 y.2)))) (pr := fun y => y.1) hP hD hS dX8_look_36
  · have h := ite_t c3 h
    refine lv_iconst (v := (-1)) hx hb dX8_look_8 (by decide) ?_
    exact rMi C rfl h (g := fun y => rc8 a q_t Q_t z_t ++ (rc5 a (Q_t 5) Q_t_5 z_t_5 ++ (rc7 a (Q_t_5 0) Q_t_5_0 z_t_5_0 ++ (rc0 a (Q_t_5 1) Q_t_5_1 y.2)))) (pr := fun y => y.1) hP hD hS dX8_look_9

def fX8_master (z_t : Sx) (z_t_5 : Sx) (z_t_5_0 : Sx) (z_t_5_1 : Sx) (z_t_10 : Sx) (x1 : Int32) (x2 : Int32) : Option (Int64 × Sx) := bd (fX8_hasWork z_t z_t_5 z_t_5_0) (fun r2 => if r2 = 0 then some ((-1000000000000), z_t_10) else if x1 < 0 then some ((-1000000000000), z_t_10) else if 4 < x1 then some ((-1000000000000), z_t_10) else if x2 < 0 then some ((-1000000000000), z_t_10) else if x2 ≤ 2 then bd (fX0_gone z_t_5_1) (fun r9 => bd (fX1_weighSets z_t_10 z_t_5_0 x1 r9 (gI z_t_5_1 0)) (fun z11 => if x2 = 2 then some ((gI z11 2).toInt64, z11) else bd (fX8_hundreds x1) (fun r14 => bd (fX8_partOf (gJ z11 3 0) r14 x2) (fun r16 => some (r16, z11))))) else some ((-1000000000000), z_t_10))

set_option maxHeartbeats 4000000 in
set_option maxRecDepth 100000 in
theorem mX8_master (l : Launch) (D : va_G) (a : Nat → ClassId) {q_t : Nat} {Q_t : Nat → Nat} {z_t : Sx} {Q_t_5 : Nat → Nat} {z_t_5 : Sx} {Q_t_5_0 : Nat → Nat} {z_t_5_0 : Sx} {Q_t_5_1 : Nat → Nat} {z_t_5_1 : Sx} {Q_t_10 : Nat → Nat} {z_t_10 : Sx} {x1 : Int32} {x2 : Int32} {y : Int64 × Sx} (h : fX8_master z_t z_t_5 z_t_5_0 z_t_5_1 z_t_10 x1 x2 = some y) (sz : Nat) : CMl (S := Unit) l MX8_master 55 1616 0 0 D a [.ref q_t, .int x1, .int x2] (rc8 a q_t Q_t z_t ++ (rc5 a (Q_t 5) Q_t_5 z_t_5 ++ (rc7 a (Q_t_5 0) Q_t_5_0 z_t_5_0 ++ (rc0 a (Q_t_5 1) Q_t_5_1 z_t_5_1 ++ (rc1 a (Q_t 10) Q_t_10 z_t_10))))) sz (fun r _ => r = y.1) (fun _ => rc8 a q_t Q_t z_t ++ (rc5 a (Q_t 5) Q_t_5 z_t_5 ++ (rc7 a (Q_t_5 0) Q_t_5_0 z_t_5_0 ++ (rc0 a (Q_t_5 1) Q_t_5_1 z_t_5_1 ++ (rc1 a (Q_t 10) Q_t_10 y.2))))) := by
  unfold fX8_master at h
  refine entMl (by decide) (Nat.le_of_ble_eq_true rfl) ?_
  intro p e s m below meth c C hK A hA hP hD ls hl
  obtain ⟨hx, hb, hml, hown, hts, hr, hlocks, hnm⟩ := id C
  have hb : c.code = cX8_master := hb
  have hown : s.vm.findClass RX8 = some m.cls := hown
  have hS : va_S A s.heap s.heap [] := va_S.rf
  have hl : lv_has ls 3 [(0, .ref q_t), (1, .int x1), (2, .int x2)] := hl
  refine lv_aload_n hx hb dX8_master_0 rfl (lv_at hl 0 rfl) ?_
  obtain ⟨r2, hc1, h⟩ := bd_some h
  refine cRi (runV (As := []) (rest := []) C (mX8_hasWork l D a hc1) lk_V_8_213 okN_X8_hasWork ⟨Nat.le_of_ble_eq_true rfl, Nat.le_of_ble_eq_true rfl⟩ ⟨rfl, rfl⟩ (preV (preR hK (P_of_map (wc := rc8 a q_t Q_t z_t ++ (rc5 a (Q_t 5) Q_t_5 z_t_5 ++ (rc7 a (Q_t_5 0) Q_t_5_0 z_t_5_0))) hP [0, 1, 2, 3, 4, 5, 6, 7, 8, 9, 10, 11, 12, 13, 14, 15, 16, 17] rfl)) (recvOf hK hP 0 rfl (ci := 8) rfl)) hl.1 rfl (Nat.le_of_ble_eq_true rfl) dX8_master_1 ⟨Nat.le_of_ble_eq_true rfl, Nat.le_of_ble_eq_true rfl⟩) ?_
  refine lv_if_eq (tgt := 25) hx hb dX8_master_4 (by decide) (fun c3 => ?_) (fun c3 => ?_)
  · have h := ite_t c3 h
    refine lv_ldc2 hx hb hown (hts _ t_809) dX8_master_25 ?_
    exact rMl C rfl h (g := fun y => rc8 a q_t Q_t z_t ++ (rc5 a (Q_t 5) Q_t_5 z_t_5 ++ (rc7 a (Q_t_5 0) Q_t_5_0 z_t_5_0 ++ (rc0 a (Q_t_5 1) Q_t_5_1 z_t_5_1 ++ (rc1 a (Q_t 10) Q_t_10 y.2))))) (pr := fun y => y.1) hP hD hS dX8_master_28
  · have h := ite_f c3 h
    refine lv_iload_n hx hb dX8_master_7 rfl (lv_at hl 1 rfl) ?_
    refine lv_if_lt (tgt := 25) hx hb dX8_master_8 (by decide) (fun c4 => ?_) (fun c4 => ?_)
    · have h := ite_t c4 h
      refine lv_ldc2 hx hb hown (hts _ t_809) dX8_master_25 ?_
      exact rMl C rfl h (g := fun y => rc8 a q_t Q_t z_t ++ (rc5 a (Q_t 5) Q_t_5 z_t_5 ++ (rc7 a (Q_t_5 0) Q_t_5_0 z_t_5_0 ++ (rc0 a (Q_t_5 1) Q_t_5_1 z_t_5_1 ++ (rc1 a (Q_t 10) Q_t_10 y.2))))) (pr := fun y => y.1) hP hD hS dX8_master_28
    · have h := ite_f c4 h
      refine lv_iload_n hx hb dX8_master_11 rfl (lv_at hl 1 rfl) ?_
      refine lv_iconst (v := 4) hx hb dX8_master_12 (by decide) ?_
      refine lv_icmp_gt (tgt := 25) hx hb dX8_master_13 (by decide) (fun c5 => ?_) (fun c5 => ?_)
      · have h := ite_t c5 h
        refine lv_ldc2 hx hb hown (hts _ t_809) dX8_master_25 ?_
        exact rMl C rfl h (g := fun y => rc8 a q_t Q_t z_t ++ (rc5 a (Q_t 5) Q_t_5 z_t_5 ++ (rc7 a (Q_t_5 0) Q_t_5_0 z_t_5_0 ++ (rc0 a (Q_t_5 1) Q_t_5_1 z_t_5_1 ++ (rc1 a (Q_t 10) Q_t_10 y.2))))) (pr := fun y => y.1) hP hD hS dX8_master_28
      · have h := ite_f c5 h
        refine lv_iload_n hx hb dX8_master_16 rfl (lv_at hl 2 rfl) ?_
        refine lv_if_lt (tgt := 25) hx hb dX8_master_17 (by decide) (fun c6 => ?_) (fun c6 => ?_)
        · have h := ite_t c6 h
          refine lv_ldc2 hx hb hown (hts _ t_809) dX8_master_25 ?_
          exact rMl C rfl h (g := fun y => rc8 a q_t Q_t z_t ++ (rc5 a (Q_t 5) Q_t_5 z_t_5 ++ (rc7 a (Q_t_5 0) Q_t_5_0 z_t_5_0 ++ (rc0 a (Q_t_5 1) Q_t_5_1 z_t_5_1 ++ (rc1 a (Q_t 10) Q_t_10 y.2))))) (pr := fun y => y.1) hP hD hS dX8_master_28
        · have h := ite_f c6 h
          refine lv_iload_n hx hb dX8_master_20 rfl (lv_at hl 2 rfl) ?_
          refine lv_iconst (v := 2) hx hb dX8_master_21 (by decide) ?_
          refine lv_icmp_le (tgt := 29) hx hb dX8_master_22 (by decide) (fun c7 => ?_) (fun c7 => ?_)
          · have h := ite_t c7 h
            refine lv_aload_n hx hb dX8_master_29 rfl (lv_at hl 0 rfl) ?_
            refine va_get (D := D) (v := .ref (Q_t 10)) (C := RX8) (T := TX8) (N := 11) hx hb hts iX8 hown hK.1 hP 0 rfl rfl 10 (by decide) (hts _ t_310) (fun _ h9 => h9) rfl dX8_master_30 ?_
            refine lv_aload_n hx hb dX8_master_33 rfl (lv_at hl 0 rfl) ?_
            refine va_get (D := D) (v := .ref (Q_t 5)) (C := RX8) (T := TX8) (N := 11) hx hb hts iX8 hown hK.1 hP 0 rfl rfl 5 (by decide) (hts _ t_305) (fun _ h9 => h9) rfl dX8_master_34 ?_
            refine va_get (D := D) (v := .ref (Q_t_5 0)) (C := RX5) (T := TX5) (N := 8) hx hb hts iX5 hown hK.1 hP 2 rfl rfl 0 (by decide) (hts _ t_161) (fun _ h9 => h9) rfl dX8_master_37 ?_
            refine lv_iload_n hx hb dX8_master_40 rfl (lv_at hl 1 rfl) ?_
            refine lv_aload_n hx hb dX8_master_41 rfl (lv_at hl 0 rfl) ?_
            refine va_get (D := D) (v := .ref (Q_t 5)) (C := RX8) (T := TX8) (N := 11) hx hb hts iX8 hown hK.1 hP 0 rfl rfl 5 (by decide) (hts _ t_305) (fun _ h9 => h9) rfl dX8_master_42 ?_
            refine va_get (D := D) (v := .ref (Q_t_5 1)) (C := RX5) (T := TX5) (N := 8) hx hb hts iX5 hown hK.1 hP 2 rfl rfl 1 (by decide) (hts _ t_163) (fun _ h9 => h9) rfl dX8_master_45 ?_
            obtain ⟨r9, hc8, h⟩ := bd_some h
            refine cRi (runV (As := []) (rest := [.int x1, .ref (Q_t_5 0), .ref (Q_t 10)]) C (mX0_gone l D a hc8) lk_V_8_171 okN_X0_gone ⟨Nat.le_of_ble_eq_true rfl, Nat.le_of_ble_eq_true rfl⟩ ⟨rfl, rfl⟩ (preV (preR hK (P_of_map (wc := rc0 a (Q_t_5 1) Q_t_5_1 z_t_5_1) hP [18, 19] rfl)) (recvOf hK hP 18 rfl (ci := 0) rfl)) hl.1 rfl (Nat.le_of_ble_eq_true rfl) dX8_master_48 ⟨Nat.le_of_ble_eq_true rfl, Nat.le_of_ble_eq_true rfl⟩) ?_
            refine lv_aload_n hx hb dX8_master_51 rfl (lv_at hl 0 rfl) ?_
            refine va_get (D := D) (v := .ref (Q_t 5)) (C := RX8) (T := TX8) (N := 11) hx hb hts iX8 hown hK.1 hP 0 rfl rfl 5 (by decide) (hts _ t_305) (fun _ h9 => h9) rfl dX8_master_52 ?_
            refine va_get (D := D) (v := .ref (Q_t_5 1)) (C := RX5) (T := TX5) (N := 8) hx hb hts iX5 hown hK.1 hP 2 rfl rfl 1 (by decide) (hts _ t_163) (fun _ h9 => h9) rfl dX8_master_55 ?_
            refine va_get (D := D) (v := .int (gI z_t_5_1 0)) (C := RX0) (T := TX0) (N := 6) hx hb hts iX0 hown hK.1 hP 18 rfl rfl 0 (by decide) (hts _ t_132) (fun _ h9 => h9) rfl dX8_master_58 ?_
            obtain ⟨z11, hc10, h⟩ := bd_some h
            refine cMv (runV (As := [.ref (Q_t_5 0), .int x1, .int r9, .int (gI z_t_5_1 0)]) (rest := []) C (mX1_weighSets l D a hc10 s.heap.size) lk_V_8_272 okN_X1_weighSets ⟨Nat.le_of_ble_eq_true rfl, Nat.le_of_ble_eq_true rfl⟩ ⟨rfl, rfl⟩ (preV (preM hK (P_of_map (wc := rc1 a (Q_t 10) Q_t_10 z_t_10 ++ (rc7 a (Q_t_5 0) Q_t_5_0 z_t_5_0)) hP [20, 21, 22, 5, 6, 7, 8, 9, 10, 11, 12, 13, 14, 15, 16, 17] rfl) (hD.sub (ws' := rc1 a (Q_t 10) Q_t_10 z_t_10 ++ (rc7 a (Q_t_5 0) Q_t_5_0 z_t_5_0)) [20, 21, 22, 5, 6, 7, 8, 9, 10, 11, 12, 13, 14, 15, 16, 17] (by decide) rfl)) (recvOf hK hP 20 rfl (ci := 1) rfl)) hl.1 rfl (Nat.le_of_ble_eq_true rfl) dX8_master_61 ⟨Nat.le_of_ble_eq_true rfl, Nat.le_of_ble_eq_true rfl⟩) hP hD hS hA [20, 21, 22, 5, 6, 7, 8, 9, 10, 11, 12, 13, 14, 15, 16, 17] [0, 1, 2, 3, 4, 18, 19] [0, 1, 2, 3, 4, 10, 11, 12, 13, 14, 15, 16, 17, 18, 19, 20, 21, 22, 5, 6, 7, 8, 9] rfl rfl (by decide) (by decide) (fw := rc8 a q_t Q_t z_t ++ (rc5 a (Q_t 5) Q_t_5 z_t_5 ++ (rc7 a (Q_t_5 0) Q_t_5_0 z_t_5_0 ++ (rc0 a (Q_t_5 1) Q_t_5_1 z_t_5_1 ++ (rc1 a (Q_t 10) Q_t_10 z11))))) rfl (by decide) (fun H locs hP hD hS => ?_)
            have hP : va_P D classes (rc8 a q_t Q_t z_t ++ (rc5 a (Q_t 5) Q_t_5 z_t_5 ++ (rc7 a (Q_t_5 0) Q_t_5_0 z_t_5_0 ++ (rc0 a (Q_t_5 1) Q_t_5_1 z_t_5_1 ++ (rc1 a (Q_t 10) Q_t_10 z11))))) H := hP
            have hD : va_D A (rc8 a q_t Q_t z_t ++ (rc5 a (Q_t 5) Q_t_5 z_t_5 ++ (rc7 a (Q_t_5 0) Q_t_5_0 z_t_5_0 ++ (rc0 a (Q_t_5 1) Q_t_5_1 z_t_5_1 ++ (rc1 a (Q_t 10) Q_t_10 z11))))) := hD
            refine lv_iload_n hx hb dX8_master_64 rfl (lv_at hl 2 rfl) ?_
            refine lv_iconst (v := 2) hx hb dX8_master_65 (by decide) ?_
            refine lv_icmp_ne (tgt := 80) hx hb dX8_master_66 (by decide) (fun c12 => ?_) (fun c12 => ?_)
            · have h := ite_f c12 h
              refine lv_aload_n hx hb dX8_master_80 rfl (lv_at hl 0 rfl) ?_
              refine va_get (D := D) (v := .ref (Q_t 10)) (C := RX8) (T := TX8) (N := 11) hx hb hts iX8 hown hK.1 hP 0 rfl rfl 10 (by decide) (hts _ t_310) (fun _ h9 => h9) rfl dX8_master_81 ?_
              refine va_get (D := D) (v := .long (gJ z11 3 0)) (C := RX1) (T := TX1) (N := 4) hx hb hts iX1 hown hK.1 hP 20 rfl rfl 3 (by decide) (hts _ t_290) (fun _ h9 => h9) rfl dX8_master_84 ?_
              refine lv_iload_n hx hb dX8_master_87 rfl (lv_at hl 1 rfl) ?_
              obtain ⟨r14, hc13, h⟩ := bd_some h
              refine cRl (runS (As := [.int x1]) (rest := [.long (gJ z11 3 0)]) C (mX8_hundreds l D a hc13) lk_S_8_249 okN_X8_hundreds ⟨Nat.le_of_ble_eq_true rfl, Nat.le_of_ble_eq_true rfl⟩ ⟨rfl, rfl⟩ (preR hK (P_of_map (wc := []) hP [] rfl)) hl.1 rfl (Nat.le_of_ble_eq_true rfl) dX8_master_88 ⟨Nat.le_of_ble_eq_true rfl, Nat.le_of_ble_eq_true rfl⟩) ?_
              refine lv_iload_n hx hb dX8_master_91 rfl (lv_at hl 2 rfl) ?_
              obtain ⟨r16, hc15, h⟩ := bd_some h
              refine cRl (runS (As := [.long (gJ z11 3 0), .long r14, .int x2]) (rest := []) C (mX8_partOf l D a hc15) lk_S_8_253 okN_X8_partOf ⟨Nat.le_of_ble_eq_true rfl, Nat.le_of_ble_eq_true rfl⟩ ⟨rfl, rfl⟩ (preR hK (P_of_map (wc := []) hP [] rfl)) hl.1 rfl (Nat.le_of_ble_eq_true rfl) dX8_master_92 ⟨Nat.le_of_ble_eq_true rfl, Nat.le_of_ble_eq_true rfl⟩) ?_
              exact rMl C rfl h (g := fun y => rc8 a q_t Q_t z_t ++ (rc5 a (Q_t 5) Q_t_5 z_t_5 ++ (rc7 a (Q_t_5 0) Q_t_5_0 z_t_5_0 ++ (rc0 a (Q_t_5 1) Q_t_5_1 z_t_5_1 ++ (rc1 a (Q_t 10) Q_t_10 y.2))))) (pr := fun y => y.1) hP hD hS dX8_master_95
            · have h := ite_t c12 h
              refine lv_aload_n hx hb dX8_master_69 rfl (lv_at hl 0 rfl) ?_
              refine va_get (D := D) (v := .ref (Q_t 10)) (C := RX8) (T := TX8) (N := 11) hx hb hts iX8 hown hK.1 hP 0 rfl rfl 10 (by decide) (hts _ t_310) (fun _ h9 => h9) rfl dX8_master_70 ?_
              refine va_get (D := D) (v := .int (gI z11 2)) (C := RX1) (T := TX1) (N := 4) hx hb hts iX1 hown hK.1 hP 20 rfl rfl 2 (by decide) (hts _ t_288) (fun _ h9 => h9) rfl dX8_master_73 ?_
              refine lv_i2l (v := (gI z11 2).toInt64) hx hb dX8_master_76 rfl ?_
              refine lv_goto (tgt := 95) hx hb dX8_master_77 (by decide) ?_
              exact rMl C rfl h (g := fun y => rc8 a q_t Q_t z_t ++ (rc5 a (Q_t 5) Q_t_5 z_t_5 ++ (rc7 a (Q_t_5 0) Q_t_5_0 z_t_5_0 ++ (rc0 a (Q_t_5 1) Q_t_5_1 z_t_5_1 ++ (rc1 a (Q_t 10) Q_t_10 y.2))))) (pr := fun y => y.1) hP hD hS dX8_master_95
          · have h := ite_f c7 h
            refine lv_ldc2 hx hb hown (hts _ t_809) dX8_master_25 ?_
            exact rMl C rfl h (g := fun y => rc8 a q_t Q_t z_t ++ (rc5 a (Q_t 5) Q_t_5 z_t_5 ++ (rc7 a (Q_t_5 0) Q_t_5_0 z_t_5_0 ++ (rc0 a (Q_t_5 1) Q_t_5_1 z_t_5_1 ++ (rc1 a (Q_t 10) Q_t_10 y.2))))) (pr := fun y => y.1) hP hD hS dX8_master_28

def fX8_mend (z_t : Sx) (z_t_5 : Sx) (z_t_5_0 : Sx) (z_t_5_1 : Sx) (x1 : Int32) : Option (Int32 × Sx × Sx) := bd (fX8_isFault z_t z_t_5 z_t_5_0 x1) (fun r2 => if r2 = 0 then some ((-1000000), z_t_5, z_t_5_1) else bd (fX0_gone z_t_5_1) (fun r5 => bd (fX8_has r5 x1) (fun r7 => if r7 = 0 then bd (fX8_bit x1) (fun r10 => bd (fX8_at 10 (gT z_t_5_0 14) x1) (fun r12 => some ((gI z_t_5 2) - r12, sI z_t_5 2 ((gI z_t_5 2) - r12), sI z_t_5_1 3 ((gI z_t_5_1 3) ||| r10)))) else some ((-1000000), z_t_5, z_t_5_1))))

set_option maxHeartbeats 4000000 in
set_option maxRecDepth 100000 in
theorem mX8_mend (l : Launch) (D : va_G) (a : Nat → ClassId) {q_t : Nat} {Q_t : Nat → Nat} {z_t : Sx} {Q_t_5 : Nat → Nat} {z_t_5 : Sx} {Q_t_5_0 : Nat → Nat} {z_t_5_0 : Sx} {Q_t_5_1 : Nat → Nat} {z_t_5_1 : Sx} {x1 : Int32} {y : Int32 × Sx × Sx} (h : fX8_mend z_t z_t_5 z_t_5_0 z_t_5_1 x1 = some y) (sz : Nat) : CMi (S := Unit) l MX8_mend 1 21 0 0 D a [.ref q_t, .int x1] (rc8 a q_t Q_t z_t ++ (rc5 a (Q_t 5) Q_t_5 z_t_5 ++ (rc7 a (Q_t_5 0) Q_t_5_0 z_t_5_0 ++ (rc0 a (Q_t_5 1) Q_t_5_1 z_t_5_1)))) sz (fun r _ => r = y.1) (fun _ => rc8 a q_t Q_t z_t ++ (rc5 a (Q_t 5) Q_t_5 y.2.1 ++ (rc7 a (Q_t_5 0) Q_t_5_0 z_t_5_0 ++ (rc0 a (Q_t_5 1) Q_t_5_1 y.2.2)))) := by
  unfold fX8_mend at h
  refine entMi (by decide) (Nat.le_of_ble_eq_true rfl) ?_
  intro p e s m below meth c C hK A hA hP hD ls hl
  obtain ⟨hx, hb, hml, hown, hts, hr, hlocks, hnm⟩ := id C
  have hb : c.code = cX8_mend := hb
  have hown : s.vm.findClass RX8 = some m.cls := hown
  have hS : va_S A s.heap s.heap [] := va_S.rf
  have hl : lv_has ls 2 [(0, .ref q_t), (1, .int x1)] := hl
  refine lv_aload_n hx hb dX8_mend_0 rfl (lv_at hl 0 rfl) ?_
  refine lv_iload_n hx hb dX8_mend_1 rfl (lv_at hl 1 rfl) ?_
  obtain ⟨r2, hc1, h⟩ := bd_some h
  refine cRi (runV (As := [.int x1]) (rest := []) C (mX8_isFault l D a hc1) lk_V_8_139 okN_X8_isFault ⟨Nat.le_of_ble_eq_true rfl, Nat.le_of_ble_eq_true rfl⟩ ⟨rfl, rfl⟩ (preV (preR hK (P_of_map (wc := rc8 a q_t Q_t z_t ++ (rc5 a (Q_t 5) Q_t_5 z_t_5 ++ (rc7 a (Q_t_5 0) Q_t_5_0 z_t_5_0))) hP [0, 1, 2, 3, 4, 5, 6, 7, 8, 9, 10, 11, 12, 13, 14, 15, 16, 17] rfl)) (recvOf hK hP 0 rfl (ci := 8) rfl)) hl.1 rfl (Nat.le_of_ble_eq_true rfl) dX8_mend_2 ⟨Nat.le_of_ble_eq_true rfl, Nat.le_of_ble_eq_true rfl⟩) ?_
  refine lv_if_eq (tgt := 25) hx hb dX8_mend_5 (by decide) (fun c3 => ?_) (fun c3 => ?_)
  · have h := ite_t c3 h
    refine lv_ldc hx hb hown (hts _ t_640) dX8_mend_25 ?_
    exact rMi C rfl h (g := fun y => rc8 a q_t Q_t z_t ++ (rc5 a (Q_t 5) Q_t_5 y.2.1 ++ (rc7 a (Q_t_5 0) Q_t_5_0 z_t_5_0 ++ (rc0 a (Q_t_5 1) Q_t_5_1 y.2.2)))) (pr := fun y => y.1) hP hD hS dX8_mend_27
  · have h := ite_f c3 h
    refine lv_aload_n hx hb dX8_mend_8 rfl (lv_at hl 0 rfl) ?_
    refine va_get (D := D) (v := .ref (Q_t 5)) (C := RX8) (T := TX8) (N := 11) hx hb hts iX8 hown hK.1 hP 0 rfl rfl 5 (by decide) (hts _ t_305) (fun _ h9 => h9) rfl dX8_mend_9 ?_
    refine va_get (D := D) (v := .ref (Q_t_5 1)) (C := RX5) (T := TX5) (N := 8) hx hb hts iX5 hown hK.1 hP 2 rfl rfl 1 (by decide) (hts _ t_163) (fun _ h9 => h9) rfl dX8_mend_12 ?_
    obtain ⟨r5, hc4, h⟩ := bd_some h
    refine cRi (runV (As := []) (rest := []) C (mX0_gone l D a hc4) lk_V_8_171 okN_X0_gone ⟨Nat.le_of_ble_eq_true rfl, Nat.le_of_ble_eq_true rfl⟩ ⟨rfl, rfl⟩ (preV (preR hK (P_of_map (wc := rc0 a (Q_t_5 1) Q_t_5_1 z_t_5_1) hP [18, 19] rfl)) (recvOf hK hP 18 rfl (ci := 0) rfl)) hl.1 rfl (Nat.le_of_ble_eq_true rfl) dX8_mend_15 ⟨Nat.le_of_ble_eq_true rfl, Nat.le_of_ble_eq_true rfl⟩) ?_
    refine lv_iload_n hx hb dX8_mend_18 rfl (lv_at hl 1 rfl) ?_
    obtain ⟨r7, hc6, h⟩ := bd_some h
    refine cRi (runS (As := [.int r5, .int x1]) (rest := []) C (mX8_has l D a hc6) lk_S_8_161 okN_X8_has ⟨Nat.le_of_ble_eq_true rfl, Nat.le_of_ble_eq_true rfl⟩ ⟨rfl, rfl⟩ (preR hK (P_of_map (wc := []) hP [] rfl)) hl.1 rfl (Nat.le_of_ble_eq_true rfl) dX8_mend_19 ⟨Nat.le_of_ble_eq_true rfl, Nat.le_of_ble_eq_true rfl⟩) ?_
    refine lv_if_eq (tgt := 28) hx hb dX8_mend_22 (by decide) (fun c8 => ?_) (fun c8 => ?_)
    · have h := ite_t c8 h
      refine lv_aload_n hx hb dX8_mend_28 rfl (lv_at hl 0 rfl) ?_
      refine va_get (D := D) (v := .ref (Q_t 5)) (C := RX8) (T := TX8) (N := 11) hx hb hts iX8 hown hK.1 hP 0 rfl rfl 5 (by decide) (hts _ t_305) (fun _ h9 => h9) rfl dX8_mend_29 ?_
      refine va_get (D := D) (v := .ref (Q_t_5 1)) (C := RX5) (T := TX5) (N := 8) hx hb hts iX5 hown hK.1 hP 2 rfl rfl 1 (by decide) (hts _ t_163) (fun _ h9 => h9) rfl dX8_mend_32 ?_
      refine lv_dup hx hb dX8_mend_35 rfl ?_
      refine va_get (D := D) (v := .int (gI z_t_5_1 3)) (C := RX0) (T := TX0) (N := 6) hx hb hts iX0 hown hK.1 hP 18 rfl rfl 3 (by decide) (hts _ t_141) (fun _ h9 => h9) rfl dX8_mend_36 ?_
      refine lv_iload_n hx hb dX8_mend_39 rfl (lv_at hl 1 rfl) ?_
      obtain ⟨r10, hc9, h⟩ := bd_some h
      refine cRi (runS (As := [.int x1]) (rest := [.int (gI z_t_5_1 3), .ref (Q_t_5 1)]) C (mX8_bit l D a hc9) lk_S_8_216 okN_X8_bit ⟨Nat.le_of_ble_eq_true rfl, Nat.le_of_ble_eq_true rfl⟩ ⟨rfl, rfl⟩ (preR hK (P_of_map (wc := []) hP [] rfl)) hl.1 rfl (Nat.le_of_ble_eq_true rfl) dX8_mend_40 ⟨Nat.le_of_ble_eq_true rfl, Nat.le_of_ble_eq_true rfl⟩) ?_
      refine lv_ior hx hb dX8_mend_43 ?_
      refine va_put (D := D) (v := .int ((gI z_t_5_1 3) ||| r10)) (C := RX0) (T := TX0) (N := 6) hx hb hts iX0 tyX0 tyX0_ok nmX0 hown hK.1 hP hD hS 18 rfl rfl 3 (by decide) (hts _ t_141) (fun _ h9 => h9) rfl (tyX0_ok 3 (by decide)) rfl rfl (Nat.le_of_ble_eq_true rfl) dX8_mend_44 (fun H locs hP hD hS => ?_)
      have hP : va_P D classes (rc8 a q_t Q_t z_t ++ (rc5 a (Q_t 5) Q_t_5 z_t_5 ++ (rc7 a (Q_t_5 0) Q_t_5_0 z_t_5_0 ++ (rc0 a (Q_t_5 1) Q_t_5_1 (sI z_t_5_1 3 ((gI z_t_5_1 3) ||| r10)))))) H := hP
      have hD : va_D A (rc8 a q_t Q_t z_t ++ (rc5 a (Q_t 5) Q_t_5 z_t_5 ++ (rc7 a (Q_t_5 0) Q_t_5_0 z_t_5_0 ++ (rc0 a (Q_t_5 1) Q_t_5_1 (sI z_t_5_1 3 ((gI z_t_5_1 3) ||| r10)))))) := hD
      refine lv_aload_n hx hb dX8_mend_47 rfl (lv_at hl 0 rfl) ?_
      refine va_get (D := D) (v := .ref (Q_t 5)) (C := RX8) (T := TX8) (N := 11) hx hb hts iX8 hown hK.1 hP 0 rfl rfl 5 (by decide) (hts _ t_305) (fun _ h9 => h9) rfl dX8_mend_48 ?_
      refine lv_dup hx hb dX8_mend_51 rfl ?_
      refine va_get (D := D) (v := .int (gI z_t_5 2)) (C := RX5) (T := TX5) (N := 8) hx hb hts iX5 hown hK.1 hP 2 rfl rfl 2 (by decide) (hts _ t_165) (fun _ h9 => h9) rfl dX8_mend_52 ?_
      refine lv_aload_n hx hb dX8_mend_55 rfl (lv_at hl 0 rfl) ?_
      refine va_get (D := D) (v := .ref (Q_t 5)) (C := RX8) (T := TX8) (N := 11) hx hb hts iX8 hown hK.1 hP 0 rfl rfl 5 (by decide) (hts _ t_305) (fun _ h9 => h9) rfl dX8_mend_56 ?_
      refine va_get (D := D) (v := .ref (Q_t_5 0)) (C := RX5) (T := TX5) (N := 8) hx hb hts iX5 hown hK.1 hP 2 rfl rfl 0 (by decide) (hts _ t_161) (fun _ h9 => h9) rfl dX8_mend_59 ?_
      refine va_get (D := D) (v := .ref (Q_t_5_0 14)) (C := RX7) (T := TX7) (N := 18) hx hb hts iX7 hown hK.1 hP 5 rfl rfl 14 (by decide) (hts _ t_77) (fun _ h9 => h9) rfl dX8_mend_62 ?_
      refine lv_iload_n hx hb dX8_mend_65 rfl (lv_at hl 1 rfl) ?_
      obtain ⟨r12, hc11, h⟩ := bd_some h
      refine cRi (runS (As := [.ref (Q_t_5_0 14), .int x1]) (rest := [.int (gI z_t_5 2), .ref (Q_t 5)]) C (mX8_at l D a hc11) lk_S_8_129 okN_X8_at ⟨Nat.le_of_ble_eq_true rfl, Nat.le_of_ble_eq_true rfl⟩ ⟨rfl, rfl⟩ (preR hK (P_of_map (wc := ra0 a (Q_t_5_0 14) 10 (gT z_t_5_0 14)) hP [15] rfl)) hl.1 rfl (Nat.le_of_ble_eq_true rfl) dX8_mend_66 ⟨Nat.le_of_ble_eq_true rfl, Nat.le_of_ble_eq_true rfl⟩) ?_
      refine lv_isub hx hb dX8_mend_69 ?_
      refine va_put (D := D) (v := .int ((gI z_t_5 2) - r12)) (C := RX5) (T := TX5) (N := 8) hx hb hts iX5 tyX5 tyX5_ok nmX5 hown hK.1 hP hD hS 2 rfl rfl 2 (by decide) (hts _ t_165) (fun _ h9 => h9) rfl (tyX5_ok 2 (by decide)) rfl rfl (Nat.le_of_ble_eq_true rfl) dX8_mend_70 (fun H locs hP hD hS => ?_)
      have hP : va_P D classes (rc8 a q_t Q_t z_t ++ (rc5 a (Q_t 5) Q_t_5 (sI z_t_5 2 ((gI z_t_5 2) - r12)) ++ (rc7 a (Q_t_5 0) Q_t_5_0 z_t_5_0 ++ (rc0 a (Q_t_5 1) Q_t_5_1 (sI z_t_5_1 3 ((gI z_t_5_1 3) ||| r10)))))) H := hP
      have hD : va_D A (rc8 a q_t Q_t z_t ++ (rc5 a (Q_t 5) Q_t_5 (sI z_t_5 2 ((gI z_t_5 2) - r12)) ++ (rc7 a (Q_t_5 0) Q_t_5_0 z_t_5_0 ++ (rc0 a (Q_t_5 1) Q_t_5_1 (sI z_t_5_1 3 ((gI z_t_5_1 3) ||| r10)))))) := hD
      refine lv_aload_n hx hb dX8_mend_73 rfl (lv_at hl 0 rfl) ?_
      refine va_get (D := D) (v := .ref (Q_t 5)) (C := RX8) (T := TX8) (N := 11) hx hb hts iX8 hown hK.1 hP 0 rfl rfl 5 (by decide) (hts _ t_305) (fun _ h9 => h9) rfl dX8_mend_74 ?_
      refine va_get (D := D) (v := .int ((gI z_t_5 2) - r12)) (C := RX5) (T := TX5) (N := 8) hx hb hts iX5 hown hK.1 hP 2 rfl rfl 2 (by decide) (hts _ t_165) (fun _ h9 => h9) rfl dX8_mend_77 ?_
      exact rMi C rfl h (g := fun y => rc8 a q_t Q_t z_t ++ (rc5 a (Q_t 5) Q_t_5 y.2.1 ++ (rc7 a (Q_t_5 0) Q_t_5_0 z_t_5_0 ++ (rc0 a (Q_t_5 1) Q_t_5_1 y.2.2)))) (pr := fun y => y.1) hP hD hS dX8_mend_80
    · have h := ite_f c8 h
      refine lv_ldc hx hb hown (hts _ t_640) dX8_mend_25 ?_
      exact rMi C rfl h (g := fun y => rc8 a q_t Q_t z_t ++ (rc5 a (Q_t 5) Q_t_5 y.2.1 ++ (rc7 a (Q_t_5 0) Q_t_5_0 z_t_5_0 ++ (rc0 a (Q_t_5 1) Q_t_5_1 y.2.2)))) (pr := fun y => y.1) hP hD hS dX8_mend_27

def lX8_rests_4 (z_t : Sx) (z_t_5 : Sx) : Nat → Int32 → Int32 → Option (Int32)
  | 0, _, _ => none
  | n + 1, x1, x2 => if 4 ≤ x2 then some x1 else bd (fX8_at 8 (gT z_t_5 7) x2) (fun r3 => bd (fX8_at 8 (gT z_t_5 7) (x2 ^^^ 2)) (fun r5 => jn (fun (i7 : Int32) => bd (fX8_at 8 (gT z_t_5 7) (4 + x2)) (fun r9 => bd (fX8_at 8 (gT z_t_5 7) (4 + (x2 ^^^ 1))) (fun r11 => jn (fun (i13 : Int32) => jn (fun (i15 : Int32) => lX8_rests_4 z_t z_t_5 n i15 (x2 + 1)) (fun J14 => if i7 = 0 then J14 x1 else if i13 = 0 then J14 x1 else J14 (x1 ||| ((1 : Int32) <<< (x2 &&& 31))))) (fun J12 => if r9 < r11 then J12 0 else J12 1)))) (fun J6 => if r3 < r5 then J6 0 else J6 1)))
def fX8_rests (z_t : Sx) (z_t_5 : Sx) : Option (Int32) := lX8_rests_4 z_t z_t_5 FU 0 0

set_option maxHeartbeats 4000000 in
set_option maxRecDepth 100000 in
theorem wX8_rests_4 {p : Program} {l : Launch} {e : Env} {s : State} {m : MethodId} {below : List Frame} {meth : Method} {c : Code} {D : va_G} {a : Nat → ClassId} {q_t : Nat} {Q_t : Nat → Nat} {Q_t_5 : Nat → Nat} {z_t : Sx} {z_t_5 : Sx} (C : Cx p s m #[.ref q_t] meth c MX8_rests) (hK : KK D a s) {y : Int32} (hP : va_P D classes (rc8 a q_t Q_t z_t ++ (rc5 a (Q_t 5) Q_t_5 z_t_5)) s.heap) : ∀ (n : Nat) (x1 : Int32) (x2 : Int32) (ls : Array Slot), lX8_rests_4 z_t z_t_5 n x1 x2 = some y → lv_has ls 5 [(0, .ref q_t), (1, .int x1), (2, .int x2)] → W p l e (rmM 1 0 0 21) s m #[.ref q_t] below meth c s.heap [] 0 0 (MQ below (vp_Si (fun r => r = y)) #[.ref q_t] s 0 0 (fun _ => False)) (F0 m 4 ls []) := by
  obtain ⟨hx, hb, hml, hown, hts, hr, hlocks, hnm⟩ := id C
  have hb : c.code = cX8_rests := hb
  have hown : s.vm.findClass RX8 = some m.cls := hown
  intro n
  induction n with
  | zero => intro x1 x2 ls h; rw [lX8_rests_4] at h; cases h
  | succ n ih =>
    intro x1 x2 ls h hl
    rw [lX8_rests_4] at h
    refine lv_iload_n hx hb dX8_rests_4 rfl (lv_at hl 2 rfl) ?_
    refine lv_iconst (v := 4) hx hb dX8_rests_5 (by decide) ?_
    refine lv_icmp_ge (tgt := 101) hx hb dX8_rests_6 (by decide) (fun c1 => ?_) (fun c1 => ?_)
    · have h := ite_t c1 h
      refine lv_iload_n hx hb dX8_rests_101 rfl (lv_at hl 1 rfl) ?_
      exact rRi C rfl (Option.some.inj h) dX8_rests_102
    · have h := ite_f c1 h
      refine lv_aload_n hx hb dX8_rests_9 rfl (lv_at hl 0 rfl) ?_
      refine va_get (D := D) (v := .ref (Q_t 5)) (C := RX8) (T := TX8) (N := 11) hx hb hts iX8 hown hK.1 hP 0 rfl rfl 5 (by decide) (hts _ t_305) (fun _ h9 => h9) rfl dX8_rests_10 ?_
      refine va_get (D := D) (v := .ref (Q_t_5 7)) (C := RX5) (T := TX5) (N := 8) hx hb hts iX5 hown hK.1 hP 2 rfl rfl 7 (by decide) (hts _ t_175) (fun _ h9 => h9) rfl dX8_rests_13 ?_
      refine lv_iload_n hx hb dX8_rests_16 rfl (lv_at hl 2 rfl) ?_
      obtain ⟨r3, hc2, h⟩ := bd_some h
      refine cRi (runS (As := [.ref (Q_t_5 7), .int x2]) (rest := []) C (mX8_at l D a hc2) lk_S_8_129 okN_X8_at ⟨Nat.le_of_ble_eq_true rfl, Nat.le_of_ble_eq_true rfl⟩ ⟨rfl, rfl⟩ (preR hK (P_of_map (wc := ra0 a (Q_t_5 7) 8 (gT z_t_5 7)) hP [4] rfl)) hl.1 rfl (Nat.le_of_ble_eq_true rfl) dX8_rests_17 ⟨Nat.le_of_ble_eq_true rfl, Nat.le_of_ble_eq_true rfl⟩) ?_
      refine lv_aload_n hx hb dX8_rests_20 rfl (lv_at hl 0 rfl) ?_
      refine va_get (D := D) (v := .ref (Q_t 5)) (C := RX8) (T := TX8) (N := 11) hx hb hts iX8 hown hK.1 hP 0 rfl rfl 5 (by decide) (hts _ t_305) (fun _ h9 => h9) rfl dX8_rests_21 ?_
      refine va_get (D := D) (v := .ref (Q_t_5 7)) (C := RX5) (T := TX5) (N := 8) hx hb hts iX5 hown hK.1 hP 2 rfl rfl 7 (by decide) (hts _ t_175) (fun _ h9 => h9) rfl dX8_rests_24 ?_
      refine lv_iload_n hx hb dX8_rests_27 rfl (lv_at hl 2 rfl) ?_
      refine lv_iconst (v := 2) hx hb dX8_rests_28 (by decide) ?_
      refine lv_ixor hx hb dX8_rests_29 ?_
      obtain ⟨r5, hc4, h⟩ := bd_some h
      refine cRi (runS (As := [.ref (Q_t_5 7), .int (x2 ^^^ 2)]) (rest := [.int r3]) C (mX8_at l D a hc4) lk_S_8_129 okN_X8_at ⟨Nat.le_of_ble_eq_true rfl, Nat.le_of_ble_eq_true rfl⟩ ⟨rfl, rfl⟩ (preR hK (P_of_map (wc := ra0 a (Q_t_5 7) 8 (gT z_t_5 7)) hP [4] rfl)) hl.1 rfl (Nat.le_of_ble_eq_true rfl) dX8_rests_30 ⟨Nat.le_of_ble_eq_true rfl, Nat.le_of_ble_eq_true rfl⟩) ?_
      obtain ⟨J6, eJ6, h⟩ := jn_some h
      have hJ6 : ∀ (i7 : Int32) (ls : Array Slot), J6 i7 = some y → lv_has ls 5 [(0, .ref q_t), (1, .int x1), (2, .int x2)] → W p l e (rmM 1 0 0 21) s m #[.ref q_t] below meth c s.heap [] 0 0 (MQ below (vp_Si (fun r => r = y)) #[.ref q_t] s 0 0 (fun _ => False)) (F0 m 41 ls [.int i7]) := by
        intro i7 ls h hl
        rw [eJ6] at h
        refine lv_istore_n (lv' := [(3, .int i7), (0, .ref q_t), (1, .int x1), (2, .int x2)]) hx hb dX8_rests_41 rfl hl (by decide) rfl (fun ls hl => ?_)
        refine lv_aload_n hx hb dX8_rests_42 rfl (lv_at hl 1 rfl) ?_
        refine va_get (D := D) (v := .ref (Q_t 5)) (C := RX8) (T := TX8) (N := 11) hx hb hts iX8 hown hK.1 hP 0 rfl rfl 5 (by decide) (hts _ t_305) (fun _ h9 => h9) rfl dX8_rests_43 ?_
        refine va_get (D := D) (v := .ref (Q_t_5 7)) (C := RX5) (T := TX5) (N := 8) hx hb hts iX5 hown hK.1 hP 2 rfl rfl 7 (by decide) (hts _ t_175) (fun _ h9 => h9) rfl dX8_rests_46 ?_
        refine lv_iconst (v := 4) hx hb dX8_rests_49 (by decide) ?_
        refine lv_iload_n hx hb dX8_rests_50 rfl (lv_at hl 3 rfl) ?_
        refine lv_iadd hx hb dX8_rests_51 ?_
        obtain ⟨r9, hc8, h⟩ := bd_some h
        refine cRi (runS (As := [.ref (Q_t_5 7), .int (4 + x2)]) (rest := []) C (mX8_at l D a hc8) lk_S_8_129 okN_X8_at ⟨Nat.le_of_ble_eq_true rfl, Nat.le_of_ble_eq_true rfl⟩ ⟨rfl, rfl⟩ (preR hK (P_of_map (wc := ra0 a (Q_t_5 7) 8 (gT z_t_5 7)) hP [4] rfl)) hl.1 rfl (Nat.le_of_ble_eq_true rfl) dX8_rests_52 ⟨Nat.le_of_ble_eq_true rfl, Nat.le_of_ble_eq_true rfl⟩) ?_
        refine lv_aload_n hx hb dX8_rests_55 rfl (lv_at hl 1 rfl) ?_
        refine va_get (D := D) (v := .ref (Q_t 5)) (C := RX8) (T := TX8) (N := 11) hx hb hts iX8 hown hK.1 hP 0 rfl rfl 5 (by decide) (hts _ t_305) (fun _ h9 => h9) rfl dX8_rests_56 ?_
        refine va_get (D := D) (v := .ref (Q_t_5 7)) (C := RX5) (T := TX5) (N := 8) hx hb hts iX5 hown hK.1 hP 2 rfl rfl 7 (by decide) (hts _ t_175) (fun _ h9 => h9) rfl dX8_rests_59 ?_
        refine lv_iconst (v := 4) hx hb dX8_rests_62 (by decide) ?_
        refine lv_iload_n hx hb dX8_rests_63 rfl (lv_at hl 3 rfl) ?_
        refine lv_iconst (v := 1) hx hb dX8_rests_64 (by decide) ?_
        refine lv_ixor hx hb dX8_rests_65 ?_
        refine lv_iadd hx hb dX8_rests_66 ?_
        obtain ⟨r11, hc10, h⟩ := bd_some h
        refine cRi (runS (As := [.ref (Q_t_5 7), .int (4 + (x2 ^^^ 1))]) (rest := [.int r9]) C (mX8_at l D a hc10) lk_S_8_129 okN_X8_at ⟨Nat.le_of_ble_eq_true rfl, Nat.le_of_ble_eq_true rfl⟩ ⟨rfl, rfl⟩ (preR hK (P_of_map (wc := ra0 a (Q_t_5 7) 8 (gT z_t_5 7)) hP [4] rfl)) hl.1 rfl (Nat.le_of_ble_eq_true rfl) dX8_rests_67 ⟨Nat.le_of_ble_eq_true rfl, Nat.le_of_ble_eq_true rfl⟩) ?_
        obtain ⟨J12, eJ12, h⟩ := jn_some h
        have hJ12 : ∀ (i13 : Int32) (ls : Array Slot), J12 i13 = some y → lv_has ls 5 [(0, .ref q_t), (1, .int x1), (2, .int x2), (3, .int i7)] → W p l e (rmM 1 0 0 21) s m #[.ref q_t] below meth c s.heap [] 0 0 (MQ below (vp_Si (fun r => r = y)) #[.ref q_t] s 0 0 (fun _ => False)) (F0 m 78 ls [.int i13]) := by
          intro i13 ls h hl
          rw [eJ12] at h
          refine lv_istore (lv' := [(4, .int i13), (0, .ref q_t), (1, .int x1), (2, .int x2), (3, .int i7)]) hx hb dX8_rests_78 hl (by decide) rfl (fun ls hl => ?_)
          refine lv_iload_n hx hb dX8_rests_80 rfl (lv_at hl 4 rfl) ?_
          obtain ⟨J14, eJ14, h⟩ := jn_some h
          have hJ14 : ∀ (i15 : Int32) (ls : Array Slot), J14 i15 = some y → lv_has ls 5 [(0, .ref q_t), (1, .int i15), (2, .int x2)] → W p l e (rmM 1 0 0 21) s m #[.ref q_t] below meth c s.heap [] 0 0 (MQ below (vp_Si (fun r => r = y)) #[.ref q_t] s 0 0 (fun _ => False)) (F0 m 95 ls []) := by
            intro i15 ls h hl
            rw [eJ14] at h
            refine lv_iinc (v := x2 + 1) (lv' := [(2, .int (x2 + 1)), (0, .ref q_t), (1, .int i15)]) hx hb dX8_rests_95 hl (k := 2) rfl rfl (by decide) rfl (fun ls hl => ?_)
            refine lv_goto (tgt := 4) hx hb dX8_rests_98 (by decide) ?_
            exact ih i15 (x2 + 1) ls h (lv_sub hl [1, 2, 0] rfl)
          refine lv_if_eq (tgt := 95) hx hb dX8_rests_81 (by decide) (fun c16 => ?_) (fun c16 => ?_)
          · have h := ite_t c16 h
            exact hJ14 x1 ls h (lv_sub hl [1, 2, 3] rfl)
          · have h := ite_f c16 h
            refine lv_iload hx hb dX8_rests_84 (lv_at hl 0 rfl) ?_
            refine lv_if_eq (tgt := 95) hx hb dX8_rests_86 (by decide) (fun c17 => ?_) (fun c17 => ?_)
            · have h := ite_t c17 h
              exact hJ14 x1 ls h (lv_sub hl [1, 2, 3] rfl)
            · have h := ite_f c17 h
              refine lv_iload_n hx hb dX8_rests_89 rfl (lv_at hl 2 rfl) ?_
              refine lv_iconst (v := 1) hx hb dX8_rests_90 (by decide) ?_
              refine lv_iload_n hx hb dX8_rests_91 rfl (lv_at hl 3 rfl) ?_
              refine lv_ishl hx hb dX8_rests_92 ?_
              refine lv_ior hx hb dX8_rests_93 ?_
              refine lv_istore_n (lv' := [(1, .int (x1 ||| ((1 : Int32) <<< (x2 &&& 31)))), (4, .int i13), (0, .ref q_t), (2, .int x2), (3, .int i7)]) hx hb dX8_rests_94 rfl hl (by decide) rfl (fun ls hl => ?_)
              exact hJ14 (x1 ||| ((1 : Int32) <<< (x2 &&& 31))) ls h (lv_sub hl [2, 0, 3] rfl)
        refine lv_icmp_lt (tgt := 77) hx hb dX8_rests_70 (by decide) (fun c18 => ?_) (fun c18 => ?_)
        · have h := ite_t c18 h
          refine lv_iconst (v := 0) hx hb dX8_rests_77 (by decide) ?_
          exact hJ12 0 ls h (lv_sub hl [1, 2, 3, 0] rfl)
        · have h := ite_f c18 h
          refine lv_iconst (v := 1) hx hb dX8_rests_73 (by decide) ?_
          refine lv_goto (tgt := 78) hx hb dX8_rests_74 (by decide) ?_
          exact hJ12 1 ls h (lv_sub hl [1, 2, 3, 0] rfl)
      refine lv_icmp_lt (tgt := 40) hx hb dX8_rests_33 (by decide) (fun c19 => ?_) (fun c19 => ?_)
      · have h := ite_t c19 h
        refine lv_iconst (v := 0) hx hb dX8_rests_40 (by decide) ?_
        exact hJ6 0 ls h (lv_sub hl [0, 1, 2] rfl)
      · have h := ite_f c19 h
        refine lv_iconst (v := 1) hx hb dX8_rests_36 (by decide) ?_
        refine lv_goto (tgt := 41) hx hb dX8_rests_37 (by decide) ?_
        exact hJ6 1 ls h (lv_sub hl [0, 1, 2] rfl)

set_option maxHeartbeats 4000000 in
set_option maxRecDepth 100000 in
theorem mX8_rests (l : Launch) (D : va_G) (a : Nat → ClassId) {q_t : Nat} {Q_t : Nat → Nat} {z_t : Sx} {Q_t_5 : Nat → Nat} {z_t_5 : Sx} {y : Int32} (h : fX8_rests z_t z_t_5 = some y) : CRi l MX8_rests 1 21 D a [.ref q_t] (rc8 a q_t Q_t z_t ++ (rc5 a (Q_t 5) Q_t_5 z_t_5)) (fun r => r = y) := by
  unfold fX8_rests at h
  refine entR (by decide) (Nat.le_of_ble_eq_true rfl) ?_
  intro p e s m below meth c C hK hP ls hl
  obtain ⟨hx, hb, hml, hown, hts, hr, hlocks, hnm⟩ := id C
  have hb : c.code = cX8_rests := hb
  have hown : s.vm.findClass RX8 = some m.cls := hown
  have hl : lv_has ls 5 [(0, .ref q_t)] := hl
  refine lv_iconst (v := 0) hx hb dX8_rests_0 (by decide) ?_
  refine lv_istore_n (lv' := [(1, .int 0), (0, .ref q_t)]) hx hb dX8_rests_1 rfl hl (by decide) rfl (fun ls hl => ?_)
  refine lv_iconst (v := 0) hx hb dX8_rests_2 (by decide) ?_
  refine lv_istore_n (lv' := [(2, .int 0), (1, .int 0), (0, .ref q_t)]) hx hb dX8_rests_3 rfl hl (by decide) rfl (fun ls hl => ?_)
  refine wX8_rests_4 C hK hP FU 0 0 ls h (lv_sub hl [2, 1, 0] rfl)

def fX8_mixed (z_t : Sx) (z_t_5 : Sx) (x1 : Int32) (x2 : Int32) : Option (Int32) := if x1 < 0 then some (-1) else if 1 < x1 then some (-1) else if x2 < 0 then some (-1) else if x2 ≤ 1 then bd (fX8_rests z_t z_t_5) (fun r6 => if r6 = 0 then jn (fun (i9 : Int32) => jn (fun (i11 : Int32) => jn (fun (i13 : Int32) => bd (fJ9_abs_0f7a4 (i9 + i11)) (fun r15 => bd (fX8_partOf i13.toInt64 r15.toInt64 x2) (fun r17 => some r17.toInt32))) (fun J12 => if 0 ≤ (i9 + i11) then J12 i11 else J12 (-i11))) (fun J10 => if x1 = 0 then bd (fX8_at 8 (gT z_t_5 7) 7) (fun r25 => bd (fX8_at 8 (gT z_t_5 7) 6) (fun r27 => J10 (r25 - r27))) else bd (fX8_at 8 (gT z_t_5 7) 3) (fun r21 => bd (fX8_at 8 (gT z_t_5 7) 1) (fun r23 => J10 (r21 - r23))))) (fun J8 => if x1 = 0 then bd (fX8_at 8 (gT z_t_5 7) 4) (fun r34 => bd (fX8_at 8 (gT z_t_5 7) 5) (fun r36 => J8 (r34 - r36))) else bd (fX8_at 8 (gT z_t_5 7) 0) (fun r30 => bd (fX8_at 8 (gT z_t_5 7) 2) (fun r32 => J8 (r30 - r32)))) else some (-2)) else some (-1)

set_option maxHeartbeats 4000000 in
set_option maxRecDepth 100000 in
theorem mX8_mixed (l : Launch) (D : va_G) (a : Nat → ClassId) {q_t : Nat} {Q_t : Nat → Nat} {z_t : Sx} {Q_t_5 : Nat → Nat} {z_t_5 : Sx} {x1 : Int32} {x2 : Int32} {y : Int32} (h : fX8_mixed z_t z_t_5 x1 x2 = some y) : CRi l MX8_mixed 2 52 D a [.ref q_t, .int x1, .int x2] (rc8 a q_t Q_t z_t ++ (rc5 a (Q_t 5) Q_t_5 z_t_5)) (fun r => r = y) := by
  unfold fX8_mixed at h
  refine entR (by decide) (Nat.le_of_ble_eq_true rfl) ?_
  intro p e s m below meth c C hK hP ls hl
  obtain ⟨hx, hb, hml, hown, hts, hr, hlocks, hnm⟩ := id C
  have hb : c.code = cX8_mixed := hb
  have hown : s.vm.findClass RX8 = some m.cls := hown
  have hl : lv_has ls 7 [(0, .ref q_t), (1, .int x1), (2, .int x2)] := hl
  refine lv_iload_n hx hb dX8_mixed_0 rfl (lv_at hl 1 rfl) ?_
  refine lv_if_lt (tgt := 18) hx hb dX8_mixed_1 (by decide) (fun c1 => ?_) (fun c1 => ?_)
  · have h := ite_t c1 h
    refine lv_iconst (v := (-1)) hx hb dX8_mixed_18 (by decide) ?_
    exact rRi C rfl (Option.some.inj h) dX8_mixed_19
  · have h := ite_f c1 h
    refine lv_iload_n hx hb dX8_mixed_4 rfl (lv_at hl 1 rfl) ?_
    refine lv_iconst (v := 1) hx hb dX8_mixed_5 (by decide) ?_
    refine lv_icmp_gt (tgt := 18) hx hb dX8_mixed_6 (by decide) (fun c2 => ?_) (fun c2 => ?_)
    · have h := ite_t c2 h
      refine lv_iconst (v := (-1)) hx hb dX8_mixed_18 (by decide) ?_
      exact rRi C rfl (Option.some.inj h) dX8_mixed_19
    · have h := ite_f c2 h
      refine lv_iload_n hx hb dX8_mixed_9 rfl (lv_at hl 2 rfl) ?_
      refine lv_if_lt (tgt := 18) hx hb dX8_mixed_10 (by decide) (fun c3 => ?_) (fun c3 => ?_)
      · have h := ite_t c3 h
        refine lv_iconst (v := (-1)) hx hb dX8_mixed_18 (by decide) ?_
        exact rRi C rfl (Option.some.inj h) dX8_mixed_19
      · have h := ite_f c3 h
        refine lv_iload_n hx hb dX8_mixed_13 rfl (lv_at hl 2 rfl) ?_
        refine lv_iconst (v := 1) hx hb dX8_mixed_14 (by decide) ?_
        refine lv_icmp_le (tgt := 20) hx hb dX8_mixed_15 (by decide) (fun c4 => ?_) (fun c4 => ?_)
        · have h := ite_t c4 h
          refine lv_aload_n hx hb dX8_mixed_20 rfl (lv_at hl 0 rfl) ?_
          obtain ⟨r6, hc5, h⟩ := bd_some h
          refine cRi (runV (As := []) (rest := []) C (mX8_rests l D a hc5) lk_V_8_286 okN_X8_rests ⟨Nat.le_of_ble_eq_true rfl, Nat.le_of_ble_eq_true rfl⟩ ⟨rfl, rfl⟩ (preV (preR hK hP) (recvOf hK hP 0 rfl (ci := 8) rfl)) hl.1 rfl (Nat.le_of_ble_eq_true rfl) dX8_mixed_21 ⟨Nat.le_of_ble_eq_true rfl, Nat.le_of_ble_eq_true rfl⟩) ?_
          refine lv_if_eq (tgt := 30) hx hb dX8_mixed_24 (by decide) (fun c7 => ?_) (fun c7 => ?_)
          · have h := ite_t c7 h
            refine lv_aload_n hx hb dX8_mixed_30 rfl (lv_at hl 0 rfl) ?_
            refine va_get (D := D) (v := .ref (Q_t 5)) (C := RX8) (T := TX8) (N := 11) hx hb hts iX8 hown hK.1 hP 0 rfl rfl 5 (by decide) (hts _ t_305) (fun _ h9 => h9) rfl dX8_mixed_31 ?_
            refine va_get (D := D) (v := .ref (Q_t_5 7)) (C := RX5) (T := TX5) (N := 8) hx hb hts iX5 hown hK.1 hP 2 rfl rfl 7 (by decide) (hts _ t_175) (fun _ h9 => h9) rfl dX8_mixed_34 ?_
            refine lv_astore_n (lv' := [(3, .ref (Q_t_5 7)), (0, .ref q_t), (1, .int x1), (2, .int x2)]) hx hb dX8_mixed_37 rfl hl (by decide) rfl (fun ls hl => ?_)
            refine lv_iload_n hx hb dX8_mixed_38 rfl (lv_at hl 2 rfl) ?_
            obtain ⟨J8, eJ8, h⟩ := jn_some h
            have hJ8 : ∀ (i9 : Int32) (ls : Array Slot), J8 i9 = some y → lv_has ls 7 [(1, .int x1), (2, .int x2), (3, .ref (Q_t_5 7))] → W p l e (rmM 2 0 0 52) s m #[.ref q_t, .int x1, .int x2] below meth c s.heap [] 0 0 (MQ below (vp_Si (fun r => r = y)) #[.ref q_t, .int x1, .int x2] s 0 0 (fun _ => False)) (F0 m 67 ls [.int i9]) := by
              intro i9 ls h hl
              rw [eJ8] at h
              refine lv_istore (lv' := [(4, .int i9), (1, .int x1), (2, .int x2), (3, .ref (Q_t_5 7))]) hx hb dX8_mixed_67 hl (by decide) rfl (fun ls hl => ?_)
              refine lv_iload_n hx hb dX8_mixed_69 rfl (lv_at hl 1 rfl) ?_
              obtain ⟨J10, eJ10, h⟩ := jn_some h
              have hJ10 : ∀ (i11 : Int32) (ls : Array Slot), J10 i11 = some y → lv_has ls 7 [(2, .int x2), (4, .int i9)] → W p l e (rmM 2 0 0 52) s m #[.ref q_t, .int x1, .int x2] below meth c s.heap [] 0 0 (MQ below (vp_Si (fun r => r = y)) #[.ref q_t, .int x1, .int x2] s 0 0 (fun _ => False)) (F0 m 100 ls [.int i11]) := by
                intro i11 ls h hl
                rw [eJ10] at h
                refine lv_istore (lv' := [(5, .int i11), (2, .int x2), (4, .int i9)]) hx hb dX8_mixed_100 hl (by decide) rfl (fun ls hl => ?_)
                refine lv_iload hx hb dX8_mixed_102 (lv_at hl 2 rfl) ?_
                refine lv_iload hx hb dX8_mixed_104 (lv_at hl 0 rfl) ?_
                refine lv_iadd hx hb dX8_mixed_106 ?_
                obtain ⟨J12, eJ12, h⟩ := jn_some h
                have hJ12 : ∀ (i13 : Int32) (ls : Array Slot), J12 i13 = some y → lv_has ls 7 [(2, .int x2), (4, .int i9), (5, .int i11)] → W p l e (rmM 2 0 0 52) s m #[.ref q_t, .int x1, .int x2] below meth c s.heap [] 0 0 (MQ below (vp_Si (fun r => r = y)) #[.ref q_t, .int x1, .int x2] s 0 0 (fun _ => False)) (F0 m 118 ls [.int i13]) := by
                  intro i13 ls h hl
                  rw [eJ12] at h
                  refine lv_istore (lv' := [(6, .int i13), (2, .int x2), (4, .int i9), (5, .int i11)]) hx hb dX8_mixed_118 hl (by decide) rfl (fun ls hl => ?_)
                  refine lv_iload hx hb dX8_mixed_120 (lv_at hl 0 rfl) ?_
                  refine lv_i2l (v := i13.toInt64) hx hb dX8_mixed_122 rfl ?_
                  refine lv_iload hx hb dX8_mixed_123 (lv_at hl 2 rfl) ?_
                  refine lv_iload hx hb dX8_mixed_125 (lv_at hl 3 rfl) ?_
                  refine lv_iadd hx hb dX8_mixed_127 ?_
                  obtain ⟨r15, hc14, h⟩ := bd_some h
                  refine cRi (runS (As := [.int (i9 + i11)]) (rest := [.long i13.toInt64]) C (mJ9_abs_0f7a4 l D a hc14) lk_S_8_289 okN_J9_abs_0f7a4 ⟨Nat.le_of_ble_eq_true rfl, Nat.le_of_ble_eq_true rfl⟩ ⟨rfl, rfl⟩ (preR hK (P_of_map (wc := []) hP [] rfl)) hl.1 rfl (Nat.le_of_ble_eq_true rfl) dX8_mixed_128 ⟨Nat.le_of_ble_eq_true rfl, Nat.le_of_ble_eq_true rfl⟩) ?_
                  refine lv_i2l (v := r15.toInt64) hx hb dX8_mixed_131 rfl ?_
                  refine lv_iload_n hx hb dX8_mixed_132 rfl (lv_at hl 1 rfl) ?_
                  obtain ⟨r17, hc16, h⟩ := bd_some h
                  refine cRl (runS (As := [.long i13.toInt64, .long r15.toInt64, .int x2]) (rest := []) C (mX8_partOf l D a hc16) lk_S_8_253 okN_X8_partOf ⟨Nat.le_of_ble_eq_true rfl, Nat.le_of_ble_eq_true rfl⟩ ⟨rfl, rfl⟩ (preR hK (P_of_map (wc := []) hP [] rfl)) hl.1 rfl (Nat.le_of_ble_eq_true rfl) dX8_mixed_133 ⟨Nat.le_of_ble_eq_true rfl, Nat.le_of_ble_eq_true rfl⟩) ?_
                  refine lv_l2i (v := r17.toInt32) hx hb dX8_mixed_136 rfl ?_
                  exact rRi C rfl (Option.some.inj h) dX8_mixed_137
                refine lv_if_ge (tgt := 116) hx hb dX8_mixed_107 (by decide) (fun c18 => ?_) (fun c18 => ?_)
                · have h := ite_t c18 h
                  refine lv_iload hx hb dX8_mixed_116 (lv_at hl 0 rfl) ?_
                  exact hJ12 i11 ls h (lv_sub hl [1, 2, 0] rfl)
                · have h := ite_f c18 h
                  refine lv_iload hx hb dX8_mixed_110 (lv_at hl 0 rfl) ?_
                  refine lv_ineg hx hb dX8_mixed_112 ?_
                  refine lv_goto (tgt := 118) hx hb dX8_mixed_113 (by decide) ?_
                  exact hJ12 (-i11) ls h (lv_sub hl [1, 2, 0] rfl)
              refine lv_if_ne (tgt := 89) hx hb dX8_mixed_70 (by decide) (fun c19 => ?_) (fun c19 => ?_)
              · have h := ite_f c19 h
                refine lv_aload_n hx hb dX8_mixed_89 rfl (lv_at hl 3 rfl) ?_
                refine lv_iconst (v := 3) hx hb dX8_mixed_90 (by decide) ?_
                obtain ⟨r21, hc20, h⟩ := bd_some h
                refine cRi (runS (As := [.ref (Q_t_5 7), .int 3]) (rest := []) C (mX8_at l D a hc20) lk_S_8_129 okN_X8_at ⟨Nat.le_of_ble_eq_true rfl, Nat.le_of_ble_eq_true rfl⟩ ⟨rfl, rfl⟩ (preR hK (P_of_map (wc := ra0 a (Q_t_5 7) 8 (gT z_t_5 7)) hP [4] rfl)) hl.1 rfl (Nat.le_of_ble_eq_true rfl) dX8_mixed_91 ⟨Nat.le_of_ble_eq_true rfl, Nat.le_of_ble_eq_true rfl⟩) ?_
                refine lv_aload_n hx hb dX8_mixed_94 rfl (lv_at hl 3 rfl) ?_
                refine lv_iconst (v := 1) hx hb dX8_mixed_95 (by decide) ?_
                obtain ⟨r23, hc22, h⟩ := bd_some h
                refine cRi (runS (As := [.ref (Q_t_5 7), .int 1]) (rest := [.int r21]) C (mX8_at l D a hc22) lk_S_8_129 okN_X8_at ⟨Nat.le_of_ble_eq_true rfl, Nat.le_of_ble_eq_true rfl⟩ ⟨rfl, rfl⟩ (preR hK (P_of_map (wc := ra0 a (Q_t_5 7) 8 (gT z_t_5 7)) hP [4] rfl)) hl.1 rfl (Nat.le_of_ble_eq_true rfl) dX8_mixed_96 ⟨Nat.le_of_ble_eq_true rfl, Nat.le_of_ble_eq_true rfl⟩) ?_
                refine lv_isub hx hb dX8_mixed_99 ?_
                exact hJ10 (r21 - r23) ls h (lv_sub hl [2, 0] rfl)
              · have h := ite_t c19 h
                refine lv_aload_n hx hb dX8_mixed_73 rfl (lv_at hl 3 rfl) ?_
                refine lv_bipush (v := 7) hx hb dX8_mixed_74 (by decide) ?_
                obtain ⟨r25, hc24, h⟩ := bd_some h
                refine cRi (runS (As := [.ref (Q_t_5 7), .int 7]) (rest := []) C (mX8_at l D a hc24) lk_S_8_129 okN_X8_at ⟨Nat.le_of_ble_eq_true rfl, Nat.le_of_ble_eq_true rfl⟩ ⟨rfl, rfl⟩ (preR hK (P_of_map (wc := ra0 a (Q_t_5 7) 8 (gT z_t_5 7)) hP [4] rfl)) hl.1 rfl (Nat.le_of_ble_eq_true rfl) dX8_mixed_76 ⟨Nat.le_of_ble_eq_true rfl, Nat.le_of_ble_eq_true rfl⟩) ?_
                refine lv_aload_n hx hb dX8_mixed_79 rfl (lv_at hl 3 rfl) ?_
                refine lv_bipush (v := 6) hx hb dX8_mixed_80 (by decide) ?_
                obtain ⟨r27, hc26, h⟩ := bd_some h
                refine cRi (runS (As := [.ref (Q_t_5 7), .int 6]) (rest := [.int r25]) C (mX8_at l D a hc26) lk_S_8_129 okN_X8_at ⟨Nat.le_of_ble_eq_true rfl, Nat.le_of_ble_eq_true rfl⟩ ⟨rfl, rfl⟩ (preR hK (P_of_map (wc := ra0 a (Q_t_5 7) 8 (gT z_t_5 7)) hP [4] rfl)) hl.1 rfl (Nat.le_of_ble_eq_true rfl) dX8_mixed_82 ⟨Nat.le_of_ble_eq_true rfl, Nat.le_of_ble_eq_true rfl⟩) ?_
                refine lv_isub hx hb dX8_mixed_85 ?_
                refine lv_goto (tgt := 100) hx hb dX8_mixed_86 (by decide) ?_
                exact hJ10 (r25 - r27) ls h (lv_sub hl [2, 0] rfl)
            refine lv_if_ne (tgt := 56) hx hb dX8_mixed_39 (by decide) (fun c28 => ?_) (fun c28 => ?_)
            · have h := ite_f c28 h
              refine lv_aload_n hx hb dX8_mixed_56 rfl (lv_at hl 0 rfl) ?_
              refine lv_iconst (v := 0) hx hb dX8_mixed_57 (by decide) ?_
              obtain ⟨r30, hc29, h⟩ := bd_some h
              refine cRi (runS (As := [.ref (Q_t_5 7), .int 0]) (rest := []) C (mX8_at l D a hc29) lk_S_8_129 okN_X8_at ⟨Nat.le_of_ble_eq_true rfl, Nat.le_of_ble_eq_true rfl⟩ ⟨rfl, rfl⟩ (preR hK (P_of_map (wc := ra0 a (Q_t_5 7) 8 (gT z_t_5 7)) hP [4] rfl)) hl.1 rfl (Nat.le_of_ble_eq_true rfl) dX8_mixed_58 ⟨Nat.le_of_ble_eq_true rfl, Nat.le_of_ble_eq_true rfl⟩) ?_
              refine lv_aload_n hx hb dX8_mixed_61 rfl (lv_at hl 0 rfl) ?_
              refine lv_iconst (v := 2) hx hb dX8_mixed_62 (by decide) ?_
              obtain ⟨r32, hc31, h⟩ := bd_some h
              refine cRi (runS (As := [.ref (Q_t_5 7), .int 2]) (rest := [.int r30]) C (mX8_at l D a hc31) lk_S_8_129 okN_X8_at ⟨Nat.le_of_ble_eq_true rfl, Nat.le_of_ble_eq_true rfl⟩ ⟨rfl, rfl⟩ (preR hK (P_of_map (wc := ra0 a (Q_t_5 7) 8 (gT z_t_5 7)) hP [4] rfl)) hl.1 rfl (Nat.le_of_ble_eq_true rfl) dX8_mixed_63 ⟨Nat.le_of_ble_eq_true rfl, Nat.le_of_ble_eq_true rfl⟩) ?_
              refine lv_isub hx hb dX8_mixed_66 ?_
              exact hJ8 (r30 - r32) ls h (lv_sub hl [2, 3, 0] rfl)
            · have h := ite_t c28 h
              refine lv_aload_n hx hb dX8_mixed_42 rfl (lv_at hl 0 rfl) ?_
              refine lv_iconst (v := 4) hx hb dX8_mixed_43 (by decide) ?_
              obtain ⟨r34, hc33, h⟩ := bd_some h
              refine cRi (runS (As := [.ref (Q_t_5 7), .int 4]) (rest := []) C (mX8_at l D a hc33) lk_S_8_129 okN_X8_at ⟨Nat.le_of_ble_eq_true rfl, Nat.le_of_ble_eq_true rfl⟩ ⟨rfl, rfl⟩ (preR hK (P_of_map (wc := ra0 a (Q_t_5 7) 8 (gT z_t_5 7)) hP [4] rfl)) hl.1 rfl (Nat.le_of_ble_eq_true rfl) dX8_mixed_44 ⟨Nat.le_of_ble_eq_true rfl, Nat.le_of_ble_eq_true rfl⟩) ?_
              refine lv_aload_n hx hb dX8_mixed_47 rfl (lv_at hl 0 rfl) ?_
              refine lv_iconst (v := 5) hx hb dX8_mixed_48 (by decide) ?_
              obtain ⟨r36, hc35, h⟩ := bd_some h
              refine cRi (runS (As := [.ref (Q_t_5 7), .int 5]) (rest := [.int r34]) C (mX8_at l D a hc35) lk_S_8_129 okN_X8_at ⟨Nat.le_of_ble_eq_true rfl, Nat.le_of_ble_eq_true rfl⟩ ⟨rfl, rfl⟩ (preR hK (P_of_map (wc := ra0 a (Q_t_5 7) 8 (gT z_t_5 7)) hP [4] rfl)) hl.1 rfl (Nat.le_of_ble_eq_true rfl) dX8_mixed_49 ⟨Nat.le_of_ble_eq_true rfl, Nat.le_of_ble_eq_true rfl⟩) ?_
              refine lv_isub hx hb dX8_mixed_52 ?_
              refine lv_goto (tgt := 67) hx hb dX8_mixed_53 (by decide) ?_
              exact hJ8 (r34 - r36) ls h (lv_sub hl [2, 3, 0] rfl)
          · have h := ite_f c7 h
            refine lv_bipush (v := (-2)) hx hb dX8_mixed_27 (by decide) ?_
            exact rRi C rfl (Option.some.inj h) dX8_mixed_29
        · have h := ite_f c4 h
          refine lv_iconst (v := (-1)) hx hb dX8_mixed_18 (by decide) ?_
          exact rRi C rfl (Option.some.inj h) dX8_mixed_19

def fX8_row (z_t : Sx) (z_t_5 : Sx) (z_t_5_0 : Sx) (x1 : Int32) : Option (Int32 × Sx) := if x1 = (-1) then some (0, sI z_t_5 6 0) else bd (fX8_isFault z_t z_t_5 z_t_5_0 x1) (fun r3 => if r3 = 0 then some ((-2), z_t_5) else if (gI z_t_5 6) < 8 then bd (fX8_put 8 (gT z_t_5 5) (gI z_t_5 6) x1) (fun z7 => some ((gI z_t_5 6) + 1, sI (sTf z_t_5 5 z7) 6 ((gI z_t_5 6) + 1))) else some ((-2), z_t_5))

set_option maxHeartbeats 4000000 in
set_option maxRecDepth 100000 in
theorem mX8_row (l : Launch) (D : va_G) (a : Nat → ClassId) {q_t : Nat} {Q_t : Nat → Nat} {z_t : Sx} {Q_t_5 : Nat → Nat} {z_t_5 : Sx} {Q_t_5_0 : Nat → Nat} {z_t_5_0 : Sx} {x1 : Int32} {y : Int32 × Sx} (h : fX8_row z_t z_t_5 z_t_5_0 x1 = some y) (sz : Nat) : CMi (S := Unit) l MX8_row 1 22 0 0 D a [.ref q_t, .int x1] (rc8 a q_t Q_t z_t ++ (rc5 a (Q_t 5) Q_t_5 z_t_5 ++ (rc7 a (Q_t_5 0) Q_t_5_0 z_t_5_0))) sz (fun r _ => r = y.1) (fun _ => rc8 a q_t Q_t z_t ++ (rc5 a (Q_t 5) Q_t_5 y.2 ++ (rc7 a (Q_t_5 0) Q_t_5_0 z_t_5_0))) := by
  unfold fX8_row at h
  refine entMi (by decide) (Nat.le_of_ble_eq_true rfl) ?_
  intro p e s m below meth c C hK A hA hP hD ls hl
  obtain ⟨hx, hb, hml, hown, hts, hr, hlocks, hnm⟩ := id C
  have hb : c.code = cX8_row := hb
  have hown : s.vm.findClass RX8 = some m.cls := hown
  have hS : va_S A s.heap s.heap [] := va_S.rf
  have hl : lv_has ls 2 [(0, .ref q_t), (1, .int x1)] := hl
  refine lv_iload_n hx hb dX8_row_0 rfl (lv_at hl 1 rfl) ?_
  refine lv_iconst (v := (-1)) hx hb dX8_row_1 (by decide) ?_
  refine lv_icmp_ne (tgt := 15) hx hb dX8_row_2 (by decide) (fun c1 => ?_) (fun c1 => ?_)
  · have h := ite_f c1 h
    refine lv_aload_n hx hb dX8_row_15 rfl (lv_at hl 0 rfl) ?_
    refine lv_iload_n hx hb dX8_row_16 rfl (lv_at hl 1 rfl) ?_
    obtain ⟨r3, hc2, h⟩ := bd_some h
    refine cRi (runV (As := [.int x1]) (rest := []) C (mX8_isFault l D a hc2) lk_V_8_139 okN_X8_isFault ⟨Nat.le_of_ble_eq_true rfl, Nat.le_of_ble_eq_true rfl⟩ ⟨rfl, rfl⟩ (preV (preR hK hP) (recvOf hK hP 0 rfl (ci := 8) rfl)) hl.1 rfl (Nat.le_of_ble_eq_true rfl) dX8_row_17 ⟨Nat.le_of_ble_eq_true rfl, Nat.le_of_ble_eq_true rfl⟩) ?_
    refine lv_if_eq (tgt := 35) hx hb dX8_row_20 (by decide) (fun c4 => ?_) (fun c4 => ?_)
    · have h := ite_t c4 h
      refine lv_bipush (v := (-2)) hx hb dX8_row_35 (by decide) ?_
      exact rMi C rfl h (g := fun y => rc8 a q_t Q_t z_t ++ (rc5 a (Q_t 5) Q_t_5 y.2 ++ (rc7 a (Q_t_5 0) Q_t_5_0 z_t_5_0))) (pr := fun y => y.1) hP hD hS dX8_row_37
    · have h := ite_f c4 h
      refine lv_aload_n hx hb dX8_row_23 rfl (lv_at hl 0 rfl) ?_
      refine va_get (D := D) (v := .ref (Q_t 5)) (C := RX8) (T := TX8) (N := 11) hx hb hts iX8 hown hK.1 hP 0 rfl rfl 5 (by decide) (hts _ t_305) (fun _ h9 => h9) rfl dX8_row_24 ?_
      refine va_get (D := D) (v := .int (gI z_t_5 6)) (C := RX5) (T := TX5) (N := 8) hx hb hts iX5 hown hK.1 hP 2 rfl rfl 6 (by decide) (hts _ t_173) (fun _ h9 => h9) rfl dX8_row_27 ?_
      refine lv_bipush (v := 8) hx hb dX8_row_30 (by decide) ?_
      refine lv_icmp_lt (tgt := 38) hx hb dX8_row_32 (by decide) (fun c5 => ?_) (fun c5 => ?_)
      · have h := ite_t c5 h
        refine lv_aload_n hx hb dX8_row_38 rfl (lv_at hl 0 rfl) ?_
        refine va_get (D := D) (v := .ref (Q_t 5)) (C := RX8) (T := TX8) (N := 11) hx hb hts iX8 hown hK.1 hP 0 rfl rfl 5 (by decide) (hts _ t_305) (fun _ h9 => h9) rfl dX8_row_39 ?_
        refine va_get (D := D) (v := .ref (Q_t_5 5)) (C := RX5) (T := TX5) (N := 8) hx hb hts iX5 hown hK.1 hP 2 rfl rfl 5 (by decide) (hts _ t_171) (fun _ h9 => h9) rfl dX8_row_42 ?_
        refine lv_aload_n hx hb dX8_row_45 rfl (lv_at hl 0 rfl) ?_
        refine va_get (D := D) (v := .ref (Q_t 5)) (C := RX8) (T := TX8) (N := 11) hx hb hts iX8 hown hK.1 hP 0 rfl rfl 5 (by decide) (hts _ t_305) (fun _ h9 => h9) rfl dX8_row_46 ?_
        refine va_get (D := D) (v := .int (gI z_t_5 6)) (C := RX5) (T := TX5) (N := 8) hx hb hts iX5 hown hK.1 hP 2 rfl rfl 6 (by decide) (hts _ t_173) (fun _ h9 => h9) rfl dX8_row_49 ?_
        refine lv_iload_n hx hb dX8_row_52 rfl (lv_at hl 1 rfl) ?_
        obtain ⟨z7, hc6, h⟩ := bd_some h
        refine cMv (runS (As := [.ref (Q_t_5 5), .int (gI z_t_5 6), .int x1]) (rest := []) C (mX8_put l D a hc6 s.heap.size) lk_S_8_78 okN_X8_put ⟨Nat.le_of_ble_eq_true rfl, Nat.le_of_ble_eq_true rfl⟩ ⟨rfl, rfl⟩ (preM hK (P_of_map (wc := ra0 a (Q_t_5 5) 8 (gT z_t_5 5)) hP [3] rfl) (hD.sub (ws' := ra0 a (Q_t_5 5) 8 (gT z_t_5 5)) [3] (by decide) rfl)) hl.1 rfl (Nat.le_of_ble_eq_true rfl) dX8_row_53 ⟨Nat.le_of_ble_eq_true rfl, Nat.le_of_ble_eq_true rfl⟩) hP hD hS hA [3] [0, 1, 2, 4, 5, 6, 7, 8, 9, 10, 11, 12, 13, 14, 15, 16, 17] [0, 1, 2, 17, 3, 4, 5, 6, 7, 8, 9, 10, 11, 12, 13, 14, 15, 16] rfl rfl (by decide) (by decide) (fw := rc8 a q_t Q_t z_t ++ (rc5 a (Q_t 5) Q_t_5 (sTf z_t_5 5 z7) ++ (rc7 a (Q_t_5 0) Q_t_5_0 z_t_5_0))) rfl (by decide) (fun H locs hP hD hS => ?_)
        have hP : va_P D classes (rc8 a q_t Q_t z_t ++ (rc5 a (Q_t 5) Q_t_5 (sTf z_t_5 5 z7) ++ (rc7 a (Q_t_5 0) Q_t_5_0 z_t_5_0))) H := hP
        have hD : va_D A (rc8 a q_t Q_t z_t ++ (rc5 a (Q_t 5) Q_t_5 (sTf z_t_5 5 z7) ++ (rc7 a (Q_t_5 0) Q_t_5_0 z_t_5_0))) := hD
        refine lv_aload_n hx hb dX8_row_56 rfl (lv_at hl 0 rfl) ?_
        refine va_get (D := D) (v := .ref (Q_t 5)) (C := RX8) (T := TX8) (N := 11) hx hb hts iX8 hown hK.1 hP 0 rfl rfl 5 (by decide) (hts _ t_305) (fun _ h9 => h9) rfl dX8_row_57 ?_
        refine lv_dup hx hb dX8_row_60 rfl ?_
        refine va_get (D := D) (v := .int (gI z_t_5 6)) (C := RX5) (T := TX5) (N := 8) hx hb hts iX5 hown hK.1 hP 2 rfl rfl 6 (by decide) (hts _ t_173) (fun _ h9 => h9) rfl dX8_row_61 ?_
        refine lv_iconst (v := 1) hx hb dX8_row_64 (by decide) ?_
        refine lv_iadd hx hb dX8_row_65 ?_
        refine va_put (D := D) (v := .int ((gI z_t_5 6) + 1)) (C := RX5) (T := TX5) (N := 8) hx hb hts iX5 tyX5 tyX5_ok nmX5 hown hK.1 hP hD hS 2 rfl rfl 6 (by decide) (hts _ t_173) (fun _ h9 => h9) rfl (tyX5_ok 6 (by decide)) rfl rfl (Nat.le_of_ble_eq_true rfl) dX8_row_66 (fun H locs hP hD hS => ?_)
        have hP : va_P D classes (rc8 a q_t Q_t z_t ++ (rc5 a (Q_t 5) Q_t_5 (sI (sTf z_t_5 5 z7) 6 ((gI z_t_5 6) + 1)) ++ (rc7 a (Q_t_5 0) Q_t_5_0 z_t_5_0))) H := hP
        have hD : va_D A (rc8 a q_t Q_t z_t ++ (rc5 a (Q_t 5) Q_t_5 (sI (sTf z_t_5 5 z7) 6 ((gI z_t_5 6) + 1)) ++ (rc7 a (Q_t_5 0) Q_t_5_0 z_t_5_0))) := hD
        refine lv_aload_n hx hb dX8_row_69 rfl (lv_at hl 0 rfl) ?_
        refine va_get (D := D) (v := .ref (Q_t 5)) (C := RX8) (T := TX8) (N := 11) hx hb hts iX8 hown hK.1 hP 0 rfl rfl 5 (by decide) (hts _ t_305) (fun _ h9 => h9) rfl dX8_row_70 ?_
        refine va_get (D := D) (v := .int ((gI z_t_5 6) + 1)) (C := RX5) (T := TX5) (N := 8) hx hb hts iX5 hown hK.1 hP 2 rfl rfl 6 (by decide) (hts _ t_173) (fun _ h9 => h9) rfl dX8_row_73 ?_
        exact rMi C rfl h (g := fun y => rc8 a q_t Q_t z_t ++ (rc5 a (Q_t 5) Q_t_5 y.2 ++ (rc7 a (Q_t_5 0) Q_t_5_0 z_t_5_0))) (pr := fun y => y.1) hP hD hS dX8_row_76
      · have h := ite_f c5 h
        refine lv_bipush (v := (-2)) hx hb dX8_row_35 (by decide) ?_
        exact rMi C rfl h (g := fun y => rc8 a q_t Q_t z_t ++ (rc5 a (Q_t 5) Q_t_5 y.2 ++ (rc7 a (Q_t_5 0) Q_t_5_0 z_t_5_0))) (pr := fun y => y.1) hP hD hS dX8_row_37
  · have h := ite_t c1 h
    refine lv_aload_n hx hb dX8_row_5 rfl (lv_at hl 0 rfl) ?_
    refine va_get (D := D) (v := .ref (Q_t 5)) (C := RX8) (T := TX8) (N := 11) hx hb hts iX8 hown hK.1 hP 0 rfl rfl 5 (by decide) (hts _ t_305) (fun _ h9 => h9) rfl dX8_row_6 ?_
    refine lv_iconst (v := 0) hx hb dX8_row_9 (by decide) ?_
    refine va_put (D := D) (v := .int 0) (C := RX5) (T := TX5) (N := 8) hx hb hts iX5 tyX5 tyX5_ok nmX5 hown hK.1 hP hD hS 2 rfl rfl 6 (by decide) (hts _ t_173) (fun _ h9 => h9) rfl (tyX5_ok 6 (by decide)) rfl rfl (Nat.le_of_ble_eq_true rfl) dX8_row_10 (fun H locs hP hD hS => ?_)
    have hP : va_P D classes (rc8 a q_t Q_t z_t ++ (rc5 a (Q_t 5) Q_t_5 (sI z_t_5 6 0) ++ (rc7 a (Q_t_5 0) Q_t_5_0 z_t_5_0))) H := hP
    have hD : va_D A (rc8 a q_t Q_t z_t ++ (rc5 a (Q_t 5) Q_t_5 (sI z_t_5 6 0) ++ (rc7 a (Q_t_5 0) Q_t_5_0 z_t_5_0))) := hD
    refine lv_iconst (v := 0) hx hb dX8_row_13 (by decide) ?_
    exact rMi C rfl h (g := fun y => rc8 a q_t Q_t z_t ++ (rc5 a (Q_t 5) Q_t_5 y.2 ++ (rc7 a (Q_t_5 0) Q_t_5_0 z_t_5_0))) (pr := fun y => y.1) hP hD hS dX8_row_14

def gX8_rowMean (rec : Sx → Sx → Sx → Int32 → Int32 → Int32 → Int32 → Option (Int64)) (z_t : Sx) (z_t_5 : Sx) (z_t_5_0 : Sx) (x1 : Int32) (x2 : Int32) (x3 : Int32) (x4 : Int32) : Option (Int64) := if (gI z_t_5 6) ≤ x1 then some 0 else if x1 < 8 then bd (fX8_at 8 (gT z_t_5 5) x1) (fun r4 => bd (fX8_at 10 (gT z_t_5_0 9) r4) (fun r6 => bd (fX7_isOpen z_t_5_0 r4 x2) (fun r8 => jn (bd (rec z_t z_t_5 z_t_5_0 (x1 + 1) x2 x3 x4) (fun r11 => some (100 * r11))) (fun J9 => if r8 = 0 then J9 else if r6 ≤ x3 then bd (fX8_at 10 (gT z_t_5_0 10) r4) (fun r15 => jn (fun (i17 : Int32) => bd (fX8_hundreds (((gI z_t_5 6) - x1) - 1)) (fun r19 => bd (fX8_bit r4) (fun r21 => bd (rec z_t z_t_5 z_t_5_0 (x1 + 1) (x2 ||| r21) (x3 - r6) x4) (fun r23 => bd (rec z_t z_t_5 z_t_5_0 (x1 + 1) x2 (x3 - r6) x4) (fun r25 => some ((r15.toInt64 * ((i17.toInt64 * r19) + r23)) + (((100 - r15).toInt64) * r25))))))) (fun J16 => if x4 = (-1) then bd (fX8_at 10 (gT z_t_5_0 12) r4) (fun r29 => J16 r29) else if r4 = x4 then J16 1 else J16 0)) else J9)))) else some 0
def fX8_rowMean : Nat → Sx → Sx → Sx → Int32 → Int32 → Int32 → Int32 → Option (Int64)
  | 0 => fun _ _ _ _ _ _ _ => none
  | dp + 1 => gX8_rowMean (fX8_rowMean dp)

set_option maxHeartbeats 4000000 in
set_option maxRecDepth 100000 in
theorem gmX8_rowMean (l : Launch) (D : va_G) (a : Nat → ClassId) {F LO : Nat} {rec : Sx → Sx → Sx → Int32 → Int32 → Int32 → Int32 → Option (Int64)} (hrec : ∀ {q_t : Nat} {Q_t : Nat → Nat} {z_t : Sx} {Q_t_5 : Nat → Nat} {z_t_5 : Sx} {Q_t_5_0 : Nat → Nat} {z_t_5_0 : Sx} {x1 : Int32} {x2 : Int32} {x3 : Int32} {x4 : Int32} {y9 : Int64}, rec z_t z_t_5 z_t_5_0 x1 x2 x3 x4 = some y9 → CRl l MX8_rowMean F LO D a [.ref q_t, .int x1, .int x2, .int x3, .int x4] (rc8 a q_t Q_t z_t ++ (rc5 a (Q_t 5) Q_t_5 z_t_5 ++ (rc7 a (Q_t_5 0) Q_t_5_0 z_t_5_0))) (fun r => r = y9)) (hF : 1 ≤ F) (hL : 23 ≤ LO) {q_t : Nat} {Q_t : Nat → Nat} {z_t : Sx} {Q_t_5 : Nat → Nat} {z_t_5 : Sx} {Q_t_5_0 : Nat → Nat} {z_t_5_0 : Sx} {x1 : Int32} {x2 : Int32} {x3 : Int32} {x4 : Int32} {y : Int64} (h : gX8_rowMean rec z_t z_t_5 z_t_5_0 x1 x2 x3 x4 = some y) : CRl l MX8_rowMean (F + 1) (LO + 32) D a [.ref q_t, .int x1, .int x2, .int x3, .int x4] (rc8 a q_t Q_t z_t ++ (rc5 a (Q_t 5) Q_t_5 z_t_5 ++ (rc7 a (Q_t_5 0) Q_t_5_0 z_t_5_0))) (fun r => r = y) := by
  unfold gX8_rowMean at h
  refine entR (by decide) (Nat.le_of_ble_eq_true rfl) ?_
  intro p e s m below meth c C hK hP ls hl
  obtain ⟨hx, hb, hml, hown, hts, hr, hlocks, hnm⟩ := id C
  have hb : c.code = cX8_rowMean := hb
  have hown : s.vm.findClass RX8 = some m.cls := hown
  have hl : lv_has ls 13 [(0, .ref q_t), (1, .int x1), (2, .int x2), (3, .int x3), (4, .int x4)] := hl
  refine lv_iload_n hx hb dX8_rowMean_0 rfl (lv_at hl 1 rfl) ?_
  refine lv_aload_n hx hb dX8_rowMean_1 rfl (lv_at hl 0 rfl) ?_
  refine va_get (D := D) (v := .ref (Q_t 5)) (C := RX8) (T := TX8) (N := 11) hx hb hts iX8 hown hK.1 hP 0 rfl rfl 5 (by decide) (hts _ t_305) (fun _ h9 => h9) rfl dX8_rowMean_2 ?_
  refine va_get (D := D) (v := .int (gI z_t_5 6)) (C := RX5) (T := TX5) (N := 8) hx hb hts iX5 hown hK.1 hP 2 rfl rfl 6 (by decide) (hts _ t_173) (fun _ h9 => h9) rfl dX8_rowMean_5 ?_
  refine lv_icmp_ge (tgt := 17) hx hb dX8_rowMean_8 (by decide) (fun c1 => ?_) (fun c1 => ?_)
  · have h := ite_t c1 h
    refine lv_lconst (v := 0) hx hb dX8_rowMean_17 (by decide) ?_
    exact rRl C rfl (Option.some.inj h) dX8_rowMean_18
  · have h := ite_f c1 h
    refine lv_iload_n hx hb dX8_rowMean_11 rfl (lv_at hl 1 rfl) ?_
    refine lv_bipush (v := 8) hx hb dX8_rowMean_12 (by decide) ?_
    refine lv_icmp_lt (tgt := 19) hx hb dX8_rowMean_14 (by decide) (fun c2 => ?_) (fun c2 => ?_)
    · have h := ite_t c2 h
      refine lv_aload_n hx hb dX8_rowMean_19 rfl (lv_at hl 0 rfl) ?_
      refine va_get (D := D) (v := .ref (Q_t 5)) (C := RX8) (T := TX8) (N := 11) hx hb hts iX8 hown hK.1 hP 0 rfl rfl 5 (by decide) (hts _ t_305) (fun _ h9 => h9) rfl dX8_rowMean_20 ?_
      refine va_get (D := D) (v := .ref (Q_t_5 5)) (C := RX5) (T := TX5) (N := 8) hx hb hts iX5 hown hK.1 hP 2 rfl rfl 5 (by decide) (hts _ t_171) (fun _ h9 => h9) rfl dX8_rowMean_23 ?_
      refine lv_iload_n hx hb dX8_rowMean_26 rfl (lv_at hl 1 rfl) ?_
      obtain ⟨r4, hc3, h⟩ := bd_some h
      refine cRi (runS (As := [.ref (Q_t_5 5), .int x1]) (rest := []) C (mX8_at l D a hc3) lk_S_8_129 okN_X8_at (by constructor; (show 0 + 1 ≤ F + 1; omega); (show 8 + (2 + 11) + (0) ≤ LO + 32; omega)) ⟨rfl, rfl⟩ (preR hK (P_of_map (wc := ra0 a (Q_t_5 5) 8 (gT z_t_5 5)) hP [3] rfl)) hl.1 rfl (Nat.le_of_ble_eq_true rfl) dX8_rowMean_27 ⟨Nat.le_of_ble_eq_true rfl, Nat.le_of_ble_eq_true rfl⟩) ?_
      refine lv_istore (lv' := [(5, .int r4), (0, .ref q_t), (1, .int x1), (2, .int x2), (3, .int x3), (4, .int x4)]) hx hb dX8_rowMean_30 hl (by decide) rfl (fun ls hl => ?_)
      refine lv_aload_n hx hb dX8_rowMean_32 rfl (lv_at hl 1 rfl) ?_
      refine va_get (D := D) (v := .ref (Q_t 5)) (C := RX8) (T := TX8) (N := 11) hx hb hts iX8 hown hK.1 hP 0 rfl rfl 5 (by decide) (hts _ t_305) (fun _ h9 => h9) rfl dX8_rowMean_33 ?_
      refine va_get (D := D) (v := .ref (Q_t_5 0)) (C := RX5) (T := TX5) (N := 8) hx hb hts iX5 hown hK.1 hP 2 rfl rfl 0 (by decide) (hts _ t_161) (fun _ h9 => h9) rfl dX8_rowMean_36 ?_
      refine va_get (D := D) (v := .ref (Q_t_5_0 9)) (C := RX7) (T := TX7) (N := 18) hx hb hts iX7 hown hK.1 hP 5 rfl rfl 9 (by decide) (hts _ t_62) (fun _ h9 => h9) rfl dX8_rowMean_39 ?_
      refine lv_iload hx hb dX8_rowMean_42 (lv_at hl 0 rfl) ?_
      obtain ⟨r6, hc5, h⟩ := bd_some h
      refine cRi (runS (As := [.ref (Q_t_5_0 9), .int r4]) (rest := []) C (mX8_at l D a hc5) lk_S_8_129 okN_X8_at (by constructor; (show 0 + 1 ≤ F + 1; omega); (show 8 + (2 + 11) + (0) ≤ LO + 32; omega)) ⟨rfl, rfl⟩ (preR hK (P_of_map (wc := ra0 a (Q_t_5_0 9) 10 (gT z_t_5_0 9)) hP [10] rfl)) hl.1 rfl (Nat.le_of_ble_eq_true rfl) dX8_rowMean_44 ⟨Nat.le_of_ble_eq_true rfl, Nat.le_of_ble_eq_true rfl⟩) ?_
      refine lv_istore (lv' := [(6, .int r6), (5, .int r4), (0, .ref q_t), (1, .int x1), (2, .int x2), (3, .int x3), (4, .int x4)]) hx hb dX8_rowMean_47 hl (by decide) rfl (fun ls hl => ?_)
      refine lv_aload_n hx hb dX8_rowMean_49 rfl (lv_at hl 2 rfl) ?_
      refine va_get (D := D) (v := .ref (Q_t 5)) (C := RX8) (T := TX8) (N := 11) hx hb hts iX8 hown hK.1 hP 0 rfl rfl 5 (by decide) (hts _ t_305) (fun _ h9 => h9) rfl dX8_rowMean_50 ?_
      refine va_get (D := D) (v := .ref (Q_t_5 0)) (C := RX5) (T := TX5) (N := 8) hx hb hts iX5 hown hK.1 hP 2 rfl rfl 0 (by decide) (hts _ t_161) (fun _ h9 => h9) rfl dX8_rowMean_53 ?_
      refine lv_iload hx hb dX8_rowMean_56 (lv_at hl 1 rfl) ?_
      refine lv_iload_n hx hb dX8_rowMean_58 rfl (lv_at hl 4 rfl) ?_
      obtain ⟨r8, hc7, h⟩ := bd_some h
      refine cRi (runV (As := [.int r4, .int x2]) (rest := []) C (mX7_isOpen l D a hc7) lk_V_8_175 okN_X7_isOpen (by constructor; (show 0 + 1 ≤ F + 1; omega); (show 8 + (4 + 11) + (0) ≤ LO + 32; omega)) ⟨rfl, rfl⟩ (preV (preR hK (P_of_map (wc := rc7 a (Q_t_5 0) Q_t_5_0 z_t_5_0) hP [5, 6, 7, 8, 9, 10, 11, 12, 13, 14, 15, 16, 17] rfl)) (recvOf hK hP 5 rfl (ci := 7) rfl)) hl.1 rfl (Nat.le_of_ble_eq_true rfl) dX8_rowMean_59 ⟨Nat.le_of_ble_eq_true rfl, Nat.le_of_ble_eq_true rfl⟩) ?_
      obtain ⟨J9, eJ9, h⟩ := jn_some h
      have hJ9 : ∀ (ls : Array Slot), J9 = some y → lv_has ls 13 [(0, .ref q_t), (1, .int x1), (2, .int x2), (3, .int x3), (4, .int x4)] → W p l e (rmM (F + 1) 0 0 (LO + 32)) s m #[.ref q_t, .int x1, .int x2, .int x3, .int x4] below meth c s.heap [] 0 0 (MQ below (vp_Sl (fun r => r = y)) #[.ref q_t, .int x1, .int x2, .int x3, .int x4] s 0 0 (fun _ => False)) (F0 m 71 ls []) := by
        intro ls h hl
        rw [eJ9] at h
        refine lv_ldc2 hx hb hown (hts _ t_758) dX8_rowMean_71 ?_
        refine lv_aload_n hx hb dX8_rowMean_74 rfl (lv_at hl 0 rfl) ?_
        refine lv_iload_n hx hb dX8_rowMean_75 rfl (lv_at hl 1 rfl) ?_
        refine lv_iconst (v := 1) hx hb dX8_rowMean_76 (by decide) ?_
        refine lv_iadd hx hb dX8_rowMean_77 ?_
        refine lv_iload_n hx hb dX8_rowMean_78 rfl (lv_at hl 2 rfl) ?_
        refine lv_iload_n hx hb dX8_rowMean_79 rfl (lv_at hl 3 rfl) ?_
        refine lv_iload hx hb dX8_rowMean_80 (lv_at hl 4 rfl) ?_
        obtain ⟨r11, hc10, h⟩ := bd_some h
        refine cRl (runV (As := [.int (x1 + 1), .int x2, .int x3, .int x4]) (rest := [.long 100]) C (hrec hc10) lk_V_8_245 okN_X8_rowMean (by constructor; (show F + 0 + 1 ≤ F + 1; omega); (show 8 + (13 + 11) + (LO + 0) ≤ LO + 32; omega)) ⟨rfl, rfl⟩ (preV (preR hK hP) (recvOf hK hP 0 rfl (ci := 8) rfl)) hl.1 rfl (Nat.le_of_ble_eq_true rfl) dX8_rowMean_82 ⟨Nat.le_of_ble_eq_true rfl, Nat.le_of_ble_eq_true rfl⟩) ?_
        refine lv_lmul hx hb dX8_rowMean_85 ?_
        exact rRl C rfl (Option.some.inj h) dX8_rowMean_86
      refine lv_if_eq (tgt := 71) hx hb dX8_rowMean_62 (by decide) (fun c12 => ?_) (fun c12 => ?_)
      · have h := ite_t c12 h
        exact hJ9 ls h (lv_sub hl [2, 3, 4, 5, 6] rfl)
      · have h := ite_f c12 h
        refine lv_iload hx hb dX8_rowMean_65 (lv_at hl 0 rfl) ?_
        refine lv_iload_n hx hb dX8_rowMean_67 rfl (lv_at hl 5 rfl) ?_
        refine lv_icmp_le (tgt := 87) hx hb dX8_rowMean_68 (by decide) (fun c13 => ?_) (fun c13 => ?_)
        · have h := ite_t c13 h
          refine lv_aload_n hx hb dX8_rowMean_87 rfl (lv_at hl 2 rfl) ?_
          refine va_get (D := D) (v := .ref (Q_t 5)) (C := RX8) (T := TX8) (N := 11) hx hb hts iX8 hown hK.1 hP 0 rfl rfl 5 (by decide) (hts _ t_305) (fun _ h9 => h9) rfl dX8_rowMean_88 ?_
          refine va_get (D := D) (v := .ref (Q_t_5 0)) (C := RX5) (T := TX5) (N := 8) hx hb hts iX5 hown hK.1 hP 2 rfl rfl 0 (by decide) (hts _ t_161) (fun _ h9 => h9) rfl dX8_rowMean_91 ?_
          refine va_get (D := D) (v := .ref (Q_t_5_0 10)) (C := RX7) (T := TX7) (N := 18) hx hb hts iX7 hown hK.1 hP 5 rfl rfl 10 (by decide) (hts _ t_67) (fun _ h9 => h9) rfl dX8_rowMean_94 ?_
          refine lv_iload hx hb dX8_rowMean_97 (lv_at hl 1 rfl) ?_
          obtain ⟨r15, hc14, h⟩ := bd_some h
          refine cRi (runS (As := [.ref (Q_t_5_0 10), .int r4]) (rest := []) C (mX8_at l D a hc14) lk_S_8_129 okN_X8_at (by constructor; (show 0 + 1 ≤ F + 1; omega); (show 8 + (2 + 11) + (0) ≤ LO + 32; omega)) ⟨rfl, rfl⟩ (preR hK (P_of_map (wc := ra0 a (Q_t_5_0 10) 10 (gT z_t_5_0 10)) hP [11] rfl)) hl.1 rfl (Nat.le_of_ble_eq_true rfl) dX8_rowMean_99 ⟨Nat.le_of_ble_eq_true rfl, Nat.le_of_ble_eq_true rfl⟩) ?_
          refine lv_istore (lv' := [(7, .int r15), (6, .int r6), (5, .int r4), (0, .ref q_t), (1, .int x1), (2, .int x2), (3, .int x3), (4, .int x4)]) hx hb dX8_rowMean_102 hl (by decide) rfl (fun ls hl => ?_)
          refine lv_iload hx hb dX8_rowMean_104 (lv_at hl 7 rfl) ?_
          refine lv_iconst (v := (-1)) hx hb dX8_rowMean_106 (by decide) ?_
          obtain ⟨J16, eJ16, h⟩ := jn_some h
          have hJ16 : ∀ (i17 : Int32) (ls : Array Slot), J16 i17 = some y → lv_has ls 13 [(0, .ref q_t), (1, .int x1), (2, .int x2), (3, .int x3), (4, .int x4), (5, .int r4), (6, .int r6), (7, .int r15)] → W p l e (rmM (F + 1) 0 0 (LO + 32)) s m #[.ref q_t, .int x1, .int x2, .int x3, .int x4] below meth c s.heap [] 0 0 (MQ below (vp_Sl (fun r => r = y)) #[.ref q_t, .int x1, .int x2, .int x3, .int x4] s 0 0 (fun _ => False)) (F0 m 140 ls [.int i17]) := by
            intro i17 ls h hl
            rw [eJ16] at h
            refine lv_istore (lv' := [(8, .int i17), (0, .ref q_t), (1, .int x1), (2, .int x2), (3, .int x3), (4, .int x4), (5, .int r4), (6, .int r6), (7, .int r15)]) hx hb dX8_rowMean_140 hl (by decide) rfl (fun ls hl => ?_)
            refine lv_iload hx hb dX8_rowMean_142 (lv_at hl 0 rfl) ?_
            refine lv_i2l (v := i17.toInt64) hx hb dX8_rowMean_144 rfl ?_
            refine lv_aload_n hx hb dX8_rowMean_145 rfl (lv_at hl 1 rfl) ?_
            refine va_get (D := D) (v := .ref (Q_t 5)) (C := RX8) (T := TX8) (N := 11) hx hb hts iX8 hown hK.1 hP 0 rfl rfl 5 (by decide) (hts _ t_305) (fun _ h9 => h9) rfl dX8_rowMean_146 ?_
            refine va_get (D := D) (v := .int (gI z_t_5 6)) (C := RX5) (T := TX5) (N := 8) hx hb hts iX5 hown hK.1 hP 2 rfl rfl 6 (by decide) (hts _ t_173) (fun _ h9 => h9) rfl dX8_rowMean_149 ?_
            refine lv_iload_n hx hb dX8_rowMean_152 rfl (lv_at hl 2 rfl) ?_
            refine lv_isub hx hb dX8_rowMean_153 ?_
            refine lv_iconst (v := 1) hx hb dX8_rowMean_154 (by decide) ?_
            refine lv_isub hx hb dX8_rowMean_155 ?_
            obtain ⟨r19, hc18, h⟩ := bd_some h
            refine cRl (runS (As := [.int (((gI z_t_5 6) - x1) - 1)]) (rest := [.long i17.toInt64]) C (mX8_hundreds l D a hc18) lk_S_8_249 okN_X8_hundreds (by constructor; (show 0 + 1 ≤ F + 1; omega); (show 8 + (4 + 11) + (0) ≤ LO + 32; omega)) ⟨rfl, rfl⟩ (preR hK (P_of_map (wc := []) hP [] rfl)) hl.1 rfl (Nat.le_of_ble_eq_true rfl) dX8_rowMean_156 ⟨Nat.le_of_ble_eq_true rfl, Nat.le_of_ble_eq_true rfl⟩) ?_
            refine lv_lmul hx hb dX8_rowMean_159 ?_
            refine lv_aload_n hx hb dX8_rowMean_160 rfl (lv_at hl 1 rfl) ?_
            refine lv_iload_n hx hb dX8_rowMean_161 rfl (lv_at hl 2 rfl) ?_
            refine lv_iconst (v := 1) hx hb dX8_rowMean_162 (by decide) ?_
            refine lv_iadd hx hb dX8_rowMean_163 ?_
            refine lv_iload_n hx hb dX8_rowMean_164 rfl (lv_at hl 3 rfl) ?_
            refine lv_iload hx hb dX8_rowMean_165 (lv_at hl 6 rfl) ?_
            obtain ⟨r21, hc20, h⟩ := bd_some h
            refine cRi (runS (As := [.int r4]) (rest := [.int x2, .int (x1 + 1), .ref q_t, .long (i17.toInt64 * r19)]) C (mX8_bit l D a hc20) lk_S_8_216 okN_X8_bit (by constructor; (show 0 + 1 ≤ F + 1; omega); (show 8 + (1 + 11) + (0) ≤ LO + 32; omega)) ⟨rfl, rfl⟩ (preR hK (P_of_map (wc := []) hP [] rfl)) hl.1 rfl (Nat.le_of_ble_eq_true rfl) dX8_rowMean_167 ⟨Nat.le_of_ble_eq_true rfl, Nat.le_of_ble_eq_true rfl⟩) ?_
            refine lv_ior hx hb dX8_rowMean_170 ?_
            refine lv_iload_n hx hb dX8_rowMean_171 rfl (lv_at hl 4 rfl) ?_
            refine lv_iload hx hb dX8_rowMean_172 (lv_at hl 7 rfl) ?_
            refine lv_isub hx hb dX8_rowMean_174 ?_
            refine lv_iload hx hb dX8_rowMean_175 (lv_at hl 5 rfl) ?_
            obtain ⟨r23, hc22, h⟩ := bd_some h
            refine cRl (runV (As := [.int (x1 + 1), .int (x2 ||| r21), .int (x3 - r6), .int x4]) (rest := [.long (i17.toInt64 * r19)]) C (hrec hc22) lk_V_8_245 okN_X8_rowMean (by constructor; (show F + 0 + 1 ≤ F + 1; omega); (show 8 + (13 + 11) + (LO + 0) ≤ LO + 32; omega)) ⟨rfl, rfl⟩ (preV (preR hK hP) (recvOf hK hP 0 rfl (ci := 8) rfl)) hl.1 rfl (Nat.le_of_ble_eq_true rfl) dX8_rowMean_177 ⟨Nat.le_of_ble_eq_true rfl, Nat.le_of_ble_eq_true rfl⟩) ?_
            refine lv_ladd hx hb dX8_rowMean_180 ?_
            refine lv_lstore (lv' := [(9, .long ((i17.toInt64 * r19) + r23)), (8, .int i17), (0, .ref q_t), (1, .int x1), (2, .int x2), (3, .int x3), (4, .int x4), (5, .int r4), (6, .int r6), (7, .int r15)]) hx hb dX8_rowMean_181 hl (by decide) rfl (fun ls hl => ?_)
            refine lv_aload_n hx hb dX8_rowMean_183 rfl (lv_at hl 2 rfl) ?_
            refine lv_iload_n hx hb dX8_rowMean_184 rfl (lv_at hl 3 rfl) ?_
            refine lv_iconst (v := 1) hx hb dX8_rowMean_185 (by decide) ?_
            refine lv_iadd hx hb dX8_rowMean_186 ?_
            refine lv_iload_n hx hb dX8_rowMean_187 rfl (lv_at hl 4 rfl) ?_
            refine lv_iload_n hx hb dX8_rowMean_188 rfl (lv_at hl 5 rfl) ?_
            refine lv_iload hx hb dX8_rowMean_189 (lv_at hl 8 rfl) ?_
            refine lv_isub hx hb dX8_rowMean_191 ?_
            refine lv_iload hx hb dX8_rowMean_192 (lv_at hl 6 rfl) ?_
            obtain ⟨r25, hc24, h⟩ := bd_some h
            refine cRl (runV (As := [.int (x1 + 1), .int x2, .int (x3 - r6), .int x4]) (rest := []) C (hrec hc24) lk_V_8_245 okN_X8_rowMean (by constructor; (show F + 0 + 1 ≤ F + 1; omega); (show 8 + (13 + 11) + (LO + 0) ≤ LO + 32; omega)) ⟨rfl, rfl⟩ (preV (preR hK hP) (recvOf hK hP 0 rfl (ci := 8) rfl)) hl.1 rfl (Nat.le_of_ble_eq_true rfl) dX8_rowMean_194 ⟨Nat.le_of_ble_eq_true rfl, Nat.le_of_ble_eq_true rfl⟩) ?_
            refine lv_lstore (lv' := [(11, .long r25), (9, .long ((i17.toInt64 * r19) + r23)), (8, .int i17), (0, .ref q_t), (1, .int x1), (2, .int x2), (3, .int x3), (4, .int x4), (5, .int r4), (6, .int r6), (7, .int r15)]) hx hb dX8_rowMean_197 hl (by decide) rfl (fun ls hl => ?_)
            refine lv_iload hx hb dX8_rowMean_199 (lv_at hl 10 rfl) ?_
            refine lv_i2l (v := r15.toInt64) hx hb dX8_rowMean_201 rfl ?_
            refine lv_lload hx hb dX8_rowMean_202 (lv_at hl 1 rfl) ?_
            refine lv_lmul hx hb dX8_rowMean_204 ?_
            refine lv_bipush (v := 100) hx hb dX8_rowMean_205 (by decide) ?_
            refine lv_iload hx hb dX8_rowMean_207 (lv_at hl 10 rfl) ?_
            refine lv_isub hx hb dX8_rowMean_209 ?_
            refine lv_i2l (v := (100 - r15).toInt64) hx hb dX8_rowMean_210 rfl ?_
            refine lv_lload hx hb dX8_rowMean_211 (lv_at hl 0 rfl) ?_
            refine lv_lmul hx hb dX8_rowMean_213 ?_
            refine lv_ladd hx hb dX8_rowMean_214 ?_
            exact rRl C rfl (Option.some.inj h) dX8_rowMean_215
          refine lv_icmp_ne (tgt := 128) hx hb dX8_rowMean_107 (by decide) (fun c26 => ?_) (fun c26 => ?_)
          · have h := ite_f c26 h
            refine lv_iload hx hb dX8_rowMean_128 (lv_at hl 2 rfl) ?_
            refine lv_iload hx hb dX8_rowMean_130 (lv_at hl 7 rfl) ?_
            refine lv_icmp_ne (tgt := 139) hx hb dX8_rowMean_132 (by decide) (fun c27 => ?_) (fun c27 => ?_)
            · have h := ite_f c27 h
              refine lv_iconst (v := 0) hx hb dX8_rowMean_139 (by decide) ?_
              exact hJ16 0 ls h (lv_sub hl [3, 4, 5, 6, 7, 2, 1, 0] rfl)
            · have h := ite_t c27 h
              refine lv_iconst (v := 1) hx hb dX8_rowMean_135 (by decide) ?_
              refine lv_goto (tgt := 140) hx hb dX8_rowMean_136 (by decide) ?_
              exact hJ16 1 ls h (lv_sub hl [3, 4, 5, 6, 7, 2, 1, 0] rfl)
          · have h := ite_t c26 h
            refine lv_aload_n hx hb dX8_rowMean_110 rfl (lv_at hl 3 rfl) ?_
            refine va_get (D := D) (v := .ref (Q_t 5)) (C := RX8) (T := TX8) (N := 11) hx hb hts iX8 hown hK.1 hP 0 rfl rfl 5 (by decide) (hts _ t_305) (fun _ h9 => h9) rfl dX8_rowMean_111 ?_
            refine va_get (D := D) (v := .ref (Q_t_5 0)) (C := RX5) (T := TX5) (N := 8) hx hb hts iX5 hown hK.1 hP 2 rfl rfl 0 (by decide) (hts _ t_161) (fun _ h9 => h9) rfl dX8_rowMean_114 ?_
            refine va_get (D := D) (v := .ref (Q_t_5_0 12)) (C := RX7) (T := TX7) (N := 18) hx hb hts iX7 hown hK.1 hP 5 rfl rfl 12 (by decide) (hts _ t_74) (fun _ h9 => h9) rfl dX8_rowMean_117 ?_
            refine lv_iload hx hb dX8_rowMean_120 (lv_at hl 2 rfl) ?_
            obtain ⟨r29, hc28, h⟩ := bd_some h
            refine cRi (runS (As := [.ref (Q_t_5_0 12), .int r4]) (rest := []) C (mX8_at l D a hc28) lk_S_8_129 okN_X8_at (by constructor; (show 0 + 1 ≤ F + 1; omega); (show 8 + (2 + 11) + (0) ≤ LO + 32; omega)) ⟨rfl, rfl⟩ (preR hK (P_of_map (wc := ra0 a (Q_t_5_0 12) 10 (gT z_t_5_0 12)) hP [13] rfl)) hl.1 rfl (Nat.le_of_ble_eq_true rfl) dX8_rowMean_122 ⟨Nat.le_of_ble_eq_true rfl, Nat.le_of_ble_eq_true rfl⟩) ?_
            refine lv_goto (tgt := 140) hx hb dX8_rowMean_125 (by decide) ?_
            exact hJ16 r29 ls h (lv_sub hl [3, 4, 5, 6, 7, 2, 1, 0] rfl)
        · have h := ite_f c13 h
          exact hJ9 ls h (lv_sub hl [2, 3, 4, 5, 6] rfl)
    · have h := ite_f c2 h
      refine lv_lconst (v := 0) hx hb dX8_rowMean_17 (by decide) ?_
      exact rRl C rfl (Option.some.inj h) dX8_rowMean_18

set_option maxHeartbeats 4000000 in
theorem mX8_rowMean (l : Launch) (D : va_G) (a : Nat → ClassId) : ∀ (dp : Nat) {q_t : Nat} {Q_t : Nat → Nat} {z_t : Sx} {Q_t_5 : Nat → Nat} {z_t_5 : Sx} {Q_t_5_0 : Nat → Nat} {z_t_5_0 : Sx} {x1 : Int32} {x2 : Int32} {x3 : Int32} {x4 : Int32} {y : Int64}, fX8_rowMean dp z_t z_t_5 z_t_5_0 x1 x2 x3 x4 = some y → CRl l MX8_rowMean (1 + 1 * dp) (23 + 32 * dp) D a [.ref q_t, .int x1, .int x2, .int x3, .int x4] (rc8 a q_t Q_t z_t ++ (rc5 a (Q_t 5) Q_t_5 z_t_5 ++ (rc7 a (Q_t_5 0) Q_t_5_0 z_t_5_0))) (fun r => r = y) := by
  intro dp
  induction dp with
  | zero => intros; rename_i h; cases h
  | succ dp ih =>
    intros
    rename_i h
    have e1 : 1 + 1 * (dp + 1) = 1 + 1 * dp + 1 := by omega
    have e2 : 23 + 32 * (dp + 1) = 23 + 32 * dp + 32 := by omega
    rw [e1, e2]
    exact gmX8_rowMean l D a ih (by omega) (by omega) h

def fX8_seed (z_t : Sx) (z_t_5 : Sx) (z_t_5_1 : Sx) (x1 : Int32) : Option (Int32 × Sx) := if 0 ≤ x1 then some (gI z_t_5_1 4, sI z_t_5_1 4 x1) else some ((-1), z_t_5_1)

set_option maxHeartbeats 4000000 in
set_option maxRecDepth 100000 in
theorem mX8_seed (l : Launch) (D : va_G) (a : Nat → ClassId) {q_t : Nat} {Q_t : Nat → Nat} {z_t : Sx} {Q_t_5 : Nat → Nat} {z_t_5 : Sx} {Q_t_5_1 : Nat → Nat} {z_t_5_1 : Sx} {x1 : Int32} {y : Int32 × Sx} (h : fX8_seed z_t z_t_5 z_t_5_1 x1 = some y) (sz : Nat) : CMi (S := Unit) l MX8_seed 0 0 0 0 D a [.ref q_t, .int x1] (rc8 a q_t Q_t z_t ++ (rc5 a (Q_t 5) Q_t_5 z_t_5 ++ (rc0 a (Q_t_5 1) Q_t_5_1 z_t_5_1))) sz (fun r _ => r = y.1) (fun _ => rc8 a q_t Q_t z_t ++ (rc5 a (Q_t 5) Q_t_5 z_t_5 ++ (rc0 a (Q_t_5 1) Q_t_5_1 y.2))) := by
  unfold fX8_seed at h
  refine entMi (by decide) (Nat.le_of_ble_eq_true rfl) ?_
  intro p e s m below meth c C hK A hA hP hD ls hl
  obtain ⟨hx, hb, hml, hown, hts, hr, hlocks, hnm⟩ := id C
  have hb : c.code = cX8_seed := hb
  have hown : s.vm.findClass RX8 = some m.cls := hown
  have hS : va_S A s.heap s.heap [] := va_S.rf
  have hl : lv_has ls 3 [(0, .ref q_t), (1, .int x1)] := hl
  refine lv_iload_n hx hb dX8_seed_0 rfl (lv_at hl 1 rfl) ?_
  refine lv_if_ge (tgt := 6) hx hb dX8_seed_1 (by decide) (fun c1 => ?_) (fun c1 => ?_)
  · have h := ite_t c1 h
    refine lv_aload_n hx hb dX8_seed_6 rfl (lv_at hl 0 rfl) ?_
    refine va_get (D := D) (v := .ref (Q_t 5)) (C := RX8) (T := TX8) (N := 11) hx hb hts iX8 hown hK.1 hP 0 rfl rfl 5 (by decide) (hts _ t_305) (fun _ h9 => h9) rfl dX8_seed_7 ?_
    refine va_get (D := D) (v := .ref (Q_t_5 1)) (C := RX5) (T := TX5) (N := 8) hx hb hts iX5 hown hK.1 hP 2 rfl rfl 1 (by decide) (hts _ t_163) (fun _ h9 => h9) rfl dX8_seed_10 ?_
    refine va_get (D := D) (v := .int (gI z_t_5_1 4)) (C := RX0) (T := TX0) (N := 6) hx hb hts iX0 hown hK.1 hP 5 rfl rfl 4 (by decide) (hts _ t_143) (fun _ h9 => h9) rfl dX8_seed_13 ?_
    refine lv_istore_n (lv' := [(2, .int (gI z_t_5_1 4)), (0, .ref q_t), (1, .int x1)]) hx hb dX8_seed_16 rfl hl (by decide) rfl (fun ls hl => ?_)
    refine lv_aload_n hx hb dX8_seed_17 rfl (lv_at hl 1 rfl) ?_
    refine va_get (D := D) (v := .ref (Q_t 5)) (C := RX8) (T := TX8) (N := 11) hx hb hts iX8 hown hK.1 hP 0 rfl rfl 5 (by decide) (hts _ t_305) (fun _ h9 => h9) rfl dX8_seed_18 ?_
    refine va_get (D := D) (v := .ref (Q_t_5 1)) (C := RX5) (T := TX5) (N := 8) hx hb hts iX5 hown hK.1 hP 2 rfl rfl 1 (by decide) (hts _ t_163) (fun _ h9 => h9) rfl dX8_seed_21 ?_
    refine lv_iload_n hx hb dX8_seed_24 rfl (lv_at hl 2 rfl) ?_
    refine va_put (D := D) (v := .int x1) (C := RX0) (T := TX0) (N := 6) hx hb hts iX0 tyX0 tyX0_ok nmX0 hown hK.1 hP hD hS 5 rfl rfl 4 (by decide) (hts _ t_143) (fun _ h9 => h9) rfl (tyX0_ok 4 (by decide)) rfl rfl (Nat.le_of_ble_eq_true rfl) dX8_seed_25 (fun H locs hP hD hS => ?_)
    have hP : va_P D classes (rc8 a q_t Q_t z_t ++ (rc5 a (Q_t 5) Q_t_5 z_t_5 ++ (rc0 a (Q_t_5 1) Q_t_5_1 (sI z_t_5_1 4 x1)))) H := hP
    have hD : va_D A (rc8 a q_t Q_t z_t ++ (rc5 a (Q_t 5) Q_t_5 z_t_5 ++ (rc0 a (Q_t_5 1) Q_t_5_1 (sI z_t_5_1 4 x1)))) := hD
    refine lv_iload_n hx hb dX8_seed_28 rfl (lv_at hl 0 rfl) ?_
    exact rMi C rfl h (g := fun y => rc8 a q_t Q_t z_t ++ (rc5 a (Q_t 5) Q_t_5 z_t_5 ++ (rc0 a (Q_t_5 1) Q_t_5_1 y.2))) (pr := fun y => y.1) hP hD hS dX8_seed_29
  · have h := ite_f c1 h
    refine lv_iconst (v := (-1)) hx hb dX8_seed_4 (by decide) ?_
    exact rMi C rfl h (g := fun y => rc8 a q_t Q_t z_t ++ (rc5 a (Q_t 5) Q_t_5 z_t_5 ++ (rc0 a (Q_t_5 1) Q_t_5_1 y.2))) (pr := fun y => y.1) hP hD hS dX8_seed_5

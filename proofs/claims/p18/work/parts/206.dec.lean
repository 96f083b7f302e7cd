set_option maxHeartbeats 4000000 in
set_option maxRecDepth 100000 in
theorem wX9_four_3 {p : Program} {l : Launch} {e : Env} {s : State} {m : MethodId} {below : List Frame} {meth : Method} {c : Code} {D : va_G} {a : Nat → ClassId} {A : Nat → Prop} {q_t : Nat} {Q_t : Nat → Nat} {x10 : Int32} {x1 : Int32} (C : Cx p s m #[.ref q_t, .int x10] meth c MX9_four) (hK : KK D a s) (hA : ∀ q, s.heap.size ≤ q → A q) {y : Sx} : ∀ (n : Nat) (z_t : Sx) (x2 : Int32) (H : Heap) (locs : List Loc) (ls : Array Slot), lX9_four_3 x1 n z_t x2 = some y → va_P D classes (rc9 a q_t Q_t z_t) H → va_D A (rc9 a q_t Q_t z_t) → va_S A s.heap H locs → lv_has ls 3 [(0, .ref q_t), (1, .int x1), (2, .int x2)] → W p l e (rmM 0 0 0 0) s m #[.ref q_t, .int x10] below meth c H locs 0 0 (MQ below (va_Qv (fun (_ : Unit) => True) (Bw D A (fun _ => rc9 a q_t Q_t y)) A) #[.ref q_t, .int x10] s 0 0 A) (F0 m 3 ls []) := by
  obtain ⟨hx, hb, hml, hown, hts, hr, hlocks, hnm⟩ := id C
  have hb : c.code = cX9_four := hb
  have hown : s.vm.findClass RX9 = some m.cls := hown
  intro n
  induction n with
  | zero => intro z_t x2 H locs ls h; rw [lX9_four_3] at h; cases h
  | succ n ih =>
    intro z_t x2 H locs ls h hP hD hS hl
    rw [lX9_four_3] at h
    refine lv_iload_n hx hb dX9_four_3 rfl (lv_at hl 2 rfl) ?_
    refine lv_if_lt (tgt := 36) hx hb dX9_four_4 (by decide) (fun c1 => ?_) (fun c1 => ?_)
    · have h := ite_t c1 h
      exact rMv C rfl h (g := fun y => rc9 a q_t Q_t y) hP hD hS dX9_four_36
    · have h := ite_f c1 h
      refine lv_aload_n hx hb dX9_four_7 rfl (lv_at hl 0 rfl) ?_
      refine va_get (D := D) (v := .ref (Q_t 0)) (C := RX9) (T := TX9) (N := 36) hx hb hts iX9 hown hK.1 hP 0 rfl rfl 0 (by decide) (hts _ t_882) (fun _ h9 => h9) rfl dX9_four_8 ?_
      refine lv_aload_n hx hb dX9_four_11 rfl (lv_at hl 0 rfl) ?_
      refine va_get (D := D) (v := .int (gI z_t 1)) (C := RX9) (T := TX9) (N := 36) hx hb hts iX9 hown hK.1 hP 0 rfl rfl 1 (by decide) (hts _ t_883) (fun _ h9 => h9) rfl dX9_four_12 ?_
      refine lv_iload_n hx hb dX9_four_15 rfl (lv_at hl 1 rfl) ?_
      refine lv_iload_n hx hb dX9_four_16 rfl (lv_at hl 2 rfl) ?_
      refine lv_ishr hx hb dX9_four_17 ?_
      refine lv_i2b (v := (x1 >>> (x2 &&& 31)).toInt8.toInt32) hx hb dX9_four_18 rfl ?_
      obtain ⟨g2, h⟩ := gd_some h
      refine ast_b hx hb hK.1 hP hD hS 1 2 rfl rfl ((gI z_t 1).toNatClampNeg) (ix_g g2) dX9_four_19 (fun H locs hP hD hS => ?_)
      rw [u9_0] at hP hD
      refine lv_aload_n hx hb dX9_four_20 rfl (lv_at hl 0 rfl) ?_
      refine lv_dup hx hb dX9_four_21 rfl ?_
      refine va_get (D := D) (v := .int (gI z_t 1)) (C := RX9) (T := TX9) (N := 36) hx hb hts iX9 hown hK.1 hP 0 rfl rfl 1 (by decide) (hts _ t_883) (fun _ h9 => h9) rfl dX9_four_22 ?_
      refine lv_iconst (v := 1) hx hb dX9_four_25 (by decide) ?_
      refine lv_iadd hx hb dX9_four_26 ?_
      refine va_put (D := D) (v := .int ((gI z_t 1) + 1)) (C := RX9) (T := TX9) (N := 36) hx hb hts iX9 tyX9 tyX9_ok nmX9 hown hK.1 hP hD hS 0 rfl rfl 1 (by decide) (hts _ t_883) (fun _ h9 => h9) rfl (tyX9_ok 1 (by decide)) rfl rfl (Nat.le_of_ble_eq_true rfl) dX9_four_27 (fun H locs hP hD hS => ?_)
      rw [u9_1] at hP hD
      refine lv_iinc (v := x2 + (-8)) (lv' := [(2, .int (x2 + (-8))), (0, .ref q_t), (1, .int x1)]) hx hb dX9_four_30 hl (k := 2) rfl rfl (by decide) rfl (fun ls hl => ?_)
      refine lv_goto (tgt := 3) hx hb dX9_four_33 (by decide) ?_
      exact ih (sI (sT z_t 0 ((gI z_t 1).toNatClampNeg) (vp_nar .byte ((x1 >>> (x2 &&& 31)).toInt8.toInt32))) 1 ((gI z_t 1) + 1)) (x2 + (-8)) _ _ ls h hP hD hS (lv_sub hl [1, 2, 0] rfl)

set_option maxHeartbeats 4000000 in
set_option maxRecDepth 100000 in
theorem mX9_four (l : Launch) (D : va_G) (a : Nat → ClassId) {q_t : Nat} {Q_t : Nat → Nat} {z_t : Sx} {x1 : Int32} {y : Sx} (h : fX9_four z_t x1 = some y) (sz : Nat) : CMv (S := Unit) l MX9_four 0 0 0 0 D a [.ref q_t, .int x1] (rc9 a q_t Q_t z_t) sz (fun _ => True) (fun _ => rc9 a q_t Q_t y) := by
  unfold fX9_four at h
  refine entMv (by decide) (Nat.le_of_ble_eq_true rfl) ?_
  intro p e s m below meth c C hK A hA hP hD ls hl
  obtain ⟨hx, hb, hml, hown, hts, hr, hlocks, hnm⟩ := id C
  have hb : c.code = cX9_four := hb
  have hown : s.vm.findClass RX9 = some m.cls := hown
  have hS : va_S A s.heap s.heap [] := va_S.rf
  have hl : lv_has ls 3 [(0, .ref q_t), (1, .int x1)] := hl
  refine lv_bipush (v := 24) hx hb dX9_four_0 (by decide) ?_
  refine lv_istore_n (lv' := [(2, .int 24), (0, .ref q_t), (1, .int x1)]) hx hb dX9_four_2 rfl hl (by decide) rfl (fun ls hl => ?_)
  refine wX9_four_3 C hK hA FU z_t 24 _ _ ls h hP hD hS (lv_sub hl [1, 2, 0] rfl)

set_option maxHeartbeats 4000000 in
set_option maxRecDepth 100000 in
theorem mX9_feed (l : Launch) (D : va_G) (a : Nat → ClassId) {q_t : Nat} {Q_t : Nat → Nat} {z_t : Sx} {x1 : Int32} {x2 : Int32} {x3 : Int32} {x4 : Int32} {x5 : Int32} {y : Int32 × Sx} (h : fX9_feed z_t x1 x2 x3 x4 x5 = some y) (sz : Nat) : CMi (S := Unit) l MX9_feed 1 22 0 0 D a [.ref q_t, .int x1, .int x2, .int x3, .int x4, .int x5] (rc9 a q_t Q_t z_t) sz (fun r _ => r = y.1) (fun _ => rc9 a q_t Q_t y.2) := by
  unfold fX9_feed at h
  refine entMi (by decide) (Nat.le_of_ble_eq_true rfl) ?_
  intro p e s m below meth c C hK A hA hP hD ls hl
  obtain ⟨hx, hb, hml, hown, hts, hr, hlocks, hnm⟩ := id C
  have hb : c.code = cX9_feed := hb
  have hown : s.vm.findClass RX9 = some m.cls := hown
  have hS : va_S A s.heap s.heap [] := va_S.rf
  have hl : lv_has ls 6 [(0, .ref q_t), (1, .int x1), (2, .int x2), (3, .int x3), (4, .int x4), (5, .int x5)] := hl
  refine lv_aload_n hx hb dX9_feed_0 rfl (lv_at hl 0 rfl) ?_
  refine va_get (D := D) (v := .int (gI z_t 1)) (C := RX9) (T := TX9) (N := 36) hx hb hts iX9 hown hK.1 hP 0 rfl rfl 1 (by decide) (hts _ t_883) (fun _ h9 => h9) rfl dX9_feed_1 ?_
  refine lv_bipush (v := 20) hx hb dX9_feed_4 (by decide) ?_
  refine lv_iadd hx hb dX9_feed_6 ?_
  refine lv_sipush (v := 400) hx hb dX9_feed_7 (by decide) ?_
  refine lv_icmp_le (tgt := 15) hx hb dX9_feed_10 (by decide) (fun c1 => ?_) (fun c1 => ?_)
  · have h := ite_t c1 h
    refine lv_aload_n hx hb dX9_feed_15 rfl (lv_at hl 0 rfl) ?_
    refine lv_iload_n hx hb dX9_feed_16 rfl (lv_at hl 1 rfl) ?_
    obtain ⟨z3, hc2, h⟩ := bd_some h
    refine cWv (runV (As := [.int x1]) (rest := []) C (mX9_four l D a (q_t := q_t) (Q_t := Q_t) hc2 s.heap.size) lk_V_9_83 okN_X9_four ⟨Nat.le_of_ble_eq_true rfl, Nat.le_of_ble_eq_true rfl⟩ ⟨rfl, rfl⟩ (preV (preM hK hP hD) (recvOf hK hP 0 rfl (ci := 9) rfl)) hl.1 rfl (Nat.le_of_ble_eq_true rfl) dX9_feed_17 ⟨Nat.le_of_ble_eq_true rfl, Nat.le_of_ble_eq_true rfl⟩) hP hD hS hA (fun H locs hP hD hS => ?_)
    have hP : va_P D classes (rc9 a q_t Q_t z3) H := hP
    have hD : va_D A (rc9 a q_t Q_t z3) := hD
    refine lv_aload_n hx hb dX9_feed_20 rfl (lv_at hl 0 rfl) ?_
    refine lv_iload_n hx hb dX9_feed_21 rfl (lv_at hl 2 rfl) ?_
    obtain ⟨z5, hc4, h⟩ := bd_some h
    refine cWv (runV (As := [.int x2]) (rest := []) C (mX9_four l D a (q_t := q_t) (Q_t := Q_t) hc4 H.size) lk_V_9_83 okN_X9_four ⟨Nat.le_of_ble_eq_true rfl, Nat.le_of_ble_eq_true rfl⟩ ⟨rfl, rfl⟩ (preV (preM hK hP hD) (recvOf hK hP 0 rfl (ci := 9) rfl)) hl.1 rfl (Nat.le_of_ble_eq_true rfl) dX9_feed_22 ⟨Nat.le_of_ble_eq_true rfl, Nat.le_of_ble_eq_true rfl⟩) hP hD hS hA (fun H locs hP hD hS => ?_)
    have hP : va_P D classes (rc9 a q_t Q_t z5) H := hP
    have hD : va_D A (rc9 a q_t Q_t z5) := hD
    refine lv_aload_n hx hb dX9_feed_25 rfl (lv_at hl 0 rfl) ?_
    refine lv_iload_n hx hb dX9_feed_26 rfl (lv_at hl 3 rfl) ?_
    obtain ⟨z7, hc6, h⟩ := bd_some h
    refine cWv (runV (As := [.int x3]) (rest := []) C (mX9_four l D a (q_t := q_t) (Q_t := Q_t) hc6 H.size) lk_V_9_83 okN_X9_four ⟨Nat.le_of_ble_eq_true rfl, Nat.le_of_ble_eq_true rfl⟩ ⟨rfl, rfl⟩ (preV (preM hK hP hD) (recvOf hK hP 0 rfl (ci := 9) rfl)) hl.1 rfl (Nat.le_of_ble_eq_true rfl) dX9_feed_27 ⟨Nat.le_of_ble_eq_true rfl, Nat.le_of_ble_eq_true rfl⟩) hP hD hS hA (fun H locs hP hD hS => ?_)
    have hP : va_P D classes (rc9 a q_t Q_t z7) H := hP
    have hD : va_D A (rc9 a q_t Q_t z7) := hD
    refine lv_aload_n hx hb dX9_feed_30 rfl (lv_at hl 0 rfl) ?_
    refine lv_iload hx hb dX9_feed_31 (lv_at hl 4 rfl) ?_
    obtain ⟨z9, hc8, h⟩ := bd_some h
    refine cWv (runV (As := [.int x4]) (rest := []) C (mX9_four l D a (q_t := q_t) (Q_t := Q_t) hc8 H.size) lk_V_9_83 okN_X9_four ⟨Nat.le_of_ble_eq_true rfl, Nat.le_of_ble_eq_true rfl⟩ ⟨rfl, rfl⟩ (preV (preM hK hP hD) (recvOf hK hP 0 rfl (ci := 9) rfl)) hl.1 rfl (Nat.le_of_ble_eq_true rfl) dX9_feed_33 ⟨Nat.le_of_ble_eq_true rfl, Nat.le_of_ble_eq_true rfl⟩) hP hD hS hA (fun H locs hP hD hS => ?_)
    have hP : va_P D classes (rc9 a q_t Q_t z9) H := hP
    have hD : va_D A (rc9 a q_t Q_t z9) := hD
    refine lv_aload_n hx hb dX9_feed_36 rfl (lv_at hl 0 rfl) ?_
    refine lv_iload hx hb dX9_feed_37 (lv_at hl 5 rfl) ?_
    obtain ⟨z11, hc10, h⟩ := bd_some h
    refine cWv (runV (As := [.int x5]) (rest := []) C (mX9_four l D a (q_t := q_t) (Q_t := Q_t) hc10 H.size) lk_V_9_83 okN_X9_four ⟨Nat.le_of_ble_eq_true rfl, Nat.le_of_ble_eq_true rfl⟩ ⟨rfl, rfl⟩ (preV (preM hK hP hD) (recvOf hK hP 0 rfl (ci := 9) rfl)) hl.1 rfl (Nat.le_of_ble_eq_true rfl) dX9_feed_39 ⟨Nat.le_of_ble_eq_true rfl, Nat.le_of_ble_eq_true rfl⟩) hP hD hS hA (fun H locs hP hD hS => ?_)
    have hP : va_P D classes (rc9 a q_t Q_t z11) H := hP
    have hD : va_D A (rc9 a q_t Q_t z11) := hD
    refine lv_aload_n hx hb dX9_feed_42 rfl (lv_at hl 0 rfl) ?_
    refine va_get (D := D) (v := .int (gI z11 1)) (C := RX9) (T := TX9) (N := 36) hx hb hts iX9 hown hK.1 hP 0 rfl rfl 1 (by decide) (hts _ t_883) (fun _ h9 => h9) rfl dX9_feed_43 ?_
    exact rMi C rfl h (g := fun y => rc9 a q_t Q_t y.2) (pr := fun y => y.1) hP hD hS dX9_feed_46
  · have h := ite_f c1 h
    refine lv_iconst (v := (-1)) hx hb dX9_feed_13 (by decide) ?_
    exact rMi C rfl h (g := fun y => rc9 a q_t Q_t y.2) (pr := fun y => y.1) hP hD hS dX9_feed_14

set_option maxHeartbeats 4000000 in
set_option maxRecDepth 100000 in
theorem mX9_fine (l : Launch) (D : va_G) (a : Nat → ClassId) {q_t : Nat} {Q_t : Nat → Nat} {z_t : Sx} {x1 : Int32} {y : Int32 × Sx} (h : fX9_fine z_t x1 = some y) (sz : Nat) : CMi (S := Unit) l MX9_fine 1 25 0 0 D a [.ref q_t, .int x1] (rc9 a q_t Q_t z_t) sz (fun r _ => r = y.1) (fun _ => rc9 a q_t Q_t y.2) := by
  unfold fX9_fine at h
  refine entMi (by decide) (Nat.le_of_ble_eq_true rfl) ?_
  intro p e s m below meth c C hK A hA hP hD ls hl
  obtain ⟨hx, hb, hml, hown, hts, hr, hlocks, hnm⟩ := id C
  have hb : c.code = cX9_fine := hb
  have hown : s.vm.findClass RX9 = some m.cls := hown
  have hS : va_S A s.heap s.heap [] := va_S.rf
  have hl : lv_has ls 2 [(0, .ref q_t), (1, .int x1)] := hl
  refine lv_aload_n hx hb dX9_fine_0 rfl (lv_at hl 0 rfl) ?_
  obtain ⟨r2, hc1, h⟩ := bd_some h
  refine cRi (runV (As := []) (rest := []) C (mX9_isWork l D a (q_t := q_t) (Q_t := Q_t) hc1) lk_V_9_301 okN_X9_isWork ⟨Nat.le_of_ble_eq_true rfl, Nat.le_of_ble_eq_true rfl⟩ ⟨rfl, rfl⟩ (preV (preR hK hP) (recvOf hK hP 0 rfl (ci := 9) rfl)) hl.1 rfl (Nat.le_of_ble_eq_true rfl) dX9_fine_1 ⟨Nat.le_of_ble_eq_true rfl, Nat.le_of_ble_eq_true rfl⟩) ?_
  obtain ⟨J3, eJ3, h⟩ := jn_some h
  have hJ3 : ∀ (H : Heap) (locs : List Loc) (ls : Array Slot), J3 = some y → va_P D classes (rc9 a q_t Q_t z_t) H → va_D A (rc9 a q_t Q_t z_t) → va_S A s.heap H locs → lv_has ls 2 [] → W p l e (rmM 1 0 0 25) s m #[.ref q_t, .int x1] below meth c H locs 0 0 (MQ below (va_Qi (fun r (_ : Unit) => r = y.1) (Bw D A (fun _ => rc9 a q_t Q_t y.2)) A) #[.ref q_t, .int x1] s 0 0 A) (F0 m 19 ls []) := by
    intro H locs ls h hP hD hS hl
    rw [eJ3] at h
    refine lv_ldcw hx hb hown (hts _ t_1199) dX9_fine_19 ?_
    exact rMi C rfl h (g := fun y => rc9 a q_t Q_t y.2) (pr := fun y => y.1) hP hD hS dX9_fine_22
  refine lv_if_eq (tgt := 19) hx hb dX9_fine_4 (by decide) (fun c4 => ?_) (fun c4 => ?_)
  · have h := ite_t c4 h
    exact hJ3 _ _ ls h hP hD hS (lv_sub hl [] rfl)
  · have h := ite_f c4 h
    refine lv_iload_n hx hb dX9_fine_7 rfl (lv_at hl 1 rfl) ?_
    refine lv_i2l (v := x1.toInt64) hx hb dX9_fine_8 rfl ?_
    refine lv_lconst (v := 0) hx hb dX9_fine_9 (by decide) ?_
    refine lv_ldc2 hx hb hown (hts _ t_1198) dX9_fine_10 ?_
    obtain ⟨r6, hc5, h⟩ := bd_some h
    refine cRi (runS (As := [.long x1.toInt64, .long 0, .long 999]) (rest := []) C (mX9_in l D a hc5) lk_S_9_118 okN_X9_in ⟨Nat.le_of_ble_eq_true rfl, Nat.le_of_ble_eq_true rfl⟩ ⟨rfl, rfl⟩ (preR hK (P_of_map (wc := []) hP [] rfl)) hl.1 rfl (Nat.le_of_ble_eq_true rfl) dX9_fine_13 ⟨Nat.le_of_ble_eq_true rfl, Nat.le_of_ble_eq_true rfl⟩) ?_
    refine lv_if_ne (tgt := 23) hx hb dX9_fine_16 (by decide) (fun c7 => ?_) (fun c7 => ?_)
    · have h := ite_f c7 h
      refine lv_aload_n hx hb dX9_fine_23 rfl (lv_at hl 0 rfl) ?_
      refine va_get (D := D) (v := .ref (Q_t 24)) (C := RX9) (T := TX9) (N := 36) hx hb hts iX9 hown hK.1 hP 0 rfl rfl 24 (by decide) (hts _ t_906) (fun _ h9 => h9) rfl dX9_fine_24 ?_
      refine lv_iconst (v := 4) hx hb dX9_fine_27 (by decide) ?_
      refine lv_dup2_11 hx hb dX9_fine_28 rfl rfl ?_
      refine ald_i hx hb hK.1 hP 11 0 rfl rfl 4 (ix_lit (by decide)) dX9_fine_29 ?_
      refine lv_iload_n hx hb dX9_fine_30 rfl (lv_at hl 1 rfl) ?_
      refine lv_isub hx hb dX9_fine_31 ?_
      refine ast_i hx hb hK.1 hP hD hS 11 0 rfl rfl 4 (ix_lit (by decide)) dX9_fine_32 (fun H locs hP hD hS => ?_)
      rw [u9_24] at hP hD
      refine lv_aload_n hx hb dX9_fine_33 rfl (lv_at hl 0 rfl) ?_
      refine va_get (D := D) (v := .ref (Q_t 24)) (C := RX9) (T := TX9) (N := 36) hx hb hts iX9 hown hK.1 hP 0 rfl rfl 24 (by decide) (hts _ t_906) (fun _ h9 => h9) rfl dX9_fine_34 ?_
      refine lv_iconst (v := 4) hx hb dX9_fine_37 (by decide) ?_
      refine ald_i hx hb hK.1 hP 11 0 rfl rfl 4 (ix_lit (by decide)) dX9_fine_38 ?_
      exact rMi C rfl h (g := fun y => rc9 a q_t Q_t y.2) (pr := fun y => y.1) hP hD hS dX9_fine_39
    · have h := ite_t c7 h
      exact hJ3 _ _ ls h hP hD hS (lv_sub hl [] rfl)

set_option maxHeartbeats 4000000 in
set_option maxRecDepth 100000 in
theorem wX9_fits_56 {p : Program} {l : Launch} {e : Env} {s : State} {m : MethodId} {below : List Frame} {meth : Method} {c : Code} {D : va_G} {a : Nat → ClassId} {q_t : Nat} {Q_t : Nat → Nat} {z_t : Sx} {x10 : Int32} {x20 : Int32} {x1 : Int32} {x2 : Int32} {x3 : Int32} (C : Cx p s m #[.ref q_t, .int x10, .int x20] meth c MX9_fits) (hK : KK D a s) {y : Int32} (hP : va_P D classes (rc9 a q_t Q_t z_t) s.heap) {k100 : Int32 → Int32 → Int32 → Option (Int32)} (hk100 : ∀ (x4k : Int32) (x5k : Int32) (x6k : Int32) (ls : Array Slot), k100 x4k x5k x6k = some y → lv_has ls 8 [(2, .int x2), (4, .int x4k), (5, .int x5k), (6, .int x6k)] → W p l e (rmM 3 0 0 70) s m #[.ref q_t, .int x10, .int x20] below meth c s.heap [] 0 0 (MQ below (vp_Si (fun r => r = y)) #[.ref q_t, .int x10, .int x20] s 0 0 (fun _ => False)) (F0 m 100 ls [])) : ∀ (n : Nat) (x4 : Int32) (x5 : Int32) (x6 : Int32) (x7 : Int32) (ls : Array Slot), lX9_fits_56 k100 z_t x1 x2 x3 n x4 x5 x6 x7 = some y → lv_has ls 8 [(0, .ref q_t), (1, .int x1), (2, .int x2), (3, .int x3), (4, .int x4), (5, .int x5), (6, .int x6), (7, .int x7)] → W p l e (rmM 3 0 0 70) s m #[.ref q_t, .int x10, .int x20] below meth c s.heap [] 0 0 (MQ below (vp_Si (fun r => r = y)) #[.ref q_t, .int x10, .int x20] s 0 0 (fun _ => False)) (F0 m 56 ls []) := by
  obtain ⟨hx, hb, hml, hown, hts, hr, hlocks, hnm⟩ := id C
  have hb : c.code = cX9_fits := hb
  have hown : s.vm.findClass RX9 = some m.cls := hown
  intro n
  induction n with
  | zero => intro x4 x5 x6 x7 ls h; rw [lX9_fits_56] at h; cases h
  | succ n ih =>
    intro x4 x5 x6 x7 ls h hl
    rw [lX9_fits_56] at h
    refine lv_iload hx hb dX9_fits_56 (lv_at hl 7 rfl) ?_
    refine lv_iload_n hx hb dX9_fits_58 rfl (lv_at hl 3 rfl) ?_
    refine lv_icmp_gt (tgt := 100) hx hb dX9_fits_59 (by decide) (fun c10 => ?_) (fun c10 => ?_)
    · have h := ite_t c10 h
      exact hk100 x4 x5 x6 ls h (lv_sub hl [2, 4, 5, 6] rfl)
    · have h := ite_f c10 h
      refine lv_aload_n hx hb dX9_fits_62 rfl (lv_at hl 0 rfl) ?_
      refine lv_iload hx hb dX9_fits_63 (lv_at hl 7 rfl) ?_
      refine lv_iload_n hx hb dX9_fits_65 rfl (lv_at hl 1 rfl) ?_
      obtain ⟨r12, hc11, h⟩ := bd_some h
      refine cRi (runV (As := [.int x7, .int x1]) (rest := []) C (mX9_couldBe l D a (q_t := q_t) (Q_t := Q_t) hc11) lk_V_9_409 okN_X9_couldBe ⟨Nat.le_of_ble_eq_true rfl, Nat.le_of_ble_eq_true rfl⟩ ⟨rfl, rfl⟩ (preV (preR hK hP) (recvOf hK hP 0 rfl (ci := 9) rfl)) hl.1 rfl (Nat.le_of_ble_eq_true rfl) dX9_fits_66 ⟨Nat.le_of_ble_eq_true rfl, Nat.le_of_ble_eq_true rfl⟩) ?_
      obtain ⟨J13, eJ13, h⟩ := jn_some h
      have hJ13 : ∀ (i14 : Int32) (i15 : Int32) (i16 : Int32) (ls : Array Slot), J13 i14 i15 i16 = some y → lv_has ls 8 [(0, .ref q_t), (1, .int x1), (2, .int x2), (3, .int x3), (4, .int i14), (5, .int i15), (6, .int i16), (7, .int x7)] → W p l e (rmM 3 0 0 70) s m #[.ref q_t, .int x10, .int x20] below meth c s.heap [] 0 0 (MQ below (vp_Si (fun r => r = y)) #[.ref q_t, .int x10, .int x20] s 0 0 (fun _ => False)) (F0 m 94 ls []) := by
        intro i14 i15 i16 ls h hl
        rw [eJ13] at h
        refine lv_iinc (v := x7 + 1) (lv' := [(7, .int (x7 + 1)), (0, .ref q_t), (1, .int x1), (2, .int x2), (3, .int x3), (4, .int i14), (5, .int i15), (6, .int i16)]) hx hb dX9_fits_94 hl (k := 7) rfl rfl (by decide) rfl (fun ls hl => ?_)
        refine lv_goto (tgt := 56) hx hb dX9_fits_97 (by decide) ?_
        exact ih i14 i15 i16 (x7 + 1) ls h (lv_sub hl [1, 2, 3, 4, 5, 6, 7, 0] rfl)
      refine lv_if_ne (tgt := 75) hx hb dX9_fits_69 (by decide) (fun c17 => ?_) (fun c17 => ?_)
      · have h := ite_f c17 h
        refine lv_iload hx hb dX9_fits_75 (lv_at hl 5 rfl) ?_
        refine lv_iload hx hb dX9_fits_77 (lv_at hl 7 rfl) ?_
        refine lv_iand hx hb dX9_fits_79 ?_
        refine lv_istore (lv' := [(5, .int (x5 &&& x7)), (0, .ref q_t), (1, .int x1), (2, .int x2), (3, .int x3), (4, .int x4), (6, .int x6), (7, .int x7)]) hx hb dX9_fits_80 hl (by decide) rfl (fun ls hl => ?_)
        refine lv_iload hx hb dX9_fits_82 (lv_at hl 6 rfl) ?_
        refine lv_iload hx hb dX9_fits_84 (lv_at hl 7 rfl) ?_
        refine lv_iconst (v := (-1)) hx hb dX9_fits_86 (by decide) ?_
        refine lv_ixor hx hb dX9_fits_87 ?_
        refine lv_iand hx hb dX9_fits_88 ?_
        refine lv_istore (lv' := [(6, .int (x6 &&& (x7 ^^^ (-1)))), (5, .int (x5 &&& x7)), (0, .ref q_t), (1, .int x1), (2, .int x2), (3, .int x3), (4, .int x4), (7, .int x7)]) hx hb dX9_fits_89 hl (by decide) rfl (fun ls hl => ?_)
        refine lv_iinc (v := x4 + 1) (lv' := [(4, .int (x4 + 1)), (6, .int (x6 &&& (x7 ^^^ (-1)))), (5, .int (x5 &&& x7)), (0, .ref q_t), (1, .int x1), (2, .int x2), (3, .int x3), (7, .int x7)]) hx hb dX9_fits_91 hl (k := 6) rfl rfl (by decide) rfl (fun ls hl => ?_)
        exact hJ13 (x4 + 1) (x5 &&& x7) (x6 &&& (x7 ^^^ (-1))) ls h (lv_sub hl [3, 4, 5, 6, 0, 2, 1, 7] rfl)
      · have h := ite_t c17 h
        refine lv_goto (tgt := 94) hx hb dX9_fits_72 (by decide) ?_
        exact hJ13 x4 x5 x6 ls h (lv_sub hl [0, 1, 2, 3, 4, 5, 6, 7] rfl)

set_option maxHeartbeats 4000000 in
set_option maxRecDepth 100000 in
theorem mX9_fits (l : Launch) (D : va_G) (a : Nat → ClassId) {q_t : Nat} {Q_t : Nat → Nat} {z_t : Sx} {x1 : Int32} {x2 : Int32} {y : Int32} (h : fX9_fits z_t x1 x2 = some y) : CRi l MX9_fits 3 70 D a [.ref q_t, .int x1, .int x2] (rc9 a q_t Q_t z_t) (fun r => r = y) := by
  unfold fX9_fits at h
  refine entR (by decide) (Nat.le_of_ble_eq_true rfl) ?_
  intro p e s m below meth c C hK hP ls hl
  obtain ⟨hx, hb, hml, hown, hts, hr, hlocks, hnm⟩ := id C
  have hb : c.code = cX9_fits := hb
  have hown : s.vm.findClass RX9 = some m.cls := hown
  have hl : lv_has ls 8 [(0, .ref q_t), (1, .int x1), (2, .int x2)] := hl
  refine lv_aload_n hx hb dX9_fits_0 rfl (lv_at hl 0 rfl) ?_
  obtain ⟨r2, hc1, h⟩ := bd_some h
  refine cRi (runV (As := []) (rest := []) C (mX9_isWork l D a (q_t := q_t) (Q_t := Q_t) hc1) lk_V_9_301 okN_X9_isWork ⟨Nat.le_of_ble_eq_true rfl, Nat.le_of_ble_eq_true rfl⟩ ⟨rfl, rfl⟩ (preV (preR hK hP) (recvOf hK hP 0 rfl (ci := 9) rfl)) hl.1 rfl (Nat.le_of_ble_eq_true rfl) dX9_fits_1 ⟨Nat.le_of_ble_eq_true rfl, Nat.le_of_ble_eq_true rfl⟩) ?_
  refine lv_if_eq (tgt := 31) hx hb dX9_fits_4 (by decide) (fun c3 => ?_) (fun c3 => ?_)
  · have h := ite_t c3 h
    refine lv_iconst (v := (-1)) hx hb dX9_fits_31 (by decide) ?_
    exact rRi C rfl (Option.some.inj h) dX9_fits_32
  · have h := ite_f c3 h
    refine lv_iload_n hx hb dX9_fits_7 rfl (lv_at hl 1 rfl) ?_
    refine lv_i2l (v := x1.toInt64) hx hb dX9_fits_8 rfl ?_
    refine lv_lconst (v := 0) hx hb dX9_fits_9 (by decide) ?_
    refine lv_ldc2 hx hb hown (hts _ t_1369) dX9_fits_10 ?_
    obtain ⟨r5, hc4, h⟩ := bd_some h
    refine cRi (runS (As := [.long x1.toInt64, .long 0, .long 9999]) (rest := []) C (mX9_in l D a hc4) lk_S_9_118 okN_X9_in ⟨Nat.le_of_ble_eq_true rfl, Nat.le_of_ble_eq_true rfl⟩ ⟨rfl, rfl⟩ (preR hK (P_of_map (wc := []) hP [] rfl)) hl.1 rfl (Nat.le_of_ble_eq_true rfl) dX9_fits_13 ⟨Nat.le_of_ble_eq_true rfl, Nat.le_of_ble_eq_true rfl⟩) ?_
    refine lv_if_eq (tgt := 31) hx hb dX9_fits_16 (by decide) (fun c6 => ?_) (fun c6 => ?_)
    · have h := ite_t c6 h
      refine lv_iconst (v := (-1)) hx hb dX9_fits_31 (by decide) ?_
      exact rRi C rfl (Option.some.inj h) dX9_fits_32
    · have h := ite_f c6 h
      refine lv_iload_n hx hb dX9_fits_19 rfl (lv_at hl 2 rfl) ?_
      refine lv_i2l (v := x2.toInt64) hx hb dX9_fits_20 rfl ?_
      refine lv_lconst (v := 0) hx hb dX9_fits_21 (by decide) ?_
      refine lv_ldc2 hx hb hown (hts _ t_1148) dX9_fits_22 ?_
      obtain ⟨r8, hc7, h⟩ := bd_some h
      refine cRi (runS (As := [.long x2.toInt64, .long 0, .long 2]) (rest := []) C (mX9_in l D a hc7) lk_S_9_118 okN_X9_in ⟨Nat.le_of_ble_eq_true rfl, Nat.le_of_ble_eq_true rfl⟩ ⟨rfl, rfl⟩ (preR hK (P_of_map (wc := []) hP [] rfl)) hl.1 rfl (Nat.le_of_ble_eq_true rfl) dX9_fits_25 ⟨Nat.le_of_ble_eq_true rfl, Nat.le_of_ble_eq_true rfl⟩) ?_
      refine lv_if_ne (tgt := 33) hx hb dX9_fits_28 (by decide) (fun c9 => ?_) (fun c9 => ?_)
      · have h := ite_f c9 h
        refine lv_iconst (v := 1) hx hb dX9_fits_33 (by decide) ?_
        refine lv_aload_n hx hb dX9_fits_34 rfl (lv_at hl 0 rfl) ?_
        refine va_get (D := D) (v := .ref (Q_t 24)) (C := RX9) (T := TX9) (N := 36) hx hb hts iX9 hown hK.1 hP 0 rfl rfl 24 (by decide) (hts _ t_906) (fun _ h9 => h9) rfl dX9_fits_35 ?_
        refine lv_iconst (v := 0) hx hb dX9_fits_38 (by decide) ?_
        refine ald_i hx hb hK.1 hP 11 0 rfl rfl 0 (ix_lit (by decide)) dX9_fits_39 ?_
        refine lv_ishl hx hb dX9_fits_40 ?_
        refine lv_iconst (v := 1) hx hb dX9_fits_41 (by decide) ?_
        refine lv_isub hx hb dX9_fits_42 ?_
        refine lv_istore_n (lv' := [(3, .int (((1 : Int32) <<< ((gT z_t 24 0) &&& 31)) - 1)), (0, .ref q_t), (1, .int x1), (2, .int x2)]) hx hb dX9_fits_43 rfl hl (by decide) rfl (fun ls hl => ?_)
        refine lv_iconst (v := 0) hx hb dX9_fits_44 (by decide) ?_
        refine lv_istore (lv' := [(4, .int 0), (3, .int (((1 : Int32) <<< ((gT z_t 24 0) &&& 31)) - 1)), (0, .ref q_t), (1, .int x1), (2, .int x2)]) hx hb dX9_fits_45 hl (by decide) rfl (fun ls hl => ?_)
        refine lv_iload_n hx hb dX9_fits_47 rfl (lv_at hl 1 rfl) ?_
        refine lv_istore (lv' := [(5, .int (((1 : Int32) <<< ((gT z_t 24 0) &&& 31)) - 1)), (4, .int 0), (3, .int (((1 : Int32) <<< ((gT z_t 24 0) &&& 31)) - 1)), (0, .ref q_t), (1, .int x1), (2, .int x2)]) hx hb dX9_fits_48 hl (by decide) rfl (fun ls hl => ?_)
        refine lv_iload_n hx hb dX9_fits_50 rfl (lv_at hl 2 rfl) ?_
        refine lv_istore (lv' := [(6, .int (((1 : Int32) <<< ((gT z_t 24 0) &&& 31)) - 1)), (5, .int (((1 : Int32) <<< ((gT z_t 24 0) &&& 31)) - 1)), (4, .int 0), (3, .int (((1 : Int32) <<< ((gT z_t 24 0) &&& 31)) - 1)), (0, .ref q_t), (1, .int x1), (2, .int x2)]) hx hb dX9_fits_51 hl (by decide) rfl (fun ls hl => ?_)
        refine lv_iconst (v := 0) hx hb dX9_fits_53 (by decide) ?_
        refine lv_istore (lv' := [(7, .int 0), (6, .int (((1 : Int32) <<< ((gT z_t 24 0) &&& 31)) - 1)), (5, .int (((1 : Int32) <<< ((gT z_t 24 0) &&& 31)) - 1)), (4, .int 0), (3, .int (((1 : Int32) <<< ((gT z_t 24 0) &&& 31)) - 1)), (0, .ref q_t), (1, .int x1), (2, .int x2)]) hx hb dX9_fits_54 hl (by decide) rfl (fun ls hl => ?_)
        refine wX9_fits_56 C hK hP ?_ FU 0 (((1 : Int32) <<< ((gT z_t 24 0) &&& 31)) - 1) (((1 : Int32) <<< ((gT z_t 24 0) &&& 31)) - 1) 0 ls h (lv_sub hl [5, 6, 7, 4, 3, 2, 1, 0] rfl)
        · intro i18 i19 i20 ls h hl
          refine lv_iload_n hx hb dX9_fits_100 rfl (lv_at hl 0 rfl) ?_
          refine lv_if_ne (tgt := 109) hx hb dX9_fits_101 (by decide) (fun c21 => ?_) (fun c21 => ?_)
          · have h := ite_f c21 h
            refine lv_iload hx hb dX9_fits_109 (lv_at hl 1 rfl) ?_
            refine lv_if_ne (tgt := 118) hx hb dX9_fits_111 (by decide) (fun c22 => ?_) (fun c22 => ?_)
            · have h := ite_f c22 h
              refine lv_iload_n hx hb dX9_fits_118 rfl (lv_at hl 0 rfl) ?_
              refine lv_iconst (v := 1) hx hb dX9_fits_119 (by decide) ?_
              refine lv_icmp_ne (tgt := 128) hx hb dX9_fits_120 (by decide) (fun c23 => ?_) (fun c23 => ?_)
              · have h := ite_f c23 h
                refine lv_iload hx hb dX9_fits_128 (lv_at hl 3 rfl) ?_
                exact rRi C rfl (Option.some.inj h) dX9_fits_130
              · have h := ite_t c23 h
                refine lv_iload hx hb dX9_fits_123 (lv_at hl 2 rfl) ?_
                refine lv_goto (tgt := 130) hx hb dX9_fits_125 (by decide) ?_
                exact rRi C rfl (Option.some.inj h) dX9_fits_130
            · have h := ite_t c22 h
              refine lv_iconst (v := 0) hx hb dX9_fits_114 (by decide) ?_
              refine lv_goto (tgt := 130) hx hb dX9_fits_115 (by decide) ?_
              exact rRi C rfl (Option.some.inj h) dX9_fits_130
          · have h := ite_t c21 h
            refine lv_iload hx hb dX9_fits_104 (lv_at hl 1 rfl) ?_
            refine lv_goto (tgt := 130) hx hb dX9_fits_106 (by decide) ?_
            exact rRi C rfl (Option.some.inj h) dX9_fits_130
      · have h := ite_t c9 h
        refine lv_iconst (v := (-1)) hx hb dX9_fits_31 (by decide) ?_
        exact rRi C rfl (Option.some.inj h) dX9_fits_32

set_option maxHeartbeats 4000000 in
set_option maxRecDepth 100000 in
theorem mX9_game (l : Launch) (D : va_G) (a : Nat → ClassId) {q_t : Nat} {Q_t : Nat → Nat} {z_t : Sx} {x1 : Int32} {x2 : Int32} {y : Int32 × Sx} (h : fX9_game z_t x1 x2 = some y) (sz : Nat) : CMi (S := Unit) l MX9_game 1 25 0 0 D a [.ref q_t, .int x1, .int x2] (rc9 a q_t Q_t z_t) sz (fun r _ => r = y.1) (fun _ => rc9 a q_t Q_t y.2) := by
  unfold fX9_game at h
  refine entMi (by decide) (Nat.le_of_ble_eq_true rfl) ?_
  intro p e s m below meth c C hK A hA hP hD ls hl
  obtain ⟨hx, hb, hml, hown, hts, hr, hlocks, hnm⟩ := id C
  have hb : c.code = cX9_game := hb
  have hown : s.vm.findClass RX9 = some m.cls := hown
  have hS : va_S A s.heap s.heap [] := va_S.rf
  have hl : lv_has ls 4 [(0, .ref q_t), (1, .int x1), (2, .int x2)] := hl
  refine lv_iload_n hx hb dX9_game_0 rfl (lv_at hl 1 rfl) ?_
  refine lv_i2l (v := x1.toInt64) hx hb dX9_game_1 rfl ?_
  refine lv_lconst (v := 0) hx hb dX9_game_2 (by decide) ?_
  refine lv_ldc2 hx hb hown (hts _ t_1349) dX9_game_3 ?_
  obtain ⟨r2, hc1, h⟩ := bd_some h
  refine cRi (runS (As := [.long x1.toInt64, .long 0, .long 7]) (rest := []) C (mX9_in l D a hc1) lk_S_9_118 okN_X9_in ⟨Nat.le_of_ble_eq_true rfl, Nat.le_of_ble_eq_true rfl⟩ ⟨rfl, rfl⟩ (preR hK (P_of_map (wc := []) hP [] rfl)) hl.1 rfl (Nat.le_of_ble_eq_true rfl) dX9_game_6 ⟨Nat.le_of_ble_eq_true rfl, Nat.le_of_ble_eq_true rfl⟩) ?_
  refine lv_if_eq (tgt := 26) hx hb dX9_game_9 (by decide) (fun c3 => ?_) (fun c3 => ?_)
  · have h := ite_t c3 h
    refine lv_sipush (v := (-1000)) hx hb dX9_game_26 (by decide) ?_
    exact rMi C rfl h (g := fun y => rc9 a q_t Q_t y.2) (pr := fun y => y.1) hP hD hS dX9_game_29
  · have h := ite_f c3 h
    refine lv_iload_n hx hb dX9_game_12 rfl (lv_at hl 2 rfl) ?_
    refine lv_i2l (v := x2.toInt64) hx hb dX9_game_13 rfl ?_
    refine lv_ldc2 hx hb hown (hts _ t_1350) dX9_game_14 ?_
    refine lv_ldc2 hx hb hown (hts _ t_1351) dX9_game_17 ?_
    obtain ⟨r5, hc4, h⟩ := bd_some h
    refine cRi (runS (As := [.long x2.toInt64, .long (-99), .long 99]) (rest := []) C (mX9_in l D a hc4) lk_S_9_118 okN_X9_in ⟨Nat.le_of_ble_eq_true rfl, Nat.le_of_ble_eq_true rfl⟩ ⟨rfl, rfl⟩ (preR hK (P_of_map (wc := []) hP [] rfl)) hl.1 rfl (Nat.le_of_ble_eq_true rfl) dX9_game_20 ⟨Nat.le_of_ble_eq_true rfl, Nat.le_of_ble_eq_true rfl⟩) ?_
    refine lv_if_ne (tgt := 30) hx hb dX9_game_23 (by decide) (fun c6 => ?_) (fun c6 => ?_)
    · have h := ite_f c6 h
      refine lv_aload_n hx hb dX9_game_30 rfl (lv_at hl 0 rfl) ?_
      refine va_get (D := D) (v := .ref (Q_t 24)) (C := RX9) (T := TX9) (N := 36) hx hb hts iX9 hown hK.1 hP 0 rfl rfl 24 (by decide) (hts _ t_906) (fun _ h9 => h9) rfl dX9_game_31 ?_
      refine lv_bipush (v := 18) hx hb dX9_game_34 (by decide) ?_
      refine lv_iload_n hx hb dX9_game_36 rfl (lv_at hl 1 rfl) ?_
      refine lv_iadd hx hb dX9_game_37 ?_
      obtain ⟨g7, h⟩ := gd_some h
      refine ald_i hx hb hK.1 hP 11 0 rfl rfl ((18 + x1).toNatClampNeg) (ix_g g7) dX9_game_38 ?_
      refine lv_istore_n (lv' := [(3, .int (gT z_t 24 ((18 + x1).toNatClampNeg))), (0, .ref q_t), (1, .int x1), (2, .int x2)]) hx hb dX9_game_39 rfl hl (by decide) rfl (fun ls hl => ?_)
      refine lv_aload_n hx hb dX9_game_40 rfl (lv_at hl 1 rfl) ?_
      refine va_get (D := D) (v := .ref (Q_t 24)) (C := RX9) (T := TX9) (N := 36) hx hb hts iX9 hown hK.1 hP 0 rfl rfl 24 (by decide) (hts _ t_906) (fun _ h9 => h9) rfl dX9_game_41 ?_
      refine lv_bipush (v := 18) hx hb dX9_game_44 (by decide) ?_
      refine lv_iload_n hx hb dX9_game_46 rfl (lv_at hl 2 rfl) ?_
      refine lv_iadd hx hb dX9_game_47 ?_
      refine lv_iload_n hx hb dX9_game_48 rfl (lv_at hl 3 rfl) ?_
      refine ast_i hx hb hK.1 hP hD hS 11 0 rfl rfl ((18 + x1).toNatClampNeg) (ix_g g7) dX9_game_49 (fun H locs hP hD hS => ?_)
      rw [u9_24] at hP hD
      refine lv_iload_n hx hb dX9_game_50 rfl (lv_at hl 0 rfl) ?_
      exact rMi C rfl h (g := fun y => rc9 a q_t Q_t y.2) (pr := fun y => y.1) hP hD hS dX9_game_51
    · have h := ite_t c6 h
      refine lv_sipush (v := (-1000)) hx hb dX9_game_26 (by decide) ?_
      exact rMi C rfl h (g := fun y => rc9 a q_t Q_t y.2) (pr := fun y => y.1) hP hD hS dX9_game_29

set_option maxHeartbeats 4000000 in
set_option maxRecDepth 100000 in
theorem mX9_gameOf (l : Launch) (D : va_G) (a : Nat → ClassId) {q_t : Nat} {Q_t : Nat → Nat} {z_t : Sx} {x1 : Int32} {y : Int32} (h : fX9_gameOf z_t x1 = some y) : CRi l MX9_gameOf 0 0 D a [.ref q_t, .int x1] (rc9 a q_t Q_t z_t) (fun r => r = y) := by
  unfold fX9_gameOf at h
  refine entR (by decide) (Nat.le_of_ble_eq_true rfl) ?_
  intro p e s m below meth c C hK hP ls hl
  obtain ⟨hx, hb, hml, hown, hts, hr, hlocks, hnm⟩ := id C
  have hb : c.code = cX9_gameOf := hb
  have hown : s.vm.findClass RX9 = some m.cls := hown
  have hl : lv_has ls 2 [(0, .ref q_t), (1, .int x1)] := hl
  refine lv_aload_n hx hb dX9_gameOf_0 rfl (lv_at hl 0 rfl) ?_
  refine va_get (D := D) (v := .ref (Q_t 24)) (C := RX9) (T := TX9) (N := 36) hx hb hts iX9 hown hK.1 hP 0 rfl rfl 24 (by decide) (hts _ t_906) (fun _ h9 => h9) rfl dX9_gameOf_1 ?_
  refine lv_bipush (v := 18) hx hb dX9_gameOf_4 (by decide) ?_
  refine lv_iload_n hx hb dX9_gameOf_6 rfl (lv_at hl 1 rfl) ?_
  refine lv_iadd hx hb dX9_gameOf_7 ?_
  obtain ⟨g1, h⟩ := gd_some h
  refine ald_i hx hb hK.1 hP 11 0 rfl rfl ((18 + x1).toNatClampNeg) (ix_g g1) dX9_gameOf_8 ?_
  exact rRi C rfl (Option.some.inj h) dX9_gameOf_9

set_option maxHeartbeats 4000000 in
set_option maxRecDepth 100000 in
theorem wX9_image_23 {p : Program} {l : Launch} {e : Env} {s : State} {m : MethodId} {below : List Frame} {meth : Method} {c : Code} {D : va_G} {a : Nat → ClassId} {A : Nat → Prop} {q_t : Nat} {Q_t : Nat → Nat} {x10 : Int32} {x1 : Int32} (C : Cx p s m #[.ref q_t, .int x10] meth c MX9_image) (hK : KK D a s) (hA : ∀ q, s.heap.size ≤ q → A q) {y : Int32 × Sx} {k52 : Sx → Option (Int32 × Sx)} (hk52 : ∀ (z_tk : Sx) (H : Heap) (locs : List Loc) (ls : Array Slot), k52 z_tk = some y → va_P D classes (rc9 a q_t Q_t z_tk) H → va_D A (rc9 a q_t Q_t z_tk) → va_S A s.heap H locs → lv_has ls 3 [(0, .ref q_t)] → W p l e (rmM 1 0 0 25) s m #[.ref q_t, .int x10] below meth c H locs 0 0 (MQ below (va_Qi (fun r (_ : Unit) => r = y.1) (Bw D A (fun _ => rc9 a q_t Q_t y.2)) A) #[.ref q_t, .int x10] s 0 0 A) (F0 m 52 ls [])) : ∀ (n : Nat) (z_t : Sx) (x2 : Int32) (H : Heap) (locs : List Loc) (ls : Array Slot), lX9_image_23 k52 x1 n z_t x2 = some y → va_P D classes (rc9 a q_t Q_t z_t) H → va_D A (rc9 a q_t Q_t z_t) → va_S A s.heap H locs → lv_has ls 3 [(0, .ref q_t), (1, .int x1), (2, .int x2)] → W p l e (rmM 1 0 0 25) s m #[.ref q_t, .int x10] below meth c H locs 0 0 (MQ below (va_Qi (fun r (_ : Unit) => r = y.1) (Bw D A (fun _ => rc9 a q_t Q_t y.2)) A) #[.ref q_t, .int x10] s 0 0 A) (F0 m 23 ls []) := by
  obtain ⟨hx, hb, hml, hown, hts, hr, hlocks, hnm⟩ := id C
  have hb : c.code = cX9_image := hb
  have hown : s.vm.findClass RX9 = some m.cls := hown
  intro n
  induction n with
  | zero => intro z_t x2 H locs ls h; rw [lX9_image_23] at h; cases h
  | succ n ih =>
    intro z_t x2 H locs ls h hP hD hS hl
    rw [lX9_image_23] at h
    refine lv_iload_n hx hb dX9_image_23 rfl (lv_at hl 2 rfl) ?_
    refine lv_bipush (v := 104) hx hb dX9_image_24 (by decide) ?_
    refine lv_icmp_ge (tgt := 52) hx hb dX9_image_26 (by decide) (fun c5 => ?_) (fun c5 => ?_)
    · have h := ite_t c5 h
      exact hk52 z_t _ _ ls h hP hD hS (lv_sub hl [0] rfl)
    · have h := ite_f c5 h
      refine lv_aload_n hx hb dX9_image_29 rfl (lv_at hl 0 rfl) ?_
      refine va_get (D := D) (v := .ref (Q_t 34)) (C := RX9) (T := TX9) (N := 36) hx hb hts iX9 hown hK.1 hP 0 rfl rfl 34 (by decide) (hts _ t_916) (fun _ h9 => h9) rfl dX9_image_30 ?_
      refine lv_bipush (v := 104) hx hb dX9_image_33 (by decide) ?_
      refine lv_iload_n hx hb dX9_image_35 rfl (lv_at hl 1 rfl) ?_
      refine lv_imul hx hb dX9_image_36 ?_
      refine lv_iload_n hx hb dX9_image_37 rfl (lv_at hl 2 rfl) ?_
      refine lv_iadd hx hb dX9_image_38 ?_
      refine lv_aload_n hx hb dX9_image_39 rfl (lv_at hl 0 rfl) ?_
      refine va_get (D := D) (v := .ref (Q_t 24)) (C := RX9) (T := TX9) (N := 36) hx hb hts iX9 hown hK.1 hP 0 rfl rfl 24 (by decide) (hts _ t_906) (fun _ h9 => h9) rfl dX9_image_40 ?_
      refine lv_iload_n hx hb dX9_image_43 rfl (lv_at hl 2 rfl) ?_
      obtain ⟨g6, h⟩ := gd_some h
      refine ald_i hx hb hK.1 hP 11 0 rfl rfl x2.toNatClampNeg (ix_g g6) dX9_image_44 ?_
      obtain ⟨g7, h⟩ := gd_some h
      refine ast_i hx hb hK.1 hP hD hS 21 0 rfl rfl (((104 * x1) + x2).toNatClampNeg) (ix_g g7) dX9_image_45 (fun H locs hP hD hS => ?_)
      rw [u9_34] at hP hD
      refine lv_iinc (v := x2 + 1) (lv' := [(2, .int (x2 + 1)), (0, .ref q_t), (1, .int x1)]) hx hb dX9_image_46 hl (k := 2) rfl rfl (by decide) rfl (fun ls hl => ?_)
      refine lv_goto (tgt := 23) hx hb dX9_image_49 (by decide) ?_
      exact ih (sT z_t 34 (((104 * x1) + x2).toNatClampNeg) (gT z_t 24 x2.toNatClampNeg)) (x2 + 1) _ _ ls h hP hD hS (lv_sub hl [1, 2, 0] rfl)

set_option maxHeartbeats 4000000 in
set_option maxRecDepth 100000 in
theorem mX9_image (l : Launch) (D : va_G) (a : Nat → ClassId) {q_t : Nat} {Q_t : Nat → Nat} {z_t : Sx} {x1 : Int32} {y : Int32 × Sx} (h : fX9_image z_t x1 = some y) (sz : Nat) : CMi (S := Unit) l MX9_image 1 25 0 0 D a [.ref q_t, .int x1] (rc9 a q_t Q_t z_t) sz (fun r _ => r = y.1) (fun _ => rc9 a q_t Q_t y.2) := by
  unfold fX9_image at h
  refine entMi (by decide) (Nat.le_of_ble_eq_true rfl) ?_
  intro p e s m below meth c C hK A hA hP hD ls hl
  obtain ⟨hx, hb, hml, hown, hts, hr, hlocks, hnm⟩ := id C
  have hb : c.code = cX9_image := hb
  have hown : s.vm.findClass RX9 = some m.cls := hown
  have hS : va_S A s.heap s.heap [] := va_S.rf
  have hl : lv_has ls 3 [(0, .ref q_t), (1, .int x1)] := hl
  refine lv_iload_n hx hb dX9_image_0 rfl (lv_at hl 1 rfl) ?_
  refine lv_i2l (v := x1.toInt64) hx hb dX9_image_1 rfl ?_
  refine lv_lconst (v := 0) hx hb dX9_image_2 (by decide) ?_
  refine lv_ldc2 hx hb hown (hts _ t_1399) dX9_image_3 ?_
  obtain ⟨r2, hc1, h⟩ := bd_some h
  refine cRi (runS (As := [.long x1.toInt64, .long 0, .long 3]) (rest := []) C (mX9_in l D a hc1) lk_S_9_118 okN_X9_in ⟨Nat.le_of_ble_eq_true rfl, Nat.le_of_ble_eq_true rfl⟩ ⟨rfl, rfl⟩ (preR hK (P_of_map (wc := []) hP [] rfl)) hl.1 rfl (Nat.le_of_ble_eq_true rfl) dX9_image_6 ⟨Nat.le_of_ble_eq_true rfl, Nat.le_of_ble_eq_true rfl⟩) ?_
  refine lv_if_ne (tgt := 14) hx hb dX9_image_9 (by decide) (fun c3 => ?_) (fun c3 => ?_)
  · have h := ite_f c3 h
    refine lv_aload_n hx hb dX9_image_14 rfl (lv_at hl 0 rfl) ?_
    refine va_get (D := D) (v := .ref (Q_t 35)) (C := RX9) (T := TX9) (N := 36) hx hb hts iX9 hown hK.1 hP 0 rfl rfl 35 (by decide) (hts _ t_917) (fun _ h9 => h9) rfl dX9_image_15 ?_
    refine lv_iload_n hx hb dX9_image_18 rfl (lv_at hl 1 rfl) ?_
    refine lv_iconst (v := 1) hx hb dX9_image_19 (by decide) ?_
    obtain ⟨g4, h⟩ := gd_some h
    refine ast_z hx hb hK.1 hP hD hS 22 3 rfl rfl x1.toNatClampNeg (ix_g g4) dX9_image_20 (fun H locs hP hD hS => ?_)
    rw [u9_35] at hP hD
    refine lv_iconst (v := 0) hx hb dX9_image_21 (by decide) ?_
    refine lv_istore_n (lv' := [(2, .int 0), (0, .ref q_t), (1, .int x1)]) hx hb dX9_image_22 rfl hl (by decide) rfl (fun ls hl => ?_)
    refine wX9_image_23 C hK hA ?_ FU (sT z_t 35 x1.toNatClampNeg (vp_nar .boolean 1)) 0 _ _ ls h hP hD hS (lv_sub hl [1, 2, 0] rfl)
    · intro z8 H locs ls h hP hD hS hl
      refine lv_aload_n hx hb dX9_image_52 rfl (lv_at hl 0 rfl) ?_
      refine va_get (D := D) (v := .ref (Q_t 24)) (C := RX9) (T := TX9) (N := 36) hx hb hts iX9 hown hK.1 hP 0 rfl rfl 24 (by decide) (hts _ t_906) (fun _ h9 => h9) rfl dX9_image_53 ?_
      refine lv_bipush (v := 7) hx hb dX9_image_56 (by decide) ?_
      refine ald_i hx hb hK.1 hP 11 0 rfl rfl 7 (ix_lit (by decide)) dX9_image_58 ?_
      exact rMi C rfl h (g := fun y => rc9 a q_t Q_t y.2) (pr := fun y => y.1) hP hD hS dX9_image_59
  · have h := ite_t c3 h
    refine lv_iconst (v := (-1)) hx hb dX9_image_12 (by decide) ?_
    exact rMi C rfl h (g := fun y => rc9 a q_t Q_t y.2) (pr := fun y => y.1) hP hD hS dX9_image_13

set_option maxHeartbeats 4000000 in
set_option maxRecDepth 100000 in
theorem mX9_kind (l : Launch) (D : va_G) (a : Nat → ClassId) {q_t : Nat} {Q_t : Nat → Nat} {z_t : Sx} {x1 : Int32} {x2 : Int32} {y : Int32} (h : fX9_kind z_t x1 x2 = some y) : CRi l MX9_kind 1 25 D a [.ref q_t, .int x1, .int x2] (rc9 a q_t Q_t z_t) (fun r => r = y) := by
  unfold fX9_kind at h
  refine entR (by decide) (Nat.le_of_ble_eq_true rfl) ?_
  intro p e s m below meth c C hK hP ls hl
  obtain ⟨hx, hb, hml, hown, hts, hr, hlocks, hnm⟩ := id C
  have hb : c.code = cX9_kind := hb
  have hown : s.vm.findClass RX9 = some m.cls := hown
  have hl : lv_has ls 3 [(0, .ref q_t), (1, .int x1), (2, .int x2)] := hl
  refine lv_iload_n hx hb dX9_kind_0 rfl (lv_at hl 1 rfl) ?_
  refine lv_i2l (v := x1.toInt64) hx hb dX9_kind_1 rfl ?_
  refine lv_lconst (v := 0) hx hb dX9_kind_2 (by decide) ?_
  refine lv_aload_n hx hb dX9_kind_3 rfl (lv_at hl 0 rfl) ?_
  refine va_get (D := D) (v := .ref (Q_t 24)) (C := RX9) (T := TX9) (N := 36) hx hb hts iX9 hown hK.1 hP 0 rfl rfl 24 (by decide) (hts _ t_906) (fun _ h9 => h9) rfl dX9_kind_4 ?_
  refine lv_iconst (v := 1) hx hb dX9_kind_7 (by decide) ?_
  refine ald_i hx hb hK.1 hP 11 0 rfl rfl 1 (ix_lit (by decide)) dX9_kind_8 ?_
  refine lv_iconst (v := 1) hx hb dX9_kind_9 (by decide) ?_
  refine lv_isub hx hb dX9_kind_10 ?_
  refine lv_i2l (v := ((gT z_t 24 1) - 1).toInt64) hx hb dX9_kind_11 rfl ?_
  obtain ⟨r2, hc1, h⟩ := bd_some h
  refine cRi (runS (As := [.long x1.toInt64, .long 0, .long (((gT z_t 24 1) - 1).toInt64)]) (rest := []) C (mX9_in l D a hc1) lk_S_9_118 okN_X9_in ⟨Nat.le_of_ble_eq_true rfl, Nat.le_of_ble_eq_true rfl⟩ ⟨rfl, rfl⟩ (preR hK (P_of_map (wc := []) hP [] rfl)) hl.1 rfl (Nat.le_of_ble_eq_true rfl) dX9_kind_12 ⟨Nat.le_of_ble_eq_true rfl, Nat.le_of_ble_eq_true rfl⟩) ?_
  refine lv_if_eq (tgt := 46) hx hb dX9_kind_15 (by decide) (fun c3 => ?_) (fun c3 => ?_)
  · have h := ite_t c3 h
    refine lv_iconst (v := (-1)) hx hb dX9_kind_46 (by decide) ?_
    exact rRi C rfl (Option.some.inj h) dX9_kind_47
  · have h := ite_f c3 h
    refine lv_iload_n hx hb dX9_kind_18 rfl (lv_at hl 2 rfl) ?_
    refine lv_i2l (v := x2.toInt64) hx hb dX9_kind_19 rfl ?_
    refine lv_lconst (v := 0) hx hb dX9_kind_20 (by decide) ?_
    refine lv_ldc2 hx hb hown (hts _ t_1148) dX9_kind_21 ?_
    obtain ⟨r5, hc4, h⟩ := bd_some h
    refine cRi (runS (As := [.long x2.toInt64, .long 0, .long 2]) (rest := []) C (mX9_in l D a hc4) lk_S_9_118 okN_X9_in ⟨Nat.le_of_ble_eq_true rfl, Nat.le_of_ble_eq_true rfl⟩ ⟨rfl, rfl⟩ (preR hK (P_of_map (wc := []) hP [] rfl)) hl.1 rfl (Nat.le_of_ble_eq_true rfl) dX9_kind_24 ⟨Nat.le_of_ble_eq_true rfl, Nat.le_of_ble_eq_true rfl⟩) ?_
    refine lv_if_eq (tgt := 46) hx hb dX9_kind_27 (by decide) (fun c6 => ?_) (fun c6 => ?_)
    · have h := ite_t c6 h
      refine lv_iconst (v := (-1)) hx hb dX9_kind_46 (by decide) ?_
      exact rRi C rfl (Option.some.inj h) dX9_kind_47
    · have h := ite_f c6 h
      refine lv_aload_n hx hb dX9_kind_30 rfl (lv_at hl 0 rfl) ?_
      refine va_get (D := D) (v := .ref (Q_t 24)) (C := RX9) (T := TX9) (N := 36) hx hb hts iX9 hown hK.1 hP 0 rfl rfl 24 (by decide) (hts _ t_906) (fun _ h9 => h9) rfl dX9_kind_31 ?_
      refine lv_bipush (v := 26) hx hb dX9_kind_34 (by decide) ?_
      refine lv_iconst (v := 3) hx hb dX9_kind_36 (by decide) ?_
      refine lv_iload_n hx hb dX9_kind_37 rfl (lv_at hl 1 rfl) ?_
      refine lv_imul hx hb dX9_kind_38 ?_
      refine lv_iadd hx hb dX9_kind_39 ?_
      refine lv_iload_n hx hb dX9_kind_40 rfl (lv_at hl 2 rfl) ?_
      refine lv_iadd hx hb dX9_kind_41 ?_
      obtain ⟨g7, h⟩ := gd_some h
      refine ald_i hx hb hK.1 hP 11 0 rfl rfl (((26 + (3 * x1)) + x2).toNatClampNeg) (ix_g g7) dX9_kind_42 ?_
      refine lv_goto (tgt := 47) hx hb dX9_kind_43 (by decide) ?_
      exact rRi C rfl (Option.some.inj h) dX9_kind_47

set_option maxHeartbeats 4000000 in
set_option maxRecDepth 100000 in
theorem mX9_look (l : Launch) (D : va_G) (a : Nat → ClassId) {q_t : Nat} {Q_t : Nat → Nat} {z_t : Sx} {x1 : Int32} {y : Int32 × Sx} (h : fX9_look z_t x1 = some y) (sz : Nat) : CMi (S := Unit) l MX9_look 3 66 0 0 D a [.ref q_t, .int x1] (rc9 a q_t Q_t z_t) sz (fun r _ => r = y.1) (fun _ => rc9 a q_t Q_t y.2) := by
  unfold fX9_look at h
  refine entMi (by decide) (Nat.le_of_ble_eq_true rfl) ?_
  intro p e s m below meth c C hK A hA hP hD ls hl
  obtain ⟨hx, hb, hml, hown, hts, hr, hlocks, hnm⟩ := id C
  have hb : c.code = cX9_look := hb
  have hown : s.vm.findClass RX9 = some m.cls := hown
  have hS : va_S A s.heap s.heap [] := va_S.rf
  have hl : lv_has ls 2 [(0, .ref q_t), (1, .int x1)] := hl
  refine lv_aload_n hx hb dX9_look_0 rfl (lv_at hl 0 rfl) ?_
  refine lv_iload_n hx hb dX9_look_1 rfl (lv_at hl 1 rfl) ?_
  obtain ⟨r2, hc1, h⟩ := bd_some h
  refine cRi (runV (As := [.int x1]) (rest := []) C (mX9_isFault l D a (q_t := q_t) (Q_t := Q_t) hc1) lk_V_9_280 okN_X9_isFault ⟨Nat.le_of_ble_eq_true rfl, Nat.le_of_ble_eq_true rfl⟩ ⟨rfl, rfl⟩ (preV (preR hK hP) (recvOf hK hP 0 rfl (ci := 9) rfl)) hl.1 rfl (Nat.le_of_ble_eq_true rfl) dX9_look_2 ⟨Nat.le_of_ble_eq_true rfl, Nat.le_of_ble_eq_true rfl⟩) ?_
  refine lv_if_ne (tgt := 10) hx hb dX9_look_5 (by decide) (fun c3 => ?_) (fun c3 => ?_)
  · have h := ite_f c3 h
    refine lv_aload_n hx hb dX9_look_10 rfl (lv_at hl 0 rfl) ?_
    refine lv_iload_n hx hb dX9_look_11 rfl (lv_at hl 1 rfl) ?_
    obtain ⟨r5, hc4, h⟩ := bd_some h
    refine cRi (runV (As := [.int x1]) (rest := []) C (mX9_isOpen l D a (q_t := q_t) (Q_t := Q_t) hc4) lk_V_9_272 okN_X9_isOpen ⟨Nat.le_of_ble_eq_true rfl, Nat.le_of_ble_eq_true rfl⟩ ⟨rfl, rfl⟩ (preV (preR hK hP) (recvOf hK hP 0 rfl (ci := 9) rfl)) hl.1 rfl (Nat.le_of_ble_eq_true rfl) dX9_look_12 ⟨Nat.le_of_ble_eq_true rfl, Nat.le_of_ble_eq_true rfl⟩) ?_
    refine lv_if_ne (tgt := 21) hx hb dX9_look_15 (by decide) (fun c6 => ?_) (fun c6 => ?_)
    · have h := ite_f c6 h
      refine lv_aload_n hx hb dX9_look_21 rfl (lv_at hl 0 rfl) ?_
      refine lv_iload_n hx hb dX9_look_22 rfl (lv_at hl 1 rfl) ?_
      obtain ⟨r8, hc7, h⟩ := bd_some h
      refine cRi (runV (As := [.int x1]) (rest := []) C (mX9_canLook l D a (q_t := q_t) (Q_t := Q_t) hc7) lk_V_9_295 okN_X9_canLook ⟨Nat.le_of_ble_eq_true rfl, Nat.le_of_ble_eq_true rfl⟩ ⟨rfl, rfl⟩ (preV (preR hK hP) (recvOf hK hP 0 rfl (ci := 9) rfl)) hl.1 rfl (Nat.le_of_ble_eq_true rfl) dX9_look_23 ⟨Nat.le_of_ble_eq_true rfl, Nat.le_of_ble_eq_true rfl⟩) ?_
      refine lv_if_ne (tgt := 32) hx hb dX9_look_26 (by decide) (fun c9 => ?_) (fun c9 => ?_)
      · have h := ite_f c9 h
        refine lv_aload_n hx hb dX9_look_32 rfl (lv_at hl 0 rfl) ?_
        refine lv_iload_n hx hb dX9_look_33 rfl (lv_at hl 1 rfl) ?_
        obtain ⟨r11, z12, hc10, h⟩ := bd2_some h
        refine cWi (runV (As := [.int x1]) (rest := []) C (mX9_looks l D a (q_t := q_t) (Q_t := Q_t) hc10 s.heap.size) lk_V_9_298 okN_X9_looks ⟨Nat.le_of_ble_eq_true rfl, Nat.le_of_ble_eq_true rfl⟩ ⟨rfl, rfl⟩ (preV (preM hK hP hD) (recvOf hK hP 0 rfl (ci := 9) rfl)) hl.1 rfl (Nat.le_of_ble_eq_true rfl) dX9_look_34 ⟨Nat.le_of_ble_eq_true rfl, Nat.le_of_ble_eq_true rfl⟩) hP hD hS hA (fun H locs hP hD hS => ?_)
        have hP : va_P D classes (rc9 a q_t Q_t z12) H := hP
        have hD : va_D A (rc9 a q_t Q_t z12) := hD
        refine lv_if_eq (tgt := 44) hx hb dX9_look_37 (by decide) (fun c13 => ?_) (fun c13 => ?_)
        · have h := ite_t c13 h
          refine lv_iconst (v := 0) hx hb dX9_look_44 (by decide) ?_
          exact rMi C rfl h (g := fun y => rc9 a q_t Q_t y.2) (pr := fun y => y.1) hP hD hS dX9_look_45
        · have h := ite_f c13 h
          refine lv_iconst (v := 1) hx hb dX9_look_40 (by decide) ?_
          refine lv_goto (tgt := 45) hx hb dX9_look_41 (by decide) ?_
          exact rMi C rfl h (g := fun y => rc9 a q_t Q_t y.2) (pr := fun y => y.1) hP hD hS dX9_look_45
      · have h := ite_t c9 h
        refine lv_bipush (v := (-3)) hx hb dX9_look_29 (by decide) ?_
        exact rMi C rfl h (g := fun y => rc9 a q_t Q_t y.2) (pr := fun y => y.1) hP hD hS dX9_look_31
    · have h := ite_t c6 h
      refine lv_bipush (v := (-2)) hx hb dX9_look_18 (by decide) ?_
      exact rMi C rfl h (g := fun y => rc9 a q_t Q_t y.2) (pr := fun y => y.1) hP hD hS dX9_look_20
  · have h := ite_t c3 h
    refine lv_iconst (v := (-1)) hx hb dX9_look_8 (by decide) ?_
    exact rMi C rfl h (g := fun y => rc9 a q_t Q_t y.2) (pr := fun y => y.1) hP hD hS dX9_look_9

set_option maxHeartbeats 4000000 in
set_option maxRecDepth 100000 in
theorem wX9_master_47 {p : Program} {l : Launch} {e : Env} {s : State} {m : MethodId} {below : List Frame} {meth : Method} {c : Code} {D : va_G} {a : Nat → ClassId} {A : Nat → Prop} {q_t : Nat} {Q_t : Nat → Nat} {z_t : Sx} {x10 : Int32} {x20 : Int32} {x1 : Int32} {x2 : Int32} {x3 : Int32} (C : Cx p s m #[.ref q_t, .int x10, .int x20] meth c MX9_master) (hK : KK D a s) (hA : ∀ q, s.heap.size ≤ q → A q) {y : Int64 × Sx} {k96 : Int32 → Option (Int64 × Sx)} (hk96 : ∀ (x4k : Int32) (H : Heap) (locs : List Loc) (ls : Array Slot), k96 x4k = some y → va_P D classes (rc9 a q_t Q_t z_t) H → va_D A (rc9 a q_t Q_t z_t) → va_S A s.heap H locs → lv_has ls 13 [(0, .ref q_t), (1, .int x1), (2, .int x2), (4, .int x4k)] → W p l e (rmM 5 0 0 116) s m #[.ref q_t, .int x10, .int x20] below meth c H locs 0 0 (MQ below (va_Ql (fun r (_ : Unit) => r = y.1) (Bw D A (fun _ => rc9 a q_t Q_t y.2)) A) #[.ref q_t, .int x10, .int x20] s 0 0 A) (F0 m 96 ls [])) : ∀ (n : Nat) (x4 : Int32) (x5 : Int32) (H : Heap) (locs : List Loc) (ls : Array Slot), lX9_master_47 k96 z_t x1 x2 x3 n x4 x5 = some y → va_P D classes (rc9 a q_t Q_t z_t) H → va_D A (rc9 a q_t Q_t z_t) → va_S A s.heap H locs → lv_has ls 13 [(0, .ref q_t), (1, .int x1), (2, .int x2), (3, .int x3), (4, .int x4), (5, .int x5)] → W p l e (rmM 5 0 0 116) s m #[.ref q_t, .int x10, .int x20] below meth c H locs 0 0 (MQ below (va_Ql (fun r (_ : Unit) => r = y.1) (Bw D A (fun _ => rc9 a q_t Q_t y.2)) A) #[.ref q_t, .int x10, .int x20] s 0 0 A) (F0 m 47 ls []) := by
  obtain ⟨hx, hb, hml, hown, hts, hr, hlocks, hnm⟩ := id C
  have hb : c.code = cX9_master := hb
  have hown : s.vm.findClass RX9 = some m.cls := hown
  intro n
  induction n with
  | zero => intro x4 x5 H locs ls h; rw [lX9_master_47] at h; cases h
  | succ n ih =>
    intro x4 x5 H locs ls h hP hD hS hl
    rw [lX9_master_47] at h
    refine lv_iload hx hb dX9_master_47 (lv_at hl 5 rfl) ?_
    refine lv_aload_n hx hb dX9_master_49 rfl (lv_at hl 0 rfl) ?_
    refine va_get (D := D) (v := .ref (Q_t 24)) (C := RX9) (T := TX9) (N := 36) hx hb hts iX9 hown hK.1 hP 0 rfl rfl 24 (by decide) (hts _ t_906) (fun _ h9 => h9) rfl dX9_master_50 ?_
    refine lv_iconst (v := 0) hx hb dX9_master_53 (by decide) ?_
    refine ald_i hx hb hK.1 hP 11 0 rfl rfl 0 (ix_lit (by decide)) dX9_master_54 ?_
    refine lv_icmp_ge (tgt := 96) hx hb dX9_master_55 (by decide) (fun c12 => ?_) (fun c12 => ?_)
    · have h := ite_t c12 h
      exact hk96 x4 _ _ ls h hP hD hS (lv_sub hl [0, 1, 2, 4] rfl)
    · have h := ite_f c12 h
      refine lv_iload hx hb dX9_master_58 (lv_at hl 4 rfl) ?_
      refine lv_iload_n hx hb dX9_master_60 rfl (lv_at hl 3 rfl) ?_
      refine lv_iload hx hb dX9_master_61 (lv_at hl 5 rfl) ?_
      obtain ⟨r14, hc13, h⟩ := bd_some h
      refine cRi (runS (As := [.int x3, .int x5]) (rest := [.int x4]) C (mX9_isOf l D a hc13) lk_S_9_349 okN_X9_isOf ⟨Nat.le_of_ble_eq_true rfl, Nat.le_of_ble_eq_true rfl⟩ ⟨rfl, rfl⟩ (preR hK (P_of_map (wc := []) hP [] rfl)) hl.1 rfl (Nat.le_of_ble_eq_true rfl) dX9_master_63 ⟨Nat.le_of_ble_eq_true rfl, Nat.le_of_ble_eq_true rfl⟩) ?_
      obtain ⟨J15, eJ15, h⟩ := jn_some h
      have hJ15 : ∀ (i16 : Int32) (i17 : Int32) (H : Heap) (locs : List Loc) (ls : Array Slot), J15 i16 i17 = some y → va_P D classes (rc9 a q_t Q_t z_t) H → va_D A (rc9 a q_t Q_t z_t) → va_S A s.heap H locs → lv_has ls 13 [(0, .ref q_t), (1, .int x1), (2, .int x2), (3, .int x3), (5, .int x5)] → W p l e (rmM 5 0 0 116) s m #[.ref q_t, .int x10, .int x20] below meth c H locs 0 0 (MQ below (va_Ql (fun r (_ : Unit) => r = y.1) (Bw D A (fun _ => rc9 a q_t Q_t y.2)) A) #[.ref q_t, .int x10, .int x20] s 0 0 A) (F0 m 87 ls [.int i16, .int i17]) := by
        intro i16 i17 H locs ls h hP hD hS hl
        rw [eJ15] at h
        refine lv_ior hx hb dX9_master_87 ?_
        refine lv_istore (lv' := [(4, .int (i17 ||| i16)), (0, .ref q_t), (1, .int x1), (2, .int x2), (3, .int x3), (5, .int x5)]) hx hb dX9_master_88 hl (by decide) rfl (fun ls hl => ?_)
        refine lv_iinc (v := x5 + 1) (lv' := [(5, .int (x5 + 1)), (4, .int (i17 ||| i16)), (0, .ref q_t), (1, .int x1), (2, .int x2), (3, .int x3)]) hx hb dX9_master_90 hl (k := 5) rfl rfl (by decide) rfl (fun ls hl => ?_)
        refine lv_goto (tgt := 47) hx hb dX9_master_93 (by decide) ?_
        exact ih (i17 ||| i16) (x5 + 1) _ _ ls h hP hD hS (lv_sub hl [2, 3, 4, 5, 1, 0] rfl)
      obtain ⟨J18, eJ18, h⟩ := jn_some h
      have hJ18 : ∀ (i19 : Int32) (H : Heap) (locs : List Loc) (ls : Array Slot), J18 i19 = some y → va_P D classes (rc9 a q_t Q_t z_t) H → va_D A (rc9 a q_t Q_t z_t) → va_S A s.heap H locs → lv_has ls 13 [(0, .ref q_t), (1, .int x1), (2, .int x2), (3, .int x3), (5, .int x5)] → W p l e (rmM 5 0 0 116) s m #[.ref q_t, .int x10, .int x20] below meth c H locs 0 0 (MQ below (va_Ql (fun r (_ : Unit) => r = y.1) (Bw D A (fun _ => rc9 a q_t Q_t y.2)) A) #[.ref q_t, .int x10, .int x20] s 0 0 A) (F0 m 86 ls [.int i19]) := by
        intro i19 H locs ls h hP hD hS hl
        rw [eJ18] at h
        refine lv_iconst (v := 0) hx hb dX9_master_86 (by decide) ?_
        exact hJ15 0 i19 _ _ ls h hP hD hS (lv_sub hl [0, 1, 2, 3, 4] rfl)
      refine lv_if_eq (tgt := 86) hx hb dX9_master_66 (by decide) (fun c20 => ?_) (fun c20 => ?_)
      · have h := ite_t c20 h
        exact hJ18 x4 _ _ ls h hP hD hS (lv_sub hl [0, 1, 2, 3, 5] rfl)
      · have h := ite_f c20 h
        refine lv_iload hx hb dX9_master_69 (lv_at hl 4 rfl) ?_
        obtain ⟨r22, hc21, h⟩ := bd_some h
        refine cRi (runS (As := [.int x4]) (rest := [.int x4]) C (mX9_bits l D a hc21) lk_S_9_316 okN_X9_bits ⟨Nat.le_of_ble_eq_true rfl, Nat.le_of_ble_eq_true rfl⟩ ⟨rfl, rfl⟩ (preR hK (P_of_map (wc := []) hP [] rfl)) hl.1 rfl (Nat.le_of_ble_eq_true rfl) dX9_master_71 ⟨Nat.le_of_ble_eq_true rfl, Nat.le_of_ble_eq_true rfl⟩) ?_
        refine lv_bipush (v := 6) hx hb dX9_master_74 (by decide) ?_
        refine lv_icmp_ge (tgt := 86) hx hb dX9_master_76 (by decide) (fun c23 => ?_) (fun c23 => ?_)
        · have h := ite_t c23 h
          exact hJ18 x4 _ _ ls h hP hD hS (lv_sub hl [0, 1, 2, 3, 5] rfl)
        · have h := ite_f c23 h
          refine lv_iconst (v := 1) hx hb dX9_master_79 (by decide) ?_
          refine lv_iload hx hb dX9_master_80 (lv_at hl 5 rfl) ?_
          refine lv_ishl hx hb dX9_master_82 ?_
          refine lv_goto (tgt := 87) hx hb dX9_master_83 (by decide) ?_
          exact hJ15 ((1 : Int32) <<< (x5 &&& 31)) x4 _ _ ls h hP hD hS (lv_sub hl [0, 1, 2, 3, 5] rfl)

set_option maxHeartbeats 4000000 in
set_option maxRecDepth 100000 in
theorem wX9_master_141 {p : Program} {l : Launch} {e : Env} {s : State} {m : MethodId} {below : List Frame} {meth : Method} {c : Code} {D : va_G} {a : Nat → ClassId} {A : Nat → Prop} {q_t : Nat} {Q_t : Nat → Nat} {x10 : Int32} {x20 : Int32} {x1 : Int32} {x2 : Int32} {x4 : Int32} {x5 : Int32} {x6 : Int64} {x8 : Int32} (C : Cx p s m #[.ref q_t, .int x10, .int x20] meth c MX9_master) (hK : KK D a s) (hA : ∀ q, s.heap.size ≤ q → A q) {y : Int64 × Sx} {k200 : Sx → Int64 → Option (Int64 × Sx)} (hk200 : ∀ (z_tk : Sx) (x9k : Int64) (H : Heap) (locs : List Loc) (ls : Array Slot), k200 z_tk x9k = some y → va_P D classes (rc9 a q_t Q_t z_tk) H → va_D A (rc9 a q_t Q_t z_tk) → va_S A s.heap H locs → lv_has ls 13 [(0, .ref q_t), (1, .int x1), (2, .int x2), (4, .int x4), (5, .int x5), (6, .long x6), (8, .int x8), (9, .long x9k)] → W p l e (rmM 5 0 0 116) s m #[.ref q_t, .int x10, .int x20] below meth c H locs 0 0 (MQ below (va_Ql (fun r (_ : Unit) => r = y.1) (Bw D A (fun _ => rc9 a q_t Q_t y.2)) A) #[.ref q_t, .int x10, .int x20] s 0 0 A) (F0 m 200 ls [])) : ∀ (n : Nat) (z_t : Sx) (x9 : Int64) (x11 : Int32) (H : Heap) (locs : List Loc) (ls : Array Slot), lX9_master_141 k200 x1 x2 x4 x5 x6 x8 n z_t x9 x11 = some y → va_P D classes (rc9 a q_t Q_t z_t) H → va_D A (rc9 a q_t Q_t z_t) → va_S A s.heap H locs → lv_has ls 13 [(0, .ref q_t), (1, .int x1), (2, .int x2), (4, .int x4), (5, .int x5), (6, .long x6), (8, .int x8), (9, .long x9), (11, .int x11)] → W p l e (rmM 5 0 0 116) s m #[.ref q_t, .int x10, .int x20] below meth c H locs 0 0 (MQ below (va_Ql (fun r (_ : Unit) => r = y.1) (Bw D A (fun _ => rc9 a q_t Q_t y.2)) A) #[.ref q_t, .int x10, .int x20] s 0 0 A) (F0 m 141 ls []) := by
  obtain ⟨hx, hb, hml, hown, hts, hr, hlocks, hnm⟩ := id C
  have hb : c.code = cX9_master := hb
  have hown : s.vm.findClass RX9 = some m.cls := hown
  intro n
  induction n with
  | zero => intro z_t x9 x11 H locs ls h; rw [lX9_master_141] at h; cases h
  | succ n ih =>
    intro z_t x9 x11 H locs ls h hP hD hS hl
    rw [lX9_master_141] at h
    refine lv_iload hx hb dX9_master_141 (lv_at hl 8 rfl) ?_
    refine lv_aload_n hx hb dX9_master_143 rfl (lv_at hl 0 rfl) ?_
    refine va_get (D := D) (v := .ref (Q_t 24)) (C := RX9) (T := TX9) (N := 36) hx hb hts iX9 hown hK.1 hP 0 rfl rfl 24 (by decide) (hts _ t_906) (fun _ h9 => h9) rfl dX9_master_144 ?_
    refine lv_iconst (v := 0) hx hb dX9_master_147 (by decide) ?_
    refine ald_i hx hb hK.1 hP 11 0 rfl rfl 0 (ix_lit (by decide)) dX9_master_148 ?_
    refine lv_icmp_ge (tgt := 200) hx hb dX9_master_149 (by decide) (fun c33 => ?_) (fun c33 => ?_)
    · have h := ite_t c33 h
      exact hk200 z_t x9 _ _ ls h hP hD hS (lv_sub hl [0, 1, 2, 3, 4, 5, 6, 7] rfl)
    · have h := ite_f c33 h
      refine lv_iload hx hb dX9_master_152 (lv_at hl 6 rfl) ?_
      refine lv_iload hx hb dX9_master_154 (lv_at hl 8 rfl) ?_
      obtain ⟨r35, hc34, h⟩ := bd_some h
      refine cRi (runS (As := [.int x8, .int x11]) (rest := []) C (mX9_isOf l D a hc34) lk_S_9_349 okN_X9_isOf ⟨Nat.le_of_ble_eq_true rfl, Nat.le_of_ble_eq_true rfl⟩ ⟨rfl, rfl⟩ (preR hK (P_of_map (wc := []) hP [] rfl)) hl.1 rfl (Nat.le_of_ble_eq_true rfl) dX9_master_156 ⟨Nat.le_of_ble_eq_true rfl, Nat.le_of_ble_eq_true rfl⟩) ?_
      obtain ⟨J36, eJ36, h⟩ := jn_some h
      have hJ36 : ∀ (z37 : Sx) (i38 : Int64) (H : Heap) (locs : List Loc) (ls : Array Slot), J36 z37 i38 = some y → va_P D classes (rc9 a q_t Q_t z37) H → va_D A (rc9 a q_t Q_t z37) → va_S A s.heap H locs → lv_has ls 13 [(0, .ref q_t), (1, .int x1), (2, .int x2), (4, .int x4), (5, .int x5), (6, .long x6), (8, .int x8), (9, .long i38), (11, .int x11)] → W p l e (rmM 5 0 0 116) s m #[.ref q_t, .int x10, .int x20] below meth c H locs 0 0 (MQ below (va_Ql (fun r (_ : Unit) => r = y.1) (Bw D A (fun _ => rc9 a q_t Q_t y.2)) A) #[.ref q_t, .int x10, .int x20] s 0 0 A) (F0 m 194 ls []) := by
        intro z37 i38 H locs ls h hP hD hS hl
        rw [eJ36] at h
        refine lv_iinc (v := x11 + 1) (lv' := [(11, .int (x11 + 1)), (0, .ref q_t), (1, .int x1), (2, .int x2), (4, .int x4), (5, .int x5), (6, .long x6), (8, .int x8), (9, .long i38)]) hx hb dX9_master_194 hl (k := 8) rfl rfl (by decide) rfl (fun ls hl => ?_)
        refine lv_goto (tgt := 141) hx hb dX9_master_197 (by decide) ?_
        exact ih z37 i38 (x11 + 1) _ _ ls h hP hD hS (lv_sub hl [1, 2, 3, 4, 5, 6, 7, 8, 0] rfl)
      refine lv_if_ne (tgt := 165) hx hb dX9_master_159 (by decide) (fun c39 => ?_) (fun c39 => ?_)
      · have h := ite_f c39 h
        refine lv_aload_n hx hb dX9_master_165 rfl (lv_at hl 0 rfl) ?_
        refine va_get (D := D) (v := .ref (Q_t 24)) (C := RX9) (T := TX9) (N := 36) hx hb hts iX9 hown hK.1 hP 0 rfl rfl 24 (by decide) (hts _ t_906) (fun _ h9 => h9) rfl dX9_master_166 ?_
        refine lv_bipush (v := 44) hx hb dX9_master_169 (by decide) ?_
        refine lv_bipush (v := 6) hx hb dX9_master_171 (by decide) ?_
        refine lv_iload hx hb dX9_master_173 (lv_at hl 8 rfl) ?_
        refine lv_imul hx hb dX9_master_175 ?_
        refine lv_iadd hx hb dX9_master_176 ?_
        refine lv_iconst (v := 4) hx hb dX9_master_177 (by decide) ?_
        refine lv_iadd hx hb dX9_master_178 ?_
        refine lv_iconst (v := 2) hx hb dX9_master_179 (by decide) ?_
        obtain ⟨g40, h⟩ := gd_some h
        refine ast_i hx hb hK.1 hP hD hS 11 0 rfl rfl (((44 + (6 * x11)) + 4).toNatClampNeg) (ix_g g40) dX9_master_180 (fun H locs hP hD hS => ?_)
        rw [u9_24] at hP hD
        refine lv_lload hx hb dX9_master_181 (lv_at hl 7 rfl) ?_
        refine lv_aload_n hx hb dX9_master_183 rfl (lv_at hl 0 rfl) ?_
        refine lv_iload hx hb dX9_master_184 (lv_at hl 8 rfl) ?_
        refine lv_iconst (v := 2) hx hb dX9_master_186 (by decide) ?_
        obtain ⟨r42, hc41, h⟩ := bd_some h
        refine cRi (runV (As := [.int x11, .int 2]) (rest := [.long x9]) C (mX9_kindOf l D a (q_t := q_t) (Q_t := Q_t) hc41) lk_V_9_275 okN_X9_kindOf ⟨Nat.le_of_ble_eq_true rfl, Nat.le_of_ble_eq_true rfl⟩ ⟨rfl, rfl⟩ (preV (preR hK hP) (recvOf hK hP 0 rfl (ci := 9) rfl)) hl.1 rfl (Nat.le_of_ble_eq_true rfl) dX9_master_187 ⟨Nat.le_of_ble_eq_true rfl, Nat.le_of_ble_eq_true rfl⟩) ?_
        refine lv_i2l (v := r42.toInt64) hx hb dX9_master_190 rfl ?_
        refine lv_ladd hx hb dX9_master_191 ?_
        refine lv_lstore (lv' := [(9, .long (x9 + r42.toInt64)), (0, .ref q_t), (1, .int x1), (2, .int x2), (4, .int x4), (5, .int x5), (6, .long x6), (8, .int x8), (11, .int x11)]) hx hb dX9_master_192 hl (by decide) rfl (fun ls hl => ?_)
        exact hJ36 (sT z_t 24 (((44 + (6 * x11)) + 4).toNatClampNeg) 2) (x9 + r42.toInt64) _ _ ls h hP hD hS (lv_sub hl [1, 2, 3, 4, 5, 6, 7, 0, 8] rfl)
      · have h := ite_t c39 h
        refine lv_goto (tgt := 194) hx hb dX9_master_162 (by decide) ?_
        exact hJ36 z_t x9 _ _ ls h hP hD hS (lv_sub hl [0, 1, 2, 3, 4, 5, 6, 7, 8] rfl)

set_option maxHeartbeats 4000000 in
set_option maxRecDepth 100000 in
theorem wX9_master_109 {p : Program} {l : Launch} {e : Env} {s : State} {m : MethodId} {below : List Frame} {meth : Method} {c : Code} {D : va_G} {a : Nat → ClassId} {A : Nat → Prop} {q_t : Nat} {Q_t : Nat → Nat} {x10 : Int32} {x20 : Int32} {x1 : Int32} {x2 : Int32} {x4 : Int32} (C : Cx p s m #[.ref q_t, .int x10, .int x20] meth c MX9_master) (hK : KK D a s) (hA : ∀ q, s.heap.size ≤ q → A q) {y : Int64 × Sx} {k277 : Sx → Int32 → Int64 → Option (Int64 × Sx)} (hk277 : ∀ (z_tk : Sx) (x5k : Int32) (x6k : Int64) (H : Heap) (locs : List Loc) (ls : Array Slot), k277 z_tk x5k x6k = some y → va_P D classes (rc9 a q_t Q_t z_tk) H → va_D A (rc9 a q_t Q_t z_tk) → va_S A s.heap H locs → lv_has ls 13 [(0, .ref q_t), (1, .int x1), (2, .int x2), (5, .int x5k), (6, .long x6k)] → W p l e (rmM 5 0 0 116) s m #[.ref q_t, .int x10, .int x20] below meth c H locs 0 0 (MQ below (va_Ql (fun r (_ : Unit) => r = y.1) (Bw D A (fun _ => rc9 a q_t Q_t y.2)) A) #[.ref q_t, .int x10, .int x20] s 0 0 A) (F0 m 277 ls [])) : ∀ (n : Nat) (z_t : Sx) (x5 : Int32) (x6 : Int64) (x8 : Int32) (H : Heap) (locs : List Loc) (ls : Array Slot), lX9_master_109 k277 x1 x2 x4 n z_t x5 x6 x8 = some y → va_P D classes (rc9 a q_t Q_t z_t) H → va_D A (rc9 a q_t Q_t z_t) → va_S A s.heap H locs → lv_has ls 13 [(0, .ref q_t), (1, .int x1), (2, .int x2), (4, .int x4), (5, .int x5), (6, .long x6), (8, .int x8)] → W p l e (rmM 5 0 0 116) s m #[.ref q_t, .int x10, .int x20] below meth c H locs 0 0 (MQ below (va_Ql (fun r (_ : Unit) => r = y.1) (Bw D A (fun _ => rc9 a q_t Q_t y.2)) A) #[.ref q_t, .int x10, .int x20] s 0 0 A) (F0 m 109 ls []) := by
  obtain ⟨hx, hb, hml, hown, hts, hr, hlocks, hnm⟩ := id C
  have hb : c.code = cX9_master := hb
  have hown : s.vm.findClass RX9 = some m.cls := hown
  intro n
  induction n with
  | zero => intro z_t x5 x6 x8 H locs ls h; rw [lX9_master_109] at h; cases h
  | succ n ih =>
    intro z_t x5 x6 x8 H locs ls h hP hD hS hl
    rw [lX9_master_109] at h
    refine lv_iload hx hb dX9_master_109 (lv_at hl 6 rfl) ?_
    refine lv_iconst (v := 1) hx hb dX9_master_111 (by decide) ?_
    refine lv_aload_n hx hb dX9_master_112 rfl (lv_at hl 0 rfl) ?_
    refine va_get (D := D) (v := .ref (Q_t 24)) (C := RX9) (T := TX9) (N := 36) hx hb hts iX9 hown hK.1 hP 0 rfl rfl 24 (by decide) (hts _ t_906) (fun _ h9 => h9) rfl dX9_master_113 ?_
    refine lv_iconst (v := 0) hx hb dX9_master_116 (by decide) ?_
    refine ald_i hx hb hK.1 hP 11 0 rfl rfl 0 (ix_lit (by decide)) dX9_master_117 ?_
    refine lv_ishl hx hb dX9_master_118 ?_
    refine lv_icmp_ge (tgt := 277) hx hb dX9_master_119 (by decide) (fun c27 => ?_) (fun c27 => ?_)
    · have h := ite_t c27 h
      exact hk277 z_t x5 x6 _ _ ls h hP hD hS (lv_sub hl [0, 1, 2, 4, 5] rfl)
    · have h := ite_f c27 h
      refine lv_iload hx hb dX9_master_122 (lv_at hl 6 rfl) ?_
      refine lv_iload hx hb dX9_master_124 (lv_at hl 3 rfl) ?_
      refine lv_iconst (v := (-1)) hx hb dX9_master_126 (by decide) ?_
      refine lv_ixor hx hb dX9_master_127 ?_
      refine lv_iand hx hb dX9_master_128 ?_
      obtain ⟨J28, eJ28, h⟩ := jn_some h
      have hJ28 : ∀ (z29 : Sx) (i30 : Int32) (i31 : Int64) (H : Heap) (locs : List Loc) (ls : Array Slot), J28 z29 i30 i31 = some y → va_P D classes (rc9 a q_t Q_t z29) H → va_D A (rc9 a q_t Q_t z29) → va_S A s.heap H locs → lv_has ls 13 [(0, .ref q_t), (1, .int x1), (2, .int x2), (4, .int x4), (5, .int i30), (6, .long i31), (8, .int x8)] → W p l e (rmM 5 0 0 116) s m #[.ref q_t, .int x10, .int x20] below meth c H locs 0 0 (MQ below (va_Ql (fun r (_ : Unit) => r = y.1) (Bw D A (fun _ => rc9 a q_t Q_t y.2)) A) #[.ref q_t, .int x10, .int x20] s 0 0 A) (F0 m 271 ls []) := by
        intro z29 i30 i31 H locs ls h hP hD hS hl
        rw [eJ28] at h
        refine lv_iinc (v := x8 + 1) (lv' := [(8, .int (x8 + 1)), (0, .ref q_t), (1, .int x1), (2, .int x2), (4, .int x4), (5, .int i30), (6, .long i31)]) hx hb dX9_master_271 hl (k := 6) rfl rfl (by decide) rfl (fun ls hl => ?_)
        refine lv_goto (tgt := 109) hx hb dX9_master_274 (by decide) ?_
        exact ih z29 i30 i31 (x8 + 1) _ _ ls h hP hD hS (lv_sub hl [1, 2, 3, 4, 5, 6, 0] rfl)
      refine lv_if_eq (tgt := 135) hx hb dX9_master_129 (by decide) (fun c32 => ?_) (fun c32 => ?_)
      · have h := ite_t c32 h
        refine lv_lconst (v := 0) hx hb dX9_master_135 (by decide) ?_
        refine lv_lstore (lv' := [(9, .long 0), (0, .ref q_t), (1, .int x1), (2, .int x2), (4, .int x4), (5, .int x5), (6, .long x6), (8, .int x8)]) hx hb dX9_master_136 hl (by decide) rfl (fun ls hl => ?_)
        refine lv_iconst (v := 0) hx hb dX9_master_138 (by decide) ?_
        refine lv_istore (lv' := [(11, .int 0), (9, .long 0), (0, .ref q_t), (1, .int x1), (2, .int x2), (4, .int x4), (5, .int x5), (6, .long x6), (8, .int x8)]) hx hb dX9_master_139 hl (by decide) rfl (fun ls hl => ?_)
        refine wX9_master_141 C hK hA ?_ FU z_t 0 0 _ _ ls h hP hD hS (lv_sub hl [2, 3, 4, 5, 6, 7, 8, 1, 0] rfl)
        · intro z43 i44 H locs ls h hP hD hS hl
          refine lv_aload_n hx hb dX9_master_200 rfl (lv_at hl 0 rfl) ?_
          refine lv_iload_n hx hb dX9_master_201 rfl (lv_at hl 1 rfl) ?_
          obtain ⟨z46, hc45, h⟩ := bd_some h
          refine cWv (runV (As := [.int x1]) (rest := []) C (mX9_goesThrough l D a (q_t := q_t) (Q_t := Q_t) hc45 H.size) lk_V_9_390 okN_X9_goesThrough ⟨Nat.le_of_ble_eq_true rfl, Nat.le_of_ble_eq_true rfl⟩ ⟨rfl, rfl⟩ (preV (preM hK hP hD) (recvOf hK hP 0 rfl (ci := 9) rfl)) hl.1 rfl (Nat.le_of_ble_eq_true rfl) dX9_master_202 ⟨Nat.le_of_ble_eq_true rfl, Nat.le_of_ble_eq_true rfl⟩) hP hD hS hA (fun H locs hP hD hS => ?_)
          have hP : va_P D classes (rc9 a q_t Q_t z46) H := hP
          have hD : va_D A (rc9 a q_t Q_t z46) := hD
          refine lv_aload_n hx hb dX9_master_205 rfl (lv_at hl 0 rfl) ?_
          obtain ⟨z48, hc47, h⟩ := bd_some h
          refine cWv (runV (As := []) (rest := []) C (mX9_putsBack l D a (q_t := q_t) (Q_t := Q_t) hc47 H.size) lk_V_9_346 okN_X9_putsBack ⟨Nat.le_of_ble_eq_true rfl, Nat.le_of_ble_eq_true rfl⟩ ⟨rfl, rfl⟩ (preV (preM hK hP hD) (recvOf hK hP 0 rfl (ci := 9) rfl)) hl.1 rfl (Nat.le_of_ble_eq_true rfl) dX9_master_206 ⟨Nat.le_of_ble_eq_true rfl, Nat.le_of_ble_eq_true rfl⟩) hP hD hS hA (fun H locs hP hD hS => ?_)
          have hP : va_P D classes (rc9 a q_t Q_t z48) H := hP
          have hD : va_D A (rc9 a q_t Q_t z48) := hD
          refine lv_aload_n hx hb dX9_master_209 rfl (lv_at hl 0 rfl) ?_
          refine va_get (D := D) (v := .ref (Q_t 31)) (C := RX9) (T := TX9) (N := 36) hx hb hts iX9 hown hK.1 hP 0 rfl rfl 31 (by decide) (hts _ t_913) (fun _ h9 => h9) rfl dX9_master_210 ?_
          refine lv_iconst (v := 0) hx hb dX9_master_213 (by decide) ?_
          refine ald_l hx hb hK.1 hP 18 1 rfl rfl 0 (ix_lit (by decide)) dX9_master_214 ?_
          refine lv_lload hx hb dX9_master_215 (lv_at hl 7 rfl) ?_
          refine lv_aload_n hx hb dX9_master_217 rfl (lv_at hl 0 rfl) ?_
          refine lv_iload_n hx hb dX9_master_218 rfl (lv_at hl 1 rfl) ?_
          obtain ⟨r50, hc49, h⟩ := bd_some h
          refine cRl (runV (As := [.int x1]) (rest := [.long i44, .long (gJ z48 31 0)]) C (mX9_hundreds l D a (q_t := q_t) hc49) lk_V_9_367 okN_X9_hundreds ⟨Nat.le_of_ble_eq_true rfl, Nat.le_of_ble_eq_true rfl⟩ ⟨rfl, rfl⟩ (preV (preR hK (P_of_map (wc := []) hP [] rfl)) (recvOf hK hP 0 rfl (ci := 9) rfl)) hl.1 rfl (Nat.le_of_ble_eq_true rfl) dX9_master_219 ⟨Nat.le_of_ble_eq_true rfl, Nat.le_of_ble_eq_true rfl⟩) ?_
          refine lv_lmul hx hb dX9_master_222 ?_
          refine lv_lsub hx hb dX9_master_223 ?_
          refine lv_lstore (lv' := [(11, .long ((gJ z48 31 0) - (i44 * r50))), (0, .ref q_t), (1, .int x1), (2, .int x2), (4, .int x4), (5, .int x5), (6, .long x6), (8, .int x8), (9, .long i44)]) hx hb dX9_master_224 hl (by decide) rfl (fun ls hl => ?_)
          refine lv_iload hx hb dX9_master_226 (lv_at hl 5 rfl) ?_
          obtain ⟨J51, eJ51, h⟩ := jn_some h
          have hJ51 : ∀ (H : Heap) (locs : List Loc) (ls : Array Slot), J51 = some y → va_P D classes (rc9 a q_t Q_t z48) H → va_D A (rc9 a q_t Q_t z48) → va_S A s.heap H locs → lv_has ls 13 [(0, .ref q_t), (1, .int x1), (2, .int x2), (4, .int x4), (8, .int x8), (11, .long ((gJ z48 31 0) - (i44 * r50)))] → W p l e (rmM 5 0 0 116) s m #[.ref q_t, .int x10, .int x20] below meth c H locs 0 0 (MQ below (va_Ql (fun r (_ : Unit) => r = y.1) (Bw D A (fun _ => rc9 a q_t Q_t y.2)) A) #[.ref q_t, .int x10, .int x20] s 0 0 A) (F0 m 263 ls []) := by
            intro H locs ls h hP hD hS hl
            rw [eJ51] at h
            refine lv_iload hx hb dX9_master_263 (lv_at hl 4 rfl) ?_
            refine lv_istore (lv' := [(5, .int x8), (0, .ref q_t), (1, .int x1), (2, .int x2), (4, .int x4), (8, .int x8), (11, .long ((gJ z48 31 0) - (i44 * r50)))]) hx hb dX9_master_265 hl (by decide) rfl (fun ls hl => ?_)
            refine lv_lload hx hb dX9_master_267 (lv_at hl 6 rfl) ?_
            refine lv_lstore (lv' := [(6, .long ((gJ z48 31 0) - (i44 * r50))), (5, .int x8), (0, .ref q_t), (1, .int x1), (2, .int x2), (4, .int x4), (8, .int x8), (11, .long ((gJ z48 31 0) - (i44 * r50)))]) hx hb dX9_master_269 hl (by decide) rfl (fun ls hl => ?_)
            exact hJ28 z48 x8 ((gJ z48 31 0) - (i44 * r50)) _ _ ls h hP hD hS (lv_sub hl [2, 3, 4, 5, 1, 0, 6] rfl)
          refine lv_if_lt (tgt := 263) hx hb dX9_master_228 (by decide) (fun c52 => ?_) (fun c52 => ?_)
          · have h := ite_t c52 h
            exact hJ51 _ _ ls h hP hD hS (lv_sub hl [1, 2, 3, 4, 7, 0] rfl)
          · have h := ite_f c52 h
            refine lv_lload hx hb dX9_master_231 (lv_at hl 0 rfl) ?_
            refine lv_lload hx hb dX9_master_233 (lv_at hl 6 rfl) ?_
            refine W.lcmp hx hb dX9_master_235 ?_
            refine lv_if_lt (tgt := 271) hx hb dX9_master_236 (by decide) (fun c53 => ?_) (fun c53 => ?_)
            · have h := ite_t ((lg_cmp_lt _ _).mp c53) h
              exact hJ28 z48 x5 x6 _ _ ls h hP hD hS (lv_sub hl [1, 2, 3, 4, 5, 6, 7] rfl)
            · have h := ite_f (fun q => c53 ((lg_cmp_lt _ _).mpr q)) h
              refine lv_lload hx hb dX9_master_239 (lv_at hl 0 rfl) ?_
              refine lv_lload hx hb dX9_master_241 (lv_at hl 6 rfl) ?_
              refine W.lcmp hx hb dX9_master_243 ?_
              refine lv_if_ne (tgt := 263) hx hb dX9_master_244 (by decide) (fun c54 => ?_) (fun c54 => ?_)
              · have h := ite_f (fun q => c54 ((lg_cmp_eq _ _).mpr q)) h
                exact hJ51 _ _ ls h hP hD hS (lv_sub hl [1, 2, 3, 4, 7, 0] rfl)
              · have h := ite_t ((lg_cmp_eq _ _).mp c54) h
                refine lv_iload hx hb dX9_master_247 (lv_at hl 7 rfl) ?_
                obtain ⟨r56, hc55, h⟩ := bd_some h
                refine cRi (runS (As := [.int x8]) (rest := []) C (mX9_bits l D a hc55) lk_S_9_316 okN_X9_bits ⟨Nat.le_of_ble_eq_true rfl, Nat.le_of_ble_eq_true rfl⟩ ⟨rfl, rfl⟩ (preR hK (P_of_map (wc := []) hP [] rfl)) hl.1 rfl (Nat.le_of_ble_eq_true rfl) dX9_master_249 ⟨Nat.le_of_ble_eq_true rfl, Nat.le_of_ble_eq_true rfl⟩) ?_
                refine lv_iload hx hb dX9_master_252 (lv_at hl 5 rfl) ?_
                obtain ⟨r58, hc57, h⟩ := bd_some h
                refine cRi (runS (As := [.int x5]) (rest := [.int r56]) C (mX9_bits l D a hc57) lk_S_9_316 okN_X9_bits ⟨Nat.le_of_ble_eq_true rfl, Nat.le_of_ble_eq_true rfl⟩ ⟨rfl, rfl⟩ (preR hK (P_of_map (wc := []) hP [] rfl)) hl.1 rfl (Nat.le_of_ble_eq_true rfl) dX9_master_254 ⟨Nat.le_of_ble_eq_true rfl, Nat.le_of_ble_eq_true rfl⟩) ?_
                refine lv_icmp_lt (tgt := 263) hx hb dX9_master_257 (by decide) (fun c59 => ?_) (fun c59 => ?_)
                · have h := ite_t c59 h
                  exact hJ51 _ _ ls h hP hD hS (lv_sub hl [1, 2, 3, 4, 7, 0] rfl)
                · have h := ite_f c59 h
                  refine lv_goto (tgt := 271) hx hb dX9_master_260 (by decide) ?_
                  exact hJ28 z48 x5 x6 _ _ ls h hP hD hS (lv_sub hl [1, 2, 3, 4, 5, 6, 7] rfl)
      · have h := ite_f c32 h
        refine lv_goto (tgt := 271) hx hb dX9_master_132 (by decide) ?_
        exact hJ28 z_t x5 x6 _ _ ls h hP hD hS (lv_sub hl [0, 1, 2, 3, 4, 5, 6] rfl)

set_option maxHeartbeats 4000000 in
set_option maxRecDepth 100000 in
theorem mX9_master (l : Launch) (D : va_G) (a : Nat → ClassId) {q_t : Nat} {Q_t : Nat → Nat} {z_t : Sx} {x1 : Int32} {x2 : Int32} {y : Int64 × Sx} (h : fX9_master z_t x1 x2 = some y) (sz : Nat) : CMl (S := Unit) l MX9_master 5 116 0 0 D a [.ref q_t, .int x1, .int x2] (rc9 a q_t Q_t z_t) sz (fun r _ => r = y.1) (fun _ => rc9 a q_t Q_t y.2) := by
  unfold fX9_master at h
  refine entMl (by decide) (Nat.le_of_ble_eq_true rfl) ?_
  intro p e s m below meth c C hK A hA hP hD ls hl
  obtain ⟨hx, hb, hml, hown, hts, hr, hlocks, hnm⟩ := id C
  have hb : c.code = cX9_master := hb
  have hown : s.vm.findClass RX9 = some m.cls := hown
  have hS : va_S A s.heap s.heap [] := va_S.rf
  have hl : lv_has ls 13 [(0, .ref q_t), (1, .int x1), (2, .int x2)] := hl
  refine lv_aload_n hx hb dX9_master_0 rfl (lv_at hl 0 rfl) ?_
  obtain ⟨r2, hc1, h⟩ := bd_some h
  refine cRi (runV (As := []) (rest := []) C (mX9_isWork l D a (q_t := q_t) (Q_t := Q_t) hc1) lk_V_9_301 okN_X9_isWork ⟨Nat.le_of_ble_eq_true rfl, Nat.le_of_ble_eq_true rfl⟩ ⟨rfl, rfl⟩ (preV (preR hK hP) (recvOf hK hP 0 rfl (ci := 9) rfl)) hl.1 rfl (Nat.le_of_ble_eq_true rfl) dX9_master_1 ⟨Nat.le_of_ble_eq_true rfl, Nat.le_of_ble_eq_true rfl⟩) ?_
  refine lv_if_eq (tgt := 31) hx hb dX9_master_4 (by decide) (fun c3 => ?_) (fun c3 => ?_)
  · have h := ite_t c3 h
    refine lv_ldc2 hx hb hown (hts _ t_1344) dX9_master_31 ?_
    exact rMl C rfl h (g := fun y => rc9 a q_t Q_t y.2) (pr := fun y => y.1) hP hD hS dX9_master_34
  · have h := ite_f c3 h
    refine lv_iload_n hx hb dX9_master_7 rfl (lv_at hl 1 rfl) ?_
    refine lv_i2l (v := x1.toInt64) hx hb dX9_master_8 rfl ?_
    refine lv_lconst (v := 0) hx hb dX9_master_9 (by decide) ?_
    refine lv_ldc2 hx hb hown (hts _ t_1270) dX9_master_10 ?_
    obtain ⟨r5, hc4, h⟩ := bd_some h
    refine cRi (runS (As := [.long x1.toInt64, .long 0, .long 4]) (rest := []) C (mX9_in l D a hc4) lk_S_9_118 okN_X9_in ⟨Nat.le_of_ble_eq_true rfl, Nat.le_of_ble_eq_true rfl⟩ ⟨rfl, rfl⟩ (preR hK (P_of_map (wc := []) hP [] rfl)) hl.1 rfl (Nat.le_of_ble_eq_true rfl) dX9_master_13 ⟨Nat.le_of_ble_eq_true rfl, Nat.le_of_ble_eq_true rfl⟩) ?_
    refine lv_if_eq (tgt := 31) hx hb dX9_master_16 (by decide) (fun c6 => ?_) (fun c6 => ?_)
    · have h := ite_t c6 h
      refine lv_ldc2 hx hb hown (hts _ t_1344) dX9_master_31 ?_
      exact rMl C rfl h (g := fun y => rc9 a q_t Q_t y.2) (pr := fun y => y.1) hP hD hS dX9_master_34
    · have h := ite_f c6 h
      refine lv_iload_n hx hb dX9_master_19 rfl (lv_at hl 2 rfl) ?_
      refine lv_i2l (v := x2.toInt64) hx hb dX9_master_20 rfl ?_
      refine lv_lconst (v := 0) hx hb dX9_master_21 (by decide) ?_
      refine lv_ldc2 hx hb hown (hts _ t_1148) dX9_master_22 ?_
      obtain ⟨r8, hc7, h⟩ := bd_some h
      refine cRi (runS (As := [.long x2.toInt64, .long 0, .long 2]) (rest := []) C (mX9_in l D a hc7) lk_S_9_118 okN_X9_in ⟨Nat.le_of_ble_eq_true rfl, Nat.le_of_ble_eq_true rfl⟩ ⟨rfl, rfl⟩ (preR hK (P_of_map (wc := []) hP [] rfl)) hl.1 rfl (Nat.le_of_ble_eq_true rfl) dX9_master_25 ⟨Nat.le_of_ble_eq_true rfl, Nat.le_of_ble_eq_true rfl⟩) ?_
      refine lv_if_ne (tgt := 35) hx hb dX9_master_28 (by decide) (fun c9 => ?_) (fun c9 => ?_)
      · have h := ite_f c9 h
        refine lv_aload_n hx hb dX9_master_35 rfl (lv_at hl 0 rfl) ?_
        refine lv_iconst (v := 0) hx hb dX9_master_36 (by decide) ?_
        obtain ⟨r11, hc10, h⟩ := bd_some h
        refine cRi (runV (As := [.int 0]) (rest := []) C (mX9_thatAre l D a (q_t := q_t) (Q_t := Q_t) hc10) lk_V_9_313 okN_X9_thatAre ⟨Nat.le_of_ble_eq_true rfl, Nat.le_of_ble_eq_true rfl⟩ ⟨rfl, rfl⟩ (preV (preR hK hP) (recvOf hK hP 0 rfl (ci := 9) rfl)) hl.1 rfl (Nat.le_of_ble_eq_true rfl) dX9_master_37 ⟨Nat.le_of_ble_eq_true rfl, Nat.le_of_ble_eq_true rfl⟩) ?_
        refine lv_istore_n (lv' := [(3, .int r11), (0, .ref q_t), (1, .int x1), (2, .int x2)]) hx hb dX9_master_40 rfl hl (by decide) rfl (fun ls hl => ?_)
        refine lv_iconst (v := 0) hx hb dX9_master_41 (by decide) ?_
        refine lv_istore (lv' := [(4, .int 0), (3, .int r11), (0, .ref q_t), (1, .int x1), (2, .int x2)]) hx hb dX9_master_42 hl (by decide) rfl (fun ls hl => ?_)
        refine lv_iconst (v := 0) hx hb dX9_master_44 (by decide) ?_
        refine lv_istore (lv' := [(5, .int 0), (4, .int 0), (3, .int r11), (0, .ref q_t), (1, .int x1), (2, .int x2)]) hx hb dX9_master_45 hl (by decide) rfl (fun ls hl => ?_)
        refine wX9_master_47 C hK hA ?_ FU 0 0 _ _ ls h hP hD hS (lv_sub hl [3, 4, 5, 2, 1, 0] rfl)
        · intro i24 H locs ls h hP hD hS hl
          refine lv_iconst (v := (-1)) hx hb dX9_master_96 (by decide) ?_
          refine lv_istore (lv' := [(5, .int (-1)), (0, .ref q_t), (1, .int x1), (2, .int x2), (4, .int i24)]) hx hb dX9_master_97 hl (by decide) rfl (fun ls hl => ?_)
          refine lv_lconst (v := 0) hx hb dX9_master_99 (by decide) ?_
          refine lv_lstore (lv' := [(6, .long 0), (5, .int (-1)), (0, .ref q_t), (1, .int x1), (2, .int x2), (4, .int i24)]) hx hb dX9_master_100 hl (by decide) rfl (fun ls hl => ?_)
          refine lv_aload_n hx hb dX9_master_102 rfl (lv_at hl 2 rfl) ?_
          obtain ⟨z26, hc25, h⟩ := bd_some h
          refine cWv (runV (As := []) (rest := []) C (mX9_keeps l D a (q_t := q_t) (Q_t := Q_t) hc25 H.size) lk_V_9_343 okN_X9_keeps ⟨Nat.le_of_ble_eq_true rfl, Nat.le_of_ble_eq_true rfl⟩ ⟨rfl, rfl⟩ (preV (preM hK hP hD) (recvOf hK hP 0 rfl (ci := 9) rfl)) hl.1 rfl (Nat.le_of_ble_eq_true rfl) dX9_master_103 ⟨Nat.le_of_ble_eq_true rfl, Nat.le_of_ble_eq_true rfl⟩) hP hD hS hA (fun H locs hP hD hS => ?_)
          have hP : va_P D classes (rc9 a q_t Q_t z26) H := hP
          have hD : va_D A (rc9 a q_t Q_t z26) := hD
          refine lv_iconst (v := 0) hx hb dX9_master_106 (by decide) ?_
          refine lv_istore (lv' := [(8, .int 0), (6, .long 0), (5, .int (-1)), (0, .ref q_t), (1, .int x1), (2, .int x2), (4, .int i24)]) hx hb dX9_master_107 hl (by decide) rfl (fun ls hl => ?_)
          refine wX9_master_109 C hK hA ?_ FU z26 (-1) 0 0 _ _ ls h hP hD hS (lv_sub hl [3, 4, 5, 6, 2, 1, 0] rfl)
          · intro z60 i61 i62 H locs ls h hP hD hS hl
            refine lv_iload_n hx hb dX9_master_277 rfl (lv_at hl 2 rfl) ?_
            refine lv_iconst (v := 2) hx hb dX9_master_278 (by decide) ?_
            refine lv_icmp_ne (tgt := 288) hx hb dX9_master_279 (by decide) (fun c63 => ?_) (fun c63 => ?_)
            · have h := ite_f c63 h
              refine lv_aload_n hx hb dX9_master_288 rfl (lv_at hl 0 rfl) ?_
              refine lv_lload hx hb dX9_master_289 (lv_at hl 4 rfl) ?_
              refine lv_aload_n hx hb dX9_master_291 rfl (lv_at hl 0 rfl) ?_
              refine lv_iload_n hx hb dX9_master_292 rfl (lv_at hl 1 rfl) ?_
              obtain ⟨r65, hc64, h⟩ := bd_some h
              refine cRl (runV (As := [.int x1]) (rest := [.long i62, .ref q_t]) C (mX9_hundreds l D a (q_t := q_t) hc64) lk_V_9_367 okN_X9_hundreds ⟨Nat.le_of_ble_eq_true rfl, Nat.le_of_ble_eq_true rfl⟩ ⟨rfl, rfl⟩ (preV (preR hK (P_of_map (wc := []) hP [] rfl)) (recvOf hK hP 0 rfl (ci := 9) rfl)) hl.1 rfl (Nat.le_of_ble_eq_true rfl) dX9_master_293 ⟨Nat.le_of_ble_eq_true rfl, Nat.le_of_ble_eq_true rfl⟩) ?_
              refine lv_iload_n hx hb dX9_master_296 rfl (lv_at hl 2 rfl) ?_
              obtain ⟨r67, hc66, h⟩ := bd_some h
              refine cRl (runV (As := [.long i62, .long r65, .int x2]) (rest := []) C (mX9_partOf l D a (q_t := q_t) hc66) lk_V_9_370 okN_X9_partOf ⟨Nat.le_of_ble_eq_true rfl, Nat.le_of_ble_eq_true rfl⟩ ⟨rfl, rfl⟩ (preV (preR hK (P_of_map (wc := []) hP [] rfl)) (recvOf hK hP 0 rfl (ci := 9) rfl)) hl.1 rfl (Nat.le_of_ble_eq_true rfl) dX9_master_297 ⟨Nat.le_of_ble_eq_true rfl, Nat.le_of_ble_eq_true rfl⟩) ?_
              exact rMl C rfl h (g := fun y => rc9 a q_t Q_t y.2) (pr := fun y => y.1) hP hD hS dX9_master_300
            · have h := ite_t c63 h
              refine lv_iload hx hb dX9_master_282 (lv_at hl 3 rfl) ?_
              refine lv_i2l (v := i61.toInt64) hx hb dX9_master_284 rfl ?_
              refine lv_goto (tgt := 300) hx hb dX9_master_285 (by decide) ?_
              exact rMl C rfl h (g := fun y => rc9 a q_t Q_t y.2) (pr := fun y => y.1) hP hD hS dX9_master_300
      · have h := ite_t c9 h
        refine lv_ldc2 hx hb hown (hts _ t_1344) dX9_master_31 ?_
        exact rMl C rfl h (g := fun y => rc9 a q_t Q_t y.2) (pr := fun y => y.1) hP hD hS dX9_master_34

set_option maxHeartbeats 4000000 in
set_option maxRecDepth 100000 in
theorem wX9_meanOf_9 {p : Program} {l : Launch} {e : Env} {s : State} {m : MethodId} {below : List Frame} {meth : Method} {c : Code} {D : va_G} {a : Nat → ClassId} {A : Nat → Prop} {q_t : Nat} {Q_t : Nat → Nat} {x10 : Int32} {x1 : Int32} (C : Cx p s m #[.ref q_t, .int x10] meth c MX9_meanOf) (hK : KK D a s) (hA : ∀ q, s.heap.size ≤ q → A q) {y : Int64 × Sx} : ∀ (n : Nat) (z_t : Sx) (x2 : Int64) (x4 : Int32) (H : Heap) (locs : List Loc) (ls : Array Slot), lX9_meanOf_9 x1 n z_t x2 x4 = some y → va_P D classes (rc9 a q_t Q_t z_t) H → va_D A (rc9 a q_t Q_t z_t) → va_S A s.heap H locs → lv_has ls 8 [(0, .ref q_t), (1, .int x1), (2, .long x2), (4, .int x4)] → W p l e (rmM 4 0 0 90) s m #[.ref q_t, .int x10] below meth c H locs 0 0 (MQ below (va_Ql (fun r (_ : Unit) => r = y.1) (Bw D A (fun _ => rc9 a q_t Q_t y.2)) A) #[.ref q_t, .int x10] s 0 0 A) (F0 m 9 ls []) := by
  obtain ⟨hx, hb, hml, hown, hts, hr, hlocks, hnm⟩ := id C
  have hb : c.code = cX9_meanOf := hb
  have hown : s.vm.findClass RX9 = some m.cls := hown
  intro n
  induction n with
  | zero => intro z_t x2 x4 H locs ls h; rw [lX9_meanOf_9] at h; cases h
  | succ n ih =>
    intro z_t x2 x4 H locs ls h hP hD hS hl
    rw [lX9_meanOf_9] at h
    refine lv_iload hx hb dX9_meanOf_9 (lv_at hl 3 rfl) ?_
    refine lv_iconst (v := 1) hx hb dX9_meanOf_11 (by decide) ?_
    refine lv_aload_n hx hb dX9_meanOf_12 rfl (lv_at hl 0 rfl) ?_
    refine va_get (D := D) (v := .ref (Q_t 24)) (C := RX9) (T := TX9) (N := 36) hx hb hts iX9 hown hK.1 hP 0 rfl rfl 24 (by decide) (hts _ t_906) (fun _ h9 => h9) rfl dX9_meanOf_13 ?_
    refine lv_bipush (v := 8) hx hb dX9_meanOf_16 (by decide) ?_
    refine ald_i hx hb hK.1 hP 11 0 rfl rfl 8 (ix_lit (by decide)) dX9_meanOf_18 ?_
    refine lv_ishl hx hb dX9_meanOf_19 ?_
    refine lv_icmp_ge (tgt := 87) hx hb dX9_meanOf_20 (by decide) (fun c3 => ?_) (fun c3 => ?_)
    · have h := ite_t c3 h
      refine lv_lload_n hx hb dX9_meanOf_87 rfl (lv_at hl 2 rfl) ?_
      exact rMl C rfl h (g := fun y => rc9 a q_t Q_t y.2) (pr := fun y => y.1) hP hD hS dX9_meanOf_88
    · have h := ite_f c3 h
      refine lv_aload_n hx hb dX9_meanOf_23 rfl (lv_at hl 0 rfl) ?_
      refine lv_iload hx hb dX9_meanOf_24 (lv_at hl 3 rfl) ?_
      obtain ⟨r5, z6, hc4, h⟩ := bd2_some h
      refine cWl (runV (As := [.int x4]) (rest := []) C (mX9_comesOut l D a (q_t := q_t) (Q_t := Q_t) hc4 H.size) lk_V_9_354 okN_X9_comesOut ⟨Nat.le_of_ble_eq_true rfl, Nat.le_of_ble_eq_true rfl⟩ ⟨rfl, rfl⟩ (preV (preM hK hP hD) (recvOf hK hP 0 rfl (ci := 9) rfl)) hl.1 rfl (Nat.le_of_ble_eq_true rfl) dX9_meanOf_26 ⟨Nat.le_of_ble_eq_true rfl, Nat.le_of_ble_eq_true rfl⟩) hP hD hS hA (fun H locs hP hD hS => ?_)
      have hP : va_P D classes (rc9 a q_t Q_t z6) H := hP
      have hD : va_D A (rc9 a q_t Q_t z6) := hD
      refine lv_lstore (lv' := [(5, .long r5), (0, .ref q_t), (1, .int x1), (2, .long x2), (4, .int x4)]) hx hb dX9_meanOf_29 hl (by decide) rfl (fun ls hl => ?_)
      refine lv_aload_n hx hb dX9_meanOf_31 rfl (lv_at hl 1 rfl) ?_
      refine va_get (D := D) (v := .ref (Q_t 24)) (C := RX9) (T := TX9) (N := 36) hx hb hts iX9 hown hK.1 hP 0 rfl rfl 24 (by decide) (hts _ t_906) (fun _ h9 => h9) rfl dX9_meanOf_32 ?_
      refine lv_iconst (v := 4) hx hb dX9_meanOf_35 (by decide) ?_
      refine ald_i hx hb hK.1 hP 11 0 rfl rfl 4 (ix_lit (by decide)) dX9_meanOf_36 ?_
      refine lv_aload_n hx hb dX9_meanOf_37 rfl (lv_at hl 1 rfl) ?_
      refine va_get (D := D) (v := .ref (Q_t 25)) (C := RX9) (T := TX9) (N := 36) hx hb hts iX9 hown hK.1 hP 0 rfl rfl 25 (by decide) (hts _ t_907) (fun _ h9 => h9) rfl dX9_meanOf_38 ?_
      refine lv_iconst (v := 4) hx hb dX9_meanOf_41 (by decide) ?_
      refine ald_i hx hb hK.1 hP 12 0 rfl rfl 4 (ix_lit (by decide)) dX9_meanOf_42 ?_
      refine lv_isub hx hb dX9_meanOf_43 ?_
      refine lv_istore (lv' := [(7, .int ((gT z6 24 4) - (gT z6 25 4))), (5, .long r5), (0, .ref q_t), (1, .int x1), (2, .long x2), (4, .int x4)]) hx hb dX9_meanOf_44 hl (by decide) rfl (fun ls hl => ?_)
      refine lv_lload_n hx hb dX9_meanOf_46 rfl (lv_at hl 4 rfl) ?_
      refine lv_lload hx hb dX9_meanOf_47 (lv_at hl 1 rfl) ?_
      refine lv_iload_n hx hb dX9_meanOf_49 rfl (lv_at hl 3 rfl) ?_
      obtain ⟨J7, eJ7, h⟩ := jn_some h
      have hJ7 : ∀ (i8 : Int32) (i9 : Int64) (i10 : Int64) (H : Heap) (locs : List Loc) (ls : Array Slot), J7 i8 i9 i10 = some y → va_P D classes (rc9 a q_t Q_t z6) H → va_D A (rc9 a q_t Q_t z6) → va_S A s.heap H locs → lv_has ls 8 [(0, .ref q_t), (1, .int x1), (4, .int x4)] → W p l e (rmM 4 0 0 90) s m #[.ref q_t, .int x10] below meth c H locs 0 0 (MQ below (va_Ql (fun r (_ : Unit) => r = y.1) (Bw D A (fun _ => rc9 a q_t Q_t y.2)) A) #[.ref q_t, .int x10] s 0 0 A) (F0 m 73 ls [.int i8, .long i9, .long i10]) := by
        intro i8 i9 i10 H locs ls h hP hD hS hl
        rw [eJ7] at h
        refine lv_i2l (v := i8.toInt64) hx hb dX9_meanOf_73 rfl ?_
        refine lv_lmul hx hb dX9_meanOf_74 ?_
        refine lv_ladd hx hb dX9_meanOf_75 ?_
        refine lv_lstore_n (lv' := [(2, .long (i10 + (i9 * i8.toInt64))), (0, .ref q_t), (1, .int x1), (4, .int x4)]) hx hb dX9_meanOf_76 rfl hl (by decide) rfl (fun ls hl => ?_)
        refine lv_aload_n hx hb dX9_meanOf_77 rfl (lv_at hl 1 rfl) ?_
        obtain ⟨z12, hc11, h⟩ := bd_some h
        refine cWv (runV (As := []) (rest := []) C (mX9_putsBack l D a (q_t := q_t) (Q_t := Q_t) hc11 H.size) lk_V_9_346 okN_X9_putsBack ⟨Nat.le_of_ble_eq_true rfl, Nat.le_of_ble_eq_true rfl⟩ ⟨rfl, rfl⟩ (preV (preM hK hP hD) (recvOf hK hP 0 rfl (ci := 9) rfl)) hl.1 rfl (Nat.le_of_ble_eq_true rfl) dX9_meanOf_78 ⟨Nat.le_of_ble_eq_true rfl, Nat.le_of_ble_eq_true rfl⟩) hP hD hS hA (fun H locs hP hD hS => ?_)
        have hP : va_P D classes (rc9 a q_t Q_t z12) H := hP
        have hD : va_D A (rc9 a q_t Q_t z12) := hD
        refine lv_iinc (v := x4 + 1) (lv' := [(4, .int (x4 + 1)), (2, .long (i10 + (i9 * i8.toInt64))), (0, .ref q_t), (1, .int x1)]) hx hb dX9_meanOf_81 hl (k := 3) rfl rfl (by decide) rfl (fun ls hl => ?_)
        refine lv_goto (tgt := 9) hx hb dX9_meanOf_84 (by decide) ?_
        exact ih z12 (i10 + (i9 * i8.toInt64)) (x4 + 1) _ _ ls h hP hD hS (lv_sub hl [2, 3, 1, 0] rfl)
      refine lv_if_ge (tgt := 58) hx hb dX9_meanOf_50 (by decide) (fun c13 => ?_) (fun c13 => ?_)
      · have h := ite_t c13 h
        refine lv_aload_n hx hb dX9_meanOf_58 rfl (lv_at hl 2 rfl) ?_
        refine lv_iload_n hx hb dX9_meanOf_59 rfl (lv_at hl 3 rfl) ?_
        refine lv_iconst (v := 4) hx hb dX9_meanOf_60 (by decide) ?_
        obtain ⟨r15, hc14, h⟩ := bd_some h
        refine cRi (runV (As := [.int x1, .int 4]) (rest := [.long r5, .long x2]) C (mX9_faultOf l D a (q_t := q_t) (Q_t := Q_t) hc14) lk_V_9_268 okN_X9_faultOf ⟨Nat.le_of_ble_eq_true rfl, Nat.le_of_ble_eq_true rfl⟩ ⟨rfl, rfl⟩ (preV (preR hK hP) (recvOf hK hP 0 rfl (ci := 9) rfl)) hl.1 rfl (Nat.le_of_ble_eq_true rfl) dX9_meanOf_61 ⟨Nat.le_of_ble_eq_true rfl, Nat.le_of_ble_eq_true rfl⟩) ?_
        refine lv_iconst (v := 1) hx hb dX9_meanOf_64 (by decide) ?_
        refine lv_icmp_ne (tgt := 72) hx hb dX9_meanOf_65 (by decide) (fun c16 => ?_) (fun c16 => ?_)
        · have h := ite_f c16 h
          refine lv_iconst (v := 0) hx hb dX9_meanOf_72 (by decide) ?_
          exact hJ7 0 r5 x2 _ _ ls h hP hD hS (lv_sub hl [2, 3, 5] rfl)
        · have h := ite_t c16 h
          refine lv_iconst (v := 1) hx hb dX9_meanOf_68 (by decide) ?_
          refine lv_goto (tgt := 73) hx hb dX9_meanOf_69 (by decide) ?_
          exact hJ7 1 r5 x2 _ _ ls h hP hD hS (lv_sub hl [2, 3, 5] rfl)
      · have h := ite_f c13 h
        refine lv_iload hx hb dX9_meanOf_53 (lv_at hl 0 rfl) ?_
        refine lv_goto (tgt := 73) hx hb dX9_meanOf_55 (by decide) ?_
        exact hJ7 ((gT z6 24 4) - (gT z6 25 4)) r5 x2 _ _ ls h hP hD hS (lv_sub hl [2, 3, 5] rfl)

set_option maxHeartbeats 4000000 in
set_option maxRecDepth 100000 in
theorem mX9_meanOf (l : Launch) (D : va_G) (a : Nat → ClassId) {q_t : Nat} {Q_t : Nat → Nat} {z_t : Sx} {x1 : Int32} {y : Int64 × Sx} (h : fX9_meanOf z_t x1 = some y) (sz : Nat) : CMl (S := Unit) l MX9_meanOf 4 90 0 0 D a [.ref q_t, .int x1] (rc9 a q_t Q_t z_t) sz (fun r _ => r = y.1) (fun _ => rc9 a q_t Q_t y.2) := by
  unfold fX9_meanOf at h
  refine entMl (by decide) (Nat.le_of_ble_eq_true rfl) ?_
  intro p e s m below meth c C hK A hA hP hD ls hl
  obtain ⟨hx, hb, hml, hown, hts, hr, hlocks, hnm⟩ := id C
  have hb : c.code = cX9_meanOf := hb
  have hown : s.vm.findClass RX9 = some m.cls := hown
  have hS : va_S A s.heap s.heap [] := va_S.rf
  have hl : lv_has ls 8 [(0, .ref q_t), (1, .int x1)] := hl
  refine lv_lconst (v := 0) hx hb dX9_meanOf_0 (by decide) ?_
  refine lv_lstore_n (lv' := [(2, .long 0), (0, .ref q_t), (1, .int x1)]) hx hb dX9_meanOf_1 rfl hl (by decide) rfl (fun ls hl => ?_)
  refine lv_aload_n hx hb dX9_meanOf_2 rfl (lv_at hl 1 rfl) ?_
  obtain ⟨z2, hc1, h⟩ := bd_some h
  refine cWv (runV (As := []) (rest := []) C (mX9_keeps l D a (q_t := q_t) (Q_t := Q_t) hc1 s.heap.size) lk_V_9_343 okN_X9_keeps ⟨Nat.le_of_ble_eq_true rfl, Nat.le_of_ble_eq_true rfl⟩ ⟨rfl, rfl⟩ (preV (preM hK hP hD) (recvOf hK hP 0 rfl (ci := 9) rfl)) hl.1 rfl (Nat.le_of_ble_eq_true rfl) dX9_meanOf_3 ⟨Nat.le_of_ble_eq_true rfl, Nat.le_of_ble_eq_true rfl⟩) hP hD hS hA (fun H locs hP hD hS => ?_)
  have hP : va_P D classes (rc9 a q_t Q_t z2) H := hP
  have hD : va_D A (rc9 a q_t Q_t z2) := hD
  refine lv_iconst (v := 0) hx hb dX9_meanOf_6 (by decide) ?_
  refine lv_istore (lv' := [(4, .int 0), (2, .long 0), (0, .ref q_t), (1, .int x1)]) hx hb dX9_meanOf_7 hl (by decide) rfl (fun ls hl => ?_)
  refine wX9_meanOf_9 C hK hA FU z2 0 0 _ _ ls h hP hD hS (lv_sub hl [2, 3, 1, 0] rfl)

set_option maxHeartbeats 4000000 in
set_option maxRecDepth 100000 in
theorem mX9_mend (l : Launch) (D : va_G) (a : Nat → ClassId) {q_t : Nat} {Q_t : Nat → Nat} {z_t : Sx} {x1 : Int32} {y : Int32 × Sx} (h : fX9_mend z_t x1 = some y) (sz : Nat) : CMi (S := Unit) l MX9_mend 2 44 0 0 D a [.ref q_t, .int x1] (rc9 a q_t Q_t z_t) sz (fun r _ => r = y.1) (fun _ => rc9 a q_t Q_t y.2) := by
  unfold fX9_mend at h
  refine entMi (by decide) (Nat.le_of_ble_eq_true rfl) ?_
  intro p e s m below meth c C hK A hA hP hD ls hl
  obtain ⟨hx, hb, hml, hown, hts, hr, hlocks, hnm⟩ := id C
  have hb : c.code = cX9_mend := hb
  have hown : s.vm.findClass RX9 = some m.cls := hown
  have hS : va_S A s.heap s.heap [] := va_S.rf
  have hl : lv_has ls 2 [(0, .ref q_t), (1, .int x1)] := hl
  refine lv_aload_n hx hb dX9_mend_0 rfl (lv_at hl 0 rfl) ?_
  refine lv_iload_n hx hb dX9_mend_1 rfl (lv_at hl 1 rfl) ?_
  obtain ⟨r2, hc1, h⟩ := bd_some h
  refine cRi (runV (As := [.int x1]) (rest := []) C (mX9_isFault l D a (q_t := q_t) (Q_t := Q_t) hc1) lk_V_9_280 okN_X9_isFault ⟨Nat.le_of_ble_eq_true rfl, Nat.le_of_ble_eq_true rfl⟩ ⟨rfl, rfl⟩ (preV (preR hK hP) (recvOf hK hP 0 rfl (ci := 9) rfl)) hl.1 rfl (Nat.le_of_ble_eq_true rfl) dX9_mend_2 ⟨Nat.le_of_ble_eq_true rfl, Nat.le_of_ble_eq_true rfl⟩) ?_
  obtain ⟨J3, eJ3, h⟩ := jn_some h
  have hJ3 : ∀ (H : Heap) (locs : List Loc) (ls : Array Slot), J3 = some y → va_P D classes (rc9 a q_t Q_t z_t) H → va_D A (rc9 a q_t Q_t z_t) → va_S A s.heap H locs → lv_has ls 2 [] → W p l e (rmM 2 0 0 44) s m #[.ref q_t, .int x1] below meth c H locs 0 0 (MQ below (va_Qi (fun r (_ : Unit) => r = y.1) (Bw D A (fun _ => rc9 a q_t Q_t y.2)) A) #[.ref q_t, .int x1] s 0 0 A) (F0 m 17 ls []) := by
    intro H locs ls h hP hD hS hl
    rw [eJ3] at h
    refine lv_ldcw hx hb hown (hts _ t_1199) dX9_mend_17 ?_
    exact rMi C rfl h (g := fun y => rc9 a q_t Q_t y.2) (pr := fun y => y.1) hP hD hS dX9_mend_20
  refine lv_if_eq (tgt := 17) hx hb dX9_mend_5 (by decide) (fun c4 => ?_) (fun c4 => ?_)
  · have h := ite_t c4 h
    exact hJ3 _ _ ls h hP hD hS (lv_sub hl [] rfl)
  · have h := ite_f c4 h
    refine lv_aload_n hx hb dX9_mend_8 rfl (lv_at hl 0 rfl) ?_
    refine lv_iload_n hx hb dX9_mend_9 rfl (lv_at hl 1 rfl) ?_
    refine lv_iconst (v := 4) hx hb dX9_mend_10 (by decide) ?_
    obtain ⟨r6, hc5, h⟩ := bd_some h
    refine cRi (runV (As := [.int x1, .int 4]) (rest := []) C (mX9_faultOf l D a (q_t := q_t) (Q_t := Q_t) hc5) lk_V_9_268 okN_X9_faultOf ⟨Nat.le_of_ble_eq_true rfl, Nat.le_of_ble_eq_true rfl⟩ ⟨rfl, rfl⟩ (preV (preR hK hP) (recvOf hK hP 0 rfl (ci := 9) rfl)) hl.1 rfl (Nat.le_of_ble_eq_true rfl) dX9_mend_11 ⟨Nat.le_of_ble_eq_true rfl, Nat.le_of_ble_eq_true rfl⟩) ?_
    refine lv_if_le (tgt := 21) hx hb dX9_mend_14 (by decide) (fun c7 => ?_) (fun c7 => ?_)
    · have h := ite_t c7 h
      refine lv_aload_n hx hb dX9_mend_21 rfl (lv_at hl 0 rfl) ?_
      refine va_get (D := D) (v := .ref (Q_t 24)) (C := RX9) (T := TX9) (N := 36) hx hb hts iX9 hown hK.1 hP 0 rfl rfl 24 (by decide) (hts _ t_906) (fun _ h9 => h9) rfl dX9_mend_22 ?_
      refine lv_bipush (v := 44) hx hb dX9_mend_25 (by decide) ?_
      refine lv_bipush (v := 6) hx hb dX9_mend_27 (by decide) ?_
      refine lv_iload_n hx hb dX9_mend_29 rfl (lv_at hl 1 rfl) ?_
      refine lv_imul hx hb dX9_mend_30 ?_
      refine lv_iadd hx hb dX9_mend_31 ?_
      refine lv_iconst (v := 4) hx hb dX9_mend_32 (by decide) ?_
      refine lv_iadd hx hb dX9_mend_33 ?_
      refine lv_iconst (v := 2) hx hb dX9_mend_34 (by decide) ?_
      obtain ⟨g8, h⟩ := gd_some h
      refine ast_i hx hb hK.1 hP hD hS 11 0 rfl rfl (((44 + (6 * x1)) + 4).toNatClampNeg) (ix_g g8) dX9_mend_35 (fun H locs hP hD hS => ?_)
      rw [u9_24] at hP hD
      refine lv_aload_n hx hb dX9_mend_36 rfl (lv_at hl 0 rfl) ?_
      refine va_get (D := D) (v := .ref (Q_t 24)) (C := RX9) (T := TX9) (N := 36) hx hb hts iX9 hown hK.1 hP 0 rfl rfl 24 (by decide) (hts _ t_906) (fun _ h9 => h9) rfl dX9_mend_37 ?_
      refine lv_iconst (v := 5) hx hb dX9_mend_40 (by decide) ?_
      refine lv_dup2_11 hx hb dX9_mend_41 rfl rfl ?_
      refine ald_i hx hb hK.1 hP 11 0 rfl rfl 5 (ix_lit (by decide)) dX9_mend_42 ?_
      refine lv_aload_n hx hb dX9_mend_43 rfl (lv_at hl 0 rfl) ?_
      refine lv_iload_n hx hb dX9_mend_44 rfl (lv_at hl 1 rfl) ?_
      refine lv_iconst (v := 2) hx hb dX9_mend_45 (by decide) ?_
      obtain ⟨r10, hc9, h⟩ := bd_some h
      refine cRi (runV (As := [.int x1, .int 2]) (rest := [.int (gT (sT z_t 24 (((44 + (6 * x1)) + 4).toNatClampNeg) 2) 24 5), .int 5, .ref (Q_t 24)]) C (mX9_kindOf l D a (q_t := q_t) (Q_t := Q_t) hc9) lk_V_9_275 okN_X9_kindOf ⟨Nat.le_of_ble_eq_true rfl, Nat.le_of_ble_eq_true rfl⟩ ⟨rfl, rfl⟩ (preV (preR hK hP) (recvOf hK hP 0 rfl (ci := 9) rfl)) hl.1 rfl (Nat.le_of_ble_eq_true rfl) dX9_mend_46 ⟨Nat.le_of_ble_eq_true rfl, Nat.le_of_ble_eq_true rfl⟩) ?_
      refine lv_isub hx hb dX9_mend_49 ?_
      refine lv_topi (fun v11 ev11 => ?_)
      have h := nm_some h v11 ev11
      refine ast_i hx hb hK.1 hP hD hS 11 0 rfl rfl 5 (ix_lit (by decide)) dX9_mend_50 (fun H locs hP hD hS => ?_)
      rw [u9_24] at hP hD
      refine lv_aload_n hx hb dX9_mend_51 rfl (lv_at hl 0 rfl) ?_
      refine va_get (D := D) (v := .ref (Q_t 24)) (C := RX9) (T := TX9) (N := 36) hx hb hts iX9 hown hK.1 hP 0 rfl rfl 24 (by decide) (hts _ t_906) (fun _ h9 => h9) rfl dX9_mend_52 ?_
      refine lv_iconst (v := 5) hx hb dX9_mend_55 (by decide) ?_
      refine ald_i hx hb hK.1 hP 11 0 rfl rfl 5 (ix_lit (by decide)) dX9_mend_56 ?_
      exact rMi C rfl h (g := fun y => rc9 a q_t Q_t y.2) (pr := fun y => y.1) hP hD hS dX9_mend_57
    · have h := ite_f c7 h
      exact hJ3 _ _ ls h hP hD hS (lv_sub hl [] rfl)

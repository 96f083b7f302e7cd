set_option maxHeartbeats 4000000 in
set_option maxRecDepth 100000 in
theorem wX9_fact_2 {p : Program} {l : Launch} {e : Env} {s : State} {m : MethodId} {below : List Frame} {meth : Method} {c : Code} {D : va_G} {a : Nat → ClassId} {A : Nat → Prop} {q_t : Nat} {Q_t : Nat → Nat} (C : Cx p s m #[.ref q_t] meth c MX9_fact) (hK : KK D a s) (hA : ∀ q, s.heap.size ≤ q → A q) {y : Int32 × Sx} {k75 : Sx → Option (Int32 × Sx)} (hk75 : ∀ (z_tk : Sx) (H : Heap) (locs : List Loc) (ls : Array Slot), k75 z_tk = some y → va_P D classes (rc9 a q_t Q_t z_tk) H → va_D A (rc9 a q_t Q_t z_tk) → va_S A s.heap H locs → lv_has ls 3 [(0, .ref q_t)] → W p l e (rmM 7 0 0 154) s m #[.ref q_t] below meth c H locs 0 0 (MQ below (va_Qi (fun r (_ : Unit) => r = y.1) (Bw D A (fun _ => rc9 a q_t Q_t y.2)) A) #[.ref q_t] s 0 0 A) (F0 m 75 ls [])) : ∀ (n : Nat) (z_t : Sx) (x1 : Int32) (H : Heap) (locs : List Loc) (ls : Array Slot), lX9_fact_2 k75 n z_t x1 = some y → va_P D classes (rc9 a q_t Q_t z_t) H → va_D A (rc9 a q_t Q_t z_t) → va_S A s.heap H locs → lv_has ls 3 [(0, .ref q_t), (1, .int x1)] → W p l e (rmM 7 0 0 154) s m #[.ref q_t] below meth c H locs 0 0 (MQ below (va_Qi (fun r (_ : Unit) => r = y.1) (Bw D A (fun _ => rc9 a q_t Q_t y.2)) A) #[.ref q_t] s 0 0 A) (F0 m 2 ls []) := by
  obtain ⟨hx, hb, hml, hown, hts, hr, hlocks, hnm⟩ := id C
  have hb : c.code = cX9_fact := hb
  have hown : s.vm.findClass RX9 = some m.cls := hown
  intro n
  induction n with
  | zero => intro z_t x1 H locs ls h; rw [lX9_fact_2] at h; cases h
  | succ n ih =>
    intro z_t x1 H locs ls h hP hD hS hl
    rw [lX9_fact_2] at h
    refine lv_iload_n hx hb dX9_fact_2 rfl (lv_at hl 1 rfl) ?_
    refine lv_if_eq (tgt := 75) hx hb dX9_fact_3 (by decide) (fun c1 => ?_) (fun c1 => ?_)
    · have h := ite_t c1 h
      exact hk75 z_t _ _ ls h hP hD hS (lv_sub hl [0] rfl)
    · have h := ite_f c1 h
      refine lv_iconst (v := 0) hx hb dX9_fact_6 (by decide) ?_
      refine lv_istore_n (lv' := [(1, .int 0), (0, .ref q_t)]) hx hb dX9_fact_7 rfl hl (by decide) rfl (fun ls hl => ?_)
      refine lv_aload_n hx hb dX9_fact_8 rfl (lv_at hl 1 rfl) ?_
      obtain ⟨r3, z4, hc2, h⟩ := bd2_some h
      refine cWi (runV (As := []) (rest := []) C (mX9_see l D a (q_t := q_t) (Q_t := Q_t) hc2 H.size) lk_V_9_93 okN_X9_see ⟨Nat.le_of_ble_eq_true rfl, Nat.le_of_ble_eq_true rfl⟩ ⟨rfl, rfl⟩ (preV (preM hK hP hD) (recvOf hK hP 0 rfl (ci := 9) rfl)) hl.1 rfl (Nat.le_of_ble_eq_true rfl) dX9_fact_9 ⟨Nat.le_of_ble_eq_true rfl, Nat.le_of_ble_eq_true rfl⟩) hP hD hS hA (fun H locs hP hD hS => ?_)
      have hP : va_P D classes (rc9 a q_t Q_t z4) H := hP
      have hD : va_D A (rc9 a q_t Q_t z4) := hD
      refine lv_istore_n (lv' := [(2, .int r3), (1, .int 0), (0, .ref q_t)]) hx hb dX9_fact_12 rfl hl (by decide) rfl (fun ls hl => ?_)
      refine lv_aload_n hx hb dX9_fact_13 rfl (lv_at hl 2 rfl) ?_
      refine lv_ldc2 hx hb hown (hts _ t_1101) dX9_fact_14 ?_
      obtain ⟨r6, z7, hc5, h⟩ := bd2_some h
      refine cWi (runV (As := [.long 7237492]) (rest := []) C (mX9_isWord l D a (q_t := q_t) (Q_t := Q_t) hc5 H.size) lk_V_9_101 okN_X9_isWord ⟨Nat.le_of_ble_eq_true rfl, Nat.le_of_ble_eq_true rfl⟩ ⟨rfl, rfl⟩ (preV (preM hK hP hD) (recvOf hK hP 0 rfl (ci := 9) rfl)) hl.1 rfl (Nat.le_of_ble_eq_true rfl) dX9_fact_17 ⟨Nat.le_of_ble_eq_true rfl, Nat.le_of_ble_eq_true rfl⟩) hP hD hS hA (fun H locs hP hD hS => ?_)
      have hP : va_P D classes (rc9 a q_t Q_t z7) H := hP
      have hD : va_D A (rc9 a q_t Q_t z7) := hD
      obtain ⟨J8, eJ8, h⟩ := jn_some h
      have hJ8 : ∀ (z9 : Sx) (i10 : Int32) (H : Heap) (locs : List Loc) (ls : Array Slot), J8 z9 i10 = some y → va_P D classes (rc9 a q_t Q_t z9) H → va_D A (rc9 a q_t Q_t z9) → va_S A s.heap H locs → lv_has ls 3 [(0, .ref q_t), (1, .int i10)] → W p l e (rmM 7 0 0 154) s m #[.ref q_t] below meth c H locs 0 0 (MQ below (va_Qi (fun r (_ : Unit) => r = y.1) (Bw D A (fun _ => rc9 a q_t Q_t y.2)) A) #[.ref q_t] s 0 0 A) (F0 m 72 ls []) := by
        intro z9 i10 H locs ls h hP hD hS hl
        rw [eJ8] at h
        refine lv_goto (tgt := 2) hx hb dX9_fact_72 (by decide) ?_
        exact ih z9 i10 _ _ ls h hP hD hS (lv_sub hl [0, 1] rfl)
      refine lv_if_eq (tgt := 43) hx hb dX9_fact_20 (by decide) (fun c11 => ?_) (fun c11 => ?_)
      · have h := ite_t c11 h
        refine lv_iload_n hx hb dX9_fact_43 rfl (lv_at hl 0 rfl) ?_
        refine lv_bipush (v := 91) hx hb dX9_fact_44 (by decide) ?_
        refine lv_icmp_ne (tgt := 72) hx hb dX9_fact_46 (by decide) (fun c12 => ?_) (fun c12 => ?_)
        · have h := ite_f c12 h
          exact hJ8 z7 0 _ _ ls h hP hD hS (lv_sub hl [2, 1] rfl)
        · have h := ite_t c12 h
          refine lv_aload_n hx hb dX9_fact_49 rfl (lv_at hl 2 rfl) ?_
          refine lv_bipush (v := 91) hx hb dX9_fact_50 (by decide) ?_
          obtain ⟨r14, z15, hc13, h⟩ := bd2_some h
          refine cWi (runV (As := [.int 91]) (rest := []) C (mX9_opens l D a (q_t := q_t) (Q_t := Q_t) hc13 H.size) lk_V_9_182 okN_X9_opens ⟨Nat.le_of_ble_eq_true rfl, Nat.le_of_ble_eq_true rfl⟩ ⟨rfl, rfl⟩ (preV (preM hK hP hD) (recvOf hK hP 0 rfl (ci := 9) rfl)) hl.1 rfl (Nat.le_of_ble_eq_true rfl) dX9_fact_52 ⟨Nat.le_of_ble_eq_true rfl, Nat.le_of_ble_eq_true rfl⟩) hP hD hS hA (fun H locs hP hD hS => ?_)
          have hP : va_P D classes (rc9 a q_t Q_t z15) H := hP
          have hD : va_D A (rc9 a q_t Q_t z15) := hD
          refine lv_if_ne (tgt := 60) hx hb dX9_fact_55 (by decide) (fun c16 => ?_) (fun c16 => ?_)
          · have h := ite_f c16 h
            refine lv_aload_n hx hb dX9_fact_60 rfl (lv_at hl 2 rfl) ?_
            refine lv_dup hx hb dX9_fact_61 rfl ?_
            refine va_get (D := D) (v := .int (gI z15 12)) (C := RX9) (T := TX9) (N := 36) hx hb hts iX9 hown hK.1 hP 0 rfl rfl 12 (by decide) (hts _ t_894) (fun _ h9 => h9) rfl dX9_fact_62 ?_
            refine lv_iconst (v := 1) hx hb dX9_fact_65 (by decide) ?_
            refine lv_iadd hx hb dX9_fact_66 ?_
            refine va_put (D := D) (v := .int ((gI z15 12) + 1)) (C := RX9) (T := TX9) (N := 36) hx hb hts iX9 tyX9 tyX9_ok nmX9 hown hK.1 hP hD hS 0 rfl rfl 12 (by decide) (hts _ t_894) (fun _ h9 => h9) rfl (tyX9_ok 12 (by decide)) rfl rfl (Nat.le_of_ble_eq_true rfl) dX9_fact_67 (fun H locs hP hD hS => ?_)
            rw [u9_12] at hP hD
            refine lv_iconst (v := 1) hx hb dX9_fact_70 (by decide) ?_
            refine lv_istore_n (lv' := [(1, .int 1), (2, .int r3), (0, .ref q_t)]) hx hb dX9_fact_71 rfl hl (by decide) rfl (fun ls hl => ?_)
            exact hJ8 (sI z15 12 ((gI z15 12) + 1)) 1 _ _ ls h hP hD hS (lv_sub hl [2, 0] rfl)
          · have h := ite_t c16 h
            refine lv_iconst (v := 0) hx hb dX9_fact_58 (by decide) ?_
            exact rMz C rfl (Or.inl rfl) h (g := fun y => rc9 a q_t Q_t y.2) (pr := fun y => y.1) hP hD hS dX9_fact_59
      · have h := ite_f c11 h
        refine lv_aload_n hx hb dX9_fact_23 rfl (lv_at hl 2 rfl) ?_
        refine lv_bipush (v := 11) hx hb dX9_fact_24 (by decide) ?_
        obtain ⟨r18, z19, hc17, h⟩ := bd2_some h
        refine cWi (runV (As := [.int 11]) (rest := []) C (mX9_opens l D a (q_t := q_t) (Q_t := Q_t) hc17 H.size) lk_V_9_182 okN_X9_opens ⟨Nat.le_of_ble_eq_true rfl, Nat.le_of_ble_eq_true rfl⟩ ⟨rfl, rfl⟩ (preV (preM hK hP hD) (recvOf hK hP 0 rfl (ci := 9) rfl)) hl.1 rfl (Nat.le_of_ble_eq_true rfl) dX9_fact_26 ⟨Nat.le_of_ble_eq_true rfl, Nat.le_of_ble_eq_true rfl⟩) hP hD hS hA (fun H locs hP hD hS => ?_)
        have hP : va_P D classes (rc9 a q_t Q_t z19) H := hP
        have hD : va_D A (rc9 a q_t Q_t z19) := hD
        refine lv_if_ne (tgt := 34) hx hb dX9_fact_29 (by decide) (fun c20 => ?_) (fun c20 => ?_)
        · have h := ite_f c20 h
          refine lv_aload_n hx hb dX9_fact_34 rfl (lv_at hl 2 rfl) ?_
          obtain ⟨z22, hc21, h⟩ := bd_some h
          refine cWv (runV (As := []) (rest := []) C (mX9_passWord l D a (q_t := q_t) (Q_t := Q_t) hc21 H.size) lk_V_9_105 okN_X9_passWord ⟨Nat.le_of_ble_eq_true rfl, Nat.le_of_ble_eq_true rfl⟩ ⟨rfl, rfl⟩ (preV (preM hK hP hD) (recvOf hK hP 0 rfl (ci := 9) rfl)) hl.1 rfl (Nat.le_of_ble_eq_true rfl) dX9_fact_35 ⟨Nat.le_of_ble_eq_true rfl, Nat.le_of_ble_eq_true rfl⟩) hP hD hS hA (fun H locs hP hD hS => ?_)
          have hP : va_P D classes (rc9 a q_t Q_t z22) H := hP
          have hD : va_D A (rc9 a q_t Q_t z22) := hD
          refine lv_iconst (v := 1) hx hb dX9_fact_38 (by decide) ?_
          refine lv_istore_n (lv' := [(1, .int 1), (2, .int r3), (0, .ref q_t)]) hx hb dX9_fact_39 rfl hl (by decide) rfl (fun ls hl => ?_)
          refine lv_goto (tgt := 72) hx hb dX9_fact_40 (by decide) ?_
          exact hJ8 z22 1 _ _ ls h hP hD hS (lv_sub hl [2, 0] rfl)
        · have h := ite_t c20 h
          refine lv_iconst (v := 0) hx hb dX9_fact_32 (by decide) ?_
          exact rMz C rfl (Or.inl rfl) h (g := fun y => rc9 a q_t Q_t y.2) (pr := fun y => y.1) hP hD hS dX9_fact_33

set_option maxHeartbeats 4000000 in
set_option maxRecDepth 100000 in
theorem mX9_fact (l : Launch) (D : va_G) (a : Nat → ClassId) {q_t : Nat} {Q_t : Nat → Nat} {z_t : Sx} {y : Int32 × Sx} (h : fX9_fact z_t = some y) (sz : Nat) : CMi (S := Unit) l MX9_fact 7 154 0 0 D a [.ref q_t] (rc9 a q_t Q_t z_t) sz (fun r _ => r = y.1) (fun _ => rc9 a q_t Q_t y.2) := by
  unfold fX9_fact at h
  refine entMi (by decide) (Nat.le_of_ble_eq_true rfl) ?_
  intro p e s m below meth c C hK A hA hP hD ls hl
  obtain ⟨hx, hb, hml, hown, hts, hr, hlocks, hnm⟩ := id C
  have hb : c.code = cX9_fact := hb
  have hown : s.vm.findClass RX9 = some m.cls := hown
  have hS : va_S A s.heap s.heap [] := va_S.rf
  have hl : lv_has ls 3 [(0, .ref q_t)] := hl
  refine lv_iconst (v := 1) hx hb dX9_fact_0 (by decide) ?_
  refine lv_istore_n (lv' := [(1, .int 1), (0, .ref q_t)]) hx hb dX9_fact_1 rfl hl (by decide) rfl (fun ls hl => ?_)
  refine wX9_fact_2 C hK hA ?_ FU z_t 1 _ _ ls h hP hD hS (lv_sub hl [1, 0] rfl)
  · intro z23 H locs ls h hP hD hS hl
    refine lv_aload_n hx hb dX9_fact_75 rfl (lv_at hl 0 rfl) ?_
    obtain ⟨r25, z26, hc24, h⟩ := bd2_some h
    refine cWi (runV (As := []) (rest := []) C (mX9_compare l D a (q_t := q_t) (Q_t := Q_t) hc24 H.size) lk_V_9_185 okN_X9_compare ⟨Nat.le_of_ble_eq_true rfl, Nat.le_of_ble_eq_true rfl⟩ ⟨rfl, rfl⟩ (preV (preM hK hP hD) (recvOf hK hP 0 rfl (ci := 9) rfl)) hl.1 rfl (Nat.le_of_ble_eq_true rfl) dX9_fact_76 ⟨Nat.le_of_ble_eq_true rfl, Nat.le_of_ble_eq_true rfl⟩) hP hD hS hA (fun H locs hP hD hS => ?_)
    have hP : va_P D classes (rc9 a q_t Q_t z26) H := hP
    have hD : va_D A (rc9 a q_t Q_t z26) := hD
    obtain ⟨g27, h⟩ := gd_some h
    exact rMz C rfl (g27) h (g := fun y => rc9 a q_t Q_t y.2) (pr := fun y => y.1) hP hD hS dX9_fact_79

set_option maxHeartbeats 4000000 in
set_option maxRecDepth 100000 in
theorem mX9_strength (l : Launch) (D : va_G) (a : Nat → ClassId) {x0 : Int32} {y : Int32} (h : fX9_strength x0 = some y) : CRi l MX9_strength 0 0 D a [.int x0] ([]) (fun r => r = y) := by
  unfold fX9_strength at h
  refine entR (by decide) (Nat.le_of_ble_eq_true rfl) ?_
  intro p e s m below meth c C hK hP ls hl
  obtain ⟨hx, hb, hml, hown, hts, hr, hlocks, hnm⟩ := id C
  have hb : c.code = cX9_strength := hb
  have hown : s.vm.findClass RX9 = some m.cls := hown
  have hl : lv_has ls 1 [(0, .int x0)] := hl
  refine lv_iload_n hx hb dX9_strength_0 rfl (lv_at hl 0 rfl) ?_
  refine lv_bipush (v := 13) hx hb dX9_strength_1 (by decide) ?_
  refine lv_icmp_ne (tgt := 10) hx hb dX9_strength_3 (by decide) (fun c1 => ?_) (fun c1 => ?_)
  · have h := ite_f c1 h
    refine lv_iload_n hx hb dX9_strength_10 rfl (lv_at hl 0 rfl) ?_
    refine lv_bipush (v := 12) hx hb dX9_strength_11 (by decide) ?_
    refine lv_icmp_ne (tgt := 20) hx hb dX9_strength_13 (by decide) (fun c2 => ?_) (fun c2 => ?_)
    · have h := ite_f c2 h
      refine lv_iload_n hx hb dX9_strength_20 rfl (lv_at hl 0 rfl) ?_
      refine lv_bipush (v := 11) hx hb dX9_strength_21 (by decide) ?_
      refine lv_icmp_ne (tgt := 30) hx hb dX9_strength_23 (by decide) (fun c3 => ?_) (fun c3 => ?_)
      · have h := ite_f c3 h
        refine lv_iconst (v := 0) hx hb dX9_strength_30 (by decide) ?_
        exact rRi C rfl (Option.some.inj h) dX9_strength_31
      · have h := ite_t c3 h
        refine lv_iconst (v := 3) hx hb dX9_strength_26 (by decide) ?_
        refine lv_goto (tgt := 31) hx hb dX9_strength_27 (by decide) ?_
        exact rRi C rfl (Option.some.inj h) dX9_strength_31
    · have h := ite_t c2 h
      refine lv_iconst (v := 2) hx hb dX9_strength_16 (by decide) ?_
      refine lv_goto (tgt := 31) hx hb dX9_strength_17 (by decide) ?_
      exact rRi C rfl (Option.some.inj h) dX9_strength_31
  · have h := ite_t c1 h
    refine lv_iconst (v := 1) hx hb dX9_strength_6 (by decide) ?_
    refine lv_goto (tgt := 31) hx hb dX9_strength_7 (by decide) ?_
    exact rRi C rfl (Option.some.inj h) dX9_strength_31

set_option maxHeartbeats 4000000 in
set_option maxRecDepth 100000 in
theorem wX9_settles_0 {p : Program} {l : Launch} {e : Env} {s : State} {m : MethodId} {below : List Frame} {meth : Method} {c : Code} {D : va_G} {a : Nat → ClassId} {A : Nat → Prop} {q_t : Nat} {Q_t : Nat → Nat} {x10 : Int32} {x1 : Int32} (C : Cx p s m #[.ref q_t, .int x10] meth c MX9_settles) (hK : KK D a s) (hA : ∀ q, s.heap.size ≤ q → A q) {y : Sx} : ∀ (n : Nat) (z_t : Sx) (H : Heap) (locs : List Loc) (ls : Array Slot), lX9_settles_0 x1 n z_t = some y → va_P D classes (rc9 a q_t Q_t z_t) H → va_D A (rc9 a q_t Q_t z_t) → va_S A s.heap H locs → lv_has ls 2 [(0, .ref q_t), (1, .int x1)] → W p l e (rmM 1 0 0 22) s m #[.ref q_t, .int x10] below meth c H locs 0 0 (MQ below (va_Qv (fun (_ : Unit) => True) (Bw D A (fun _ => rc9 a q_t Q_t y)) A) #[.ref q_t, .int x10] s 0 0 A) (F0 m 0 ls []) := by
  obtain ⟨hx, hb, hml, hown, hts, hr, hlocks, hnm⟩ := id C
  have hb : c.code = cX9_settles := hb
  have hown : s.vm.findClass RX9 = some m.cls := hown
  intro n
  induction n with
  | zero => intro z_t H locs ls h; rw [lX9_settles_0] at h; cases h
  | succ n ih =>
    intro z_t H locs ls h hP hD hS hl
    rw [lX9_settles_0] at h
    refine lv_aload_n hx hb dX9_settles_0 rfl (lv_at hl 0 rfl) ?_
    refine va_get (D := D) (v := .int (gI z_t 20)) (C := RX9) (T := TX9) (N := 36) hx hb hts iX9 hown hK.1 hP 0 rfl rfl 20 (by decide) (hts _ t_902) (fun _ h9 => h9) rfl dX9_settles_1 ?_
    refine lv_if_le (tgt := 76) hx hb dX9_settles_4 (by decide) (fun c1 => ?_) (fun c1 => ?_)
    · have h := ite_t c1 h
      exact rMv C rfl h (g := fun y => rc9 a q_t Q_t y) hP hD hS dX9_settles_76
    · have h := ite_f c1 h
      refine lv_aload_n hx hb dX9_settles_7 rfl (lv_at hl 0 rfl) ?_
      refine va_get (D := D) (v := .ref (Q_t 19)) (C := RX9) (T := TX9) (N := 36) hx hb hts iX9 hown hK.1 hP 0 rfl rfl 19 (by decide) (hts _ t_901) (fun _ h9 => h9) rfl dX9_settles_8 ?_
      refine lv_aload_n hx hb dX9_settles_11 rfl (lv_at hl 0 rfl) ?_
      refine va_get (D := D) (v := .int (gI z_t 20)) (C := RX9) (T := TX9) (N := 36) hx hb hts iX9 hown hK.1 hP 0 rfl rfl 20 (by decide) (hts _ t_902) (fun _ h9 => h9) rfl dX9_settles_12 ?_
      refine lv_iconst (v := 1) hx hb dX9_settles_15 (by decide) ?_
      refine lv_isub hx hb dX9_settles_16 ?_
      obtain ⟨g2, h⟩ := gd_some h
      refine ald_i hx hb hK.1 hP 8 0 rfl rfl (((gI z_t 20) - 1).toNatClampNeg) (ix_g g2) dX9_settles_17 ?_
      obtain ⟨r4, hc3, h⟩ := bd_some h
      refine cRi (runS (As := [.int (gT z_t 19 (((gI z_t 20) - 1).toNatClampNeg))]) (rest := []) C (mX9_strength l D a hc3) lk_S_9_152 okN_X9_strength ⟨Nat.le_of_ble_eq_true rfl, Nat.le_of_ble_eq_true rfl⟩ ⟨rfl, rfl⟩ (preR hK (P_of_map (wc := []) hP [] rfl)) hl.1 rfl (Nat.le_of_ble_eq_true rfl) dX9_settles_18 ⟨Nat.le_of_ble_eq_true rfl, Nat.le_of_ble_eq_true rfl⟩) ?_
      refine lv_iload_n hx hb dX9_settles_21 rfl (lv_at hl 1 rfl) ?_
      refine lv_icmp_lt (tgt := 76) hx hb dX9_settles_22 (by decide) (fun c5 => ?_) (fun c5 => ?_)
      · have h := ite_t c5 h
        exact rMv C rfl h (g := fun y => rc9 a q_t Q_t y) hP hD hS dX9_settles_76
      · have h := ite_f c5 h
        refine lv_aload_n hx hb dX9_settles_25 rfl (lv_at hl 0 rfl) ?_
        refine lv_dup hx hb dX9_settles_26 rfl ?_
        refine va_get (D := D) (v := .int (gI z_t 20)) (C := RX9) (T := TX9) (N := 36) hx hb hts iX9 hown hK.1 hP 0 rfl rfl 20 (by decide) (hts _ t_902) (fun _ h9 => h9) rfl dX9_settles_27 ?_
        refine lv_iconst (v := 1) hx hb dX9_settles_30 (by decide) ?_
        refine lv_isub hx hb dX9_settles_31 ?_
        refine va_put (D := D) (v := .int ((gI z_t 20) - 1)) (C := RX9) (T := TX9) (N := 36) hx hb hts iX9 tyX9 tyX9_ok nmX9 hown hK.1 hP hD hS 0 rfl rfl 20 (by decide) (hts _ t_902) (fun _ h9 => h9) rfl (tyX9_ok 20 (by decide)) rfl rfl (Nat.le_of_ble_eq_true rfl) dX9_settles_32 (fun H locs hP hD hS => ?_)
        rw [u9_20] at hP hD
        refine lv_aload_n hx hb dX9_settles_35 rfl (lv_at hl 0 rfl) ?_
        refine lv_aload_n hx hb dX9_settles_36 rfl (lv_at hl 0 rfl) ?_
        refine va_get (D := D) (v := .ref (Q_t 19)) (C := RX9) (T := TX9) (N := 36) hx hb hts iX9 hown hK.1 hP 0 rfl rfl 19 (by decide) (hts _ t_901) (fun _ h9 => h9) rfl dX9_settles_37 ?_
        refine lv_aload_n hx hb dX9_settles_40 rfl (lv_at hl 0 rfl) ?_
        refine va_get (D := D) (v := .int ((gI z_t 20) - 1)) (C := RX9) (T := TX9) (N := 36) hx hb hts iX9 hown hK.1 hP 0 rfl rfl 20 (by decide) (hts _ t_902) (fun _ h9 => h9) rfl dX9_settles_41 ?_
        refine ald_i hx hb hK.1 hP 8 0 rfl rfl (((gI z_t 20) - 1).toNatClampNeg) (ix_g g2) dX9_settles_44 ?_
        refine lv_iconst (v := 0) hx hb dX9_settles_45 (by decide) ?_
        obtain ⟨z7, hc6, h⟩ := bd_some h
        refine cWv (runV (As := [.int (gT (sI z_t 20 ((gI z_t 20) - 1)) 19 (((gI z_t 20) - 1).toNatClampNeg)), .int 0]) (rest := []) C (mX9_puts l D a (q_t := q_t) (Q_t := Q_t) hc6 H.size) lk_V_9_156 okN_X9_puts ⟨Nat.le_of_ble_eq_true rfl, Nat.le_of_ble_eq_true rfl⟩ ⟨rfl, rfl⟩ (preV (preM hK hP hD) (recvOf hK hP 0 rfl (ci := 9) rfl)) hl.1 rfl (Nat.le_of_ble_eq_true rfl) dX9_settles_46 ⟨Nat.le_of_ble_eq_true rfl, Nat.le_of_ble_eq_true rfl⟩) hP hD hS hA (fun H locs hP hD hS => ?_)
        have hP : va_P D classes (rc9 a q_t Q_t z7) H := hP
        have hD : va_D A (rc9 a q_t Q_t z7) := hD
        refine lv_aload_n hx hb dX9_settles_49 rfl (lv_at hl 0 rfl) ?_
        refine va_get (D := D) (v := .ref (Q_t 19)) (C := RX9) (T := TX9) (N := 36) hx hb hts iX9 hown hK.1 hP 0 rfl rfl 19 (by decide) (hts _ t_901) (fun _ h9 => h9) rfl dX9_settles_50 ?_
        refine lv_aload_n hx hb dX9_settles_53 rfl (lv_at hl 0 rfl) ?_
        refine va_get (D := D) (v := .int (gI z7 20)) (C := RX9) (T := TX9) (N := 36) hx hb hts iX9 hown hK.1 hP 0 rfl rfl 20 (by decide) (hts _ t_902) (fun _ h9 => h9) rfl dX9_settles_54 ?_
        obtain ⟨g8, h⟩ := gd_some h
        refine ald_i hx hb hK.1 hP 8 0 rfl rfl ((gI z7 20).toNatClampNeg) (ix_g g8) dX9_settles_57 ?_
        refine lv_bipush (v := 11) hx hb dX9_settles_58 (by decide) ?_
        refine lv_icmp_ne (tgt := 0) hx hb dX9_settles_60 (by decide) (fun c9 => ?_) (fun c9 => ?_)
        · have h := ite_f c9 h
          exact ih z7 _ _ ls h hP hD hS (lv_sub hl [0, 1] rfl)
        · have h := ite_t c9 h
          refine lv_aload_n hx hb dX9_settles_63 rfl (lv_at hl 0 rfl) ?_
          refine lv_dup hx hb dX9_settles_64 rfl ?_
          refine va_get (D := D) (v := .int (gI z7 17)) (C := RX9) (T := TX9) (N := 36) hx hb hts iX9 hown hK.1 hP 0 rfl rfl 17 (by decide) (hts _ t_899) (fun _ h9 => h9) rfl dX9_settles_65 ?_
          refine lv_iconst (v := 1) hx hb dX9_settles_68 (by decide) ?_
          refine lv_isub hx hb dX9_settles_69 ?_
          refine va_put (D := D) (v := .int ((gI z7 17) - 1)) (C := RX9) (T := TX9) (N := 36) hx hb hts iX9 tyX9 tyX9_ok nmX9 hown hK.1 hP hD hS 0 rfl rfl 17 (by decide) (hts _ t_899) (fun _ h9 => h9) rfl (tyX9_ok 17 (by decide)) rfl rfl (Nat.le_of_ble_eq_true rfl) dX9_settles_70 (fun H locs hP hD hS => ?_)
          rw [u9_17] at hP hD
          refine lv_goto (tgt := 0) hx hb dX9_settles_73 (by decide) ?_
          exact ih (sI z7 17 ((gI z7 17) - 1)) _ _ ls h hP hD hS (lv_sub hl [0, 1] rfl)

set_option maxHeartbeats 4000000 in
set_option maxRecDepth 100000 in
theorem mX9_settles (l : Launch) (D : va_G) (a : Nat → ClassId) {q_t : Nat} {Q_t : Nat → Nat} {z_t : Sx} {x1 : Int32} {y : Sx} (h : fX9_settles z_t x1 = some y) (sz : Nat) : CMv (S := Unit) l MX9_settles 1 22 0 0 D a [.ref q_t, .int x1] (rc9 a q_t Q_t z_t) sz (fun _ => True) (fun _ => rc9 a q_t Q_t y) := by
  unfold fX9_settles at h
  refine entMv (by decide) (Nat.le_of_ble_eq_true rfl) ?_
  intro p e s m below meth c C hK A hA hP hD ls hl
  obtain ⟨hx, hb, hml, hown, hts, hr, hlocks, hnm⟩ := id C
  have hb : c.code = cX9_settles := hb
  have hown : s.vm.findClass RX9 = some m.cls := hown
  have hS : va_S A s.heap s.heap [] := va_S.rf
  have hl : lv_has ls 2 [(0, .ref q_t), (1, .int x1)] := hl
  refine wX9_settles_0 C hK hA FU z_t _ _ ls h hP hD hS (lv_sub hl [0, 1] rfl)

set_option maxHeartbeats 4000000 in
set_option maxRecDepth 100000 in
theorem wX9_isInside_2 {p : Program} {l : Launch} {e : Env} {s : State} {m : MethodId} {below : List Frame} {meth : Method} {c : Code} {D : va_G} {a : Nat → ClassId} {q_t : Nat} {Q_t : Nat → Nat} {z_t : Sx} (C : Cx p s m #[.ref q_t] meth c MX9_isInside) (hK : KK D a s) {y : Int32} (hP : va_P D classes (rc9 a q_t Q_t z_t) s.heap) : ∀ (n : Nat) (x1 : Int32) (ls : Array Slot), lX9_isInside_2 z_t n x1 = some y → lv_has ls 2 [(0, .ref q_t), (1, .int x1)] → W p l e (rmM 0 0 0 0) s m #[.ref q_t] below meth c s.heap [] 0 0 (MQ below (vp_Si (fun r => r = y)) #[.ref q_t] s 0 0 (fun _ => False)) (F0 m 2 ls []) := by
  obtain ⟨hx, hb, hml, hown, hts, hr, hlocks, hnm⟩ := id C
  have hb : c.code = cX9_isInside := hb
  have hown : s.vm.findClass RX9 = some m.cls := hown
  intro n
  induction n with
  | zero => intro x1 ls h; rw [lX9_isInside_2] at h; cases h
  | succ n ih =>
    intro x1 ls h hl
    rw [lX9_isInside_2] at h
    refine lv_iload_n hx hb dX9_isInside_2 rfl (lv_at hl 1 rfl) ?_
    refine lv_aload_n hx hb dX9_isInside_3 rfl (lv_at hl 0 rfl) ?_
    refine va_get (D := D) (v := .int (gI z_t 20)) (C := RX9) (T := TX9) (N := 36) hx hb hts iX9 hown hK.1 hP 0 rfl rfl 20 (by decide) (hts _ t_902) (fun _ h9 => h9) rfl dX9_isInside_4 ?_
    refine lv_icmp_ge (tgt := 29) hx hb dX9_isInside_7 (by decide) (fun c1 => ?_) (fun c1 => ?_)
    · have h := ite_t c1 h
      refine lv_iconst (v := 0) hx hb dX9_isInside_29 (by decide) ?_
      exact rRz C rfl (Or.inl rfl) (Option.some.inj h) dX9_isInside_30
    · have h := ite_f c1 h
      refine lv_aload_n hx hb dX9_isInside_10 rfl (lv_at hl 0 rfl) ?_
      refine va_get (D := D) (v := .ref (Q_t 19)) (C := RX9) (T := TX9) (N := 36) hx hb hts iX9 hown hK.1 hP 0 rfl rfl 19 (by decide) (hts _ t_901) (fun _ h9 => h9) rfl dX9_isInside_11 ?_
      refine lv_iload_n hx hb dX9_isInside_14 rfl (lv_at hl 1 rfl) ?_
      obtain ⟨g2, h⟩ := gd_some h
      refine ald_i hx hb hK.1 hP 8 0 rfl rfl x1.toNatClampNeg (ix_g g2) dX9_isInside_15 ?_
      refine lv_bipush (v := 91) hx hb dX9_isInside_16 (by decide) ?_
      refine lv_icmp_ne (tgt := 23) hx hb dX9_isInside_18 (by decide) (fun c3 => ?_) (fun c3 => ?_)
      · have h := ite_f c3 h
        refine lv_iinc (v := x1 + 1) (lv' := [(1, .int (x1 + 1)), (0, .ref q_t)]) hx hb dX9_isInside_23 hl (k := 1) rfl rfl (by decide) rfl (fun ls hl => ?_)
        refine lv_goto (tgt := 2) hx hb dX9_isInside_26 (by decide) ?_
        exact ih (x1 + 1) ls h (lv_sub hl [1, 0] rfl)
      · have h := ite_t c3 h
        refine lv_iconst (v := 1) hx hb dX9_isInside_21 (by decide) ?_
        exact rRz C rfl (Or.inr rfl) (Option.some.inj h) dX9_isInside_22

set_option maxHeartbeats 4000000 in
set_option maxRecDepth 100000 in
theorem mX9_isInside (l : Launch) (D : va_G) (a : Nat → ClassId) {q_t : Nat} {Q_t : Nat → Nat} {z_t : Sx} {y : Int32} (h : fX9_isInside z_t = some y) : CRi l MX9_isInside 0 0 D a [.ref q_t] (rc9 a q_t Q_t z_t) (fun r => r = y) := by
  unfold fX9_isInside at h
  refine entR (by decide) (Nat.le_of_ble_eq_true rfl) ?_
  intro p e s m below meth c C hK hP ls hl
  obtain ⟨hx, hb, hml, hown, hts, hr, hlocks, hnm⟩ := id C
  have hb : c.code = cX9_isInside := hb
  have hown : s.vm.findClass RX9 = some m.cls := hown
  have hl : lv_has ls 2 [(0, .ref q_t)] := hl
  refine lv_iconst (v := 0) hx hb dX9_isInside_0 (by decide) ?_
  refine lv_istore_n (lv' := [(1, .int 0), (0, .ref q_t)]) hx hb dX9_isInside_1 rfl hl (by decide) rfl (fun ls hl => ?_)
  refine wX9_isInside_2 C hK hP FU 0 ls h (lv_sub hl [1, 0] rfl)

set_option maxHeartbeats 4000000 in
set_option maxRecDepth 100000 in
theorem wX9_closes_5 {p : Program} {l : Launch} {e : Env} {s : State} {m : MethodId} {below : List Frame} {meth : Method} {c : Code} {D : va_G} {a : Nat → ClassId} {A : Nat → Prop} {q_t : Nat} {Q_t : Nat → Nat} (C : Cx p s m #[.ref q_t] meth c MX9_closes) (hK : KK D a s) (hA : ∀ q, s.heap.size ≤ q → A q) {y : Sx} : ∀ (n : Nat) (z_t : Sx) (H : Heap) (locs : List Loc) (ls : Array Slot), lX9_closes_5 n z_t = some y → va_P D classes (rc9 a q_t Q_t z_t) H → va_D A (rc9 a q_t Q_t z_t) → va_S A s.heap H locs → lv_has ls 1 [(0, .ref q_t)] → W p l e (rmM 2 0 0 43) s m #[.ref q_t] below meth c H locs 0 0 (MQ below (va_Qv (fun (_ : Unit) => True) (Bw D A (fun _ => rc9 a q_t Q_t y)) A) #[.ref q_t] s 0 0 A) (F0 m 5 ls []) := by
  obtain ⟨hx, hb, hml, hown, hts, hr, hlocks, hnm⟩ := id C
  have hb : c.code = cX9_closes := hb
  have hown : s.vm.findClass RX9 = some m.cls := hown
  intro n
  induction n with
  | zero => intro z_t H locs ls h; rw [lX9_closes_5] at h; cases h
  | succ n ih =>
    intro z_t H locs ls h hP hD hS hl
    rw [lX9_closes_5] at h
    refine lv_aload_n hx hb dX9_closes_5 rfl (lv_at hl 0 rfl) ?_
    obtain ⟨r4, z5, hc3, h⟩ := bd2_some h
    refine cWi (runV (As := []) (rest := []) C (mX9_see l D a (q_t := q_t) (Q_t := Q_t) hc3 H.size) lk_V_9_93 okN_X9_see ⟨Nat.le_of_ble_eq_true rfl, Nat.le_of_ble_eq_true rfl⟩ ⟨rfl, rfl⟩ (preV (preM hK hP hD) (recvOf hK hP 0 rfl (ci := 9) rfl)) hl.1 rfl (Nat.le_of_ble_eq_true rfl) dX9_closes_6 ⟨Nat.le_of_ble_eq_true rfl, Nat.le_of_ble_eq_true rfl⟩) hP hD hS hA (fun H locs hP hD hS => ?_)
    have hP : va_P D classes (rc9 a q_t Q_t z5) H := hP
    have hD : va_D A (rc9 a q_t Q_t z5) := hD
    refine lv_bipush (v := 93) hx hb dX9_closes_9 (by decide) ?_
    refine lv_icmp_ne (tgt := 64) hx hb dX9_closes_11 (by decide) (fun c6 => ?_) (fun c6 => ?_)
    · have h := ite_f c6 h
      exact rMv C rfl h (g := fun y => rc9 a q_t Q_t y) hP hD hS dX9_closes_64
    · have h := ite_t c6 h
      refine lv_aload_n hx hb dX9_closes_14 rfl (lv_at hl 0 rfl) ?_
      obtain ⟨r8, hc7, h⟩ := bd_some h
      refine cRi (runV (As := []) (rest := []) C (mX9_isInside l D a (q_t := q_t) (Q_t := Q_t) hc7) lk_V_9_191 okN_X9_isInside ⟨Nat.le_of_ble_eq_true rfl, Nat.le_of_ble_eq_true rfl⟩ ⟨rfl, rfl⟩ (preV (preR hK hP) (recvOf hK hP 0 rfl (ci := 9) rfl)) hl.1 rfl (Nat.le_of_ble_eq_true rfl) dX9_closes_15 ⟨Nat.le_of_ble_eq_true rfl, Nat.le_of_ble_eq_true rfl⟩) ?_
      refine lv_if_eq (tgt := 64) hx hb dX9_closes_18 (by decide) (fun c9 => ?_) (fun c9 => ?_)
      · have h := ite_t c9 h
        exact rMv C rfl h (g := fun y => rc9 a q_t Q_t y) hP hD hS dX9_closes_64
      · have h := ite_f c9 h
        refine lv_aload_n hx hb dX9_closes_21 rfl (lv_at hl 0 rfl) ?_
        refine lv_iconst (v := 1) hx hb dX9_closes_22 (by decide) ?_
        obtain ⟨z11, hc10, h⟩ := bd_some h
        refine cWv (runV (As := [.int 1]) (rest := []) C (mX9_settles l D a (q_t := q_t) (Q_t := Q_t) hc10 H.size) lk_V_9_188 okN_X9_settles ⟨Nat.le_of_ble_eq_true rfl, Nat.le_of_ble_eq_true rfl⟩ ⟨rfl, rfl⟩ (preV (preM hK hP hD) (recvOf hK hP 0 rfl (ci := 9) rfl)) hl.1 rfl (Nat.le_of_ble_eq_true rfl) dX9_closes_23 ⟨Nat.le_of_ble_eq_true rfl, Nat.le_of_ble_eq_true rfl⟩) hP hD hS hA (fun H locs hP hD hS => ?_)
        have hP : va_P D classes (rc9 a q_t Q_t z11) H := hP
        have hD : va_D A (rc9 a q_t Q_t z11) := hD
        refine lv_aload_n hx hb dX9_closes_26 rfl (lv_at hl 0 rfl) ?_
        refine lv_dup hx hb dX9_closes_27 rfl ?_
        refine va_get (D := D) (v := .int (gI z11 20)) (C := RX9) (T := TX9) (N := 36) hx hb hts iX9 hown hK.1 hP 0 rfl rfl 20 (by decide) (hts _ t_902) (fun _ h9 => h9) rfl dX9_closes_28 ?_
        refine lv_iconst (v := 1) hx hb dX9_closes_31 (by decide) ?_
        refine lv_isub hx hb dX9_closes_32 ?_
        refine va_put (D := D) (v := .int ((gI z11 20) - 1)) (C := RX9) (T := TX9) (N := 36) hx hb hts iX9 tyX9 tyX9_ok nmX9 hown hK.1 hP hD hS 0 rfl rfl 20 (by decide) (hts _ t_902) (fun _ h9 => h9) rfl (tyX9_ok 20 (by decide)) rfl rfl (Nat.le_of_ble_eq_true rfl) dX9_closes_33 (fun H locs hP hD hS => ?_)
        rw [u9_20] at hP hD
        refine lv_aload_n hx hb dX9_closes_36 rfl (lv_at hl 0 rfl) ?_
        refine lv_dup hx hb dX9_closes_37 rfl ?_
        refine va_get (D := D) (v := .int (gI z11 17)) (C := RX9) (T := TX9) (N := 36) hx hb hts iX9 hown hK.1 hP 0 rfl rfl 17 (by decide) (hts _ t_899) (fun _ h9 => h9) rfl dX9_closes_38 ?_
        refine lv_iconst (v := 1) hx hb dX9_closes_41 (by decide) ?_
        refine lv_isub hx hb dX9_closes_42 ?_
        refine va_put (D := D) (v := .int ((gI z11 17) - 1)) (C := RX9) (T := TX9) (N := 36) hx hb hts iX9 tyX9 tyX9_ok nmX9 hown hK.1 hP hD hS 0 rfl rfl 17 (by decide) (hts _ t_899) (fun _ h9 => h9) rfl (tyX9_ok 17 (by decide)) rfl rfl (Nat.le_of_ble_eq_true rfl) dX9_closes_43 (fun H locs hP hD hS => ?_)
        rw [u9_17] at hP hD
        refine lv_aload_n hx hb dX9_closes_46 rfl (lv_at hl 0 rfl) ?_
        refine lv_dup hx hb dX9_closes_47 rfl ?_
        refine va_get (D := D) (v := .int (gI z11 12)) (C := RX9) (T := TX9) (N := 36) hx hb hts iX9 hown hK.1 hP 0 rfl rfl 12 (by decide) (hts _ t_894) (fun _ h9 => h9) rfl dX9_closes_48 ?_
        refine lv_iconst (v := 1) hx hb dX9_closes_51 (by decide) ?_
        refine lv_iadd hx hb dX9_closes_52 ?_
        refine va_put (D := D) (v := .int ((gI z11 12) + 1)) (C := RX9) (T := TX9) (N := 36) hx hb hts iX9 tyX9 tyX9_ok nmX9 hown hK.1 hP hD hS 0 rfl rfl 12 (by decide) (hts _ t_894) (fun _ h9 => h9) rfl (tyX9_ok 12 (by decide)) rfl rfl (Nat.le_of_ble_eq_true rfl) dX9_closes_53 (fun H locs hP hD hS => ?_)
        rw [u9_12] at hP hD
        refine lv_aload_n hx hb dX9_closes_56 rfl (lv_at hl 0 rfl) ?_
        refine lv_iconst (v := 3) hx hb dX9_closes_57 (by decide) ?_
        obtain ⟨z13, hc12, h⟩ := bd_some h
        refine cWv (runV (As := [.int 3]) (rest := []) C (mX9_settles l D a (q_t := q_t) (Q_t := Q_t) hc12 H.size) lk_V_9_188 okN_X9_settles ⟨Nat.le_of_ble_eq_true rfl, Nat.le_of_ble_eq_true rfl⟩ ⟨rfl, rfl⟩ (preV (preM hK hP hD) (recvOf hK hP 0 rfl (ci := 9) rfl)) hl.1 rfl (Nat.le_of_ble_eq_true rfl) dX9_closes_58 ⟨Nat.le_of_ble_eq_true rfl, Nat.le_of_ble_eq_true rfl⟩) hP hD hS hA (fun H locs hP hD hS => ?_)
        have hP : va_P D classes (rc9 a q_t Q_t z13) H := hP
        have hD : va_D A (rc9 a q_t Q_t z13) := hD
        refine lv_goto (tgt := 5) hx hb dX9_closes_61 (by decide) ?_
        exact ih z13 _ _ ls h hP hD hS (lv_sub hl [0] rfl)

set_option maxHeartbeats 4000000 in
set_option maxRecDepth 100000 in
theorem mX9_closes (l : Launch) (D : va_G) (a : Nat → ClassId) {q_t : Nat} {Q_t : Nat → Nat} {z_t : Sx} {y : Sx} (h : fX9_closes z_t = some y) (sz : Nat) : CMv (S := Unit) l MX9_closes 2 43 0 0 D a [.ref q_t] (rc9 a q_t Q_t z_t) sz (fun _ => True) (fun _ => rc9 a q_t Q_t y) := by
  unfold fX9_closes at h
  refine entMv (by decide) (Nat.le_of_ble_eq_true rfl) ?_
  intro p e s m below meth c C hK A hA hP hD ls hl
  obtain ⟨hx, hb, hml, hown, hts, hr, hlocks, hnm⟩ := id C
  have hb : c.code = cX9_closes := hb
  have hown : s.vm.findClass RX9 = some m.cls := hown
  have hS : va_S A s.heap s.heap [] := va_S.rf
  have hl : lv_has ls 1 [(0, .ref q_t)] := hl
  refine lv_aload_n hx hb dX9_closes_0 rfl (lv_at hl 0 rfl) ?_
  refine lv_iconst (v := 3) hx hb dX9_closes_1 (by decide) ?_
  obtain ⟨z2, hc1, h⟩ := bd_some h
  refine cWv (runV (As := [.int 3]) (rest := []) C (mX9_settles l D a (q_t := q_t) (Q_t := Q_t) hc1 s.heap.size) lk_V_9_188 okN_X9_settles ⟨Nat.le_of_ble_eq_true rfl, Nat.le_of_ble_eq_true rfl⟩ ⟨rfl, rfl⟩ (preV (preM hK hP hD) (recvOf hK hP 0 rfl (ci := 9) rfl)) hl.1 rfl (Nat.le_of_ble_eq_true rfl) dX9_closes_2 ⟨Nat.le_of_ble_eq_true rfl, Nat.le_of_ble_eq_true rfl⟩) hP hD hS hA (fun H locs hP hD hS => ?_)
  have hP : va_P D classes (rc9 a q_t Q_t z2) H := hP
  have hD : va_D A (rc9 a q_t Q_t z2) := hD
  refine wX9_closes_5 C hK hA FU z2 _ _ ls h hP hD hS (lv_sub hl [0] rfl)

set_option maxHeartbeats 4000000 in
set_option maxRecDepth 100000 in
theorem wX9_tested_12 {p : Program} {l : Launch} {e : Env} {s : State} {m : MethodId} {below : List Frame} {meth : Method} {c : Code} {D : va_G} {a : Nat → ClassId} {A : Nat → Prop} {q_t : Nat} {Q_t : Nat → Nat} (C : Cx p s m #[.ref q_t] meth c MX9_tested) (hK : KK D a s) (hA : ∀ q, s.heap.size ≤ q → A q) {y : Int32 × Sx} {k112 : Sx → Option (Int32 × Sx)} (hk112 : ∀ (z_tk : Sx) (H : Heap) (locs : List Loc) (ls : Array Slot), k112 z_tk = some y → va_P D classes (rc9 a q_t Q_t z_tk) H → va_D A (rc9 a q_t Q_t z_tk) → va_S A s.heap H locs → lv_has ls 3 [(0, .ref q_t)] → W p l e (rmM 8 0 0 176) s m #[.ref q_t] below meth c H locs 0 0 (MQ below (va_Qi (fun r (_ : Unit) => r = y.1) (Bw D A (fun _ => rc9 a q_t Q_t y.2)) A) #[.ref q_t] s 0 0 A) (F0 m 112 ls [])) : ∀ (n : Nat) (z_t : Sx) (x1 : Int32) (H : Heap) (locs : List Loc) (ls : Array Slot), lX9_tested_12 k112 n z_t x1 = some y → va_P D classes (rc9 a q_t Q_t z_t) H → va_D A (rc9 a q_t Q_t z_t) → va_S A s.heap H locs → lv_has ls 3 [(0, .ref q_t), (1, .int x1)] → W p l e (rmM 8 0 0 176) s m #[.ref q_t] below meth c H locs 0 0 (MQ below (va_Qi (fun r (_ : Unit) => r = y.1) (Bw D A (fun _ => rc9 a q_t Q_t y.2)) A) #[.ref q_t] s 0 0 A) (F0 m 12 ls []) := by
  obtain ⟨hx, hb, hml, hown, hts, hr, hlocks, hnm⟩ := id C
  have hb : c.code = cX9_tested := hb
  have hown : s.vm.findClass RX9 = some m.cls := hown
  intro n
  induction n with
  | zero => intro z_t x1 H locs ls h; rw [lX9_tested_12] at h; cases h
  | succ n ih =>
    intro z_t x1 H locs ls h hP hD hS hl
    rw [lX9_tested_12] at h
    refine lv_iload_n hx hb dX9_tested_12 rfl (lv_at hl 1 rfl) ?_
    refine lv_if_eq (tgt := 112) hx hb dX9_tested_13 (by decide) (fun c1 => ?_) (fun c1 => ?_)
    · have h := ite_t c1 h
      exact hk112 z_t _ _ ls h hP hD hS (lv_sub hl [0] rfl)
    · have h := ite_f c1 h
      refine lv_aload_n hx hb dX9_tested_16 rfl (lv_at hl 0 rfl) ?_
      obtain ⟨r3, z4, hc2, h⟩ := bd2_some h
      refine cWi (runV (As := []) (rest := []) C (mX9_fact l D a (q_t := q_t) (Q_t := Q_t) hc2 H.size) lk_V_9_194 okN_X9_fact ⟨Nat.le_of_ble_eq_true rfl, Nat.le_of_ble_eq_true rfl⟩ ⟨rfl, rfl⟩ (preV (preM hK hP hD) (recvOf hK hP 0 rfl (ci := 9) rfl)) hl.1 rfl (Nat.le_of_ble_eq_true rfl) dX9_tested_17 ⟨Nat.le_of_ble_eq_true rfl, Nat.le_of_ble_eq_true rfl⟩) hP hD hS hA (fun H locs hP hD hS => ?_)
      have hP : va_P D classes (rc9 a q_t Q_t z4) H := hP
      have hD : va_D A (rc9 a q_t Q_t z4) := hD
      refine lv_if_ne (tgt := 25) hx hb dX9_tested_20 (by decide) (fun c5 => ?_) (fun c5 => ?_)
      · have h := ite_f c5 h
        refine lv_aload_n hx hb dX9_tested_25 rfl (lv_at hl 0 rfl) ?_
        obtain ⟨z7, hc6, h⟩ := bd_some h
        refine cWv (runV (As := []) (rest := []) C (mX9_closes l D a (q_t := q_t) (Q_t := Q_t) hc6 H.size) lk_V_9_197 okN_X9_closes ⟨Nat.le_of_ble_eq_true rfl, Nat.le_of_ble_eq_true rfl⟩ ⟨rfl, rfl⟩ (preV (preM hK hP hD) (recvOf hK hP 0 rfl (ci := 9) rfl)) hl.1 rfl (Nat.le_of_ble_eq_true rfl) dX9_tested_26 ⟨Nat.le_of_ble_eq_true rfl, Nat.le_of_ble_eq_true rfl⟩) hP hD hS hA (fun H locs hP hD hS => ?_)
        have hP : va_P D classes (rc9 a q_t Q_t z7) H := hP
        have hD : va_D A (rc9 a q_t Q_t z7) := hD
        refine lv_aload_n hx hb dX9_tested_29 rfl (lv_at hl 0 rfl) ?_
        refine lv_ldc2 hx hb hown (hts _ t_1125) dX9_tested_30 ?_
        obtain ⟨r9, z10, hc8, h⟩ := bd2_some h
        refine cWi (runV (As := [.long 6385252]) (rest := []) C (mX9_isWord l D a (q_t := q_t) (Q_t := Q_t) hc8 H.size) lk_V_9_101 okN_X9_isWord ⟨Nat.le_of_ble_eq_true rfl, Nat.le_of_ble_eq_true rfl⟩ ⟨rfl, rfl⟩ (preV (preM hK hP hD) (recvOf hK hP 0 rfl (ci := 9) rfl)) hl.1 rfl (Nat.le_of_ble_eq_true rfl) dX9_tested_33 ⟨Nat.le_of_ble_eq_true rfl, Nat.le_of_ble_eq_true rfl⟩) hP hD hS hA (fun H locs hP hD hS => ?_)
        have hP : va_P D classes (rc9 a q_t Q_t z10) H := hP
        have hD : va_D A (rc9 a q_t Q_t z10) := hD
        obtain ⟨J11, eJ11, h⟩ := jn_some h
        have hJ11 : ∀ (z12 : Sx) (i13 : Int32) (H : Heap) (locs : List Loc) (ls : Array Slot), J11 z12 i13 = some y → va_P D classes (rc9 a q_t Q_t z12) H → va_D A (rc9 a q_t Q_t z12) → va_S A s.heap H locs → lv_has ls 3 [(0, .ref q_t)] → W p l e (rmM 8 0 0 176) s m #[.ref q_t] below meth c H locs 0 0 (MQ below (va_Qi (fun r (_ : Unit) => r = y.1) (Bw D A (fun _ => rc9 a q_t Q_t y.2)) A) #[.ref q_t] s 0 0 A) (F0 m 54 ls [.int i13]) := by
          intro z12 i13 H locs ls h hP hD hS hl
          rw [eJ11] at h
          refine lv_istore_n (lv' := [(1, .int i13), (0, .ref q_t)]) hx hb dX9_tested_54 rfl hl (by decide) rfl (fun ls hl => ?_)
          refine lv_iload_n hx hb dX9_tested_55 rfl (lv_at hl 0 rfl) ?_
          refine lv_if_eq (tgt := 12) hx hb dX9_tested_56 (by decide) (fun c14 => ?_) (fun c14 => ?_)
          · have h := ite_t c14 h
            exact ih z12 i13 _ _ ls h hP hD hS (lv_sub hl [1, 0] rfl)
          · have h := ite_f c14 h
            refine lv_aload_n hx hb dX9_tested_59 rfl (lv_at hl 1 rfl) ?_
            refine lv_ldc2 hx hb hown (hts _ t_1125) dX9_tested_60 ?_
            obtain ⟨r16, z17, hc15, h⟩ := bd2_some h
            refine cWi (runV (As := [.long 6385252]) (rest := []) C (mX9_isWord l D a (q_t := q_t) (Q_t := Q_t) hc15 H.size) lk_V_9_101 okN_X9_isWord ⟨Nat.le_of_ble_eq_true rfl, Nat.le_of_ble_eq_true rfl⟩ ⟨rfl, rfl⟩ (preV (preM hK hP hD) (recvOf hK hP 0 rfl (ci := 9) rfl)) hl.1 rfl (Nat.le_of_ble_eq_true rfl) dX9_tested_63 ⟨Nat.le_of_ble_eq_true rfl, Nat.le_of_ble_eq_true rfl⟩) hP hD hS hA (fun H locs hP hD hS => ?_)
            have hP : va_P D classes (rc9 a q_t Q_t z17) H := hP
            have hD : va_D A (rc9 a q_t Q_t z17) := hD
            obtain ⟨J18, eJ18, h⟩ := jn_some h
            have hJ18 : ∀ (i19 : Int32) (H : Heap) (locs : List Loc) (ls : Array Slot), J18 i19 = some y → va_P D classes (rc9 a q_t Q_t z17) H → va_D A (rc9 a q_t Q_t z17) → va_S A s.heap H locs → lv_has ls 3 [(0, .ref q_t), (1, .int i13)] → W p l e (rmM 8 0 0 176) s m #[.ref q_t] below meth c H locs 0 0 (MQ below (va_Qi (fun r (_ : Unit) => r = y.1) (Bw D A (fun _ => rc9 a q_t Q_t y.2)) A) #[.ref q_t] s 0 0 A) (F0 m 76 ls [.int i19]) := by
              intro i19 H locs ls h hP hD hS hl
              rw [eJ18] at h
              refine lv_istore_n (lv' := [(2, .int i19), (0, .ref q_t), (1, .int i13)]) hx hb dX9_tested_76 rfl hl (by decide) rfl (fun ls hl => ?_)
              refine lv_aload_n hx hb dX9_tested_77 rfl (lv_at hl 1 rfl) ?_
              obtain ⟨z21, hc20, h⟩ := bd_some h
              refine cWv (runV (As := []) (rest := []) C (mX9_passWord l D a (q_t := q_t) (Q_t := Q_t) hc20 H.size) lk_V_9_105 okN_X9_passWord ⟨Nat.le_of_ble_eq_true rfl, Nat.le_of_ble_eq_true rfl⟩ ⟨rfl, rfl⟩ (preV (preM hK hP hD) (recvOf hK hP 0 rfl (ci := 9) rfl)) hl.1 rfl (Nat.le_of_ble_eq_true rfl) dX9_tested_78 ⟨Nat.le_of_ble_eq_true rfl, Nat.le_of_ble_eq_true rfl⟩) hP hD hS hA (fun H locs hP hD hS => ?_)
              have hP : va_P D classes (rc9 a q_t Q_t z21) H := hP
              have hD : va_D A (rc9 a q_t Q_t z21) := hD
              refine lv_aload_n hx hb dX9_tested_81 rfl (lv_at hl 1 rfl) ?_
              refine lv_iload_n hx hb dX9_tested_82 rfl (lv_at hl 0 rfl) ?_
              obtain ⟨r23, hc22, h⟩ := bd_some h
              refine cRi (runS (As := [.int i19]) (rest := [.ref q_t]) C (mX9_strength l D a hc22) lk_S_9_152 okN_X9_strength ⟨Nat.le_of_ble_eq_true rfl, Nat.le_of_ble_eq_true rfl⟩ ⟨rfl, rfl⟩ (preR hK (P_of_map (wc := []) hP [] rfl)) hl.1 rfl (Nat.le_of_ble_eq_true rfl) dX9_tested_83 ⟨Nat.le_of_ble_eq_true rfl, Nat.le_of_ble_eq_true rfl⟩) ?_
              obtain ⟨z25, hc24, h⟩ := bd_some h
              refine cWv (runV (As := [.int r23]) (rest := []) C (mX9_settles l D a (q_t := q_t) (Q_t := Q_t) hc24 H.size) lk_V_9_188 okN_X9_settles ⟨Nat.le_of_ble_eq_true rfl, Nat.le_of_ble_eq_true rfl⟩ ⟨rfl, rfl⟩ (preV (preM hK hP hD) (recvOf hK hP 0 rfl (ci := 9) rfl)) hl.1 rfl (Nat.le_of_ble_eq_true rfl) dX9_tested_86 ⟨Nat.le_of_ble_eq_true rfl, Nat.le_of_ble_eq_true rfl⟩) hP hD hS hA (fun H locs hP hD hS => ?_)
              have hP : va_P D classes (rc9 a q_t Q_t z25) H := hP
              have hD : va_D A (rc9 a q_t Q_t z25) := hD
              refine lv_aload_n hx hb dX9_tested_89 rfl (lv_at hl 1 rfl) ?_
              refine va_get (D := D) (v := .ref (Q_t 19)) (C := RX9) (T := TX9) (N := 36) hx hb hts iX9 hown hK.1 hP 0 rfl rfl 19 (by decide) (hts _ t_901) (fun _ h9 => h9) rfl dX9_tested_90 ?_
              refine lv_aload_n hx hb dX9_tested_93 rfl (lv_at hl 1 rfl) ?_
              refine va_get (D := D) (v := .int (gI z25 20)) (C := RX9) (T := TX9) (N := 36) hx hb hts iX9 hown hK.1 hP 0 rfl rfl 20 (by decide) (hts _ t_902) (fun _ h9 => h9) rfl dX9_tested_94 ?_
              refine lv_iload_n hx hb dX9_tested_97 rfl (lv_at hl 0 rfl) ?_
              obtain ⟨g26, h⟩ := gd_some h
              refine ast_i hx hb hK.1 hP hD hS 8 0 rfl rfl ((gI z25 20).toNatClampNeg) (ix_g g26) dX9_tested_98 (fun H locs hP hD hS => ?_)
              rw [u9_19] at hP hD
              refine lv_aload_n hx hb dX9_tested_99 rfl (lv_at hl 1 rfl) ?_
              refine lv_dup hx hb dX9_tested_100 rfl ?_
              refine va_get (D := D) (v := .int (gI z25 20)) (C := RX9) (T := TX9) (N := 36) hx hb hts iX9 hown hK.1 hP 0 rfl rfl 20 (by decide) (hts _ t_902) (fun _ h9 => h9) rfl dX9_tested_101 ?_
              refine lv_iconst (v := 1) hx hb dX9_tested_104 (by decide) ?_
              refine lv_iadd hx hb dX9_tested_105 ?_
              refine va_put (D := D) (v := .int ((gI z25 20) + 1)) (C := RX9) (T := TX9) (N := 36) hx hb hts iX9 tyX9 tyX9_ok nmX9 hown hK.1 hP hD hS 0 rfl rfl 20 (by decide) (hts _ t_902) (fun _ h9 => h9) rfl (tyX9_ok 20 (by decide)) rfl rfl (Nat.le_of_ble_eq_true rfl) dX9_tested_106 (fun H locs hP hD hS => ?_)
              rw [u9_20] at hP hD
              refine lv_goto (tgt := 12) hx hb dX9_tested_109 (by decide) ?_
              exact ih (sI (sT z25 19 ((gI z25 20).toNatClampNeg) i19) 20 ((gI z25 20) + 1)) i13 _ _ ls h hP hD hS (lv_sub hl [1, 2] rfl)
            refine lv_if_eq (tgt := 74) hx hb dX9_tested_66 (by decide) (fun c27 => ?_) (fun c27 => ?_)
            · have h := ite_t c27 h
              refine lv_bipush (v := 13) hx hb dX9_tested_74 (by decide) ?_
              exact hJ18 13 _ _ ls h hP hD hS (lv_sub hl [1, 0] rfl)
            · have h := ite_f c27 h
              refine lv_bipush (v := 12) hx hb dX9_tested_69 (by decide) ?_
              refine lv_goto (tgt := 76) hx hb dX9_tested_71 (by decide) ?_
              exact hJ18 12 _ _ ls h hP hD hS (lv_sub hl [1, 0] rfl)
        obtain ⟨J28, eJ28, h⟩ := jn_some h
        have hJ28 : ∀ (z29 : Sx) (H : Heap) (locs : List Loc) (ls : Array Slot), J28 z29 = some y → va_P D classes (rc9 a q_t Q_t z29) H → va_D A (rc9 a q_t Q_t z29) → va_S A s.heap H locs → lv_has ls 3 [(0, .ref q_t)] → W p l e (rmM 8 0 0 176) s m #[.ref q_t] below meth c H locs 0 0 (MQ below (va_Qi (fun r (_ : Unit) => r = y.1) (Bw D A (fun _ => rc9 a q_t Q_t y.2)) A) #[.ref q_t] s 0 0 A) (F0 m 49 ls []) := by
          intro z29 H locs ls h hP hD hS hl
          rw [eJ28] at h
          refine lv_iconst (v := 1) hx hb dX9_tested_49 (by decide) ?_
          refine lv_goto (tgt := 54) hx hb dX9_tested_50 (by decide) ?_
          exact hJ11 z29 1 _ _ ls h hP hD hS (lv_sub hl [0] rfl)
        refine lv_if_ne (tgt := 49) hx hb dX9_tested_36 (by decide) (fun c30 => ?_) (fun c30 => ?_)
        · have h := ite_f c30 h
          exact hJ28 z10 _ _ ls h hP hD hS (lv_sub hl [0] rfl)
        · have h := ite_t c30 h
          refine lv_aload_n hx hb dX9_tested_39 rfl (lv_at hl 0 rfl) ?_
          refine lv_ldc2 hx hb hown (hts _ t_1126) dX9_tested_40 ?_
          obtain ⟨r32, z33, hc31, h⟩ := bd2_some h
          refine cWi (runV (As := [.long 28530]) (rest := []) C (mX9_isWord l D a (q_t := q_t) (Q_t := Q_t) hc31 H.size) lk_V_9_101 okN_X9_isWord ⟨Nat.le_of_ble_eq_true rfl, Nat.le_of_ble_eq_true rfl⟩ ⟨rfl, rfl⟩ (preV (preM hK hP hD) (recvOf hK hP 0 rfl (ci := 9) rfl)) hl.1 rfl (Nat.le_of_ble_eq_true rfl) dX9_tested_43 ⟨Nat.le_of_ble_eq_true rfl, Nat.le_of_ble_eq_true rfl⟩) hP hD hS hA (fun H locs hP hD hS => ?_)
          have hP : va_P D classes (rc9 a q_t Q_t z33) H := hP
          have hD : va_D A (rc9 a q_t Q_t z33) := hD
          refine lv_if_eq (tgt := 53) hx hb dX9_tested_46 (by decide) (fun c34 => ?_) (fun c34 => ?_)
          · have h := ite_t c34 h
            refine lv_iconst (v := 0) hx hb dX9_tested_53 (by decide) ?_
            exact hJ11 z33 0 _ _ ls h hP hD hS (lv_sub hl [0] rfl)
          · have h := ite_f c34 h
            exact hJ28 z33 _ _ ls h hP hD hS (lv_sub hl [0] rfl)
      · have h := ite_t c5 h
        refine lv_iconst (v := 0) hx hb dX9_tested_23 (by decide) ?_
        exact rMz C rfl (Or.inl rfl) h (g := fun y => rc9 a q_t Q_t y.2) (pr := fun y => y.1) hP hD hS dX9_tested_24

set_option maxHeartbeats 4000000 in
set_option maxRecDepth 100000 in
theorem mX9_tested (l : Launch) (D : va_G) (a : Nat → ClassId) {q_t : Nat} {Q_t : Nat → Nat} {z_t : Sx} {y : Int32 × Sx} (h : fX9_tested z_t = some y) (sz : Nat) : CMi (S := Unit) l MX9_tested 8 176 0 0 D a [.ref q_t] (rc9 a q_t Q_t z_t) sz (fun r _ => r = y.1) (fun _ => rc9 a q_t Q_t y.2) := by
  unfold fX9_tested at h
  refine entMi (by decide) (Nat.le_of_ble_eq_true rfl) ?_
  intro p e s m below meth c C hK A hA hP hD ls hl
  obtain ⟨hx, hb, hml, hown, hts, hr, hlocks, hnm⟩ := id C
  have hb : c.code = cX9_tested := hb
  have hown : s.vm.findClass RX9 = some m.cls := hown
  have hS : va_S A s.heap s.heap [] := va_S.rf
  have hl : lv_has ls 3 [(0, .ref q_t)] := hl
  refine lv_aload_n hx hb dX9_tested_0 rfl (lv_at hl 0 rfl) ?_
  refine lv_iconst (v := 0) hx hb dX9_tested_1 (by decide) ?_
  refine va_put (D := D) (v := .int 0) (C := RX9) (T := TX9) (N := 36) hx hb hts iX9 tyX9 tyX9_ok nmX9 hown hK.1 hP hD hS 0 rfl rfl 20 (by decide) (hts _ t_902) (fun _ h9 => h9) rfl (tyX9_ok 20 (by decide)) rfl rfl (Nat.le_of_ble_eq_true rfl) dX9_tested_2 (fun H locs hP hD hS => ?_)
  rw [u9_20] at hP hD
  refine lv_aload_n hx hb dX9_tested_5 rfl (lv_at hl 0 rfl) ?_
  refine lv_iconst (v := 0) hx hb dX9_tested_6 (by decide) ?_
  refine va_put (D := D) (v := .int 0) (C := RX9) (T := TX9) (N := 36) hx hb hts iX9 tyX9 tyX9_ok nmX9 hown hK.1 hP hD hS 0 rfl rfl 17 (by decide) (hts _ t_899) (fun _ h9 => h9) rfl (tyX9_ok 17 (by decide)) rfl rfl (Nat.le_of_ble_eq_true rfl) dX9_tested_7 (fun H locs hP hD hS => ?_)
  rw [u9_17] at hP hD
  refine lv_iconst (v := 1) hx hb dX9_tested_10 (by decide) ?_
  refine lv_istore_n (lv' := [(1, .int 1), (0, .ref q_t)]) hx hb dX9_tested_11 rfl hl (by decide) rfl (fun ls hl => ?_)
  refine wX9_tested_12 C hK hA ?_ FU (sI (sI z_t 20 0) 17 0) 1 _ _ ls h hP hD hS (lv_sub hl [1, 0] rfl)
  · intro z35 H locs ls h hP hD hS hl
    refine lv_aload_n hx hb dX9_tested_112 rfl (lv_at hl 0 rfl) ?_
    obtain ⟨r37, hc36, h⟩ := bd_some h
    refine cRi (runV (As := []) (rest := []) C (mX9_isInside l D a (q_t := q_t) (Q_t := Q_t) hc36) lk_V_9_191 okN_X9_isInside ⟨Nat.le_of_ble_eq_true rfl, Nat.le_of_ble_eq_true rfl⟩ ⟨rfl, rfl⟩ (preV (preR hK hP) (recvOf hK hP 0 rfl (ci := 9) rfl)) hl.1 rfl (Nat.le_of_ble_eq_true rfl) dX9_tested_113 ⟨Nat.le_of_ble_eq_true rfl, Nat.le_of_ble_eq_true rfl⟩) ?_
    refine lv_if_eq (tgt := 134) hx hb dX9_tested_116 (by decide) (fun c38 => ?_) (fun c38 => ?_)
    · have h := ite_t c38 h
      refine lv_aload_n hx hb dX9_tested_134 rfl (lv_at hl 0 rfl) ?_
      refine lv_iconst (v := 1) hx hb dX9_tested_135 (by decide) ?_
      obtain ⟨z40, hc39, h⟩ := bd_some h
      refine cWv (runV (As := [.int 1]) (rest := []) C (mX9_settles l D a (q_t := q_t) (Q_t := Q_t) hc39 H.size) lk_V_9_188 okN_X9_settles ⟨Nat.le_of_ble_eq_true rfl, Nat.le_of_ble_eq_true rfl⟩ ⟨rfl, rfl⟩ (preV (preM hK hP hD) (recvOf hK hP 0 rfl (ci := 9) rfl)) hl.1 rfl (Nat.le_of_ble_eq_true rfl) dX9_tested_136 ⟨Nat.le_of_ble_eq_true rfl, Nat.le_of_ble_eq_true rfl⟩) hP hD hS hA (fun H locs hP hD hS => ?_)
      have hP : va_P D classes (rc9 a q_t Q_t z40) H := hP
      have hD : va_D A (rc9 a q_t Q_t z40) := hD
      refine lv_iconst (v := 1) hx hb dX9_tested_139 (by decide) ?_
      exact rMz C rfl (Or.inr rfl) h (g := fun y => rc9 a q_t Q_t y.2) (pr := fun y => y.1) hP hD hS dX9_tested_140
    · have h := ite_f c38 h
      refine lv_aload_n hx hb dX9_tested_119 rfl (lv_at hl 0 rfl) ?_
      obtain ⟨r42, z43, hc41, h⟩ := bd2_some h
      refine cWi (runV (As := []) (rest := []) C (mX9_see l D a (q_t := q_t) (Q_t := Q_t) hc41 H.size) lk_V_9_93 okN_X9_see ⟨Nat.le_of_ble_eq_true rfl, Nat.le_of_ble_eq_true rfl⟩ ⟨rfl, rfl⟩ (preV (preM hK hP hD) (recvOf hK hP 0 rfl (ci := 9) rfl)) hl.1 rfl (Nat.le_of_ble_eq_true rfl) dX9_tested_120 ⟨Nat.le_of_ble_eq_true rfl, Nat.le_of_ble_eq_true rfl⟩) hP hD hS hA (fun H locs hP hD hS => ?_)
      have hP : va_P D classes (rc9 a q_t Q_t z43) H := hP
      have hD : va_D A (rc9 a q_t Q_t z43) := hD
      refine lv_pop hx hb dX9_tested_123 rfl ?_
      refine lv_aload_n hx hb dX9_tested_124 rfl (lv_at hl 0 rfl) ?_
      refine lv_iconst (v := 0) hx hb dX9_tested_125 (by decide) ?_
      refine lv_aload_n hx hb dX9_tested_126 rfl (lv_at hl 0 rfl) ?_
      refine va_get (D := D) (v := .int (gI z43 12)) (C := RX9) (T := TX9) (N := 36) hx hb hts iX9 hown hK.1 hP 0 rfl rfl 12 (by decide) (hts _ t_894) (fun _ h9 => h9) rfl dX9_tested_127 ?_
      obtain ⟨r45, z46, hc44, h⟩ := bd2_some h
      refine cWi (runV (As := [.int 0, .int (gI z43 12)]) (rest := []) C (mX9_fails l D a (q_t := q_t) (Q_t := Q_t) hc44 H.size) lk_V_9_111 okN_X9_fails ⟨Nat.le_of_ble_eq_true rfl, Nat.le_of_ble_eq_true rfl⟩ ⟨rfl, rfl⟩ (preV (preM hK hP hD) (recvOf hK hP 0 rfl (ci := 9) rfl)) hl.1 rfl (Nat.le_of_ble_eq_true rfl) dX9_tested_130 ⟨Nat.le_of_ble_eq_true rfl, Nat.le_of_ble_eq_true rfl⟩) hP hD hS hA (fun H locs hP hD hS => ?_)
      have hP : va_P D classes (rc9 a q_t Q_t z46) H := hP
      have hD : va_D A (rc9 a q_t Q_t z46) := hD
      obtain ⟨g47, h⟩ := gd_some h
      exact rMz C rfl (g47) h (g := fun y => rc9 a q_t Q_t y.2) (pr := fun y => y.1) hP hD hS dX9_tested_133

set_option maxHeartbeats 4000000 in
set_option maxRecDepth 100000 in
theorem mX9_isDoingHere (l : Launch) (D : va_G) (a : Nat → ClassId) {q_t : Nat} {Q_t : Nat → Nat} {z_t : Sx} {x1 : Int32} {y : Int32 × Sx} (h : fX9_isDoingHere z_t x1 = some y) (sz : Nat) : CMi (S := Unit) l MX9_isDoingHere 9 198 0 0 D a [.ref q_t, .int x1] (rc9 a q_t Q_t z_t) sz (fun r _ => r = y.1) (fun _ => rc9 a q_t Q_t y.2) := by
  unfold fX9_isDoingHere at h
  refine entMi (by decide) (Nat.le_of_ble_eq_true rfl) ?_
  intro p e s m below meth c C hK A hA hP hD ls hl
  obtain ⟨hx, hb, hml, hown, hts, hr, hlocks, hnm⟩ := id C
  have hb : c.code = cX9_isDoingHere := hb
  have hown : s.vm.findClass RX9 = some m.cls := hown
  have hS : va_S A s.heap s.heap [] := va_S.rf
  have hl : lv_has ls 3 [(0, .ref q_t), (1, .int x1)] := hl
  refine lv_aload_n hx hb dX9_isDoingHere_0 rfl (lv_at hl 0 rfl) ?_
  obtain ⟨z2, hc1, h⟩ := bd_some h
  refine cWv (runV (As := []) (rest := []) C (mX9_passWord l D a (q_t := q_t) (Q_t := Q_t) hc1 s.heap.size) lk_V_9_105 okN_X9_passWord ⟨Nat.le_of_ble_eq_true rfl, Nat.le_of_ble_eq_true rfl⟩ ⟨rfl, rfl⟩ (preV (preM hK hP hD) (recvOf hK hP 0 rfl (ci := 9) rfl)) hl.1 rfl (Nat.le_of_ble_eq_true rfl) dX9_isDoingHere_1 ⟨Nat.le_of_ble_eq_true rfl, Nat.le_of_ble_eq_true rfl⟩) hP hD hS hA (fun H locs hP hD hS => ?_)
  have hP : va_P D classes (rc9 a q_t Q_t z2) H := hP
  have hD : va_D A (rc9 a q_t Q_t z2) := hD
  refine lv_bipush (v := 60) hx hb dX9_isDoingHere_4 (by decide) ?_
  refine lv_aload_n hx hb dX9_isDoingHere_6 rfl (lv_at hl 0 rfl) ?_
  refine va_get (D := D) (v := .int (gI z2 15)) (C := RX9) (T := TX9) (N := 36) hx hb hts iX9 hown hK.1 hP 0 rfl rfl 15 (by decide) (hts _ t_897) (fun _ h9 => h9) rfl dX9_isDoingHere_7 ?_
  refine lv_imul hx hb dX9_isDoingHere_10 ?_
  refine lv_iconst (v := 5) hx hb dX9_isDoingHere_11 (by decide) ?_
  refine lv_aload_n hx hb dX9_isDoingHere_12 rfl (lv_at hl 0 rfl) ?_
  refine va_get (D := D) (v := .ref (Q_t 6)) (C := RX9) (T := TX9) (N := 36) hx hb hts iX9 hown hK.1 hP 0 rfl rfl 6 (by decide) (hts _ t_888) (fun _ h9 => h9) rfl dX9_isDoingHere_13 ?_
  refine lv_aload_n hx hb dX9_isDoingHere_16 rfl (lv_at hl 0 rfl) ?_
  refine va_get (D := D) (v := .int (gI z2 15)) (C := RX9) (T := TX9) (N := 36) hx hb hts iX9 hown hK.1 hP 0 rfl rfl 15 (by decide) (hts _ t_897) (fun _ h9 => h9) rfl dX9_isDoingHere_17 ?_
  obtain ⟨g3, h⟩ := gd_some h
  refine ald_i hx hb hK.1 hP 5 0 rfl rfl ((gI z2 15).toNatClampNeg) (ix_g g3) dX9_isDoingHere_20 ?_
  refine lv_imul hx hb dX9_isDoingHere_21 ?_
  refine lv_iadd hx hb dX9_isDoingHere_22 ?_
  refine lv_topi (fun v4 ev4 => ?_)
  have h := nm_some h v4 ev4
  refine lv_istore_n (lv' := [(2, .int v4), (0, .ref q_t), (1, .int x1)]) hx hb dX9_isDoingHere_23 rfl hl (by decide) rfl (fun ls hl => ?_)
  refine lv_aload_n hx hb dX9_isDoingHere_24 rfl (lv_at hl 1 rfl) ?_
  refine va_get (D := D) (v := .ref (Q_t 5)) (C := RX9) (T := TX9) (N := 36) hx hb hts iX9 hown hK.1 hP 0 rfl rfl 5 (by decide) (hts _ t_887) (fun _ h9 => h9) rfl dX9_isDoingHere_25 ?_
  refine lv_iload_n hx hb dX9_isDoingHere_28 rfl (lv_at hl 0 rfl) ?_
  refine lv_iload_n hx hb dX9_isDoingHere_29 rfl (lv_at hl 2 rfl) ?_
  obtain ⟨g5, h⟩ := gd_some h
  refine ast_i hx hb hK.1 hP hD hS 4 0 rfl rfl v4.toNatClampNeg (ix_g g5) dX9_isDoingHere_30 (fun H locs hP hD hS => ?_)
  rw [u9_5] at hP hD
  refine lv_aload_n hx hb dX9_isDoingHere_31 rfl (lv_at hl 1 rfl) ?_
  refine va_get (D := D) (v := .ref (Q_t 5)) (C := RX9) (T := TX9) (N := 36) hx hb hts iX9 hown hK.1 hP 0 rfl rfl 5 (by decide) (hts _ t_887) (fun _ h9 => h9) rfl dX9_isDoingHere_32 ?_
  refine lv_iload_n hx hb dX9_isDoingHere_35 rfl (lv_at hl 0 rfl) ?_
  refine lv_iconst (v := 3) hx hb dX9_isDoingHere_36 (by decide) ?_
  refine lv_iadd hx hb dX9_isDoingHere_37 ?_
  refine lv_iconst (v := (-1)) hx hb dX9_isDoingHere_38 (by decide) ?_
  obtain ⟨g6, h⟩ := gd_some h
  refine ast_i hx hb hK.1 hP hD hS 4 0 rfl rfl ((v4 + 3).toNatClampNeg) (ix_g g6) dX9_isDoingHere_39 (fun H locs hP hD hS => ?_)
  rw [u9_5] at hP hD
  refine lv_iload_n hx hb dX9_isDoingHere_40 rfl (lv_at hl 2 rfl) ?_
  obtain ⟨J7, eJ7, h⟩ := jn_some h
  have hJ7 : ∀ (z8 : Sx) (H : Heap) (locs : List Loc) (ls : Array Slot), J7 z8 = some y → va_P D classes (rc9 a q_t Q_t z8) H → va_D A (rc9 a q_t Q_t z8) → va_S A s.heap H locs → lv_has ls 3 [(0, .ref q_t), (1, .int x1), (2, .int v4)] → W p l e (rmM 9 0 0 198) s m #[.ref q_t, .int x1] below meth c H locs 0 0 (MQ below (va_Qi (fun r (_ : Unit) => r = y.1) (Bw D A (fun _ => rc9 a q_t Q_t y.2)) A) #[.ref q_t, .int x1] s 0 0 A) (F0 m 87 ls []) := by
    intro z8 H locs ls h hP hD hS hl
    rw [eJ7] at h
    refine lv_iload_n hx hb dX9_isDoingHere_87 rfl (lv_at hl 1 rfl) ?_
    refine lv_iconst (v := 1) hx hb dX9_isDoingHere_88 (by decide) ?_
    obtain ⟨J9, eJ9, h⟩ := jn_some h
    have hJ9 : ∀ (z10 : Sx) (H : Heap) (locs : List Loc) (ls : Array Slot), J9 z10 = some y → va_P D classes (rc9 a q_t Q_t z10) H → va_D A (rc9 a q_t Q_t z10) → va_S A s.heap H locs → lv_has ls 3 [(0, .ref q_t), (2, .int v4)] → W p l e (rmM 9 0 0 198) s m #[.ref q_t, .int x1] below meth c H locs 0 0 (MQ below (va_Qi (fun r (_ : Unit) => r = y.1) (Bw D A (fun _ => rc9 a q_t Q_t y.2)) A) #[.ref q_t, .int x1] s 0 0 A) (F0 m 128 ls []) := by
      intro z10 H locs ls h hP hD hS hl
      rw [eJ9] at h
      refine lv_aload_n hx hb dX9_isDoingHere_128 rfl (lv_at hl 0 rfl) ?_
      refine va_get (D := D) (v := .ref (Q_t 5)) (C := RX9) (T := TX9) (N := 36) hx hb hts iX9 hown hK.1 hP 0 rfl rfl 5 (by decide) (hts _ t_887) (fun _ h9 => h9) rfl dX9_isDoingHere_129 ?_
      refine lv_iload_n hx hb dX9_isDoingHere_132 rfl (lv_at hl 1 rfl) ?_
      refine lv_iconst (v := 4) hx hb dX9_isDoingHere_133 (by decide) ?_
      refine lv_iadd hx hb dX9_isDoingHere_134 ?_
      refine lv_aload_n hx hb dX9_isDoingHere_135 rfl (lv_at hl 0 rfl) ?_
      refine va_get (D := D) (v := .ref (Q_t 4)) (C := RX9) (T := TX9) (N := 36) hx hb hts iX9 hown hK.1 hP 0 rfl rfl 4 (by decide) (hts _ t_886) (fun _ h9 => h9) rfl dX9_isDoingHere_136 ?_
      refine lv_aload_n hx hb dX9_isDoingHere_139 rfl (lv_at hl 0 rfl) ?_
      refine va_get (D := D) (v := .int (gI z10 15)) (C := RX9) (T := TX9) (N := 36) hx hb hts iX9 hown hK.1 hP 0 rfl rfl 15 (by decide) (hts _ t_897) (fun _ h9 => h9) rfl dX9_isDoingHere_140 ?_
      obtain ⟨g11, h⟩ := gd_some h
      refine ald_i hx hb hK.1 hP 3 0 rfl rfl ((gI z10 15).toNatClampNeg) (ix_g g11) dX9_isDoingHere_143 ?_
      obtain ⟨g12, h⟩ := gd_some h
      refine ast_i hx hb hK.1 hP hD hS 4 0 rfl rfl ((v4 + 4).toNatClampNeg) (ix_g g12) dX9_isDoingHere_144 (fun H locs hP hD hS => ?_)
      rw [u9_5] at hP hD
      refine lv_aload_n hx hb dX9_isDoingHere_145 rfl (lv_at hl 0 rfl) ?_
      refine va_get (D := D) (v := .ref (Q_t 6)) (C := RX9) (T := TX9) (N := 36) hx hb hts iX9 hown hK.1 hP 0 rfl rfl 6 (by decide) (hts _ t_888) (fun _ h9 => h9) rfl dX9_isDoingHere_146 ?_
      refine lv_aload_n hx hb dX9_isDoingHere_149 rfl (lv_at hl 0 rfl) ?_
      refine va_get (D := D) (v := .int (gI z10 15)) (C := RX9) (T := TX9) (N := 36) hx hb hts iX9 hown hK.1 hP 0 rfl rfl 15 (by decide) (hts _ t_897) (fun _ h9 => h9) rfl dX9_isDoingHere_150 ?_
      refine lv_dup2_11 hx hb dX9_isDoingHere_153 rfl rfl ?_
      obtain ⟨g13, h⟩ := gd_some h
      refine ald_i hx hb hK.1 hP 5 0 rfl rfl ((gI z10 15).toNatClampNeg) (ix_g g13) dX9_isDoingHere_154 ?_
      refine lv_iconst (v := 1) hx hb dX9_isDoingHere_155 (by decide) ?_
      refine lv_iadd hx hb dX9_isDoingHere_156 ?_
      refine lv_topi (fun v14 ev14 => ?_)
      have h := nm_some h v14 ev14
      refine ast_i hx hb hK.1 hP hD hS 5 0 rfl rfl ((gI z10 15).toNatClampNeg) (ix_g g13) dX9_isDoingHere_157 (fun H locs hP hD hS => ?_)
      rw [u9_6] at hP hD
      refine lv_iconst (v := 1) hx hb dX9_isDoingHere_158 (by decide) ?_
      exact rMz C rfl (Or.inr rfl) h (g := fun y => rc9 a q_t Q_t y.2) (pr := fun y => y.1) hP hD hS dX9_isDoingHere_159
    obtain ⟨J15, eJ15, h⟩ := jn_some h
    have hJ15 : ∀ (z16 : Sx) (H : Heap) (locs : List Loc) (ls : Array Slot), J15 z16 = some y → va_P D classes (rc9 a q_t Q_t z16) H → va_D A (rc9 a q_t Q_t z16) → va_S A s.heap H locs → lv_has ls 3 [(0, .ref q_t), (2, .int v4)] → W p l e (rmM 9 0 0 198) s m #[.ref q_t, .int x1] below meth c H locs 0 0 (MQ below (va_Qi (fun r (_ : Unit) => r = y.1) (Bw D A (fun _ => rc9 a q_t Q_t y.2)) A) #[.ref q_t, .int x1] s 0 0 A) (F0 m 102 ls []) := by
      intro z16 H locs ls h hP hD hS hl
      rw [eJ15] at h
      refine lv_aload_n hx hb dX9_isDoingHere_102 rfl (lv_at hl 0 rfl) ?_
      refine va_get (D := D) (v := .ref (Q_t 5)) (C := RX9) (T := TX9) (N := 36) hx hb hts iX9 hown hK.1 hP 0 rfl rfl 5 (by decide) (hts _ t_887) (fun _ h9 => h9) rfl dX9_isDoingHere_103 ?_
      refine lv_iload_n hx hb dX9_isDoingHere_106 rfl (lv_at hl 1 rfl) ?_
      refine lv_iconst (v := 3) hx hb dX9_isDoingHere_107 (by decide) ?_
      refine lv_iadd hx hb dX9_isDoingHere_108 ?_
      refine lv_aload_n hx hb dX9_isDoingHere_109 rfl (lv_at hl 0 rfl) ?_
      refine va_get (D := D) (v := .ref (Q_t 4)) (C := RX9) (T := TX9) (N := 36) hx hb hts iX9 hown hK.1 hP 0 rfl rfl 4 (by decide) (hts _ t_886) (fun _ h9 => h9) rfl dX9_isDoingHere_110 ?_
      refine lv_aload_n hx hb dX9_isDoingHere_113 rfl (lv_at hl 0 rfl) ?_
      refine va_get (D := D) (v := .int (gI z16 15)) (C := RX9) (T := TX9) (N := 36) hx hb hts iX9 hown hK.1 hP 0 rfl rfl 15 (by decide) (hts _ t_897) (fun _ h9 => h9) rfl dX9_isDoingHere_114 ?_
      obtain ⟨g17, h⟩ := gd_some h
      refine ald_i hx hb hK.1 hP 3 0 rfl rfl ((gI z16 15).toNatClampNeg) (ix_g g17) dX9_isDoingHere_117 ?_
      refine ast_i hx hb hK.1 hP hD hS 4 0 rfl rfl ((v4 + 3).toNatClampNeg) (ix_g g6) dX9_isDoingHere_118 (fun H locs hP hD hS => ?_)
      rw [u9_5] at hP hD
      refine lv_aload_n hx hb dX9_isDoingHere_119 rfl (lv_at hl 0 rfl) ?_
      obtain ⟨r19, z20, hc18, h⟩ := bd2_some h
      refine cWi (runV (As := []) (rest := []) C (mX9_tested l D a (q_t := q_t) (Q_t := Q_t) hc18 H.size) lk_V_9_209 okN_X9_tested ⟨Nat.le_of_ble_eq_true rfl, Nat.le_of_ble_eq_true rfl⟩ ⟨rfl, rfl⟩ (preV (preM hK hP hD) (recvOf hK hP 0 rfl (ci := 9) rfl)) hl.1 rfl (Nat.le_of_ble_eq_true rfl) dX9_isDoingHere_120 ⟨Nat.le_of_ble_eq_true rfl, Nat.le_of_ble_eq_true rfl⟩) hP hD hS hA (fun H locs hP hD hS => ?_)
      have hP : va_P D classes (rc9 a q_t Q_t z20) H := hP
      have hD : va_D A (rc9 a q_t Q_t z20) := hD
      refine lv_if_ne (tgt := 128) hx hb dX9_isDoingHere_123 (by decide) (fun c21 => ?_) (fun c21 => ?_)
      · have h := ite_f c21 h
        exact hJ9 z20 _ _ ls h hP hD hS (lv_sub hl [0, 1] rfl)
      · have h := ite_t c21 h
        refine lv_iconst (v := 0) hx hb dX9_isDoingHere_126 (by decide) ?_
        exact rMz C rfl (Or.inl rfl) h (g := fun y => rc9 a q_t Q_t y.2) (pr := fun y => y.1) hP hD hS dX9_isDoingHere_127
    refine lv_icmp_eq (tgt := 102) hx hb dX9_isDoingHere_89 (by decide) (fun c22 => ?_) (fun c22 => ?_)
    · have h := ite_t c22 h
      exact hJ15 z8 _ _ ls h hP hD hS (lv_sub hl [0, 2] rfl)
    · have h := ite_f c22 h
      refine lv_aload_n hx hb dX9_isDoingHere_92 rfl (lv_at hl 0 rfl) ?_
      refine lv_ldc2 hx hb hown (hts _ t_1088) dX9_isDoingHere_93 ?_
      obtain ⟨r24, z25, hc23, h⟩ := bd2_some h
      refine cWi (runV (As := [.long 26982]) (rest := []) C (mX9_takesWord l D a (q_t := q_t) (Q_t := Q_t) hc23 H.size) lk_V_9_206 okN_X9_takesWord ⟨Nat.le_of_ble_eq_true rfl, Nat.le_of_ble_eq_true rfl⟩ ⟨rfl, rfl⟩ (preV (preM hK hP hD) (recvOf hK hP 0 rfl (ci := 9) rfl)) hl.1 rfl (Nat.le_of_ble_eq_true rfl) dX9_isDoingHere_96 ⟨Nat.le_of_ble_eq_true rfl, Nat.le_of_ble_eq_true rfl⟩) hP hD hS hA (fun H locs hP hD hS => ?_)
      have hP : va_P D classes (rc9 a q_t Q_t z25) H := hP
      have hD : va_D A (rc9 a q_t Q_t z25) := hD
      refine lv_if_eq (tgt := 128) hx hb dX9_isDoingHere_99 (by decide) (fun c26 => ?_) (fun c26 => ?_)
      · have h := ite_t c26 h
        exact hJ9 z25 _ _ ls h hP hD hS (lv_sub hl [0, 2] rfl)
      · have h := ite_f c26 h
        exact hJ15 z25 _ _ ls h hP hD hS (lv_sub hl [0, 2] rfl)
  refine lv_if_ne (tgt := 87) hx hb dX9_isDoingHere_41 (by decide) (fun c27 => ?_) (fun c27 => ?_)
  · have h := ite_f c27 h
    exact hJ7 (sT (sT z2 5 v4.toNatClampNeg x1) 5 ((v4 + 3).toNatClampNeg) (-1)) _ _ ls h hP hD hS (lv_sub hl [1, 2, 0] rfl)
  · have h := ite_t c27 h
    refine lv_aload_n hx hb dX9_isDoingHere_44 rfl (lv_at hl 1 rfl) ?_
    refine va_get (D := D) (v := .ref (Q_t 5)) (C := RX9) (T := TX9) (N := 36) hx hb hts iX9 hown hK.1 hP 0 rfl rfl 5 (by decide) (hts _ t_887) (fun _ h9 => h9) rfl dX9_isDoingHere_45 ?_
    refine lv_iload_n hx hb dX9_isDoingHere_48 rfl (lv_at hl 0 rfl) ?_
    refine lv_iconst (v := 1) hx hb dX9_isDoingHere_49 (by decide) ?_
    refine lv_iadd hx hb dX9_isDoingHere_50 ?_
    refine lv_aload_n hx hb dX9_isDoingHere_51 rfl (lv_at hl 1 rfl) ?_
    refine va_get (D := D) (v := .ref (Q_t 4)) (C := RX9) (T := TX9) (N := 36) hx hb hts iX9 hown hK.1 hP 0 rfl rfl 4 (by decide) (hts _ t_886) (fun _ h9 => h9) rfl dX9_isDoingHere_52 ?_
    refine lv_aload_n hx hb dX9_isDoingHere_55 rfl (lv_at hl 1 rfl) ?_
    refine va_get (D := D) (v := .int (gI z2 15)) (C := RX9) (T := TX9) (N := 36) hx hb hts iX9 hown hK.1 hP 0 rfl rfl 15 (by decide) (hts _ t_897) (fun _ h9 => h9) rfl dX9_isDoingHere_56 ?_
    obtain ⟨g28, h⟩ := gd_some h
    refine ald_i hx hb hK.1 hP 3 0 rfl rfl ((gI z2 15).toNatClampNeg) (ix_g g28) dX9_isDoingHere_59 ?_
    refine lv_topi (fun v29 ev29 => ?_)
    have h := nm_some h v29 ev29
    obtain ⟨g30, h⟩ := gd_some h
    refine ast_i hx hb hK.1 hP hD hS 4 0 rfl rfl ((v4 + 1).toNatClampNeg) (ix_g g30) dX9_isDoingHere_60 (fun H locs hP hD hS => ?_)
    rw [u9_5] at hP hD
    refine lv_aload_n hx hb dX9_isDoingHere_61 rfl (lv_at hl 1 rfl) ?_
    obtain ⟨r32, z33, hc31, h⟩ := bd2_some h
    refine cWi (runV (As := []) (rest := []) C (mX9_sum l D a (q_t := q_t) (Q_t := Q_t) hc31 H.size) lk_V_9_177 okN_X9_sum ⟨Nat.le_of_ble_eq_true rfl, Nat.le_of_ble_eq_true rfl⟩ ⟨rfl, rfl⟩ (preV (preM hK hP hD) (recvOf hK hP 0 rfl (ci := 9) rfl)) hl.1 rfl (Nat.le_of_ble_eq_true rfl) dX9_isDoingHere_62 ⟨Nat.le_of_ble_eq_true rfl, Nat.le_of_ble_eq_true rfl⟩) hP hD hS hA (fun H locs hP hD hS => ?_)
    have hP : va_P D classes (rc9 a q_t Q_t z33) H := hP
    have hD : va_D A (rc9 a q_t Q_t z33) := hD
    refine lv_if_ne (tgt := 70) hx hb dX9_isDoingHere_65 (by decide) (fun c34 => ?_) (fun c34 => ?_)
    · have h := ite_f c34 h
      refine lv_aload_n hx hb dX9_isDoingHere_70 rfl (lv_at hl 1 rfl) ?_
      refine va_get (D := D) (v := .ref (Q_t 5)) (C := RX9) (T := TX9) (N := 36) hx hb hts iX9 hown hK.1 hP 0 rfl rfl 5 (by decide) (hts _ t_887) (fun _ h9 => h9) rfl dX9_isDoingHere_71 ?_
      refine lv_iload_n hx hb dX9_isDoingHere_74 rfl (lv_at hl 0 rfl) ?_
      refine lv_iconst (v := 2) hx hb dX9_isDoingHere_75 (by decide) ?_
      refine lv_iadd hx hb dX9_isDoingHere_76 ?_
      refine lv_aload_n hx hb dX9_isDoingHere_77 rfl (lv_at hl 1 rfl) ?_
      refine va_get (D := D) (v := .ref (Q_t 4)) (C := RX9) (T := TX9) (N := 36) hx hb hts iX9 hown hK.1 hP 0 rfl rfl 4 (by decide) (hts _ t_886) (fun _ h9 => h9) rfl dX9_isDoingHere_78 ?_
      refine lv_aload_n hx hb dX9_isDoingHere_81 rfl (lv_at hl 1 rfl) ?_
      refine va_get (D := D) (v := .int (gI z33 15)) (C := RX9) (T := TX9) (N := 36) hx hb hts iX9 hown hK.1 hP 0 rfl rfl 15 (by decide) (hts _ t_897) (fun _ h9 => h9) rfl dX9_isDoingHere_82 ?_
      obtain ⟨g35, h⟩ := gd_some h
      refine ald_i hx hb hK.1 hP 3 0 rfl rfl ((gI z33 15).toNatClampNeg) (ix_g g35) dX9_isDoingHere_85 ?_
      obtain ⟨g36, h⟩ := gd_some h
      refine ast_i hx hb hK.1 hP hD hS 4 0 rfl rfl ((v4 + 2).toNatClampNeg) (ix_g g36) dX9_isDoingHere_86 (fun H locs hP hD hS => ?_)
      rw [u9_5] at hP hD
      exact hJ7 (sT z33 5 ((v4 + 2).toNatClampNeg) (gT z33 4 ((gI z33 15).toNatClampNeg))) _ _ ls h hP hD hS (lv_sub hl [1, 2, 0] rfl)
    · have h := ite_t c34 h
      refine lv_iconst (v := 0) hx hb dX9_isDoingHere_68 (by decide) ?_
      exact rMz C rfl (Or.inl rfl) h (g := fun y => rc9 a q_t Q_t y.2) (pr := fun y => y.1) hP hD hS dX9_isDoingHere_69

set_option maxHeartbeats 4000000 in
set_option maxRecDepth 100000 in
theorem mX9_clauseHere (l : Launch) (D : va_G) (a : Nat → ClassId) {q_t : Nat} {Q_t : Nat → Nat} {z_t : Sx} {y : Int32 × Sx} (h : fX9_clauseHere z_t = some y) (sz : Nat) : CMi (S := Unit) l MX9_clauseHere 10 220 0 0 D a [.ref q_t] (rc9 a q_t Q_t z_t) sz (fun r _ => r = y.1) (fun _ => rc9 a q_t Q_t y.2) := by
  unfold fX9_clauseHere at h
  refine entMi (by decide) (Nat.le_of_ble_eq_true rfl) ?_
  intro p e s m below meth c C hK A hA hP hD ls hl
  obtain ⟨hx, hb, hml, hown, hts, hr, hlocks, hnm⟩ := id C
  have hb : c.code = cX9_clauseHere := hb
  have hown : s.vm.findClass RX9 = some m.cls := hown
  have hS : va_S A s.heap s.heap [] := va_S.rf
  have hl : lv_has ls 4 [(0, .ref q_t)] := hl
  refine lv_aload_n hx hb dX9_clauseHere_0 rfl (lv_at hl 0 rfl) ?_
  obtain ⟨r2, z3, hc1, h⟩ := bd2_some h
  refine cWi (runV (As := []) (rest := []) C (mX9_see l D a (q_t := q_t) (Q_t := Q_t) hc1 s.heap.size) lk_V_9_93 okN_X9_see ⟨Nat.le_of_ble_eq_true rfl, Nat.le_of_ble_eq_true rfl⟩ ⟨rfl, rfl⟩ (preV (preM hK hP hD) (recvOf hK hP 0 rfl (ci := 9) rfl)) hl.1 rfl (Nat.le_of_ble_eq_true rfl) dX9_clauseHere_1 ⟨Nat.le_of_ble_eq_true rfl, Nat.le_of_ble_eq_true rfl⟩) hP hD hS hA (fun H locs hP hD hS => ?_)
  have hP : va_P D classes (rc9 a q_t Q_t z3) H := hP
  have hD : va_D A (rc9 a q_t Q_t z3) := hD
  refine lv_pop hx hb dX9_clauseHere_4 rfl ?_
  refine lv_aload_n hx hb dX9_clauseHere_5 rfl (lv_at hl 0 rfl) ?_
  refine va_get (D := D) (v := .int (gI z3 12)) (C := RX9) (T := TX9) (N := 36) hx hb hts iX9 hown hK.1 hP 0 rfl rfl 12 (by decide) (hts _ t_894) (fun _ h9 => h9) rfl dX9_clauseHere_6 ?_
  refine lv_istore_n (lv' := [(1, .int (gI z3 12)), (0, .ref q_t)]) hx hb dX9_clauseHere_9 rfl hl (by decide) rfl (fun ls hl => ?_)
  refine lv_aload_n hx hb dX9_clauseHere_10 rfl (lv_at hl 1 rfl) ?_
  refine va_get (D := D) (v := .int (gI z3 15)) (C := RX9) (T := TX9) (N := 36) hx hb hts iX9 hown hK.1 hP 0 rfl rfl 15 (by decide) (hts _ t_897) (fun _ h9 => h9) rfl dX9_clauseHere_11 ?_
  refine lv_bipush (v := 6) hx hb dX9_clauseHere_14 (by decide) ?_
  obtain ⟨J4, eJ4, h⟩ := jn_some h
  have hJ4 : ∀ (i5 : Int32) (H : Heap) (locs : List Loc) (ls : Array Slot), J4 i5 = some y → va_P D classes (rc9 a q_t Q_t z3) H → va_D A (rc9 a q_t Q_t z3) → va_S A s.heap H locs → lv_has ls 4 [(0, .ref q_t), (1, .int (gI z3 12))] → W p l e (rmM 10 0 0 220) s m #[.ref q_t] below meth c H locs 0 0 (MQ below (va_Qi (fun r (_ : Unit) => r = y.1) (Bw D A (fun _ => rc9 a q_t Q_t y.2)) A) #[.ref q_t] s 0 0 A) (F0 m 24 ls [.int i5]) := by
    intro i5 H locs ls h hP hD hS hl
    rw [eJ4] at h
    refine lv_istore_n (lv' := [(2, .int i5), (0, .ref q_t), (1, .int (gI z3 12))]) hx hb dX9_clauseHere_24 rfl hl (by decide) rfl (fun ls hl => ?_)
    refine lv_iload_n hx hb dX9_clauseHere_25 rfl (lv_at hl 0 rfl) ?_
    obtain ⟨J6, eJ6, h⟩ := jn_some h
    have hJ6 : ∀ (z7 : Sx) (i8 : Int32) (H : Heap) (locs : List Loc) (ls : Array Slot), J6 z7 i8 = some y → va_P D classes (rc9 a q_t Q_t z7) H → va_D A (rc9 a q_t Q_t z7) → va_S A s.heap H locs → lv_has ls 4 [(0, .ref q_t), (1, .int (gI z3 12)), (2, .int i5)] → W p l e (rmM 10 0 0 220) s m #[.ref q_t] below meth c H locs 0 0 (MQ below (va_Qi (fun r (_ : Unit) => r = y.1) (Bw D A (fun _ => rc9 a q_t Q_t y.2)) A) #[.ref q_t] s 0 0 A) (F0 m 92 ls [.int i8]) := by
      intro z7 i8 H locs ls h hP hD hS hl
      rw [eJ6] at h
      refine lv_istore_n (lv' := [(3, .int i8), (0, .ref q_t), (1, .int (gI z3 12)), (2, .int i5)]) hx hb dX9_clauseHere_92 rfl hl (by decide) rfl (fun ls hl => ?_)
      refine lv_iload_n hx hb dX9_clauseHere_93 rfl (lv_at hl 0 rfl) ?_
      refine lv_if_ne (tgt := 104) hx hb dX9_clauseHere_94 (by decide) (fun c9 => ?_) (fun c9 => ?_)
      · have h := ite_f c9 h
        refine lv_aload_n hx hb dX9_clauseHere_104 rfl (lv_at hl 1 rfl) ?_
        refine va_get (D := D) (v := .int (gI z7 18)) (C := RX9) (T := TX9) (N := 36) hx hb hts iX9 hown hK.1 hP 0 rfl rfl 18 (by decide) (hts _ t_900) (fun _ h9 => h9) rfl dX9_clauseHere_105 ?_
        refine lv_iload_n hx hb dX9_clauseHere_108 rfl (lv_at hl 3 rfl) ?_
        obtain ⟨J10, eJ10, h⟩ := jn_some h
        have hJ10 : ∀ (i11 : Int32) (i12 : Int32) (H : Heap) (locs : List Loc) (ls : Array Slot), J10 i11 i12 = some y → va_P D classes (rc9 a q_t Q_t z7) H → va_D A (rc9 a q_t Q_t z7) → va_S A s.heap H locs → lv_has ls 4 [(0, .ref q_t), (1, .int (gI z3 12)), (2, .int i5)] → W p l e (rmM 10 0 0 220) s m #[.ref q_t] below meth c H locs 0 0 (MQ below (va_Qi (fun r (_ : Unit) => r = y.1) (Bw D A (fun _ => rc9 a q_t Q_t y.2)) A) #[.ref q_t] s 0 0 A) (F0 m 119 ls [.int i11, .int i12]) := by
          intro i11 i12 H locs ls h hP hD hS hl
          rw [eJ10] at h
          refine lv_icmp_ne (tgt := 129) hx hb dX9_clauseHere_119 (by decide) (fun c13 => ?_) (fun c13 => ?_)
          · have h := ite_f c13 h
            refine lv_aload_n hx hb dX9_clauseHere_129 rfl (lv_at hl 0 rfl) ?_
            refine lv_dup hx hb dX9_clauseHere_130 rfl ?_
            refine va_get (D := D) (v := .int (gI z7 18)) (C := RX9) (T := TX9) (N := 36) hx hb hts iX9 hown hK.1 hP 0 rfl rfl 18 (by decide) (hts _ t_900) (fun _ h9 => h9) rfl dX9_clauseHere_131 ?_
            refine lv_iconst (v := 1) hx hb dX9_clauseHere_134 (by decide) ?_
            refine lv_iadd hx hb dX9_clauseHere_135 ?_
            refine va_put (D := D) (v := .int ((gI z7 18) + 1)) (C := RX9) (T := TX9) (N := 36) hx hb hts iX9 tyX9 tyX9_ok nmX9 hown hK.1 hP hD hS 0 rfl rfl 18 (by decide) (hts _ t_900) (fun _ h9 => h9) rfl (tyX9_ok 18 (by decide)) rfl rfl (Nat.le_of_ble_eq_true rfl) dX9_clauseHere_136 (fun H locs hP hD hS => ?_)
            rw [u9_18] at hP hD
            refine lv_iload_n hx hb dX9_clauseHere_139 rfl (lv_at hl 2 rfl) ?_
            refine lv_if_ne (tgt := 163) hx hb dX9_clauseHere_140 (by decide) (fun c14 => ?_) (fun c14 => ?_)
            · have h := ite_f c14 h
              refine lv_aload_n hx hb dX9_clauseHere_163 rfl (lv_at hl 0 rfl) ?_
              refine lv_ldc2 hx hb hown (hts _ t_1020) dX9_clauseHere_164 ?_
              obtain ⟨r16, z17, hc15, h⟩ := bd2_some h
              refine cWi (runV (As := [.long 1953066341]) (rest := []) C (mX9_isWord l D a (q_t := q_t) (Q_t := Q_t) hc15 H.size) lk_V_9_101 okN_X9_isWord ⟨Nat.le_of_ble_eq_true rfl, Nat.le_of_ble_eq_true rfl⟩ ⟨rfl, rfl⟩ (preV (preM hK hP hD) (recvOf hK hP 0 rfl (ci := 9) rfl)) hl.1 rfl (Nat.le_of_ble_eq_true rfl) dX9_clauseHere_167 ⟨Nat.le_of_ble_eq_true rfl, Nat.le_of_ble_eq_true rfl⟩) hP hD hS hA (fun H locs hP hD hS => ?_)
              have hP : va_P D classes (rc9 a q_t Q_t z17) H := hP
              have hD : va_D A (rc9 a q_t Q_t z17) := hD
              refine lv_if_eq (tgt := 181) hx hb dX9_clauseHere_170 (by decide) (fun c18 => ?_) (fun c18 => ?_)
              · have h := ite_t c18 h
                refine lv_aload_n hx hb dX9_clauseHere_181 rfl (lv_at hl 0 rfl) ?_
                refine lv_ldc2 hx hb hown (hts _ t_1029) dX9_clauseHere_182 ?_
                obtain ⟨r20, z21, hc19, h⟩ := bd2_some h
                refine cWi (runV (As := [.long 1802071652]) (rest := []) C (mX9_isWord l D a (q_t := q_t) (Q_t := Q_t) hc19 H.size) lk_V_9_101 okN_X9_isWord ⟨Nat.le_of_ble_eq_true rfl, Nat.le_of_ble_eq_true rfl⟩ ⟨rfl, rfl⟩ (preV (preM hK hP hD) (recvOf hK hP 0 rfl (ci := 9) rfl)) hl.1 rfl (Nat.le_of_ble_eq_true rfl) dX9_clauseHere_185 ⟨Nat.le_of_ble_eq_true rfl, Nat.le_of_ble_eq_true rfl⟩) hP hD hS hA (fun H locs hP hD hS => ?_)
                have hP : va_P D classes (rc9 a q_t Q_t z21) H := hP
                have hD : va_D A (rc9 a q_t Q_t z21) := hD
                refine lv_if_eq (tgt := 199) hx hb dX9_clauseHere_188 (by decide) (fun c22 => ?_) (fun c22 => ?_)
                · have h := ite_t c22 h
                  refine lv_aload_n hx hb dX9_clauseHere_199 rfl (lv_at hl 0 rfl) ?_
                  refine lv_iload_n hx hb dX9_clauseHere_200 rfl (lv_at hl 1 rfl) ?_
                  obtain ⟨r24, z25, hc23, h⟩ := bd2_some h
                  refine cWi (runV (As := [.int (gI z3 12)]) (rest := []) C (mX9_isFaultHere l D a (q_t := q_t) (Q_t := Q_t) hc23 H.size) lk_V_9_241 okN_X9_isFaultHere ⟨Nat.le_of_ble_eq_true rfl, Nat.le_of_ble_eq_true rfl⟩ ⟨rfl, rfl⟩ (preV (preM hK hP hD) (recvOf hK hP 0 rfl (ci := 9) rfl)) hl.1 rfl (Nat.le_of_ble_eq_true rfl) dX9_clauseHere_201 ⟨Nat.le_of_ble_eq_true rfl, Nat.le_of_ble_eq_true rfl⟩) hP hD hS hA (fun H locs hP hD hS => ?_)
                  have hP : va_P D classes (rc9 a q_t Q_t z25) H := hP
                  have hD : va_D A (rc9 a q_t Q_t z25) := hD
                  obtain ⟨g26, h⟩ := gd_some h
                  exact rMz C rfl (g26) h (g := fun y => rc9 a q_t Q_t y.2) (pr := fun y => y.1) hP hD hS dX9_clauseHere_204
                · have h := ite_f c22 h
                  refine lv_aload_n hx hb dX9_clauseHere_191 rfl (lv_at hl 0 rfl) ?_
                  refine lv_iload_n hx hb dX9_clauseHere_192 rfl (lv_at hl 1 rfl) ?_
                  obtain ⟨r28, z29, hc27, h⟩ := bd2_some h
                  refine cWi (runV (As := [.int (gI z3 12)]) (rest := []) C (mX9_isKindHere l D a (q_t := q_t) (Q_t := Q_t) hc27 H.size) lk_V_9_238 okN_X9_isKindHere ⟨Nat.le_of_ble_eq_true rfl, Nat.le_of_ble_eq_true rfl⟩ ⟨rfl, rfl⟩ (preV (preM hK hP hD) (recvOf hK hP 0 rfl (ci := 9) rfl)) hl.1 rfl (Nat.le_of_ble_eq_true rfl) dX9_clauseHere_193 ⟨Nat.le_of_ble_eq_true rfl, Nat.le_of_ble_eq_true rfl⟩) hP hD hS hA (fun H locs hP hD hS => ?_)
                  have hP : va_P D classes (rc9 a q_t Q_t z29) H := hP
                  have hD : va_D A (rc9 a q_t Q_t z29) := hD
                  refine lv_goto (tgt := 204) hx hb dX9_clauseHere_196 (by decide) ?_
                  obtain ⟨g30, h⟩ := gd_some h
                  exact rMz C rfl (g30) h (g := fun y => rc9 a q_t Q_t y.2) (pr := fun y => y.1) hP hD hS dX9_clauseHere_204
              · have h := ite_f c18 h
                refine lv_aload_n hx hb dX9_clauseHere_173 rfl (lv_at hl 0 rfl) ?_
                refine lv_iload_n hx hb dX9_clauseHere_174 rfl (lv_at hl 1 rfl) ?_
                obtain ⟨r32, z33, hc31, h⟩ := bd2_some h
                refine cWi (runV (As := [.int (gI z3 12)]) (rest := []) C (mX9_isTimeHere l D a (q_t := q_t) (Q_t := Q_t) hc31 H.size) lk_V_9_235 okN_X9_isTimeHere ⟨Nat.le_of_ble_eq_true rfl, Nat.le_of_ble_eq_true rfl⟩ ⟨rfl, rfl⟩ (preV (preM hK hP hD) (recvOf hK hP 0 rfl (ci := 9) rfl)) hl.1 rfl (Nat.le_of_ble_eq_true rfl) dX9_clauseHere_175 ⟨Nat.le_of_ble_eq_true rfl, Nat.le_of_ble_eq_true rfl⟩) hP hD hS hA (fun H locs hP hD hS => ?_)
                have hP : va_P D classes (rc9 a q_t Q_t z33) H := hP
                have hD : va_D A (rc9 a q_t Q_t z33) := hD
                refine lv_goto (tgt := 204) hx hb dX9_clauseHere_178 (by decide) ?_
                obtain ⟨g34, h⟩ := gd_some h
                exact rMz C rfl (g34) h (g := fun y => rc9 a q_t Q_t y.2) (pr := fun y => y.1) hP hD hS dX9_clauseHere_204
            · have h := ite_t c14 h
              refine lv_aload_n hx hb dX9_clauseHere_143 rfl (lv_at hl 0 rfl) ?_
              refine lv_aload_n hx hb dX9_clauseHere_144 rfl (lv_at hl 0 rfl) ?_
              refine lv_ldc2 hx hb hown (hts _ t_1031) dX9_clauseHere_145 ?_
              obtain ⟨r36, z37, hc35, h⟩ := bd2_some h
              refine cWi (runV (As := [.long 1819242347]) (rest := [.ref q_t]) C (mX9_isWord l D a (q_t := q_t) (Q_t := Q_t) hc35 H.size) lk_V_9_101 okN_X9_isWord ⟨Nat.le_of_ble_eq_true rfl, Nat.le_of_ble_eq_true rfl⟩ ⟨rfl, rfl⟩ (preV (preM hK hP hD) (recvOf hK hP 0 rfl (ci := 9) rfl)) hl.1 rfl (Nat.le_of_ble_eq_true rfl) dX9_clauseHere_148 ⟨Nat.le_of_ble_eq_true rfl, Nat.le_of_ble_eq_true rfl⟩) hP hD hS hA (fun H locs hP hD hS => ?_)
              have hP : va_P D classes (rc9 a q_t Q_t z37) H := hP
              have hD : va_D A (rc9 a q_t Q_t z37) := hD
              obtain ⟨J38, eJ38, h⟩ := jn_some h
              have hJ38 : ∀ (i39 : Int32) (H : Heap) (locs : List Loc) (ls : Array Slot), J38 i39 = some y → va_P D classes (rc9 a q_t Q_t z37) H → va_D A (rc9 a q_t Q_t z37) → va_S A s.heap H locs → lv_has ls 4 [] → W p l e (rmM 10 0 0 220) s m #[.ref q_t] below meth c H locs 0 0 (MQ below (va_Qi (fun r (_ : Unit) => r = y.1) (Bw D A (fun _ => rc9 a q_t Q_t y.2)) A) #[.ref q_t] s 0 0 A) (F0 m 159 ls [.int i39, .ref q_t]) := by
                intro i39 H locs ls h hP hD hS hl
                rw [eJ38] at h
                obtain ⟨r41, z42, hc40, h⟩ := bd2_some h
                refine cWi (runV (As := [.int i39]) (rest := []) C (mX9_isDoingHere l D a (q_t := q_t) (Q_t := Q_t) hc40 H.size) lk_V_9_232 okN_X9_isDoingHere ⟨Nat.le_of_ble_eq_true rfl, Nat.le_of_ble_eq_true rfl⟩ ⟨rfl, rfl⟩ (preV (preM hK hP hD) (recvOf hK hP 0 rfl (ci := 9) rfl)) hl.1 rfl (Nat.le_of_ble_eq_true rfl) dX9_clauseHere_159 ⟨Nat.le_of_ble_eq_true rfl, Nat.le_of_ble_eq_true rfl⟩) hP hD hS hA (fun H locs hP hD hS => ?_)
                have hP : va_P D classes (rc9 a q_t Q_t z42) H := hP
                have hD : va_D A (rc9 a q_t Q_t z42) := hD
                obtain ⟨g43, h⟩ := gd_some h
                exact rMz C rfl (g43) h (g := fun y => rc9 a q_t Q_t y.2) (pr := fun y => y.1) hP hD hS dX9_clauseHere_162
              refine lv_if_eq (tgt := 158) hx hb dX9_clauseHere_151 (by decide) (fun c44 => ?_) (fun c44 => ?_)
              · have h := ite_t c44 h
                refine lv_iconst (v := 1) hx hb dX9_clauseHere_158 (by decide) ?_
                exact hJ38 1 _ _ ls h hP hD hS (lv_sub hl [] rfl)
              · have h := ite_f c44 h
                refine lv_iconst (v := 0) hx hb dX9_clauseHere_154 (by decide) ?_
                refine lv_goto (tgt := 159) hx hb dX9_clauseHere_155 (by decide) ?_
                exact hJ38 0 _ _ ls h hP hD hS (lv_sub hl [] rfl)
          · have h := ite_t c13 h
            refine lv_aload_n hx hb dX9_clauseHere_122 rfl (lv_at hl 0 rfl) ?_
            refine lv_iconst (v := 4) hx hb dX9_clauseHere_123 (by decide) ?_
            refine lv_iload_n hx hb dX9_clauseHere_124 rfl (lv_at hl 1 rfl) ?_
            obtain ⟨r46, z47, hc45, h⟩ := bd2_some h
            refine cWi (runV (As := [.int 4, .int (gI z3 12)]) (rest := []) C (mX9_fails l D a (q_t := q_t) (Q_t := Q_t) hc45 H.size) lk_V_9_111 okN_X9_fails ⟨Nat.le_of_ble_eq_true rfl, Nat.le_of_ble_eq_true rfl⟩ ⟨rfl, rfl⟩ (preV (preM hK hP hD) (recvOf hK hP 0 rfl (ci := 9) rfl)) hl.1 rfl (Nat.le_of_ble_eq_true rfl) dX9_clauseHere_125 ⟨Nat.le_of_ble_eq_true rfl, Nat.le_of_ble_eq_true rfl⟩) hP hD hS hA (fun H locs hP hD hS => ?_)
            have hP : va_P D classes (rc9 a q_t Q_t z47) H := hP
            have hD : va_D A (rc9 a q_t Q_t z47) := hD
            obtain ⟨g48, h⟩ := gd_some h
            exact rMz C rfl (g48) h (g := fun y => rc9 a q_t Q_t y.2) (pr := fun y => y.1) hP hD hS dX9_clauseHere_128
        refine lv_if_eq (tgt := 117) hx hb dX9_clauseHere_109 (by decide) (fun c49 => ?_) (fun c49 => ?_)
        · have h := ite_t c49 h
          refine lv_bipush (v := 12) hx hb dX9_clauseHere_117 (by decide) ?_
          exact hJ10 12 (gI z7 18) _ _ ls h hP hD hS (lv_sub hl [1, 2, 3] rfl)
        · have h := ite_f c49 h
          refine lv_bipush (v := 24) hx hb dX9_clauseHere_112 (by decide) ?_
          refine lv_goto (tgt := 119) hx hb dX9_clauseHere_114 (by decide) ?_
          exact hJ10 24 (gI z7 18) _ _ ls h hP hD hS (lv_sub hl [1, 2, 3] rfl)
      · have h := ite_t c9 h
        refine lv_aload_n hx hb dX9_clauseHere_97 rfl (lv_at hl 1 rfl) ?_
        refine lv_iconst (v := 0) hx hb dX9_clauseHere_98 (by decide) ?_
        refine lv_iload_n hx hb dX9_clauseHere_99 rfl (lv_at hl 2 rfl) ?_
        obtain ⟨r51, z52, hc50, h⟩ := bd2_some h
        refine cWi (runV (As := [.int 0, .int (gI z3 12)]) (rest := []) C (mX9_fails l D a (q_t := q_t) (Q_t := Q_t) hc50 H.size) lk_V_9_111 okN_X9_fails ⟨Nat.le_of_ble_eq_true rfl, Nat.le_of_ble_eq_true rfl⟩ ⟨rfl, rfl⟩ (preV (preM hK hP hD) (recvOf hK hP 0 rfl (ci := 9) rfl)) hl.1 rfl (Nat.le_of_ble_eq_true rfl) dX9_clauseHere_100 ⟨Nat.le_of_ble_eq_true rfl, Nat.le_of_ble_eq_true rfl⟩) hP hD hS hA (fun H locs hP hD hS => ?_)
        have hP : va_P D classes (rc9 a q_t Q_t z52) H := hP
        have hD : va_D A (rc9 a q_t Q_t z52) := hD
        obtain ⟨g53, h⟩ := gd_some h
        exact rMz C rfl (g53) h (g := fun y => rc9 a q_t Q_t y.2) (pr := fun y => y.1) hP hD hS dX9_clauseHere_103
    refine lv_if_eq (tgt := 67) hx hb dX9_clauseHere_26 (by decide) (fun c54 => ?_) (fun c54 => ?_)
    · have h := ite_t c54 h
      refine lv_aload_n hx hb dX9_clauseHere_67 rfl (lv_at hl 1 rfl) ?_
      refine lv_ldc2 hx hb hown (hts _ t_1031) dX9_clauseHere_68 ?_
      obtain ⟨r56, z57, hc55, h⟩ := bd2_some h
      refine cWi (runV (As := [.long 1819242347]) (rest := []) C (mX9_isWord l D a (q_t := q_t) (Q_t := Q_t) hc55 H.size) lk_V_9_101 okN_X9_isWord ⟨Nat.le_of_ble_eq_true rfl, Nat.le_of_ble_eq_true rfl⟩ ⟨rfl, rfl⟩ (preV (preM hK hP hD) (recvOf hK hP 0 rfl (ci := 9) rfl)) hl.1 rfl (Nat.le_of_ble_eq_true rfl) dX9_clauseHere_71 ⟨Nat.le_of_ble_eq_true rfl, Nat.le_of_ble_eq_true rfl⟩) hP hD hS hA (fun H locs hP hD hS => ?_)
      have hP : va_P D classes (rc9 a q_t Q_t z57) H := hP
      have hD : va_D A (rc9 a q_t Q_t z57) := hD
      obtain ⟨J58, eJ58, h⟩ := jn_some h
      have hJ58 : ∀ (z59 : Sx) (H : Heap) (locs : List Loc) (ls : Array Slot), J58 z59 = some y → va_P D classes (rc9 a q_t Q_t z59) H → va_D A (rc9 a q_t Q_t z59) → va_S A s.heap H locs → lv_has ls 4 [(0, .ref q_t), (1, .int (gI z3 12)), (2, .int i5)] → W p l e (rmM 10 0 0 220) s m #[.ref q_t] below meth c H locs 0 0 (MQ below (va_Qi (fun r (_ : Unit) => r = y.1) (Bw D A (fun _ => rc9 a q_t Q_t y.2)) A) #[.ref q_t] s 0 0 A) (F0 m 87 ls []) := by
        intro z59 H locs ls h hP hD hS hl
        rw [eJ58] at h
        refine lv_iconst (v := 1) hx hb dX9_clauseHere_87 (by decide) ?_
        refine lv_goto (tgt := 92) hx hb dX9_clauseHere_88 (by decide) ?_
        exact hJ6 z59 1 _ _ ls h hP hD hS (lv_sub hl [0, 1, 2] rfl)
      refine lv_if_ne (tgt := 87) hx hb dX9_clauseHere_74 (by decide) (fun c60 => ?_) (fun c60 => ?_)
      · have h := ite_f c60 h
        exact hJ58 z57 _ _ ls h hP hD hS (lv_sub hl [1, 2, 0] rfl)
      · have h := ite_t c60 h
        refine lv_aload_n hx hb dX9_clauseHere_77 rfl (lv_at hl 1 rfl) ?_
        refine lv_ldc2 hx hb hown (hts _ t_1032) dX9_clauseHere_78 ?_
        obtain ⟨r62, z63, hc61, h⟩ := bd2_some h
        refine cWi (runV (As := [.long 1937010544]) (rest := []) C (mX9_isWord l D a (q_t := q_t) (Q_t := Q_t) hc61 H.size) lk_V_9_101 okN_X9_isWord ⟨Nat.le_of_ble_eq_true rfl, Nat.le_of_ble_eq_true rfl⟩ ⟨rfl, rfl⟩ (preV (preM hK hP hD) (recvOf hK hP 0 rfl (ci := 9) rfl)) hl.1 rfl (Nat.le_of_ble_eq_true rfl) dX9_clauseHere_81 ⟨Nat.le_of_ble_eq_true rfl, Nat.le_of_ble_eq_true rfl⟩) hP hD hS hA (fun H locs hP hD hS => ?_)
        have hP : va_P D classes (rc9 a q_t Q_t z63) H := hP
        have hD : va_D A (rc9 a q_t Q_t z63) := hD
        refine lv_if_eq (tgt := 91) hx hb dX9_clauseHere_84 (by decide) (fun c64 => ?_) (fun c64 => ?_)
        · have h := ite_t c64 h
          refine lv_iconst (v := 0) hx hb dX9_clauseHere_91 (by decide) ?_
          exact hJ6 z63 0 _ _ ls h hP hD hS (lv_sub hl [1, 2, 0] rfl)
        · have h := ite_f c64 h
          exact hJ58 z63 _ _ ls h hP hD hS (lv_sub hl [1, 2, 0] rfl)
    · have h := ite_f c54 h
      refine lv_aload_n hx hb dX9_clauseHere_29 rfl (lv_at hl 1 rfl) ?_
      refine lv_ldc2 hx hb hown (hts _ t_1020) dX9_clauseHere_30 ?_
      obtain ⟨r66, z67, hc65, h⟩ := bd2_some h
      refine cWi (runV (As := [.long 1953066341]) (rest := []) C (mX9_isWord l D a (q_t := q_t) (Q_t := Q_t) hc65 H.size) lk_V_9_101 okN_X9_isWord ⟨Nat.le_of_ble_eq_true rfl, Nat.le_of_ble_eq_true rfl⟩ ⟨rfl, rfl⟩ (preV (preM hK hP hD) (recvOf hK hP 0 rfl (ci := 9) rfl)) hl.1 rfl (Nat.le_of_ble_eq_true rfl) dX9_clauseHere_33 ⟨Nat.le_of_ble_eq_true rfl, Nat.le_of_ble_eq_true rfl⟩) hP hD hS hA (fun H locs hP hD hS => ?_)
      have hP : va_P D classes (rc9 a q_t Q_t z67) H := hP
      have hD : va_D A (rc9 a q_t Q_t z67) := hD
      obtain ⟨J68, eJ68, h⟩ := jn_some h
      have hJ68 : ∀ (z69 : Sx) (H : Heap) (locs : List Loc) (ls : Array Slot), J68 z69 = some y → va_P D classes (rc9 a q_t Q_t z69) H → va_D A (rc9 a q_t Q_t z69) → va_S A s.heap H locs → lv_has ls 4 [(0, .ref q_t), (1, .int (gI z3 12)), (2, .int i5)] → W p l e (rmM 10 0 0 220) s m #[.ref q_t] below meth c H locs 0 0 (MQ below (va_Qi (fun r (_ : Unit) => r = y.1) (Bw D A (fun _ => rc9 a q_t Q_t y.2)) A) #[.ref q_t] s 0 0 A) (F0 m 59 ls []) := by
        intro z69 H locs ls h hP hD hS hl
        rw [eJ68] at h
        refine lv_iconst (v := 1) hx hb dX9_clauseHere_59 (by decide) ?_
        refine lv_goto (tgt := 92) hx hb dX9_clauseHere_60 (by decide) ?_
        exact hJ6 z69 1 _ _ ls h hP hD hS (lv_sub hl [0, 1, 2] rfl)
      refine lv_if_ne (tgt := 59) hx hb dX9_clauseHere_36 (by decide) (fun c70 => ?_) (fun c70 => ?_)
      · have h := ite_f c70 h
        exact hJ68 z67 _ _ ls h hP hD hS (lv_sub hl [1, 2, 0] rfl)
      · have h := ite_t c70 h
        refine lv_aload_n hx hb dX9_clauseHere_39 rfl (lv_at hl 1 rfl) ?_
        refine lv_ldc2 hx hb hown (hts _ t_1029) dX9_clauseHere_40 ?_
        obtain ⟨r72, z73, hc71, h⟩ := bd2_some h
        refine cWi (runV (As := [.long 1802071652]) (rest := []) C (mX9_isWord l D a (q_t := q_t) (Q_t := Q_t) hc71 H.size) lk_V_9_101 okN_X9_isWord ⟨Nat.le_of_ble_eq_true rfl, Nat.le_of_ble_eq_true rfl⟩ ⟨rfl, rfl⟩ (preV (preM hK hP hD) (recvOf hK hP 0 rfl (ci := 9) rfl)) hl.1 rfl (Nat.le_of_ble_eq_true rfl) dX9_clauseHere_43 ⟨Nat.le_of_ble_eq_true rfl, Nat.le_of_ble_eq_true rfl⟩) hP hD hS hA (fun H locs hP hD hS => ?_)
        have hP : va_P D classes (rc9 a q_t Q_t z73) H := hP
        have hD : va_D A (rc9 a q_t Q_t z73) := hD
        refine lv_if_ne (tgt := 59) hx hb dX9_clauseHere_46 (by decide) (fun c74 => ?_) (fun c74 => ?_)
        · have h := ite_f c74 h
          exact hJ68 z73 _ _ ls h hP hD hS (lv_sub hl [1, 2, 0] rfl)
        · have h := ite_t c74 h
          refine lv_aload_n hx hb dX9_clauseHere_49 rfl (lv_at hl 1 rfl) ?_
          refine lv_ldc2 hx hb hown (hts _ t_1030) dX9_clauseHere_50 ?_
          obtain ⟨r76, z77, hc75, h⟩ := bd2_some h
          refine cWi (runV (As := [.long 439721749620]) (rest := []) C (mX9_isWord l D a (q_t := q_t) (Q_t := Q_t) hc75 H.size) lk_V_9_101 okN_X9_isWord ⟨Nat.le_of_ble_eq_true rfl, Nat.le_of_ble_eq_true rfl⟩ ⟨rfl, rfl⟩ (preV (preM hK hP hD) (recvOf hK hP 0 rfl (ci := 9) rfl)) hl.1 rfl (Nat.le_of_ble_eq_true rfl) dX9_clauseHere_53 ⟨Nat.le_of_ble_eq_true rfl, Nat.le_of_ble_eq_true rfl⟩) hP hD hS hA (fun H locs hP hD hS => ?_)
          have hP : va_P D classes (rc9 a q_t Q_t z77) H := hP
          have hD : va_D A (rc9 a q_t Q_t z77) := hD
          refine lv_if_eq (tgt := 63) hx hb dX9_clauseHere_56 (by decide) (fun c78 => ?_) (fun c78 => ?_)
          · have h := ite_t c78 h
            refine lv_iconst (v := 0) hx hb dX9_clauseHere_63 (by decide) ?_
            refine lv_goto (tgt := 92) hx hb dX9_clauseHere_64 (by decide) ?_
            exact hJ6 z77 0 _ _ ls h hP hD hS (lv_sub hl [1, 2, 0] rfl)
          · have h := ite_f c78 h
            exact hJ68 z77 _ _ ls h hP hD hS (lv_sub hl [1, 2, 0] rfl)
  refine lv_icmp_ne (tgt := 23) hx hb dX9_clauseHere_16 (by decide) (fun c79 => ?_) (fun c79 => ?_)
  · have h := ite_f c79 h
    refine lv_iconst (v := 0) hx hb dX9_clauseHere_23 (by decide) ?_
    exact hJ4 0 _ _ ls h hP hD hS (lv_sub hl [1, 0] rfl)
  · have h := ite_t c79 h
    refine lv_iconst (v := 1) hx hb dX9_clauseHere_19 (by decide) ?_
    refine lv_goto (tgt := 24) hx hb dX9_clauseHere_20 (by decide) ?_
    exact hJ4 1 _ _ ls h hP hD hS (lv_sub hl [1, 0] rfl)

set_option maxHeartbeats 4000000 in
set_option maxRecDepth 100000 in
theorem mX9_coins (l : Launch) (D : va_G) (a : Nat → ClassId) {q_t : Nat} {Q_t : Nat → Nat} {z_t : Sx} {x1 : Int32} {y : Int32} (h : fX9_coins z_t x1 = some y) : CRi l MX9_coins 1 25 D a [.ref q_t, .int x1] (rc9 a q_t Q_t z_t) (fun r => r = y) := by
  unfold fX9_coins at h
  refine entR (by decide) (Nat.le_of_ble_eq_true rfl) ?_
  intro p e s m below meth c C hK hP ls hl
  obtain ⟨hx, hb, hml, hown, hts, hr, hlocks, hnm⟩ := id C
  have hb : c.code = cX9_coins := hb
  have hown : s.vm.findClass RX9 = some m.cls := hown
  have hl : lv_has ls 2 [(0, .ref q_t), (1, .int x1)] := hl
  refine lv_iload_n hx hb dX9_coins_0 rfl (lv_at hl 1 rfl) ?_
  refine lv_i2l (v := x1.toInt64) hx hb dX9_coins_1 rfl ?_
  refine lv_lconst (v := 0) hx hb dX9_coins_2 (by decide) ?_
  refine lv_ldc2 hx hb hown (hts _ t_1148) dX9_coins_3 ?_
  obtain ⟨r2, hc1, h⟩ := bd_some h
  refine cRi (runS (As := [.long x1.toInt64, .long 0, .long 2]) (rest := []) C (mX9_in l D a hc1) lk_S_9_118 okN_X9_in ⟨Nat.le_of_ble_eq_true rfl, Nat.le_of_ble_eq_true rfl⟩ ⟨rfl, rfl⟩ (preR hK (P_of_map (wc := []) hP [] rfl)) hl.1 rfl (Nat.le_of_ble_eq_true rfl) dX9_coins_6 ⟨Nat.le_of_ble_eq_true rfl, Nat.le_of_ble_eq_true rfl⟩) ?_
  refine lv_if_eq (tgt := 23) hx hb dX9_coins_9 (by decide) (fun c3 => ?_) (fun c3 => ?_)
  · have h := ite_t c3 h
    refine lv_ldcw hx hb hown (hts _ t_1199) dX9_coins_23 ?_
    exact rRi C rfl (Option.some.inj h) dX9_coins_26
  · have h := ite_f c3 h
    refine lv_aload_n hx hb dX9_coins_12 rfl (lv_at hl 0 rfl) ?_
    refine va_get (D := D) (v := .ref (Q_t 24)) (C := RX9) (T := TX9) (N := 36) hx hb hts iX9 hown hK.1 hP 0 rfl rfl 24 (by decide) (hts _ t_906) (fun _ h9 => h9) rfl dX9_coins_13 ?_
    refine lv_iconst (v := 4) hx hb dX9_coins_16 (by decide) ?_
    refine lv_iload_n hx hb dX9_coins_17 rfl (lv_at hl 1 rfl) ?_
    refine lv_iadd hx hb dX9_coins_18 ?_
    obtain ⟨g4, h⟩ := gd_some h
    refine ald_i hx hb hK.1 hP 11 0 rfl rfl ((4 + x1).toNatClampNeg) (ix_g g4) dX9_coins_19 ?_
    refine lv_goto (tgt := 26) hx hb dX9_coins_20 (by decide) ?_
    exact rRi C rfl (Option.some.inj h) dX9_coins_26

set_option maxHeartbeats 4000000 in
set_option maxRecDepth 100000 in
theorem mX9_isOf (l : Launch) (D : va_G) (a : Nat → ClassId) {x0 : Int32} {x1 : Int32} {y : Int32} (h : fX9_isOf x0 x1 = some y) : CRi l MX9_isOf 0 0 D a [.int x0, .int x1] ([]) (fun r => r = y) := by
  unfold fX9_isOf at h
  refine entR (by decide) (Nat.le_of_ble_eq_true rfl) ?_
  intro p e s m below meth c C hK hP ls hl
  obtain ⟨hx, hb, hml, hown, hts, hr, hlocks, hnm⟩ := id C
  have hb : c.code = cX9_isOf := hb
  have hown : s.vm.findClass RX9 = some m.cls := hown
  have hl : lv_has ls 2 [(0, .int x0), (1, .int x1)] := hl
  refine lv_iload_n hx hb dX9_isOf_0 rfl (lv_at hl 0 rfl) ?_
  refine lv_iload_n hx hb dX9_isOf_1 rfl (lv_at hl 1 rfl) ?_
  refine lv_ishr hx hb dX9_isOf_2 ?_
  refine lv_iconst (v := 1) hx hb dX9_isOf_3 (by decide) ?_
  refine lv_iand hx hb dX9_isOf_4 ?_
  refine lv_iconst (v := 1) hx hb dX9_isOf_5 (by decide) ?_
  refine lv_icmp_ne (tgt := 13) hx hb dX9_isOf_6 (by decide) (fun c1 => ?_) (fun c1 => ?_)
  · have h := ite_f c1 h
    refine lv_iconst (v := 0) hx hb dX9_isOf_13 (by decide) ?_
    exact rRz C rfl (Or.inl rfl) (Option.some.inj h) dX9_isOf_14
  · have h := ite_t c1 h
    refine lv_iconst (v := 1) hx hb dX9_isOf_9 (by decide) ?_
    refine lv_goto (tgt := 14) hx hb dX9_isOf_10 (by decide) ?_
    exact rRz C rfl (Or.inr rfl) (Option.some.inj h) dX9_isOf_14

set_option maxHeartbeats 4000000 in
set_option maxRecDepth 100000 in
theorem wX9_comesOut_5 {p : Program} {l : Launch} {e : Env} {s : State} {m : MethodId} {below : List Frame} {meth : Method} {c : Code} {D : va_G} {a : Nat → ClassId} {A : Nat → Prop} {q_t : Nat} {Q_t : Nat → Nat} {x10 : Int32} {x1 : Int32} (C : Cx p s m #[.ref q_t, .int x10] meth c MX9_comesOut) (hK : KK D a s) (hA : ∀ q, s.heap.size ≤ q → A q) {y : Int64 × Sx} : ∀ (n : Nat) (z_t : Sx) (x2 : Int64) (x4 : Int32) (H : Heap) (locs : List Loc) (ls : Array Slot), lX9_comesOut_5 x1 n z_t x2 x4 = some y → va_P D classes (rc9 a q_t Q_t z_t) H → va_D A (rc9 a q_t Q_t z_t) → va_S A s.heap H locs → lv_has ls 7 [(0, .ref q_t), (1, .int x1), (2, .long x2), (4, .int x4)] → W p l e (rmM 3 0 0 64) s m #[.ref q_t, .int x10] below meth c H locs 0 0 (MQ below (va_Ql (fun r (_ : Unit) => r = y.1) (Bw D A (fun _ => rc9 a q_t Q_t y.2)) A) #[.ref q_t, .int x10] s 0 0 A) (F0 m 5 ls []) := by
  obtain ⟨hx, hb, hml, hown, hts, hr, hlocks, hnm⟩ := id C
  have hb : c.code = cX9_comesOut := hb
  have hown : s.vm.findClass RX9 = some m.cls := hown
  intro n
  induction n with
  | zero => intro z_t x2 x4 H locs ls h; rw [lX9_comesOut_5] at h; cases h
  | succ n ih =>
    intro z_t x2 x4 H locs ls h hP hD hS hl
    rw [lX9_comesOut_5] at h
    refine lv_iload hx hb dX9_comesOut_5 (lv_at hl 3 rfl) ?_
    refine lv_aload_n hx hb dX9_comesOut_7 rfl (lv_at hl 0 rfl) ?_
    refine va_get (D := D) (v := .ref (Q_t 24)) (C := RX9) (T := TX9) (N := 36) hx hb hts iX9 hown hK.1 hP 0 rfl rfl 24 (by decide) (hts _ t_906) (fun _ h9 => h9) rfl dX9_comesOut_8 ?_
    refine lv_bipush (v := 8) hx hb dX9_comesOut_11 (by decide) ?_
    refine ald_i hx hb hK.1 hP 11 0 rfl rfl 8 (ix_lit (by decide)) dX9_comesOut_13 ?_
    refine lv_icmp_ge (tgt := 154) hx hb dX9_comesOut_14 (by decide) (fun c1 => ?_) (fun c1 => ?_)
    · have h := ite_t c1 h
      refine lv_lload_n hx hb dX9_comesOut_154 rfl (lv_at hl 2 rfl) ?_
      exact rMl C rfl h (g := fun y => rc9 a q_t Q_t y.2) (pr := fun y => y.1) hP hD hS dX9_comesOut_155
    · have h := ite_f c1 h
      refine lv_aload_n hx hb dX9_comesOut_17 rfl (lv_at hl 0 rfl) ?_
      refine va_get (D := D) (v := .ref (Q_t 24)) (C := RX9) (T := TX9) (N := 36) hx hb hts iX9 hown hK.1 hP 0 rfl rfl 24 (by decide) (hts _ t_906) (fun _ h9 => h9) rfl dX9_comesOut_18 ?_
      refine lv_bipush (v := 10) hx hb dX9_comesOut_21 (by decide) ?_
      refine lv_iload hx hb dX9_comesOut_23 (lv_at hl 3 rfl) ?_
      refine lv_iadd hx hb dX9_comesOut_25 ?_
      obtain ⟨g2, h⟩ := gd_some h
      refine ald_i hx hb hK.1 hP 11 0 rfl rfl ((10 + x4).toNatClampNeg) (ix_g g2) dX9_comesOut_26 ?_
      refine lv_istore (lv' := [(5, .int (gT z_t 24 ((10 + x4).toNatClampNeg))), (0, .ref q_t), (1, .int x1), (2, .long x2), (4, .int x4)]) hx hb dX9_comesOut_27 hl (by decide) rfl (fun ls hl => ?_)
      refine lv_iload_n hx hb dX9_comesOut_29 rfl (lv_at hl 2 rfl) ?_
      refine lv_iload hx hb dX9_comesOut_30 (lv_at hl 4 rfl) ?_
      obtain ⟨r4, hc3, h⟩ := bd_some h
      refine cRi (runS (As := [.int x1, .int x4]) (rest := []) C (mX9_isOf l D a hc3) lk_S_9_349 okN_X9_isOf ⟨Nat.le_of_ble_eq_true rfl, Nat.le_of_ble_eq_true rfl⟩ ⟨rfl, rfl⟩ (preR hK (P_of_map (wc := []) hP [] rfl)) hl.1 rfl (Nat.le_of_ble_eq_true rfl) dX9_comesOut_32 ⟨Nat.le_of_ble_eq_true rfl, Nat.le_of_ble_eq_true rfl⟩) ?_
      refine lv_istore (lv' := [(6, .int r4), (5, .int (gT z_t 24 ((10 + x4).toNatClampNeg))), (0, .ref q_t), (1, .int x1), (2, .long x2), (4, .int x4)]) hx hb dX9_comesOut_35 hl (by decide) rfl (fun ls hl => ?_)
      refine lv_aload_n hx hb dX9_comesOut_37 rfl (lv_at hl 2 rfl) ?_
      refine lv_iload hx hb dX9_comesOut_38 (lv_at hl 1 rfl) ?_
      obtain ⟨r6, hc5, h⟩ := bd_some h
      refine cRi (runV (As := [.int (gT z_t 24 ((10 + x4).toNatClampNeg))]) (rest := []) C (mX9_canLook l D a (q_t := q_t) (Q_t := Q_t) hc5) lk_V_9_295 okN_X9_canLook ⟨Nat.le_of_ble_eq_true rfl, Nat.le_of_ble_eq_true rfl⟩ ⟨rfl, rfl⟩ (preV (preR hK hP) (recvOf hK hP 0 rfl (ci := 9) rfl)) hl.1 rfl (Nat.le_of_ble_eq_true rfl) dX9_comesOut_40 ⟨Nat.le_of_ble_eq_true rfl, Nat.le_of_ble_eq_true rfl⟩) ?_
      obtain ⟨J7, eJ7, h⟩ := jn_some h
      have hJ7 : ∀ (z8 : Sx) (i9 : Int64) (H : Heap) (locs : List Loc) (ls : Array Slot), J7 z8 i9 = some y → va_P D classes (rc9 a q_t Q_t z8) H → va_D A (rc9 a q_t Q_t z8) → va_S A s.heap H locs → lv_has ls 7 [(0, .ref q_t), (1, .int x1), (2, .long i9), (4, .int x4)] → W p l e (rmM 3 0 0 64) s m #[.ref q_t, .int x10] below meth c H locs 0 0 (MQ below (va_Ql (fun r (_ : Unit) => r = y.1) (Bw D A (fun _ => rc9 a q_t Q_t y.2)) A) #[.ref q_t, .int x10] s 0 0 A) (F0 m 148 ls []) := by
        intro z8 i9 H locs ls h hP hD hS hl
        rw [eJ7] at h
        refine lv_iinc (v := x4 + 1) (lv' := [(4, .int (x4 + 1)), (0, .ref q_t), (1, .int x1), (2, .long i9)]) hx hb dX9_comesOut_148 hl (k := 3) rfl rfl (by decide) rfl (fun ls hl => ?_)
        refine lv_goto (tgt := 5) hx hb dX9_comesOut_151 (by decide) ?_
        exact ih z8 i9 (x4 + 1) _ _ ls h hP hD hS (lv_sub hl [1, 2, 3, 0] rfl)
      refine lv_if_ne (tgt := 62) hx hb dX9_comesOut_43 (by decide) (fun c10 => ?_) (fun c10 => ?_)
      · have h := ite_f c10 h
        refine lv_aload_n hx hb dX9_comesOut_62 rfl (lv_at hl 2 rfl) ?_
        refine va_get (D := D) (v := .ref (Q_t 24)) (C := RX9) (T := TX9) (N := 36) hx hb hts iX9 hown hK.1 hP 0 rfl rfl 24 (by decide) (hts _ t_906) (fun _ h9 => h9) rfl dX9_comesOut_63 ?_
        refine lv_iconst (v := 3) hx hb dX9_comesOut_66 (by decide) ?_
        refine lv_dup2_11 hx hb dX9_comesOut_67 rfl rfl ?_
        refine ald_i hx hb hK.1 hP 11 0 rfl rfl 3 (ix_lit (by decide)) dX9_comesOut_68 ?_
        refine lv_aload_n hx hb dX9_comesOut_69 rfl (lv_at hl 2 rfl) ?_
        refine lv_iload hx hb dX9_comesOut_70 (lv_at hl 1 rfl) ?_
        refine lv_iconst (v := 1) hx hb dX9_comesOut_72 (by decide) ?_
        obtain ⟨r12, hc11, h⟩ := bd_some h
        refine cRi (runV (As := [.int (gT z_t 24 ((10 + x4).toNatClampNeg)), .int 1]) (rest := [.int (gT z_t 24 3), .int 3, .ref (Q_t 24)]) C (mX9_faultOf l D a (q_t := q_t) (Q_t := Q_t) hc11) lk_V_9_268 okN_X9_faultOf ⟨Nat.le_of_ble_eq_true rfl, Nat.le_of_ble_eq_true rfl⟩ ⟨rfl, rfl⟩ (preV (preR hK hP) (recvOf hK hP 0 rfl (ci := 9) rfl)) hl.1 rfl (Nat.le_of_ble_eq_true rfl) dX9_comesOut_73 ⟨Nat.le_of_ble_eq_true rfl, Nat.le_of_ble_eq_true rfl⟩) ?_
        refine lv_isub hx hb dX9_comesOut_76 ?_
        refine ast_i hx hb hK.1 hP hD hS 11 0 rfl rfl 3 (ix_lit (by decide)) dX9_comesOut_77 (fun H locs hP hD hS => ?_)
        rw [u9_24] at hP hD
        refine lv_lload_n hx hb dX9_comesOut_78 rfl (lv_at hl 4 rfl) ?_
        refine lv_iload hx hb dX9_comesOut_79 (lv_at hl 0 rfl) ?_
        obtain ⟨J13, eJ13, h⟩ := jn_some h
        have hJ13 : ∀ (i14 : Int64) (i15 : Int64) (H : Heap) (locs : List Loc) (ls : Array Slot), J13 i14 i15 = some y → va_P D classes (rc9 a q_t Q_t (sT z_t 24 3 ((gT z_t 24 3) - r12))) H → va_D A (rc9 a q_t Q_t (sT z_t 24 3 ((gT z_t 24 3) - r12))) → va_S A s.heap H locs → lv_has ls 7 [(0, .ref q_t), (1, .int x1), (4, .int x4), (5, .int (gT z_t 24 ((10 + x4).toNatClampNeg))), (6, .int r4)] → W p l e (rmM 3 0 0 64) s m #[.ref q_t, .int x10] below meth c H locs 0 0 (MQ below (va_Ql (fun r (_ : Unit) => r = y.1) (Bw D A (fun _ => rc9 a q_t Q_t y.2)) A) #[.ref q_t, .int x10] s 0 0 A) (F0 m 106 ls [.long i14, .long i15]) := by
          intro i14 i15 H locs ls h hP hD hS hl
          rw [eJ13] at h
          refine lv_lmul hx hb dX9_comesOut_106 ?_
          refine lv_lstore_n (lv' := [(2, .long (i15 * i14)), (0, .ref q_t), (1, .int x1), (4, .int x4), (5, .int (gT z_t 24 ((10 + x4).toNatClampNeg))), (6, .int r4)]) hx hb dX9_comesOut_107 rfl hl (by decide) rfl (fun ls hl => ?_)
          refine lv_iload hx hb dX9_comesOut_108 (lv_at hl 5 rfl) ?_
          refine lv_if_ne (tgt := 116) hx hb dX9_comesOut_110 (by decide) (fun c16 => ?_) (fun c16 => ?_)
          · have h := ite_f c16 h
            refine lv_aload_n hx hb dX9_comesOut_116 rfl (lv_at hl 1 rfl) ?_
            refine va_get (D := D) (v := .ref (Q_t 24)) (C := RX9) (T := TX9) (N := 36) hx hb hts iX9 hown hK.1 hP 0 rfl rfl 24 (by decide) (hts _ t_906) (fun _ h9 => h9) rfl dX9_comesOut_117 ?_
            refine lv_bipush (v := 44) hx hb dX9_comesOut_120 (by decide) ?_
            refine lv_bipush (v := 6) hx hb dX9_comesOut_122 (by decide) ?_
            refine lv_iload hx hb dX9_comesOut_124 (lv_at hl 4 rfl) ?_
            refine lv_imul hx hb dX9_comesOut_126 ?_
            refine lv_iadd hx hb dX9_comesOut_127 ?_
            refine lv_iconst (v := 4) hx hb dX9_comesOut_128 (by decide) ?_
            refine lv_iadd hx hb dX9_comesOut_129 ?_
            refine lv_iconst (v := 1) hx hb dX9_comesOut_130 (by decide) ?_
            obtain ⟨g17, h⟩ := gd_some h
            refine ast_i hx hb hK.1 hP hD hS 11 0 rfl rfl (((44 + (6 * (gT z_t 24 ((10 + x4).toNatClampNeg)))) + 4).toNatClampNeg) (ix_g g17) dX9_comesOut_131 (fun H locs hP hD hS => ?_)
            rw [u9_24] at hP hD
            refine lv_aload_n hx hb dX9_comesOut_132 rfl (lv_at hl 1 rfl) ?_
            refine va_get (D := D) (v := .ref (Q_t 24)) (C := RX9) (T := TX9) (N := 36) hx hb hts iX9 hown hK.1 hP 0 rfl rfl 24 (by decide) (hts _ t_906) (fun _ h9 => h9) rfl dX9_comesOut_133 ?_
            refine lv_iconst (v := 4) hx hb dX9_comesOut_136 (by decide) ?_
            refine lv_dup2_11 hx hb dX9_comesOut_137 rfl rfl ?_
            refine ald_i hx hb hK.1 hP 11 0 rfl rfl 4 (ix_lit (by decide)) dX9_comesOut_138 ?_
            refine lv_aload_n hx hb dX9_comesOut_139 rfl (lv_at hl 1 rfl) ?_
            refine lv_iload hx hb dX9_comesOut_140 (lv_at hl 4 rfl) ?_
            refine lv_iconst (v := 0) hx hb dX9_comesOut_142 (by decide) ?_
            obtain ⟨r19, hc18, h⟩ := bd_some h
            refine cRi (runV (As := [.int (gT z_t 24 ((10 + x4).toNatClampNeg)), .int 0]) (rest := [.int (gT (sT (sT z_t 24 3 ((gT z_t 24 3) - r12)) 24 (((44 + (6 * (gT z_t 24 ((10 + x4).toNatClampNeg)))) + 4).toNatClampNeg) 1) 24 4), .int 4, .ref (Q_t 24)]) C (mX9_kindOf l D a (q_t := q_t) (Q_t := Q_t) hc18) lk_V_9_275 okN_X9_kindOf ⟨Nat.le_of_ble_eq_true rfl, Nat.le_of_ble_eq_true rfl⟩ ⟨rfl, rfl⟩ (preV (preR hK hP) (recvOf hK hP 0 rfl (ci := 9) rfl)) hl.1 rfl (Nat.le_of_ble_eq_true rfl) dX9_comesOut_143 ⟨Nat.le_of_ble_eq_true rfl, Nat.le_of_ble_eq_true rfl⟩) ?_
            refine lv_iadd hx hb dX9_comesOut_146 ?_
            refine lv_topi (fun v20 ev20 => ?_)
            have h := nm_some h v20 ev20
            refine ast_i hx hb hK.1 hP hD hS 11 0 rfl rfl 4 (ix_lit (by decide)) dX9_comesOut_147 (fun H locs hP hD hS => ?_)
            rw [u9_24] at hP hD
            exact hJ7 (sT (sT (sT z_t 24 3 ((gT z_t 24 3) - r12)) 24 (((44 + (6 * (gT z_t 24 ((10 + x4).toNatClampNeg)))) + 4).toNatClampNeg) 1) 24 4 v20) (i15 * i14) _ _ ls h hP hD hS (lv_sub hl [1, 2, 0, 3] rfl)
          · have h := ite_t c16 h
            refine lv_goto (tgt := 148) hx hb dX9_comesOut_113 (by decide) ?_
            exact hJ7 (sT z_t 24 3 ((gT z_t 24 3) - r12)) (i15 * i14) _ _ ls h hP hD hS (lv_sub hl [1, 2, 0, 3] rfl)
        refine lv_if_eq (tgt := 95) hx hb dX9_comesOut_81 (by decide) (fun c21 => ?_) (fun c21 => ?_)
        · have h := ite_t c21 h
          refine lv_bipush (v := 100) hx hb dX9_comesOut_95 (by decide) ?_
          refine lv_aload_n hx hb dX9_comesOut_97 rfl (lv_at hl 2 rfl) ?_
          refine lv_iload hx hb dX9_comesOut_98 (lv_at hl 1 rfl) ?_
          refine lv_iconst (v := 2) hx hb dX9_comesOut_100 (by decide) ?_
          obtain ⟨r23, hc22, h⟩ := bd_some h
          refine cRi (runV (As := [.int (gT z_t 24 ((10 + x4).toNatClampNeg)), .int 2]) (rest := [.int 100, .long x2]) C (mX9_faultOf l D a (q_t := q_t) (Q_t := Q_t) hc22) lk_V_9_268 okN_X9_faultOf ⟨Nat.le_of_ble_eq_true rfl, Nat.le_of_ble_eq_true rfl⟩ ⟨rfl, rfl⟩ (preV (preR hK hP) (recvOf hK hP 0 rfl (ci := 9) rfl)) hl.1 rfl (Nat.le_of_ble_eq_true rfl) dX9_comesOut_101 ⟨Nat.le_of_ble_eq_true rfl, Nat.le_of_ble_eq_true rfl⟩) ?_
          refine lv_isub hx hb dX9_comesOut_104 ?_
          refine lv_i2l (v := (100 - r23).toInt64) hx hb dX9_comesOut_105 rfl ?_
          exact hJ13 ((100 - r23).toInt64) x2 _ _ ls h hP hD hS (lv_sub hl [2, 3, 5, 1, 0] rfl)
        · have h := ite_f c21 h
          refine lv_aload_n hx hb dX9_comesOut_84 rfl (lv_at hl 2 rfl) ?_
          refine lv_iload hx hb dX9_comesOut_85 (lv_at hl 1 rfl) ?_
          refine lv_iconst (v := 2) hx hb dX9_comesOut_87 (by decide) ?_
          obtain ⟨r25, hc24, h⟩ := bd_some h
          refine cRi (runV (As := [.int (gT z_t 24 ((10 + x4).toNatClampNeg)), .int 2]) (rest := [.long x2]) C (mX9_faultOf l D a (q_t := q_t) (Q_t := Q_t) hc24) lk_V_9_268 okN_X9_faultOf ⟨Nat.le_of_ble_eq_true rfl, Nat.le_of_ble_eq_true rfl⟩ ⟨rfl, rfl⟩ (preV (preR hK hP) (recvOf hK hP 0 rfl (ci := 9) rfl)) hl.1 rfl (Nat.le_of_ble_eq_true rfl) dX9_comesOut_88 ⟨Nat.le_of_ble_eq_true rfl, Nat.le_of_ble_eq_true rfl⟩) ?_
          refine lv_i2l (v := r25.toInt64) hx hb dX9_comesOut_91 rfl ?_
          refine lv_goto (tgt := 106) hx hb dX9_comesOut_92 (by decide) ?_
          exact hJ13 r25.toInt64 x2 _ _ ls h hP hD hS (lv_sub hl [2, 3, 5, 1, 0] rfl)
      · have h := ite_t c10 h
        refine lv_iload hx hb dX9_comesOut_46 (lv_at hl 0 rfl) ?_
        refine lv_if_eq (tgt := 53) hx hb dX9_comesOut_48 (by decide) (fun c26 => ?_) (fun c26 => ?_)
        · have h := ite_t c26 h
          refine lv_lload_n hx hb dX9_comesOut_53 rfl (lv_at hl 4 rfl) ?_
          refine lv_ldc2 hx hb hown (hts _ t_1299) dX9_comesOut_54 ?_
          refine lv_lmul hx hb dX9_comesOut_57 ?_
          refine lv_lstore_n (lv' := [(2, .long (x2 * 100)), (6, .int r4), (5, .int (gT z_t 24 ((10 + x4).toNatClampNeg))), (0, .ref q_t), (1, .int x1), (4, .int x4)]) hx hb dX9_comesOut_58 rfl hl (by decide) rfl (fun ls hl => ?_)
          refine lv_goto (tgt := 148) hx hb dX9_comesOut_59 (by decide) ?_
          exact hJ7 z_t (x2 * 100) _ _ ls h hP hD hS (lv_sub hl [3, 4, 0, 5] rfl)
        · have h := ite_f c26 h
          refine lv_lconst (v := 0) hx hb dX9_comesOut_51 (by decide) ?_
          exact rMl C rfl h (g := fun y => rc9 a q_t Q_t y.2) (pr := fun y => y.1) hP hD hS dX9_comesOut_52

set_option maxHeartbeats 4000000 in
set_option maxRecDepth 100000 in
theorem mX9_comesOut (l : Launch) (D : va_G) (a : Nat → ClassId) {q_t : Nat} {Q_t : Nat → Nat} {z_t : Sx} {x1 : Int32} {y : Int64 × Sx} (h : fX9_comesOut z_t x1 = some y) (sz : Nat) : CMl (S := Unit) l MX9_comesOut 3 64 0 0 D a [.ref q_t, .int x1] (rc9 a q_t Q_t z_t) sz (fun r _ => r = y.1) (fun _ => rc9 a q_t Q_t y.2) := by
  unfold fX9_comesOut at h
  refine entMl (by decide) (Nat.le_of_ble_eq_true rfl) ?_
  intro p e s m below meth c C hK A hA hP hD ls hl
  obtain ⟨hx, hb, hml, hown, hts, hr, hlocks, hnm⟩ := id C
  have hb : c.code = cX9_comesOut := hb
  have hown : s.vm.findClass RX9 = some m.cls := hown
  have hS : va_S A s.heap s.heap [] := va_S.rf
  have hl : lv_has ls 7 [(0, .ref q_t), (1, .int x1)] := hl
  refine lv_lconst (v := 1) hx hb dX9_comesOut_0 (by decide) ?_
  refine lv_lstore_n (lv' := [(2, .long 1), (0, .ref q_t), (1, .int x1)]) hx hb dX9_comesOut_1 rfl hl (by decide) rfl (fun ls hl => ?_)
  refine lv_iconst (v := 0) hx hb dX9_comesOut_2 (by decide) ?_
  refine lv_istore (lv' := [(4, .int 0), (2, .long 1), (0, .ref q_t), (1, .int x1)]) hx hb dX9_comesOut_3 hl (by decide) rfl (fun ls hl => ?_)
  refine wX9_comesOut_5 C hK hA FU z_t 1 0 _ _ ls h hP hD hS (lv_sub hl [2, 3, 1, 0] rfl)

set_option maxHeartbeats 4000000 in
set_option maxRecDepth 100000 in
theorem wX9_couldBe_8 {p : Program} {l : Launch} {e : Env} {s : State} {m : MethodId} {below : List Frame} {meth : Method} {c : Code} {D : va_G} {a : Nat → ClassId} {q_t : Nat} {Q_t : Nat → Nat} {z_t : Sx} {x10 : Int32} {x20 : Int32} {x1 : Int32} {x2 : Int32} (C : Cx p s m #[.ref q_t, .int x10, .int x20] meth c MX9_couldBe) (hK : KK D a s) {y : Int32} (hP : va_P D classes (rc9 a q_t Q_t z_t) s.heap) {k116 : Int32 → Int32 → Option (Int32)} (hk116 : ∀ (x3k : Int32) (x4k : Int32) (ls : Array Slot), k116 x3k x4k = some y → lv_has ls 7 [(0, .ref q_t), (2, .int x2), (3, .int x3k), (4, .int x4k)] → W p l e (rmM 2 0 0 44) s m #[.ref q_t, .int x10, .int x20] below meth c s.heap [] 0 0 (MQ below (vp_Si (fun r => r = y)) #[.ref q_t, .int x10, .int x20] s 0 0 (fun _ => False)) (F0 m 116 ls [])) : ∀ (n : Nat) (x3 : Int32) (x4 : Int32) (x5 : Int32) (ls : Array Slot), lX9_couldBe_8 k116 z_t x1 x2 n x3 x4 x5 = some y → lv_has ls 7 [(0, .ref q_t), (1, .int x1), (2, .int x2), (3, .int x3), (4, .int x4), (5, .int x5)] → W p l e (rmM 2 0 0 44) s m #[.ref q_t, .int x10, .int x20] below meth c s.heap [] 0 0 (MQ below (vp_Si (fun r => r = y)) #[.ref q_t, .int x10, .int x20] s 0 0 (fun _ => False)) (F0 m 8 ls []) := by
  obtain ⟨hx, hb, hml, hown, hts, hr, hlocks, hnm⟩ := id C
  have hb : c.code = cX9_couldBe := hb
  have hown : s.vm.findClass RX9 = some m.cls := hown
  intro n
  induction n with
  | zero => intro x3 x4 x5 ls h; rw [lX9_couldBe_8] at h; cases h
  | succ n ih =>
    intro x3 x4 x5 ls h hl
    rw [lX9_couldBe_8] at h
    refine lv_iload hx hb dX9_couldBe_8 (lv_at hl 5 rfl) ?_
    refine lv_aload_n hx hb dX9_couldBe_10 rfl (lv_at hl 0 rfl) ?_
    refine va_get (D := D) (v := .ref (Q_t 24)) (C := RX9) (T := TX9) (N := 36) hx hb hts iX9 hown hK.1 hP 0 rfl rfl 24 (by decide) (hts _ t_906) (fun _ h9 => h9) rfl dX9_couldBe_11 ?_
    refine lv_iconst (v := 0) hx hb dX9_couldBe_14 (by decide) ?_
    refine ald_i hx hb hK.1 hP 11 0 rfl rfl 0 (ix_lit (by decide)) dX9_couldBe_15 ?_
    refine lv_icmp_ge (tgt := 116) hx hb dX9_couldBe_16 (by decide) (fun c1 => ?_) (fun c1 => ?_)
    · have h := ite_t c1 h
      exact hk116 x3 x4 ls h (lv_sub hl [0, 2, 3, 4] rfl)
    · have h := ite_f c1 h
      refine lv_iload_n hx hb dX9_couldBe_19 rfl (lv_at hl 1 rfl) ?_
      refine lv_iload hx hb dX9_couldBe_20 (lv_at hl 5 rfl) ?_
      obtain ⟨r3, hc2, h⟩ := bd_some h
      refine cRi (runS (As := [.int x1, .int x5]) (rest := []) C (mX9_isOf l D a hc2) lk_S_9_349 okN_X9_isOf ⟨Nat.le_of_ble_eq_true rfl, Nat.le_of_ble_eq_true rfl⟩ ⟨rfl, rfl⟩ (preR hK (P_of_map (wc := []) hP [] rfl)) hl.1 rfl (Nat.le_of_ble_eq_true rfl) dX9_couldBe_22 ⟨Nat.le_of_ble_eq_true rfl, Nat.le_of_ble_eq_true rfl⟩) ?_
      obtain ⟨J4, eJ4, h⟩ := jn_some h
      have hJ4 : ∀ (i5 : Int32) (i6 : Int32) (ls : Array Slot), J4 i5 i6 = some y → lv_has ls 7 [(0, .ref q_t), (1, .int x1), (2, .int x2), (3, .int i5), (4, .int i6), (5, .int x5)] → W p l e (rmM 2 0 0 44) s m #[.ref q_t, .int x10, .int x20] below meth c s.heap [] 0 0 (MQ below (vp_Si (fun r => r = y)) #[.ref q_t, .int x10, .int x20] s 0 0 (fun _ => False)) (F0 m 110 ls []) := by
        intro i5 i6 ls h hl
        rw [eJ4] at h
        refine lv_iinc (v := x5 + 1) (lv' := [(5, .int (x5 + 1)), (0, .ref q_t), (1, .int x1), (2, .int x2), (3, .int i5), (4, .int i6)]) hx hb dX9_couldBe_110 hl (k := 5) rfl rfl (by decide) rfl (fun ls hl => ?_)
        refine lv_goto (tgt := 8) hx hb dX9_couldBe_113 (by decide) ?_
        exact ih i5 i6 (x5 + 1) ls h (lv_sub hl [1, 2, 3, 4, 5, 0] rfl)
      refine lv_if_ne (tgt := 31) hx hb dX9_couldBe_25 (by decide) (fun c7 => ?_) (fun c7 => ?_)
      · have h := ite_f c7 h
        refine lv_aload_n hx hb dX9_couldBe_31 rfl (lv_at hl 0 rfl) ?_
        refine lv_iload hx hb dX9_couldBe_32 (lv_at hl 5 rfl) ?_
        refine lv_iconst (v := 3) hx hb dX9_couldBe_34 (by decide) ?_
        obtain ⟨r9, hc8, h⟩ := bd_some h
        refine cRi (runV (As := [.int x5, .int 3]) (rest := []) C (mX9_faultOf l D a (q_t := q_t) (Q_t := Q_t) hc8) lk_V_9_268 okN_X9_faultOf ⟨Nat.le_of_ble_eq_true rfl, Nat.le_of_ble_eq_true rfl⟩ ⟨rfl, rfl⟩ (preV (preR hK hP) (recvOf hK hP 0 rfl (ci := 9) rfl)) hl.1 rfl (Nat.le_of_ble_eq_true rfl) dX9_couldBe_35 ⟨Nat.le_of_ble_eq_true rfl, Nat.le_of_ble_eq_true rfl⟩) ?_
        refine lv_istore (lv' := [(6, .int r9), (0, .ref q_t), (1, .int x1), (2, .int x2), (3, .int x3), (4, .int x4), (5, .int x5)]) hx hb dX9_couldBe_38 hl (by decide) rfl (fun ls hl => ?_)
        refine lv_aload_n hx hb dX9_couldBe_40 rfl (lv_at hl 1 rfl) ?_
        refine lv_iload hx hb dX9_couldBe_41 (lv_at hl 6 rfl) ?_
        refine lv_iconst (v := 2) hx hb dX9_couldBe_43 (by decide) ?_
        obtain ⟨r11, hc10, h⟩ := bd_some h
        refine cRi (runV (As := [.int x5, .int 2]) (rest := []) C (mX9_faultOf l D a (q_t := q_t) (Q_t := Q_t) hc10) lk_V_9_268 okN_X9_faultOf ⟨Nat.le_of_ble_eq_true rfl, Nat.le_of_ble_eq_true rfl⟩ ⟨rfl, rfl⟩ (preV (preR hK hP) (recvOf hK hP 0 rfl (ci := 9) rfl)) hl.1 rfl (Nat.le_of_ble_eq_true rfl) dX9_couldBe_44 ⟨Nat.le_of_ble_eq_true rfl, Nat.le_of_ble_eq_true rfl⟩) ?_
        refine lv_if_eq (tgt := 86) hx hb dX9_couldBe_47 (by decide) (fun c12 => ?_) (fun c12 => ?_)
        · have h := ite_t c12 h
          refine lv_iconst (v := 0) hx hb dX9_couldBe_86 (by decide) ?_
          exact rRz C rfl (Or.inl rfl) (Option.some.inj h) dX9_couldBe_87
        · have h := ite_f c12 h
          refine lv_aload_n hx hb dX9_couldBe_50 rfl (lv_at hl 1 rfl) ?_
          refine lv_iload hx hb dX9_couldBe_51 (lv_at hl 6 rfl) ?_
          refine lv_iconst (v := 4) hx hb dX9_couldBe_53 (by decide) ?_
          obtain ⟨r14, hc13, h⟩ := bd_some h
          refine cRi (runV (As := [.int x5, .int 4]) (rest := []) C (mX9_faultOf l D a (q_t := q_t) (Q_t := Q_t) hc13) lk_V_9_268 okN_X9_faultOf ⟨Nat.le_of_ble_eq_true rfl, Nat.le_of_ble_eq_true rfl⟩ ⟨rfl, rfl⟩ (preV (preR hK hP) (recvOf hK hP 0 rfl (ci := 9) rfl)) hl.1 rfl (Nat.le_of_ble_eq_true rfl) dX9_couldBe_54 ⟨Nat.le_of_ble_eq_true rfl, Nat.le_of_ble_eq_true rfl⟩) ?_
          refine lv_iconst (v := 2) hx hb dX9_couldBe_57 (by decide) ?_
          refine lv_icmp_eq (tgt := 86) hx hb dX9_couldBe_58 (by decide) (fun c15 => ?_) (fun c15 => ?_)
          · have h := ite_t c15 h
            refine lv_iconst (v := 0) hx hb dX9_couldBe_86 (by decide) ?_
            exact rRz C rfl (Or.inl rfl) (Option.some.inj h) dX9_couldBe_87
          · have h := ite_f c15 h
            refine lv_iload hx hb dX9_couldBe_61 (lv_at hl 0 rfl) ?_
            obtain ⟨J16, eJ16, h⟩ := jn_some h
            have hJ16 : ∀ (ls : Array Slot), J16 = some y → lv_has ls 7 [(0, .ref q_t), (1, .int x1), (2, .int x2), (3, .int x3), (4, .int x4), (5, .int x5)] → W p l e (rmM 2 0 0 44) s m #[.ref q_t, .int x10, .int x20] below meth c s.heap [] 0 0 (MQ below (vp_Si (fun r => r = y)) #[.ref q_t, .int x10, .int x20] s 0 0 (fun _ => False)) (F0 m 88 ls []) := by
              intro ls h hl
              rw [eJ16] at h
              refine lv_iload_n hx hb dX9_couldBe_88 rfl (lv_at hl 3 rfl) ?_
              refine lv_aload_n hx hb dX9_couldBe_89 rfl (lv_at hl 0 rfl) ?_
              refine lv_iload hx hb dX9_couldBe_90 (lv_at hl 5 rfl) ?_
              refine lv_iconst (v := 1) hx hb dX9_couldBe_92 (by decide) ?_
              obtain ⟨r18, hc17, h⟩ := bd_some h
              refine cRi (runV (As := [.int x5, .int 1]) (rest := [.int x3]) C (mX9_faultOf l D a (q_t := q_t) (Q_t := Q_t) hc17) lk_V_9_268 okN_X9_faultOf ⟨Nat.le_of_ble_eq_true rfl, Nat.le_of_ble_eq_true rfl⟩ ⟨rfl, rfl⟩ (preV (preR hK hP) (recvOf hK hP 0 rfl (ci := 9) rfl)) hl.1 rfl (Nat.le_of_ble_eq_true rfl) dX9_couldBe_93 ⟨Nat.le_of_ble_eq_true rfl, Nat.le_of_ble_eq_true rfl⟩) ?_
              refine lv_iadd hx hb dX9_couldBe_96 ?_
              refine lv_istore_n (lv' := [(3, .int (x3 + r18)), (0, .ref q_t), (1, .int x1), (2, .int x2), (4, .int x4), (5, .int x5)]) hx hb dX9_couldBe_97 rfl hl (by decide) rfl (fun ls hl => ?_)
              refine lv_iload hx hb dX9_couldBe_98 (lv_at hl 4 rfl) ?_
              refine lv_aload_n hx hb dX9_couldBe_100 rfl (lv_at hl 1 rfl) ?_
              refine lv_iload hx hb dX9_couldBe_101 (lv_at hl 5 rfl) ?_
              refine lv_iconst (v := 0) hx hb dX9_couldBe_103 (by decide) ?_
              obtain ⟨r20, hc19, h⟩ := bd_some h
              refine cRi (runV (As := [.int x5, .int 0]) (rest := [.int x4]) C (mX9_kindOf l D a (q_t := q_t) (Q_t := Q_t) hc19) lk_V_9_275 okN_X9_kindOf ⟨Nat.le_of_ble_eq_true rfl, Nat.le_of_ble_eq_true rfl⟩ ⟨rfl, rfl⟩ (preV (preR hK hP) (recvOf hK hP 0 rfl (ci := 9) rfl)) hl.1 rfl (Nat.le_of_ble_eq_true rfl) dX9_couldBe_104 ⟨Nat.le_of_ble_eq_true rfl, Nat.le_of_ble_eq_true rfl⟩) ?_
              refine lv_iadd hx hb dX9_couldBe_107 ?_
              refine lv_istore (lv' := [(4, .int (x4 + r20)), (3, .int (x3 + r18)), (0, .ref q_t), (1, .int x1), (2, .int x2), (5, .int x5)]) hx hb dX9_couldBe_108 hl (by decide) rfl (fun ls hl => ?_)
              exact hJ4 (x3 + r18) (x4 + r20) ls h (lv_sub hl [2, 3, 4, 1, 0, 5] rfl)
            refine lv_if_lt (tgt := 88) hx hb dX9_couldBe_63 (by decide) (fun c21 => ?_) (fun c21 => ?_)
            · have h := ite_t c21 h
              exact hJ16 ls h (lv_sub hl [1, 2, 3, 4, 5, 6] rfl)
            · have h := ite_f c21 h
              refine lv_iload_n hx hb dX9_couldBe_66 rfl (lv_at hl 2 rfl) ?_
              refine lv_iload hx hb dX9_couldBe_67 (lv_at hl 0 rfl) ?_
              obtain ⟨r23, hc22, h⟩ := bd_some h
              refine cRi (runS (As := [.int x1, .int r9]) (rest := []) C (mX9_isOf l D a hc22) lk_S_9_349 okN_X9_isOf ⟨Nat.le_of_ble_eq_true rfl, Nat.le_of_ble_eq_true rfl⟩ ⟨rfl, rfl⟩ (preR hK (P_of_map (wc := []) hP [] rfl)) hl.1 rfl (Nat.le_of_ble_eq_true rfl) dX9_couldBe_69 ⟨Nat.le_of_ble_eq_true rfl, Nat.le_of_ble_eq_true rfl⟩) ?_
              refine lv_if_ne (tgt := 88) hx hb dX9_couldBe_72 (by decide) (fun c24 => ?_) (fun c24 => ?_)
              · have h := ite_f c24 h
                exact hJ16 ls h (lv_sub hl [1, 2, 3, 4, 5, 6] rfl)
              · have h := ite_t c24 h
                refine lv_aload_n hx hb dX9_couldBe_75 rfl (lv_at hl 1 rfl) ?_
                refine lv_iload hx hb dX9_couldBe_76 (lv_at hl 0 rfl) ?_
                refine lv_iconst (v := 4) hx hb dX9_couldBe_78 (by decide) ?_
                obtain ⟨r26, hc25, h⟩ := bd_some h
                refine cRi (runV (As := [.int r9, .int 4]) (rest := []) C (mX9_faultOf l D a (q_t := q_t) (Q_t := Q_t) hc25) lk_V_9_268 okN_X9_faultOf ⟨Nat.le_of_ble_eq_true rfl, Nat.le_of_ble_eq_true rfl⟩ ⟨rfl, rfl⟩ (preV (preR hK hP) (recvOf hK hP 0 rfl (ci := 9) rfl)) hl.1 rfl (Nat.le_of_ble_eq_true rfl) dX9_couldBe_79 ⟨Nat.le_of_ble_eq_true rfl, Nat.le_of_ble_eq_true rfl⟩) ?_
                refine lv_iconst (v := 2) hx hb dX9_couldBe_82 (by decide) ?_
                refine lv_icmp_eq (tgt := 88) hx hb dX9_couldBe_83 (by decide) (fun c27 => ?_) (fun c27 => ?_)
                · have h := ite_t c27 h
                  exact hJ16 ls h (lv_sub hl [1, 2, 3, 4, 5, 6] rfl)
                · have h := ite_f c27 h
                  refine lv_iconst (v := 0) hx hb dX9_couldBe_86 (by decide) ?_
                  exact rRz C rfl (Or.inl rfl) (Option.some.inj h) dX9_couldBe_87
      · have h := ite_t c7 h
        refine lv_goto (tgt := 110) hx hb dX9_couldBe_28 (by decide) ?_
        exact hJ4 x3 x4 ls h (lv_sub hl [0, 1, 2, 3, 4, 5] rfl)

set_option maxHeartbeats 4000000 in
set_option maxRecDepth 100000 in
theorem mX9_couldBe (l : Launch) (D : va_G) (a : Nat → ClassId) {q_t : Nat} {Q_t : Nat → Nat} {z_t : Sx} {x1 : Int32} {x2 : Int32} {y : Int32} (h : fX9_couldBe z_t x1 x2 = some y) : CRi l MX9_couldBe 2 44 D a [.ref q_t, .int x1, .int x2] (rc9 a q_t Q_t z_t) (fun r => r = y) := by
  unfold fX9_couldBe at h
  refine entR (by decide) (Nat.le_of_ble_eq_true rfl) ?_
  intro p e s m below meth c C hK hP ls hl
  obtain ⟨hx, hb, hml, hown, hts, hr, hlocks, hnm⟩ := id C
  have hb : c.code = cX9_couldBe := hb
  have hown : s.vm.findClass RX9 = some m.cls := hown
  have hl : lv_has ls 7 [(0, .ref q_t), (1, .int x1), (2, .int x2)] := hl
  refine lv_iconst (v := 0) hx hb dX9_couldBe_0 (by decide) ?_
  refine lv_istore_n (lv' := [(3, .int 0), (0, .ref q_t), (1, .int x1), (2, .int x2)]) hx hb dX9_couldBe_1 rfl hl (by decide) rfl (fun ls hl => ?_)
  refine lv_iconst (v := 0) hx hb dX9_couldBe_2 (by decide) ?_
  refine lv_istore (lv' := [(4, .int 0), (3, .int 0), (0, .ref q_t), (1, .int x1), (2, .int x2)]) hx hb dX9_couldBe_3 hl (by decide) rfl (fun ls hl => ?_)
  refine lv_iconst (v := 0) hx hb dX9_couldBe_5 (by decide) ?_
  refine lv_istore (lv' := [(5, .int 0), (4, .int 0), (3, .int 0), (0, .ref q_t), (1, .int x1), (2, .int x2)]) hx hb dX9_couldBe_6 hl (by decide) rfl (fun ls hl => ?_)
  refine wX9_couldBe_8 C hK hP ?_ FU 0 0 0 ls h (lv_sub hl [3, 4, 5, 2, 1, 0] rfl)
  · intro i28 i29 ls h hl
    refine lv_iload_n hx hb dX9_couldBe_116 rfl (lv_at hl 2 rfl) ?_
    refine lv_aload_n hx hb dX9_couldBe_117 rfl (lv_at hl 0 rfl) ?_
    refine va_get (D := D) (v := .ref (Q_t 24)) (C := RX9) (T := TX9) (N := 36) hx hb hts iX9 hown hK.1 hP 0 rfl rfl 24 (by decide) (hts _ t_906) (fun _ h9 => h9) rfl dX9_couldBe_118 ?_
    refine lv_iconst (v := 2) hx hb dX9_couldBe_121 (by decide) ?_
    refine ald_i hx hb hK.1 hP 11 0 rfl rfl 2 (ix_lit (by decide)) dX9_couldBe_122 ?_
    refine lv_icmp_gt (tgt := 136) hx hb dX9_couldBe_123 (by decide) (fun c30 => ?_) (fun c30 => ?_)
    · have h := ite_t c30 h
      refine lv_iconst (v := 0) hx hb dX9_couldBe_136 (by decide) ?_
      exact rRz C rfl (Or.inl rfl) (Option.some.inj h) dX9_couldBe_137
    · have h := ite_f c30 h
      refine lv_iload hx hb dX9_couldBe_126 (lv_at hl 3 rfl) ?_
      refine lv_iload_n hx hb dX9_couldBe_128 rfl (lv_at hl 1 rfl) ?_
      refine lv_icmp_ne (tgt := 136) hx hb dX9_couldBe_129 (by decide) (fun c31 => ?_) (fun c31 => ?_)
      · have h := ite_f c31 h
        refine lv_iconst (v := 0) hx hb dX9_couldBe_136 (by decide) ?_
        exact rRz C rfl (Or.inl rfl) (Option.some.inj h) dX9_couldBe_137
      · have h := ite_t c31 h
        refine lv_iconst (v := 1) hx hb dX9_couldBe_132 (by decide) ?_
        refine lv_goto (tgt := 137) hx hb dX9_couldBe_133 (by decide) ?_
        exact rRz C rfl (Or.inr rfl) (Option.some.inj h) dX9_couldBe_137

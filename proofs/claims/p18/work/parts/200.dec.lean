set_option maxHeartbeats 4000000 in
set_option maxRecDepth 100000 in
theorem mX9_in (l : Launch) (D : va_G) (a : Nat → ClassId) {x0 : Int64} {x2 : Int64} {x4 : Int64} {y : Int32} (h : fX9_in x0 x2 x4 = some y) : CRi l MX9_in 0 0 D a [.long x0, .long x2, .long x4] ([]) (fun r => r = y) := by
  unfold fX9_in at h
  refine entR (by decide) (Nat.le_of_ble_eq_true rfl) ?_
  intro p e s m below meth c C hK hP ls hl
  obtain ⟨hx, hb, hml, hown, hts, hr, hlocks, hnm⟩ := id C
  have hb : c.code = cX9_in := hb
  have hown : s.vm.findClass RX9 = some m.cls := hown
  have hl : lv_has ls 6 [(0, .long x0), (2, .long x2), (4, .long x4)] := hl
  refine lv_lload_n hx hb dX9_in_0 rfl (lv_at hl 0 rfl) ?_
  refine lv_lload_n hx hb dX9_in_1 rfl (lv_at hl 1 rfl) ?_
  refine W.lcmp hx hb dX9_in_2 ?_
  refine lv_if_lt (tgt := 17) hx hb dX9_in_3 (by decide) (fun c1 => ?_) (fun c1 => ?_)
  · have h := ite_t ((lg_cmp_lt _ _).mp c1) h
    refine lv_iconst (v := 0) hx hb dX9_in_17 (by decide) ?_
    exact rRz C rfl (Or.inl rfl) (Option.some.inj h) dX9_in_18
  · have h := ite_f (fun q => c1 ((lg_cmp_lt _ _).mpr q)) h
    refine lv_lload_n hx hb dX9_in_6 rfl (lv_at hl 0 rfl) ?_
    refine lv_lload hx hb dX9_in_7 (lv_at hl 2 rfl) ?_
    refine W.lcmp hx hb dX9_in_9 ?_
    refine lv_if_gt (tgt := 17) hx hb dX9_in_10 (by decide) (fun c2 => ?_) (fun c2 => ?_)
    · have h := ite_t ((lg_cmp_gt _ _).mp c2) h
      refine lv_iconst (v := 0) hx hb dX9_in_17 (by decide) ?_
      exact rRz C rfl (Or.inl rfl) (Option.some.inj h) dX9_in_18
    · have h := ite_f (fun q => c2 ((lg_cmp_gt _ _).mpr q)) h
      refine lv_iconst (v := 1) hx hb dX9_in_13 (by decide) ?_
      refine lv_goto (tgt := 18) hx hb dX9_in_14 (by decide) ?_
      exact rRz C rfl (Or.inr rfl) (Option.some.inj h) dX9_in_18

set_option maxHeartbeats 4000000 in
set_option maxRecDepth 100000 in
theorem wX9_back_25 {p : Program} {l : Launch} {e : Env} {s : State} {m : MethodId} {below : List Frame} {meth : Method} {c : Code} {D : va_G} {a : Nat → ClassId} {A : Nat → Prop} {q_t : Nat} {Q_t : Nat → Nat} {x10 : Int32} {x1 : Int32} (C : Cx p s m #[.ref q_t, .int x10] meth c MX9_back) (hK : KK D a s) (hA : ∀ q, s.heap.size ≤ q → A q) {y : Int32 × Sx} {k54 : Sx → Option (Int32 × Sx)} (hk54 : ∀ (z_tk : Sx) (H : Heap) (locs : List Loc) (ls : Array Slot), k54 z_tk = some y → va_P D classes (rc9 a q_t Q_t z_tk) H → va_D A (rc9 a q_t Q_t z_tk) → va_S A s.heap H locs → lv_has ls 3 [(0, .ref q_t)] → W p l e (rmM 1 0 0 25) s m #[.ref q_t, .int x10] below meth c H locs 0 0 (MQ below (va_Qi (fun r (_ : Unit) => r = y.1) (Bw D A (fun _ => rc9 a q_t Q_t y.2)) A) #[.ref q_t, .int x10] s 0 0 A) (F0 m 54 ls [])) : ∀ (n : Nat) (z_t : Sx) (x2 : Int32) (H : Heap) (locs : List Loc) (ls : Array Slot), lX9_back_25 k54 x1 n z_t x2 = some y → va_P D classes (rc9 a q_t Q_t z_t) H → va_D A (rc9 a q_t Q_t z_t) → va_S A s.heap H locs → lv_has ls 3 [(0, .ref q_t), (1, .int x1), (2, .int x2)] → W p l e (rmM 1 0 0 25) s m #[.ref q_t, .int x10] below meth c H locs 0 0 (MQ below (va_Qi (fun r (_ : Unit) => r = y.1) (Bw D A (fun _ => rc9 a q_t Q_t y.2)) A) #[.ref q_t, .int x10] s 0 0 A) (F0 m 25 ls []) := by
  obtain ⟨hx, hb, hml, hown, hts, hr, hlocks, hnm⟩ := id C
  have hb : c.code = cX9_back := hb
  have hown : s.vm.findClass RX9 = some m.cls := hown
  intro n
  induction n with
  | zero => intro z_t x2 H locs ls h; rw [lX9_back_25] at h; cases h
  | succ n ih =>
    intro z_t x2 H locs ls h hP hD hS hl
    rw [lX9_back_25] at h
    refine lv_iload_n hx hb dX9_back_25 rfl (lv_at hl 2 rfl) ?_
    refine lv_bipush (v := 104) hx hb dX9_back_26 (by decide) ?_
    refine lv_icmp_ge (tgt := 54) hx hb dX9_back_28 (by decide) (fun c6 => ?_) (fun c6 => ?_)
    · have h := ite_t c6 h
      exact hk54 z_t _ _ ls h hP hD hS (lv_sub hl [0] rfl)
    · have h := ite_f c6 h
      refine lv_aload_n hx hb dX9_back_31 rfl (lv_at hl 0 rfl) ?_
      refine va_get (D := D) (v := .ref (Q_t 24)) (C := RX9) (T := TX9) (N := 36) hx hb hts iX9 hown hK.1 hP 0 rfl rfl 24 (by decide) (hts _ t_906) (fun _ h9 => h9) rfl dX9_back_32 ?_
      refine lv_iload_n hx hb dX9_back_35 rfl (lv_at hl 2 rfl) ?_
      refine lv_aload_n hx hb dX9_back_36 rfl (lv_at hl 0 rfl) ?_
      refine va_get (D := D) (v := .ref (Q_t 34)) (C := RX9) (T := TX9) (N := 36) hx hb hts iX9 hown hK.1 hP 0 rfl rfl 34 (by decide) (hts _ t_916) (fun _ h9 => h9) rfl dX9_back_37 ?_
      refine lv_bipush (v := 104) hx hb dX9_back_40 (by decide) ?_
      refine lv_iload_n hx hb dX9_back_42 rfl (lv_at hl 1 rfl) ?_
      refine lv_imul hx hb dX9_back_43 ?_
      refine lv_iload_n hx hb dX9_back_44 rfl (lv_at hl 2 rfl) ?_
      refine lv_iadd hx hb dX9_back_45 ?_
      obtain ⟨g7, h⟩ := gd_some h
      refine ald_i hx hb hK.1 hP 21 0 rfl rfl (((104 * x1) + x2).toNatClampNeg) (ix_g g7) dX9_back_46 ?_
      obtain ⟨g8, h⟩ := gd_some h
      refine ast_i hx hb hK.1 hP hD hS 11 0 rfl rfl x2.toNatClampNeg (ix_g g8) dX9_back_47 (fun H locs hP hD hS => ?_)
      rw [u9_24] at hP hD
      refine lv_iinc (v := x2 + 1) (lv' := [(2, .int (x2 + 1)), (0, .ref q_t), (1, .int x1)]) hx hb dX9_back_48 hl (k := 2) rfl rfl (by decide) rfl (fun ls hl => ?_)
      refine lv_goto (tgt := 25) hx hb dX9_back_51 (by decide) ?_
      exact ih (sT z_t 24 x2.toNatClampNeg (gT z_t 34 (((104 * x1) + x2).toNatClampNeg))) (x2 + 1) _ _ ls h hP hD hS (lv_sub hl [1, 2, 0] rfl)

set_option maxHeartbeats 4000000 in
set_option maxRecDepth 100000 in
theorem mX9_back (l : Launch) (D : va_G) (a : Nat → ClassId) {q_t : Nat} {Q_t : Nat → Nat} {z_t : Sx} {x1 : Int32} {y : Int32 × Sx} (h : fX9_back z_t x1 = some y) (sz : Nat) : CMi (S := Unit) l MX9_back 1 25 0 0 D a [.ref q_t, .int x1] (rc9 a q_t Q_t z_t) sz (fun r _ => r = y.1) (fun _ => rc9 a q_t Q_t y.2) := by
  unfold fX9_back at h
  refine entMi (by decide) (Nat.le_of_ble_eq_true rfl) ?_
  intro p e s m below meth c C hK A hA hP hD ls hl
  obtain ⟨hx, hb, hml, hown, hts, hr, hlocks, hnm⟩ := id C
  have hb : c.code = cX9_back := hb
  have hown : s.vm.findClass RX9 = some m.cls := hown
  have hS : va_S A s.heap s.heap [] := va_S.rf
  have hl : lv_has ls 3 [(0, .ref q_t), (1, .int x1)] := hl
  refine lv_iload_n hx hb dX9_back_0 rfl (lv_at hl 1 rfl) ?_
  refine lv_i2l (v := x1.toInt64) hx hb dX9_back_1 rfl ?_
  refine lv_lconst (v := 0) hx hb dX9_back_2 (by decide) ?_
  refine lv_ldc2 hx hb hown (hts _ t_1399) dX9_back_3 ?_
  obtain ⟨r2, hc1, h⟩ := bd_some h
  refine cRi (runS (As := [.long x1.toInt64, .long 0, .long 3]) (rest := []) C (mX9_in l D a hc1) lk_S_9_118 okN_X9_in ⟨Nat.le_of_ble_eq_true rfl, Nat.le_of_ble_eq_true rfl⟩ ⟨rfl, rfl⟩ (preR hK (P_of_map (wc := []) hP [] rfl)) hl.1 rfl (Nat.le_of_ble_eq_true rfl) dX9_back_6 ⟨Nat.le_of_ble_eq_true rfl, Nat.le_of_ble_eq_true rfl⟩) ?_
  refine lv_if_eq (tgt := 21) hx hb dX9_back_9 (by decide) (fun c3 => ?_) (fun c3 => ?_)
  · have h := ite_t c3 h
    refine lv_iconst (v := (-1)) hx hb dX9_back_21 (by decide) ?_
    exact rMi C rfl h (g := fun y => rc9 a q_t Q_t y.2) (pr := fun y => y.1) hP hD hS dX9_back_22
  · have h := ite_f c3 h
    refine lv_aload_n hx hb dX9_back_12 rfl (lv_at hl 0 rfl) ?_
    refine va_get (D := D) (v := .ref (Q_t 35)) (C := RX9) (T := TX9) (N := 36) hx hb hts iX9 hown hK.1 hP 0 rfl rfl 35 (by decide) (hts _ t_917) (fun _ h9 => h9) rfl dX9_back_13 ?_
    refine lv_iload_n hx hb dX9_back_16 rfl (lv_at hl 1 rfl) ?_
    obtain ⟨g4, h⟩ := gd_some h
    refine ald_z hx hb hK.1 hP 22 3 rfl rfl x1.toNatClampNeg (ix_g g4) dX9_back_17 ?_
    refine lv_if_ne (tgt := 23) hx hb dX9_back_18 (by decide) (fun c5 => ?_) (fun c5 => ?_)
    · have h := ite_f c5 h
      refine lv_iconst (v := 0) hx hb dX9_back_23 (by decide) ?_
      refine lv_istore_n (lv' := [(2, .int 0), (0, .ref q_t), (1, .int x1)]) hx hb dX9_back_24 rfl hl (by decide) rfl (fun ls hl => ?_)
      refine wX9_back_25 C hK hA ?_ FU z_t 0 _ _ ls h hP hD hS (lv_sub hl [1, 2, 0] rfl)
      · intro z9 H locs ls h hP hD hS hl
        refine lv_aload_n hx hb dX9_back_54 rfl (lv_at hl 0 rfl) ?_
        refine va_get (D := D) (v := .ref (Q_t 24)) (C := RX9) (T := TX9) (N := 36) hx hb hts iX9 hown hK.1 hP 0 rfl rfl 24 (by decide) (hts _ t_906) (fun _ h9 => h9) rfl dX9_back_55 ?_
        refine lv_bipush (v := 7) hx hb dX9_back_58 (by decide) ?_
        refine ald_i hx hb hK.1 hP 11 0 rfl rfl 7 (ix_lit (by decide)) dX9_back_60 ?_
        exact rMi C rfl h (g := fun y => rc9 a q_t Q_t y.2) (pr := fun y => y.1) hP hD hS dX9_back_61
    · have h := ite_t c5 h
      refine lv_iconst (v := (-1)) hx hb dX9_back_21 (by decide) ?_
      exact rMi C rfl h (g := fun y => rc9 a q_t Q_t y.2) (pr := fun y => y.1) hP hD hS dX9_back_22

set_option maxHeartbeats 4000000 in
set_option maxRecDepth 100000 in
theorem wX9_begins_21 {p : Program} {l : Launch} {e : Env} {s : State} {m : MethodId} {below : List Frame} {meth : Method} {c : Code} {D : va_G} {a : Nat → ClassId} {A : Nat → Prop} {q_t : Nat} {Q_t : Nat → Nat} (C : Cx p s m #[.ref q_t] meth c MX9_begins) (hK : KK D a s) (hA : ∀ q, s.heap.size ≤ q → A q) {y : Sx} : ∀ (n : Nat) (z_t : Sx) (x1 : Int32) (H : Heap) (locs : List Loc) (ls : Array Slot), lX9_begins_21 n z_t x1 = some y → va_P D classes (rc9 a q_t Q_t z_t) H → va_D A (rc9 a q_t Q_t z_t) → va_S A s.heap H locs → lv_has ls 3 [(0, .ref q_t), (1, .int x1)] → W p l e (rmM 0 0 0 0) s m #[.ref q_t] below meth c H locs 0 0 (MQ below (va_Qv (fun (_ : Unit) => True) (Bw D A (fun _ => rc9 a q_t Q_t y)) A) #[.ref q_t] s 0 0 A) (F0 m 21 ls []) := by
  obtain ⟨hx, hb, hml, hown, hts, hr, hlocks, hnm⟩ := id C
  have hb : c.code = cX9_begins := hb
  have hown : s.vm.findClass RX9 = some m.cls := hown
  intro n
  induction n with
  | zero => intro z_t x1 H locs ls h; rw [lX9_begins_21] at h; cases h
  | succ n ih =>
    intro z_t x1 H locs ls h hP hD hS hl
    rw [lX9_begins_21] at h
    refine lv_iload_n hx hb dX9_begins_21 rfl (lv_at hl 1 rfl) ?_
    refine lv_aload_n hx hb dX9_begins_22 rfl (lv_at hl 0 rfl) ?_
    refine va_get (D := D) (v := .ref (Q_t 24)) (C := RX9) (T := TX9) (N := 36) hx hb hts iX9 hown hK.1 hP 0 rfl rfl 24 (by decide) (hts _ t_906) (fun _ h9 => h9) rfl dX9_begins_23 ?_
    refine lv_iconst (v := 0) hx hb dX9_begins_26 (by decide) ?_
    refine ald_i hx hb hK.1 hP 11 0 rfl rfl 0 (ix_lit (by decide)) dX9_begins_27 ?_
    refine lv_icmp_ge (tgt := 86) hx hb dX9_begins_28 (by decide) (fun c1 => ?_) (fun c1 => ?_)
    · have h := ite_t c1 h
      exact rMv C rfl h (g := fun y => rc9 a q_t Q_t y) hP hD hS dX9_begins_86
    · have h := ite_f c1 h
      refine lv_bipush (v := 44) hx hb dX9_begins_31 (by decide) ?_
      refine lv_bipush (v := 6) hx hb dX9_begins_33 (by decide) ?_
      refine lv_iload_n hx hb dX9_begins_35 rfl (lv_at hl 1 rfl) ?_
      refine lv_imul hx hb dX9_begins_36 ?_
      refine lv_iadd hx hb dX9_begins_37 ?_
      refine lv_istore_n (lv' := [(2, .int (44 + (6 * x1))), (0, .ref q_t), (1, .int x1)]) hx hb dX9_begins_38 rfl hl (by decide) rfl (fun ls hl => ?_)
      refine lv_aload_n hx hb dX9_begins_39 rfl (lv_at hl 1 rfl) ?_
      refine va_get (D := D) (v := .ref (Q_t 24)) (C := RX9) (T := TX9) (N := 36) hx hb hts iX9 hown hK.1 hP 0 rfl rfl 24 (by decide) (hts _ t_906) (fun _ h9 => h9) rfl dX9_begins_40 ?_
      refine lv_iload_n hx hb dX9_begins_43 rfl (lv_at hl 0 rfl) ?_
      refine lv_iconst (v := 4) hx hb dX9_begins_44 (by decide) ?_
      refine lv_iadd hx hb dX9_begins_45 ?_
      refine lv_aload_n hx hb dX9_begins_46 rfl (lv_at hl 1 rfl) ?_
      refine va_get (D := D) (v := .ref (Q_t 24)) (C := RX9) (T := TX9) (N := 36) hx hb hts iX9 hown hK.1 hP 0 rfl rfl 24 (by decide) (hts _ t_906) (fun _ h9 => h9) rfl dX9_begins_47 ?_
      refine lv_iload_n hx hb dX9_begins_50 rfl (lv_at hl 0 rfl) ?_
      refine lv_iconst (v := 4) hx hb dX9_begins_51 (by decide) ?_
      refine lv_iadd hx hb dX9_begins_52 ?_
      obtain ⟨g2, h⟩ := gd_some h
      refine ald_i hx hb hK.1 hP 11 0 rfl rfl (((44 + (6 * x1)) + 4).toNatClampNeg) (ix_g g2) dX9_begins_53 ?_
      refine lv_iconst (v := 1) hx hb dX9_begins_54 (by decide) ?_
      obtain ⟨J3, eJ3, h⟩ := jn_some h
      have hJ3 : ∀ (i4 : Int32) (i5 : Int32) (H : Heap) (locs : List Loc) (ls : Array Slot), J3 i4 i5 = some y → va_P D classes (rc9 a q_t Q_t z_t) H → va_D A (rc9 a q_t Q_t z_t) → va_S A s.heap H locs → lv_has ls 3 [(0, .ref q_t), (1, .int x1), (2, .int (44 + (6 * x1)))] → W p l e (rmM 0 0 0 0) s m #[.ref q_t] below meth c H locs 0 0 (MQ below (va_Qv (fun (_ : Unit) => True) (Bw D A (fun _ => rc9 a q_t Q_t y)) A) #[.ref q_t] s 0 0 A) (F0 m 70 ls [.int i4, .int i5, .ref (Q_t 24)]) := by
        intro i4 i5 H locs ls h hP hD hS hl
        rw [eJ3] at h
        obtain ⟨g6, h⟩ := gd_some h
        refine ast_i hx hb hK.1 hP hD hS 11 0 rfl rfl i5.toNatClampNeg (ix_g g6) dX9_begins_70 (fun H locs hP hD hS => ?_)
        rw [u9_24] at hP hD
        refine lv_aload_n hx hb dX9_begins_71 rfl (lv_at hl 0 rfl) ?_
        refine va_get (D := D) (v := .ref (Q_t 24)) (C := RX9) (T := TX9) (N := 36) hx hb hts iX9 hown hK.1 hP 0 rfl rfl 24 (by decide) (hts _ t_906) (fun _ h9 => h9) rfl dX9_begins_72 ?_
        refine lv_iload_n hx hb dX9_begins_75 rfl (lv_at hl 2 rfl) ?_
        refine lv_iconst (v := 5) hx hb dX9_begins_76 (by decide) ?_
        refine lv_iadd hx hb dX9_begins_77 ?_
        refine lv_iconst (v := 0) hx hb dX9_begins_78 (by decide) ?_
        obtain ⟨g7, h⟩ := gd_some h
        refine ast_i hx hb hK.1 hP hD hS 11 0 rfl rfl (((44 + (6 * x1)) + 5).toNatClampNeg) (ix_g g7) dX9_begins_79 (fun H locs hP hD hS => ?_)
        rw [u9_24] at hP hD
        refine lv_iinc (v := x1 + 1) (lv' := [(1, .int (x1 + 1)), (0, .ref q_t), (2, .int (44 + (6 * x1)))]) hx hb dX9_begins_80 hl (k := 1) rfl rfl (by decide) rfl (fun ls hl => ?_)
        refine lv_goto (tgt := 21) hx hb dX9_begins_83 (by decide) ?_
        exact ih (sT (sT z_t 24 i5.toNatClampNeg i4) 24 (((44 + (6 * x1)) + 5).toNatClampNeg) 0) (x1 + 1) _ _ ls h hP hD hS (lv_sub hl [1, 0] rfl)
      refine lv_icmp_ne (tgt := 62) hx hb dX9_begins_55 (by decide) (fun c8 => ?_) (fun c8 => ?_)
      · have h := ite_f c8 h
        refine lv_aload_n hx hb dX9_begins_62 rfl (lv_at hl 1 rfl) ?_
        refine va_get (D := D) (v := .ref (Q_t 24)) (C := RX9) (T := TX9) (N := 36) hx hb hts iX9 hown hK.1 hP 0 rfl rfl 24 (by decide) (hts _ t_906) (fun _ h9 => h9) rfl dX9_begins_63 ?_
        refine lv_iload_n hx hb dX9_begins_66 rfl (lv_at hl 0 rfl) ?_
        refine lv_iconst (v := 4) hx hb dX9_begins_67 (by decide) ?_
        refine lv_iadd hx hb dX9_begins_68 ?_
        refine ald_i hx hb hK.1 hP 11 0 rfl rfl (((44 + (6 * x1)) + 4).toNatClampNeg) (ix_g g2) dX9_begins_69 ?_
        exact hJ3 (gT z_t 24 (((44 + (6 * x1)) + 4).toNatClampNeg)) ((44 + (6 * x1)) + 4) _ _ ls h hP hD hS (lv_sub hl [1, 2, 0] rfl)
      · have h := ite_t c8 h
        refine lv_iconst (v := 0) hx hb dX9_begins_58 (by decide) ?_
        refine lv_goto (tgt := 70) hx hb dX9_begins_59 (by decide) ?_
        exact hJ3 0 ((44 + (6 * x1)) + 4) _ _ ls h hP hD hS (lv_sub hl [1, 2, 0] rfl)

set_option maxHeartbeats 4000000 in
set_option maxRecDepth 100000 in
theorem mX9_begins (l : Launch) (D : va_G) (a : Nat → ClassId) {q_t : Nat} {Q_t : Nat → Nat} {z_t : Sx} {y : Sx} (h : fX9_begins z_t = some y) (sz : Nat) : CMv (S := Unit) l MX9_begins 0 0 0 0 D a [.ref q_t] (rc9 a q_t Q_t z_t) sz (fun _ => True) (fun _ => rc9 a q_t Q_t y) := by
  unfold fX9_begins at h
  refine entMv (by decide) (Nat.le_of_ble_eq_true rfl) ?_
  intro p e s m below meth c C hK A hA hP hD ls hl
  obtain ⟨hx, hb, hml, hown, hts, hr, hlocks, hnm⟩ := id C
  have hb : c.code = cX9_begins := hb
  have hown : s.vm.findClass RX9 = some m.cls := hown
  have hS : va_S A s.heap s.heap [] := va_S.rf
  have hl : lv_has ls 3 [(0, .ref q_t)] := hl
  refine lv_aload_n hx hb dX9_begins_0 rfl (lv_at hl 0 rfl) ?_
  refine va_get (D := D) (v := .ref (Q_t 24)) (C := RX9) (T := TX9) (N := 36) hx hb hts iX9 hown hK.1 hP 0 rfl rfl 24 (by decide) (hts _ t_906) (fun _ h9 => h9) rfl dX9_begins_1 ?_
  refine lv_iconst (v := 3) hx hb dX9_begins_4 (by decide) ?_
  refine lv_aload_n hx hb dX9_begins_5 rfl (lv_at hl 0 rfl) ?_
  refine va_get (D := D) (v := .ref (Q_t 24)) (C := RX9) (T := TX9) (N := 36) hx hb hts iX9 hown hK.1 hP 0 rfl rfl 24 (by decide) (hts _ t_906) (fun _ h9 => h9) rfl dX9_begins_6 ?_
  refine lv_iconst (v := 2) hx hb dX9_begins_9 (by decide) ?_
  refine ald_i hx hb hK.1 hP 11 0 rfl rfl 2 (ix_lit (by decide)) dX9_begins_10 ?_
  refine ast_i hx hb hK.1 hP hD hS 11 0 rfl rfl 3 (ix_lit (by decide)) dX9_begins_11 (fun H locs hP hD hS => ?_)
  rw [u9_24] at hP hD
  refine lv_aload_n hx hb dX9_begins_12 rfl (lv_at hl 0 rfl) ?_
  refine va_get (D := D) (v := .ref (Q_t 24)) (C := RX9) (T := TX9) (N := 36) hx hb hts iX9 hown hK.1 hP 0 rfl rfl 24 (by decide) (hts _ t_906) (fun _ h9 => h9) rfl dX9_begins_13 ?_
  refine lv_iconst (v := 4) hx hb dX9_begins_16 (by decide) ?_
  refine lv_iconst (v := 0) hx hb dX9_begins_17 (by decide) ?_
  refine ast_i hx hb hK.1 hP hD hS 11 0 rfl rfl 4 (ix_lit (by decide)) dX9_begins_18 (fun H locs hP hD hS => ?_)
  rw [u9_24] at hP hD
  refine lv_iconst (v := 0) hx hb dX9_begins_19 (by decide) ?_
  refine lv_istore_n (lv' := [(1, .int 0), (0, .ref q_t)]) hx hb dX9_begins_20 rfl hl (by decide) rfl (fun ls hl => ?_)
  refine wX9_begins_21 C hK hA FU (sT (sT z_t 24 3 (gT z_t 24 2)) 24 4 0) 0 _ _ ls h hP hD hS (lv_sub hl [1, 0] rfl)

set_option maxHeartbeats 4000000 in
set_option maxRecDepth 100000 in
theorem mX9_isWork (l : Launch) (D : va_G) (a : Nat → ClassId) {q_t : Nat} {Q_t : Nat → Nat} {z_t : Sx} {y : Int32} (h : fX9_isWork z_t = some y) : CRi l MX9_isWork 0 0 D a [.ref q_t] (rc9 a q_t Q_t z_t) (fun r => r = y) := by
  unfold fX9_isWork at h
  refine entR (by decide) (Nat.le_of_ble_eq_true rfl) ?_
  intro p e s m below meth c C hK hP ls hl
  obtain ⟨hx, hb, hml, hown, hts, hr, hlocks, hnm⟩ := id C
  have hb : c.code = cX9_isWork := hb
  have hown : s.vm.findClass RX9 = some m.cls := hown
  have hl : lv_has ls 1 [(0, .ref q_t)] := hl
  refine lv_aload_n hx hb dX9_isWork_0 rfl (lv_at hl 0 rfl) ?_
  refine va_get (D := D) (v := .ref (Q_t 24)) (C := RX9) (T := TX9) (N := 36) hx hb hts iX9 hown hK.1 hP 0 rfl rfl 24 (by decide) (hts _ t_906) (fun _ h9 => h9) rfl dX9_isWork_1 ?_
  refine lv_iconst (v := 0) hx hb dX9_isWork_4 (by decide) ?_
  refine ald_i hx hb hK.1 hP 11 0 rfl rfl 0 (ix_lit (by decide)) dX9_isWork_5 ?_
  refine lv_if_le (tgt := 13) hx hb dX9_isWork_6 (by decide) (fun c1 => ?_) (fun c1 => ?_)
  · have h := ite_t c1 h
    refine lv_iconst (v := 0) hx hb dX9_isWork_13 (by decide) ?_
    exact rRz C rfl (Or.inl rfl) (Option.some.inj h) dX9_isWork_14
  · have h := ite_f c1 h
    refine lv_iconst (v := 1) hx hb dX9_isWork_9 (by decide) ?_
    refine lv_goto (tgt := 14) hx hb dX9_isWork_10 (by decide) ?_
    exact rRz C rfl (Or.inr rfl) (Option.some.inj h) dX9_isWork_14

set_option maxHeartbeats 4000000 in
set_option maxRecDepth 100000 in
theorem wX9_keeps_2 {p : Program} {l : Launch} {e : Env} {s : State} {m : MethodId} {below : List Frame} {meth : Method} {c : Code} {D : va_G} {a : Nat → ClassId} {A : Nat → Prop} {q_t : Nat} {Q_t : Nat → Nat} (C : Cx p s m #[.ref q_t] meth c MX9_keeps) (hK : KK D a s) (hA : ∀ q, s.heap.size ≤ q → A q) {y : Sx} : ∀ (n : Nat) (z_t : Sx) (x1 : Int32) (H : Heap) (locs : List Loc) (ls : Array Slot), lX9_keeps_2 n z_t x1 = some y → va_P D classes (rc9 a q_t Q_t z_t) H → va_D A (rc9 a q_t Q_t z_t) → va_S A s.heap H locs → lv_has ls 2 [(0, .ref q_t), (1, .int x1)] → W p l e (rmM 0 0 0 0) s m #[.ref q_t] below meth c H locs 0 0 (MQ below (va_Qv (fun (_ : Unit) => True) (Bw D A (fun _ => rc9 a q_t Q_t y)) A) #[.ref q_t] s 0 0 A) (F0 m 2 ls []) := by
  obtain ⟨hx, hb, hml, hown, hts, hr, hlocks, hnm⟩ := id C
  have hb : c.code = cX9_keeps := hb
  have hown : s.vm.findClass RX9 = some m.cls := hown
  intro n
  induction n with
  | zero => intro z_t x1 H locs ls h; rw [lX9_keeps_2] at h; cases h
  | succ n ih =>
    intro z_t x1 H locs ls h hP hD hS hl
    rw [lX9_keeps_2] at h
    refine lv_iload_n hx hb dX9_keeps_2 rfl (lv_at hl 1 rfl) ?_
    refine lv_bipush (v := 104) hx hb dX9_keeps_3 (by decide) ?_
    refine lv_icmp_ge (tgt := 26) hx hb dX9_keeps_5 (by decide) (fun c1 => ?_) (fun c1 => ?_)
    · have h := ite_t c1 h
      exact rMv C rfl h (g := fun y => rc9 a q_t Q_t y) hP hD hS dX9_keeps_26
    · have h := ite_f c1 h
      refine lv_aload_n hx hb dX9_keeps_8 rfl (lv_at hl 0 rfl) ?_
      refine va_get (D := D) (v := .ref (Q_t 25)) (C := RX9) (T := TX9) (N := 36) hx hb hts iX9 hown hK.1 hP 0 rfl rfl 25 (by decide) (hts _ t_907) (fun _ h9 => h9) rfl dX9_keeps_9 ?_
      refine lv_iload_n hx hb dX9_keeps_12 rfl (lv_at hl 1 rfl) ?_
      refine lv_aload_n hx hb dX9_keeps_13 rfl (lv_at hl 0 rfl) ?_
      refine va_get (D := D) (v := .ref (Q_t 24)) (C := RX9) (T := TX9) (N := 36) hx hb hts iX9 hown hK.1 hP 0 rfl rfl 24 (by decide) (hts _ t_906) (fun _ h9 => h9) rfl dX9_keeps_14 ?_
      refine lv_iload_n hx hb dX9_keeps_17 rfl (lv_at hl 1 rfl) ?_
      obtain ⟨g2, h⟩ := gd_some h
      refine ald_i hx hb hK.1 hP 11 0 rfl rfl x1.toNatClampNeg (ix_g g2) dX9_keeps_18 ?_
      refine ast_i hx hb hK.1 hP hD hS 12 0 rfl rfl x1.toNatClampNeg (ix_g g2) dX9_keeps_19 (fun H locs hP hD hS => ?_)
      rw [u9_25] at hP hD
      refine lv_iinc (v := x1 + 1) (lv' := [(1, .int (x1 + 1)), (0, .ref q_t)]) hx hb dX9_keeps_20 hl (k := 1) rfl rfl (by decide) rfl (fun ls hl => ?_)
      refine lv_goto (tgt := 2) hx hb dX9_keeps_23 (by decide) ?_
      exact ih (sT z_t 25 x1.toNatClampNeg (gT z_t 24 x1.toNatClampNeg)) (x1 + 1) _ _ ls h hP hD hS (lv_sub hl [1, 0] rfl)

set_option maxHeartbeats 4000000 in
set_option maxRecDepth 100000 in
theorem mX9_keeps (l : Launch) (D : va_G) (a : Nat → ClassId) {q_t : Nat} {Q_t : Nat → Nat} {z_t : Sx} {y : Sx} (h : fX9_keeps z_t = some y) (sz : Nat) : CMv (S := Unit) l MX9_keeps 0 0 0 0 D a [.ref q_t] (rc9 a q_t Q_t z_t) sz (fun _ => True) (fun _ => rc9 a q_t Q_t y) := by
  unfold fX9_keeps at h
  refine entMv (by decide) (Nat.le_of_ble_eq_true rfl) ?_
  intro p e s m below meth c C hK A hA hP hD ls hl
  obtain ⟨hx, hb, hml, hown, hts, hr, hlocks, hnm⟩ := id C
  have hb : c.code = cX9_keeps := hb
  have hown : s.vm.findClass RX9 = some m.cls := hown
  have hS : va_S A s.heap s.heap [] := va_S.rf
  have hl : lv_has ls 2 [(0, .ref q_t)] := hl
  refine lv_iconst (v := 0) hx hb dX9_keeps_0 (by decide) ?_
  refine lv_istore_n (lv' := [(1, .int 0), (0, .ref q_t)]) hx hb dX9_keeps_1 rfl hl (by decide) rfl (fun ls hl => ?_)
  refine wX9_keeps_2 C hK hA FU z_t 0 _ _ ls h hP hD hS (lv_sub hl [1, 0] rfl)

set_option maxHeartbeats 4000000 in
set_option maxRecDepth 100000 in
theorem mX9_faultOf (l : Launch) (D : va_G) (a : Nat → ClassId) {q_t : Nat} {Q_t : Nat → Nat} {z_t : Sx} {x1 : Int32} {x2 : Int32} {y : Int32} (h : fX9_faultOf z_t x1 x2 = some y) : CRi l MX9_faultOf 0 0 D a [.ref q_t, .int x1, .int x2] (rc9 a q_t Q_t z_t) (fun r => r = y) := by
  unfold fX9_faultOf at h
  refine entR (by decide) (Nat.le_of_ble_eq_true rfl) ?_
  intro p e s m below meth c C hK hP ls hl
  obtain ⟨hx, hb, hml, hown, hts, hr, hlocks, hnm⟩ := id C
  have hb : c.code = cX9_faultOf := hb
  have hown : s.vm.findClass RX9 = some m.cls := hown
  have hl : lv_has ls 3 [(0, .ref q_t), (1, .int x1), (2, .int x2)] := hl
  refine lv_aload_n hx hb dX9_faultOf_0 rfl (lv_at hl 0 rfl) ?_
  refine va_get (D := D) (v := .ref (Q_t 24)) (C := RX9) (T := TX9) (N := 36) hx hb hts iX9 hown hK.1 hP 0 rfl rfl 24 (by decide) (hts _ t_906) (fun _ h9 => h9) rfl dX9_faultOf_1 ?_
  refine lv_bipush (v := 44) hx hb dX9_faultOf_4 (by decide) ?_
  refine lv_bipush (v := 6) hx hb dX9_faultOf_6 (by decide) ?_
  refine lv_iload_n hx hb dX9_faultOf_8 rfl (lv_at hl 1 rfl) ?_
  refine lv_imul hx hb dX9_faultOf_9 ?_
  refine lv_iadd hx hb dX9_faultOf_10 ?_
  refine lv_iload_n hx hb dX9_faultOf_11 rfl (lv_at hl 2 rfl) ?_
  refine lv_iadd hx hb dX9_faultOf_12 ?_
  obtain ⟨g1, h⟩ := gd_some h
  refine ald_i hx hb hK.1 hP 11 0 rfl rfl (((44 + (6 * x1)) + x2).toNatClampNeg) (ix_g g1) dX9_faultOf_13 ?_
  exact rRi C rfl (Option.some.inj h) dX9_faultOf_14

set_option maxHeartbeats 4000000 in
set_option maxRecDepth 100000 in
theorem mX9_kindOf (l : Launch) (D : va_G) (a : Nat → ClassId) {q_t : Nat} {Q_t : Nat → Nat} {z_t : Sx} {x1 : Int32} {x2 : Int32} {y : Int32} (h : fX9_kindOf z_t x1 x2 = some y) : CRi l MX9_kindOf 1 22 D a [.ref q_t, .int x1, .int x2] (rc9 a q_t Q_t z_t) (fun r => r = y) := by
  unfold fX9_kindOf at h
  refine entR (by decide) (Nat.le_of_ble_eq_true rfl) ?_
  intro p e s m below meth c C hK hP ls hl
  obtain ⟨hx, hb, hml, hown, hts, hr, hlocks, hnm⟩ := id C
  have hb : c.code = cX9_kindOf := hb
  have hown : s.vm.findClass RX9 = some m.cls := hown
  have hl : lv_has ls 3 [(0, .ref q_t), (1, .int x1), (2, .int x2)] := hl
  refine lv_aload_n hx hb dX9_kindOf_0 rfl (lv_at hl 0 rfl) ?_
  refine va_get (D := D) (v := .ref (Q_t 24)) (C := RX9) (T := TX9) (N := 36) hx hb hts iX9 hown hK.1 hP 0 rfl rfl 24 (by decide) (hts _ t_906) (fun _ h9 => h9) rfl dX9_kindOf_1 ?_
  refine lv_bipush (v := 26) hx hb dX9_kindOf_4 (by decide) ?_
  refine lv_iconst (v := 3) hx hb dX9_kindOf_6 (by decide) ?_
  refine lv_aload_n hx hb dX9_kindOf_7 rfl (lv_at hl 0 rfl) ?_
  refine lv_iload_n hx hb dX9_kindOf_8 rfl (lv_at hl 1 rfl) ?_
  refine lv_iconst (v := 0) hx hb dX9_kindOf_9 (by decide) ?_
  obtain ⟨r2, hc1, h⟩ := bd_some h
  refine cRi (runV (As := [.int x1, .int 0]) (rest := [.int 3, .int 26, .ref (Q_t 24)]) C (mX9_faultOf l D a (q_t := q_t) (Q_t := Q_t) hc1) lk_V_9_268 okN_X9_faultOf ⟨Nat.le_of_ble_eq_true rfl, Nat.le_of_ble_eq_true rfl⟩ ⟨rfl, rfl⟩ (preV (preR hK hP) (recvOf hK hP 0 rfl (ci := 9) rfl)) hl.1 rfl (Nat.le_of_ble_eq_true rfl) dX9_kindOf_10 ⟨Nat.le_of_ble_eq_true rfl, Nat.le_of_ble_eq_true rfl⟩) ?_
  refine lv_imul hx hb dX9_kindOf_13 ?_
  refine lv_iadd hx hb dX9_kindOf_14 ?_
  refine lv_iload_n hx hb dX9_kindOf_15 rfl (lv_at hl 2 rfl) ?_
  refine lv_iadd hx hb dX9_kindOf_16 ?_
  obtain ⟨g3, h⟩ := gd_some h
  refine ald_i hx hb hK.1 hP 11 0 rfl rfl (((26 + (3 * r2)) + x2).toNatClampNeg) (ix_g g3) dX9_kindOf_17 ?_
  exact rRi C rfl (Option.some.inj h) dX9_kindOf_18

set_option maxHeartbeats 4000000 in
set_option maxRecDepth 100000 in
theorem wX9_hidden_4 {p : Program} {l : Launch} {e : Env} {s : State} {m : MethodId} {below : List Frame} {meth : Method} {c : Code} {D : va_G} {a : Nat → ClassId} {q_t : Nat} {Q_t : Nat → Nat} {z_t : Sx} (C : Cx p s m #[.ref q_t] meth c MX9_hidden) (hK : KK D a s) {y : Int32} (hP : va_P D classes (rc9 a q_t Q_t z_t) s.heap) : ∀ (n : Nat) (x1 : Int32) (x2 : Int32) (ls : Array Slot), lX9_hidden_4 z_t n x1 x2 = some y → lv_has ls 3 [(0, .ref q_t), (1, .int x1), (2, .int x2)] → W p l e (rmM 2 0 0 44) s m #[.ref q_t] below meth c s.heap [] 0 0 (MQ below (vp_Si (fun r => r = y)) #[.ref q_t] s 0 0 (fun _ => False)) (F0 m 4 ls []) := by
  obtain ⟨hx, hb, hml, hown, hts, hr, hlocks, hnm⟩ := id C
  have hb : c.code = cX9_hidden := hb
  have hown : s.vm.findClass RX9 = some m.cls := hown
  intro n
  induction n with
  | zero => intro x1 x2 ls h; rw [lX9_hidden_4] at h; cases h
  | succ n ih =>
    intro x1 x2 ls h hl
    rw [lX9_hidden_4] at h
    refine lv_iload_n hx hb dX9_hidden_4 rfl (lv_at hl 2 rfl) ?_
    refine lv_aload_n hx hb dX9_hidden_5 rfl (lv_at hl 0 rfl) ?_
    refine va_get (D := D) (v := .ref (Q_t 24)) (C := RX9) (T := TX9) (N := 36) hx hb hts iX9 hown hK.1 hP 0 rfl rfl 24 (by decide) (hts _ t_906) (fun _ h9 => h9) rfl dX9_hidden_6 ?_
    refine lv_iconst (v := 0) hx hb dX9_hidden_9 (by decide) ?_
    refine ald_i hx hb hK.1 hP 11 0 rfl rfl 0 (ix_lit (by decide)) dX9_hidden_10 ?_
    refine lv_icmp_ge (tgt := 42) hx hb dX9_hidden_11 (by decide) (fun c1 => ?_) (fun c1 => ?_)
    · have h := ite_t c1 h
      refine lv_iload_n hx hb dX9_hidden_42 rfl (lv_at hl 1 rfl) ?_
      exact rRi C rfl (Option.some.inj h) dX9_hidden_43
    · have h := ite_f c1 h
      refine lv_iload_n hx hb dX9_hidden_14 rfl (lv_at hl 1 rfl) ?_
      refine lv_aload_n hx hb dX9_hidden_15 rfl (lv_at hl 0 rfl) ?_
      refine lv_iload_n hx hb dX9_hidden_16 rfl (lv_at hl 2 rfl) ?_
      refine lv_iconst (v := 4) hx hb dX9_hidden_17 (by decide) ?_
      obtain ⟨r3, hc2, h⟩ := bd_some h
      refine cRi (runV (As := [.int x2, .int 4]) (rest := [.int x1]) C (mX9_faultOf l D a (q_t := q_t) (Q_t := Q_t) hc2) lk_V_9_268 okN_X9_faultOf ⟨Nat.le_of_ble_eq_true rfl, Nat.le_of_ble_eq_true rfl⟩ ⟨rfl, rfl⟩ (preV (preR hK hP) (recvOf hK hP 0 rfl (ci := 9) rfl)) hl.1 rfl (Nat.le_of_ble_eq_true rfl) dX9_hidden_18 ⟨Nat.le_of_ble_eq_true rfl, Nat.le_of_ble_eq_true rfl⟩) ?_
      obtain ⟨J4, eJ4, h⟩ := jn_some h
      have hJ4 : ∀ (i5 : Int32) (i6 : Int32) (ls : Array Slot), J4 i5 i6 = some y → lv_has ls 3 [(0, .ref q_t), (2, .int x2)] → W p l e (rmM 2 0 0 44) s m #[.ref q_t] below meth c s.heap [] 0 0 (MQ below (vp_Si (fun r => r = y)) #[.ref q_t] s 0 0 (fun _ => False)) (F0 m 34 ls [.int i5, .int i6]) := by
        intro i5 i6 ls h hl
        rw [eJ4] at h
        refine lv_iadd hx hb dX9_hidden_34 ?_
        refine lv_istore_n (lv' := [(1, .int (i6 + i5)), (0, .ref q_t), (2, .int x2)]) hx hb dX9_hidden_35 rfl hl (by decide) rfl (fun ls hl => ?_)
        refine lv_iinc (v := x2 + 1) (lv' := [(2, .int (x2 + 1)), (1, .int (i6 + i5)), (0, .ref q_t)]) hx hb dX9_hidden_36 hl (k := 2) rfl rfl (by decide) rfl (fun ls hl => ?_)
        refine lv_goto (tgt := 4) hx hb dX9_hidden_39 (by decide) ?_
        exact ih (i6 + i5) (x2 + 1) ls h (lv_sub hl [2, 1, 0] rfl)
      refine lv_if_ne (tgt := 33) hx hb dX9_hidden_21 (by decide) (fun c7 => ?_) (fun c7 => ?_)
      · have h := ite_f c7 h
        refine lv_iconst (v := 0) hx hb dX9_hidden_33 (by decide) ?_
        exact hJ4 0 x1 ls h (lv_sub hl [0, 2] rfl)
      · have h := ite_t c7 h
        refine lv_aload_n hx hb dX9_hidden_24 rfl (lv_at hl 0 rfl) ?_
        refine lv_iload_n hx hb dX9_hidden_25 rfl (lv_at hl 2 rfl) ?_
        refine lv_iconst (v := 1) hx hb dX9_hidden_26 (by decide) ?_
        obtain ⟨r9, hc8, h⟩ := bd_some h
        refine cRi (runV (As := [.int x2, .int 1]) (rest := [.int x1]) C (mX9_kindOf l D a (q_t := q_t) (Q_t := Q_t) hc8) lk_V_9_275 okN_X9_kindOf ⟨Nat.le_of_ble_eq_true rfl, Nat.le_of_ble_eq_true rfl⟩ ⟨rfl, rfl⟩ (preV (preR hK hP) (recvOf hK hP 0 rfl (ci := 9) rfl)) hl.1 rfl (Nat.le_of_ble_eq_true rfl) dX9_hidden_27 ⟨Nat.le_of_ble_eq_true rfl, Nat.le_of_ble_eq_true rfl⟩) ?_
        refine lv_goto (tgt := 34) hx hb dX9_hidden_30 (by decide) ?_
        exact hJ4 r9 x1 ls h (lv_sub hl [0, 2] rfl)

set_option maxHeartbeats 4000000 in
set_option maxRecDepth 100000 in
theorem mX9_hidden (l : Launch) (D : va_G) (a : Nat → ClassId) {q_t : Nat} {Q_t : Nat → Nat} {z_t : Sx} {y : Int32} (h : fX9_hidden z_t = some y) : CRi l MX9_hidden 2 44 D a [.ref q_t] (rc9 a q_t Q_t z_t) (fun r => r = y) := by
  unfold fX9_hidden at h
  refine entR (by decide) (Nat.le_of_ble_eq_true rfl) ?_
  intro p e s m below meth c C hK hP ls hl
  obtain ⟨hx, hb, hml, hown, hts, hr, hlocks, hnm⟩ := id C
  have hb : c.code = cX9_hidden := hb
  have hown : s.vm.findClass RX9 = some m.cls := hown
  have hl : lv_has ls 3 [(0, .ref q_t)] := hl
  refine lv_iconst (v := 0) hx hb dX9_hidden_0 (by decide) ?_
  refine lv_istore_n (lv' := [(1, .int 0), (0, .ref q_t)]) hx hb dX9_hidden_1 rfl hl (by decide) rfl (fun ls hl => ?_)
  refine lv_iconst (v := 0) hx hb dX9_hidden_2 (by decide) ?_
  refine lv_istore_n (lv' := [(2, .int 0), (1, .int 0), (0, .ref q_t)]) hx hb dX9_hidden_3 rfl hl (by decide) rfl (fun ls hl => ?_)
  refine wX9_hidden_4 C hK hP FU 0 0 ls h (lv_sub hl [2, 1, 0] rfl)

set_option maxHeartbeats 4000000 in
set_option maxRecDepth 100000 in
theorem wX9_hundreds_5 {p : Program} {l : Launch} {e : Env} {s : State} {m : MethodId} {below : List Frame} {meth : Method} {c : Code} {D : va_G} {a : Nat → ClassId} {q_t : Nat} {x10 : Int32} {x1 : Int32} (C : Cx p s m #[.ref q_t, .int x10] meth c MX9_hundreds) (hK : KK D a s) {y : Int64} (hP : va_P D classes ([]) s.heap) : ∀ (n : Nat) (x2 : Int64) (x4 : Int32) (ls : Array Slot), lX9_hundreds_5 x1 n x2 x4 = some y → lv_has ls 5 [(1, .int x1), (2, .long x2), (4, .int x4)] → W p l e (rmM 0 0 0 0) s m #[.ref q_t, .int x10] below meth c s.heap [] 0 0 (MQ below (vp_Sl (fun r => r = y)) #[.ref q_t, .int x10] s 0 0 (fun _ => False)) (F0 m 5 ls []) := by
  obtain ⟨hx, hb, hml, hown, hts, hr, hlocks, hnm⟩ := id C
  have hb : c.code = cX9_hundreds := hb
  have hown : s.vm.findClass RX9 = some m.cls := hown
  intro n
  induction n with
  | zero => intro x2 x4 ls h; rw [lX9_hundreds_5] at h; cases h
  | succ n ih =>
    intro x2 x4 ls h hl
    rw [lX9_hundreds_5] at h
    refine lv_iload hx hb dX9_hundreds_5 (lv_at hl 2 rfl) ?_
    refine lv_iload_n hx hb dX9_hundreds_7 rfl (lv_at hl 0 rfl) ?_
    refine lv_icmp_ge (tgt := 23) hx hb dX9_hundreds_8 (by decide) (fun c1 => ?_) (fun c1 => ?_)
    · have h := ite_t c1 h
      refine lv_lload_n hx hb dX9_hundreds_23 rfl (lv_at hl 1 rfl) ?_
      exact rRl C rfl (Option.some.inj h) dX9_hundreds_24
    · have h := ite_f c1 h
      refine lv_lload_n hx hb dX9_hundreds_11 rfl (lv_at hl 1 rfl) ?_
      refine lv_ldc2 hx hb hown (hts _ t_1299) dX9_hundreds_12 ?_
      refine lv_lmul hx hb dX9_hundreds_15 ?_
      refine lv_lstore_n (lv' := [(2, .long (x2 * 100)), (1, .int x1), (4, .int x4)]) hx hb dX9_hundreds_16 rfl hl (by decide) rfl (fun ls hl => ?_)
      refine lv_iinc (v := x4 + 1) (lv' := [(4, .int (x4 + 1)), (2, .long (x2 * 100)), (1, .int x1)]) hx hb dX9_hundreds_17 hl (k := 2) rfl rfl (by decide) rfl (fun ls hl => ?_)
      refine lv_goto (tgt := 5) hx hb dX9_hundreds_20 (by decide) ?_
      exact ih (x2 * 100) (x4 + 1) ls h (lv_sub hl [2, 1, 0] rfl)

set_option maxHeartbeats 4000000 in
set_option maxRecDepth 100000 in
theorem mX9_hundreds (l : Launch) (D : va_G) (a : Nat → ClassId) {q_t : Nat} {x1 : Int32} {y : Int64} (h : fX9_hundreds x1 = some y) : CRl l MX9_hundreds 0 0 D a [.ref q_t, .int x1] ([]) (fun r => r = y) := by
  unfold fX9_hundreds at h
  refine entR (by decide) (Nat.le_of_ble_eq_true rfl) ?_
  intro p e s m below meth c C hK hP ls hl
  obtain ⟨hx, hb, hml, hown, hts, hr, hlocks, hnm⟩ := id C
  have hb : c.code = cX9_hundreds := hb
  have hown : s.vm.findClass RX9 = some m.cls := hown
  have hl : lv_has ls 5 [(0, .ref q_t), (1, .int x1)] := hl
  refine lv_lconst (v := 1) hx hb dX9_hundreds_0 (by decide) ?_
  refine lv_lstore_n (lv' := [(2, .long 1), (0, .ref q_t), (1, .int x1)]) hx hb dX9_hundreds_1 rfl hl (by decide) rfl (fun ls hl => ?_)
  refine lv_iconst (v := 0) hx hb dX9_hundreds_2 (by decide) ?_
  refine lv_istore (lv' := [(4, .int 0), (2, .long 1), (0, .ref q_t), (1, .int x1)]) hx hb dX9_hundreds_3 hl (by decide) rfl (fun ls hl => ?_)
  refine wX9_hundreds_5 C hK hP FU 1 0 ls h (lv_sub hl [3, 1, 0] rfl)

set_option maxHeartbeats 4000000 in
set_option maxRecDepth 100000 in
theorem mX9_comesTo (l : Launch) (D : va_G) (a : Nat → ClassId) {q_t : Nat} {Q_t : Nat → Nat} {z_t : Sx} {x1 : Int32} {x2 : Int32} {y : Sx} (h : fX9_comesTo z_t x1 x2 = some y) (sz : Nat) : CMv (S := Unit) l MX9_comesTo 3 66 0 0 D a [.ref q_t, .int x1, .int x2] (rc9 a q_t Q_t z_t) sz (fun _ => True) (fun _ => rc9 a q_t Q_t y) := by
  unfold fX9_comesTo at h
  refine entMv (by decide) (Nat.le_of_ble_eq_true rfl) ?_
  intro p e s m below meth c C hK A hA hP hD ls hl
  obtain ⟨hx, hb, hml, hown, hts, hr, hlocks, hnm⟩ := id C
  have hb : c.code = cX9_comesTo := hb
  have hown : s.vm.findClass RX9 = some m.cls := hown
  have hS : va_S A s.heap s.heap [] := va_S.rf
  have hl : lv_has ls 3 [(0, .ref q_t), (1, .int x1), (2, .int x2)] := hl
  refine lv_aload_n hx hb dX9_comesTo_0 rfl (lv_at hl 0 rfl) ?_
  refine va_get (D := D) (v := .ref (Q_t 26)) (C := RX9) (T := TX9) (N := 36) hx hb hts iX9 hown hK.1 hP 0 rfl rfl 26 (by decide) (hts _ t_908) (fun _ h9 => h9) rfl dX9_comesTo_1 ?_
  refine lv_iload_n hx hb dX9_comesTo_4 rfl (lv_at hl 1 rfl) ?_
  refine lv_iconst (v := (-1)) hx hb dX9_comesTo_5 (by decide) ?_
  obtain ⟨g1, h⟩ := gd_some h
  refine ast_i hx hb hK.1 hP hD hS 13 0 rfl rfl x1.toNatClampNeg (ix_g g1) dX9_comesTo_6 (fun H locs hP hD hS => ?_)
  rw [u9_26] at hP hD
  refine lv_aload_n hx hb dX9_comesTo_7 rfl (lv_at hl 0 rfl) ?_
  refine va_get (D := D) (v := .ref (Q_t 33)) (C := RX9) (T := TX9) (N := 36) hx hb hts iX9 hown hK.1 hP 0 rfl rfl 33 (by decide) (hts _ t_915) (fun _ h9 => h9) rfl dX9_comesTo_8 ?_
  refine lv_iload_n hx hb dX9_comesTo_11 rfl (lv_at hl 1 rfl) ?_
  refine lv_aload_n hx hb dX9_comesTo_12 rfl (lv_at hl 0 rfl) ?_
  refine va_get (D := D) (v := .ref (Q_t 24)) (C := RX9) (T := TX9) (N := 36) hx hb hts iX9 hown hK.1 hP 0 rfl rfl 24 (by decide) (hts _ t_906) (fun _ h9 => h9) rfl dX9_comesTo_13 ?_
  refine lv_iconst (v := 3) hx hb dX9_comesTo_16 (by decide) ?_
  refine ald_i hx hb hK.1 hP 11 0 rfl rfl 3 (ix_lit (by decide)) dX9_comesTo_17 ?_
  refine ast_i hx hb hK.1 hP hD hS 20 0 rfl rfl x1.toNatClampNeg (ix_g g1) dX9_comesTo_18 (fun H locs hP hD hS => ?_)
  rw [u9_33] at hP hD
  refine lv_aload_n hx hb dX9_comesTo_19 rfl (lv_at hl 0 rfl) ?_
  refine va_get (D := D) (v := .ref (Q_t 30)) (C := RX9) (T := TX9) (N := 36) hx hb hts iX9 hown hK.1 hP 0 rfl rfl 30 (by decide) (hts _ t_912) (fun _ h9 => h9) rfl dX9_comesTo_20 ?_
  refine lv_iload_n hx hb dX9_comesTo_23 rfl (lv_at hl 1 rfl) ?_
  refine lv_lconst (v := 0) hx hb dX9_comesTo_24 (by decide) ?_
  refine ast_l hx hb hK.1 hP hD hS 17 1 rfl rfl x1.toNatClampNeg (ix_g g1) dX9_comesTo_25 (fun H locs hP hD hS => ?_)
  rw [u9_30] at hP hD
  refine lv_aload_n hx hb dX9_comesTo_26 rfl (lv_at hl 0 rfl) ?_
  refine va_get (D := D) (v := .ref (Q_t 31)) (C := RX9) (T := TX9) (N := 36) hx hb hts iX9 hown hK.1 hP 0 rfl rfl 31 (by decide) (hts _ t_913) (fun _ h9 => h9) rfl dX9_comesTo_27 ?_
  refine lv_iload_n hx hb dX9_comesTo_30 rfl (lv_at hl 1 rfl) ?_
  refine lv_aload_n hx hb dX9_comesTo_31 rfl (lv_at hl 0 rfl) ?_
  obtain ⟨r3, hc2, h⟩ := bd_some h
  refine cRi (runV (As := []) (rest := [.int x1, .ref (Q_t 31)]) C (mX9_hidden l D a (q_t := q_t) (Q_t := Q_t) hc2) lk_V_9_307 okN_X9_hidden ⟨Nat.le_of_ble_eq_true rfl, Nat.le_of_ble_eq_true rfl⟩ ⟨rfl, rfl⟩ (preV (preR hK hP) (recvOf hK hP 0 rfl (ci := 9) rfl)) hl.1 rfl (Nat.le_of_ble_eq_true rfl) dX9_comesTo_32 ⟨Nat.le_of_ble_eq_true rfl, Nat.le_of_ble_eq_true rfl⟩) ?_
  refine lv_i2l (v := r3.toInt64) hx hb dX9_comesTo_35 rfl ?_
  refine lv_aload_n hx hb dX9_comesTo_36 rfl (lv_at hl 0 rfl) ?_
  refine lv_iload_n hx hb dX9_comesTo_37 rfl (lv_at hl 2 rfl) ?_
  refine lv_iload_n hx hb dX9_comesTo_38 rfl (lv_at hl 1 rfl) ?_
  refine lv_isub hx hb dX9_comesTo_39 ?_
  obtain ⟨r5, hc4, h⟩ := bd_some h
  refine cRl (runV (As := [.int (x2 - x1)]) (rest := [.long r3.toInt64, .int x1, .ref (Q_t 31)]) C (mX9_hundreds l D a (q_t := q_t) hc4) lk_V_9_367 okN_X9_hundreds ⟨Nat.le_of_ble_eq_true rfl, Nat.le_of_ble_eq_true rfl⟩ ⟨rfl, rfl⟩ (preV (preR hK (P_of_map (wc := []) hP [] rfl)) (recvOf hK hP 0 rfl (ci := 9) rfl)) hl.1 rfl (Nat.le_of_ble_eq_true rfl) dX9_comesTo_40 ⟨Nat.le_of_ble_eq_true rfl, Nat.le_of_ble_eq_true rfl⟩) ?_
  refine lv_lmul hx hb dX9_comesTo_43 ?_
  refine ast_l hx hb hK.1 hP hD hS 18 1 rfl rfl x1.toNatClampNeg (ix_g g1) dX9_comesTo_44 (fun H locs hP hD hS => ?_)
  rw [u9_31] at hP hD
  refine lv_aload_n hx hb dX9_comesTo_45 rfl (lv_at hl 0 rfl) ?_
  refine va_get (D := D) (v := .ref (Q_t 32)) (C := RX9) (T := TX9) (N := 36) hx hb hts iX9 hown hK.1 hP 0 rfl rfl 32 (by decide) (hts _ t_914) (fun _ h9 => h9) rfl dX9_comesTo_46 ?_
  refine lv_iload_n hx hb dX9_comesTo_49 rfl (lv_at hl 1 rfl) ?_
  refine lv_bipush (v := (-2)) hx hb dX9_comesTo_50 (by decide) ?_
  refine ast_i hx hb hK.1 hP hD hS 19 0 rfl rfl x1.toNatClampNeg (ix_g g1) dX9_comesTo_52 (fun H locs hP hD hS => ?_)
  rw [u9_32] at hP hD
  exact rMv C rfl h (g := fun y => rc9 a q_t Q_t y) hP hD hS dX9_comesTo_53

set_option maxHeartbeats 4000000 in
set_option maxRecDepth 100000 in
theorem mX9_triesAs (l : Launch) (D : va_G) (a : Nat → ClassId) {q_t : Nat} {Q_t : Nat → Nat} {z_t : Sx} {x1 : Int32} {x2 : Int32} {y : Sx} (h : fX9_triesAs z_t x1 x2 = some y) (sz : Nat) : CMv (S := Unit) l MX9_triesAs 1 22 0 0 D a [.ref q_t, .int x1, .int x2] (rc9 a q_t Q_t z_t) sz (fun _ => True) (fun _ => rc9 a q_t Q_t y) := by
  unfold fX9_triesAs at h
  refine entMv (by decide) (Nat.le_of_ble_eq_true rfl) ?_
  intro p e s m below meth c C hK A hA hP hD ls hl
  obtain ⟨hx, hb, hml, hown, hts, hr, hlocks, hnm⟩ := id C
  have hb : c.code = cX9_triesAs := hb
  have hown : s.vm.findClass RX9 = some m.cls := hown
  have hS : va_S A s.heap s.heap [] := va_S.rf
  have hl : lv_has ls 4 [(0, .ref q_t), (1, .int x1), (2, .int x2)] := hl
  refine lv_aload_n hx hb dX9_triesAs_0 rfl (lv_at hl 0 rfl) ?_
  refine va_get (D := D) (v := .ref (Q_t 26)) (C := RX9) (T := TX9) (N := 36) hx hb hts iX9 hown hK.1 hP 0 rfl rfl 26 (by decide) (hts _ t_908) (fun _ h9 => h9) rfl dX9_triesAs_1 ?_
  refine lv_iload_n hx hb dX9_triesAs_4 rfl (lv_at hl 1 rfl) ?_
  obtain ⟨g1, h⟩ := gd_some h
  refine ald_i hx hb hK.1 hP 13 0 rfl rfl x1.toNatClampNeg (ix_g g1) dX9_triesAs_5 ?_
  refine lv_istore_n (lv' := [(3, .int (gT z_t 26 x1.toNatClampNeg)), (0, .ref q_t), (1, .int x1), (2, .int x2)]) hx hb dX9_triesAs_6 rfl hl (by decide) rfl (fun ls hl => ?_)
  refine lv_aload_n hx hb dX9_triesAs_7 rfl (lv_at hl 1 rfl) ?_
  refine va_get (D := D) (v := .ref (Q_t 27)) (C := RX9) (T := TX9) (N := 36) hx hb hts iX9 hown hK.1 hP 0 rfl rfl 27 (by decide) (hts _ t_909) (fun _ h9 => h9) rfl dX9_triesAs_8 ?_
  refine lv_iload_n hx hb dX9_triesAs_11 rfl (lv_at hl 2 rfl) ?_
  refine lv_iload_n hx hb dX9_triesAs_12 rfl (lv_at hl 3 rfl) ?_
  refine ast_z hx hb hK.1 hP hD hS 14 3 rfl rfl x1.toNatClampNeg (ix_g g1) dX9_triesAs_13 (fun H locs hP hD hS => ?_)
  rw [u9_27] at hP hD
  refine lv_aload_n hx hb dX9_triesAs_14 rfl (lv_at hl 1 rfl) ?_
  refine va_get (D := D) (v := .ref (Q_t 24)) (C := RX9) (T := TX9) (N := 36) hx hb hts iX9 hown hK.1 hP 0 rfl rfl 24 (by decide) (hts _ t_906) (fun _ h9 => h9) rfl dX9_triesAs_15 ?_
  refine lv_iconst (v := 3) hx hb dX9_triesAs_18 (by decide) ?_
  refine lv_aload_n hx hb dX9_triesAs_19 rfl (lv_at hl 1 rfl) ?_
  refine va_get (D := D) (v := .ref (Q_t 33)) (C := RX9) (T := TX9) (N := 36) hx hb hts iX9 hown hK.1 hP 0 rfl rfl 33 (by decide) (hts _ t_915) (fun _ h9 => h9) rfl dX9_triesAs_20 ?_
  refine lv_iload_n hx hb dX9_triesAs_23 rfl (lv_at hl 2 rfl) ?_
  refine ald_i hx hb hK.1 hP 20 0 rfl rfl x1.toNatClampNeg (ix_g g1) dX9_triesAs_24 ?_
  refine lv_aload_n hx hb dX9_triesAs_25 rfl (lv_at hl 1 rfl) ?_
  refine lv_iload_n hx hb dX9_triesAs_26 rfl (lv_at hl 0 rfl) ?_
  refine lv_iconst (v := 1) hx hb dX9_triesAs_27 (by decide) ?_
  obtain ⟨r3, hc2, h⟩ := bd_some h
  refine cRi (runV (As := [.int (gT z_t 26 x1.toNatClampNeg), .int 1]) (rest := [.int (gT (sT z_t 27 x1.toNatClampNeg (vp_nar .boolean x2)) 33 x1.toNatClampNeg), .int 3, .ref (Q_t 24)]) C (mX9_faultOf l D a (q_t := q_t) (Q_t := Q_t) hc2) lk_V_9_268 okN_X9_faultOf ⟨Nat.le_of_ble_eq_true rfl, Nat.le_of_ble_eq_true rfl⟩ ⟨rfl, rfl⟩ (preV (preR hK hP) (recvOf hK hP 0 rfl (ci := 9) rfl)) hl.1 rfl (Nat.le_of_ble_eq_true rfl) dX9_triesAs_28 ⟨Nat.le_of_ble_eq_true rfl, Nat.le_of_ble_eq_true rfl⟩) ?_
  refine lv_isub hx hb dX9_triesAs_31 ?_
  refine lv_topi (fun v4 ev4 => ?_)
  have h := nm_some h v4 ev4
  refine ast_i hx hb hK.1 hP hD hS 11 0 rfl rfl 3 (ix_lit (by decide)) dX9_triesAs_32 (fun H locs hP hD hS => ?_)
  rw [u9_24] at hP hD
  refine lv_aload_n hx hb dX9_triesAs_33 rfl (lv_at hl 1 rfl) ?_
  refine va_get (D := D) (v := .ref (Q_t 24)) (C := RX9) (T := TX9) (N := 36) hx hb hts iX9 hown hK.1 hP 0 rfl rfl 24 (by decide) (hts _ t_906) (fun _ h9 => h9) rfl dX9_triesAs_34 ?_
  refine lv_bipush (v := 44) hx hb dX9_triesAs_37 (by decide) ?_
  refine lv_bipush (v := 6) hx hb dX9_triesAs_39 (by decide) ?_
  refine lv_iload_n hx hb dX9_triesAs_41 rfl (lv_at hl 0 rfl) ?_
  refine lv_imul hx hb dX9_triesAs_42 ?_
  refine lv_iadd hx hb dX9_triesAs_43 ?_
  refine lv_iconst (v := 4) hx hb dX9_triesAs_44 (by decide) ?_
  refine lv_iadd hx hb dX9_triesAs_45 ?_
  refine lv_iload_n hx hb dX9_triesAs_46 rfl (lv_at hl 3 rfl) ?_
  obtain ⟨J5, eJ5, h⟩ := jn_some h
  have hJ5 : ∀ (i6 : Int32) (i7 : Int32) (H : Heap) (locs : List Loc) (ls : Array Slot), J5 i6 i7 = some y → va_P D classes (rc9 a q_t Q_t (sT (sT z_t 27 x1.toNatClampNeg (vp_nar .boolean x2)) 24 3 v4)) H → va_D A (rc9 a q_t Q_t (sT (sT z_t 27 x1.toNatClampNeg (vp_nar .boolean x2)) 24 3 v4)) → va_S A s.heap H locs → lv_has ls 4 [] → W p l e (rmM 1 0 0 22) s m #[.ref q_t, .int x1, .int x2] below meth c H locs 0 0 (MQ below (va_Qv (fun (_ : Unit) => True) (Bw D A (fun _ => rc9 a q_t Q_t y)) A) #[.ref q_t, .int x1, .int x2] s 0 0 A) (F0 m 55 ls [.int i6, .int i7, .ref (Q_t 24)]) := by
    intro i6 i7 H locs ls h hP hD hS hl
    rw [eJ5] at h
    obtain ⟨g8, h⟩ := gd_some h
    refine ast_i hx hb hK.1 hP hD hS 11 0 rfl rfl i7.toNatClampNeg (ix_g g8) dX9_triesAs_55 (fun H locs hP hD hS => ?_)
    rw [u9_24] at hP hD
    exact rMv C rfl h (g := fun y => rc9 a q_t Q_t y) hP hD hS dX9_triesAs_56
  refine lv_if_eq (tgt := 54) hx hb dX9_triesAs_47 (by decide) (fun c9 => ?_) (fun c9 => ?_)
  · have h := ite_t c9 h
    refine lv_iconst (v := 0) hx hb dX9_triesAs_54 (by decide) ?_
    exact hJ5 0 ((44 + (6 * (gT z_t 26 x1.toNatClampNeg))) + 4) _ _ ls h hP hD hS (lv_sub hl [] rfl)
  · have h := ite_f c9 h
    refine lv_iconst (v := 1) hx hb dX9_triesAs_50 (by decide) ?_
    refine lv_goto (tgt := 55) hx hb dX9_triesAs_51 (by decide) ?_
    exact hJ5 1 ((44 + (6 * (gT z_t 26 x1.toNatClampNeg))) + 4) _ _ ls h hP hD hS (lv_sub hl [] rfl)

set_option maxHeartbeats 4000000 in
set_option maxRecDepth 100000 in
theorem mX9_takes (l : Launch) (D : va_G) (a : Nat → ClassId) {q_t : Nat} {Q_t : Nat → Nat} {z_t : Sx} {x1 : Int32} {x2 : Int32} {x3 : Int64} {x5 : Int64} {y : Sx} (h : fX9_takes z_t x1 x2 x3 x5 = some y) (sz : Nat) : CMv (S := Unit) l MX9_takes 2 45 0 0 D a [.ref q_t, .int x1, .int x2, .long x3, .long x5] (rc9 a q_t Q_t z_t) sz (fun _ => True) (fun _ => rc9 a q_t Q_t y) := by
  unfold fX9_takes at h
  refine entMv (by decide) (Nat.le_of_ble_eq_true rfl) ?_
  intro p e s m below meth c C hK A hA hP hD ls hl
  obtain ⟨hx, hb, hml, hown, hts, hr, hlocks, hnm⟩ := id C
  have hb : c.code = cX9_takes := hb
  have hown : s.vm.findClass RX9 = some m.cls := hown
  have hS : va_S A s.heap s.heap [] := va_S.rf
  have hl : lv_has ls 11 [(0, .ref q_t), (1, .int x1), (2, .int x2), (3, .long x3), (5, .long x5)] := hl
  refine lv_aload_n hx hb dX9_takes_0 rfl (lv_at hl 0 rfl) ?_
  refine va_get (D := D) (v := .ref (Q_t 26)) (C := RX9) (T := TX9) (N := 36) hx hb hts iX9 hown hK.1 hP 0 rfl rfl 26 (by decide) (hts _ t_908) (fun _ h9 => h9) rfl dX9_takes_1 ?_
  refine lv_iload_n hx hb dX9_takes_4 rfl (lv_at hl 1 rfl) ?_
  obtain ⟨g1, h⟩ := gd_some h
  refine ald_i hx hb hK.1 hP 13 0 rfl rfl x1.toNatClampNeg (ix_g g1) dX9_takes_5 ?_
  refine lv_istore (lv' := [(7, .int (gT z_t 26 x1.toNatClampNeg)), (0, .ref q_t), (1, .int x1), (2, .int x2), (3, .long x3), (5, .long x5)]) hx hb dX9_takes_6 hl (by decide) rfl (fun ls hl => ?_)
  refine lv_aload_n hx hb dX9_takes_8 rfl (lv_at hl 1 rfl) ?_
  refine va_get (D := D) (v := .ref (Q_t 27)) (C := RX9) (T := TX9) (N := 36) hx hb hts iX9 hown hK.1 hP 0 rfl rfl 27 (by decide) (hts _ t_909) (fun _ h9 => h9) rfl dX9_takes_9 ?_
  refine lv_iload_n hx hb dX9_takes_12 rfl (lv_at hl 2 rfl) ?_
  refine ald_z hx hb hK.1 hP 14 3 rfl rfl x1.toNatClampNeg (ix_g g1) dX9_takes_13 ?_
  refine lv_if_eq (tgt := 58) hx hb dX9_takes_14 (by decide) (fun c2 => ?_) (fun c2 => ?_)
  · have h := ite_t c2 h
    refine lv_aload_n hx hb dX9_takes_58 rfl (lv_at hl 1 rfl) ?_
    refine lv_iload hx hb dX9_takes_59 (lv_at hl 0 rfl) ?_
    refine lv_iconst (v := 2) hx hb dX9_takes_61 (by decide) ?_
    obtain ⟨r4, hc3, h⟩ := bd_some h
    refine cRi (runV (As := [.int (gT z_t 26 x1.toNatClampNeg), .int 2]) (rest := []) C (mX9_faultOf l D a (q_t := q_t) (Q_t := Q_t) hc3) lk_V_9_268 okN_X9_faultOf ⟨Nat.le_of_ble_eq_true rfl, Nat.le_of_ble_eq_true rfl⟩ ⟨rfl, rfl⟩ (preV (preR hK hP) (recvOf hK hP 0 rfl (ci := 9) rfl)) hl.1 rfl (Nat.le_of_ble_eq_true rfl) dX9_takes_62 ⟨Nat.le_of_ble_eq_true rfl, Nat.le_of_ble_eq_true rfl⟩) ?_
    refine lv_istore (lv' := [(8, .int r4), (7, .int (gT z_t 26 x1.toNatClampNeg)), (0, .ref q_t), (1, .int x1), (2, .int x2), (3, .long x3), (5, .long x5)]) hx hb dX9_takes_65 hl (by decide) rfl (fun ls hl => ?_)
    refine lv_iload hx hb dX9_takes_67 (lv_at hl 0 rfl) ?_
    refine lv_i2l (v := r4.toInt64) hx hb dX9_takes_69 rfl ?_
    refine lv_aload_n hx hb dX9_takes_70 rfl (lv_at hl 2 rfl) ?_
    refine va_get (D := D) (v := .ref (Q_t 28)) (C := RX9) (T := TX9) (N := 36) hx hb hts iX9 hown hK.1 hP 0 rfl rfl 28 (by decide) (hts _ t_910) (fun _ h9 => h9) rfl dX9_takes_71 ?_
    refine lv_iload_n hx hb dX9_takes_74 rfl (lv_at hl 3 rfl) ?_
    refine ald_l hx hb hK.1 hP 15 1 rfl rfl x1.toNatClampNeg (ix_g g1) dX9_takes_75 ?_
    refine lv_lmul hx hb dX9_takes_76 ?_
    refine lv_bipush (v := 100) hx hb dX9_takes_77 (by decide) ?_
    refine lv_iload hx hb dX9_takes_79 (lv_at hl 0 rfl) ?_
    refine lv_isub hx hb dX9_takes_81 ?_
    refine lv_i2l (v := (100 - r4).toInt64) hx hb dX9_takes_82 rfl ?_
    refine lv_lload_n hx hb dX9_takes_83 rfl (lv_at hl 5 rfl) ?_
    refine lv_lmul hx hb dX9_takes_84 ?_
    refine lv_ladd hx hb dX9_takes_85 ?_
    refine lv_topl (fun v5 ev5 => ?_)
    have h := nm_some h v5 ev5
    refine lv_lstore (lv' := [(9, .long v5), (8, .int r4), (7, .int (gT z_t 26 x1.toNatClampNeg)), (0, .ref q_t), (1, .int x1), (2, .int x2), (3, .long x3), (5, .long x5)]) hx hb dX9_takes_86 hl (by decide) rfl (fun ls hl => ?_)
    refine lv_aload_n hx hb dX9_takes_88 rfl (lv_at hl 3 rfl) ?_
    refine va_get (D := D) (v := .ref (Q_t 24)) (C := RX9) (T := TX9) (N := 36) hx hb hts iX9 hown hK.1 hP 0 rfl rfl 24 (by decide) (hts _ t_906) (fun _ h9 => h9) rfl dX9_takes_89 ?_
    refine lv_iconst (v := 3) hx hb dX9_takes_92 (by decide) ?_
    refine lv_aload_n hx hb dX9_takes_93 rfl (lv_at hl 3 rfl) ?_
    refine va_get (D := D) (v := .ref (Q_t 33)) (C := RX9) (T := TX9) (N := 36) hx hb hts iX9 hown hK.1 hP 0 rfl rfl 33 (by decide) (hts _ t_915) (fun _ h9 => h9) rfl dX9_takes_94 ?_
    refine lv_iload_n hx hb dX9_takes_97 rfl (lv_at hl 4 rfl) ?_
    refine ald_i hx hb hK.1 hP 20 0 rfl rfl x1.toNatClampNeg (ix_g g1) dX9_takes_98 ?_
    refine ast_i hx hb hK.1 hP hD hS 11 0 rfl rfl 3 (ix_lit (by decide)) dX9_takes_99 (fun H locs hP hD hS => ?_)
    rw [u9_24] at hP hD
    refine lv_lload hx hb dX9_takes_100 (lv_at hl 0 rfl) ?_
    refine lv_aload_n hx hb dX9_takes_102 rfl (lv_at hl 3 rfl) ?_
    refine va_get (D := D) (v := .ref (Q_t 30)) (C := RX9) (T := TX9) (N := 36) hx hb hts iX9 hown hK.1 hP 0 rfl rfl 30 (by decide) (hts _ t_912) (fun _ h9 => h9) rfl dX9_takes_103 ?_
    refine lv_iload_n hx hb dX9_takes_106 rfl (lv_at hl 4 rfl) ?_
    refine ald_l hx hb hK.1 hP 17 1 rfl rfl x1.toNatClampNeg (ix_g g1) dX9_takes_107 ?_
    refine W.lcmp hx hb dX9_takes_108 ?_
    refine lv_if_gt (tgt := 113) hx hb dX9_takes_109 (by decide) (fun c6 => ?_) (fun c6 => ?_)
    · have h := ite_t ((lg_cmp_gt _ _).mp c6) h
      refine lv_aload_n hx hb dX9_takes_113 rfl (lv_at hl 3 rfl) ?_
      refine va_get (D := D) (v := .ref (Q_t 30)) (C := RX9) (T := TX9) (N := 36) hx hb hts iX9 hown hK.1 hP 0 rfl rfl 30 (by decide) (hts _ t_912) (fun _ h9 => h9) rfl dX9_takes_114 ?_
      refine lv_iload_n hx hb dX9_takes_117 rfl (lv_at hl 4 rfl) ?_
      refine lv_lload hx hb dX9_takes_118 (lv_at hl 0 rfl) ?_
      refine ast_l hx hb hK.1 hP hD hS 17 1 rfl rfl x1.toNatClampNeg (ix_g g1) dX9_takes_120 (fun H locs hP hD hS => ?_)
      rw [u9_30] at hP hD
      refine lv_aload_n hx hb dX9_takes_121 rfl (lv_at hl 3 rfl) ?_
      refine va_get (D := D) (v := .ref (Q_t 31)) (C := RX9) (T := TX9) (N := 36) hx hb hts iX9 hown hK.1 hP 0 rfl rfl 31 (by decide) (hts _ t_913) (fun _ h9 => h9) rfl dX9_takes_122 ?_
      refine lv_iload_n hx hb dX9_takes_125 rfl (lv_at hl 4 rfl) ?_
      refine lv_iload hx hb dX9_takes_126 (lv_at hl 1 rfl) ?_
      refine lv_i2l (v := r4.toInt64) hx hb dX9_takes_128 rfl ?_
      refine lv_aload_n hx hb dX9_takes_129 rfl (lv_at hl 3 rfl) ?_
      refine va_get (D := D) (v := .ref (Q_t 29)) (C := RX9) (T := TX9) (N := 36) hx hb hts iX9 hown hK.1 hP 0 rfl rfl 29 (by decide) (hts _ t_911) (fun _ h9 => h9) rfl dX9_takes_130 ?_
      refine lv_iload_n hx hb dX9_takes_133 rfl (lv_at hl 4 rfl) ?_
      refine ald_l hx hb hK.1 hP 16 1 rfl rfl x1.toNatClampNeg (ix_g g1) dX9_takes_134 ?_
      refine lv_lmul hx hb dX9_takes_135 ?_
      refine lv_bipush (v := 100) hx hb dX9_takes_136 (by decide) ?_
      refine lv_iload hx hb dX9_takes_138 (lv_at hl 1 rfl) ?_
      refine lv_isub hx hb dX9_takes_140 ?_
      refine lv_i2l (v := (100 - r4).toInt64) hx hb dX9_takes_141 rfl ?_
      refine lv_lload hx hb dX9_takes_142 (lv_at hl 7 rfl) ?_
      refine lv_lmul hx hb dX9_takes_144 ?_
      refine lv_ladd hx hb dX9_takes_145 ?_
      refine lv_topl (fun v7 ev7 => ?_)
      have h := nm_some h v7 ev7
      refine ast_l hx hb hK.1 hP hD hS 18 1 rfl rfl x1.toNatClampNeg (ix_g g1) dX9_takes_146 (fun H locs hP hD hS => ?_)
      rw [u9_31] at hP hD
      refine lv_aload_n hx hb dX9_takes_147 rfl (lv_at hl 3 rfl) ?_
      refine va_get (D := D) (v := .ref (Q_t 32)) (C := RX9) (T := TX9) (N := 36) hx hb hts iX9 hown hK.1 hP 0 rfl rfl 32 (by decide) (hts _ t_914) (fun _ h9 => h9) rfl dX9_takes_148 ?_
      refine lv_iload_n hx hb dX9_takes_151 rfl (lv_at hl 4 rfl) ?_
      refine lv_iload hx hb dX9_takes_152 (lv_at hl 2 rfl) ?_
      refine ast_i hx hb hK.1 hP hD hS 19 0 rfl rfl x1.toNatClampNeg (ix_g g1) dX9_takes_154 (fun H locs hP hD hS => ?_)
      rw [u9_32] at hP hD
      exact rMv C rfl h (g := fun y => rc9 a q_t Q_t y) hP hD hS dX9_takes_155
    · have h := ite_f (fun q => c6 ((lg_cmp_gt _ _).mpr q)) h
      exact rMv C rfl h (g := fun y => rc9 a q_t Q_t y) hP hD hS dX9_takes_112
  · have h := ite_f c2 h
    refine lv_aload_n hx hb dX9_takes_17 rfl (lv_at hl 1 rfl) ?_
    refine va_get (D := D) (v := .ref (Q_t 28)) (C := RX9) (T := TX9) (N := 36) hx hb hts iX9 hown hK.1 hP 0 rfl rfl 28 (by decide) (hts _ t_910) (fun _ h9 => h9) rfl dX9_takes_18 ?_
    refine lv_iload_n hx hb dX9_takes_21 rfl (lv_at hl 2 rfl) ?_
    refine lv_aload_n hx hb dX9_takes_22 rfl (lv_at hl 1 rfl) ?_
    refine lv_iload hx hb dX9_takes_23 (lv_at hl 0 rfl) ?_
    refine lv_iconst (v := 0) hx hb dX9_takes_25 (by decide) ?_
    obtain ⟨r9, hc8, h⟩ := bd_some h
    refine cRi (runV (As := [.int (gT z_t 26 x1.toNatClampNeg), .int 0]) (rest := [.int x1, .ref (Q_t 28)]) C (mX9_kindOf l D a (q_t := q_t) (Q_t := Q_t) hc8) lk_V_9_275 okN_X9_kindOf ⟨Nat.le_of_ble_eq_true rfl, Nat.le_of_ble_eq_true rfl⟩ ⟨rfl, rfl⟩ (preV (preR hK hP) (recvOf hK hP 0 rfl (ci := 9) rfl)) hl.1 rfl (Nat.le_of_ble_eq_true rfl) dX9_takes_26 ⟨Nat.le_of_ble_eq_true rfl, Nat.le_of_ble_eq_true rfl⟩) ?_
    refine lv_i2l (v := r9.toInt64) hx hb dX9_takes_29 rfl ?_
    refine lv_aload_n hx hb dX9_takes_30 rfl (lv_at hl 1 rfl) ?_
    refine lv_iload_n hx hb dX9_takes_31 rfl (lv_at hl 3 rfl) ?_
    refine lv_iload_n hx hb dX9_takes_32 rfl (lv_at hl 2 rfl) ?_
    refine lv_isub hx hb dX9_takes_33 ?_
    refine lv_iconst (v := 1) hx hb dX9_takes_34 (by decide) ?_
    refine lv_isub hx hb dX9_takes_35 ?_
    obtain ⟨r11, hc10, h⟩ := bd_some h
    refine cRl (runV (As := [.int ((x2 - x1) - 1)]) (rest := [.long r9.toInt64, .int x1, .ref (Q_t 28)]) C (mX9_hundreds l D a (q_t := q_t) hc10) lk_V_9_367 okN_X9_hundreds ⟨Nat.le_of_ble_eq_true rfl, Nat.le_of_ble_eq_true rfl⟩ ⟨rfl, rfl⟩ (preV (preR hK (P_of_map (wc := []) hP [] rfl)) (recvOf hK hP 0 rfl (ci := 9) rfl)) hl.1 rfl (Nat.le_of_ble_eq_true rfl) dX9_takes_36 ⟨Nat.le_of_ble_eq_true rfl, Nat.le_of_ble_eq_true rfl⟩) ?_
    refine lv_lmul hx hb dX9_takes_39 ?_
    refine lv_lload_n hx hb dX9_takes_40 rfl (lv_at hl 4 rfl) ?_
    refine lv_ladd hx hb dX9_takes_41 ?_
    refine ast_l hx hb hK.1 hP hD hS 15 1 rfl rfl x1.toNatClampNeg (ix_g g1) dX9_takes_42 (fun H locs hP hD hS => ?_)
    rw [u9_28] at hP hD
    refine lv_aload_n hx hb dX9_takes_43 rfl (lv_at hl 1 rfl) ?_
    refine va_get (D := D) (v := .ref (Q_t 29)) (C := RX9) (T := TX9) (N := 36) hx hb hts iX9 hown hK.1 hP 0 rfl rfl 29 (by decide) (hts _ t_911) (fun _ h9 => h9) rfl dX9_takes_44 ?_
    refine lv_iload_n hx hb dX9_takes_47 rfl (lv_at hl 2 rfl) ?_
    refine lv_lload hx hb dX9_takes_48 (lv_at hl 5 rfl) ?_
    refine ast_l hx hb hK.1 hP hD hS 16 1 rfl rfl x1.toNatClampNeg (ix_g g1) dX9_takes_50 (fun H locs hP hD hS => ?_)
    rw [u9_29] at hP hD
    refine lv_aload_n hx hb dX9_takes_51 rfl (lv_at hl 1 rfl) ?_
    refine lv_iload_n hx hb dX9_takes_52 rfl (lv_at hl 2 rfl) ?_
    refine lv_iconst (v := 0) hx hb dX9_takes_53 (by decide) ?_
    obtain ⟨z13, hc12, h⟩ := bd_some h
    refine cWv (runV (As := [.int x1, .int 0]) (rest := []) C (mX9_triesAs l D a (q_t := q_t) (Q_t := Q_t) hc12 H.size) lk_V_9_374 okN_X9_triesAs ⟨Nat.le_of_ble_eq_true rfl, Nat.le_of_ble_eq_true rfl⟩ ⟨rfl, rfl⟩ (preV (preM hK hP hD) (recvOf hK hP 0 rfl (ci := 9) rfl)) hl.1 rfl (Nat.le_of_ble_eq_true rfl) dX9_takes_54 ⟨Nat.le_of_ble_eq_true rfl, Nat.le_of_ble_eq_true rfl⟩) hP hD hS hA (fun H locs hP hD hS => ?_)
    have hP : va_P D classes (rc9 a q_t Q_t z13) H := hP
    have hD : va_D A (rc9 a q_t Q_t z13) := hD
    exact rMv C rfl h (g := fun y => rc9 a q_t Q_t y) hP hD hS dX9_takes_57

set_option maxHeartbeats 4000000 in
set_option maxRecDepth 100000 in
theorem mX9_isOpen (l : Launch) (D : va_G) (a : Nat → ClassId) {q_t : Nat} {Q_t : Nat → Nat} {z_t : Sx} {x1 : Int32} {y : Int32} (h : fX9_isOpen z_t x1 = some y) : CRi l MX9_isOpen 1 22 D a [.ref q_t, .int x1] (rc9 a q_t Q_t z_t) (fun r => r = y) := by
  unfold fX9_isOpen at h
  refine entR (by decide) (Nat.le_of_ble_eq_true rfl) ?_
  intro p e s m below meth c C hK hP ls hl
  obtain ⟨hx, hb, hml, hown, hts, hr, hlocks, hnm⟩ := id C
  have hb : c.code = cX9_isOpen := hb
  have hown : s.vm.findClass RX9 = some m.cls := hown
  have hl : lv_has ls 2 [(0, .ref q_t), (1, .int x1)] := hl
  refine lv_aload_n hx hb dX9_isOpen_0 rfl (lv_at hl 0 rfl) ?_
  refine lv_iload_n hx hb dX9_isOpen_1 rfl (lv_at hl 1 rfl) ?_
  refine lv_iconst (v := 4) hx hb dX9_isOpen_2 (by decide) ?_
  obtain ⟨r2, hc1, h⟩ := bd_some h
  refine cRi (runV (As := [.int x1, .int 4]) (rest := []) C (mX9_faultOf l D a (q_t := q_t) (Q_t := Q_t) hc1) lk_V_9_268 okN_X9_faultOf ⟨Nat.le_of_ble_eq_true rfl, Nat.le_of_ble_eq_true rfl⟩ ⟨rfl, rfl⟩ (preV (preR hK hP) (recvOf hK hP 0 rfl (ci := 9) rfl)) hl.1 rfl (Nat.le_of_ble_eq_true rfl) dX9_isOpen_3 ⟨Nat.le_of_ble_eq_true rfl, Nat.le_of_ble_eq_true rfl⟩) ?_
  refine lv_if_ne (tgt := 36) hx hb dX9_isOpen_6 (by decide) (fun c3 => ?_) (fun c3 => ?_)
  · have h := ite_f c3 h
    refine lv_iconst (v := 0) hx hb dX9_isOpen_36 (by decide) ?_
    exact rRz C rfl (Or.inl rfl) (Option.some.inj h) dX9_isOpen_37
  · have h := ite_t c3 h
    refine lv_aload_n hx hb dX9_isOpen_9 rfl (lv_at hl 0 rfl) ?_
    refine lv_iload_n hx hb dX9_isOpen_10 rfl (lv_at hl 1 rfl) ?_
    refine lv_iconst (v := 3) hx hb dX9_isOpen_11 (by decide) ?_
    obtain ⟨r5, hc4, h⟩ := bd_some h
    refine cRi (runV (As := [.int x1, .int 3]) (rest := []) C (mX9_faultOf l D a (q_t := q_t) (Q_t := Q_t) hc4) lk_V_9_268 okN_X9_faultOf ⟨Nat.le_of_ble_eq_true rfl, Nat.le_of_ble_eq_true rfl⟩ ⟨rfl, rfl⟩ (preV (preR hK hP) (recvOf hK hP 0 rfl (ci := 9) rfl)) hl.1 rfl (Nat.le_of_ble_eq_true rfl) dX9_isOpen_12 ⟨Nat.le_of_ble_eq_true rfl, Nat.le_of_ble_eq_true rfl⟩) ?_
    obtain ⟨J6, eJ6, h⟩ := jn_some h
    have hJ6 : ∀ (ls : Array Slot), J6 = some y → lv_has ls 2 [] → W p l e (rmM 1 0 0 22) s m #[.ref q_t, .int x1] below meth c s.heap [] 0 0 (MQ below (vp_Si (fun r => r = y)) #[.ref q_t, .int x1] s 0 0 (fun _ => False)) (F0 m 32 ls []) := by
      intro ls h hl
      rw [eJ6] at h
      refine lv_iconst (v := 1) hx hb dX9_isOpen_32 (by decide) ?_
      refine lv_goto (tgt := 37) hx hb dX9_isOpen_33 (by decide) ?_
      exact rRz C rfl (Or.inr rfl) (Option.some.inj h) dX9_isOpen_37
    refine lv_if_lt (tgt := 32) hx hb dX9_isOpen_15 (by decide) (fun c7 => ?_) (fun c7 => ?_)
    · have h := ite_t c7 h
      exact hJ6 ls h (lv_sub hl [] rfl)
    · have h := ite_f c7 h
      refine lv_aload_n hx hb dX9_isOpen_18 rfl (lv_at hl 0 rfl) ?_
      refine lv_aload_n hx hb dX9_isOpen_19 rfl (lv_at hl 0 rfl) ?_
      refine lv_iload_n hx hb dX9_isOpen_20 rfl (lv_at hl 1 rfl) ?_
      refine lv_iconst (v := 3) hx hb dX9_isOpen_21 (by decide) ?_
      obtain ⟨r9, hc8, h⟩ := bd_some h
      refine cRi (runV (As := [.int x1, .int 3]) (rest := [.ref q_t]) C (mX9_faultOf l D a (q_t := q_t) (Q_t := Q_t) hc8) lk_V_9_268 okN_X9_faultOf ⟨Nat.le_of_ble_eq_true rfl, Nat.le_of_ble_eq_true rfl⟩ ⟨rfl, rfl⟩ (preV (preR hK hP) (recvOf hK hP 0 rfl (ci := 9) rfl)) hl.1 rfl (Nat.le_of_ble_eq_true rfl) dX9_isOpen_22 ⟨Nat.le_of_ble_eq_true rfl, Nat.le_of_ble_eq_true rfl⟩) ?_
      refine lv_iconst (v := 4) hx hb dX9_isOpen_25 (by decide) ?_
      obtain ⟨r11, hc10, h⟩ := bd_some h
      refine cRi (runV (As := [.int r9, .int 4]) (rest := []) C (mX9_faultOf l D a (q_t := q_t) (Q_t := Q_t) hc10) lk_V_9_268 okN_X9_faultOf ⟨Nat.le_of_ble_eq_true rfl, Nat.le_of_ble_eq_true rfl⟩ ⟨rfl, rfl⟩ (preV (preR hK hP) (recvOf hK hP 0 rfl (ci := 9) rfl)) hl.1 rfl (Nat.le_of_ble_eq_true rfl) dX9_isOpen_26 ⟨Nat.le_of_ble_eq_true rfl, Nat.le_of_ble_eq_true rfl⟩) ?_
      refine lv_if_le (tgt := 36) hx hb dX9_isOpen_29 (by decide) (fun c12 => ?_) (fun c12 => ?_)
      · have h := ite_t c12 h
        refine lv_iconst (v := 0) hx hb dX9_isOpen_36 (by decide) ?_
        exact rRz C rfl (Or.inl rfl) (Option.some.inj h) dX9_isOpen_37
      · have h := ite_f c12 h
        exact hJ6 ls h (lv_sub hl [] rfl)

set_option maxHeartbeats 4000000 in
set_option maxRecDepth 100000 in
theorem mX9_canLook (l : Launch) (D : va_G) (a : Nat → ClassId) {q_t : Nat} {Q_t : Nat → Nat} {z_t : Sx} {x1 : Int32} {y : Int32} (h : fX9_canLook z_t x1 = some y) : CRi l MX9_canLook 2 43 D a [.ref q_t, .int x1] (rc9 a q_t Q_t z_t) (fun r => r = y) := by
  unfold fX9_canLook at h
  refine entR (by decide) (Nat.le_of_ble_eq_true rfl) ?_
  intro p e s m below meth c C hK hP ls hl
  obtain ⟨hx, hb, hml, hown, hts, hr, hlocks, hnm⟩ := id C
  have hb : c.code = cX9_canLook := hb
  have hown : s.vm.findClass RX9 = some m.cls := hown
  have hl : lv_has ls 2 [(0, .ref q_t), (1, .int x1)] := hl
  refine lv_aload_n hx hb dX9_canLook_0 rfl (lv_at hl 0 rfl) ?_
  refine lv_iload_n hx hb dX9_canLook_1 rfl (lv_at hl 1 rfl) ?_
  obtain ⟨r2, hc1, h⟩ := bd_some h
  refine cRi (runV (As := [.int x1]) (rest := []) C (mX9_isOpen l D a (q_t := q_t) (Q_t := Q_t) hc1) lk_V_9_272 okN_X9_isOpen ⟨Nat.le_of_ble_eq_true rfl, Nat.le_of_ble_eq_true rfl⟩ ⟨rfl, rfl⟩ (preV (preR hK hP) (recvOf hK hP 0 rfl (ci := 9) rfl)) hl.1 rfl (Nat.le_of_ble_eq_true rfl) dX9_canLook_2 ⟨Nat.le_of_ble_eq_true rfl, Nat.le_of_ble_eq_true rfl⟩) ?_
  refine lv_if_eq (tgt := 27) hx hb dX9_canLook_5 (by decide) (fun c3 => ?_) (fun c3 => ?_)
  · have h := ite_t c3 h
    refine lv_iconst (v := 0) hx hb dX9_canLook_27 (by decide) ?_
    exact rRz C rfl (Or.inl rfl) (Option.some.inj h) dX9_canLook_28
  · have h := ite_f c3 h
    refine lv_aload_n hx hb dX9_canLook_8 rfl (lv_at hl 0 rfl) ?_
    refine lv_iload_n hx hb dX9_canLook_9 rfl (lv_at hl 1 rfl) ?_
    refine lv_iconst (v := 1) hx hb dX9_canLook_10 (by decide) ?_
    obtain ⟨r5, hc4, h⟩ := bd_some h
    refine cRi (runV (As := [.int x1, .int 1]) (rest := []) C (mX9_faultOf l D a (q_t := q_t) (Q_t := Q_t) hc4) lk_V_9_268 okN_X9_faultOf ⟨Nat.le_of_ble_eq_true rfl, Nat.le_of_ble_eq_true rfl⟩ ⟨rfl, rfl⟩ (preV (preR hK hP) (recvOf hK hP 0 rfl (ci := 9) rfl)) hl.1 rfl (Nat.le_of_ble_eq_true rfl) dX9_canLook_11 ⟨Nat.le_of_ble_eq_true rfl, Nat.le_of_ble_eq_true rfl⟩) ?_
    refine lv_aload_n hx hb dX9_canLook_14 rfl (lv_at hl 0 rfl) ?_
    refine va_get (D := D) (v := .ref (Q_t 24)) (C := RX9) (T := TX9) (N := 36) hx hb hts iX9 hown hK.1 hP 0 rfl rfl 24 (by decide) (hts _ t_906) (fun _ h9 => h9) rfl dX9_canLook_15 ?_
    refine lv_iconst (v := 3) hx hb dX9_canLook_18 (by decide) ?_
    refine ald_i hx hb hK.1 hP 11 0 rfl rfl 3 (ix_lit (by decide)) dX9_canLook_19 ?_
    refine lv_icmp_gt (tgt := 27) hx hb dX9_canLook_20 (by decide) (fun c6 => ?_) (fun c6 => ?_)
    · have h := ite_t c6 h
      refine lv_iconst (v := 0) hx hb dX9_canLook_27 (by decide) ?_
      exact rRz C rfl (Or.inl rfl) (Option.some.inj h) dX9_canLook_28
    · have h := ite_f c6 h
      refine lv_iconst (v := 1) hx hb dX9_canLook_23 (by decide) ?_
      refine lv_goto (tgt := 28) hx hb dX9_canLook_24 (by decide) ?_
      exact rRz C rfl (Or.inr rfl) (Option.some.inj h) dX9_canLook_28

set_option maxHeartbeats 4000000 in
set_option maxRecDepth 100000 in
theorem wX9_triesNext_10 {p : Program} {l : Launch} {e : Env} {s : State} {m : MethodId} {below : List Frame} {meth : Method} {c : Code} {D : va_G} {a : Nat → ClassId} {A : Nat → Prop} {q_t : Nat} {Q_t : Nat → Nat} {x10 : Int32} {x1 : Int32} (C : Cx p s m #[.ref q_t, .int x10] meth c MX9_triesNext) (hK : KK D a s) (hA : ∀ q, s.heap.size ≤ q → A q) {y : Int32 × Sx} {k51 : Sx → Option (Int32 × Sx)} (hk51 : ∀ (z_tk : Sx) (H : Heap) (locs : List Loc) (ls : Array Slot), k51 z_tk = some y → va_P D classes (rc9 a q_t Q_t z_tk) H → va_D A (rc9 a q_t Q_t z_tk) → va_S A s.heap H locs → lv_has ls 2 [(0, .ref q_t), (1, .int x1)] → W p l e (rmM 3 0 0 64) s m #[.ref q_t, .int x10] below meth c H locs 0 0 (MQ below (va_Qi (fun r (_ : Unit) => r = y.1) (Bw D A (fun _ => rc9 a q_t Q_t y.2)) A) #[.ref q_t, .int x10] s 0 0 A) (F0 m 51 ls [])) : ∀ (n : Nat) (z_t : Sx) (H : Heap) (locs : List Loc) (ls : Array Slot), lX9_triesNext_10 k51 x1 n z_t = some y → va_P D classes (rc9 a q_t Q_t z_t) H → va_D A (rc9 a q_t Q_t z_t) → va_S A s.heap H locs → lv_has ls 2 [(0, .ref q_t), (1, .int x1)] → W p l e (rmM 3 0 0 64) s m #[.ref q_t, .int x10] below meth c H locs 0 0 (MQ below (va_Qi (fun r (_ : Unit) => r = y.1) (Bw D A (fun _ => rc9 a q_t Q_t y.2)) A) #[.ref q_t, .int x10] s 0 0 A) (F0 m 10 ls []) := by
  obtain ⟨hx, hb, hml, hown, hts, hr, hlocks, hnm⟩ := id C
  have hb : c.code = cX9_triesNext := hb
  have hown : s.vm.findClass RX9 = some m.cls := hown
  intro n
  induction n with
  | zero => intro z_t H locs ls h; rw [lX9_triesNext_10] at h; cases h
  | succ n ih =>
    intro z_t H locs ls h hP hD hS hl
    rw [lX9_triesNext_10] at h
    refine lv_aload_n hx hb dX9_triesNext_10 rfl (lv_at hl 0 rfl) ?_
    refine va_get (D := D) (v := .ref (Q_t 26)) (C := RX9) (T := TX9) (N := 36) hx hb hts iX9 hown hK.1 hP 0 rfl rfl 26 (by decide) (hts _ t_908) (fun _ h9 => h9) rfl dX9_triesNext_11 ?_
    refine lv_iload_n hx hb dX9_triesNext_14 rfl (lv_at hl 1 rfl) ?_
    obtain ⟨g2, h⟩ := gd_some h
    refine ald_i hx hb hK.1 hP 13 0 rfl rfl x1.toNatClampNeg (ix_g g2) dX9_triesNext_15 ?_
    refine lv_aload_n hx hb dX9_triesNext_16 rfl (lv_at hl 0 rfl) ?_
    refine va_get (D := D) (v := .ref (Q_t 24)) (C := RX9) (T := TX9) (N := 36) hx hb hts iX9 hown hK.1 hP 0 rfl rfl 24 (by decide) (hts _ t_906) (fun _ h9 => h9) rfl dX9_triesNext_17 ?_
    refine lv_iconst (v := 0) hx hb dX9_triesNext_20 (by decide) ?_
    refine ald_i hx hb hK.1 hP 11 0 rfl rfl 0 (ix_lit (by decide)) dX9_triesNext_21 ?_
    refine lv_icmp_ge (tgt := 51) hx hb dX9_triesNext_22 (by decide) (fun c3 => ?_) (fun c3 => ?_)
    · have h := ite_t c3 h
      exact hk51 z_t _ _ ls h hP hD hS (lv_sub hl [0, 1] rfl)
    · have h := ite_f c3 h
      refine lv_aload_n hx hb dX9_triesNext_25 rfl (lv_at hl 0 rfl) ?_
      refine lv_aload_n hx hb dX9_triesNext_26 rfl (lv_at hl 0 rfl) ?_
      refine va_get (D := D) (v := .ref (Q_t 26)) (C := RX9) (T := TX9) (N := 36) hx hb hts iX9 hown hK.1 hP 0 rfl rfl 26 (by decide) (hts _ t_908) (fun _ h9 => h9) rfl dX9_triesNext_27 ?_
      refine lv_iload_n hx hb dX9_triesNext_30 rfl (lv_at hl 1 rfl) ?_
      refine ald_i hx hb hK.1 hP 13 0 rfl rfl x1.toNatClampNeg (ix_g g2) dX9_triesNext_31 ?_
      obtain ⟨r5, hc4, h⟩ := bd_some h
      refine cRi (runV (As := [.int (gT z_t 26 x1.toNatClampNeg)]) (rest := []) C (mX9_canLook l D a (q_t := q_t) (Q_t := Q_t) hc4) lk_V_9_295 okN_X9_canLook ⟨Nat.le_of_ble_eq_true rfl, Nat.le_of_ble_eq_true rfl⟩ ⟨rfl, rfl⟩ (preV (preR hK hP) (recvOf hK hP 0 rfl (ci := 9) rfl)) hl.1 rfl (Nat.le_of_ble_eq_true rfl) dX9_triesNext_32 ⟨Nat.le_of_ble_eq_true rfl, Nat.le_of_ble_eq_true rfl⟩) ?_
      refine lv_if_ne (tgt := 51) hx hb dX9_triesNext_35 (by decide) (fun c6 => ?_) (fun c6 => ?_)
      · have h := ite_f c6 h
        exact hk51 z_t _ _ ls h hP hD hS (lv_sub hl [0, 1] rfl)
      · have h := ite_t c6 h
        refine lv_aload_n hx hb dX9_triesNext_38 rfl (lv_at hl 0 rfl) ?_
        refine va_get (D := D) (v := .ref (Q_t 26)) (C := RX9) (T := TX9) (N := 36) hx hb hts iX9 hown hK.1 hP 0 rfl rfl 26 (by decide) (hts _ t_908) (fun _ h9 => h9) rfl dX9_triesNext_39 ?_
        refine lv_iload_n hx hb dX9_triesNext_42 rfl (lv_at hl 1 rfl) ?_
        refine lv_dup2_11 hx hb dX9_triesNext_43 rfl rfl ?_
        refine ald_i hx hb hK.1 hP 13 0 rfl rfl x1.toNatClampNeg (ix_g g2) dX9_triesNext_44 ?_
        refine lv_iconst (v := 1) hx hb dX9_triesNext_45 (by decide) ?_
        refine lv_iadd hx hb dX9_triesNext_46 ?_
        refine ast_i hx hb hK.1 hP hD hS 13 0 rfl rfl x1.toNatClampNeg (ix_g g2) dX9_triesNext_47 (fun H locs hP hD hS => ?_)
        rw [u9_26] at hP hD
        refine lv_goto (tgt := 10) hx hb dX9_triesNext_48 (by decide) ?_
        exact ih (sT z_t 26 x1.toNatClampNeg ((gT z_t 26 x1.toNatClampNeg) + 1)) _ _ ls h hP hD hS (lv_sub hl [0, 1] rfl)

set_option maxHeartbeats 4000000 in
set_option maxRecDepth 100000 in
theorem mX9_triesNext (l : Launch) (D : va_G) (a : Nat → ClassId) {q_t : Nat} {Q_t : Nat → Nat} {z_t : Sx} {x1 : Int32} {y : Int32 × Sx} (h : fX9_triesNext z_t x1 = some y) (sz : Nat) : CMi (S := Unit) l MX9_triesNext 3 64 0 0 D a [.ref q_t, .int x1] (rc9 a q_t Q_t z_t) sz (fun r _ => r = y.1) (fun _ => rc9 a q_t Q_t y.2) := by
  unfold fX9_triesNext at h
  refine entMi (by decide) (Nat.le_of_ble_eq_true rfl) ?_
  intro p e s m below meth c C hK A hA hP hD ls hl
  obtain ⟨hx, hb, hml, hown, hts, hr, hlocks, hnm⟩ := id C
  have hb : c.code = cX9_triesNext := hb
  have hown : s.vm.findClass RX9 = some m.cls := hown
  have hS : va_S A s.heap s.heap [] := va_S.rf
  have hl : lv_has ls 2 [(0, .ref q_t), (1, .int x1)] := hl
  refine lv_aload_n hx hb dX9_triesNext_0 rfl (lv_at hl 0 rfl) ?_
  refine va_get (D := D) (v := .ref (Q_t 26)) (C := RX9) (T := TX9) (N := 36) hx hb hts iX9 hown hK.1 hP 0 rfl rfl 26 (by decide) (hts _ t_908) (fun _ h9 => h9) rfl dX9_triesNext_1 ?_
  refine lv_iload_n hx hb dX9_triesNext_4 rfl (lv_at hl 1 rfl) ?_
  refine lv_dup2_11 hx hb dX9_triesNext_5 rfl rfl ?_
  obtain ⟨g1, h⟩ := gd_some h
  refine ald_i hx hb hK.1 hP 13 0 rfl rfl x1.toNatClampNeg (ix_g g1) dX9_triesNext_6 ?_
  refine lv_iconst (v := 1) hx hb dX9_triesNext_7 (by decide) ?_
  refine lv_iadd hx hb dX9_triesNext_8 ?_
  refine ast_i hx hb hK.1 hP hD hS 13 0 rfl rfl x1.toNatClampNeg (ix_g g1) dX9_triesNext_9 (fun H locs hP hD hS => ?_)
  rw [u9_26] at hP hD
  refine wX9_triesNext_10 C hK hA ?_ FU (sT z_t 26 x1.toNatClampNeg ((gT z_t 26 x1.toNatClampNeg) + 1)) _ _ ls h hP hD hS (lv_sub hl [0, 1] rfl)
  · intro z7 H locs ls h hP hD hS hl
    refine lv_aload_n hx hb dX9_triesNext_51 rfl (lv_at hl 0 rfl) ?_
    refine va_get (D := D) (v := .ref (Q_t 26)) (C := RX9) (T := TX9) (N := 36) hx hb hts iX9 hown hK.1 hP 0 rfl rfl 26 (by decide) (hts _ t_908) (fun _ h9 => h9) rfl dX9_triesNext_52 ?_
    refine lv_iload_n hx hb dX9_triesNext_55 rfl (lv_at hl 1 rfl) ?_
    refine ald_i hx hb hK.1 hP 13 0 rfl rfl x1.toNatClampNeg (ix_g g1) dX9_triesNext_56 ?_
    refine lv_aload_n hx hb dX9_triesNext_57 rfl (lv_at hl 0 rfl) ?_
    refine va_get (D := D) (v := .ref (Q_t 24)) (C := RX9) (T := TX9) (N := 36) hx hb hts iX9 hown hK.1 hP 0 rfl rfl 24 (by decide) (hts _ t_906) (fun _ h9 => h9) rfl dX9_triesNext_58 ?_
    refine lv_iconst (v := 0) hx hb dX9_triesNext_61 (by decide) ?_
    refine ald_i hx hb hK.1 hP 11 0 rfl rfl 0 (ix_lit (by decide)) dX9_triesNext_62 ?_
    refine lv_icmp_ge (tgt := 70) hx hb dX9_triesNext_63 (by decide) (fun c8 => ?_) (fun c8 => ?_)
    · have h := ite_t c8 h
      refine lv_iconst (v := 0) hx hb dX9_triesNext_70 (by decide) ?_
      exact rMz C rfl (Or.inl rfl) h (g := fun y => rc9 a q_t Q_t y.2) (pr := fun y => y.1) hP hD hS dX9_triesNext_71
    · have h := ite_f c8 h
      refine lv_iconst (v := 1) hx hb dX9_triesNext_66 (by decide) ?_
      refine lv_goto (tgt := 71) hx hb dX9_triesNext_67 (by decide) ?_
      exact rMz C rfl (Or.inr rfl) h (g := fun y => rc9 a q_t Q_t y.2) (pr := fun y => y.1) hP hD hS dX9_triesNext_71

set_option maxHeartbeats 4000000 in
set_option maxRecDepth 100000 in
theorem wX9_goesThrough_10 {p : Program} {l : Launch} {e : Env} {s : State} {m : MethodId} {below : List Frame} {meth : Method} {c : Code} {D : va_G} {a : Nat → ClassId} {A : Nat → Prop} {q_t : Nat} {Q_t : Nat → Nat} {x10 : Int32} {x1 : Int32} (C : Cx p s m #[.ref q_t, .int x10] meth c MX9_goesThrough) (hK : KK D a s) (hA : ∀ q, s.heap.size ≤ q → A q) {y : Sx} : ∀ (n : Nat) (z_t : Sx) (x2 : Int32) (x3 : Int32) (H : Heap) (locs : List Loc) (ls : Array Slot), lX9_goesThrough_10 x1 n z_t x2 x3 = some y → va_P D classes (rc9 a q_t Q_t z_t) H → va_D A (rc9 a q_t Q_t z_t) → va_S A s.heap H locs → lv_has ls 9 [(0, .ref q_t), (1, .int x1), (2, .int x2), (3, .int x3)] → W p l e (rmM 4 0 0 88) s m #[.ref q_t, .int x10] below meth c H locs 0 0 (MQ below (va_Qv (fun (_ : Unit) => True) (Bw D A (fun _ => rc9 a q_t Q_t y)) A) #[.ref q_t, .int x10] s 0 0 A) (F0 m 10 ls []) := by
  obtain ⟨hx, hb, hml, hown, hts, hr, hlocks, hnm⟩ := id C
  have hb : c.code = cX9_goesThrough := hb
  have hown : s.vm.findClass RX9 = some m.cls := hown
  intro n
  induction n with
  | zero => intro z_t x2 x3 H locs ls h; rw [lX9_goesThrough_10] at h; cases h
  | succ n ih =>
    intro z_t x2 x3 H locs ls h hP hD hS hl
    rw [lX9_goesThrough_10] at h
    refine lv_iload_n hx hb dX9_goesThrough_10 rfl (lv_at hl 2 rfl) ?_
    refine lv_if_lt (tgt := 122) hx hb dX9_goesThrough_11 (by decide) (fun c3 => ?_) (fun c3 => ?_)
    · have h := ite_t c3 h
      exact rMv C rfl h (g := fun y => rc9 a q_t Q_t y) hP hD hS dX9_goesThrough_122
    · have h := ite_f c3 h
      refine lv_iload_n hx hb dX9_goesThrough_14 rfl (lv_at hl 2 rfl) ?_
      refine lv_iload_n hx hb dX9_goesThrough_15 rfl (lv_at hl 1 rfl) ?_
      obtain ⟨J4, eJ4, h⟩ := jn_some h
      have hJ4 : ∀ (z5 : Sx) (H : Heap) (locs : List Loc) (ls : Array Slot), J4 z5 = some y → va_P D classes (rc9 a q_t Q_t z5) H → va_D A (rc9 a q_t Q_t z5) → va_S A s.heap H locs → lv_has ls 9 [(0, .ref q_t), (1, .int x1), (2, .int x2)] → W p l e (rmM 4 0 0 88) s m #[.ref q_t, .int x10] below meth c H locs 0 0 (MQ below (va_Qv (fun (_ : Unit) => True) (Bw D A (fun _ => rc9 a q_t Q_t y)) A) #[.ref q_t, .int x10] s 0 0 A) (F0 m 31 ls []) := by
        intro z5 H locs ls h hP hD hS hl
        rw [eJ4] at h
        refine lv_aload_n hx hb dX9_goesThrough_31 rfl (lv_at hl 0 rfl) ?_
        refine va_get (D := D) (v := .ref (Q_t 30)) (C := RX9) (T := TX9) (N := 36) hx hb hts iX9 hown hK.1 hP 0 rfl rfl 30 (by decide) (hts _ t_912) (fun _ h9 => h9) rfl dX9_goesThrough_32 ?_
        refine lv_iload_n hx hb dX9_goesThrough_35 rfl (lv_at hl 2 rfl) ?_
        obtain ⟨g6, h⟩ := gd_some h
        refine ald_l hx hb hK.1 hP 17 1 rfl rfl x2.toNatClampNeg (ix_g g6) dX9_goesThrough_36 ?_
        refine lv_lstore (lv' := [(4, .long (gJ z5 30 x2.toNatClampNeg)), (0, .ref q_t), (1, .int x1), (2, .int x2)]) hx hb dX9_goesThrough_37 hl (by decide) rfl (fun ls hl => ?_)
        refine lv_aload_n hx hb dX9_goesThrough_39 rfl (lv_at hl 1 rfl) ?_
        refine va_get (D := D) (v := .ref (Q_t 31)) (C := RX9) (T := TX9) (N := 36) hx hb hts iX9 hown hK.1 hP 0 rfl rfl 31 (by decide) (hts _ t_913) (fun _ h9 => h9) rfl dX9_goesThrough_40 ?_
        refine lv_iload_n hx hb dX9_goesThrough_43 rfl (lv_at hl 3 rfl) ?_
        refine ald_l hx hb hK.1 hP 18 1 rfl rfl x2.toNatClampNeg (ix_g g6) dX9_goesThrough_44 ?_
        refine lv_lstore (lv' := [(6, .long (gJ z5 31 x2.toNatClampNeg)), (4, .long (gJ z5 30 x2.toNatClampNeg)), (0, .ref q_t), (1, .int x1), (2, .int x2)]) hx hb dX9_goesThrough_45 hl (by decide) rfl (fun ls hl => ?_)
        refine lv_iinc (v := x2 + (-1)) (lv' := [(2, .int (x2 + (-1))), (6, .long (gJ z5 31 x2.toNatClampNeg)), (4, .long (gJ z5 30 x2.toNatClampNeg)), (0, .ref q_t), (1, .int x1)]) hx hb dX9_goesThrough_47 hl (k := 4) rfl rfl (by decide) rfl (fun ls hl => ?_)
        refine lv_iload_n hx hb dX9_goesThrough_50 rfl (lv_at hl 0 rfl) ?_
        refine lv_if_ge (tgt := 55) hx hb dX9_goesThrough_51 (by decide) (fun c7 => ?_) (fun c7 => ?_)
        · have h := ite_t c7 h
          refine lv_aload_n hx hb dX9_goesThrough_55 rfl (lv_at hl 3 rfl) ?_
          refine va_get (D := D) (v := .ref (Q_t 27)) (C := RX9) (T := TX9) (N := 36) hx hb hts iX9 hown hK.1 hP 0 rfl rfl 27 (by decide) (hts _ t_909) (fun _ h9 => h9) rfl dX9_goesThrough_56 ?_
          refine lv_iload_n hx hb dX9_goesThrough_59 rfl (lv_at hl 0 rfl) ?_
          obtain ⟨g8, h⟩ := gd_some h
          refine ald_z hx hb hK.1 hP 14 3 rfl rfl ((x2 + (-1)).toNatClampNeg) (ix_g g8) dX9_goesThrough_60 ?_
          refine lv_istore (lv' := [(8, .int (gT z5 27 ((x2 + (-1)).toNatClampNeg))), (2, .int (x2 + (-1))), (6, .long (gJ z5 31 x2.toNatClampNeg)), (4, .long (gJ z5 30 x2.toNatClampNeg)), (0, .ref q_t), (1, .int x1)]) hx hb dX9_goesThrough_61 hl (by decide) rfl (fun ls hl => ?_)
          refine lv_aload_n hx hb dX9_goesThrough_63 rfl (lv_at hl 4 rfl) ?_
          refine lv_iload_n hx hb dX9_goesThrough_64 rfl (lv_at hl 1 rfl) ?_
          refine lv_iload_n hx hb dX9_goesThrough_65 rfl (lv_at hl 5 rfl) ?_
          refine lv_lload hx hb dX9_goesThrough_66 (lv_at hl 3 rfl) ?_
          refine lv_lload hx hb dX9_goesThrough_68 (lv_at hl 2 rfl) ?_
          obtain ⟨z10, hc9, h⟩ := bd_some h
          refine cWv (runV (As := [.int (x2 + (-1)), .int x1, .long (gJ z5 30 x2.toNatClampNeg), .long (gJ z5 31 x2.toNatClampNeg)]) (rest := []) C (mX9_takes l D a (q_t := q_t) (Q_t := Q_t) hc9 H.size) lk_V_9_384 okN_X9_takes ⟨Nat.le_of_ble_eq_true rfl, Nat.le_of_ble_eq_true rfl⟩ ⟨rfl, rfl⟩ (preV (preM hK hP hD) (recvOf hK hP 0 rfl (ci := 9) rfl)) hl.1 rfl (Nat.le_of_ble_eq_true rfl) dX9_goesThrough_70 ⟨Nat.le_of_ble_eq_true rfl, Nat.le_of_ble_eq_true rfl⟩) hP hD hS hA (fun H locs hP hD hS => ?_)
          have hP : va_P D classes (rc9 a q_t Q_t z10) H := hP
          have hD : va_D A (rc9 a q_t Q_t z10) := hD
          refine lv_iload hx hb dX9_goesThrough_73 (lv_at hl 0 rfl) ?_
          obtain ⟨J11, eJ11, h⟩ := jn_some h
          have hJ11 : ∀ (i12 : Int32) (H : Heap) (locs : List Loc) (ls : Array Slot), J11 i12 = some y → va_P D classes (rc9 a q_t Q_t z10) H → va_D A (rc9 a q_t Q_t z10) → va_S A s.heap H locs → lv_has ls 9 [(0, .ref q_t), (1, .int x1), (2, .int (x2 + (-1)))] → W p l e (rmM 4 0 0 88) s m #[.ref q_t, .int x10] below meth c H locs 0 0 (MQ below (va_Qv (fun (_ : Unit) => True) (Bw D A (fun _ => rc9 a q_t Q_t y)) A) #[.ref q_t, .int x10] s 0 0 A) (F0 m 83 ls [.int i12]) := by
            intro i12 H locs ls h hP hD hS hl
            rw [eJ11] at h
            refine lv_istore_n (lv' := [(3, .int i12), (0, .ref q_t), (1, .int x1), (2, .int (x2 + (-1)))]) hx hb dX9_goesThrough_83 rfl hl (by decide) rfl (fun ls hl => ?_)
            refine lv_iload_n hx hb dX9_goesThrough_84 rfl (lv_at hl 0 rfl) ?_
            refine lv_if_ne (tgt := 10) hx hb dX9_goesThrough_85 (by decide) (fun c13 => ?_) (fun c13 => ?_)
            · have h := ite_f c13 h
              exact ih z10 (x2 + (-1)) i12 _ _ ls h hP hD hS (lv_sub hl [1, 2, 3, 0] rfl)
            · have h := ite_t c13 h
              refine lv_iinc (v := (x2 + (-1)) + 1) (lv' := [(2, .int ((x2 + (-1)) + 1)), (3, .int i12), (0, .ref q_t), (1, .int x1)]) hx hb dX9_goesThrough_88 hl (k := 3) rfl rfl (by decide) rfl (fun ls hl => ?_)
              refine lv_aload_n hx hb dX9_goesThrough_91 rfl (lv_at hl 2 rfl) ?_
              refine lv_iload_n hx hb dX9_goesThrough_92 rfl (lv_at hl 0 rfl) ?_
              refine lv_iload_n hx hb dX9_goesThrough_93 rfl (lv_at hl 3 rfl) ?_
              obtain ⟨z15, hc14, h⟩ := bd_some h
              refine cWv (runV (As := [.int ((x2 + (-1)) + 1), .int x1]) (rest := []) C (mX9_comesTo l D a (q_t := q_t) (Q_t := Q_t) hc14 H.size) lk_V_9_378 okN_X9_comesTo ⟨Nat.le_of_ble_eq_true rfl, Nat.le_of_ble_eq_true rfl⟩ ⟨rfl, rfl⟩ (preV (preM hK hP hD) (recvOf hK hP 0 rfl (ci := 9) rfl)) hl.1 rfl (Nat.le_of_ble_eq_true rfl) dX9_goesThrough_94 ⟨Nat.le_of_ble_eq_true rfl, Nat.le_of_ble_eq_true rfl⟩) hP hD hS hA (fun H locs hP hD hS => ?_)
              have hP : va_P D classes (rc9 a q_t Q_t z15) H := hP
              have hD : va_D A (rc9 a q_t Q_t z15) := hD
              refine lv_iconst (v := 1) hx hb dX9_goesThrough_97 (by decide) ?_
              refine lv_istore_n (lv' := [(3, .int 1), (2, .int ((x2 + (-1)) + 1)), (0, .ref q_t), (1, .int x1)]) hx hb dX9_goesThrough_98 rfl hl (by decide) rfl (fun ls hl => ?_)
              refine lv_goto (tgt := 10) hx hb dX9_goesThrough_99 (by decide) ?_
              exact ih z15 ((x2 + (-1)) + 1) 1 _ _ ls h hP hD hS (lv_sub hl [2, 3, 1, 0] rfl)
          refine lv_if_ne (tgt := 82) hx hb dX9_goesThrough_75 (by decide) (fun c16 => ?_) (fun c16 => ?_)
          · have h := ite_f c16 h
            refine lv_iconst (v := 0) hx hb dX9_goesThrough_82 (by decide) ?_
            exact hJ11 0 _ _ ls h hP hD hS (lv_sub hl [4, 5, 1] rfl)
          · have h := ite_t c16 h
            refine lv_iconst (v := 1) hx hb dX9_goesThrough_78 (by decide) ?_
            refine lv_goto (tgt := 83) hx hb dX9_goesThrough_79 (by decide) ?_
            exact hJ11 1 _ _ ls h hP hD hS (lv_sub hl [4, 5, 1] rfl)
        · have h := ite_f c7 h
          exact rMv C rfl h (g := fun y => rc9 a q_t Q_t y) hP hD hS dX9_goesThrough_54
      refine lv_icmp_eq (tgt := 31) hx hb dX9_goesThrough_16 (by decide) (fun c17 => ?_) (fun c17 => ?_)
      · have h := ite_t c17 h
        exact hJ4 z_t _ _ ls h hP hD hS (lv_sub hl [0, 1, 2] rfl)
      · have h := ite_f c17 h
        refine lv_iload_n hx hb dX9_goesThrough_19 rfl (lv_at hl 3 rfl) ?_
        obtain ⟨J18, eJ18, h⟩ := jn_some h
        have hJ18 : ∀ (z19 : Sx) (H : Heap) (locs : List Loc) (ls : Array Slot), J18 z19 = some y → va_P D classes (rc9 a q_t Q_t z19) H → va_D A (rc9 a q_t Q_t z19) → va_S A s.heap H locs → lv_has ls 9 [(0, .ref q_t), (1, .int x1), (2, .int x2)] → W p l e (rmM 4 0 0 88) s m #[.ref q_t, .int x10] below meth c H locs 0 0 (MQ below (va_Qv (fun (_ : Unit) => True) (Bw D A (fun _ => rc9 a q_t Q_t y)) A) #[.ref q_t, .int x10] s 0 0 A) (F0 m 102 ls []) := by
          intro z19 H locs ls h hP hD hS hl
          rw [eJ18] at h
          refine lv_aload_n hx hb dX9_goesThrough_102 rfl (lv_at hl 0 rfl) ?_
          refine lv_iload_n hx hb dX9_goesThrough_103 rfl (lv_at hl 2 rfl) ?_
          refine lv_iconst (v := 1) hx hb dX9_goesThrough_104 (by decide) ?_
          obtain ⟨z21, hc20, h⟩ := bd_some h
          refine cWv (runV (As := [.int x2, .int 1]) (rest := []) C (mX9_triesAs l D a (q_t := q_t) (Q_t := Q_t) hc20 H.size) lk_V_9_374 okN_X9_triesAs ⟨Nat.le_of_ble_eq_true rfl, Nat.le_of_ble_eq_true rfl⟩ ⟨rfl, rfl⟩ (preV (preM hK hP hD) (recvOf hK hP 0 rfl (ci := 9) rfl)) hl.1 rfl (Nat.le_of_ble_eq_true rfl) dX9_goesThrough_105 ⟨Nat.le_of_ble_eq_true rfl, Nat.le_of_ble_eq_true rfl⟩) hP hD hS hA (fun H locs hP hD hS => ?_)
          have hP : va_P D classes (rc9 a q_t Q_t z21) H := hP
          have hD : va_D A (rc9 a q_t Q_t z21) := hD
          refine lv_iinc (v := x2 + 1) (lv' := [(2, .int (x2 + 1)), (0, .ref q_t), (1, .int x1)]) hx hb dX9_goesThrough_108 hl (k := 2) rfl rfl (by decide) rfl (fun ls hl => ?_)
          refine lv_aload_n hx hb dX9_goesThrough_111 rfl (lv_at hl 1 rfl) ?_
          refine lv_iload_n hx hb dX9_goesThrough_112 rfl (lv_at hl 0 rfl) ?_
          refine lv_iload_n hx hb dX9_goesThrough_113 rfl (lv_at hl 2 rfl) ?_
          obtain ⟨z23, hc22, h⟩ := bd_some h
          refine cWv (runV (As := [.int (x2 + 1), .int x1]) (rest := []) C (mX9_comesTo l D a (q_t := q_t) (Q_t := Q_t) hc22 H.size) lk_V_9_378 okN_X9_comesTo ⟨Nat.le_of_ble_eq_true rfl, Nat.le_of_ble_eq_true rfl⟩ ⟨rfl, rfl⟩ (preV (preM hK hP hD) (recvOf hK hP 0 rfl (ci := 9) rfl)) hl.1 rfl (Nat.le_of_ble_eq_true rfl) dX9_goesThrough_114 ⟨Nat.le_of_ble_eq_true rfl, Nat.le_of_ble_eq_true rfl⟩) hP hD hS hA (fun H locs hP hD hS => ?_)
          have hP : va_P D classes (rc9 a q_t Q_t z23) H := hP
          have hD : va_D A (rc9 a q_t Q_t z23) := hD
          refine lv_iconst (v := 1) hx hb dX9_goesThrough_117 (by decide) ?_
          refine lv_istore_n (lv' := [(3, .int 1), (2, .int (x2 + 1)), (0, .ref q_t), (1, .int x1)]) hx hb dX9_goesThrough_118 rfl hl (by decide) rfl (fun ls hl => ?_)
          refine lv_goto (tgt := 10) hx hb dX9_goesThrough_119 (by decide) ?_
          exact ih z23 (x2 + 1) 1 _ _ ls h hP hD hS (lv_sub hl [2, 3, 1, 0] rfl)
        refine lv_if_eq (tgt := 102) hx hb dX9_goesThrough_20 (by decide) (fun c24 => ?_) (fun c24 => ?_)
        · have h := ite_t c24 h
          exact hJ18 z_t _ _ ls h hP hD hS (lv_sub hl [0, 1, 2] rfl)
        · have h := ite_f c24 h
          refine lv_aload_n hx hb dX9_goesThrough_23 rfl (lv_at hl 0 rfl) ?_
          refine lv_iload_n hx hb dX9_goesThrough_24 rfl (lv_at hl 2 rfl) ?_
          obtain ⟨r26, z27, hc25, h⟩ := bd2_some h
          refine cWi (runV (As := [.int x2]) (rest := []) C (mX9_triesNext l D a (q_t := q_t) (Q_t := Q_t) hc25 H.size) lk_V_9_381 okN_X9_triesNext ⟨Nat.le_of_ble_eq_true rfl, Nat.le_of_ble_eq_true rfl⟩ ⟨rfl, rfl⟩ (preV (preM hK hP hD) (recvOf hK hP 0 rfl (ci := 9) rfl)) hl.1 rfl (Nat.le_of_ble_eq_true rfl) dX9_goesThrough_25 ⟨Nat.le_of_ble_eq_true rfl, Nat.le_of_ble_eq_true rfl⟩) hP hD hS hA (fun H locs hP hD hS => ?_)
          have hP : va_P D classes (rc9 a q_t Q_t z27) H := hP
          have hD : va_D A (rc9 a q_t Q_t z27) := hD
          refine lv_if_ne (tgt := 102) hx hb dX9_goesThrough_28 (by decide) (fun c28 => ?_) (fun c28 => ?_)
          · have h := ite_f c28 h
            exact hJ18 z27 _ _ ls h hP hD hS (lv_sub hl [0, 1, 2] rfl)
          · have h := ite_t c28 h
            exact hJ4 z27 _ _ ls h hP hD hS (lv_sub hl [0, 1, 2] rfl)

set_option maxHeartbeats 4000000 in
set_option maxRecDepth 100000 in
theorem mX9_goesThrough (l : Launch) (D : va_G) (a : Nat → ClassId) {q_t : Nat} {Q_t : Nat → Nat} {z_t : Sx} {x1 : Int32} {y : Sx} (h : fX9_goesThrough z_t x1 = some y) (sz : Nat) : CMv (S := Unit) l MX9_goesThrough 4 88 0 0 D a [.ref q_t, .int x1] (rc9 a q_t Q_t z_t) sz (fun _ => True) (fun _ => rc9 a q_t Q_t y) := by
  unfold fX9_goesThrough at h
  refine entMv (by decide) (Nat.le_of_ble_eq_true rfl) ?_
  intro p e s m below meth c C hK A hA hP hD ls hl
  obtain ⟨hx, hb, hml, hown, hts, hr, hlocks, hnm⟩ := id C
  have hb : c.code = cX9_goesThrough := hb
  have hown : s.vm.findClass RX9 = some m.cls := hown
  have hS : va_S A s.heap s.heap [] := va_S.rf
  have hl : lv_has ls 9 [(0, .ref q_t), (1, .int x1)] := hl
  refine lv_iconst (v := 0) hx hb dX9_goesThrough_0 (by decide) ?_
  refine lv_istore_n (lv' := [(2, .int 0), (0, .ref q_t), (1, .int x1)]) hx hb dX9_goesThrough_1 rfl hl (by decide) rfl (fun ls hl => ?_)
  refine lv_aload_n hx hb dX9_goesThrough_2 rfl (lv_at hl 1 rfl) ?_
  refine lv_iconst (v := 0) hx hb dX9_goesThrough_3 (by decide) ?_
  refine lv_iload_n hx hb dX9_goesThrough_4 rfl (lv_at hl 2 rfl) ?_
  obtain ⟨z2, hc1, h⟩ := bd_some h
  refine cWv (runV (As := [.int 0, .int x1]) (rest := []) C (mX9_comesTo l D a (q_t := q_t) (Q_t := Q_t) hc1 s.heap.size) lk_V_9_378 okN_X9_comesTo ⟨Nat.le_of_ble_eq_true rfl, Nat.le_of_ble_eq_true rfl⟩ ⟨rfl, rfl⟩ (preV (preM hK hP hD) (recvOf hK hP 0 rfl (ci := 9) rfl)) hl.1 rfl (Nat.le_of_ble_eq_true rfl) dX9_goesThrough_5 ⟨Nat.le_of_ble_eq_true rfl, Nat.le_of_ble_eq_true rfl⟩) hP hD hS hA (fun H locs hP hD hS => ?_)
  have hP : va_P D classes (rc9 a q_t Q_t z2) H := hP
  have hD : va_D A (rc9 a q_t Q_t z2) := hD
  refine lv_iconst (v := 1) hx hb dX9_goesThrough_8 (by decide) ?_
  refine lv_istore_n (lv' := [(3, .int 1), (2, .int 0), (0, .ref q_t), (1, .int x1)]) hx hb dX9_goesThrough_9 rfl hl (by decide) rfl (fun ls hl => ?_)
  refine wX9_goesThrough_10 C hK hA FU z2 0 1 _ _ ls h hP hD hS (lv_sub hl [2, 3, 1, 0] rfl)

set_option maxHeartbeats 4000000 in
set_option maxRecDepth 100000 in
theorem wX9_putsBack_2 {p : Program} {l : Launch} {e : Env} {s : State} {m : MethodId} {below : List Frame} {meth : Method} {c : Code} {D : va_G} {a : Nat → ClassId} {A : Nat → Prop} {q_t : Nat} {Q_t : Nat → Nat} (C : Cx p s m #[.ref q_t] meth c MX9_putsBack) (hK : KK D a s) (hA : ∀ q, s.heap.size ≤ q → A q) {y : Sx} : ∀ (n : Nat) (z_t : Sx) (x1 : Int32) (H : Heap) (locs : List Loc) (ls : Array Slot), lX9_putsBack_2 n z_t x1 = some y → va_P D classes (rc9 a q_t Q_t z_t) H → va_D A (rc9 a q_t Q_t z_t) → va_S A s.heap H locs → lv_has ls 2 [(0, .ref q_t), (1, .int x1)] → W p l e (rmM 0 0 0 0) s m #[.ref q_t] below meth c H locs 0 0 (MQ below (va_Qv (fun (_ : Unit) => True) (Bw D A (fun _ => rc9 a q_t Q_t y)) A) #[.ref q_t] s 0 0 A) (F0 m 2 ls []) := by
  obtain ⟨hx, hb, hml, hown, hts, hr, hlocks, hnm⟩ := id C
  have hb : c.code = cX9_putsBack := hb
  have hown : s.vm.findClass RX9 = some m.cls := hown
  intro n
  induction n with
  | zero => intro z_t x1 H locs ls h; rw [lX9_putsBack_2] at h; cases h
  | succ n ih =>
    intro z_t x1 H locs ls h hP hD hS hl
    rw [lX9_putsBack_2] at h
    refine lv_iload_n hx hb dX9_putsBack_2 rfl (lv_at hl 1 rfl) ?_
    refine lv_bipush (v := 104) hx hb dX9_putsBack_3 (by decide) ?_
    refine lv_icmp_ge (tgt := 26) hx hb dX9_putsBack_5 (by decide) (fun c1 => ?_) (fun c1 => ?_)
    · have h := ite_t c1 h
      exact rMv C rfl h (g := fun y => rc9 a q_t Q_t y) hP hD hS dX9_putsBack_26
    · have h := ite_f c1 h
      refine lv_aload_n hx hb dX9_putsBack_8 rfl (lv_at hl 0 rfl) ?_
      refine va_get (D := D) (v := .ref (Q_t 24)) (C := RX9) (T := TX9) (N := 36) hx hb hts iX9 hown hK.1 hP 0 rfl rfl 24 (by decide) (hts _ t_906) (fun _ h9 => h9) rfl dX9_putsBack_9 ?_
      refine lv_iload_n hx hb dX9_putsBack_12 rfl (lv_at hl 1 rfl) ?_
      refine lv_aload_n hx hb dX9_putsBack_13 rfl (lv_at hl 0 rfl) ?_
      refine va_get (D := D) (v := .ref (Q_t 25)) (C := RX9) (T := TX9) (N := 36) hx hb hts iX9 hown hK.1 hP 0 rfl rfl 25 (by decide) (hts _ t_907) (fun _ h9 => h9) rfl dX9_putsBack_14 ?_
      refine lv_iload_n hx hb dX9_putsBack_17 rfl (lv_at hl 1 rfl) ?_
      obtain ⟨g2, h⟩ := gd_some h
      refine ald_i hx hb hK.1 hP 12 0 rfl rfl x1.toNatClampNeg (ix_g g2) dX9_putsBack_18 ?_
      refine ast_i hx hb hK.1 hP hD hS 11 0 rfl rfl x1.toNatClampNeg (ix_g g2) dX9_putsBack_19 (fun H locs hP hD hS => ?_)
      rw [u9_24] at hP hD
      refine lv_iinc (v := x1 + 1) (lv' := [(1, .int (x1 + 1)), (0, .ref q_t)]) hx hb dX9_putsBack_20 hl (k := 1) rfl rfl (by decide) rfl (fun ls hl => ?_)
      refine lv_goto (tgt := 2) hx hb dX9_putsBack_23 (by decide) ?_
      exact ih (sT z_t 24 x1.toNatClampNeg (gT z_t 25 x1.toNatClampNeg)) (x1 + 1) _ _ ls h hP hD hS (lv_sub hl [1, 0] rfl)

set_option maxHeartbeats 4000000 in
set_option maxRecDepth 100000 in
theorem mX9_putsBack (l : Launch) (D : va_G) (a : Nat → ClassId) {q_t : Nat} {Q_t : Nat → Nat} {z_t : Sx} {y : Sx} (h : fX9_putsBack z_t = some y) (sz : Nat) : CMv (S := Unit) l MX9_putsBack 0 0 0 0 D a [.ref q_t] (rc9 a q_t Q_t z_t) sz (fun _ => True) (fun _ => rc9 a q_t Q_t y) := by
  unfold fX9_putsBack at h
  refine entMv (by decide) (Nat.le_of_ble_eq_true rfl) ?_
  intro p e s m below meth c C hK A hA hP hD ls hl
  obtain ⟨hx, hb, hml, hown, hts, hr, hlocks, hnm⟩ := id C
  have hb : c.code = cX9_putsBack := hb
  have hown : s.vm.findClass RX9 = some m.cls := hown
  have hS : va_S A s.heap s.heap [] := va_S.rf
  have hl : lv_has ls 2 [(0, .ref q_t)] := hl
  refine lv_iconst (v := 0) hx hb dX9_putsBack_0 (by decide) ?_
  refine lv_istore_n (lv' := [(1, .int 0), (0, .ref q_t)]) hx hb dX9_putsBack_1 rfl hl (by decide) rfl (fun ls hl => ?_)
  refine wX9_putsBack_2 C hK hA FU z_t 0 _ _ ls h hP hD hS (lv_sub hl [1, 0] rfl)

set_option maxHeartbeats 4000000 in
set_option maxRecDepth 100000 in
theorem wX9_divisor_28 {p : Program} {l : Launch} {e : Env} {s : State} {m : MethodId} {below : List Frame} {meth : Method} {c : Code} {D : va_G} {a : Nat → ClassId} {x00 : Int64} {x20 : Int64} (C : Cx p s m #[.long x00, .long x20] meth c MX9_divisor) (hK : KK D a s) {y : Int64} (hP : va_P D classes ([]) s.heap) : ∀ (n : Nat) (x4 : Int64) (x6 : Int64) (ls : Array Slot), lX9_divisor_28 n x4 x6 = some y → lv_has ls 10 [(4, .long x4), (6, .long x6)] → W p l e (rmM 0 0 0 0) s m #[.long x00, .long x20] below meth c s.heap [] 0 0 (MQ below (vp_Sl (fun r => r = y)) #[.long x00, .long x20] s 0 0 (fun _ => False)) (F0 m 28 ls []) := by
  obtain ⟨hx, hb, hml, hown, hts, hr, hlocks, hnm⟩ := id C
  have hb : c.code = cX9_divisor := hb
  have hown : s.vm.findClass RX9 = some m.cls := hown
  intro n
  induction n with
  | zero => intro x4 x6 ls h; rw [lX9_divisor_28] at h; cases h
  | succ n ih =>
    intro x4 x6 ls h hl
    rw [lX9_divisor_28] at h
    refine lv_lload hx hb dX9_divisor_28 (lv_at hl 1 rfl) ?_
    refine lv_lconst (v := 0) hx hb dX9_divisor_30 (by decide) ?_
    refine W.lcmp hx hb dX9_divisor_31 ?_
    refine lv_if_eq (tgt := 53) hx hb dX9_divisor_32 (by decide) (fun c5 => ?_) (fun c5 => ?_)
    · have h := ite_t ((lg_cmp_eq _ _).mp c5) h
      refine lv_lload hx hb dX9_divisor_53 (lv_at hl 0 rfl) ?_
      exact rRl C rfl (Option.some.inj h) dX9_divisor_55
    · have h := ite_f (fun q => c5 ((lg_cmp_eq _ _).mpr q)) h
      refine lv_lload hx hb dX9_divisor_35 (lv_at hl 0 rfl) ?_
      refine lv_lload hx hb dX9_divisor_37 (lv_at hl 1 rfl) ?_
      obtain ⟨g6, h⟩ := gd_some h
      refine lv_lrem hx hb dX9_divisor_39 g6 ?_
      refine lv_lstore (lv' := [(8, .long (x4 - x4 / x6 * x6)), (4, .long x4), (6, .long x6)]) hx hb dX9_divisor_40 hl (by decide) rfl (fun ls hl => ?_)
      refine lv_lload hx hb dX9_divisor_42 (lv_at hl 2 rfl) ?_
      refine lv_lstore (lv' := [(4, .long x6), (8, .long (x4 - x4 / x6 * x6)), (6, .long x6)]) hx hb dX9_divisor_44 hl (by decide) rfl (fun ls hl => ?_)
      refine lv_lload hx hb dX9_divisor_46 (lv_at hl 1 rfl) ?_
      refine lv_lstore (lv' := [(6, .long (x4 - x4 / x6 * x6)), (4, .long x6), (8, .long (x4 - x4 / x6 * x6))]) hx hb dX9_divisor_48 hl (by decide) rfl (fun ls hl => ?_)
      refine lv_goto (tgt := 28) hx hb dX9_divisor_50 (by decide) ?_
      exact ih x6 (x4 - x4 / x6 * x6) ls h (lv_sub hl [1, 0] rfl)

set_option maxHeartbeats 4000000 in
set_option maxRecDepth 100000 in
theorem mX9_divisor (l : Launch) (D : va_G) (a : Nat → ClassId) {x0 : Int64} {x2 : Int64} {y : Int64} (h : fX9_divisor x0 x2 = some y) : CRl l MX9_divisor 0 0 D a [.long x0, .long x2] ([]) (fun r => r = y) := by
  unfold fX9_divisor at h
  refine entR (by decide) (Nat.le_of_ble_eq_true rfl) ?_
  intro p e s m below meth c C hK hP ls hl
  obtain ⟨hx, hb, hml, hown, hts, hr, hlocks, hnm⟩ := id C
  have hb : c.code = cX9_divisor := hb
  have hown : s.vm.findClass RX9 = some m.cls := hown
  have hl : lv_has ls 10 [(0, .long x0), (2, .long x2)] := hl
  refine lv_lload_n hx hb dX9_divisor_0 rfl (lv_at hl 0 rfl) ?_
  refine lv_lconst (v := 0) hx hb dX9_divisor_1 (by decide) ?_
  refine W.lcmp hx hb dX9_divisor_2 ?_
  obtain ⟨J1, eJ1, h⟩ := jn_some h
  have hJ1 : ∀ (i2 : Int64) (ls : Array Slot), J1 i2 = some y → lv_has ls 10 [(2, .long x2)] → W p l e (rmM 0 0 0 0) s m #[.long x0, .long x2] below meth c s.heap [] 0 0 (MQ below (vp_Sl (fun r => r = y)) #[.long x0, .long x2] s 0 0 (fun _ => False)) (F0 m 12 ls [.long i2]) := by
    intro i2 ls h hl
    rw [eJ1] at h
    refine lv_lstore (lv' := [(4, .long i2), (2, .long x2)]) hx hb dX9_divisor_12 hl (by decide) rfl (fun ls hl => ?_)
    refine lv_lload_n hx hb dX9_divisor_14 rfl (lv_at hl 1 rfl) ?_
    refine lv_lconst (v := 0) hx hb dX9_divisor_15 (by decide) ?_
    refine W.lcmp hx hb dX9_divisor_16 ?_
    obtain ⟨J3, eJ3, h⟩ := jn_some h
    have hJ3 : ∀ (i4 : Int64) (ls : Array Slot), J3 i4 = some y → lv_has ls 10 [(4, .long i2)] → W p l e (rmM 0 0 0 0) s m #[.long x0, .long x2] below meth c s.heap [] 0 0 (MQ below (vp_Sl (fun r => r = y)) #[.long x0, .long x2] s 0 0 (fun _ => False)) (F0 m 26 ls [.long i4]) := by
      intro i4 ls h hl
      rw [eJ3] at h
      refine lv_lstore (lv' := [(6, .long i4), (4, .long i2)]) hx hb dX9_divisor_26 hl (by decide) rfl (fun ls hl => ?_)
      refine wX9_divisor_28 C hK hP FU i2 i4 ls h (lv_sub hl [1, 0] rfl)
    refine lv_if_ge (tgt := 25) hx hb dX9_divisor_17 (by decide) (fun c7 => ?_) (fun c7 => ?_)
    · have h := ite_t ((lg_cmp_ge _ _).mp c7) h
      refine lv_lload_n hx hb dX9_divisor_25 rfl (lv_at hl 1 rfl) ?_
      exact hJ3 x2 ls h (lv_sub hl [0] rfl)
    · have h := ite_f (fun q => c7 ((lg_cmp_ge _ _).mpr q)) h
      refine lv_lload_n hx hb dX9_divisor_20 rfl (lv_at hl 1 rfl) ?_
      refine lv_lneg hx hb dX9_divisor_21 ?_
      refine lv_goto (tgt := 26) hx hb dX9_divisor_22 (by decide) ?_
      exact hJ3 (-x2) ls h (lv_sub hl [0] rfl)
  refine lv_if_ge (tgt := 11) hx hb dX9_divisor_3 (by decide) (fun c8 => ?_) (fun c8 => ?_)
  · have h := ite_t ((lg_cmp_ge _ _).mp c8) h
    refine lv_lload_n hx hb dX9_divisor_11 rfl (lv_at hl 0 rfl) ?_
    exact hJ1 x0 ls h (lv_sub hl [1] rfl)
  · have h := ite_f (fun q => c8 ((lg_cmp_ge _ _).mpr q)) h
    refine lv_lload_n hx hb dX9_divisor_6 rfl (lv_at hl 0 rfl) ?_
    refine lv_lneg hx hb dX9_divisor_7 ?_
    refine lv_goto (tgt := 12) hx hb dX9_divisor_8 (by decide) ?_
    exact hJ1 (-x0) ls h (lv_sub hl [1] rfl)

set_option maxHeartbeats 4000000 in
set_option maxRecDepth 100000 in
theorem mX9_partOf (l : Launch) (D : va_G) (a : Nat → ClassId) {q_t : Nat} {x1 : Int64} {x3 : Int64} {x5 : Int32} {y : Int64} (h : fX9_partOf x1 x3 x5 = some y) : CRl l MX9_partOf 1 29 D a [.ref q_t, .long x1, .long x3, .int x5] ([]) (fun r => r = y) := by
  unfold fX9_partOf at h
  refine entR (by decide) (Nat.le_of_ble_eq_true rfl) ?_
  intro p e s m below meth c C hK hP ls hl
  obtain ⟨hx, hb, hml, hown, hts, hr, hlocks, hnm⟩ := id C
  have hb : c.code = cX9_partOf := hb
  have hown : s.vm.findClass RX9 = some m.cls := hown
  have hl : lv_has ls 6 [(0, .ref q_t), (1, .long x1), (3, .long x3), (5, .int x5)] := hl
  refine lv_iload hx hb dX9_partOf_0 (lv_at hl 3 rfl) ?_
  obtain ⟨J1, eJ1, h⟩ := jn_some h
  have hJ1 : ∀ (i2 : Int64) (ls : Array Slot), J1 i2 = some y → lv_has ls 6 [(1, .long x1), (3, .long x3)] → W p l e (rmM 1 0 0 29) s m #[.ref q_t, .long x1, .long x3, .int x5] below meth c s.heap [] 0 0 (MQ below (vp_Sl (fun r => r = y)) #[.ref q_t, .long x1, .long x3, .int x5] s 0 0 (fun _ => False)) (F0 m 10 ls [.long i2]) := by
    intro i2 ls h hl
    rw [eJ1] at h
    refine lv_lload_n hx hb dX9_partOf_10 rfl (lv_at hl 0 rfl) ?_
    refine lv_lload_n hx hb dX9_partOf_11 rfl (lv_at hl 1 rfl) ?_
    obtain ⟨r4, hc3, h⟩ := bd_some h
    refine cRl (runS (As := [.long x1, .long x3]) (rest := [.long i2]) C (mX9_divisor l D a hc3) lk_S_9_358 okN_X9_divisor ⟨Nat.le_of_ble_eq_true rfl, Nat.le_of_ble_eq_true rfl⟩ ⟨rfl, rfl⟩ (preR hK hP) hl.1 rfl (Nat.le_of_ble_eq_true rfl) dX9_partOf_12 ⟨Nat.le_of_ble_eq_true rfl, Nat.le_of_ble_eq_true rfl⟩) ?_
    obtain ⟨g5, h⟩ := gd_some h
    refine lv_ldiv hx hb dX9_partOf_15 g5 ?_
    exact rRl C rfl (Option.some.inj h) dX9_partOf_16
  refine lv_if_ne (tgt := 9) hx hb dX9_partOf_2 (by decide) (fun c6 => ?_) (fun c6 => ?_)
  · have h := ite_f c6 h
    refine lv_lload_n hx hb dX9_partOf_9 rfl (lv_at hl 2 rfl) ?_
    exact hJ1 x3 ls h (lv_sub hl [1, 2] rfl)
  · have h := ite_t c6 h
    refine lv_lload_n hx hb dX9_partOf_5 rfl (lv_at hl 1 rfl) ?_
    refine lv_goto (tgt := 10) hx hb dX9_partOf_6 (by decide) ?_
    exact hJ1 x1 ls h (lv_sub hl [1, 2] rfl)

set_option maxHeartbeats 4000000 in
set_option maxRecDepth 100000 in
theorem mX9_best (l : Launch) (D : va_G) (a : Nat → ClassId) {q_t : Nat} {Q_t : Nat → Nat} {z_t : Sx} {x1 : Int32} {x2 : Int32} {y : Int64 × Sx} (h : fX9_best z_t x1 x2 = some y) (sz : Nat) : CMl (S := Unit) l MX9_best 5 116 0 0 D a [.ref q_t, .int x1, .int x2] (rc9 a q_t Q_t z_t) sz (fun r _ => r = y.1) (fun _ => rc9 a q_t Q_t y.2) := by
  unfold fX9_best at h
  refine entMl (by decide) (Nat.le_of_ble_eq_true rfl) ?_
  intro p e s m below meth c C hK A hA hP hD ls hl
  obtain ⟨hx, hb, hml, hown, hts, hr, hlocks, hnm⟩ := id C
  have hb : c.code = cX9_best := hb
  have hown : s.vm.findClass RX9 = some m.cls := hown
  have hS : va_S A s.heap s.heap [] := va_S.rf
  have hl : lv_has ls 3 [(0, .ref q_t), (1, .int x1), (2, .int x2)] := hl
  refine lv_aload_n hx hb dX9_best_0 rfl (lv_at hl 0 rfl) ?_
  obtain ⟨r2, hc1, h⟩ := bd_some h
  refine cRi (runV (As := []) (rest := []) C (mX9_isWork l D a (q_t := q_t) (Q_t := Q_t) hc1) lk_V_9_301 okN_X9_isWork ⟨Nat.le_of_ble_eq_true rfl, Nat.le_of_ble_eq_true rfl⟩ ⟨rfl, rfl⟩ (preV (preR hK hP) (recvOf hK hP 0 rfl (ci := 9) rfl)) hl.1 rfl (Nat.le_of_ble_eq_true rfl) dX9_best_1 ⟨Nat.le_of_ble_eq_true rfl, Nat.le_of_ble_eq_true rfl⟩) ?_
  refine lv_if_eq (tgt := 31) hx hb dX9_best_4 (by decide) (fun c3 => ?_) (fun c3 => ?_)
  · have h := ite_t c3 h
    refine lv_ldc2 hx hb hown (hts _ t_1287) dX9_best_31 ?_
    exact rMl C rfl h (g := fun y => rc9 a q_t Q_t y.2) (pr := fun y => y.1) hP hD hS dX9_best_34
  · have h := ite_f c3 h
    refine lv_iload_n hx hb dX9_best_7 rfl (lv_at hl 1 rfl) ?_
    refine lv_i2l (v := x1.toInt64) hx hb dX9_best_8 rfl ?_
    refine lv_lconst (v := 0) hx hb dX9_best_9 (by decide) ?_
    refine lv_ldc2 hx hb hown (hts _ t_1319) dX9_best_10 ?_
    obtain ⟨r5, hc4, h⟩ := bd_some h
    refine cRi (runS (As := [.long x1.toInt64, .long 0, .long 5]) (rest := []) C (mX9_in l D a hc4) lk_S_9_118 okN_X9_in ⟨Nat.le_of_ble_eq_true rfl, Nat.le_of_ble_eq_true rfl⟩ ⟨rfl, rfl⟩ (preR hK (P_of_map (wc := []) hP [] rfl)) hl.1 rfl (Nat.le_of_ble_eq_true rfl) dX9_best_13 ⟨Nat.le_of_ble_eq_true rfl, Nat.le_of_ble_eq_true rfl⟩) ?_
    refine lv_if_eq (tgt := 31) hx hb dX9_best_16 (by decide) (fun c6 => ?_) (fun c6 => ?_)
    · have h := ite_t c6 h
      refine lv_ldc2 hx hb hown (hts _ t_1287) dX9_best_31 ?_
      exact rMl C rfl h (g := fun y => rc9 a q_t Q_t y.2) (pr := fun y => y.1) hP hD hS dX9_best_34
    · have h := ite_f c6 h
      refine lv_iload_n hx hb dX9_best_19 rfl (lv_at hl 2 rfl) ?_
      refine lv_i2l (v := x2.toInt64) hx hb dX9_best_20 rfl ?_
      refine lv_lconst (v := 0) hx hb dX9_best_21 (by decide) ?_
      refine lv_ldc2 hx hb hown (hts _ t_1148) dX9_best_22 ?_
      obtain ⟨r8, hc7, h⟩ := bd_some h
      refine cRi (runS (As := [.long x2.toInt64, .long 0, .long 2]) (rest := []) C (mX9_in l D a hc7) lk_S_9_118 okN_X9_in ⟨Nat.le_of_ble_eq_true rfl, Nat.le_of_ble_eq_true rfl⟩ ⟨rfl, rfl⟩ (preR hK (P_of_map (wc := []) hP [] rfl)) hl.1 rfl (Nat.le_of_ble_eq_true rfl) dX9_best_25 ⟨Nat.le_of_ble_eq_true rfl, Nat.le_of_ble_eq_true rfl⟩) ?_
      refine lv_if_ne (tgt := 35) hx hb dX9_best_28 (by decide) (fun c9 => ?_) (fun c9 => ?_)
      · have h := ite_f c9 h
        refine lv_aload_n hx hb dX9_best_35 rfl (lv_at hl 0 rfl) ?_
        obtain ⟨z11, hc10, h⟩ := bd_some h
        refine cWv (runV (As := []) (rest := []) C (mX9_keeps l D a (q_t := q_t) (Q_t := Q_t) hc10 s.heap.size) lk_V_9_343 okN_X9_keeps ⟨Nat.le_of_ble_eq_true rfl, Nat.le_of_ble_eq_true rfl⟩ ⟨rfl, rfl⟩ (preV (preM hK hP hD) (recvOf hK hP 0 rfl (ci := 9) rfl)) hl.1 rfl (Nat.le_of_ble_eq_true rfl) dX9_best_36 ⟨Nat.le_of_ble_eq_true rfl, Nat.le_of_ble_eq_true rfl⟩) hP hD hS hA (fun H locs hP hD hS => ?_)
        have hP : va_P D classes (rc9 a q_t Q_t z11) H := hP
        have hD : va_D A (rc9 a q_t Q_t z11) := hD
        refine lv_aload_n hx hb dX9_best_39 rfl (lv_at hl 0 rfl) ?_
        refine lv_iload_n hx hb dX9_best_40 rfl (lv_at hl 1 rfl) ?_
        obtain ⟨z13, hc12, h⟩ := bd_some h
        refine cWv (runV (As := [.int x1]) (rest := []) C (mX9_goesThrough l D a (q_t := q_t) (Q_t := Q_t) hc12 H.size) lk_V_9_390 okN_X9_goesThrough ⟨Nat.le_of_ble_eq_true rfl, Nat.le_of_ble_eq_true rfl⟩ ⟨rfl, rfl⟩ (preV (preM hK hP hD) (recvOf hK hP 0 rfl (ci := 9) rfl)) hl.1 rfl (Nat.le_of_ble_eq_true rfl) dX9_best_41 ⟨Nat.le_of_ble_eq_true rfl, Nat.le_of_ble_eq_true rfl⟩) hP hD hS hA (fun H locs hP hD hS => ?_)
        have hP : va_P D classes (rc9 a q_t Q_t z13) H := hP
        have hD : va_D A (rc9 a q_t Q_t z13) := hD
        refine lv_aload_n hx hb dX9_best_44 rfl (lv_at hl 0 rfl) ?_
        obtain ⟨z15, hc14, h⟩ := bd_some h
        refine cWv (runV (As := []) (rest := []) C (mX9_putsBack l D a (q_t := q_t) (Q_t := Q_t) hc14 H.size) lk_V_9_346 okN_X9_putsBack ⟨Nat.le_of_ble_eq_true rfl, Nat.le_of_ble_eq_true rfl⟩ ⟨rfl, rfl⟩ (preV (preM hK hP hD) (recvOf hK hP 0 rfl (ci := 9) rfl)) hl.1 rfl (Nat.le_of_ble_eq_true rfl) dX9_best_45 ⟨Nat.le_of_ble_eq_true rfl, Nat.le_of_ble_eq_true rfl⟩) hP hD hS hA (fun H locs hP hD hS => ?_)
        have hP : va_P D classes (rc9 a q_t Q_t z15) H := hP
        have hD : va_D A (rc9 a q_t Q_t z15) := hD
        refine lv_iload_n hx hb dX9_best_48 rfl (lv_at hl 2 rfl) ?_
        refine lv_iconst (v := 2) hx hb dX9_best_49 (by decide) ?_
        refine lv_icmp_ne (tgt := 63) hx hb dX9_best_50 (by decide) (fun c16 => ?_) (fun c16 => ?_)
        · have h := ite_f c16 h
          refine lv_aload_n hx hb dX9_best_63 rfl (lv_at hl 0 rfl) ?_
          refine lv_aload_n hx hb dX9_best_64 rfl (lv_at hl 0 rfl) ?_
          refine va_get (D := D) (v := .ref (Q_t 30)) (C := RX9) (T := TX9) (N := 36) hx hb hts iX9 hown hK.1 hP 0 rfl rfl 30 (by decide) (hts _ t_912) (fun _ h9 => h9) rfl dX9_best_65 ?_
          refine lv_iconst (v := 0) hx hb dX9_best_68 (by decide) ?_
          refine ald_l hx hb hK.1 hP 17 1 rfl rfl 0 (ix_lit (by decide)) dX9_best_69 ?_
          refine lv_aload_n hx hb dX9_best_70 rfl (lv_at hl 0 rfl) ?_
          refine lv_iload_n hx hb dX9_best_71 rfl (lv_at hl 1 rfl) ?_
          obtain ⟨r18, hc17, h⟩ := bd_some h
          refine cRl (runV (As := [.int x1]) (rest := [.long (gJ z15 30 0), .ref q_t]) C (mX9_hundreds l D a (q_t := q_t) hc17) lk_V_9_367 okN_X9_hundreds ⟨Nat.le_of_ble_eq_true rfl, Nat.le_of_ble_eq_true rfl⟩ ⟨rfl, rfl⟩ (preV (preR hK (P_of_map (wc := []) hP [] rfl)) (recvOf hK hP 0 rfl (ci := 9) rfl)) hl.1 rfl (Nat.le_of_ble_eq_true rfl) dX9_best_72 ⟨Nat.le_of_ble_eq_true rfl, Nat.le_of_ble_eq_true rfl⟩) ?_
          refine lv_iload_n hx hb dX9_best_75 rfl (lv_at hl 2 rfl) ?_
          obtain ⟨r20, hc19, h⟩ := bd_some h
          refine cRl (runV (As := [.long (gJ z15 30 0), .long r18, .int x2]) (rest := []) C (mX9_partOf l D a (q_t := q_t) hc19) lk_V_9_370 okN_X9_partOf ⟨Nat.le_of_ble_eq_true rfl, Nat.le_of_ble_eq_true rfl⟩ ⟨rfl, rfl⟩ (preV (preR hK (P_of_map (wc := []) hP [] rfl)) (recvOf hK hP 0 rfl (ci := 9) rfl)) hl.1 rfl (Nat.le_of_ble_eq_true rfl) dX9_best_76 ⟨Nat.le_of_ble_eq_true rfl, Nat.le_of_ble_eq_true rfl⟩) ?_
          exact rMl C rfl h (g := fun y => rc9 a q_t Q_t y.2) (pr := fun y => y.1) hP hD hS dX9_best_79
        · have h := ite_t c16 h
          refine lv_aload_n hx hb dX9_best_53 rfl (lv_at hl 0 rfl) ?_
          refine va_get (D := D) (v := .ref (Q_t 32)) (C := RX9) (T := TX9) (N := 36) hx hb hts iX9 hown hK.1 hP 0 rfl rfl 32 (by decide) (hts _ t_914) (fun _ h9 => h9) rfl dX9_best_54 ?_
          refine lv_iconst (v := 0) hx hb dX9_best_57 (by decide) ?_
          refine ald_i hx hb hK.1 hP 19 0 rfl rfl 0 (ix_lit (by decide)) dX9_best_58 ?_
          refine lv_i2l (v := (gT z15 32 0).toInt64) hx hb dX9_best_59 rfl ?_
          refine lv_goto (tgt := 79) hx hb dX9_best_60 (by decide) ?_
          exact rMl C rfl h (g := fun y => rc9 a q_t Q_t y.2) (pr := fun y => y.1) hP hD hS dX9_best_79
      · have h := ite_t c9 h
        refine lv_ldc2 hx hb hown (hts _ t_1287) dX9_best_31 ?_
        exact rMl C rfl h (g := fun y => rc9 a q_t Q_t y.2) (pr := fun y => y.1) hP hD hS dX9_best_34

set_option maxHeartbeats 4000000 in
set_option maxRecDepth 100000 in
theorem wX9_bits_4 {p : Program} {l : Launch} {e : Env} {s : State} {m : MethodId} {below : List Frame} {meth : Method} {c : Code} {D : va_G} {a : Nat → ClassId} {x00 : Int32} (C : Cx p s m #[.int x00] meth c MX9_bits) (hK : KK D a s) {y : Int32} (hP : va_P D classes ([]) s.heap) : ∀ (n : Nat) (x1 : Int32) (x2 : Int32) (ls : Array Slot), lX9_bits_4 n x1 x2 = some y → lv_has ls 3 [(1, .int x1), (2, .int x2)] → W p l e (rmM 0 0 0 0) s m #[.int x00] below meth c s.heap [] 0 0 (MQ below (vp_Si (fun r => r = y)) #[.int x00] s 0 0 (fun _ => False)) (F0 m 4 ls []) := by
  obtain ⟨hx, hb, hml, hown, hts, hr, hlocks, hnm⟩ := id C
  have hb : c.code = cX9_bits := hb
  have hown : s.vm.findClass RX9 = some m.cls := hown
  intro n
  induction n with
  | zero => intro x1 x2 ls h; rw [lX9_bits_4] at h; cases h
  | succ n ih =>
    intro x1 x2 ls h hl
    rw [lX9_bits_4] at h
    refine lv_iload_n hx hb dX9_bits_4 rfl (lv_at hl 1 rfl) ?_
    refine lv_if_eq (tgt := 20) hx hb dX9_bits_5 (by decide) (fun c1 => ?_) (fun c1 => ?_)
    · have h := ite_t c1 h
      refine lv_iload_n hx hb dX9_bits_20 rfl (lv_at hl 0 rfl) ?_
      exact rRi C rfl (Option.some.inj h) dX9_bits_21
    · have h := ite_f c1 h
      refine lv_iinc (v := x1 + 1) (lv' := [(1, .int (x1 + 1)), (2, .int x2)]) hx hb dX9_bits_8 hl (k := 0) rfl rfl (by decide) rfl (fun ls hl => ?_)
      refine lv_iload_n hx hb dX9_bits_11 rfl (lv_at hl 1 rfl) ?_
      refine lv_iload_n hx hb dX9_bits_12 rfl (lv_at hl 1 rfl) ?_
      refine lv_iconst (v := 1) hx hb dX9_bits_13 (by decide) ?_
      refine lv_isub hx hb dX9_bits_14 ?_
      refine lv_iand hx hb dX9_bits_15 ?_
      refine lv_istore_n (lv' := [(2, .int (x2 &&& (x2 - 1))), (1, .int (x1 + 1))]) hx hb dX9_bits_16 rfl hl (by decide) rfl (fun ls hl => ?_)
      refine lv_goto (tgt := 4) hx hb dX9_bits_17 (by decide) ?_
      exact ih (x1 + 1) (x2 &&& (x2 - 1)) ls h (lv_sub hl [1, 0] rfl)

set_option maxHeartbeats 4000000 in
set_option maxRecDepth 100000 in
theorem mX9_bits (l : Launch) (D : va_G) (a : Nat → ClassId) {x0 : Int32} {y : Int32} (h : fX9_bits x0 = some y) : CRi l MX9_bits 0 0 D a [.int x0] ([]) (fun r => r = y) := by
  unfold fX9_bits at h
  refine entR (by decide) (Nat.le_of_ble_eq_true rfl) ?_
  intro p e s m below meth c C hK hP ls hl
  obtain ⟨hx, hb, hml, hown, hts, hr, hlocks, hnm⟩ := id C
  have hb : c.code = cX9_bits := hb
  have hown : s.vm.findClass RX9 = some m.cls := hown
  have hl : lv_has ls 3 [(0, .int x0)] := hl
  refine lv_iconst (v := 0) hx hb dX9_bits_0 (by decide) ?_
  refine lv_istore_n (lv' := [(1, .int 0), (0, .int x0)]) hx hb dX9_bits_1 rfl hl (by decide) rfl (fun ls hl => ?_)
  refine lv_iload_n hx hb dX9_bits_2 rfl (lv_at hl 1 rfl) ?_
  refine lv_istore_n (lv' := [(2, .int x0), (1, .int 0), (0, .int x0)]) hx hb dX9_bits_3 rfl hl (by decide) rfl (fun ls hl => ?_)
  refine wX9_bits_4 C hK hP FU 0 x0 ls h (lv_sub hl [1, 0] rfl)

set_option maxHeartbeats 4000000 in
set_option maxRecDepth 100000 in
theorem wX9_checks_28 {p : Program} {l : Launch} {e : Env} {s : State} {m : MethodId} {below : List Frame} {meth : Method} {c : Code} {D : va_G} {a : Nat → ClassId} {q_t : Nat} {x10 : Int32} {x20 : Int32} {x1 : Int32} {x2 : Int32} (C : Cx p s m #[.ref q_t, .int x10, .int x20] meth c MX9_checks) (hK : KK D a s) {y : Int32} (hP : va_P D classes ([]) s.heap) : ∀ (n : Nat) (x3 : Int32) (ls : Array Slot), lX9_checks_28 x1 x2 n x3 = some y → lv_has ls 4 [(1, .int x1), (2, .int x2), (3, .int x3)] → W p l e (rmM 1 0 0 25) s m #[.ref q_t, .int x10, .int x20] below meth c s.heap [] 0 0 (MQ below (vp_Si (fun r => r = y)) #[.ref q_t, .int x10, .int x20] s 0 0 (fun _ => False)) (F0 m 28 ls []) := by
  obtain ⟨hx, hb, hml, hown, hts, hr, hlocks, hnm⟩ := id C
  have hb : c.code = cX9_checks := hb
  have hown : s.vm.findClass RX9 = some m.cls := hown
  intro n
  induction n with
  | zero => intro x3 ls h; rw [lX9_checks_28] at h; cases h
  | succ n ih =>
    intro x3 ls h hl
    rw [lX9_checks_28] at h
    refine lv_iload_n hx hb dX9_checks_28 rfl (lv_at hl 0 rfl) ?_
    refine lv_bipush (v := 100) hx hb dX9_checks_29 (by decide) ?_
    refine lv_iload_n hx hb dX9_checks_31 rfl (lv_at hl 2 rfl) ?_
    refine lv_isub hx hb dX9_checks_32 ?_
    refine lv_imul hx hb dX9_checks_33 ?_
    refine lv_iload_n hx hb dX9_checks_34 rfl (lv_at hl 1 rfl) ?_
    refine lv_iload_n hx hb dX9_checks_35 rfl (lv_at hl 2 rfl) ?_
    refine lv_imul hx hb dX9_checks_36 ?_
    refine lv_icmp_le (tgt := 46) hx hb dX9_checks_37 (by decide) (fun c7 => ?_) (fun c7 => ?_)
    · have h := ite_t c7 h
      refine lv_iload_n hx hb dX9_checks_46 rfl (lv_at hl 2 rfl) ?_
      exact rRi C rfl (Option.some.inj h) dX9_checks_47
    · have h := ite_f c7 h
      refine lv_iinc (v := x3 + 1) (lv' := [(3, .int (x3 + 1)), (1, .int x1), (2, .int x2)]) hx hb dX9_checks_40 hl (k := 2) rfl rfl (by decide) rfl (fun ls hl => ?_)
      refine lv_goto (tgt := 28) hx hb dX9_checks_43 (by decide) ?_
      exact ih (x3 + 1) ls h (lv_sub hl [1, 2, 0] rfl)

set_option maxHeartbeats 4000000 in
set_option maxRecDepth 100000 in
theorem mX9_checks (l : Launch) (D : va_G) (a : Nat → ClassId) {q_t : Nat} {x1 : Int32} {x2 : Int32} {y : Int32} (h : fX9_checks x1 x2 = some y) : CRi l MX9_checks 1 25 D a [.ref q_t, .int x1, .int x2] ([]) (fun r => r = y) := by
  unfold fX9_checks at h
  refine entR (by decide) (Nat.le_of_ble_eq_true rfl) ?_
  intro p e s m below meth c C hK hP ls hl
  obtain ⟨hx, hb, hml, hown, hts, hr, hlocks, hnm⟩ := id C
  have hb : c.code = cX9_checks := hb
  have hown : s.vm.findClass RX9 = some m.cls := hown
  have hl : lv_has ls 4 [(0, .ref q_t), (1, .int x1), (2, .int x2)] := hl
  refine lv_iload_n hx hb dX9_checks_0 rfl (lv_at hl 1 rfl) ?_
  refine lv_i2l (v := x1.toInt64) hx hb dX9_checks_1 rfl ?_
  refine lv_lconst (v := 0) hx hb dX9_checks_2 (by decide) ?_
  refine lv_ldc2 hx hb hown (hts _ t_1369) dX9_checks_3 ?_
  obtain ⟨r2, hc1, h⟩ := bd_some h
  refine cRi (runS (As := [.long x1.toInt64, .long 0, .long 9999]) (rest := []) C (mX9_in l D a hc1) lk_S_9_118 okN_X9_in ⟨Nat.le_of_ble_eq_true rfl, Nat.le_of_ble_eq_true rfl⟩ ⟨rfl, rfl⟩ (preR hK hP) hl.1 rfl (Nat.le_of_ble_eq_true rfl) dX9_checks_6 ⟨Nat.le_of_ble_eq_true rfl, Nat.le_of_ble_eq_true rfl⟩) ?_
  refine lv_if_eq (tgt := 24) hx hb dX9_checks_9 (by decide) (fun c3 => ?_) (fun c3 => ?_)
  · have h := ite_t c3 h
    refine lv_iconst (v := (-1)) hx hb dX9_checks_24 (by decide) ?_
    exact rRi C rfl (Option.some.inj h) dX9_checks_25
  · have h := ite_f c3 h
    refine lv_iload_n hx hb dX9_checks_12 rfl (lv_at hl 2 rfl) ?_
    refine lv_i2l (v := x2.toInt64) hx hb dX9_checks_13 rfl ?_
    refine lv_lconst (v := 0) hx hb dX9_checks_14 (by decide) ?_
    refine lv_ldc2 hx hb hown (hts _ t_1369) dX9_checks_15 ?_
    obtain ⟨r5, hc4, h⟩ := bd_some h
    refine cRi (runS (As := [.long x2.toInt64, .long 0, .long 9999]) (rest := []) C (mX9_in l D a hc4) lk_S_9_118 okN_X9_in ⟨Nat.le_of_ble_eq_true rfl, Nat.le_of_ble_eq_true rfl⟩ ⟨rfl, rfl⟩ (preR hK hP) hl.1 rfl (Nat.le_of_ble_eq_true rfl) dX9_checks_18 ⟨Nat.le_of_ble_eq_true rfl, Nat.le_of_ble_eq_true rfl⟩) ?_
    refine lv_if_ne (tgt := 26) hx hb dX9_checks_21 (by decide) (fun c6 => ?_) (fun c6 => ?_)
    · have h := ite_f c6 h
      refine lv_iconst (v := 0) hx hb dX9_checks_26 (by decide) ?_
      refine lv_istore_n (lv' := [(3, .int 0), (0, .ref q_t), (1, .int x1), (2, .int x2)]) hx hb dX9_checks_27 rfl hl (by decide) rfl (fun ls hl => ?_)
      refine wX9_checks_28 C hK hP FU 0 ls h (lv_sub hl [2, 3, 0] rfl)
    · have h := ite_t c6 h
      refine lv_iconst (v := (-1)) hx hb dX9_checks_24 (by decide) ?_
      exact rRi C rfl (Option.some.inj h) dX9_checks_25

set_option maxHeartbeats 4000000 in
set_option maxRecDepth 100000 in
theorem wX9_thatAre_4 {p : Program} {l : Launch} {e : Env} {s : State} {m : MethodId} {below : List Frame} {meth : Method} {c : Code} {D : va_G} {a : Nat → ClassId} {q_t : Nat} {Q_t : Nat → Nat} {z_t : Sx} {x10 : Int32} {x1 : Int32} (C : Cx p s m #[.ref q_t, .int x10] meth c MX9_thatAre) (hK : KK D a s) {y : Int32} (hP : va_P D classes (rc9 a q_t Q_t z_t) s.heap) : ∀ (n : Nat) (x2 : Int32) (x3 : Int32) (ls : Array Slot), lX9_thatAre_4 z_t x1 n x2 x3 = some y → lv_has ls 4 [(0, .ref q_t), (1, .int x1), (2, .int x2), (3, .int x3)] → W p l e (rmM 1 0 0 22) s m #[.ref q_t, .int x10] below meth c s.heap [] 0 0 (MQ below (vp_Si (fun r => r = y)) #[.ref q_t, .int x10] s 0 0 (fun _ => False)) (F0 m 4 ls []) := by
  obtain ⟨hx, hb, hml, hown, hts, hr, hlocks, hnm⟩ := id C
  have hb : c.code = cX9_thatAre := hb
  have hown : s.vm.findClass RX9 = some m.cls := hown
  intro n
  induction n with
  | zero => intro x2 x3 ls h; rw [lX9_thatAre_4] at h; cases h
  | succ n ih =>
    intro x2 x3 ls h hl
    rw [lX9_thatAre_4] at h
    refine lv_iload_n hx hb dX9_thatAre_4 rfl (lv_at hl 3 rfl) ?_
    refine lv_aload_n hx hb dX9_thatAre_5 rfl (lv_at hl 0 rfl) ?_
    refine va_get (D := D) (v := .ref (Q_t 24)) (C := RX9) (T := TX9) (N := 36) hx hb hts iX9 hown hK.1 hP 0 rfl rfl 24 (by decide) (hts _ t_906) (fun _ h9 => h9) rfl dX9_thatAre_6 ?_
    refine lv_iconst (v := 0) hx hb dX9_thatAre_9 (by decide) ?_
    refine ald_i hx hb hK.1 hP 11 0 rfl rfl 0 (ix_lit (by decide)) dX9_thatAre_10 ?_
    refine lv_icmp_ge (tgt := 40) hx hb dX9_thatAre_11 (by decide) (fun c1 => ?_) (fun c1 => ?_)
    · have h := ite_t c1 h
      refine lv_iload_n hx hb dX9_thatAre_40 rfl (lv_at hl 2 rfl) ?_
      exact rRi C rfl (Option.some.inj h) dX9_thatAre_41
    · have h := ite_f c1 h
      refine lv_iload_n hx hb dX9_thatAre_14 rfl (lv_at hl 2 rfl) ?_
      refine lv_aload_n hx hb dX9_thatAre_15 rfl (lv_at hl 0 rfl) ?_
      refine lv_iload_n hx hb dX9_thatAre_16 rfl (lv_at hl 3 rfl) ?_
      refine lv_iconst (v := 4) hx hb dX9_thatAre_17 (by decide) ?_
      obtain ⟨r3, hc2, h⟩ := bd_some h
      refine cRi (runV (As := [.int x3, .int 4]) (rest := [.int x2]) C (mX9_faultOf l D a (q_t := q_t) (Q_t := Q_t) hc2) lk_V_9_268 okN_X9_faultOf ⟨Nat.le_of_ble_eq_true rfl, Nat.le_of_ble_eq_true rfl⟩ ⟨rfl, rfl⟩ (preV (preR hK hP) (recvOf hK hP 0 rfl (ci := 9) rfl)) hl.1 rfl (Nat.le_of_ble_eq_true rfl) dX9_thatAre_18 ⟨Nat.le_of_ble_eq_true rfl, Nat.le_of_ble_eq_true rfl⟩) ?_
      refine lv_iload_n hx hb dX9_thatAre_21 rfl (lv_at hl 1 rfl) ?_
      obtain ⟨J4, eJ4, h⟩ := jn_some h
      have hJ4 : ∀ (i5 : Int32) (i6 : Int32) (ls : Array Slot), J4 i5 i6 = some y → lv_has ls 4 [(0, .ref q_t), (1, .int x1), (3, .int x3)] → W p l e (rmM 1 0 0 22) s m #[.ref q_t, .int x10] below meth c s.heap [] 0 0 (MQ below (vp_Si (fun r => r = y)) #[.ref q_t, .int x10] s 0 0 (fun _ => False)) (F0 m 32 ls [.int i5, .int i6]) := by
        intro i5 i6 ls h hl
        rw [eJ4] at h
        refine lv_ior hx hb dX9_thatAre_32 ?_
        refine lv_istore_n (lv' := [(2, .int (i6 ||| i5)), (0, .ref q_t), (1, .int x1), (3, .int x3)]) hx hb dX9_thatAre_33 rfl hl (by decide) rfl (fun ls hl => ?_)
        refine lv_iinc (v := x3 + 1) (lv' := [(3, .int (x3 + 1)), (2, .int (i6 ||| i5)), (0, .ref q_t), (1, .int x1)]) hx hb dX9_thatAre_34 hl (k := 3) rfl rfl (by decide) rfl (fun ls hl => ?_)
        refine lv_goto (tgt := 4) hx hb dX9_thatAre_37 (by decide) ?_
        exact ih (i6 ||| i5) (x3 + 1) ls h (lv_sub hl [2, 3, 1, 0] rfl)
      refine lv_icmp_ne (tgt := 31) hx hb dX9_thatAre_22 (by decide) (fun c7 => ?_) (fun c7 => ?_)
      · have h := ite_f c7 h
        refine lv_iconst (v := 0) hx hb dX9_thatAre_31 (by decide) ?_
        exact hJ4 0 x2 ls h (lv_sub hl [0, 1, 3] rfl)
      · have h := ite_t c7 h
        refine lv_iconst (v := 1) hx hb dX9_thatAre_25 (by decide) ?_
        refine lv_iload_n hx hb dX9_thatAre_26 rfl (lv_at hl 3 rfl) ?_
        refine lv_ishl hx hb dX9_thatAre_27 ?_
        refine lv_goto (tgt := 32) hx hb dX9_thatAre_28 (by decide) ?_
        exact hJ4 ((1 : Int32) <<< (x3 &&& 31)) x2 ls h (lv_sub hl [0, 1, 3] rfl)

set_option maxHeartbeats 4000000 in
set_option maxRecDepth 100000 in
theorem mX9_thatAre (l : Launch) (D : va_G) (a : Nat → ClassId) {q_t : Nat} {Q_t : Nat → Nat} {z_t : Sx} {x1 : Int32} {y : Int32} (h : fX9_thatAre z_t x1 = some y) : CRi l MX9_thatAre 1 22 D a [.ref q_t, .int x1] (rc9 a q_t Q_t z_t) (fun r => r = y) := by
  unfold fX9_thatAre at h
  refine entR (by decide) (Nat.le_of_ble_eq_true rfl) ?_
  intro p e s m below meth c C hK hP ls hl
  obtain ⟨hx, hb, hml, hown, hts, hr, hlocks, hnm⟩ := id C
  have hb : c.code = cX9_thatAre := hb
  have hown : s.vm.findClass RX9 = some m.cls := hown
  have hl : lv_has ls 4 [(0, .ref q_t), (1, .int x1)] := hl
  refine lv_iconst (v := 0) hx hb dX9_thatAre_0 (by decide) ?_
  refine lv_istore_n (lv' := [(2, .int 0), (0, .ref q_t), (1, .int x1)]) hx hb dX9_thatAre_1 rfl hl (by decide) rfl (fun ls hl => ?_)
  refine lv_iconst (v := 0) hx hb dX9_thatAre_2 (by decide) ?_
  refine lv_istore_n (lv' := [(3, .int 0), (2, .int 0), (0, .ref q_t), (1, .int x1)]) hx hb dX9_thatAre_3 rfl hl (by decide) rfl (fun ls hl => ?_)
  refine wX9_thatAre_4 C hK hP FU 0 0 ls h (lv_sub hl [2, 3, 1, 0] rfl)

set_option maxHeartbeats 4000000 in
set_option maxRecDepth 100000 in
theorem mX9_words (l : Launch) (D : va_G) (a : Nat → ClassId) {q_t : Nat} {Q_t : Nat → Nat} {z_t : Sx} {x1 : Int32} {y : Sx} (h : fX9_words z_t x1 = some y) (sz : Nat) : CMv (S := Unit) l MX9_words 2 45 0 0 D a [.ref q_t, .int x1] (rc9 a q_t Q_t z_t) sz (fun _ => True) (fun _ => rc9 a q_t Q_t y) := by
  unfold fX9_words at h
  refine entMv (by decide) (Nat.le_of_ble_eq_true rfl) ?_
  intro p e s m below meth c C hK A hA hP hD ls hl
  obtain ⟨hx, hb, hml, hown, hts, hr, hlocks, hnm⟩ := id C
  have hb : c.code = cX9_words := hb
  have hown : s.vm.findClass RX9 = some m.cls := hown
  have hS : va_S A s.heap s.heap [] := va_S.rf
  have hl : lv_has ls 2 [(0, .ref q_t), (1, .int x1)] := hl
  refine lv_aload_n hx hb dX9_words_0 rfl (lv_at hl 0 rfl) ?_
  refine va_get (D := D) (v := .ref (Q_t 23)) (C := RX9) (T := TX9) (N := 36) hx hb hts iX9 hown hK.1 hP 0 rfl rfl 23 (by decide) (hts _ t_905) (fun _ h9 => h9) rfl dX9_words_1 ?_
  refine lv_iconst (v := 0) hx hb dX9_words_4 (by decide) ?_
  refine lv_iload_n hx hb dX9_words_5 rfl (lv_at hl 1 rfl) ?_
  refine lv_i2l (v := x1.toInt64) hx hb dX9_words_6 rfl ?_
  refine ast_l hx hb hK.1 hP hD hS 10 1 rfl rfl 0 (ix_lit (by decide)) dX9_words_7 (fun H locs hP hD hS => ?_)
  rw [u9_23] at hP hD
  refine lv_aload_n hx hb dX9_words_8 rfl (lv_at hl 0 rfl) ?_
  refine va_get (D := D) (v := .ref (Q_t 23)) (C := RX9) (T := TX9) (N := 36) hx hb hts iX9 hown hK.1 hP 0 rfl rfl 23 (by decide) (hts _ t_905) (fun _ h9 => h9) rfl dX9_words_9 ?_
  refine lv_iconst (v := 1) hx hb dX9_words_12 (by decide) ?_
  refine lv_aload_n hx hb dX9_words_13 rfl (lv_at hl 0 rfl) ?_
  refine lv_iload_n hx hb dX9_words_14 rfl (lv_at hl 1 rfl) ?_
  refine lv_iconst (v := 0) hx hb dX9_words_15 (by decide) ?_
  obtain ⟨r2, hc1, h⟩ := bd_some h
  refine cRi (runV (As := [.int x1, .int 0]) (rest := [.int 1, .ref (Q_t 23)]) C (mX9_faultOf l D a (q_t := q_t) (Q_t := Q_t) hc1) lk_V_9_268 okN_X9_faultOf ⟨Nat.le_of_ble_eq_true rfl, Nat.le_of_ble_eq_true rfl⟩ ⟨rfl, rfl⟩ (preV (preR hK hP) (recvOf hK hP 0 rfl (ci := 9) rfl)) hl.1 rfl (Nat.le_of_ble_eq_true rfl) dX9_words_16 ⟨Nat.le_of_ble_eq_true rfl, Nat.le_of_ble_eq_true rfl⟩) ?_
  refine lv_i2l (v := r2.toInt64) hx hb dX9_words_19 rfl ?_
  refine ast_l hx hb hK.1 hP hD hS 10 1 rfl rfl 1 (ix_lit (by decide)) dX9_words_20 (fun H locs hP hD hS => ?_)
  rw [u9_23] at hP hD
  refine lv_aload_n hx hb dX9_words_21 rfl (lv_at hl 0 rfl) ?_
  refine va_get (D := D) (v := .ref (Q_t 23)) (C := RX9) (T := TX9) (N := 36) hx hb hts iX9 hown hK.1 hP 0 rfl rfl 23 (by decide) (hts _ t_905) (fun _ h9 => h9) rfl dX9_words_22 ?_
  refine lv_iconst (v := 2) hx hb dX9_words_25 (by decide) ?_
  refine lv_aload_n hx hb dX9_words_26 rfl (lv_at hl 0 rfl) ?_
  refine lv_iload_n hx hb dX9_words_27 rfl (lv_at hl 1 rfl) ?_
  refine lv_iconst (v := 0) hx hb dX9_words_28 (by decide) ?_
  obtain ⟨r4, hc3, h⟩ := bd_some h
  refine cRi (runV (As := [.int x1, .int 0]) (rest := [.int 2, .ref (Q_t 23)]) C (mX9_kindOf l D a (q_t := q_t) (Q_t := Q_t) hc3) lk_V_9_275 okN_X9_kindOf ⟨Nat.le_of_ble_eq_true rfl, Nat.le_of_ble_eq_true rfl⟩ ⟨rfl, rfl⟩ (preV (preR hK hP) (recvOf hK hP 0 rfl (ci := 9) rfl)) hl.1 rfl (Nat.le_of_ble_eq_true rfl) dX9_words_29 ⟨Nat.le_of_ble_eq_true rfl, Nat.le_of_ble_eq_true rfl⟩) ?_
  refine lv_i2l (v := r4.toInt64) hx hb dX9_words_32 rfl ?_
  refine ast_l hx hb hK.1 hP hD hS 10 1 rfl rfl 2 (ix_lit (by decide)) dX9_words_33 (fun H locs hP hD hS => ?_)
  rw [u9_23] at hP hD
  refine lv_aload_n hx hb dX9_words_34 rfl (lv_at hl 0 rfl) ?_
  refine va_get (D := D) (v := .ref (Q_t 23)) (C := RX9) (T := TX9) (N := 36) hx hb hts iX9 hown hK.1 hP 0 rfl rfl 23 (by decide) (hts _ t_905) (fun _ h9 => h9) rfl dX9_words_35 ?_
  refine lv_iconst (v := 3) hx hb dX9_words_38 (by decide) ?_
  refine lv_aload_n hx hb dX9_words_39 rfl (lv_at hl 0 rfl) ?_
  refine lv_iload_n hx hb dX9_words_40 rfl (lv_at hl 1 rfl) ?_
  refine lv_iconst (v := 2) hx hb dX9_words_41 (by decide) ?_
  obtain ⟨r6, hc5, h⟩ := bd_some h
  refine cRi (runV (As := [.int x1, .int 2]) (rest := [.int 3, .ref (Q_t 23)]) C (mX9_faultOf l D a (q_t := q_t) (Q_t := Q_t) hc5) lk_V_9_268 okN_X9_faultOf ⟨Nat.le_of_ble_eq_true rfl, Nat.le_of_ble_eq_true rfl⟩ ⟨rfl, rfl⟩ (preV (preR hK hP) (recvOf hK hP 0 rfl (ci := 9) rfl)) hl.1 rfl (Nat.le_of_ble_eq_true rfl) dX9_words_42 ⟨Nat.le_of_ble_eq_true rfl, Nat.le_of_ble_eq_true rfl⟩) ?_
  refine lv_i2l (v := r6.toInt64) hx hb dX9_words_45 rfl ?_
  refine ast_l hx hb hK.1 hP hD hS 10 1 rfl rfl 3 (ix_lit (by decide)) dX9_words_46 (fun H locs hP hD hS => ?_)
  rw [u9_23] at hP hD
  refine lv_aload_n hx hb dX9_words_47 rfl (lv_at hl 0 rfl) ?_
  refine va_get (D := D) (v := .ref (Q_t 23)) (C := RX9) (T := TX9) (N := 36) hx hb hts iX9 hown hK.1 hP 0 rfl rfl 23 (by decide) (hts _ t_905) (fun _ h9 => h9) rfl dX9_words_48 ?_
  refine lv_iconst (v := 4) hx hb dX9_words_51 (by decide) ?_
  refine lv_aload_n hx hb dX9_words_52 rfl (lv_at hl 0 rfl) ?_
  refine lv_iload_n hx hb dX9_words_53 rfl (lv_at hl 1 rfl) ?_
  refine lv_iconst (v := 1) hx hb dX9_words_54 (by decide) ?_
  obtain ⟨r8, hc7, h⟩ := bd_some h
  refine cRi (runV (As := [.int x1, .int 1]) (rest := [.int 4, .ref (Q_t 23)]) C (mX9_faultOf l D a (q_t := q_t) (Q_t := Q_t) hc7) lk_V_9_268 okN_X9_faultOf ⟨Nat.le_of_ble_eq_true rfl, Nat.le_of_ble_eq_true rfl⟩ ⟨rfl, rfl⟩ (preV (preR hK hP) (recvOf hK hP 0 rfl (ci := 9) rfl)) hl.1 rfl (Nat.le_of_ble_eq_true rfl) dX9_words_55 ⟨Nat.le_of_ble_eq_true rfl, Nat.le_of_ble_eq_true rfl⟩) ?_
  refine lv_i2l (v := r8.toInt64) hx hb dX9_words_58 rfl ?_
  refine ast_l hx hb hK.1 hP hD hS 10 1 rfl rfl 4 (ix_lit (by decide)) dX9_words_59 (fun H locs hP hD hS => ?_)
  rw [u9_23] at hP hD
  refine lv_aload_n hx hb dX9_words_60 rfl (lv_at hl 0 rfl) ?_
  refine va_get (D := D) (v := .ref (Q_t 23)) (C := RX9) (T := TX9) (N := 36) hx hb hts iX9 hown hK.1 hP 0 rfl rfl 23 (by decide) (hts _ t_905) (fun _ h9 => h9) rfl dX9_words_61 ?_
  refine lv_iconst (v := 5) hx hb dX9_words_64 (by decide) ?_
  refine lv_aload_n hx hb dX9_words_65 rfl (lv_at hl 0 rfl) ?_
  refine va_get (D := D) (v := .ref (Q_t 24)) (C := RX9) (T := TX9) (N := 36) hx hb hts iX9 hown hK.1 hP 0 rfl rfl 24 (by decide) (hts _ t_906) (fun _ h9 => h9) rfl dX9_words_66 ?_
  refine lv_iconst (v := 3) hx hb dX9_words_69 (by decide) ?_
  refine ald_i hx hb hK.1 hP 11 0 rfl rfl 3 (ix_lit (by decide)) dX9_words_70 ?_
  refine lv_i2l (v := (gT (sJ (sJ (sJ (sJ (sJ z_t 23 0 x1.toInt64) 23 1 r2.toInt64) 23 2 r4.toInt64) 23 3 r6.toInt64) 23 4 r8.toInt64) 24 3).toInt64) hx hb dX9_words_71 rfl ?_
  refine lv_topl (fun v9 ev9 => ?_)
  have h := nm_some h v9 ev9
  refine ast_l hx hb hK.1 hP hD hS 10 1 rfl rfl 5 (ix_lit (by decide)) dX9_words_72 (fun H locs hP hD hS => ?_)
  rw [u9_23] at hP hD
  refine lv_aload_n hx hb dX9_words_73 rfl (lv_at hl 0 rfl) ?_
  refine va_get (D := D) (v := .ref (Q_t 23)) (C := RX9) (T := TX9) (N := 36) hx hb hts iX9 hown hK.1 hP 0 rfl rfl 23 (by decide) (hts _ t_905) (fun _ h9 => h9) rfl dX9_words_74 ?_
  refine lv_bipush (v := 6) hx hb dX9_words_77 (by decide) ?_
  refine lv_aload_n hx hb dX9_words_79 rfl (lv_at hl 0 rfl) ?_
  refine lv_iconst (v := 1) hx hb dX9_words_80 (by decide) ?_
  obtain ⟨r11, hc10, h⟩ := bd_some h
  refine cRi (runV (As := [.int 1]) (rest := [.int 6, .ref (Q_t 23)]) C (mX9_thatAre l D a (q_t := q_t) (Q_t := Q_t) hc10) lk_V_9_313 okN_X9_thatAre ⟨Nat.le_of_ble_eq_true rfl, Nat.le_of_ble_eq_true rfl⟩ ⟨rfl, rfl⟩ (preV (preR hK hP) (recvOf hK hP 0 rfl (ci := 9) rfl)) hl.1 rfl (Nat.le_of_ble_eq_true rfl) dX9_words_81 ⟨Nat.le_of_ble_eq_true rfl, Nat.le_of_ble_eq_true rfl⟩) ?_
  obtain ⟨r13, hc12, h⟩ := bd_some h
  refine cRi (runS (As := [.int r11]) (rest := [.int 6, .ref (Q_t 23)]) C (mX9_bits l D a hc12) lk_S_9_316 okN_X9_bits ⟨Nat.le_of_ble_eq_true rfl, Nat.le_of_ble_eq_true rfl⟩ ⟨rfl, rfl⟩ (preR hK (P_of_map (wc := []) hP [] rfl)) hl.1 rfl (Nat.le_of_ble_eq_true rfl) dX9_words_84 ⟨Nat.le_of_ble_eq_true rfl, Nat.le_of_ble_eq_true rfl⟩) ?_
  refine lv_i2l (v := r13.toInt64) hx hb dX9_words_87 rfl ?_
  refine ast_l hx hb hK.1 hP hD hS 10 1 rfl rfl 6 (ix_lit (by decide)) dX9_words_88 (fun H locs hP hD hS => ?_)
  rw [u9_23] at hP hD
  refine lv_aload_n hx hb dX9_words_89 rfl (lv_at hl 0 rfl) ?_
  refine va_get (D := D) (v := .ref (Q_t 23)) (C := RX9) (T := TX9) (N := 36) hx hb hts iX9 hown hK.1 hP 0 rfl rfl 23 (by decide) (hts _ t_905) (fun _ h9 => h9) rfl dX9_words_90 ?_
  refine lv_bipush (v := 7) hx hb dX9_words_93 (by decide) ?_
  refine lv_aload_n hx hb dX9_words_95 rfl (lv_at hl 0 rfl) ?_
  refine lv_iload_n hx hb dX9_words_96 rfl (lv_at hl 1 rfl) ?_
  refine lv_iconst (v := 5) hx hb dX9_words_97 (by decide) ?_
  obtain ⟨r15, hc14, h⟩ := bd_some h
  refine cRi (runV (As := [.int x1, .int 5]) (rest := [.int 7, .ref (Q_t 23)]) C (mX9_faultOf l D a (q_t := q_t) (Q_t := Q_t) hc14) lk_V_9_268 okN_X9_faultOf ⟨Nat.le_of_ble_eq_true rfl, Nat.le_of_ble_eq_true rfl⟩ ⟨rfl, rfl⟩ (preV (preR hK hP) (recvOf hK hP 0 rfl (ci := 9) rfl)) hl.1 rfl (Nat.le_of_ble_eq_true rfl) dX9_words_98 ⟨Nat.le_of_ble_eq_true rfl, Nat.le_of_ble_eq_true rfl⟩) ?_
  refine lv_i2l (v := r15.toInt64) hx hb dX9_words_101 rfl ?_
  refine ast_l hx hb hK.1 hP hD hS 10 1 rfl rfl 7 (ix_lit (by decide)) dX9_words_102 (fun H locs hP hD hS => ?_)
  rw [u9_23] at hP hD
  refine lv_aload_n hx hb dX9_words_103 rfl (lv_at hl 0 rfl) ?_
  refine va_get (D := D) (v := .ref (Q_t 23)) (C := RX9) (T := TX9) (N := 36) hx hb hts iX9 hown hK.1 hP 0 rfl rfl 23 (by decide) (hts _ t_905) (fun _ h9 => h9) rfl dX9_words_104 ?_
  refine lv_bipush (v := 8) hx hb dX9_words_107 (by decide) ?_
  refine lv_aload_n hx hb dX9_words_109 rfl (lv_at hl 0 rfl) ?_
  refine va_get (D := D) (v := .ref (Q_t 24)) (C := RX9) (T := TX9) (N := 36) hx hb hts iX9 hown hK.1 hP 0 rfl rfl 24 (by decide) (hts _ t_906) (fun _ h9 => h9) rfl dX9_words_110 ?_
  refine lv_iconst (v := 4) hx hb dX9_words_113 (by decide) ?_
  refine ald_i hx hb hK.1 hP 11 0 rfl rfl 4 (ix_lit (by decide)) dX9_words_114 ?_
  refine lv_i2l (v := (gT (sJ (sJ (sJ (sJ (sJ (sJ (sJ (sJ z_t 23 0 x1.toInt64) 23 1 r2.toInt64) 23 2 r4.toInt64) 23 3 r6.toInt64) 23 4 r8.toInt64) 23 5 v9) 23 6 r13.toInt64) 23 7 r15.toInt64) 24 4).toInt64) hx hb dX9_words_115 rfl ?_
  refine lv_topl (fun v16 ev16 => ?_)
  have h := nm_some h v16 ev16
  refine ast_l hx hb hK.1 hP hD hS 10 1 rfl rfl 8 (ix_lit (by decide)) dX9_words_116 (fun H locs hP hD hS => ?_)
  rw [u9_23] at hP hD
  exact rMv C rfl h (g := fun y => rc9 a q_t Q_t y) hP hD hS dX9_words_117

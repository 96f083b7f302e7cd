def fX8_back_none (z_t : Sx) (B_t_6 : Nat → Option Nat) (x1 : Int32) : Option (Int32) := if x1 < 0 then some (-1) else if x1 < 4 then gd (inb x1 4) (some (-1)) else some (-1)

set_option maxHeartbeats 4000000 in
set_option maxRecDepth 100000 in
theorem mX8_back_none (l : Launch) (D : va_G) (a : Nat → ClassId) {q_t : Nat} {Q_t : Nat → Nat} {z_t : Sx} {B_t_6 : Nat → Option Nat} {x1 : Int32} (hm : B_t_6 x1.toNatClampNeg = none) {y : Int32} (h : fX8_back_none z_t B_t_6 x1 = some y) : CRi l MX8_back 0 0 D a [.ref q_t, .int x1] (rc8 a q_t Q_t z_t ++ (rb5 a (Q_t 6) 4 B_t_6)) (fun r => r = y) := by
  unfold fX8_back_none at h
  refine entR (by decide) (Nat.le_of_ble_eq_true rfl) ?_
  intro p e s m below meth c C hK hP ls hl
  obtain ⟨hx, hb, hml, hown, hts, hr, hlocks, hnm⟩ := id C
  have hb : c.code = cX8_back := hb
  have hown : s.vm.findClass RX8 = some m.cls := hown
  have hl : lv_has ls 3 [(0, .ref q_t), (1, .int x1)] := hl
  refine lv_iload_n hx hb dX8_back_0 rfl (lv_at hl 1 rfl) ?_
  refine lv_if_lt (tgt := 13) hx hb dX8_back_1 (by decide) (fun c1 => ?_) (fun c1 => ?_)
  · have h := ite_t c1 h
    refine lv_iconst (v := (-1)) hx hb dX8_back_13 (by decide) ?_
    exact rRi C rfl (Option.some.inj h) dX8_back_14
  · have h := ite_f c1 h
    refine lv_iload_n hx hb dX8_back_4 rfl (lv_at hl 1 rfl) ?_
    refine lv_aload_n hx hb dX8_back_5 rfl (lv_at hl 0 rfl) ?_
    refine va_get (D := D) (v := .ref (Q_t 6)) (C := RX8) (T := TX8) (N := 11) hx hb hts iX8 hown hK.1 hP 0 rfl rfl 6 (by decide) (hts _ t_306) (fun _ h9 => h9) rfl dX8_back_6 ?_
    refine va_alen (v := 4) hx hb hK.1 hP 2 5 rfl rfl rfl dX8_back_9 ?_
    refine lv_icmp_lt (tgt := 15) hx hb dX8_back_10 (by decide) (fun c2 => ?_) (fun c2 => ?_)
    · have h := ite_t c2 h
      refine lv_aload_n hx hb dX8_back_15 rfl (lv_at hl 0 rfl) ?_
      refine va_get (D := D) (v := .ref (Q_t 6)) (C := RX8) (T := TX8) (N := 11) hx hb hts iX8 hown hK.1 hP 0 rfl rfl 6 (by decide) (hts _ t_306) (fun _ h9 => h9) rfl dX8_back_16 ?_
      refine lv_iload_n hx hb dX8_back_19 rfl (lv_at hl 1 rfl) ?_
      obtain ⟨g3, h⟩ := gd_some h
      refine ald_q hx hb hK.1 hP 2 5 rfl rfl x1.toNatClampNeg (ix_g g3) dX8_back_20 ?_
      rw [hm]
      refine lv_astore_nN (lv' := [(2, .null), (0, .ref q_t), (1, .int x1)]) hx hb dX8_back_21 rfl hl (by decide) rfl (fun ls hl => ?_)
      refine lv_aload_nN hx hb dX8_back_22 rfl (lv_at hl 0 rfl) ?_
      refine lv_ifnonnullN hx hb dX8_back_23 ?_
      refine lv_iconst (v := (-1)) hx hb dX8_back_26 (by decide) ?_
      exact rRi C rfl (Option.some.inj h) dX8_back_27
    · have h := ite_f c2 h
      refine lv_iconst (v := (-1)) hx hb dX8_back_13 (by decide) ?_
      exact rRi C rfl (Option.some.inj h) dX8_back_14

def fX8_back_some (z_t : Sx) (z_t_5 : Sx) (z_t_5_1 : Sx) (B_t_6 : Nat → Option Nat) (z_R : Sx) (z_R_1 : Sx) (x1 : Int32) : Option (Int32 × Sx × Sx) := if x1 < 0 then none else if x1 < 4 then gd (inb x1 4) (bd2 (fX5_copyFrom z_t_5 z_t_5_1 z_R z_R_1) (fun z5 z6 => some (gI z5 4, z5, z6))) else none

set_option maxHeartbeats 4000000 in
set_option maxRecDepth 100000 in
theorem mX8_back_some (l : Launch) (D : va_G) (a : Nat → ClassId) {q_R : Nat} {q_t : Nat} {Q_t : Nat → Nat} {z_t : Sx} {Q_t_5 : Nat → Nat} {z_t_5 : Sx} {Q_t_5_1 : Nat → Nat} {z_t_5_1 : Sx} {B_t_6 : Nat → Option Nat} {Q_R : Nat → Nat} {z_R : Sx} {Q_R_1 : Nat → Nat} {z_R_1 : Sx} {x1 : Int32} (hm : B_t_6 x1.toNatClampNeg = some q_R) {y : Int32 × Sx × Sx} (h : fX8_back_some z_t z_t_5 z_t_5_1 B_t_6 z_R z_R_1 x1 = some y) (sz : Nat) : CMi (S := Unit) l MX8_back 3 102 0 0 D a [.ref q_t, .int x1] (rc8 a q_t Q_t z_t ++ (rc5 a (Q_t 5) Q_t_5 z_t_5 ++ (rc0 a (Q_t_5 1) Q_t_5_1 z_t_5_1 ++ (rb5 a (Q_t 6) 4 B_t_6 ++ (rc5 a q_R Q_R z_R ++ (rc0 a (Q_R 1) Q_R_1 z_R_1)))))) sz (fun r _ => r = y.1) (fun _ => rc8 a q_t Q_t z_t ++ (rc5 a (Q_t 5) (va_up Q_t_5 0 (Q_R 0)) y.2.1 ++ (rc0 a (Q_t_5 1) Q_t_5_1 y.2.2 ++ (rb5 a (Q_t 6) 4 B_t_6 ++ (rc5 a q_R Q_R z_R ++ (rc0 a (Q_R 1) Q_R_1 z_R_1)))))) := by
  unfold fX8_back_some at h
  refine entMi (by decide) (Nat.le_of_ble_eq_true rfl) ?_
  intro p e s m below meth c C hK A hA hP hD ls hl
  obtain ⟨hx, hb, hml, hown, hts, hr, hlocks, hnm⟩ := id C
  have hb : c.code = cX8_back := hb
  have hown : s.vm.findClass RX8 = some m.cls := hown
  have hS : va_S A s.heap s.heap [] := va_S.rf
  have hl : lv_has ls 3 [(0, .ref q_t), (1, .int x1)] := hl
  refine lv_iload_n hx hb dX8_back_0 rfl (lv_at hl 1 rfl) ?_
  refine lv_if_lt (tgt := 13) hx hb dX8_back_1 (by decide) (fun c1 => ?_) (fun c1 => ?_)
  · have h := ite_t c1 h
    cases h
  · have h := ite_f c1 h
    refine lv_iload_n hx hb dX8_back_4 rfl (lv_at hl 1 rfl) ?_
    refine lv_aload_n hx hb dX8_back_5 rfl (lv_at hl 0 rfl) ?_
    refine va_get (D := D) (v := .ref (Q_t 6)) (C := RX8) (T := TX8) (N := 11) hx hb hts iX8 hown hK.1 hP 0 rfl rfl 6 (by decide) (hts _ t_306) (fun _ h9 => h9) rfl dX8_back_6 ?_
    refine va_alen (v := 4) hx hb hK.1 hP 7 5 rfl rfl rfl dX8_back_9 ?_
    refine lv_icmp_lt (tgt := 15) hx hb dX8_back_10 (by decide) (fun c2 => ?_) (fun c2 => ?_)
    · have h := ite_t c2 h
      refine lv_aload_n hx hb dX8_back_15 rfl (lv_at hl 0 rfl) ?_
      refine va_get (D := D) (v := .ref (Q_t 6)) (C := RX8) (T := TX8) (N := 11) hx hb hts iX8 hown hK.1 hP 0 rfl rfl 6 (by decide) (hts _ t_306) (fun _ h9 => h9) rfl dX8_back_16 ?_
      refine lv_iload_n hx hb dX8_back_19 rfl (lv_at hl 1 rfl) ?_
      obtain ⟨g3, h⟩ := gd_some h
      refine ald_q hx hb hK.1 hP 7 5 rfl rfl x1.toNatClampNeg (ix_g g3) dX8_back_20 ?_
      rw [hm]
      refine lv_astore_n (lv' := [(2, .ref q_R), (0, .ref q_t), (1, .int x1)]) hx hb dX8_back_21 rfl hl (by decide) rfl (fun ls hl => ?_)
      refine lv_aload_n hx hb dX8_back_22 rfl (lv_at hl 0 rfl) ?_
      refine lv_ifnonnull (tgt := 28) hx hb dX8_back_23 (by decide) ?_
      refine lv_aload_n hx hb dX8_back_28 rfl (lv_at hl 1 rfl) ?_
      refine va_get (D := D) (v := .ref (Q_t 5)) (C := RX8) (T := TX8) (N := 11) hx hb hts iX8 hown hK.1 hP 0 rfl rfl 5 (by decide) (hts _ t_305) (fun _ h9 => h9) rfl dX8_back_29 ?_
      refine lv_aload_n hx hb dX8_back_32 rfl (lv_at hl 0 rfl) ?_
      obtain ⟨z5, z6, hc4, h⟩ := bd2_some h
      refine cMv (runV (As := [.ref q_R]) (rest := []) C (mX5_copyFrom l D a hc4 s.heap.size) lk_V_8_300 okN_X5_copyFrom ⟨Nat.le_of_ble_eq_true rfl, Nat.le_of_ble_eq_true rfl⟩ ⟨rfl, rfl⟩ (preV (preM hK (P_of_map (wc := rc5 a (Q_t 5) Q_t_5 z_t_5 ++ (rc0 a (Q_t_5 1) Q_t_5_1 z_t_5_1 ++ (rc5 a q_R Q_R z_R ++ (rc0 a (Q_R 1) Q_R_1 z_R_1)))) hP [2, 3, 4, 5, 6, 8, 9, 10, 11, 12] rfl) (hD.sub (ws' := rc5 a (Q_t 5) Q_t_5 z_t_5 ++ (rc0 a (Q_t_5 1) Q_t_5_1 z_t_5_1 ++ (rc5 a q_R Q_R z_R ++ (rc0 a (Q_R 1) Q_R_1 z_R_1)))) [2, 3, 4, 5, 6, 8, 9, 10, 11, 12] (by decide) rfl)) (recvOf hK hP 2 rfl (ci := 5) rfl)) hl.1 rfl (Nat.le_of_ble_eq_true rfl) dX8_back_33 ⟨Nat.le_of_ble_eq_true rfl, Nat.le_of_ble_eq_true rfl⟩) hP hD hS hA [2, 3, 4, 5, 6, 8, 9, 10, 11, 12] [0, 1, 7] [0, 1, 3, 4, 5, 6, 7, 2, 8, 9, 10, 11, 12] rfl rfl (by decide) (by decide) (fw := rc8 a q_t Q_t z_t ++ (rc5 a (Q_t 5) (va_up Q_t_5 0 (Q_R 0)) z5 ++ (rc0 a (Q_t_5 1) Q_t_5_1 z6 ++ (rb5 a (Q_t 6) 4 B_t_6 ++ (rc5 a q_R Q_R z_R ++ (rc0 a (Q_R 1) Q_R_1 z_R_1)))))) rfl (by decide) (fun H locs hP hD hS => ?_)
      have hP : va_P D classes (rc8 a q_t Q_t z_t ++ (rc5 a (Q_t 5) (va_up Q_t_5 0 (Q_R 0)) z5 ++ (rc0 a (Q_t_5 1) Q_t_5_1 z6 ++ (rb5 a (Q_t 6) 4 B_t_6 ++ (rc5 a q_R Q_R z_R ++ (rc0 a (Q_R 1) Q_R_1 z_R_1)))))) H := hP
      have hD : va_D A (rc8 a q_t Q_t z_t ++ (rc5 a (Q_t 5) (va_up Q_t_5 0 (Q_R 0)) z5 ++ (rc0 a (Q_t_5 1) Q_t_5_1 z6 ++ (rb5 a (Q_t 6) 4 B_t_6 ++ (rc5 a q_R Q_R z_R ++ (rc0 a (Q_R 1) Q_R_1 z_R_1)))))) := hD
      refine lv_aload_n hx hb dX8_back_36 rfl (lv_at hl 1 rfl) ?_
      refine va_get (D := D) (v := .ref (Q_t 5)) (C := RX8) (T := TX8) (N := 11) hx hb hts iX8 hown hK.1 hP 0 rfl rfl 5 (by decide) (hts _ t_305) (fun _ h9 => h9) rfl dX8_back_37 ?_
      refine va_get (D := D) (v := .int (gI z5 4)) (C := RX5) (T := TX5) (N := 8) hx hb hts iX5 hown hK.1 hP 2 rfl rfl 4 (by decide) (hts _ t_169) (fun _ h9 => h9) rfl dX8_back_40 ?_
      exact rMi C rfl h (g := fun y => rc8 a q_t Q_t z_t ++ (rc5 a (Q_t 5) (va_up Q_t_5 0 (Q_R 0)) y.2.1 ++ (rc0 a (Q_t_5 1) Q_t_5_1 y.2.2 ++ (rb5 a (Q_t 6) 4 B_t_6 ++ (rc5 a q_R Q_R z_R ++ (rc0 a (Q_R 1) Q_R_1 z_R_1)))))) (pr := fun y => y.1) hP hD hS dX8_back_43
    · have h := ite_f c2 h
      cases h

def fX8_hasWork (z_t : Sx) (z_t_5 : Sx) (z_t_5_0 : Sx) : Option (Int32) := if (gI z_t_5_0 3) ≤ 0 then some 0 else some 1

set_option maxHeartbeats 4000000 in
set_option maxRecDepth 100000 in
theorem mX8_hasWork (l : Launch) (D : va_G) (a : Nat → ClassId) {q_t : Nat} {Q_t : Nat → Nat} {z_t : Sx} {Q_t_5 : Nat → Nat} {z_t_5 : Sx} {Q_t_5_0 : Nat → Nat} {z_t_5_0 : Sx} {y : Int32} (h : fX8_hasWork z_t z_t_5 z_t_5_0 = some y) : CRi l MX8_hasWork 0 0 D a [.ref q_t] (rc8 a q_t Q_t z_t ++ (rc5 a (Q_t 5) Q_t_5 z_t_5 ++ (rc7 a (Q_t_5 0) Q_t_5_0 z_t_5_0))) (fun r => r = y) := by
  unfold fX8_hasWork at h
  refine entR (by decide) (Nat.le_of_ble_eq_true rfl) ?_
  intro p e s m below meth c C hK hP ls hl
  obtain ⟨hx, hb, hml, hown, hts, hr, hlocks, hnm⟩ := id C
  have hb : c.code = cX8_hasWork := hb
  have hown : s.vm.findClass RX8 = some m.cls := hown
  have hl : lv_has ls 1 [(0, .ref q_t)] := hl
  refine lv_aload_n hx hb dX8_hasWork_0 rfl (lv_at hl 0 rfl) ?_
  refine va_get (D := D) (v := .ref (Q_t 5)) (C := RX8) (T := TX8) (N := 11) hx hb hts iX8 hown hK.1 hP 0 rfl rfl 5 (by decide) (hts _ t_305) (fun _ h9 => h9) rfl dX8_hasWork_1 ?_
  refine va_get (D := D) (v := .ref (Q_t_5 0)) (C := RX5) (T := TX5) (N := 8) hx hb hts iX5 hown hK.1 hP 2 rfl rfl 0 (by decide) (hts _ t_161) (fun _ h9 => h9) rfl dX8_hasWork_4 ?_
  refine va_get (D := D) (v := .int (gI z_t_5_0 3)) (C := RX7) (T := TX7) (N := 18) hx hb hts iX7 hown hK.1 hP 5 rfl rfl 3 (by decide) (hts _ t_47) (fun _ h9 => h9) rfl dX8_hasWork_7 ?_
  refine lv_if_le (tgt := 17) hx hb dX8_hasWork_10 (by decide) (fun c1 => ?_) (fun c1 => ?_)
  · have h := ite_t c1 h
    refine lv_iconst (v := 0) hx hb dX8_hasWork_17 (by decide) ?_
    exact rRz C rfl (Or.inl rfl) (Option.some.inj h) dX8_hasWork_18
  · have h := ite_f c1 h
    refine lv_iconst (v := 1) hx hb dX8_hasWork_13 (by decide) ?_
    refine lv_goto (tgt := 18) hx hb dX8_hasWork_14 (by decide) ?_
    exact rRz C rfl (Or.inr rfl) (Option.some.inj h) dX8_hasWork_18

def lX8_partOf_12 (k47 : Int64 → Option (Int64)) (x0 : Int64) (x2 : Int64) (x4 : Int32) : Nat → Int64 → Int64 → Int32 → Option (Int64)
  | 0, _, _, _ => none
  | n + 1, x5, x7, x9 => if 100 ≤ x9 then k47 x5 else if x7 = 0 then k47 x5 else gd (¬ x7 = 0) (lX8_partOf_12 k47 x0 x2 x4 n x7 (x5 - x5 / x7 * x7) (x9 + 1))
def fX8_partOf (x0 : Int64) (x2 : Int64) (x4 : Int32) : Option (Int64) := lX8_partOf_12 (fun (i4 : Int64) => if i4 = 0 then if x4 = 0 then some x0 else some x2 else jn (fun (i7 : Int64) => gd (¬ i4 = 0) (some (i7 / i4))) (fun J6 => if x4 = 0 then J6 x0 else J6 x2)) x0 x2 x4 FU (abL x0) x2 0

set_option maxHeartbeats 4000000 in
set_option maxRecDepth 100000 in
theorem wX8_partOf_12 {p : Program} {l : Launch} {e : Env} {s : State} {m : MethodId} {below : List Frame} {meth : Method} {c : Code} {D : va_G} {a : Nat → ClassId} {x00 : Int64} {x20 : Int64} {x40 : Int32} {x0 : Int64} {x2 : Int64} {x4 : Int32} (C : Cx p s m #[.long x00, .long x20, .int x40] meth c MX8_partOf) (hK : KK D a s) {y : Int64} (hP : va_P D classes ([]) s.heap) {k47 : Int64 → Option (Int64)} (hk47 : ∀ (x5k : Int64) (ls : Array Slot), k47 x5k = some y → lv_has ls 12 [(0, .long x0), (2, .long x2), (4, .int x4), (5, .long x5k)] → W p l e (rmM 1 0 0 30) s m #[.long x00, .long x20, .int x40] below meth c s.heap [] 0 0 (MQ below (vp_Sl (fun r => r = y)) #[.long x00, .long x20, .int x40] s 0 0 (fun _ => False)) (F0 m 47 ls [])) : ∀ (n : Nat) (x5 : Int64) (x7 : Int64) (x9 : Int32) (ls : Array Slot), lX8_partOf_12 k47 x0 x2 x4 n x5 x7 x9 = some y → lv_has ls 12 [(0, .long x0), (2, .long x2), (4, .int x4), (5, .long x5), (7, .long x7), (9, .int x9)] → W p l e (rmM 1 0 0 30) s m #[.long x00, .long x20, .int x40] below meth c s.heap [] 0 0 (MQ below (vp_Sl (fun r => r = y)) #[.long x00, .long x20, .int x40] s 0 0 (fun _ => False)) (F0 m 12 ls []) := by
  obtain ⟨hx, hb, hml, hown, hts, hr, hlocks, hnm⟩ := id C
  have hb : c.code = cX8_partOf := hb
  have hown : s.vm.findClass RX8 = some m.cls := hown
  intro n
  induction n with
  | zero => intro x5 x7 x9 ls h; rw [lX8_partOf_12] at h; cases h
  | succ n ih =>
    intro x5 x7 x9 ls h hl
    rw [lX8_partOf_12] at h
    refine lv_iload hx hb dX8_partOf_12 (lv_at hl 5 rfl) ?_
    refine lv_bipush (v := 100) hx hb dX8_partOf_14 (by decide) ?_
    refine lv_icmp_ge (tgt := 47) hx hb dX8_partOf_16 (by decide) (fun c1 => ?_) (fun c1 => ?_)
    · have h := ite_t c1 h
      exact hk47 x5 ls h (lv_sub hl [0, 1, 2, 3] rfl)
    · have h := ite_f c1 h
      refine lv_lload hx hb dX8_partOf_19 (lv_at hl 4 rfl) ?_
      refine lv_lconst (v := 0) hx hb dX8_partOf_21 (by decide) ?_
      refine W.lcmp hx hb dX8_partOf_22 ?_
      refine lv_if_eq (tgt := 47) hx hb dX8_partOf_23 (by decide) (fun c2 => ?_) (fun c2 => ?_)
      · have h := ite_t ((lg_cmp_eq _ _).mp c2) h
        exact hk47 x5 ls h (lv_sub hl [0, 1, 2, 3] rfl)
      · have h := ite_f (fun q => c2 ((lg_cmp_eq _ _).mpr q)) h
        refine lv_lload hx hb dX8_partOf_26 (lv_at hl 3 rfl) ?_
        refine lv_lload hx hb dX8_partOf_28 (lv_at hl 4 rfl) ?_
        obtain ⟨g3, h⟩ := gd_some h
        refine lv_lrem hx hb dX8_partOf_30 g3 ?_
        refine lv_lstore (lv' := [(10, .long (x5 - x5 / x7 * x7)), (0, .long x0), (2, .long x2), (4, .int x4), (5, .long x5), (7, .long x7), (9, .int x9)]) hx hb dX8_partOf_31 hl (by decide) rfl (fun ls hl => ?_)
        refine lv_lload hx hb dX8_partOf_33 (lv_at hl 5 rfl) ?_
        refine lv_lstore (lv' := [(5, .long x7), (10, .long (x5 - x5 / x7 * x7)), (0, .long x0), (2, .long x2), (4, .int x4), (7, .long x7), (9, .int x9)]) hx hb dX8_partOf_35 hl (by decide) rfl (fun ls hl => ?_)
        refine lv_lload hx hb dX8_partOf_37 (lv_at hl 1 rfl) ?_
        refine lv_lstore (lv' := [(7, .long (x5 - x5 / x7 * x7)), (5, .long x7), (10, .long (x5 - x5 / x7 * x7)), (0, .long x0), (2, .long x2), (4, .int x4), (9, .int x9)]) hx hb dX8_partOf_39 hl (by decide) rfl (fun ls hl => ?_)
        refine lv_iinc (v := x9 + 1) (lv' := [(9, .int (x9 + 1)), (7, .long (x5 - x5 / x7 * x7)), (5, .long x7), (10, .long (x5 - x5 / x7 * x7)), (0, .long x0), (2, .long x2), (4, .int x4)]) hx hb dX8_partOf_41 hl (k := 6) rfl rfl (by decide) rfl (fun ls hl => ?_)
        refine lv_goto (tgt := 12) hx hb dX8_partOf_44 (by decide) ?_
        exact ih x7 (x5 - x5 / x7 * x7) (x9 + 1) ls h (lv_sub hl [4, 5, 6, 2, 1, 0] rfl)

set_option maxHeartbeats 4000000 in
set_option maxRecDepth 100000 in
theorem mX8_partOf (l : Launch) (D : va_G) (a : Nat → ClassId) {x0 : Int64} {x2 : Int64} {x4 : Int32} {y : Int64} (h : fX8_partOf x0 x2 x4 = some y) : CRl l MX8_partOf 1 30 D a [.long x0, .long x2, .int x4] ([]) (fun r => r = y) := by
  unfold fX8_partOf at h
  refine entR (by decide) (Nat.le_of_ble_eq_true rfl) ?_
  intro p e s m below meth c C hK hP ls hl
  obtain ⟨hx, hb, hml, hown, hts, hr, hlocks, hnm⟩ := id C
  have hb : c.code = cX8_partOf := hb
  have hown : s.vm.findClass RX8 = some m.cls := hown
  have hl : lv_has ls 12 [(0, .long x0), (2, .long x2), (4, .int x4)] := hl
  refine lv_lload_n hx hb dX8_partOf_0 rfl (lv_at hl 0 rfl) ?_
  refine va_mabs_long hx hb (by rw [hml]; exact hl.1.symm) hown (hts _ t_765) (hts _ t_766) (hts _ t_14) (hts _ t_767) (Nat.le_of_ble_eq_true rfl) (Nat.le_of_ble_eq_true rfl) (Nat.le_of_ble_eq_true rfl) (Nat.le_of_ble_eq_true rfl) dX8_partOf_1 ?_
  refine lv_lstore (lv' := [(5, .long (abL x0)), (0, .long x0), (2, .long x2), (4, .int x4)]) hx hb dX8_partOf_4 hl (by decide) rfl (fun ls hl => ?_)
  refine lv_lload_n hx hb dX8_partOf_6 rfl (lv_at hl 2 rfl) ?_
  refine lv_lstore (lv' := [(7, .long x2), (5, .long (abL x0)), (0, .long x0), (2, .long x2), (4, .int x4)]) hx hb dX8_partOf_7 hl (by decide) rfl (fun ls hl => ?_)
  refine lv_iconst (v := 0) hx hb dX8_partOf_9 (by decide) ?_
  refine lv_istore (lv' := [(9, .int 0), (7, .long x2), (5, .long (abL x0)), (0, .long x0), (2, .long x2), (4, .int x4)]) hx hb dX8_partOf_10 hl (by decide) rfl (fun ls hl => ?_)
  refine wX8_partOf_12 C hK hP ?_ FU (abL x0) x2 0 ls h (lv_sub hl [3, 4, 5, 2, 1, 0] rfl)
  · intro i4 ls h hl
    refine lv_lload hx hb dX8_partOf_47 (lv_at hl 3 rfl) ?_
    refine lv_lconst (v := 0) hx hb dX8_partOf_49 (by decide) ?_
    refine W.lcmp hx hb dX8_partOf_50 ?_
    refine lv_if_ne (tgt := 65) hx hb dX8_partOf_51 (by decide) (fun c5 => ?_) (fun c5 => ?_)
    · have h := ite_f (fun q => c5 ((lg_cmp_eq _ _).mpr q)) h
      refine lv_iload hx hb dX8_partOf_65 (lv_at hl 2 rfl) ?_
      obtain ⟨J6, eJ6, h⟩ := jn_some h
      have hJ6 : ∀ (i7 : Int64) (ls : Array Slot), J6 i7 = some y → lv_has ls 12 [(5, .long i4)] → W p l e (rmM 1 0 0 30) s m #[.long x0, .long x2, .int x4] below meth c s.heap [] 0 0 (MQ below (vp_Sl (fun r => r = y)) #[.long x0, .long x2, .int x4] s 0 0 (fun _ => False)) (F0 m 75 ls [.long i7]) := by
        intro i7 ls h hl
        rw [eJ6] at h
        refine lv_lload hx hb dX8_partOf_75 (lv_at hl 0 rfl) ?_
        obtain ⟨g8, h⟩ := gd_some h
        refine lv_ldiv hx hb dX8_partOf_77 g8 ?_
        exact rRl C rfl (Option.some.inj h) dX8_partOf_78
      refine lv_if_ne (tgt := 74) hx hb dX8_partOf_67 (by decide) (fun c9 => ?_) (fun c9 => ?_)
      · have h := ite_f c9 h
        refine lv_lload_n hx hb dX8_partOf_74 rfl (lv_at hl 1 rfl) ?_
        exact hJ6 x2 ls h (lv_sub hl [3] rfl)
      · have h := ite_t c9 h
        refine lv_lload_n hx hb dX8_partOf_70 rfl (lv_at hl 0 rfl) ?_
        refine lv_goto (tgt := 75) hx hb dX8_partOf_71 (by decide) ?_
        exact hJ6 x0 ls h (lv_sub hl [3] rfl)
    · have h := ite_t ((lg_cmp_eq _ _).mp c5) h
      refine lv_iload hx hb dX8_partOf_54 (lv_at hl 2 rfl) ?_
      refine lv_if_ne (tgt := 63) hx hb dX8_partOf_56 (by decide) (fun c10 => ?_) (fun c10 => ?_)
      · have h := ite_f c10 h
        refine lv_lload_n hx hb dX8_partOf_63 rfl (lv_at hl 1 rfl) ?_
        exact rRl C rfl (Option.some.inj h) dX8_partOf_64
      · have h := ite_t c10 h
        refine lv_lload_n hx hb dX8_partOf_59 rfl (lv_at hl 0 rfl) ?_
        refine lv_goto (tgt := 64) hx hb dX8_partOf_60 (by decide) ?_
        exact rRl C rfl (Option.some.inj h) dX8_partOf_64

def fX8_best (z_t : Sx) (z_t_5 : Sx) (z_t_5_0 : Sx) (z_t_5_1 : Sx) (z_t_10 : Sx) (x1 : Int32) (x2 : Int32) : Option (Int64 × Sx) := bd (fX8_hasWork z_t z_t_5 z_t_5_0) (fun r2 => if r2 = 0 then some ((-1), z_t_10) else if x1 < 0 then some ((-1), z_t_10) else if 5 < x1 then some ((-1), z_t_10) else if x2 < 0 then some ((-1), z_t_10) else if x2 ≤ 2 then bd (fX0_gone z_t_5_1) (fun r9 => if x2 = 2 then bd2 (fX1_choice z_t_10 z_t_5_0 x1 r9 (gI z_t_5_1 0)) (fun r19 z20 => some (r19.toInt64, z20)) else bd2 (fX1_mostEarned 16 z_t_10 z_t_5_0 x1 r9 (gI z_t_5_1 0)) (fun r12 z13 => bd (fX8_hundreds x1) (fun r15 => bd (fX8_partOf r12 r15 x2) (fun r17 => some (r17, z13))))) else some ((-1), z_t_10))

set_option maxHeartbeats 4000000 in
set_option maxRecDepth 100000 in
theorem mX8_best (l : Launch) (D : va_G) (a : Nat → ClassId) {q_t : Nat} {Q_t : Nat → Nat} {z_t : Sx} {Q_t_5 : Nat → Nat} {z_t_5 : Sx} {Q_t_5_0 : Nat → Nat} {z_t_5_0 : Sx} {Q_t_5_1 : Nat → Nat} {z_t_5_1 : Sx} {Q_t_10 : Nat → Nat} {z_t_10 : Sx} {x1 : Int32} {x2 : Int32} {y : Int64 × Sx} (h : fX8_best z_t z_t_5 z_t_5_0 z_t_5_1 z_t_10 x1 x2 = some y) (sz : Nat) : CMl (S := Unit) l MX8_best 37 1128 0 0 D a [.ref q_t, .int x1, .int x2] (rc8 a q_t Q_t z_t ++ (rc5 a (Q_t 5) Q_t_5 z_t_5 ++ (rc7 a (Q_t_5 0) Q_t_5_0 z_t_5_0 ++ (rc0 a (Q_t_5 1) Q_t_5_1 z_t_5_1 ++ (rc1 a (Q_t 10) Q_t_10 z_t_10))))) sz (fun r _ => r = y.1) (fun _ => rc8 a q_t Q_t z_t ++ (rc5 a (Q_t 5) Q_t_5 z_t_5 ++ (rc7 a (Q_t_5 0) Q_t_5_0 z_t_5_0 ++ (rc0 a (Q_t_5 1) Q_t_5_1 z_t_5_1 ++ (rc1 a (Q_t 10) Q_t_10 y.2))))) := by
  unfold fX8_best at h
  refine entMl (by decide) (Nat.le_of_ble_eq_true rfl) ?_
  intro p e s m below meth c C hK A hA hP hD ls hl
  obtain ⟨hx, hb, hml, hown, hts, hr, hlocks, hnm⟩ := id C
  have hb : c.code = cX8_best := hb
  have hown : s.vm.findClass RX8 = some m.cls := hown
  have hS : va_S A s.heap s.heap [] := va_S.rf
  have hl : lv_has ls 4 [(0, .ref q_t), (1, .int x1), (2, .int x2)] := hl
  refine lv_aload_n hx hb dX8_best_0 rfl (lv_at hl 0 rfl) ?_
  obtain ⟨r2, hc1, h⟩ := bd_some h
  refine cRi (runV (As := []) (rest := []) C (mX8_hasWork l D a hc1) lk_V_8_213 okN_X8_hasWork ⟨Nat.le_of_ble_eq_true rfl, Nat.le_of_ble_eq_true rfl⟩ ⟨rfl, rfl⟩ (preV (preR hK (P_of_map (wc := rc8 a q_t Q_t z_t ++ (rc5 a (Q_t 5) Q_t_5 z_t_5 ++ (rc7 a (Q_t_5 0) Q_t_5_0 z_t_5_0))) hP [0, 1, 2, 3, 4, 5, 6, 7, 8, 9, 10, 11, 12, 13, 14, 15, 16, 17] rfl)) (recvOf hK hP 0 rfl (ci := 8) rfl)) hl.1 rfl (Nat.le_of_ble_eq_true rfl) dX8_best_1 ⟨Nat.le_of_ble_eq_true rfl, Nat.le_of_ble_eq_true rfl⟩) ?_
  refine lv_if_eq (tgt := 25) hx hb dX8_best_4 (by decide) (fun c3 => ?_) (fun c3 => ?_)
  · have h := ite_t c3 h
    refine lv_ldc2 hx hb hown (hts _ t_753) dX8_best_25 ?_
    exact rMl C rfl h (g := fun y => rc8 a q_t Q_t z_t ++ (rc5 a (Q_t 5) Q_t_5 z_t_5 ++ (rc7 a (Q_t_5 0) Q_t_5_0 z_t_5_0 ++ (rc0 a (Q_t_5 1) Q_t_5_1 z_t_5_1 ++ (rc1 a (Q_t 10) Q_t_10 y.2))))) (pr := fun y => y.1) hP hD hS dX8_best_28
  · have h := ite_f c3 h
    refine lv_iload_n hx hb dX8_best_7 rfl (lv_at hl 1 rfl) ?_
    refine lv_if_lt (tgt := 25) hx hb dX8_best_8 (by decide) (fun c4 => ?_) (fun c4 => ?_)
    · have h := ite_t c4 h
      refine lv_ldc2 hx hb hown (hts _ t_753) dX8_best_25 ?_
      exact rMl C rfl h (g := fun y => rc8 a q_t Q_t z_t ++ (rc5 a (Q_t 5) Q_t_5 z_t_5 ++ (rc7 a (Q_t_5 0) Q_t_5_0 z_t_5_0 ++ (rc0 a (Q_t_5 1) Q_t_5_1 z_t_5_1 ++ (rc1 a (Q_t 10) Q_t_10 y.2))))) (pr := fun y => y.1) hP hD hS dX8_best_28
    · have h := ite_f c4 h
      refine lv_iload_n hx hb dX8_best_11 rfl (lv_at hl 1 rfl) ?_
      refine lv_iconst (v := 5) hx hb dX8_best_12 (by decide) ?_
      refine lv_icmp_gt (tgt := 25) hx hb dX8_best_13 (by decide) (fun c5 => ?_) (fun c5 => ?_)
      · have h := ite_t c5 h
        refine lv_ldc2 hx hb hown (hts _ t_753) dX8_best_25 ?_
        exact rMl C rfl h (g := fun y => rc8 a q_t Q_t z_t ++ (rc5 a (Q_t 5) Q_t_5 z_t_5 ++ (rc7 a (Q_t_5 0) Q_t_5_0 z_t_5_0 ++ (rc0 a (Q_t_5 1) Q_t_5_1 z_t_5_1 ++ (rc1 a (Q_t 10) Q_t_10 y.2))))) (pr := fun y => y.1) hP hD hS dX8_best_28
      · have h := ite_f c5 h
        refine lv_iload_n hx hb dX8_best_16 rfl (lv_at hl 2 rfl) ?_
        refine lv_if_lt (tgt := 25) hx hb dX8_best_17 (by decide) (fun c6 => ?_) (fun c6 => ?_)
        · have h := ite_t c6 h
          refine lv_ldc2 hx hb hown (hts _ t_753) dX8_best_25 ?_
          exact rMl C rfl h (g := fun y => rc8 a q_t Q_t z_t ++ (rc5 a (Q_t 5) Q_t_5 z_t_5 ++ (rc7 a (Q_t_5 0) Q_t_5_0 z_t_5_0 ++ (rc0 a (Q_t_5 1) Q_t_5_1 z_t_5_1 ++ (rc1 a (Q_t 10) Q_t_10 y.2))))) (pr := fun y => y.1) hP hD hS dX8_best_28
        · have h := ite_f c6 h
          refine lv_iload_n hx hb dX8_best_20 rfl (lv_at hl 2 rfl) ?_
          refine lv_iconst (v := 2) hx hb dX8_best_21 (by decide) ?_
          refine lv_icmp_le (tgt := 29) hx hb dX8_best_22 (by decide) (fun c7 => ?_) (fun c7 => ?_)
          · have h := ite_t c7 h
            refine lv_aload_n hx hb dX8_best_29 rfl (lv_at hl 0 rfl) ?_
            refine va_get (D := D) (v := .ref (Q_t 5)) (C := RX8) (T := TX8) (N := 11) hx hb hts iX8 hown hK.1 hP 0 rfl rfl 5 (by decide) (hts _ t_305) (fun _ h9 => h9) rfl dX8_best_30 ?_
            refine va_get (D := D) (v := .ref (Q_t_5 1)) (C := RX5) (T := TX5) (N := 8) hx hb hts iX5 hown hK.1 hP 2 rfl rfl 1 (by decide) (hts _ t_163) (fun _ h9 => h9) rfl dX8_best_33 ?_
            obtain ⟨r9, hc8, h⟩ := bd_some h
            refine cRi (runV (As := []) (rest := []) C (mX0_gone l D a hc8) lk_V_8_171 okN_X0_gone ⟨Nat.le_of_ble_eq_true rfl, Nat.le_of_ble_eq_true rfl⟩ ⟨rfl, rfl⟩ (preV (preR hK (P_of_map (wc := rc0 a (Q_t_5 1) Q_t_5_1 z_t_5_1) hP [18, 19] rfl)) (recvOf hK hP 18 rfl (ci := 0) rfl)) hl.1 rfl (Nat.le_of_ble_eq_true rfl) dX8_best_36 ⟨Nat.le_of_ble_eq_true rfl, Nat.le_of_ble_eq_true rfl⟩) ?_
            refine lv_istore_n (lv' := [(3, .int r9), (0, .ref q_t), (1, .int x1), (2, .int x2)]) hx hb dX8_best_39 rfl hl (by decide) rfl (fun ls hl => ?_)
            refine lv_iload_n hx hb dX8_best_40 rfl (lv_at hl 3 rfl) ?_
            refine lv_iconst (v := 2) hx hb dX8_best_41 (by decide) ?_
            refine lv_icmp_ne (tgt := 73) hx hb dX8_best_42 (by decide) (fun c10 => ?_) (fun c10 => ?_)
            · have h := ite_f c10 h
              refine lv_aload_n hx hb dX8_best_73 rfl (lv_at hl 1 rfl) ?_
              refine va_get (D := D) (v := .ref (Q_t 10)) (C := RX8) (T := TX8) (N := 11) hx hb hts iX8 hown hK.1 hP 0 rfl rfl 10 (by decide) (hts _ t_310) (fun _ h9 => h9) rfl dX8_best_74 ?_
              refine lv_aload_n hx hb dX8_best_77 rfl (lv_at hl 1 rfl) ?_
              refine va_get (D := D) (v := .ref (Q_t 5)) (C := RX8) (T := TX8) (N := 11) hx hb hts iX8 hown hK.1 hP 0 rfl rfl 5 (by decide) (hts _ t_305) (fun _ h9 => h9) rfl dX8_best_78 ?_
              refine va_get (D := D) (v := .ref (Q_t_5 0)) (C := RX5) (T := TX5) (N := 8) hx hb hts iX5 hown hK.1 hP 2 rfl rfl 0 (by decide) (hts _ t_161) (fun _ h9 => h9) rfl dX8_best_81 ?_
              refine lv_iload_n hx hb dX8_best_84 rfl (lv_at hl 2 rfl) ?_
              refine lv_iload_n hx hb dX8_best_85 rfl (lv_at hl 0 rfl) ?_
              refine lv_aload_n hx hb dX8_best_86 rfl (lv_at hl 1 rfl) ?_
              refine va_get (D := D) (v := .ref (Q_t 5)) (C := RX8) (T := TX8) (N := 11) hx hb hts iX8 hown hK.1 hP 0 rfl rfl 5 (by decide) (hts _ t_305) (fun _ h9 => h9) rfl dX8_best_87 ?_
              refine va_get (D := D) (v := .ref (Q_t_5 1)) (C := RX5) (T := TX5) (N := 8) hx hb hts iX5 hown hK.1 hP 2 rfl rfl 1 (by decide) (hts _ t_163) (fun _ h9 => h9) rfl dX8_best_90 ?_
              refine va_get (D := D) (v := .int (gI z_t_5_1 0)) (C := RX0) (T := TX0) (N := 6) hx hb hts iX0 hown hK.1 hP 18 rfl rfl 0 (by decide) (hts _ t_132) (fun _ h9 => h9) rfl dX8_best_93 ?_
              obtain ⟨r12, z13, hc11, h⟩ := bd2_some h
              refine cMl (runV (As := [.ref (Q_t_5 0), .int x1, .int r9, .int (gI z_t_5_1 0)]) (rest := []) C (mX1_mostEarned l D a 16 hc11 s.heap.size) lk_V_8_266 okN_X1_mostEarned ⟨Nat.le_of_ble_eq_true rfl, Nat.le_of_ble_eq_true rfl⟩ ⟨rfl, rfl⟩ (preV (preM hK (P_of_map (wc := rc1 a (Q_t 10) Q_t_10 z_t_10 ++ (rc7 a (Q_t_5 0) Q_t_5_0 z_t_5_0)) hP [20, 21, 22, 5, 6, 7, 8, 9, 10, 11, 12, 13, 14, 15, 16, 17] rfl) (hD.sub (ws' := rc1 a (Q_t 10) Q_t_10 z_t_10 ++ (rc7 a (Q_t_5 0) Q_t_5_0 z_t_5_0)) [20, 21, 22, 5, 6, 7, 8, 9, 10, 11, 12, 13, 14, 15, 16, 17] (by decide) rfl)) (recvOf hK hP 20 rfl (ci := 1) rfl)) hl.1 rfl (Nat.le_of_ble_eq_true rfl) dX8_best_96 ⟨Nat.le_of_ble_eq_true rfl, Nat.le_of_ble_eq_true rfl⟩) hP hD hS hA [20, 21, 22, 5, 6, 7, 8, 9, 10, 11, 12, 13, 14, 15, 16, 17] [0, 1, 2, 3, 4, 18, 19] [0, 1, 2, 3, 4, 10, 11, 12, 13, 14, 15, 16, 17, 18, 19, 20, 21, 22, 5, 6, 7, 8, 9] rfl rfl (by decide) (by decide) (fw := rc8 a q_t Q_t z_t ++ (rc5 a (Q_t 5) Q_t_5 z_t_5 ++ (rc7 a (Q_t_5 0) Q_t_5_0 z_t_5_0 ++ (rc0 a (Q_t_5 1) Q_t_5_1 z_t_5_1 ++ (rc1 a (Q_t 10) Q_t_10 z13))))) rfl (by decide) (fun H locs hP hD hS => ?_)
              have hP : va_P D classes (rc8 a q_t Q_t z_t ++ (rc5 a (Q_t 5) Q_t_5 z_t_5 ++ (rc7 a (Q_t_5 0) Q_t_5_0 z_t_5_0 ++ (rc0 a (Q_t_5 1) Q_t_5_1 z_t_5_1 ++ (rc1 a (Q_t 10) Q_t_10 z13))))) H := hP
              have hD : va_D A (rc8 a q_t Q_t z_t ++ (rc5 a (Q_t 5) Q_t_5 z_t_5 ++ (rc7 a (Q_t_5 0) Q_t_5_0 z_t_5_0 ++ (rc0 a (Q_t_5 1) Q_t_5_1 z_t_5_1 ++ (rc1 a (Q_t 10) Q_t_10 z13))))) := hD
              refine lv_iload_n hx hb dX8_best_99 rfl (lv_at hl 2 rfl) ?_
              obtain ⟨r15, hc14, h⟩ := bd_some h
              refine cRl (runS (As := [.int x1]) (rest := [.long r12]) C (mX8_hundreds l D a hc14) lk_S_8_249 okN_X8_hundreds ⟨Nat.le_of_ble_eq_true rfl, Nat.le_of_ble_eq_true rfl⟩ ⟨rfl, rfl⟩ (preR hK (P_of_map (wc := []) hP [] rfl)) hl.1 rfl (Nat.le_of_ble_eq_true rfl) dX8_best_100 ⟨Nat.le_of_ble_eq_true rfl, Nat.le_of_ble_eq_true rfl⟩) ?_
              refine lv_iload_n hx hb dX8_best_103 rfl (lv_at hl 3 rfl) ?_
              obtain ⟨r17, hc16, h⟩ := bd_some h
              refine cRl (runS (As := [.long r12, .long r15, .int x2]) (rest := []) C (mX8_partOf l D a hc16) lk_S_8_253 okN_X8_partOf ⟨Nat.le_of_ble_eq_true rfl, Nat.le_of_ble_eq_true rfl⟩ ⟨rfl, rfl⟩ (preR hK (P_of_map (wc := []) hP [] rfl)) hl.1 rfl (Nat.le_of_ble_eq_true rfl) dX8_best_104 ⟨Nat.le_of_ble_eq_true rfl, Nat.le_of_ble_eq_true rfl⟩) ?_
              exact rMl C rfl h (g := fun y => rc8 a q_t Q_t z_t ++ (rc5 a (Q_t 5) Q_t_5 z_t_5 ++ (rc7 a (Q_t_5 0) Q_t_5_0 z_t_5_0 ++ (rc0 a (Q_t_5 1) Q_t_5_1 z_t_5_1 ++ (rc1 a (Q_t 10) Q_t_10 y.2))))) (pr := fun y => y.1) hP hD hS dX8_best_107
            · have h := ite_t c10 h
              refine lv_aload_n hx hb dX8_best_45 rfl (lv_at hl 1 rfl) ?_
              refine va_get (D := D) (v := .ref (Q_t 10)) (C := RX8) (T := TX8) (N := 11) hx hb hts iX8 hown hK.1 hP 0 rfl rfl 10 (by decide) (hts _ t_310) (fun _ h9 => h9) rfl dX8_best_46 ?_
              refine lv_aload_n hx hb dX8_best_49 rfl (lv_at hl 1 rfl) ?_
              refine va_get (D := D) (v := .ref (Q_t 5)) (C := RX8) (T := TX8) (N := 11) hx hb hts iX8 hown hK.1 hP 0 rfl rfl 5 (by decide) (hts _ t_305) (fun _ h9 => h9) rfl dX8_best_50 ?_
              refine va_get (D := D) (v := .ref (Q_t_5 0)) (C := RX5) (T := TX5) (N := 8) hx hb hts iX5 hown hK.1 hP 2 rfl rfl 0 (by decide) (hts _ t_161) (fun _ h9 => h9) rfl dX8_best_53 ?_
              refine lv_iload_n hx hb dX8_best_56 rfl (lv_at hl 2 rfl) ?_
              refine lv_iload_n hx hb dX8_best_57 rfl (lv_at hl 0 rfl) ?_
              refine lv_aload_n hx hb dX8_best_58 rfl (lv_at hl 1 rfl) ?_
              refine va_get (D := D) (v := .ref (Q_t 5)) (C := RX8) (T := TX8) (N := 11) hx hb hts iX8 hown hK.1 hP 0 rfl rfl 5 (by decide) (hts _ t_305) (fun _ h9 => h9) rfl dX8_best_59 ?_
              refine va_get (D := D) (v := .ref (Q_t_5 1)) (C := RX5) (T := TX5) (N := 8) hx hb hts iX5 hown hK.1 hP 2 rfl rfl 1 (by decide) (hts _ t_163) (fun _ h9 => h9) rfl dX8_best_62 ?_
              refine va_get (D := D) (v := .int (gI z_t_5_1 0)) (C := RX0) (T := TX0) (N := 6) hx hb hts iX0 hown hK.1 hP 18 rfl rfl 0 (by decide) (hts _ t_132) (fun _ h9 => h9) rfl dX8_best_65 ?_
              obtain ⟨r19, z20, hc18, h⟩ := bd2_some h
              refine cMi (runV (As := [.ref (Q_t_5 0), .int x1, .int r9, .int (gI z_t_5_1 0)]) (rest := []) C (mX1_choice l D a hc18 s.heap.size) lk_V_8_262 okN_X1_choice ⟨Nat.le_of_ble_eq_true rfl, Nat.le_of_ble_eq_true rfl⟩ ⟨rfl, rfl⟩ (preV (preM hK (P_of_map (wc := rc1 a (Q_t 10) Q_t_10 z_t_10 ++ (rc7 a (Q_t_5 0) Q_t_5_0 z_t_5_0)) hP [20, 21, 22, 5, 6, 7, 8, 9, 10, 11, 12, 13, 14, 15, 16, 17] rfl) (hD.sub (ws' := rc1 a (Q_t 10) Q_t_10 z_t_10 ++ (rc7 a (Q_t_5 0) Q_t_5_0 z_t_5_0)) [20, 21, 22, 5, 6, 7, 8, 9, 10, 11, 12, 13, 14, 15, 16, 17] (by decide) rfl)) (recvOf hK hP 20 rfl (ci := 1) rfl)) hl.1 rfl (Nat.le_of_ble_eq_true rfl) dX8_best_68 ⟨Nat.le_of_ble_eq_true rfl, Nat.le_of_ble_eq_true rfl⟩) hP hD hS hA [20, 21, 22, 5, 6, 7, 8, 9, 10, 11, 12, 13, 14, 15, 16, 17] [0, 1, 2, 3, 4, 18, 19] [0, 1, 2, 3, 4, 10, 11, 12, 13, 14, 15, 16, 17, 18, 19, 20, 21, 22, 5, 6, 7, 8, 9] rfl rfl (by decide) (by decide) (fw := rc8 a q_t Q_t z_t ++ (rc5 a (Q_t 5) Q_t_5 z_t_5 ++ (rc7 a (Q_t_5 0) Q_t_5_0 z_t_5_0 ++ (rc0 a (Q_t_5 1) Q_t_5_1 z_t_5_1 ++ (rc1 a (Q_t 10) Q_t_10 z20))))) rfl (by decide) (fun H locs hP hD hS => ?_)
              have hP : va_P D classes (rc8 a q_t Q_t z_t ++ (rc5 a (Q_t 5) Q_t_5 z_t_5 ++ (rc7 a (Q_t_5 0) Q_t_5_0 z_t_5_0 ++ (rc0 a (Q_t_5 1) Q_t_5_1 z_t_5_1 ++ (rc1 a (Q_t 10) Q_t_10 z20))))) H := hP
              have hD : va_D A (rc8 a q_t Q_t z_t ++ (rc5 a (Q_t 5) Q_t_5 z_t_5 ++ (rc7 a (Q_t_5 0) Q_t_5_0 z_t_5_0 ++ (rc0 a (Q_t_5 1) Q_t_5_1 z_t_5_1 ++ (rc1 a (Q_t 10) Q_t_10 z20))))) := hD
              refine lv_i2l (v := r19.toInt64) hx hb dX8_best_71 rfl ?_
              exact rMl C rfl h (g := fun y => rc8 a q_t Q_t z_t ++ (rc5 a (Q_t 5) Q_t_5 z_t_5 ++ (rc7 a (Q_t_5 0) Q_t_5_0 z_t_5_0 ++ (rc0 a (Q_t_5 1) Q_t_5_1 z_t_5_1 ++ (rc1 a (Q_t 10) Q_t_10 y.2))))) (pr := fun y => y.1) hP hD hS dX8_best_72
          · have h := ite_f c7 h
            refine lv_ldc2 hx hb hown (hts _ t_753) dX8_best_25 ?_
            exact rMl C rfl h (g := fun y => rc8 a q_t Q_t z_t ++ (rc5 a (Q_t 5) Q_t_5 z_t_5 ++ (rc7 a (Q_t_5 0) Q_t_5_0 z_t_5_0 ++ (rc0 a (Q_t_5 1) Q_t_5_1 z_t_5_1 ++ (rc1 a (Q_t 10) Q_t_10 y.2))))) (pr := fun y => y.1) hP hD hS dX8_best_28

def lX8_checks_26 (x1 : Int32) (x2 : Int32) : Nat → Int32 → Option (Int32)
  | 0, _ => none
  | n + 1, x3 => if 100 ≤ x3 then some x3 else if (x1 * (100 - x3)) ≤ (x2 * x3) then some x3 else lX8_checks_26 x1 x2 n (x3 + 1)
def fX8_checks (x1 : Int32) (x2 : Int32) : Option (Int32) := if x1 < 0 then some (-1) else if 9999 < x1 then some (-1) else if x2 < 0 then some (-1) else if x2 ≤ 9999 then lX8_checks_26 x1 x2 FU 0 else some (-1)

set_option maxHeartbeats 4000000 in
set_option maxRecDepth 100000 in
theorem wX8_checks_26 {p : Program} {l : Launch} {e : Env} {s : State} {m : MethodId} {below : List Frame} {meth : Method} {c : Code} {D : va_G} {a : Nat → ClassId} {q_t : Nat} {x10 : Int32} {x20 : Int32} {x1 : Int32} {x2 : Int32} (C : Cx p s m #[.ref q_t, .int x10, .int x20] meth c MX8_checks) (hK : KK D a s) {y : Int32} (hP : va_P D classes ([]) s.heap) : ∀ (n : Nat) (x3 : Int32) (ls : Array Slot), lX8_checks_26 x1 x2 n x3 = some y → lv_has ls 4 [(1, .int x1), (2, .int x2), (3, .int x3)] → W p l e (rmM 0 0 0 0) s m #[.ref q_t, .int x10, .int x20] below meth c s.heap [] 0 0 (MQ below (vp_Si (fun r => r = y)) #[.ref q_t, .int x10, .int x20] s 0 0 (fun _ => False)) (F0 m 26 ls []) := by
  obtain ⟨hx, hb, hml, hown, hts, hr, hlocks, hnm⟩ := id C
  have hb : c.code = cX8_checks := hb
  have hown : s.vm.findClass RX8 = some m.cls := hown
  intro n
  induction n with
  | zero => intro x3 ls h; rw [lX8_checks_26] at h; cases h
  | succ n ih =>
    intro x3 ls h hl
    rw [lX8_checks_26] at h
    refine lv_iload_n hx hb dX8_checks_26 rfl (lv_at hl 2 rfl) ?_
    refine lv_bipush (v := 100) hx hb dX8_checks_27 (by decide) ?_
    refine lv_icmp_ge (tgt := 50) hx hb dX8_checks_29 (by decide) (fun c5 => ?_) (fun c5 => ?_)
    · have h := ite_t c5 h
      refine lv_iload_n hx hb dX8_checks_50 rfl (lv_at hl 2 rfl) ?_
      exact rRi C rfl (Option.some.inj h) dX8_checks_51
    · have h := ite_f c5 h
      refine lv_iload_n hx hb dX8_checks_32 rfl (lv_at hl 0 rfl) ?_
      refine lv_bipush (v := 100) hx hb dX8_checks_33 (by decide) ?_
      refine lv_iload_n hx hb dX8_checks_35 rfl (lv_at hl 2 rfl) ?_
      refine lv_isub hx hb dX8_checks_36 ?_
      refine lv_imul hx hb dX8_checks_37 ?_
      refine lv_iload_n hx hb dX8_checks_38 rfl (lv_at hl 1 rfl) ?_
      refine lv_iload_n hx hb dX8_checks_39 rfl (lv_at hl 2 rfl) ?_
      refine lv_imul hx hb dX8_checks_40 ?_
      refine lv_icmp_le (tgt := 50) hx hb dX8_checks_41 (by decide) (fun c6 => ?_) (fun c6 => ?_)
      · have h := ite_t c6 h
        refine lv_iload_n hx hb dX8_checks_50 rfl (lv_at hl 2 rfl) ?_
        exact rRi C rfl (Option.some.inj h) dX8_checks_51
      · have h := ite_f c6 h
        refine lv_iinc (v := x3 + 1) (lv' := [(3, .int (x3 + 1)), (1, .int x1), (2, .int x2)]) hx hb dX8_checks_44 hl (k := 2) rfl rfl (by decide) rfl (fun ls hl => ?_)
        refine lv_goto (tgt := 26) hx hb dX8_checks_47 (by decide) ?_
        exact ih (x3 + 1) ls h (lv_sub hl [1, 2, 0] rfl)

set_option maxHeartbeats 4000000 in
set_option maxRecDepth 100000 in
theorem mX8_checks (l : Launch) (D : va_G) (a : Nat → ClassId) {q_t : Nat} {x1 : Int32} {x2 : Int32} {y : Int32} (h : fX8_checks x1 x2 = some y) : CRi l MX8_checks 0 0 D a [.ref q_t, .int x1, .int x2] ([]) (fun r => r = y) := by
  unfold fX8_checks at h
  refine entR (by decide) (Nat.le_of_ble_eq_true rfl) ?_
  intro p e s m below meth c C hK hP ls hl
  obtain ⟨hx, hb, hml, hown, hts, hr, hlocks, hnm⟩ := id C
  have hb : c.code = cX8_checks := hb
  have hown : s.vm.findClass RX8 = some m.cls := hown
  have hl : lv_has ls 4 [(0, .ref q_t), (1, .int x1), (2, .int x2)] := hl
  refine lv_iload_n hx hb dX8_checks_0 rfl (lv_at hl 1 rfl) ?_
  refine lv_if_lt (tgt := 22) hx hb dX8_checks_1 (by decide) (fun c1 => ?_) (fun c1 => ?_)
  · have h := ite_t c1 h
    refine lv_iconst (v := (-1)) hx hb dX8_checks_22 (by decide) ?_
    exact rRi C rfl (Option.some.inj h) dX8_checks_23
  · have h := ite_f c1 h
    refine lv_iload_n hx hb dX8_checks_4 rfl (lv_at hl 1 rfl) ?_
    refine lv_sipush (v := 9999) hx hb dX8_checks_5 (by decide) ?_
    refine lv_icmp_gt (tgt := 22) hx hb dX8_checks_8 (by decide) (fun c2 => ?_) (fun c2 => ?_)
    · have h := ite_t c2 h
      refine lv_iconst (v := (-1)) hx hb dX8_checks_22 (by decide) ?_
      exact rRi C rfl (Option.some.inj h) dX8_checks_23
    · have h := ite_f c2 h
      refine lv_iload_n hx hb dX8_checks_11 rfl (lv_at hl 2 rfl) ?_
      refine lv_if_lt (tgt := 22) hx hb dX8_checks_12 (by decide) (fun c3 => ?_) (fun c3 => ?_)
      · have h := ite_t c3 h
        refine lv_iconst (v := (-1)) hx hb dX8_checks_22 (by decide) ?_
        exact rRi C rfl (Option.some.inj h) dX8_checks_23
      · have h := ite_f c3 h
        refine lv_iload_n hx hb dX8_checks_15 rfl (lv_at hl 2 rfl) ?_
        refine lv_sipush (v := 9999) hx hb dX8_checks_16 (by decide) ?_
        refine lv_icmp_le (tgt := 24) hx hb dX8_checks_19 (by decide) (fun c4 => ?_) (fun c4 => ?_)
        · have h := ite_t c4 h
          refine lv_iconst (v := 0) hx hb dX8_checks_24 (by decide) ?_
          refine lv_istore_n (lv' := [(3, .int 0), (0, .ref q_t), (1, .int x1), (2, .int x2)]) hx hb dX8_checks_25 rfl hl (by decide) rfl (fun ls hl => ?_)
          refine wX8_checks_26 C hK hP FU 0 ls h (lv_sub hl [2, 3, 0] rfl)
        · have h := ite_f c4 h
          refine lv_iconst (v := (-1)) hx hb dX8_checks_22 (by decide) ?_
          exact rRi C rfl (Option.some.inj h) dX8_checks_23

def fX8_coins (z_t : Sx) (z_t_5 : Sx) (z_t_5_1 : Sx) (x1 : Int32) : Option (Int32) := if x1 = 0 then some (gI z_t_5_1 1) else if x1 = 1 then some (gI z_t_5 2) else if x1 = 2 then some (gI z_t_5 3) else some (-1000000)

set_option maxHeartbeats 4000000 in
set_option maxRecDepth 100000 in
theorem mX8_coins (l : Launch) (D : va_G) (a : Nat → ClassId) {q_t : Nat} {Q_t : Nat → Nat} {z_t : Sx} {Q_t_5 : Nat → Nat} {z_t_5 : Sx} {Q_t_5_1 : Nat → Nat} {z_t_5_1 : Sx} {x1 : Int32} {y : Int32} (h : fX8_coins z_t z_t_5 z_t_5_1 x1 = some y) : CRi l MX8_coins 0 0 D a [.ref q_t, .int x1] (rc8 a q_t Q_t z_t ++ (rc5 a (Q_t 5) Q_t_5 z_t_5 ++ (rc0 a (Q_t_5 1) Q_t_5_1 z_t_5_1))) (fun r => r = y) := by
  unfold fX8_coins at h
  refine entR (by decide) (Nat.le_of_ble_eq_true rfl) ?_
  intro p e s m below meth c C hK hP ls hl
  obtain ⟨hx, hb, hml, hown, hts, hr, hlocks, hnm⟩ := id C
  have hb : c.code = cX8_coins := hb
  have hown : s.vm.findClass RX8 = some m.cls := hown
  have hl : lv_has ls 2 [(0, .ref q_t), (1, .int x1)] := hl
  refine lv_iload_n hx hb dX8_coins_0 rfl (lv_at hl 1 rfl) ?_
  by_cases c1_0 : x1 = 0
  · have h := ite_t c1_0 h
    refine lv_tableIn (off := 27) (tgt := 28) hx hb dX8_coins_1 (by rw [c1_0]; decide) (by rw [c1_0]; decide) (by rw [c1_0]; decide) (by decide) ?_
    refine lv_aload_n hx hb dX8_coins_28 rfl (lv_at hl 0 rfl) ?_
    refine va_get (D := D) (v := .ref (Q_t 5)) (C := RX8) (T := TX8) (N := 11) hx hb hts iX8 hown hK.1 hP 0 rfl rfl 5 (by decide) (hts _ t_305) (fun _ h9 => h9) rfl dX8_coins_29 ?_
    refine va_get (D := D) (v := .ref (Q_t_5 1)) (C := RX5) (T := TX5) (N := 8) hx hb hts iX5 hown hK.1 hP 2 rfl rfl 1 (by decide) (hts _ t_163) (fun _ h9 => h9) rfl dX8_coins_32 ?_
    refine va_get (D := D) (v := .int (gI z_t_5_1 1)) (C := RX0) (T := TX0) (N := 6) hx hb hts iX0 hown hK.1 hP 5 rfl rfl 1 (by decide) (hts _ t_135) (fun _ h9 => h9) rfl dX8_coins_35 ?_
    exact rRi C rfl (Option.some.inj h) dX8_coins_38
  have h := ite_f c1_0 h
  by_cases c1_1 : x1 = 1
  · have h := ite_t c1_1 h
    refine lv_tableIn (off := 38) (tgt := 39) hx hb dX8_coins_1 (by rw [c1_1]; decide) (by rw [c1_1]; decide) (by rw [c1_1]; decide) (by decide) ?_
    refine lv_aload_n hx hb dX8_coins_39 rfl (lv_at hl 0 rfl) ?_
    refine va_get (D := D) (v := .ref (Q_t 5)) (C := RX8) (T := TX8) (N := 11) hx hb hts iX8 hown hK.1 hP 0 rfl rfl 5 (by decide) (hts _ t_305) (fun _ h9 => h9) rfl dX8_coins_40 ?_
    refine va_get (D := D) (v := .int (gI z_t_5 2)) (C := RX5) (T := TX5) (N := 8) hx hb hts iX5 hown hK.1 hP 2 rfl rfl 2 (by decide) (hts _ t_165) (fun _ h9 => h9) rfl dX8_coins_43 ?_
    exact rRi C rfl (Option.some.inj h) dX8_coins_46
  have h := ite_f c1_1 h
  by_cases c1_2 : x1 = 2
  · have h := ite_t c1_2 h
    refine lv_tableIn (off := 46) (tgt := 47) hx hb dX8_coins_1 (by rw [c1_2]; decide) (by rw [c1_2]; decide) (by rw [c1_2]; decide) (by decide) ?_
    refine lv_aload_n hx hb dX8_coins_47 rfl (lv_at hl 0 rfl) ?_
    refine va_get (D := D) (v := .ref (Q_t 5)) (C := RX8) (T := TX8) (N := 11) hx hb hts iX8 hown hK.1 hP 0 rfl rfl 5 (by decide) (hts _ t_305) (fun _ h9 => h9) rfl dX8_coins_48 ?_
    refine va_get (D := D) (v := .int (gI z_t_5 3)) (C := RX5) (T := TX5) (N := 8) hx hb hts iX5 hown hK.1 hP 2 rfl rfl 3 (by decide) (hts _ t_167) (fun _ h9 => h9) rfl dX8_coins_51 ?_
    exact rRi C rfl (Option.some.inj h) dX8_coins_54
  have h := ite_f c1_2 h
  refine lv_tableOut (tgt := 55) hx hb dX8_coins_1 (by have := lv_neT c1_0 (show (0 : Int32).toInt = 0 by decide); have := lv_neT c1_1 (show (1 : Int32).toInt = 1 by decide); have := lv_neT c1_2 (show (2 : Int32).toInt = 2 by decide); omega) (by decide) ?_
  refine lv_ldc hx hb hown (hts _ t_640) dX8_coins_55 ?_
  exact rRi C rfl (Option.some.inj h) dX8_coins_57

def fX8_count (z_t : Sx) (z_t_5 : Sx) (z_t_5_0 : Sx) (z_t_5_1 : Sx) (x1 : Int32) : Option (Int32) := if x1 = 0 then some (gI z_t_5_0 3) else if x1 = 1 then some (gI z_t_5_0 2) else if x1 = 2 then some (gI z_t 3) else if x1 = 3 then some (gI z_t_5_1 0) else if x1 = 4 then bd (fJ6_bitCount_0f7a4 (gI z_t_5_1 2)) (fun r3 => some r3) else if x1 = 5 then bd (fJ6_bitCount_0f7a4 (gI z_t_5_1 3)) (fun r5 => some r5) else if x1 = 6 then some (gI z_t_5 6) else if x1 = 7 then some (gI z_t_5_1 4) else if x1 = 8 then some (gI z_t 1) else if x1 = 9 then some (gI z_t_5 4) else if x1 = 10 then some (gI z_t_5_0 1) else some (-1)

set_option maxHeartbeats 4000000 in
set_option maxRecDepth 100000 in
theorem mX8_count (l : Launch) (D : va_G) (a : Nat → ClassId) {q_t : Nat} {Q_t : Nat → Nat} {z_t : Sx} {Q_t_5 : Nat → Nat} {z_t_5 : Sx} {Q_t_5_0 : Nat → Nat} {z_t_5_0 : Sx} {Q_t_5_1 : Nat → Nat} {z_t_5_1 : Sx} {x1 : Int32} {y : Int32} (h : fX8_count z_t z_t_5 z_t_5_0 z_t_5_1 x1 = some y) : CRi l MX8_count 1 20 D a [.ref q_t, .int x1] (rc8 a q_t Q_t z_t ++ (rc5 a (Q_t 5) Q_t_5 z_t_5 ++ (rc7 a (Q_t_5 0) Q_t_5_0 z_t_5_0 ++ (rc0 a (Q_t_5 1) Q_t_5_1 z_t_5_1)))) (fun r => r = y) := by
  unfold fX8_count at h
  refine entR (by decide) (Nat.le_of_ble_eq_true rfl) ?_
  intro p e s m below meth c C hK hP ls hl
  obtain ⟨hx, hb, hml, hown, hts, hr, hlocks, hnm⟩ := id C
  have hb : c.code = cX8_count := hb
  have hown : s.vm.findClass RX8 = some m.cls := hown
  have hl : lv_has ls 2 [(0, .ref q_t), (1, .int x1)] := hl
  refine lv_iload_n hx hb dX8_count_0 rfl (lv_at hl 1 rfl) ?_
  by_cases c1_0 : x1 = 0
  · have h := ite_t c1_0 h
    refine lv_tableIn (off := 59) (tgt := 60) hx hb dX8_count_1 (by rw [c1_0]; decide) (by rw [c1_0]; decide) (by rw [c1_0]; decide) (by decide) ?_
    refine lv_aload_n hx hb dX8_count_60 rfl (lv_at hl 0 rfl) ?_
    refine va_get (D := D) (v := .ref (Q_t 5)) (C := RX8) (T := TX8) (N := 11) hx hb hts iX8 hown hK.1 hP 0 rfl rfl 5 (by decide) (hts _ t_305) (fun _ h9 => h9) rfl dX8_count_61 ?_
    refine va_get (D := D) (v := .ref (Q_t_5 0)) (C := RX5) (T := TX5) (N := 8) hx hb hts iX5 hown hK.1 hP 2 rfl rfl 0 (by decide) (hts _ t_161) (fun _ h9 => h9) rfl dX8_count_64 ?_
    refine va_get (D := D) (v := .int (gI z_t_5_0 3)) (C := RX7) (T := TX7) (N := 18) hx hb hts iX7 hown hK.1 hP 5 rfl rfl 3 (by decide) (hts _ t_47) (fun _ h9 => h9) rfl dX8_count_67 ?_
    exact rRi C rfl (Option.some.inj h) dX8_count_70
  have h := ite_f c1_0 h
  by_cases c1_1 : x1 = 1
  · have h := ite_t c1_1 h
    refine lv_tableIn (off := 70) (tgt := 71) hx hb dX8_count_1 (by rw [c1_1]; decide) (by rw [c1_1]; decide) (by rw [c1_1]; decide) (by decide) ?_
    refine lv_aload_n hx hb dX8_count_71 rfl (lv_at hl 0 rfl) ?_
    refine va_get (D := D) (v := .ref (Q_t 5)) (C := RX8) (T := TX8) (N := 11) hx hb hts iX8 hown hK.1 hP 0 rfl rfl 5 (by decide) (hts _ t_305) (fun _ h9 => h9) rfl dX8_count_72 ?_
    refine va_get (D := D) (v := .ref (Q_t_5 0)) (C := RX5) (T := TX5) (N := 8) hx hb hts iX5 hown hK.1 hP 2 rfl rfl 0 (by decide) (hts _ t_161) (fun _ h9 => h9) rfl dX8_count_75 ?_
    refine va_get (D := D) (v := .int (gI z_t_5_0 2)) (C := RX7) (T := TX7) (N := 18) hx hb hts iX7 hown hK.1 hP 5 rfl rfl 2 (by decide) (hts _ t_43) (fun _ h9 => h9) rfl dX8_count_78 ?_
    exact rRi C rfl (Option.some.inj h) dX8_count_81
  have h := ite_f c1_1 h
  by_cases c1_2 : x1 = 2
  · have h := ite_t c1_2 h
    refine lv_tableIn (off := 81) (tgt := 82) hx hb dX8_count_1 (by rw [c1_2]; decide) (by rw [c1_2]; decide) (by rw [c1_2]; decide) (by decide) ?_
    refine lv_aload_n hx hb dX8_count_82 rfl (lv_at hl 0 rfl) ?_
    refine va_get (D := D) (v := .int (gI z_t 3)) (C := RX8) (T := TX8) (N := 11) hx hb hts iX8 hown hK.1 hP 0 rfl rfl 3 (by decide) (hts _ t_303) (fun _ h9 => h9) rfl dX8_count_83 ?_
    exact rRi C rfl (Option.some.inj h) dX8_count_86
  have h := ite_f c1_2 h
  by_cases c1_3 : x1 = 3
  · have h := ite_t c1_3 h
    refine lv_tableIn (off := 86) (tgt := 87) hx hb dX8_count_1 (by rw [c1_3]; decide) (by rw [c1_3]; decide) (by rw [c1_3]; decide) (by decide) ?_
    refine lv_aload_n hx hb dX8_count_87 rfl (lv_at hl 0 rfl) ?_
    refine va_get (D := D) (v := .ref (Q_t 5)) (C := RX8) (T := TX8) (N := 11) hx hb hts iX8 hown hK.1 hP 0 rfl rfl 5 (by decide) (hts _ t_305) (fun _ h9 => h9) rfl dX8_count_88 ?_
    refine va_get (D := D) (v := .ref (Q_t_5 1)) (C := RX5) (T := TX5) (N := 8) hx hb hts iX5 hown hK.1 hP 2 rfl rfl 1 (by decide) (hts _ t_163) (fun _ h9 => h9) rfl dX8_count_91 ?_
    refine va_get (D := D) (v := .int (gI z_t_5_1 0)) (C := RX0) (T := TX0) (N := 6) hx hb hts iX0 hown hK.1 hP 18 rfl rfl 0 (by decide) (hts _ t_132) (fun _ h9 => h9) rfl dX8_count_94 ?_
    exact rRi C rfl (Option.some.inj h) dX8_count_97
  have h := ite_f c1_3 h
  by_cases c1_4 : x1 = 4
  · have h := ite_t c1_4 h
    refine lv_tableIn (off := 97) (tgt := 98) hx hb dX8_count_1 (by rw [c1_4]; decide) (by rw [c1_4]; decide) (by rw [c1_4]; decide) (by decide) ?_
    refine lv_aload_n hx hb dX8_count_98 rfl (lv_at hl 0 rfl) ?_
    refine va_get (D := D) (v := .ref (Q_t 5)) (C := RX8) (T := TX8) (N := 11) hx hb hts iX8 hown hK.1 hP 0 rfl rfl 5 (by decide) (hts _ t_305) (fun _ h9 => h9) rfl dX8_count_99 ?_
    refine va_get (D := D) (v := .ref (Q_t_5 1)) (C := RX5) (T := TX5) (N := 8) hx hb hts iX5 hown hK.1 hP 2 rfl rfl 1 (by decide) (hts _ t_163) (fun _ h9 => h9) rfl dX8_count_102 ?_
    refine va_get (D := D) (v := .int (gI z_t_5_1 2)) (C := RX0) (T := TX0) (N := 6) hx hb hts iX0 hown hK.1 hP 18 rfl rfl 2 (by decide) (hts _ t_138) (fun _ h9 => h9) rfl dX8_count_105 ?_
    obtain ⟨r3, hc2, h⟩ := bd_some h
    refine cRi (runS (As := [.int (gI z_t_5_1 2)]) (rest := []) C (mJ6_bitCount_0f7a4 l D a hc2) lk_S_8_181 okN_J6_bitCount_0f7a4 ⟨Nat.le_of_ble_eq_true rfl, Nat.le_of_ble_eq_true rfl⟩ ⟨rfl, rfl⟩ (preR hK (P_of_map (wc := []) hP [] rfl)) hl.1 rfl (Nat.le_of_ble_eq_true rfl) dX8_count_108 ⟨Nat.le_of_ble_eq_true rfl, Nat.le_of_ble_eq_true rfl⟩) ?_
    exact rRi C rfl (Option.some.inj h) dX8_count_111
  have h := ite_f c1_4 h
  by_cases c1_5 : x1 = 5
  · have h := ite_t c1_5 h
    refine lv_tableIn (off := 111) (tgt := 112) hx hb dX8_count_1 (by rw [c1_5]; decide) (by rw [c1_5]; decide) (by rw [c1_5]; decide) (by decide) ?_
    refine lv_aload_n hx hb dX8_count_112 rfl (lv_at hl 0 rfl) ?_
    refine va_get (D := D) (v := .ref (Q_t 5)) (C := RX8) (T := TX8) (N := 11) hx hb hts iX8 hown hK.1 hP 0 rfl rfl 5 (by decide) (hts _ t_305) (fun _ h9 => h9) rfl dX8_count_113 ?_
    refine va_get (D := D) (v := .ref (Q_t_5 1)) (C := RX5) (T := TX5) (N := 8) hx hb hts iX5 hown hK.1 hP 2 rfl rfl 1 (by decide) (hts _ t_163) (fun _ h9 => h9) rfl dX8_count_116 ?_
    refine va_get (D := D) (v := .int (gI z_t_5_1 3)) (C := RX0) (T := TX0) (N := 6) hx hb hts iX0 hown hK.1 hP 18 rfl rfl 3 (by decide) (hts _ t_141) (fun _ h9 => h9) rfl dX8_count_119 ?_
    obtain ⟨r5, hc4, h⟩ := bd_some h
    refine cRi (runS (As := [.int (gI z_t_5_1 3)]) (rest := []) C (mJ6_bitCount_0f7a4 l D a hc4) lk_S_8_181 okN_J6_bitCount_0f7a4 ⟨Nat.le_of_ble_eq_true rfl, Nat.le_of_ble_eq_true rfl⟩ ⟨rfl, rfl⟩ (preR hK (P_of_map (wc := []) hP [] rfl)) hl.1 rfl (Nat.le_of_ble_eq_true rfl) dX8_count_122 ⟨Nat.le_of_ble_eq_true rfl, Nat.le_of_ble_eq_true rfl⟩) ?_
    exact rRi C rfl (Option.some.inj h) dX8_count_125
  have h := ite_f c1_5 h
  by_cases c1_6 : x1 = 6
  · have h := ite_t c1_6 h
    refine lv_tableIn (off := 125) (tgt := 126) hx hb dX8_count_1 (by rw [c1_6]; decide) (by rw [c1_6]; decide) (by rw [c1_6]; decide) (by decide) ?_
    refine lv_aload_n hx hb dX8_count_126 rfl (lv_at hl 0 rfl) ?_
    refine va_get (D := D) (v := .ref (Q_t 5)) (C := RX8) (T := TX8) (N := 11) hx hb hts iX8 hown hK.1 hP 0 rfl rfl 5 (by decide) (hts _ t_305) (fun _ h9 => h9) rfl dX8_count_127 ?_
    refine va_get (D := D) (v := .int (gI z_t_5 6)) (C := RX5) (T := TX5) (N := 8) hx hb hts iX5 hown hK.1 hP 2 rfl rfl 6 (by decide) (hts _ t_173) (fun _ h9 => h9) rfl dX8_count_130 ?_
    exact rRi C rfl (Option.some.inj h) dX8_count_133
  have h := ite_f c1_6 h
  by_cases c1_7 : x1 = 7
  · have h := ite_t c1_7 h
    refine lv_tableIn (off := 133) (tgt := 134) hx hb dX8_count_1 (by rw [c1_7]; decide) (by rw [c1_7]; decide) (by rw [c1_7]; decide) (by decide) ?_
    refine lv_aload_n hx hb dX8_count_134 rfl (lv_at hl 0 rfl) ?_
    refine va_get (D := D) (v := .ref (Q_t 5)) (C := RX8) (T := TX8) (N := 11) hx hb hts iX8 hown hK.1 hP 0 rfl rfl 5 (by decide) (hts _ t_305) (fun _ h9 => h9) rfl dX8_count_135 ?_
    refine va_get (D := D) (v := .ref (Q_t_5 1)) (C := RX5) (T := TX5) (N := 8) hx hb hts iX5 hown hK.1 hP 2 rfl rfl 1 (by decide) (hts _ t_163) (fun _ h9 => h9) rfl dX8_count_138 ?_
    refine va_get (D := D) (v := .int (gI z_t_5_1 4)) (C := RX0) (T := TX0) (N := 6) hx hb hts iX0 hown hK.1 hP 18 rfl rfl 4 (by decide) (hts _ t_143) (fun _ h9 => h9) rfl dX8_count_141 ?_
    exact rRi C rfl (Option.some.inj h) dX8_count_144
  have h := ite_f c1_7 h
  by_cases c1_8 : x1 = 8
  · have h := ite_t c1_8 h
    refine lv_tableIn (off := 144) (tgt := 145) hx hb dX8_count_1 (by rw [c1_8]; decide) (by rw [c1_8]; decide) (by rw [c1_8]; decide) (by decide) ?_
    refine lv_aload_n hx hb dX8_count_145 rfl (lv_at hl 0 rfl) ?_
    refine va_get (D := D) (v := .int (gI z_t 1)) (C := RX8) (T := TX8) (N := 11) hx hb hts iX8 hown hK.1 hP 0 rfl rfl 1 (by decide) (hts _ t_301) (fun _ h9 => h9) rfl dX8_count_146 ?_
    exact rRi C rfl (Option.some.inj h) dX8_count_149
  have h := ite_f c1_8 h
  by_cases c1_9 : x1 = 9
  · have h := ite_t c1_9 h
    refine lv_tableIn (off := 149) (tgt := 150) hx hb dX8_count_1 (by rw [c1_9]; decide) (by rw [c1_9]; decide) (by rw [c1_9]; decide) (by decide) ?_
    refine lv_aload_n hx hb dX8_count_150 rfl (lv_at hl 0 rfl) ?_
    refine va_get (D := D) (v := .ref (Q_t 5)) (C := RX8) (T := TX8) (N := 11) hx hb hts iX8 hown hK.1 hP 0 rfl rfl 5 (by decide) (hts _ t_305) (fun _ h9 => h9) rfl dX8_count_151 ?_
    refine va_get (D := D) (v := .int (gI z_t_5 4)) (C := RX5) (T := TX5) (N := 8) hx hb hts iX5 hown hK.1 hP 2 rfl rfl 4 (by decide) (hts _ t_169) (fun _ h9 => h9) rfl dX8_count_154 ?_
    exact rRi C rfl (Option.some.inj h) dX8_count_157
  have h := ite_f c1_9 h
  by_cases c1_10 : x1 = 10
  · have h := ite_t c1_10 h
    refine lv_tableIn (off := 157) (tgt := 158) hx hb dX8_count_1 (by rw [c1_10]; decide) (by rw [c1_10]; decide) (by rw [c1_10]; decide) (by decide) ?_
    refine lv_aload_n hx hb dX8_count_158 rfl (lv_at hl 0 rfl) ?_
    refine va_get (D := D) (v := .ref (Q_t 5)) (C := RX8) (T := TX8) (N := 11) hx hb hts iX8 hown hK.1 hP 0 rfl rfl 5 (by decide) (hts _ t_305) (fun _ h9 => h9) rfl dX8_count_159 ?_
    refine va_get (D := D) (v := .ref (Q_t_5 0)) (C := RX5) (T := TX5) (N := 8) hx hb hts iX5 hown hK.1 hP 2 rfl rfl 0 (by decide) (hts _ t_161) (fun _ h9 => h9) rfl dX8_count_162 ?_
    refine va_get (D := D) (v := .int (gI z_t_5_0 1)) (C := RX7) (T := TX7) (N := 18) hx hb hts iX7 hown hK.1 hP 5 rfl rfl 1 (by decide) (hts _ t_41) (fun _ h9 => h9) rfl dX8_count_165 ?_
    exact rRi C rfl (Option.some.inj h) dX8_count_168
  have h := ite_f c1_10 h
  refine lv_tableOut (tgt := 169) hx hb dX8_count_1 (by have := lv_neT c1_0 (show (0 : Int32).toInt = 0 by decide); have := lv_neT c1_1 (show (1 : Int32).toInt = 1 by decide); have := lv_neT c1_2 (show (2 : Int32).toInt = 2 by decide); have := lv_neT c1_3 (show (3 : Int32).toInt = 3 by decide); have := lv_neT c1_4 (show (4 : Int32).toInt = 4 by decide); have := lv_neT c1_5 (show (5 : Int32).toInt = 5 by decide); have := lv_neT c1_6 (show (6 : Int32).toInt = 6 by decide); have := lv_neT c1_7 (show (7 : Int32).toInt = 7 by decide); have := lv_neT c1_8 (show (8 : Int32).toInt = 8 by decide); have := lv_neT c1_9 (show (9 : Int32).toInt = 9 by decide); have := lv_neT c1_10 (show (10 : Int32).toInt = 10 by decide); omega) (by decide) ?_
  refine lv_iconst (v := (-1)) hx hb dX8_count_169 (by decide) ?_
  exact rRi C rfl (Option.some.inj h) dX8_count_170

def fX8_dawn (z_t : Sx) (z_t_5 : Sx) (z_t_5_0 : Sx) (z_t_5_1 : Sx) : Option (Int32 × Sx × Sx) := bd (fX8_hasWork z_t z_t_5 z_t_5_0) (fun r2 => if r2 = 0 then some ((-1000000), z_t_5, z_t_5_1) else bd (fX0_gone z_t_5_1) (fun r5 => bd (fX7_hiddenCoins z_t_5_0 r5) (fun r7 => bd (fX0_begin z_t_5_1 (gI z_t_5_0 1)) (fun z9 => some ((gI z_t_5 2) + r7, sI (sI (sI z_t_5 2 ((gI z_t_5 2) + r7)) 3 ((gI z_t_5 3) + (gI z_t_5_1 1))) 4 ((gI z_t_5 4) + 1), z9)))))

set_option maxHeartbeats 4000000 in
set_option maxRecDepth 100000 in
theorem mX8_dawn (l : Launch) (D : va_G) (a : Nat → ClassId) {q_t : Nat} {Q_t : Nat → Nat} {z_t : Sx} {Q_t_5 : Nat → Nat} {z_t_5 : Sx} {Q_t_5_0 : Nat → Nat} {z_t_5_0 : Sx} {Q_t_5_1 : Nat → Nat} {z_t_5_1 : Sx} {y : Int32 × Sx × Sx} (h : fX8_dawn z_t z_t_5 z_t_5_0 z_t_5_1 = some y) (sz : Nat) : CMi (S := Unit) l MX8_dawn 3 66 0 0 D a [.ref q_t] (rc8 a q_t Q_t z_t ++ (rc5 a (Q_t 5) Q_t_5 z_t_5 ++ (rc7 a (Q_t_5 0) Q_t_5_0 z_t_5_0 ++ (rc0 a (Q_t_5 1) Q_t_5_1 z_t_5_1)))) sz (fun r _ => r = y.1) (fun _ => rc8 a q_t Q_t z_t ++ (rc5 a (Q_t 5) Q_t_5 y.2.1 ++ (rc7 a (Q_t_5 0) Q_t_5_0 z_t_5_0 ++ (rc0 a (Q_t_5 1) Q_t_5_1 y.2.2)))) := by
  unfold fX8_dawn at h
  refine entMi (by decide) (Nat.le_of_ble_eq_true rfl) ?_
  intro p e s m below meth c C hK A hA hP hD ls hl
  obtain ⟨hx, hb, hml, hown, hts, hr, hlocks, hnm⟩ := id C
  have hb : c.code = cX8_dawn := hb
  have hown : s.vm.findClass RX8 = some m.cls := hown
  have hS : va_S A s.heap s.heap [] := va_S.rf
  have hl : lv_has ls 1 [(0, .ref q_t)] := hl
  refine lv_aload_n hx hb dX8_dawn_0 rfl (lv_at hl 0 rfl) ?_
  obtain ⟨r2, hc1, h⟩ := bd_some h
  refine cRi (runV (As := []) (rest := []) C (mX8_hasWork l D a hc1) lk_V_8_213 okN_X8_hasWork ⟨Nat.le_of_ble_eq_true rfl, Nat.le_of_ble_eq_true rfl⟩ ⟨rfl, rfl⟩ (preV (preR hK (P_of_map (wc := rc8 a q_t Q_t z_t ++ (rc5 a (Q_t 5) Q_t_5 z_t_5 ++ (rc7 a (Q_t_5 0) Q_t_5_0 z_t_5_0))) hP [0, 1, 2, 3, 4, 5, 6, 7, 8, 9, 10, 11, 12, 13, 14, 15, 16, 17] rfl)) (recvOf hK hP 0 rfl (ci := 8) rfl)) hl.1 rfl (Nat.le_of_ble_eq_true rfl) dX8_dawn_1 ⟨Nat.le_of_ble_eq_true rfl, Nat.le_of_ble_eq_true rfl⟩) ?_
  refine lv_if_ne (tgt := 10) hx hb dX8_dawn_4 (by decide) (fun c3 => ?_) (fun c3 => ?_)
  · have h := ite_f c3 h
    refine lv_aload_n hx hb dX8_dawn_10 rfl (lv_at hl 0 rfl) ?_
    refine va_get (D := D) (v := .ref (Q_t 5)) (C := RX8) (T := TX8) (N := 11) hx hb hts iX8 hown hK.1 hP 0 rfl rfl 5 (by decide) (hts _ t_305) (fun _ h9 => h9) rfl dX8_dawn_11 ?_
    refine lv_dup hx hb dX8_dawn_14 rfl ?_
    refine va_get (D := D) (v := .int (gI z_t_5 2)) (C := RX5) (T := TX5) (N := 8) hx hb hts iX5 hown hK.1 hP 2 rfl rfl 2 (by decide) (hts _ t_165) (fun _ h9 => h9) rfl dX8_dawn_15 ?_
    refine lv_aload_n hx hb dX8_dawn_18 rfl (lv_at hl 0 rfl) ?_
    refine va_get (D := D) (v := .ref (Q_t 5)) (C := RX8) (T := TX8) (N := 11) hx hb hts iX8 hown hK.1 hP 0 rfl rfl 5 (by decide) (hts _ t_305) (fun _ h9 => h9) rfl dX8_dawn_19 ?_
    refine va_get (D := D) (v := .ref (Q_t_5 0)) (C := RX5) (T := TX5) (N := 8) hx hb hts iX5 hown hK.1 hP 2 rfl rfl 0 (by decide) (hts _ t_161) (fun _ h9 => h9) rfl dX8_dawn_22 ?_
    refine lv_aload_n hx hb dX8_dawn_25 rfl (lv_at hl 0 rfl) ?_
    refine va_get (D := D) (v := .ref (Q_t 5)) (C := RX8) (T := TX8) (N := 11) hx hb hts iX8 hown hK.1 hP 0 rfl rfl 5 (by decide) (hts _ t_305) (fun _ h9 => h9) rfl dX8_dawn_26 ?_
    refine va_get (D := D) (v := .ref (Q_t_5 1)) (C := RX5) (T := TX5) (N := 8) hx hb hts iX5 hown hK.1 hP 2 rfl rfl 1 (by decide) (hts _ t_163) (fun _ h9 => h9) rfl dX8_dawn_29 ?_
    obtain ⟨r5, hc4, h⟩ := bd_some h
    refine cRi (runV (As := []) (rest := [.ref (Q_t_5 0), .int (gI z_t_5 2), .ref (Q_t 5)]) C (mX0_gone l D a hc4) lk_V_8_171 okN_X0_gone ⟨Nat.le_of_ble_eq_true rfl, Nat.le_of_ble_eq_true rfl⟩ ⟨rfl, rfl⟩ (preV (preR hK (P_of_map (wc := rc0 a (Q_t_5 1) Q_t_5_1 z_t_5_1) hP [18, 19] rfl)) (recvOf hK hP 18 rfl (ci := 0) rfl)) hl.1 rfl (Nat.le_of_ble_eq_true rfl) dX8_dawn_32 ⟨Nat.le_of_ble_eq_true rfl, Nat.le_of_ble_eq_true rfl⟩) ?_
    obtain ⟨r7, hc6, h⟩ := bd_some h
    refine cRi (runV (As := [.int r5]) (rest := [.int (gI z_t_5 2), .ref (Q_t 5)]) C (mX7_hiddenCoins l D a hc6) lk_V_8_222 okN_X7_hiddenCoins ⟨Nat.le_of_ble_eq_true rfl, Nat.le_of_ble_eq_true rfl⟩ ⟨rfl, rfl⟩ (preV (preR hK (P_of_map (wc := rc7 a (Q_t_5 0) Q_t_5_0 z_t_5_0) hP [5, 6, 7, 8, 9, 10, 11, 12, 13, 14, 15, 16, 17] rfl)) (recvOf hK hP 5 rfl (ci := 7) rfl)) hl.1 rfl (Nat.le_of_ble_eq_true rfl) dX8_dawn_35 ⟨Nat.le_of_ble_eq_true rfl, Nat.le_of_ble_eq_true rfl⟩) ?_
    refine lv_iadd hx hb dX8_dawn_38 ?_
    refine va_put (D := D) (v := .int ((gI z_t_5 2) + r7)) (C := RX5) (T := TX5) (N := 8) hx hb hts iX5 tyX5 tyX5_ok nmX5 hown hK.1 hP hD hS 2 rfl rfl 2 (by decide) (hts _ t_165) (fun _ h9 => h9) rfl (tyX5_ok 2 (by decide)) rfl rfl (Nat.le_of_ble_eq_true rfl) dX8_dawn_39 (fun H locs hP hD hS => ?_)
    have hP : va_P D classes (rc8 a q_t Q_t z_t ++ (rc5 a (Q_t 5) Q_t_5 (sI z_t_5 2 ((gI z_t_5 2) + r7)) ++ (rc7 a (Q_t_5 0) Q_t_5_0 z_t_5_0 ++ (rc0 a (Q_t_5 1) Q_t_5_1 z_t_5_1)))) H := hP
    have hD : va_D A (rc8 a q_t Q_t z_t ++ (rc5 a (Q_t 5) Q_t_5 (sI z_t_5 2 ((gI z_t_5 2) + r7)) ++ (rc7 a (Q_t_5 0) Q_t_5_0 z_t_5_0 ++ (rc0 a (Q_t_5 1) Q_t_5_1 z_t_5_1)))) := hD
    refine lv_aload_n hx hb dX8_dawn_42 rfl (lv_at hl 0 rfl) ?_
    refine va_get (D := D) (v := .ref (Q_t 5)) (C := RX8) (T := TX8) (N := 11) hx hb hts iX8 hown hK.1 hP 0 rfl rfl 5 (by decide) (hts _ t_305) (fun _ h9 => h9) rfl dX8_dawn_43 ?_
    refine lv_dup hx hb dX8_dawn_46 rfl ?_
    refine va_get (D := D) (v := .int (gI z_t_5 3)) (C := RX5) (T := TX5) (N := 8) hx hb hts iX5 hown hK.1 hP 2 rfl rfl 3 (by decide) (hts _ t_167) (fun _ h9 => h9) rfl dX8_dawn_47 ?_
    refine lv_aload_n hx hb dX8_dawn_50 rfl (lv_at hl 0 rfl) ?_
    refine va_get (D := D) (v := .ref (Q_t 5)) (C := RX8) (T := TX8) (N := 11) hx hb hts iX8 hown hK.1 hP 0 rfl rfl 5 (by decide) (hts _ t_305) (fun _ h9 => h9) rfl dX8_dawn_51 ?_
    refine va_get (D := D) (v := .ref (Q_t_5 1)) (C := RX5) (T := TX5) (N := 8) hx hb hts iX5 hown hK.1 hP 2 rfl rfl 1 (by decide) (hts _ t_163) (fun _ h9 => h9) rfl dX8_dawn_54 ?_
    refine va_get (D := D) (v := .int (gI z_t_5_1 1)) (C := RX0) (T := TX0) (N := 6) hx hb hts iX0 hown hK.1 hP 18 rfl rfl 1 (by decide) (hts _ t_135) (fun _ h9 => h9) rfl dX8_dawn_57 ?_
    refine lv_iadd hx hb dX8_dawn_60 ?_
    refine va_put (D := D) (v := .int ((gI z_t_5 3) + (gI z_t_5_1 1))) (C := RX5) (T := TX5) (N := 8) hx hb hts iX5 tyX5 tyX5_ok nmX5 hown hK.1 hP hD hS 2 rfl rfl 3 (by decide) (hts _ t_167) (fun _ h9 => h9) rfl (tyX5_ok 3 (by decide)) rfl rfl (Nat.le_of_ble_eq_true rfl) dX8_dawn_61 (fun H locs hP hD hS => ?_)
    have hP : va_P D classes (rc8 a q_t Q_t z_t ++ (rc5 a (Q_t 5) Q_t_5 (sI (sI z_t_5 2 ((gI z_t_5 2) + r7)) 3 ((gI z_t_5 3) + (gI z_t_5_1 1))) ++ (rc7 a (Q_t_5 0) Q_t_5_0 z_t_5_0 ++ (rc0 a (Q_t_5 1) Q_t_5_1 z_t_5_1)))) H := hP
    have hD : va_D A (rc8 a q_t Q_t z_t ++ (rc5 a (Q_t 5) Q_t_5 (sI (sI z_t_5 2 ((gI z_t_5 2) + r7)) 3 ((gI z_t_5 3) + (gI z_t_5_1 1))) ++ (rc7 a (Q_t_5 0) Q_t_5_0 z_t_5_0 ++ (rc0 a (Q_t_5 1) Q_t_5_1 z_t_5_1)))) := hD
    refine lv_aload_n hx hb dX8_dawn_64 rfl (lv_at hl 0 rfl) ?_
    refine va_get (D := D) (v := .ref (Q_t 5)) (C := RX8) (T := TX8) (N := 11) hx hb hts iX8 hown hK.1 hP 0 rfl rfl 5 (by decide) (hts _ t_305) (fun _ h9 => h9) rfl dX8_dawn_65 ?_
    refine lv_dup hx hb dX8_dawn_68 rfl ?_
    refine va_get (D := D) (v := .int (gI z_t_5 4)) (C := RX5) (T := TX5) (N := 8) hx hb hts iX5 hown hK.1 hP 2 rfl rfl 4 (by decide) (hts _ t_169) (fun _ h9 => h9) rfl dX8_dawn_69 ?_
    refine lv_iconst (v := 1) hx hb dX8_dawn_72 (by decide) ?_
    refine lv_iadd hx hb dX8_dawn_73 ?_
    refine va_put (D := D) (v := .int ((gI z_t_5 4) + 1)) (C := RX5) (T := TX5) (N := 8) hx hb hts iX5 tyX5 tyX5_ok nmX5 hown hK.1 hP hD hS 2 rfl rfl 4 (by decide) (hts _ t_169) (fun _ h9 => h9) rfl (tyX5_ok 4 (by decide)) rfl rfl (Nat.le_of_ble_eq_true rfl) dX8_dawn_74 (fun H locs hP hD hS => ?_)
    have hP : va_P D classes (rc8 a q_t Q_t z_t ++ (rc5 a (Q_t 5) Q_t_5 (sI (sI (sI z_t_5 2 ((gI z_t_5 2) + r7)) 3 ((gI z_t_5 3) + (gI z_t_5_1 1))) 4 ((gI z_t_5 4) + 1)) ++ (rc7 a (Q_t_5 0) Q_t_5_0 z_t_5_0 ++ (rc0 a (Q_t_5 1) Q_t_5_1 z_t_5_1)))) H := hP
    have hD : va_D A (rc8 a q_t Q_t z_t ++ (rc5 a (Q_t 5) Q_t_5 (sI (sI (sI z_t_5 2 ((gI z_t_5 2) + r7)) 3 ((gI z_t_5 3) + (gI z_t_5_1 1))) 4 ((gI z_t_5 4) + 1)) ++ (rc7 a (Q_t_5 0) Q_t_5_0 z_t_5_0 ++ (rc0 a (Q_t_5 1) Q_t_5_1 z_t_5_1)))) := hD
    refine lv_aload_n hx hb dX8_dawn_77 rfl (lv_at hl 0 rfl) ?_
    refine va_get (D := D) (v := .ref (Q_t 5)) (C := RX8) (T := TX8) (N := 11) hx hb hts iX8 hown hK.1 hP 0 rfl rfl 5 (by decide) (hts _ t_305) (fun _ h9 => h9) rfl dX8_dawn_78 ?_
    refine va_get (D := D) (v := .ref (Q_t_5 1)) (C := RX5) (T := TX5) (N := 8) hx hb hts iX5 hown hK.1 hP 2 rfl rfl 1 (by decide) (hts _ t_163) (fun _ h9 => h9) rfl dX8_dawn_81 ?_
    refine lv_aload_n hx hb dX8_dawn_84 rfl (lv_at hl 0 rfl) ?_
    refine va_get (D := D) (v := .ref (Q_t 5)) (C := RX8) (T := TX8) (N := 11) hx hb hts iX8 hown hK.1 hP 0 rfl rfl 5 (by decide) (hts _ t_305) (fun _ h9 => h9) rfl dX8_dawn_85 ?_
    refine va_get (D := D) (v := .ref (Q_t_5 0)) (C := RX5) (T := TX5) (N := 8) hx hb hts iX5 hown hK.1 hP 2 rfl rfl 0 (by decide) (hts _ t_161) (fun _ h9 => h9) rfl dX8_dawn_88 ?_
    refine va_get (D := D) (v := .int (gI z_t_5_0 1)) (C := RX7) (T := TX7) (N := 18) hx hb hts iX7 hown hK.1 hP 5 rfl rfl 1 (by decide) (hts _ t_41) (fun _ h9 => h9) rfl dX8_dawn_91 ?_
    obtain ⟨z9, hc8, h⟩ := bd_some h
    refine cMv (runV (As := [.int (gI z_t_5_0 1)]) (rest := []) C (mX0_begin l D a hc8 H.size) lk_V_8_225 okN_X0_begin ⟨Nat.le_of_ble_eq_true rfl, Nat.le_of_ble_eq_true rfl⟩ ⟨rfl, rfl⟩ (preV (preM hK (P_of_map (wc := rc0 a (Q_t_5 1) Q_t_5_1 z_t_5_1) hP [18, 19] rfl) (hD.sub (ws' := rc0 a (Q_t_5 1) Q_t_5_1 z_t_5_1) [18, 19] (by decide) rfl)) (recvOf hK hP 18 rfl (ci := 0) rfl)) hl.1 rfl (Nat.le_of_ble_eq_true rfl) dX8_dawn_94 ⟨Nat.le_of_ble_eq_true rfl, Nat.le_of_ble_eq_true rfl⟩) hP hD hS hA [18, 19] [0, 1, 2, 3, 4, 5, 6, 7, 8, 9, 10, 11, 12, 13, 14, 15, 16, 17] [0, 1, 2, 3, 4, 5, 6, 7, 8, 9, 10, 11, 12, 13, 14, 15, 16, 17, 18, 19] rfl rfl (by decide) (by decide) (fw := rc8 a q_t Q_t z_t ++ (rc5 a (Q_t 5) Q_t_5 (sI (sI (sI z_t_5 2 ((gI z_t_5 2) + r7)) 3 ((gI z_t_5 3) + (gI z_t_5_1 1))) 4 ((gI z_t_5 4) + 1)) ++ (rc7 a (Q_t_5 0) Q_t_5_0 z_t_5_0 ++ (rc0 a (Q_t_5 1) Q_t_5_1 z9)))) rfl (by decide) (fun H locs hP hD hS => ?_)
    have hP : va_P D classes (rc8 a q_t Q_t z_t ++ (rc5 a (Q_t 5) Q_t_5 (sI (sI (sI z_t_5 2 ((gI z_t_5 2) + r7)) 3 ((gI z_t_5 3) + (gI z_t_5_1 1))) 4 ((gI z_t_5 4) + 1)) ++ (rc7 a (Q_t_5 0) Q_t_5_0 z_t_5_0 ++ (rc0 a (Q_t_5 1) Q_t_5_1 z9)))) H := hP
    have hD : va_D A (rc8 a q_t Q_t z_t ++ (rc5 a (Q_t 5) Q_t_5 (sI (sI (sI z_t_5 2 ((gI z_t_5 2) + r7)) 3 ((gI z_t_5 3) + (gI z_t_5_1 1))) 4 ((gI z_t_5 4) + 1)) ++ (rc7 a (Q_t_5 0) Q_t_5_0 z_t_5_0 ++ (rc0 a (Q_t_5 1) Q_t_5_1 z9)))) := hD
    refine lv_aload_n hx hb dX8_dawn_97 rfl (lv_at hl 0 rfl) ?_
    refine va_get (D := D) (v := .ref (Q_t 5)) (C := RX8) (T := TX8) (N := 11) hx hb hts iX8 hown hK.1 hP 0 rfl rfl 5 (by decide) (hts _ t_305) (fun _ h9 => h9) rfl dX8_dawn_98 ?_
    refine va_get (D := D) (v := .int ((gI z_t_5 2) + r7)) (C := RX5) (T := TX5) (N := 8) hx hb hts iX5 hown hK.1 hP 2 rfl rfl 2 (by decide) (hts _ t_165) (fun _ h9 => h9) rfl dX8_dawn_101 ?_
    exact rMi C rfl h (g := fun y => rc8 a q_t Q_t z_t ++ (rc5 a (Q_t 5) Q_t_5 y.2.1 ++ (rc7 a (Q_t_5 0) Q_t_5_0 z_t_5_0 ++ (rc0 a (Q_t_5 1) Q_t_5_1 y.2.2)))) (pr := fun y => y.1) hP hD hS dX8_dawn_104
  · have h := ite_t c3 h
    refine lv_ldc hx hb hown (hts _ t_640) dX8_dawn_7 ?_
    exact rMi C rfl h (g := fun y => rc8 a q_t Q_t z_t ++ (rc5 a (Q_t 5) Q_t_5 y.2.1 ++ (rc7 a (Q_t_5 0) Q_t_5_0 z_t_5_0 ++ (rc0 a (Q_t_5 1) Q_t_5_1 y.2.2)))) (pr := fun y => y.1) hP hD hS dX8_dawn_9

def fX8_ruleForWork (z_t : Sx) (B_t_2 : Nat → Option Nat) (z_t_5 : Sx) (z_t_5_0 : Sx) (x1 : Int32) : Option ((Option Nat)) := jn (fun (i2 : Int32) => if i2 = 0 then some none else gd (inb x1 6) (some (B_t_2 x1.toNatClampNeg))) (fun J1 => jn (J1 0) (fun J5 => if x1 < 0 then J5 else if (gI z_t 3) ≤ x1 then J5 else if 6 ≤ x1 then J5 else bd (fX8_hasWork z_t z_t_5 z_t_5_0) (fun r10 => if r10 = 0 then J5 else J1 1)))

set_option maxHeartbeats 4000000 in
set_option maxRecDepth 100000 in
theorem mX8_ruleForWork (l : Launch) (D : va_G) (a : Nat → ClassId) {q_t : Nat} {Q_t : Nat → Nat} {z_t : Sx} {B_t_2 : Nat → Option Nat} {Q_t_5 : Nat → Nat} {z_t_5 : Sx} {Q_t_5_0 : Nat → Nat} {z_t_5_0 : Sx} {x1 : Int32} {y : (Option Nat)} (h : fX8_ruleForWork z_t B_t_2 z_t_5 z_t_5_0 x1 = some y) : CRq l MX8_ruleForWork 1 20 D a [.ref q_t, .int x1] (rc8 a q_t Q_t z_t ++ (rb4 a (Q_t 2) 6 B_t_2 ++ (rc5 a (Q_t 5) Q_t_5 z_t_5 ++ (rc7 a (Q_t_5 0) Q_t_5_0 z_t_5_0)))) (fun r => r = y) := by
  unfold fX8_ruleForWork at h
  refine entR (by decide) (Nat.le_of_ble_eq_true rfl) ?_
  intro p e s m below meth c C hK hP ls hl
  obtain ⟨hx, hb, hml, hown, hts, hr, hlocks, hnm⟩ := id C
  have hb : c.code = cX8_ruleForWork := hb
  have hown : s.vm.findClass RX8 = some m.cls := hown
  have hl : lv_has ls 3 [(0, .ref q_t), (1, .int x1)] := hl
  refine lv_iload_n hx hb dX8_ruleForWork_0 rfl (lv_at hl 1 rfl) ?_
  obtain ⟨J1, eJ1, h⟩ := jn_some h
  have hJ1 : ∀ (i2 : Int32) (ls : Array Slot), J1 i2 = some y → lv_has ls 3 [(0, .ref q_t), (1, .int x1)] → W p l e (rmM 1 0 0 20) s m #[.ref q_t, .int x1] below meth c s.heap [] 0 0 (MQ below (va_Sq (fun r => r = y)) #[.ref q_t, .int x1] s 0 0 (fun _ => False)) (F0 m 33 ls [.int i2]) := by
    intro i2 ls h hl
    rw [eJ1] at h
    refine lv_istore_n (lv' := [(2, .int i2), (0, .ref q_t), (1, .int x1)]) hx hb dX8_ruleForWork_33 rfl hl (by decide) rfl (fun ls hl => ?_)
    refine lv_iload_n hx hb dX8_ruleForWork_34 rfl (lv_at hl 0 rfl) ?_
    refine lv_if_eq (tgt := 47) hx hb dX8_ruleForWork_35 (by decide) (fun c3 => ?_) (fun c3 => ?_)
    · have h := ite_t c3 h
      refine lv_null hx hb dX8_ruleForWork_47 ?_
      exact retRq (v := none) C rfl (Or.inl ⟨_, rfl⟩) (Option.some.inj h) dX8_ruleForWork_48
    · have h := ite_f c3 h
      refine lv_aload_n hx hb dX8_ruleForWork_38 rfl (lv_at hl 1 rfl) ?_
      refine va_get (D := D) (v := .ref (Q_t 2)) (C := RX8) (T := TX8) (N := 11) hx hb hts iX8 hown hK.1 hP 0 rfl rfl 2 (by decide) (hts _ t_302) (fun _ h9 => h9) rfl dX8_ruleForWork_39 ?_
      refine lv_iload_n hx hb dX8_ruleForWork_42 rfl (lv_at hl 2 rfl) ?_
      obtain ⟨g4, h⟩ := gd_some h
      refine ald_q hx hb hK.1 hP 2 4 rfl rfl x1.toNatClampNeg (ix_g g4) dX8_ruleForWork_43 ?_
      refine lv_goto (tgt := 48) hx hb dX8_ruleForWork_44 (by decide) ?_
      exact retRq (v := B_t_2 x1.toNatClampNeg) C rfl (Or.inl ⟨_, rfl⟩) (Option.some.inj h) dX8_ruleForWork_48
  obtain ⟨J5, eJ5, h⟩ := jn_some h
  have hJ5 : ∀ (ls : Array Slot), J5 = some y → lv_has ls 3 [(0, .ref q_t), (1, .int x1)] → W p l e (rmM 1 0 0 20) s m #[.ref q_t, .int x1] below meth c s.heap [] 0 0 (MQ below (va_Sq (fun r => r = y)) #[.ref q_t, .int x1] s 0 0 (fun _ => False)) (F0 m 32 ls []) := by
    intro ls h hl
    rw [eJ5] at h
    refine lv_iconst (v := 0) hx hb dX8_ruleForWork_32 (by decide) ?_
    exact hJ1 0 ls h (lv_sub hl [0, 1] rfl)
  refine lv_if_lt (tgt := 32) hx hb dX8_ruleForWork_1 (by decide) (fun c6 => ?_) (fun c6 => ?_)
  · have h := ite_t c6 h
    exact hJ5 ls h (lv_sub hl [0, 1] rfl)
  · have h := ite_f c6 h
    refine lv_iload_n hx hb dX8_ruleForWork_4 rfl (lv_at hl 1 rfl) ?_
    refine lv_aload_n hx hb dX8_ruleForWork_5 rfl (lv_at hl 0 rfl) ?_
    refine va_get (D := D) (v := .int (gI z_t 3)) (C := RX8) (T := TX8) (N := 11) hx hb hts iX8 hown hK.1 hP 0 rfl rfl 3 (by decide) (hts _ t_303) (fun _ h9 => h9) rfl dX8_ruleForWork_6 ?_
    refine lv_icmp_ge (tgt := 32) hx hb dX8_ruleForWork_9 (by decide) (fun c7 => ?_) (fun c7 => ?_)
    · have h := ite_t c7 h
      exact hJ5 ls h (lv_sub hl [0, 1] rfl)
    · have h := ite_f c7 h
      refine lv_iload_n hx hb dX8_ruleForWork_12 rfl (lv_at hl 1 rfl) ?_
      refine lv_aload_n hx hb dX8_ruleForWork_13 rfl (lv_at hl 0 rfl) ?_
      refine va_get (D := D) (v := .ref (Q_t 2)) (C := RX8) (T := TX8) (N := 11) hx hb hts iX8 hown hK.1 hP 0 rfl rfl 2 (by decide) (hts _ t_302) (fun _ h9 => h9) rfl dX8_ruleForWork_14 ?_
      refine va_alen (v := 6) hx hb hK.1 hP 2 4 rfl rfl rfl dX8_ruleForWork_17 ?_
      refine lv_icmp_ge (tgt := 32) hx hb dX8_ruleForWork_18 (by decide) (fun c8 => ?_) (fun c8 => ?_)
      · have h := ite_t c8 h
        exact hJ5 ls h (lv_sub hl [0, 1] rfl)
      · have h := ite_f c8 h
        refine lv_aload_n hx hb dX8_ruleForWork_21 rfl (lv_at hl 0 rfl) ?_
        obtain ⟨r10, hc9, h⟩ := bd_some h
        refine cRi (runV (As := []) (rest := []) C (mX8_hasWork l D a hc9) lk_V_8_213 okN_X8_hasWork ⟨Nat.le_of_ble_eq_true rfl, Nat.le_of_ble_eq_true rfl⟩ ⟨rfl, rfl⟩ (preV (preR hK (P_of_map (wc := rc8 a q_t Q_t z_t ++ (rc5 a (Q_t 5) Q_t_5 z_t_5 ++ (rc7 a (Q_t_5 0) Q_t_5_0 z_t_5_0))) hP [0, 1, 3, 4, 5, 6, 7, 8, 9, 10, 11, 12, 13, 14, 15, 16, 17, 18] rfl)) (recvOf hK hP 0 rfl (ci := 8) rfl)) hl.1 rfl (Nat.le_of_ble_eq_true rfl) dX8_ruleForWork_22 ⟨Nat.le_of_ble_eq_true rfl, Nat.le_of_ble_eq_true rfl⟩) ?_
        refine lv_if_eq (tgt := 32) hx hb dX8_ruleForWork_25 (by decide) (fun c11 => ?_) (fun c11 => ?_)
        · have h := ite_t c11 h
          exact hJ5 ls h (lv_sub hl [0, 1] rfl)
        · have h := ite_f c11 h
          refine lv_iconst (v := 1) hx hb dX8_ruleForWork_28 (by decide) ?_
          refine lv_goto (tgt := 33) hx hb dX8_ruleForWork_29 (by decide) ?_
          exact hJ1 1 ls h (lv_sub hl [0, 1] rfl)

def fX8_day_none (z_t : Sx) (B_t_2 : Nat → Option Nat) (z_t_5 : Sx) (z_t_5_0 : Sx) (x1 : Int32) : Option (Int32) := bd (fX8_ruleForWork z_t B_t_2 z_t_5 z_t_5_0 x1) (fun r2 => some (-1000000))

set_option maxHeartbeats 4000000 in
set_option maxRecDepth 100000 in
theorem mX8_day_none (l : Launch) (D : va_G) (a : Nat → ClassId) {q_t : Nat} {Q_t : Nat → Nat} {z_t : Sx} {B_t_2 : Nat → Option Nat} {Q_t_5 : Nat → Nat} {z_t_5 : Sx} {Q_t_5_0 : Nat → Nat} {z_t_5_0 : Sx} {x1 : Int32} (hm : fX8_ruleForWork z_t B_t_2 z_t_5 z_t_5_0 x1 = some none) {y : Int32} (h : fX8_day_none z_t B_t_2 z_t_5 z_t_5_0 x1 = some y) : CRi l MX8_day 2 42 D a [.ref q_t, .int x1] (rc8 a q_t Q_t z_t ++ (rb4 a (Q_t 2) 6 B_t_2 ++ (rc5 a (Q_t 5) Q_t_5 z_t_5 ++ (rc7 a (Q_t_5 0) Q_t_5_0 z_t_5_0)))) (fun r => r = y) := by
  unfold fX8_day_none at h
  refine entR (by decide) (Nat.le_of_ble_eq_true rfl) ?_
  intro p e s m below meth c C hK hP ls hl
  obtain ⟨hx, hb, hml, hown, hts, hr, hlocks, hnm⟩ := id C
  have hb : c.code = cX8_day := hb
  have hown : s.vm.findClass RX8 = some m.cls := hown
  have hl : lv_has ls 4 [(0, .ref q_t), (1, .int x1)] := hl
  refine lv_aload_n hx hb dX8_day_0 rfl (lv_at hl 0 rfl) ?_
  refine lv_iload_n hx hb dX8_day_1 rfl (lv_at hl 1 rfl) ?_
  obtain ⟨r2, hc1, h⟩ := bd_some h
  refine cRq (runV (As := [.int x1]) (rest := []) C (mX8_ruleForWork l D a hc1) lk_V_8_228 okN_X8_ruleForWork ⟨Nat.le_of_ble_eq_true rfl, Nat.le_of_ble_eq_true rfl⟩ ⟨rfl, rfl⟩ (preV (preR hK hP) (recvOf hK hP 0 rfl (ci := 8) rfl)) hl.1 rfl (Nat.le_of_ble_eq_true rfl) dX8_day_2 ⟨Nat.le_of_ble_eq_true rfl, Nat.le_of_ble_eq_true rfl⟩) ?_
  obtain rfl := Option.some.inj (hc1.symm.trans hm)
  refine lv_astore_nN (lv' := [(2, .null), (0, .ref q_t), (1, .int x1)]) hx hb dX8_day_5 rfl hl (by decide) rfl (fun ls hl => ?_)
  refine lv_aload_nN hx hb dX8_day_6 rfl (lv_at hl 0 rfl) ?_
  refine lv_ifnonnullN hx hb dX8_day_7 ?_
  refine lv_ldc hx hb hown (hts _ t_640) dX8_day_10 ?_
  exact rRi C rfl (Option.some.inj h) dX8_day_12

def fX8_day_some (z_t : Sx) (B_t_2 : Nat → Option Nat) (z_t_5 : Sx) (z_t_5_0 : Sx) (z_t_5_1 : Sx) (z_t_9 : Sx) (nc_R : Nat) (z_R : Sx) (x1 : Int32) : Option (Int32 × Sx × Sx) := bd (fX8_ruleForWork z_t B_t_2 z_t_5 z_t_5_0 x1) (fun r2 => bd3 (fX2_play z_t_9 z_t_5_0 nc_R z_R z_t_5_1) (fun r4 z5 z6 => some ((gI z6 1) - (gI z_t_5_1 1), z6, z5)))

set_option maxHeartbeats 4000000 in
set_option maxRecDepth 100000 in
theorem mX8_day_some (l : Launch) (D : va_G) (a : Nat → ClassId) {q_R : Nat} {q_t : Nat} {Q_t : Nat → Nat} {z_t : Sx} {B_t_2 : Nat → Option Nat} {Q_t_5 : Nat → Nat} {z_t_5 : Sx} {Q_t_5_0 : Nat → Nat} {z_t_5_0 : Sx} {Q_t_5_1 : Nat → Nat} {z_t_5_1 : Sx} {Q_t_9 : Nat → Nat} {z_t_9 : Sx} {Q_R : Nat → Nat} {nc_R : Nat} {z_R : Sx} {x1 : Int32} (hm : fX8_ruleForWork z_t B_t_2 z_t_5 z_t_5_0 x1 = some (some q_R)) {y : Int32 × Sx × Sx} (h : fX8_day_some z_t B_t_2 z_t_5 z_t_5_0 z_t_5_1 z_t_9 nc_R z_R x1 = some y) (sz : Nat) : CMi (S := Unit) l MX8_day 6 162 0 0 D a [.ref q_t, .int x1] (rc8 a q_t Q_t z_t ++ (rb4 a (Q_t 2) 6 B_t_2 ++ (rc5 a (Q_t 5) Q_t_5 z_t_5 ++ (rc7 a (Q_t_5 0) Q_t_5_0 z_t_5_0 ++ (rc0 a (Q_t_5 1) Q_t_5_1 z_t_5_1 ++ (rc2 a (Q_t 9) Q_t_9 z_t_9 ++ (rc3 a q_R Q_R nc_R z_R))))))) sz (fun r _ => r = y.1) (fun _ => rc8 a q_t Q_t z_t ++ (rb4 a (Q_t 2) 6 B_t_2 ++ (rc5 a (Q_t 5) Q_t_5 z_t_5 ++ (rc7 a (Q_t_5 0) Q_t_5_0 z_t_5_0 ++ (rc0 a (Q_t_5 1) Q_t_5_1 y.2.1 ++ (rc2 a (Q_t 9) Q_t_9 y.2.2 ++ (rc3 a q_R Q_R nc_R z_R))))))) := by
  unfold fX8_day_some at h
  refine entMi (by decide) (Nat.le_of_ble_eq_true rfl) ?_
  intro p e s m below meth c C hK A hA hP hD ls hl
  obtain ⟨hx, hb, hml, hown, hts, hr, hlocks, hnm⟩ := id C
  have hb : c.code = cX8_day := hb
  have hown : s.vm.findClass RX8 = some m.cls := hown
  have hS : va_S A s.heap s.heap [] := va_S.rf
  have hl : lv_has ls 4 [(0, .ref q_t), (1, .int x1)] := hl
  refine lv_aload_n hx hb dX8_day_0 rfl (lv_at hl 0 rfl) ?_
  refine lv_iload_n hx hb dX8_day_1 rfl (lv_at hl 1 rfl) ?_
  obtain ⟨r2, hc1, h⟩ := bd_some h
  refine cRq (runV (As := [.int x1]) (rest := []) C (mX8_ruleForWork l D a hc1) lk_V_8_228 okN_X8_ruleForWork ⟨Nat.le_of_ble_eq_true rfl, Nat.le_of_ble_eq_true rfl⟩ ⟨rfl, rfl⟩ (preV (preR hK (P_of_map (wc := rc8 a q_t Q_t z_t ++ (rb4 a (Q_t 2) 6 B_t_2 ++ (rc5 a (Q_t 5) Q_t_5 z_t_5 ++ (rc7 a (Q_t_5 0) Q_t_5_0 z_t_5_0)))) hP [0, 1, 2, 3, 4, 5, 6, 7, 8, 9, 10, 11, 12, 13, 14, 15, 16, 17, 18] rfl)) (recvOf hK hP 0 rfl (ci := 8) rfl)) hl.1 rfl (Nat.le_of_ble_eq_true rfl) dX8_day_2 ⟨Nat.le_of_ble_eq_true rfl, Nat.le_of_ble_eq_true rfl⟩) ?_
  obtain rfl := Option.some.inj (hc1.symm.trans hm)
  refine lv_astore_n (lv' := [(2, .ref q_R), (0, .ref q_t), (1, .int x1)]) hx hb dX8_day_5 rfl hl (by decide) rfl (fun ls hl => ?_)
  refine lv_aload_n hx hb dX8_day_6 rfl (lv_at hl 0 rfl) ?_
  refine lv_ifnonnull (tgt := 13) hx hb dX8_day_7 (by decide) ?_
  refine lv_aload_n hx hb dX8_day_13 rfl (lv_at hl 1 rfl) ?_
  refine va_get (D := D) (v := .ref (Q_t 5)) (C := RX8) (T := TX8) (N := 11) hx hb hts iX8 hown hK.1 hP 0 rfl rfl 5 (by decide) (hts _ t_305) (fun _ h9 => h9) rfl dX8_day_14 ?_
  refine va_get (D := D) (v := .ref (Q_t_5 1)) (C := RX5) (T := TX5) (N := 8) hx hb hts iX5 hown hK.1 hP 3 rfl rfl 1 (by decide) (hts _ t_163) (fun _ h9 => h9) rfl dX8_day_17 ?_
  refine va_get (D := D) (v := .int (gI z_t_5_1 1)) (C := RX0) (T := TX0) (N := 6) hx hb hts iX0 hown hK.1 hP 19 rfl rfl 1 (by decide) (hts _ t_135) (fun _ h9 => h9) rfl dX8_day_20 ?_
  refine lv_istore_n (lv' := [(3, .int (gI z_t_5_1 1)), (2, .ref q_R), (0, .ref q_t), (1, .int x1)]) hx hb dX8_day_23 rfl hl (by decide) rfl (fun ls hl => ?_)
  refine lv_aload_n hx hb dX8_day_24 rfl (lv_at hl 2 rfl) ?_
  refine va_get (D := D) (v := .ref (Q_t 9)) (C := RX8) (T := TX8) (N := 11) hx hb hts iX8 hown hK.1 hP 0 rfl rfl 9 (by decide) (hts _ t_309) (fun _ h9 => h9) rfl dX8_day_25 ?_
  refine lv_aload_n hx hb dX8_day_28 rfl (lv_at hl 2 rfl) ?_
  refine va_get (D := D) (v := .ref (Q_t 5)) (C := RX8) (T := TX8) (N := 11) hx hb hts iX8 hown hK.1 hP 0 rfl rfl 5 (by decide) (hts _ t_305) (fun _ h9 => h9) rfl dX8_day_29 ?_
  refine va_get (D := D) (v := .ref (Q_t_5 0)) (C := RX5) (T := TX5) (N := 8) hx hb hts iX5 hown hK.1 hP 3 rfl rfl 0 (by decide) (hts _ t_161) (fun _ h9 => h9) rfl dX8_day_32 ?_
  refine lv_aload_n hx hb dX8_day_35 rfl (lv_at hl 1 rfl) ?_
  refine lv_aload_n hx hb dX8_day_36 rfl (lv_at hl 2 rfl) ?_
  refine va_get (D := D) (v := .ref (Q_t 5)) (C := RX8) (T := TX8) (N := 11) hx hb hts iX8 hown hK.1 hP 0 rfl rfl 5 (by decide) (hts _ t_305) (fun _ h9 => h9) rfl dX8_day_37 ?_
  refine va_get (D := D) (v := .ref (Q_t_5 1)) (C := RX5) (T := TX5) (N := 8) hx hb hts iX5 hown hK.1 hP 3 rfl rfl 1 (by decide) (hts _ t_163) (fun _ h9 => h9) rfl dX8_day_40 ?_
  obtain ⟨r4, z5, z6, hc3, h⟩ := bd3_some h
  refine cMi (runV (As := [.ref (Q_t_5 0), .ref q_R, .ref (Q_t_5 1)]) (rest := []) C (mX2_play l D a hc3 s.heap.size) lk_V_8_232 okN_X2_play ⟨Nat.le_of_ble_eq_true rfl, Nat.le_of_ble_eq_true rfl⟩ ⟨rfl, rfl⟩ (preV (preM hK (P_of_map (wc := rc2 a (Q_t 9) Q_t_9 z_t_9 ++ (rc7 a (Q_t_5 0) Q_t_5_0 z_t_5_0 ++ (rc3 a q_R Q_R nc_R z_R ++ (rc0 a (Q_t_5 1) Q_t_5_1 z_t_5_1)))) hP [21, 22, 6, 7, 8, 9, 10, 11, 12, 13, 14, 15, 16, 17, 18, 23, 24, 25, 26, 27, 19, 20] rfl) (hD.sub (ws' := rc2 a (Q_t 9) Q_t_9 z_t_9 ++ (rc7 a (Q_t_5 0) Q_t_5_0 z_t_5_0 ++ (rc3 a q_R Q_R nc_R z_R ++ (rc0 a (Q_t_5 1) Q_t_5_1 z_t_5_1)))) [21, 22, 6, 7, 8, 9, 10, 11, 12, 13, 14, 15, 16, 17, 18, 23, 24, 25, 26, 27, 19, 20] (by decide) rfl)) (recvOf hK hP 21 rfl (ci := 2) rfl)) hl.1 rfl (Nat.le_of_ble_eq_true rfl) dX8_day_43 ⟨Nat.le_of_ble_eq_true rfl, Nat.le_of_ble_eq_true rfl⟩) hP hD hS hA [21, 22, 6, 7, 8, 9, 10, 11, 12, 13, 14, 15, 16, 17, 18, 23, 24, 25, 26, 27, 19, 20] [0, 1, 2, 3, 4, 5] [0, 1, 2, 3, 4, 5, 8, 9, 10, 11, 12, 13, 14, 15, 16, 17, 18, 19, 20, 26, 27, 6, 7, 21, 22, 23, 24, 25] rfl rfl (by decide) (by decide) (fw := rc8 a q_t Q_t z_t ++ (rb4 a (Q_t 2) 6 B_t_2 ++ (rc5 a (Q_t 5) Q_t_5 z_t_5 ++ (rc7 a (Q_t_5 0) Q_t_5_0 z_t_5_0 ++ (rc0 a (Q_t_5 1) Q_t_5_1 z6 ++ (rc2 a (Q_t 9) Q_t_9 z5 ++ (rc3 a q_R Q_R nc_R z_R))))))) rfl (by decide) (fun H locs hP hD hS => ?_)
  have hP : va_P D classes (rc8 a q_t Q_t z_t ++ (rb4 a (Q_t 2) 6 B_t_2 ++ (rc5 a (Q_t 5) Q_t_5 z_t_5 ++ (rc7 a (Q_t_5 0) Q_t_5_0 z_t_5_0 ++ (rc0 a (Q_t_5 1) Q_t_5_1 z6 ++ (rc2 a (Q_t 9) Q_t_9 z5 ++ (rc3 a q_R Q_R nc_R z_R))))))) H := hP
  have hD : va_D A (rc8 a q_t Q_t z_t ++ (rb4 a (Q_t 2) 6 B_t_2 ++ (rc5 a (Q_t 5) Q_t_5 z_t_5 ++ (rc7 a (Q_t_5 0) Q_t_5_0 z_t_5_0 ++ (rc0 a (Q_t_5 1) Q_t_5_1 z6 ++ (rc2 a (Q_t 9) Q_t_9 z5 ++ (rc3 a q_R Q_R nc_R z_R))))))) := hD
  refine lv_pop hx hb dX8_day_46 rfl ?_
  refine lv_aload_n hx hb dX8_day_47 rfl (lv_at hl 2 rfl) ?_
  refine va_get (D := D) (v := .ref (Q_t 5)) (C := RX8) (T := TX8) (N := 11) hx hb hts iX8 hown hK.1 hP 0 rfl rfl 5 (by decide) (hts _ t_305) (fun _ h9 => h9) rfl dX8_day_48 ?_
  refine va_get (D := D) (v := .ref (Q_t_5 1)) (C := RX5) (T := TX5) (N := 8) hx hb hts iX5 hown hK.1 hP 3 rfl rfl 1 (by decide) (hts _ t_163) (fun _ h9 => h9) rfl dX8_day_51 ?_
  refine va_get (D := D) (v := .int (gI z6 1)) (C := RX0) (T := TX0) (N := 6) hx hb hts iX0 hown hK.1 hP 19 rfl rfl 1 (by decide) (hts _ t_135) (fun _ h9 => h9) rfl dX8_day_54 ?_
  refine lv_iload_n hx hb dX8_day_57 rfl (lv_at hl 0 rfl) ?_
  refine lv_isub hx hb dX8_day_58 ?_
  exact rMi C rfl h (g := fun y => rc8 a q_t Q_t z_t ++ (rb4 a (Q_t 2) 6 B_t_2 ++ (rc5 a (Q_t 5) Q_t_5 z_t_5 ++ (rc7 a (Q_t_5 0) Q_t_5_0 z_t_5_0 ++ (rc0 a (Q_t_5 1) Q_t_5_1 y.2.1 ++ (rc2 a (Q_t 9) Q_t_9 y.2.2 ++ (rc3 a q_R Q_R nc_R z_R))))))) (pr := fun y => y.1) hP hD hS dX8_day_59

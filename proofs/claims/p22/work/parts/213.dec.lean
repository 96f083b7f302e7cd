def fX8_hasWork (z_t : Sx) (z_t_5 : Sx) (z_t_5_0 : Sx) : Option (Int32) := if (gI z_t_5_0 3) ≤ 0 then some 0 else some 1

set_option maxHeartbeats 4000000 in
set_option maxRecDepth 100000 in
theorem mX8_hasWork (l : Launch) (D : va_G) (a : Nat → ClassId) {q_t : Nat} {Q_t : Nat → Nat} {z_t : Sx} {Q_t_5 : Nat → Nat} {z_t_5 : Sx} {Q_t_5_0 : Nat → Nat} {z_t_5_0 : Sx} {y : Int32} (h : fX8_hasWork z_t z_t_5 z_t_5_0 = some y) : CRi l MX8_hasWork 0 0 D a [.ref q_t] (rc8 a q_t Q_t z_t ++ (rc5 a (Q_t 5) Q_t_5 z_t_5 ++ (rc7 a (Q_t_5 0) Q_t_5_0 z_t_5_0))) (fun r => r = y) := by
  unfold fX8_hasWork at h
  refine entR (by decide) (Nat.le_of_ble_eq_true rfl) ?_
  intro p e s m below meth c C hK hP ls hl
  obtain ⟨hx, hb, hml, hown, hts, hr, hlocks, hnm⟩ := id C
  have hb : c.code = cX8_hasWork := hb
  have hown : s.vm.findClass RX8 = some m.cls := hown
  have hl : lv_has ls 1 [(0, .ref q_t)] := hl
  refine lv_aload_n hx hb dX8_hasWork_0 rfl (lv_at hl 0 rfl) ?_
  refine va_get (D := D) (v := .ref (Q_t 5)) (C := RX8) (T := TX8) (N := 11) hx hb hts iX8 hown hK.1 hP 0 rfl rfl 5 (by decide) (hts _ t_305) (fun _ h9 => h9) rfl dX8_hasWork_1 ?_
  refine va_get (D := D) (v := .ref (Q_t_5 0)) (C := RX5) (T := TX5) (N := 8) hx hb hts iX5 hown hK.1 hP 2 rfl rfl 0 (by decide) (hts _ t_161) (fun _ h9 => h9) rfl dX8_hasWork_4 ?_
  refine va_get (D := D) (v := .int (gI z_t_5_0 3)) (C := RX7) (T := TX7) (N := 18) hx hb hts iX7 hown hK.1 hP 5 rfl rfl 3 (by decide) (hts _ t_47) (fun _ h9 => h9) rfl dX8_hasWork_7 ?_
  refine lv_if_le (tgt := 17) hx hb dX8_hasWork_10 (by decide) (fun c1 => ?_) (fun c1 => ?_)
  · have h := ite_t c1 h
    refine lv_iconst (v := 0) hx hb dX8_hasWork_17 (by decide) ?_
    exact rRz C rfl (Or.inl rfl) (Option.some.inj h) dX8_hasWork_18
  · have h := ite_f c1 h
    refine lv_iconst (v := 1) hx hb dX8_hasWork_13 (by decide) ?_
    refine lv_goto (tgt := 18) hx hb dX8_hasWork_14 (by decide) ?_
    exact rRz C rfl (Or.inr rfl) (Option.some.inj h) dX8_hasWork_18

def lX8_partOf_12 (k47 : Int64 → Option (Int64)) (x0 : Int64) (x2 : Int64) (x4 : Int32) : Nat → Int64 → Int64 → Int32 → Option (Int64)
  | 0, _, _, _ => none
  | n + 1, x5, x7, x9 => if 100 ≤ x9 then k47 x5 else if x7 = 0 then k47 x5 else gd (¬ x7 = 0) (lX8_partOf_12 k47 x0 x2 x4 n x7 (x5 - x5 / x7 * x7) (x9 + 1))
def fX8_partOf (x0 : Int64) (x2 : Int64) (x4 : Int32) : Option (Int64) := bd (fJ9_abs_067f4 x0) (fun r2 => lX8_partOf_12 (fun (i6 : Int64) => if i6 = 0 then if x4 = 0 then some x0 else some x2 else jn (fun (i9 : Int64) => gd (¬ i6 = 0) (some (i9 / i6))) (fun J8 => if x4 = 0 then J8 x0 else J8 x2)) x0 x2 x4 FU r2 x2 0)

set_option maxHeartbeats 4000000 in
set_option maxRecDepth 100000 in
theorem wX8_partOf_12 {p : Program} {l : Launch} {e : Env} {s : State} {m : MethodId} {below : List Frame} {meth : Method} {c : Code} {D : va_G} {a : Nat → ClassId} {x00 : Int64} {x20 : Int64} {x40 : Int32} {x0 : Int64} {x2 : Int64} {x4 : Int32} (C : Cx p s m #[.long x00, .long x20, .int x40] meth c MX8_partOf) (hK : KK D a s) {y : Int64} (hP : va_P D classes ([]) s.heap) {k47 : Int64 → Option (Int64)} (hk47 : ∀ (x5k : Int64) (ls : Array Slot), k47 x5k = some y → lv_has ls 12 [(0, .long x0), (2, .long x2), (4, .int x4), (5, .long x5k)] → W p l e (rmM 1 0 0 21) s m #[.long x00, .long x20, .int x40] below meth c s.heap [] 0 0 (MQ below (vp_Sl (fun r => r = y)) #[.long x00, .long x20, .int x40] s 0 0 (fun _ => False)) (F0 m 47 ls [])) : ∀ (n : Nat) (x5 : Int64) (x7 : Int64) (x9 : Int32) (ls : Array Slot), lX8_partOf_12 k47 x0 x2 x4 n x5 x7 x9 = some y → lv_has ls 12 [(0, .long x0), (2, .long x2), (4, .int x4), (5, .long x5), (7, .long x7), (9, .int x9)] → W p l e (rmM 1 0 0 21) s m #[.long x00, .long x20, .int x40] below meth c s.heap [] 0 0 (MQ below (vp_Sl (fun r => r = y)) #[.long x00, .long x20, .int x40] s 0 0 (fun _ => False)) (F0 m 12 ls []) := by
  obtain ⟨hx, hb, hml, hown, hts, hr, hlocks, hnm⟩ := id C
  have hb : c.code = cX8_partOf := hb
  have hown : s.vm.findClass RX8 = some m.cls := hown
  intro n
  induction n with
  | zero => intro x5 x7 x9 ls h; rw [lX8_partOf_12] at h; cases h
  | succ n ih =>
    intro x5 x7 x9 ls h hl
    rw [lX8_partOf_12] at h
    refine lv_iload hx hb dX8_partOf_12 (lv_at hl 5 rfl) ?_
    refine lv_bipush (v := 100) hx hb dX8_partOf_14 (by decide) ?_
    refine lv_icmp_ge (tgt := 47) hx hb dX8_partOf_16 (by decide) (fun c3 => ?_) (fun c3 => ?_)
    · have h := ite_t c3 h
      exact hk47 x5 ls h (lv_sub hl [0, 1, 2, 3] rfl)
    · have h := ite_f c3 h
      refine lv_lload hx hb dX8_partOf_19 (lv_at hl 4 rfl) ?_
      refine lv_lconst (v := 0) hx hb dX8_partOf_21 (by decide) ?_
      refine W.lcmp hx hb dX8_partOf_22 ?_
      refine lv_if_eq (tgt := 47) hx hb dX8_partOf_23 (by decide) (fun c4 => ?_) (fun c4 => ?_)
      · have h := ite_t ((lg_cmp_eq _ _).mp c4) h
        exact hk47 x5 ls h (lv_sub hl [0, 1, 2, 3] rfl)
      · have h := ite_f (fun q => c4 ((lg_cmp_eq _ _).mpr q)) h
        refine lv_lload hx hb dX8_partOf_26 (lv_at hl 3 rfl) ?_
        refine lv_lload hx hb dX8_partOf_28 (lv_at hl 4 rfl) ?_
        obtain ⟨g5, h⟩ := gd_some h
        refine lv_lrem hx hb dX8_partOf_30 g5 ?_
        refine lv_lstore (lv' := [(10, .long (x5 - x5 / x7 * x7)), (0, .long x0), (2, .long x2), (4, .int x4), (5, .long x5), (7, .long x7), (9, .int x9)]) hx hb dX8_partOf_31 hl (by decide) rfl (fun ls hl => ?_)
        refine lv_lload hx hb dX8_partOf_33 (lv_at hl 5 rfl) ?_
        refine lv_lstore (lv' := [(5, .long x7), (10, .long (x5 - x5 / x7 * x7)), (0, .long x0), (2, .long x2), (4, .int x4), (7, .long x7), (9, .int x9)]) hx hb dX8_partOf_35 hl (by decide) rfl (fun ls hl => ?_)
        refine lv_lload hx hb dX8_partOf_37 (lv_at hl 1 rfl) ?_
        refine lv_lstore (lv' := [(7, .long (x5 - x5 / x7 * x7)), (5, .long x7), (10, .long (x5 - x5 / x7 * x7)), (0, .long x0), (2, .long x2), (4, .int x4), (9, .int x9)]) hx hb dX8_partOf_39 hl (by decide) rfl (fun ls hl => ?_)
        refine lv_iinc (v := x9 + 1) (lv' := [(9, .int (x9 + 1)), (7, .long (x5 - x5 / x7 * x7)), (5, .long x7), (10, .long (x5 - x5 / x7 * x7)), (0, .long x0), (2, .long x2), (4, .int x4)]) hx hb dX8_partOf_41 hl (k := 6) rfl rfl (by decide) rfl (fun ls hl => ?_)
        refine lv_goto (tgt := 12) hx hb dX8_partOf_44 (by decide) ?_
        exact ih x7 (x5 - x5 / x7 * x7) (x9 + 1) ls h (lv_sub hl [4, 5, 6, 2, 1, 0] rfl)

set_option maxHeartbeats 4000000 in
set_option maxRecDepth 100000 in
theorem mX8_partOf (l : Launch) (D : va_G) (a : Nat → ClassId) {x0 : Int64} {x2 : Int64} {x4 : Int32} {y : Int64} (h : fX8_partOf x0 x2 x4 = some y) : CRl l MX8_partOf 1 21 D a [.long x0, .long x2, .int x4] ([]) (fun r => r = y) := by
  unfold fX8_partOf at h
  refine entR (by decide) (Nat.le_of_ble_eq_true rfl) ?_
  intro p e s m below meth c C hK hP ls hl
  obtain ⟨hx, hb, hml, hown, hts, hr, hlocks, hnm⟩ := id C
  have hb : c.code = cX8_partOf := hb
  have hown : s.vm.findClass RX8 = some m.cls := hown
  have hl : lv_has ls 12 [(0, .long x0), (2, .long x2), (4, .int x4)] := hl
  refine lv_lload_n hx hb dX8_partOf_0 rfl (lv_at hl 0 rfl) ?_
  obtain ⟨r2, hc1, h⟩ := bd_some h
  refine cRl (runS (As := [.long x0]) (rest := []) C (mJ9_abs_067f4 l D a hc1) lk_S_8_303 okN_J9_abs_067f4 ⟨Nat.le_of_ble_eq_true rfl, Nat.le_of_ble_eq_true rfl⟩ ⟨rfl, rfl⟩ (preR hK hP) hl.1 rfl (Nat.le_of_ble_eq_true rfl) dX8_partOf_1 ⟨Nat.le_of_ble_eq_true rfl, Nat.le_of_ble_eq_true rfl⟩) ?_
  refine lv_lstore (lv' := [(5, .long r2), (0, .long x0), (2, .long x2), (4, .int x4)]) hx hb dX8_partOf_4 hl (by decide) rfl (fun ls hl => ?_)
  refine lv_lload_n hx hb dX8_partOf_6 rfl (lv_at hl 2 rfl) ?_
  refine lv_lstore (lv' := [(7, .long x2), (5, .long r2), (0, .long x0), (2, .long x2), (4, .int x4)]) hx hb dX8_partOf_7 hl (by decide) rfl (fun ls hl => ?_)
  refine lv_iconst (v := 0) hx hb dX8_partOf_9 (by decide) ?_
  refine lv_istore (lv' := [(9, .int 0), (7, .long x2), (5, .long r2), (0, .long x0), (2, .long x2), (4, .int x4)]) hx hb dX8_partOf_10 hl (by decide) rfl (fun ls hl => ?_)
  refine wX8_partOf_12 C hK hP ?_ FU r2 x2 0 ls h (lv_sub hl [3, 4, 5, 2, 1, 0] rfl)
  · intro i6 ls h hl
    refine lv_lload hx hb dX8_partOf_47 (lv_at hl 3 rfl) ?_
    refine lv_lconst (v := 0) hx hb dX8_partOf_49 (by decide) ?_
    refine W.lcmp hx hb dX8_partOf_50 ?_
    refine lv_if_ne (tgt := 65) hx hb dX8_partOf_51 (by decide) (fun c7 => ?_) (fun c7 => ?_)
    · have h := ite_f (fun q => c7 ((lg_cmp_eq _ _).mpr q)) h
      refine lv_iload hx hb dX8_partOf_65 (lv_at hl 2 rfl) ?_
      obtain ⟨J8, eJ8, h⟩ := jn_some h
      have hJ8 : ∀ (i9 : Int64) (ls : Array Slot), J8 i9 = some y → lv_has ls 12 [(5, .long i6)] → W p l e (rmM 1 0 0 21) s m #[.long x0, .long x2, .int x4] below meth c s.heap [] 0 0 (MQ below (vp_Sl (fun r => r = y)) #[.long x0, .long x2, .int x4] s 0 0 (fun _ => False)) (F0 m 75 ls [.long i9]) := by
        intro i9 ls h hl
        rw [eJ8] at h
        refine lv_lload hx hb dX8_partOf_75 (lv_at hl 0 rfl) ?_
        obtain ⟨g10, h⟩ := gd_some h
        refine lv_ldiv hx hb dX8_partOf_77 g10 ?_
        exact rRl C rfl (Option.some.inj h) dX8_partOf_78
      refine lv_if_ne (tgt := 74) hx hb dX8_partOf_67 (by decide) (fun c11 => ?_) (fun c11 => ?_)
      · have h := ite_f c11 h
        refine lv_lload_n hx hb dX8_partOf_74 rfl (lv_at hl 1 rfl) ?_
        exact hJ8 x2 ls h (lv_sub hl [3] rfl)
      · have h := ite_t c11 h
        refine lv_lload_n hx hb dX8_partOf_70 rfl (lv_at hl 0 rfl) ?_
        refine lv_goto (tgt := 75) hx hb dX8_partOf_71 (by decide) ?_
        exact hJ8 x0 ls h (lv_sub hl [3] rfl)
    · have h := ite_t ((lg_cmp_eq _ _).mp c7) h
      refine lv_iload hx hb dX8_partOf_54 (lv_at hl 2 rfl) ?_
      refine lv_if_ne (tgt := 63) hx hb dX8_partOf_56 (by decide) (fun c12 => ?_) (fun c12 => ?_)
      · have h := ite_f c12 h
        refine lv_lload_n hx hb dX8_partOf_63 rfl (lv_at hl 1 rfl) ?_
        exact rRl C rfl (Option.some.inj h) dX8_partOf_64
      · have h := ite_t c12 h
        refine lv_lload_n hx hb dX8_partOf_59 rfl (lv_at hl 0 rfl) ?_
        refine lv_goto (tgt := 64) hx hb dX8_partOf_60 (by decide) ?_
        exact rRl C rfl (Option.some.inj h) dX8_partOf_64

def fX8_best (z_t : Sx) (z_t_5 : Sx) (z_t_5_0 : Sx) (z_t_5_1 : Sx) (z_t_10 : Sx) (x1 : Int32) (x2 : Int32) : Option (Int64 × Sx) := bd (fX8_hasWork z_t z_t_5 z_t_5_0) (fun r2 => if r2 = 0 then some ((-1), z_t_10) else if x1 < 0 then some ((-1), z_t_10) else if 5 < x1 then some ((-1), z_t_10) else if x2 < 0 then some ((-1), z_t_10) else if x2 ≤ 2 then bd (fX0_gone z_t_5_1) (fun r9 => if x2 = 2 then bd2 (fX1_choice z_t_10 z_t_5_0 x1 r9 (gI z_t_5_1 0)) (fun r19 z20 => some (r19.toInt64, z20)) else bd2 (fX1_mostEarned 16 z_t_10 z_t_5_0 x1 r9 (gI z_t_5_1 0)) (fun r12 z13 => bd (fX8_hundreds x1) (fun r15 => bd (fX8_partOf r12 r15 x2) (fun r17 => some (r17, z13))))) else some ((-1), z_t_10))

set_option maxHeartbeats 4000000 in
set_option maxRecDepth 100000 in
theorem mX8_best (l : Launch) (D : va_G) (a : Nat → ClassId) {q_t : Nat} {Q_t : Nat → Nat} {z_t : Sx} {Q_t_5 : Nat → Nat} {z_t_5 : Sx} {Q_t_5_0 : Nat → Nat} {z_t_5_0 : Sx} {Q_t_5_1 : Nat → Nat} {z_t_5_1 : Sx} {Q_t_10 : Nat → Nat} {z_t_10 : Sx} {x1 : Int32} {x2 : Int32} {y : Int64 × Sx} (h : fX8_best z_t z_t_5 z_t_5_0 z_t_5_1 z_t_10 x1 x2 = some y) (sz : Nat) : CMl (S := Unit) l MX8_best 37 1128 0 0 D a [.ref q_t, .int x1, .int x2] (rc8 a q_t Q_t z_t ++ (rc5 a (Q_t 5) Q_t_5 z_t_5 ++ (rc7 a (Q_t_5 0) Q_t_5_0 z_t_5_0 ++ (rc0 a (Q_t_5 1) Q_t_5_1 z_t_5_1 ++ (rc1 a (Q_t 10) Q_t_10 z_t_10))))) sz (fun r _ => r = y.1) (fun _ => rc8 a q_t Q_t z_t ++ (rc5 a (Q_t 5) Q_t_5 z_t_5 ++ (rc7 a (Q_t_5 0) Q_t_5_0 z_t_5_0 ++ (rc0 a (Q_t_5 1) Q_t_5_1 z_t_5_1 ++ (rc1 a (Q_t 10) Q_t_10 y.2))))) := by
  unfold fX8_best at h
  refine entMl (by decide) (Nat.le_of_ble_eq_true rfl) ?_
  intro p e s m below meth c C hK A hA hP hD ls hl
  obtain ⟨hx, hb, hml, hown, hts, hr, hlocks, hnm⟩ := id C
  have hb : c.code = cX8_best := hb
  have hown : s.vm.findClass RX8 = some m.cls := hown
  have hS : va_S A s.heap s.heap [] := va_S.rf
  have hl : lv_has ls 4 [(0, .ref q_t), (1, .int x1), (2, .int x2)] := hl
  refine lv_aload_n hx hb dX8_best_0 rfl (lv_at hl 0 rfl) ?_
  obtain ⟨r2, hc1, h⟩ := bd_some h
  refine cRi (runV (As := []) (rest := []) C (mX8_hasWork l D a hc1) lk_V_8_213 okN_X8_hasWork ⟨Nat.le_of_ble_eq_true rfl, Nat.le_of_ble_eq_true rfl⟩ ⟨rfl, rfl⟩ (preV (preR hK (P_of_map (wc := rc8 a q_t Q_t z_t ++ (rc5 a (Q_t 5) Q_t_5 z_t_5 ++ (rc7 a (Q_t_5 0) Q_t_5_0 z_t_5_0))) hP [0, 1, 2, 3, 4, 5, 6, 7, 8, 9, 10, 11, 12, 13, 14, 15, 16, 17] rfl)) (recvOf hK hP 0 rfl (ci := 8) rfl)) hl.1 rfl (Nat.le_of_ble_eq_true rfl) dX8_best_1 ⟨Nat.le_of_ble_eq_true rfl, Nat.le_of_ble_eq_true rfl⟩) ?_
  refine lv_if_eq (tgt := 25) hx hb dX8_best_4 (by decide) (fun c3 => ?_) (fun c3 => ?_)
  · have h := ite_t c3 h
    refine lv_ldc2 hx hb hown (hts _ t_753) dX8_best_25 ?_
    exact rMl C rfl h (g := fun y => rc8 a q_t Q_t z_t ++ (rc5 a (Q_t 5) Q_t_5 z_t_5 ++ (rc7 a (Q_t_5 0) Q_t_5_0 z_t_5_0 ++ (rc0 a (Q_t_5 1) Q_t_5_1 z_t_5_1 ++ (rc1 a (Q_t 10) Q_t_10 y.2))))) (pr := fun y => y.1) hP hD hS dX8_best_28
  · have h := ite_f c3 h
    refine lv_iload_n hx hb dX8_best_7 rfl (lv_at hl 1 rfl) ?_
    refine lv_if_lt (tgt := 25) hx hb dX8_best_8 (by decide) (fun c4 => ?_) (fun c4 => ?_)
    · have h := ite_t c4 h
      refine lv_ldc2 hx hb hown (hts _ t_753) dX8_best_25 ?_
      exact rMl C rfl h (g := fun y => rc8 a q_t Q_t z_t ++ (rc5 a (Q_t 5) Q_t_5 z_t_5 ++ (rc7 a (Q_t_5 0) Q_t_5_0 z_t_5_0 ++ (rc0 a (Q_t_5 1) Q_t_5_1 z_t_5_1 ++ (rc1 a (Q_t 10) Q_t_10 y.2))))) (pr := fun y => y.1) hP hD hS dX8_best_28
    · have h := ite_f c4 h
      refine lv_iload_n hx hb dX8_best_11 rfl (lv_at hl 1 rfl) ?_
      refine lv_iconst (v := 5) hx hb dX8_best_12 (by decide) ?_
      refine lv_icmp_gt (tgt := 25) hx hb dX8_best_13 (by decide) (fun c5 => ?_) (fun c5 => ?_)
      · have h := ite_t c5 h
        refine lv_ldc2 hx hb hown (hts _ t_753) dX8_best_25 ?_
        exact rMl C rfl h (g := fun y => rc8 a q_t Q_t z_t ++ (rc5 a (Q_t 5) Q_t_5 z_t_5 ++ (rc7 a (Q_t_5 0) Q_t_5_0 z_t_5_0 ++ (rc0 a (Q_t_5 1) Q_t_5_1 z_t_5_1 ++ (rc1 a (Q_t 10) Q_t_10 y.2))))) (pr := fun y => y.1) hP hD hS dX8_best_28
      · have h := ite_f c5 h
        refine lv_iload_n hx hb dX8_best_16 rfl (lv_at hl 2 rfl) ?_
        refine lv_if_lt (tgt := 25) hx hb dX8_best_17 (by decide) (fun c6 => ?_) (fun c6 => ?_)
        · have h := ite_t c6 h
          refine lv_ldc2 hx hb hown (hts _ t_753) dX8_best_25 ?_
          exact rMl C rfl h (g := fun y => rc8 a q_t Q_t z_t ++ (rc5 a (Q_t 5) Q_t_5 z_t_5 ++ (rc7 a (Q_t_5 0) Q_t_5_0 z_t_5_0 ++ (rc0 a (Q_t_5 1) Q_t_5_1 z_t_5_1 ++ (rc1 a (Q_t 10) Q_t_10 y.2))))) (pr := fun y => y.1) hP hD hS dX8_best_28
        · have h := ite_f c6 h
          refine lv_iload_n hx hb dX8_best_20 rfl (lv_at hl 2 rfl) ?_
          refine lv_iconst (v := 2) hx hb dX8_best_21 (by decide) ?_
          refine lv_icmp_le (tgt := 29) hx hb dX8_best_22 (by decide) (fun c7 => ?_) (fun c7 => ?_)
          · have h := ite_t c7 h
            refine lv_aload_n hx hb dX8_best_29 rfl (lv_at hl 0 rfl) ?_
            refine va_get (D := D) (v := .ref (Q_t 5)) (C := RX8) (T := TX8) (N := 11) hx hb hts iX8 hown hK.1 hP 0 rfl rfl 5 (by decide) (hts _ t_305) (fun _ h9 => h9) rfl dX8_best_30 ?_
            refine va_get (D := D) (v := .ref (Q_t_5 1)) (C := RX5) (T := TX5) (N := 8) hx hb hts iX5 hown hK.1 hP 2 rfl rfl 1 (by decide) (hts _ t_163) (fun _ h9 => h9) rfl dX8_best_33 ?_
            obtain ⟨r9, hc8, h⟩ := bd_some h
            refine cRi (runV (As := []) (rest := []) C (mX0_gone l D a hc8) lk_V_8_171 okN_X0_gone ⟨Nat.le_of_ble_eq_true rfl, Nat.le_of_ble_eq_true rfl⟩ ⟨rfl, rfl⟩ (preV (preR hK (P_of_map (wc := rc0 a (Q_t_5 1) Q_t_5_1 z_t_5_1) hP [18, 19] rfl)) (recvOf hK hP 18 rfl (ci := 0) rfl)) hl.1 rfl (Nat.le_of_ble_eq_true rfl) dX8_best_36 ⟨Nat.le_of_ble_eq_true rfl, Nat.le_of_ble_eq_true rfl⟩) ?_
            refine lv_istore_n (lv' := [(3, .int r9), (0, .ref q_t), (1, .int x1), (2, .int x2)]) hx hb dX8_best_39 rfl hl (by decide) rfl (fun ls hl => ?_)
            refine lv_iload_n hx hb dX8_best_40 rfl (lv_at hl 3 rfl) ?_
            refine lv_iconst (v := 2) hx hb dX8_best_41 (by decide) ?_
            refine lv_icmp_ne (tgt := 73) hx hb dX8_best_42 (by decide) (fun c10 => ?_) (fun c10 => ?_)
            · have h := ite_f c10 h
              refine lv_aload_n hx hb dX8_best_73 rfl (lv_at hl 1 rfl) ?_
              refine va_get (D := D) (v := .ref (Q_t 10)) (C := RX8) (T := TX8) (N := 11) hx hb hts iX8 hown hK.1 hP 0 rfl rfl 10 (by decide) (hts _ t_310) (fun _ h9 => h9) rfl dX8_best_74 ?_
              refine lv_aload_n hx hb dX8_best_77 rfl (lv_at hl 1 rfl) ?_
              refine va_get (D := D) (v := .ref (Q_t 5)) (C := RX8) (T := TX8) (N := 11) hx hb hts iX8 hown hK.1 hP 0 rfl rfl 5 (by decide) (hts _ t_305) (fun _ h9 => h9) rfl dX8_best_78 ?_
              refine va_get (D := D) (v := .ref (Q_t_5 0)) (C := RX5) (T := TX5) (N := 8) hx hb hts iX5 hown hK.1 hP 2 rfl rfl 0 (by decide) (hts _ t_161) (fun _ h9 => h9) rfl dX8_best_81 ?_
              refine lv_iload_n hx hb dX8_best_84 rfl (lv_at hl 2 rfl) ?_
              refine lv_iload_n hx hb dX8_best_85 rfl (lv_at hl 0 rfl) ?_
              refine lv_aload_n hx hb dX8_best_86 rfl (lv_at hl 1 rfl) ?_
              refine va_get (D := D) (v := .ref (Q_t 5)) (C := RX8) (T := TX8) (N := 11) hx hb hts iX8 hown hK.1 hP 0 rfl rfl 5 (by decide) (hts _ t_305) (fun _ h9 => h9) rfl dX8_best_87 ?_
              refine va_get (D := D) (v := .ref (Q_t_5 1)) (C := RX5) (T := TX5) (N := 8) hx hb hts iX5 hown hK.1 hP 2 rfl rfl 1 (by decide) (hts _ t_163) (fun _ h9 => h9) rfl dX8_best_90 ?_
              refine va_get (D := D) (v := .int (gI z_t_5_1 0)) (C := RX0) (T := TX0) (N := 6) hx hb hts iX0 hown hK.1 hP 18 rfl rfl 0 (by decide) (hts _ t_132) (fun _ h9 => h9) rfl dX8_best_93 ?_
              obtain ⟨r12, z13, hc11, h⟩ := bd2_some h
              refine cMl (runV (As := [.ref (Q_t_5 0), .int x1, .int r9, .int (gI z_t_5_1 0)]) (rest := []) C (mX1_mostEarned l D a 16 hc11 s.heap.size) lk_V_8_266 okN_X1_mostEarned ⟨Nat.le_of_ble_eq_true rfl, Nat.le_of_ble_eq_true rfl⟩ ⟨rfl, rfl⟩ (preV (preM hK (P_of_map (wc := rc1 a (Q_t 10) Q_t_10 z_t_10 ++ (rc7 a (Q_t_5 0) Q_t_5_0 z_t_5_0)) hP [20, 21, 22, 5, 6, 7, 8, 9, 10, 11, 12, 13, 14, 15, 16, 17] rfl) (hD.sub (ws' := rc1 a (Q_t 10) Q_t_10 z_t_10 ++ (rc7 a (Q_t_5 0) Q_t_5_0 z_t_5_0)) [20, 21, 22, 5, 6, 7, 8, 9, 10, 11, 12, 13, 14, 15, 16, 17] (by decide) rfl)) (recvOf hK hP 20 rfl (ci := 1) rfl)) hl.1 rfl (Nat.le_of_ble_eq_true rfl) dX8_best_96 ⟨Nat.le_of_ble_eq_true rfl, Nat.le_of_ble_eq_true rfl⟩) hP hD hS hA [20, 21, 22, 5, 6, 7, 8, 9, 10, 11, 12, 13, 14, 15, 16, 17] [0, 1, 2, 3, 4, 18, 19] [0, 1, 2, 3, 4, 10, 11, 12, 13, 14, 15, 16, 17, 18, 19, 20, 21, 22, 5, 6, 7, 8, 9] rfl rfl (by decide) (by decide) (fw := rc8 a q_t Q_t z_t ++ (rc5 a (Q_t 5) Q_t_5 z_t_5 ++ (rc7 a (Q_t_5 0) Q_t_5_0 z_t_5_0 ++ (rc0 a (Q_t_5 1) Q_t_5_1 z_t_5_1 ++ (rc1 a (Q_t 10) Q_t_10 z13))))) rfl (by decide) (fun H locs hP hD hS => ?_)
              have hP : va_P D classes (rc8 a q_t Q_t z_t ++ (rc5 a (Q_t 5) Q_t_5 z_t_5 ++ (rc7 a (Q_t_5 0) Q_t_5_0 z_t_5_0 ++ (rc0 a (Q_t_5 1) Q_t_5_1 z_t_5_1 ++ (rc1 a (Q_t 10) Q_t_10 z13))))) H := hP
              have hD : va_D A (rc8 a q_t Q_t z_t ++ (rc5 a (Q_t 5) Q_t_5 z_t_5 ++ (rc7 a (Q_t_5 0) Q_t_5_0 z_t_5_0 ++ (rc0 a (Q_t_5 1) Q_t_5_1 z_t_5_1 ++ (rc1 a (Q_t 10) Q_t_10 z13))))) := hD
              refine lv_iload_n hx hb dX8_best_99 rfl (lv_at hl 2 rfl) ?_
              obtain ⟨r15, hc14, h⟩ := bd_some h
              refine cRl (runS (As := [.int x1]) (rest := [.long r12]) C (mX8_hundreds l D a hc14) lk_S_8_249 okN_X8_hundreds ⟨Nat.le_of_ble_eq_true rfl, Nat.le_of_ble_eq_true rfl⟩ ⟨rfl, rfl⟩ (preR hK (P_of_map (wc := []) hP [] rfl)) hl.1 rfl (Nat.le_of_ble_eq_true rfl) dX8_best_100 ⟨Nat.le_of_ble_eq_true rfl, Nat.le_of_ble_eq_true rfl⟩) ?_
              refine lv_iload_n hx hb dX8_best_103 rfl (lv_at hl 3 rfl) ?_
              obtain ⟨r17, hc16, h⟩ := bd_some h
              refine cRl (runS (As := [.long r12, .long r15, .int x2]) (rest := []) C (mX8_partOf l D a hc16) lk_S_8_253 okN_X8_partOf ⟨Nat.le_of_ble_eq_true rfl, Nat.le_of_ble_eq_true rfl⟩ ⟨rfl, rfl⟩ (preR hK (P_of_map (wc := []) hP [] rfl)) hl.1 rfl (Nat.le_of_ble_eq_true rfl) dX8_best_104 ⟨Nat.le_of_ble_eq_true rfl, Nat.le_of_ble_eq_true rfl⟩) ?_
              exact rMl C rfl h (g := fun y => rc8 a q_t Q_t z_t ++ (rc5 a (Q_t 5) Q_t_5 z_t_5 ++ (rc7 a (Q_t_5 0) Q_t_5_0 z_t_5_0 ++ (rc0 a (Q_t_5 1) Q_t_5_1 z_t_5_1 ++ (rc1 a (Q_t 10) Q_t_10 y.2))))) (pr := fun y => y.1) hP hD hS dX8_best_107
            · have h := ite_t c10 h
              refine lv_aload_n hx hb dX8_best_45 rfl (lv_at hl 1 rfl) ?_
              refine va_get (D := D) (v := .ref (Q_t 10)) (C := RX8) (T := TX8) (N := 11) hx hb hts iX8 hown hK.1 hP 0 rfl rfl 10 (by decide) (hts _ t_310) (fun _ h9 => h9) rfl dX8_best_46 ?_
              refine lv_aload_n hx hb dX8_best_49 rfl (lv_at hl 1 rfl) ?_
              refine va_get (D := D) (v := .ref (Q_t 5)) (C := RX8) (T := TX8) (N := 11) hx hb hts iX8 hown hK.1 hP 0 rfl rfl 5 (by decide) (hts _ t_305) (fun _ h9 => h9) rfl dX8_best_50 ?_
              refine va_get (D := D) (v := .ref (Q_t_5 0)) (C := RX5) (T := TX5) (N := 8) hx hb hts iX5 hown hK.1 hP 2 rfl rfl 0 (by decide) (hts _ t_161) (fun _ h9 => h9) rfl dX8_best_53 ?_
              refine lv_iload_n hx hb dX8_best_56 rfl (lv_at hl 2 rfl) ?_
              refine lv_iload_n hx hb dX8_best_57 rfl (lv_at hl 0 rfl) ?_
              refine lv_aload_n hx hb dX8_best_58 rfl (lv_at hl 1 rfl) ?_
              refine va_get (D := D) (v := .ref (Q_t 5)) (C := RX8) (T := TX8) (N := 11) hx hb hts iX8 hown hK.1 hP 0 rfl rfl 5 (by decide) (hts _ t_305) (fun _ h9 => h9) rfl dX8_best_59 ?_
              refine va_get (D := D) (v := .ref (Q_t_5 1)) (C := RX5) (T := TX5) (N := 8) hx hb hts iX5 hown hK.1 hP 2 rfl rfl 1 (by decide) (hts _ t_163) (fun _ h9 => h9) rfl dX8_best_62 ?_
              refine va_get (D := D) (v := .int (gI z_t_5_1 0)) (C := RX0) (T := TX0) (N := 6) hx hb hts iX0 hown hK.1 hP 18 rfl rfl 0 (by decide) (hts _ t_132) (fun _ h9 => h9) rfl dX8_best_65 ?_
              obtain ⟨r19, z20, hc18, h⟩ := bd2_some h
              refine cMi (runV (As := [.ref (Q_t_5 0), .int x1, .int r9, .int (gI z_t_5_1 0)]) (rest := []) C (mX1_choice l D a hc18 s.heap.size) lk_V_8_262 okN_X1_choice ⟨Nat.le_of_ble_eq_true rfl, Nat.le_of_ble_eq_true rfl⟩ ⟨rfl, rfl⟩ (preV (preM hK (P_of_map (wc := rc1 a (Q_t 10) Q_t_10 z_t_10 ++ (rc7 a (Q_t_5 0) Q_t_5_0 z_t_5_0)) hP [20, 21, 22, 5, 6, 7, 8, 9, 10, 11, 12, 13, 14, 15, 16, 17] rfl) (hD.sub (ws' := rc1 a (Q_t 10) Q_t_10 z_t_10 ++ (rc7 a (Q_t_5 0) Q_t_5_0 z_t_5_0)) [20, 21, 22, 5, 6, 7, 8, 9, 10, 11, 12, 13, 14, 15, 16, 17] (by decide) rfl)) (recvOf hK hP 20 rfl (ci := 1) rfl)) hl.1 rfl (Nat.le_of_ble_eq_true rfl) dX8_best_68 ⟨Nat.le_of_ble_eq_true rfl, Nat.le_of_ble_eq_true rfl⟩) hP hD hS hA [20, 21, 22, 5, 6, 7, 8, 9, 10, 11, 12, 13, 14, 15, 16, 17] [0, 1, 2, 3, 4, 18, 19] [0, 1, 2, 3, 4, 10, 11, 12, 13, 14, 15, 16, 17, 18, 19, 20, 21, 22, 5, 6, 7, 8, 9] rfl rfl (by decide) (by decide) (fw := rc8 a q_t Q_t z_t ++ (rc5 a (Q_t 5) Q_t_5 z_t_5 ++ (rc7 a (Q_t_5 0) Q_t_5_0 z_t_5_0 ++ (rc0 a (Q_t_5 1) Q_t_5_1 z_t_5_1 ++ (rc1 a (Q_t 10) Q_t_10 z20))))) rfl (by decide) (fun H locs hP hD hS => ?_)
              have hP : va_P D classes (rc8 a q_t Q_t z_t ++ (rc5 a (Q_t 5) Q_t_5 z_t_5 ++ (rc7 a (Q_t_5 0) Q_t_5_0 z_t_5_0 ++ (rc0 a (Q_t_5 1) Q_t_5_1 z_t_5_1 ++ (rc1 a (Q_t 10) Q_t_10 z20))))) H := hP
              have hD : va_D A (rc8 a q_t Q_t z_t ++ (rc5 a (Q_t 5) Q_t_5 z_t_5 ++ (rc7 a (Q_t_5 0) Q_t_5_0 z_t_5_0 ++ (rc0 a (Q_t_5 1) Q_t_5_1 z_t_5_1 ++ (rc1 a (Q_t 10) Q_t_10 z20))))) := hD
              refine lv_i2l (v := r19.toInt64) hx hb dX8_best_71 rfl ?_
              exact rMl C rfl h (g := fun y => rc8 a q_t Q_t z_t ++ (rc5 a (Q_t 5) Q_t_5 z_t_5 ++ (rc7 a (Q_t_5 0) Q_t_5_0 z_t_5_0 ++ (rc0 a (Q_t_5 1) Q_t_5_1 z_t_5_1 ++ (rc1 a (Q_t 10) Q_t_10 y.2))))) (pr := fun y => y.1) hP hD hS dX8_best_72
          · have h := ite_f c7 h
            refine lv_ldc2 hx hb hown (hts _ t_753) dX8_best_25 ?_
            exact rMl C rfl h (g := fun y => rc8 a q_t Q_t z_t ++ (rc5 a (Q_t 5) Q_t_5 z_t_5 ++ (rc7 a (Q_t_5 0) Q_t_5_0 z_t_5_0 ++ (rc0 a (Q_t_5 1) Q_t_5_1 z_t_5_1 ++ (rc1 a (Q_t 10) Q_t_10 y.2))))) (pr := fun y => y.1) hP hD hS dX8_best_28

def lX8_checks_26 (x1 : Int32) (x2 : Int32) : Nat → Int32 → Option (Int32)
  | 0, _ => none
  | n + 1, x3 => if 100 ≤ x3 then some x3 else if (x1 * (100 - x3)) ≤ (x2 * x3) then some x3 else lX8_checks_26 x1 x2 n (x3 + 1)
def fX8_checks (x1 : Int32) (x2 : Int32) : Option (Int32) := if x1 < 0 then some (-1) else if 9999 < x1 then some (-1) else if x2 < 0 then some (-1) else if x2 ≤ 9999 then lX8_checks_26 x1 x2 FU 0 else some (-1)

set_option maxHeartbeats 4000000 in
set_option maxRecDepth 100000 in
theorem wX8_checks_26 {p : Program} {l : Launch} {e : Env} {s : State} {m : MethodId} {below : List Frame} {meth : Method} {c : Code} {D : va_G} {a : Nat → ClassId} {q_t : Nat} {x10 : Int32} {x20 : Int32} {x1 : Int32} {x2 : Int32} (C : Cx p s m #[.ref q_t, .int x10, .int x20] meth c MX8_checks) (hK : KK D a s) {y : Int32} (hP : va_P D classes ([]) s.heap) : ∀ (n : Nat) (x3 : Int32) (ls : Array Slot), lX8_checks_26 x1 x2 n x3 = some y → lv_has ls 4 [(1, .int x1), (2, .int x2), (3, .int x3)] → W p l e (rmM 0 0 0 0) s m #[.ref q_t, .int x10, .int x20] below meth c s.heap [] 0 0 (MQ below (vp_Si (fun r => r = y)) #[.ref q_t, .int x10, .int x20] s 0 0 (fun _ => False)) (F0 m 26 ls []) := by
  obtain ⟨hx, hb, hml, hown, hts, hr, hlocks, hnm⟩ := id C
  have hb : c.code = cX8_checks := hb
  have hown : s.vm.findClass RX8 = some m.cls := hown
  intro n
  induction n with
  | zero => intro x3 ls h; rw [lX8_checks_26] at h; cases h
  | succ n ih =>
    intro x3 ls h hl
    rw [lX8_checks_26] at h
    refine lv_iload_n hx hb dX8_checks_26 rfl (lv_at hl 2 rfl) ?_
    refine lv_bipush (v := 100) hx hb dX8_checks_27 (by decide) ?_
    refine lv_icmp_ge (tgt := 50) hx hb dX8_checks_29 (by decide) (fun c5 => ?_) (fun c5 => ?_)
    · have h := ite_t c5 h
      refine lv_iload_n hx hb dX8_checks_50 rfl (lv_at hl 2 rfl) ?_
      exact rRi C rfl (Option.some.inj h) dX8_checks_51
    · have h := ite_f c5 h
      refine lv_iload_n hx hb dX8_checks_32 rfl (lv_at hl 0 rfl) ?_
      refine lv_bipush (v := 100) hx hb dX8_checks_33 (by decide) ?_
      refine lv_iload_n hx hb dX8_checks_35 rfl (lv_at hl 2 rfl) ?_
      refine lv_isub hx hb dX8_checks_36 ?_
      refine lv_imul hx hb dX8_checks_37 ?_
      refine lv_iload_n hx hb dX8_checks_38 rfl (lv_at hl 1 rfl) ?_
      refine lv_iload_n hx hb dX8_checks_39 rfl (lv_at hl 2 rfl) ?_
      refine lv_imul hx hb dX8_checks_40 ?_
      refine lv_icmp_le (tgt := 50) hx hb dX8_checks_41 (by decide) (fun c6 => ?_) (fun c6 => ?_)
      · have h := ite_t c6 h
        refine lv_iload_n hx hb dX8_checks_50 rfl (lv_at hl 2 rfl) ?_
        exact rRi C rfl (Option.some.inj h) dX8_checks_51
      · have h := ite_f c6 h
        refine lv_iinc (v := x3 + 1) (lv' := [(3, .int (x3 + 1)), (1, .int x1), (2, .int x2)]) hx hb dX8_checks_44 hl (k := 2) rfl rfl (by decide) rfl (fun ls hl => ?_)
        refine lv_goto (tgt := 26) hx hb dX8_checks_47 (by decide) ?_
        exact ih (x3 + 1) ls h (lv_sub hl [1, 2, 0] rfl)

set_option maxHeartbeats 4000000 in
set_option maxRecDepth 100000 in
theorem mX8_checks (l : Launch) (D : va_G) (a : Nat → ClassId) {q_t : Nat} {x1 : Int32} {x2 : Int32} {y : Int32} (h : fX8_checks x1 x2 = some y) : CRi l MX8_checks 0 0 D a [.ref q_t, .int x1, .int x2] ([]) (fun r => r = y) := by
  unfold fX8_checks at h
  refine entR (by decide) (Nat.le_of_ble_eq_true rfl) ?_
  intro p e s m below meth c C hK hP ls hl
  obtain ⟨hx, hb, hml, hown, hts, hr, hlocks, hnm⟩ := id C
  have hb : c.code = cX8_checks := hb
  have hown : s.vm.findClass RX8 = some m.cls := hown
  have hl : lv_has ls 4 [(0, .ref q_t), (1, .int x1), (2, .int x2)] := hl
  refine lv_iload_n hx hb dX8_checks_0 rfl (lv_at hl 1 rfl) ?_
  refine lv_if_lt (tgt := 22) hx hb dX8_checks_1 (by decide) (fun c1 => ?_) (fun c1 => ?_)
  · have h := ite_t c1 h
    refine lv_iconst (v := (-1)) hx hb dX8_checks_22 (by decide) ?_
    exact rRi C rfl (Option.some.inj h) dX8_checks_23
  · have h := ite_f c1 h
    refine lv_iload_n hx hb dX8_checks_4 rfl (lv_at hl 1 rfl) ?_
    refine lv_sipush (v := 9999) hx hb dX8_checks_5 (by decide) ?_
    refine lv_icmp_gt (tgt := 22) hx hb dX8_checks_8 (by decide) (fun c2 => ?_) (fun c2 => ?_)
    · have h := ite_t c2 h
      refine lv_iconst (v := (-1)) hx hb dX8_checks_22 (by decide) ?_
      exact rRi C rfl (Option.some.inj h) dX8_checks_23
    · have h := ite_f c2 h
      refine lv_iload_n hx hb dX8_checks_11 rfl (lv_at hl 2 rfl) ?_
      refine lv_if_lt (tgt := 22) hx hb dX8_checks_12 (by decide) (fun c3 => ?_) (fun c3 => ?_)
      · have h := ite_t c3 h
        refine lv_iconst (v := (-1)) hx hb dX8_checks_22 (by decide) ?_
        exact rRi C rfl (Option.some.inj h) dX8_checks_23
      · have h := ite_f c3 h
        refine lv_iload_n hx hb dX8_checks_15 rfl (lv_at hl 2 rfl) ?_
        refine lv_sipush (v := 9999) hx hb dX8_checks_16 (by decide) ?_
        refine lv_icmp_le (tgt := 24) hx hb dX8_checks_19 (by decide) (fun c4 => ?_) (fun c4 => ?_)
        · have h := ite_t c4 h
          refine lv_iconst (v := 0) hx hb dX8_checks_24 (by decide) ?_
          refine lv_istore_n (lv' := [(3, .int 0), (0, .ref q_t), (1, .int x1), (2, .int x2)]) hx hb dX8_checks_25 rfl hl (by decide) rfl (fun ls hl => ?_)
          refine wX8_checks_26 C hK hP FU 0 ls h (lv_sub hl [2, 3, 0] rfl)
        · have h := ite_f c4 h
          refine lv_iconst (v := (-1)) hx hb dX8_checks_22 (by decide) ?_
          exact rRi C rfl (Option.some.inj h) dX8_checks_23

def fX8_coins (z_t : Sx) (z_t_5 : Sx) (z_t_5_1 : Sx) (x1 : Int32) : Option (Int32) := if x1 = 0 then some (gI z_t_5_1 1) else if x1 = 1 then some (gI z_t_5 2) else if x1 = 2 then some (gI z_t_5 3) else some (-1000000)

set_option maxHeartbeats 4000000 in
set_option maxRecDepth 100000 in
theorem mX8_coins (l : Launch) (D : va_G) (a : Nat → ClassId) {q_t : Nat} {Q_t : Nat → Nat} {z_t : Sx} {Q_t_5 : Nat → Nat} {z_t_5 : Sx} {Q_t_5_1 : Nat → Nat} {z_t_5_1 : Sx} {x1 : Int32} {y : Int32} (h : fX8_coins z_t z_t_5 z_t_5_1 x1 = some y) : CRi l MX8_coins 0 0 D a [.ref q_t, .int x1] (rc8 a q_t Q_t z_t ++ (rc5 a (Q_t 5) Q_t_5 z_t_5 ++ (rc0 a (Q_t_5 1) Q_t_5_1 z_t_5_1))) (fun r => r = y) := by
  unfold fX8_coins at h
  refine entR (by decide) (Nat.le_of_ble_eq_true rfl) ?_
  intro p e s m below meth c C hK hP ls hl
  obtain ⟨hx, hb, hml, hown, hts, hr, hlocks, hnm⟩ := id C
  have hb : c.code = cX8_coins := hb
  have hown : s.vm.findClass RX8 = some m.cls := hown
  have hl : lv_has ls 2 [(0, .ref q_t), (1, .int x1)] := hl
  refine lv_iload_n hx hb dX8_coins_0 rfl (lv_at hl 1 rfl) ?_
  by_cases c1_0 : x1 = 0
  · have h := ite_t c1_0 h
    refine lv_tableIn (off := 27) (tgt := 28) hx hb dX8_coins_1 (by rw [c1_0]; decide) (by rw [c1_0]; decide) (by rw [c1_0]; decide) (by decide) ?_
    refine lv_aload_n hx hb dX8_coins_28 rfl (lv_at hl 0 rfl) ?_
    refine va_get (D := D) (v := .ref (Q_t 5)) (C := RX8) (T := TX8) (N := 11) hx hb hts iX8 hown hK.1 hP 0 rfl rfl 5 (by decide) (hts _ t_305) (fun _ h9 => h9) rfl dX8_coins_29 ?_
    refine va_get (D := D) (v := .ref (Q_t_5 1)) (C := RX5) (T := TX5) (N := 8) hx hb hts iX5 hown hK.1 hP 2 rfl rfl 1 (by decide) (hts _ t_163) (fun _ h9 => h9) rfl dX8_coins_32 ?_
    refine va_get (D := D) (v := .int (gI z_t_5_1 1)) (C := RX0) (T := TX0) (N := 6) hx hb hts iX0 hown hK.1 hP 5 rfl rfl 1 (by decide) (hts _ t_135) (fun _ h9 => h9) rfl dX8_coins_35 ?_
    exact rRi C rfl (Option.some.inj h) dX8_coins_38
  have h := ite_f c1_0 h
  by_cases c1_1 : x1 = 1
  · have h := ite_t c1_1 h
    refine lv_tableIn (off := 38) (tgt := 39) hx hb dX8_coins_1 (by rw [c1_1]; decide) (by rw [c1_1]; decide) (by rw [c1_1]; decide) (by decide) ?_
    refine lv_aload_n hx hb dX8_coins_39 rfl (lv_at hl 0 rfl) ?_
    refine va_get (D := D) (v := .ref (Q_t 5)) (C := RX8) (T := TX8) (N := 11) hx hb hts iX8 hown hK.1 hP 0 rfl rfl 5 (by decide) (hts _ t_305) (fun _ h9 => h9) rfl dX8_coins_40 ?_
    refine va_get (D := D) (v := .int (gI z_t_5 2)) (C := RX5) (T := TX5) (N := 8) hx hb hts iX5 hown hK.1 hP 2 rfl rfl 2 (by decide) (hts _ t_165) (fun _ h9 => h9) rfl dX8_coins_43 ?_
    exact rRi C rfl (Option.some.inj h) dX8_coins_46
  have h := ite_f c1_1 h
  by_cases c1_2 : x1 = 2
  · have h := ite_t c1_2 h
    refine lv_tableIn (off := 46) (tgt := 47) hx hb dX8_coins_1 (by rw [c1_2]; decide) (by rw [c1_2]; decide) (by rw [c1_2]; decide) (by decide) ?_
    refine lv_aload_n hx hb dX8_coins_47 rfl (lv_at hl 0 rfl) ?_
    refine va_get (D := D) (v := .ref (Q_t 5)) (C := RX8) (T := TX8) (N := 11) hx hb hts iX8 hown hK.1 hP 0 rfl rfl 5 (by decide) (hts _ t_305) (fun _ h9 => h9) rfl dX8_coins_48 ?_
    refine va_get (D := D) (v := .int (gI z_t_5 3)) (C := RX5) (T := TX5) (N := 8) hx hb hts iX5 hown hK.1 hP 2 rfl rfl 3 (by decide) (hts _ t_167) (fun _ h9 => h9) rfl dX8_coins_51 ?_
    exact rRi C rfl (Option.some.inj h) dX8_coins_54
  have h := ite_f c1_2 h
  refine lv_tableOut (tgt := 55) hx hb dX8_coins_1 (by have := lv_neT c1_0 (show (0 : Int32).toInt = 0 by decide); have := lv_neT c1_1 (show (1 : Int32).toInt = 1 by decide); have := lv_neT c1_2 (show (2 : Int32).toInt = 2 by decide); omega) (by decide) ?_
  refine lv_ldc hx hb hown (hts _ t_640) dX8_coins_55 ?_
  exact rRi C rfl (Option.some.inj h) dX8_coins_57

def fX8_count (z_t : Sx) (z_t_5 : Sx) (z_t_5_0 : Sx) (z_t_5_1 : Sx) (x1 : Int32) : Option (Int32) := if x1 = 0 then some (gI z_t_5_0 3) else if x1 = 1 then some (gI z_t_5_0 2) else if x1 = 2 then some (gI z_t 3) else if x1 = 3 then some (gI z_t_5_1 0) else if x1 = 4 then bd (fJ6_bitCount_0f7a4 (gI z_t_5_1 2)) (fun r3 => some r3) else if x1 = 5 then bd (fJ6_bitCount_0f7a4 (gI z_t_5_1 3)) (fun r5 => some r5) else if x1 = 6 then some (gI z_t_5 6) else if x1 = 7 then some (gI z_t_5_1 4) else if x1 = 8 then some (gI z_t 1) else if x1 = 9 then some (gI z_t_5 4) else if x1 = 10 then some (gI z_t_5_0 1) else some (-1)

set_option maxHeartbeats 4000000 in
set_option maxRecDepth 100000 in
theorem mX8_count (l : Launch) (D : va_G) (a : Nat → ClassId) {q_t : Nat} {Q_t : Nat → Nat} {z_t : Sx} {Q_t_5 : Nat → Nat} {z_t_5 : Sx} {Q_t_5_0 : Nat → Nat} {z_t_5_0 : Sx} {Q_t_5_1 : Nat → Nat} {z_t_5_1 : Sx} {x1 : Int32} {y : Int32} (h : fX8_count z_t z_t_5 z_t_5_0 z_t_5_1 x1 = some y) : CRi l MX8_count 1 20 D a [.ref q_t, .int x1] (rc8 a q_t Q_t z_t ++ (rc5 a (Q_t 5) Q_t_5 z_t_5 ++ (rc7 a (Q_t_5 0) Q_t_5_0 z_t_5_0 ++ (rc0 a (Q_t_5 1) Q_t_5_1 z_t_5_1)))) (fun r => r = y) := by
  unfold fX8_count at h
  refine entR (by decide) (Nat.le_of_ble_eq_true rfl) ?_
  intro p e s m below meth c C hK hP ls hl
  obtain ⟨hx, hb, hml, hown, hts, hr, hlocks, hnm⟩ := id C
  have hb : c.code = cX8_count := hb
  have hown : s.vm.findClass RX8 = some m.cls := hown
  have hl : lv_has ls 2 [(0, .ref q_t), (1, .int x1)] := hl
  refine lv_iload_n hx hb dX8_count_0 rfl (lv_at hl 1 rfl) ?_
  by_cases c1_0 : x1 = 0
  · have h := ite_t c1_0 h
    refine lv_tableIn (off := 59) (tgt := 60) hx hb dX8_count_1 (by rw [c1_0]; decide) (by rw [c1_0]; decide) (by rw [c1_0]; decide) (by decide) ?_
    refine lv_aload_n hx hb dX8_count_60 rfl (lv_at hl 0 rfl) ?_
    refine va_get (D := D) (v := .ref (Q_t 5)) (C := RX8) (T := TX8) (N := 11) hx hb hts iX8 hown hK.1 hP 0 rfl rfl 5 (by decide) (hts _ t_305) (fun _ h9 => h9) rfl dX8_count_61 ?_
    refine va_get (D := D) (v := .ref (Q_t_5 0)) (C := RX5) (T := TX5) (N := 8) hx hb hts iX5 hown hK.1 hP 2 rfl rfl 0 (by decide) (hts _ t_161) (fun _ h9 => h9) rfl dX8_count_64 ?_
    refine va_get (D := D) (v := .int (gI z_t_5_0 3)) (C := RX7) (T := TX7) (N := 18) hx hb hts iX7 hown hK.1 hP 5 rfl rfl 3 (by decide) (hts _ t_47) (fun _ h9 => h9) rfl dX8_count_67 ?_
    exact rRi C rfl (Option.some.inj h) dX8_count_70
  have h := ite_f c1_0 h
  by_cases c1_1 : x1 = 1
  · have h := ite_t c1_1 h
    refine lv_tableIn (off := 70) (tgt := 71) hx hb dX8_count_1 (by rw [c1_1]; decide) (by rw [c1_1]; decide) (by rw [c1_1]; decide) (by decide) ?_
    refine lv_aload_n hx hb dX8_count_71 rfl (lv_at hl 0 rfl) ?_
    refine va_get (D := D) (v := .ref (Q_t 5)) (C := RX8) (T := TX8) (N := 11) hx hb hts iX8 hown hK.1 hP 0 rfl rfl 5 (by decide) (hts _ t_305) (fun _ h9 => h9) rfl dX8_count_72 ?_
    refine va_get (D := D) (v := .ref (Q_t_5 0)) (C := RX5) (T := TX5) (N := 8) hx hb hts iX5 hown hK.1 hP 2 rfl rfl 0 (by decide) (hts _ t_161) (fun _ h9 => h9) rfl dX8_count_75 ?_
    refine va_get (D := D) (v := .int (gI z_t_5_0 2)) (C := RX7) (T := TX7) (N := 18) hx hb hts iX7 hown hK.1 hP 5 rfl rfl 2 (by decide) (hts _ t_43) (fun _ h9 => h9) rfl dX8_count_78 ?_
    exact rRi C rfl (Option.some.inj h) dX8_count_81
  have h := ite_f c1_1 h
  by_cases c1_2 : x1 = 2
  · have h := ite_t c1_2 h
    refine lv_tableIn (off := 81) (tgt := 82) hx hb dX8_count_1 (by rw [c1_2]; decide) (by rw [c1_2]; decide) (by rw [c1_2]; decide) (by decide) ?_
    refine lv_aload_n hx hb dX8_count_82 rfl (lv_at hl 0 rfl) ?_
    refine va_get (D := D) (v := .int (gI z_t 3)) (C := RX8) (T := TX8) (N := 11) hx hb hts iX8 hown hK.1 hP 0 rfl rfl 3 (by decide) (hts _ t_303) (fun _ h9 => h9) rfl dX8_count_83 ?_
    exact rRi C rfl (Option.some.inj h) dX8_count_86
  have h := ite_f c1_2 h
  by_cases c1_3 : x1 = 3
  · have h := ite_t c1_3 h
    refine lv_tableIn (off := 86) (tgt := 87) hx hb dX8_count_1 (by rw [c1_3]; decide) (by rw [c1_3]; decide) (by rw [c1_3]; decide) (by decide) ?_
    refine lv_aload_n hx hb dX8_count_87 rfl (lv_at hl 0 rfl) ?_
    refine va_get (D := D) (v := .ref (Q_t 5)) (C := RX8) (T := TX8) (N := 11) hx hb hts iX8 hown hK.1 hP 0 rfl rfl 5 (by decide) (hts _ t_305) (fun _ h9 => h9) rfl dX8_count_88 ?_
    refine va_get (D := D) (v := .ref (Q_t_5 1)) (C := RX5) (T := TX5) (N := 8) hx hb hts iX5 hown hK.1 hP 2 rfl rfl 1 (by decide) (hts _ t_163) (fun _ h9 => h9) rfl dX8_count_91 ?_
    refine va_get (D := D) (v := .int (gI z_t_5_1 0)) (C := RX0) (T := TX0) (N := 6) hx hb hts iX0 hown hK.1 hP 18 rfl rfl 0 (by decide) (hts _ t_132) (fun _ h9 => h9) rfl dX8_count_94 ?_
    exact rRi C rfl (Option.some.inj h) dX8_count_97
  have h := ite_f c1_3 h
  by_cases c1_4 : x1 = 4
  · have h := ite_t c1_4 h
    refine lv_tableIn (off := 97) (tgt := 98) hx hb dX8_count_1 (by rw [c1_4]; decide) (by rw [c1_4]; decide) (by rw [c1_4]; decide) (by decide) ?_
    refine lv_aload_n hx hb dX8_count_98 rfl (lv_at hl 0 rfl) ?_
    refine va_get (D := D) (v := .ref (Q_t 5)) (C := RX8) (T := TX8) (N := 11) hx hb hts iX8 hown hK.1 hP 0 rfl rfl 5 (by decide) (hts _ t_305) (fun _ h9 => h9) rfl dX8_count_99 ?_
    refine va_get (D := D) (v := .ref (Q_t_5 1)) (C := RX5) (T := TX5) (N := 8) hx hb hts iX5 hown hK.1 hP 2 rfl rfl 1 (by decide) (hts _ t_163) (fun _ h9 => h9) rfl dX8_count_102 ?_
    refine va_get (D := D) (v := .int (gI z_t_5_1 2)) (C := RX0) (T := TX0) (N := 6) hx hb hts iX0 hown hK.1 hP 18 rfl rfl 2 (by decide) (hts _ t_138) (fun _ h9 => h9) rfl dX8_count_105 ?_
    obtain ⟨r3, hc2, h⟩ := bd_some h
    refine cRi (runS (As := [.int (gI z_t_5_1 2)]) (rest := []) C (mJ6_bitCount_0f7a4 l D a hc2) lk_S_8_181 okN_J6_bitCount_0f7a4 ⟨Nat.le_of_ble_eq_true rfl, Nat.le_of_ble_eq_true rfl⟩ ⟨rfl, rfl⟩ (preR hK (P_of_map (wc := []) hP [] rfl)) hl.1 rfl (Nat.le_of_ble_eq_true rfl) dX8_count_108 ⟨Nat.le_of_ble_eq_true rfl, Nat.le_of_ble_eq_true rfl⟩) ?_
    exact rRi C rfl (Option.some.inj h) dX8_count_111
  have h := ite_f c1_4 h
  by_cases c1_5 : x1 = 5
  · have h := ite_t c1_5 h
    refine lv_tableIn (off := 111) (tgt := 112) hx hb dX8_count_1 (by rw [c1_5]; decide) (by rw [c1_5]; decide) (by rw [c1_5]; decide) (by decide) ?_
    refine lv_aload_n hx hb dX8_count_112 rfl (lv_at hl 0 rfl) ?_
    refine va_get (D := D) (v := .ref (Q_t 5)) (C := RX8) (T := TX8) (N := 11) hx hb hts iX8 hown hK.1 hP 0 rfl rfl 5 (by decide) (hts _ t_305) (fun _ h9 => h9) rfl dX8_count_113 ?_
    refine va_get (D := D) (v := .ref (Q_t_5 1)) (C := RX5) (T := TX5) (N := 8) hx hb hts iX5 hown hK.1 hP 2 rfl rfl 1 (by decide) (hts _ t_163) (fun _ h9 => h9) rfl dX8_count_116 ?_
    refine va_get (D := D) (v := .int (gI z_t_5_1 3)) (C := RX0) (T := TX0) (N := 6) hx hb hts iX0 hown hK.1 hP 18 rfl rfl 3 (by decide) (hts _ t_141) (fun _ h9 => h9) rfl dX8_count_119 ?_
    obtain ⟨r5, hc4, h⟩ := bd_some h
    refine cRi (runS (As := [.int (gI z_t_5_1 3)]) (rest := []) C (mJ6_bitCount_0f7a4 l D a hc4) lk_S_8_181 okN_J6_bitCount_0f7a4 ⟨Nat.le_of_ble_eq_true rfl, Nat.le_of_ble_eq_true rfl⟩ ⟨rfl, rfl⟩ (preR hK (P_of_map (wc := []) hP [] rfl)) hl.1 rfl (Nat.le_of_ble_eq_true rfl) dX8_count_122 ⟨Nat.le_of_ble_eq_true rfl, Nat.le_of_ble_eq_true rfl⟩) ?_
    exact rRi C rfl (Option.some.inj h) dX8_count_125
  have h := ite_f c1_5 h
  by_cases c1_6 : x1 = 6
  · have h := ite_t c1_6 h
    refine lv_tableIn (off := 125) (tgt := 126) hx hb dX8_count_1 (by rw [c1_6]; decide) (by rw [c1_6]; decide) (by rw [c1_6]; decide) (by decide) ?_
    refine lv_aload_n hx hb dX8_count_126 rfl (lv_at hl 0 rfl) ?_
    refine va_get (D := D) (v := .ref (Q_t 5)) (C := RX8) (T := TX8) (N := 11) hx hb hts iX8 hown hK.1 hP 0 rfl rfl 5 (by decide) (hts _ t_305) (fun _ h9 => h9) rfl dX8_count_127 ?_
    refine va_get (D := D) (v := .int (gI z_t_5 6)) (C := RX5) (T := TX5) (N := 8) hx hb hts iX5 hown hK.1 hP 2 rfl rfl 6 (by decide) (hts _ t_173) (fun _ h9 => h9) rfl dX8_count_130 ?_
    exact rRi C rfl (Option.some.inj h) dX8_count_133
  have h := ite_f c1_6 h
  by_cases c1_7 : x1 = 7
  · have h := ite_t c1_7 h
    refine lv_tableIn (off := 133) (tgt := 134) hx hb dX8_count_1 (by rw [c1_7]; decide) (by rw [c1_7]; decide) (by rw [c1_7]; decide) (by decide) ?_
    refine lv_aload_n hx hb dX8_count_134 rfl (lv_at hl 0 rfl) ?_
    refine va_get (D := D) (v := .ref (Q_t 5)) (C := RX8) (T := TX8) (N := 11) hx hb hts iX8 hown hK.1 hP 0 rfl rfl 5 (by decide) (hts _ t_305) (fun _ h9 => h9) rfl dX8_count_135 ?_
    refine va_get (D := D) (v := .ref (Q_t_5 1)) (C := RX5) (T := TX5) (N := 8) hx hb hts iX5 hown hK.1 hP 2 rfl rfl 1 (by decide) (hts _ t_163) (fun _ h9 => h9) rfl dX8_count_138 ?_
    refine va_get (D := D) (v := .int (gI z_t_5_1 4)) (C := RX0) (T := TX0) (N := 6) hx hb hts iX0 hown hK.1 hP 18 rfl rfl 4 (by decide) (hts _ t_143) (fun _ h9 => h9) rfl dX8_count_141 ?_
    exact rRi C rfl (Option.some.inj h) dX8_count_144
  have h := ite_f c1_7 h
  by_cases c1_8 : x1 = 8
  · have h := ite_t c1_8 h
    refine lv_tableIn (off := 144) (tgt := 145) hx hb dX8_count_1 (by rw [c1_8]; decide) (by rw [c1_8]; decide) (by rw [c1_8]; decide) (by decide) ?_
    refine lv_aload_n hx hb dX8_count_145 rfl (lv_at hl 0 rfl) ?_
    refine va_get (D := D) (v := .int (gI z_t 1)) (C := RX8) (T := TX8) (N := 11) hx hb hts iX8 hown hK.1 hP 0 rfl rfl 1 (by decide) (hts _ t_301) (fun _ h9 => h9) rfl dX8_count_146 ?_
    exact rRi C rfl (Option.some.inj h) dX8_count_149
  have h := ite_f c1_8 h
  by_cases c1_9 : x1 = 9
  · have h := ite_t c1_9 h
    refine lv_tableIn (off := 149) (tgt := 150) hx hb dX8_count_1 (by rw [c1_9]; decide) (by rw [c1_9]; decide) (by rw [c1_9]; decide) (by decide) ?_
    refine lv_aload_n hx hb dX8_count_150 rfl (lv_at hl 0 rfl) ?_
    refine va_get (D := D) (v := .ref (Q_t 5)) (C := RX8) (T := TX8) (N := 11) hx hb hts iX8 hown hK.1 hP 0 rfl rfl 5 (by decide) (hts _ t_305) (fun _ h9 => h9) rfl dX8_count_151 ?_
    refine va_get (D := D) (v := .int (gI z_t_5 4)) (C := RX5) (T := TX5) (N := 8) hx hb hts iX5 hown hK.1 hP 2 rfl rfl 4 (by decide) (hts _ t_169) (fun _ h9 => h9) rfl dX8_count_154 ?_
    exact rRi C rfl (Option.some.inj h) dX8_count_157
  have h := ite_f c1_9 h
  by_cases c1_10 : x1 = 10
  · have h := ite_t c1_10 h
    refine lv_tableIn (off := 157) (tgt := 158) hx hb dX8_count_1 (by rw [c1_10]; decide) (by rw [c1_10]; decide) (by rw [c1_10]; decide) (by decide) ?_
    refine lv_aload_n hx hb dX8_count_158 rfl (lv_at hl 0 rfl) ?_
    refine va_get (D := D) (v := .ref (Q_t 5)) (C := RX8) (T := TX8) (N := 11) hx hb hts iX8 hown hK.1 hP 0 rfl rfl 5 (by decide) (hts _ t_305) (fun _ h9 => h9) rfl dX8_count_159 ?_
    refine va_get (D := D) (v := .ref (Q_t_5 0)) (C := RX5) (T := TX5) (N := 8) hx hb hts iX5 hown hK.1 hP 2 rfl rfl 0 (by decide) (hts _ t_161) (fun _ h9 => h9) rfl dX8_count_162 ?_
    refine va_get (D := D) (v := .int (gI z_t_5_0 1)) (C := RX7) (T := TX7) (N := 18) hx hb hts iX7 hown hK.1 hP 5 rfl rfl 1 (by decide) (hts _ t_41) (fun _ h9 => h9) rfl dX8_count_165 ?_
    exact rRi C rfl (Option.some.inj h) dX8_count_168
  have h := ite_f c1_10 h
  refine lv_tableOut (tgt := 169) hx hb dX8_count_1 (by have := lv_neT c1_0 (show (0 : Int32).toInt = 0 by decide); have := lv_neT c1_1 (show (1 : Int32).toInt = 1 by decide); have := lv_neT c1_2 (show (2 : Int32).toInt = 2 by decide); have := lv_neT c1_3 (show (3 : Int32).toInt = 3 by decide); have := lv_neT c1_4 (show (4 : Int32).toInt = 4 by decide); have := lv_neT c1_5 (show (5 : Int32).toInt = 5 by decide); have := lv_neT c1_6 (show (6 : Int32).toInt = 6 by decide); have := lv_neT c1_7 (show (7 : Int32).toInt = 7 by decide); have := lv_neT c1_8 (show (8 : Int32).toInt = 8 by decide); have := lv_neT c1_9 (show (9 : Int32).toInt = 9 by decide); have := lv_neT c1_10 (show (10 : Int32).toInt = 10 by decide); omega) (by decide) ?_
  refine lv_iconst (v := (-1)) hx hb dX8_count_169 (by decide) ?_
  exact rRi C rfl (Option.some.inj h) dX8_count_170

def fX8_dawn (z_t : Sx) (z_t_5 : Sx) (z_t_5_0 : Sx) (z_t_5_1 : Sx) : Option (Int32 × Sx × Sx) := bd (fX8_hasWork z_t z_t_5 z_t_5_0) (fun r2 => if r2 = 0 then some ((-1000000), z_t_5, z_t_5_1) else bd (fX0_gone z_t_5_1) (fun r5 => bd (fX7_hiddenCoins z_t_5_0 r5) (fun r7 => bd (fX0_begin z_t_5_1 (gI z_t_5_0 1)) (fun z9 => some ((gI z_t_5 2) + r7, sI (sI (sI z_t_5 2 ((gI z_t_5 2) + r7)) 3 ((gI z_t_5 3) + (gI z_t_5_1 1))) 4 ((gI z_t_5 4) + 1), z9)))))

set_option maxHeartbeats 4000000 in
set_option maxRecDepth 100000 in
theorem mX8_dawn (l : Launch) (D : va_G) (a : Nat → ClassId) {q_t : Nat} {Q_t : Nat → Nat} {z_t : Sx} {Q_t_5 : Nat → Nat} {z_t_5 : Sx} {Q_t_5_0 : Nat → Nat} {z_t_5_0 : Sx} {Q_t_5_1 : Nat → Nat} {z_t_5_1 : Sx} {y : Int32 × Sx × Sx} (h : fX8_dawn z_t z_t_5 z_t_5_0 z_t_5_1 = some y) (sz : Nat) : CMi (S := Unit) l MX8_dawn 3 66 0 0 D a [.ref q_t] (rc8 a q_t Q_t z_t ++ (rc5 a (Q_t 5) Q_t_5 z_t_5 ++ (rc7 a (Q_t_5 0) Q_t_5_0 z_t_5_0 ++ (rc0 a (Q_t_5 1) Q_t_5_1 z_t_5_1)))) sz (fun r _ => r = y.1) (fun _ => rc8 a q_t Q_t z_t ++ (rc5 a (Q_t 5) Q_t_5 y.2.1 ++ (rc7 a (Q_t_5 0) Q_t_5_0 z_t_5_0 ++ (rc0 a (Q_t_5 1) Q_t_5_1 y.2.2)))) := by
  unfold fX8_dawn at h
  refine entMi (by decide) (Nat.le_of_ble_eq_true rfl) ?_
  intro p e s m below meth c C hK A hA hP hD ls hl
  obtain ⟨hx, hb, hml, hown, hts, hr, hlocks, hnm⟩ := id C
  have hb : c.code = cX8_dawn := hb
  have hown : s.vm.findClass RX8 = some m.cls := hown
  have hS : va_S A s.heap s.heap [] := va_S.rf
  have hl : lv_has ls 1 [(0, .ref q_t)] := hl
  refine lv_aload_n hx hb dX8_dawn_0 rfl (lv_at hl 0 rfl) ?_
  obtain ⟨r2, hc1, h⟩ := bd_some h
  refine cRi (runV (As := []) (rest := []) C (mX8_hasWork l D a hc1) lk_V_8_213 okN_X8_hasWork ⟨Nat.le_of_ble_eq_true rfl, Nat.le_of_ble_eq_true rfl⟩ ⟨rfl, rfl⟩ (preV (preR hK (P_of_map (wc := rc8 a q_t Q_t z_t ++ (rc5 a (Q_t 5) Q_t_5 z_t_5 ++ (rc7 a (Q_t_5 0) Q_t_5_0 z_t_5_0))) hP [0, 1, 2, 3, 4, 5, 6, 7, 8, 9, 10, 11, 12, 13, 14, 15, 16, 17] rfl)) (recvOf hK hP 0 rfl (ci := 8) rfl)) hl.1 rfl (Nat.le_of_ble_eq_true rfl) dX8_dawn_1 ⟨Nat.le_of_ble_eq_true rfl, Nat.le_of_ble_eq_true rfl⟩) ?_
  refine lv_if_ne (tgt := 10) hx hb dX8_dawn_4 (by decide) (fun c3 => ?_) (fun c3 => ?_)
  · have h := ite_f c3 h
    refine lv_aload_n hx hb dX8_dawn_10 rfl (lv_at hl 0 rfl) ?_
    refine va_get (D := D) (v := .ref (Q_t 5)) (C := RX8) (T := TX8) (N := 11) hx hb hts iX8 hown hK.1 hP 0 rfl rfl 5 (by decide) (hts _ t_305) (fun _ h9 => h9) rfl dX8_dawn_11 ?_
    refine lv_dup hx hb dX8_dawn_14 rfl ?_
    refine va_get (D := D) (v := .int (gI z_t_5 2)) (C := RX5) (T := TX5) (N := 8) hx hb hts iX5 hown hK.1 hP 2 rfl rfl 2 (by decide) (hts _ t_165) (fun _ h9 => h9) rfl dX8_dawn_15 ?_
    refine lv_aload_n hx hb dX8_dawn_18 rfl (lv_at hl 0 rfl) ?_
    refine va_get (D := D) (v := .ref (Q_t 5)) (C := RX8) (T := TX8) (N := 11) hx hb hts iX8 hown hK.1 hP 0 rfl rfl 5 (by decide) (hts _ t_305) (fun _ h9 => h9) rfl dX8_dawn_19 ?_
    refine va_get (D := D) (v := .ref (Q_t_5 0)) (C := RX5) (T := TX5) (N := 8) hx hb hts iX5 hown hK.1 hP 2 rfl rfl 0 (by decide) (hts _ t_161) (fun _ h9 => h9) rfl dX8_dawn_22 ?_
    refine lv_aload_n hx hb dX8_dawn_25 rfl (lv_at hl 0 rfl) ?_
    refine va_get (D := D) (v := .ref (Q_t 5)) (C := RX8) (T := TX8) (N := 11) hx hb hts iX8 hown hK.1 hP 0 rfl rfl 5 (by decide) (hts _ t_305) (fun _ h9 => h9) rfl dX8_dawn_26 ?_
    refine va_get (D := D) (v := .ref (Q_t_5 1)) (C := RX5) (T := TX5) (N := 8) hx hb hts iX5 hown hK.1 hP 2 rfl rfl 1 (by decide) (hts _ t_163) (fun _ h9 => h9) rfl dX8_dawn_29 ?_
    obtain ⟨r5, hc4, h⟩ := bd_some h
    refine cRi (runV (As := []) (rest := [.ref (Q_t_5 0), .int (gI z_t_5 2), .ref (Q_t 5)]) C (mX0_gone l D a hc4) lk_V_8_171 okN_X0_gone ⟨Nat.le_of_ble_eq_true rfl, Nat.le_of_ble_eq_true rfl⟩ ⟨rfl, rfl⟩ (preV (preR hK (P_of_map (wc := rc0 a (Q_t_5 1) Q_t_5_1 z_t_5_1) hP [18, 19] rfl)) (recvOf hK hP 18 rfl (ci := 0) rfl)) hl.1 rfl (Nat.le_of_ble_eq_true rfl) dX8_dawn_32 ⟨Nat.le_of_ble_eq_true rfl, Nat.le_of_ble_eq_true rfl⟩) ?_
    obtain ⟨r7, hc6, h⟩ := bd_some h
    refine cRi (runV (As := [.int r5]) (rest := [.int (gI z_t_5 2), .ref (Q_t 5)]) C (mX7_hiddenCoins l D a hc6) lk_V_8_222 okN_X7_hiddenCoins ⟨Nat.le_of_ble_eq_true rfl, Nat.le_of_ble_eq_true rfl⟩ ⟨rfl, rfl⟩ (preV (preR hK (P_of_map (wc := rc7 a (Q_t_5 0) Q_t_5_0 z_t_5_0) hP [5, 6, 7, 8, 9, 10, 11, 12, 13, 14, 15, 16, 17] rfl)) (recvOf hK hP 5 rfl (ci := 7) rfl)) hl.1 rfl (Nat.le_of_ble_eq_true rfl) dX8_dawn_35 ⟨Nat.le_of_ble_eq_true rfl, Nat.le_of_ble_eq_true rfl⟩) ?_
    refine lv_iadd hx hb dX8_dawn_38 ?_
    refine va_put (D := D) (v := .int ((gI z_t_5 2) + r7)) (C := RX5) (T := TX5) (N := 8) hx hb hts iX5 tyX5 tyX5_ok nmX5 hown hK.1 hP hD hS 2 rfl rfl 2 (by decide) (hts _ t_165) (fun _ h9 => h9) rfl (tyX5_ok 2 (by decide)) rfl rfl (Nat.le_of_ble_eq_true rfl) dX8_dawn_39 (fun H locs hP hD hS => ?_)
    have hP : va_P D classes (rc8 a q_t Q_t z_t ++ (rc5 a (Q_t 5) Q_t_5 (sI z_t_5 2 ((gI z_t_5 2) + r7)) ++ (rc7 a (Q_t_5 0) Q_t_5_0 z_t_5_0 ++ (rc0 a (Q_t_5 1) Q_t_5_1 z_t_5_1)))) H := hP
    have hD : va_D A (rc8 a q_t Q_t z_t ++ (rc5 a (Q_t 5) Q_t_5 (sI z_t_5 2 ((gI z_t_5 2) + r7)) ++ (rc7 a (Q_t_5 0) Q_t_5_0 z_t_5_0 ++ (rc0 a (Q_t_5 1) Q_t_5_1 z_t_5_1)))) := hD
    refine lv_aload_n hx hb dX8_dawn_42 rfl (lv_at hl 0 rfl) ?_
    refine va_get (D := D) (v := .ref (Q_t 5)) (C := RX8) (T := TX8) (N := 11) hx hb hts iX8 hown hK.1 hP 0 rfl rfl 5 (by decide) (hts _ t_305) (fun _ h9 => h9) rfl dX8_dawn_43 ?_
    refine lv_dup hx hb dX8_dawn_46 rfl ?_
    refine va_get (D := D) (v := .int (gI z_t_5 3)) (C := RX5) (T := TX5) (N := 8) hx hb hts iX5 hown hK.1 hP 2 rfl rfl 3 (by decide) (hts _ t_167) (fun _ h9 => h9) rfl dX8_dawn_47 ?_
    refine lv_aload_n hx hb dX8_dawn_50 rfl (lv_at hl 0 rfl) ?_
    refine va_get (D := D) (v := .ref (Q_t 5)) (C := RX8) (T := TX8) (N := 11) hx hb hts iX8 hown hK.1 hP 0 rfl rfl 5 (by decide) (hts _ t_305) (fun _ h9 => h9) rfl dX8_dawn_51 ?_
    refine va_get (D := D) (v := .ref (Q_t_5 1)) (C := RX5) (T := TX5) (N := 8) hx hb hts iX5 hown hK.1 hP 2 rfl rfl 1 (by decide) (hts _ t_163) (fun _ h9 => h9) rfl dX8_dawn_54 ?_
    refine va_get (D := D) (v := .int (gI z_t_5_1 1)) (C := RX0) (T := TX0) (N := 6) hx hb hts iX0 hown hK.1 hP 18 rfl rfl 1 (by decide) (hts _ t_135) (fun _ h9 => h9) rfl dX8_dawn_57 ?_
    refine lv_iadd hx hb dX8_dawn_60 ?_
    refine va_put (D := D) (v := .int ((gI z_t_5 3) + (gI z_t_5_1 1))) (C := RX5) (T := TX5) (N := 8) hx hb hts iX5 tyX5 tyX5_ok nmX5 hown hK.1 hP hD hS 2 rfl rfl 3 (by decide) (hts _ t_167) (fun _ h9 => h9) rfl (tyX5_ok 3 (by decide)) rfl rfl (Nat.le_of_ble_eq_true rfl) dX8_dawn_61 (fun H locs hP hD hS => ?_)
    have hP : va_P D classes (rc8 a q_t Q_t z_t ++ (rc5 a (Q_t 5) Q_t_5 (sI (sI z_t_5 2 ((gI z_t_5 2) + r7)) 3 ((gI z_t_5 3) + (gI z_t_5_1 1))) ++ (rc7 a (Q_t_5 0) Q_t_5_0 z_t_5_0 ++ (rc0 a (Q_t_5 1) Q_t_5_1 z_t_5_1)))) H := hP
    have hD : va_D A (rc8 a q_t Q_t z_t ++ (rc5 a (Q_t 5) Q_t_5 (sI (sI z_t_5 2 ((gI z_t_5 2) + r7)) 3 ((gI z_t_5 3) + (gI z_t_5_1 1))) ++ (rc7 a (Q_t_5 0) Q_t_5_0 z_t_5_0 ++ (rc0 a (Q_t_5 1) Q_t_5_1 z_t_5_1)))) := hD
    refine lv_aload_n hx hb dX8_dawn_64 rfl (lv_at hl 0 rfl) ?_
    refine va_get (D := D) (v := .ref (Q_t 5)) (C := RX8) (T := TX8) (N := 11) hx hb hts iX8 hown hK.1 hP 0 rfl rfl 5 (by decide) (hts _ t_305) (fun _ h9 => h9) rfl dX8_dawn_65 ?_
    refine lv_dup hx hb dX8_dawn_68 rfl ?_
    refine va_get (D := D) (v := .int (gI z_t_5 4)) (C := RX5) (T := TX5) (N := 8) hx hb hts iX5 hown hK.1 hP 2 rfl rfl 4 (by decide) (hts _ t_169) (fun _ h9 => h9) rfl dX8_dawn_69 ?_
    refine lv_iconst (v := 1) hx hb dX8_dawn_72 (by decide) ?_
    refine lv_iadd hx hb dX8_dawn_73 ?_
    refine va_put (D := D) (v := .int ((gI z_t_5 4) + 1)) (C := RX5) (T := TX5) (N := 8) hx hb hts iX5 tyX5 tyX5_ok nmX5 hown hK.1 hP hD hS 2 rfl rfl 4 (by decide) (hts _ t_169) (fun _ h9 => h9) rfl (tyX5_ok 4 (by decide)) rfl rfl (Nat.le_of_ble_eq_true rfl) dX8_dawn_74 (fun H locs hP hD hS => ?_)
    have hP : va_P D classes (rc8 a q_t Q_t z_t ++ (rc5 a (Q_t 5) Q_t_5 (sI (sI (sI z_t_5 2 ((gI z_t_5 2) + r7)) 3 ((gI z_t_5 3) + (gI z_t_5_1 1))) 4 ((gI z_t_5 4) + 1)) ++ (rc7 a (Q_t_5 0) Q_t_5_0 z_t_5_0 ++ (rc0 a (Q_t_5 1) Q_t_5_1 z_t_5_1)))) H := hP
    have hD : va_D A (rc8 a q_t Q_t z_t ++ (rc5 a (Q_t 5) Q_t_5 (sI (sI (sI z_t_5 2 ((gI z_t_5 2) + r7)) 3 ((gI z_t_5 3) + (gI z_t_5_1 1))) 4 ((gI z_t_5 4) + 1)) ++ (rc7 a (Q_t_5 0) Q_t_5_0 z_t_5_0 ++ (rc0 a (Q_t_5 1) Q_t_5_1 z_t_5_1)))) := hD
    refine lv_aload_n hx hb dX8_dawn_77 rfl (lv_at hl 0 rfl) ?_
    refine va_get (D := D) (v := .ref (Q_t 5)) (C := RX8) (T := TX8) (N := 11) hx hb hts iX8 hown hK.1 hP 0 rfl rfl 5 (by decide) (hts _ t_305) (fun _ h9 => h9) rfl dX8_dawn_78 ?_
    refine va_get (D := D) (v := .ref (Q_t_5 1)) (C := RX5) (T := TX5) (N := 8) hx hb hts iX5 hown hK.1 hP 2 rfl rfl 1 (by decide) (hts _ t_163) (fun _ h9 => h9) rfl dX8_dawn_81 ?_
    refine lv_aload_n hx hb dX8_dawn_84 rfl (lv_at hl 0 rfl) ?_
    refine va_get (D := D) (v := .ref (Q_t 5)) (C := RX8) (T := TX8) (N := 11) hx hb hts iX8 hown hK.1 hP 0 rfl rfl 5 (by decide) (hts _ t_305) (fun _ h9 => h9) rfl dX8_dawn_85 ?_
    refine va_get (D := D) (v := .ref (Q_t_5 0)) (C := RX5) (T := TX5) (N := 8) hx hb hts iX5 hown hK.1 hP 2 rfl rfl 0 (by decide) (hts _ t_161) (fun _ h9 => h9) rfl dX8_dawn_88 ?_
    refine va_get (D := D) (v := .int (gI z_t_5_0 1)) (C := RX7) (T := TX7) (N := 18) hx hb hts iX7 hown hK.1 hP 5 rfl rfl 1 (by decide) (hts _ t_41) (fun _ h9 => h9) rfl dX8_dawn_91 ?_
    obtain ⟨z9, hc8, h⟩ := bd_some h
    refine cMv (runV (As := [.int (gI z_t_5_0 1)]) (rest := []) C (mX0_begin l D a hc8 H.size) lk_V_8_225 okN_X0_begin ⟨Nat.le_of_ble_eq_true rfl, Nat.le_of_ble_eq_true rfl⟩ ⟨rfl, rfl⟩ (preV (preM hK (P_of_map (wc := rc0 a (Q_t_5 1) Q_t_5_1 z_t_5_1) hP [18, 19] rfl) (hD.sub (ws' := rc0 a (Q_t_5 1) Q_t_5_1 z_t_5_1) [18, 19] (by decide) rfl)) (recvOf hK hP 18 rfl (ci := 0) rfl)) hl.1 rfl (Nat.le_of_ble_eq_true rfl) dX8_dawn_94 ⟨Nat.le_of_ble_eq_true rfl, Nat.le_of_ble_eq_true rfl⟩) hP hD hS hA [18, 19] [0, 1, 2, 3, 4, 5, 6, 7, 8, 9, 10, 11, 12, 13, 14, 15, 16, 17] [0, 1, 2, 3, 4, 5, 6, 7, 8, 9, 10, 11, 12, 13, 14, 15, 16, 17, 18, 19] rfl rfl (by decide) (by decide) (fw := rc8 a q_t Q_t z_t ++ (rc5 a (Q_t 5) Q_t_5 (sI (sI (sI z_t_5 2 ((gI z_t_5 2) + r7)) 3 ((gI z_t_5 3) + (gI z_t_5_1 1))) 4 ((gI z_t_5 4) + 1)) ++ (rc7 a (Q_t_5 0) Q_t_5_0 z_t_5_0 ++ (rc0 a (Q_t_5 1) Q_t_5_1 z9)))) rfl (by decide) (fun H locs hP hD hS => ?_)
    have hP : va_P D classes (rc8 a q_t Q_t z_t ++ (rc5 a (Q_t 5) Q_t_5 (sI (sI (sI z_t_5 2 ((gI z_t_5 2) + r7)) 3 ((gI z_t_5 3) + (gI z_t_5_1 1))) 4 ((gI z_t_5 4) + 1)) ++ (rc7 a (Q_t_5 0) Q_t_5_0 z_t_5_0 ++ (rc0 a (Q_t_5 1) Q_t_5_1 z9)))) H := hP
    have hD : va_D A (rc8 a q_t Q_t z_t ++ (rc5 a (Q_t 5) Q_t_5 (sI (sI (sI z_t_5 2 ((gI z_t_5 2) + r7)) 3 ((gI z_t_5 3) + (gI z_t_5_1 1))) 4 ((gI z_t_5 4) + 1)) ++ (rc7 a (Q_t_5 0) Q_t_5_0 z_t_5_0 ++ (rc0 a (Q_t_5 1) Q_t_5_1 z9)))) := hD
    refine lv_aload_n hx hb dX8_dawn_97 rfl (lv_at hl 0 rfl) ?_
    refine va_get (D := D) (v := .ref (Q_t 5)) (C := RX8) (T := TX8) (N := 11) hx hb hts iX8 hown hK.1 hP 0 rfl rfl 5 (by decide) (hts _ t_305) (fun _ h9 => h9) rfl dX8_dawn_98 ?_
    refine va_get (D := D) (v := .int ((gI z_t_5 2) + r7)) (C := RX5) (T := TX5) (N := 8) hx hb hts iX5 hown hK.1 hP 2 rfl rfl 2 (by decide) (hts _ t_165) (fun _ h9 => h9) rfl dX8_dawn_101 ?_
    exact rMi C rfl h (g := fun y => rc8 a q_t Q_t z_t ++ (rc5 a (Q_t 5) Q_t_5 y.2.1 ++ (rc7 a (Q_t_5 0) Q_t_5_0 z_t_5_0 ++ (rc0 a (Q_t_5 1) Q_t_5_1 y.2.2)))) (pr := fun y => y.1) hP hD hS dX8_dawn_104
  · have h := ite_t c3 h
    refine lv_ldc hx hb hown (hts _ t_640) dX8_dawn_7 ?_
    exact rMi C rfl h (g := fun y => rc8 a q_t Q_t z_t ++ (rc5 a (Q_t 5) Q_t_5 y.2.1 ++ (rc7 a (Q_t_5 0) Q_t_5_0 z_t_5_0 ++ (rc0 a (Q_t_5 1) Q_t_5_1 y.2.2)))) (pr := fun y => y.1) hP hD hS dX8_dawn_9

def fX8_end (z_t : Sx) (x1 : Int32) : Option (Int32 × Sx) := if x1 < 0 then some ((-1), z_t) else if x1 ≤ (gI z_t 1) then some (x1, sI z_t 1 x1) else some ((-1), z_t)

set_option maxHeartbeats 4000000 in
set_option maxRecDepth 100000 in
theorem mX8_end (l : Launch) (D : va_G) (a : Nat → ClassId) {q_t : Nat} {Q_t : Nat → Nat} {z_t : Sx} {x1 : Int32} {y : Int32 × Sx} (h : fX8_end z_t x1 = some y) (sz : Nat) : CMi (S := Unit) l MX8_end 0 0 0 0 D a [.ref q_t, .int x1] (rc8 a q_t Q_t z_t) sz (fun r _ => r = y.1) (fun _ => rc8 a q_t Q_t y.2) := by
  unfold fX8_end at h
  refine entMi (by decide) (Nat.le_of_ble_eq_true rfl) ?_
  intro p e s m below meth c C hK A hA hP hD ls hl
  obtain ⟨hx, hb, hml, hown, hts, hr, hlocks, hnm⟩ := id C
  have hb : c.code = cX8_end := hb
  have hown : s.vm.findClass RX8 = some m.cls := hown
  have hS : va_S A s.heap s.heap [] := va_S.rf
  have hl : lv_has ls 2 [(0, .ref q_t), (1, .int x1)] := hl
  refine lv_iload_n hx hb dX8_end_0 rfl (lv_at hl 1 rfl) ?_
  refine lv_if_lt (tgt := 12) hx hb dX8_end_1 (by decide) (fun c1 => ?_) (fun c1 => ?_)
  · have h := ite_t c1 h
    refine lv_iconst (v := (-1)) hx hb dX8_end_12 (by decide) ?_
    exact rMi C rfl h (g := fun y => rc8 a q_t Q_t y.2) (pr := fun y => y.1) hP hD hS dX8_end_13
  · have h := ite_f c1 h
    refine lv_iload_n hx hb dX8_end_4 rfl (lv_at hl 1 rfl) ?_
    refine lv_aload_n hx hb dX8_end_5 rfl (lv_at hl 0 rfl) ?_
    refine va_get (D := D) (v := .int (gI z_t 1)) (C := RX8) (T := TX8) (N := 11) hx hb hts iX8 hown hK.1 hP 0 rfl rfl 1 (by decide) (hts _ t_301) (fun _ h9 => h9) rfl dX8_end_6 ?_
    refine lv_icmp_le (tgt := 14) hx hb dX8_end_9 (by decide) (fun c2 => ?_) (fun c2 => ?_)
    · have h := ite_t c2 h
      refine lv_aload_n hx hb dX8_end_14 rfl (lv_at hl 0 rfl) ?_
      refine lv_iload_n hx hb dX8_end_15 rfl (lv_at hl 1 rfl) ?_
      refine va_put (D := D) (v := .int x1) (C := RX8) (T := TX8) (N := 11) hx hb hts iX8 tyX8 tyX8_ok nmX8 hown hK.1 hP hD hS 0 rfl rfl 1 (by decide) (hts _ t_301) (fun _ h9 => h9) rfl (tyX8_ok 1 (by decide)) rfl rfl (Nat.le_of_ble_eq_true rfl) dX8_end_16 (fun H locs hP hD hS => ?_)
      have hP : va_P D classes (rc8 a q_t Q_t (sI z_t 1 x1)) H := hP
      have hD : va_D A (rc8 a q_t Q_t (sI z_t 1 x1)) := hD
      refine lv_iload_n hx hb dX8_end_19 rfl (lv_at hl 1 rfl) ?_
      exact rMi C rfl h (g := fun y => rc8 a q_t Q_t y.2) (pr := fun y => y.1) hP hD hS dX8_end_20
    · have h := ite_f c2 h
      refine lv_iconst (v := (-1)) hx hb dX8_end_12 (by decide) ?_
      exact rMi C rfl h (g := fun y => rc8 a q_t Q_t y.2) (pr := fun y => y.1) hP hD hS dX8_end_13

def fX8_isFault (z_t : Sx) (z_t_5 : Sx) (z_t_5_0 : Sx) (x1 : Int32) : Option (Int32) := if x1 < 0 then some 0 else if (gI z_t_5_0 3) ≤ x1 then some 0 else some 1

set_option maxHeartbeats 4000000 in
set_option maxRecDepth 100000 in
theorem mX8_isFault (l : Launch) (D : va_G) (a : Nat → ClassId) {q_t : Nat} {Q_t : Nat → Nat} {z_t : Sx} {Q_t_5 : Nat → Nat} {z_t_5 : Sx} {Q_t_5_0 : Nat → Nat} {z_t_5_0 : Sx} {x1 : Int32} {y : Int32} (h : fX8_isFault z_t z_t_5 z_t_5_0 x1 = some y) : CRi l MX8_isFault 0 0 D a [.ref q_t, .int x1] (rc8 a q_t Q_t z_t ++ (rc5 a (Q_t 5) Q_t_5 z_t_5 ++ (rc7 a (Q_t_5 0) Q_t_5_0 z_t_5_0))) (fun r => r = y) := by
  unfold fX8_isFault at h
  refine entR (by decide) (Nat.le_of_ble_eq_true rfl) ?_
  intro p e s m below meth c C hK hP ls hl
  obtain ⟨hx, hb, hml, hown, hts, hr, hlocks, hnm⟩ := id C
  have hb : c.code = cX8_isFault := hb
  have hown : s.vm.findClass RX8 = some m.cls := hown
  have hl : lv_has ls 2 [(0, .ref q_t), (1, .int x1)] := hl
  refine lv_iload_n hx hb dX8_isFault_0 rfl (lv_at hl 1 rfl) ?_
  refine lv_if_lt (tgt := 22) hx hb dX8_isFault_1 (by decide) (fun c1 => ?_) (fun c1 => ?_)
  · have h := ite_t c1 h
    refine lv_iconst (v := 0) hx hb dX8_isFault_22 (by decide) ?_
    exact rRz C rfl (Or.inl rfl) (Option.some.inj h) dX8_isFault_23
  · have h := ite_f c1 h
    refine lv_iload_n hx hb dX8_isFault_4 rfl (lv_at hl 1 rfl) ?_
    refine lv_aload_n hx hb dX8_isFault_5 rfl (lv_at hl 0 rfl) ?_
    refine va_get (D := D) (v := .ref (Q_t 5)) (C := RX8) (T := TX8) (N := 11) hx hb hts iX8 hown hK.1 hP 0 rfl rfl 5 (by decide) (hts _ t_305) (fun _ h9 => h9) rfl dX8_isFault_6 ?_
    refine va_get (D := D) (v := .ref (Q_t_5 0)) (C := RX5) (T := TX5) (N := 8) hx hb hts iX5 hown hK.1 hP 2 rfl rfl 0 (by decide) (hts _ t_161) (fun _ h9 => h9) rfl dX8_isFault_9 ?_
    refine va_get (D := D) (v := .int (gI z_t_5_0 3)) (C := RX7) (T := TX7) (N := 18) hx hb hts iX7 hown hK.1 hP 5 rfl rfl 3 (by decide) (hts _ t_47) (fun _ h9 => h9) rfl dX8_isFault_12 ?_
    refine lv_icmp_ge (tgt := 22) hx hb dX8_isFault_15 (by decide) (fun c2 => ?_) (fun c2 => ?_)
    · have h := ite_t c2 h
      refine lv_iconst (v := 0) hx hb dX8_isFault_22 (by decide) ?_
      exact rRz C rfl (Or.inl rfl) (Option.some.inj h) dX8_isFault_23
    · have h := ite_f c2 h
      refine lv_iconst (v := 1) hx hb dX8_isFault_18 (by decide) ?_
      refine lv_goto (tgt := 23) hx hb dX8_isFault_19 (by decide) ?_
      exact rRz C rfl (Or.inr rfl) (Option.some.inj h) dX8_isFault_23

def fX8_fault (z_t : Sx) (z_t_5 : Sx) (z_t_5_0 : Sx) (z_t_5_1 : Sx) (x1 : Int32) (x2 : Int32) : Option (Int32) := bd (fX8_isFault z_t z_t_5 z_t_5_0 x1) (fun r2 => if r2 = 0 then some (-2) else if x2 = 0 then bd (fX8_at 10 (gT z_t_5_0 8) x1) (fun r6 => some r6) else if x2 = 1 then bd (fX8_at 10 (gT z_t_5_0 9) x1) (fun r8 => some r8) else if x2 = 2 then bd (fX8_at 10 (gT z_t_5_0 10) x1) (fun r10 => some r10) else if x2 = 3 then bd (fX8_at 10 (gT z_t_5_0 11) x1) (fun r12 => some r12) else if x2 = 4 then bd (fX8_has (gI z_t_5_1 2) x1) (fun r14 => if r14 = 0 then bd (fX8_has (gI z_t_5_1 3) x1) (fun r17 => if r17 = 0 then some 0 else some 2) else some 1) else if x2 = 5 then bd (fX8_at 10 (gT z_t_5_1 5) x1) (fun r20 => some r20) else if x2 = 6 then bd (fX0_gone z_t_5_1) (fun r22 => bd (fX7_isOpen z_t_5_0 x1 r22) (fun r24 => if r24 = 0 then some 0 else some 1)) else some (-2))

set_option maxHeartbeats 4000000 in
set_option maxRecDepth 100000 in
theorem mX8_fault (l : Launch) (D : va_G) (a : Nat → ClassId) {q_t : Nat} {Q_t : Nat → Nat} {z_t : Sx} {Q_t_5 : Nat → Nat} {z_t_5 : Sx} {Q_t_5_0 : Nat → Nat} {z_t_5_0 : Sx} {Q_t_5_1 : Nat → Nat} {z_t_5_1 : Sx} {x1 : Int32} {x2 : Int32} {y : Int32} (h : fX8_fault z_t z_t_5 z_t_5_0 z_t_5_1 x1 x2 = some y) : CRi l MX8_fault 1 23 D a [.ref q_t, .int x1, .int x2] (rc8 a q_t Q_t z_t ++ (rc5 a (Q_t 5) Q_t_5 z_t_5 ++ (rc7 a (Q_t_5 0) Q_t_5_0 z_t_5_0 ++ (rc0 a (Q_t_5 1) Q_t_5_1 z_t_5_1)))) (fun r => r = y) := by
  unfold fX8_fault at h
  refine entR (by decide) (Nat.le_of_ble_eq_true rfl) ?_
  intro p e s m below meth c C hK hP ls hl
  obtain ⟨hx, hb, hml, hown, hts, hr, hlocks, hnm⟩ := id C
  have hb : c.code = cX8_fault := hb
  have hown : s.vm.findClass RX8 = some m.cls := hown
  have hl : lv_has ls 5 [(0, .ref q_t), (1, .int x1), (2, .int x2)] := hl
  refine lv_aload_n hx hb dX8_fault_0 rfl (lv_at hl 0 rfl) ?_
  refine lv_iload_n hx hb dX8_fault_1 rfl (lv_at hl 1 rfl) ?_
  obtain ⟨r2, hc1, h⟩ := bd_some h
  refine cRi (runV (As := [.int x1]) (rest := []) C (mX8_isFault l D a hc1) lk_V_8_139 okN_X8_isFault ⟨Nat.le_of_ble_eq_true rfl, Nat.le_of_ble_eq_true rfl⟩ ⟨rfl, rfl⟩ (preV (preR hK (P_of_map (wc := rc8 a q_t Q_t z_t ++ (rc5 a (Q_t 5) Q_t_5 z_t_5 ++ (rc7 a (Q_t_5 0) Q_t_5_0 z_t_5_0))) hP [0, 1, 2, 3, 4, 5, 6, 7, 8, 9, 10, 11, 12, 13, 14, 15, 16, 17] rfl)) (recvOf hK hP 0 rfl (ci := 8) rfl)) hl.1 rfl (Nat.le_of_ble_eq_true rfl) dX8_fault_2 ⟨Nat.le_of_ble_eq_true rfl, Nat.le_of_ble_eq_true rfl⟩) ?_
  refine lv_if_ne (tgt := 11) hx hb dX8_fault_5 (by decide) (fun c3 => ?_) (fun c3 => ?_)
  · have h := ite_f c3 h
    refine lv_aload_n hx hb dX8_fault_11 rfl (lv_at hl 0 rfl) ?_
    refine va_get (D := D) (v := .ref (Q_t 5)) (C := RX8) (T := TX8) (N := 11) hx hb hts iX8 hown hK.1 hP 0 rfl rfl 5 (by decide) (hts _ t_305) (fun _ h9 => h9) rfl dX8_fault_12 ?_
    refine va_get (D := D) (v := .ref (Q_t_5 0)) (C := RX5) (T := TX5) (N := 8) hx hb hts iX5 hown hK.1 hP 2 rfl rfl 0 (by decide) (hts _ t_161) (fun _ h9 => h9) rfl dX8_fault_15 ?_
    refine lv_astore_n (lv' := [(3, .ref (Q_t_5 0)), (0, .ref q_t), (1, .int x1), (2, .int x2)]) hx hb dX8_fault_18 rfl hl (by decide) rfl (fun ls hl => ?_)
    refine lv_aload_n hx hb dX8_fault_19 rfl (lv_at hl 1 rfl) ?_
    refine va_get (D := D) (v := .ref (Q_t 5)) (C := RX8) (T := TX8) (N := 11) hx hb hts iX8 hown hK.1 hP 0 rfl rfl 5 (by decide) (hts _ t_305) (fun _ h9 => h9) rfl dX8_fault_20 ?_
    refine va_get (D := D) (v := .ref (Q_t_5 1)) (C := RX5) (T := TX5) (N := 8) hx hb hts iX5 hown hK.1 hP 2 rfl rfl 1 (by decide) (hts _ t_163) (fun _ h9 => h9) rfl dX8_fault_23 ?_
    refine lv_astore (lv' := [(4, .ref (Q_t_5 1)), (3, .ref (Q_t_5 0)), (0, .ref q_t), (1, .int x1), (2, .int x2)]) hx hb dX8_fault_26 hl (by decide) rfl (fun ls hl => ?_)
    refine lv_iload_n hx hb dX8_fault_28 rfl (lv_at hl 4 rfl) ?_
    by_cases c4_0 : x2 = 0
    · have h := ite_t c4_0 h
      refine lv_tableIn (off := 43) (tgt := 72) hx hb dX8_fault_29 (by rw [c4_0]; decide) (by rw [c4_0]; decide) (by rw [c4_0]; decide) (by decide) ?_
      refine lv_aload_n hx hb dX8_fault_72 rfl (lv_at hl 1 rfl) ?_
      refine va_get (D := D) (v := .ref (Q_t_5_0 8)) (C := RX7) (T := TX7) (N := 18) hx hb hts iX7 hown hK.1 hP 5 rfl rfl 8 (by decide) (hts _ t_57) (fun _ h9 => h9) rfl dX8_fault_73 ?_
      refine lv_iload_n hx hb dX8_fault_76 rfl (lv_at hl 3 rfl) ?_
      obtain ⟨r6, hc5, h⟩ := bd_some h
      refine cRi (runS (As := [.ref (Q_t_5_0 8), .int x1]) (rest := []) C (mX8_at l D a hc5) lk_S_8_129 okN_X8_at ⟨Nat.le_of_ble_eq_true rfl, Nat.le_of_ble_eq_true rfl⟩ ⟨rfl, rfl⟩ (preR hK (P_of_map (wc := ra0 a (Q_t_5_0 8) 10 (gT z_t_5_0 8)) hP [9] rfl)) hl.1 rfl (Nat.le_of_ble_eq_true rfl) dX8_fault_77 ⟨Nat.le_of_ble_eq_true rfl, Nat.le_of_ble_eq_true rfl⟩) ?_
      exact rRi C rfl (Option.some.inj h) dX8_fault_80
    have h := ite_f c4_0 h
    by_cases c4_1 : x2 = 1
    · have h := ite_t c4_1 h
      refine lv_tableIn (off := 52) (tgt := 81) hx hb dX8_fault_29 (by rw [c4_1]; decide) (by rw [c4_1]; decide) (by rw [c4_1]; decide) (by decide) ?_
      refine lv_aload_n hx hb dX8_fault_81 rfl (lv_at hl 1 rfl) ?_
      refine va_get (D := D) (v := .ref (Q_t_5_0 9)) (C := RX7) (T := TX7) (N := 18) hx hb hts iX7 hown hK.1 hP 5 rfl rfl 9 (by decide) (hts _ t_62) (fun _ h9 => h9) rfl dX8_fault_82 ?_
      refine lv_iload_n hx hb dX8_fault_85 rfl (lv_at hl 3 rfl) ?_
      obtain ⟨r8, hc7, h⟩ := bd_some h
      refine cRi (runS (As := [.ref (Q_t_5_0 9), .int x1]) (rest := []) C (mX8_at l D a hc7) lk_S_8_129 okN_X8_at ⟨Nat.le_of_ble_eq_true rfl, Nat.le_of_ble_eq_true rfl⟩ ⟨rfl, rfl⟩ (preR hK (P_of_map (wc := ra0 a (Q_t_5_0 9) 10 (gT z_t_5_0 9)) hP [10] rfl)) hl.1 rfl (Nat.le_of_ble_eq_true rfl) dX8_fault_86 ⟨Nat.le_of_ble_eq_true rfl, Nat.le_of_ble_eq_true rfl⟩) ?_
      exact rRi C rfl (Option.some.inj h) dX8_fault_89
    have h := ite_f c4_1 h
    by_cases c4_2 : x2 = 2
    · have h := ite_t c4_2 h
      refine lv_tableIn (off := 61) (tgt := 90) hx hb dX8_fault_29 (by rw [c4_2]; decide) (by rw [c4_2]; decide) (by rw [c4_2]; decide) (by decide) ?_
      refine lv_aload_n hx hb dX8_fault_90 rfl (lv_at hl 1 rfl) ?_
      refine va_get (D := D) (v := .ref (Q_t_5_0 10)) (C := RX7) (T := TX7) (N := 18) hx hb hts iX7 hown hK.1 hP 5 rfl rfl 10 (by decide) (hts _ t_67) (fun _ h9 => h9) rfl dX8_fault_91 ?_
      refine lv_iload_n hx hb dX8_fault_94 rfl (lv_at hl 3 rfl) ?_
      obtain ⟨r10, hc9, h⟩ := bd_some h
      refine cRi (runS (As := [.ref (Q_t_5_0 10), .int x1]) (rest := []) C (mX8_at l D a hc9) lk_S_8_129 okN_X8_at ⟨Nat.le_of_ble_eq_true rfl, Nat.le_of_ble_eq_true rfl⟩ ⟨rfl, rfl⟩ (preR hK (P_of_map (wc := ra0 a (Q_t_5_0 10) 10 (gT z_t_5_0 10)) hP [11] rfl)) hl.1 rfl (Nat.le_of_ble_eq_true rfl) dX8_fault_95 ⟨Nat.le_of_ble_eq_true rfl, Nat.le_of_ble_eq_true rfl⟩) ?_
      exact rRi C rfl (Option.some.inj h) dX8_fault_98
    have h := ite_f c4_2 h
    by_cases c4_3 : x2 = 3
    · have h := ite_t c4_3 h
      refine lv_tableIn (off := 70) (tgt := 99) hx hb dX8_fault_29 (by rw [c4_3]; decide) (by rw [c4_3]; decide) (by rw [c4_3]; decide) (by decide) ?_
      refine lv_aload_n hx hb dX8_fault_99 rfl (lv_at hl 1 rfl) ?_
      refine va_get (D := D) (v := .ref (Q_t_5_0 11)) (C := RX7) (T := TX7) (N := 18) hx hb hts iX7 hown hK.1 hP 5 rfl rfl 11 (by decide) (hts _ t_69) (fun _ h9 => h9) rfl dX8_fault_100 ?_
      refine lv_iload_n hx hb dX8_fault_103 rfl (lv_at hl 3 rfl) ?_
      obtain ⟨r12, hc11, h⟩ := bd_some h
      refine cRi (runS (As := [.ref (Q_t_5_0 11), .int x1]) (rest := []) C (mX8_at l D a hc11) lk_S_8_129 okN_X8_at ⟨Nat.le_of_ble_eq_true rfl, Nat.le_of_ble_eq_true rfl⟩ ⟨rfl, rfl⟩ (preR hK (P_of_map (wc := ra0 a (Q_t_5_0 11) 10 (gT z_t_5_0 11)) hP [12] rfl)) hl.1 rfl (Nat.le_of_ble_eq_true rfl) dX8_fault_104 ⟨Nat.le_of_ble_eq_true rfl, Nat.le_of_ble_eq_true rfl⟩) ?_
      exact rRi C rfl (Option.some.inj h) dX8_fault_107
    have h := ite_f c4_3 h
    by_cases c4_4 : x2 = 4
    · have h := ite_t c4_4 h
      refine lv_tableIn (off := 79) (tgt := 108) hx hb dX8_fault_29 (by rw [c4_4]; decide) (by rw [c4_4]; decide) (by rw [c4_4]; decide) (by decide) ?_
      refine lv_aload hx hb dX8_fault_108 (lv_at hl 0 rfl) ?_
      refine va_get (D := D) (v := .int (gI z_t_5_1 2)) (C := RX0) (T := TX0) (N := 6) hx hb hts iX0 hown hK.1 hP 18 rfl rfl 2 (by decide) (hts _ t_138) (fun _ h9 => h9) rfl dX8_fault_110 ?_
      refine lv_iload_n hx hb dX8_fault_113 rfl (lv_at hl 3 rfl) ?_
      obtain ⟨r14, hc13, h⟩ := bd_some h
      refine cRi (runS (As := [.int (gI z_t_5_1 2), .int x1]) (rest := []) C (mX8_has l D a hc13) lk_S_8_161 okN_X8_has ⟨Nat.le_of_ble_eq_true rfl, Nat.le_of_ble_eq_true rfl⟩ ⟨rfl, rfl⟩ (preR hK (P_of_map (wc := []) hP [] rfl)) hl.1 rfl (Nat.le_of_ble_eq_true rfl) dX8_fault_114 ⟨Nat.le_of_ble_eq_true rfl, Nat.le_of_ble_eq_true rfl⟩) ?_
      refine lv_if_eq (tgt := 124) hx hb dX8_fault_117 (by decide) (fun c15 => ?_) (fun c15 => ?_)
      · have h := ite_t c15 h
        refine lv_aload hx hb dX8_fault_124 (lv_at hl 0 rfl) ?_
        refine va_get (D := D) (v := .int (gI z_t_5_1 3)) (C := RX0) (T := TX0) (N := 6) hx hb hts iX0 hown hK.1 hP 18 rfl rfl 3 (by decide) (hts _ t_141) (fun _ h9 => h9) rfl dX8_fault_126 ?_
        refine lv_iload_n hx hb dX8_fault_129 rfl (lv_at hl 3 rfl) ?_
        obtain ⟨r17, hc16, h⟩ := bd_some h
        refine cRi (runS (As := [.int (gI z_t_5_1 3), .int x1]) (rest := []) C (mX8_has l D a hc16) lk_S_8_161 okN_X8_has ⟨Nat.le_of_ble_eq_true rfl, Nat.le_of_ble_eq_true rfl⟩ ⟨rfl, rfl⟩ (preR hK (P_of_map (wc := []) hP [] rfl)) hl.1 rfl (Nat.le_of_ble_eq_true rfl) dX8_fault_130 ⟨Nat.le_of_ble_eq_true rfl, Nat.le_of_ble_eq_true rfl⟩) ?_
        refine lv_if_eq (tgt := 140) hx hb dX8_fault_133 (by decide) (fun c18 => ?_) (fun c18 => ?_)
        · have h := ite_t c18 h
          refine lv_iconst (v := 0) hx hb dX8_fault_140 (by decide) ?_
          exact rRi C rfl (Option.some.inj h) dX8_fault_141
        · have h := ite_f c18 h
          refine lv_iconst (v := 2) hx hb dX8_fault_136 (by decide) ?_
          refine lv_goto (tgt := 141) hx hb dX8_fault_137 (by decide) ?_
          exact rRi C rfl (Option.some.inj h) dX8_fault_141
      · have h := ite_f c15 h
        refine lv_iconst (v := 1) hx hb dX8_fault_120 (by decide) ?_
        refine lv_goto (tgt := 141) hx hb dX8_fault_121 (by decide) ?_
        exact rRi C rfl (Option.some.inj h) dX8_fault_141
    have h := ite_f c4_4 h
    by_cases c4_5 : x2 = 5
    · have h := ite_t c4_5 h
      refine lv_tableIn (off := 113) (tgt := 142) hx hb dX8_fault_29 (by rw [c4_5]; decide) (by rw [c4_5]; decide) (by rw [c4_5]; decide) (by decide) ?_
      refine lv_aload hx hb dX8_fault_142 (lv_at hl 0 rfl) ?_
      refine va_get (D := D) (v := .ref (Q_t_5_1 5)) (C := RX0) (T := TX0) (N := 6) hx hb hts iX0 hown hK.1 hP 18 rfl rfl 5 (by decide) (hts _ t_146) (fun _ h9 => h9) rfl dX8_fault_144 ?_
      refine lv_iload_n hx hb dX8_fault_147 rfl (lv_at hl 3 rfl) ?_
      obtain ⟨r20, hc19, h⟩ := bd_some h
      refine cRi (runS (As := [.ref (Q_t_5_1 5), .int x1]) (rest := []) C (mX8_at l D a hc19) lk_S_8_129 okN_X8_at ⟨Nat.le_of_ble_eq_true rfl, Nat.le_of_ble_eq_true rfl⟩ ⟨rfl, rfl⟩ (preR hK (P_of_map (wc := ra0 a (Q_t_5_1 5) 10 (gT z_t_5_1 5)) hP [19] rfl)) hl.1 rfl (Nat.le_of_ble_eq_true rfl) dX8_fault_148 ⟨Nat.le_of_ble_eq_true rfl, Nat.le_of_ble_eq_true rfl⟩) ?_
      exact rRi C rfl (Option.some.inj h) dX8_fault_151
    have h := ite_f c4_5 h
    by_cases c4_6 : x2 = 6
    · have h := ite_t c4_6 h
      refine lv_tableIn (off := 123) (tgt := 152) hx hb dX8_fault_29 (by rw [c4_6]; decide) (by rw [c4_6]; decide) (by rw [c4_6]; decide) (by decide) ?_
      refine lv_aload_n hx hb dX8_fault_152 rfl (lv_at hl 1 rfl) ?_
      refine lv_iload_n hx hb dX8_fault_153 rfl (lv_at hl 3 rfl) ?_
      refine lv_aload hx hb dX8_fault_154 (lv_at hl 0 rfl) ?_
      obtain ⟨r22, hc21, h⟩ := bd_some h
      refine cRi (runV (As := []) (rest := [.int x1, .ref (Q_t_5 0)]) C (mX0_gone l D a hc21) lk_V_8_171 okN_X0_gone ⟨Nat.le_of_ble_eq_true rfl, Nat.le_of_ble_eq_true rfl⟩ ⟨rfl, rfl⟩ (preV (preR hK (P_of_map (wc := rc0 a (Q_t_5 1) Q_t_5_1 z_t_5_1) hP [18, 19] rfl)) (recvOf hK hP 18 rfl (ci := 0) rfl)) hl.1 rfl (Nat.le_of_ble_eq_true rfl) dX8_fault_156 ⟨Nat.le_of_ble_eq_true rfl, Nat.le_of_ble_eq_true rfl⟩) ?_
      obtain ⟨r24, hc23, h⟩ := bd_some h
      refine cRi (runV (As := [.int x1, .int r22]) (rest := []) C (mX7_isOpen l D a hc23) lk_V_8_175 okN_X7_isOpen ⟨Nat.le_of_ble_eq_true rfl, Nat.le_of_ble_eq_true rfl⟩ ⟨rfl, rfl⟩ (preV (preR hK (P_of_map (wc := rc7 a (Q_t_5 0) Q_t_5_0 z_t_5_0) hP [5, 6, 7, 8, 9, 10, 11, 12, 13, 14, 15, 16, 17] rfl)) (recvOf hK hP 5 rfl (ci := 7) rfl)) hl.1 rfl (Nat.le_of_ble_eq_true rfl) dX8_fault_159 ⟨Nat.le_of_ble_eq_true rfl, Nat.le_of_ble_eq_true rfl⟩) ?_
      refine lv_if_eq (tgt := 169) hx hb dX8_fault_162 (by decide) (fun c25 => ?_) (fun c25 => ?_)
      · have h := ite_t c25 h
        refine lv_iconst (v := 0) hx hb dX8_fault_169 (by decide) ?_
        exact rRi C rfl (Option.some.inj h) dX8_fault_170
      · have h := ite_f c25 h
        refine lv_iconst (v := 1) hx hb dX8_fault_165 (by decide) ?_
        refine lv_goto (tgt := 170) hx hb dX8_fault_166 (by decide) ?_
        exact rRi C rfl (Option.some.inj h) dX8_fault_170
    have h := ite_f c4_6 h
    refine lv_tableOut (tgt := 171) hx hb dX8_fault_29 (by have := lv_neT c4_0 (show (0 : Int32).toInt = 0 by decide); have := lv_neT c4_1 (show (1 : Int32).toInt = 1 by decide); have := lv_neT c4_2 (show (2 : Int32).toInt = 2 by decide); have := lv_neT c4_3 (show (3 : Int32).toInt = 3 by decide); have := lv_neT c4_4 (show (4 : Int32).toInt = 4 by decide); have := lv_neT c4_5 (show (5 : Int32).toInt = 5 by decide); have := lv_neT c4_6 (show (6 : Int32).toInt = 6 by decide); omega) (by decide) ?_
    refine lv_bipush (v := (-2)) hx hb dX8_fault_171 (by decide) ?_
    exact rRi C rfl (Option.some.inj h) dX8_fault_173
  · have h := ite_t c3 h
    refine lv_bipush (v := (-2)) hx hb dX8_fault_8 (by decide) ?_
    exact rRi C rfl (Option.some.inj h) dX8_fault_10

def lX8_putBytes_3 (x1 : Int32) : Nat → Sx → Int32 → Option (Sx)
  | 0, _, _ => none
  | n + 1, z_t, x2 => if x2 < 0 then some z_t else bd (fX8_put 400 (gT z_t 0) (gI z_t 1) (((x1.toUInt32 >>> (Int32.toUInt32 x2 &&& Int32.toUInt32 31)).toInt32) &&& 255)) (fun z3 => lX8_putBytes_3 x1 n (sI (sTf z_t 0 z3) 1 ((gI z_t 1) + 1)) (x2 + (-8)))
def fX8_putBytes (z_t : Sx) (x1 : Int32) : Option (Sx) := lX8_putBytes_3 x1 FU z_t 24

set_option maxHeartbeats 4000000 in
set_option maxRecDepth 100000 in
theorem wX8_putBytes_3 {p : Program} {l : Launch} {e : Env} {s : State} {m : MethodId} {below : List Frame} {meth : Method} {c : Code} {D : va_G} {a : Nat → ClassId} {A : Nat → Prop} {q_t : Nat} {Q_t : Nat → Nat} {x10 : Int32} {x1 : Int32} (C : Cx p s m #[.ref q_t, .int x10] meth c MX8_putBytes) (hK : KK D a s) (hA : ∀ q, s.heap.size ≤ q → A q) {y : Sx} : ∀ (n : Nat) (z_t : Sx) (x2 : Int32) (H : Heap) (locs : List Loc) (ls : Array Slot), lX8_putBytes_3 x1 n z_t x2 = some y → va_P D classes (rc8 a q_t Q_t z_t) H → va_D A (rc8 a q_t Q_t z_t) → va_S A s.heap H locs → lv_has ls 3 [(0, .ref q_t), (1, .int x1), (2, .int x2)] → W p l e (rmM 1 0 0 22) s m #[.ref q_t, .int x10] below meth c H locs 0 0 (MQ below (va_Qv (fun (_ : Unit) => True) (Bw D A (fun _ => rc8 a q_t Q_t y)) A) #[.ref q_t, .int x10] s 0 0 A) (F0 m 3 ls []) := by
  obtain ⟨hx, hb, hml, hown, hts, hr, hlocks, hnm⟩ := id C
  have hb : c.code = cX8_putBytes := hb
  have hown : s.vm.findClass RX8 = some m.cls := hown
  intro n
  induction n with
  | zero => intro z_t x2 H locs ls h; rw [lX8_putBytes_3] at h; cases h
  | succ n ih =>
    intro z_t x2 H locs ls h hP hD hS hl
    rw [lX8_putBytes_3] at h
    refine lv_iload_n hx hb dX8_putBytes_3 rfl (lv_at hl 2 rfl) ?_
    refine lv_if_lt (tgt := 41) hx hb dX8_putBytes_4 (by decide) (fun c1 => ?_) (fun c1 => ?_)
    · have h := ite_t c1 h
      exact rMv C rfl h (g := fun y => rc8 a q_t Q_t y) hP hD hS dX8_putBytes_41
    · have h := ite_f c1 h
      refine lv_aload_n hx hb dX8_putBytes_7 rfl (lv_at hl 0 rfl) ?_
      refine va_get (D := D) (v := .ref (Q_t 0)) (C := RX8) (T := TX8) (N := 11) hx hb hts iX8 hown hK.1 hP 0 rfl rfl 0 (by decide) (hts _ t_300) (fun _ h9 => h9) rfl dX8_putBytes_8 ?_
      refine lv_aload_n hx hb dX8_putBytes_11 rfl (lv_at hl 0 rfl) ?_
      refine va_get (D := D) (v := .int (gI z_t 1)) (C := RX8) (T := TX8) (N := 11) hx hb hts iX8 hown hK.1 hP 0 rfl rfl 1 (by decide) (hts _ t_301) (fun _ h9 => h9) rfl dX8_putBytes_12 ?_
      refine lv_iload_n hx hb dX8_putBytes_15 rfl (lv_at hl 1 rfl) ?_
      refine lv_iload_n hx hb dX8_putBytes_16 rfl (lv_at hl 2 rfl) ?_
      refine lv_iushr (v := (x1.toUInt32 >>> (Int32.toUInt32 x2 &&& Int32.toUInt32 31)).toInt32) hx hb dX8_putBytes_17 rfl ?_
      refine lv_sipush (v := 255) hx hb dX8_putBytes_18 (by decide) ?_
      refine lv_iand hx hb dX8_putBytes_21 ?_
      obtain ⟨z3, hc2, h⟩ := bd_some h
      refine cMv (runS (As := [.ref (Q_t 0), .int (gI z_t 1), .int (((x1.toUInt32 >>> (Int32.toUInt32 x2 &&& Int32.toUInt32 31)).toInt32) &&& 255)]) (rest := []) C (mX8_put l D a hc2 H.size) lk_S_8_78 okN_X8_put ⟨Nat.le_of_ble_eq_true rfl, Nat.le_of_ble_eq_true rfl⟩ ⟨rfl, rfl⟩ (preM hK (P_of_map (wc := ra0 a (Q_t 0) 400 (gT z_t 0)) hP [1] rfl) (hD.sub (ws' := ra0 a (Q_t 0) 400 (gT z_t 0)) [1] (by decide) rfl)) hl.1 rfl (Nat.le_of_ble_eq_true rfl) dX8_putBytes_22 ⟨Nat.le_of_ble_eq_true rfl, Nat.le_of_ble_eq_true rfl⟩) hP hD hS hA [1] [0] [0, 1] rfl rfl (by decide) (by decide) (fw := rc8 a q_t Q_t (sTf z_t 0 z3)) rfl (by decide) (fun H locs hP hD hS => ?_)
      have hP : va_P D classes (rc8 a q_t Q_t (sTf z_t 0 z3)) H := hP
      have hD : va_D A (rc8 a q_t Q_t (sTf z_t 0 z3)) := hD
      refine lv_aload_n hx hb dX8_putBytes_25 rfl (lv_at hl 0 rfl) ?_
      refine lv_dup hx hb dX8_putBytes_26 rfl ?_
      refine va_get (D := D) (v := .int (gI z_t 1)) (C := RX8) (T := TX8) (N := 11) hx hb hts iX8 hown hK.1 hP 0 rfl rfl 1 (by decide) (hts _ t_301) (fun _ h9 => h9) rfl dX8_putBytes_27 ?_
      refine lv_iconst (v := 1) hx hb dX8_putBytes_30 (by decide) ?_
      refine lv_iadd hx hb dX8_putBytes_31 ?_
      refine va_put (D := D) (v := .int ((gI z_t 1) + 1)) (C := RX8) (T := TX8) (N := 11) hx hb hts iX8 tyX8 tyX8_ok nmX8 hown hK.1 hP hD hS 0 rfl rfl 1 (by decide) (hts _ t_301) (fun _ h9 => h9) rfl (tyX8_ok 1 (by decide)) rfl rfl (Nat.le_of_ble_eq_true rfl) dX8_putBytes_32 (fun H locs hP hD hS => ?_)
      have hP : va_P D classes (rc8 a q_t Q_t (sI (sTf z_t 0 z3) 1 ((gI z_t 1) + 1))) H := hP
      have hD : va_D A (rc8 a q_t Q_t (sI (sTf z_t 0 z3) 1 ((gI z_t 1) + 1))) := hD
      refine lv_iinc (v := x2 + (-8)) (lv' := [(2, .int (x2 + (-8))), (0, .ref q_t), (1, .int x1)]) hx hb dX8_putBytes_35 hl (k := 2) rfl rfl (by decide) rfl (fun ls hl => ?_)
      refine lv_goto (tgt := 3) hx hb dX8_putBytes_38 (by decide) ?_
      exact ih (sI (sTf z_t 0 z3) 1 ((gI z_t 1) + 1)) (x2 + (-8)) _ _ ls h hP hD hS (lv_sub hl [1, 2, 0] rfl)

set_option maxHeartbeats 4000000 in
set_option maxRecDepth 100000 in
theorem mX8_putBytes (l : Launch) (D : va_G) (a : Nat → ClassId) {q_t : Nat} {Q_t : Nat → Nat} {z_t : Sx} {x1 : Int32} {y : Sx} (h : fX8_putBytes z_t x1 = some y) (sz : Nat) : CMv (S := Unit) l MX8_putBytes 1 22 0 0 D a [.ref q_t, .int x1] (rc8 a q_t Q_t z_t) sz (fun _ => True) (fun _ => rc8 a q_t Q_t y) := by
  unfold fX8_putBytes at h
  refine entMv (by decide) (Nat.le_of_ble_eq_true rfl) ?_
  intro p e s m below meth c C hK A hA hP hD ls hl
  obtain ⟨hx, hb, hml, hown, hts, hr, hlocks, hnm⟩ := id C
  have hb : c.code = cX8_putBytes := hb
  have hown : s.vm.findClass RX8 = some m.cls := hown
  have hS : va_S A s.heap s.heap [] := va_S.rf
  have hl : lv_has ls 3 [(0, .ref q_t), (1, .int x1)] := hl
  refine lv_bipush (v := 24) hx hb dX8_putBytes_0 (by decide) ?_
  refine lv_istore_n (lv' := [(2, .int 24), (0, .ref q_t), (1, .int x1)]) hx hb dX8_putBytes_2 rfl hl (by decide) rfl (fun ls hl => ?_)
  refine wX8_putBytes_3 C hK hA FU z_t 24 _ _ ls h hP hD hS (lv_sub hl [1, 2, 0] rfl)

def fX8_feed (z_t : Sx) (x1 : Int32) (x2 : Int32) (x3 : Int32) (x4 : Int32) (x5 : Int32) : Option (Int32 × Sx) := if ((gI z_t 1) + 20) ≤ 400 then bd (fX8_putBytes z_t x1) (fun z3 => bd (fX8_putBytes z3 x2) (fun z5 => bd (fX8_putBytes z5 x3) (fun z7 => bd (fX8_putBytes z7 x4) (fun z9 => bd (fX8_putBytes z9 x5) (fun z11 => some (gI z11 1, z11)))))) else some ((-1), z_t)

set_option maxHeartbeats 4000000 in
set_option maxRecDepth 100000 in
theorem mX8_feed (l : Launch) (D : va_G) (a : Nat → ClassId) {q_t : Nat} {Q_t : Nat → Nat} {z_t : Sx} {x1 : Int32} {x2 : Int32} {x3 : Int32} {x4 : Int32} {x5 : Int32} {y : Int32 × Sx} (h : fX8_feed z_t x1 x2 x3 x4 x5 = some y) (sz : Nat) : CMi (S := Unit) l MX8_feed 2 44 0 0 D a [.ref q_t, .int x1, .int x2, .int x3, .int x4, .int x5] (rc8 a q_t Q_t z_t) sz (fun r _ => r = y.1) (fun _ => rc8 a q_t Q_t y.2) := by
  unfold fX8_feed at h
  refine entMi (by decide) (Nat.le_of_ble_eq_true rfl) ?_
  intro p e s m below meth c C hK A hA hP hD ls hl
  obtain ⟨hx, hb, hml, hown, hts, hr, hlocks, hnm⟩ := id C
  have hb : c.code = cX8_feed := hb
  have hown : s.vm.findClass RX8 = some m.cls := hown
  have hS : va_S A s.heap s.heap [] := va_S.rf
  have hl : lv_has ls 6 [(0, .ref q_t), (1, .int x1), (2, .int x2), (3, .int x3), (4, .int x4), (5, .int x5)] := hl
  refine lv_aload_n hx hb dX8_feed_0 rfl (lv_at hl 0 rfl) ?_
  refine va_get (D := D) (v := .int (gI z_t 1)) (C := RX8) (T := TX8) (N := 11) hx hb hts iX8 hown hK.1 hP 0 rfl rfl 1 (by decide) (hts _ t_301) (fun _ h9 => h9) rfl dX8_feed_1 ?_
  refine lv_bipush (v := 20) hx hb dX8_feed_4 (by decide) ?_
  refine lv_iadd hx hb dX8_feed_6 ?_
  refine lv_sipush (v := 400) hx hb dX8_feed_7 (by decide) ?_
  refine lv_icmp_le (tgt := 15) hx hb dX8_feed_10 (by decide) (fun c1 => ?_) (fun c1 => ?_)
  · have h := ite_t c1 h
    refine lv_aload_n hx hb dX8_feed_15 rfl (lv_at hl 0 rfl) ?_
    refine lv_iload_n hx hb dX8_feed_16 rfl (lv_at hl 1 rfl) ?_
    obtain ⟨z3, hc2, h⟩ := bd_some h
    refine cWv (runV (As := [.int x1]) (rest := []) C (mX8_putBytes l D a hc2 s.heap.size) lk_V_8_75 okN_X8_putBytes ⟨Nat.le_of_ble_eq_true rfl, Nat.le_of_ble_eq_true rfl⟩ ⟨rfl, rfl⟩ (preV (preM hK hP hD) (recvOf hK hP 0 rfl (ci := 8) rfl)) hl.1 rfl (Nat.le_of_ble_eq_true rfl) dX8_feed_17 ⟨Nat.le_of_ble_eq_true rfl, Nat.le_of_ble_eq_true rfl⟩) hP hD hS hA (fun H locs hP hD hS => ?_)
    have hP : va_P D classes (rc8 a q_t Q_t z3) H := hP
    have hD : va_D A (rc8 a q_t Q_t z3) := hD
    refine lv_aload_n hx hb dX8_feed_20 rfl (lv_at hl 0 rfl) ?_
    refine lv_iload_n hx hb dX8_feed_21 rfl (lv_at hl 2 rfl) ?_
    obtain ⟨z5, hc4, h⟩ := bd_some h
    refine cWv (runV (As := [.int x2]) (rest := []) C (mX8_putBytes l D a hc4 H.size) lk_V_8_75 okN_X8_putBytes ⟨Nat.le_of_ble_eq_true rfl, Nat.le_of_ble_eq_true rfl⟩ ⟨rfl, rfl⟩ (preV (preM hK hP hD) (recvOf hK hP 0 rfl (ci := 8) rfl)) hl.1 rfl (Nat.le_of_ble_eq_true rfl) dX8_feed_22 ⟨Nat.le_of_ble_eq_true rfl, Nat.le_of_ble_eq_true rfl⟩) hP hD hS hA (fun H locs hP hD hS => ?_)
    have hP : va_P D classes (rc8 a q_t Q_t z5) H := hP
    have hD : va_D A (rc8 a q_t Q_t z5) := hD
    refine lv_aload_n hx hb dX8_feed_25 rfl (lv_at hl 0 rfl) ?_
    refine lv_iload_n hx hb dX8_feed_26 rfl (lv_at hl 3 rfl) ?_
    obtain ⟨z7, hc6, h⟩ := bd_some h
    refine cWv (runV (As := [.int x3]) (rest := []) C (mX8_putBytes l D a hc6 H.size) lk_V_8_75 okN_X8_putBytes ⟨Nat.le_of_ble_eq_true rfl, Nat.le_of_ble_eq_true rfl⟩ ⟨rfl, rfl⟩ (preV (preM hK hP hD) (recvOf hK hP 0 rfl (ci := 8) rfl)) hl.1 rfl (Nat.le_of_ble_eq_true rfl) dX8_feed_27 ⟨Nat.le_of_ble_eq_true rfl, Nat.le_of_ble_eq_true rfl⟩) hP hD hS hA (fun H locs hP hD hS => ?_)
    have hP : va_P D classes (rc8 a q_t Q_t z7) H := hP
    have hD : va_D A (rc8 a q_t Q_t z7) := hD
    refine lv_aload_n hx hb dX8_feed_30 rfl (lv_at hl 0 rfl) ?_
    refine lv_iload hx hb dX8_feed_31 (lv_at hl 4 rfl) ?_
    obtain ⟨z9, hc8, h⟩ := bd_some h
    refine cWv (runV (As := [.int x4]) (rest := []) C (mX8_putBytes l D a hc8 H.size) lk_V_8_75 okN_X8_putBytes ⟨Nat.le_of_ble_eq_true rfl, Nat.le_of_ble_eq_true rfl⟩ ⟨rfl, rfl⟩ (preV (preM hK hP hD) (recvOf hK hP 0 rfl (ci := 8) rfl)) hl.1 rfl (Nat.le_of_ble_eq_true rfl) dX8_feed_33 ⟨Nat.le_of_ble_eq_true rfl, Nat.le_of_ble_eq_true rfl⟩) hP hD hS hA (fun H locs hP hD hS => ?_)
    have hP : va_P D classes (rc8 a q_t Q_t z9) H := hP
    have hD : va_D A (rc8 a q_t Q_t z9) := hD
    refine lv_aload_n hx hb dX8_feed_36 rfl (lv_at hl 0 rfl) ?_
    refine lv_iload hx hb dX8_feed_37 (lv_at hl 5 rfl) ?_
    obtain ⟨z11, hc10, h⟩ := bd_some h
    refine cWv (runV (As := [.int x5]) (rest := []) C (mX8_putBytes l D a hc10 H.size) lk_V_8_75 okN_X8_putBytes ⟨Nat.le_of_ble_eq_true rfl, Nat.le_of_ble_eq_true rfl⟩ ⟨rfl, rfl⟩ (preV (preM hK hP hD) (recvOf hK hP 0 rfl (ci := 8) rfl)) hl.1 rfl (Nat.le_of_ble_eq_true rfl) dX8_feed_39 ⟨Nat.le_of_ble_eq_true rfl, Nat.le_of_ble_eq_true rfl⟩) hP hD hS hA (fun H locs hP hD hS => ?_)
    have hP : va_P D classes (rc8 a q_t Q_t z11) H := hP
    have hD : va_D A (rc8 a q_t Q_t z11) := hD
    refine lv_aload_n hx hb dX8_feed_42 rfl (lv_at hl 0 rfl) ?_
    refine va_get (D := D) (v := .int (gI z11 1)) (C := RX8) (T := TX8) (N := 11) hx hb hts iX8 hown hK.1 hP 0 rfl rfl 1 (by decide) (hts _ t_301) (fun _ h9 => h9) rfl dX8_feed_43 ?_
    exact rMi C rfl h (g := fun y => rc8 a q_t Q_t y.2) (pr := fun y => y.1) hP hD hS dX8_feed_46
  · have h := ite_f c1 h
    refine lv_iconst (v := (-1)) hx hb dX8_feed_13 (by decide) ?_
    exact rMi C rfl h (g := fun y => rc8 a q_t Q_t y.2) (pr := fun y => y.1) hP hD hS dX8_feed_14

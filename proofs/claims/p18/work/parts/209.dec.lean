set_option maxHeartbeats 4000000 in
set_option maxRecDepth 100000 in
theorem wX1_mostEarned_106 {p : Program} {l : Launch} {e : Env} {s : State} {m : MethodId} {below : List Frame} {meth : Method} {c : Code} {D : va_G} {a : Nat → ClassId} {A : Nat → Prop} {q_t : Nat} {q_p1 : Nat} {Q_t : Nat → Nat} {Q_p1 : Nat → Nat} {z_p1 : Sx} {x20 : Int32} {x30 : Int32} {x40 : Int32} {x2 : Int32} {x3 : Int32} {x5 : Int32} {x6 : Int64} {x8 : Int32} (C : Cx p s m #[.ref q_t, .ref q_p1, .int x20, .int x30, .int x40] meth c MX1_mostEarned) (hK : KK D a s) (hA : ∀ q, s.heap.size ≤ q → A q) {F LO : Nat} {rec : Sx → Sx → Int32 → Int32 → Int32 → Option (Int64 × Sx)} (hrec : ∀ {q_t : Nat} {q_p1 : Nat} {Q_t : Nat → Nat} {z_t : Sx} {Q_p1 : Nat → Nat} {z_p1 : Sx} {x2 : Int32} {x3 : Int32} {x4 : Int32} {y9 : Int64 × Sx}, rec z_t z_p1 x2 x3 x4 = some y9 → ∀ (sz : Nat), CMl (S := Unit) l MX1_mostEarned F LO 0 0 D a [.ref q_t, .ref q_p1, .int x2, .int x3, .int x4] (rc1 a q_t Q_t z_t ++ (rc7 a q_p1 Q_p1 z_p1)) sz (fun r _ => r = y9.1) (fun _ => rc1 a q_t Q_t y9.2 ++ (rc7 a q_p1 Q_p1 z_p1))) (hF : 2 ≤ F) (hL : 47 ≤ LO) {y : Int64 × Sx} {k139 : Sx → Int64 → Option (Int64 × Sx)} (hk139 : ∀ (z_tk : Sx) (x9k : Int64) (H : Heap) (locs : List Loc) (ls : Array Slot), k139 z_tk x9k = some y → va_P D classes (rc1 a q_t Q_t z_tk ++ (rc7 a q_p1 Q_p1 z_p1)) H → va_D A (rc1 a q_t Q_t z_tk ++ (rc7 a q_p1 Q_p1 z_p1)) → va_S A s.heap H locs → lv_has ls 12 [(0, .ref q_t), (6, .long x6), (8, .int x8), (9, .long x9k)] → W p l e (rmM (F + 2) 0 0 (LO + 62)) s m #[.ref q_t, .ref q_p1, .int x20, .int x30, .int x40] below meth c H locs 0 0 (MQ below (va_Ql (fun r (_ : Unit) => r = y.1) (Bw D A (fun _ => rc1 a q_t Q_t y.2 ++ (rc7 a q_p1 Q_p1 z_p1))) A) #[.ref q_t, .ref q_p1, .int x20, .int x30, .int x40] s 0 0 A) (F0 m 139 ls [])) : ∀ (n : Nat) (z_t : Sx) (x9 : Int64) (x11 : Int32) (H : Heap) (locs : List Loc) (ls : Array Slot), lX1_mostEarned_106 rec k139 z_p1 x2 x3 x5 x6 x8 n z_t x9 x11 = some y → va_P D classes (rc1 a q_t Q_t z_t ++ (rc7 a q_p1 Q_p1 z_p1)) H → va_D A (rc1 a q_t Q_t z_t ++ (rc7 a q_p1 Q_p1 z_p1)) → va_S A s.heap H locs → lv_has ls 12 [(0, .ref q_t), (1, .ref q_p1), (2, .int x2), (3, .int x3), (5, .int x5), (6, .long x6), (8, .int x8), (9, .long x9), (11, .int x11)] → W p l e (rmM (F + 2) 0 0 (LO + 62)) s m #[.ref q_t, .ref q_p1, .int x20, .int x30, .int x40] below meth c H locs 0 0 (MQ below (va_Ql (fun r (_ : Unit) => r = y.1) (Bw D A (fun _ => rc1 a q_t Q_t y.2 ++ (rc7 a q_p1 Q_p1 z_p1))) A) #[.ref q_t, .ref q_p1, .int x20, .int x30, .int x40] s 0 0 A) (F0 m 106 ls []) := by
  obtain ⟨hx, hb, hml, hown, hts, hr, hlocks, hnm⟩ := id C
  have hb : c.code = cX1_mostEarned := hb
  have hown : s.vm.findClass RX1 = some m.cls := hown
  intro n
  induction n with
  | zero => intro z_t x9 x11 H locs ls h; rw [lX1_mostEarned_106] at h; cases h
  | succ n ih =>
    intro z_t x9 x11 H locs ls h hP hD hS hl
    rw [lX1_mostEarned_106] at h
    refine lv_iload hx hb dX1_mostEarned_106 (lv_at hl 8 rfl) ?_
    refine lv_aload_n hx hb dX1_mostEarned_108 rfl (lv_at hl 1 rfl) ?_
    refine va_get (D := D) (v := .int (gI z_p1 3)) (C := RX7) (T := TX7) (N := 18) hx hb hts iX7 hown hK.1 hP 3 rfl rfl 3 (by decide) (hts _ t_45) (fun _ h9 => h9) rfl dX1_mostEarned_109 ?_
    refine lv_icmp_ge (tgt := 139) hx hb dX1_mostEarned_112 (by decide) (fun c6 => ?_) (fun c6 => ?_)
    · have h := ite_t c6 h
      exact hk139 z_t x9 _ _ ls h hP hD hS (lv_sub hl [0, 5, 6, 7] rfl)
    · have h := ite_f c6 h
      refine lv_lload hx hb dX1_mostEarned_115 (lv_at hl 7 rfl) ?_
      refine lv_aload_n hx hb dX1_mostEarned_117 rfl (lv_at hl 0 rfl) ?_
      refine lv_aload_n hx hb dX1_mostEarned_118 rfl (lv_at hl 1 rfl) ?_
      refine lv_iload hx hb dX1_mostEarned_119 (lv_at hl 8 rfl) ?_
      refine lv_iload_n hx hb dX1_mostEarned_121 rfl (lv_at hl 2 rfl) ?_
      refine lv_iload_n hx hb dX1_mostEarned_122 rfl (lv_at hl 3 rfl) ?_
      refine lv_iload hx hb dX1_mostEarned_123 (lv_at hl 4 rfl) ?_
      obtain ⟨r8, z9, hc7, h⟩ := bd2_some h
      refine cWl (runV (As := [.ref q_p1, .int x11, .int x2, .int x3, .int x5]) (rest := [.long x9]) C (mX1_earnedBy l D a hrec (Nat.le_trans (by decide) hF) (Nat.le_trans (by decide) hL) (q_t := q_t) (q_p1 := q_p1) (Q_t := Q_t) (Q_p1 := Q_p1) hc7 H.size) lk_V_1_43 okN_X1_earnedBy (by constructor; (show F + 1 + 1 ≤ F + 2; omega); (show 8 + (12 + 11) + (LO + 31) ≤ LO + 62; omega)) ⟨rfl, rfl⟩ (preV (preM hK hP hD) (recvOf hK hP 0 rfl (ci := 1) rfl)) hl.1 rfl (Nat.le_of_ble_eq_true rfl) dX1_mostEarned_125 ⟨Nat.le_of_ble_eq_true rfl, Nat.le_of_ble_eq_true rfl⟩) hP hD hS hA (fun H locs hP hD hS => ?_)
      have hP : va_P D classes (rc1 a q_t Q_t z9 ++ (rc7 a q_p1 Q_p1 z_p1)) H := hP
      have hD : va_D A (rc1 a q_t Q_t z9 ++ (rc7 a q_p1 Q_p1 z_p1)) := hD
      refine va_mmax_long hx hb (by rw [hml]; exact hl.1.symm) hown (hts _ t_801) (hts _ t_802) (hts _ t_14) (hts _ t_803) (by show 1 ≤ F + 2; omega) (Nat.le_trans (Nat.le_of_ble_eq_true (m := 30) rfl) (by show 30 ≤ LO + 62; omega)) (Nat.le_of_ble_eq_true rfl) (Nat.le_of_ble_eq_true rfl) dX1_mostEarned_128 ?_
      refine lv_lstore (lv' := [(9, .long (mxL x9 r8)), (0, .ref q_t), (1, .ref q_p1), (2, .int x2), (3, .int x3), (5, .int x5), (6, .long x6), (8, .int x8), (11, .int x11)]) hx hb dX1_mostEarned_131 hl (by decide) rfl (fun ls hl => ?_)
      refine lv_iinc (v := x11 + 1) (lv' := [(11, .int (x11 + 1)), (9, .long (mxL x9 r8)), (0, .ref q_t), (1, .ref q_p1), (2, .int x2), (3, .int x3), (5, .int x5), (6, .long x6), (8, .int x8)]) hx hb dX1_mostEarned_133 hl (k := 8) rfl rfl (by decide) rfl (fun ls hl => ?_)
      refine lv_goto (tgt := 106) hx hb dX1_mostEarned_136 (by decide) ?_
      exact ih z9 (mxL x9 r8) (x11 + 1) _ _ ls h hP hD hS (lv_sub hl [2, 3, 4, 5, 6, 7, 8, 1, 0] rfl)

set_option maxHeartbeats 4000000 in
set_option maxRecDepth 100000 in
theorem gmX1_mostEarned (l : Launch) (D : va_G) (a : Nat → ClassId) {F LO : Nat} {rec : Sx → Sx → Int32 → Int32 → Int32 → Option (Int64 × Sx)} (hrec : ∀ {q_t : Nat} {q_p1 : Nat} {Q_t : Nat → Nat} {z_t : Sx} {Q_p1 : Nat → Nat} {z_p1 : Sx} {x2 : Int32} {x3 : Int32} {x4 : Int32} {y9 : Int64 × Sx}, rec z_t z_p1 x2 x3 x4 = some y9 → ∀ (sz : Nat), CMl (S := Unit) l MX1_mostEarned F LO 0 0 D a [.ref q_t, .ref q_p1, .int x2, .int x3, .int x4] (rc1 a q_t Q_t z_t ++ (rc7 a q_p1 Q_p1 z_p1)) sz (fun r _ => r = y9.1) (fun _ => rc1 a q_t Q_t y9.2 ++ (rc7 a q_p1 Q_p1 z_p1))) (hF : 2 ≤ F) (hL : 47 ≤ LO) {q_t : Nat} {q_p1 : Nat} {Q_t : Nat → Nat} {z_t : Sx} {Q_p1 : Nat → Nat} {z_p1 : Sx} {x2 : Int32} {x3 : Int32} {x4 : Int32} {y : Int64 × Sx} (h : gX1_mostEarned rec z_t z_p1 x2 x3 x4 = some y) (sz : Nat) : CMl (S := Unit) l MX1_mostEarned (F + 2) (LO + 62) 0 0 D a [.ref q_t, .ref q_p1, .int x2, .int x3, .int x4] (rc1 a q_t Q_t z_t ++ (rc7 a q_p1 Q_p1 z_p1)) sz (fun r _ => r = y.1) (fun _ => rc1 a q_t Q_t y.2 ++ (rc7 a q_p1 Q_p1 z_p1)) := by
  unfold gX1_mostEarned at h
  refine entMl (by decide) (Nat.le_of_ble_eq_true rfl) ?_
  intro p e s m below meth c C hK A hA hP hD ls hl
  obtain ⟨hx, hb, hml, hown, hts, hr, hlocks, hnm⟩ := id C
  have hb : c.code = cX1_mostEarned := hb
  have hown : s.vm.findClass RX1 = some m.cls := hown
  have hS : va_S A s.heap s.heap [] := va_S.rf
  have hl : lv_has ls 12 [(0, .ref q_t), (1, .ref q_p1), (2, .int x2), (3, .int x3), (4, .int x4)] := hl
  refine lv_iload_n hx hb dX1_mostEarned_0 rfl (lv_at hl 2 rfl) ?_
  refine lv_iconst (v := 1) hx hb dX1_mostEarned_1 (by decide) ?_
  refine lv_icmp_gt (tgt := 23) hx hb dX1_mostEarned_2 (by decide) (fun c1 => ?_) (fun c1 => ?_)
  · have h := ite_t c1 h
    refine lv_iload hx hb dX1_mostEarned_23 (lv_at hl 4 rfl) ?_
    refine lv_iload_n hx hb dX1_mostEarned_25 rfl (lv_at hl 2 rfl) ?_
    refine lv_aload_n hx hb dX1_mostEarned_26 rfl (lv_at hl 1 rfl) ?_
    refine va_get (D := D) (v := .int (gI z_p1 17)) (C := RX7) (T := TX7) (N := 18) hx hb hts iX7 hown hK.1 hP 3 rfl rfl 17 (by decide) (hts _ t_80) (fun _ h9 => h9) rfl dX1_mostEarned_27 ?_
    refine lv_imul hx hb dX1_mostEarned_30 ?_
    refine va_mmin hx hb (by rw [hml]; exact hl.1.symm) hown (hts _ t_789) (hts _ t_556) (hts _ t_14) (hts _ t_557) (by show 1 ≤ F + 2; omega) (Nat.le_trans (Nat.le_of_ble_eq_true (m := 30) rfl) (by show 30 ≤ LO + 62; omega)) (Nat.le_of_ble_eq_true rfl) (Nat.le_of_ble_eq_true rfl) dX1_mostEarned_31 ?_
    refine lv_istore (lv' := [(5, .int (mnI x4 (x2 * (gI z_p1 17)))), (0, .ref q_t), (1, .ref q_p1), (2, .int x2), (3, .int x3), (4, .int x4)]) hx hb dX1_mostEarned_34 hl (by decide) rfl (fun ls hl => ?_)
    refine lv_aload_n hx hb dX1_mostEarned_36 rfl (lv_at hl 2 rfl) ?_
    refine va_get (D := D) (v := .int (gI z_p1 0)) (C := RX7) (T := TX7) (N := 18) hx hb hts iX7 hown hK.1 hP 3 rfl rfl 0 (by decide) (hts _ t_38) (fun _ h9 => h9) rfl dX1_mostEarned_37 ?_
    refine lv_i2l (v := (gI z_p1 0).toInt64) hx hb dX1_mostEarned_40 rfl ?_
    refine lv_ldc2 hx hb hown (hts _ t_790) dX1_mostEarned_41 ?_
    refine lv_lmul hx hb dX1_mostEarned_44 ?_
    refine lv_iload_n hx hb dX1_mostEarned_45 rfl (lv_at hl 3 rfl) ?_
    refine lv_i2l (v := x2.toInt64) hx hb dX1_mostEarned_46 rfl ?_
    refine lv_ladd hx hb dX1_mostEarned_47 ?_
    refine lv_bipush (v := 19) hx hb dX1_mostEarned_48 (by decide) ?_
    refine lv_lshl (v := ((((gI z_p1 0).toInt64) * 8) + x2.toInt64) <<< (Int32.toInt64 19 &&& 63)) hx hb dX1_mostEarned_50 rfl ?_
    refine lv_iload_n hx hb dX1_mostEarned_51 rfl (lv_at hl 4 rfl) ?_
    refine lv_bipush (v := 9) hx hb dX1_mostEarned_52 (by decide) ?_
    refine lv_ishl hx hb dX1_mostEarned_54 ?_
    refine lv_i2l (v := (x3 <<< (9 &&& 31)).toInt64) hx hb dX1_mostEarned_55 rfl ?_
    refine lv_lor hx hb dX1_mostEarned_56 ?_
    refine lv_iload hx hb dX1_mostEarned_57 (lv_at hl 0 rfl) ?_
    refine lv_i2l (v := (mnI x4 (x2 * (gI z_p1 17))).toInt64) hx hb dX1_mostEarned_59 rfl ?_
    refine lv_lor hx hb dX1_mostEarned_60 ?_
    refine lv_topl (fun v2 ev2 => ?_)
    have h := nm_some h v2 ev2
    refine lv_lstore (lv' := [(6, .long v2), (5, .int (mnI x4 (x2 * (gI z_p1 17)))), (0, .ref q_t), (1, .ref q_p1), (2, .int x2), (3, .int x3), (4, .int x4)]) hx hb dX1_mostEarned_61 hl (by decide) rfl (fun ls hl => ?_)
    refine lv_lload hx hb dX1_mostEarned_63 (lv_at hl 0 rfl) ?_
    refine lv_ldc2 hx hb hown (hts _ t_791) dX1_mostEarned_65 ?_
    refine lv_lmul hx hb dX1_mostEarned_68 ?_
    refine lv_bipush (v := 53) hx hb dX1_mostEarned_69 (by decide) ?_
    refine lv_lushr (v := ((v2 * (-7046029254386353131)).toUInt64 >>> ((Int32.toInt64 53).toUInt64 &&& Int64.toUInt64 63)).toInt64) hx hb dX1_mostEarned_71 rfl ?_
    refine lv_l2i (v := (((v2 * (-7046029254386353131)).toUInt64 >>> ((Int32.toInt64 53).toUInt64 &&& Int64.toUInt64 63)).toInt64).toInt32) hx hb dX1_mostEarned_72 rfl ?_
    refine lv_sipush (v := 2047) hx hb dX1_mostEarned_73 (by decide) ?_
    refine lv_iand hx hb dX1_mostEarned_76 ?_
    refine lv_topi (fun v3 ev3 => ?_)
    have h := nm_some h v3 ev3
    refine lv_istore (lv' := [(8, .int v3), (6, .long v2), (5, .int (mnI x4 (x2 * (gI z_p1 17)))), (0, .ref q_t), (1, .ref q_p1), (2, .int x2), (3, .int x3), (4, .int x4)]) hx hb dX1_mostEarned_77 hl (by decide) rfl (fun ls hl => ?_)
    refine lv_aload_n hx hb dX1_mostEarned_79 rfl (lv_at hl 3 rfl) ?_
    refine va_get (D := D) (v := .ref (Q_t 0)) (C := RX1) (T := TX1) (N := 4) hx hb hts iX1 hown hK.1 hP 0 rfl rfl 0 (by decide) (hts _ t_285) (fun _ h9 => h9) rfl dX1_mostEarned_80 ?_
    refine lv_iload hx hb dX1_mostEarned_83 (lv_at hl 0 rfl) ?_
    obtain ⟨g4, h⟩ := gd_some h
    refine ald_l hx hb hK.1 hP 1 1 rfl rfl v3.toNatClampNeg (ix_g g4) dX1_mostEarned_85 ?_
    refine lv_lload hx hb dX1_mostEarned_86 (lv_at hl 1 rfl) ?_
    refine W.lcmp hx hb dX1_mostEarned_88 ?_
    refine lv_if_ne (tgt := 100) hx hb dX1_mostEarned_89 (by decide) (fun c5 => ?_) (fun c5 => ?_)
    · have h := ite_f (fun q => c5 ((lg_cmp_eq _ _).mpr q)) h
      refine lv_lconst (v := 0) hx hb dX1_mostEarned_100 (by decide) ?_
      refine lv_lstore (lv' := [(9, .long 0), (8, .int v3), (6, .long v2), (5, .int (mnI x4 (x2 * (gI z_p1 17)))), (0, .ref q_t), (1, .ref q_p1), (2, .int x2), (3, .int x3), (4, .int x4)]) hx hb dX1_mostEarned_101 hl (by decide) rfl (fun ls hl => ?_)
      refine lv_iconst (v := 0) hx hb dX1_mostEarned_103 (by decide) ?_
      refine lv_istore (lv' := [(11, .int 0), (9, .long 0), (8, .int v3), (6, .long v2), (5, .int (mnI x4 (x2 * (gI z_p1 17)))), (0, .ref q_t), (1, .ref q_p1), (2, .int x2), (3, .int x3), (4, .int x4)]) hx hb dX1_mostEarned_104 hl (by decide) rfl (fun ls hl => ?_)
      refine wX1_mostEarned_106 C hK hA hrec hF hL ?_ FU z_t 0 0 _ _ ls h hP hD hS (lv_sub hl [5, 6, 7, 8, 4, 3, 2, 1, 0] rfl)
      · intro z10 i11 H locs ls h hP hD hS hl
        refine lv_aload_n hx hb dX1_mostEarned_139 rfl (lv_at hl 0 rfl) ?_
        refine va_get (D := D) (v := .ref (Q_t 0)) (C := RX1) (T := TX1) (N := 4) hx hb hts iX1 hown hK.1 hP 0 rfl rfl 0 (by decide) (hts _ t_285) (fun _ h9 => h9) rfl dX1_mostEarned_140 ?_
        refine lv_iload hx hb dX1_mostEarned_143 (lv_at hl 2 rfl) ?_
        refine lv_lload hx hb dX1_mostEarned_145 (lv_at hl 1 rfl) ?_
        refine ast_l hx hb hK.1 hP hD hS 1 1 rfl rfl v3.toNatClampNeg (ix_g g4) dX1_mostEarned_147 (fun H locs hP hD hS => ?_)
        have hP : va_P D classes (rc1 a q_t Q_t (sJ z10 0 v3.toNatClampNeg v2) ++ (rc7 a q_p1 Q_p1 z_p1)) H := hP
        have hD : va_D A (rc1 a q_t Q_t (sJ z10 0 v3.toNatClampNeg v2) ++ (rc7 a q_p1 Q_p1 z_p1)) := hD
        refine lv_aload_n hx hb dX1_mostEarned_148 rfl (lv_at hl 0 rfl) ?_
        refine va_get (D := D) (v := .ref (Q_t 1)) (C := RX1) (T := TX1) (N := 4) hx hb hts iX1 hown hK.1 hP 0 rfl rfl 1 (by decide) (hts _ t_286) (fun _ h9 => h9) rfl dX1_mostEarned_149 ?_
        refine lv_iload hx hb dX1_mostEarned_152 (lv_at hl 2 rfl) ?_
        refine lv_lload hx hb dX1_mostEarned_154 (lv_at hl 3 rfl) ?_
        refine ast_l hx hb hK.1 hP hD hS 2 1 rfl rfl v3.toNatClampNeg (ix_g g4) dX1_mostEarned_156 (fun H locs hP hD hS => ?_)
        have hP : va_P D classes (rc1 a q_t Q_t (sJ (sJ z10 0 v3.toNatClampNeg v2) 1 v3.toNatClampNeg i11) ++ (rc7 a q_p1 Q_p1 z_p1)) H := hP
        have hD : va_D A (rc1 a q_t Q_t (sJ (sJ z10 0 v3.toNatClampNeg v2) 1 v3.toNatClampNeg i11) ++ (rc7 a q_p1 Q_p1 z_p1)) := hD
        refine lv_lload hx hb dX1_mostEarned_157 (lv_at hl 3 rfl) ?_
        exact rMl C rfl h (g := fun y => rc1 a q_t Q_t y.2 ++ (rc7 a q_p1 Q_p1 z_p1)) (pr := fun y => y.1) hP hD hS dX1_mostEarned_159
    · have h := ite_t ((lg_cmp_eq _ _).mp c5) h
      refine lv_aload_n hx hb dX1_mostEarned_92 rfl (lv_at hl 3 rfl) ?_
      refine va_get (D := D) (v := .ref (Q_t 1)) (C := RX1) (T := TX1) (N := 4) hx hb hts iX1 hown hK.1 hP 0 rfl rfl 1 (by decide) (hts _ t_286) (fun _ h9 => h9) rfl dX1_mostEarned_93 ?_
      refine lv_iload hx hb dX1_mostEarned_96 (lv_at hl 0 rfl) ?_
      refine ald_l hx hb hK.1 hP 2 1 rfl rfl v3.toNatClampNeg (ix_g g4) dX1_mostEarned_98 ?_
      exact rMl C rfl h (g := fun y => rc1 a q_t Q_t y.2 ++ (rc7 a q_p1 Q_p1 z_p1)) (pr := fun y => y.1) hP hD hS dX1_mostEarned_99
  · have h := ite_f c1 h
    refine lv_iload_n hx hb dX1_mostEarned_5 rfl (lv_at hl 2 rfl) ?_
    refine lv_iconst (v := 1) hx hb dX1_mostEarned_6 (by decide) ?_
    refine lv_icmp_ne (tgt := 21) hx hb dX1_mostEarned_7 (by decide) (fun c12 => ?_) (fun c12 => ?_)
    · have h := ite_f c12 h
      refine lv_lconst (v := 0) hx hb dX1_mostEarned_21 (by decide) ?_
      exact rMl C rfl h (g := fun y => rc1 a q_t Q_t y.2 ++ (rc7 a q_p1 Q_p1 z_p1)) (pr := fun y => y.1) hP hD hS dX1_mostEarned_22
    · have h := ite_t c12 h
      refine lv_aload_n hx hb dX1_mostEarned_10 rfl (lv_at hl 1 rfl) ?_
      refine lv_iload_n hx hb dX1_mostEarned_11 rfl (lv_at hl 3 rfl) ?_
      refine lv_iload hx hb dX1_mostEarned_12 (lv_at hl 4 rfl) ?_
      obtain ⟨r14, hc13, h⟩ := bd_some h
      refine cRi (runV (As := [.int x3, .int x4]) (rest := []) C (mX7_mostByOneLook l D a (q_t := q_p1) (Q_t := Q_p1) hc13) lk_V_1_18 okN_X7_mostByOneLook (by constructor; (show 1 + 1 ≤ F + 2; omega); (show 8 + (5 + 11) + (23) ≤ LO + 62; omega)) ⟨rfl, rfl⟩ (preV (preR hK (P_of_map (wc := rc7 a q_p1 Q_p1 z_p1) hP [3, 4, 5, 6, 7, 8, 9, 10, 11, 12, 13, 14, 15] rfl)) (recvOf hK hP 3 rfl (ci := 7) rfl)) hl.1 rfl (Nat.le_of_ble_eq_true rfl) dX1_mostEarned_14 ⟨Nat.le_of_ble_eq_true rfl, Nat.le_of_ble_eq_true rfl⟩) ?_
      refine lv_i2l (v := r14.toInt64) hx hb dX1_mostEarned_17 rfl ?_
      refine lv_goto (tgt := 22) hx hb dX1_mostEarned_18 (by decide) ?_
      exact rMl C rfl h (g := fun y => rc1 a q_t Q_t y.2 ++ (rc7 a q_p1 Q_p1 z_p1)) (pr := fun y => y.1) hP hD hS dX1_mostEarned_22

set_option maxHeartbeats 4000000 in
theorem mX1_mostEarned (l : Launch) (D : va_G) (a : Nat → ClassId) : ∀ (dp : Nat) {q_t : Nat} {q_p1 : Nat} {Q_t : Nat → Nat} {z_t : Sx} {Q_p1 : Nat → Nat} {z_p1 : Sx} {x2 : Int32} {x3 : Int32} {x4 : Int32} {y : Int64 × Sx}, fX1_mostEarned dp z_t z_p1 x2 x3 x4 = some y → ∀ (sz : Nat), CMl (S := Unit) l MX1_mostEarned (2 + 2 * dp) (47 + 62 * dp) 0 0 D a [.ref q_t, .ref q_p1, .int x2, .int x3, .int x4] (rc1 a q_t Q_t z_t ++ (rc7 a q_p1 Q_p1 z_p1)) sz (fun r _ => r = y.1) (fun _ => rc1 a q_t Q_t y.2 ++ (rc7 a q_p1 Q_p1 z_p1)) := by
  intro dp
  induction dp with
  | zero => intros; rename_i h _; cases h
  | succ dp ih =>
    intros
    rename_i h sz
    have e1 : 2 + 2 * (dp + 1) = 2 + 2 * dp + 2 := by omega
    have e2 : 47 + 62 * (dp + 1) = 47 + 62 * dp + 62 := by omega
    rw [e1, e2]
    exact gmX1_mostEarned l D a ih (by omega) (by omega) h sz

set_option maxHeartbeats 4000000 in
set_option maxRecDepth 100000 in
theorem wX1_choice_24 {p : Program} {l : Launch} {e : Env} {s : State} {m : MethodId} {below : List Frame} {meth : Method} {c : Code} {D : va_G} {a : Nat → ClassId} {A : Nat → Prop} {q_t : Nat} {q_p1 : Nat} {Q_t : Nat → Nat} {Q_p1 : Nat → Nat} {z_p1 : Sx} {x20 : Int32} {x30 : Int32} {x40 : Int32} {x2 : Int32} {x3 : Int32} {x4 : Int32} {x5 : Int64} (C : Cx p s m #[.ref q_t, .ref q_p1, .int x20, .int x30, .int x40] meth c MX1_choice) (hK : KK D a s) (hA : ∀ q, s.heap.size ≤ q → A q) {y : Int32 × Sx} : ∀ (n : Nat) (z_t : Sx) (x7 : Int32) (H : Heap) (locs : List Loc) (ls : Array Slot), lX1_choice_24 z_p1 x2 x3 x4 x5 n z_t x7 = some y → va_P D classes (rc1 a q_t Q_t z_t ++ (rc7 a q_p1 Q_p1 z_p1)) H → va_D A (rc1 a q_t Q_t z_t ++ (rc7 a q_p1 Q_p1 z_p1)) → va_S A s.heap H locs → lv_has ls 8 [(0, .ref q_t), (1, .ref q_p1), (2, .int x2), (3, .int x3), (4, .int x4), (5, .long x5), (7, .int x7)] → W p l e (rmM 36 0 0 1101) s m #[.ref q_t, .ref q_p1, .int x20, .int x30, .int x40] below meth c H locs 0 0 (MQ below (va_Qi (fun r (_ : Unit) => r = y.1) (Bw D A (fun _ => rc1 a q_t Q_t y.2 ++ (rc7 a q_p1 Q_p1 z_p1))) A) #[.ref q_t, .ref q_p1, .int x20, .int x30, .int x40] s 0 0 A) (F0 m 24 ls []) := by
  obtain ⟨hx, hb, hml, hown, hts, hr, hlocks, hnm⟩ := id C
  have hb : c.code = cX1_choice := hb
  have hown : s.vm.findClass RX1 = some m.cls := hown
  intro n
  induction n with
  | zero => intro z_t x7 H locs ls h; rw [lX1_choice_24] at h; cases h
  | succ n ih =>
    intro z_t x7 H locs ls h hP hD hS hl
    rw [lX1_choice_24] at h
    refine lv_iload hx hb dX1_choice_24 (lv_at hl 6 rfl) ?_
    refine lv_aload_n hx hb dX1_choice_26 rfl (lv_at hl 1 rfl) ?_
    refine va_get (D := D) (v := .int (gI z_p1 3)) (C := RX7) (T := TX7) (N := 18) hx hb hts iX7 hown hK.1 hP 3 rfl rfl 3 (by decide) (hts _ t_45) (fun _ h9 => h9) rfl dX1_choice_27 ?_
    refine lv_icmp_ge (tgt := 59) hx hb dX1_choice_30 (by decide) (fun c5 => ?_) (fun c5 => ?_)
    · have h := ite_t c5 h
      refine lv_bipush (v := (-2)) hx hb dX1_choice_59 (by decide) ?_
      exact rMi C rfl h (g := fun y => rc1 a q_t Q_t y.2 ++ (rc7 a q_p1 Q_p1 z_p1)) (pr := fun y => y.1) hP hD hS dX1_choice_61
    · have h := ite_f c5 h
      refine lv_aload_n hx hb dX1_choice_33 rfl (lv_at hl 0 rfl) ?_
      refine lv_aload_n hx hb dX1_choice_34 rfl (lv_at hl 1 rfl) ?_
      refine lv_iload hx hb dX1_choice_35 (lv_at hl 6 rfl) ?_
      refine lv_iload_n hx hb dX1_choice_37 rfl (lv_at hl 2 rfl) ?_
      refine lv_iload_n hx hb dX1_choice_38 rfl (lv_at hl 3 rfl) ?_
      refine lv_iload hx hb dX1_choice_39 (lv_at hl 4 rfl) ?_
      obtain ⟨r7, z8, hc6, h⟩ := bd2_some h
      refine cWl (runV (As := [.ref q_p1, .int x7, .int x2, .int x3, .int x4]) (rest := []) C (mX1_earnedBy l D a (fun h => mX1_mostEarned l D a 16 h) (by decide) (by decide) (q_t := q_t) (q_p1 := q_p1) (Q_t := Q_t) (Q_p1 := Q_p1) hc6 H.size) lk_V_1_43 okN_X1_earnedBy ⟨Nat.le_of_ble_eq_true rfl, Nat.le_of_ble_eq_true rfl⟩ ⟨rfl, rfl⟩ (preV (preM hK hP hD) (recvOf hK hP 0 rfl (ci := 1) rfl)) hl.1 rfl (Nat.le_of_ble_eq_true rfl) dX1_choice_41 ⟨Nat.le_of_ble_eq_true rfl, Nat.le_of_ble_eq_true rfl⟩) hP hD hS hA (fun H locs hP hD hS => ?_)
      have hP : va_P D classes (rc1 a q_t Q_t z8 ++ (rc7 a q_p1 Q_p1 z_p1)) H := hP
      have hD : va_D A (rc1 a q_t Q_t z8 ++ (rc7 a q_p1 Q_p1 z_p1)) := hD
      refine lv_lload hx hb dX1_choice_44 (lv_at hl 5 rfl) ?_
      refine W.lcmp hx hb dX1_choice_46 ?_
      refine lv_if_ne (tgt := 53) hx hb dX1_choice_47 (by decide) (fun c9 => ?_) (fun c9 => ?_)
      · have h := ite_f (fun q => c9 ((lg_cmp_eq _ _).mpr q)) h
        refine lv_iinc (v := x7 + 1) (lv' := [(7, .int (x7 + 1)), (0, .ref q_t), (1, .ref q_p1), (2, .int x2), (3, .int x3), (4, .int x4), (5, .long x5)]) hx hb dX1_choice_53 hl (k := 6) rfl rfl (by decide) rfl (fun ls hl => ?_)
        refine lv_goto (tgt := 24) hx hb dX1_choice_56 (by decide) ?_
        exact ih z8 (x7 + 1) _ _ ls h hP hD hS (lv_sub hl [1, 2, 3, 4, 5, 6, 0] rfl)
      · have h := ite_t ((lg_cmp_eq _ _).mp c9) h
        refine lv_iload hx hb dX1_choice_50 (lv_at hl 6 rfl) ?_
        exact rMi C rfl h (g := fun y => rc1 a q_t Q_t y.2 ++ (rc7 a q_p1 Q_p1 z_p1)) (pr := fun y => y.1) hP hD hS dX1_choice_52

set_option maxHeartbeats 4000000 in
set_option maxRecDepth 100000 in
theorem mX1_choice (l : Launch) (D : va_G) (a : Nat → ClassId) {q_t : Nat} {q_p1 : Nat} {Q_t : Nat → Nat} {z_t : Sx} {Q_p1 : Nat → Nat} {z_p1 : Sx} {x2 : Int32} {x3 : Int32} {x4 : Int32} {y : Int32 × Sx} (h : fX1_choice z_t z_p1 x2 x3 x4 = some y) (sz : Nat) : CMi (S := Unit) l MX1_choice 36 1101 0 0 D a [.ref q_t, .ref q_p1, .int x2, .int x3, .int x4] (rc1 a q_t Q_t z_t ++ (rc7 a q_p1 Q_p1 z_p1)) sz (fun r _ => r = y.1) (fun _ => rc1 a q_t Q_t y.2 ++ (rc7 a q_p1 Q_p1 z_p1)) := by
  unfold fX1_choice at h
  refine entMi (by decide) (Nat.le_of_ble_eq_true rfl) ?_
  intro p e s m below meth c C hK A hA hP hD ls hl
  obtain ⟨hx, hb, hml, hown, hts, hr, hlocks, hnm⟩ := id C
  have hb : c.code = cX1_choice := hb
  have hown : s.vm.findClass RX1 = some m.cls := hown
  have hS : va_S A s.heap s.heap [] := va_S.rf
  have hl : lv_has ls 8 [(0, .ref q_t), (1, .ref q_p1), (2, .int x2), (3, .int x3), (4, .int x4)] := hl
  refine lv_aload_n hx hb dX1_choice_0 rfl (lv_at hl 0 rfl) ?_
  refine lv_aload_n hx hb dX1_choice_1 rfl (lv_at hl 1 rfl) ?_
  refine lv_iload_n hx hb dX1_choice_2 rfl (lv_at hl 2 rfl) ?_
  refine lv_iload_n hx hb dX1_choice_3 rfl (lv_at hl 3 rfl) ?_
  refine lv_iload hx hb dX1_choice_4 (lv_at hl 4 rfl) ?_
  obtain ⟨r2, z3, hc1, h⟩ := bd2_some h
  refine cWl (runV (As := [.ref q_p1, .int x2, .int x3, .int x4]) (rest := []) C (mX1_mostEarned l D a 16 (q_t := q_t) (q_p1 := q_p1) (Q_t := Q_t) (Q_p1 := Q_p1) hc1 s.heap.size) lk_V_1_79 okN_X1_mostEarned ⟨Nat.le_of_ble_eq_true rfl, Nat.le_of_ble_eq_true rfl⟩ ⟨rfl, rfl⟩ (preV (preM hK hP hD) (recvOf hK hP 0 rfl (ci := 1) rfl)) hl.1 rfl (Nat.le_of_ble_eq_true rfl) dX1_choice_6 ⟨Nat.le_of_ble_eq_true rfl, Nat.le_of_ble_eq_true rfl⟩) hP hD hS hA (fun H locs hP hD hS => ?_)
  have hP : va_P D classes (rc1 a q_t Q_t z3 ++ (rc7 a q_p1 Q_p1 z_p1)) H := hP
  have hD : va_D A (rc1 a q_t Q_t z3 ++ (rc7 a q_p1 Q_p1 z_p1)) := hD
  refine lv_lstore (lv' := [(5, .long r2), (0, .ref q_t), (1, .ref q_p1), (2, .int x2), (3, .int x3), (4, .int x4)]) hx hb dX1_choice_9 hl (by decide) rfl (fun ls hl => ?_)
  refine lv_lload hx hb dX1_choice_11 (lv_at hl 0 rfl) ?_
  refine lv_lconst (v := 0) hx hb dX1_choice_13 (by decide) ?_
  refine W.lcmp hx hb dX1_choice_14 ?_
  refine lv_if_gt (tgt := 21) hx hb dX1_choice_15 (by decide) (fun c4 => ?_) (fun c4 => ?_)
  · have h := ite_t ((lg_cmp_gt _ _).mp c4) h
    refine lv_iconst (v := 0) hx hb dX1_choice_21 (by decide) ?_
    refine lv_istore (lv' := [(7, .int 0), (5, .long r2), (0, .ref q_t), (1, .ref q_p1), (2, .int x2), (3, .int x3), (4, .int x4)]) hx hb dX1_choice_22 hl (by decide) rfl (fun ls hl => ?_)
    refine wX1_choice_24 C hK hA FU z3 0 _ _ ls h hP hD hS (lv_sub hl [2, 3, 4, 5, 6, 1, 0] rfl)
  · have h := ite_f (fun q => c4 ((lg_cmp_gt _ _).mpr q)) h
    refine lv_bipush (v := (-2)) hx hb dX1_choice_18 (by decide) ?_
    exact rMi C rfl h (g := fun y => rc1 a q_t Q_t y.2 ++ (rc7 a q_p1 Q_p1 z_p1)) (pr := fun y => y.1) hP hD hS dX1_choice_20

set_option maxHeartbeats 4000000 in
set_option maxRecDepth 100000 in
theorem mX8_has (l : Launch) (D : va_G) (a : Nat → ClassId) {x0 : Int32} {x1 : Int32} {y : Int32} (h : fX8_has x0 x1 = some y) : CRi l MX8_has 0 0 D a [.int x0, .int x1] ([]) (fun r => r = y) := by
  unfold fX8_has at h
  refine entR (by decide) (Nat.le_of_ble_eq_true rfl) ?_
  intro p e s m below meth c C hK hP ls hl
  obtain ⟨hx, hb, hml, hown, hts, hr, hlocks, hnm⟩ := id C
  have hb : c.code = cX8_has := hb
  have hown : s.vm.findClass RX8 = some m.cls := hown
  have hl : lv_has ls 2 [(0, .int x0), (1, .int x1)] := hl
  refine lv_iload_n hx hb dX8_has_0 rfl (lv_at hl 0 rfl) ?_
  refine lv_iconst (v := 1) hx hb dX8_has_1 (by decide) ?_
  refine lv_iload_n hx hb dX8_has_2 rfl (lv_at hl 1 rfl) ?_
  refine lv_ishl hx hb dX8_has_3 ?_
  refine lv_iand hx hb dX8_has_4 ?_
  refine lv_if_eq (tgt := 12) hx hb dX8_has_5 (by decide) (fun c1 => ?_) (fun c1 => ?_)
  · have h := ite_t c1 h
    refine lv_iconst (v := 0) hx hb dX8_has_12 (by decide) ?_
    exact rRz C rfl (Or.inl rfl) (Option.some.inj h) dX8_has_13
  · have h := ite_f c1 h
    refine lv_iconst (v := 1) hx hb dX8_has_8 (by decide) ?_
    refine lv_goto (tgt := 13) hx hb dX8_has_9 (by decide) ?_
    exact rRz C rfl (Or.inr rfl) (Option.some.inj h) dX8_has_13

set_option maxHeartbeats 4000000 in
set_option maxRecDepth 100000 in
theorem wX7_together_5 {p : Program} {l : Launch} {e : Env} {s : State} {m : MethodId} {below : List Frame} {meth : Method} {c : Code} {D : va_G} {a : Nat → ClassId} {q_t : Nat} {q_p1 : Nat} {Q_t : Nat → Nat} {z_t : Sx} {n_p1 : Nat} {f_p1 : Nat → Int32} {x20 : Int32} {x2 : Int32} (C : Cx p s m #[.ref q_t, .ref q_p1, .int x20] meth c MX7_together) (hK : KK D a s) {y : Int32} (hP : va_P D classes (rc7 a q_t Q_t z_t ++ (ra0 a q_p1 n_p1 f_p1)) s.heap) : ∀ (n : Nat) (x3 : Int32) (x4 : Int32) (ls : Array Slot), lX7_together_5 z_t n_p1 f_p1 x2 n x3 x4 = some y → lv_has ls 5 [(0, .ref q_t), (1, .ref q_p1), (2, .int x2), (3, .int x3), (4, .int x4)] → W p l e (rmM 1 0 0 21) s m #[.ref q_t, .ref q_p1, .int x20] below meth c s.heap [] 0 0 (MQ below (vp_Si (fun r => r = y)) #[.ref q_t, .ref q_p1, .int x20] s 0 0 (fun _ => False)) (F0 m 5 ls []) := by
  obtain ⟨hx, hb, hml, hown, hts, hr, hlocks, hnm⟩ := id C
  have hb : c.code = cX7_together := hb
  have hown : s.vm.findClass RX7 = some m.cls := hown
  intro n
  induction n with
  | zero => intro x3 x4 ls h; rw [lX7_together_5] at h; cases h
  | succ n ih =>
    intro x3 x4 ls h hl
    rw [lX7_together_5] at h
    refine lv_iload hx hb dX7_together_5 (lv_at hl 4 rfl) ?_
    refine lv_aload_n hx hb dX7_together_7 rfl (lv_at hl 0 rfl) ?_
    refine va_get (D := D) (v := .int (gI z_t 3)) (C := RX7) (T := TX7) (N := 18) hx hb hts iX7 hown hK.1 hP 0 rfl rfl 3 (by decide) (hts _ t_44) (fun _ h9 => h9) rfl dX7_together_8 ?_
    refine lv_icmp_ge (tgt := 38) hx hb dX7_together_11 (by decide) (fun c1 => ?_) (fun c1 => ?_)
    · have h := ite_t c1 h
      refine lv_iload_n hx hb dX7_together_38 rfl (lv_at hl 3 rfl) ?_
      exact rRi C rfl (Option.some.inj h) dX7_together_39
    · have h := ite_f c1 h
      refine lv_iload_n hx hb dX7_together_14 rfl (lv_at hl 2 rfl) ?_
      refine lv_iload hx hb dX7_together_15 (lv_at hl 4 rfl) ?_
      obtain ⟨r3, hc2, h⟩ := bd_some h
      refine cRi (runN (As := [.int x2, .int x4]) (rest := []) C hK (mX8_has l D a hc2) lk_N_7_125 okN_X8_has ⟨Nat.le_of_ble_eq_true rfl, Nat.le_of_ble_eq_true rfl⟩ ⟨rfl, rfl⟩ (preR hK (P_of_map (wc := []) hP [] rfl)) hl.1 rfl (Nat.le_of_ble_eq_true rfl) dX7_together_17 ⟨Nat.le_of_ble_eq_true rfl, Nat.le_of_ble_eq_true rfl⟩) ?_
      obtain ⟨J4, eJ4, h⟩ := jn_some h
      have hJ4 : ∀ (i5 : Int32) (ls : Array Slot), J4 i5 = some y → lv_has ls 5 [(0, .ref q_t), (1, .ref q_p1), (2, .int x2), (3, .int i5), (4, .int x4)] → W p l e (rmM 1 0 0 21) s m #[.ref q_t, .ref q_p1, .int x20] below meth c s.heap [] 0 0 (MQ below (vp_Si (fun r => r = y)) #[.ref q_t, .ref q_p1, .int x20] s 0 0 (fun _ => False)) (F0 m 32 ls []) := by
        intro i5 ls h hl
        rw [eJ4] at h
        refine lv_iinc (v := x4 + 1) (lv' := [(4, .int (x4 + 1)), (0, .ref q_t), (1, .ref q_p1), (2, .int x2), (3, .int i5)]) hx hb dX7_together_32 hl (k := 4) rfl rfl (by decide) rfl (fun ls hl => ?_)
        refine lv_goto (tgt := 5) hx hb dX7_together_35 (by decide) ?_
        exact ih i5 (x4 + 1) ls h (lv_sub hl [1, 2, 3, 4, 0] rfl)
      refine lv_if_eq (tgt := 32) hx hb dX7_together_20 (by decide) (fun c6 => ?_) (fun c6 => ?_)
      · have h := ite_t c6 h
        exact hJ4 x3 ls h (lv_sub hl [0, 1, 2, 3, 4] rfl)
      · have h := ite_f c6 h
        refine lv_iload_n hx hb dX7_together_23 rfl (lv_at hl 3 rfl) ?_
        refine lv_aload_n hx hb dX7_together_24 rfl (lv_at hl 1 rfl) ?_
        refine lv_iload hx hb dX7_together_25 (lv_at hl 4 rfl) ?_
        obtain ⟨r8, hc7, h⟩ := bd_some h
        refine cRi (runN (As := [.ref q_p1, .int x4]) (rest := [.int x3]) C hK (mX8_at l D a (q_p0 := q_p1) hc7) lk_N_7_78 okN_X8_at ⟨Nat.le_of_ble_eq_true rfl, Nat.le_of_ble_eq_true rfl⟩ ⟨rfl, rfl⟩ (preR hK (P_of_map (wc := ra0 a q_p1 n_p1 f_p1) hP [13] rfl)) hl.1 rfl (Nat.le_of_ble_eq_true rfl) dX7_together_27 ⟨Nat.le_of_ble_eq_true rfl, Nat.le_of_ble_eq_true rfl⟩) ?_
        refine lv_iadd hx hb dX7_together_30 ?_
        refine lv_istore_n (lv' := [(3, .int (x3 + r8)), (0, .ref q_t), (1, .ref q_p1), (2, .int x2), (4, .int x4)]) hx hb dX7_together_31 rfl hl (by decide) rfl (fun ls hl => ?_)
        exact hJ4 (x3 + r8) ls h (lv_sub hl [1, 2, 3, 0, 4] rfl)

set_option maxHeartbeats 4000000 in
set_option maxRecDepth 100000 in
theorem mX7_together (l : Launch) (D : va_G) (a : Nat → ClassId) {q_t : Nat} {q_p1 : Nat} {Q_t : Nat → Nat} {z_t : Sx} {n_p1 : Nat} {f_p1 : Nat → Int32} {x2 : Int32} {y : Int32} (h : fX7_together z_t n_p1 f_p1 x2 = some y) : CRi l MX7_together 1 21 D a [.ref q_t, .ref q_p1, .int x2] (rc7 a q_t Q_t z_t ++ (ra0 a q_p1 n_p1 f_p1)) (fun r => r = y) := by
  unfold fX7_together at h
  refine entR (by decide) (Nat.le_of_ble_eq_true rfl) ?_
  intro p e s m below meth c C hK hP ls hl
  obtain ⟨hx, hb, hml, hown, hts, hr, hlocks, hnm⟩ := id C
  have hb : c.code = cX7_together := hb
  have hown : s.vm.findClass RX7 = some m.cls := hown
  have hl : lv_has ls 5 [(0, .ref q_t), (1, .ref q_p1), (2, .int x2)] := hl
  refine lv_iconst (v := 0) hx hb dX7_together_0 (by decide) ?_
  refine lv_istore_n (lv' := [(3, .int 0), (0, .ref q_t), (1, .ref q_p1), (2, .int x2)]) hx hb dX7_together_1 rfl hl (by decide) rfl (fun ls hl => ?_)
  refine lv_iconst (v := 0) hx hb dX7_together_2 (by decide) ?_
  refine lv_istore (lv' := [(4, .int 0), (3, .int 0), (0, .ref q_t), (1, .ref q_p1), (2, .int x2)]) hx hb dX7_together_3 hl (by decide) rfl (fun ls hl => ?_)
  refine wX7_together_5 C hK hP FU 0 0 ls h (lv_sub hl [2, 3, 4, 1, 0] rfl)

set_option maxHeartbeats 4000000 in
set_option maxRecDepth 100000 in
theorem mX7_hiddenCoins (l : Launch) (D : va_G) (a : Nat → ClassId) {q_t : Nat} {Q_t : Nat → Nat} {z_t : Sx} {x1 : Int32} {y : Int32} (h : fX7_hiddenCoins z_t x1 = some y) : CRi l MX7_hiddenCoins 2 45 D a [.ref q_t, .int x1] (rc7 a q_t Q_t z_t) (fun r => r = y) := by
  unfold fX7_hiddenCoins at h
  refine entR (by decide) (Nat.le_of_ble_eq_true rfl) ?_
  intro p e s m below meth c C hK hP ls hl
  obtain ⟨hx, hb, hml, hown, hts, hr, hlocks, hnm⟩ := id C
  have hb : c.code = cX7_hiddenCoins := hb
  have hown : s.vm.findClass RX7 = some m.cls := hown
  have hl : lv_has ls 2 [(0, .ref q_t), (1, .int x1)] := hl
  refine lv_aload_n hx hb dX7_hiddenCoins_0 rfl (lv_at hl 0 rfl) ?_
  refine lv_aload_n hx hb dX7_hiddenCoins_1 rfl (lv_at hl 0 rfl) ?_
  refine va_get (D := D) (v := .ref (Q_t 13)) (C := RX7) (T := TX7) (N := 18) hx hb hts iX7 hown hK.1 hP 0 rfl rfl 13 (by decide) (hts _ t_75) (fun _ h9 => h9) rfl dX7_hiddenCoins_2 ?_
  refine lv_iload_n hx hb dX7_hiddenCoins_5 rfl (lv_at hl 1 rfl) ?_
  refine lv_iconst (v := (-1)) hx hb dX7_hiddenCoins_6 (by decide) ?_
  refine lv_ixor hx hb dX7_hiddenCoins_7 ?_
  obtain ⟨r2, hc1, h⟩ := bd_some h
  refine cRi (runV (As := [.ref (Q_t 13), .int (x1 ^^^ (-1))]) (rest := []) C (mX7_together l D a (q_t := q_t) (q_p1 := (Q_t 13)) (Q_t := Q_t) hc1) lk_V_7_122 okN_X7_together ⟨Nat.le_of_ble_eq_true rfl, Nat.le_of_ble_eq_true rfl⟩ ⟨rfl, rfl⟩ (preV (preR hK (P_of_map (wc := rc7 a q_t Q_t z_t ++ (ra0 a (Q_t 13) 10 (gT z_t 13))) hP [0, 1, 2, 3, 4, 5, 6, 7, 8, 9, 10, 11, 12, 9] rfl)) (recvOf hK hP 0 rfl (ci := 7) rfl)) hl.1 rfl (Nat.le_of_ble_eq_true rfl) dX7_hiddenCoins_8 ⟨Nat.le_of_ble_eq_true rfl, Nat.le_of_ble_eq_true rfl⟩) ?_
  exact rRi C rfl (Option.some.inj h) dX7_hiddenCoins_11

set_option maxHeartbeats 4000000 in
set_option maxRecDepth 100000 in
theorem gmX1_hiddenMean (l : Launch) (D : va_G) (a : Nat → ClassId) {F LO : Nat} {rec : Sx → Sx → Int32 → Int32 → Int32 → Option (Int64 × Sx)} (hrec : ∀ {q_t : Nat} {q_p1 : Nat} {Q_t : Nat → Nat} {z_t : Sx} {Q_p1 : Nat → Nat} {z_p1 : Sx} {x2 : Int32} {x3 : Int32} {x4 : Int32} {y9 : Int64 × Sx}, rec z_t z_p1 x2 x3 x4 = some y9 → ∀ (sz : Nat), CMl (S := Unit) l MX1_hiddenMean F LO 0 0 D a [.ref q_t, .ref q_p1, .int x2, .int x3, .int x4] (rc1 a q_t Q_t z_t ++ (rc7 a q_p1 Q_p1 z_p1)) sz (fun r _ => r = y9.1) (fun _ => rc1 a q_t Q_t y9.2 ++ (rc7 a q_p1 Q_p1 z_p1))) (hF : 37 ≤ F) (hL : 1128 ≤ LO) {q_t : Nat} {q_p1 : Nat} {Q_t : Nat → Nat} {z_t : Sx} {Q_p1 : Nat → Nat} {z_p1 : Sx} {x2 : Int32} {x3 : Int32} {x4 : Int32} {y : Int64 × Sx} (h : gX1_hiddenMean rec z_t z_p1 x2 x3 x4 = some y) (sz : Nat) : CMl (S := Unit) l MX1_hiddenMean (F + 1) (LO + 27) 0 0 D a [.ref q_t, .ref q_p1, .int x2, .int x3, .int x4] (rc1 a q_t Q_t z_t ++ (rc7 a q_p1 Q_p1 z_p1)) sz (fun r _ => r = y.1) (fun _ => rc1 a q_t Q_t y.2 ++ (rc7 a q_p1 Q_p1 z_p1)) := by
  unfold gX1_hiddenMean at h
  refine entMl (by decide) (Nat.le_of_ble_eq_true rfl) ?_
  intro p e s m below meth c C hK A hA hP hD ls hl
  obtain ⟨hx, hb, hml, hown, hts, hr, hlocks, hnm⟩ := id C
  have hb : c.code = cX1_hiddenMean := hb
  have hown : s.vm.findClass RX1 = some m.cls := hown
  have hS : va_S A s.heap s.heap [] := va_S.rf
  have hl : lv_has ls 8 [(0, .ref q_t), (1, .ref q_p1), (2, .int x2), (3, .int x3), (4, .int x4)] := hl
  refine lv_aload_n hx hb dX1_hiddenMean_0 rfl (lv_at hl 0 rfl) ?_
  refine lv_aload_n hx hb dX1_hiddenMean_1 rfl (lv_at hl 1 rfl) ?_
  refine lv_iload_n hx hb dX1_hiddenMean_2 rfl (lv_at hl 2 rfl) ?_
  refine lv_iload_n hx hb dX1_hiddenMean_3 rfl (lv_at hl 3 rfl) ?_
  refine lv_iload hx hb dX1_hiddenMean_4 (lv_at hl 4 rfl) ?_
  obtain ⟨r2, z3, hc1, h⟩ := bd2_some h
  refine cWi (runV (As := [.ref q_p1, .int x2, .int x3, .int x4]) (rest := []) C (mX1_choice l D a (q_t := q_t) (q_p1 := q_p1) (Q_t := Q_t) (Q_p1 := Q_p1) hc1 s.heap.size) lk_V_1_83 okN_X1_choice (by constructor; (show 36 + 1 ≤ F + 1; omega); (show 8 + (8 + 11) + (1101) ≤ LO + 27; omega)) ⟨rfl, rfl⟩ (preV (preM hK hP hD) (recvOf hK hP 0 rfl (ci := 1) rfl)) hl.1 rfl (Nat.le_of_ble_eq_true rfl) dX1_hiddenMean_6 ⟨Nat.le_of_ble_eq_true rfl, Nat.le_of_ble_eq_true rfl⟩) hP hD hS hA (fun H locs hP hD hS => ?_)
  have hP : va_P D classes (rc1 a q_t Q_t z3 ++ (rc7 a q_p1 Q_p1 z_p1)) H := hP
  have hD : va_D A (rc1 a q_t Q_t z3 ++ (rc7 a q_p1 Q_p1 z_p1)) := hD
  refine lv_istore (lv' := [(5, .int r2), (0, .ref q_t), (1, .ref q_p1), (2, .int x2), (3, .int x3), (4, .int x4)]) hx hb dX1_hiddenMean_9 hl (by decide) rfl (fun ls hl => ?_)
  refine lv_iload hx hb dX1_hiddenMean_11 (lv_at hl 0 rfl) ?_
  refine lv_if_ge (tgt := 28) hx hb dX1_hiddenMean_13 (by decide) (fun c4 => ?_) (fun c4 => ?_)
  · have h := ite_t c4 h
    refine lv_iload hx hb dX1_hiddenMean_28 (lv_at hl 5 rfl) ?_
    refine lv_aload_n hx hb dX1_hiddenMean_30 rfl (lv_at hl 2 rfl) ?_
    refine va_get (D := D) (v := .ref (Q_p1 9)) (C := RX7) (T := TX7) (N := 18) hx hb hts iX7 hown hK.1 hP 3 rfl rfl 9 (by decide) (hts _ t_59) (fun _ h9 => h9) rfl dX1_hiddenMean_31 ?_
    refine lv_iload hx hb dX1_hiddenMean_34 (lv_at hl 0 rfl) ?_
    obtain ⟨r6, hc5, h⟩ := bd_some h
    refine cRi (runN (As := [.ref (Q_p1 9), .int r2]) (rest := [.int x4]) C hK (mX8_at l D a (q_p0 := (Q_p1 9)) hc5) lk_N_1_55 okN_X8_at (by constructor; (show 0 + 1 ≤ F + 1; omega); (show 8 + (2 + 11) + (0) ≤ LO + 27; omega)) ⟨rfl, rfl⟩ (preR hK (P_of_map (wc := ra0 a (Q_p1 9) 10 (gT z_p1 9)) hP [8] rfl)) hl.1 rfl (Nat.le_of_ble_eq_true rfl) dX1_hiddenMean_36 ⟨Nat.le_of_ble_eq_true rfl, Nat.le_of_ble_eq_true rfl⟩) ?_
    refine lv_isub hx hb dX1_hiddenMean_39 ?_
    refine lv_istore (lv' := [(6, .int (x4 - r6)), (5, .int r2), (0, .ref q_t), (1, .ref q_p1), (2, .int x2), (3, .int x3), (4, .int x4)]) hx hb dX1_hiddenMean_40 hl (by decide) rfl (fun ls hl => ?_)
    refine lv_aload_n hx hb dX1_hiddenMean_42 rfl (lv_at hl 3 rfl) ?_
    refine va_get (D := D) (v := .ref (Q_p1 10)) (C := RX7) (T := TX7) (N := 18) hx hb hts iX7 hown hK.1 hP 3 rfl rfl 10 (by decide) (hts _ t_64) (fun _ h9 => h9) rfl dX1_hiddenMean_43 ?_
    refine lv_iload hx hb dX1_hiddenMean_46 (lv_at hl 1 rfl) ?_
    obtain ⟨r8, hc7, h⟩ := bd_some h
    refine cRi (runN (As := [.ref (Q_p1 10), .int r2]) (rest := []) C hK (mX8_at l D a (q_p0 := (Q_p1 10)) hc7) lk_N_1_55 okN_X8_at (by constructor; (show 0 + 1 ≤ F + 1; omega); (show 8 + (2 + 11) + (0) ≤ LO + 27; omega)) ⟨rfl, rfl⟩ (preR hK (P_of_map (wc := ra0 a (Q_p1 10) 10 (gT z_p1 10)) hP [9] rfl)) hl.1 rfl (Nat.le_of_ble_eq_true rfl) dX1_hiddenMean_48 ⟨Nat.le_of_ble_eq_true rfl, Nat.le_of_ble_eq_true rfl⟩) ?_
    refine lv_istore (lv' := [(7, .int r8), (6, .int (x4 - r6)), (5, .int r2), (0, .ref q_t), (1, .ref q_p1), (2, .int x2), (3, .int x3), (4, .int x4)]) hx hb dX1_hiddenMean_51 hl (by decide) rfl (fun ls hl => ?_)
    refine lv_iload hx hb dX1_hiddenMean_53 (lv_at hl 0 rfl) ?_
    refine lv_i2l (v := r8.toInt64) hx hb dX1_hiddenMean_55 rfl ?_
    refine lv_aload_n hx hb dX1_hiddenMean_56 rfl (lv_at hl 3 rfl) ?_
    refine lv_aload_n hx hb dX1_hiddenMean_57 rfl (lv_at hl 4 rfl) ?_
    refine lv_iload_n hx hb dX1_hiddenMean_58 rfl (lv_at hl 5 rfl) ?_
    refine lv_iconst (v := 1) hx hb dX1_hiddenMean_59 (by decide) ?_
    refine lv_isub hx hb dX1_hiddenMean_60 ?_
    refine lv_iload_n hx hb dX1_hiddenMean_61 rfl (lv_at hl 6 rfl) ?_
    refine lv_iload hx hb dX1_hiddenMean_62 (lv_at hl 2 rfl) ?_
    obtain ⟨r10, hc9, h⟩ := bd_some h
    refine cRi (runN (As := [.int r2]) (rest := [.int x3, .int (x2 - 1), .ref q_p1, .ref q_t, .long r8.toInt64]) C hK (mX8_bit l D a hc9) lk_N_1_75 okN_X8_bit (by constructor; (show 0 + 1 ≤ F + 1; omega); (show 8 + (1 + 11) + (0) ≤ LO + 27; omega)) ⟨rfl, rfl⟩ (preR hK (P_of_map (wc := []) hP [] rfl)) hl.1 rfl (Nat.le_of_ble_eq_true rfl) dX1_hiddenMean_64 ⟨Nat.le_of_ble_eq_true rfl, Nat.le_of_ble_eq_true rfl⟩) ?_
    refine lv_ior hx hb dX1_hiddenMean_67 ?_
    refine lv_iload hx hb dX1_hiddenMean_68 (lv_at hl 1 rfl) ?_
    obtain ⟨r12, z13, hc11, h⟩ := bd2_some h
    refine cWl (runV (As := [.ref q_p1, .int (x2 - 1), .int (x3 ||| r10), .int (x4 - r6)]) (rest := [.long r8.toInt64]) C (hrec (q_t := q_t) (q_p1 := q_p1) (Q_t := Q_t) (Q_p1 := Q_p1) hc11 H.size) lk_V_1_90 okN_X1_hiddenMean (by constructor; (show F + 0 + 1 ≤ F + 1; omega); (show 8 + (8 + 11) + (LO + 0) ≤ LO + 27; omega)) ⟨rfl, rfl⟩ (preV (preM hK hP hD) (recvOf hK hP 0 rfl (ci := 1) rfl)) hl.1 rfl (Nat.le_of_ble_eq_true rfl) dX1_hiddenMean_70 ⟨Nat.le_of_ble_eq_true rfl, Nat.le_of_ble_eq_true rfl⟩) hP hD hS hA (fun H locs hP hD hS => ?_)
    have hP : va_P D classes (rc1 a q_t Q_t z13 ++ (rc7 a q_p1 Q_p1 z_p1)) H := hP
    have hD : va_D A (rc1 a q_t Q_t z13 ++ (rc7 a q_p1 Q_p1 z_p1)) := hD
    refine lv_lmul hx hb dX1_hiddenMean_73 ?_
    refine lv_bipush (v := 100) hx hb dX1_hiddenMean_74 (by decide) ?_
    refine lv_iload hx hb dX1_hiddenMean_76 (lv_at hl 0 rfl) ?_
    refine lv_isub hx hb dX1_hiddenMean_78 ?_
    refine lv_i2l (v := (100 - r8).toInt64) hx hb dX1_hiddenMean_79 rfl ?_
    refine lv_aload_n hx hb dX1_hiddenMean_80 rfl (lv_at hl 3 rfl) ?_
    refine lv_aload_n hx hb dX1_hiddenMean_81 rfl (lv_at hl 4 rfl) ?_
    refine lv_iload_n hx hb dX1_hiddenMean_82 rfl (lv_at hl 5 rfl) ?_
    refine lv_iconst (v := 1) hx hb dX1_hiddenMean_83 (by decide) ?_
    refine lv_isub hx hb dX1_hiddenMean_84 ?_
    refine lv_iload_n hx hb dX1_hiddenMean_85 rfl (lv_at hl 6 rfl) ?_
    refine lv_iload hx hb dX1_hiddenMean_86 (lv_at hl 1 rfl) ?_
    obtain ⟨r15, z16, hc14, h⟩ := bd2_some h
    refine cWl (runV (As := [.ref q_p1, .int (x2 - 1), .int x3, .int (x4 - r6)]) (rest := [.long ((100 - r8).toInt64), .long (r8.toInt64 * r12)]) C (hrec (q_t := q_t) (q_p1 := q_p1) (Q_t := Q_t) (Q_p1 := Q_p1) hc14 H.size) lk_V_1_90 okN_X1_hiddenMean (by constructor; (show F + 0 + 1 ≤ F + 1; omega); (show 8 + (8 + 11) + (LO + 0) ≤ LO + 27; omega)) ⟨rfl, rfl⟩ (preV (preM hK hP hD) (recvOf hK hP 0 rfl (ci := 1) rfl)) hl.1 rfl (Nat.le_of_ble_eq_true rfl) dX1_hiddenMean_88 ⟨Nat.le_of_ble_eq_true rfl, Nat.le_of_ble_eq_true rfl⟩) hP hD hS hA (fun H locs hP hD hS => ?_)
    have hP : va_P D classes (rc1 a q_t Q_t z16 ++ (rc7 a q_p1 Q_p1 z_p1)) H := hP
    have hD : va_D A (rc1 a q_t Q_t z16 ++ (rc7 a q_p1 Q_p1 z_p1)) := hD
    refine lv_lmul hx hb dX1_hiddenMean_91 ?_
    refine lv_ladd hx hb dX1_hiddenMean_92 ?_
    exact rMl C rfl h (g := fun y => rc1 a q_t Q_t y.2 ++ (rc7 a q_p1 Q_p1 z_p1)) (pr := fun y => y.1) hP hD hS dX1_hiddenMean_93
  · have h := ite_f c4 h
    refine lv_aload_n hx hb dX1_hiddenMean_16 rfl (lv_at hl 2 rfl) ?_
    refine lv_iload_n hx hb dX1_hiddenMean_17 rfl (lv_at hl 4 rfl) ?_
    obtain ⟨r18, hc17, h⟩ := bd_some h
    refine cRi (runV (As := [.int x3]) (rest := []) C (mX7_hiddenCoins l D a (q_t := q_p1) (Q_t := Q_p1) hc17) lk_V_1_87 okN_X7_hiddenCoins (by constructor; (show 2 + 1 ≤ F + 1; omega); (show 8 + (2 + 11) + (45) ≤ LO + 27; omega)) ⟨rfl, rfl⟩ (preV (preR hK (P_of_map (wc := rc7 a q_p1 Q_p1 z_p1) hP [3, 4, 5, 6, 7, 8, 9, 10, 11, 12, 13, 14, 15] rfl)) (recvOf hK hP 3 rfl (ci := 7) rfl)) hl.1 rfl (Nat.le_of_ble_eq_true rfl) dX1_hiddenMean_18 ⟨Nat.le_of_ble_eq_true rfl, Nat.le_of_ble_eq_true rfl⟩) ?_
    refine lv_i2l (v := r18.toInt64) hx hb dX1_hiddenMean_21 rfl ?_
    refine lv_iload_n hx hb dX1_hiddenMean_22 rfl (lv_at hl 3 rfl) ?_
    obtain ⟨r20, hc19, h⟩ := bd_some h
    refine cRl (runN (As := [.int x2]) (rest := [.long r18.toInt64]) C hK (mX8_hundreds l D a hc19) lk_N_1_71 okN_X8_hundreds (by constructor; (show 0 + 1 ≤ F + 1; omega); (show 8 + (4 + 11) + (0) ≤ LO + 27; omega)) ⟨rfl, rfl⟩ (preR hK (P_of_map (wc := []) hP [] rfl)) hl.1 rfl (Nat.le_of_ble_eq_true rfl) dX1_hiddenMean_23 ⟨Nat.le_of_ble_eq_true rfl, Nat.le_of_ble_eq_true rfl⟩) ?_
    refine lv_lmul hx hb dX1_hiddenMean_26 ?_
    exact rMl C rfl h (g := fun y => rc1 a q_t Q_t y.2 ++ (rc7 a q_p1 Q_p1 z_p1)) (pr := fun y => y.1) hP hD hS dX1_hiddenMean_27

set_option maxHeartbeats 4000000 in
theorem mX1_hiddenMean (l : Launch) (D : va_G) (a : Nat → ClassId) : ∀ (dp : Nat) {q_t : Nat} {q_p1 : Nat} {Q_t : Nat → Nat} {z_t : Sx} {Q_p1 : Nat → Nat} {z_p1 : Sx} {x2 : Int32} {x3 : Int32} {x4 : Int32} {y : Int64 × Sx}, fX1_hiddenMean dp z_t z_p1 x2 x3 x4 = some y → ∀ (sz : Nat), CMl (S := Unit) l MX1_hiddenMean (37 + 1 * dp) (1128 + 27 * dp) 0 0 D a [.ref q_t, .ref q_p1, .int x2, .int x3, .int x4] (rc1 a q_t Q_t z_t ++ (rc7 a q_p1 Q_p1 z_p1)) sz (fun r _ => r = y.1) (fun _ => rc1 a q_t Q_t y.2 ++ (rc7 a q_p1 Q_p1 z_p1)) := by
  intro dp
  induction dp with
  | zero => intros; rename_i h _; cases h
  | succ dp ih =>
    intros
    rename_i h sz
    have e1 : 37 + 1 * (dp + 1) = 37 + 1 * dp + 1 := by omega
    have e2 : 1128 + 27 * (dp + 1) = 1128 + 27 * dp + 27 := by omega
    rw [e1, e2]
    exact gmX1_hiddenMean l D a ih (by omega) (by omega) h sz

set_option maxHeartbeats 4000000 in
set_option maxRecDepth 100000 in
theorem wX1_leastFree_5 {p : Program} {l : Launch} {e : Env} {s : State} {m : MethodId} {below : List Frame} {meth : Method} {c : Code} {D : va_G} {a : Nat → ClassId} {q_t : Nat} {q_p1 : Nat} {Q_p1 : Nat → Nat} {z_p1 : Sx} {x20 : Int32} {x2 : Int32} (C : Cx p s m #[.ref q_t, .ref q_p1, .int x20] meth c MX1_leastFree) (hK : KK D a s) {y : Int32} (hP : va_P D classes (rc7 a q_p1 Q_p1 z_p1) s.heap) : ∀ (n : Nat) (x3 : Int32) (x4 : Int32) (ls : Array Slot), lX1_leastFree_5 z_p1 x2 n x3 x4 = some y → lv_has ls 5 [(1, .ref q_p1), (2, .int x2), (3, .int x3), (4, .int x4)] → W p l e (rmM 1 0 0 21) s m #[.ref q_t, .ref q_p1, .int x20] below meth c s.heap [] 0 0 (MQ below (vp_Si (fun r => r = y)) #[.ref q_t, .ref q_p1, .int x20] s 0 0 (fun _ => False)) (F0 m 5 ls []) := by
  obtain ⟨hx, hb, hml, hown, hts, hr, hlocks, hnm⟩ := id C
  have hb : c.code = cX1_leastFree := hb
  have hown : s.vm.findClass RX1 = some m.cls := hown
  intro n
  induction n with
  | zero => intro x3 x4 ls h; rw [lX1_leastFree_5] at h; cases h
  | succ n ih =>
    intro x3 x4 ls h hl
    rw [lX1_leastFree_5] at h
    refine lv_iload hx hb dX1_leastFree_5 (lv_at hl 3 rfl) ?_
    refine lv_aload_n hx hb dX1_leastFree_7 rfl (lv_at hl 0 rfl) ?_
    refine va_get (D := D) (v := .int (gI z_p1 3)) (C := RX7) (T := TX7) (N := 18) hx hb hts iX7 hown hK.1 hP 0 rfl rfl 3 (by decide) (hts _ t_45) (fun _ h9 => h9) rfl dX1_leastFree_8 ?_
    refine lv_icmp_ge (tgt := 46) hx hb dX1_leastFree_11 (by decide) (fun c1 => ?_) (fun c1 => ?_)
    · have h := ite_t c1 h
      refine lv_iload_n hx hb dX1_leastFree_46 rfl (lv_at hl 2 rfl) ?_
      exact rRi C rfl (Option.some.inj h) dX1_leastFree_47
    · have h := ite_f c1 h
      refine lv_iload_n hx hb dX1_leastFree_14 rfl (lv_at hl 2 rfl) ?_
      obtain ⟨r3, hc2, h⟩ := bd_some h
      refine cRi (runS (As := [.int x3]) (rest := []) C (mJ6_bitCount_0f7a4 l D a hc2) lk_S_1_107 okN_J6_bitCount_0f7a4 ⟨Nat.le_of_ble_eq_true rfl, Nat.le_of_ble_eq_true rfl⟩ ⟨rfl, rfl⟩ (preR hK (P_of_map (wc := []) hP [] rfl)) hl.1 rfl (Nat.le_of_ble_eq_true rfl) dX1_leastFree_15 ⟨Nat.le_of_ble_eq_true rfl, Nat.le_of_ble_eq_true rfl⟩) ?_
      refine lv_bipush (v := 6) hx hb dX1_leastFree_18 (by decide) ?_
      refine lv_icmp_ge (tgt := 46) hx hb dX1_leastFree_20 (by decide) (fun c4 => ?_) (fun c4 => ?_)
      · have h := ite_t c4 h
        refine lv_iload_n hx hb dX1_leastFree_46 rfl (lv_at hl 2 rfl) ?_
        exact rRi C rfl (Option.some.inj h) dX1_leastFree_47
      · have h := ite_f c4 h
        refine lv_iload_n hx hb dX1_leastFree_23 rfl (lv_at hl 1 rfl) ?_
        refine lv_iload hx hb dX1_leastFree_24 (lv_at hl 3 rfl) ?_
        obtain ⟨r6, hc5, h⟩ := bd_some h
        refine cRi (runN (As := [.int x2, .int x4]) (rest := []) C hK (mX8_has l D a hc5) lk_N_1_112 okN_X8_has ⟨Nat.le_of_ble_eq_true rfl, Nat.le_of_ble_eq_true rfl⟩ ⟨rfl, rfl⟩ (preR hK (P_of_map (wc := []) hP [] rfl)) hl.1 rfl (Nat.le_of_ble_eq_true rfl) dX1_leastFree_26 ⟨Nat.le_of_ble_eq_true rfl, Nat.le_of_ble_eq_true rfl⟩) ?_
        obtain ⟨J7, eJ7, h⟩ := jn_some h
        have hJ7 : ∀ (i8 : Int32) (ls : Array Slot), J7 i8 = some y → lv_has ls 5 [(1, .ref q_p1), (2, .int x2), (3, .int i8), (4, .int x4)] → W p l e (rmM 1 0 0 21) s m #[.ref q_t, .ref q_p1, .int x20] below meth c s.heap [] 0 0 (MQ below (vp_Si (fun r => r = y)) #[.ref q_t, .ref q_p1, .int x20] s 0 0 (fun _ => False)) (F0 m 40 ls []) := by
          intro i8 ls h hl
          rw [eJ7] at h
          refine lv_iinc (v := x4 + 1) (lv' := [(4, .int (x4 + 1)), (1, .ref q_p1), (2, .int x2), (3, .int i8)]) hx hb dX1_leastFree_40 hl (k := 3) rfl rfl (by decide) rfl (fun ls hl => ?_)
          refine lv_goto (tgt := 5) hx hb dX1_leastFree_43 (by decide) ?_
          exact ih i8 (x4 + 1) ls h (lv_sub hl [1, 2, 3, 0] rfl)
        refine lv_if_ne (tgt := 40) hx hb dX1_leastFree_29 (by decide) (fun c9 => ?_) (fun c9 => ?_)
        · have h := ite_f c9 h
          exact hJ7 x3 ls h (lv_sub hl [0, 1, 2, 3] rfl)
        · have h := ite_t c9 h
          refine lv_iload_n hx hb dX1_leastFree_32 rfl (lv_at hl 2 rfl) ?_
          refine lv_iload hx hb dX1_leastFree_33 (lv_at hl 3 rfl) ?_
          obtain ⟨r11, hc10, h⟩ := bd_some h
          refine cRi (runN (As := [.int x4]) (rest := [.int x3]) C hK (mX8_bit l D a hc10) lk_N_1_75 okN_X8_bit ⟨Nat.le_of_ble_eq_true rfl, Nat.le_of_ble_eq_true rfl⟩ ⟨rfl, rfl⟩ (preR hK (P_of_map (wc := []) hP [] rfl)) hl.1 rfl (Nat.le_of_ble_eq_true rfl) dX1_leastFree_35 ⟨Nat.le_of_ble_eq_true rfl, Nat.le_of_ble_eq_true rfl⟩) ?_
          refine lv_ior hx hb dX1_leastFree_38 ?_
          refine lv_istore_n (lv' := [(3, .int (x3 ||| r11)), (1, .ref q_p1), (2, .int x2), (4, .int x4)]) hx hb dX1_leastFree_39 rfl hl (by decide) rfl (fun ls hl => ?_)
          exact hJ7 (x3 ||| r11) ls h (lv_sub hl [1, 2, 0, 3] rfl)

set_option maxHeartbeats 4000000 in
set_option maxRecDepth 100000 in
theorem mX1_leastFree (l : Launch) (D : va_G) (a : Nat → ClassId) {q_t : Nat} {q_p1 : Nat} {Q_p1 : Nat → Nat} {z_p1 : Sx} {x2 : Int32} {y : Int32} (h : fX1_leastFree z_p1 x2 = some y) : CRi l MX1_leastFree 1 21 D a [.ref q_t, .ref q_p1, .int x2] (rc7 a q_p1 Q_p1 z_p1) (fun r => r = y) := by
  unfold fX1_leastFree at h
  refine entR (by decide) (Nat.le_of_ble_eq_true rfl) ?_
  intro p e s m below meth c C hK hP ls hl
  obtain ⟨hx, hb, hml, hown, hts, hr, hlocks, hnm⟩ := id C
  have hb : c.code = cX1_leastFree := hb
  have hown : s.vm.findClass RX1 = some m.cls := hown
  have hl : lv_has ls 5 [(0, .ref q_t), (1, .ref q_p1), (2, .int x2)] := hl
  refine lv_iconst (v := 0) hx hb dX1_leastFree_0 (by decide) ?_
  refine lv_istore_n (lv' := [(3, .int 0), (0, .ref q_t), (1, .ref q_p1), (2, .int x2)]) hx hb dX1_leastFree_1 rfl hl (by decide) rfl (fun ls hl => ?_)
  refine lv_iconst (v := 0) hx hb dX1_leastFree_2 (by decide) ?_
  refine lv_istore (lv' := [(4, .int 0), (3, .int 0), (0, .ref q_t), (1, .ref q_p1), (2, .int x2)]) hx hb dX1_leastFree_3 hl (by decide) rfl (fun ls hl => ?_)
  refine wX1_leastFree_5 C hK hP FU 0 0 ls h (lv_sub hl [3, 4, 1, 0] rfl)

set_option maxHeartbeats 4000000 in
set_option maxRecDepth 100000 in
theorem mX7_mendingOf (l : Launch) (D : va_G) (a : Nat → ClassId) {q_t : Nat} {Q_t : Nat → Nat} {z_t : Sx} {x1 : Int32} {y : Int32} (h : fX7_mendingOf z_t x1 = some y) : CRi l MX7_mendingOf 2 45 D a [.ref q_t, .int x1] (rc7 a q_t Q_t z_t) (fun r => r = y) := by
  unfold fX7_mendingOf at h
  refine entR (by decide) (Nat.le_of_ble_eq_true rfl) ?_
  intro p e s m below meth c C hK hP ls hl
  obtain ⟨hx, hb, hml, hown, hts, hr, hlocks, hnm⟩ := id C
  have hb : c.code = cX7_mendingOf := hb
  have hown : s.vm.findClass RX7 = some m.cls := hown
  have hl : lv_has ls 2 [(0, .ref q_t), (1, .int x1)] := hl
  refine lv_aload_n hx hb dX7_mendingOf_0 rfl (lv_at hl 0 rfl) ?_
  refine lv_aload_n hx hb dX7_mendingOf_1 rfl (lv_at hl 0 rfl) ?_
  refine va_get (D := D) (v := .ref (Q_t 14)) (C := RX7) (T := TX7) (N := 18) hx hb hts iX7 hown hK.1 hP 0 rfl rfl 14 (by decide) (hts _ t_76) (fun _ h9 => h9) rfl dX7_mendingOf_2 ?_
  refine lv_iload_n hx hb dX7_mendingOf_5 rfl (lv_at hl 1 rfl) ?_
  obtain ⟨r2, hc1, h⟩ := bd_some h
  refine cRi (runV (As := [.ref (Q_t 14), .int x1]) (rest := []) C (mX7_together l D a (q_t := q_t) (q_p1 := (Q_t 14)) (Q_t := Q_t) hc1) lk_V_7_122 okN_X7_together ⟨Nat.le_of_ble_eq_true rfl, Nat.le_of_ble_eq_true rfl⟩ ⟨rfl, rfl⟩ (preV (preR hK (P_of_map (wc := rc7 a q_t Q_t z_t ++ (ra0 a (Q_t 14) 10 (gT z_t 14))) hP [0, 1, 2, 3, 4, 5, 6, 7, 8, 9, 10, 11, 12, 10] rfl)) (recvOf hK hP 0 rfl (ci := 7) rfl)) hl.1 rfl (Nat.le_of_ble_eq_true rfl) dX7_mendingOf_6 ⟨Nat.le_of_ble_eq_true rfl, Nat.le_of_ble_eq_true rfl⟩) ?_
  exact rRi C rfl (Option.some.inj h) dX7_mendingOf_9

set_option maxHeartbeats 4000000 in
set_option maxRecDepth 100000 in
theorem wX1_weighSets_29 {p : Program} {l : Launch} {e : Env} {s : State} {m : MethodId} {below : List Frame} {meth : Method} {c : Code} {D : va_G} {a : Nat → ClassId} {A : Nat → Prop} {q_t : Nat} {q_p1 : Nat} {Q_t : Nat → Nat} {Q_p1 : Nat → Nat} {z_p1 : Sx} {x20 : Int32} {x30 : Int32} {x40 : Int32} {x2 : Int32} {x3 : Int32} {x4 : Int32} {x5 : Int32} (C : Cx p s m #[.ref q_t, .ref q_p1, .int x20, .int x30, .int x40] meth c MX1_weighSets) (hK : KK D a s) (hA : ∀ q, s.heap.size ≤ q → A q) {y : Sx} : ∀ (n : Nat) (z_t : Sx) (x6 : Int32) (H : Heap) (locs : List Loc) (ls : Array Slot), lX1_weighSets_29 z_p1 x2 x3 x4 x5 n z_t x6 = some y → va_P D classes (rc1 a q_t Q_t z_t ++ (rc7 a q_p1 Q_p1 z_p1)) H → va_D A (rc1 a q_t Q_t z_t ++ (rc7 a q_p1 Q_p1 z_p1)) → va_S A s.heap H locs → lv_has ls 10 [(0, .ref q_t), (1, .ref q_p1), (2, .int x2), (3, .int x3), (4, .int x4), (5, .int x5), (6, .int x6)] → W p l e (rmM 54 0 0 1587) s m #[.ref q_t, .ref q_p1, .int x20, .int x30, .int x40] below meth c H locs 0 0 (MQ below (va_Qv (fun (_ : Unit) => True) (Bw D A (fun _ => rc1 a q_t Q_t y ++ (rc7 a q_p1 Q_p1 z_p1))) A) #[.ref q_t, .ref q_p1, .int x20, .int x30, .int x40] s 0 0 A) (F0 m 29 ls []) := by
  obtain ⟨hx, hb, hml, hown, hts, hr, hlocks, hnm⟩ := id C
  have hb : c.code = cX1_weighSets := hb
  have hown : s.vm.findClass RX1 = some m.cls := hown
  intro n
  induction n with
  | zero => intro z_t x6 H locs ls h; rw [lX1_weighSets_29] at h; cases h
  | succ n ih =>
    intro z_t x6 H locs ls h hP hD hS hl
    rw [lX1_weighSets_29] at h
    refine lv_iload hx hb dX1_weighSets_29 (lv_at hl 6 rfl) ?_
    refine lv_iload hx hb dX1_weighSets_31 (lv_at hl 5 rfl) ?_
    refine lv_icmp_gt (tgt := 138) hx hb dX1_weighSets_33 (by decide) (fun c6 => ?_) (fun c6 => ?_)
    · have h := ite_t c6 h
      exact rMv C rfl h (g := fun y => rc1 a q_t Q_t y ++ (rc7 a q_p1 Q_p1 z_p1)) hP hD hS dX1_weighSets_138
    · have h := ite_f c6 h
      refine lv_iload hx hb dX1_weighSets_36 (lv_at hl 6 rfl) ?_
      refine lv_iload hx hb dX1_weighSets_38 (lv_at hl 5 rfl) ?_
      refine lv_iconst (v := (-1)) hx hb dX1_weighSets_40 (by decide) ?_
      refine lv_ixor hx hb dX1_weighSets_41 ?_
      refine lv_iand hx hb dX1_weighSets_42 ?_
      obtain ⟨J7, eJ7, h⟩ := jn_some h
      have hJ7 : ∀ (z8 : Sx) (H : Heap) (locs : List Loc) (ls : Array Slot), J7 z8 = some y → va_P D classes (rc1 a q_t Q_t z8 ++ (rc7 a q_p1 Q_p1 z_p1)) H → va_D A (rc1 a q_t Q_t z8 ++ (rc7 a q_p1 Q_p1 z_p1)) → va_S A s.heap H locs → lv_has ls 10 [(0, .ref q_t), (1, .ref q_p1), (2, .int x2), (3, .int x3), (4, .int x4), (5, .int x5), (6, .int x6)] → W p l e (rmM 54 0 0 1587) s m #[.ref q_t, .ref q_p1, .int x20, .int x30, .int x40] below meth c H locs 0 0 (MQ below (va_Qv (fun (_ : Unit) => True) (Bw D A (fun _ => rc1 a q_t Q_t y ++ (rc7 a q_p1 Q_p1 z_p1))) A) #[.ref q_t, .ref q_p1, .int x20, .int x30, .int x40] s 0 0 A) (F0 m 132 ls []) := by
        intro z8 H locs ls h hP hD hS hl
        rw [eJ7] at h
        refine lv_iinc (v := x6 + 1) (lv' := [(6, .int (x6 + 1)), (0, .ref q_t), (1, .ref q_p1), (2, .int x2), (3, .int x3), (4, .int x4), (5, .int x5)]) hx hb dX1_weighSets_132 hl (k := 6) rfl rfl (by decide) rfl (fun ls hl => ?_)
        refine lv_goto (tgt := 29) hx hb dX1_weighSets_135 (by decide) ?_
        exact ih z8 (x6 + 1) _ _ ls h hP hD hS (lv_sub hl [1, 2, 3, 4, 5, 6, 0] rfl)
      refine lv_if_ne (tgt := 132) hx hb dX1_weighSets_43 (by decide) (fun c9 => ?_) (fun c9 => ?_)
      · have h := ite_f c9 h
        exact hJ7 z_t _ _ ls h hP hD hS (lv_sub hl [0, 1, 2, 3, 4, 5, 6] rfl)
      · have h := ite_t c9 h
        refine lv_aload_n hx hb dX1_weighSets_46 rfl (lv_at hl 0 rfl) ?_
        refine lv_aload_n hx hb dX1_weighSets_47 rfl (lv_at hl 1 rfl) ?_
        refine lv_iload_n hx hb dX1_weighSets_48 rfl (lv_at hl 2 rfl) ?_
        refine lv_iload_n hx hb dX1_weighSets_49 rfl (lv_at hl 3 rfl) ?_
        refine lv_iload hx hb dX1_weighSets_50 (lv_at hl 6 rfl) ?_
        refine lv_ior hx hb dX1_weighSets_52 ?_
        refine lv_iload hx hb dX1_weighSets_53 (lv_at hl 4 rfl) ?_
        obtain ⟨r11, z12, hc10, h⟩ := bd2_some h
        refine cWl (runV (As := [.ref q_p1, .int x2, .int (x3 ||| x6), .int x4]) (rest := []) C (mX1_hiddenMean l D a 16 (q_t := q_t) (q_p1 := q_p1) (Q_t := Q_t) (Q_p1 := Q_p1) hc10 H.size) lk_V_1_90 okN_X1_hiddenMean ⟨Nat.le_of_ble_eq_true rfl, Nat.le_of_ble_eq_true rfl⟩ ⟨rfl, rfl⟩ (preV (preM hK hP hD) (recvOf hK hP 0 rfl (ci := 1) rfl)) hl.1 rfl (Nat.le_of_ble_eq_true rfl) dX1_weighSets_55 ⟨Nat.le_of_ble_eq_true rfl, Nat.le_of_ble_eq_true rfl⟩) hP hD hS hA (fun H locs hP hD hS => ?_)
        have hP : va_P D classes (rc1 a q_t Q_t z12 ++ (rc7 a q_p1 Q_p1 z_p1)) H := hP
        have hD : va_D A (rc1 a q_t Q_t z12 ++ (rc7 a q_p1 Q_p1 z_p1)) := hD
        refine lv_aload_n hx hb dX1_weighSets_58 rfl (lv_at hl 1 rfl) ?_
        refine lv_iload hx hb dX1_weighSets_59 (lv_at hl 6 rfl) ?_
        obtain ⟨r14, hc13, h⟩ := bd_some h
        refine cRi (runV (As := [.int x6]) (rest := [.long r11]) C (mX7_mendingOf l D a (q_t := q_p1) (Q_t := Q_p1) hc13) lk_V_1_104 okN_X7_mendingOf ⟨Nat.le_of_ble_eq_true rfl, Nat.le_of_ble_eq_true rfl⟩ ⟨rfl, rfl⟩ (preV (preR hK (P_of_map (wc := rc7 a q_p1 Q_p1 z_p1) hP [3, 4, 5, 6, 7, 8, 9, 10, 11, 12, 13, 14, 15] rfl)) (recvOf hK hP 3 rfl (ci := 7) rfl)) hl.1 rfl (Nat.le_of_ble_eq_true rfl) dX1_weighSets_61 ⟨Nat.le_of_ble_eq_true rfl, Nat.le_of_ble_eq_true rfl⟩) ?_
        refine lv_i2l (v := r14.toInt64) hx hb dX1_weighSets_64 rfl ?_
        refine lv_iload_n hx hb dX1_weighSets_65 rfl (lv_at hl 2 rfl) ?_
        obtain ⟨r16, hc15, h⟩ := bd_some h
        refine cRl (runN (As := [.int x2]) (rest := [.long r14.toInt64, .long r11]) C hK (mX8_hundreds l D a hc15) lk_N_1_71 okN_X8_hundreds ⟨Nat.le_of_ble_eq_true rfl, Nat.le_of_ble_eq_true rfl⟩ ⟨rfl, rfl⟩ (preR hK (P_of_map (wc := []) hP [] rfl)) hl.1 rfl (Nat.le_of_ble_eq_true rfl) dX1_weighSets_66 ⟨Nat.le_of_ble_eq_true rfl, Nat.le_of_ble_eq_true rfl⟩) ?_
        refine lv_lmul hx hb dX1_weighSets_69 ?_
        refine lv_lsub hx hb dX1_weighSets_70 ?_
        refine lv_lstore (lv' := [(7, .long (r11 - (r14.toInt64 * r16))), (0, .ref q_t), (1, .ref q_p1), (2, .int x2), (3, .int x3), (4, .int x4), (5, .int x5), (6, .int x6)]) hx hb dX1_weighSets_71 hl (by decide) rfl (fun ls hl => ?_)
        refine lv_iload hx hb dX1_weighSets_73 (lv_at hl 7 rfl) ?_
        obtain ⟨r18, hc17, h⟩ := bd_some h
        refine cRi (runS (As := [.int x6]) (rest := []) C (mJ6_bitCount_0f7a4 l D a hc17) lk_S_1_107 okN_J6_bitCount_0f7a4 ⟨Nat.le_of_ble_eq_true rfl, Nat.le_of_ble_eq_true rfl⟩ ⟨rfl, rfl⟩ (preR hK (P_of_map (wc := []) hP [] rfl)) hl.1 rfl (Nat.le_of_ble_eq_true rfl) dX1_weighSets_75 ⟨Nat.le_of_ble_eq_true rfl, Nat.le_of_ble_eq_true rfl⟩) ?_
        refine lv_aload_n hx hb dX1_weighSets_78 rfl (lv_at hl 1 rfl) ?_
        refine va_get (D := D) (v := .int (gI z12 2)) (C := RX1) (T := TX1) (N := 4) hx hb hts iX1 hown hK.1 hP 0 rfl rfl 2 (by decide) (hts _ t_287) (fun _ h9 => h9) rfl dX1_weighSets_79 ?_
        obtain ⟨r20, hc19, h⟩ := bd_some h
        refine cRi (runS (As := [.int (gI z12 2)]) (rest := [.int r18]) C (mJ6_bitCount_0f7a4 l D a hc19) lk_S_1_107 okN_J6_bitCount_0f7a4 ⟨Nat.le_of_ble_eq_true rfl, Nat.le_of_ble_eq_true rfl⟩ ⟨rfl, rfl⟩ (preR hK (P_of_map (wc := []) hP [] rfl)) hl.1 rfl (Nat.le_of_ble_eq_true rfl) dX1_weighSets_82 ⟨Nat.le_of_ble_eq_true rfl, Nat.le_of_ble_eq_true rfl⟩) ?_
        obtain ⟨J21, eJ21, h⟩ := jn_some h
        have hJ21 : ∀ (i22 : Int32) (H : Heap) (locs : List Loc) (ls : Array Slot), J21 i22 = some y → va_P D classes (rc1 a q_t Q_t z12 ++ (rc7 a q_p1 Q_p1 z_p1)) H → va_D A (rc1 a q_t Q_t z12 ++ (rc7 a q_p1 Q_p1 z_p1)) → va_S A s.heap H locs → lv_has ls 10 [(0, .ref q_t), (1, .ref q_p1), (2, .int x2), (3, .int x3), (4, .int x4), (5, .int x5), (6, .int x6), (7, .long (r11 - (r14.toInt64 * r16)))] → W p l e (rmM 54 0 0 1587) s m #[.ref q_t, .ref q_p1, .int x20, .int x30, .int x40] below meth c H locs 0 0 (MQ below (va_Qv (fun (_ : Unit) => True) (Bw D A (fun _ => rc1 a q_t Q_t y ++ (rc7 a q_p1 Q_p1 z_p1))) A) #[.ref q_t, .ref q_p1, .int x20, .int x30, .int x40] s 0 0 A) (F0 m 93 ls [.int i22]) := by
          intro i22 H locs ls h hP hD hS hl
          rw [eJ21] at h
          refine lv_istore (lv' := [(9, .int i22), (0, .ref q_t), (1, .ref q_p1), (2, .int x2), (3, .int x3), (4, .int x4), (5, .int x5), (6, .int x6), (7, .long (r11 - (r14.toInt64 * r16)))]) hx hb dX1_weighSets_93 hl (by decide) rfl (fun ls hl => ?_)
          refine lv_lload hx hb dX1_weighSets_95 (lv_at hl 8 rfl) ?_
          refine lv_aload_n hx hb dX1_weighSets_97 rfl (lv_at hl 1 rfl) ?_
          refine va_get (D := D) (v := .long (gJ z12 3 0)) (C := RX1) (T := TX1) (N := 4) hx hb hts iX1 hown hK.1 hP 0 rfl rfl 3 (by decide) (hts _ t_289) (fun _ h9 => h9) rfl dX1_weighSets_98 ?_
          refine W.lcmp hx hb dX1_weighSets_101 ?_
          obtain ⟨J23, eJ23, h⟩ := jn_some h
          have hJ23 : ∀ (H : Heap) (locs : List Loc) (ls : Array Slot), J23 = some y → va_P D classes (rc1 a q_t Q_t z12 ++ (rc7 a q_p1 Q_p1 z_p1)) H → va_D A (rc1 a q_t Q_t z12 ++ (rc7 a q_p1 Q_p1 z_p1)) → va_S A s.heap H locs → lv_has ls 10 [(0, .ref q_t), (1, .ref q_p1), (2, .int x2), (3, .int x3), (4, .int x4), (5, .int x5), (6, .int x6), (7, .long (r11 - (r14.toInt64 * r16)))] → W p l e (rmM 54 0 0 1587) s m #[.ref q_t, .ref q_p1, .int x20, .int x30, .int x40] below meth c H locs 0 0 (MQ below (va_Qv (fun (_ : Unit) => True) (Bw D A (fun _ => rc1 a q_t Q_t y ++ (rc7 a q_p1 Q_p1 z_p1))) A) #[.ref q_t, .ref q_p1, .int x20, .int x30, .int x40] s 0 0 A) (F0 m 120 ls []) := by
            intro H locs ls h hP hD hS hl
            rw [eJ23] at h
            refine lv_aload_n hx hb dX1_weighSets_120 rfl (lv_at hl 0 rfl) ?_
            refine lv_iload hx hb dX1_weighSets_121 (lv_at hl 6 rfl) ?_
            refine va_put (D := D) (v := .int x6) (C := RX1) (T := TX1) (N := 4) hx hb hts iX1 tyX1 tyX1_ok nmX1 hown hK.1 hP hD hS 0 rfl rfl 2 (by decide) (hts _ t_287) (fun _ h9 => h9) rfl (tyX1_ok 2 (by decide)) rfl rfl (Nat.le_of_ble_eq_true rfl) dX1_weighSets_123 (fun H locs hP hD hS => ?_)
            have hP : va_P D classes (rc1 a q_t Q_t (sI z12 2 x6) ++ (rc7 a q_p1 Q_p1 z_p1)) H := hP
            have hD : va_D A (rc1 a q_t Q_t (sI z12 2 x6) ++ (rc7 a q_p1 Q_p1 z_p1)) := hD
            refine lv_aload_n hx hb dX1_weighSets_126 rfl (lv_at hl 0 rfl) ?_
            refine lv_lload hx hb dX1_weighSets_127 (lv_at hl 7 rfl) ?_
            refine va_put (D := D) (v := .long (r11 - (r14.toInt64 * r16))) (C := RX1) (T := TX1) (N := 4) hx hb hts iX1 tyX1 tyX1_ok nmX1 hown hK.1 hP hD hS 0 rfl rfl 3 (by decide) (hts _ t_289) (fun _ h9 => h9) rfl (tyX1_ok 3 (by decide)) rfl rfl (Nat.le_of_ble_eq_true rfl) dX1_weighSets_129 (fun H locs hP hD hS => ?_)
            have hP : va_P D classes (rc1 a q_t Q_t (sJ (sI z12 2 x6) 3 0 (r11 - (r14.toInt64 * r16))) ++ (rc7 a q_p1 Q_p1 z_p1)) H := hP
            have hD : va_D A (rc1 a q_t Q_t (sJ (sI z12 2 x6) 3 0 (r11 - (r14.toInt64 * r16))) ++ (rc7 a q_p1 Q_p1 z_p1)) := hD
            exact hJ7 (sJ (sI z12 2 x6) 3 0 (r11 - (r14.toInt64 * r16))) _ _ ls h hP hD hS (lv_sub hl [0, 1, 2, 3, 4, 5, 6] rfl)
          refine lv_if_gt (tgt := 120) hx hb dX1_weighSets_102 (by decide) (fun c24 => ?_) (fun c24 => ?_)
          · have h := ite_t ((lg_cmp_gt _ _).mp c24) h
            exact hJ23 _ _ ls h hP hD hS (lv_sub hl [1, 2, 3, 4, 5, 6, 7, 8] rfl)
          · have h := ite_f (fun q => c24 ((lg_cmp_gt _ _).mpr q)) h
            refine lv_lload hx hb dX1_weighSets_105 (lv_at hl 8 rfl) ?_
            refine lv_aload_n hx hb dX1_weighSets_107 rfl (lv_at hl 1 rfl) ?_
            refine va_get (D := D) (v := .long (gJ z12 3 0)) (C := RX1) (T := TX1) (N := 4) hx hb hts iX1 hown hK.1 hP 0 rfl rfl 3 (by decide) (hts _ t_289) (fun _ h9 => h9) rfl dX1_weighSets_108 ?_
            refine W.lcmp hx hb dX1_weighSets_111 ?_
            refine lv_if_ne (tgt := 132) hx hb dX1_weighSets_112 (by decide) (fun c25 => ?_) (fun c25 => ?_)
            · have h := ite_f (fun q => c25 ((lg_cmp_eq _ _).mpr q)) h
              exact hJ7 z12 _ _ ls h hP hD hS (lv_sub hl [1, 2, 3, 4, 5, 6, 7] rfl)
            · have h := ite_t ((lg_cmp_eq _ _).mp c25) h
              refine lv_iload hx hb dX1_weighSets_115 (lv_at hl 0 rfl) ?_
              refine lv_if_eq (tgt := 132) hx hb dX1_weighSets_117 (by decide) (fun c26 => ?_) (fun c26 => ?_)
              · have h := ite_t c26 h
                exact hJ7 z12 _ _ ls h hP hD hS (lv_sub hl [1, 2, 3, 4, 5, 6, 7] rfl)
              · have h := ite_f c26 h
                exact hJ23 _ _ ls h hP hD hS (lv_sub hl [1, 2, 3, 4, 5, 6, 7, 8] rfl)
        refine lv_icmp_ge (tgt := 92) hx hb dX1_weighSets_85 (by decide) (fun c27 => ?_) (fun c27 => ?_)
        · have h := ite_t c27 h
          refine lv_iconst (v := 0) hx hb dX1_weighSets_92 (by decide) ?_
          exact hJ21 0 _ _ ls h hP hD hS (lv_sub hl [1, 2, 3, 4, 5, 6, 7, 0] rfl)
        · have h := ite_f c27 h
          refine lv_iconst (v := 1) hx hb dX1_weighSets_88 (by decide) ?_
          refine lv_goto (tgt := 93) hx hb dX1_weighSets_89 (by decide) ?_
          exact hJ21 1 _ _ ls h hP hD hS (lv_sub hl [1, 2, 3, 4, 5, 6, 7, 0] rfl)

set_option maxHeartbeats 4000000 in
set_option maxRecDepth 100000 in
theorem mX1_weighSets (l : Launch) (D : va_G) (a : Nat → ClassId) {q_t : Nat} {q_p1 : Nat} {Q_t : Nat → Nat} {z_t : Sx} {Q_p1 : Nat → Nat} {z_p1 : Sx} {x2 : Int32} {x3 : Int32} {x4 : Int32} {y : Sx} (h : fX1_weighSets z_t z_p1 x2 x3 x4 = some y) (sz : Nat) : CMv (S := Unit) l MX1_weighSets 54 1587 0 0 D a [.ref q_t, .ref q_p1, .int x2, .int x3, .int x4] (rc1 a q_t Q_t z_t ++ (rc7 a q_p1 Q_p1 z_p1)) sz (fun _ => True) (fun _ => rc1 a q_t Q_t y ++ (rc7 a q_p1 Q_p1 z_p1)) := by
  unfold fX1_weighSets at h
  refine entMv (by decide) (Nat.le_of_ble_eq_true rfl) ?_
  intro p e s m below meth c C hK A hA hP hD ls hl
  obtain ⟨hx, hb, hml, hown, hts, hr, hlocks, hnm⟩ := id C
  have hb : c.code = cX1_weighSets := hb
  have hown : s.vm.findClass RX1 = some m.cls := hown
  have hS : va_S A s.heap s.heap [] := va_S.rf
  have hl : lv_has ls 10 [(0, .ref q_t), (1, .ref q_p1), (2, .int x2), (3, .int x3), (4, .int x4)] := hl
  refine lv_aload_n hx hb dX1_weighSets_0 rfl (lv_at hl 0 rfl) ?_
  refine lv_aload_n hx hb dX1_weighSets_1 rfl (lv_at hl 1 rfl) ?_
  refine lv_iload_n hx hb dX1_weighSets_2 rfl (lv_at hl 3 rfl) ?_
  obtain ⟨r2, hc1, h⟩ := bd_some h
  refine cRi (runV (As := [.ref q_p1, .int x3]) (rest := []) C (mX1_leastFree l D a (q_t := q_t) (q_p1 := q_p1) (Q_p1 := Q_p1) hc1) lk_V_1_93 okN_X1_leastFree ⟨Nat.le_of_ble_eq_true rfl, Nat.le_of_ble_eq_true rfl⟩ ⟨rfl, rfl⟩ (preV (preR hK (P_of_map (wc := rc7 a q_p1 Q_p1 z_p1) hP [3, 4, 5, 6, 7, 8, 9, 10, 11, 12, 13, 14, 15] rfl)) (recvOf hK hP 0 rfl (ci := 1) rfl)) hl.1 rfl (Nat.le_of_ble_eq_true rfl) dX1_weighSets_3 ⟨Nat.le_of_ble_eq_true rfl, Nat.le_of_ble_eq_true rfl⟩) ?_
  refine lv_istore (lv' := [(5, .int r2), (0, .ref q_t), (1, .ref q_p1), (2, .int x2), (3, .int x3), (4, .int x4)]) hx hb dX1_weighSets_6 hl (by decide) rfl (fun ls hl => ?_)
  refine lv_aload_n hx hb dX1_weighSets_8 rfl (lv_at hl 1 rfl) ?_
  refine lv_iconst (v := 0) hx hb dX1_weighSets_9 (by decide) ?_
  refine va_put (D := D) (v := .int 0) (C := RX1) (T := TX1) (N := 4) hx hb hts iX1 tyX1 tyX1_ok nmX1 hown hK.1 hP hD hS 0 rfl rfl 2 (by decide) (hts _ t_287) (fun _ h9 => h9) rfl (tyX1_ok 2 (by decide)) rfl rfl (Nat.le_of_ble_eq_true rfl) dX1_weighSets_10 (fun H locs hP hD hS => ?_)
  have hP : va_P D classes (rc1 a q_t Q_t (sI z_t 2 0) ++ (rc7 a q_p1 Q_p1 z_p1)) H := hP
  have hD : va_D A (rc1 a q_t Q_t (sI z_t 2 0) ++ (rc7 a q_p1 Q_p1 z_p1)) := hD
  refine lv_aload_n hx hb dX1_weighSets_13 rfl (lv_at hl 1 rfl) ?_
  refine lv_aload_n hx hb dX1_weighSets_14 rfl (lv_at hl 1 rfl) ?_
  refine lv_aload_n hx hb dX1_weighSets_15 rfl (lv_at hl 2 rfl) ?_
  refine lv_iload_n hx hb dX1_weighSets_16 rfl (lv_at hl 3 rfl) ?_
  refine lv_iload_n hx hb dX1_weighSets_17 rfl (lv_at hl 4 rfl) ?_
  refine lv_iload hx hb dX1_weighSets_18 (lv_at hl 5 rfl) ?_
  obtain ⟨r4, z5, hc3, h⟩ := bd2_some h
  refine cWl (runV (As := [.ref q_p1, .int x2, .int x3, .int x4]) (rest := [.ref q_t]) C (mX1_hiddenMean l D a 16 (q_t := q_t) (q_p1 := q_p1) (Q_t := Q_t) (Q_p1 := Q_p1) hc3 H.size) lk_V_1_90 okN_X1_hiddenMean ⟨Nat.le_of_ble_eq_true rfl, Nat.le_of_ble_eq_true rfl⟩ ⟨rfl, rfl⟩ (preV (preM hK hP hD) (recvOf hK hP 0 rfl (ci := 1) rfl)) hl.1 rfl (Nat.le_of_ble_eq_true rfl) dX1_weighSets_20 ⟨Nat.le_of_ble_eq_true rfl, Nat.le_of_ble_eq_true rfl⟩) hP hD hS hA (fun H locs hP hD hS => ?_)
  have hP : va_P D classes (rc1 a q_t Q_t z5 ++ (rc7 a q_p1 Q_p1 z_p1)) H := hP
  have hD : va_D A (rc1 a q_t Q_t z5 ++ (rc7 a q_p1 Q_p1 z_p1)) := hD
  refine va_put (D := D) (v := .long r4) (C := RX1) (T := TX1) (N := 4) hx hb hts iX1 tyX1 tyX1_ok nmX1 hown hK.1 hP hD hS 0 rfl rfl 3 (by decide) (hts _ t_289) (fun _ h9 => h9) rfl (tyX1_ok 3 (by decide)) rfl rfl (Nat.le_of_ble_eq_true rfl) dX1_weighSets_23 (fun H locs hP hD hS => ?_)
  have hP : va_P D classes (rc1 a q_t Q_t (sJ z5 3 0 r4) ++ (rc7 a q_p1 Q_p1 z_p1)) H := hP
  have hD : va_D A (rc1 a q_t Q_t (sJ z5 3 0 r4) ++ (rc7 a q_p1 Q_p1 z_p1)) := hD
  refine lv_iconst (v := 1) hx hb dX1_weighSets_26 (by decide) ?_
  refine lv_istore (lv' := [(6, .int 1), (5, .int r2), (0, .ref q_t), (1, .ref q_p1), (2, .int x2), (3, .int x3), (4, .int x4)]) hx hb dX1_weighSets_27 hl (by decide) rfl (fun ls hl => ?_)
  refine wX1_weighSets_29 C hK hA FU (sJ z5 3 0 r4) 1 _ _ ls h hP hD hS (lv_sub hl [2, 3, 4, 5, 6, 1, 0] rfl)

set_option maxHeartbeats 4000000 in
set_option maxRecDepth 100000 in
theorem mX2_compares (l : Launch) (D : va_G) (a : Nat → ClassId) {x0 : Int32} {x1 : Int64} {x3 : Int64} {y : Int32} (h : fX2_compares x0 x1 x3 = some y) : CRi l MX2_compares 0 0 D a [.int x0, .long x1, .long x3] ([]) (fun r => r = y) := by
  unfold fX2_compares at h
  refine entR (by decide) (Nat.le_of_ble_eq_true rfl) ?_
  intro p e s m below meth c C hK hP ls hl
  obtain ⟨hx, hb, hml, hown, hts, hr, hlocks, hnm⟩ := id C
  have hb : c.code = cX2_compares := hb
  have hown : s.vm.findClass RX2 = some m.cls := hown
  have hl : lv_has ls 5 [(0, .int x0), (1, .long x1), (3, .long x3)] := hl
  refine lv_iload_n hx hb dX2_compares_0 rfl (lv_at hl 0 rfl) ?_
  by_cases c1_0 : x0 = 60
  · have h := ite_t c1_0 h
    refine lv_lookup (off := 43) (tgt := 44) hx hb dX2_compares_1 (by decide) (by rw [c1_0]; decide) (by decide) ?_
    refine lv_lload_n hx hb dX2_compares_44 rfl (lv_at hl 1 rfl) ?_
    refine lv_lload_n hx hb dX2_compares_45 rfl (lv_at hl 2 rfl) ?_
    refine W.lcmp hx hb dX2_compares_46 ?_
    refine lv_if_ge (tgt := 54) hx hb dX2_compares_47 (by decide) (fun c2 => ?_) (fun c2 => ?_)
    · have h := ite_t ((lg_cmp_ge _ _).mp c2) h
      refine lv_iconst (v := 0) hx hb dX2_compares_54 (by decide) ?_
      exact rRz C rfl (Or.inl rfl) (Option.some.inj h) dX2_compares_55
    · have h := ite_f (fun q => c2 ((lg_cmp_ge _ _).mpr q)) h
      refine lv_iconst (v := 1) hx hb dX2_compares_50 (by decide) ?_
      refine lv_goto (tgt := 55) hx hb dX2_compares_51 (by decide) ?_
      exact rRz C rfl (Or.inr rfl) (Option.some.inj h) dX2_compares_55
  have h := ite_f c1_0 h
  by_cases c1_1 : x0 = 61
  · have h := ite_t c1_1 h
    refine lv_lookup (off := 67) (tgt := 68) hx hb dX2_compares_1 (by decide) (by rw [c1_1]; decide) (by decide) ?_
    refine lv_lload_n hx hb dX2_compares_68 rfl (lv_at hl 1 rfl) ?_
    refine lv_lload_n hx hb dX2_compares_69 rfl (lv_at hl 2 rfl) ?_
    refine W.lcmp hx hb dX2_compares_70 ?_
    refine lv_if_ne (tgt := 78) hx hb dX2_compares_71 (by decide) (fun c3 => ?_) (fun c3 => ?_)
    · have h := ite_f (fun q => c3 ((lg_cmp_eq _ _).mpr q)) h
      refine lv_iconst (v := 0) hx hb dX2_compares_78 (by decide) ?_
      exact rRz C rfl (Or.inl rfl) (Option.some.inj h) dX2_compares_79
    · have h := ite_t ((lg_cmp_eq _ _).mp c3) h
      refine lv_iconst (v := 1) hx hb dX2_compares_74 (by decide) ?_
      refine lv_goto (tgt := 79) hx hb dX2_compares_75 (by decide) ?_
      exact rRz C rfl (Or.inr rfl) (Option.some.inj h) dX2_compares_79
  have h := ite_f c1_1 h
  by_cases c1_2 : x0 = 256
  · have h := ite_t c1_2 h
    refine lv_lookup (off := 55) (tgt := 56) hx hb dX2_compares_1 (by decide) (by rw [c1_2]; decide) (by decide) ?_
    refine lv_lload_n hx hb dX2_compares_56 rfl (lv_at hl 1 rfl) ?_
    refine lv_lload_n hx hb dX2_compares_57 rfl (lv_at hl 2 rfl) ?_
    refine W.lcmp hx hb dX2_compares_58 ?_
    refine lv_if_gt (tgt := 66) hx hb dX2_compares_59 (by decide) (fun c4 => ?_) (fun c4 => ?_)
    · have h := ite_t ((lg_cmp_gt _ _).mp c4) h
      refine lv_iconst (v := 0) hx hb dX2_compares_66 (by decide) ?_
      exact rRz C rfl (Or.inl rfl) (Option.some.inj h) dX2_compares_67
    · have h := ite_f (fun q => c4 ((lg_cmp_gt _ _).mpr q)) h
      refine lv_iconst (v := 1) hx hb dX2_compares_62 (by decide) ?_
      refine lv_goto (tgt := 67) hx hb dX2_compares_63 (by decide) ?_
      exact rRz C rfl (Or.inr rfl) (Option.some.inj h) dX2_compares_67
  have h := ite_f c1_2 h
  by_cases c1_3 : x0 = 257
  · have h := ite_t c1_3 h
    refine lv_lookup (off := 79) (tgt := 80) hx hb dX2_compares_1 (by decide) (by rw [c1_3]; decide) (by decide) ?_
    refine lv_lload_n hx hb dX2_compares_80 rfl (lv_at hl 1 rfl) ?_
    refine lv_lload_n hx hb dX2_compares_81 rfl (lv_at hl 2 rfl) ?_
    refine W.lcmp hx hb dX2_compares_82 ?_
    refine lv_if_lt (tgt := 90) hx hb dX2_compares_83 (by decide) (fun c5 => ?_) (fun c5 => ?_)
    · have h := ite_t ((lg_cmp_lt _ _).mp c5) h
      refine lv_iconst (v := 0) hx hb dX2_compares_90 (by decide) ?_
      exact rRz C rfl (Or.inl rfl) (Option.some.inj h) dX2_compares_91
    · have h := ite_f (fun q => c5 ((lg_cmp_lt _ _).mpr q)) h
      refine lv_iconst (v := 1) hx hb dX2_compares_86 (by decide) ?_
      refine lv_goto (tgt := 91) hx hb dX2_compares_87 (by decide) ?_
      exact rRz C rfl (Or.inr rfl) (Option.some.inj h) dX2_compares_91
  have h := ite_f c1_3 h
  refine lv_lookup (off := 91) (tgt := 92) hx hb dX2_compares_1 (by decide) ((lv_osw c1_0 (by decide)).trans ((lv_osw c1_1 (by decide)).trans ((lv_osw c1_2 (by decide)).trans ((lv_osw c1_3 (by decide)).trans (rfl))))) (by decide) ?_
  refine lv_lload_n hx hb dX2_compares_92 rfl (lv_at hl 1 rfl) ?_
  refine lv_lload_n hx hb dX2_compares_93 rfl (lv_at hl 2 rfl) ?_
  refine W.lcmp hx hb dX2_compares_94 ?_
  refine lv_if_le (tgt := 102) hx hb dX2_compares_95 (by decide) (fun c6 => ?_) (fun c6 => ?_)
  · have h := ite_t ((lg_cmp_le _ _).mp c6) h
    refine lv_iconst (v := 0) hx hb dX2_compares_102 (by decide) ?_
    exact rRz C rfl (Or.inl rfl) (Option.some.inj h) dX2_compares_103
  · have h := ite_f (fun q => c6 ((lg_cmp_le _ _).mpr q)) h
    refine lv_iconst (v := 1) hx hb dX2_compares_98 (by decide) ?_
    refine lv_goto (tgt := 103) hx hb dX2_compares_99 (by decide) ?_
    exact rRz C rfl (Or.inr rfl) (Option.some.inj h) dX2_compares_103

set_option maxHeartbeats 4000000 in
set_option maxRecDepth 100000 in
theorem mX2_join (l : Launch) (D : va_G) (a : Nat → ClassId) {x0 : Int32} {x1 : Int64} {x3 : Int64} {y : Int64} (h : fX2_join x0 x1 x3 = some y) : CRl l MX2_join 1 24 D a [.int x0, .long x1, .long x3] ([]) (fun r => r = y) := by
  unfold fX2_join at h
  refine entR (by decide) (Nat.le_of_ble_eq_true rfl) ?_
  intro p e s m below meth c C hK hP ls hl
  obtain ⟨hx, hb, hml, hown, hts, hr, hlocks, hnm⟩ := id C
  have hb : c.code = cX2_join := hb
  have hown : s.vm.findClass RX2 = some m.cls := hown
  have hl : lv_has ls 5 [(0, .int x0), (1, .long x1), (3, .long x3)] := hl
  refine lv_iload_n hx hb dX2_join_0 rfl (lv_at hl 0 rfl) ?_
  by_cases c1_0 : x0 = 42
  · have h := ite_t c1_0 h
    refine lv_lookup (off := 67) (tgt := 68) hx hb dX2_join_1 (by decide) (by rw [c1_0]; decide) (by decide) ?_
    refine lv_lload_n hx hb dX2_join_68 rfl (lv_at hl 1 rfl) ?_
    refine lv_lload_n hx hb dX2_join_69 rfl (lv_at hl 2 rfl) ?_
    refine lv_lmul hx hb dX2_join_70 ?_
    exact rRl C rfl (Option.some.inj h) dX2_join_71
  have h := ite_f c1_0 h
  by_cases c1_1 : x0 = 43
  · have h := ite_t c1_1 h
    refine lv_lookup (off := 59) (tgt := 60) hx hb dX2_join_1 (by decide) (by rw [c1_1]; decide) (by decide) ?_
    refine lv_lload_n hx hb dX2_join_60 rfl (lv_at hl 1 rfl) ?_
    refine lv_lload_n hx hb dX2_join_61 rfl (lv_at hl 2 rfl) ?_
    refine lv_ladd hx hb dX2_join_62 ?_
    exact rRl C rfl (Option.some.inj h) dX2_join_63
  have h := ite_f c1_1 h
  by_cases c1_2 : x0 = 45
  · have h := ite_t c1_2 h
    refine lv_lookup (off := 63) (tgt := 64) hx hb dX2_join_1 (by decide) (by rw [c1_2]; decide) (by decide) ?_
    refine lv_lload_n hx hb dX2_join_64 rfl (lv_at hl 1 rfl) ?_
    refine lv_lload_n hx hb dX2_join_65 rfl (lv_at hl 2 rfl) ?_
    refine lv_lsub hx hb dX2_join_66 ?_
    exact rRl C rfl (Option.some.inj h) dX2_join_67
  have h := ite_f c1_2 h
  by_cases c1_3 : x0 = 47
  · have h := ite_t c1_3 h
    refine lv_lookup (off := 71) (tgt := 72) hx hb dX2_join_1 (by decide) (by rw [c1_3]; decide) (by decide) ?_
    refine lv_lload_n hx hb dX2_join_72 rfl (lv_at hl 2 rfl) ?_
    refine lv_lconst (v := 0) hx hb dX2_join_73 (by decide) ?_
    refine W.lcmp hx hb dX2_join_74 ?_
    refine lv_if_ne (tgt := 82) hx hb dX2_join_75 (by decide) (fun c2 => ?_) (fun c2 => ?_)
    · have h := ite_f (fun q => c2 ((lg_cmp_eq _ _).mpr q)) h
      refine lv_lload_n hx hb dX2_join_82 rfl (lv_at hl 1 rfl) ?_
      refine lv_lload_n hx hb dX2_join_83 rfl (lv_at hl 2 rfl) ?_
      obtain ⟨g3, h⟩ := gd_some h
      refine lv_ldiv hx hb dX2_join_84 g3 ?_
      exact rRl C rfl (Option.some.inj h) dX2_join_85
    · have h := ite_t ((lg_cmp_eq _ _).mp c2) h
      refine lv_lconst (v := 0) hx hb dX2_join_78 (by decide) ?_
      refine lv_goto (tgt := 85) hx hb dX2_join_79 (by decide) ?_
      exact rRl C rfl (Option.some.inj h) dX2_join_85
  have h := ite_f c1_3 h
  by_cases c1_4 : x0 = 309
  · have h := ite_t c1_4 h
    refine lv_lookup (off := 89) (tgt := 90) hx hb dX2_join_1 (by decide) (by rw [c1_4]; decide) (by decide) ?_
    refine lv_lload_n hx hb dX2_join_90 rfl (lv_at hl 1 rfl) ?_
    refine lv_lload_n hx hb dX2_join_91 rfl (lv_at hl 2 rfl) ?_
    refine lv_lor hx hb dX2_join_92 ?_
    exact rRl C rfl (Option.some.inj h) dX2_join_93
  have h := ite_f c1_4 h
  by_cases c1_5 : x0 = 310
  · have h := ite_t c1_5 h
    refine lv_lookup (off := 85) (tgt := 86) hx hb dX2_join_1 (by decide) (by rw [c1_5]; decide) (by decide) ?_
    refine lv_lload_n hx hb dX2_join_86 rfl (lv_at hl 1 rfl) ?_
    refine lv_lload_n hx hb dX2_join_87 rfl (lv_at hl 2 rfl) ?_
    refine lv_land hx hb dX2_join_88 ?_
    exact rRl C rfl (Option.some.inj h) dX2_join_89
  have h := ite_f c1_5 h
  refine lv_lookup (off := 93) (tgt := 94) hx hb dX2_join_1 (by decide) ((lv_osw c1_0 (by decide)).trans ((lv_osw c1_1 (by decide)).trans ((lv_osw c1_2 (by decide)).trans ((lv_osw c1_3 (by decide)).trans ((lv_osw c1_4 (by decide)).trans ((lv_osw c1_5 (by decide)).trans (rfl))))))) (by decide) ?_
  refine lv_iload_n hx hb dX2_join_94 rfl (lv_at hl 0 rfl) ?_
  refine lv_lload_n hx hb dX2_join_95 rfl (lv_at hl 1 rfl) ?_
  refine lv_lload_n hx hb dX2_join_96 rfl (lv_at hl 2 rfl) ?_
  obtain ⟨r5, hc4, h⟩ := bd_some h
  refine cRi (runS (As := [.int x0, .long x1, .long x3]) (rest := []) C (mX2_compares l D a hc4) lk_S_2_117 okN_X2_compares ⟨Nat.le_of_ble_eq_true rfl, Nat.le_of_ble_eq_true rfl⟩ ⟨rfl, rfl⟩ (preR hK hP) hl.1 rfl (Nat.le_of_ble_eq_true rfl) dX2_join_97 ⟨Nat.le_of_ble_eq_true rfl, Nat.le_of_ble_eq_true rfl⟩) ?_
  refine lv_if_eq (tgt := 107) hx hb dX2_join_100 (by decide) (fun c6 => ?_) (fun c6 => ?_)
  · have h := ite_t c6 h
    refine lv_lconst (v := 0) hx hb dX2_join_107 (by decide) ?_
    exact rRl C rfl (Option.some.inj h) dX2_join_108
  · have h := ite_f c6 h
    refine lv_lconst (v := 1) hx hb dX2_join_103 (by decide) ?_
    refine lv_goto (tgt := 108) hx hb dX2_join_104 (by decide) ?_
    exact rRl C rfl (Option.some.inj h) dX2_join_108

set_option maxHeartbeats 4000000 in
set_option maxRecDepth 100000 in
theorem mX2_wordOf (l : Launch) (D : va_G) (a : Nat → ClassId) {q_p1 : Nat} {q_p2 : Nat} {Q_p1 : Nat → Nat} {z_p1 : Sx} {Q_p2 : Nat → Nat} {z_p2 : Sx} {x0 : Int32} {x3 : Int32} {y : Int64} (h : fX2_wordOf z_p1 z_p2 x0 x3 = some y) : CRl l MX2_wordOf 1 21 D a [.int x0, .ref q_p1, .ref q_p2, .int x3] (rc7 a q_p1 Q_p1 z_p1 ++ (rc0 a q_p2 Q_p2 z_p2)) (fun r => r = y) := by
  unfold fX2_wordOf at h
  refine entR (by decide) (Nat.le_of_ble_eq_true rfl) ?_
  intro p e s m below meth c C hK hP ls hl
  obtain ⟨hx, hb, hml, hown, hts, hr, hlocks, hnm⟩ := id C
  have hb : c.code = cX2_wordOf := hb
  have hown : s.vm.findClass RX2 = some m.cls := hown
  have hl : lv_has ls 4 [(0, .int x0), (1, .ref q_p1), (2, .ref q_p2), (3, .int x3)] := hl
  refine lv_iload_n hx hb dX2_wordOf_0 rfl (lv_at hl 0 rfl) ?_
  by_cases c1_0 : x0 = 312
  · have h := ite_t c1_0 h
    refine lv_tableIn (off := 47) (tgt := 48) hx hb dX2_wordOf_1 (by rw [c1_0]; decide) (by rw [c1_0]; decide) (by rw [c1_0]; decide) (by decide) ?_
    refine lv_iload_n hx hb dX2_wordOf_48 rfl (lv_at hl 3 rfl) ?_
    refine lv_i2l (v := x3.toInt64) hx hb dX2_wordOf_49 rfl ?_
    exact rRl C rfl (Option.some.inj h) dX2_wordOf_50
  have h := ite_f c1_0 h
  by_cases c1_1 : x0 = 313
  · have h := ite_t c1_1 h
    refine lv_tableIn (off := 50) (tgt := 51) hx hb dX2_wordOf_1 (by rw [c1_1]; decide) (by rw [c1_1]; decide) (by rw [c1_1]; decide) (by decide) ?_
    refine lv_aload_n hx hb dX2_wordOf_51 rfl (lv_at hl 1 rfl) ?_
    refine va_get (D := D) (v := .ref (Q_p1 8)) (C := RX7) (T := TX7) (N := 18) hx hb hts iX7 hown hK.1 hP 0 rfl rfl 8 (by decide) (hts _ t_56) (fun _ h9 => h9) rfl dX2_wordOf_52 ?_
    refine lv_iload_n hx hb dX2_wordOf_55 rfl (lv_at hl 3 rfl) ?_
    obtain ⟨r3, hc2, h⟩ := bd_some h
    refine cRi (runN (As := [.ref (Q_p1 8), .int x3]) (rest := []) C hK (mX8_at l D a (q_p0 := (Q_p1 8)) hc2) lk_N_2_47 okN_X8_at ⟨Nat.le_of_ble_eq_true rfl, Nat.le_of_ble_eq_true rfl⟩ ⟨rfl, rfl⟩ (preR hK (P_of_map (wc := ra0 a (Q_p1 8) 10 (gT z_p1 8)) hP [4] rfl)) hl.1 rfl (Nat.le_of_ble_eq_true rfl) dX2_wordOf_56 ⟨Nat.le_of_ble_eq_true rfl, Nat.le_of_ble_eq_true rfl⟩) ?_
    refine lv_i2l (v := r3.toInt64) hx hb dX2_wordOf_59 rfl ?_
    exact rRl C rfl (Option.some.inj h) dX2_wordOf_60
  have h := ite_f c1_1 h
  by_cases c1_2 : x0 = 314
  · have h := ite_t c1_2 h
    refine lv_tableIn (off := 60) (tgt := 61) hx hb dX2_wordOf_1 (by rw [c1_2]; decide) (by rw [c1_2]; decide) (by rw [c1_2]; decide) (by decide) ?_
    refine lv_aload_n hx hb dX2_wordOf_61 rfl (lv_at hl 1 rfl) ?_
    refine va_get (D := D) (v := .ref (Q_p1 12)) (C := RX7) (T := TX7) (N := 18) hx hb hts iX7 hown hK.1 hP 0 rfl rfl 12 (by decide) (hts _ t_73) (fun _ h9 => h9) rfl dX2_wordOf_62 ?_
    refine lv_iload_n hx hb dX2_wordOf_65 rfl (lv_at hl 3 rfl) ?_
    obtain ⟨r5, hc4, h⟩ := bd_some h
    refine cRi (runN (As := [.ref (Q_p1 12), .int x3]) (rest := []) C hK (mX8_at l D a (q_p0 := (Q_p1 12)) hc4) lk_N_2_47 okN_X8_at ⟨Nat.le_of_ble_eq_true rfl, Nat.le_of_ble_eq_true rfl⟩ ⟨rfl, rfl⟩ (preR hK (P_of_map (wc := ra0 a (Q_p1 12) 10 (gT z_p1 12)) hP [8] rfl)) hl.1 rfl (Nat.le_of_ble_eq_true rfl) dX2_wordOf_66 ⟨Nat.le_of_ble_eq_true rfl, Nat.le_of_ble_eq_true rfl⟩) ?_
    refine lv_i2l (v := r5.toInt64) hx hb dX2_wordOf_69 rfl ?_
    exact rRl C rfl (Option.some.inj h) dX2_wordOf_70
  have h := ite_f c1_2 h
  by_cases c1_3 : x0 = 315
  · have h := ite_t c1_3 h
    refine lv_tableIn (off := 70) (tgt := 71) hx hb dX2_wordOf_1 (by rw [c1_3]; decide) (by rw [c1_3]; decide) (by rw [c1_3]; decide) (by decide) ?_
    refine lv_aload_n hx hb dX2_wordOf_71 rfl (lv_at hl 1 rfl) ?_
    refine va_get (D := D) (v := .ref (Q_p1 10)) (C := RX7) (T := TX7) (N := 18) hx hb hts iX7 hown hK.1 hP 0 rfl rfl 10 (by decide) (hts _ t_66) (fun _ h9 => h9) rfl dX2_wordOf_72 ?_
    refine lv_iload_n hx hb dX2_wordOf_75 rfl (lv_at hl 3 rfl) ?_
    obtain ⟨r7, hc6, h⟩ := bd_some h
    refine cRi (runN (As := [.ref (Q_p1 10), .int x3]) (rest := []) C hK (mX8_at l D a (q_p0 := (Q_p1 10)) hc6) lk_N_2_47 okN_X8_at ⟨Nat.le_of_ble_eq_true rfl, Nat.le_of_ble_eq_true rfl⟩ ⟨rfl, rfl⟩ (preR hK (P_of_map (wc := ra0 a (Q_p1 10) 10 (gT z_p1 10)) hP [6] rfl)) hl.1 rfl (Nat.le_of_ble_eq_true rfl) dX2_wordOf_76 ⟨Nat.le_of_ble_eq_true rfl, Nat.le_of_ble_eq_true rfl⟩) ?_
    refine lv_i2l (v := r7.toInt64) hx hb dX2_wordOf_79 rfl ?_
    exact rRl C rfl (Option.some.inj h) dX2_wordOf_80
  have h := ite_f c1_3 h
  by_cases c1_4 : x0 = 316
  · have h := ite_t c1_4 h
    refine lv_tableIn (off := 80) (tgt := 81) hx hb dX2_wordOf_1 (by rw [c1_4]; decide) (by rw [c1_4]; decide) (by rw [c1_4]; decide) (by decide) ?_
    refine lv_aload_n hx hb dX2_wordOf_81 rfl (lv_at hl 1 rfl) ?_
    refine va_get (D := D) (v := .ref (Q_p1 9)) (C := RX7) (T := TX7) (N := 18) hx hb hts iX7 hown hK.1 hP 0 rfl rfl 9 (by decide) (hts _ t_60) (fun _ h9 => h9) rfl dX2_wordOf_82 ?_
    refine lv_iload_n hx hb dX2_wordOf_85 rfl (lv_at hl 3 rfl) ?_
    obtain ⟨r9, hc8, h⟩ := bd_some h
    refine cRi (runN (As := [.ref (Q_p1 9), .int x3]) (rest := []) C hK (mX8_at l D a (q_p0 := (Q_p1 9)) hc8) lk_N_2_47 okN_X8_at ⟨Nat.le_of_ble_eq_true rfl, Nat.le_of_ble_eq_true rfl⟩ ⟨rfl, rfl⟩ (preR hK (P_of_map (wc := ra0 a (Q_p1 9) 10 (gT z_p1 9)) hP [5] rfl)) hl.1 rfl (Nat.le_of_ble_eq_true rfl) dX2_wordOf_86 ⟨Nat.le_of_ble_eq_true rfl, Nat.le_of_ble_eq_true rfl⟩) ?_
    refine lv_i2l (v := r9.toInt64) hx hb dX2_wordOf_89 rfl ?_
    exact rRl C rfl (Option.some.inj h) dX2_wordOf_90
  have h := ite_f c1_4 h
  by_cases c1_5 : x0 = 317
  · have h := ite_t c1_5 h
    refine lv_tableIn (off := 90) (tgt := 91) hx hb dX2_wordOf_1 (by rw [c1_5]; decide) (by rw [c1_5]; decide) (by rw [c1_5]; decide) (by decide) ?_
    refine lv_aload_n hx hb dX2_wordOf_91 rfl (lv_at hl 2 rfl) ?_
    refine va_get (D := D) (v := .int (gI z_p2 0)) (C := RX0) (T := TX0) (N := 6) hx hb hts iX0 hown hK.1 hP 13 rfl rfl 0 (by decide) (hts _ t_131) (fun _ h9 => h9) rfl dX2_wordOf_92 ?_
    refine lv_i2l (v := (gI z_p2 0).toInt64) hx hb dX2_wordOf_95 rfl ?_
    exact rRl C rfl (Option.some.inj h) dX2_wordOf_96
  have h := ite_f c1_5 h
  by_cases c1_6 : x0 = 318
  · have h := ite_t c1_6 h
    refine lv_tableIn (off := 96) (tgt := 97) hx hb dX2_wordOf_1 (by rw [c1_6]; decide) (by rw [c1_6]; decide) (by rw [c1_6]; decide) (by decide) ?_
    refine lv_aload_n hx hb dX2_wordOf_97 rfl (lv_at hl 2 rfl) ?_
    refine va_get (D := D) (v := .int (gI z_p2 2)) (C := RX0) (T := TX0) (N := 6) hx hb hts iX0 hown hK.1 hP 13 rfl rfl 2 (by decide) (hts _ t_137) (fun _ h9 => h9) rfl dX2_wordOf_98 ?_
    obtain ⟨r11, hc10, h⟩ := bd_some h
    refine cRi (runS (As := [.int (gI z_p2 2)]) (rest := []) C (mJ6_bitCount_0f7a4 l D a hc10) lk_S_2_105 okN_J6_bitCount_0f7a4 ⟨Nat.le_of_ble_eq_true rfl, Nat.le_of_ble_eq_true rfl⟩ ⟨rfl, rfl⟩ (preR hK (P_of_map (wc := []) hP [] rfl)) hl.1 rfl (Nat.le_of_ble_eq_true rfl) dX2_wordOf_101 ⟨Nat.le_of_ble_eq_true rfl, Nat.le_of_ble_eq_true rfl⟩) ?_
    refine lv_i2l (v := r11.toInt64) hx hb dX2_wordOf_104 rfl ?_
    exact rRl C rfl (Option.some.inj h) dX2_wordOf_105
  have h := ite_f c1_6 h
  by_cases c1_7 : x0 = 319
  · have h := ite_t c1_7 h
    refine lv_tableIn (off := 105) (tgt := 106) hx hb dX2_wordOf_1 (by rw [c1_7]; decide) (by rw [c1_7]; decide) (by rw [c1_7]; decide) (by decide) ?_
    refine lv_aload_n hx hb dX2_wordOf_106 rfl (lv_at hl 2 rfl) ?_
    refine va_get (D := D) (v := .ref (Q_p2 5)) (C := RX0) (T := TX0) (N := 6) hx hb hts iX0 hown hK.1 hP 13 rfl rfl 5 (by decide) (hts _ t_145) (fun _ h9 => h9) rfl dX2_wordOf_107 ?_
    refine lv_iload_n hx hb dX2_wordOf_110 rfl (lv_at hl 3 rfl) ?_
    obtain ⟨r13, hc12, h⟩ := bd_some h
    refine cRi (runN (As := [.ref (Q_p2 5), .int x3]) (rest := []) C hK (mX8_at l D a (q_p0 := (Q_p2 5)) hc12) lk_N_2_47 okN_X8_at ⟨Nat.le_of_ble_eq_true rfl, Nat.le_of_ble_eq_true rfl⟩ ⟨rfl, rfl⟩ (preR hK (P_of_map (wc := ra0 a (Q_p2 5) 10 (gT z_p2 5)) hP [14] rfl)) hl.1 rfl (Nat.le_of_ble_eq_true rfl) dX2_wordOf_111 ⟨Nat.le_of_ble_eq_true rfl, Nat.le_of_ble_eq_true rfl⟩) ?_
    refine lv_i2l (v := r13.toInt64) hx hb dX2_wordOf_114 rfl ?_
    exact rRl C rfl (Option.some.inj h) dX2_wordOf_115
  have h := ite_f c1_7 h
  refine lv_tableOut (tgt := 116) hx hb dX2_wordOf_1 (by have := lv_neT c1_0 (show (312 : Int32).toInt = 312 by decide); have := lv_neT c1_1 (show (313 : Int32).toInt = 313 by decide); have := lv_neT c1_2 (show (314 : Int32).toInt = 314 by decide); have := lv_neT c1_3 (show (315 : Int32).toInt = 315 by decide); have := lv_neT c1_4 (show (316 : Int32).toInt = 316 by decide); have := lv_neT c1_5 (show (317 : Int32).toInt = 317 by decide); have := lv_neT c1_6 (show (318 : Int32).toInt = 318 by decide); have := lv_neT c1_7 (show (319 : Int32).toInt = 319 by decide); omega) (by decide) ?_
  refine lv_aload_n hx hb dX2_wordOf_116 rfl (lv_at hl 2 rfl) ?_
  refine va_get (D := D) (v := .int (gI z_p2 1)) (C := RX0) (T := TX0) (N := 6) hx hb hts iX0 hown hK.1 hP 13 rfl rfl 1 (by decide) (hts _ t_134) (fun _ h9 => h9) rfl dX2_wordOf_117 ?_
  refine lv_i2l (v := (gI z_p2 1).toInt64) hx hb dX2_wordOf_120 rfl ?_
  exact rRl C rfl (Option.some.inj h) dX2_wordOf_121

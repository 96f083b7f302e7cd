set_option maxHeartbeats 4000000 in
set_option maxRecDepth 100000 in
theorem wX2_reckon_10 {p : Program} {l : Launch} {e : Env} {s : State} {m : MethodId} {below : List Frame} {meth : Method} {c : Code} {D : va_G} {a : Nat → ClassId} {A : Nat → Prop} {q_t : Nat} {q_p1 : Nat} {q_p4 : Nat} {q_p5 : Nat} {Q_t : Nat → Nat} {Q_p4 : Nat → Nat} {Q_p5 : Nat → Nat} {n_p1 : Nat} {f_p1 : Nat → Int32} {z_p4 : Sx} {z_p5 : Sx} {x20 : Int32} {x30 : Int32} {x60 : Int32} {x3 : Int32} {x6 : Int32} (C : Cx p s m #[.ref q_t, .ref q_p1, .int x20, .int x30, .ref q_p4, .ref q_p5, .int x60] meth c MX2_reckon) (hK : KK D a s) (hA : ∀ q, s.heap.size ≤ q → A q) {y : Int64 × Sx} {k170 : Sx → Int32 → Option (Int64 × Sx)} (hk170 : ∀ (z_tk : Sx) (x7k : Int32) (H : Heap) (locs : List Loc) (ls : Array Slot), k170 z_tk x7k = some y → va_P D classes (rc2 a q_t Q_t z_tk ++ (ra0 a q_p1 n_p1 f_p1 ++ (rc7 a q_p4 Q_p4 z_p4 ++ (rc0 a q_p5 Q_p5 z_p5)))) H → va_D A (rc2 a q_t Q_t z_tk ++ (ra0 a q_p1 n_p1 f_p1 ++ (rc7 a q_p4 Q_p4 z_p4 ++ (rc0 a q_p5 Q_p5 z_p5)))) → va_S A s.heap H locs → lv_has ls 10 [(0, .ref q_t), (7, .int x7k)] → W p l e (rmM 2 0 0 48) s m #[.ref q_t, .ref q_p1, .int x20, .int x30, .ref q_p4, .ref q_p5, .int x60] below meth c H locs 0 0 (MQ below (va_Ql (fun r (_ : Unit) => r = y.1) (Bw D A (fun _ => rc2 a q_t Q_t y.2 ++ (ra0 a q_p1 n_p1 f_p1 ++ (rc7 a q_p4 Q_p4 z_p4 ++ (rc0 a q_p5 Q_p5 z_p5))))) A) #[.ref q_t, .ref q_p1, .int x20, .int x30, .ref q_p4, .ref q_p5, .int x60] s 0 0 A) (F0 m 170 ls [])) : ∀ (n : Nat) (z_t : Sx) (x7 : Int32) (x8 : Int32) (H : Heap) (locs : List Loc) (ls : Array Slot), lX2_reckon_10 k170 n_p1 f_p1 z_p4 z_p5 x3 x6 n z_t x7 x8 = some y → va_P D classes (rc2 a q_t Q_t z_t ++ (ra0 a q_p1 n_p1 f_p1 ++ (rc7 a q_p4 Q_p4 z_p4 ++ (rc0 a q_p5 Q_p5 z_p5)))) H → va_D A (rc2 a q_t Q_t z_t ++ (ra0 a q_p1 n_p1 f_p1 ++ (rc7 a q_p4 Q_p4 z_p4 ++ (rc0 a q_p5 Q_p5 z_p5)))) → va_S A s.heap H locs → lv_has ls 10 [(0, .ref q_t), (1, .ref q_p1), (3, .int x3), (4, .ref q_p4), (5, .ref q_p5), (6, .int x6), (7, .int x7), (8, .int x8)] → W p l e (rmM 2 0 0 48) s m #[.ref q_t, .ref q_p1, .int x20, .int x30, .ref q_p4, .ref q_p5, .int x60] below meth c H locs 0 0 (MQ below (va_Ql (fun r (_ : Unit) => r = y.1) (Bw D A (fun _ => rc2 a q_t Q_t y.2 ++ (ra0 a q_p1 n_p1 f_p1 ++ (rc7 a q_p4 Q_p4 z_p4 ++ (rc0 a q_p5 Q_p5 z_p5))))) A) #[.ref q_t, .ref q_p1, .int x20, .int x30, .ref q_p4, .ref q_p5, .int x60] s 0 0 A) (F0 m 10 ls []) := by
  obtain ⟨hx, hb, hml, hown, hts, hr, hlocks, hnm⟩ := id C
  have hb : c.code = cX2_reckon := hb
  have hown : s.vm.findClass RX2 = some m.cls := hown
  intro n
  induction n with
  | zero => intro z_t x7 x8 H locs ls h; rw [lX2_reckon_10] at h; cases h
  | succ n ih =>
    intro z_t x7 x8 H locs ls h hP hD hS hl
    rw [lX2_reckon_10] at h
    refine lv_iload hx hb dX2_reckon_10 (lv_at hl 7 rfl) ?_
    refine lv_iload_n hx hb dX2_reckon_12 rfl (lv_at hl 2 rfl) ?_
    refine lv_icmp_ge (tgt := 170) hx hb dX2_reckon_13 (by decide) (fun c1 => ?_) (fun c1 => ?_)
    · have h := ite_t c1 h
      exact hk170 z_t x7 _ _ ls h hP hD hS (lv_sub hl [0, 6] rfl)
    · have h := ite_f c1 h
      refine lv_iload hx hb dX2_reckon_16 (lv_at hl 7 rfl) ?_
      refine lv_aload_n hx hb dX2_reckon_18 rfl (lv_at hl 1 rfl) ?_
      refine va_alen (v := nI n_p1) hx hb hK.1 hP 2 0 rfl rfl rfl dX2_reckon_19 ?_
      refine lv_icmp_ge (tgt := 170) hx hb dX2_reckon_20 (by decide) (fun c2 => ?_) (fun c2 => ?_)
      · have h := ite_t c2 h
        exact hk170 z_t x7 _ _ ls h hP hD hS (lv_sub hl [0, 6] rfl)
      · have h := ite_f c2 h
        refine lv_aload_n hx hb dX2_reckon_23 rfl (lv_at hl 1 rfl) ?_
        refine lv_iload hx hb dX2_reckon_24 (lv_at hl 7 rfl) ?_
        obtain ⟨g3, h⟩ := gd_some h
        refine ald_i hx hb hK.1 hP 2 0 rfl rfl x8.toNatClampNeg (ix_g g3) dX2_reckon_26 ?_
        refine lv_istore (lv' := [(9, .int (f_p1 x8.toNatClampNeg)), (0, .ref q_t), (1, .ref q_p1), (3, .int x3), (4, .ref q_p4), (5, .ref q_p5), (6, .int x6), (7, .int x7), (8, .int x8)]) hx hb dX2_reckon_27 hl (by decide) rfl (fun ls hl => ?_)
        refine lv_iload hx hb dX2_reckon_29 (lv_at hl 0 rfl) ?_
        obtain ⟨J4, eJ4, h⟩ := jn_some h
        have hJ4 : ∀ (z5 : Sx) (i6 : Int32) (H : Heap) (locs : List Loc) (ls : Array Slot), J4 z5 i6 = some y → va_P D classes (rc2 a q_t Q_t z5 ++ (ra0 a q_p1 n_p1 f_p1 ++ (rc7 a q_p4 Q_p4 z_p4 ++ (rc0 a q_p5 Q_p5 z_p5)))) H → va_D A (rc2 a q_t Q_t z5 ++ (ra0 a q_p1 n_p1 f_p1 ++ (rc7 a q_p4 Q_p4 z_p4 ++ (rc0 a q_p5 Q_p5 z_p5)))) → va_S A s.heap H locs → lv_has ls 10 [(0, .ref q_t), (1, .ref q_p1), (3, .int x3), (4, .ref q_p4), (5, .ref q_p5), (6, .int x6), (7, .int i6), (8, .int x8)] → W p l e (rmM 2 0 0 48) s m #[.ref q_t, .ref q_p1, .int x20, .int x30, .ref q_p4, .ref q_p5, .int x60] below meth c H locs 0 0 (MQ below (va_Ql (fun r (_ : Unit) => r = y.1) (Bw D A (fun _ => rc2 a q_t Q_t y.2 ++ (ra0 a q_p1 n_p1 f_p1 ++ (rc7 a q_p4 Q_p4 z_p4 ++ (rc0 a q_p5 Q_p5 z_p5))))) A) #[.ref q_t, .ref q_p1, .int x20, .int x30, .ref q_p4, .ref q_p5, .int x60] s 0 0 A) (F0 m 164 ls []) := by
          intro z5 i6 H locs ls h hP hD hS hl
          rw [eJ4] at h
          refine lv_iinc (v := x8 + 1) (lv' := [(8, .int (x8 + 1)), (0, .ref q_t), (1, .ref q_p1), (3, .int x3), (4, .ref q_p4), (5, .ref q_p5), (6, .int x6), (7, .int i6)]) hx hb dX2_reckon_164 hl (k := 7) rfl rfl (by decide) rfl (fun ls hl => ?_)
          refine lv_goto (tgt := 10) hx hb dX2_reckon_167 (by decide) ?_
          exact ih z5 i6 (x8 + 1) _ _ ls h hP hD hS (lv_sub hl [1, 2, 3, 4, 5, 6, 7, 0] rfl)
        obtain ⟨J7, eJ7, h⟩ := jn_some h
        have hJ7 : ∀ (H : Heap) (locs : List Loc) (ls : Array Slot), J7 = some y → va_P D classes (rc2 a q_t Q_t z_t ++ (ra0 a q_p1 n_p1 f_p1 ++ (rc7 a q_p4 Q_p4 z_p4 ++ (rc0 a q_p5 Q_p5 z_p5)))) H → va_D A (rc2 a q_t Q_t z_t ++ (ra0 a q_p1 n_p1 f_p1 ++ (rc7 a q_p4 Q_p4 z_p4 ++ (rc0 a q_p5 Q_p5 z_p5)))) → va_S A s.heap H locs → lv_has ls 10 [(0, .ref q_t), (1, .ref q_p1), (3, .int x3), (4, .ref q_p4), (5, .ref q_p5), (6, .int x6), (7, .int x7), (8, .int x8), (9, .int (f_p1 x8.toNatClampNeg))] → W p l e (rmM 2 0 0 48) s m #[.ref q_t, .ref q_p1, .int x20, .int x30, .ref q_p4, .ref q_p5, .int x60] below meth c H locs 0 0 (MQ below (va_Ql (fun r (_ : Unit) => r = y.1) (Bw D A (fun _ => rc2 a q_t Q_t y.2 ++ (ra0 a q_p1 n_p1 f_p1 ++ (rc7 a q_p4 Q_p4 z_p4 ++ (rc0 a q_p5 Q_p5 z_p5))))) A) #[.ref q_t, .ref q_p1, .int x20, .int x30, .ref q_p4, .ref q_p5, .int x60] s 0 0 A) (F0 m 42 ls []) := by
          intro H locs ls h hP hD hS hl
          rw [eJ7] at h
          refine lv_iinc (v := x7 + 1) (lv' := [(7, .int (x7 + 1)), (0, .ref q_t), (1, .ref q_p1), (3, .int x3), (4, .ref q_p4), (5, .ref q_p5), (6, .int x6), (8, .int x8), (9, .int (f_p1 x8.toNatClampNeg))]) hx hb dX2_reckon_42 hl (k := 6) rfl rfl (by decide) rfl (fun ls hl => ?_)
          refine lv_iload hx hb dX2_reckon_45 (lv_at hl 0 rfl) ?_
          refine lv_aload_n hx hb dX2_reckon_47 rfl (lv_at hl 1 rfl) ?_
          refine va_get (D := D) (v := .ref (Q_t 0)) (C := RX2) (T := TX2) (N := 1) hx hb hts iX2 hown hK.1 hP 0 rfl rfl 0 (by decide) (hts _ t_274) (fun _ h9 => h9) rfl dX2_reckon_48 ?_
          refine va_alen (v := 32) hx hb hK.1 hP 1 1 rfl rfl rfl dX2_reckon_51 ?_
          refine lv_icmp_lt (tgt := 57) hx hb dX2_reckon_52 (by decide) (fun c8 => ?_) (fun c8 => ?_)
          · have h := ite_t c8 h
            refine lv_aload_n hx hb dX2_reckon_57 rfl (lv_at hl 1 rfl) ?_
            refine va_get (D := D) (v := .ref (Q_t 0)) (C := RX2) (T := TX2) (N := 1) hx hb hts iX2 hown hK.1 hP 0 rfl rfl 0 (by decide) (hts _ t_274) (fun _ h9 => h9) rfl dX2_reckon_58 ?_
            refine lv_iload hx hb dX2_reckon_61 (lv_at hl 0 rfl) ?_
            refine lv_iload hx hb dX2_reckon_63 (lv_at hl 8 rfl) ?_
            obtain ⟨J9, eJ9, h⟩ := jn_some h
            have hJ9 : ∀ (i10 : Int64) (i11 : Int32) (H : Heap) (locs : List Loc) (ls : Array Slot), J9 i10 i11 = some y → va_P D classes (rc2 a q_t Q_t z_t ++ (ra0 a q_p1 n_p1 f_p1 ++ (rc7 a q_p4 Q_p4 z_p4 ++ (rc0 a q_p5 Q_p5 z_p5)))) H → va_D A (rc2 a q_t Q_t z_t ++ (ra0 a q_p1 n_p1 f_p1 ++ (rc7 a q_p4 Q_p4 z_p4 ++ (rc0 a q_p5 Q_p5 z_p5)))) → va_S A s.heap H locs → lv_has ls 10 [(0, .ref q_t), (1, .ref q_p1), (3, .int x3), (4, .ref q_p4), (5, .ref q_p5), (6, .int x6), (7, .int (x7 + 1)), (8, .int x8)] → W p l e (rmM 2 0 0 48) s m #[.ref q_t, .ref q_p1, .int x20, .int x30, .ref q_p4, .ref q_p5, .int x60] below meth c H locs 0 0 (MQ below (va_Ql (fun r (_ : Unit) => r = y.1) (Bw D A (fun _ => rc2 a q_t Q_t y.2 ++ (ra0 a q_p1 n_p1 f_p1 ++ (rc7 a q_p4 Q_p4 z_p4 ++ (rc0 a q_p5 Q_p5 z_p5))))) A) #[.ref q_t, .ref q_p1, .int x20, .int x30, .ref q_p4, .ref q_p5, .int x60] s 0 0 A) (F0 m 86 ls [.long i10, .int i11, .ref (Q_t 0)]) := by
              intro i10 i11 H locs ls h hP hD hS hl
              rw [eJ9] at h
              obtain ⟨g12, h⟩ := gd_some h
              refine ast_l hx hb hK.1 hP hD hS 1 1 rfl rfl i11.toNatClampNeg (ix_g g12) dX2_reckon_86 (fun H locs hP hD hS => ?_)
              have hP : va_P D classes (rc2 a q_t Q_t (sJ z_t 0 i11.toNatClampNeg i10) ++ (ra0 a q_p1 n_p1 f_p1 ++ (rc7 a q_p4 Q_p4 z_p4 ++ (rc0 a q_p5 Q_p5 z_p5)))) H := hP
              have hD : va_D A (rc2 a q_t Q_t (sJ z_t 0 i11.toNatClampNeg i10) ++ (ra0 a q_p1 n_p1 f_p1 ++ (rc7 a q_p4 Q_p4 z_p4 ++ (rc0 a q_p5 Q_p5 z_p5)))) := hD
              refine lv_goto (tgt := 164) hx hb dX2_reckon_87 (by decide) ?_
              exact hJ4 (sJ z_t 0 i11.toNatClampNeg i10) (x7 + 1) _ _ ls h hP hD hS (lv_sub hl [0, 1, 2, 3, 4, 5, 6, 7] rfl)
            refine lv_if_lt (tgt := 74) hx hb dX2_reckon_65 (by decide) (fun c13 => ?_) (fun c13 => ?_)
            · have h := ite_t c13 h
              refine lv_iload hx hb dX2_reckon_74 (lv_at hl 8 rfl) ?_
              refine lv_ineg hx hb dX2_reckon_76 ?_
              refine lv_aload hx hb dX2_reckon_77 (lv_at hl 4 rfl) ?_
              refine lv_aload hx hb dX2_reckon_79 (lv_at hl 5 rfl) ?_
              refine lv_iload hx hb dX2_reckon_81 (lv_at hl 6 rfl) ?_
              obtain ⟨r15, hc14, h⟩ := bd_some h
              refine cRl (runS (As := [.int (-(f_p1 x8.toNatClampNeg)), .ref q_p4, .ref q_p5, .int x6]) (rest := [.int (x7 + 1), .ref (Q_t 0)]) C (mX2_wordOf l D a (q_p1 := q_p4) (q_p2 := q_p5) (Q_p1 := Q_p4) (Q_p2 := Q_p5) hc14) lk_S_2_85 okN_X2_wordOf ⟨Nat.le_of_ble_eq_true rfl, Nat.le_of_ble_eq_true rfl⟩ ⟨rfl, rfl⟩ (preR hK (P_of_map (wc := rc7 a q_p4 Q_p4 z_p4 ++ (rc0 a q_p5 Q_p5 z_p5)) hP [3, 4, 5, 6, 7, 8, 9, 10, 11, 12, 13, 14, 15, 16, 17] rfl)) hl.1 rfl (Nat.le_of_ble_eq_true rfl) dX2_reckon_83 ⟨Nat.le_of_ble_eq_true rfl, Nat.le_of_ble_eq_true rfl⟩) ?_
              exact hJ9 r15 (x7 + 1) _ _ ls h hP hD hS (lv_sub hl [1, 2, 3, 4, 5, 6, 0, 7] rfl)
            · have h := ite_f c13 h
              refine lv_iload hx hb dX2_reckon_68 (lv_at hl 8 rfl) ?_
              refine lv_i2l (v := (f_p1 x8.toNatClampNeg).toInt64) hx hb dX2_reckon_70 rfl ?_
              refine lv_goto (tgt := 86) hx hb dX2_reckon_71 (by decide) ?_
              exact hJ9 ((f_p1 x8.toNatClampNeg).toInt64) (x7 + 1) _ _ ls h hP hD hS (lv_sub hl [1, 2, 3, 4, 5, 6, 0, 7] rfl)
          · have h := ite_f c8 h
            refine lv_lconst (v := 0) hx hb dX2_reckon_55 (by decide) ?_
            obtain rfl := Option.some.inj h
            exact retMl C rfl () rfl hP hD hS (Nat.le_refl 0) (Nat.le_refl 0) dX2_reckon_56
        refine lv_if_ge (tgt := 42) hx hb dX2_reckon_31 (by decide) (fun c16 => ?_) (fun c16 => ?_)
        · have h := ite_t c16 h
          exact hJ7 _ _ ls h hP hD hS (lv_sub hl [1, 2, 3, 4, 5, 6, 7, 8, 0] rfl)
        · have h := ite_f c16 h
          refine lv_iload hx hb dX2_reckon_34 (lv_at hl 0 rfl) ?_
          refine lv_sipush (v := (-312)) hx hb dX2_reckon_36 (by decide) ?_
          refine lv_icmp_gt (tgt := 90) hx hb dX2_reckon_39 (by decide) (fun c17 => ?_) (fun c17 => ?_)
          · have h := ite_t c17 h
            refine lv_iload hx hb dX2_reckon_90 (lv_at hl 0 rfl) ?_
            refine lv_sipush (v := (-311)) hx hb dX2_reckon_92 (by decide) ?_
            refine lv_icmp_ne (tgt := 124) hx hb dX2_reckon_95 (by decide) (fun c18 => ?_) (fun c18 => ?_)
            · have h := ite_f c18 h
              refine lv_iload hx hb dX2_reckon_124 (lv_at hl 7 rfl) ?_
              refine lv_iconst (v := 1) hx hb dX2_reckon_126 (by decide) ?_
              refine lv_icmp_ge (tgt := 132) hx hb dX2_reckon_127 (by decide) (fun c19 => ?_) (fun c19 => ?_)
              · have h := ite_t c19 h
                refine lv_iinc (v := x7 + (-1)) (lv' := [(7, .int (x7 + (-1))), (9, .int (f_p1 x8.toNatClampNeg)), (0, .ref q_t), (1, .ref q_p1), (3, .int x3), (4, .ref q_p4), (5, .ref q_p5), (6, .int x6), (8, .int x8)]) hx hb dX2_reckon_132 hl (k := 7) rfl rfl (by decide) rfl (fun ls hl => ?_)
                refine lv_aload_n hx hb dX2_reckon_135 rfl (lv_at hl 2 rfl) ?_
                refine va_get (D := D) (v := .ref (Q_t 0)) (C := RX2) (T := TX2) (N := 1) hx hb hts iX2 hown hK.1 hP 0 rfl rfl 0 (by decide) (hts _ t_274) (fun _ h9 => h9) rfl dX2_reckon_136 ?_
                refine lv_iload hx hb dX2_reckon_139 (lv_at hl 0 rfl) ?_
                refine lv_iload hx hb dX2_reckon_141 (lv_at hl 1 rfl) ?_
                refine lv_ineg hx hb dX2_reckon_143 ?_
                refine lv_aload_n hx hb dX2_reckon_144 rfl (lv_at hl 2 rfl) ?_
                refine va_get (D := D) (v := .ref (Q_t 0)) (C := RX2) (T := TX2) (N := 1) hx hb hts iX2 hown hK.1 hP 0 rfl rfl 0 (by decide) (hts _ t_274) (fun _ h9 => h9) rfl dX2_reckon_145 ?_
                refine lv_iload hx hb dX2_reckon_148 (lv_at hl 0 rfl) ?_
                obtain ⟨g20, h⟩ := gd_some h
                refine ald_l hx hb hK.1 hP 1 1 rfl rfl ((x7 + (-1)).toNatClampNeg) (ix_g g20) dX2_reckon_150 ?_
                refine lv_aload_n hx hb dX2_reckon_151 rfl (lv_at hl 2 rfl) ?_
                refine va_get (D := D) (v := .ref (Q_t 0)) (C := RX2) (T := TX2) (N := 1) hx hb hts iX2 hown hK.1 hP 0 rfl rfl 0 (by decide) (hts _ t_274) (fun _ h9 => h9) rfl dX2_reckon_152 ?_
                refine lv_iload hx hb dX2_reckon_155 (lv_at hl 0 rfl) ?_
                refine lv_iconst (v := 1) hx hb dX2_reckon_157 (by decide) ?_
                refine lv_iadd hx hb dX2_reckon_158 ?_
                obtain ⟨g21, h⟩ := gd_some h
                refine ald_l hx hb hK.1 hP 1 1 rfl rfl (((x7 + (-1)) + 1).toNatClampNeg) (ix_g g21) dX2_reckon_159 ?_
                obtain ⟨r23, hc22, h⟩ := bd_some h
                refine cRl (runS (As := [.int (-(f_p1 x8.toNatClampNeg)), .long (gJ z_t 0 ((x7 + (-1)).toNatClampNeg)), .long (gJ z_t 0 (((x7 + (-1)) + 1).toNatClampNeg))]) (rest := [.int (x7 + (-1)), .ref (Q_t 0)]) C (mX2_join l D a hc22) lk_S_2_89 okN_X2_join ⟨Nat.le_of_ble_eq_true rfl, Nat.le_of_ble_eq_true rfl⟩ ⟨rfl, rfl⟩ (preR hK (P_of_map (wc := []) hP [] rfl)) hl.1 rfl (Nat.le_of_ble_eq_true rfl) dX2_reckon_160 ⟨Nat.le_of_ble_eq_true rfl, Nat.le_of_ble_eq_true rfl⟩) ?_
                refine ast_l hx hb hK.1 hP hD hS 1 1 rfl rfl ((x7 + (-1)).toNatClampNeg) (ix_g g20) dX2_reckon_163 (fun H locs hP hD hS => ?_)
                have hP : va_P D classes (rc2 a q_t Q_t (sJ z_t 0 ((x7 + (-1)).toNatClampNeg) r23) ++ (ra0 a q_p1 n_p1 f_p1 ++ (rc7 a q_p4 Q_p4 z_p4 ++ (rc0 a q_p5 Q_p5 z_p5)))) H := hP
                have hD : va_D A (rc2 a q_t Q_t (sJ z_t 0 ((x7 + (-1)).toNatClampNeg) r23) ++ (ra0 a q_p1 n_p1 f_p1 ++ (rc7 a q_p4 Q_p4 z_p4 ++ (rc0 a q_p5 Q_p5 z_p5)))) := hD
                exact hJ4 (sJ z_t 0 ((x7 + (-1)).toNatClampNeg) r23) (x7 + (-1)) _ _ ls h hP hD hS (lv_sub hl [2, 3, 4, 5, 6, 7, 0, 8] rfl)
              · have h := ite_f c19 h
                refine lv_lconst (v := 0) hx hb dX2_reckon_130 (by decide) ?_
                obtain rfl := Option.some.inj h
                exact retMl C rfl () rfl hP hD hS (Nat.le_refl 0) (Nat.le_refl 0) dX2_reckon_131
            · have h := ite_t c18 h
              refine lv_iload hx hb dX2_reckon_98 (lv_at hl 7 rfl) ?_
              refine lv_if_ge (tgt := 105) hx hb dX2_reckon_100 (by decide) (fun c24 => ?_) (fun c24 => ?_)
              · have h := ite_t c24 h
                refine lv_aload_n hx hb dX2_reckon_105 rfl (lv_at hl 1 rfl) ?_
                refine va_get (D := D) (v := .ref (Q_t 0)) (C := RX2) (T := TX2) (N := 1) hx hb hts iX2 hown hK.1 hP 0 rfl rfl 0 (by decide) (hts _ t_274) (fun _ h9 => h9) rfl dX2_reckon_106 ?_
                refine lv_iload hx hb dX2_reckon_109 (lv_at hl 7 rfl) ?_
                refine lv_lconst (v := 1) hx hb dX2_reckon_111 (by decide) ?_
                refine lv_aload_n hx hb dX2_reckon_112 rfl (lv_at hl 1 rfl) ?_
                refine va_get (D := D) (v := .ref (Q_t 0)) (C := RX2) (T := TX2) (N := 1) hx hb hts iX2 hown hK.1 hP 0 rfl rfl 0 (by decide) (hts _ t_274) (fun _ h9 => h9) rfl dX2_reckon_113 ?_
                refine lv_iload hx hb dX2_reckon_116 (lv_at hl 7 rfl) ?_
                obtain ⟨g25, h⟩ := gd_some h
                refine ald_l hx hb hK.1 hP 1 1 rfl rfl x7.toNatClampNeg (ix_g g25) dX2_reckon_118 ?_
                refine lv_lsub hx hb dX2_reckon_119 ?_
                refine ast_l hx hb hK.1 hP hD hS 1 1 rfl rfl x7.toNatClampNeg (ix_g g25) dX2_reckon_120 (fun H locs hP hD hS => ?_)
                have hP : va_P D classes (rc2 a q_t Q_t (sJ z_t 0 x7.toNatClampNeg (1 - (gJ z_t 0 x7.toNatClampNeg))) ++ (ra0 a q_p1 n_p1 f_p1 ++ (rc7 a q_p4 Q_p4 z_p4 ++ (rc0 a q_p5 Q_p5 z_p5)))) H := hP
                have hD : va_D A (rc2 a q_t Q_t (sJ z_t 0 x7.toNatClampNeg (1 - (gJ z_t 0 x7.toNatClampNeg))) ++ (ra0 a q_p1 n_p1 f_p1 ++ (rc7 a q_p4 Q_p4 z_p4 ++ (rc0 a q_p5 Q_p5 z_p5)))) := hD
                refine lv_goto (tgt := 164) hx hb dX2_reckon_121 (by decide) ?_
                exact hJ4 (sJ z_t 0 x7.toNatClampNeg (1 - (gJ z_t 0 x7.toNatClampNeg))) x7 _ _ ls h hP hD hS (lv_sub hl [1, 2, 3, 4, 5, 6, 7, 8] rfl)
              · have h := ite_f c24 h
                refine lv_lconst (v := 0) hx hb dX2_reckon_103 (by decide) ?_
                obtain rfl := Option.some.inj h
                exact retMl C rfl () rfl hP hD hS (Nat.le_refl 0) (Nat.le_refl 0) dX2_reckon_104
          · have h := ite_f c17 h
            exact hJ7 _ _ ls h hP hD hS (lv_sub hl [1, 2, 3, 4, 5, 6, 7, 8, 0] rfl)

set_option maxHeartbeats 4000000 in
set_option maxRecDepth 100000 in
theorem mX2_reckon (l : Launch) (D : va_G) (a : Nat → ClassId) {q_t : Nat} {q_p1 : Nat} {q_p4 : Nat} {q_p5 : Nat} {Q_t : Nat → Nat} {z_t : Sx} {n_p1 : Nat} {f_p1 : Nat → Int32} {Q_p4 : Nat → Nat} {z_p4 : Sx} {Q_p5 : Nat → Nat} {z_p5 : Sx} {x2 : Int32} {x3 : Int32} {x6 : Int32} {y : Int64 × Sx} (h : fX2_reckon z_t n_p1 f_p1 z_p4 z_p5 x2 x3 x6 = some y) (sz : Nat) : CMl (S := Unit) l MX2_reckon 2 48 0 0 D a [.ref q_t, .ref q_p1, .int x2, .int x3, .ref q_p4, .ref q_p5, .int x6] (rc2 a q_t Q_t z_t ++ (ra0 a q_p1 n_p1 f_p1 ++ (rc7 a q_p4 Q_p4 z_p4 ++ (rc0 a q_p5 Q_p5 z_p5)))) sz (fun r _ => r = y.1) (fun _ => rc2 a q_t Q_t y.2 ++ (ra0 a q_p1 n_p1 f_p1 ++ (rc7 a q_p4 Q_p4 z_p4 ++ (rc0 a q_p5 Q_p5 z_p5)))) := by
  unfold fX2_reckon at h
  refine entMl (by decide) (Nat.le_of_ble_eq_true rfl) ?_
  intro p e s m below meth c C hK A hA hP hD ls hl
  obtain ⟨hx, hb, hml, hown, hts, hr, hlocks, hnm⟩ := id C
  have hb : c.code = cX2_reckon := hb
  have hown : s.vm.findClass RX2 = some m.cls := hown
  have hS : va_S A s.heap s.heap [] := va_S.rf
  have hl : lv_has ls 10 [(0, .ref q_t), (1, .ref q_p1), (2, .int x2), (3, .int x3), (4, .ref q_p4), (5, .ref q_p5), (6, .int x6)] := hl
  refine lv_iconst (v := (-1)) hx hb dX2_reckon_0 (by decide) ?_
  refine lv_istore (lv' := [(7, .int (-1)), (0, .ref q_t), (1, .ref q_p1), (2, .int x2), (3, .int x3), (4, .ref q_p4), (5, .ref q_p5), (6, .int x6)]) hx hb dX2_reckon_1 hl (by decide) rfl (fun ls hl => ?_)
  refine lv_iload_n hx hb dX2_reckon_3 rfl (lv_at hl 3 rfl) ?_
  refine lv_iconst (v := 0) hx hb dX2_reckon_4 (by decide) ?_
  refine va_mmax hx hb (by rw [hml]; exact hl.1.symm) hown (hts _ t_716) (hts _ t_497) (hts _ t_14) (hts _ t_498) (Nat.le_of_ble_eq_true rfl) (Nat.le_of_ble_eq_true rfl) (Nat.le_of_ble_eq_true rfl) (Nat.le_of_ble_eq_true rfl) dX2_reckon_5 ?_
  refine lv_istore (lv' := [(8, .int (mxI x2 0)), (7, .int (-1)), (0, .ref q_t), (1, .ref q_p1), (2, .int x2), (3, .int x3), (4, .ref q_p4), (5, .ref q_p5), (6, .int x6)]) hx hb dX2_reckon_8 hl (by decide) rfl (fun ls hl => ?_)
  refine wX2_reckon_10 C hK hA ?_ FU z_t (-1) (mxI x2 0) _ _ ls h hP hD hS (lv_sub hl [2, 3, 5, 6, 7, 8, 1, 0] rfl)
  · intro z26 i27 H locs ls h hP hD hS hl
    refine lv_iload hx hb dX2_reckon_170 (lv_at hl 1 rfl) ?_
    refine lv_if_ge (tgt := 179) hx hb dX2_reckon_172 (by decide) (fun c28 => ?_) (fun c28 => ?_)
    · have h := ite_t c28 h
      refine lv_aload_n hx hb dX2_reckon_179 rfl (lv_at hl 0 rfl) ?_
      refine va_get (D := D) (v := .ref (Q_t 0)) (C := RX2) (T := TX2) (N := 1) hx hb hts iX2 hown hK.1 hP 0 rfl rfl 0 (by decide) (hts _ t_274) (fun _ h9 => h9) rfl dX2_reckon_180 ?_
      refine lv_iload hx hb dX2_reckon_183 (lv_at hl 1 rfl) ?_
      obtain ⟨g29, h⟩ := gd_some h
      refine ald_l hx hb hK.1 hP 1 1 rfl rfl i27.toNatClampNeg (ix_g g29) dX2_reckon_185 ?_
      obtain rfl := Option.some.inj h
      exact retMl C rfl () rfl hP hD hS (Nat.le_refl 0) (Nat.le_refl 0) dX2_reckon_186
    · have h := ite_f c28 h
      refine lv_lconst (v := 0) hx hb dX2_reckon_175 (by decide) ?_
      refine lv_goto (tgt := 186) hx hb dX2_reckon_176 (by decide) ?_
      obtain rfl := Option.some.inj h
      exact retMl C rfl () rfl hP hD hS (Nat.le_refl 0) (Nat.le_refl 0) dX2_reckon_186

set_option maxHeartbeats 4000000 in
set_option maxRecDepth 100000 in
theorem wX2_lookClause_3 {p : Program} {l : Launch} {e : Env} {s : State} {m : MethodId} {below : List Frame} {meth : Method} {c : Code} {D : va_G} {a : Nat → ClassId} {A : Nat → Prop} {q_t : Nat} {q_p1 : Nat} {q_p2 : Nat} {q_p3 : Nat} {Q_t : Nat → Nat} {Q_p1 : Nat → Nat} {Q_p2 : Nat → Nat} {Q_p3 : Nat → Nat} {z_p1 : Sx} {nc_p2 : Nat} {z_p2 : Sx} {z_p3 : Sx} {x40 : Int32} {x4 : Int32} (C : Cx p s m #[.ref q_t, .ref q_p1, .ref q_p2, .ref q_p3, .int x40] meth c MX2_lookClause) (hK : KK D a s) (hA : ∀ q, s.heap.size ≤ q → A q) {y : Int32 × Sx} : ∀ (n : Nat) (z_t : Sx) (x5 : Int32) (H : Heap) (locs : List Loc) (ls : Array Slot), lX2_lookClause_3 z_p1 nc_p2 z_p2 z_p3 x4 n z_t x5 = some y → va_P D classes (rc2 a q_t Q_t z_t ++ (rc7 a q_p1 Q_p1 z_p1 ++ (rc3 a q_p2 Q_p2 nc_p2 z_p2 ++ (rc0 a q_p3 Q_p3 z_p3)))) H → va_D A (rc2 a q_t Q_t z_t ++ (rc7 a q_p1 Q_p1 z_p1 ++ (rc3 a q_p2 Q_p2 nc_p2 z_p2 ++ (rc0 a q_p3 Q_p3 z_p3)))) → va_S A s.heap H locs → lv_has ls 9 [(0, .ref q_t), (1, .ref q_p1), (2, .ref q_p2), (3, .ref q_p3), (4, .int x4), (5, .int x5)] → W p l e (rmM 3 0 0 77) s m #[.ref q_t, .ref q_p1, .ref q_p2, .ref q_p3, .int x40] below meth c H locs 0 0 (MQ below (va_Qi (fun r (_ : Unit) => r = y.1) (Bw D A (fun _ => rc2 a q_t Q_t y.2 ++ (rc7 a q_p1 Q_p1 z_p1 ++ (rc3 a q_p2 Q_p2 nc_p2 z_p2 ++ (rc0 a q_p3 Q_p3 z_p3))))) A) #[.ref q_t, .ref q_p1, .ref q_p2, .ref q_p3, .int x40] s 0 0 A) (F0 m 3 ls []) := by
  obtain ⟨hx, hb, hml, hown, hts, hr, hlocks, hnm⟩ := id C
  have hb : c.code = cX2_lookClause := hb
  have hown : s.vm.findClass RX2 = some m.cls := hown
  intro n
  induction n with
  | zero => intro z_t x5 H locs ls h; rw [lX2_lookClause_3] at h; cases h
  | succ n ih =>
    intro z_t x5 H locs ls h hP hD hS hl
    rw [lX2_lookClause_3] at h
    refine lv_iload hx hb dX2_lookClause_3 (lv_at hl 5 rfl) ?_
    refine lv_aload_n hx hb dX2_lookClause_5 rfl (lv_at hl 2 rfl) ?_
    refine va_get (D := D) (v := .int (gI z_p2 1)) (C := RX3) (T := TX3) (N := 5) hx hb hts iX3 hown hK.1 hP 15 rfl rfl 1 (by decide) (hts _ t_584) (fun _ h9 => h9) rfl dX2_lookClause_6 ?_
    refine lv_icmp_ge (tgt := 97) hx hb dX2_lookClause_9 (by decide) (fun c1 => ?_) (fun c1 => ?_)
    · have h := ite_t c1 h
      refine lv_iconst (v := (-1)) hx hb dX2_lookClause_97 (by decide) ?_
      obtain rfl := Option.some.inj h
      exact retMi C rfl () rfl hP hD hS (Nat.le_refl 0) (Nat.le_refl 0) dX2_lookClause_98
    · have h := ite_f c1 h
      refine lv_aload_n hx hb dX2_lookClause_12 rfl (lv_at hl 2 rfl) ?_
      refine va_get (D := D) (v := .ref (Q_p2 3)) (C := RX3) (T := TX3) (N := 5) hx hb hts iX3 hown hK.1 hP 15 rfl rfl 3 (by decide) (hts _ t_588) (fun _ h9 => h9) rfl dX2_lookClause_13 ?_
      refine lv_iload hx hb dX2_lookClause_16 (lv_at hl 5 rfl) ?_
      obtain ⟨r3, hc2, h⟩ := bd_some h
      refine cRi (runN (As := [.ref (Q_p2 3), .int x5]) (rest := []) C hK (mX8_at l D a (q_p0 := (Q_p2 3)) hc2) lk_N_2_47 okN_X8_at ⟨Nat.le_of_ble_eq_true rfl, Nat.le_of_ble_eq_true rfl⟩ ⟨rfl, rfl⟩ (preR hK (P_of_map (wc := ra0 a (Q_p2 3) 12 (gT z_p2 3)) hP [18] rfl)) hl.1 rfl (Nat.le_of_ble_eq_true rfl) dX2_lookClause_18 ⟨Nat.le_of_ble_eq_true rfl, Nat.le_of_ble_eq_true rfl⟩) ?_
      refine lv_istore (lv' := [(6, .int r3), (0, .ref q_t), (1, .ref q_p1), (2, .ref q_p2), (3, .ref q_p3), (4, .int x4), (5, .int x5)]) hx hb dX2_lookClause_21 hl (by decide) rfl (fun ls hl => ?_)
      refine lv_aload_n hx hb dX2_lookClause_23 rfl (lv_at hl 3 rfl) ?_
      refine va_get (D := D) (v := .ref (Q_p2 4)) (C := RX3) (T := TX3) (N := 5) hx hb hts iX3 hown hK.1 hP 15 rfl rfl 4 (by decide) (hts _ t_590) (fun _ h9 => h9) rfl dX2_lookClause_24 ?_
      refine lv_iload hx hb dX2_lookClause_27 (lv_at hl 6 rfl) ?_
      obtain ⟨r5, hc4, h⟩ := bd_some h
      refine cRi (runN (As := [.ref (Q_p2 4), .int x5]) (rest := []) C hK (mX8_at l D a (q_p0 := (Q_p2 4)) hc4) lk_N_2_47 okN_X8_at ⟨Nat.le_of_ble_eq_true rfl, Nat.le_of_ble_eq_true rfl⟩ ⟨rfl, rfl⟩ (preR hK (P_of_map (wc := ra0 a (Q_p2 4) 12 (gT z_p2 4)) hP [19] rfl)) hl.1 rfl (Nat.le_of_ble_eq_true rfl) dX2_lookClause_29 ⟨Nat.le_of_ble_eq_true rfl, Nat.le_of_ble_eq_true rfl⟩) ?_
      refine lv_istore (lv' := [(7, .int r5), (6, .int r3), (0, .ref q_t), (1, .ref q_p1), (2, .ref q_p2), (3, .ref q_p3), (4, .int x4), (5, .int x5)]) hx hb dX2_lookClause_32 hl (by decide) rfl (fun ls hl => ?_)
      refine lv_aload_n hx hb dX2_lookClause_34 rfl (lv_at hl 4 rfl) ?_
      refine va_get (D := D) (v := .ref (Q_p2 2)) (C := RX3) (T := TX3) (N := 5) hx hb hts iX3 hown hK.1 hP 15 rfl rfl 2 (by decide) (hts _ t_586) (fun _ h9 => h9) rfl dX2_lookClause_35 ?_
      refine lv_iload hx hb dX2_lookClause_38 (lv_at hl 7 rfl) ?_
      obtain ⟨r7, hc6, h⟩ := bd_some h
      refine cRi (runN (As := [.ref (Q_p2 2), .int x5]) (rest := []) C hK (mX8_at l D a (q_p0 := (Q_p2 2)) hc6) lk_N_2_47 okN_X8_at ⟨Nat.le_of_ble_eq_true rfl, Nat.le_of_ble_eq_true rfl⟩ ⟨rfl, rfl⟩ (preR hK (P_of_map (wc := ra0 a (Q_p2 2) 12 (gT z_p2 2)) hP [17] rfl)) hl.1 rfl (Nat.le_of_ble_eq_true rfl) dX2_lookClause_40 ⟨Nat.le_of_ble_eq_true rfl, Nat.le_of_ble_eq_true rfl⟩) ?_
      refine lv_iload hx hb dX2_lookClause_43 (lv_at hl 1 rfl) ?_
      obtain ⟨J8, eJ8, h⟩ := jn_some h
      have hJ8 : ∀ (i9 : Int32) (H : Heap) (locs : List Loc) (ls : Array Slot), J8 i9 = some y → va_P D classes (rc2 a q_t Q_t z_t ++ (rc7 a q_p1 Q_p1 z_p1 ++ (rc3 a q_p2 Q_p2 nc_p2 z_p2 ++ (rc0 a q_p3 Q_p3 z_p3)))) H → va_D A (rc2 a q_t Q_t z_t ++ (rc7 a q_p1 Q_p1 z_p1 ++ (rc3 a q_p2 Q_p2 nc_p2 z_p2 ++ (rc0 a q_p3 Q_p3 z_p3)))) → va_S A s.heap H locs → lv_has ls 9 [(0, .ref q_t), (1, .ref q_p1), (2, .ref q_p2), (3, .ref q_p3), (4, .int x4), (5, .int x5), (6, .int r3), (7, .int r5)] → W p l e (rmM 3 0 0 77) s m #[.ref q_t, .ref q_p1, .ref q_p2, .ref q_p3, .int x40] below meth c H locs 0 0 (MQ below (va_Qi (fun r (_ : Unit) => r = y.1) (Bw D A (fun _ => rc2 a q_t Q_t y.2 ++ (rc7 a q_p1 Q_p1 z_p1 ++ (rc3 a q_p2 Q_p2 nc_p2 z_p2 ++ (rc0 a q_p3 Q_p3 z_p3))))) A) #[.ref q_t, .ref q_p1, .ref q_p2, .ref q_p3, .int x40] s 0 0 A) (F0 m 53 ls [.int i9]) := by
        intro i9 H locs ls h hP hD hS hl
        rw [eJ8] at h
        refine lv_istore (lv' := [(8, .int i9), (0, .ref q_t), (1, .ref q_p1), (2, .ref q_p2), (3, .ref q_p3), (4, .int x4), (5, .int x5), (6, .int r3), (7, .int r5)]) hx hb dX2_lookClause_53 hl (by decide) rfl (fun ls hl => ?_)
        refine lv_iload hx hb dX2_lookClause_55 (lv_at hl 0 rfl) ?_
        obtain ⟨J10, eJ10, h⟩ := jn_some h
        have hJ10 : ∀ (z11 : Sx) (H : Heap) (locs : List Loc) (ls : Array Slot), J10 z11 = some y → va_P D classes (rc2 a q_t Q_t z11 ++ (rc7 a q_p1 Q_p1 z_p1 ++ (rc3 a q_p2 Q_p2 nc_p2 z_p2 ++ (rc0 a q_p3 Q_p3 z_p3)))) H → va_D A (rc2 a q_t Q_t z11 ++ (rc7 a q_p1 Q_p1 z_p1 ++ (rc3 a q_p2 Q_p2 nc_p2 z_p2 ++ (rc0 a q_p3 Q_p3 z_p3)))) → va_S A s.heap H locs → lv_has ls 9 [(0, .ref q_t), (1, .ref q_p1), (2, .ref q_p2), (3, .ref q_p3), (4, .int x4), (5, .int x5)] → W p l e (rmM 3 0 0 77) s m #[.ref q_t, .ref q_p1, .ref q_p2, .ref q_p3, .int x40] below meth c H locs 0 0 (MQ below (va_Qi (fun r (_ : Unit) => r = y.1) (Bw D A (fun _ => rc2 a q_t Q_t y.2 ++ (rc7 a q_p1 Q_p1 z_p1 ++ (rc3 a q_p2 Q_p2 nc_p2 z_p2 ++ (rc0 a q_p3 Q_p3 z_p3))))) A) #[.ref q_t, .ref q_p1, .ref q_p2, .ref q_p3, .int x40] s 0 0 A) (F0 m 91 ls []) := by
          intro z11 H locs ls h hP hD hS hl
          rw [eJ10] at h
          refine lv_iinc (v := x5 + 1) (lv' := [(5, .int (x5 + 1)), (0, .ref q_t), (1, .ref q_p1), (2, .ref q_p2), (3, .ref q_p3), (4, .int x4)]) hx hb dX2_lookClause_91 hl (k := 5) rfl rfl (by decide) rfl (fun ls hl => ?_)
          refine lv_goto (tgt := 3) hx hb dX2_lookClause_94 (by decide) ?_
          exact ih z11 (x5 + 1) _ _ ls h hP hD hS (lv_sub hl [1, 2, 3, 4, 5, 0] rfl)
        refine lv_if_eq (tgt := 91) hx hb dX2_lookClause_57 (by decide) (fun c12 => ?_) (fun c12 => ?_)
        · have h := ite_t c12 h
          exact hJ10 z_t _ _ ls h hP hD hS (lv_sub hl [1, 2, 3, 4, 5, 6] rfl)
        · have h := ite_f c12 h
          refine lv_iload hx hb dX2_lookClause_60 (lv_at hl 7 rfl) ?_
          refine lv_iload hx hb dX2_lookClause_62 (lv_at hl 8 rfl) ?_
          refine lv_icmp_eq (tgt := 88) hx hb dX2_lookClause_64 (by decide) (fun c13 => ?_) (fun c13 => ?_)
          · have h := ite_t c13 h
            refine lv_iload hx hb dX2_lookClause_88 (lv_at hl 6 rfl) ?_
            obtain rfl := Option.some.inj h
            exact retMi C rfl () rfl hP hD hS (Nat.le_refl 0) (Nat.le_refl 0) dX2_lookClause_90
          · have h := ite_f c13 h
            refine lv_aload_n hx hb dX2_lookClause_67 rfl (lv_at hl 1 rfl) ?_
            refine lv_aload_n hx hb dX2_lookClause_68 rfl (lv_at hl 3 rfl) ?_
            refine va_get (D := D) (v := .ref (Q_p2 0)) (C := RX3) (T := TX3) (N := 5) hx hb hts iX3 hown hK.1 hP 15 rfl rfl 0 (by decide) (hts _ t_582) (fun _ h9 => h9) rfl dX2_lookClause_69 ?_
            refine lv_iload hx hb dX2_lookClause_72 (lv_at hl 7 rfl) ?_
            refine lv_iload hx hb dX2_lookClause_74 (lv_at hl 8 rfl) ?_
            refine lv_aload_n hx hb dX2_lookClause_76 rfl (lv_at hl 2 rfl) ?_
            refine lv_aload_n hx hb dX2_lookClause_77 rfl (lv_at hl 4 rfl) ?_
            refine lv_iload hx hb dX2_lookClause_78 (lv_at hl 5 rfl) ?_
            obtain ⟨r15, z16, hc14, h⟩ := bd2_some h
            refine cMl (runV (As := [.ref (Q_p2 0), .int r3, .int r5, .ref q_p1, .ref q_p3, .int x4]) (rest := []) C (mX2_reckon l D a (q_t := q_t) (q_p1 := (Q_p2 0)) (q_p4 := q_p1) (q_p5 := q_p3) (Q_t := Q_t) (Q_p4 := Q_p1) (Q_p5 := Q_p3) hc14 H.size) lk_V_2_69 okN_X2_reckon ⟨Nat.le_of_ble_eq_true rfl, Nat.le_of_ble_eq_true rfl⟩ ⟨rfl, rfl⟩ (preV (preM hK (P_of_map (wc := rc2 a q_t Q_t z_t ++ (ra0 a (Q_p2 0) nc_p2 (gT z_p2 0) ++ (rc7 a q_p1 Q_p1 z_p1 ++ (rc0 a q_p3 Q_p3 z_p3)))) hP [0, 1, 16, 2, 3, 4, 5, 6, 7, 8, 9, 10, 11, 12, 13, 14, 20, 21] rfl) (hD.sub (ws' := rc2 a q_t Q_t z_t ++ (ra0 a (Q_p2 0) nc_p2 (gT z_p2 0) ++ (rc7 a q_p1 Q_p1 z_p1 ++ (rc0 a q_p3 Q_p3 z_p3)))) [0, 1, 16, 2, 3, 4, 5, 6, 7, 8, 9, 10, 11, 12, 13, 14, 20, 21] (by decide) rfl)) (recvOf hK hP 0 rfl (ci := 2) rfl)) hl.1 rfl (Nat.le_of_ble_eq_true rfl) dX2_lookClause_80 ⟨Nat.le_of_ble_eq_true rfl, Nat.le_of_ble_eq_true rfl⟩) hP hD hS hA [0, 1, 16, 2, 3, 4, 5, 6, 7, 8, 9, 10, 11, 12, 13, 14, 20, 21] [15, 17, 18, 19] [4, 5, 7, 8, 9, 10, 11, 12, 13, 14, 15, 16, 17, 18, 19, 0, 6, 1, 2, 3, 20, 21] rfl rfl (by decide) (by decide) (fw := rc2 a q_t Q_t z16 ++ (rc7 a q_p1 Q_p1 z_p1 ++ (rc3 a q_p2 Q_p2 nc_p2 z_p2 ++ (rc0 a q_p3 Q_p3 z_p3)))) rfl (by decide) (fun H locs hP hD hS => ?_)
            have hP : va_P D classes (rc2 a q_t Q_t z16 ++ (rc7 a q_p1 Q_p1 z_p1 ++ (rc3 a q_p2 Q_p2 nc_p2 z_p2 ++ (rc0 a q_p3 Q_p3 z_p3)))) H := hP
            have hD : va_D A (rc2 a q_t Q_t z16 ++ (rc7 a q_p1 Q_p1 z_p1 ++ (rc3 a q_p2 Q_p2 nc_p2 z_p2 ++ (rc0 a q_p3 Q_p3 z_p3)))) := hD
            refine lv_lconst (v := 0) hx hb dX2_lookClause_83 (by decide) ?_
            refine W.lcmp hx hb dX2_lookClause_84 ?_
            refine lv_if_eq (tgt := 91) hx hb dX2_lookClause_85 (by decide) (fun c17 => ?_) (fun c17 => ?_)
            · have h := ite_t ((lg_cmp_eq _ _).mp c17) h
              exact hJ10 z16 _ _ ls h hP hD hS (lv_sub hl [1, 2, 3, 4, 5, 6] rfl)
            · have h := ite_f (fun q => c17 ((lg_cmp_eq _ _).mpr q)) h
              refine lv_iload hx hb dX2_lookClause_88 (lv_at hl 6 rfl) ?_
              obtain rfl := Option.some.inj h
              exact retMi C rfl () rfl hP hD hS (Nat.le_refl 0) (Nat.le_refl 0) dX2_lookClause_90
      refine lv_icmp_ge (tgt := 52) hx hb dX2_lookClause_45 (by decide) (fun c18 => ?_) (fun c18 => ?_)
      · have h := ite_t c18 h
        refine lv_iconst (v := 0) hx hb dX2_lookClause_52 (by decide) ?_
        exact hJ8 0 _ _ ls h hP hD hS (lv_sub hl [2, 3, 4, 5, 6, 7, 1, 0] rfl)
      · have h := ite_f c18 h
        refine lv_iconst (v := 1) hx hb dX2_lookClause_48 (by decide) ?_
        refine lv_goto (tgt := 53) hx hb dX2_lookClause_49 (by decide) ?_
        exact hJ8 1 _ _ ls h hP hD hS (lv_sub hl [2, 3, 4, 5, 6, 7, 1, 0] rfl)

set_option maxHeartbeats 4000000 in
set_option maxRecDepth 100000 in
theorem mX2_lookClause (l : Launch) (D : va_G) (a : Nat → ClassId) {q_t : Nat} {q_p1 : Nat} {q_p2 : Nat} {q_p3 : Nat} {Q_t : Nat → Nat} {z_t : Sx} {Q_p1 : Nat → Nat} {z_p1 : Sx} {Q_p2 : Nat → Nat} {nc_p2 : Nat} {z_p2 : Sx} {Q_p3 : Nat → Nat} {z_p3 : Sx} {x4 : Int32} {y : Int32 × Sx} (h : fX2_lookClause z_t z_p1 nc_p2 z_p2 z_p3 x4 = some y) (sz : Nat) : CMi (S := Unit) l MX2_lookClause 3 77 0 0 D a [.ref q_t, .ref q_p1, .ref q_p2, .ref q_p3, .int x4] (rc2 a q_t Q_t z_t ++ (rc7 a q_p1 Q_p1 z_p1 ++ (rc3 a q_p2 Q_p2 nc_p2 z_p2 ++ (rc0 a q_p3 Q_p3 z_p3)))) sz (fun r _ => r = y.1) (fun _ => rc2 a q_t Q_t y.2 ++ (rc7 a q_p1 Q_p1 z_p1 ++ (rc3 a q_p2 Q_p2 nc_p2 z_p2 ++ (rc0 a q_p3 Q_p3 z_p3)))) := by
  unfold fX2_lookClause at h
  refine entMi (by decide) (Nat.le_of_ble_eq_true rfl) ?_
  intro p e s m below meth c C hK A hA hP hD ls hl
  obtain ⟨hx, hb, hml, hown, hts, hr, hlocks, hnm⟩ := id C
  have hb : c.code = cX2_lookClause := hb
  have hown : s.vm.findClass RX2 = some m.cls := hown
  have hS : va_S A s.heap s.heap [] := va_S.rf
  have hl : lv_has ls 9 [(0, .ref q_t), (1, .ref q_p1), (2, .ref q_p2), (3, .ref q_p3), (4, .int x4)] := hl
  refine lv_iconst (v := 0) hx hb dX2_lookClause_0 (by decide) ?_
  refine lv_istore (lv' := [(5, .int 0), (0, .ref q_t), (1, .ref q_p1), (2, .ref q_p2), (3, .ref q_p3), (4, .int x4)]) hx hb dX2_lookClause_1 hl (by decide) rfl (fun ls hl => ?_)
  refine wX2_lookClause_3 C hK hA FU z_t 0 _ _ ls h hP hD hS (lv_sub hl [1, 2, 3, 4, 5, 0] rfl)

set_option maxHeartbeats 4000000 in
set_option maxRecDepth 100000 in
theorem wX2_nextFault_9 {p : Program} {l : Launch} {e : Env} {s : State} {m : MethodId} {below : List Frame} {meth : Method} {c : Code} {D : va_G} {a : Nat → ClassId} {A : Nat → Prop} {q_t : Nat} {q_p1 : Nat} {q_p2 : Nat} {q_p3 : Nat} {Q_t : Nat → Nat} {Q_p1 : Nat → Nat} {Q_p2 : Nat → Nat} {Q_p3 : Nat → Nat} {z_p1 : Sx} {nc_p2 : Nat} {z_p2 : Sx} {z_p3 : Sx} (C : Cx p s m #[.ref q_t, .ref q_p1, .ref q_p2, .ref q_p3] meth c MX2_nextFault) (hK : KK D a s) (hA : ∀ q, s.heap.size ≤ q → A q) {y : Int32 × Sx} : ∀ (n : Nat) (z_t : Sx) (x4 : Int32) (x5 : Int64) (x7 : Int32) (H : Heap) (locs : List Loc) (ls : Array Slot), lX2_nextFault_9 z_p1 nc_p2 z_p2 z_p3 n z_t x4 x5 x7 = some y → va_P D classes (rc2 a q_t Q_t z_t ++ (rc7 a q_p1 Q_p1 z_p1 ++ (rc3 a q_p2 Q_p2 nc_p2 z_p2 ++ (rc0 a q_p3 Q_p3 z_p3)))) H → va_D A (rc2 a q_t Q_t z_t ++ (rc7 a q_p1 Q_p1 z_p1 ++ (rc3 a q_p2 Q_p2 nc_p2 z_p2 ++ (rc0 a q_p3 Q_p3 z_p3)))) → va_S A s.heap H locs → lv_has ls 13 [(0, .ref q_t), (1, .ref q_p1), (2, .ref q_p2), (3, .ref q_p3), (4, .int x4), (5, .long x5), (7, .int x7)] → W p l e (rmM 4 0 0 105) s m #[.ref q_t, .ref q_p1, .ref q_p2, .ref q_p3] below meth c H locs 0 0 (MQ below (va_Qi (fun r (_ : Unit) => r = y.1) (Bw D A (fun _ => rc2 a q_t Q_t y.2 ++ (rc7 a q_p1 Q_p1 z_p1 ++ (rc3 a q_p2 Q_p2 nc_p2 z_p2 ++ (rc0 a q_p3 Q_p3 z_p3))))) A) #[.ref q_t, .ref q_p1, .ref q_p2, .ref q_p3] s 0 0 A) (F0 m 9 ls []) := by
  obtain ⟨hx, hb, hml, hown, hts, hr, hlocks, hnm⟩ := id C
  have hb : c.code = cX2_nextFault := hb
  have hown : s.vm.findClass RX2 = some m.cls := hown
  intro n
  induction n with
  | zero => intro z_t x4 x5 x7 H locs ls h; rw [lX2_nextFault_9] at h; cases h
  | succ n ih =>
    intro z_t x4 x5 x7 H locs ls h hP hD hS hl
    rw [lX2_nextFault_9] at h
    refine lv_iload hx hb dX2_nextFault_9 (lv_at hl 6 rfl) ?_
    refine lv_aload_n hx hb dX2_nextFault_11 rfl (lv_at hl 1 rfl) ?_
    refine va_get (D := D) (v := .int (gI z_p1 3)) (C := RX7) (T := TX7) (N := 18) hx hb hts iX7 hown hK.1 hP 2 rfl rfl 3 (by decide) (hts _ t_46) (fun _ h9 => h9) rfl dX2_nextFault_12 ?_
    refine lv_icmp_ge (tgt := 142) hx hb dX2_nextFault_15 (by decide) (fun c1 => ?_) (fun c1 => ?_)
    · have h := ite_t c1 h
      refine lv_iload hx hb dX2_nextFault_142 (lv_at hl 4 rfl) ?_
      exact rMi C rfl h (g := fun y => rc2 a q_t Q_t y.2 ++ (rc7 a q_p1 Q_p1 z_p1 ++ (rc3 a q_p2 Q_p2 nc_p2 z_p2 ++ (rc0 a q_p3 Q_p3 z_p3)))) (pr := fun y => y.1) hP hD hS dX2_nextFault_144
    · have h := ite_f c1 h
      refine lv_aload_n hx hb dX2_nextFault_18 rfl (lv_at hl 1 rfl) ?_
      refine lv_iload hx hb dX2_nextFault_19 (lv_at hl 6 rfl) ?_
      refine lv_aload_n hx hb dX2_nextFault_21 rfl (lv_at hl 3 rfl) ?_
      obtain ⟨r3, hc2, h⟩ := bd_some h
      refine cRi (runV (As := []) (rest := [.int x7, .ref q_p1]) C (mX0_gone l D a (q_t := q_p3) (Q_t := Q_p3) hc2) lk_V_2_35 okN_X0_gone ⟨Nat.le_of_ble_eq_true rfl, Nat.le_of_ble_eq_true rfl⟩ ⟨rfl, rfl⟩ (preV (preR hK (P_of_map (wc := rc0 a q_p3 Q_p3 z_p3) hP [20, 21] rfl)) (recvOf hK hP 20 rfl (ci := 0) rfl)) hl.1 rfl (Nat.le_of_ble_eq_true rfl) dX2_nextFault_22 ⟨Nat.le_of_ble_eq_true rfl, Nat.le_of_ble_eq_true rfl⟩) ?_
      obtain ⟨r5, hc4, h⟩ := bd_some h
      refine cRi (runV (As := [.int x7, .int r3]) (rest := []) C (mX7_isOpen l D a (q_t := q_p1) (Q_t := Q_p1) hc4) lk_V_2_39 okN_X7_isOpen ⟨Nat.le_of_ble_eq_true rfl, Nat.le_of_ble_eq_true rfl⟩ ⟨rfl, rfl⟩ (preV (preR hK (P_of_map (wc := rc7 a q_p1 Q_p1 z_p1) hP [2, 3, 4, 5, 6, 7, 8, 9, 10, 11, 12, 13, 14] rfl)) (recvOf hK hP 2 rfl (ci := 7) rfl)) hl.1 rfl (Nat.le_of_ble_eq_true rfl) dX2_nextFault_25 ⟨Nat.le_of_ble_eq_true rfl, Nat.le_of_ble_eq_true rfl⟩) ?_
      obtain ⟨J6, eJ6, h⟩ := jn_some h
      have hJ6 : ∀ (i7 : Int32) (H : Heap) (locs : List Loc) (ls : Array Slot), J6 i7 = some y → va_P D classes (rc2 a q_t Q_t z_t ++ (rc7 a q_p1 Q_p1 z_p1 ++ (rc3 a q_p2 Q_p2 nc_p2 z_p2 ++ (rc0 a q_p3 Q_p3 z_p3)))) H → va_D A (rc2 a q_t Q_t z_t ++ (rc7 a q_p1 Q_p1 z_p1 ++ (rc3 a q_p2 Q_p2 nc_p2 z_p2 ++ (rc0 a q_p3 Q_p3 z_p3)))) → va_S A s.heap H locs → lv_has ls 13 [(0, .ref q_t), (1, .ref q_p1), (2, .ref q_p2), (3, .ref q_p3), (4, .int x4), (5, .long x5), (7, .int x7)] → W p l e (rmM 4 0 0 105) s m #[.ref q_t, .ref q_p1, .ref q_p2, .ref q_p3] below meth c H locs 0 0 (MQ below (va_Qi (fun r (_ : Unit) => r = y.1) (Bw D A (fun _ => rc2 a q_t Q_t y.2 ++ (rc7 a q_p1 Q_p1 z_p1 ++ (rc3 a q_p2 Q_p2 nc_p2 z_p2 ++ (rc0 a q_p3 Q_p3 z_p3))))) A) #[.ref q_t, .ref q_p1, .ref q_p2, .ref q_p3] s 0 0 A) (F0 m 52 ls [.int i7]) := by
        intro i7 H locs ls h hP hD hS hl
        rw [eJ6] at h
        refine lv_istore (lv' := [(8, .int i7), (0, .ref q_t), (1, .ref q_p1), (2, .ref q_p2), (3, .ref q_p3), (4, .int x4), (5, .long x5), (7, .int x7)]) hx hb dX2_nextFault_52 hl (by decide) rfl (fun ls hl => ?_)
        refine lv_iload hx hb dX2_nextFault_54 (lv_at hl 0 rfl) ?_
        obtain ⟨J8, eJ8, h⟩ := jn_some h
        have hJ8 : ∀ (z9 : Sx) (i10 : Int32) (H : Heap) (locs : List Loc) (ls : Array Slot), J8 z9 i10 = some y → va_P D classes (rc2 a q_t Q_t z9 ++ (rc7 a q_p1 Q_p1 z_p1 ++ (rc3 a q_p2 Q_p2 nc_p2 z_p2 ++ (rc0 a q_p3 Q_p3 z_p3)))) H → va_D A (rc2 a q_t Q_t z9 ++ (rc7 a q_p1 Q_p1 z_p1 ++ (rc3 a q_p2 Q_p2 nc_p2 z_p2 ++ (rc0 a q_p3 Q_p3 z_p3)))) → va_S A s.heap H locs → lv_has ls 13 [(0, .ref q_t), (1, .ref q_p1), (2, .ref q_p2), (3, .ref q_p3), (4, .int x4), (5, .long x5), (7, .int x7)] → W p l e (rmM 4 0 0 105) s m #[.ref q_t, .ref q_p1, .ref q_p2, .ref q_p3] below meth c H locs 0 0 (MQ below (va_Qi (fun r (_ : Unit) => r = y.1) (Bw D A (fun _ => rc2 a q_t Q_t y.2 ++ (rc7 a q_p1 Q_p1 z_p1 ++ (rc3 a q_p2 Q_p2 nc_p2 z_p2 ++ (rc0 a q_p3 Q_p3 z_p3))))) A) #[.ref q_t, .ref q_p1, .ref q_p2, .ref q_p3] s 0 0 A) (F0 m 72 ls [.int i10]) := by
          intro z9 i10 H locs ls h hP hD hS hl
          rw [eJ8] at h
          refine lv_istore (lv' := [(9, .int i10), (0, .ref q_t), (1, .ref q_p1), (2, .ref q_p2), (3, .ref q_p3), (4, .int x4), (5, .long x5), (7, .int x7)]) hx hb dX2_nextFault_72 hl (by decide) rfl (fun ls hl => ?_)
          refine lv_iload hx hb dX2_nextFault_74 (lv_at hl 0 rfl) ?_
          obtain ⟨J11, eJ11, h⟩ := jn_some h
          have hJ11 : ∀ (z12 : Sx) (i13 : Int32) (i14 : Int64) (H : Heap) (locs : List Loc) (ls : Array Slot), J11 z12 i13 i14 = some y → va_P D classes (rc2 a q_t Q_t z12 ++ (rc7 a q_p1 Q_p1 z_p1 ++ (rc3 a q_p2 Q_p2 nc_p2 z_p2 ++ (rc0 a q_p3 Q_p3 z_p3)))) H → va_D A (rc2 a q_t Q_t z12 ++ (rc7 a q_p1 Q_p1 z_p1 ++ (rc3 a q_p2 Q_p2 nc_p2 z_p2 ++ (rc0 a q_p3 Q_p3 z_p3)))) → va_S A s.heap H locs → lv_has ls 13 [(0, .ref q_t), (1, .ref q_p1), (2, .ref q_p2), (3, .ref q_p3), (4, .int i13), (5, .long i14), (7, .int x7)] → W p l e (rmM 4 0 0 105) s m #[.ref q_t, .ref q_p1, .ref q_p2, .ref q_p3] below meth c H locs 0 0 (MQ below (va_Qi (fun r (_ : Unit) => r = y.1) (Bw D A (fun _ => rc2 a q_t Q_t y.2 ++ (rc7 a q_p1 Q_p1 z_p1 ++ (rc3 a q_p2 Q_p2 nc_p2 z_p2 ++ (rc0 a q_p3 Q_p3 z_p3))))) A) #[.ref q_t, .ref q_p1, .ref q_p2, .ref q_p3] s 0 0 A) (F0 m 136 ls []) := by
            intro z12 i13 i14 H locs ls h hP hD hS hl
            rw [eJ11] at h
            refine lv_iinc (v := x7 + 1) (lv' := [(7, .int (x7 + 1)), (0, .ref q_t), (1, .ref q_p1), (2, .ref q_p2), (3, .ref q_p3), (4, .int i13), (5, .long i14)]) hx hb dX2_nextFault_136 hl (k := 6) rfl rfl (by decide) rfl (fun ls hl => ?_)
            refine lv_goto (tgt := 9) hx hb dX2_nextFault_139 (by decide) ?_
            exact ih z12 i13 i14 (x7 + 1) _ _ ls h hP hD hS (lv_sub hl [1, 2, 3, 4, 5, 6, 0] rfl)
          refine lv_if_lt (tgt := 136) hx hb dX2_nextFault_76 (by decide) (fun c15 => ?_) (fun c15 => ?_)
          · have h := ite_t c15 h
            exact hJ11 z9 x4 x5 _ _ ls h hP hD hS (lv_sub hl [1, 2, 3, 4, 5, 6, 7] rfl)
          · have h := ite_f c15 h
            refine lv_aload_n hx hb dX2_nextFault_79 rfl (lv_at hl 3 rfl) ?_
            refine va_get (D := D) (v := .ref (Q_p2 2)) (C := RX3) (T := TX3) (N := 5) hx hb hts iX3 hown hK.1 hP 15 rfl rfl 2 (by decide) (hts _ t_586) (fun _ h9 => h9) rfl dX2_nextFault_80 ?_
            refine lv_iload hx hb dX2_nextFault_83 (lv_at hl 0 rfl) ?_
            obtain ⟨r17, hc16, h⟩ := bd_some h
            refine cRi (runN (As := [.ref (Q_p2 2), .int i10]) (rest := []) C hK (mX8_at l D a (q_p0 := (Q_p2 2)) hc16) lk_N_2_47 okN_X8_at ⟨Nat.le_of_ble_eq_true rfl, Nat.le_of_ble_eq_true rfl⟩ ⟨rfl, rfl⟩ (preR hK (P_of_map (wc := ra0 a (Q_p2 2) 12 (gT z_p2 2)) hP [17] rfl)) hl.1 rfl (Nat.le_of_ble_eq_true rfl) dX2_nextFault_85 ⟨Nat.le_of_ble_eq_true rfl, Nat.le_of_ble_eq_true rfl⟩) ?_
            refine lv_istore (lv' := [(10, .int r17), (9, .int i10), (0, .ref q_t), (1, .ref q_p1), (2, .ref q_p2), (3, .ref q_p3), (4, .int x4), (5, .long x5), (7, .int x7)]) hx hb dX2_nextFault_88 hl (by decide) rfl (fun ls hl => ?_)
            refine lv_aload_n hx hb dX2_nextFault_90 rfl (lv_at hl 2 rfl) ?_
            refine lv_aload_n hx hb dX2_nextFault_91 rfl (lv_at hl 4 rfl) ?_
            refine va_get (D := D) (v := .ref (Q_p2 0)) (C := RX3) (T := TX3) (N := 5) hx hb hts iX3 hown hK.1 hP 15 rfl rfl 0 (by decide) (hts _ t_582) (fun _ h9 => h9) rfl dX2_nextFault_92 ?_
            refine lv_iload hx hb dX2_nextFault_95 (lv_at hl 0 rfl) ?_
            refine lv_aload_n hx hb dX2_nextFault_97 rfl (lv_at hl 4 rfl) ?_
            refine va_get (D := D) (v := .ref (Q_p2 3)) (C := RX3) (T := TX3) (N := 5) hx hb hts iX3 hown hK.1 hP 15 rfl rfl 3 (by decide) (hts _ t_588) (fun _ h9 => h9) rfl dX2_nextFault_98 ?_
            refine lv_iload hx hb dX2_nextFault_101 (lv_at hl 1 rfl) ?_
            obtain ⟨r19, hc18, h⟩ := bd_some h
            refine cRi (runN (As := [.ref (Q_p2 3), .int i10]) (rest := [.int r17, .ref (Q_p2 0), .ref q_t]) C hK (mX8_at l D a (q_p0 := (Q_p2 3)) hc18) lk_N_2_47 okN_X8_at ⟨Nat.le_of_ble_eq_true rfl, Nat.le_of_ble_eq_true rfl⟩ ⟨rfl, rfl⟩ (preR hK (P_of_map (wc := ra0 a (Q_p2 3) 12 (gT z_p2 3)) hP [18] rfl)) hl.1 rfl (Nat.le_of_ble_eq_true rfl) dX2_nextFault_103 ⟨Nat.le_of_ble_eq_true rfl, Nat.le_of_ble_eq_true rfl⟩) ?_
            refine lv_aload_n hx hb dX2_nextFault_106 rfl (lv_at hl 3 rfl) ?_
            refine lv_aload_n hx hb dX2_nextFault_107 rfl (lv_at hl 5 rfl) ?_
            refine lv_iload hx hb dX2_nextFault_108 (lv_at hl 8 rfl) ?_
            obtain ⟨r21, z22, hc20, h⟩ := bd2_some h
            refine cMl (runV (As := [.ref (Q_p2 0), .int r17, .int r19, .ref q_p1, .ref q_p3, .int x7]) (rest := []) C (mX2_reckon l D a (q_t := q_t) (q_p1 := (Q_p2 0)) (q_p4 := q_p1) (q_p5 := q_p3) (Q_t := Q_t) (Q_p4 := Q_p1) (Q_p5 := Q_p3) hc20 H.size) lk_V_2_69 okN_X2_reckon ⟨Nat.le_of_ble_eq_true rfl, Nat.le_of_ble_eq_true rfl⟩ ⟨rfl, rfl⟩ (preV (preM hK (P_of_map (wc := rc2 a q_t Q_t z9 ++ (ra0 a (Q_p2 0) nc_p2 (gT z_p2 0) ++ (rc7 a q_p1 Q_p1 z_p1 ++ (rc0 a q_p3 Q_p3 z_p3)))) hP [0, 1, 16, 2, 3, 4, 5, 6, 7, 8, 9, 10, 11, 12, 13, 14, 20, 21] rfl) (hD.sub (ws' := rc2 a q_t Q_t z9 ++ (ra0 a (Q_p2 0) nc_p2 (gT z_p2 0) ++ (rc7 a q_p1 Q_p1 z_p1 ++ (rc0 a q_p3 Q_p3 z_p3)))) [0, 1, 16, 2, 3, 4, 5, 6, 7, 8, 9, 10, 11, 12, 13, 14, 20, 21] (by decide) rfl)) (recvOf hK hP 0 rfl (ci := 2) rfl)) hl.1 rfl (Nat.le_of_ble_eq_true rfl) dX2_nextFault_110 ⟨Nat.le_of_ble_eq_true rfl, Nat.le_of_ble_eq_true rfl⟩) hP hD hS hA [0, 1, 16, 2, 3, 4, 5, 6, 7, 8, 9, 10, 11, 12, 13, 14, 20, 21] [15, 17, 18, 19] [4, 5, 7, 8, 9, 10, 11, 12, 13, 14, 15, 16, 17, 18, 19, 0, 6, 1, 2, 3, 20, 21] rfl rfl (by decide) (by decide) (fw := rc2 a q_t Q_t z22 ++ (rc7 a q_p1 Q_p1 z_p1 ++ (rc3 a q_p2 Q_p2 nc_p2 z_p2 ++ (rc0 a q_p3 Q_p3 z_p3)))) rfl (by decide) (fun H locs hP hD hS => ?_)
            have hP : va_P D classes (rc2 a q_t Q_t z22 ++ (rc7 a q_p1 Q_p1 z_p1 ++ (rc3 a q_p2 Q_p2 nc_p2 z_p2 ++ (rc0 a q_p3 Q_p3 z_p3)))) H := hP
            have hD : va_D A (rc2 a q_t Q_t z22 ++ (rc7 a q_p1 Q_p1 z_p1 ++ (rc3 a q_p2 Q_p2 nc_p2 z_p2 ++ (rc0 a q_p3 Q_p3 z_p3)))) := hD
            refine lv_lstore (lv' := [(11, .long r21), (10, .int r17), (9, .int i10), (0, .ref q_t), (1, .ref q_p1), (2, .ref q_p2), (3, .ref q_p3), (4, .int x4), (5, .long x5), (7, .int x7)]) hx hb dX2_nextFault_113 hl (by decide) rfl (fun ls hl => ?_)
            refine lv_iload hx hb dX2_nextFault_115 (lv_at hl 7 rfl) ?_
            obtain ⟨J23, eJ23, h⟩ := jn_some h
            have hJ23 : ∀ (H : Heap) (locs : List Loc) (ls : Array Slot), J23 = some y → va_P D classes (rc2 a q_t Q_t z22 ++ (rc7 a q_p1 Q_p1 z_p1 ++ (rc3 a q_p2 Q_p2 nc_p2 z_p2 ++ (rc0 a q_p3 Q_p3 z_p3)))) H → va_D A (rc2 a q_t Q_t z22 ++ (rc7 a q_p1 Q_p1 z_p1 ++ (rc3 a q_p2 Q_p2 nc_p2 z_p2 ++ (rc0 a q_p3 Q_p3 z_p3)))) → va_S A s.heap H locs → lv_has ls 13 [(0, .ref q_t), (1, .ref q_p1), (2, .ref q_p2), (3, .ref q_p3), (7, .int x7), (11, .long r21)] → W p l e (rmM 4 0 0 105) s m #[.ref q_t, .ref q_p1, .ref q_p2, .ref q_p3] below meth c H locs 0 0 (MQ below (va_Qi (fun r (_ : Unit) => r = y.1) (Bw D A (fun _ => rc2 a q_t Q_t y.2 ++ (rc7 a q_p1 Q_p1 z_p1 ++ (rc3 a q_p2 Q_p2 nc_p2 z_p2 ++ (rc0 a q_p3 Q_p3 z_p3))))) A) #[.ref q_t, .ref q_p1, .ref q_p2, .ref q_p3] s 0 0 A) (F0 m 128 ls []) := by
              intro H locs ls h hP hD hS hl
              rw [eJ23] at h
              refine lv_iload hx hb dX2_nextFault_128 (lv_at hl 4 rfl) ?_
              refine lv_istore (lv' := [(4, .int x7), (0, .ref q_t), (1, .ref q_p1), (2, .ref q_p2), (3, .ref q_p3), (7, .int x7), (11, .long r21)]) hx hb dX2_nextFault_130 hl (by decide) rfl (fun ls hl => ?_)
              refine lv_lload hx hb dX2_nextFault_132 (lv_at hl 6 rfl) ?_
              refine lv_lstore (lv' := [(5, .long r21), (4, .int x7), (0, .ref q_t), (1, .ref q_p1), (2, .ref q_p2), (3, .ref q_p3), (7, .int x7), (11, .long r21)]) hx hb dX2_nextFault_134 hl (by decide) rfl (fun ls hl => ?_)
              exact hJ11 z22 x7 r21 _ _ ls h hP hD hS (lv_sub hl [2, 3, 4, 5, 1, 0, 6] rfl)
            refine lv_if_lt (tgt := 128) hx hb dX2_nextFault_117 (by decide) (fun c24 => ?_) (fun c24 => ?_)
            · have h := ite_t c24 h
              exact hJ23 _ _ ls h hP hD hS (lv_sub hl [3, 4, 5, 6, 9, 0] rfl)
            · have h := ite_f c24 h
              refine lv_lload hx hb dX2_nextFault_120 (lv_at hl 0 rfl) ?_
              refine lv_lload hx hb dX2_nextFault_122 (lv_at hl 8 rfl) ?_
              refine W.lcmp hx hb dX2_nextFault_124 ?_
              refine lv_if_ge (tgt := 136) hx hb dX2_nextFault_125 (by decide) (fun c25 => ?_) (fun c25 => ?_)
              · have h := ite_t ((lg_cmp_ge _ _).mp c25) h
                exact hJ11 z22 x4 x5 _ _ ls h hP hD hS (lv_sub hl [3, 4, 5, 6, 7, 8, 9] rfl)
              · have h := ite_f (fun q => c25 ((lg_cmp_ge _ _).mpr q)) h
                exact hJ23 _ _ ls h hP hD hS (lv_sub hl [3, 4, 5, 6, 9, 0] rfl)
        refine lv_if_eq (tgt := 71) hx hb dX2_nextFault_56 (by decide) (fun c26 => ?_) (fun c26 => ?_)
        · have h := ite_t c26 h
          refine lv_iconst (v := (-1)) hx hb dX2_nextFault_71 (by decide) ?_
          exact hJ8 z_t (-1) _ _ ls h hP hD hS (lv_sub hl [1, 2, 3, 4, 5, 6, 7] rfl)
        · have h := ite_f c26 h
          refine lv_aload_n hx hb dX2_nextFault_59 rfl (lv_at hl 1 rfl) ?_
          refine lv_aload_n hx hb dX2_nextFault_60 rfl (lv_at hl 2 rfl) ?_
          refine lv_aload_n hx hb dX2_nextFault_61 rfl (lv_at hl 3 rfl) ?_
          refine lv_aload_n hx hb dX2_nextFault_62 rfl (lv_at hl 4 rfl) ?_
          refine lv_iload hx hb dX2_nextFault_63 (lv_at hl 7 rfl) ?_
          obtain ⟨r28, z29, hc27, h⟩ := bd2_some h
          refine cWi (runV (As := [.ref q_p1, .ref q_p2, .ref q_p3, .int x7]) (rest := []) C (mX2_lookClause l D a (q_t := q_t) (q_p1 := q_p1) (q_p2 := q_p2) (q_p3 := q_p3) (Q_t := Q_t) (Q_p1 := Q_p1) (Q_p2 := Q_p2) (Q_p3 := Q_p3) hc27 H.size) lk_V_2_54 okN_X2_lookClause ⟨Nat.le_of_ble_eq_true rfl, Nat.le_of_ble_eq_true rfl⟩ ⟨rfl, rfl⟩ (preV (preM hK hP hD) (recvOf hK hP 0 rfl (ci := 2) rfl)) hl.1 rfl (Nat.le_of_ble_eq_true rfl) dX2_nextFault_65 ⟨Nat.le_of_ble_eq_true rfl, Nat.le_of_ble_eq_true rfl⟩) hP hD hS hA (fun H locs hP hD hS => ?_)
          have hP : va_P D classes (rc2 a q_t Q_t z29 ++ (rc7 a q_p1 Q_p1 z_p1 ++ (rc3 a q_p2 Q_p2 nc_p2 z_p2 ++ (rc0 a q_p3 Q_p3 z_p3)))) H := hP
          have hD : va_D A (rc2 a q_t Q_t z29 ++ (rc7 a q_p1 Q_p1 z_p1 ++ (rc3 a q_p2 Q_p2 nc_p2 z_p2 ++ (rc0 a q_p3 Q_p3 z_p3)))) := hD
          refine lv_goto (tgt := 72) hx hb dX2_nextFault_68 (by decide) ?_
          exact hJ8 z29 r28 _ _ ls h hP hD hS (lv_sub hl [1, 2, 3, 4, 5, 6, 7] rfl)
      obtain ⟨J30, eJ30, h⟩ := jn_some h
      have hJ30 : ∀ (H : Heap) (locs : List Loc) (ls : Array Slot), J30 = some y → va_P D classes (rc2 a q_t Q_t z_t ++ (rc7 a q_p1 Q_p1 z_p1 ++ (rc3 a q_p2 Q_p2 nc_p2 z_p2 ++ (rc0 a q_p3 Q_p3 z_p3)))) H → va_D A (rc2 a q_t Q_t z_t ++ (rc7 a q_p1 Q_p1 z_p1 ++ (rc3 a q_p2 Q_p2 nc_p2 z_p2 ++ (rc0 a q_p3 Q_p3 z_p3)))) → va_S A s.heap H locs → lv_has ls 13 [(0, .ref q_t), (1, .ref q_p1), (2, .ref q_p2), (3, .ref q_p3), (4, .int x4), (5, .long x5), (7, .int x7)] → W p l e (rmM 4 0 0 105) s m #[.ref q_t, .ref q_p1, .ref q_p2, .ref q_p3] below meth c H locs 0 0 (MQ below (va_Qi (fun r (_ : Unit) => r = y.1) (Bw D A (fun _ => rc2 a q_t Q_t y.2 ++ (rc7 a q_p1 Q_p1 z_p1 ++ (rc3 a q_p2 Q_p2 nc_p2 z_p2 ++ (rc0 a q_p3 Q_p3 z_p3))))) A) #[.ref q_t, .ref q_p1, .ref q_p2, .ref q_p3] s 0 0 A) (F0 m 51 ls []) := by
        intro H locs ls h hP hD hS hl
        rw [eJ30] at h
        refine lv_iconst (v := 0) hx hb dX2_nextFault_51 (by decide) ?_
        exact hJ6 0 _ _ ls h hP hD hS (lv_sub hl [0, 1, 2, 3, 4, 5, 6] rfl)
      refine lv_if_eq (tgt := 51) hx hb dX2_nextFault_28 (by decide) (fun c31 => ?_) (fun c31 => ?_)
      · have h := ite_t c31 h
        exact hJ30 _ _ ls h hP hD hS (lv_sub hl [0, 1, 2, 3, 4, 5, 6] rfl)
      · have h := ite_f c31 h
        refine lv_aload_n hx hb dX2_nextFault_31 rfl (lv_at hl 1 rfl) ?_
        refine va_get (D := D) (v := .ref (Q_p1 9)) (C := RX7) (T := TX7) (N := 18) hx hb hts iX7 hown hK.1 hP 2 rfl rfl 9 (by decide) (hts _ t_60) (fun _ h9 => h9) rfl dX2_nextFault_32 ?_
        refine lv_iload hx hb dX2_nextFault_35 (lv_at hl 6 rfl) ?_
        obtain ⟨r33, hc32, h⟩ := bd_some h
        refine cRi (runN (As := [.ref (Q_p1 9), .int x7]) (rest := []) C hK (mX8_at l D a (q_p0 := (Q_p1 9)) hc32) lk_N_2_47 okN_X8_at ⟨Nat.le_of_ble_eq_true rfl, Nat.le_of_ble_eq_true rfl⟩ ⟨rfl, rfl⟩ (preR hK (P_of_map (wc := ra0 a (Q_p1 9) 10 (gT z_p1 9)) hP [7] rfl)) hl.1 rfl (Nat.le_of_ble_eq_true rfl) dX2_nextFault_37 ⟨Nat.le_of_ble_eq_true rfl, Nat.le_of_ble_eq_true rfl⟩) ?_
        refine lv_aload_n hx hb dX2_nextFault_40 rfl (lv_at hl 3 rfl) ?_
        refine va_get (D := D) (v := .int (gI z_p3 0)) (C := RX0) (T := TX0) (N := 6) hx hb hts iX0 hown hK.1 hP 20 rfl rfl 0 (by decide) (hts _ t_131) (fun _ h9 => h9) rfl dX2_nextFault_41 ?_
        refine lv_icmp_gt (tgt := 51) hx hb dX2_nextFault_44 (by decide) (fun c34 => ?_) (fun c34 => ?_)
        · have h := ite_t c34 h
          exact hJ30 _ _ ls h hP hD hS (lv_sub hl [0, 1, 2, 3, 4, 5, 6] rfl)
        · have h := ite_f c34 h
          refine lv_iconst (v := 1) hx hb dX2_nextFault_47 (by decide) ?_
          refine lv_goto (tgt := 52) hx hb dX2_nextFault_48 (by decide) ?_
          exact hJ6 1 _ _ ls h hP hD hS (lv_sub hl [0, 1, 2, 3, 4, 5, 6] rfl)

set_option maxHeartbeats 4000000 in
set_option maxRecDepth 100000 in
theorem mX2_nextFault (l : Launch) (D : va_G) (a : Nat → ClassId) {q_t : Nat} {q_p1 : Nat} {q_p2 : Nat} {q_p3 : Nat} {Q_t : Nat → Nat} {z_t : Sx} {Q_p1 : Nat → Nat} {z_p1 : Sx} {Q_p2 : Nat → Nat} {nc_p2 : Nat} {z_p2 : Sx} {Q_p3 : Nat → Nat} {z_p3 : Sx} {y : Int32 × Sx} (h : fX2_nextFault z_t z_p1 nc_p2 z_p2 z_p3 = some y) (sz : Nat) : CMi (S := Unit) l MX2_nextFault 4 105 0 0 D a [.ref q_t, .ref q_p1, .ref q_p2, .ref q_p3] (rc2 a q_t Q_t z_t ++ (rc7 a q_p1 Q_p1 z_p1 ++ (rc3 a q_p2 Q_p2 nc_p2 z_p2 ++ (rc0 a q_p3 Q_p3 z_p3)))) sz (fun r _ => r = y.1) (fun _ => rc2 a q_t Q_t y.2 ++ (rc7 a q_p1 Q_p1 z_p1 ++ (rc3 a q_p2 Q_p2 nc_p2 z_p2 ++ (rc0 a q_p3 Q_p3 z_p3)))) := by
  unfold fX2_nextFault at h
  refine entMi (by decide) (Nat.le_of_ble_eq_true rfl) ?_
  intro p e s m below meth c C hK A hA hP hD ls hl
  obtain ⟨hx, hb, hml, hown, hts, hr, hlocks, hnm⟩ := id C
  have hb : c.code = cX2_nextFault := hb
  have hown : s.vm.findClass RX2 = some m.cls := hown
  have hS : va_S A s.heap s.heap [] := va_S.rf
  have hl : lv_has ls 13 [(0, .ref q_t), (1, .ref q_p1), (2, .ref q_p2), (3, .ref q_p3)] := hl
  refine lv_iconst (v := (-1)) hx hb dX2_nextFault_0 (by decide) ?_
  refine lv_istore (lv' := [(4, .int (-1)), (0, .ref q_t), (1, .ref q_p1), (2, .ref q_p2), (3, .ref q_p3)]) hx hb dX2_nextFault_1 hl (by decide) rfl (fun ls hl => ?_)
  refine lv_lconst (v := 0) hx hb dX2_nextFault_3 (by decide) ?_
  refine lv_lstore (lv' := [(5, .long 0), (4, .int (-1)), (0, .ref q_t), (1, .ref q_p1), (2, .ref q_p2), (3, .ref q_p3)]) hx hb dX2_nextFault_4 hl (by decide) rfl (fun ls hl => ?_)
  refine lv_iconst (v := 0) hx hb dX2_nextFault_6 (by decide) ?_
  refine lv_istore (lv' := [(7, .int 0), (5, .long 0), (4, .int (-1)), (0, .ref q_t), (1, .ref q_p1), (2, .ref q_p2), (3, .ref q_p3)]) hx hb dX2_nextFault_7 hl (by decide) rfl (fun ls hl => ?_)
  refine wX2_nextFault_9 C hK hA FU z_t (-1) 0 0 _ _ ls h hP hD hS (lv_sub hl [3, 4, 5, 6, 2, 1, 0] rfl)

set_option maxHeartbeats 4000000 in
set_option maxRecDepth 100000 in
theorem wX2_stopsAt_3 {p : Program} {l : Launch} {e : Env} {s : State} {m : MethodId} {below : List Frame} {meth : Method} {c : Code} {D : va_G} {a : Nat → ClassId} {A : Nat → Prop} {q_t : Nat} {q_p1 : Nat} {q_p2 : Nat} {q_p3 : Nat} {Q_t : Nat → Nat} {Q_p1 : Nat → Nat} {Q_p2 : Nat → Nat} {Q_p3 : Nat → Nat} {z_p1 : Sx} {nc_p2 : Nat} {z_p2 : Sx} {z_p3 : Sx} {x40 : Int32} {x4 : Int32} (C : Cx p s m #[.ref q_t, .ref q_p1, .ref q_p2, .ref q_p3, .int x40] meth c MX2_stopsAt) (hK : KK D a s) (hA : ∀ q, s.heap.size ≤ q → A q) {y : Int32 × Sx} : ∀ (n : Nat) (z_t : Sx) (x5 : Int32) (H : Heap) (locs : List Loc) (ls : Array Slot), lX2_stopsAt_3 z_p1 nc_p2 z_p2 z_p3 x4 n z_t x5 = some y → va_P D classes (rc2 a q_t Q_t z_t ++ (rc7 a q_p1 Q_p1 z_p1 ++ (rc3 a q_p2 Q_p2 nc_p2 z_p2 ++ (rc0 a q_p3 Q_p3 z_p3)))) H → va_D A (rc2 a q_t Q_t z_t ++ (rc7 a q_p1 Q_p1 z_p1 ++ (rc3 a q_p2 Q_p2 nc_p2 z_p2 ++ (rc0 a q_p3 Q_p3 z_p3)))) → va_S A s.heap H locs → lv_has ls 8 [(0, .ref q_t), (1, .ref q_p1), (2, .ref q_p2), (3, .ref q_p3), (4, .int x4), (5, .int x5)] → W p l e (rmM 3 0 0 77) s m #[.ref q_t, .ref q_p1, .ref q_p2, .ref q_p3, .int x40] below meth c H locs 0 0 (MQ below (va_Qi (fun r (_ : Unit) => r = y.1) (Bw D A (fun _ => rc2 a q_t Q_t y.2 ++ (rc7 a q_p1 Q_p1 z_p1 ++ (rc3 a q_p2 Q_p2 nc_p2 z_p2 ++ (rc0 a q_p3 Q_p3 z_p3))))) A) #[.ref q_t, .ref q_p1, .ref q_p2, .ref q_p3, .int x40] s 0 0 A) (F0 m 3 ls []) := by
  obtain ⟨hx, hb, hml, hown, hts, hr, hlocks, hnm⟩ := id C
  have hb : c.code = cX2_stopsAt := hb
  have hown : s.vm.findClass RX2 = some m.cls := hown
  intro n
  induction n with
  | zero => intro z_t x5 H locs ls h; rw [lX2_stopsAt_3] at h; cases h
  | succ n ih =>
    intro z_t x5 H locs ls h hP hD hS hl
    rw [lX2_stopsAt_3] at h
    refine lv_iload hx hb dX2_stopsAt_3 (lv_at hl 5 rfl) ?_
    refine lv_aload_n hx hb dX2_stopsAt_5 rfl (lv_at hl 2 rfl) ?_
    refine va_get (D := D) (v := .int (gI z_p2 1)) (C := RX3) (T := TX3) (N := 5) hx hb hts iX3 hown hK.1 hP 15 rfl rfl 1 (by decide) (hts _ t_584) (fun _ h9 => h9) rfl dX2_stopsAt_6 ?_
    refine lv_icmp_ge (tgt := 85) hx hb dX2_stopsAt_9 (by decide) (fun c1 => ?_) (fun c1 => ?_)
    · have h := ite_t c1 h
      refine lv_iconst (v := 0) hx hb dX2_stopsAt_85 (by decide) ?_
      exact rMz C rfl (Or.inl rfl) h (g := fun y => rc2 a q_t Q_t y.2 ++ (rc7 a q_p1 Q_p1 z_p1 ++ (rc3 a q_p2 Q_p2 nc_p2 z_p2 ++ (rc0 a q_p3 Q_p3 z_p3)))) (pr := fun y => y.1) hP hD hS dX2_stopsAt_86
    · have h := ite_f c1 h
      refine lv_aload_n hx hb dX2_stopsAt_12 rfl (lv_at hl 2 rfl) ?_
      refine va_get (D := D) (v := .ref (Q_p2 3)) (C := RX3) (T := TX3) (N := 5) hx hb hts iX3 hown hK.1 hP 15 rfl rfl 3 (by decide) (hts _ t_588) (fun _ h9 => h9) rfl dX2_stopsAt_13 ?_
      refine lv_iload hx hb dX2_stopsAt_16 (lv_at hl 5 rfl) ?_
      obtain ⟨r3, hc2, h⟩ := bd_some h
      refine cRi (runN (As := [.ref (Q_p2 3), .int x5]) (rest := []) C hK (mX8_at l D a (q_p0 := (Q_p2 3)) hc2) lk_N_2_47 okN_X8_at ⟨Nat.le_of_ble_eq_true rfl, Nat.le_of_ble_eq_true rfl⟩ ⟨rfl, rfl⟩ (preR hK (P_of_map (wc := ra0 a (Q_p2 3) 12 (gT z_p2 3)) hP [18] rfl)) hl.1 rfl (Nat.le_of_ble_eq_true rfl) dX2_stopsAt_18 ⟨Nat.le_of_ble_eq_true rfl, Nat.le_of_ble_eq_true rfl⟩) ?_
      refine lv_istore (lv' := [(6, .int r3), (0, .ref q_t), (1, .ref q_p1), (2, .ref q_p2), (3, .ref q_p3), (4, .int x4), (5, .int x5)]) hx hb dX2_stopsAt_21 hl (by decide) rfl (fun ls hl => ?_)
      refine lv_aload_n hx hb dX2_stopsAt_23 rfl (lv_at hl 3 rfl) ?_
      refine va_get (D := D) (v := .ref (Q_p2 2)) (C := RX3) (T := TX3) (N := 5) hx hb hts iX3 hown hK.1 hP 15 rfl rfl 2 (by decide) (hts _ t_586) (fun _ h9 => h9) rfl dX2_stopsAt_24 ?_
      refine lv_iload hx hb dX2_stopsAt_27 (lv_at hl 6 rfl) ?_
      obtain ⟨r5, hc4, h⟩ := bd_some h
      refine cRi (runN (As := [.ref (Q_p2 2), .int x5]) (rest := []) C hK (mX8_at l D a (q_p0 := (Q_p2 2)) hc4) lk_N_2_47 okN_X8_at ⟨Nat.le_of_ble_eq_true rfl, Nat.le_of_ble_eq_true rfl⟩ ⟨rfl, rfl⟩ (preR hK (P_of_map (wc := ra0 a (Q_p2 2) 12 (gT z_p2 2)) hP [17] rfl)) hl.1 rfl (Nat.le_of_ble_eq_true rfl) dX2_stopsAt_29 ⟨Nat.le_of_ble_eq_true rfl, Nat.le_of_ble_eq_true rfl⟩) ?_
      refine lv_iload hx hb dX2_stopsAt_32 (lv_at hl 0 rfl) ?_
      obtain ⟨J6, eJ6, h⟩ := jn_some h
      have hJ6 : ∀ (i7 : Int32) (H : Heap) (locs : List Loc) (ls : Array Slot), J6 i7 = some y → va_P D classes (rc2 a q_t Q_t z_t ++ (rc7 a q_p1 Q_p1 z_p1 ++ (rc3 a q_p2 Q_p2 nc_p2 z_p2 ++ (rc0 a q_p3 Q_p3 z_p3)))) H → va_D A (rc2 a q_t Q_t z_t ++ (rc7 a q_p1 Q_p1 z_p1 ++ (rc3 a q_p2 Q_p2 nc_p2 z_p2 ++ (rc0 a q_p3 Q_p3 z_p3)))) → va_S A s.heap H locs → lv_has ls 8 [(0, .ref q_t), (1, .ref q_p1), (2, .ref q_p2), (3, .ref q_p3), (4, .int x4), (5, .int x5), (6, .int r3)] → W p l e (rmM 3 0 0 77) s m #[.ref q_t, .ref q_p1, .ref q_p2, .ref q_p3, .int x40] below meth c H locs 0 0 (MQ below (va_Qi (fun r (_ : Unit) => r = y.1) (Bw D A (fun _ => rc2 a q_t Q_t y.2 ++ (rc7 a q_p1 Q_p1 z_p1 ++ (rc3 a q_p2 Q_p2 nc_p2 z_p2 ++ (rc0 a q_p3 Q_p3 z_p3))))) A) #[.ref q_t, .ref q_p1, .ref q_p2, .ref q_p3, .int x40] s 0 0 A) (F0 m 42 ls [.int i7]) := by
        intro i7 H locs ls h hP hD hS hl
        rw [eJ6] at h
        refine lv_istore (lv' := [(7, .int i7), (0, .ref q_t), (1, .ref q_p1), (2, .ref q_p2), (3, .ref q_p3), (4, .int x4), (5, .int x5), (6, .int r3)]) hx hb dX2_stopsAt_42 hl (by decide) rfl (fun ls hl => ?_)
        refine lv_iload hx hb dX2_stopsAt_44 (lv_at hl 0 rfl) ?_
        obtain ⟨J8, eJ8, h⟩ := jn_some h
        have hJ8 : ∀ (z9 : Sx) (H : Heap) (locs : List Loc) (ls : Array Slot), J8 z9 = some y → va_P D classes (rc2 a q_t Q_t z9 ++ (rc7 a q_p1 Q_p1 z_p1 ++ (rc3 a q_p2 Q_p2 nc_p2 z_p2 ++ (rc0 a q_p3 Q_p3 z_p3)))) H → va_D A (rc2 a q_t Q_t z9 ++ (rc7 a q_p1 Q_p1 z_p1 ++ (rc3 a q_p2 Q_p2 nc_p2 z_p2 ++ (rc0 a q_p3 Q_p3 z_p3)))) → va_S A s.heap H locs → lv_has ls 8 [(0, .ref q_t), (1, .ref q_p1), (2, .ref q_p2), (3, .ref q_p3), (4, .int x4), (5, .int x5)] → W p l e (rmM 3 0 0 77) s m #[.ref q_t, .ref q_p1, .ref q_p2, .ref q_p3, .int x40] below meth c H locs 0 0 (MQ below (va_Qi (fun r (_ : Unit) => r = y.1) (Bw D A (fun _ => rc2 a q_t Q_t y.2 ++ (rc7 a q_p1 Q_p1 z_p1 ++ (rc3 a q_p2 Q_p2 nc_p2 z_p2 ++ (rc0 a q_p3 Q_p3 z_p3))))) A) #[.ref q_t, .ref q_p1, .ref q_p2, .ref q_p3, .int x40] s 0 0 A) (F0 m 79 ls []) := by
          intro z9 H locs ls h hP hD hS hl
          rw [eJ8] at h
          refine lv_iinc (v := x5 + 1) (lv' := [(5, .int (x5 + 1)), (0, .ref q_t), (1, .ref q_p1), (2, .ref q_p2), (3, .ref q_p3), (4, .int x4)]) hx hb dX2_stopsAt_79 hl (k := 5) rfl rfl (by decide) rfl (fun ls hl => ?_)
          refine lv_goto (tgt := 3) hx hb dX2_stopsAt_82 (by decide) ?_
          exact ih z9 (x5 + 1) _ _ ls h hP hD hS (lv_sub hl [1, 2, 3, 4, 5, 0] rfl)
        refine lv_if_eq (tgt := 79) hx hb dX2_stopsAt_46 (by decide) (fun c10 => ?_) (fun c10 => ?_)
        · have h := ite_t c10 h
          exact hJ8 z_t _ _ ls h hP hD hS (lv_sub hl [1, 2, 3, 4, 5, 6] rfl)
        · have h := ite_f c10 h
          refine lv_aload_n hx hb dX2_stopsAt_49 rfl (lv_at hl 1 rfl) ?_
          refine lv_aload_n hx hb dX2_stopsAt_50 rfl (lv_at hl 3 rfl) ?_
          refine va_get (D := D) (v := .ref (Q_p2 0)) (C := RX3) (T := TX3) (N := 5) hx hb hts iX3 hown hK.1 hP 15 rfl rfl 0 (by decide) (hts _ t_582) (fun _ h9 => h9) rfl dX2_stopsAt_51 ?_
          refine lv_iload hx hb dX2_stopsAt_54 (lv_at hl 7 rfl) ?_
          refine lv_aload_n hx hb dX2_stopsAt_56 rfl (lv_at hl 3 rfl) ?_
          refine va_get (D := D) (v := .ref (Q_p2 4)) (C := RX3) (T := TX3) (N := 5) hx hb hts iX3 hown hK.1 hP 15 rfl rfl 4 (by decide) (hts _ t_590) (fun _ h9 => h9) rfl dX2_stopsAt_57 ?_
          refine lv_iload hx hb dX2_stopsAt_60 (lv_at hl 6 rfl) ?_
          obtain ⟨r12, hc11, h⟩ := bd_some h
          refine cRi (runN (As := [.ref (Q_p2 4), .int x5]) (rest := [.int r3, .ref (Q_p2 0), .ref q_t]) C hK (mX8_at l D a (q_p0 := (Q_p2 4)) hc11) lk_N_2_47 okN_X8_at ⟨Nat.le_of_ble_eq_true rfl, Nat.le_of_ble_eq_true rfl⟩ ⟨rfl, rfl⟩ (preR hK (P_of_map (wc := ra0 a (Q_p2 4) 12 (gT z_p2 4)) hP [19] rfl)) hl.1 rfl (Nat.le_of_ble_eq_true rfl) dX2_stopsAt_62 ⟨Nat.le_of_ble_eq_true rfl, Nat.le_of_ble_eq_true rfl⟩) ?_
          refine lv_aload_n hx hb dX2_stopsAt_65 rfl (lv_at hl 2 rfl) ?_
          refine lv_aload_n hx hb dX2_stopsAt_66 rfl (lv_at hl 4 rfl) ?_
          refine lv_iload hx hb dX2_stopsAt_67 (lv_at hl 5 rfl) ?_
          obtain ⟨r14, z15, hc13, h⟩ := bd2_some h
          refine cMl (runV (As := [.ref (Q_p2 0), .int r3, .int r12, .ref q_p1, .ref q_p3, .int x4]) (rest := []) C (mX2_reckon l D a (q_t := q_t) (q_p1 := (Q_p2 0)) (q_p4 := q_p1) (q_p5 := q_p3) (Q_t := Q_t) (Q_p4 := Q_p1) (Q_p5 := Q_p3) hc13 H.size) lk_V_2_69 okN_X2_reckon ⟨Nat.le_of_ble_eq_true rfl, Nat.le_of_ble_eq_true rfl⟩ ⟨rfl, rfl⟩ (preV (preM hK (P_of_map (wc := rc2 a q_t Q_t z_t ++ (ra0 a (Q_p2 0) nc_p2 (gT z_p2 0) ++ (rc7 a q_p1 Q_p1 z_p1 ++ (rc0 a q_p3 Q_p3 z_p3)))) hP [0, 1, 16, 2, 3, 4, 5, 6, 7, 8, 9, 10, 11, 12, 13, 14, 20, 21] rfl) (hD.sub (ws' := rc2 a q_t Q_t z_t ++ (ra0 a (Q_p2 0) nc_p2 (gT z_p2 0) ++ (rc7 a q_p1 Q_p1 z_p1 ++ (rc0 a q_p3 Q_p3 z_p3)))) [0, 1, 16, 2, 3, 4, 5, 6, 7, 8, 9, 10, 11, 12, 13, 14, 20, 21] (by decide) rfl)) (recvOf hK hP 0 rfl (ci := 2) rfl)) hl.1 rfl (Nat.le_of_ble_eq_true rfl) dX2_stopsAt_69 ⟨Nat.le_of_ble_eq_true rfl, Nat.le_of_ble_eq_true rfl⟩) hP hD hS hA [0, 1, 16, 2, 3, 4, 5, 6, 7, 8, 9, 10, 11, 12, 13, 14, 20, 21] [15, 17, 18, 19] [4, 5, 7, 8, 9, 10, 11, 12, 13, 14, 15, 16, 17, 18, 19, 0, 6, 1, 2, 3, 20, 21] rfl rfl (by decide) (by decide) (fw := rc2 a q_t Q_t z15 ++ (rc7 a q_p1 Q_p1 z_p1 ++ (rc3 a q_p2 Q_p2 nc_p2 z_p2 ++ (rc0 a q_p3 Q_p3 z_p3)))) rfl (by decide) (fun H locs hP hD hS => ?_)
          have hP : va_P D classes (rc2 a q_t Q_t z15 ++ (rc7 a q_p1 Q_p1 z_p1 ++ (rc3 a q_p2 Q_p2 nc_p2 z_p2 ++ (rc0 a q_p3 Q_p3 z_p3)))) H := hP
          have hD : va_D A (rc2 a q_t Q_t z15 ++ (rc7 a q_p1 Q_p1 z_p1 ++ (rc3 a q_p2 Q_p2 nc_p2 z_p2 ++ (rc0 a q_p3 Q_p3 z_p3)))) := hD
          refine lv_lconst (v := 0) hx hb dX2_stopsAt_72 (by decide) ?_
          refine W.lcmp hx hb dX2_stopsAt_73 ?_
          refine lv_if_eq (tgt := 79) hx hb dX2_stopsAt_74 (by decide) (fun c16 => ?_) (fun c16 => ?_)
          · have h := ite_t ((lg_cmp_eq _ _).mp c16) h
            exact hJ8 z15 _ _ ls h hP hD hS (lv_sub hl [1, 2, 3, 4, 5, 6] rfl)
          · have h := ite_f (fun q => c16 ((lg_cmp_eq _ _).mpr q)) h
            refine lv_iconst (v := 1) hx hb dX2_stopsAt_77 (by decide) ?_
            exact rMz C rfl (Or.inr rfl) h (g := fun y => rc2 a q_t Q_t y.2 ++ (rc7 a q_p1 Q_p1 z_p1 ++ (rc3 a q_p2 Q_p2 nc_p2 z_p2 ++ (rc0 a q_p3 Q_p3 z_p3)))) (pr := fun y => y.1) hP hD hS dX2_stopsAt_78
      refine lv_icmp_ne (tgt := 41) hx hb dX2_stopsAt_34 (by decide) (fun c17 => ?_) (fun c17 => ?_)
      · have h := ite_f c17 h
        refine lv_iconst (v := 0) hx hb dX2_stopsAt_41 (by decide) ?_
        exact hJ6 0 _ _ ls h hP hD hS (lv_sub hl [1, 2, 3, 4, 5, 6, 0] rfl)
      · have h := ite_t c17 h
        refine lv_iconst (v := 1) hx hb dX2_stopsAt_37 (by decide) ?_
        refine lv_goto (tgt := 42) hx hb dX2_stopsAt_38 (by decide) ?_
        exact hJ6 1 _ _ ls h hP hD hS (lv_sub hl [1, 2, 3, 4, 5, 6, 0] rfl)

set_option maxHeartbeats 4000000 in
set_option maxRecDepth 100000 in
theorem mX2_stopsAt (l : Launch) (D : va_G) (a : Nat → ClassId) {q_t : Nat} {q_p1 : Nat} {q_p2 : Nat} {q_p3 : Nat} {Q_t : Nat → Nat} {z_t : Sx} {Q_p1 : Nat → Nat} {z_p1 : Sx} {Q_p2 : Nat → Nat} {nc_p2 : Nat} {z_p2 : Sx} {Q_p3 : Nat → Nat} {z_p3 : Sx} {x4 : Int32} {y : Int32 × Sx} (h : fX2_stopsAt z_t z_p1 nc_p2 z_p2 z_p3 x4 = some y) (sz : Nat) : CMi (S := Unit) l MX2_stopsAt 3 77 0 0 D a [.ref q_t, .ref q_p1, .ref q_p2, .ref q_p3, .int x4] (rc2 a q_t Q_t z_t ++ (rc7 a q_p1 Q_p1 z_p1 ++ (rc3 a q_p2 Q_p2 nc_p2 z_p2 ++ (rc0 a q_p3 Q_p3 z_p3)))) sz (fun r _ => r = y.1) (fun _ => rc2 a q_t Q_t y.2 ++ (rc7 a q_p1 Q_p1 z_p1 ++ (rc3 a q_p2 Q_p2 nc_p2 z_p2 ++ (rc0 a q_p3 Q_p3 z_p3)))) := by
  unfold fX2_stopsAt at h
  refine entMi (by decide) (Nat.le_of_ble_eq_true rfl) ?_
  intro p e s m below meth c C hK A hA hP hD ls hl
  obtain ⟨hx, hb, hml, hown, hts, hr, hlocks, hnm⟩ := id C
  have hb : c.code = cX2_stopsAt := hb
  have hown : s.vm.findClass RX2 = some m.cls := hown
  have hS : va_S A s.heap s.heap [] := va_S.rf
  have hl : lv_has ls 8 [(0, .ref q_t), (1, .ref q_p1), (2, .ref q_p2), (3, .ref q_p3), (4, .int x4)] := hl
  refine lv_iconst (v := 0) hx hb dX2_stopsAt_0 (by decide) ?_
  refine lv_istore (lv' := [(5, .int 0), (0, .ref q_t), (1, .ref q_p1), (2, .ref q_p2), (3, .ref q_p3), (4, .int x4)]) hx hb dX2_stopsAt_1 hl (by decide) rfl (fun ls hl => ?_)
  refine wX2_stopsAt_3 C hK hA FU z_t 0 _ _ ls h hP hD hS (lv_sub hl [1, 2, 3, 4, 5, 0] rfl)

set_option maxHeartbeats 4000000 in
set_option maxRecDepth 100000 in
theorem wX2_play_3 {p : Program} {l : Launch} {e : Env} {s : State} {m : MethodId} {below : List Frame} {meth : Method} {c : Code} {D : va_G} {a : Nat → ClassId} {A : Nat → Prop} {q_t : Nat} {q_p1 : Nat} {q_p2 : Nat} {q_p3 : Nat} {Q_t : Nat → Nat} {Q_p1 : Nat → Nat} {Q_p2 : Nat → Nat} {Q_p3 : Nat → Nat} {z_p1 : Sx} {nc_p2 : Nat} {z_p2 : Sx} (C : Cx p s m #[.ref q_t, .ref q_p1, .ref q_p2, .ref q_p3] meth c MX2_play) (hK : KK D a s) (hA : ∀ q, s.heap.size ≤ q → A q) {y : Int32 × Sx × Sx} : ∀ (n : Nat) (z_t : Sx) (z_p3 : Sx) (x4 : Int32) (H : Heap) (locs : List Loc) (ls : Array Slot), lX2_play_3 z_p1 nc_p2 z_p2 n z_t z_p3 x4 = some y → va_P D classes (rc2 a q_t Q_t z_t ++ (rc7 a q_p1 Q_p1 z_p1 ++ (rc3 a q_p2 Q_p2 nc_p2 z_p2 ++ (rc0 a q_p3 Q_p3 z_p3)))) H → va_D A (rc2 a q_t Q_t z_t ++ (rc7 a q_p1 Q_p1 z_p1 ++ (rc3 a q_p2 Q_p2 nc_p2 z_p2 ++ (rc0 a q_p3 Q_p3 z_p3)))) → va_S A s.heap H locs → lv_has ls 6 [(0, .ref q_t), (1, .ref q_p1), (2, .ref q_p2), (3, .ref q_p3), (4, .int x4)] → W p l e (rmM 5 0 0 137) s m #[.ref q_t, .ref q_p1, .ref q_p2, .ref q_p3] below meth c H locs 0 0 (MQ below (va_Qi (fun r (_ : Unit) => r = y.1) (Bw D A (fun _ => rc2 a q_t Q_t y.2.1 ++ (rc7 a q_p1 Q_p1 z_p1 ++ (rc3 a q_p2 Q_p2 nc_p2 z_p2 ++ (rc0 a q_p3 Q_p3 y.2.2))))) A) #[.ref q_t, .ref q_p1, .ref q_p2, .ref q_p3] s 0 0 A) (F0 m 3 ls []) := by
  obtain ⟨hx, hb, hml, hown, hts, hr, hlocks, hnm⟩ := id C
  have hb : c.code = cX2_play := hb
  have hown : s.vm.findClass RX2 = some m.cls := hown
  intro n
  induction n with
  | zero => intro z_t z_p3 x4 H locs ls h; rw [lX2_play_3] at h; cases h
  | succ n ih =>
    intro z_t z_p3 x4 H locs ls h hP hD hS hl
    rw [lX2_play_3] at h
    refine lv_iload hx hb dX2_play_3 (lv_at hl 4 rfl) ?_
    refine lv_sipush (v := 200) hx hb dX2_play_5 (by decide) ?_
    refine lv_icmp_ge (tgt := 54) hx hb dX2_play_8 (by decide) (fun c1 => ?_) (fun c1 => ?_)
    · have h := ite_t c1 h
      refine lv_sipush (v := 200) hx hb dX2_play_54 (by decide) ?_
      obtain rfl := Option.some.inj h
      exact retMi C rfl () rfl hP hD hS (Nat.le_refl 0) (Nat.le_refl 0) dX2_play_57
    · have h := ite_f c1 h
      refine lv_aload_n hx hb dX2_play_11 rfl (lv_at hl 0 rfl) ?_
      refine lv_aload_n hx hb dX2_play_12 rfl (lv_at hl 1 rfl) ?_
      refine lv_aload_n hx hb dX2_play_13 rfl (lv_at hl 2 rfl) ?_
      refine lv_aload_n hx hb dX2_play_14 rfl (lv_at hl 3 rfl) ?_
      obtain ⟨r3, z4, hc2, h⟩ := bd2_some h
      refine cWi (runV (As := [.ref q_p1, .ref q_p2, .ref q_p3]) (rest := []) C (mX2_nextFault l D a (q_t := q_t) (q_p1 := q_p1) (q_p2 := q_p2) (q_p3 := q_p3) (Q_t := Q_t) (Q_p1 := Q_p1) (Q_p2 := Q_p2) (Q_p3 := Q_p3) hc2 H.size) lk_V_2_15 okN_X2_nextFault ⟨Nat.le_of_ble_eq_true rfl, Nat.le_of_ble_eq_true rfl⟩ ⟨rfl, rfl⟩ (preV (preM hK hP hD) (recvOf hK hP 0 rfl (ci := 2) rfl)) hl.1 rfl (Nat.le_of_ble_eq_true rfl) dX2_play_15 ⟨Nat.le_of_ble_eq_true rfl, Nat.le_of_ble_eq_true rfl⟩) hP hD hS hA (fun H locs hP hD hS => ?_)
      have hP : va_P D classes (rc2 a q_t Q_t z4 ++ (rc7 a q_p1 Q_p1 z_p1 ++ (rc3 a q_p2 Q_p2 nc_p2 z_p2 ++ (rc0 a q_p3 Q_p3 z_p3)))) H := hP
      have hD : va_D A (rc2 a q_t Q_t z4 ++ (rc7 a q_p1 Q_p1 z_p1 ++ (rc3 a q_p2 Q_p2 nc_p2 z_p2 ++ (rc0 a q_p3 Q_p3 z_p3)))) := hD
      refine lv_istore (lv' := [(5, .int r3), (0, .ref q_t), (1, .ref q_p1), (2, .ref q_p2), (3, .ref q_p3), (4, .int x4)]) hx hb dX2_play_18 hl (by decide) rfl (fun ls hl => ?_)
      refine lv_iload hx hb dX2_play_20 (lv_at hl 0 rfl) ?_
      refine lv_if_lt (tgt := 37) hx hb dX2_play_22 (by decide) (fun c5 => ?_) (fun c5 => ?_)
      · have h := ite_t c5 h
        refine lv_iload hx hb dX2_play_37 (lv_at hl 5 rfl) ?_
        obtain rfl := Option.some.inj h
        exact retMi C rfl () rfl hP hD hS (Nat.le_refl 0) (Nat.le_refl 0) dX2_play_39
      · have h := ite_f c5 h
        refine lv_aload_n hx hb dX2_play_25 rfl (lv_at hl 1 rfl) ?_
        refine lv_aload_n hx hb dX2_play_26 rfl (lv_at hl 2 rfl) ?_
        refine lv_aload_n hx hb dX2_play_27 rfl (lv_at hl 3 rfl) ?_
        refine lv_aload_n hx hb dX2_play_28 rfl (lv_at hl 4 rfl) ?_
        refine lv_iload hx hb dX2_play_29 (lv_at hl 0 rfl) ?_
        obtain ⟨r7, z8, hc6, h⟩ := bd2_some h
        refine cWi (runV (As := [.ref q_p1, .ref q_p2, .ref q_p3, .int r3]) (rest := []) C (mX2_stopsAt l D a (q_t := q_t) (q_p1 := q_p1) (q_p2 := q_p2) (q_p3 := q_p3) (Q_t := Q_t) (Q_p1 := Q_p1) (Q_p2 := Q_p2) (Q_p3 := Q_p3) hc6 H.size) lk_V_2_19 okN_X2_stopsAt ⟨Nat.le_of_ble_eq_true rfl, Nat.le_of_ble_eq_true rfl⟩ ⟨rfl, rfl⟩ (preV (preM hK hP hD) (recvOf hK hP 0 rfl (ci := 2) rfl)) hl.1 rfl (Nat.le_of_ble_eq_true rfl) dX2_play_31 ⟨Nat.le_of_ble_eq_true rfl, Nat.le_of_ble_eq_true rfl⟩) hP hD hS hA (fun H locs hP hD hS => ?_)
        have hP : va_P D classes (rc2 a q_t Q_t z8 ++ (rc7 a q_p1 Q_p1 z_p1 ++ (rc3 a q_p2 Q_p2 nc_p2 z_p2 ++ (rc0 a q_p3 Q_p3 z_p3)))) H := hP
        have hD : va_D A (rc2 a q_t Q_t z8 ++ (rc7 a q_p1 Q_p1 z_p1 ++ (rc3 a q_p2 Q_p2 nc_p2 z_p2 ++ (rc0 a q_p3 Q_p3 z_p3)))) := hD
        refine lv_if_eq (tgt := 40) hx hb dX2_play_34 (by decide) (fun c9 => ?_) (fun c9 => ?_)
        · have h := ite_t c9 h
          refine lv_aload_n hx hb dX2_play_40 rfl (lv_at hl 4 rfl) ?_
          refine lv_aload_n hx hb dX2_play_41 rfl (lv_at hl 2 rfl) ?_
          refine lv_iload hx hb dX2_play_42 (lv_at hl 0 rfl) ?_
          obtain ⟨r11, z12, hc10, h⟩ := bd2_some h
          refine cMi (runV (As := [.ref q_p1, .int r3]) (rest := []) C (mX0_lookFor l D a (q_t := q_p3) (q_p1 := q_p1) (Q_t := Q_p3) (Q_p1 := Q_p1) hc10 H.size) lk_V_2_23 okN_X0_lookFor ⟨Nat.le_of_ble_eq_true rfl, Nat.le_of_ble_eq_true rfl⟩ ⟨rfl, rfl⟩ (preV (preM hK (P_of_map (wc := rc0 a q_p3 Q_p3 z_p3 ++ (rc7 a q_p1 Q_p1 z_p1)) hP [20, 21, 2, 3, 4, 5, 6, 7, 8, 9, 10, 11, 12, 13, 14] rfl) (hD.sub (ws' := rc0 a q_p3 Q_p3 z_p3 ++ (rc7 a q_p1 Q_p1 z_p1)) [20, 21, 2, 3, 4, 5, 6, 7, 8, 9, 10, 11, 12, 13, 14] (by decide) rfl)) (recvOf hK hP 20 rfl (ci := 0) rfl)) hl.1 rfl (Nat.le_of_ble_eq_true rfl) dX2_play_44 ⟨Nat.le_of_ble_eq_true rfl, Nat.le_of_ble_eq_true rfl⟩) hP hD hS hA [20, 21, 2, 3, 4, 5, 6, 7, 8, 9, 10, 11, 12, 13, 14] [0, 1, 15, 16, 17, 18, 19] [0, 1, 9, 10, 11, 12, 13, 14, 15, 16, 17, 18, 19, 20, 21, 2, 3, 4, 5, 6, 7, 8] rfl rfl (by decide) (by decide) (fw := rc2 a q_t Q_t z8 ++ (rc7 a q_p1 Q_p1 z_p1 ++ (rc3 a q_p2 Q_p2 nc_p2 z_p2 ++ (rc0 a q_p3 Q_p3 z12)))) rfl (by decide) (fun H locs hP hD hS => ?_)
          have hP : va_P D classes (rc2 a q_t Q_t z8 ++ (rc7 a q_p1 Q_p1 z_p1 ++ (rc3 a q_p2 Q_p2 nc_p2 z_p2 ++ (rc0 a q_p3 Q_p3 z12)))) H := hP
          have hD : va_D A (rc2 a q_t Q_t z8 ++ (rc7 a q_p1 Q_p1 z_p1 ++ (rc3 a q_p2 Q_p2 nc_p2 z_p2 ++ (rc0 a q_p3 Q_p3 z12)))) := hD
          refine lv_pop hx hb dX2_play_47 rfl ?_
          refine lv_iinc (v := x4 + 1) (lv' := [(4, .int (x4 + 1)), (5, .int r3), (0, .ref q_t), (1, .ref q_p1), (2, .ref q_p2), (3, .ref q_p3)]) hx hb dX2_play_48 hl (k := 5) rfl rfl (by decide) rfl (fun ls hl => ?_)
          refine lv_goto (tgt := 3) hx hb dX2_play_51 (by decide) ?_
          exact ih z8 z12 (x4 + 1) _ _ ls h hP hD hS (lv_sub hl [2, 3, 4, 5, 0] rfl)
        · have h := ite_f c9 h
          refine lv_iload hx hb dX2_play_37 (lv_at hl 5 rfl) ?_
          obtain rfl := Option.some.inj h
          exact retMi C rfl () rfl hP hD hS (Nat.le_refl 0) (Nat.le_refl 0) dX2_play_39

set_option maxHeartbeats 4000000 in
set_option maxRecDepth 100000 in
theorem mX2_play (l : Launch) (D : va_G) (a : Nat → ClassId) {q_t : Nat} {q_p1 : Nat} {q_p2 : Nat} {q_p3 : Nat} {Q_t : Nat → Nat} {z_t : Sx} {Q_p1 : Nat → Nat} {z_p1 : Sx} {Q_p2 : Nat → Nat} {nc_p2 : Nat} {z_p2 : Sx} {Q_p3 : Nat → Nat} {z_p3 : Sx} {y : Int32 × Sx × Sx} (h : fX2_play z_t z_p1 nc_p2 z_p2 z_p3 = some y) (sz : Nat) : CMi (S := Unit) l MX2_play 5 137 0 0 D a [.ref q_t, .ref q_p1, .ref q_p2, .ref q_p3] (rc2 a q_t Q_t z_t ++ (rc7 a q_p1 Q_p1 z_p1 ++ (rc3 a q_p2 Q_p2 nc_p2 z_p2 ++ (rc0 a q_p3 Q_p3 z_p3)))) sz (fun r _ => r = y.1) (fun _ => rc2 a q_t Q_t y.2.1 ++ (rc7 a q_p1 Q_p1 z_p1 ++ (rc3 a q_p2 Q_p2 nc_p2 z_p2 ++ (rc0 a q_p3 Q_p3 y.2.2)))) := by
  unfold fX2_play at h
  refine entMi (by decide) (Nat.le_of_ble_eq_true rfl) ?_
  intro p e s m below meth c C hK A hA hP hD ls hl
  obtain ⟨hx, hb, hml, hown, hts, hr, hlocks, hnm⟩ := id C
  have hb : c.code = cX2_play := hb
  have hown : s.vm.findClass RX2 = some m.cls := hown
  have hS : va_S A s.heap s.heap [] := va_S.rf
  have hl : lv_has ls 6 [(0, .ref q_t), (1, .ref q_p1), (2, .ref q_p2), (3, .ref q_p3)] := hl
  refine lv_iconst (v := 0) hx hb dX2_play_0 (by decide) ?_
  refine lv_istore (lv' := [(4, .int 0), (0, .ref q_t), (1, .ref q_p1), (2, .ref q_p2), (3, .ref q_p3)]) hx hb dX2_play_1 hl (by decide) rfl (fun ls hl => ?_)
  refine wX2_play_3 C hK hA FU z_t z_p3 0 _ _ ls h hP hD hS (lv_sub hl [1, 2, 3, 4, 0] rfl)

set_option maxHeartbeats 4000000 in
set_option maxRecDepth 100000 in
theorem mX4_emit (l : Launch) (D : va_G) (a : Nat → ClassId) {q_t : Nat} {Q_t : Nat → Nat} {z_t : Sx} {x1 : Int32} {y : Sx} (h : fX4_emit z_t x1 = some y) (sz : Nat) : CMv (S := Unit) l MX4_emit 0 0 0 0 D a [.ref q_t, .int x1] (rc4 a q_t Q_t z_t) sz (fun _ => True) (fun _ => rc4 a q_t Q_t y) := by
  unfold fX4_emit at h
  refine entMv (by decide) (Nat.le_of_ble_eq_true rfl) ?_
  intro p e s m below meth c C hK A hA hP hD ls hl
  obtain ⟨hx, hb, hml, hown, hts, hr, hlocks, hnm⟩ := id C
  have hb : c.code = cX4_emit := hb
  have hown : s.vm.findClass RX4 = some m.cls := hown
  have hS : va_S A s.heap s.heap [] := va_S.rf
  have hl : lv_has ls 2 [(0, .ref q_t), (1, .int x1)] := hl
  refine lv_aload_n hx hb dX4_emit_0 rfl (lv_at hl 0 rfl) ?_
  refine va_get (D := D) (v := .int (gI z_t 2)) (C := RX4) (T := TX4) (N := 8) hx hb hts iX4 hown hK.1 hP 0 rfl rfl 2 (by decide) (hts _ t_245) (fun _ h9 => h9) rfl dX4_emit_1 ?_
  refine lv_if_lt (tgt := 39) hx hb dX4_emit_4 (by decide) (fun c1 => ?_) (fun c1 => ?_)
  · have h := ite_t c1 h
    exact rMv C rfl h (g := fun y => rc4 a q_t Q_t y) hP hD hS dX4_emit_39
  · have h := ite_f c1 h
    refine lv_aload_n hx hb dX4_emit_7 rfl (lv_at hl 0 rfl) ?_
    refine va_get (D := D) (v := .int (gI z_t 2)) (C := RX4) (T := TX4) (N := 8) hx hb hts iX4 hown hK.1 hP 0 rfl rfl 2 (by decide) (hts _ t_245) (fun _ h9 => h9) rfl dX4_emit_8 ?_
    refine lv_aload_n hx hb dX4_emit_11 rfl (lv_at hl 0 rfl) ?_
    refine va_get (D := D) (v := .ref (Q_t 1)) (C := RX4) (T := TX4) (N := 8) hx hb hts iX4 hown hK.1 hP 0 rfl rfl 1 (by decide) (hts _ t_244) (fun _ h9 => h9) rfl dX4_emit_12 ?_
    refine va_alen (v := 400) hx hb hK.1 hP 1 0 rfl rfl rfl dX4_emit_15 ?_
    refine lv_icmp_ge (tgt := 39) hx hb dX4_emit_16 (by decide) (fun c2 => ?_) (fun c2 => ?_)
    · have h := ite_t c2 h
      exact rMv C rfl h (g := fun y => rc4 a q_t Q_t y) hP hD hS dX4_emit_39
    · have h := ite_f c2 h
      refine lv_aload_n hx hb dX4_emit_19 rfl (lv_at hl 0 rfl) ?_
      refine va_get (D := D) (v := .ref (Q_t 1)) (C := RX4) (T := TX4) (N := 8) hx hb hts iX4 hown hK.1 hP 0 rfl rfl 1 (by decide) (hts _ t_244) (fun _ h9 => h9) rfl dX4_emit_20 ?_
      refine lv_aload_n hx hb dX4_emit_23 rfl (lv_at hl 0 rfl) ?_
      refine va_get (D := D) (v := .int (gI z_t 2)) (C := RX4) (T := TX4) (N := 8) hx hb hts iX4 hown hK.1 hP 0 rfl rfl 2 (by decide) (hts _ t_245) (fun _ h9 => h9) rfl dX4_emit_24 ?_
      refine lv_iload_n hx hb dX4_emit_27 rfl (lv_at hl 1 rfl) ?_
      obtain ⟨g3, h⟩ := gd_some h
      refine ast_i hx hb hK.1 hP hD hS 1 0 rfl rfl ((gI z_t 2).toNatClampNeg) (ix_g g3) dX4_emit_28 (fun H locs hP hD hS => ?_)
      have hP : va_P D classes (rc4 a q_t Q_t (sT z_t 1 ((gI z_t 2).toNatClampNeg) x1)) H := hP
      have hD : va_D A (rc4 a q_t Q_t (sT z_t 1 ((gI z_t 2).toNatClampNeg) x1)) := hD
      refine lv_aload_n hx hb dX4_emit_29 rfl (lv_at hl 0 rfl) ?_
      refine lv_dup hx hb dX4_emit_30 rfl ?_
      refine va_get (D := D) (v := .int (gI z_t 2)) (C := RX4) (T := TX4) (N := 8) hx hb hts iX4 hown hK.1 hP 0 rfl rfl 2 (by decide) (hts _ t_245) (fun _ h9 => h9) rfl dX4_emit_31 ?_
      refine lv_iconst (v := 1) hx hb dX4_emit_34 (by decide) ?_
      refine lv_iadd hx hb dX4_emit_35 ?_
      refine va_put (D := D) (v := .int ((gI z_t 2) + 1)) (C := RX4) (T := TX4) (N := 8) hx hb hts iX4 tyX4 tyX4_ok nmX4 hown hK.1 hP hD hS 0 rfl rfl 2 (by decide) (hts _ t_245) (fun _ h9 => h9) rfl (tyX4_ok 2 (by decide)) rfl rfl (Nat.le_of_ble_eq_true rfl) dX4_emit_36 (fun H locs hP hD hS => ?_)
      have hP : va_P D classes (rc4 a q_t Q_t (sI (sT z_t 1 ((gI z_t 2).toNatClampNeg) x1) 2 ((gI z_t 2) + 1))) H := hP
      have hD : va_D A (rc4 a q_t Q_t (sI (sT z_t 1 ((gI z_t 2).toNatClampNeg) x1) 2 ((gI z_t 2) + 1))) := hD
      exact rMv C rfl h (g := fun y => rc4 a q_t Q_t y) hP hD hS dX4_emit_39

set_option maxHeartbeats 4000000 in
set_option maxRecDepth 100000 in
theorem mX6_step (l : Launch) (D : va_G) (a : Nat → ClassId) {q_t : Nat} {Q_t : Nat → Nat} {z_t : Sx} {y : Sx} (h : fX6_step z_t = some y) (sz : Nat) : CMv (S := Unit) l MX6_step 0 0 0 0 D a [.ref q_t] (rc6 a q_t Q_t z_t) sz (fun _ => True) (fun _ => rc6 a q_t Q_t y) := by
  unfold fX6_step at h
  refine entMv (by decide) (Nat.le_of_ble_eq_true rfl) ?_
  intro p e s m below meth c C hK A hA hP hD ls hl
  obtain ⟨hx, hb, hml, hown, hts, hr, hlocks, hnm⟩ := id C
  have hb : c.code = cX6_step := hb
  have hown : s.vm.findClass RX6 = some m.cls := hown
  have hS : va_S A s.heap s.heap [] := va_S.rf
  have hl : lv_has ls 1 [(0, .ref q_t)] := hl
  refine lv_aload_n hx hb dX6_step_0 rfl (lv_at hl 0 rfl) ?_
  refine va_get (D := D) (v := .int (gI z_t 4)) (C := RX6) (T := TX6) (N := 9) hx hb hts iX6 hown hK.1 hP 0 rfl rfl 4 (by decide) (hts _ t_212) (fun _ h9 => h9) rfl dX6_step_1 ?_
  refine lv_if_lt (tgt := 79) hx hb dX6_step_4 (by decide) (fun c1 => ?_) (fun c1 => ?_)
  · have h := ite_t c1 h
    exact rMv C rfl h (g := fun y => rc6 a q_t Q_t y) hP hD hS dX6_step_79
  · have h := ite_f c1 h
    refine lv_aload_n hx hb dX6_step_7 rfl (lv_at hl 0 rfl) ?_
    refine va_get (D := D) (v := .int (gI z_t 4)) (C := RX6) (T := TX6) (N := 9) hx hb hts iX6 hown hK.1 hP 0 rfl rfl 4 (by decide) (hts _ t_212) (fun _ h9 => h9) rfl dX6_step_8 ?_
    refine lv_aload_n hx hb dX6_step_11 rfl (lv_at hl 0 rfl) ?_
    refine va_get (D := D) (v := .int (gI z_t 3)) (C := RX6) (T := TX6) (N := 9) hx hb hts iX6 hown hK.1 hP 0 rfl rfl 3 (by decide) (hts _ t_211) (fun _ h9 => h9) rfl dX6_step_12 ?_
    refine lv_icmp_ge (tgt := 79) hx hb dX6_step_15 (by decide) (fun c2 => ?_) (fun c2 => ?_)
    · have h := ite_t c2 h
      exact rMv C rfl h (g := fun y => rc6 a q_t Q_t y) hP hD hS dX6_step_79
    · have h := ite_f c2 h
      refine lv_aload_n hx hb dX6_step_18 rfl (lv_at hl 0 rfl) ?_
      refine va_get (D := D) (v := .int (gI z_t 4)) (C := RX6) (T := TX6) (N := 9) hx hb hts iX6 hown hK.1 hP 0 rfl rfl 4 (by decide) (hts _ t_212) (fun _ h9 => h9) rfl dX6_step_19 ?_
      refine lv_aload_n hx hb dX6_step_22 rfl (lv_at hl 0 rfl) ?_
      refine va_get (D := D) (v := .ref (Q_t 0)) (C := RX6) (T := TX6) (N := 9) hx hb hts iX6 hown hK.1 hP 0 rfl rfl 0 (by decide) (hts _ t_208) (fun _ h9 => h9) rfl dX6_step_23 ?_
      refine va_alen (v := 401) hx hb hK.1 hP 1 0 rfl rfl rfl dX6_step_26 ?_
      refine lv_icmp_ge (tgt := 79) hx hb dX6_step_27 (by decide) (fun c3 => ?_) (fun c3 => ?_)
      · have h := ite_t c3 h
        exact rMv C rfl h (g := fun y => rc6 a q_t Q_t y) hP hD hS dX6_step_79
      · have h := ite_f c3 h
        refine lv_aload_n hx hb dX6_step_30 rfl (lv_at hl 0 rfl) ?_
        refine lv_aload_n hx hb dX6_step_31 rfl (lv_at hl 0 rfl) ?_
        refine va_get (D := D) (v := .ref (Q_t 0)) (C := RX6) (T := TX6) (N := 9) hx hb hts iX6 hown hK.1 hP 0 rfl rfl 0 (by decide) (hts _ t_208) (fun _ h9 => h9) rfl dX6_step_32 ?_
        refine lv_aload_n hx hb dX6_step_35 rfl (lv_at hl 0 rfl) ?_
        refine va_get (D := D) (v := .int (gI z_t 4)) (C := RX6) (T := TX6) (N := 9) hx hb hts iX6 hown hK.1 hP 0 rfl rfl 4 (by decide) (hts _ t_212) (fun _ h9 => h9) rfl dX6_step_36 ?_
        obtain ⟨g4, h⟩ := gd_some h
        refine ald_i hx hb hK.1 hP 1 0 rfl rfl ((gI z_t 4).toNatClampNeg) (ix_g g4) dX6_step_39 ?_
        refine va_put (D := D) (v := .int (gT z_t 0 ((gI z_t 4).toNatClampNeg))) (C := RX6) (T := TX6) (N := 9) hx hb hts iX6 tyX6 tyX6_ok nmX6 hown hK.1 hP hD hS 0 rfl rfl 5 (by decide) (hts _ t_215) (fun _ h9 => h9) rfl (tyX6_ok 5 (by decide)) rfl rfl (Nat.le_of_ble_eq_true rfl) dX6_step_40 (fun H locs hP hD hS => ?_)
        have hP : va_P D classes (rc6 a q_t Q_t (sI z_t 5 (gT z_t 0 ((gI z_t 4).toNatClampNeg)))) H := hP
        have hD : va_D A (rc6 a q_t Q_t (sI z_t 5 (gT z_t 0 ((gI z_t 4).toNatClampNeg)))) := hD
        refine lv_aload_n hx hb dX6_step_43 rfl (lv_at hl 0 rfl) ?_
        refine lv_aload_n hx hb dX6_step_44 rfl (lv_at hl 0 rfl) ?_
        refine va_get (D := D) (v := .ref (Q_t 1)) (C := RX6) (T := TX6) (N := 9) hx hb hts iX6 hown hK.1 hP 0 rfl rfl 1 (by decide) (hts _ t_209) (fun _ h9 => h9) rfl dX6_step_45 ?_
        refine lv_aload_n hx hb dX6_step_48 rfl (lv_at hl 0 rfl) ?_
        refine va_get (D := D) (v := .int (gI z_t 4)) (C := RX6) (T := TX6) (N := 9) hx hb hts iX6 hown hK.1 hP 0 rfl rfl 4 (by decide) (hts _ t_212) (fun _ h9 => h9) rfl dX6_step_49 ?_
        refine ald_i hx hb hK.1 hP 2 0 rfl rfl ((gI z_t 4).toNatClampNeg) (ix_g g4) dX6_step_52 ?_
        refine lv_topi (fun v5 ev5 => ?_)
        have h := nm_some h v5 ev5
        refine va_put (D := D) (v := .int v5) (C := RX6) (T := TX6) (N := 9) hx hb hts iX6 tyX6 tyX6_ok nmX6 hown hK.1 hP hD hS 0 rfl rfl 6 (by decide) (hts _ t_216) (fun _ h9 => h9) rfl (tyX6_ok 6 (by decide)) rfl rfl (Nat.le_of_ble_eq_true rfl) dX6_step_53 (fun H locs hP hD hS => ?_)
        have hP : va_P D classes (rc6 a q_t Q_t (sI (sI z_t 5 (gT z_t 0 ((gI z_t 4).toNatClampNeg))) 6 v5)) H := hP
        have hD : va_D A (rc6 a q_t Q_t (sI (sI z_t 5 (gT z_t 0 ((gI z_t 4).toNatClampNeg))) 6 v5)) := hD
        refine lv_aload_n hx hb dX6_step_56 rfl (lv_at hl 0 rfl) ?_
        refine lv_aload_n hx hb dX6_step_57 rfl (lv_at hl 0 rfl) ?_
        refine va_get (D := D) (v := .ref (Q_t 2)) (C := RX6) (T := TX6) (N := 9) hx hb hts iX6 hown hK.1 hP 0 rfl rfl 2 (by decide) (hts _ t_210) (fun _ h9 => h9) rfl dX6_step_58 ?_
        refine lv_aload_n hx hb dX6_step_61 rfl (lv_at hl 0 rfl) ?_
        refine va_get (D := D) (v := .int (gI z_t 4)) (C := RX6) (T := TX6) (N := 9) hx hb hts iX6 hown hK.1 hP 0 rfl rfl 4 (by decide) (hts _ t_212) (fun _ h9 => h9) rfl dX6_step_62 ?_
        refine ald_i hx hb hK.1 hP 3 0 rfl rfl ((gI z_t 4).toNatClampNeg) (ix_g g4) dX6_step_65 ?_
        refine lv_topi (fun v6 ev6 => ?_)
        have h := nm_some h v6 ev6
        refine va_put (D := D) (v := .int v6) (C := RX6) (T := TX6) (N := 9) hx hb hts iX6 tyX6 tyX6_ok nmX6 hown hK.1 hP hD hS 0 rfl rfl 7 (by decide) (hts _ t_218) (fun _ h9 => h9) rfl (tyX6_ok 7 (by decide)) rfl rfl (Nat.le_of_ble_eq_true rfl) dX6_step_66 (fun H locs hP hD hS => ?_)
        have hP : va_P D classes (rc6 a q_t Q_t (sI (sI (sI z_t 5 (gT z_t 0 ((gI z_t 4).toNatClampNeg))) 6 v5) 7 v6)) H := hP
        have hD : va_D A (rc6 a q_t Q_t (sI (sI (sI z_t 5 (gT z_t 0 ((gI z_t 4).toNatClampNeg))) 6 v5) 7 v6)) := hD
        refine lv_aload_n hx hb dX6_step_69 rfl (lv_at hl 0 rfl) ?_
        refine lv_dup hx hb dX6_step_70 rfl ?_
        refine va_get (D := D) (v := .int (gI z_t 4)) (C := RX6) (T := TX6) (N := 9) hx hb hts iX6 hown hK.1 hP 0 rfl rfl 4 (by decide) (hts _ t_212) (fun _ h9 => h9) rfl dX6_step_71 ?_
        refine lv_iconst (v := 1) hx hb dX6_step_74 (by decide) ?_
        refine lv_iadd hx hb dX6_step_75 ?_
        refine va_put (D := D) (v := .int ((gI z_t 4) + 1)) (C := RX6) (T := TX6) (N := 9) hx hb hts iX6 tyX6 tyX6_ok nmX6 hown hK.1 hP hD hS 0 rfl rfl 4 (by decide) (hts _ t_212) (fun _ h9 => h9) rfl (tyX6_ok 4 (by decide)) rfl rfl (Nat.le_of_ble_eq_true rfl) dX6_step_76 (fun H locs hP hD hS => ?_)
        have hP : va_P D classes (rc6 a q_t Q_t (sI (sI (sI (sI z_t 5 (gT z_t 0 ((gI z_t 4).toNatClampNeg))) 6 v5) 7 v6) 4 ((gI z_t 4) + 1))) H := hP
        have hD : va_D A (rc6 a q_t Q_t (sI (sI (sI (sI z_t 5 (gT z_t 0 ((gI z_t 4).toNatClampNeg))) 6 v5) 7 v6) 4 ((gI z_t 4) + 1))) := hD
        exact rMv C rfl h (g := fun y => rc6 a q_t Q_t y) hP hD hS dX6_step_79

set_option maxHeartbeats 4000000 in
set_option maxRecDepth 100000 in
theorem wX4_readTest_9 {p : Program} {l : Launch} {e : Env} {s : State} {m : MethodId} {below : List Frame} {meth : Method} {c : Code} {D : va_G} {a : Nat → ClassId} {A : Nat → Prop} {q_t : Nat} {Q_t : Nat → Nat} {Q_t_0 : Nat → Nat} {x10 : Int32} {x1 : Int32} (C : Cx p s m #[.ref q_t, .int x10] meth c MX4_readTest) (hK : KK D a s) (hA : ∀ q, s.heap.size ≤ q → A q) {F LO : Nat} {rec : Sx → Sx → Int32 → Option (Sx × Sx)} (hrec : ∀ {q_t : Nat} {Q_t : Nat → Nat} {z_t : Sx} {Q_t_0 : Nat → Nat} {z_t_0 : Sx} {x1 : Int32} {y9 : Sx × Sx}, rec z_t z_t_0 x1 = some y9 → ∀ (sz : Nat), CMv (S := Unit) l MX4_readFact F LO 0 0 D a [.ref q_t, .int x1] (rc4 a q_t Q_t z_t ++ (rc6 a (Q_t 0) Q_t_0 z_t_0)) sz (fun _ => True) (fun _ => rc4 a q_t Q_t y9.1 ++ (rc6 a (Q_t 0) Q_t_0 y9.2))) (hF : 1 ≤ F) (hL : 21 ≤ LO) {y : Sx × Sx} {k133 : Sx → Sx → Int32 → Option (Sx × Sx)} (hk133 : ∀ (z_tk : Sx) (z_t_0k : Sx) (x2k : Int32) (H : Heap) (locs : List Loc) (ls : Array Slot), k133 z_tk z_t_0k x2k = some y → va_P D classes (rc4 a q_t Q_t z_tk ++ (rc6 a (Q_t 0) Q_t_0 z_t_0k)) H → va_D A (rc4 a q_t Q_t z_tk ++ (rc6 a (Q_t 0) Q_t_0 z_t_0k)) → va_S A s.heap H locs → lv_has ls 5 [(0, .ref q_t), (2, .int x2k)] → W p l e (rmM (F + 1) 0 0 (LO + 22)) s m #[.ref q_t, .int x10] below meth c H locs 0 0 (MQ below (va_Qv (fun (_ : Unit) => True) (Bw D A (fun _ => rc4 a q_t Q_t y.1 ++ (rc6 a (Q_t 0) Q_t_0 y.2))) A) #[.ref q_t, .int x10] s 0 0 A) (F0 m 133 ls [])) : ∀ (n : Nat) (z_t : Sx) (z_t_0 : Sx) (x2 : Int32) (x3 : Int32) (H : Heap) (locs : List Loc) (ls : Array Slot), lX4_readTest_9 rec k133 x1 n z_t z_t_0 x2 x3 = some y → va_P D classes (rc4 a q_t Q_t z_t ++ (rc6 a (Q_t 0) Q_t_0 z_t_0)) H → va_D A (rc4 a q_t Q_t z_t ++ (rc6 a (Q_t 0) Q_t_0 z_t_0)) → va_S A s.heap H locs → lv_has ls 5 [(0, .ref q_t), (1, .int x1), (2, .int x2), (3, .int x3)] → W p l e (rmM (F + 1) 0 0 (LO + 22)) s m #[.ref q_t, .int x10] below meth c H locs 0 0 (MQ below (va_Qv (fun (_ : Unit) => True) (Bw D A (fun _ => rc4 a q_t Q_t y.1 ++ (rc6 a (Q_t 0) Q_t_0 y.2))) A) #[.ref q_t, .int x10] s 0 0 A) (F0 m 9 ls []) := by
  obtain ⟨hx, hb, hml, hown, hts, hr, hlocks, hnm⟩ := id C
  have hb : c.code = cX4_readTest := hb
  have hown : s.vm.findClass RX4 = some m.cls := hown
  intro n
  induction n with
  | zero => intro z_t z_t_0 x2 x3 H locs ls h; rw [lX4_readTest_9] at h; cases h
  | succ n ih =>
    intro z_t z_t_0 x2 x3 H locs ls h hP hD hS hl
    rw [lX4_readTest_9] at h
    refine lv_iload_n hx hb dX4_readTest_9 rfl (lv_at hl 3 rfl) ?_
    refine lv_sipush (v := 400) hx hb dX4_readTest_10 (by decide) ?_
    refine lv_icmp_ge (tgt := 133) hx hb dX4_readTest_13 (by decide) (fun c4 => ?_) (fun c4 => ?_)
    · have h := ite_t c4 h
      exact hk133 z_t z_t_0 x2 _ _ ls h hP hD hS (lv_sub hl [0, 2] rfl)
    · have h := ite_f c4 h
      refine lv_aload_n hx hb dX4_readTest_16 rfl (lv_at hl 0 rfl) ?_
      refine va_get (D := D) (v := .ref (Q_t 0)) (C := RX4) (T := TX4) (N := 8) hx hb hts iX4 hown hK.1 hP 0 rfl rfl 0 (by decide) (hts _ t_242) (fun _ h9 => h9) rfl dX4_readTest_17 ?_
      refine va_get (D := D) (v := .int (gI z_t_0 8)) (C := RX6) (T := TX6) (N := 9) hx hb hts iX6 hown hK.1 hP 5 rfl rfl 8 (by decide) (hts _ t_220) (fun _ h9 => h9) rfl dX4_readTest_20 ?_
      refine lv_if_ne (tgt := 133) hx hb dX4_readTest_23 (by decide) (fun c5 => ?_) (fun c5 => ?_)
      · have h := ite_f c5 h
        exact hk133 z_t z_t_0 x2 _ _ ls h hP hD hS (lv_sub hl [0, 2] rfl)
      · have h := ite_t c5 h
        refine lv_aload_n hx hb dX4_readTest_26 rfl (lv_at hl 0 rfl) ?_
        refine va_get (D := D) (v := .ref (Q_t 0)) (C := RX4) (T := TX4) (N := 8) hx hb hts iX4 hown hK.1 hP 0 rfl rfl 0 (by decide) (hts _ t_242) (fun _ h9 => h9) rfl dX4_readTest_27 ?_
        refine va_get (D := D) (v := .int (gI z_t_0 5)) (C := RX6) (T := TX6) (N := 9) hx hb hts iX6 hown hK.1 hP 5 rfl rfl 5 (by decide) (hts _ t_214) (fun _ h9 => h9) rfl dX4_readTest_30 ?_
        refine lv_sipush (v := 309) hx hb dX4_readTest_33 (by decide) ?_
        obtain ⟨J6, eJ6, h⟩ := jn_some h
        have hJ6 : ∀ (H : Heap) (locs : List Loc) (ls : Array Slot), J6 = some y → va_P D classes (rc4 a q_t Q_t z_t ++ (rc6 a (Q_t 0) Q_t_0 z_t_0)) H → va_D A (rc4 a q_t Q_t z_t ++ (rc6 a (Q_t 0) Q_t_0 z_t_0)) → va_S A s.heap H locs → lv_has ls 5 [(0, .ref q_t), (1, .int x1), (2, .int x2), (3, .int x3)] → W p l e (rmM (F + 1) 0 0 (LO + 22)) s m #[.ref q_t, .int x10] below meth c H locs 0 0 (MQ below (va_Qv (fun (_ : Unit) => True) (Bw D A (fun _ => rc4 a q_t Q_t y.1 ++ (rc6 a (Q_t 0) Q_t_0 y.2))) A) #[.ref q_t, .int x10] s 0 0 A) (F0 m 52 ls []) := by
          intro H locs ls h hP hD hS hl
          rw [eJ6] at h
          refine lv_aload_n hx hb dX4_readTest_52 rfl (lv_at hl 0 rfl) ?_
          refine va_get (D := D) (v := .ref (Q_t 0)) (C := RX4) (T := TX4) (N := 8) hx hb hts iX4 hown hK.1 hP 0 rfl rfl 0 (by decide) (hts _ t_242) (fun _ h9 => h9) rfl dX4_readTest_53 ?_
          refine va_get (D := D) (v := .int (gI z_t_0 5)) (C := RX6) (T := TX6) (N := 9) hx hb hts iX6 hown hK.1 hP 5 rfl rfl 5 (by decide) (hts _ t_214) (fun _ h9 => h9) rfl dX4_readTest_56 ?_
          refine lv_sipush (v := 309) hx hb dX4_readTest_59 (by decide) ?_
          obtain ⟨J7, eJ7, h⟩ := jn_some h
          have hJ7 : ∀ (i8 : Int32) (H : Heap) (locs : List Loc) (ls : Array Slot), J7 i8 = some y → va_P D classes (rc4 a q_t Q_t z_t ++ (rc6 a (Q_t 0) Q_t_0 z_t_0)) H → va_D A (rc4 a q_t Q_t z_t ++ (rc6 a (Q_t 0) Q_t_0 z_t_0)) → va_S A s.heap H locs → lv_has ls 5 [(0, .ref q_t), (1, .int x1), (2, .int x2), (3, .int x3)] → W p l e (rmM (F + 1) 0 0 (LO + 22)) s m #[.ref q_t, .int x10] below meth c H locs 0 0 (MQ below (va_Qv (fun (_ : Unit) => True) (Bw D A (fun _ => rc4 a q_t Q_t y.1 ++ (rc6 a (Q_t 0) Q_t_0 y.2))) A) #[.ref q_t, .int x10] s 0 0 A) (F0 m 70 ls [.int i8]) := by
            intro i8 H locs ls h hP hD hS hl
            rw [eJ7] at h
            refine lv_istore (lv' := [(4, .int i8), (0, .ref q_t), (1, .int x1), (2, .int x2), (3, .int x3)]) hx hb dX4_readTest_70 hl (by decide) rfl (fun ls hl => ?_)
            refine lv_iload hx hb dX4_readTest_72 (lv_at hl 0 rfl) ?_
            obtain ⟨J9, eJ9, h⟩ := jn_some h
            have hJ9 : ∀ (z10 : Sx) (z11 : Sx) (H : Heap) (locs : List Loc) (ls : Array Slot), J9 z10 z11 = some y → va_P D classes (rc4 a q_t Q_t z10 ++ (rc6 a (Q_t 0) Q_t_0 z11)) H → va_D A (rc4 a q_t Q_t z10 ++ (rc6 a (Q_t 0) Q_t_0 z11)) → va_S A s.heap H locs → lv_has ls 5 [(0, .ref q_t), (1, .int x1), (2, .int x2), (3, .int x3), (4, .int i8)] → W p l e (rmM (F + 1) 0 0 (LO + 22)) s m #[.ref q_t, .int x10] below meth c H locs 0 0 (MQ below (va_Qv (fun (_ : Unit) => True) (Bw D A (fun _ => rc4 a q_t Q_t y.1 ++ (rc6 a (Q_t 0) Q_t_0 y.2))) A) #[.ref q_t, .int x10] s 0 0 A) (F0 m 88 ls []) := by
              intro z10 z11 H locs ls h hP hD hS hl
              rw [eJ9] at h
              refine lv_iload_n hx hb dX4_readTest_88 rfl (lv_at hl 2 rfl) ?_
              obtain ⟨J12, eJ12, h⟩ := jn_some h
              have hJ12 : ∀ (i13 : Int32) (H : Heap) (locs : List Loc) (ls : Array Slot), J12 i13 = some y → va_P D classes (rc4 a q_t Q_t z10 ++ (rc6 a (Q_t 0) Q_t_0 z11)) H → va_D A (rc4 a q_t Q_t z10 ++ (rc6 a (Q_t 0) Q_t_0 z11)) → va_S A s.heap H locs → lv_has ls 5 [(0, .ref q_t), (1, .int x1), (3, .int x3), (4, .int i8)] → W p l e (rmM (F + 1) 0 0 (LO + 22)) s m #[.ref q_t, .int x10] below meth c H locs 0 0 (MQ below (va_Qv (fun (_ : Unit) => True) (Bw D A (fun _ => rc4 a q_t Q_t y.1 ++ (rc6 a (Q_t 0) Q_t_0 y.2))) A) #[.ref q_t, .int x10] s 0 0 A) (F0 m 102 ls [.int i13]) := by
                intro i13 H locs ls h hP hD hS hl
                rw [eJ12] at h
                refine lv_istore_n (lv' := [(2, .int i13), (0, .ref q_t), (1, .int x1), (3, .int x3), (4, .int i8)]) hx hb dX4_readTest_102 rfl hl (by decide) rfl (fun ls hl => ?_)
                refine lv_aload_n hx hb dX4_readTest_103 rfl (lv_at hl 1 rfl) ?_
                refine va_get (D := D) (v := .ref (Q_t 0)) (C := RX4) (T := TX4) (N := 8) hx hb hts iX4 hown hK.1 hP 0 rfl rfl 0 (by decide) (hts _ t_242) (fun _ h9 => h9) rfl dX4_readTest_104 ?_
                obtain ⟨z15, hc14, h⟩ := bd_some h
                refine cMv (runV (As := []) (rest := []) C (mX6_step l D a (q_t := (Q_t 0)) (Q_t := Q_t_0) hc14 H.size) lk_V_4_72 okN_X6_step (by constructor; (show 0 + 1 ≤ F + 1; omega); (show 8 + (1 + 11) + (0) ≤ LO + 22; omega)) ⟨rfl, rfl⟩ (preV (preM hK (P_of_map (wc := rc6 a (Q_t 0) Q_t_0 z11) hP [5, 6, 7, 8] rfl) (hD.sub (ws' := rc6 a (Q_t 0) Q_t_0 z11) [5, 6, 7, 8] (by decide) rfl)) (recvOf hK hP 5 rfl (ci := 6) rfl)) hl.1 rfl (Nat.le_of_ble_eq_true rfl) dX4_readTest_107 ⟨Nat.le_of_ble_eq_true rfl, Nat.le_of_ble_eq_true rfl⟩) hP hD hS hA [5, 6, 7, 8] [0, 1, 2, 3, 4] [0, 1, 2, 3, 4, 5, 6, 7, 8] rfl rfl (by decide) (by decide) (fw := rc4 a q_t Q_t z10 ++ (rc6 a (Q_t 0) Q_t_0 z15)) rfl (by decide) (fun H locs hP hD hS => ?_)
                have hP : va_P D classes (rc4 a q_t Q_t z10 ++ (rc6 a (Q_t 0) Q_t_0 z15)) H := hP
                have hD : va_D A (rc4 a q_t Q_t z10 ++ (rc6 a (Q_t 0) Q_t_0 z15)) := hD
                refine lv_aload_n hx hb dX4_readTest_110 rfl (lv_at hl 1 rfl) ?_
                refine lv_iload_n hx hb dX4_readTest_111 rfl (lv_at hl 2 rfl) ?_
                obtain ⟨z17, z18, hc16, h⟩ := bd2_some h
                refine cWv (runV (As := [.int x1]) (rest := []) C (hrec (q_t := q_t) (Q_t := Q_t) (Q_t_0 := Q_t_0) hc16 H.size) lk_V_4_88 okN_X4_readFact (by constructor; (show F + 0 + 1 ≤ F + 1; omega); (show 8 + (3 + 11) + (LO + 0) ≤ LO + 22; omega)) ⟨rfl, rfl⟩ (preV (preM hK hP hD) (recvOf hK hP 0 rfl (ci := 4) rfl)) hl.1 rfl (Nat.le_of_ble_eq_true rfl) dX4_readTest_112 ⟨Nat.le_of_ble_eq_true rfl, Nat.le_of_ble_eq_true rfl⟩) hP hD hS hA (fun H locs hP hD hS => ?_)
                have hP : va_P D classes (rc4 a q_t Q_t z17 ++ (rc6 a (Q_t 0) Q_t_0 z18)) H := hP
                have hD : va_D A (rc4 a q_t Q_t z17 ++ (rc6 a (Q_t 0) Q_t_0 z18)) := hD
                refine lv_iload hx hb dX4_readTest_115 (lv_at hl 4 rfl) ?_
                obtain ⟨J19, eJ19, h⟩ := jn_some h
                have hJ19 : ∀ (z20 : Sx) (z21 : Sx) (H : Heap) (locs : List Loc) (ls : Array Slot), J19 z20 z21 = some y → va_P D classes (rc4 a q_t Q_t z20 ++ (rc6 a (Q_t 0) Q_t_0 z21)) H → va_D A (rc4 a q_t Q_t z20 ++ (rc6 a (Q_t 0) Q_t_0 z21)) → va_S A s.heap H locs → lv_has ls 5 [(0, .ref q_t), (1, .int x1), (2, .int i13), (3, .int x3)] → W p l e (rmM (F + 1) 0 0 (LO + 22)) s m #[.ref q_t, .int x10] below meth c H locs 0 0 (MQ below (va_Qv (fun (_ : Unit) => True) (Bw D A (fun _ => rc4 a q_t Q_t y.1 ++ (rc6 a (Q_t 0) Q_t_0 y.2))) A) #[.ref q_t, .int x10] s 0 0 A) (F0 m 127 ls []) := by
                  intro z20 z21 H locs ls h hP hD hS hl
                  rw [eJ19] at h
                  refine lv_iinc (v := x3 + 1) (lv' := [(3, .int (x3 + 1)), (0, .ref q_t), (1, .int x1), (2, .int i13)]) hx hb dX4_readTest_127 hl (k := 3) rfl rfl (by decide) rfl (fun ls hl => ?_)
                  refine lv_goto (tgt := 9) hx hb dX4_readTest_130 (by decide) ?_
                  exact ih z20 z21 i13 (x3 + 1) _ _ ls h hP hD hS (lv_sub hl [1, 2, 3, 0] rfl)
                refine lv_if_ne (tgt := 127) hx hb dX4_readTest_117 (by decide) (fun c22 => ?_) (fun c22 => ?_)
                · have h := ite_f c22 h
                  exact hJ19 z17 z18 _ _ ls h hP hD hS (lv_sub hl [1, 2, 0, 3] rfl)
                · have h := ite_t c22 h
                  refine lv_aload_n hx hb dX4_readTest_120 rfl (lv_at hl 1 rfl) ?_
                  refine lv_sipush (v := (-310)) hx hb dX4_readTest_121 (by decide) ?_
                  obtain ⟨z24, hc23, h⟩ := bd_some h
                  refine cMv (runV (As := [.int (-310)]) (rest := []) C (mX4_emit l D a (q_t := q_t) (Q_t := Q_t) hc23 H.size) lk_V_4_91 okN_X4_emit (by constructor; (show 0 + 1 ≤ F + 1; omega); (show 8 + (2 + 11) + (0) ≤ LO + 22; omega)) ⟨rfl, rfl⟩ (preV (preM hK (P_of_map (wc := rc4 a q_t Q_t z17) hP [0, 1, 2, 3, 4] rfl) (hD.sub (ws' := rc4 a q_t Q_t z17) [0, 1, 2, 3, 4] (by decide) rfl)) (recvOf hK hP 0 rfl (ci := 4) rfl)) hl.1 rfl (Nat.le_of_ble_eq_true rfl) dX4_readTest_124 ⟨Nat.le_of_ble_eq_true rfl, Nat.le_of_ble_eq_true rfl⟩) hP hD hS hA [0, 1, 2, 3, 4] [5, 6, 7, 8] [4, 5, 6, 7, 8, 0, 1, 2, 3] rfl rfl (by decide) (by decide) (fw := rc4 a q_t Q_t z24 ++ (rc6 a (Q_t 0) Q_t_0 z18)) rfl (by decide) (fun H locs hP hD hS => ?_)
                  have hP : va_P D classes (rc4 a q_t Q_t z24 ++ (rc6 a (Q_t 0) Q_t_0 z18)) H := hP
                  have hD : va_D A (rc4 a q_t Q_t z24 ++ (rc6 a (Q_t 0) Q_t_0 z18)) := hD
                  exact hJ19 z24 z18 _ _ ls h hP hD hS (lv_sub hl [1, 2, 0, 3] rfl)
              obtain ⟨J25, eJ25, h⟩ := jn_some h
              have hJ25 : ∀ (H : Heap) (locs : List Loc) (ls : Array Slot), J25 = some y → va_P D classes (rc4 a q_t Q_t z10 ++ (rc6 a (Q_t 0) Q_t_0 z11)) H → va_D A (rc4 a q_t Q_t z10 ++ (rc6 a (Q_t 0) Q_t_0 z11)) → va_S A s.heap H locs → lv_has ls 5 [(0, .ref q_t), (1, .int x1), (3, .int x3), (4, .int i8)] → W p l e (rmM (F + 1) 0 0 (LO + 22)) s m #[.ref q_t, .int x10] below meth c H locs 0 0 (MQ below (va_Qv (fun (_ : Unit) => True) (Bw D A (fun _ => rc4 a q_t Q_t y.1 ++ (rc6 a (Q_t 0) Q_t_0 y.2))) A) #[.ref q_t, .int x10] s 0 0 A) (F0 m 97 ls []) := by
                intro H locs ls h hP hD hS hl
                rw [eJ25] at h
                refine lv_iconst (v := 1) hx hb dX4_readTest_97 (by decide) ?_
                refine lv_goto (tgt := 102) hx hb dX4_readTest_98 (by decide) ?_
                exact hJ12 1 _ _ ls h hP hD hS (lv_sub hl [0, 1, 2, 3] rfl)
              refine lv_if_ne (tgt := 97) hx hb dX4_readTest_89 (by decide) (fun c26 => ?_) (fun c26 => ?_)
              · have h := ite_f c26 h
                exact hJ25 _ _ ls h hP hD hS (lv_sub hl [0, 1, 3, 4] rfl)
              · have h := ite_t c26 h
                refine lv_iload hx hb dX4_readTest_92 (lv_at hl 4 rfl) ?_
                refine lv_if_eq (tgt := 101) hx hb dX4_readTest_94 (by decide) (fun c27 => ?_) (fun c27 => ?_)
                · have h := ite_t c27 h
                  refine lv_iconst (v := 0) hx hb dX4_readTest_101 (by decide) ?_
                  exact hJ12 0 _ _ ls h hP hD hS (lv_sub hl [0, 1, 3, 4] rfl)
                · have h := ite_f c27 h
                  exact hJ25 _ _ ls h hP hD hS (lv_sub hl [0, 1, 3, 4] rfl)
            refine lv_if_eq (tgt := 88) hx hb dX4_readTest_74 (by decide) (fun c28 => ?_) (fun c28 => ?_)
            · have h := ite_t c28 h
              exact hJ9 z_t z_t_0 _ _ ls h hP hD hS (lv_sub hl [1, 2, 3, 4, 0] rfl)
            · have h := ite_f c28 h
              refine lv_iload_n hx hb dX4_readTest_77 rfl (lv_at hl 3 rfl) ?_
              refine lv_if_eq (tgt := 88) hx hb dX4_readTest_78 (by decide) (fun c29 => ?_) (fun c29 => ?_)
              · have h := ite_t c29 h
                exact hJ9 z_t z_t_0 _ _ ls h hP hD hS (lv_sub hl [1, 2, 3, 4, 0] rfl)
              · have h := ite_f c29 h
                refine lv_aload_n hx hb dX4_readTest_81 rfl (lv_at hl 1 rfl) ?_
                refine lv_sipush (v := (-309)) hx hb dX4_readTest_82 (by decide) ?_
                obtain ⟨z31, hc30, h⟩ := bd_some h
                refine cMv (runV (As := [.int (-309)]) (rest := []) C (mX4_emit l D a (q_t := q_t) (Q_t := Q_t) hc30 H.size) lk_V_4_91 okN_X4_emit (by constructor; (show 0 + 1 ≤ F + 1; omega); (show 8 + (2 + 11) + (0) ≤ LO + 22; omega)) ⟨rfl, rfl⟩ (preV (preM hK (P_of_map (wc := rc4 a q_t Q_t z_t) hP [0, 1, 2, 3, 4] rfl) (hD.sub (ws' := rc4 a q_t Q_t z_t) [0, 1, 2, 3, 4] (by decide) rfl)) (recvOf hK hP 0 rfl (ci := 4) rfl)) hl.1 rfl (Nat.le_of_ble_eq_true rfl) dX4_readTest_85 ⟨Nat.le_of_ble_eq_true rfl, Nat.le_of_ble_eq_true rfl⟩) hP hD hS hA [0, 1, 2, 3, 4] [5, 6, 7, 8] [4, 5, 6, 7, 8, 0, 1, 2, 3] rfl rfl (by decide) (by decide) (fw := rc4 a q_t Q_t z31 ++ (rc6 a (Q_t 0) Q_t_0 z_t_0)) rfl (by decide) (fun H locs hP hD hS => ?_)
                have hP : va_P D classes (rc4 a q_t Q_t z31 ++ (rc6 a (Q_t 0) Q_t_0 z_t_0)) H := hP
                have hD : va_D A (rc4 a q_t Q_t z31 ++ (rc6 a (Q_t 0) Q_t_0 z_t_0)) := hD
                exact hJ9 z31 z_t_0 _ _ ls h hP hD hS (lv_sub hl [1, 2, 3, 4, 0] rfl)
          refine lv_icmp_ne (tgt := 69) hx hb dX4_readTest_62 (by decide) (fun c32 => ?_) (fun c32 => ?_)
          · have h := ite_f c32 h
            refine lv_iconst (v := 0) hx hb dX4_readTest_69 (by decide) ?_
            exact hJ7 0 _ _ ls h hP hD hS (lv_sub hl [0, 1, 2, 3] rfl)
          · have h := ite_t c32 h
            refine lv_iconst (v := 1) hx hb dX4_readTest_65 (by decide) ?_
            refine lv_goto (tgt := 70) hx hb dX4_readTest_66 (by decide) ?_
            exact hJ7 1 _ _ ls h hP hD hS (lv_sub hl [0, 1, 2, 3] rfl)
        refine lv_icmp_eq (tgt := 52) hx hb dX4_readTest_36 (by decide) (fun c33 => ?_) (fun c33 => ?_)
        · have h := ite_t c33 h
          exact hJ6 _ _ ls h hP hD hS (lv_sub hl [0, 1, 2, 3] rfl)
        · have h := ite_f c33 h
          refine lv_aload_n hx hb dX4_readTest_39 rfl (lv_at hl 0 rfl) ?_
          refine va_get (D := D) (v := .ref (Q_t 0)) (C := RX4) (T := TX4) (N := 8) hx hb hts iX4 hown hK.1 hP 0 rfl rfl 0 (by decide) (hts _ t_242) (fun _ h9 => h9) rfl dX4_readTest_40 ?_
          refine va_get (D := D) (v := .int (gI z_t_0 5)) (C := RX6) (T := TX6) (N := 9) hx hb hts iX6 hown hK.1 hP 5 rfl rfl 5 (by decide) (hts _ t_214) (fun _ h9 => h9) rfl dX4_readTest_43 ?_
          refine lv_sipush (v := 310) hx hb dX4_readTest_46 (by decide) ?_
          refine lv_icmp_ne (tgt := 133) hx hb dX4_readTest_49 (by decide) (fun c34 => ?_) (fun c34 => ?_)
          · have h := ite_f c34 h
            exact hk133 z_t z_t_0 x2 _ _ ls h hP hD hS (lv_sub hl [0, 2] rfl)
          · have h := ite_t c34 h
            exact hJ6 _ _ ls h hP hD hS (lv_sub hl [0, 1, 2, 3] rfl)

set_option maxHeartbeats 4000000 in
set_option maxRecDepth 100000 in
theorem mX4_readTest (l : Launch) (D : va_G) (a : Nat → ClassId) {F LO : Nat} {rec : Sx → Sx → Int32 → Option (Sx × Sx)} (hrec : ∀ {q_t : Nat} {Q_t : Nat → Nat} {z_t : Sx} {Q_t_0 : Nat → Nat} {z_t_0 : Sx} {x1 : Int32} {y9 : Sx × Sx}, rec z_t z_t_0 x1 = some y9 → ∀ (sz : Nat), CMv (S := Unit) l MX4_readFact F LO 0 0 D a [.ref q_t, .int x1] (rc4 a q_t Q_t z_t ++ (rc6 a (Q_t 0) Q_t_0 z_t_0)) sz (fun _ => True) (fun _ => rc4 a q_t Q_t y9.1 ++ (rc6 a (Q_t 0) Q_t_0 y9.2))) (hF : 1 ≤ F) (hL : 21 ≤ LO) {q_t : Nat} {Q_t : Nat → Nat} {z_t : Sx} {Q_t_0 : Nat → Nat} {z_t_0 : Sx} {x1 : Int32} {y : Sx × Sx} (h : fX4_readTest rec z_t z_t_0 x1 = some y) (sz : Nat) : CMv (S := Unit) l MX4_readTest (F + 1) (LO + 22) 0 0 D a [.ref q_t, .int x1] (rc4 a q_t Q_t z_t ++ (rc6 a (Q_t 0) Q_t_0 z_t_0)) sz (fun _ => True) (fun _ => rc4 a q_t Q_t y.1 ++ (rc6 a (Q_t 0) Q_t_0 y.2)) := by
  unfold fX4_readTest at h
  refine entMv (by decide) (Nat.le_of_ble_eq_true rfl) ?_
  intro p e s m below meth c C hK A hA hP hD ls hl
  obtain ⟨hx, hb, hml, hown, hts, hr, hlocks, hnm⟩ := id C
  have hb : c.code = cX4_readTest := hb
  have hown : s.vm.findClass RX4 = some m.cls := hown
  have hS : va_S A s.heap s.heap [] := va_S.rf
  have hl : lv_has ls 5 [(0, .ref q_t), (1, .int x1)] := hl
  refine lv_iconst (v := 0) hx hb dX4_readTest_0 (by decide) ?_
  refine lv_istore_n (lv' := [(2, .int 0), (0, .ref q_t), (1, .int x1)]) hx hb dX4_readTest_1 rfl hl (by decide) rfl (fun ls hl => ?_)
  refine lv_aload_n hx hb dX4_readTest_2 rfl (lv_at hl 1 rfl) ?_
  refine lv_iload_n hx hb dX4_readTest_3 rfl (lv_at hl 2 rfl) ?_
  obtain ⟨z2, z3, hc1, h⟩ := bd2_some h
  refine cWv (runV (As := [.int x1]) (rest := []) C (hrec (q_t := q_t) (Q_t := Q_t) (Q_t_0 := Q_t_0) hc1 s.heap.size) lk_V_4_88 okN_X4_readFact (by constructor; (show F + 0 + 1 ≤ F + 1; omega); (show 8 + (3 + 11) + (LO + 0) ≤ LO + 22; omega)) ⟨rfl, rfl⟩ (preV (preM hK hP hD) (recvOf hK hP 0 rfl (ci := 4) rfl)) hl.1 rfl (Nat.le_of_ble_eq_true rfl) dX4_readTest_4 ⟨Nat.le_of_ble_eq_true rfl, Nat.le_of_ble_eq_true rfl⟩) hP hD hS hA (fun H locs hP hD hS => ?_)
  have hP : va_P D classes (rc4 a q_t Q_t z2 ++ (rc6 a (Q_t 0) Q_t_0 z3)) H := hP
  have hD : va_D A (rc4 a q_t Q_t z2 ++ (rc6 a (Q_t 0) Q_t_0 z3)) := hD
  refine lv_iconst (v := 0) hx hb dX4_readTest_7 (by decide) ?_
  refine lv_istore_n (lv' := [(3, .int 0), (2, .int 0), (0, .ref q_t), (1, .int x1)]) hx hb dX4_readTest_8 rfl hl (by decide) rfl (fun ls hl => ?_)
  refine wX4_readTest_9 C hK hA hrec hF hL ?_ FU z2 z3 0 0 _ _ ls h hP hD hS (lv_sub hl [2, 3, 1, 0] rfl)
  · intro z35 z36 i37 H locs ls h hP hD hS hl
    refine lv_iload_n hx hb dX4_readTest_133 rfl (lv_at hl 1 rfl) ?_
    refine lv_if_eq (tgt := 144) hx hb dX4_readTest_134 (by decide) (fun c38 => ?_) (fun c38 => ?_)
    · have h := ite_t c38 h
      exact rMv C rfl h (g := fun y => rc4 a q_t Q_t y.1 ++ (rc6 a (Q_t 0) Q_t_0 y.2)) hP hD hS dX4_readTest_144
    · have h := ite_f c38 h
      refine lv_aload_n hx hb dX4_readTest_137 rfl (lv_at hl 0 rfl) ?_
      refine lv_sipush (v := (-309)) hx hb dX4_readTest_138 (by decide) ?_
      obtain ⟨z40, hc39, h⟩ := bd_some h
      refine cMv (runV (As := [.int (-309)]) (rest := []) C (mX4_emit l D a (q_t := q_t) (Q_t := Q_t) hc39 H.size) lk_V_4_91 okN_X4_emit (by constructor; (show 0 + 1 ≤ F + 1; omega); (show 8 + (2 + 11) + (0) ≤ LO + 22; omega)) ⟨rfl, rfl⟩ (preV (preM hK (P_of_map (wc := rc4 a q_t Q_t z35) hP [0, 1, 2, 3, 4] rfl) (hD.sub (ws' := rc4 a q_t Q_t z35) [0, 1, 2, 3, 4] (by decide) rfl)) (recvOf hK hP 0 rfl (ci := 4) rfl)) hl.1 rfl (Nat.le_of_ble_eq_true rfl) dX4_readTest_141 ⟨Nat.le_of_ble_eq_true rfl, Nat.le_of_ble_eq_true rfl⟩) hP hD hS hA [0, 1, 2, 3, 4] [5, 6, 7, 8] [4, 5, 6, 7, 8, 0, 1, 2, 3] rfl rfl (by decide) (by decide) (fw := rc4 a q_t Q_t z40 ++ (rc6 a (Q_t 0) Q_t_0 z36)) rfl (by decide) (fun H locs hP hD hS => ?_)
      have hP : va_P D classes (rc4 a q_t Q_t z40 ++ (rc6 a (Q_t 0) Q_t_0 z36)) H := hP
      have hD : va_D A (rc4 a q_t Q_t z40 ++ (rc6 a (Q_t 0) Q_t_0 z36)) := hD
      exact rMv C rfl h (g := fun y => rc4 a q_t Q_t y.1 ++ (rc6 a (Q_t 0) Q_t_0 y.2)) hP hD hS dX4_readTest_144

set_option maxHeartbeats 4000000 in
set_option maxRecDepth 100000 in
theorem mX6_fail (l : Launch) (D : va_G) (a : Nat → ClassId) {q_t : Nat} {Q_t : Nat → Nat} {z_t : Sx} {x1 : Int32} {y : Sx} (h : fX6_fail z_t x1 = some y) (sz : Nat) : CMv (S := Unit) l MX6_fail 0 0 0 0 D a [.ref q_t, .int x1] (rc6 a q_t Q_t z_t) sz (fun _ => True) (fun _ => rc6 a q_t Q_t y) := by
  unfold fX6_fail at h
  refine entMv (by decide) (Nat.le_of_ble_eq_true rfl) ?_
  intro p e s m below meth c C hK A hA hP hD ls hl
  obtain ⟨hx, hb, hml, hown, hts, hr, hlocks, hnm⟩ := id C
  have hb : c.code = cX6_fail := hb
  have hown : s.vm.findClass RX6 = some m.cls := hown
  have hS : va_S A s.heap s.heap [] := va_S.rf
  have hl : lv_has ls 2 [(0, .ref q_t), (1, .int x1)] := hl
  refine lv_aload_n hx hb dX6_fail_0 rfl (lv_at hl 0 rfl) ?_
  refine va_get (D := D) (v := .int (gI z_t 8)) (C := RX6) (T := TX6) (N := 9) hx hb hts iX6 hown hK.1 hP 0 rfl rfl 8 (by decide) (hts _ t_219) (fun _ h9 => h9) rfl dX6_fail_1 ?_
  refine lv_if_ne (tgt := 22) hx hb dX6_fail_4 (by decide) (fun c1 => ?_) (fun c1 => ?_)
  · have h := ite_f c1 h
    exact rMv C rfl h (g := fun y => rc6 a q_t Q_t y) hP hD hS dX6_fail_22
  · have h := ite_t c1 h
    refine lv_aload_n hx hb dX6_fail_7 rfl (lv_at hl 0 rfl) ?_
    refine lv_iconst (v := 1) hx hb dX6_fail_8 (by decide) ?_
    refine lv_bipush (v := 8) hx hb dX6_fail_9 (by decide) ?_
    refine lv_aload_n hx hb dX6_fail_11 rfl (lv_at hl 0 rfl) ?_
    refine va_get (D := D) (v := .int (gI z_t 6)) (C := RX6) (T := TX6) (N := 9) hx hb hts iX6 hown hK.1 hP 0 rfl rfl 6 (by decide) (hts _ t_216) (fun _ h9 => h9) rfl dX6_fail_12 ?_
    refine lv_imul hx hb dX6_fail_15 ?_
    refine lv_iadd hx hb dX6_fail_16 ?_
    refine lv_iload_n hx hb dX6_fail_17 rfl (lv_at hl 1 rfl) ?_
    refine lv_iadd hx hb dX6_fail_18 ?_
    refine va_put (D := D) (v := .int ((1 + (8 * (gI z_t 6))) + x1)) (C := RX6) (T := TX6) (N := 9) hx hb hts iX6 tyX6 tyX6_ok nmX6 hown hK.1 hP hD hS 0 rfl rfl 8 (by decide) (hts _ t_219) (fun _ h9 => h9) rfl (tyX6_ok 8 (by decide)) rfl rfl (Nat.le_of_ble_eq_true rfl) dX6_fail_19 (fun H locs hP hD hS => ?_)
    have hP : va_P D classes (rc6 a q_t Q_t (sI z_t 8 ((1 + (8 * (gI z_t 6))) + x1))) H := hP
    have hD : va_D A (rc6 a q_t Q_t (sI z_t 8 ((1 + (8 * (gI z_t 6))) + x1))) := hD
    exact rMv C rfl h (g := fun y => rc6 a q_t Q_t y) hP hD hS dX6_fail_22

set_option maxHeartbeats 4000000 in
set_option maxRecDepth 100000 in
theorem mX4_readValue (l : Launch) (D : va_G) (a : Nat → ClassId) {q_t : Nat} {Q_t : Nat → Nat} {z_t : Sx} {Q_t_0 : Nat → Nat} {z_t_0 : Sx} {y : Sx × Sx} (h : fX4_readValue z_t z_t_0 = some y) (sz : Nat) : CMv (S := Unit) l MX4_readValue 1 21 0 0 D a [.ref q_t] (rc4 a q_t Q_t z_t ++ (rc6 a (Q_t 0) Q_t_0 z_t_0)) sz (fun _ => True) (fun _ => rc4 a q_t Q_t y.1 ++ (rc6 a (Q_t 0) Q_t_0 y.2)) := by
  unfold fX4_readValue at h
  refine entMv (by decide) (Nat.le_of_ble_eq_true rfl) ?_
  intro p e s m below meth c C hK A hA hP hD ls hl
  obtain ⟨hx, hb, hml, hown, hts, hr, hlocks, hnm⟩ := id C
  have hb : c.code = cX4_readValue := hb
  have hown : s.vm.findClass RX4 = some m.cls := hown
  have hS : va_S A s.heap s.heap [] := va_S.rf
  have hl : lv_has ls 3 [(0, .ref q_t)] := hl
  refine lv_aload_n hx hb dX4_readValue_0 rfl (lv_at hl 0 rfl) ?_
  refine va_get (D := D) (v := .ref (Q_t 0)) (C := RX4) (T := TX4) (N := 8) hx hb hts iX4 hown hK.1 hP 0 rfl rfl 0 (by decide) (hts _ t_242) (fun _ h9 => h9) rfl dX4_readValue_1 ?_
  refine va_get (D := D) (v := .int (gI z_t_0 5)) (C := RX6) (T := TX6) (N := 9) hx hb hts iX6 hown hK.1 hP 5 rfl rfl 5 (by decide) (hts _ t_214) (fun _ h9 => h9) rfl dX4_readValue_4 ?_
  refine lv_sipush (v := 301) hx hb dX4_readValue_7 (by decide) ?_
  obtain ⟨J1, eJ1, h⟩ := jn_some h
  have hJ1 : ∀ (i2 : Int32) (H : Heap) (locs : List Loc) (ls : Array Slot), J1 i2 = some y → va_P D classes (rc4 a q_t Q_t z_t ++ (rc6 a (Q_t 0) Q_t_0 z_t_0)) H → va_D A (rc4 a q_t Q_t z_t ++ (rc6 a (Q_t 0) Q_t_0 z_t_0)) → va_S A s.heap H locs → lv_has ls 3 [(0, .ref q_t)] → W p l e (rmM 1 0 0 21) s m #[.ref q_t] below meth c H locs 0 0 (MQ below (va_Qv (fun (_ : Unit) => True) (Bw D A (fun _ => rc4 a q_t Q_t y.1 ++ (rc6 a (Q_t 0) Q_t_0 y.2))) A) #[.ref q_t] s 0 0 A) (F0 m 18 ls [.int i2]) := by
    intro i2 H locs ls h hP hD hS hl
    rw [eJ1] at h
    refine lv_istore_n (lv' := [(1, .int i2), (0, .ref q_t)]) hx hb dX4_readValue_18 rfl hl (by decide) rfl (fun ls hl => ?_)
    refine lv_aload_n hx hb dX4_readValue_19 rfl (lv_at hl 1 rfl) ?_
    refine va_get (D := D) (v := .ref (Q_t 0)) (C := RX4) (T := TX4) (N := 8) hx hb hts iX4 hown hK.1 hP 0 rfl rfl 0 (by decide) (hts _ t_242) (fun _ h9 => h9) rfl dX4_readValue_20 ?_
    refine va_get (D := D) (v := .int (gI z_t_0 5)) (C := RX6) (T := TX6) (N := 9) hx hb hts iX6 hown hK.1 hP 5 rfl rfl 5 (by decide) (hts _ t_214) (fun _ h9 => h9) rfl dX4_readValue_23 ?_
    refine lv_sipush (v := 312) hx hb dX4_readValue_26 (by decide) ?_
    obtain ⟨J3, eJ3, h⟩ := jn_some h
    have hJ3 : ∀ (i4 : Int32) (H : Heap) (locs : List Loc) (ls : Array Slot), J3 i4 = some y → va_P D classes (rc4 a q_t Q_t z_t ++ (rc6 a (Q_t 0) Q_t_0 z_t_0)) H → va_D A (rc4 a q_t Q_t z_t ++ (rc6 a (Q_t 0) Q_t_0 z_t_0)) → va_S A s.heap H locs → lv_has ls 3 [(0, .ref q_t), (1, .int i2)] → W p l e (rmM 1 0 0 21) s m #[.ref q_t] below meth c H locs 0 0 (MQ below (va_Qv (fun (_ : Unit) => True) (Bw D A (fun _ => rc4 a q_t Q_t y.1 ++ (rc6 a (Q_t 0) Q_t_0 y.2))) A) #[.ref q_t] s 0 0 A) (F0 m 50 ls [.int i4]) := by
      intro i4 H locs ls h hP hD hS hl
      rw [eJ3] at h
      refine lv_istore_n (lv' := [(2, .int i4), (0, .ref q_t), (1, .int i2)]) hx hb dX4_readValue_50 rfl hl (by decide) rfl (fun ls hl => ?_)
      refine lv_iload_n hx hb dX4_readValue_51 rfl (lv_at hl 2 rfl) ?_
      obtain ⟨J5, eJ5, h⟩ := jn_some h
      have hJ5 : ∀ (H : Heap) (locs : List Loc) (ls : Array Slot), J5 = some y → va_P D classes (rc4 a q_t Q_t z_t ++ (rc6 a (Q_t 0) Q_t_0 z_t_0)) H → va_D A (rc4 a q_t Q_t z_t ++ (rc6 a (Q_t 0) Q_t_0 z_t_0)) → va_S A s.heap H locs → lv_has ls 3 [(0, .ref q_t), (1, .int i2)] → W p l e (rmM 1 0 0 21) s m #[.ref q_t] below meth c H locs 0 0 (MQ below (va_Qv (fun (_ : Unit) => True) (Bw D A (fun _ => rc4 a q_t Q_t y.1 ++ (rc6 a (Q_t 0) Q_t_0 y.2))) A) #[.ref q_t] s 0 0 A) (F0 m 85 ls []) := by
        intro H locs ls h hP hD hS hl
        rw [eJ5] at h
        refine lv_aload_n hx hb dX4_readValue_85 rfl (lv_at hl 0 rfl) ?_
        refine va_get (D := D) (v := .int (gI z_t 3)) (C := RX4) (T := TX4) (N := 8) hx hb hts iX4 hown hK.1 hP 0 rfl rfl 3 (by decide) (hts _ t_246) (fun _ h9 => h9) rfl dX4_readValue_86 ?_
        refine lv_bipush (v := 60) hx hb dX4_readValue_89 (by decide) ?_
        refine lv_icmp_lt (tgt := 103) hx hb dX4_readValue_91 (by decide) (fun c6 => ?_) (fun c6 => ?_)
        · have h := ite_t c6 h
          refine lv_aload_n hx hb dX4_readValue_103 rfl (lv_at hl 0 rfl) ?_
          refine lv_dup hx hb dX4_readValue_104 rfl ?_
          refine va_get (D := D) (v := .int (gI z_t 3)) (C := RX4) (T := TX4) (N := 8) hx hb hts iX4 hown hK.1 hP 0 rfl rfl 3 (by decide) (hts _ t_246) (fun _ h9 => h9) rfl dX4_readValue_105 ?_
          refine lv_iconst (v := 1) hx hb dX4_readValue_108 (by decide) ?_
          refine lv_iadd hx hb dX4_readValue_109 ?_
          refine va_put (D := D) (v := .int ((gI z_t 3) + 1)) (C := RX4) (T := TX4) (N := 8) hx hb hts iX4 tyX4 tyX4_ok nmX4 hown hK.1 hP hD hS 0 rfl rfl 3 (by decide) (hts _ t_246) (fun _ h9 => h9) rfl (tyX4_ok 3 (by decide)) rfl rfl (Nat.le_of_ble_eq_true rfl) dX4_readValue_110 (fun H locs hP hD hS => ?_)
          have hP : va_P D classes (rc4 a q_t Q_t (sI z_t 3 ((gI z_t 3) + 1)) ++ (rc6 a (Q_t 0) Q_t_0 z_t_0)) H := hP
          have hD : va_D A (rc4 a q_t Q_t (sI z_t 3 ((gI z_t 3) + 1)) ++ (rc6 a (Q_t 0) Q_t_0 z_t_0)) := hD
          refine lv_aload_n hx hb dX4_readValue_113 rfl (lv_at hl 0 rfl) ?_
          refine lv_iload_n hx hb dX4_readValue_114 rfl (lv_at hl 1 rfl) ?_
          obtain ⟨J7, eJ7, h⟩ := jn_some h
          have hJ7 : ∀ (i8 : Int32) (H : Heap) (locs : List Loc) (ls : Array Slot), J7 i8 = some y → va_P D classes (rc4 a q_t Q_t (sI z_t 3 ((gI z_t 3) + 1)) ++ (rc6 a (Q_t 0) Q_t_0 z_t_0)) H → va_D A (rc4 a q_t Q_t (sI z_t 3 ((gI z_t 3) + 1)) ++ (rc6 a (Q_t 0) Q_t_0 z_t_0)) → va_S A s.heap H locs → lv_has ls 3 [(0, .ref q_t)] → W p l e (rmM 1 0 0 21) s m #[.ref q_t] below meth c H locs 0 0 (MQ below (va_Qv (fun (_ : Unit) => True) (Bw D A (fun _ => rc4 a q_t Q_t y.1 ++ (rc6 a (Q_t 0) Q_t_0 y.2))) A) #[.ref q_t] s 0 0 A) (F0 m 136 ls [.int i8, .ref q_t]) := by
            intro i8 H locs ls h hP hD hS hl
            rw [eJ7] at h
            obtain ⟨z10, hc9, h⟩ := bd_some h
            refine cMv (runV (As := [.int i8]) (rest := []) C (mX4_emit l D a (q_t := q_t) (Q_t := Q_t) hc9 H.size) lk_V_4_91 okN_X4_emit ⟨Nat.le_of_ble_eq_true rfl, Nat.le_of_ble_eq_true rfl⟩ ⟨rfl, rfl⟩ (preV (preM hK (P_of_map (wc := rc4 a q_t Q_t (sI z_t 3 ((gI z_t 3) + 1))) hP [0, 1, 2, 3, 4] rfl) (hD.sub (ws' := rc4 a q_t Q_t (sI z_t 3 ((gI z_t 3) + 1))) [0, 1, 2, 3, 4] (by decide) rfl)) (recvOf hK hP 0 rfl (ci := 4) rfl)) hl.1 rfl (Nat.le_of_ble_eq_true rfl) dX4_readValue_136 ⟨Nat.le_of_ble_eq_true rfl, Nat.le_of_ble_eq_true rfl⟩) hP hD hS hA [0, 1, 2, 3, 4] [5, 6, 7, 8] [4, 5, 6, 7, 8, 0, 1, 2, 3] rfl rfl (by decide) (by decide) (fw := rc4 a q_t Q_t z10 ++ (rc6 a (Q_t 0) Q_t_0 z_t_0)) rfl (by decide) (fun H locs hP hD hS => ?_)
            have hP : va_P D classes (rc4 a q_t Q_t z10 ++ (rc6 a (Q_t 0) Q_t_0 z_t_0)) H := hP
            have hD : va_D A (rc4 a q_t Q_t z10 ++ (rc6 a (Q_t 0) Q_t_0 z_t_0)) := hD
            refine lv_aload_n hx hb dX4_readValue_139 rfl (lv_at hl 0 rfl) ?_
            refine va_get (D := D) (v := .ref (Q_t 0)) (C := RX4) (T := TX4) (N := 8) hx hb hts iX4 hown hK.1 hP 0 rfl rfl 0 (by decide) (hts _ t_242) (fun _ h9 => h9) rfl dX4_readValue_140 ?_
            obtain ⟨z12, hc11, h⟩ := bd_some h
            refine cMv (runV (As := []) (rest := []) C (mX6_step l D a (q_t := (Q_t 0)) (Q_t := Q_t_0) hc11 H.size) lk_V_4_72 okN_X6_step ⟨Nat.le_of_ble_eq_true rfl, Nat.le_of_ble_eq_true rfl⟩ ⟨rfl, rfl⟩ (preV (preM hK (P_of_map (wc := rc6 a (Q_t 0) Q_t_0 z_t_0) hP [5, 6, 7, 8] rfl) (hD.sub (ws' := rc6 a (Q_t 0) Q_t_0 z_t_0) [5, 6, 7, 8] (by decide) rfl)) (recvOf hK hP 5 rfl (ci := 6) rfl)) hl.1 rfl (Nat.le_of_ble_eq_true rfl) dX4_readValue_143 ⟨Nat.le_of_ble_eq_true rfl, Nat.le_of_ble_eq_true rfl⟩) hP hD hS hA [5, 6, 7, 8] [0, 1, 2, 3, 4] [0, 1, 2, 3, 4, 5, 6, 7, 8] rfl rfl (by decide) (by decide) (fw := rc4 a q_t Q_t z10 ++ (rc6 a (Q_t 0) Q_t_0 z12)) rfl (by decide) (fun H locs hP hD hS => ?_)
            have hP : va_P D classes (rc4 a q_t Q_t z10 ++ (rc6 a (Q_t 0) Q_t_0 z12)) H := hP
            have hD : va_D A (rc4 a q_t Q_t z10 ++ (rc6 a (Q_t 0) Q_t_0 z12)) := hD
            exact rMv C rfl h (g := fun y => rc4 a q_t Q_t y.1 ++ (rc6 a (Q_t 0) Q_t_0 y.2)) hP hD hS dX4_readValue_146
          refine lv_if_eq (tgt := 128) hx hb dX4_readValue_115 (by decide) (fun c13 => ?_) (fun c13 => ?_)
          · have h := ite_t c13 h
            refine lv_aload_n hx hb dX4_readValue_128 rfl (lv_at hl 0 rfl) ?_
            refine va_get (D := D) (v := .ref (Q_t 0)) (C := RX4) (T := TX4) (N := 8) hx hb hts iX4 hown hK.1 hP 0 rfl rfl 0 (by decide) (hts _ t_242) (fun _ h9 => h9) rfl dX4_readValue_129 ?_
            refine va_get (D := D) (v := .int (gI z_t_0 5)) (C := RX6) (T := TX6) (N := 9) hx hb hts iX6 hown hK.1 hP 5 rfl rfl 5 (by decide) (hts _ t_214) (fun _ h9 => h9) rfl dX4_readValue_132 ?_
            refine lv_ineg hx hb dX4_readValue_135 ?_
            exact hJ7 (-(gI z_t_0 5)) _ _ ls h hP hD hS (lv_sub hl [0] rfl)
          · have h := ite_f c13 h
            refine lv_aload_n hx hb dX4_readValue_118 rfl (lv_at hl 0 rfl) ?_
            refine va_get (D := D) (v := .ref (Q_t 0)) (C := RX4) (T := TX4) (N := 8) hx hb hts iX4 hown hK.1 hP 0 rfl rfl 0 (by decide) (hts _ t_242) (fun _ h9 => h9) rfl dX4_readValue_119 ?_
            refine va_get (D := D) (v := .int (gI z_t_0 7)) (C := RX6) (T := TX6) (N := 9) hx hb hts iX6 hown hK.1 hP 5 rfl rfl 7 (by decide) (hts _ t_217) (fun _ h9 => h9) rfl dX4_readValue_122 ?_
            refine lv_goto (tgt := 136) hx hb dX4_readValue_125 (by decide) ?_
            exact hJ7 (gI z_t_0 7) _ _ ls h hP hD hS (lv_sub hl [0] rfl)
        · have h := ite_f c6 h
          refine lv_aload_n hx hb dX4_readValue_94 rfl (lv_at hl 0 rfl) ?_
          refine va_get (D := D) (v := .ref (Q_t 0)) (C := RX4) (T := TX4) (N := 8) hx hb hts iX4 hown hK.1 hP 0 rfl rfl 0 (by decide) (hts _ t_242) (fun _ h9 => h9) rfl dX4_readValue_95 ?_
          refine lv_iconst (v := 3) hx hb dX4_readValue_98 (by decide) ?_
          obtain ⟨z15, hc14, h⟩ := bd_some h
          refine cMv (runV (As := [.int 3]) (rest := []) C (mX6_fail l D a (q_t := (Q_t 0)) (Q_t := Q_t_0) hc14 H.size) lk_V_4_68 okN_X6_fail ⟨Nat.le_of_ble_eq_true rfl, Nat.le_of_ble_eq_true rfl⟩ ⟨rfl, rfl⟩ (preV (preM hK (P_of_map (wc := rc6 a (Q_t 0) Q_t_0 z_t_0) hP [5, 6, 7, 8] rfl) (hD.sub (ws' := rc6 a (Q_t 0) Q_t_0 z_t_0) [5, 6, 7, 8] (by decide) rfl)) (recvOf hK hP 5 rfl (ci := 6) rfl)) hl.1 rfl (Nat.le_of_ble_eq_true rfl) dX4_readValue_99 ⟨Nat.le_of_ble_eq_true rfl, Nat.le_of_ble_eq_true rfl⟩) hP hD hS hA [5, 6, 7, 8] [0, 1, 2, 3, 4] [0, 1, 2, 3, 4, 5, 6, 7, 8] rfl rfl (by decide) (by decide) (fw := rc4 a q_t Q_t z_t ++ (rc6 a (Q_t 0) Q_t_0 z15)) rfl (by decide) (fun H locs hP hD hS => ?_)
          have hP : va_P D classes (rc4 a q_t Q_t z_t ++ (rc6 a (Q_t 0) Q_t_0 z15)) H := hP
          have hD : va_D A (rc4 a q_t Q_t z_t ++ (rc6 a (Q_t 0) Q_t_0 z15)) := hD
          exact rMv C rfl h (g := fun y => rc4 a q_t Q_t y.1 ++ (rc6 a (Q_t 0) Q_t_0 y.2)) hP hD hS dX4_readValue_102
      refine lv_if_ne (tgt := 85) hx hb dX4_readValue_52 (by decide) (fun c16 => ?_) (fun c16 => ?_)
      · have h := ite_f c16 h
        exact hJ5 _ _ ls h hP hD hS (lv_sub hl [1, 2] rfl)
      · have h := ite_t c16 h
        refine lv_iload_n hx hb dX4_readValue_55 rfl (lv_at hl 0 rfl) ?_
        refine lv_if_ne (tgt := 85) hx hb dX4_readValue_56 (by decide) (fun c17 => ?_) (fun c17 => ?_)
        · have h := ite_f c17 h
          exact hJ5 _ _ ls h hP hD hS (lv_sub hl [1, 2] rfl)
        · have h := ite_t c17 h
          refine lv_aload_n hx hb dX4_readValue_59 rfl (lv_at hl 1 rfl) ?_
          refine va_get (D := D) (v := .ref (Q_t 0)) (C := RX4) (T := TX4) (N := 8) hx hb hts iX4 hown hK.1 hP 0 rfl rfl 0 (by decide) (hts _ t_242) (fun _ h9 => h9) rfl dX4_readValue_60 ?_
          refine lv_aload_n hx hb dX4_readValue_63 rfl (lv_at hl 1 rfl) ?_
          refine va_get (D := D) (v := .ref (Q_t 0)) (C := RX4) (T := TX4) (N := 8) hx hb hts iX4 hown hK.1 hP 0 rfl rfl 0 (by decide) (hts _ t_242) (fun _ h9 => h9) rfl dX4_readValue_64 ?_
          refine va_get (D := D) (v := .int (gI z_t_0 5)) (C := RX6) (T := TX6) (N := 9) hx hb hts iX6 hown hK.1 hP 5 rfl rfl 5 (by decide) (hts _ t_214) (fun _ h9 => h9) rfl dX4_readValue_67 ?_
          refine lv_sipush (v := 302) hx hb dX4_readValue_70 (by decide) ?_
          obtain ⟨J18, eJ18, h⟩ := jn_some h
          have hJ18 : ∀ (i19 : Int32) (H : Heap) (locs : List Loc) (ls : Array Slot), J18 i19 = some y → va_P D classes (rc4 a q_t Q_t z_t ++ (rc6 a (Q_t 0) Q_t_0 z_t_0)) H → va_D A (rc4 a q_t Q_t z_t ++ (rc6 a (Q_t 0) Q_t_0 z_t_0)) → va_S A s.heap H locs → lv_has ls 3 [] → W p l e (rmM 1 0 0 21) s m #[.ref q_t] below meth c H locs 0 0 (MQ below (va_Qv (fun (_ : Unit) => True) (Bw D A (fun _ => rc4 a q_t Q_t y.1 ++ (rc6 a (Q_t 0) Q_t_0 y.2))) A) #[.ref q_t] s 0 0 A) (F0 m 81 ls [.int i19, .ref (Q_t 0)]) := by
            intro i19 H locs ls h hP hD hS hl
            rw [eJ18] at h
            obtain ⟨z21, hc20, h⟩ := bd_some h
            refine cMv (runV (As := [.int i19]) (rest := []) C (mX6_fail l D a (q_t := (Q_t 0)) (Q_t := Q_t_0) hc20 H.size) lk_V_4_68 okN_X6_fail ⟨Nat.le_of_ble_eq_true rfl, Nat.le_of_ble_eq_true rfl⟩ ⟨rfl, rfl⟩ (preV (preM hK (P_of_map (wc := rc6 a (Q_t 0) Q_t_0 z_t_0) hP [5, 6, 7, 8] rfl) (hD.sub (ws' := rc6 a (Q_t 0) Q_t_0 z_t_0) [5, 6, 7, 8] (by decide) rfl)) (recvOf hK hP 5 rfl (ci := 6) rfl)) hl.1 rfl (Nat.le_of_ble_eq_true rfl) dX4_readValue_81 ⟨Nat.le_of_ble_eq_true rfl, Nat.le_of_ble_eq_true rfl⟩) hP hD hS hA [5, 6, 7, 8] [0, 1, 2, 3, 4] [0, 1, 2, 3, 4, 5, 6, 7, 8] rfl rfl (by decide) (by decide) (fw := rc4 a q_t Q_t z_t ++ (rc6 a (Q_t 0) Q_t_0 z21)) rfl (by decide) (fun H locs hP hD hS => ?_)
            have hP : va_P D classes (rc4 a q_t Q_t z_t ++ (rc6 a (Q_t 0) Q_t_0 z21)) H := hP
            have hD : va_D A (rc4 a q_t Q_t z_t ++ (rc6 a (Q_t 0) Q_t_0 z21)) := hD
            exact rMv C rfl h (g := fun y => rc4 a q_t Q_t y.1 ++ (rc6 a (Q_t 0) Q_t_0 y.2)) hP hD hS dX4_readValue_84
          refine lv_icmp_ne (tgt := 80) hx hb dX4_readValue_73 (by decide) (fun c22 => ?_) (fun c22 => ?_)
          · have h := ite_f c22 h
            refine lv_iconst (v := 0) hx hb dX4_readValue_80 (by decide) ?_
            exact hJ18 0 _ _ ls h hP hD hS (lv_sub hl [] rfl)
          · have h := ite_t c22 h
            refine lv_iconst (v := 1) hx hb dX4_readValue_76 (by decide) ?_
            refine lv_goto (tgt := 81) hx hb dX4_readValue_77 (by decide) ?_
            exact hJ18 1 _ _ ls h hP hD hS (lv_sub hl [] rfl)
    obtain ⟨J23, eJ23, h⟩ := jn_some h
    have hJ23 : ∀ (H : Heap) (locs : List Loc) (ls : Array Slot), J23 = some y → va_P D classes (rc4 a q_t Q_t z_t ++ (rc6 a (Q_t 0) Q_t_0 z_t_0)) H → va_D A (rc4 a q_t Q_t z_t ++ (rc6 a (Q_t 0) Q_t_0 z_t_0)) → va_S A s.heap H locs → lv_has ls 3 [(0, .ref q_t), (1, .int i2)] → W p l e (rmM 1 0 0 21) s m #[.ref q_t] below meth c H locs 0 0 (MQ below (va_Qv (fun (_ : Unit) => True) (Bw D A (fun _ => rc4 a q_t Q_t y.1 ++ (rc6 a (Q_t 0) Q_t_0 y.2))) A) #[.ref q_t] s 0 0 A) (F0 m 49 ls []) := by
      intro H locs ls h hP hD hS hl
      rw [eJ23] at h
      refine lv_iconst (v := 0) hx hb dX4_readValue_49 (by decide) ?_
      exact hJ3 0 _ _ ls h hP hD hS (lv_sub hl [0, 1] rfl)
    refine lv_icmp_lt (tgt := 49) hx hb dX4_readValue_29 (by decide) (fun c24 => ?_) (fun c24 => ?_)
    · have h := ite_t c24 h
      exact hJ23 _ _ ls h hP hD hS (lv_sub hl [1, 0] rfl)
    · have h := ite_f c24 h
      refine lv_aload_n hx hb dX4_readValue_32 rfl (lv_at hl 1 rfl) ?_
      refine va_get (D := D) (v := .ref (Q_t 0)) (C := RX4) (T := TX4) (N := 8) hx hb hts iX4 hown hK.1 hP 0 rfl rfl 0 (by decide) (hts _ t_242) (fun _ h9 => h9) rfl dX4_readValue_33 ?_
      refine va_get (D := D) (v := .int (gI z_t_0 5)) (C := RX6) (T := TX6) (N := 9) hx hb hts iX6 hown hK.1 hP 5 rfl rfl 5 (by decide) (hts _ t_214) (fun _ h9 => h9) rfl dX4_readValue_36 ?_
      refine lv_sipush (v := 320) hx hb dX4_readValue_39 (by decide) ?_
      refine lv_icmp_gt (tgt := 49) hx hb dX4_readValue_42 (by decide) (fun c25 => ?_) (fun c25 => ?_)
      · have h := ite_t c25 h
        exact hJ23 _ _ ls h hP hD hS (lv_sub hl [1, 0] rfl)
      · have h := ite_f c25 h
        refine lv_iconst (v := 1) hx hb dX4_readValue_45 (by decide) ?_
        refine lv_goto (tgt := 50) hx hb dX4_readValue_46 (by decide) ?_
        exact hJ3 1 _ _ ls h hP hD hS (lv_sub hl [1, 0] rfl)
  refine lv_icmp_ne (tgt := 17) hx hb dX4_readValue_10 (by decide) (fun c26 => ?_) (fun c26 => ?_)
  · have h := ite_f c26 h
    refine lv_iconst (v := 0) hx hb dX4_readValue_17 (by decide) ?_
    exact hJ1 0 _ _ ls h hP hD hS (lv_sub hl [0] rfl)
  · have h := ite_t c26 h
    refine lv_iconst (v := 1) hx hb dX4_readValue_13 (by decide) ?_
    refine lv_goto (tgt := 18) hx hb dX4_readValue_14 (by decide) ?_
    exact hJ1 1 _ _ ls h hP hD hS (lv_sub hl [0] rfl)

set_option maxHeartbeats 4000000 in
set_option maxRecDepth 100000 in
theorem wX4_readSum_8 {p : Program} {l : Launch} {e : Env} {s : State} {m : MethodId} {below : List Frame} {meth : Method} {c : Code} {D : va_G} {a : Nat → ClassId} {A : Nat → Prop} {q_t : Nat} {Q_t : Nat → Nat} {Q_t_0 : Nat → Nat} (C : Cx p s m #[.ref q_t] meth c MX4_readSum) (hK : KK D a s) (hA : ∀ q, s.heap.size ≤ q → A q) {y : Sx × Sx} {k69 : Sx → Sx → Int32 → Option (Sx × Sx)} {k126 : Sx → Sx → Int32 → Option (Sx × Sx)} (hk69 : ∀ (z_tk : Sx) (z_t_0k : Sx) (x1k : Int32) (H : Heap) (locs : List Loc) (ls : Array Slot), k69 z_tk z_t_0k x1k = some y → va_P D classes (rc4 a q_t Q_t z_tk ++ (rc6 a (Q_t 0) Q_t_0 z_t_0k)) H → va_D A (rc4 a q_t Q_t z_tk ++ (rc6 a (Q_t 0) Q_t_0 z_t_0k)) → va_S A s.heap H locs → lv_has ls 5 [(0, .ref q_t), (1, .int x1k)] → W p l e (rmM 2 0 0 43) s m #[.ref q_t] below meth c H locs 0 0 (MQ below (va_Qv (fun (_ : Unit) => True) (Bw D A (fun _ => rc4 a q_t Q_t y.1 ++ (rc6 a (Q_t 0) Q_t_0 y.2))) A) #[.ref q_t] s 0 0 A) (F0 m 69 ls [])) (hk126 : ∀ (z_tk : Sx) (z_t_0k : Sx) (x1k : Int32) (H : Heap) (locs : List Loc) (ls : Array Slot), k126 z_tk z_t_0k x1k = some y → va_P D classes (rc4 a q_t Q_t z_tk ++ (rc6 a (Q_t 0) Q_t_0 z_t_0k)) H → va_D A (rc4 a q_t Q_t z_tk ++ (rc6 a (Q_t 0) Q_t_0 z_t_0k)) → va_S A s.heap H locs → lv_has ls 5 [(0, .ref q_t), (1, .int x1k)] → W p l e (rmM 2 0 0 43) s m #[.ref q_t] below meth c H locs 0 0 (MQ below (va_Qv (fun (_ : Unit) => True) (Bw D A (fun _ => rc4 a q_t Q_t y.1 ++ (rc6 a (Q_t 0) Q_t_0 y.2))) A) #[.ref q_t] s 0 0 A) (F0 m 126 ls [])) : ∀ (n : Nat) (z_t : Sx) (z_t_0 : Sx) (x1 : Int32) (x2 : Int32) (H : Heap) (locs : List Loc) (ls : Array Slot), lX4_readSum_8 k69 k126 n z_t z_t_0 x1 x2 = some y → va_P D classes (rc4 a q_t Q_t z_t ++ (rc6 a (Q_t 0) Q_t_0 z_t_0)) H → va_D A (rc4 a q_t Q_t z_t ++ (rc6 a (Q_t 0) Q_t_0 z_t_0)) → va_S A s.heap H locs → lv_has ls 5 [(0, .ref q_t), (1, .int x1), (2, .int x2)] → W p l e (rmM 2 0 0 43) s m #[.ref q_t] below meth c H locs 0 0 (MQ below (va_Qv (fun (_ : Unit) => True) (Bw D A (fun _ => rc4 a q_t Q_t y.1 ++ (rc6 a (Q_t 0) Q_t_0 y.2))) A) #[.ref q_t] s 0 0 A) (F0 m 8 ls []) := by
  obtain ⟨hx, hb, hml, hown, hts, hr, hlocks, hnm⟩ := id C
  have hb : c.code = cX4_readSum := hb
  have hown : s.vm.findClass RX4 = some m.cls := hown
  intro n
  induction n with
  | zero => intro z_t z_t_0 x1 x2 H locs ls h; rw [lX4_readSum_8] at h; cases h
  | succ n ih =>
    intro z_t z_t_0 x1 x2 H locs ls h hP hD hS hl
    rw [lX4_readSum_8] at h
    refine lv_iload_n hx hb dX4_readSum_8 rfl (lv_at hl 2 rfl) ?_
    refine lv_sipush (v := 400) hx hb dX4_readSum_9 (by decide) ?_
    refine lv_icmp_ge (tgt := 126) hx hb dX4_readSum_12 (by decide) (fun c4 => ?_) (fun c4 => ?_)
    · have h := ite_t c4 h
      exact hk126 z_t z_t_0 x1 _ _ ls h hP hD hS (lv_sub hl [0, 1] rfl)
    · have h := ite_f c4 h
      refine lv_aload_n hx hb dX4_readSum_15 rfl (lv_at hl 0 rfl) ?_
      refine va_get (D := D) (v := .ref (Q_t 0)) (C := RX4) (T := TX4) (N := 8) hx hb hts iX4 hown hK.1 hP 0 rfl rfl 0 (by decide) (hts _ t_242) (fun _ h9 => h9) rfl dX4_readSum_16 ?_
      refine va_get (D := D) (v := .int (gI z_t_0 8)) (C := RX6) (T := TX6) (N := 9) hx hb hts iX6 hown hK.1 hP 5 rfl rfl 8 (by decide) (hts _ t_220) (fun _ h9 => h9) rfl dX4_readSum_19 ?_
      refine lv_if_ne (tgt := 126) hx hb dX4_readSum_22 (by decide) (fun c5 => ?_) (fun c5 => ?_)
      · have h := ite_f c5 h
        exact hk126 z_t z_t_0 x1 _ _ ls h hP hD hS (lv_sub hl [0, 1] rfl)
      · have h := ite_t c5 h
        refine lv_aload_n hx hb dX4_readSum_25 rfl (lv_at hl 0 rfl) ?_
        refine va_get (D := D) (v := .ref (Q_t 0)) (C := RX4) (T := TX4) (N := 8) hx hb hts iX4 hown hK.1 hP 0 rfl rfl 0 (by decide) (hts _ t_242) (fun _ h9 => h9) rfl dX4_readSum_26 ?_
        refine va_get (D := D) (v := .int (gI z_t_0 5)) (C := RX6) (T := TX6) (N := 9) hx hb hts iX6 hown hK.1 hP 5 rfl rfl 5 (by decide) (hts _ t_214) (fun _ h9 => h9) rfl dX4_readSum_29 ?_
        refine lv_istore_n (lv' := [(3, .int (gI z_t_0 5)), (0, .ref q_t), (1, .int x1), (2, .int x2)]) hx hb dX4_readSum_32 rfl hl (by decide) rfl (fun ls hl => ?_)
        refine lv_iload_n hx hb dX4_readSum_33 rfl (lv_at hl 0 rfl) ?_
        refine lv_bipush (v := 42) hx hb dX4_readSum_34 (by decide) ?_
        obtain ⟨J6, eJ6, h⟩ := jn_some h
        have hJ6 : ∀ (i7 : Int32) (H : Heap) (locs : List Loc) (ls : Array Slot), J6 i7 = some y → va_P D classes (rc4 a q_t Q_t z_t ++ (rc6 a (Q_t 0) Q_t_0 z_t_0)) H → va_D A (rc4 a q_t Q_t z_t ++ (rc6 a (Q_t 0) Q_t_0 z_t_0)) → va_S A s.heap H locs → lv_has ls 5 [(0, .ref q_t), (1, .int x1), (2, .int x2), (3, .int (gI z_t_0 5))] → W p l e (rmM 2 0 0 43) s m #[.ref q_t] below meth c H locs 0 0 (MQ below (va_Qv (fun (_ : Unit) => True) (Bw D A (fun _ => rc4 a q_t Q_t y.1 ++ (rc6 a (Q_t 0) Q_t_0 y.2))) A) #[.ref q_t] s 0 0 A) (F0 m 50 ls [.int i7]) := by
          intro i7 H locs ls h hP hD hS hl
          rw [eJ6] at h
          refine lv_istore (lv' := [(4, .int i7), (0, .ref q_t), (1, .int x1), (2, .int x2), (3, .int (gI z_t_0 5))]) hx hb dX4_readSum_50 hl (by decide) rfl (fun ls hl => ?_)
          refine lv_iload hx hb dX4_readSum_52 (lv_at hl 0 rfl) ?_
          obtain ⟨J8, eJ8, h⟩ := jn_some h
          have hJ8 : ∀ (H : Heap) (locs : List Loc) (ls : Array Slot), J8 = some y → va_P D classes (rc4 a q_t Q_t z_t ++ (rc6 a (Q_t 0) Q_t_0 z_t_0)) H → va_D A (rc4 a q_t Q_t z_t ++ (rc6 a (Q_t 0) Q_t_0 z_t_0)) → va_S A s.heap H locs → lv_has ls 5 [(0, .ref q_t), (1, .int x1), (2, .int x2), (3, .int (gI z_t_0 5)), (4, .int i7)] → W p l e (rmM 2 0 0 43) s m #[.ref q_t] below meth c H locs 0 0 (MQ below (va_Qv (fun (_ : Unit) => True) (Bw D A (fun _ => rc4 a q_t Q_t y.1 ++ (rc6 a (Q_t 0) Q_t_0 y.2))) A) #[.ref q_t] s 0 0 A) (F0 m 72 ls []) := by
            intro H locs ls h hP hD hS hl
            rw [eJ8] at h
            refine lv_iload hx hb dX4_readSum_72 (lv_at hl 4 rfl) ?_
            obtain ⟨J9, eJ9, h⟩ := jn_some h
            have hJ9 : ∀ (z10 : Sx) (z11 : Sx) (H : Heap) (locs : List Loc) (ls : Array Slot), J9 z10 z11 = some y → va_P D classes (rc4 a q_t Q_t z10 ++ (rc6 a (Q_t 0) Q_t_0 z11)) H → va_D A (rc4 a q_t Q_t z10 ++ (rc6 a (Q_t 0) Q_t_0 z11)) → va_S A s.heap H locs → lv_has ls 5 [(0, .ref q_t), (1, .int x1), (2, .int x2), (3, .int (gI z_t_0 5)), (4, .int i7)] → W p l e (rmM 2 0 0 43) s m #[.ref q_t] below meth c H locs 0 0 (MQ below (va_Qv (fun (_ : Unit) => True) (Bw D A (fun _ => rc4 a q_t Q_t y.1 ++ (rc6 a (Q_t 0) Q_t_0 y.2))) A) #[.ref q_t] s 0 0 A) (F0 m 87 ls []) := by
              intro z10 z11 H locs ls h hP hD hS hl
              rw [eJ9] at h
              refine lv_iload hx hb dX4_readSum_87 (lv_at hl 4 rfl) ?_
              obtain ⟨J12, eJ12, h⟩ := jn_some h
              have hJ12 : ∀ (i13 : Int32) (H : Heap) (locs : List Loc) (ls : Array Slot), J12 i13 = some y → va_P D classes (rc4 a q_t Q_t z10 ++ (rc6 a (Q_t 0) Q_t_0 z11)) H → va_D A (rc4 a q_t Q_t z10 ++ (rc6 a (Q_t 0) Q_t_0 z11)) → va_S A s.heap H locs → lv_has ls 5 [(0, .ref q_t), (2, .int x2), (3, .int (gI z_t_0 5)), (4, .int i7)] → W p l e (rmM 2 0 0 43) s m #[.ref q_t] below meth c H locs 0 0 (MQ below (va_Qv (fun (_ : Unit) => True) (Bw D A (fun _ => rc4 a q_t Q_t y.1 ++ (rc6 a (Q_t 0) Q_t_0 y.2))) A) #[.ref q_t] s 0 0 A) (F0 m 97 ls [.int i13]) := by
                intro i13 H locs ls h hP hD hS hl
                rw [eJ12] at h
                refine lv_istore_n (lv' := [(1, .int i13), (0, .ref q_t), (2, .int x2), (3, .int (gI z_t_0 5)), (4, .int i7)]) hx hb dX4_readSum_97 rfl hl (by decide) rfl (fun ls hl => ?_)
                refine lv_aload_n hx hb dX4_readSum_98 rfl (lv_at hl 1 rfl) ?_
                refine va_get (D := D) (v := .ref (Q_t 0)) (C := RX4) (T := TX4) (N := 8) hx hb hts iX4 hown hK.1 hP 0 rfl rfl 0 (by decide) (hts _ t_242) (fun _ h9 => h9) rfl dX4_readSum_99 ?_
                obtain ⟨z15, hc14, h⟩ := bd_some h
                refine cMv (runV (As := []) (rest := []) C (mX6_step l D a (q_t := (Q_t 0)) (Q_t := Q_t_0) hc14 H.size) lk_V_4_72 okN_X6_step ⟨Nat.le_of_ble_eq_true rfl, Nat.le_of_ble_eq_true rfl⟩ ⟨rfl, rfl⟩ (preV (preM hK (P_of_map (wc := rc6 a (Q_t 0) Q_t_0 z11) hP [5, 6, 7, 8] rfl) (hD.sub (ws' := rc6 a (Q_t 0) Q_t_0 z11) [5, 6, 7, 8] (by decide) rfl)) (recvOf hK hP 5 rfl (ci := 6) rfl)) hl.1 rfl (Nat.le_of_ble_eq_true rfl) dX4_readSum_102 ⟨Nat.le_of_ble_eq_true rfl, Nat.le_of_ble_eq_true rfl⟩) hP hD hS hA [5, 6, 7, 8] [0, 1, 2, 3, 4] [0, 1, 2, 3, 4, 5, 6, 7, 8] rfl rfl (by decide) (by decide) (fw := rc4 a q_t Q_t z10 ++ (rc6 a (Q_t 0) Q_t_0 z15)) rfl (by decide) (fun H locs hP hD hS => ?_)
                have hP : va_P D classes (rc4 a q_t Q_t z10 ++ (rc6 a (Q_t 0) Q_t_0 z15)) H := hP
                have hD : va_D A (rc4 a q_t Q_t z10 ++ (rc6 a (Q_t 0) Q_t_0 z15)) := hD
                refine lv_aload_n hx hb dX4_readSum_105 rfl (lv_at hl 1 rfl) ?_
                obtain ⟨z17, z18, hc16, h⟩ := bd2_some h
                refine cWv (runV (As := []) (rest := []) C (mX4_readValue l D a (q_t := q_t) (Q_t := Q_t) (Q_t_0 := Q_t_0) hc16 H.size) lk_V_4_97 okN_X4_readValue ⟨Nat.le_of_ble_eq_true rfl, Nat.le_of_ble_eq_true rfl⟩ ⟨rfl, rfl⟩ (preV (preM hK hP hD) (recvOf hK hP 0 rfl (ci := 4) rfl)) hl.1 rfl (Nat.le_of_ble_eq_true rfl) dX4_readSum_106 ⟨Nat.le_of_ble_eq_true rfl, Nat.le_of_ble_eq_true rfl⟩) hP hD hS hA (fun H locs hP hD hS => ?_)
                have hP : va_P D classes (rc4 a q_t Q_t z17 ++ (rc6 a (Q_t 0) Q_t_0 z18)) H := hP
                have hD : va_D A (rc4 a q_t Q_t z17 ++ (rc6 a (Q_t 0) Q_t_0 z18)) := hD
                refine lv_iload hx hb dX4_readSum_109 (lv_at hl 4 rfl) ?_
                obtain ⟨J19, eJ19, h⟩ := jn_some h
                have hJ19 : ∀ (z20 : Sx) (z21 : Sx) (H : Heap) (locs : List Loc) (ls : Array Slot), J19 z20 z21 = some y → va_P D classes (rc4 a q_t Q_t z20 ++ (rc6 a (Q_t 0) Q_t_0 z21)) H → va_D A (rc4 a q_t Q_t z20 ++ (rc6 a (Q_t 0) Q_t_0 z21)) → va_S A s.heap H locs → lv_has ls 5 [(0, .ref q_t), (1, .int i13), (2, .int x2)] → W p l e (rmM 2 0 0 43) s m #[.ref q_t] below meth c H locs 0 0 (MQ below (va_Qv (fun (_ : Unit) => True) (Bw D A (fun _ => rc4 a q_t Q_t y.1 ++ (rc6 a (Q_t 0) Q_t_0 y.2))) A) #[.ref q_t] s 0 0 A) (F0 m 120 ls []) := by
                  intro z20 z21 H locs ls h hP hD hS hl
                  rw [eJ19] at h
                  refine lv_iinc (v := x2 + 1) (lv' := [(2, .int (x2 + 1)), (0, .ref q_t), (1, .int i13)]) hx hb dX4_readSum_120 hl (k := 2) rfl rfl (by decide) rfl (fun ls hl => ?_)
                  refine lv_goto (tgt := 8) hx hb dX4_readSum_123 (by decide) ?_
                  exact ih z20 z21 i13 (x2 + 1) _ _ ls h hP hD hS (lv_sub hl [1, 2, 0] rfl)
                refine lv_if_eq (tgt := 120) hx hb dX4_readSum_111 (by decide) (fun c22 => ?_) (fun c22 => ?_)
                · have h := ite_t c22 h
                  exact hJ19 z17 z18 _ _ ls h hP hD hS (lv_sub hl [1, 0, 2] rfl)
                · have h := ite_f c22 h
                  refine lv_aload_n hx hb dX4_readSum_114 rfl (lv_at hl 1 rfl) ?_
                  refine lv_iload_n hx hb dX4_readSum_115 rfl (lv_at hl 3 rfl) ?_
                  refine lv_ineg hx hb dX4_readSum_116 ?_
                  obtain ⟨z24, hc23, h⟩ := bd_some h
                  refine cMv (runV (As := [.int (-(gI z_t_0 5))]) (rest := []) C (mX4_emit l D a (q_t := q_t) (Q_t := Q_t) hc23 H.size) lk_V_4_91 okN_X4_emit ⟨Nat.le_of_ble_eq_true rfl, Nat.le_of_ble_eq_true rfl⟩ ⟨rfl, rfl⟩ (preV (preM hK (P_of_map (wc := rc4 a q_t Q_t z17) hP [0, 1, 2, 3, 4] rfl) (hD.sub (ws' := rc4 a q_t Q_t z17) [0, 1, 2, 3, 4] (by decide) rfl)) (recvOf hK hP 0 rfl (ci := 4) rfl)) hl.1 rfl (Nat.le_of_ble_eq_true rfl) dX4_readSum_117 ⟨Nat.le_of_ble_eq_true rfl, Nat.le_of_ble_eq_true rfl⟩) hP hD hS hA [0, 1, 2, 3, 4] [5, 6, 7, 8] [4, 5, 6, 7, 8, 0, 1, 2, 3] rfl rfl (by decide) (by decide) (fw := rc4 a q_t Q_t z24 ++ (rc6 a (Q_t 0) Q_t_0 z18)) rfl (by decide) (fun H locs hP hD hS => ?_)
                  have hP : va_P D classes (rc4 a q_t Q_t z24 ++ (rc6 a (Q_t 0) Q_t_0 z18)) H := hP
                  have hD : va_D A (rc4 a q_t Q_t z24 ++ (rc6 a (Q_t 0) Q_t_0 z18)) := hD
                  exact hJ19 z24 z18 _ _ ls h hP hD hS (lv_sub hl [1, 0, 2] rfl)
              refine lv_if_eq (tgt := 96) hx hb dX4_readSum_89 (by decide) (fun c25 => ?_) (fun c25 => ?_)
              · have h := ite_t c25 h
                refine lv_iload_n hx hb dX4_readSum_96 rfl (lv_at hl 3 rfl) ?_
                exact hJ12 (gI z_t_0 5) _ _ ls h hP hD hS (lv_sub hl [0, 2, 3, 4] rfl)
              · have h := ite_f c25 h
                refine lv_iload_n hx hb dX4_readSum_92 rfl (lv_at hl 1 rfl) ?_
                refine lv_goto (tgt := 97) hx hb dX4_readSum_93 (by decide) ?_
                exact hJ12 x1 _ _ ls h hP hD hS (lv_sub hl [0, 2, 3, 4] rfl)
            refine lv_if_ne (tgt := 87) hx hb dX4_readSum_74 (by decide) (fun c26 => ?_) (fun c26 => ?_)
            · have h := ite_f c26 h
              exact hJ9 z_t z_t_0 _ _ ls h hP hD hS (lv_sub hl [0, 1, 2, 3, 4] rfl)
            · have h := ite_t c26 h
              refine lv_iload_n hx hb dX4_readSum_77 rfl (lv_at hl 1 rfl) ?_
              refine lv_if_eq (tgt := 87) hx hb dX4_readSum_78 (by decide) (fun c27 => ?_) (fun c27 => ?_)
              · have h := ite_t c27 h
                exact hJ9 z_t z_t_0 _ _ ls h hP hD hS (lv_sub hl [0, 1, 2, 3, 4] rfl)
              · have h := ite_f c27 h
                refine lv_aload_n hx hb dX4_readSum_81 rfl (lv_at hl 0 rfl) ?_
                refine lv_iload_n hx hb dX4_readSum_82 rfl (lv_at hl 1 rfl) ?_
                refine lv_ineg hx hb dX4_readSum_83 ?_
                obtain ⟨z29, hc28, h⟩ := bd_some h
                refine cMv (runV (As := [.int (-x1)]) (rest := []) C (mX4_emit l D a (q_t := q_t) (Q_t := Q_t) hc28 H.size) lk_V_4_91 okN_X4_emit ⟨Nat.le_of_ble_eq_true rfl, Nat.le_of_ble_eq_true rfl⟩ ⟨rfl, rfl⟩ (preV (preM hK (P_of_map (wc := rc4 a q_t Q_t z_t) hP [0, 1, 2, 3, 4] rfl) (hD.sub (ws' := rc4 a q_t Q_t z_t) [0, 1, 2, 3, 4] (by decide) rfl)) (recvOf hK hP 0 rfl (ci := 4) rfl)) hl.1 rfl (Nat.le_of_ble_eq_true rfl) dX4_readSum_84 ⟨Nat.le_of_ble_eq_true rfl, Nat.le_of_ble_eq_true rfl⟩) hP hD hS hA [0, 1, 2, 3, 4] [5, 6, 7, 8] [4, 5, 6, 7, 8, 0, 1, 2, 3] rfl rfl (by decide) (by decide) (fw := rc4 a q_t Q_t z29 ++ (rc6 a (Q_t 0) Q_t_0 z_t_0)) rfl (by decide) (fun H locs hP hD hS => ?_)
                have hP : va_P D classes (rc4 a q_t Q_t z29 ++ (rc6 a (Q_t 0) Q_t_0 z_t_0)) H := hP
                have hD : va_D A (rc4 a q_t Q_t z29 ++ (rc6 a (Q_t 0) Q_t_0 z_t_0)) := hD
                exact hJ9 z29 z_t_0 _ _ ls h hP hD hS (lv_sub hl [0, 1, 2, 3, 4] rfl)
          refine lv_if_ne (tgt := 72) hx hb dX4_readSum_54 (by decide) (fun c30 => ?_) (fun c30 => ?_)
          · have h := ite_f c30 h
            exact hJ8 _ _ ls h hP hD hS (lv_sub hl [1, 2, 3, 4, 0] rfl)
          · have h := ite_t c30 h
            refine lv_iload_n hx hb dX4_readSum_57 rfl (lv_at hl 4 rfl) ?_
            refine lv_bipush (v := 43) hx hb dX4_readSum_58 (by decide) ?_
            refine lv_icmp_eq (tgt := 72) hx hb dX4_readSum_60 (by decide) (fun c31 => ?_) (fun c31 => ?_)
            · have h := ite_t c31 h
              exact hJ8 _ _ ls h hP hD hS (lv_sub hl [1, 2, 3, 4, 0] rfl)
            · have h := ite_f c31 h
              refine lv_iload_n hx hb dX4_readSum_63 rfl (lv_at hl 4 rfl) ?_
              refine lv_bipush (v := 45) hx hb dX4_readSum_64 (by decide) ?_
              refine lv_icmp_eq (tgt := 72) hx hb dX4_readSum_66 (by decide) (fun c32 => ?_) (fun c32 => ?_)
              · have h := ite_t c32 h
                exact hJ8 _ _ ls h hP hD hS (lv_sub hl [1, 2, 3, 4, 0] rfl)
              · have h := ite_f c32 h
                exact hk69 z_t z_t_0 x1 _ _ ls h hP hD hS (lv_sub hl [1, 2] rfl)
        obtain ⟨J33, eJ33, h⟩ := jn_some h
        have hJ33 : ∀ (H : Heap) (locs : List Loc) (ls : Array Slot), J33 = some y → va_P D classes (rc4 a q_t Q_t z_t ++ (rc6 a (Q_t 0) Q_t_0 z_t_0)) H → va_D A (rc4 a q_t Q_t z_t ++ (rc6 a (Q_t 0) Q_t_0 z_t_0)) → va_S A s.heap H locs → lv_has ls 5 [(0, .ref q_t), (1, .int x1), (2, .int x2), (3, .int (gI z_t_0 5))] → W p l e (rmM 2 0 0 43) s m #[.ref q_t] below meth c H locs 0 0 (MQ below (va_Qv (fun (_ : Unit) => True) (Bw D A (fun _ => rc4 a q_t Q_t y.1 ++ (rc6 a (Q_t 0) Q_t_0 y.2))) A) #[.ref q_t] s 0 0 A) (F0 m 45 ls []) := by
          intro H locs ls h hP hD hS hl
          rw [eJ33] at h
          refine lv_iconst (v := 1) hx hb dX4_readSum_45 (by decide) ?_
          refine lv_goto (tgt := 50) hx hb dX4_readSum_46 (by decide) ?_
          exact hJ6 1 _ _ ls h hP hD hS (lv_sub hl [0, 1, 2, 3] rfl)
        refine lv_icmp_eq (tgt := 45) hx hb dX4_readSum_36 (by decide) (fun c34 => ?_) (fun c34 => ?_)
        · have h := ite_t c34 h
          exact hJ33 _ _ ls h hP hD hS (lv_sub hl [1, 2, 3, 0] rfl)
        · have h := ite_f c34 h
          refine lv_iload_n hx hb dX4_readSum_39 rfl (lv_at hl 0 rfl) ?_
          refine lv_bipush (v := 47) hx hb dX4_readSum_40 (by decide) ?_
          refine lv_icmp_ne (tgt := 49) hx hb dX4_readSum_42 (by decide) (fun c35 => ?_) (fun c35 => ?_)
          · have h := ite_f c35 h
            refine lv_iconst (v := 0) hx hb dX4_readSum_49 (by decide) ?_
            exact hJ6 0 _ _ ls h hP hD hS (lv_sub hl [1, 2, 3, 0] rfl)
          · have h := ite_t c35 h
            exact hJ33 _ _ ls h hP hD hS (lv_sub hl [1, 2, 3, 0] rfl)

set_option maxHeartbeats 4000000 in
set_option maxRecDepth 100000 in
theorem mX4_readSum (l : Launch) (D : va_G) (a : Nat → ClassId) {q_t : Nat} {Q_t : Nat → Nat} {z_t : Sx} {Q_t_0 : Nat → Nat} {z_t_0 : Sx} {y : Sx × Sx} (h : fX4_readSum z_t z_t_0 = some y) (sz : Nat) : CMv (S := Unit) l MX4_readSum 2 43 0 0 D a [.ref q_t] (rc4 a q_t Q_t z_t ++ (rc6 a (Q_t 0) Q_t_0 z_t_0)) sz (fun _ => True) (fun _ => rc4 a q_t Q_t y.1 ++ (rc6 a (Q_t 0) Q_t_0 y.2)) := by
  unfold fX4_readSum at h
  refine entMv (by decide) (Nat.le_of_ble_eq_true rfl) ?_
  intro p e s m below meth c C hK A hA hP hD ls hl
  obtain ⟨hx, hb, hml, hown, hts, hr, hlocks, hnm⟩ := id C
  have hb : c.code = cX4_readSum := hb
  have hown : s.vm.findClass RX4 = some m.cls := hown
  have hS : va_S A s.heap s.heap [] := va_S.rf
  have hl : lv_has ls 5 [(0, .ref q_t)] := hl
  refine lv_iconst (v := 0) hx hb dX4_readSum_0 (by decide) ?_
  refine lv_istore_n (lv' := [(1, .int 0), (0, .ref q_t)]) hx hb dX4_readSum_1 rfl hl (by decide) rfl (fun ls hl => ?_)
  refine lv_aload_n hx hb dX4_readSum_2 rfl (lv_at hl 1 rfl) ?_
  obtain ⟨z2, z3, hc1, h⟩ := bd2_some h
  refine cWv (runV (As := []) (rest := []) C (mX4_readValue l D a (q_t := q_t) (Q_t := Q_t) (Q_t_0 := Q_t_0) hc1 s.heap.size) lk_V_4_97 okN_X4_readValue ⟨Nat.le_of_ble_eq_true rfl, Nat.le_of_ble_eq_true rfl⟩ ⟨rfl, rfl⟩ (preV (preM hK hP hD) (recvOf hK hP 0 rfl (ci := 4) rfl)) hl.1 rfl (Nat.le_of_ble_eq_true rfl) dX4_readSum_3 ⟨Nat.le_of_ble_eq_true rfl, Nat.le_of_ble_eq_true rfl⟩) hP hD hS hA (fun H locs hP hD hS => ?_)
  have hP : va_P D classes (rc4 a q_t Q_t z2 ++ (rc6 a (Q_t 0) Q_t_0 z3)) H := hP
  have hD : va_D A (rc4 a q_t Q_t z2 ++ (rc6 a (Q_t 0) Q_t_0 z3)) := hD
  refine lv_iconst (v := 0) hx hb dX4_readSum_6 (by decide) ?_
  refine lv_istore_n (lv' := [(2, .int 0), (1, .int 0), (0, .ref q_t)]) hx hb dX4_readSum_7 rfl hl (by decide) rfl (fun ls hl => ?_)
  refine wX4_readSum_8 C hK hA ?_ ?_ FU z2 z3 0 0 _ _ ls h hP hD hS (lv_sub hl [2, 1, 0] rfl)
  · intro z36 z37 i38 H locs ls h hP hD hS hl
    refine lv_goto (tgt := 126) hx hb dX4_readSum_69 (by decide) ?_
    refine lv_iload_n hx hb dX4_readSum_126 rfl (lv_at hl 1 rfl) ?_
    refine lv_if_eq (tgt := 136) hx hb dX4_readSum_127 (by decide) (fun c39 => ?_) (fun c39 => ?_)
    · have h := ite_t c39 h
      exact rMv C rfl h (g := fun y => rc4 a q_t Q_t y.1 ++ (rc6 a (Q_t 0) Q_t_0 y.2)) hP hD hS dX4_readSum_136
    · have h := ite_f c39 h
      refine lv_aload_n hx hb dX4_readSum_130 rfl (lv_at hl 0 rfl) ?_
      refine lv_iload_n hx hb dX4_readSum_131 rfl (lv_at hl 1 rfl) ?_
      refine lv_ineg hx hb dX4_readSum_132 ?_
      obtain ⟨z41, hc40, h⟩ := bd_some h
      refine cMv (runV (As := [.int (-i38)]) (rest := []) C (mX4_emit l D a (q_t := q_t) (Q_t := Q_t) hc40 H.size) lk_V_4_91 okN_X4_emit ⟨Nat.le_of_ble_eq_true rfl, Nat.le_of_ble_eq_true rfl⟩ ⟨rfl, rfl⟩ (preV (preM hK (P_of_map (wc := rc4 a q_t Q_t z36) hP [0, 1, 2, 3, 4] rfl) (hD.sub (ws' := rc4 a q_t Q_t z36) [0, 1, 2, 3, 4] (by decide) rfl)) (recvOf hK hP 0 rfl (ci := 4) rfl)) hl.1 rfl (Nat.le_of_ble_eq_true rfl) dX4_readSum_133 ⟨Nat.le_of_ble_eq_true rfl, Nat.le_of_ble_eq_true rfl⟩) hP hD hS hA [0, 1, 2, 3, 4] [5, 6, 7, 8] [4, 5, 6, 7, 8, 0, 1, 2, 3] rfl rfl (by decide) (by decide) (fw := rc4 a q_t Q_t z41 ++ (rc6 a (Q_t 0) Q_t_0 z37)) rfl (by decide) (fun H locs hP hD hS => ?_)
      have hP : va_P D classes (rc4 a q_t Q_t z41 ++ (rc6 a (Q_t 0) Q_t_0 z37)) H := hP
      have hD : va_D A (rc4 a q_t Q_t z41 ++ (rc6 a (Q_t 0) Q_t_0 z37)) := hD
      exact rMv C rfl h (g := fun y => rc4 a q_t Q_t y.1 ++ (rc6 a (Q_t 0) Q_t_0 y.2)) hP hD hS dX4_readSum_136
  · intro z42 z43 i44 H locs ls h hP hD hS hl
    refine lv_iload_n hx hb dX4_readSum_126 rfl (lv_at hl 1 rfl) ?_
    refine lv_if_eq (tgt := 136) hx hb dX4_readSum_127 (by decide) (fun c45 => ?_) (fun c45 => ?_)
    · have h := ite_t c45 h
      exact rMv C rfl h (g := fun y => rc4 a q_t Q_t y.1 ++ (rc6 a (Q_t 0) Q_t_0 y.2)) hP hD hS dX4_readSum_136
    · have h := ite_f c45 h
      refine lv_aload_n hx hb dX4_readSum_130 rfl (lv_at hl 0 rfl) ?_
      refine lv_iload_n hx hb dX4_readSum_131 rfl (lv_at hl 1 rfl) ?_
      refine lv_ineg hx hb dX4_readSum_132 ?_
      obtain ⟨z47, hc46, h⟩ := bd_some h
      refine cMv (runV (As := [.int (-i44)]) (rest := []) C (mX4_emit l D a (q_t := q_t) (Q_t := Q_t) hc46 H.size) lk_V_4_91 okN_X4_emit ⟨Nat.le_of_ble_eq_true rfl, Nat.le_of_ble_eq_true rfl⟩ ⟨rfl, rfl⟩ (preV (preM hK (P_of_map (wc := rc4 a q_t Q_t z42) hP [0, 1, 2, 3, 4] rfl) (hD.sub (ws' := rc4 a q_t Q_t z42) [0, 1, 2, 3, 4] (by decide) rfl)) (recvOf hK hP 0 rfl (ci := 4) rfl)) hl.1 rfl (Nat.le_of_ble_eq_true rfl) dX4_readSum_133 ⟨Nat.le_of_ble_eq_true rfl, Nat.le_of_ble_eq_true rfl⟩) hP hD hS hA [0, 1, 2, 3, 4] [5, 6, 7, 8] [4, 5, 6, 7, 8, 0, 1, 2, 3] rfl rfl (by decide) (by decide) (fw := rc4 a q_t Q_t z47 ++ (rc6 a (Q_t 0) Q_t_0 z43)) rfl (by decide) (fun H locs hP hD hS => ?_)
      have hP : va_P D classes (rc4 a q_t Q_t z47 ++ (rc6 a (Q_t 0) Q_t_0 z43)) H := hP
      have hD : va_D A (rc4 a q_t Q_t z47 ++ (rc6 a (Q_t 0) Q_t_0 z43)) := hD
      exact rMv C rfl h (g := fun y => rc4 a q_t Q_t y.1 ++ (rc6 a (Q_t 0) Q_t_0 y.2)) hP hD hS dX4_readSum_136

set_option maxHeartbeats 4000000 in
set_option maxRecDepth 100000 in
theorem mX4_readComparison (l : Launch) (D : va_G) (a : Nat → ClassId) {q_t : Nat} {Q_t : Nat → Nat} {z_t : Sx} {Q_t_0 : Nat → Nat} {z_t_0 : Sx} {y : Sx × Sx} (h : fX4_readComparison z_t z_t_0 = some y) (sz : Nat) : CMv (S := Unit) l MX4_readComparison 3 67 0 0 D a [.ref q_t] (rc4 a q_t Q_t z_t ++ (rc6 a (Q_t 0) Q_t_0 z_t_0)) sz (fun _ => True) (fun _ => rc4 a q_t Q_t y.1 ++ (rc6 a (Q_t 0) Q_t_0 y.2)) := by
  unfold fX4_readComparison at h
  refine entMv (by decide) (Nat.le_of_ble_eq_true rfl) ?_
  intro p e s m below meth c C hK A hA hP hD ls hl
  obtain ⟨hx, hb, hml, hown, hts, hr, hlocks, hnm⟩ := id C
  have hb : c.code = cX4_readComparison := hb
  have hown : s.vm.findClass RX4 = some m.cls := hown
  have hS : va_S A s.heap s.heap [] := va_S.rf
  have hl : lv_has ls 2 [(0, .ref q_t)] := hl
  refine lv_aload_n hx hb dX4_readComparison_0 rfl (lv_at hl 0 rfl) ?_
  obtain ⟨z2, z3, hc1, h⟩ := bd2_some h
  refine cWv (runV (As := []) (rest := []) C (mX4_readSum l D a (q_t := q_t) (Q_t := Q_t) (Q_t_0 := Q_t_0) hc1 s.heap.size) lk_V_4_79 okN_X4_readSum ⟨Nat.le_of_ble_eq_true rfl, Nat.le_of_ble_eq_true rfl⟩ ⟨rfl, rfl⟩ (preV (preM hK hP hD) (recvOf hK hP 0 rfl (ci := 4) rfl)) hl.1 rfl (Nat.le_of_ble_eq_true rfl) dX4_readComparison_1 ⟨Nat.le_of_ble_eq_true rfl, Nat.le_of_ble_eq_true rfl⟩) hP hD hS hA (fun H locs hP hD hS => ?_)
  have hP : va_P D classes (rc4 a q_t Q_t z2 ++ (rc6 a (Q_t 0) Q_t_0 z3)) H := hP
  have hD : va_D A (rc4 a q_t Q_t z2 ++ (rc6 a (Q_t 0) Q_t_0 z3)) := hD
  refine lv_aload_n hx hb dX4_readComparison_4 rfl (lv_at hl 0 rfl) ?_
  refine va_get (D := D) (v := .ref (Q_t 0)) (C := RX4) (T := TX4) (N := 8) hx hb hts iX4 hown hK.1 hP 0 rfl rfl 0 (by decide) (hts _ t_242) (fun _ h9 => h9) rfl dX4_readComparison_5 ?_
  refine va_get (D := D) (v := .int (gI z3 8)) (C := RX6) (T := TX6) (N := 9) hx hb hts iX6 hown hK.1 hP 5 rfl rfl 8 (by decide) (hts _ t_220) (fun _ h9 => h9) rfl dX4_readComparison_8 ?_
  refine lv_if_eq (tgt := 15) hx hb dX4_readComparison_11 (by decide) (fun c4 => ?_) (fun c4 => ?_)
  · have h := ite_t c4 h
    refine lv_aload_n hx hb dX4_readComparison_15 rfl (lv_at hl 0 rfl) ?_
    refine va_get (D := D) (v := .ref (Q_t 0)) (C := RX4) (T := TX4) (N := 8) hx hb hts iX4 hown hK.1 hP 0 rfl rfl 0 (by decide) (hts _ t_242) (fun _ h9 => h9) rfl dX4_readComparison_16 ?_
    refine va_get (D := D) (v := .int (gI z3 5)) (C := RX6) (T := TX6) (N := 9) hx hb hts iX6 hown hK.1 hP 5 rfl rfl 5 (by decide) (hts _ t_214) (fun _ h9 => h9) rfl dX4_readComparison_19 ?_
    refine lv_istore_n (lv' := [(1, .int (gI z3 5)), (0, .ref q_t)]) hx hb dX4_readComparison_22 rfl hl (by decide) rfl (fun ls hl => ?_)
    refine lv_iload_n hx hb dX4_readComparison_23 rfl (lv_at hl 0 rfl) ?_
    refine lv_bipush (v := 60) hx hb dX4_readComparison_24 (by decide) ?_
    obtain ⟨J5, eJ5, h⟩ := jn_some h
    have hJ5 : ∀ (H : Heap) (locs : List Loc) (ls : Array Slot), J5 = some y → va_P D classes (rc4 a q_t Q_t z2 ++ (rc6 a (Q_t 0) Q_t_0 z3)) H → va_D A (rc4 a q_t Q_t z2 ++ (rc6 a (Q_t 0) Q_t_0 z3)) → va_S A s.heap H locs → lv_has ls 2 [(0, .ref q_t), (1, .int (gI z3 5))] → W p l e (rmM 3 0 0 67) s m #[.ref q_t] below meth c H locs 0 0 (MQ below (va_Qv (fun (_ : Unit) => True) (Bw D A (fun _ => rc4 a q_t Q_t y.1 ++ (rc6 a (Q_t 0) Q_t_0 y.2))) A) #[.ref q_t] s 0 0 A) (F0 m 64 ls []) := by
      intro H locs ls h hP hD hS hl
      rw [eJ5] at h
      refine lv_aload_n hx hb dX4_readComparison_64 rfl (lv_at hl 0 rfl) ?_
      refine va_get (D := D) (v := .int (gI z2 3)) (C := RX4) (T := TX4) (N := 8) hx hb hts iX4 hown hK.1 hP 0 rfl rfl 3 (by decide) (hts _ t_246) (fun _ h9 => h9) rfl dX4_readComparison_65 ?_
      refine lv_bipush (v := 60) hx hb dX4_readComparison_68 (by decide) ?_
      refine lv_icmp_lt (tgt := 82) hx hb dX4_readComparison_70 (by decide) (fun c6 => ?_) (fun c6 => ?_)
      · have h := ite_t c6 h
        refine lv_aload_n hx hb dX4_readComparison_82 rfl (lv_at hl 0 rfl) ?_
        refine lv_dup hx hb dX4_readComparison_83 rfl ?_
        refine va_get (D := D) (v := .int (gI z2 3)) (C := RX4) (T := TX4) (N := 8) hx hb hts iX4 hown hK.1 hP 0 rfl rfl 3 (by decide) (hts _ t_246) (fun _ h9 => h9) rfl dX4_readComparison_84 ?_
        refine lv_iconst (v := 1) hx hb dX4_readComparison_87 (by decide) ?_
        refine lv_iadd hx hb dX4_readComparison_88 ?_
        refine va_put (D := D) (v := .int ((gI z2 3) + 1)) (C := RX4) (T := TX4) (N := 8) hx hb hts iX4 tyX4 tyX4_ok nmX4 hown hK.1 hP hD hS 0 rfl rfl 3 (by decide) (hts _ t_246) (fun _ h9 => h9) rfl (tyX4_ok 3 (by decide)) rfl rfl (Nat.le_of_ble_eq_true rfl) dX4_readComparison_89 (fun H locs hP hD hS => ?_)
        have hP : va_P D classes (rc4 a q_t Q_t (sI z2 3 ((gI z2 3) + 1)) ++ (rc6 a (Q_t 0) Q_t_0 z3)) H := hP
        have hD : va_D A (rc4 a q_t Q_t (sI z2 3 ((gI z2 3) + 1)) ++ (rc6 a (Q_t 0) Q_t_0 z3)) := hD
        refine lv_aload_n hx hb dX4_readComparison_92 rfl (lv_at hl 0 rfl) ?_
        refine va_get (D := D) (v := .ref (Q_t 0)) (C := RX4) (T := TX4) (N := 8) hx hb hts iX4 hown hK.1 hP 0 rfl rfl 0 (by decide) (hts _ t_242) (fun _ h9 => h9) rfl dX4_readComparison_93 ?_
        obtain ⟨z8, hc7, h⟩ := bd_some h
        refine cMv (runV (As := []) (rest := []) C (mX6_step l D a (q_t := (Q_t 0)) (Q_t := Q_t_0) hc7 H.size) lk_V_4_72 okN_X6_step ⟨Nat.le_of_ble_eq_true rfl, Nat.le_of_ble_eq_true rfl⟩ ⟨rfl, rfl⟩ (preV (preM hK (P_of_map (wc := rc6 a (Q_t 0) Q_t_0 z3) hP [5, 6, 7, 8] rfl) (hD.sub (ws' := rc6 a (Q_t 0) Q_t_0 z3) [5, 6, 7, 8] (by decide) rfl)) (recvOf hK hP 5 rfl (ci := 6) rfl)) hl.1 rfl (Nat.le_of_ble_eq_true rfl) dX4_readComparison_96 ⟨Nat.le_of_ble_eq_true rfl, Nat.le_of_ble_eq_true rfl⟩) hP hD hS hA [5, 6, 7, 8] [0, 1, 2, 3, 4] [0, 1, 2, 3, 4, 5, 6, 7, 8] rfl rfl (by decide) (by decide) (fw := rc4 a q_t Q_t (sI z2 3 ((gI z2 3) + 1)) ++ (rc6 a (Q_t 0) Q_t_0 z8)) rfl (by decide) (fun H locs hP hD hS => ?_)
        have hP : va_P D classes (rc4 a q_t Q_t (sI z2 3 ((gI z2 3) + 1)) ++ (rc6 a (Q_t 0) Q_t_0 z8)) H := hP
        have hD : va_D A (rc4 a q_t Q_t (sI z2 3 ((gI z2 3) + 1)) ++ (rc6 a (Q_t 0) Q_t_0 z8)) := hD
        refine lv_aload_n hx hb dX4_readComparison_99 rfl (lv_at hl 0 rfl) ?_
        obtain ⟨z10, z11, hc9, h⟩ := bd2_some h
        refine cWv (runV (As := []) (rest := []) C (mX4_readSum l D a (q_t := q_t) (Q_t := Q_t) (Q_t_0 := Q_t_0) hc9 H.size) lk_V_4_79 okN_X4_readSum ⟨Nat.le_of_ble_eq_true rfl, Nat.le_of_ble_eq_true rfl⟩ ⟨rfl, rfl⟩ (preV (preM hK hP hD) (recvOf hK hP 0 rfl (ci := 4) rfl)) hl.1 rfl (Nat.le_of_ble_eq_true rfl) dX4_readComparison_100 ⟨Nat.le_of_ble_eq_true rfl, Nat.le_of_ble_eq_true rfl⟩) hP hD hS hA (fun H locs hP hD hS => ?_)
        have hP : va_P D classes (rc4 a q_t Q_t z10 ++ (rc6 a (Q_t 0) Q_t_0 z11)) H := hP
        have hD : va_D A (rc4 a q_t Q_t z10 ++ (rc6 a (Q_t 0) Q_t_0 z11)) := hD
        refine lv_aload_n hx hb dX4_readComparison_103 rfl (lv_at hl 0 rfl) ?_
        refine lv_iload_n hx hb dX4_readComparison_104 rfl (lv_at hl 1 rfl) ?_
        refine lv_ineg hx hb dX4_readComparison_105 ?_
        obtain ⟨z13, hc12, h⟩ := bd_some h
        refine cMv (runV (As := [.int (-(gI z3 5))]) (rest := []) C (mX4_emit l D a (q_t := q_t) (Q_t := Q_t) hc12 H.size) lk_V_4_91 okN_X4_emit ⟨Nat.le_of_ble_eq_true rfl, Nat.le_of_ble_eq_true rfl⟩ ⟨rfl, rfl⟩ (preV (preM hK (P_of_map (wc := rc4 a q_t Q_t z10) hP [0, 1, 2, 3, 4] rfl) (hD.sub (ws' := rc4 a q_t Q_t z10) [0, 1, 2, 3, 4] (by decide) rfl)) (recvOf hK hP 0 rfl (ci := 4) rfl)) hl.1 rfl (Nat.le_of_ble_eq_true rfl) dX4_readComparison_106 ⟨Nat.le_of_ble_eq_true rfl, Nat.le_of_ble_eq_true rfl⟩) hP hD hS hA [0, 1, 2, 3, 4] [5, 6, 7, 8] [4, 5, 6, 7, 8, 0, 1, 2, 3] rfl rfl (by decide) (by decide) (fw := rc4 a q_t Q_t z13 ++ (rc6 a (Q_t 0) Q_t_0 z11)) rfl (by decide) (fun H locs hP hD hS => ?_)
        have hP : va_P D classes (rc4 a q_t Q_t z13 ++ (rc6 a (Q_t 0) Q_t_0 z11)) H := hP
        have hD : va_D A (rc4 a q_t Q_t z13 ++ (rc6 a (Q_t 0) Q_t_0 z11)) := hD
        exact rMv C rfl h (g := fun y => rc4 a q_t Q_t y.1 ++ (rc6 a (Q_t 0) Q_t_0 y.2)) hP hD hS dX4_readComparison_109
      · have h := ite_f c6 h
        refine lv_aload_n hx hb dX4_readComparison_73 rfl (lv_at hl 0 rfl) ?_
        refine va_get (D := D) (v := .ref (Q_t 0)) (C := RX4) (T := TX4) (N := 8) hx hb hts iX4 hown hK.1 hP 0 rfl rfl 0 (by decide) (hts _ t_242) (fun _ h9 => h9) rfl dX4_readComparison_74 ?_
        refine lv_iconst (v := 3) hx hb dX4_readComparison_77 (by decide) ?_
        obtain ⟨z15, hc14, h⟩ := bd_some h
        refine cMv (runV (As := [.int 3]) (rest := []) C (mX6_fail l D a (q_t := (Q_t 0)) (Q_t := Q_t_0) hc14 H.size) lk_V_4_68 okN_X6_fail ⟨Nat.le_of_ble_eq_true rfl, Nat.le_of_ble_eq_true rfl⟩ ⟨rfl, rfl⟩ (preV (preM hK (P_of_map (wc := rc6 a (Q_t 0) Q_t_0 z3) hP [5, 6, 7, 8] rfl) (hD.sub (ws' := rc6 a (Q_t 0) Q_t_0 z3) [5, 6, 7, 8] (by decide) rfl)) (recvOf hK hP 5 rfl (ci := 6) rfl)) hl.1 rfl (Nat.le_of_ble_eq_true rfl) dX4_readComparison_78 ⟨Nat.le_of_ble_eq_true rfl, Nat.le_of_ble_eq_true rfl⟩) hP hD hS hA [5, 6, 7, 8] [0, 1, 2, 3, 4] [0, 1, 2, 3, 4, 5, 6, 7, 8] rfl rfl (by decide) (by decide) (fw := rc4 a q_t Q_t z2 ++ (rc6 a (Q_t 0) Q_t_0 z15)) rfl (by decide) (fun H locs hP hD hS => ?_)
        have hP : va_P D classes (rc4 a q_t Q_t z2 ++ (rc6 a (Q_t 0) Q_t_0 z15)) H := hP
        have hD : va_D A (rc4 a q_t Q_t z2 ++ (rc6 a (Q_t 0) Q_t_0 z15)) := hD
        exact rMv C rfl h (g := fun y => rc4 a q_t Q_t y.1 ++ (rc6 a (Q_t 0) Q_t_0 y.2)) hP hD hS dX4_readComparison_81
    refine lv_icmp_eq (tgt := 64) hx hb dX4_readComparison_26 (by decide) (fun c16 => ?_) (fun c16 => ?_)
    · have h := ite_t c16 h
      exact hJ5 _ _ ls h hP hD hS (lv_sub hl [1, 0] rfl)
    · have h := ite_f c16 h
      refine lv_iload_n hx hb dX4_readComparison_29 rfl (lv_at hl 0 rfl) ?_
      refine lv_sipush (v := 256) hx hb dX4_readComparison_30 (by decide) ?_
      refine lv_icmp_eq (tgt := 64) hx hb dX4_readComparison_33 (by decide) (fun c17 => ?_) (fun c17 => ?_)
      · have h := ite_t c17 h
        exact hJ5 _ _ ls h hP hD hS (lv_sub hl [1, 0] rfl)
      · have h := ite_f c17 h
        refine lv_iload_n hx hb dX4_readComparison_36 rfl (lv_at hl 0 rfl) ?_
        refine lv_bipush (v := 61) hx hb dX4_readComparison_37 (by decide) ?_
        refine lv_icmp_eq (tgt := 64) hx hb dX4_readComparison_39 (by decide) (fun c18 => ?_) (fun c18 => ?_)
        · have h := ite_t c18 h
          exact hJ5 _ _ ls h hP hD hS (lv_sub hl [1, 0] rfl)
        · have h := ite_f c18 h
          refine lv_iload_n hx hb dX4_readComparison_42 rfl (lv_at hl 0 rfl) ?_
          refine lv_sipush (v := 257) hx hb dX4_readComparison_43 (by decide) ?_
          refine lv_icmp_eq (tgt := 64) hx hb dX4_readComparison_46 (by decide) (fun c19 => ?_) (fun c19 => ?_)
          · have h := ite_t c19 h
            exact hJ5 _ _ ls h hP hD hS (lv_sub hl [1, 0] rfl)
          · have h := ite_f c19 h
            refine lv_iload_n hx hb dX4_readComparison_49 rfl (lv_at hl 0 rfl) ?_
            refine lv_bipush (v := 62) hx hb dX4_readComparison_50 (by decide) ?_
            refine lv_icmp_eq (tgt := 64) hx hb dX4_readComparison_52 (by decide) (fun c20 => ?_) (fun c20 => ?_)
            · have h := ite_t c20 h
              exact hJ5 _ _ ls h hP hD hS (lv_sub hl [1, 0] rfl)
            · have h := ite_f c20 h
              refine lv_aload_n hx hb dX4_readComparison_55 rfl (lv_at hl 1 rfl) ?_
              refine va_get (D := D) (v := .ref (Q_t 0)) (C := RX4) (T := TX4) (N := 8) hx hb hts iX4 hown hK.1 hP 0 rfl rfl 0 (by decide) (hts _ t_242) (fun _ h9 => h9) rfl dX4_readComparison_56 ?_
              refine lv_iconst (v := 0) hx hb dX4_readComparison_59 (by decide) ?_
              obtain ⟨z22, hc21, h⟩ := bd_some h
              refine cMv (runV (As := [.int 0]) (rest := []) C (mX6_fail l D a (q_t := (Q_t 0)) (Q_t := Q_t_0) hc21 H.size) lk_V_4_68 okN_X6_fail ⟨Nat.le_of_ble_eq_true rfl, Nat.le_of_ble_eq_true rfl⟩ ⟨rfl, rfl⟩ (preV (preM hK (P_of_map (wc := rc6 a (Q_t 0) Q_t_0 z3) hP [5, 6, 7, 8] rfl) (hD.sub (ws' := rc6 a (Q_t 0) Q_t_0 z3) [5, 6, 7, 8] (by decide) rfl)) (recvOf hK hP 5 rfl (ci := 6) rfl)) hl.1 rfl (Nat.le_of_ble_eq_true rfl) dX4_readComparison_60 ⟨Nat.le_of_ble_eq_true rfl, Nat.le_of_ble_eq_true rfl⟩) hP hD hS hA [5, 6, 7, 8] [0, 1, 2, 3, 4] [0, 1, 2, 3, 4, 5, 6, 7, 8] rfl rfl (by decide) (by decide) (fw := rc4 a q_t Q_t z2 ++ (rc6 a (Q_t 0) Q_t_0 z22)) rfl (by decide) (fun H locs hP hD hS => ?_)
              have hP : va_P D classes (rc4 a q_t Q_t z2 ++ (rc6 a (Q_t 0) Q_t_0 z22)) H := hP
              have hD : va_D A (rc4 a q_t Q_t z2 ++ (rc6 a (Q_t 0) Q_t_0 z22)) := hD
              exact rMv C rfl h (g := fun y => rc4 a q_t Q_t y.1 ++ (rc6 a (Q_t 0) Q_t_0 y.2)) hP hD hS dX4_readComparison_63
  · have h := ite_f c4 h
    exact rMv C rfl h (g := fun y => rc4 a q_t Q_t y.1 ++ (rc6 a (Q_t 0) Q_t_0 y.2)) hP hD hS dX4_readComparison_14

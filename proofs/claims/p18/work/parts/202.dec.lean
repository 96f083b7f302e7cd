set_option maxHeartbeats 4000000 in
set_option maxRecDepth 100000 in
theorem mX9_pop (l : Launch) (D : va_G) (a : Nat → ClassId) {q_t : Nat} {Q_t : Nat → Nat} {z_t : Sx} {y : Int64 × Sx} (h : fX9_pop z_t = some y) (sz : Nat) : CMl (S := Unit) l MX9_pop 0 0 0 0 D a [.ref q_t] (rc9 a q_t Q_t z_t) sz (fun r _ => r = y.1) (fun _ => rc9 a q_t Q_t y.2) := by
  unfold fX9_pop at h
  refine entMl (by decide) (Nat.le_of_ble_eq_true rfl) ?_
  intro p e s m below meth c C hK A hA hP hD ls hl
  obtain ⟨hx, hb, hml, hown, hts, hr, hlocks, hnm⟩ := id C
  have hb : c.code = cX9_pop := hb
  have hown : s.vm.findClass RX9 = some m.cls := hown
  have hS : va_S A s.heap s.heap [] := va_S.rf
  have hl : lv_has ls 1 [(0, .ref q_t)] := hl
  refine lv_aload_n hx hb dX9_pop_0 rfl (lv_at hl 0 rfl) ?_
  refine lv_dup hx hb dX9_pop_1 rfl ?_
  refine va_get (D := D) (v := .int (gI z_t 22)) (C := RX9) (T := TX9) (N := 36) hx hb hts iX9 hown hK.1 hP 0 rfl rfl 22 (by decide) (hts _ t_904) (fun _ h9 => h9) rfl dX9_pop_2 ?_
  refine lv_iconst (v := 1) hx hb dX9_pop_5 (by decide) ?_
  refine lv_isub hx hb dX9_pop_6 ?_
  refine va_put (D := D) (v := .int ((gI z_t 22) - 1)) (C := RX9) (T := TX9) (N := 36) hx hb hts iX9 tyX9 tyX9_ok nmX9 hown hK.1 hP hD hS 0 rfl rfl 22 (by decide) (hts _ t_904) (fun _ h9 => h9) rfl (tyX9_ok 22 (by decide)) rfl rfl (Nat.le_of_ble_eq_true rfl) dX9_pop_7 (fun H locs hP hD hS => ?_)
  rw [u9_22] at hP hD
  refine lv_aload_n hx hb dX9_pop_10 rfl (lv_at hl 0 rfl) ?_
  refine va_get (D := D) (v := .ref (Q_t 21)) (C := RX9) (T := TX9) (N := 36) hx hb hts iX9 hown hK.1 hP 0 rfl rfl 21 (by decide) (hts _ t_903) (fun _ h9 => h9) rfl dX9_pop_11 ?_
  refine lv_aload_n hx hb dX9_pop_14 rfl (lv_at hl 0 rfl) ?_
  refine va_get (D := D) (v := .int ((gI z_t 22) - 1)) (C := RX9) (T := TX9) (N := 36) hx hb hts iX9 hown hK.1 hP 0 rfl rfl 22 (by decide) (hts _ t_904) (fun _ h9 => h9) rfl dX9_pop_15 ?_
  obtain ⟨g1, h⟩ := gd_some h
  refine ald_l hx hb hK.1 hP 9 1 rfl rfl (((gI z_t 22) - 1).toNatClampNeg) (ix_g g1) dX9_pop_18 ?_
  exact rMl C rfl h (g := fun y => rc9 a q_t Q_t y.2) (pr := fun y => y.1) hP hD hS dX9_pop_19

set_option maxHeartbeats 4000000 in
set_option maxRecDepth 100000 in
theorem mX9_one (l : Launch) (D : va_G) (a : Nat → ClassId) {x0 : Int32} {x1 : Int64} {x3 : Int64} {y : Int64} (h : fX9_one x0 x1 x3 = some y) : CRl l MX9_one 0 0 D a [.int x0, .long x1, .long x3] ([]) (fun r => r = y) := by
  unfold fX9_one at h
  refine entR (by decide) (Nat.le_of_ble_eq_true rfl) ?_
  intro p e s m below meth c C hK hP ls hl
  obtain ⟨hx, hb, hml, hown, hts, hr, hlocks, hnm⟩ := id C
  have hb : c.code = cX9_one := hb
  have hown : s.vm.findClass RX9 = some m.cls := hown
  have hl : lv_has ls 5 [(0, .int x0), (1, .long x1), (3, .long x3)] := hl
  refine lv_iload_n hx hb dX9_one_0 rfl (lv_at hl 0 rfl) ?_
  by_cases c1_0 : x0 = 2
  · have h := ite_t c1_0 h
    refine lv_tableIn (off := 59) (tgt := 60) hx hb dX9_one_1 (by rw [c1_0]; decide) (by rw [c1_0]; decide) (by rw [c1_0]; decide) (by decide) ?_
    refine lv_lload_n hx hb dX9_one_60 rfl (lv_at hl 1 rfl) ?_
    refine lv_lload_n hx hb dX9_one_61 rfl (lv_at hl 2 rfl) ?_
    refine lv_ladd hx hb dX9_one_62 ?_
    exact rRl C rfl (Option.some.inj h) dX9_one_63
  have h := ite_f c1_0 h
  by_cases c1_1 : x0 = 3
  · have h := ite_t c1_1 h
    refine lv_tableIn (off := 63) (tgt := 64) hx hb dX9_one_1 (by rw [c1_1]; decide) (by rw [c1_1]; decide) (by rw [c1_1]; decide) (by decide) ?_
    refine lv_lload_n hx hb dX9_one_64 rfl (lv_at hl 1 rfl) ?_
    refine lv_lload_n hx hb dX9_one_65 rfl (lv_at hl 2 rfl) ?_
    refine lv_lsub hx hb dX9_one_66 ?_
    exact rRl C rfl (Option.some.inj h) dX9_one_67
  have h := ite_f c1_1 h
  by_cases c1_2 : x0 = 4
  · have h := ite_t c1_2 h
    refine lv_tableIn (off := 67) (tgt := 68) hx hb dX9_one_1 (by rw [c1_2]; decide) (by rw [c1_2]; decide) (by rw [c1_2]; decide) (by decide) ?_
    refine lv_lload_n hx hb dX9_one_68 rfl (lv_at hl 1 rfl) ?_
    refine lv_lload_n hx hb dX9_one_69 rfl (lv_at hl 2 rfl) ?_
    refine lv_lmul hx hb dX9_one_70 ?_
    exact rRl C rfl (Option.some.inj h) dX9_one_71
  have h := ite_f c1_2 h
  by_cases c1_3 : x0 = 5
  · have h := ite_t c1_3 h
    refine lv_tableIn (off := 71) (tgt := 72) hx hb dX9_one_1 (by rw [c1_3]; decide) (by rw [c1_3]; decide) (by rw [c1_3]; decide) (by decide) ?_
    refine lv_lload_n hx hb dX9_one_72 rfl (lv_at hl 2 rfl) ?_
    refine lv_lconst (v := 0) hx hb dX9_one_73 (by decide) ?_
    refine W.lcmp hx hb dX9_one_74 ?_
    refine lv_if_ne (tgt := 82) hx hb dX9_one_75 (by decide) (fun c2 => ?_) (fun c2 => ?_)
    · have h := ite_f (fun q => c2 ((lg_cmp_eq _ _).mpr q)) h
      refine lv_lload_n hx hb dX9_one_82 rfl (lv_at hl 1 rfl) ?_
      refine lv_lload_n hx hb dX9_one_83 rfl (lv_at hl 2 rfl) ?_
      obtain ⟨g3, h⟩ := gd_some h
      refine lv_ldiv hx hb dX9_one_84 g3 ?_
      exact rRl C rfl (Option.some.inj h) dX9_one_85
    · have h := ite_t ((lg_cmp_eq _ _).mp c2) h
      refine lv_lconst (v := 0) hx hb dX9_one_78 (by decide) ?_
      refine lv_goto (tgt := 85) hx hb dX9_one_79 (by decide) ?_
      exact rRl C rfl (Option.some.inj h) dX9_one_85
  have h := ite_f c1_3 h
  by_cases c1_4 : x0 = 6
  · have h := ite_t c1_4 h
    refine lv_tableIn (off := 85) (tgt := 86) hx hb dX9_one_1 (by rw [c1_4]; decide) (by rw [c1_4]; decide) (by rw [c1_4]; decide) (by decide) ?_
    refine lv_lload_n hx hb dX9_one_86 rfl (lv_at hl 1 rfl) ?_
    refine lv_lload_n hx hb dX9_one_87 rfl (lv_at hl 2 rfl) ?_
    refine W.lcmp hx hb dX9_one_88 ?_
    refine lv_if_ge (tgt := 96) hx hb dX9_one_89 (by decide) (fun c4 => ?_) (fun c4 => ?_)
    · have h := ite_t ((lg_cmp_ge _ _).mp c4) h
      refine lv_lconst (v := 0) hx hb dX9_one_96 (by decide) ?_
      exact rRl C rfl (Option.some.inj h) dX9_one_97
    · have h := ite_f (fun q => c4 ((lg_cmp_ge _ _).mpr q)) h
      refine lv_lconst (v := 1) hx hb dX9_one_92 (by decide) ?_
      refine lv_goto (tgt := 97) hx hb dX9_one_93 (by decide) ?_
      exact rRl C rfl (Option.some.inj h) dX9_one_97
  have h := ite_f c1_4 h
  by_cases c1_5 : x0 = 7
  · have h := ite_t c1_5 h
    refine lv_tableIn (off := 97) (tgt := 98) hx hb dX9_one_1 (by rw [c1_5]; decide) (by rw [c1_5]; decide) (by rw [c1_5]; decide) (by decide) ?_
    refine lv_lload_n hx hb dX9_one_98 rfl (lv_at hl 1 rfl) ?_
    refine lv_lload_n hx hb dX9_one_99 rfl (lv_at hl 2 rfl) ?_
    refine W.lcmp hx hb dX9_one_100 ?_
    refine lv_if_gt (tgt := 108) hx hb dX9_one_101 (by decide) (fun c5 => ?_) (fun c5 => ?_)
    · have h := ite_t ((lg_cmp_gt _ _).mp c5) h
      refine lv_lconst (v := 0) hx hb dX9_one_108 (by decide) ?_
      exact rRl C rfl (Option.some.inj h) dX9_one_109
    · have h := ite_f (fun q => c5 ((lg_cmp_gt _ _).mpr q)) h
      refine lv_lconst (v := 1) hx hb dX9_one_104 (by decide) ?_
      refine lv_goto (tgt := 109) hx hb dX9_one_105 (by decide) ?_
      exact rRl C rfl (Option.some.inj h) dX9_one_109
  have h := ite_f c1_5 h
  by_cases c1_6 : x0 = 8
  · have h := ite_t c1_6 h
    refine lv_tableIn (off := 109) (tgt := 110) hx hb dX9_one_1 (by rw [c1_6]; decide) (by rw [c1_6]; decide) (by rw [c1_6]; decide) (by decide) ?_
    refine lv_lload_n hx hb dX9_one_110 rfl (lv_at hl 1 rfl) ?_
    refine lv_lload_n hx hb dX9_one_111 rfl (lv_at hl 2 rfl) ?_
    refine W.lcmp hx hb dX9_one_112 ?_
    refine lv_if_ne (tgt := 120) hx hb dX9_one_113 (by decide) (fun c6 => ?_) (fun c6 => ?_)
    · have h := ite_f (fun q => c6 ((lg_cmp_eq _ _).mpr q)) h
      refine lv_lconst (v := 0) hx hb dX9_one_120 (by decide) ?_
      exact rRl C rfl (Option.some.inj h) dX9_one_121
    · have h := ite_t ((lg_cmp_eq _ _).mp c6) h
      refine lv_lconst (v := 1) hx hb dX9_one_116 (by decide) ?_
      refine lv_goto (tgt := 121) hx hb dX9_one_117 (by decide) ?_
      exact rRl C rfl (Option.some.inj h) dX9_one_121
  have h := ite_f c1_6 h
  by_cases c1_7 : x0 = 9
  · have h := ite_t c1_7 h
    refine lv_tableIn (off := 121) (tgt := 122) hx hb dX9_one_1 (by rw [c1_7]; decide) (by rw [c1_7]; decide) (by rw [c1_7]; decide) (by decide) ?_
    refine lv_lload_n hx hb dX9_one_122 rfl (lv_at hl 1 rfl) ?_
    refine lv_lload_n hx hb dX9_one_123 rfl (lv_at hl 2 rfl) ?_
    refine W.lcmp hx hb dX9_one_124 ?_
    refine lv_if_lt (tgt := 132) hx hb dX9_one_125 (by decide) (fun c7 => ?_) (fun c7 => ?_)
    · have h := ite_t ((lg_cmp_lt _ _).mp c7) h
      refine lv_lconst (v := 0) hx hb dX9_one_132 (by decide) ?_
      exact rRl C rfl (Option.some.inj h) dX9_one_133
    · have h := ite_f (fun q => c7 ((lg_cmp_lt _ _).mpr q)) h
      refine lv_lconst (v := 1) hx hb dX9_one_128 (by decide) ?_
      refine lv_goto (tgt := 133) hx hb dX9_one_129 (by decide) ?_
      exact rRl C rfl (Option.some.inj h) dX9_one_133
  have h := ite_f c1_7 h
  by_cases c1_8 : x0 = 10
  · have h := ite_t c1_8 h
    refine lv_tableIn (off := 133) (tgt := 134) hx hb dX9_one_1 (by rw [c1_8]; decide) (by rw [c1_8]; decide) (by rw [c1_8]; decide) (by decide) ?_
    refine lv_lload_n hx hb dX9_one_134 rfl (lv_at hl 1 rfl) ?_
    refine lv_lload_n hx hb dX9_one_135 rfl (lv_at hl 2 rfl) ?_
    refine W.lcmp hx hb dX9_one_136 ?_
    refine lv_if_le (tgt := 144) hx hb dX9_one_137 (by decide) (fun c8 => ?_) (fun c8 => ?_)
    · have h := ite_t ((lg_cmp_le _ _).mp c8) h
      refine lv_lconst (v := 0) hx hb dX9_one_144 (by decide) ?_
      exact rRl C rfl (Option.some.inj h) dX9_one_145
    · have h := ite_f (fun q => c8 ((lg_cmp_le _ _).mpr q)) h
      refine lv_lconst (v := 1) hx hb dX9_one_140 (by decide) ?_
      refine lv_goto (tgt := 145) hx hb dX9_one_141 (by decide) ?_
      exact rRl C rfl (Option.some.inj h) dX9_one_145
  have h := ite_f c1_8 h
  by_cases c1_9 : x0 = 11
  · have h := ite_t c1_9 h
    refine lv_tableIn (off := 149) (tgt := 150) hx hb dX9_one_1 (by rw [c1_9]; decide) (by rw [c1_9]; decide) (by rw [c1_9]; decide) (by decide) ?_
    refine lv_lload_n hx hb dX9_one_150 rfl (lv_at hl 1 rfl) ?_
    refine lv_lload_n hx hb dX9_one_151 rfl (lv_at hl 2 rfl) ?_
    refine lv_lor hx hb dX9_one_152 ?_
    exact rRl C rfl (Option.some.inj h) dX9_one_153
  have h := ite_f c1_9 h
  by_cases c1_10 : x0 = 12
  · have h := ite_t c1_10 h
    refine lv_tableIn (off := 145) (tgt := 146) hx hb dX9_one_1 (by rw [c1_10]; decide) (by rw [c1_10]; decide) (by rw [c1_10]; decide) (by decide) ?_
    refine lv_lload_n hx hb dX9_one_146 rfl (lv_at hl 1 rfl) ?_
    refine lv_lload_n hx hb dX9_one_147 rfl (lv_at hl 2 rfl) ?_
    refine lv_land hx hb dX9_one_148 ?_
    exact rRl C rfl (Option.some.inj h) dX9_one_149
  have h := ite_f c1_10 h
  refine lv_tableOut (tgt := 150) hx hb dX9_one_1 (by have := lv_neT c1_0 (show (2 : Int32).toInt = 2 by decide); have := lv_neT c1_1 (show (3 : Int32).toInt = 3 by decide); have := lv_neT c1_2 (show (4 : Int32).toInt = 4 by decide); have := lv_neT c1_3 (show (5 : Int32).toInt = 5 by decide); have := lv_neT c1_4 (show (6 : Int32).toInt = 6 by decide); have := lv_neT c1_5 (show (7 : Int32).toInt = 7 by decide); have := lv_neT c1_6 (show (8 : Int32).toInt = 8 by decide); have := lv_neT c1_7 (show (9 : Int32).toInt = 9 by decide); have := lv_neT c1_8 (show (10 : Int32).toInt = 10 by decide); have := lv_neT c1_9 (show (11 : Int32).toInt = 11 by decide); have := lv_neT c1_10 (show (12 : Int32).toInt = 12 by decide); omega) (by decide) ?_
  refine lv_lload_n hx hb dX9_one_150 rfl (lv_at hl 1 rfl) ?_
  refine lv_lload_n hx hb dX9_one_151 rfl (lv_at hl 2 rfl) ?_
  refine lv_lor hx hb dX9_one_152 ?_
  exact rRl C rfl (Option.some.inj h) dX9_one_153

set_option maxHeartbeats 4000000 in
set_option maxRecDepth 100000 in
theorem mX9_push (l : Launch) (D : va_G) (a : Nat → ClassId) {q_t : Nat} {Q_t : Nat → Nat} {z_t : Sx} {x1 : Int64} {y : Sx} (h : fX9_push z_t x1 = some y) (sz : Nat) : CMv (S := Unit) l MX9_push 0 0 0 0 D a [.ref q_t, .long x1] (rc9 a q_t Q_t z_t) sz (fun _ => True) (fun _ => rc9 a q_t Q_t y) := by
  unfold fX9_push at h
  refine entMv (by decide) (Nat.le_of_ble_eq_true rfl) ?_
  intro p e s m below meth c C hK A hA hP hD ls hl
  obtain ⟨hx, hb, hml, hown, hts, hr, hlocks, hnm⟩ := id C
  have hb : c.code = cX9_push := hb
  have hown : s.vm.findClass RX9 = some m.cls := hown
  have hS : va_S A s.heap s.heap [] := va_S.rf
  have hl : lv_has ls 3 [(0, .ref q_t), (1, .long x1)] := hl
  refine lv_aload_n hx hb dX9_push_0 rfl (lv_at hl 0 rfl) ?_
  refine va_get (D := D) (v := .ref (Q_t 21)) (C := RX9) (T := TX9) (N := 36) hx hb hts iX9 hown hK.1 hP 0 rfl rfl 21 (by decide) (hts _ t_903) (fun _ h9 => h9) rfl dX9_push_1 ?_
  refine lv_aload_n hx hb dX9_push_4 rfl (lv_at hl 0 rfl) ?_
  refine va_get (D := D) (v := .int (gI z_t 22)) (C := RX9) (T := TX9) (N := 36) hx hb hts iX9 hown hK.1 hP 0 rfl rfl 22 (by decide) (hts _ t_904) (fun _ h9 => h9) rfl dX9_push_5 ?_
  refine lv_lload_n hx hb dX9_push_8 rfl (lv_at hl 1 rfl) ?_
  obtain ⟨g1, h⟩ := gd_some h
  refine ast_l hx hb hK.1 hP hD hS 9 1 rfl rfl ((gI z_t 22).toNatClampNeg) (ix_g g1) dX9_push_9 (fun H locs hP hD hS => ?_)
  rw [u9_21] at hP hD
  refine lv_aload_n hx hb dX9_push_10 rfl (lv_at hl 0 rfl) ?_
  refine lv_dup hx hb dX9_push_11 rfl ?_
  refine va_get (D := D) (v := .int (gI z_t 22)) (C := RX9) (T := TX9) (N := 36) hx hb hts iX9 hown hK.1 hP 0 rfl rfl 22 (by decide) (hts _ t_904) (fun _ h9 => h9) rfl dX9_push_12 ?_
  refine lv_iconst (v := 1) hx hb dX9_push_15 (by decide) ?_
  refine lv_iadd hx hb dX9_push_16 ?_
  refine va_put (D := D) (v := .int ((gI z_t 22) + 1)) (C := RX9) (T := TX9) (N := 36) hx hb hts iX9 tyX9 tyX9_ok nmX9 hown hK.1 hP hD hS 0 rfl rfl 22 (by decide) (hts _ t_904) (fun _ h9 => h9) rfl (tyX9_ok 22 (by decide)) rfl rfl (Nat.le_of_ble_eq_true rfl) dX9_push_17 (fun H locs hP hD hS => ?_)
  rw [u9_22] at hP hD
  exact rMv C rfl h (g := fun y => rc9 a q_t Q_t y) hP hD hS dX9_push_20

set_option maxHeartbeats 4000000 in
set_option maxRecDepth 100000 in
theorem wX9_reckons_8 {p : Program} {l : Launch} {e : Env} {s : State} {m : MethodId} {below : List Frame} {meth : Method} {c : Code} {D : va_G} {a : Nat → ClassId} {A : Nat → Prop} {q_t : Nat} {Q_t : Nat → Nat} {x10 : Int32} {x20 : Int32} {x30 : Int32} {x1 : Int32} {x3 : Int32} (C : Cx p s m #[.ref q_t, .int x10, .int x20, .int x30] meth c MX9_reckons) (hK : KK D a s) (hA : ∀ q, s.heap.size ≤ q → A q) {y : Int64 × Sx} {k135 : Sx → Option (Int64 × Sx)} (hk135 : ∀ (z_tk : Sx) (H : Heap) (locs : List Loc) (ls : Array Slot), k135 z_tk = some y → va_P D classes (rc9 a q_t Q_t z_tk) H → va_D A (rc9 a q_t Q_t z_tk) → va_S A s.heap H locs → lv_has ls 11 [(0, .ref q_t)] → W p l e (rmM 1 0 0 24) s m #[.ref q_t, .int x10, .int x20, .int x30] below meth c H locs 0 0 (MQ below (va_Ql (fun r (_ : Unit) => r = y.1) (Bw D A (fun _ => rc9 a q_t Q_t y.2)) A) #[.ref q_t, .int x10, .int x20, .int x30] s 0 0 A) (F0 m 135 ls [])) : ∀ (n : Nat) (z_t : Sx) (x4 : Int32) (H : Heap) (locs : List Loc) (ls : Array Slot), lX9_reckons_8 k135 x1 x3 n z_t x4 = some y → va_P D classes (rc9 a q_t Q_t z_t) H → va_D A (rc9 a q_t Q_t z_t) → va_S A s.heap H locs → lv_has ls 11 [(0, .ref q_t), (1, .int x1), (3, .int x3), (4, .int x4)] → W p l e (rmM 1 0 0 24) s m #[.ref q_t, .int x10, .int x20, .int x30] below meth c H locs 0 0 (MQ below (va_Ql (fun r (_ : Unit) => r = y.1) (Bw D A (fun _ => rc9 a q_t Q_t y.2)) A) #[.ref q_t, .int x10, .int x20, .int x30] s 0 0 A) (F0 m 8 ls []) := by
  obtain ⟨hx, hb, hml, hown, hts, hr, hlocks, hnm⟩ := id C
  have hb : c.code = cX9_reckons := hb
  have hown : s.vm.findClass RX9 = some m.cls := hown
  intro n
  induction n with
  | zero => intro z_t x4 H locs ls h; rw [lX9_reckons_8] at h; cases h
  | succ n ih =>
    intro z_t x4 H locs ls h hP hD hS hl
    rw [lX9_reckons_8] at h
    refine lv_iload hx hb dX9_reckons_8 (lv_at hl 3 rfl) ?_
    refine lv_iload_n hx hb dX9_reckons_10 rfl (lv_at hl 2 rfl) ?_
    refine lv_icmp_ge (tgt := 135) hx hb dX9_reckons_11 (by decide) (fun c1 => ?_) (fun c1 => ?_)
    · have h := ite_t c1 h
      exact hk135 z_t _ _ ls h hP hD hS (lv_sub hl [0] rfl)
    · have h := ite_f c1 h
      refine lv_aload_n hx hb dX9_reckons_14 rfl (lv_at hl 0 rfl) ?_
      refine va_get (D := D) (v := .ref (Q_t 3)) (C := RX9) (T := TX9) (N := 36) hx hb hts iX9 hown hK.1 hP 0 rfl rfl 3 (by decide) (hts _ t_885) (fun _ h9 => h9) rfl dX9_reckons_15 ?_
      refine lv_sipush (v := 400) hx hb dX9_reckons_18 (by decide) ?_
      refine lv_iload_n hx hb dX9_reckons_21 rfl (lv_at hl 1 rfl) ?_
      refine lv_imul hx hb dX9_reckons_22 ?_
      refine lv_iload hx hb dX9_reckons_23 (lv_at hl 3 rfl) ?_
      refine lv_iadd hx hb dX9_reckons_25 ?_
      obtain ⟨g2, h⟩ := gd_some h
      refine ald_i hx hb hK.1 hP 2 0 rfl rfl (((400 * x1) + x4).toNatClampNeg) (ix_g g2) dX9_reckons_26 ?_
      refine lv_bipush (v := 15) hx hb dX9_reckons_27 (by decide) ?_
      refine lv_iand hx hb dX9_reckons_29 ?_
      refine lv_istore (lv' := [(5, .int ((gT z_t 3 (((400 * x1) + x4).toNatClampNeg)) &&& 15)), (0, .ref q_t), (1, .int x1), (3, .int x3), (4, .int x4)]) hx hb dX9_reckons_30 hl (by decide) rfl (fun ls hl => ?_)
      refine lv_aload_n hx hb dX9_reckons_32 rfl (lv_at hl 1 rfl) ?_
      refine va_get (D := D) (v := .ref (Q_t 3)) (C := RX9) (T := TX9) (N := 36) hx hb hts iX9 hown hK.1 hP 0 rfl rfl 3 (by decide) (hts _ t_885) (fun _ h9 => h9) rfl dX9_reckons_33 ?_
      refine lv_sipush (v := 400) hx hb dX9_reckons_36 (by decide) ?_
      refine lv_iload_n hx hb dX9_reckons_39 rfl (lv_at hl 2 rfl) ?_
      refine lv_imul hx hb dX9_reckons_40 ?_
      refine lv_iload hx hb dX9_reckons_41 (lv_at hl 4 rfl) ?_
      refine lv_iadd hx hb dX9_reckons_43 ?_
      refine ald_i hx hb hK.1 hP 2 0 rfl rfl (((400 * x1) + x4).toNatClampNeg) (ix_g g2) dX9_reckons_44 ?_
      refine lv_iconst (v := 4) hx hb dX9_reckons_45 (by decide) ?_
      refine lv_ishr hx hb dX9_reckons_46 ?_
      refine lv_istore (lv' := [(6, .int ((gT z_t 3 (((400 * x1) + x4).toNatClampNeg)) >>> (4 &&& 31))), (5, .int ((gT z_t 3 (((400 * x1) + x4).toNatClampNeg)) &&& 15)), (0, .ref q_t), (1, .int x1), (3, .int x3), (4, .int x4)]) hx hb dX9_reckons_47 hl (by decide) rfl (fun ls hl => ?_)
      refine lv_iload hx hb dX9_reckons_49 (lv_at hl 1 rfl) ?_
      obtain ⟨J3, eJ3, h⟩ := jn_some h
      have hJ3 : ∀ (z4 : Sx) (H : Heap) (locs : List Loc) (ls : Array Slot), J3 z4 = some y → va_P D classes (rc9 a q_t Q_t z4) H → va_D A (rc9 a q_t Q_t z4) → va_S A s.heap H locs → lv_has ls 11 [(0, .ref q_t), (1, .int x1), (3, .int x3), (4, .int x4)] → W p l e (rmM 1 0 0 24) s m #[.ref q_t, .int x10, .int x20, .int x30] below meth c H locs 0 0 (MQ below (va_Ql (fun r (_ : Unit) => r = y.1) (Bw D A (fun _ => rc9 a q_t Q_t y.2)) A) #[.ref q_t, .int x10, .int x20, .int x30] s 0 0 A) (F0 m 129 ls []) := by
        intro z4 H locs ls h hP hD hS hl
        rw [eJ3] at h
        refine lv_iinc (v := x4 + 1) (lv' := [(4, .int (x4 + 1)), (0, .ref q_t), (1, .int x1), (3, .int x3)]) hx hb dX9_reckons_129 hl (k := 3) rfl rfl (by decide) rfl (fun ls hl => ?_)
        refine lv_goto (tgt := 8) hx hb dX9_reckons_132 (by decide) ?_
        exact ih z4 (x4 + 1) _ _ ls h hP hD hS (lv_sub hl [1, 2, 3, 0] rfl)
      refine lv_if_ne (tgt := 64) hx hb dX9_reckons_51 (by decide) (fun c5 => ?_) (fun c5 => ?_)
      · have h := ite_f c5 h
        refine lv_iload hx hb dX9_reckons_64 (lv_at hl 1 rfl) ?_
        refine lv_iconst (v := 1) hx hb dX9_reckons_66 (by decide) ?_
        refine lv_icmp_ne (tgt := 84) hx hb dX9_reckons_67 (by decide) (fun c6 => ?_) (fun c6 => ?_)
        · have h := ite_f c6 h
          refine lv_iload hx hb dX9_reckons_84 (lv_at hl 1 rfl) ?_
          refine lv_bipush (v := 11) hx hb dX9_reckons_86 (by decide) ?_
          refine lv_icmp_ne (tgt := 104) hx hb dX9_reckons_88 (by decide) (fun c7 => ?_) (fun c7 => ?_)
          · have h := ite_f c7 h
            refine lv_aload_n hx hb dX9_reckons_104 rfl (lv_at hl 2 rfl) ?_
            obtain ⟨r9, z10, hc8, h⟩ := bd2_some h
            refine cWl (runV (As := []) (rest := []) C (mX9_pop l D a (q_t := q_t) (Q_t := Q_t) hc8 H.size) lk_V_9_260 okN_X9_pop ⟨Nat.le_of_ble_eq_true rfl, Nat.le_of_ble_eq_true rfl⟩ ⟨rfl, rfl⟩ (preV (preM hK hP hD) (recvOf hK hP 0 rfl (ci := 9) rfl)) hl.1 rfl (Nat.le_of_ble_eq_true rfl) dX9_reckons_105 ⟨Nat.le_of_ble_eq_true rfl, Nat.le_of_ble_eq_true rfl⟩) hP hD hS hA (fun H locs hP hD hS => ?_)
            have hP : va_P D classes (rc9 a q_t Q_t z10) H := hP
            have hD : va_D A (rc9 a q_t Q_t z10) := hD
            refine lv_lstore (lv' := [(7, .long r9), (6, .int ((gT z_t 3 (((400 * x1) + x4).toNatClampNeg)) >>> (4 &&& 31))), (5, .int ((gT z_t 3 (((400 * x1) + x4).toNatClampNeg)) &&& 15)), (0, .ref q_t), (1, .int x1), (3, .int x3), (4, .int x4)]) hx hb dX9_reckons_108 hl (by decide) rfl (fun ls hl => ?_)
            refine lv_aload_n hx hb dX9_reckons_110 rfl (lv_at hl 3 rfl) ?_
            obtain ⟨r12, z13, hc11, h⟩ := bd2_some h
            refine cWl (runV (As := []) (rest := []) C (mX9_pop l D a (q_t := q_t) (Q_t := Q_t) hc11 H.size) lk_V_9_260 okN_X9_pop ⟨Nat.le_of_ble_eq_true rfl, Nat.le_of_ble_eq_true rfl⟩ ⟨rfl, rfl⟩ (preV (preM hK hP hD) (recvOf hK hP 0 rfl (ci := 9) rfl)) hl.1 rfl (Nat.le_of_ble_eq_true rfl) dX9_reckons_111 ⟨Nat.le_of_ble_eq_true rfl, Nat.le_of_ble_eq_true rfl⟩) hP hD hS hA (fun H locs hP hD hS => ?_)
            have hP : va_P D classes (rc9 a q_t Q_t z13) H := hP
            have hD : va_D A (rc9 a q_t Q_t z13) := hD
            refine lv_lstore (lv' := [(9, .long r12), (7, .long r9), (6, .int ((gT z_t 3 (((400 * x1) + x4).toNatClampNeg)) >>> (4 &&& 31))), (5, .int ((gT z_t 3 (((400 * x1) + x4).toNatClampNeg)) &&& 15)), (0, .ref q_t), (1, .int x1), (3, .int x3), (4, .int x4)]) hx hb dX9_reckons_114 hl (by decide) rfl (fun ls hl => ?_)
            refine lv_aload_n hx hb dX9_reckons_116 rfl (lv_at hl 4 rfl) ?_
            refine lv_iload hx hb dX9_reckons_117 (lv_at hl 3 rfl) ?_
            refine lv_lload hx hb dX9_reckons_119 (lv_at hl 0 rfl) ?_
            refine lv_lload hx hb dX9_reckons_121 (lv_at hl 1 rfl) ?_
            obtain ⟨r15, hc14, h⟩ := bd_some h
            refine cRl (runS (As := [.int ((gT z_t 3 (((400 * x1) + x4).toNatClampNeg)) &&& 15), .long r12, .long r9]) (rest := [.ref q_t]) C (mX9_one l D a hc14) lk_S_9_264 okN_X9_one ⟨Nat.le_of_ble_eq_true rfl, Nat.le_of_ble_eq_true rfl⟩ ⟨rfl, rfl⟩ (preR hK (P_of_map (wc := []) hP [] rfl)) hl.1 rfl (Nat.le_of_ble_eq_true rfl) dX9_reckons_123 ⟨Nat.le_of_ble_eq_true rfl, Nat.le_of_ble_eq_true rfl⟩) ?_
            obtain ⟨z17, hc16, h⟩ := bd_some h
            refine cWv (runV (As := [.long r15]) (rest := []) C (mX9_push l D a (q_t := q_t) (Q_t := Q_t) hc16 H.size) lk_V_9_256 okN_X9_push ⟨Nat.le_of_ble_eq_true rfl, Nat.le_of_ble_eq_true rfl⟩ ⟨rfl, rfl⟩ (preV (preM hK hP hD) (recvOf hK hP 0 rfl (ci := 9) rfl)) hl.1 rfl (Nat.le_of_ble_eq_true rfl) dX9_reckons_126 ⟨Nat.le_of_ble_eq_true rfl, Nat.le_of_ble_eq_true rfl⟩) hP hD hS hA (fun H locs hP hD hS => ?_)
            have hP : va_P D classes (rc9 a q_t Q_t z17) H := hP
            have hD : va_D A (rc9 a q_t Q_t z17) := hD
            exact hJ3 z17 _ _ ls h hP hD hS (lv_sub hl [4, 5, 6, 7] rfl)
          · have h := ite_t c7 h
            refine lv_aload_n hx hb dX9_reckons_91 rfl (lv_at hl 2 rfl) ?_
            refine lv_lconst (v := 1) hx hb dX9_reckons_92 (by decide) ?_
            refine lv_aload_n hx hb dX9_reckons_93 rfl (lv_at hl 2 rfl) ?_
            obtain ⟨r19, z20, hc18, h⟩ := bd2_some h
            refine cWl (runV (As := []) (rest := [.long 1, .ref q_t]) C (mX9_pop l D a (q_t := q_t) (Q_t := Q_t) hc18 H.size) lk_V_9_260 okN_X9_pop ⟨Nat.le_of_ble_eq_true rfl, Nat.le_of_ble_eq_true rfl⟩ ⟨rfl, rfl⟩ (preV (preM hK hP hD) (recvOf hK hP 0 rfl (ci := 9) rfl)) hl.1 rfl (Nat.le_of_ble_eq_true rfl) dX9_reckons_94 ⟨Nat.le_of_ble_eq_true rfl, Nat.le_of_ble_eq_true rfl⟩) hP hD hS hA (fun H locs hP hD hS => ?_)
            have hP : va_P D classes (rc9 a q_t Q_t z20) H := hP
            have hD : va_D A (rc9 a q_t Q_t z20) := hD
            refine lv_lsub hx hb dX9_reckons_97 ?_
            obtain ⟨z22, hc21, h⟩ := bd_some h
            refine cWv (runV (As := [.long (1 - r19)]) (rest := []) C (mX9_push l D a (q_t := q_t) (Q_t := Q_t) hc21 H.size) lk_V_9_256 okN_X9_push ⟨Nat.le_of_ble_eq_true rfl, Nat.le_of_ble_eq_true rfl⟩ ⟨rfl, rfl⟩ (preV (preM hK hP hD) (recvOf hK hP 0 rfl (ci := 9) rfl)) hl.1 rfl (Nat.le_of_ble_eq_true rfl) dX9_reckons_98 ⟨Nat.le_of_ble_eq_true rfl, Nat.le_of_ble_eq_true rfl⟩) hP hD hS hA (fun H locs hP hD hS => ?_)
            have hP : va_P D classes (rc9 a q_t Q_t z22) H := hP
            have hD : va_D A (rc9 a q_t Q_t z22) := hD
            refine lv_goto (tgt := 129) hx hb dX9_reckons_101 (by decide) ?_
            exact hJ3 z22 _ _ ls h hP hD hS (lv_sub hl [2, 3, 4, 5] rfl)
        · have h := ite_t c6 h
          refine lv_aload_n hx hb dX9_reckons_70 rfl (lv_at hl 2 rfl) ?_
          refine lv_aload_n hx hb dX9_reckons_71 rfl (lv_at hl 2 rfl) ?_
          refine va_get (D := D) (v := .ref (Q_t 23)) (C := RX9) (T := TX9) (N := 36) hx hb hts iX9 hown hK.1 hP 0 rfl rfl 23 (by decide) (hts _ t_905) (fun _ h9 => h9) rfl dX9_reckons_72 ?_
          refine lv_iload hx hb dX9_reckons_75 (lv_at hl 0 rfl) ?_
          obtain ⟨g23, h⟩ := gd_some h
          refine ald_l hx hb hK.1 hP 10 1 rfl rfl (((gT z_t 3 (((400 * x1) + x4).toNatClampNeg)) >>> (4 &&& 31)).toNatClampNeg) (ix_g g23) dX9_reckons_77 ?_
          obtain ⟨z25, hc24, h⟩ := bd_some h
          refine cWv (runV (As := [.long (gJ z_t 23 (((gT z_t 3 (((400 * x1) + x4).toNatClampNeg)) >>> (4 &&& 31)).toNatClampNeg))]) (rest := []) C (mX9_push l D a (q_t := q_t) (Q_t := Q_t) hc24 H.size) lk_V_9_256 okN_X9_push ⟨Nat.le_of_ble_eq_true rfl, Nat.le_of_ble_eq_true rfl⟩ ⟨rfl, rfl⟩ (preV (preM hK hP hD) (recvOf hK hP 0 rfl (ci := 9) rfl)) hl.1 rfl (Nat.le_of_ble_eq_true rfl) dX9_reckons_78 ⟨Nat.le_of_ble_eq_true rfl, Nat.le_of_ble_eq_true rfl⟩) hP hD hS hA (fun H locs hP hD hS => ?_)
          have hP : va_P D classes (rc9 a q_t Q_t z25) H := hP
          have hD : va_D A (rc9 a q_t Q_t z25) := hD
          refine lv_goto (tgt := 129) hx hb dX9_reckons_81 (by decide) ?_
          exact hJ3 z25 _ _ ls h hP hD hS (lv_sub hl [2, 3, 4, 5] rfl)
      · have h := ite_t c5 h
        refine lv_aload_n hx hb dX9_reckons_54 rfl (lv_at hl 2 rfl) ?_
        refine lv_iload hx hb dX9_reckons_55 (lv_at hl 0 rfl) ?_
        refine lv_i2l (v := ((gT z_t 3 (((400 * x1) + x4).toNatClampNeg)) >>> (4 &&& 31)).toInt64) hx hb dX9_reckons_57 rfl ?_
        obtain ⟨z27, hc26, h⟩ := bd_some h
        refine cWv (runV (As := [.long (((gT z_t 3 (((400 * x1) + x4).toNatClampNeg)) >>> (4 &&& 31)).toInt64)]) (rest := []) C (mX9_push l D a (q_t := q_t) (Q_t := Q_t) hc26 H.size) lk_V_9_256 okN_X9_push ⟨Nat.le_of_ble_eq_true rfl, Nat.le_of_ble_eq_true rfl⟩ ⟨rfl, rfl⟩ (preV (preM hK hP hD) (recvOf hK hP 0 rfl (ci := 9) rfl)) hl.1 rfl (Nat.le_of_ble_eq_true rfl) dX9_reckons_58 ⟨Nat.le_of_ble_eq_true rfl, Nat.le_of_ble_eq_true rfl⟩) hP hD hS hA (fun H locs hP hD hS => ?_)
        have hP : va_P D classes (rc9 a q_t Q_t z27) H := hP
        have hD : va_D A (rc9 a q_t Q_t z27) := hD
        refine lv_goto (tgt := 129) hx hb dX9_reckons_61 (by decide) ?_
        exact hJ3 z27 _ _ ls h hP hD hS (lv_sub hl [2, 3, 4, 5] rfl)

set_option maxHeartbeats 4000000 in
set_option maxRecDepth 100000 in
theorem mX9_reckons (l : Launch) (D : va_G) (a : Nat → ClassId) {q_t : Nat} {Q_t : Nat → Nat} {z_t : Sx} {x1 : Int32} {x2 : Int32} {x3 : Int32} {y : Int64 × Sx} (h : fX9_reckons z_t x1 x2 x3 = some y) (sz : Nat) : CMl (S := Unit) l MX9_reckons 1 24 0 0 D a [.ref q_t, .int x1, .int x2, .int x3] (rc9 a q_t Q_t z_t) sz (fun r _ => r = y.1) (fun _ => rc9 a q_t Q_t y.2) := by
  unfold fX9_reckons at h
  refine entMl (by decide) (Nat.le_of_ble_eq_true rfl) ?_
  intro p e s m below meth c C hK A hA hP hD ls hl
  obtain ⟨hx, hb, hml, hown, hts, hr, hlocks, hnm⟩ := id C
  have hb : c.code = cX9_reckons := hb
  have hown : s.vm.findClass RX9 = some m.cls := hown
  have hS : va_S A s.heap s.heap [] := va_S.rf
  have hl : lv_has ls 11 [(0, .ref q_t), (1, .int x1), (2, .int x2), (3, .int x3)] := hl
  refine lv_aload_n hx hb dX9_reckons_0 rfl (lv_at hl 0 rfl) ?_
  refine lv_iconst (v := 0) hx hb dX9_reckons_1 (by decide) ?_
  refine va_put (D := D) (v := .int 0) (C := RX9) (T := TX9) (N := 36) hx hb hts iX9 tyX9 tyX9_ok nmX9 hown hK.1 hP hD hS 0 rfl rfl 22 (by decide) (hts _ t_904) (fun _ h9 => h9) rfl (tyX9_ok 22 (by decide)) rfl rfl (Nat.le_of_ble_eq_true rfl) dX9_reckons_2 (fun H locs hP hD hS => ?_)
  rw [u9_22] at hP hD
  refine lv_iload_n hx hb dX9_reckons_5 rfl (lv_at hl 2 rfl) ?_
  refine lv_istore (lv' := [(4, .int x2), (0, .ref q_t), (1, .int x1), (2, .int x2), (3, .int x3)]) hx hb dX9_reckons_6 hl (by decide) rfl (fun ls hl => ?_)
  refine wX9_reckons_8 C hK hA ?_ FU (sI z_t 22 0) x2 _ _ ls h hP hD hS (lv_sub hl [1, 2, 4, 0] rfl)
  · intro z28 H locs ls h hP hD hS hl
    refine lv_aload_n hx hb dX9_reckons_135 rfl (lv_at hl 0 rfl) ?_
    obtain ⟨r30, z31, hc29, h⟩ := bd2_some h
    refine cWl (runV (As := []) (rest := []) C (mX9_pop l D a (q_t := q_t) (Q_t := Q_t) hc29 H.size) lk_V_9_260 okN_X9_pop ⟨Nat.le_of_ble_eq_true rfl, Nat.le_of_ble_eq_true rfl⟩ ⟨rfl, rfl⟩ (preV (preM hK hP hD) (recvOf hK hP 0 rfl (ci := 9) rfl)) hl.1 rfl (Nat.le_of_ble_eq_true rfl) dX9_reckons_136 ⟨Nat.le_of_ble_eq_true rfl, Nat.le_of_ble_eq_true rfl⟩) hP hD hS hA (fun H locs hP hD hS => ?_)
    have hP : va_P D classes (rc9 a q_t Q_t z31) H := hP
    have hD : va_D A (rc9 a q_t Q_t z31) := hD
    exact rMl C rfl h (g := fun y => rc9 a q_t Q_t y.2) (pr := fun y => y.1) hP hD hS dX9_reckons_139

set_option maxHeartbeats 4000000 in
set_option maxRecDepth 100000 in
theorem wX9_clauseFor_7 {p : Program} {l : Launch} {e : Env} {s : State} {m : MethodId} {below : List Frame} {meth : Method} {c : Code} {D : va_G} {a : Nat → ClassId} {A : Nat → Prop} {q_t : Nat} {Q_t : Nat → Nat} {x10 : Int32} {x20 : Int32} {x1 : Int32} (C : Cx p s m #[.ref q_t, .int x10, .int x20] meth c MX9_clauseFor) (hK : KK D a s) (hA : ∀ q, s.heap.size ≤ q → A q) {y : Int32 × Sx} : ∀ (n : Nat) (z_t : Sx) (x3 : Int32) (H : Heap) (locs : List Loc) (ls : Array Slot), lX9_clauseFor_7 x1 n z_t x3 = some y → va_P D classes (rc9 a q_t Q_t z_t) H → va_D A (rc9 a q_t Q_t z_t) → va_S A s.heap H locs → lv_has ls 5 [(0, .ref q_t), (1, .int x1), (3, .int x3)] → W p l e (rmM 3 0 0 66) s m #[.ref q_t, .int x10, .int x20] below meth c H locs 0 0 (MQ below (va_Qi (fun r (_ : Unit) => r = y.1) (Bw D A (fun _ => rc9 a q_t Q_t y.2)) A) #[.ref q_t, .int x10, .int x20] s 0 0 A) (F0 m 7 ls []) := by
  obtain ⟨hx, hb, hml, hown, hts, hr, hlocks, hnm⟩ := id C
  have hb : c.code = cX9_clauseFor := hb
  have hown : s.vm.findClass RX9 = some m.cls := hown
  intro n
  induction n with
  | zero => intro z_t x3 H locs ls h; rw [lX9_clauseFor_7] at h; cases h
  | succ n ih =>
    intro z_t x3 H locs ls h hP hD hS hl
    rw [lX9_clauseFor_7] at h
    refine lv_iload_n hx hb dX9_clauseFor_7 rfl (lv_at hl 2 rfl) ?_
    refine lv_aload_n hx hb dX9_clauseFor_8 rfl (lv_at hl 0 rfl) ?_
    refine va_get (D := D) (v := .ref (Q_t 6)) (C := RX9) (T := TX9) (N := 36) hx hb hts iX9 hown hK.1 hP 0 rfl rfl 6 (by decide) (hts _ t_888) (fun _ h9 => h9) rfl dX9_clauseFor_9 ?_
    refine lv_iload_n hx hb dX9_clauseFor_12 rfl (lv_at hl 1 rfl) ?_
    obtain ⟨g3, h⟩ := gd_some h
    refine ald_i hx hb hK.1 hP 5 0 rfl rfl x1.toNatClampNeg (ix_g g3) dX9_clauseFor_13 ?_
    refine lv_icmp_ge (tgt := 86) hx hb dX9_clauseFor_14 (by decide) (fun c4 => ?_) (fun c4 => ?_)
    · have h := ite_t c4 h
      refine lv_iconst (v := (-1)) hx hb dX9_clauseFor_86 (by decide) ?_
      exact rMi C rfl h (g := fun y => rc9 a q_t Q_t y.2) (pr := fun y => y.1) hP hD hS dX9_clauseFor_87
    · have h := ite_f c4 h
      refine lv_bipush (v := 60) hx hb dX9_clauseFor_17 (by decide) ?_
      refine lv_iload_n hx hb dX9_clauseFor_19 rfl (lv_at hl 1 rfl) ?_
      refine lv_imul hx hb dX9_clauseFor_20 ?_
      refine lv_iconst (v := 5) hx hb dX9_clauseFor_21 (by decide) ?_
      refine lv_iload_n hx hb dX9_clauseFor_22 rfl (lv_at hl 2 rfl) ?_
      refine lv_imul hx hb dX9_clauseFor_23 ?_
      refine lv_iadd hx hb dX9_clauseFor_24 ?_
      refine lv_istore (lv' := [(4, .int ((60 * x1) + (5 * x3))), (0, .ref q_t), (1, .int x1), (3, .int x3)]) hx hb dX9_clauseFor_25 hl (by decide) rfl (fun ls hl => ?_)
      refine lv_aload_n hx hb dX9_clauseFor_27 rfl (lv_at hl 1 rfl) ?_
      refine va_get (D := D) (v := .ref (Q_t 5)) (C := RX9) (T := TX9) (N := 36) hx hb hts iX9 hown hK.1 hP 0 rfl rfl 5 (by decide) (hts _ t_887) (fun _ h9 => h9) rfl dX9_clauseFor_28 ?_
      refine lv_iload hx hb dX9_clauseFor_31 (lv_at hl 0 rfl) ?_
      obtain ⟨g5, h⟩ := gd_some h
      refine ald_i hx hb hK.1 hP 4 0 rfl rfl (((60 * x1) + (5 * x3)).toNatClampNeg) (ix_g g5) dX9_clauseFor_33 ?_
      obtain ⟨J6, eJ6, h⟩ := jn_some h
      have hJ6 : ∀ (z7 : Sx) (H : Heap) (locs : List Loc) (ls : Array Slot), J6 z7 = some y → va_P D classes (rc9 a q_t Q_t z7) H → va_D A (rc9 a q_t Q_t z7) → va_S A s.heap H locs → lv_has ls 5 [(0, .ref q_t), (1, .int x1), (3, .int x3)] → W p l e (rmM 3 0 0 66) s m #[.ref q_t, .int x10, .int x20] below meth c H locs 0 0 (MQ below (va_Qi (fun r (_ : Unit) => r = y.1) (Bw D A (fun _ => rc9 a q_t Q_t y.2)) A) #[.ref q_t, .int x10, .int x20] s 0 0 A) (F0 m 80 ls []) := by
        intro z7 H locs ls h hP hD hS hl
        rw [eJ6] at h
        refine lv_iinc (v := x3 + 1) (lv' := [(3, .int (x3 + 1)), (0, .ref q_t), (1, .int x1)]) hx hb dX9_clauseFor_80 hl (k := 2) rfl rfl (by decide) rfl (fun ls hl => ?_)
        refine lv_goto (tgt := 7) hx hb dX9_clauseFor_83 (by decide) ?_
        exact ih z7 (x3 + 1) _ _ ls h hP hD hS (lv_sub hl [1, 2, 0] rfl)
      refine lv_if_ne (tgt := 80) hx hb dX9_clauseFor_34 (by decide) (fun c8 => ?_) (fun c8 => ?_)
      · have h := ite_f c8 h
        exact hJ6 z_t _ _ ls h hP hD hS (lv_sub hl [1, 2, 3] rfl)
      · have h := ite_t c8 h
        refine lv_aload_n hx hb dX9_clauseFor_37 rfl (lv_at hl 1 rfl) ?_
        refine va_get (D := D) (v := .ref (Q_t 5)) (C := RX9) (T := TX9) (N := 36) hx hb hts iX9 hown hK.1 hP 0 rfl rfl 5 (by decide) (hts _ t_887) (fun _ h9 => h9) rfl dX9_clauseFor_38 ?_
        refine lv_iload hx hb dX9_clauseFor_41 (lv_at hl 0 rfl) ?_
        refine lv_iconst (v := 3) hx hb dX9_clauseFor_43 (by decide) ?_
        refine lv_iadd hx hb dX9_clauseFor_44 ?_
        obtain ⟨g9, h⟩ := gd_some h
        refine ald_i hx hb hK.1 hP 4 0 rfl rfl ((((60 * x1) + (5 * x3)) + 3).toNatClampNeg) (ix_g g9) dX9_clauseFor_45 ?_
        refine lv_if_lt (tgt := 77) hx hb dX9_clauseFor_46 (by decide) (fun c10 => ?_) (fun c10 => ?_)
        · have h := ite_t c10 h
          refine lv_iload hx hb dX9_clauseFor_77 (lv_at hl 0 rfl) ?_
          exact rMi C rfl h (g := fun y => rc9 a q_t Q_t y.2) (pr := fun y => y.1) hP hD hS dX9_clauseFor_79
        · have h := ite_f c10 h
          refine lv_aload_n hx hb dX9_clauseFor_49 rfl (lv_at hl 1 rfl) ?_
          refine lv_iload_n hx hb dX9_clauseFor_50 rfl (lv_at hl 2 rfl) ?_
          refine lv_aload_n hx hb dX9_clauseFor_51 rfl (lv_at hl 1 rfl) ?_
          refine va_get (D := D) (v := .ref (Q_t 5)) (C := RX9) (T := TX9) (N := 36) hx hb hts iX9 hown hK.1 hP 0 rfl rfl 5 (by decide) (hts _ t_887) (fun _ h9 => h9) rfl dX9_clauseFor_52 ?_
          refine lv_iload hx hb dX9_clauseFor_55 (lv_at hl 0 rfl) ?_
          refine lv_iconst (v := 3) hx hb dX9_clauseFor_57 (by decide) ?_
          refine lv_iadd hx hb dX9_clauseFor_58 ?_
          refine ald_i hx hb hK.1 hP 4 0 rfl rfl ((((60 * x1) + (5 * x3)) + 3).toNatClampNeg) (ix_g g9) dX9_clauseFor_59 ?_
          refine lv_aload_n hx hb dX9_clauseFor_60 rfl (lv_at hl 1 rfl) ?_
          refine va_get (D := D) (v := .ref (Q_t 5)) (C := RX9) (T := TX9) (N := 36) hx hb hts iX9 hown hK.1 hP 0 rfl rfl 5 (by decide) (hts _ t_887) (fun _ h9 => h9) rfl dX9_clauseFor_61 ?_
          refine lv_iload hx hb dX9_clauseFor_64 (lv_at hl 0 rfl) ?_
          refine lv_iconst (v := 4) hx hb dX9_clauseFor_66 (by decide) ?_
          refine lv_iadd hx hb dX9_clauseFor_67 ?_
          obtain ⟨g11, h⟩ := gd_some h
          refine ald_i hx hb hK.1 hP 4 0 rfl rfl ((((60 * x1) + (5 * x3)) + 4).toNatClampNeg) (ix_g g11) dX9_clauseFor_68 ?_
          obtain ⟨r13, z14, hc12, h⟩ := bd2_some h
          refine cWl (runV (As := [.int x1, .int (gT z_t 5 ((((60 * x1) + (5 * x3)) + 3).toNatClampNeg)), .int (gT z_t 5 ((((60 * x1) + (5 * x3)) + 4).toNatClampNeg))]) (rest := []) C (mX9_reckons l D a (q_t := q_t) (Q_t := Q_t) hc12 H.size) lk_V_9_322 okN_X9_reckons ⟨Nat.le_of_ble_eq_true rfl, Nat.le_of_ble_eq_true rfl⟩ ⟨rfl, rfl⟩ (preV (preM hK hP hD) (recvOf hK hP 0 rfl (ci := 9) rfl)) hl.1 rfl (Nat.le_of_ble_eq_true rfl) dX9_clauseFor_69 ⟨Nat.le_of_ble_eq_true rfl, Nat.le_of_ble_eq_true rfl⟩) hP hD hS hA (fun H locs hP hD hS => ?_)
          have hP : va_P D classes (rc9 a q_t Q_t z14) H := hP
          have hD : va_D A (rc9 a q_t Q_t z14) := hD
          refine lv_lconst (v := 1) hx hb dX9_clauseFor_72 (by decide) ?_
          refine W.lcmp hx hb dX9_clauseFor_73 ?_
          refine lv_if_ne (tgt := 80) hx hb dX9_clauseFor_74 (by decide) (fun c15 => ?_) (fun c15 => ?_)
          · have h := ite_f (fun q => c15 ((lg_cmp_eq _ _).mpr q)) h
            exact hJ6 z14 _ _ ls h hP hD hS (lv_sub hl [1, 2, 3] rfl)
          · have h := ite_t ((lg_cmp_eq _ _).mp c15) h
            refine lv_iload hx hb dX9_clauseFor_77 (lv_at hl 0 rfl) ?_
            exact rMi C rfl h (g := fun y => rc9 a q_t Q_t y.2) (pr := fun y => y.1) hP hD hS dX9_clauseFor_79

set_option maxHeartbeats 4000000 in
set_option maxRecDepth 100000 in
theorem mX9_clauseFor (l : Launch) (D : va_G) (a : Nat → ClassId) {q_t : Nat} {Q_t : Nat → Nat} {z_t : Sx} {x1 : Int32} {x2 : Int32} {y : Int32 × Sx} (h : fX9_clauseFor z_t x1 x2 = some y) (sz : Nat) : CMi (S := Unit) l MX9_clauseFor 3 66 0 0 D a [.ref q_t, .int x1, .int x2] (rc9 a q_t Q_t z_t) sz (fun r _ => r = y.1) (fun _ => rc9 a q_t Q_t y.2) := by
  unfold fX9_clauseFor at h
  refine entMi (by decide) (Nat.le_of_ble_eq_true rfl) ?_
  intro p e s m below meth c C hK A hA hP hD ls hl
  obtain ⟨hx, hb, hml, hown, hts, hr, hlocks, hnm⟩ := id C
  have hb : c.code = cX9_clauseFor := hb
  have hown : s.vm.findClass RX9 = some m.cls := hown
  have hS : va_S A s.heap s.heap [] := va_S.rf
  have hl : lv_has ls 5 [(0, .ref q_t), (1, .int x1), (2, .int x2)] := hl
  refine lv_aload_n hx hb dX9_clauseFor_0 rfl (lv_at hl 0 rfl) ?_
  refine lv_iload_n hx hb dX9_clauseFor_1 rfl (lv_at hl 2 rfl) ?_
  obtain ⟨z2, hc1, h⟩ := bd_some h
  refine cWv (runV (As := [.int x2]) (rest := []) C (mX9_words l D a (q_t := q_t) (Q_t := Q_t) hc1 s.heap.size) lk_V_9_319 okN_X9_words ⟨Nat.le_of_ble_eq_true rfl, Nat.le_of_ble_eq_true rfl⟩ ⟨rfl, rfl⟩ (preV (preM hK hP hD) (recvOf hK hP 0 rfl (ci := 9) rfl)) hl.1 rfl (Nat.le_of_ble_eq_true rfl) dX9_clauseFor_2 ⟨Nat.le_of_ble_eq_true rfl, Nat.le_of_ble_eq_true rfl⟩) hP hD hS hA (fun H locs hP hD hS => ?_)
  have hP : va_P D classes (rc9 a q_t Q_t z2) H := hP
  have hD : va_D A (rc9 a q_t Q_t z2) := hD
  refine lv_iconst (v := 0) hx hb dX9_clauseFor_5 (by decide) ?_
  refine lv_istore_n (lv' := [(3, .int 0), (0, .ref q_t), (1, .int x1), (2, .int x2)]) hx hb dX9_clauseFor_6 rfl hl (by decide) rfl (fun ls hl => ?_)
  refine wX9_clauseFor_7 C hK hA FU z2 0 _ _ ls h hP hD hS (lv_sub hl [1, 2, 0] rfl)

set_option maxHeartbeats 4000000 in
set_option maxRecDepth 100000 in
theorem wX9_see_0 {p : Program} {l : Launch} {e : Env} {s : State} {m : MethodId} {below : List Frame} {meth : Method} {c : Code} {D : va_G} {a : Nat → ClassId} {A : Nat → Prop} {q_t : Nat} {Q_t : Nat → Nat} (C : Cx p s m #[.ref q_t] meth c MX9_see) (hK : KK D a s) (hA : ∀ q, s.heap.size ≤ q → A q) {y : Int32 × Sx} {k38 : Sx → Option (Int32 × Sx)} (hk38 : ∀ (z_tk : Sx) (H : Heap) (locs : List Loc) (ls : Array Slot), k38 z_tk = some y → va_P D classes (rc9 a q_t Q_t z_tk) H → va_D A (rc9 a q_t Q_t z_tk) → va_S A s.heap H locs → lv_has ls 1 [(0, .ref q_t)] → W p l e (rmM 0 0 0 0) s m #[.ref q_t] below meth c H locs 0 0 (MQ below (va_Qi (fun r (_ : Unit) => r = y.1) (Bw D A (fun _ => rc9 a q_t Q_t y.2)) A) #[.ref q_t] s 0 0 A) (F0 m 38 ls [])) : ∀ (n : Nat) (z_t : Sx) (H : Heap) (locs : List Loc) (ls : Array Slot), lX9_see_0 k38 n z_t = some y → va_P D classes (rc9 a q_t Q_t z_t) H → va_D A (rc9 a q_t Q_t z_t) → va_S A s.heap H locs → lv_has ls 1 [(0, .ref q_t)] → W p l e (rmM 0 0 0 0) s m #[.ref q_t] below meth c H locs 0 0 (MQ below (va_Qi (fun r (_ : Unit) => r = y.1) (Bw D A (fun _ => rc9 a q_t Q_t y.2)) A) #[.ref q_t] s 0 0 A) (F0 m 0 ls []) := by
  obtain ⟨hx, hb, hml, hown, hts, hr, hlocks, hnm⟩ := id C
  have hb : c.code = cX9_see := hb
  have hown : s.vm.findClass RX9 = some m.cls := hown
  intro n
  induction n with
  | zero => intro z_t H locs ls h; rw [lX9_see_0] at h; cases h
  | succ n ih =>
    intro z_t H locs ls h hP hD hS hl
    rw [lX9_see_0] at h
    refine lv_aload_n hx hb dX9_see_0 rfl (lv_at hl 0 rfl) ?_
    refine va_get (D := D) (v := .int (gI z_t 12)) (C := RX9) (T := TX9) (N := 36) hx hb hts iX9 hown hK.1 hP 0 rfl rfl 12 (by decide) (hts _ t_894) (fun _ h9 => h9) rfl dX9_see_1 ?_
    refine lv_aload_n hx hb dX9_see_4 rfl (lv_at hl 0 rfl) ?_
    refine va_get (D := D) (v := .int (gI z_t 1)) (C := RX9) (T := TX9) (N := 36) hx hb hts iX9 hown hK.1 hP 0 rfl rfl 1 (by decide) (hts _ t_883) (fun _ h9 => h9) rfl dX9_see_5 ?_
    refine lv_icmp_ge (tgt := 38) hx hb dX9_see_8 (by decide) (fun c1 => ?_) (fun c1 => ?_)
    · have h := ite_t c1 h
      exact hk38 z_t _ _ ls h hP hD hS (lv_sub hl [0] rfl)
    · have h := ite_f c1 h
      refine lv_aload_n hx hb dX9_see_11 rfl (lv_at hl 0 rfl) ?_
      refine va_get (D := D) (v := .ref (Q_t 0)) (C := RX9) (T := TX9) (N := 36) hx hb hts iX9 hown hK.1 hP 0 rfl rfl 0 (by decide) (hts _ t_882) (fun _ h9 => h9) rfl dX9_see_12 ?_
      refine lv_aload_n hx hb dX9_see_15 rfl (lv_at hl 0 rfl) ?_
      refine va_get (D := D) (v := .int (gI z_t 12)) (C := RX9) (T := TX9) (N := 36) hx hb hts iX9 hown hK.1 hP 0 rfl rfl 12 (by decide) (hts _ t_894) (fun _ h9 => h9) rfl dX9_see_16 ?_
      obtain ⟨g2, h⟩ := gd_some h
      refine ald_b hx hb hK.1 hP 1 2 rfl rfl ((gI z_t 12).toNatClampNeg) (ix_g g2) dX9_see_19 ?_
      refine lv_bipush (v := 32) hx hb dX9_see_20 (by decide) ?_
      refine lv_icmp_ne (tgt := 38) hx hb dX9_see_22 (by decide) (fun c3 => ?_) (fun c3 => ?_)
      · have h := ite_f c3 h
        exact hk38 z_t _ _ ls h hP hD hS (lv_sub hl [0] rfl)
      · have h := ite_t c3 h
        refine lv_aload_n hx hb dX9_see_25 rfl (lv_at hl 0 rfl) ?_
        refine lv_dup hx hb dX9_see_26 rfl ?_
        refine va_get (D := D) (v := .int (gI z_t 12)) (C := RX9) (T := TX9) (N := 36) hx hb hts iX9 hown hK.1 hP 0 rfl rfl 12 (by decide) (hts _ t_894) (fun _ h9 => h9) rfl dX9_see_27 ?_
        refine lv_iconst (v := 1) hx hb dX9_see_30 (by decide) ?_
        refine lv_iadd hx hb dX9_see_31 ?_
        refine va_put (D := D) (v := .int ((gI z_t 12) + 1)) (C := RX9) (T := TX9) (N := 36) hx hb hts iX9 tyX9 tyX9_ok nmX9 hown hK.1 hP hD hS 0 rfl rfl 12 (by decide) (hts _ t_894) (fun _ h9 => h9) rfl (tyX9_ok 12 (by decide)) rfl rfl (Nat.le_of_ble_eq_true rfl) dX9_see_32 (fun H locs hP hD hS => ?_)
        rw [u9_12] at hP hD
        refine lv_goto (tgt := 0) hx hb dX9_see_35 (by decide) ?_
        exact ih (sI z_t 12 ((gI z_t 12) + 1)) _ _ ls h hP hD hS (lv_sub hl [0] rfl)

set_option maxHeartbeats 4000000 in
set_option maxRecDepth 100000 in
theorem mX9_see (l : Launch) (D : va_G) (a : Nat → ClassId) {q_t : Nat} {Q_t : Nat → Nat} {z_t : Sx} {y : Int32 × Sx} (h : fX9_see z_t = some y) (sz : Nat) : CMi (S := Unit) l MX9_see 0 0 0 0 D a [.ref q_t] (rc9 a q_t Q_t z_t) sz (fun r _ => r = y.1) (fun _ => rc9 a q_t Q_t y.2) := by
  unfold fX9_see at h
  refine entMi (by decide) (Nat.le_of_ble_eq_true rfl) ?_
  intro p e s m below meth c C hK A hA hP hD ls hl
  obtain ⟨hx, hb, hml, hown, hts, hr, hlocks, hnm⟩ := id C
  have hb : c.code = cX9_see := hb
  have hown : s.vm.findClass RX9 = some m.cls := hown
  have hS : va_S A s.heap s.heap [] := va_S.rf
  have hl : lv_has ls 1 [(0, .ref q_t)] := hl
  refine wX9_see_0 C hK hA ?_ FU z_t _ _ ls h hP hD hS (lv_sub hl [0] rfl)
  · intro z4 H locs ls h hP hD hS hl
    refine lv_aload_n hx hb dX9_see_38 rfl (lv_at hl 0 rfl) ?_
    refine va_get (D := D) (v := .int (gI z4 12)) (C := RX9) (T := TX9) (N := 36) hx hb hts iX9 hown hK.1 hP 0 rfl rfl 12 (by decide) (hts _ t_894) (fun _ h9 => h9) rfl dX9_see_39 ?_
    refine lv_aload_n hx hb dX9_see_42 rfl (lv_at hl 0 rfl) ?_
    refine va_get (D := D) (v := .int (gI z4 1)) (C := RX9) (T := TX9) (N := 36) hx hb hts iX9 hown hK.1 hP 0 rfl rfl 1 (by decide) (hts _ t_883) (fun _ h9 => h9) rfl dX9_see_43 ?_
    refine lv_icmp_ge (tgt := 65) hx hb dX9_see_46 (by decide) (fun c5 => ?_) (fun c5 => ?_)
    · have h := ite_t c5 h
      refine lv_iconst (v := (-1)) hx hb dX9_see_65 (by decide) ?_
      exact rMi C rfl h (g := fun y => rc9 a q_t Q_t y.2) (pr := fun y => y.1) hP hD hS dX9_see_66
    · have h := ite_f c5 h
      refine lv_aload_n hx hb dX9_see_49 rfl (lv_at hl 0 rfl) ?_
      refine va_get (D := D) (v := .ref (Q_t 0)) (C := RX9) (T := TX9) (N := 36) hx hb hts iX9 hown hK.1 hP 0 rfl rfl 0 (by decide) (hts _ t_882) (fun _ h9 => h9) rfl dX9_see_50 ?_
      refine lv_aload_n hx hb dX9_see_53 rfl (lv_at hl 0 rfl) ?_
      refine va_get (D := D) (v := .int (gI z4 12)) (C := RX9) (T := TX9) (N := 36) hx hb hts iX9 hown hK.1 hP 0 rfl rfl 12 (by decide) (hts _ t_894) (fun _ h9 => h9) rfl dX9_see_54 ?_
      obtain ⟨g6, h⟩ := gd_some h
      refine ald_b hx hb hK.1 hP 1 2 rfl rfl ((gI z4 12).toNatClampNeg) (ix_g g6) dX9_see_57 ?_
      refine lv_sipush (v := 255) hx hb dX9_see_58 (by decide) ?_
      refine lv_iand hx hb dX9_see_61 ?_
      refine lv_goto (tgt := 66) hx hb dX9_see_62 (by decide) ?_
      exact rMi C rfl h (g := fun y => rc9 a q_t Q_t y.2) (pr := fun y => y.1) hP hD hS dX9_see_66

set_option maxHeartbeats 4000000 in
set_option maxRecDepth 100000 in
theorem mX9_isLetter (l : Launch) (D : va_G) (a : Nat → ClassId) {q_t : Nat} {Q_t : Nat → Nat} {z_t : Sx} {x1 : Int32} {y : Int32} (h : fX9_isLetter z_t x1 = some y) : CRi l MX9_isLetter 0 0 D a [.ref q_t, .int x1] (rc9 a q_t Q_t z_t) (fun r => r = y) := by
  unfold fX9_isLetter at h
  refine entR (by decide) (Nat.le_of_ble_eq_true rfl) ?_
  intro p e s m below meth c C hK hP ls hl
  obtain ⟨hx, hb, hml, hown, hts, hr, hlocks, hnm⟩ := id C
  have hb : c.code = cX9_isLetter := hb
  have hown : s.vm.findClass RX9 = some m.cls := hown
  have hl : lv_has ls 2 [(0, .ref q_t), (1, .int x1)] := hl
  refine lv_iload_n hx hb dX9_isLetter_0 rfl (lv_at hl 1 rfl) ?_
  refine lv_aload_n hx hb dX9_isLetter_1 rfl (lv_at hl 0 rfl) ?_
  refine va_get (D := D) (v := .int (gI z_t 1)) (C := RX9) (T := TX9) (N := 36) hx hb hts iX9 hown hK.1 hP 0 rfl rfl 1 (by decide) (hts _ t_883) (fun _ h9 => h9) rfl dX9_isLetter_2 ?_
  refine lv_icmp_ge (tgt := 34) hx hb dX9_isLetter_5 (by decide) (fun c1 => ?_) (fun c1 => ?_)
  · have h := ite_t c1 h
    refine lv_iconst (v := 0) hx hb dX9_isLetter_34 (by decide) ?_
    exact rRz C rfl (Or.inl rfl) (Option.some.inj h) dX9_isLetter_35
  · have h := ite_f c1 h
    refine lv_aload_n hx hb dX9_isLetter_8 rfl (lv_at hl 0 rfl) ?_
    refine va_get (D := D) (v := .ref (Q_t 0)) (C := RX9) (T := TX9) (N := 36) hx hb hts iX9 hown hK.1 hP 0 rfl rfl 0 (by decide) (hts _ t_882) (fun _ h9 => h9) rfl dX9_isLetter_9 ?_
    refine lv_iload_n hx hb dX9_isLetter_12 rfl (lv_at hl 1 rfl) ?_
    obtain ⟨g2, h⟩ := gd_some h
    refine ald_b hx hb hK.1 hP 1 2 rfl rfl x1.toNatClampNeg (ix_g g2) dX9_isLetter_13 ?_
    refine lv_bipush (v := 97) hx hb dX9_isLetter_14 (by decide) ?_
    refine lv_icmp_lt (tgt := 34) hx hb dX9_isLetter_16 (by decide) (fun c3 => ?_) (fun c3 => ?_)
    · have h := ite_t c3 h
      refine lv_iconst (v := 0) hx hb dX9_isLetter_34 (by decide) ?_
      exact rRz C rfl (Or.inl rfl) (Option.some.inj h) dX9_isLetter_35
    · have h := ite_f c3 h
      refine lv_aload_n hx hb dX9_isLetter_19 rfl (lv_at hl 0 rfl) ?_
      refine va_get (D := D) (v := .ref (Q_t 0)) (C := RX9) (T := TX9) (N := 36) hx hb hts iX9 hown hK.1 hP 0 rfl rfl 0 (by decide) (hts _ t_882) (fun _ h9 => h9) rfl dX9_isLetter_20 ?_
      refine lv_iload_n hx hb dX9_isLetter_23 rfl (lv_at hl 1 rfl) ?_
      refine ald_b hx hb hK.1 hP 1 2 rfl rfl x1.toNatClampNeg (ix_g g2) dX9_isLetter_24 ?_
      refine lv_bipush (v := 122) hx hb dX9_isLetter_25 (by decide) ?_
      refine lv_icmp_gt (tgt := 34) hx hb dX9_isLetter_27 (by decide) (fun c4 => ?_) (fun c4 => ?_)
      · have h := ite_t c4 h
        refine lv_iconst (v := 0) hx hb dX9_isLetter_34 (by decide) ?_
        exact rRz C rfl (Or.inl rfl) (Option.some.inj h) dX9_isLetter_35
      · have h := ite_f c4 h
        refine lv_iconst (v := 1) hx hb dX9_isLetter_30 (by decide) ?_
        refine lv_goto (tgt := 35) hx hb dX9_isLetter_31 (by decide) ?_
        exact rRz C rfl (Or.inr rfl) (Option.some.inj h) dX9_isLetter_35

set_option maxHeartbeats 4000000 in
set_option maxRecDepth 100000 in
theorem wX9_isWord_10 {p : Program} {l : Launch} {e : Env} {s : State} {m : MethodId} {below : List Frame} {meth : Method} {c : Code} {D : va_G} {a : Nat → ClassId} {A : Nat → Prop} {q_t : Nat} {Q_t : Nat → Nat} {z_t : Sx} {x10 : Int64} {x1 : Int64} (C : Cx p s m #[.ref q_t, .long x10] meth c MX9_isWord) (hK : KK D a s) (hA : ∀ q, s.heap.size ≤ q → A q) {y : Int32 × Sx} {k56 : Int64 → Int32 → Option (Int32 × Sx)} (hk56 : ∀ (x3k : Int64) (x5k : Int32) (H : Heap) (locs : List Loc) (ls : Array Slot), k56 x3k x5k = some y → va_P D classes (rc9 a q_t Q_t z_t) H → va_D A (rc9 a q_t Q_t z_t) → va_S A s.heap H locs → lv_has ls 6 [(1, .long x1), (3, .long x3k), (5, .int x5k)] → W p l e (rmM 1 0 0 21) s m #[.ref q_t, .long x10] below meth c H locs 0 0 (MQ below (va_Qi (fun r (_ : Unit) => r = y.1) (Bw D A (fun _ => rc9 a q_t Q_t y.2)) A) #[.ref q_t, .long x10] s 0 0 A) (F0 m 56 ls [])) : ∀ (n : Nat) (x3 : Int64) (x5 : Int32) (H : Heap) (locs : List Loc) (ls : Array Slot), lX9_isWord_10 k56 z_t x1 n x3 x5 = some y → va_P D classes (rc9 a q_t Q_t z_t) H → va_D A (rc9 a q_t Q_t z_t) → va_S A s.heap H locs → lv_has ls 6 [(0, .ref q_t), (1, .long x1), (3, .long x3), (5, .int x5)] → W p l e (rmM 1 0 0 21) s m #[.ref q_t, .long x10] below meth c H locs 0 0 (MQ below (va_Qi (fun r (_ : Unit) => r = y.1) (Bw D A (fun _ => rc9 a q_t Q_t y.2)) A) #[.ref q_t, .long x10] s 0 0 A) (F0 m 10 ls []) := by
  obtain ⟨hx, hb, hml, hown, hts, hr, hlocks, hnm⟩ := id C
  have hb : c.code = cX9_isWord := hb
  have hown : s.vm.findClass RX9 = some m.cls := hown
  intro n
  induction n with
  | zero => intro x3 x5 H locs ls h; rw [lX9_isWord_10] at h; cases h
  | succ n ih =>
    intro x3 x5 H locs ls h hP hD hS hl
    rw [lX9_isWord_10] at h
    refine lv_aload_n hx hb dX9_isWord_10 rfl (lv_at hl 0 rfl) ?_
    refine lv_aload_n hx hb dX9_isWord_11 rfl (lv_at hl 0 rfl) ?_
    refine va_get (D := D) (v := .int (gI z_t 12)) (C := RX9) (T := TX9) (N := 36) hx hb hts iX9 hown hK.1 hP 0 rfl rfl 12 (by decide) (hts _ t_894) (fun _ h9 => h9) rfl dX9_isWord_12 ?_
    refine lv_iload hx hb dX9_isWord_15 (lv_at hl 3 rfl) ?_
    refine lv_iadd hx hb dX9_isWord_17 ?_
    obtain ⟨r5, hc4, h⟩ := bd_some h
    refine cRi (runV (As := [.int ((gI z_t 12) + x5)]) (rest := []) C (mX9_isLetter l D a (q_t := q_t) (Q_t := Q_t) hc4) lk_V_9_97 okN_X9_isLetter ⟨Nat.le_of_ble_eq_true rfl, Nat.le_of_ble_eq_true rfl⟩ ⟨rfl, rfl⟩ (preV (preR hK hP) (recvOf hK hP 0 rfl (ci := 9) rfl)) hl.1 rfl (Nat.le_of_ble_eq_true rfl) dX9_isWord_18 ⟨Nat.le_of_ble_eq_true rfl, Nat.le_of_ble_eq_true rfl⟩) ?_
    refine lv_if_eq (tgt := 56) hx hb dX9_isWord_21 (by decide) (fun c6 => ?_) (fun c6 => ?_)
    · have h := ite_t c6 h
      exact hk56 x3 x5 _ _ ls h hP hD hS (lv_sub hl [1, 2, 3] rfl)
    · have h := ite_f c6 h
      refine lv_iload hx hb dX9_isWord_24 (lv_at hl 3 rfl) ?_
      refine lv_bipush (v := 8) hx hb dX9_isWord_26 (by decide) ?_
      obtain ⟨J7, eJ7, h⟩ := jn_some h
      have hJ7 : ∀ (i8 : Int64) (H : Heap) (locs : List Loc) (ls : Array Slot), J7 i8 = some y → va_P D classes (rc9 a q_t Q_t z_t) H → va_D A (rc9 a q_t Q_t z_t) → va_S A s.heap H locs → lv_has ls 6 [(0, .ref q_t), (1, .long x1), (3, .long i8), (5, .int x5)] → W p l e (rmM 1 0 0 21) s m #[.ref q_t, .long x10] below meth c H locs 0 0 (MQ below (va_Qi (fun r (_ : Unit) => r = y.1) (Bw D A (fun _ => rc9 a q_t Q_t y.2)) A) #[.ref q_t, .long x10] s 0 0 A) (F0 m 50 ls []) := by
        intro i8 H locs ls h hP hD hS hl
        rw [eJ7] at h
        refine lv_iinc (v := x5 + 1) (lv' := [(5, .int (x5 + 1)), (0, .ref q_t), (1, .long x1), (3, .long i8)]) hx hb dX9_isWord_50 hl (k := 3) rfl rfl (by decide) rfl (fun ls hl => ?_)
        refine lv_goto (tgt := 10) hx hb dX9_isWord_53 (by decide) ?_
        exact ih i8 (x5 + 1) _ _ ls h hP hD hS (lv_sub hl [1, 2, 3, 0] rfl)
      refine lv_icmp_ge (tgt := 50) hx hb dX9_isWord_28 (by decide) (fun c9 => ?_) (fun c9 => ?_)
      · have h := ite_t c9 h
        exact hJ7 x3 _ _ ls h hP hD hS (lv_sub hl [0, 1, 2, 3] rfl)
      · have h := ite_f c9 h
        refine lv_lload_n hx hb dX9_isWord_31 rfl (lv_at hl 2 rfl) ?_
        refine lv_bipush (v := 8) hx hb dX9_isWord_32 (by decide) ?_
        refine lv_lshl (v := x3 <<< (Int32.toInt64 8 &&& 63)) hx hb dX9_isWord_34 rfl ?_
        refine lv_aload_n hx hb dX9_isWord_35 rfl (lv_at hl 0 rfl) ?_
        refine va_get (D := D) (v := .ref (Q_t 0)) (C := RX9) (T := TX9) (N := 36) hx hb hts iX9 hown hK.1 hP 0 rfl rfl 0 (by decide) (hts _ t_882) (fun _ h9 => h9) rfl dX9_isWord_36 ?_
        refine lv_aload_n hx hb dX9_isWord_39 rfl (lv_at hl 0 rfl) ?_
        refine va_get (D := D) (v := .int (gI z_t 12)) (C := RX9) (T := TX9) (N := 36) hx hb hts iX9 hown hK.1 hP 0 rfl rfl 12 (by decide) (hts _ t_894) (fun _ h9 => h9) rfl dX9_isWord_40 ?_
        refine lv_iload hx hb dX9_isWord_43 (lv_at hl 3 rfl) ?_
        refine lv_iadd hx hb dX9_isWord_45 ?_
        obtain ⟨g10, h⟩ := gd_some h
        refine ald_b hx hb hK.1 hP 1 2 rfl rfl (((gI z_t 12) + x5).toNatClampNeg) (ix_g g10) dX9_isWord_46 ?_
        refine lv_i2l (v := (gT z_t 0 (((gI z_t 12) + x5).toNatClampNeg)).toInt64) hx hb dX9_isWord_47 rfl ?_
        refine lv_lor hx hb dX9_isWord_48 ?_
        refine lv_topl (fun v11 ev11 => ?_)
        have h := nm_some h v11 ev11
        refine lv_lstore_n (lv' := [(3, .long v11), (0, .ref q_t), (1, .long x1), (5, .int x5)]) hx hb dX9_isWord_49 rfl hl (by decide) rfl (fun ls hl => ?_)
        exact hJ7 v11 _ _ ls h hP hD hS (lv_sub hl [1, 2, 0, 3] rfl)

set_option maxHeartbeats 4000000 in
set_option maxRecDepth 100000 in
theorem mX9_isWord (l : Launch) (D : va_G) (a : Nat → ClassId) {q_t : Nat} {Q_t : Nat → Nat} {z_t : Sx} {x1 : Int64} {y : Int32 × Sx} (h : fX9_isWord z_t x1 = some y) (sz : Nat) : CMi (S := Unit) l MX9_isWord 1 21 0 0 D a [.ref q_t, .long x1] (rc9 a q_t Q_t z_t) sz (fun r _ => r = y.1) (fun _ => rc9 a q_t Q_t y.2) := by
  unfold fX9_isWord at h
  refine entMi (by decide) (Nat.le_of_ble_eq_true rfl) ?_
  intro p e s m below meth c C hK A hA hP hD ls hl
  obtain ⟨hx, hb, hml, hown, hts, hr, hlocks, hnm⟩ := id C
  have hb : c.code = cX9_isWord := hb
  have hown : s.vm.findClass RX9 = some m.cls := hown
  have hS : va_S A s.heap s.heap [] := va_S.rf
  have hl : lv_has ls 6 [(0, .ref q_t), (1, .long x1)] := hl
  refine lv_aload_n hx hb dX9_isWord_0 rfl (lv_at hl 0 rfl) ?_
  obtain ⟨r2, z3, hc1, h⟩ := bd2_some h
  refine cWi (runV (As := []) (rest := []) C (mX9_see l D a (q_t := q_t) (Q_t := Q_t) hc1 s.heap.size) lk_V_9_93 okN_X9_see ⟨Nat.le_of_ble_eq_true rfl, Nat.le_of_ble_eq_true rfl⟩ ⟨rfl, rfl⟩ (preV (preM hK hP hD) (recvOf hK hP 0 rfl (ci := 9) rfl)) hl.1 rfl (Nat.le_of_ble_eq_true rfl) dX9_isWord_1 ⟨Nat.le_of_ble_eq_true rfl, Nat.le_of_ble_eq_true rfl⟩) hP hD hS hA (fun H locs hP hD hS => ?_)
  have hP : va_P D classes (rc9 a q_t Q_t z3) H := hP
  have hD : va_D A (rc9 a q_t Q_t z3) := hD
  refine lv_pop hx hb dX9_isWord_4 rfl ?_
  refine lv_lconst (v := 0) hx hb dX9_isWord_5 (by decide) ?_
  refine lv_lstore_n (lv' := [(3, .long 0), (0, .ref q_t), (1, .long x1)]) hx hb dX9_isWord_6 rfl hl (by decide) rfl (fun ls hl => ?_)
  refine lv_iconst (v := 0) hx hb dX9_isWord_7 (by decide) ?_
  refine lv_istore (lv' := [(5, .int 0), (3, .long 0), (0, .ref q_t), (1, .long x1)]) hx hb dX9_isWord_8 hl (by decide) rfl (fun ls hl => ?_)
  refine wX9_isWord_10 C hK hA ?_ FU 0 0 _ _ ls h hP hD hS (lv_sub hl [2, 3, 1, 0] rfl)
  · intro i12 i13 H locs ls h hP hD hS hl
    refine lv_iload hx hb dX9_isWord_56 (lv_at hl 2 rfl) ?_
    refine lv_if_le (tgt := 78) hx hb dX9_isWord_58 (by decide) (fun c14 => ?_) (fun c14 => ?_)
    · have h := ite_t c14 h
      refine lv_iconst (v := 0) hx hb dX9_isWord_78 (by decide) ?_
      exact rMz C rfl (Or.inl rfl) h (g := fun y => rc9 a q_t Q_t y.2) (pr := fun y => y.1) hP hD hS dX9_isWord_79
    · have h := ite_f c14 h
      refine lv_iload hx hb dX9_isWord_61 (lv_at hl 2 rfl) ?_
      refine lv_bipush (v := 8) hx hb dX9_isWord_63 (by decide) ?_
      refine lv_icmp_ge (tgt := 78) hx hb dX9_isWord_65 (by decide) (fun c15 => ?_) (fun c15 => ?_)
      · have h := ite_t c15 h
        refine lv_iconst (v := 0) hx hb dX9_isWord_78 (by decide) ?_
        exact rMz C rfl (Or.inl rfl) h (g := fun y => rc9 a q_t Q_t y.2) (pr := fun y => y.1) hP hD hS dX9_isWord_79
      · have h := ite_f c15 h
        refine lv_lload_n hx hb dX9_isWord_68 rfl (lv_at hl 1 rfl) ?_
        refine lv_lload_n hx hb dX9_isWord_69 rfl (lv_at hl 0 rfl) ?_
        refine W.lcmp hx hb dX9_isWord_70 ?_
        refine lv_if_ne (tgt := 78) hx hb dX9_isWord_71 (by decide) (fun c16 => ?_) (fun c16 => ?_)
        · have h := ite_f (fun q => c16 ((lg_cmp_eq _ _).mpr q)) h
          refine lv_iconst (v := 0) hx hb dX9_isWord_78 (by decide) ?_
          exact rMz C rfl (Or.inl rfl) h (g := fun y => rc9 a q_t Q_t y.2) (pr := fun y => y.1) hP hD hS dX9_isWord_79
        · have h := ite_t ((lg_cmp_eq _ _).mp c16) h
          refine lv_iconst (v := 1) hx hb dX9_isWord_74 (by decide) ?_
          refine lv_goto (tgt := 79) hx hb dX9_isWord_75 (by decide) ?_
          exact rMz C rfl (Or.inr rfl) h (g := fun y => rc9 a q_t Q_t y.2) (pr := fun y => y.1) hP hD hS dX9_isWord_79

set_option maxHeartbeats 4000000 in
set_option maxRecDepth 100000 in
theorem wX9_passWord_0 {p : Program} {l : Launch} {e : Env} {s : State} {m : MethodId} {below : List Frame} {meth : Method} {c : Code} {D : va_G} {a : Nat → ClassId} {A : Nat → Prop} {q_t : Nat} {Q_t : Nat → Nat} (C : Cx p s m #[.ref q_t] meth c MX9_passWord) (hK : KK D a s) (hA : ∀ q, s.heap.size ≤ q → A q) {y : Sx} : ∀ (n : Nat) (z_t : Sx) (H : Heap) (locs : List Loc) (ls : Array Slot), lX9_passWord_0 n z_t = some y → va_P D classes (rc9 a q_t Q_t z_t) H → va_D A (rc9 a q_t Q_t z_t) → va_S A s.heap H locs → lv_has ls 1 [(0, .ref q_t)] → W p l e (rmM 1 0 0 21) s m #[.ref q_t] below meth c H locs 0 0 (MQ below (va_Qv (fun (_ : Unit) => True) (Bw D A (fun _ => rc9 a q_t Q_t y)) A) #[.ref q_t] s 0 0 A) (F0 m 0 ls []) := by
  obtain ⟨hx, hb, hml, hown, hts, hr, hlocks, hnm⟩ := id C
  have hb : c.code = cX9_passWord := hb
  have hown : s.vm.findClass RX9 = some m.cls := hown
  intro n
  induction n with
  | zero => intro z_t H locs ls h; rw [lX9_passWord_0] at h; cases h
  | succ n ih =>
    intro z_t H locs ls h hP hD hS hl
    rw [lX9_passWord_0] at h
    refine lv_aload_n hx hb dX9_passWord_0 rfl (lv_at hl 0 rfl) ?_
    refine lv_aload_n hx hb dX9_passWord_1 rfl (lv_at hl 0 rfl) ?_
    refine va_get (D := D) (v := .int (gI z_t 12)) (C := RX9) (T := TX9) (N := 36) hx hb hts iX9 hown hK.1 hP 0 rfl rfl 12 (by decide) (hts _ t_894) (fun _ h9 => h9) rfl dX9_passWord_2 ?_
    obtain ⟨r2, hc1, h⟩ := bd_some h
    refine cRi (runV (As := [.int (gI z_t 12)]) (rest := []) C (mX9_isLetter l D a (q_t := q_t) (Q_t := Q_t) hc1) lk_V_9_97 okN_X9_isLetter ⟨Nat.le_of_ble_eq_true rfl, Nat.le_of_ble_eq_true rfl⟩ ⟨rfl, rfl⟩ (preV (preR hK hP) (recvOf hK hP 0 rfl (ci := 9) rfl)) hl.1 rfl (Nat.le_of_ble_eq_true rfl) dX9_passWord_5 ⟨Nat.le_of_ble_eq_true rfl, Nat.le_of_ble_eq_true rfl⟩) ?_
    refine lv_if_eq (tgt := 24) hx hb dX9_passWord_8 (by decide) (fun c3 => ?_) (fun c3 => ?_)
    · have h := ite_t c3 h
      exact rMv C rfl h (g := fun y => rc9 a q_t Q_t y) hP hD hS dX9_passWord_24
    · have h := ite_f c3 h
      refine lv_aload_n hx hb dX9_passWord_11 rfl (lv_at hl 0 rfl) ?_
      refine lv_dup hx hb dX9_passWord_12 rfl ?_
      refine va_get (D := D) (v := .int (gI z_t 12)) (C := RX9) (T := TX9) (N := 36) hx hb hts iX9 hown hK.1 hP 0 rfl rfl 12 (by decide) (hts _ t_894) (fun _ h9 => h9) rfl dX9_passWord_13 ?_
      refine lv_iconst (v := 1) hx hb dX9_passWord_16 (by decide) ?_
      refine lv_iadd hx hb dX9_passWord_17 ?_
      refine va_put (D := D) (v := .int ((gI z_t 12) + 1)) (C := RX9) (T := TX9) (N := 36) hx hb hts iX9 tyX9 tyX9_ok nmX9 hown hK.1 hP hD hS 0 rfl rfl 12 (by decide) (hts _ t_894) (fun _ h9 => h9) rfl (tyX9_ok 12 (by decide)) rfl rfl (Nat.le_of_ble_eq_true rfl) dX9_passWord_18 (fun H locs hP hD hS => ?_)
      rw [u9_12] at hP hD
      refine lv_goto (tgt := 0) hx hb dX9_passWord_21 (by decide) ?_
      exact ih (sI z_t 12 ((gI z_t 12) + 1)) _ _ ls h hP hD hS (lv_sub hl [0] rfl)

set_option maxHeartbeats 4000000 in
set_option maxRecDepth 100000 in
theorem mX9_passWord (l : Launch) (D : va_G) (a : Nat → ClassId) {q_t : Nat} {Q_t : Nat → Nat} {z_t : Sx} {y : Sx} (h : fX9_passWord z_t = some y) (sz : Nat) : CMv (S := Unit) l MX9_passWord 1 21 0 0 D a [.ref q_t] (rc9 a q_t Q_t z_t) sz (fun _ => True) (fun _ => rc9 a q_t Q_t y) := by
  unfold fX9_passWord at h
  refine entMv (by decide) (Nat.le_of_ble_eq_true rfl) ?_
  intro p e s m below meth c C hK A hA hP hD ls hl
  obtain ⟨hx, hb, hml, hown, hts, hr, hlocks, hnm⟩ := id C
  have hb : c.code = cX9_passWord := hb
  have hown : s.vm.findClass RX9 = some m.cls := hown
  have hS : va_S A s.heap s.heap [] := va_S.rf
  have hl : lv_has ls 1 [(0, .ref q_t)] := hl
  refine wX9_passWord_0 C hK hA FU z_t _ _ ls h hP hD hS (lv_sub hl [0] rfl)

set_option maxHeartbeats 4000000 in
set_option maxRecDepth 100000 in
theorem mX9_isDigit (l : Launch) (D : va_G) (a : Nat → ClassId) {q_t : Nat} {Q_t : Nat → Nat} {z_t : Sx} {x1 : Int32} {y : Int32} (h : fX9_isDigit z_t x1 = some y) : CRi l MX9_isDigit 0 0 D a [.ref q_t, .int x1] (rc9 a q_t Q_t z_t) (fun r => r = y) := by
  unfold fX9_isDigit at h
  refine entR (by decide) (Nat.le_of_ble_eq_true rfl) ?_
  intro p e s m below meth c C hK hP ls hl
  obtain ⟨hx, hb, hml, hown, hts, hr, hlocks, hnm⟩ := id C
  have hb : c.code = cX9_isDigit := hb
  have hown : s.vm.findClass RX9 = some m.cls := hown
  have hl : lv_has ls 2 [(0, .ref q_t), (1, .int x1)] := hl
  refine lv_iload_n hx hb dX9_isDigit_0 rfl (lv_at hl 1 rfl) ?_
  refine lv_aload_n hx hb dX9_isDigit_1 rfl (lv_at hl 0 rfl) ?_
  refine va_get (D := D) (v := .int (gI z_t 1)) (C := RX9) (T := TX9) (N := 36) hx hb hts iX9 hown hK.1 hP 0 rfl rfl 1 (by decide) (hts _ t_883) (fun _ h9 => h9) rfl dX9_isDigit_2 ?_
  refine lv_icmp_ge (tgt := 34) hx hb dX9_isDigit_5 (by decide) (fun c1 => ?_) (fun c1 => ?_)
  · have h := ite_t c1 h
    refine lv_iconst (v := 0) hx hb dX9_isDigit_34 (by decide) ?_
    exact rRz C rfl (Or.inl rfl) (Option.some.inj h) dX9_isDigit_35
  · have h := ite_f c1 h
    refine lv_aload_n hx hb dX9_isDigit_8 rfl (lv_at hl 0 rfl) ?_
    refine va_get (D := D) (v := .ref (Q_t 0)) (C := RX9) (T := TX9) (N := 36) hx hb hts iX9 hown hK.1 hP 0 rfl rfl 0 (by decide) (hts _ t_882) (fun _ h9 => h9) rfl dX9_isDigit_9 ?_
    refine lv_iload_n hx hb dX9_isDigit_12 rfl (lv_at hl 1 rfl) ?_
    obtain ⟨g2, h⟩ := gd_some h
    refine ald_b hx hb hK.1 hP 1 2 rfl rfl x1.toNatClampNeg (ix_g g2) dX9_isDigit_13 ?_
    refine lv_bipush (v := 48) hx hb dX9_isDigit_14 (by decide) ?_
    refine lv_icmp_lt (tgt := 34) hx hb dX9_isDigit_16 (by decide) (fun c3 => ?_) (fun c3 => ?_)
    · have h := ite_t c3 h
      refine lv_iconst (v := 0) hx hb dX9_isDigit_34 (by decide) ?_
      exact rRz C rfl (Or.inl rfl) (Option.some.inj h) dX9_isDigit_35
    · have h := ite_f c3 h
      refine lv_aload_n hx hb dX9_isDigit_19 rfl (lv_at hl 0 rfl) ?_
      refine va_get (D := D) (v := .ref (Q_t 0)) (C := RX9) (T := TX9) (N := 36) hx hb hts iX9 hown hK.1 hP 0 rfl rfl 0 (by decide) (hts _ t_882) (fun _ h9 => h9) rfl dX9_isDigit_20 ?_
      refine lv_iload_n hx hb dX9_isDigit_23 rfl (lv_at hl 1 rfl) ?_
      refine ald_b hx hb hK.1 hP 1 2 rfl rfl x1.toNatClampNeg (ix_g g2) dX9_isDigit_24 ?_
      refine lv_bipush (v := 57) hx hb dX9_isDigit_25 (by decide) ?_
      refine lv_icmp_gt (tgt := 34) hx hb dX9_isDigit_27 (by decide) (fun c4 => ?_) (fun c4 => ?_)
      · have h := ite_t c4 h
        refine lv_iconst (v := 0) hx hb dX9_isDigit_34 (by decide) ?_
        exact rRz C rfl (Or.inl rfl) (Option.some.inj h) dX9_isDigit_35
      · have h := ite_f c4 h
        refine lv_iconst (v := 1) hx hb dX9_isDigit_30 (by decide) ?_
        refine lv_goto (tgt := 35) hx hb dX9_isDigit_31 (by decide) ?_
        exact rRz C rfl (Or.inr rfl) (Option.some.inj h) dX9_isDigit_35

set_option maxHeartbeats 4000000 in
set_option maxRecDepth 100000 in
theorem mX9_fails (l : Launch) (D : va_G) (a : Nat → ClassId) {q_t : Nat} {Q_t : Nat → Nat} {z_t : Sx} {x1 : Int32} {x2 : Int32} {y : Int32 × Sx} (h : fX9_fails z_t x1 x2 = some y) (sz : Nat) : CMi (S := Unit) l MX9_fails 0 0 0 0 D a [.ref q_t, .int x1, .int x2] (rc9 a q_t Q_t z_t) sz (fun r _ => r = y.1) (fun _ => rc9 a q_t Q_t y.2) := by
  unfold fX9_fails at h
  refine entMi (by decide) (Nat.le_of_ble_eq_true rfl) ?_
  intro p e s m below meth c C hK A hA hP hD ls hl
  obtain ⟨hx, hb, hml, hown, hts, hr, hlocks, hnm⟩ := id C
  have hb : c.code = cX9_fails := hb
  have hown : s.vm.findClass RX9 = some m.cls := hown
  have hS : va_S A s.heap s.heap [] := va_S.rf
  have hl : lv_has ls 3 [(0, .ref q_t), (1, .int x1), (2, .int x2)] := hl
  refine lv_aload_n hx hb dX9_fails_0 rfl (lv_at hl 0 rfl) ?_
  refine va_get (D := D) (v := .int (gI z_t 13)) (C := RX9) (T := TX9) (N := 36) hx hb hts iX9 hown hK.1 hP 0 rfl rfl 13 (by decide) (hts _ t_895) (fun _ h9 => h9) rfl dX9_fails_1 ?_
  refine lv_if_ne (tgt := 19) hx hb dX9_fails_4 (by decide) (fun c1 => ?_) (fun c1 => ?_)
  · have h := ite_f c1 h
    refine lv_iconst (v := 0) hx hb dX9_fails_19 (by decide) ?_
    exact rMz C rfl (Or.inl rfl) h (g := fun y => rc9 a q_t Q_t y.2) (pr := fun y => y.1) hP hD hS dX9_fails_20
  · have h := ite_t c1 h
    refine lv_aload_n hx hb dX9_fails_7 rfl (lv_at hl 0 rfl) ?_
    refine lv_iconst (v := 1) hx hb dX9_fails_8 (by decide) ?_
    refine lv_bipush (v := 8) hx hb dX9_fails_9 (by decide) ?_
    refine lv_iload_n hx hb dX9_fails_11 rfl (lv_at hl 2 rfl) ?_
    refine lv_imul hx hb dX9_fails_12 ?_
    refine lv_iadd hx hb dX9_fails_13 ?_
    refine lv_iload_n hx hb dX9_fails_14 rfl (lv_at hl 1 rfl) ?_
    refine lv_iadd hx hb dX9_fails_15 ?_
    refine va_put (D := D) (v := .int ((1 + (8 * x2)) + x1)) (C := RX9) (T := TX9) (N := 36) hx hb hts iX9 tyX9 tyX9_ok nmX9 hown hK.1 hP hD hS 0 rfl rfl 13 (by decide) (hts _ t_895) (fun _ h9 => h9) rfl (tyX9_ok 13 (by decide)) rfl rfl (Nat.le_of_ble_eq_true rfl) dX9_fails_16 (fun H locs hP hD hS => ?_)
    rw [u9_13] at hP hD
    refine lv_iconst (v := 0) hx hb dX9_fails_19 (by decide) ?_
    exact rMz C rfl (Or.inl rfl) h (g := fun y => rc9 a q_t Q_t y.2) (pr := fun y => y.1) hP hD hS dX9_fails_20

set_option maxHeartbeats 4000000 in
set_option maxRecDepth 100000 in
theorem wX9_numberHere_34 {p : Program} {l : Launch} {e : Env} {s : State} {m : MethodId} {below : List Frame} {meth : Method} {c : Code} {D : va_G} {a : Nat → ClassId} {A : Nat → Prop} {q_t : Nat} {Q_t : Nat → Nat} {x10 : Int32} {x20 : Int32} {x1 : Int32} {x2 : Int32} {x3 : Int32} (C : Cx p s m #[.ref q_t, .int x10, .int x20] meth c MX9_numberHere) (hK : KK D a s) (hA : ∀ q, s.heap.size ≤ q → A q) {y : Int32 × Sx} {k88 : Sx → Int32 → Option (Int32 × Sx)} (hk88 : ∀ (z_tk : Sx) (x4k : Int32) (H : Heap) (locs : List Loc) (ls : Array Slot), k88 z_tk x4k = some y → va_P D classes (rc9 a q_t Q_t z_tk) H → va_D A (rc9 a q_t Q_t z_tk) → va_S A s.heap H locs → lv_has ls 5 [(0, .ref q_t), (1, .int x1), (2, .int x2), (3, .int x3), (4, .int x4k)] → W p l e (rmM 1 0 0 25) s m #[.ref q_t, .int x10, .int x20] below meth c H locs 0 0 (MQ below (va_Qi (fun r (_ : Unit) => r = y.1) (Bw D A (fun _ => rc9 a q_t Q_t y.2)) A) #[.ref q_t, .int x10, .int x20] s 0 0 A) (F0 m 88 ls [])) : ∀ (n : Nat) (z_t : Sx) (x4 : Int32) (H : Heap) (locs : List Loc) (ls : Array Slot), lX9_numberHere_34 k88 x1 x2 x3 n z_t x4 = some y → va_P D classes (rc9 a q_t Q_t z_t) H → va_D A (rc9 a q_t Q_t z_t) → va_S A s.heap H locs → lv_has ls 5 [(0, .ref q_t), (1, .int x1), (2, .int x2), (3, .int x3), (4, .int x4)] → W p l e (rmM 1 0 0 25) s m #[.ref q_t, .int x10, .int x20] below meth c H locs 0 0 (MQ below (va_Qi (fun r (_ : Unit) => r = y.1) (Bw D A (fun _ => rc9 a q_t Q_t y.2)) A) #[.ref q_t, .int x10, .int x20] s 0 0 A) (F0 m 34 ls []) := by
  obtain ⟨hx, hb, hml, hown, hts, hr, hlocks, hnm⟩ := id C
  have hb : c.code = cX9_numberHere := hb
  have hown : s.vm.findClass RX9 = some m.cls := hown
  intro n
  induction n with
  | zero => intro z_t x4 H locs ls h; rw [lX9_numberHere_34] at h; cases h
  | succ n ih =>
    intro z_t x4 H locs ls h hP hD hS hl
    rw [lX9_numberHere_34] at h
    refine lv_aload_n hx hb dX9_numberHere_34 rfl (lv_at hl 0 rfl) ?_
    refine lv_aload_n hx hb dX9_numberHere_35 rfl (lv_at hl 0 rfl) ?_
    refine va_get (D := D) (v := .int (gI z_t 12)) (C := RX9) (T := TX9) (N := 36) hx hb hts iX9 hown hK.1 hP 0 rfl rfl 12 (by decide) (hts _ t_894) (fun _ h9 => h9) rfl dX9_numberHere_36 ?_
    obtain ⟨r8, hc7, h⟩ := bd_some h
    refine cRi (runV (As := [.int (gI z_t 12)]) (rest := []) C (mX9_isDigit l D a (q_t := q_t) (Q_t := Q_t) hc7) lk_V_9_108 okN_X9_isDigit ⟨Nat.le_of_ble_eq_true rfl, Nat.le_of_ble_eq_true rfl⟩ ⟨rfl, rfl⟩ (preV (preR hK hP) (recvOf hK hP 0 rfl (ci := 9) rfl)) hl.1 rfl (Nat.le_of_ble_eq_true rfl) dX9_numberHere_39 ⟨Nat.le_of_ble_eq_true rfl, Nat.le_of_ble_eq_true rfl⟩) ?_
    refine lv_if_eq (tgt := 88) hx hb dX9_numberHere_42 (by decide) (fun c9 => ?_) (fun c9 => ?_)
    · have h := ite_t c9 h
      exact hk88 z_t x4 _ _ ls h hP hD hS (lv_sub hl [0, 1, 2, 3, 4] rfl)
    · have h := ite_f c9 h
      refine lv_aload_n hx hb dX9_numberHere_45 rfl (lv_at hl 0 rfl) ?_
      refine va_get (D := D) (v := .int (gI z_t 12)) (C := RX9) (T := TX9) (N := 36) hx hb hts iX9 hown hK.1 hP 0 rfl rfl 12 (by decide) (hts _ t_894) (fun _ h9 => h9) rfl dX9_numberHere_46 ?_
      refine lv_iload_n hx hb dX9_numberHere_49 rfl (lv_at hl 3 rfl) ?_
      refine lv_isub hx hb dX9_numberHere_50 ?_
      refine lv_iconst (v := 5) hx hb dX9_numberHere_51 (by decide) ?_
      obtain ⟨J10, eJ10, h⟩ := jn_some h
      have hJ10 : ∀ (i11 : Int32) (H : Heap) (locs : List Loc) (ls : Array Slot), J10 i11 = some y → va_P D classes (rc9 a q_t Q_t z_t) H → va_D A (rc9 a q_t Q_t z_t) → va_S A s.heap H locs → lv_has ls 5 [(0, .ref q_t), (1, .int x1), (2, .int x2), (3, .int x3), (4, .int i11)] → W p l e (rmM 1 0 0 25) s m #[.ref q_t, .int x10, .int x20] below meth c H locs 0 0 (MQ below (va_Qi (fun r (_ : Unit) => r = y.1) (Bw D A (fun _ => rc9 a q_t Q_t y.2)) A) #[.ref q_t, .int x10, .int x20] s 0 0 A) (F0 m 75 ls []) := by
        intro i11 H locs ls h hP hD hS hl
        rw [eJ10] at h
        refine lv_aload_n hx hb dX9_numberHere_75 rfl (lv_at hl 0 rfl) ?_
        refine lv_dup hx hb dX9_numberHere_76 rfl ?_
        refine va_get (D := D) (v := .int (gI z_t 12)) (C := RX9) (T := TX9) (N := 36) hx hb hts iX9 hown hK.1 hP 0 rfl rfl 12 (by decide) (hts _ t_894) (fun _ h9 => h9) rfl dX9_numberHere_77 ?_
        refine lv_iconst (v := 1) hx hb dX9_numberHere_80 (by decide) ?_
        refine lv_iadd hx hb dX9_numberHere_81 ?_
        refine va_put (D := D) (v := .int ((gI z_t 12) + 1)) (C := RX9) (T := TX9) (N := 36) hx hb hts iX9 tyX9 tyX9_ok nmX9 hown hK.1 hP hD hS 0 rfl rfl 12 (by decide) (hts _ t_894) (fun _ h9 => h9) rfl (tyX9_ok 12 (by decide)) rfl rfl (Nat.le_of_ble_eq_true rfl) dX9_numberHere_82 (fun H locs hP hD hS => ?_)
        rw [u9_12] at hP hD
        refine lv_goto (tgt := 34) hx hb dX9_numberHere_85 (by decide) ?_
        exact ih (sI z_t 12 ((gI z_t 12) + 1)) i11 _ _ ls h hP hD hS (lv_sub hl [0, 1, 2, 3, 4] rfl)
      refine lv_icmp_ge (tgt := 75) hx hb dX9_numberHere_52 (by decide) (fun c12 => ?_) (fun c12 => ?_)
      · have h := ite_t c12 h
        exact hJ10 x4 _ _ ls h hP hD hS (lv_sub hl [0, 1, 2, 3, 4] rfl)
      · have h := ite_f c12 h
        refine lv_bipush (v := 10) hx hb dX9_numberHere_55 (by decide) ?_
        refine lv_iload hx hb dX9_numberHere_57 (lv_at hl 4 rfl) ?_
        refine lv_imul hx hb dX9_numberHere_59 ?_
        refine lv_aload_n hx hb dX9_numberHere_60 rfl (lv_at hl 0 rfl) ?_
        refine va_get (D := D) (v := .ref (Q_t 0)) (C := RX9) (T := TX9) (N := 36) hx hb hts iX9 hown hK.1 hP 0 rfl rfl 0 (by decide) (hts _ t_882) (fun _ h9 => h9) rfl dX9_numberHere_61 ?_
        refine lv_aload_n hx hb dX9_numberHere_64 rfl (lv_at hl 0 rfl) ?_
        refine va_get (D := D) (v := .int (gI z_t 12)) (C := RX9) (T := TX9) (N := 36) hx hb hts iX9 hown hK.1 hP 0 rfl rfl 12 (by decide) (hts _ t_894) (fun _ h9 => h9) rfl dX9_numberHere_65 ?_
        obtain ⟨g13, h⟩ := gd_some h
        refine ald_b hx hb hK.1 hP 1 2 rfl rfl ((gI z_t 12).toNatClampNeg) (ix_g g13) dX9_numberHere_68 ?_
        refine lv_iadd hx hb dX9_numberHere_69 ?_
        refine lv_bipush (v := 48) hx hb dX9_numberHere_70 (by decide) ?_
        refine lv_isub hx hb dX9_numberHere_72 ?_
        refine lv_istore (lv' := [(4, .int (((10 * x4) + (gT z_t 0 ((gI z_t 12).toNatClampNeg))) - 48)), (0, .ref q_t), (1, .int x1), (2, .int x2), (3, .int x3)]) hx hb dX9_numberHere_73 hl (by decide) rfl (fun ls hl => ?_)
        exact hJ10 (((10 * x4) + (gT z_t 0 ((gI z_t 12).toNatClampNeg))) - 48) _ _ ls h hP hD hS (lv_sub hl [1, 2, 3, 4, 0] rfl)

set_option maxHeartbeats 4000000 in
set_option maxRecDepth 100000 in
theorem mX9_numberHere (l : Launch) (D : va_G) (a : Nat → ClassId) {q_t : Nat} {Q_t : Nat → Nat} {z_t : Sx} {x1 : Int32} {x2 : Int32} {y : Int32 × Sx} (h : fX9_numberHere z_t x1 x2 = some y) (sz : Nat) : CMi (S := Unit) l MX9_numberHere 1 25 0 0 D a [.ref q_t, .int x1, .int x2] (rc9 a q_t Q_t z_t) sz (fun r _ => r = y.1) (fun _ => rc9 a q_t Q_t y.2) := by
  unfold fX9_numberHere at h
  refine entMi (by decide) (Nat.le_of_ble_eq_true rfl) ?_
  intro p e s m below meth c C hK A hA hP hD ls hl
  obtain ⟨hx, hb, hml, hown, hts, hr, hlocks, hnm⟩ := id C
  have hb : c.code = cX9_numberHere := hb
  have hown : s.vm.findClass RX9 = some m.cls := hown
  have hS : va_S A s.heap s.heap [] := va_S.rf
  have hl : lv_has ls 5 [(0, .ref q_t), (1, .int x1), (2, .int x2)] := hl
  refine lv_aload_n hx hb dX9_numberHere_0 rfl (lv_at hl 0 rfl) ?_
  obtain ⟨r2, z3, hc1, h⟩ := bd2_some h
  refine cWi (runV (As := []) (rest := []) C (mX9_see l D a (q_t := q_t) (Q_t := Q_t) hc1 s.heap.size) lk_V_9_93 okN_X9_see ⟨Nat.le_of_ble_eq_true rfl, Nat.le_of_ble_eq_true rfl⟩ ⟨rfl, rfl⟩ (preV (preM hK hP hD) (recvOf hK hP 0 rfl (ci := 9) rfl)) hl.1 rfl (Nat.le_of_ble_eq_true rfl) dX9_numberHere_1 ⟨Nat.le_of_ble_eq_true rfl, Nat.le_of_ble_eq_true rfl⟩) hP hD hS hA (fun H locs hP hD hS => ?_)
  have hP : va_P D classes (rc9 a q_t Q_t z3) H := hP
  have hD : va_D A (rc9 a q_t Q_t z3) := hD
  refine lv_pop hx hb dX9_numberHere_4 rfl ?_
  refine lv_aload_n hx hb dX9_numberHere_5 rfl (lv_at hl 0 rfl) ?_
  refine lv_aload_n hx hb dX9_numberHere_6 rfl (lv_at hl 0 rfl) ?_
  refine va_get (D := D) (v := .int (gI z3 12)) (C := RX9) (T := TX9) (N := 36) hx hb hts iX9 hown hK.1 hP 0 rfl rfl 12 (by decide) (hts _ t_894) (fun _ h9 => h9) rfl dX9_numberHere_7 ?_
  obtain ⟨r5, hc4, h⟩ := bd_some h
  refine cRi (runV (As := [.int (gI z3 12)]) (rest := []) C (mX9_isDigit l D a (q_t := q_t) (Q_t := Q_t) hc4) lk_V_9_108 okN_X9_isDigit ⟨Nat.le_of_ble_eq_true rfl, Nat.le_of_ble_eq_true rfl⟩ ⟨rfl, rfl⟩ (preV (preR hK hP) (recvOf hK hP 0 rfl (ci := 9) rfl)) hl.1 rfl (Nat.le_of_ble_eq_true rfl) dX9_numberHere_10 ⟨Nat.le_of_ble_eq_true rfl, Nat.le_of_ble_eq_true rfl⟩) ?_
  refine lv_if_ne (tgt := 26) hx hb dX9_numberHere_13 (by decide) (fun c6 => ?_) (fun c6 => ?_)
  · have h := ite_f c6 h
    refine lv_aload_n hx hb dX9_numberHere_26 rfl (lv_at hl 0 rfl) ?_
    refine va_get (D := D) (v := .int (gI z3 12)) (C := RX9) (T := TX9) (N := 36) hx hb hts iX9 hown hK.1 hP 0 rfl rfl 12 (by decide) (hts _ t_894) (fun _ h9 => h9) rfl dX9_numberHere_27 ?_
    refine lv_istore_n (lv' := [(3, .int (gI z3 12)), (0, .ref q_t), (1, .int x1), (2, .int x2)]) hx hb dX9_numberHere_30 rfl hl (by decide) rfl (fun ls hl => ?_)
    refine lv_iconst (v := 0) hx hb dX9_numberHere_31 (by decide) ?_
    refine lv_istore (lv' := [(4, .int 0), (3, .int (gI z3 12)), (0, .ref q_t), (1, .int x1), (2, .int x2)]) hx hb dX9_numberHere_32 hl (by decide) rfl (fun ls hl => ?_)
    refine wX9_numberHere_34 C hK hA ?_ FU z3 0 _ _ ls h hP hD hS (lv_sub hl [2, 3, 4, 1, 0] rfl)
    · intro z14 i15 H locs ls h hP hD hS hl
      refine lv_aload_n hx hb dX9_numberHere_88 rfl (lv_at hl 0 rfl) ?_
      refine lv_iload hx hb dX9_numberHere_89 (lv_at hl 4 rfl) ?_
      refine va_put (D := D) (v := .int i15) (C := RX9) (T := TX9) (N := 36) hx hb hts iX9 tyX9 tyX9_ok nmX9 hown hK.1 hP hD hS 0 rfl rfl 14 (by decide) (hts _ t_896) (fun _ h9 => h9) rfl (tyX9_ok 14 (by decide)) rfl rfl (Nat.le_of_ble_eq_true rfl) dX9_numberHere_91 (fun H locs hP hD hS => ?_)
      rw [u9_14] at hP hD
      refine lv_aload_n hx hb dX9_numberHere_94 rfl (lv_at hl 0 rfl) ?_
      refine va_get (D := D) (v := .int (gI z14 12)) (C := RX9) (T := TX9) (N := 36) hx hb hts iX9 hown hK.1 hP 0 rfl rfl 12 (by decide) (hts _ t_894) (fun _ h9 => h9) rfl dX9_numberHere_95 ?_
      refine lv_iload_n hx hb dX9_numberHere_98 rfl (lv_at hl 3 rfl) ?_
      refine lv_isub hx hb dX9_numberHere_99 ?_
      refine lv_iconst (v := 5) hx hb dX9_numberHere_100 (by decide) ?_
      obtain ⟨J16, eJ16, h⟩ := jn_some h
      have hJ16 : ∀ (z17 : Sx) (H : Heap) (locs : List Loc) (ls : Array Slot), J16 z17 = some y → va_P D classes (rc9 a q_t Q_t z17) H → va_D A (rc9 a q_t Q_t z17) → va_S A s.heap H locs → lv_has ls 5 [] → W p l e (rmM 1 0 0 25) s m #[.ref q_t, .int x1, .int x2] below meth c H locs 0 0 (MQ below (va_Qi (fun r (_ : Unit) => r = y.1) (Bw D A (fun _ => rc9 a q_t Q_t y.2)) A) #[.ref q_t, .int x1, .int x2] s 0 0 A) (F0 m 126 ls []) := by
        intro z17 H locs ls h hP hD hS hl
        rw [eJ16] at h
        refine lv_iconst (v := 1) hx hb dX9_numberHere_126 (by decide) ?_
        refine lv_goto (tgt := 131) hx hb dX9_numberHere_127 (by decide) ?_
        exact rMz C rfl (Or.inr rfl) h (g := fun y => rc9 a q_t Q_t y.2) (pr := fun y => y.1) hP hD hS dX9_numberHere_131
      obtain ⟨J18, eJ18, h⟩ := jn_some h
      have hJ18 : ∀ (H : Heap) (locs : List Loc) (ls : Array Slot), J18 = some y → va_P D classes (rc9 a q_t Q_t (sI z14 14 i15)) H → va_D A (rc9 a q_t Q_t (sI z14 14 i15)) → va_S A s.heap H locs → lv_has ls 5 [(0, .ref q_t), (3, .int (gI z3 12))] → W p l e (rmM 1 0 0 25) s m #[.ref q_t, .int x1, .int x2] below meth c H locs 0 0 (MQ below (va_Qi (fun r (_ : Unit) => r = y.1) (Bw D A (fun _ => rc9 a q_t Q_t y.2)) A) #[.ref q_t, .int x1, .int x2] s 0 0 A) (F0 m 117 ls []) := by
        intro H locs ls h hP hD hS hl
        rw [eJ18] at h
        refine lv_aload_n hx hb dX9_numberHere_117 rfl (lv_at hl 0 rfl) ?_
        refine lv_iconst (v := 1) hx hb dX9_numberHere_118 (by decide) ?_
        refine lv_iload_n hx hb dX9_numberHere_119 rfl (lv_at hl 1 rfl) ?_
        obtain ⟨r20, z21, hc19, h⟩ := bd2_some h
        refine cWi (runV (As := [.int 1, .int (gI z3 12)]) (rest := []) C (mX9_fails l D a (q_t := q_t) (Q_t := Q_t) hc19 H.size) lk_V_9_111 okN_X9_fails ⟨Nat.le_of_ble_eq_true rfl, Nat.le_of_ble_eq_true rfl⟩ ⟨rfl, rfl⟩ (preV (preM hK hP hD) (recvOf hK hP 0 rfl (ci := 9) rfl)) hl.1 rfl (Nat.le_of_ble_eq_true rfl) dX9_numberHere_120 ⟨Nat.le_of_ble_eq_true rfl, Nat.le_of_ble_eq_true rfl⟩) hP hD hS hA (fun H locs hP hD hS => ?_)
        have hP : va_P D classes (rc9 a q_t Q_t z21) H := hP
        have hD : va_D A (rc9 a q_t Q_t z21) := hD
        refine lv_if_eq (tgt := 130) hx hb dX9_numberHere_123 (by decide) (fun c22 => ?_) (fun c22 => ?_)
        · have h := ite_t c22 h
          refine lv_iconst (v := 0) hx hb dX9_numberHere_130 (by decide) ?_
          exact rMz C rfl (Or.inl rfl) h (g := fun y => rc9 a q_t Q_t y.2) (pr := fun y => y.1) hP hD hS dX9_numberHere_131
        · have h := ite_f c22 h
          exact hJ16 z21 _ _ ls h hP hD hS (lv_sub hl [] rfl)
      refine lv_icmp_gt (tgt := 117) hx hb dX9_numberHere_101 (by decide) (fun c23 => ?_) (fun c23 => ?_)
      · have h := ite_t c23 h
        exact hJ18 _ _ ls h hP hD hS (lv_sub hl [0, 3] rfl)
      · have h := ite_f c23 h
        refine lv_iload hx hb dX9_numberHere_104 (lv_at hl 4 rfl) ?_
        refine lv_i2l (v := i15.toInt64) hx hb dX9_numberHere_106 rfl ?_
        refine lv_iload_n hx hb dX9_numberHere_107 rfl (lv_at hl 1 rfl) ?_
        refine lv_i2l (v := x1.toInt64) hx hb dX9_numberHere_108 rfl ?_
        refine lv_iload_n hx hb dX9_numberHere_109 rfl (lv_at hl 2 rfl) ?_
        refine lv_i2l (v := x2.toInt64) hx hb dX9_numberHere_110 rfl ?_
        obtain ⟨r25, hc24, h⟩ := bd_some h
        refine cRi (runS (As := [.long i15.toInt64, .long x1.toInt64, .long x2.toInt64]) (rest := []) C (mX9_in l D a hc24) lk_S_9_118 okN_X9_in ⟨Nat.le_of_ble_eq_true rfl, Nat.le_of_ble_eq_true rfl⟩ ⟨rfl, rfl⟩ (preR hK (P_of_map (wc := []) hP [] rfl)) hl.1 rfl (Nat.le_of_ble_eq_true rfl) dX9_numberHere_111 ⟨Nat.le_of_ble_eq_true rfl, Nat.le_of_ble_eq_true rfl⟩) ?_
        refine lv_if_ne (tgt := 126) hx hb dX9_numberHere_114 (by decide) (fun c26 => ?_) (fun c26 => ?_)
        · have h := ite_f c26 h
          exact hJ16 (sI z14 14 i15) _ _ ls h hP hD hS (lv_sub hl [] rfl)
        · have h := ite_t c26 h
          exact hJ18 _ _ ls h hP hD hS (lv_sub hl [0, 3] rfl)
  · have h := ite_t c6 h
    refine lv_aload_n hx hb dX9_numberHere_16 rfl (lv_at hl 0 rfl) ?_
    refine lv_iconst (v := 0) hx hb dX9_numberHere_17 (by decide) ?_
    refine lv_aload_n hx hb dX9_numberHere_18 rfl (lv_at hl 0 rfl) ?_
    refine va_get (D := D) (v := .int (gI z3 12)) (C := RX9) (T := TX9) (N := 36) hx hb hts iX9 hown hK.1 hP 0 rfl rfl 12 (by decide) (hts _ t_894) (fun _ h9 => h9) rfl dX9_numberHere_19 ?_
    obtain ⟨r28, z29, hc27, h⟩ := bd2_some h
    refine cWi (runV (As := [.int 0, .int (gI z3 12)]) (rest := []) C (mX9_fails l D a (q_t := q_t) (Q_t := Q_t) hc27 H.size) lk_V_9_111 okN_X9_fails ⟨Nat.le_of_ble_eq_true rfl, Nat.le_of_ble_eq_true rfl⟩ ⟨rfl, rfl⟩ (preV (preM hK hP hD) (recvOf hK hP 0 rfl (ci := 9) rfl)) hl.1 rfl (Nat.le_of_ble_eq_true rfl) dX9_numberHere_22 ⟨Nat.le_of_ble_eq_true rfl, Nat.le_of_ble_eq_true rfl⟩) hP hD hS hA (fun H locs hP hD hS => ?_)
    have hP : va_P D classes (rc9 a q_t Q_t z29) H := hP
    have hD : va_D A (rc9 a q_t Q_t z29) := hD
    obtain ⟨g30, h⟩ := gd_some h
    exact rMz C rfl (g30) h (g := fun y => rc9 a q_t Q_t y.2) (pr := fun y => y.1) hP hD hS dX9_numberHere_25

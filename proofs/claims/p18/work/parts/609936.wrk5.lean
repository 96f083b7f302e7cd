/-! A WORK, the ROW and the number of DAYS, as they stand on both sides. -/
def WKT (zw : Sx) (T : Nat → Int32) : Prop :=
  (gI zw 2 = T 1 ∧ 0 ≤ (T 1).toInt ∧ (T 1).toInt ≤ 6) ∧ (gI zw 3 = T 0 ∧ 0 ≤ (T 0).toInt ∧ (T 0).toInt ≤ 10) ∧ gI zw 1 = T 2 ∧
  (∀ k : Nat, (k : Int) < (T 1).toInt → gT zw 5 k = T (26 + 3 * k) ∧ gT zw 6 k = T (26 + 3 * k + 1) ∧ gT zw 7 k = T (26 + 3 * k + 2) ∧ (0 ≤ (gT zw 5 k).toInt ∧ (gT zw 5 k).toInt ≤ 99) ∧ (0 ≤ (gT zw 6 k).toInt ∧ (gT zw 6 k).toInt ≤ 99) ∧ (0 ≤ (gT zw 7 k).toInt ∧ (gT zw 7 k).toInt ≤ 99)) ∧
  ∀ g : Nat, (g : Int) < (T 0).toInt → gT zw 8 g = T (44 + 6 * g) ∧ gT zw 9 g = T (44 + 6 * g + 1) ∧ gT zw 10 g = T (44 + 6 * g + 2) ∧ gT zw 11 g = T (44 + 6 * g + 3) ∧ (0 ≤ (gT zw 8 g).toInt ∧ (gT zw 8 g).toInt < (T 1).toInt) ∧ (1 ≤ (gT zw 9 g).toInt ∧ (gT zw 9 g).toInt ≤ 99) ∧ (0 ≤ (gT zw 10 g).toInt ∧ (gT zw 10 g).toInt ≤ 100) ∧ (-1 ≤ (gT zw 11 g).toInt ∧ (gT zw 11 g).toInt < g) ∧ gT zw 12 g = gT zw 5 (gT zw 8 g).toNatClampNeg ∧ gT zw 13 g = gT zw 6 (gT zw 8 g).toNatClampNeg ∧ gT zw 14 g = gT zw 7 (gT zw 8 g).toNatClampNeg
def S5 (z5 : Sx) (T : Nat → Int32) : Prop := gI z5 4 = T 7 ∧ gI z5 6 = T 8 ∧ (0 ≤ (T 8).toInt ∧ (T 8).toInt ≤ 8) ∧ ∀ i : Nat, (i : Int) < (T 8).toInt → gT z5 5 i = T (10 + i)
section W5
variable {zw z4 z5 z6 z8 z9 zd w5 w7 z3 : Sx} {T T2 : Nat → Int32} {x1 x2 : Int32}
theorem wkt_eq (h : WKT zw T) (e : ∀ i : Nat, KI i → ¬ i = 7 → ¬ i = 8 → ¬ (10 ≤ i ∧ i < 18) → T2 i = T i) : WKT zw T2 := by
  obtain ⟨⟨a1, a2, a3⟩, ⟨b1, b2, b3⟩, c, hk, hf⟩ := h
  have e0 := e 0 (by unfold KI DY; omega) (by omega) (by omega) (by omega)
  have e1 := e 1 (by unfold KI DY; omega) (by omega) (by omega) (by omega)
  have e2 := e 2 (by unfold KI DY; omega) (by omega) (by omega) (by omega)
  unfold WKT
  rw [e0, e1, e2]
  refine ⟨⟨a1, a2, a3⟩, ⟨b1, b2, b3⟩, c, fun k q => ?_, fun g q => ?_⟩
  · rw [e (26 + 3 * k) (by unfold KI DY; omega) (by omega) (by omega) (by omega), e (26 + 3 * k + 1) (by unfold KI DY; omega) (by omega) (by omega) (by omega), e (26 + 3 * k + 2) (by unfold KI DY; omega) (by omega) (by omega) (by omega)]
    exact hk k q
  · rw [e (44 + 6 * g) (by unfold KI DY; omega) (by omega) (by omega) (by omega), e (44 + 6 * g + 1) (by unfold KI DY; omega) (by omega) (by omega) (by omega), e (44 + 6 * g + 2) (by unfold KI DY; omega) (by omega) (by omega) (by omega), e (44 + 6 * g + 3) (by unfold KI DY; omega) (by omega) (by omega) (by omega)]
    exact hf g q
theorem s5_eq (h : S5 z5 T) (e : ∀ i : Nat, KI i → T2 i = T i) : S5 z5 T2 := by
  obtain ⟨a, b, c, d⟩ := h
  unfold S5
  rw [e 7 (by unfold KI DY; omega), e 8 (by unfold KI DY; omega)]
  refine ⟨a, b, c, fun i hi => ?_⟩
  rw [e (10 + i) (by unfold KI DY; omega)]
  exact d i hi
theorem s5_fr {L : List Nat} (h : S5 z5 T) (hf : FrL L z5 w5) (hL : (L.contains 4 || L.contains 5 || L.contains 6) = false) : S5 w5 T := by
  simp only [Bool.or_eq_false_iff] at hL
  unfold S5
  rw [(hf 4 hL.1.1).1, (hf 6 hL.2).1, (hf 5 hL.1.2).2.1]
  exact h
theorem wkt_of {K F : Nat} (hw : WR w7 z3) (ht : WTB z3 K F T) (h8 : gI z3 8 = nI K) (hK : K ≤ 6) (h9 : gI z3 9 = nI F) (hF : F ≤ 10) : WKT w7 T := by
  obtain ⟨⟨w2, w8a, w8b⟩, ⟨w3, w9a, w9b⟩, wt, wk, wf⟩ := hw
  obtain ⟨t0, t1, t2, -, -, -, tk, tf⟩ := ht
  have k8 : (gI z3 8).toInt = K := by rw [h8, nI_toInt (by omega)]
  have k9 : (gI z3 9).toInt = F := by rw [h9, nI_toInt (by omega)]
  have z0 : (0 : Int32).toInt = 0 := by decide
  unfold WKT
  rw [t0, t1, t2]
  refine ⟨⟨w2, w8a, w8b⟩, ⟨w3, w9a, w9b⟩, ?_, fun k q => ?_, fun g q => ?_⟩
  · rcases wt with ⟨-, a, b⟩ | ⟨-, a, b, -⟩
    · rw [a, b]; rfl
    · rw [if_pos ((i32_le _ _).2 (by rw [z0]; omega)), a]
  · rw [Nat.add_assoc 26 (3 * k) 1, Nat.add_assoc 26 (3 * k) 2, tk (3 * k) (by omega), tk (3 * k + 1) (by omega), tk (3 * k + 2) (by omega)]
    exact wk k q
  · have := (tf g (by omega)).1
    have a0 := this 0 (by omega)
    rw [Nat.add_zero, Nat.add_zero] at a0
    rw [a0, this 1 (by omega), this 2 (by omega), this 3 (by omega)]
    exact wf g q
/-- a WORK that both took -/
theorem work_k_ok {y : Int32 × Sx × Sx × Sx × Sx × Sx} {y9 : Int32 × Sx} (h : JT z8 z9) (hR : RI z9) (hy : fX8_work_ok z8 z5 zd z4 z6 = some y) (hy9 : fX9_work z9 = some y9) : y.1 = y9.1 ∧ WKT y.2.2.2.2.2 (gT y9.2 24) ∧ S5 y.2.2.1 (gT y9.2 24) ∧ gT y9.2 34 = gT z9 34 ∧ gT y9.2 35 = gT z9 35 := by
  obtain ⟨N, t, hT, -⟩ := h
  obtain ⟨u6, w7, w6, w9, a1, a2, a3⟩ := work_whole (z6 := z6) (s := gI z8 4 + 1) hT
  have z0 : (0 : Int32).toInt = 0 := by decide
  have hq := t_readsW (z_t := sI (sI (sI (sI z9 15 6) 7 (-1)) 8 0) 9 0) rfl hR.1 z0 z0
  unfold fX8_work_ok at hy
  rw [bd_eq a1, bd2_eq a2] at hy
  rcases a3 with ⟨c1, c2, c3⟩ | ⟨c1, c2, c3⟩
  · rw [if_pos c1] at hy
    obtain ⟨q8, q9, eb, hy⟩ := bd2_some hy
    obtain rfl := Option.some.inj hy
    have r8 := c3.1
    have r9 := c3.2.1
    obtain ⟨K, hK⟩ : ∃ K : Nat, (gI w9 8).toInt = K := ⟨(gI w9 8).toInt.toNat, by omega⟩
    obtain ⟨F, hF⟩ : ∃ F : Nat, (gI w9 9).toInt = F := ⟨(gI w9 9).toInt.toNat, by omega⟩
    have h8 : gI w9 8 = nI K := Int32.toInt_inj.1 (by rw [hK, nI_toInt (by omega)])
    have h9 : gI w9 9 = nI F := Int32.toInt_inj.1 (by rw [hF, nI_toInt (by omega)])
    obtain ⟨v9, e1, e2, e3⟩ := work_T c2 h8 (by omega) h9 (by omega)
    rw [e1] at hy9
    obtain rfl := Option.some.inj hy9
    have hf := ok_get hq c2
    have t34 : gT v9 34 = gT z9 34 := (e2 34 (by decide)).2.1.trans (hf.1 34 (by decide)).2.1
    have t35 : gT v9 35 = gT z9 35 := (e2 35 (by decide)).2.1.trans (hf.1 35 (by decide)).2.1
    refine ⟨r9.1, wkt_of c3 e3 h8 (by omega) h9 (by omega), ?_, t34, t35⟩
    unfold fX5_beginWork at eb
    obtain ⟨b2, -, eb⟩ := bd_some eb
    have eb := Option.some.inj eb
    rw [Prod.mk.injEq] at eb
    obtain ⟨rfl, -⟩ := eb
    have s7 : gT v9 24 7 = 0 := e3.2.2.2.2.1 7 (by omega) (by omega)
    have s8 : gT v9 24 8 = 0 := e3.2.2.2.2.1 8 (by omega) (by omega)
    show S5 (sI (sI (sI (sI z5 2 0) 3 0) 4 0) 6 0) (gT v9 24)
    unfold S5
    rw [s7, s8, z0]
    exact ⟨rfl, rfl, by omega, fun i hi => by omega⟩
  · rw [if_neg c1] at hy; cases hy
theorem work_k_fail {y : Int32 × Sx × Sx × Sx × Sx} {y9 : Int32 × Sx} (h : JT z8 z9) (hR : RI z9) (hy : fX8_work_fail z8 z5 zd z4 z6 = some y) (hy9 : fX9_work z9 = some y9) : y.1 = y9.1 ∧ y.2.2.1 = z5 ∧ V9 z9 y9.2 := by
  obtain ⟨N, t, hT, -⟩ := h
  obtain ⟨u6, w7, w6, w9, a1, a2, a3⟩ := work_whole (z6 := z6) (s := gI z8 4 + 1) hT
  have z0 : (0 : Int32).toInt = 0 := by decide
  have hq := t_readsW (z_t := sI (sI (sI (sI z9 15 6) 7 (-1)) 8 0) 9 0) rfl hR.1 z0 z0
  unfold fX8_work_fail at hy
  rw [bd_eq a1, bd2_eq a2] at hy
  rcases a3 with ⟨c1, c2, c3⟩ | ⟨c1, c2, c3⟩
  · rw [if_pos c1] at hy; cases hy
  · rw [if_neg c1] at hy
    obtain rfl := Option.some.inj hy
    have hf := ok_get hq c2
    unfold fX9_work at hy9
    rw [bd2_eq c2, if_pos rfl] at hy9
    obtain rfl := Option.some.inj hy9
    have f3 : FrL [1, 4, 7, 8, 9, 10, 11, 12, 13, 14, 15, 16, 18] z9 w9 := fr_tr (fr_I (fr_I (fr_I (fr_I fr_rf (by decide)) (by decide)) (by decide)) (by decide)) hf.1 (by decide)
    refine ⟨?_, rfl, v9_fr f3 (by decide)⟩
    show -2 - gI w6 8 = -2 - gI w9 13
    rw [c3]
/-- KIND -/
theorem kind_k {y y9 : Int32} (hw : WKT zw (gT z9 24)) (hy : fX8_kind z8 z5 zw x1 x2 = some y) (hy9 : fX9_kind z9 x1 x2 = some y9) : y = y9 := by
  obtain ⟨⟨a1, a2, a3⟩, -, -, hk, -⟩ := hw
  have z0 : (0 : Int32).toInt = 0 := by decide
  have z1 : (1 : Int32).toInt = 1 := by decide
  have z2 : (2 : Int32).toInt = 2 := by decide
  have em : (gT z9 24 1 - 1).toInt = (gT z9 24 1).toInt - 1 := i32_sub rfl z1 (by omega) (by omega)
  have i1 : fX9_in x1.toInt64 0 ((gT z9 24 1 - 1).toInt64) = some (if x1 < 0 then 0 else if gT z9 24 1 - 1 < x1 then 0 else 1) := in32t (l := 0) (h := gT z9 24 1 - 1) (by decide) (Int32.toInt_toInt64 _)
  have i2 : fX9_in x2.toInt64 0 2 = some (if x2 < 0 then 0 else if 2 < x2 then 0 else 1) := in32t (l := 0) (h := 2) (by decide) (by decide)
  unfold fX8_kind at hy
  unfold fX9_kind at hy9
  rw [bd_eq i1] at hy9
  rw [a1] at hy
  by_cases c1 : x1 < 0
  · rw [if_pos c1] at hy
    rw [if_pos c1, if_pos rfl] at hy9
    exact (Option.some.inj hy).symm.trans (Option.some.inj hy9)
  rw [if_neg c1] at hy hy9
  have c1i := bI_nlt rfl z0 c1
  by_cases c2 : x1 < gT z9 24 1
  · have c2i := bI_lt rfl rfl c2
    rw [if_pos c2] at hy
    rw [if_neg (show ¬ gT z9 24 1 - 1 < x1 from fun k => by have := bI_lt em rfl k; omega), if_neg one0, bd_eq i2] at hy9
    obtain ⟨k, hk1⟩ : ∃ k : Nat, x1.toInt = k := ⟨x1.toInt.toNat, by omega⟩
    obtain ⟨b1, b2, b3, -⟩ := hk k (by omega)
    have e3 : (3 * x1).toInt = 3 * (k : Int) := by rw [i32_mul (show (3 : Int32).toInt = 3 by decide) hk1 (by omega) (by omega)]
    have e26 : (26 + 3 * x1).toInt = 26 + 3 * (k : Int) := i32_add (show (26 : Int32).toInt = 26 by decide) e3 (by omega) (by omega)
    have fin : ∀ (d : Nat) (v : Int32), d < 3 → x2.toInt = d → v = gT z9 24 (26 + 3 * k + d) → some v = some y → y = y9 := by
      intro d v hd hx hv ev
      have e : (26 + 3 * x1 + x2).toInt = 26 + 3 * (k : Int) + d := i32_add e26 hx (by omega) (by omega)
      rw [if_neg (show ¬ x2 < 0 from fun q => by have := bI_lt hx z0 q; omega), if_neg (show ¬ 2 < x2 from fun q => by have := bI_lt z2 hx q; omega), if_neg one0, gd_pos (inb_of (by omega) (by omega)), n_cl (show (26 + 3 * x1 + x2).toInt = ((26 + 3 * k + d : Nat) : Int) by rw [e]; omega)] at hy9
      rw [← Option.some.inj ev, hv]
      exact Option.some.inj hy9
    by_cases d0 : x2 = 0
    · rw [if_pos d0, bd_eq (at_k hk1 (by omega) (by decide))] at hy
      exact fin 0 _ (by omega) (by rw [d0]; exact z0) b1 hy
    rw [if_neg d0] at hy
    by_cases d1 : x2 = 1
    · rw [if_pos d1, bd_eq (at_k hk1 (by omega) (by decide))] at hy
      exact fin 1 _ (by omega) (by rw [d1]; exact z1) b2 hy
    rw [if_neg d1] at hy
    by_cases d2 : x2 = 2
    · rw [if_pos d2, bd_eq (at_k hk1 (by omega) (by decide))] at hy
      exact fin 2 _ (by omega) (by rw [d2]; exact z2) b3 hy
    rw [if_neg d2] at hy
    have n0 := bI_neq rfl z0 d0
    have n1 := bI_neq rfl z1 d1
    have n2 := bI_neq rfl z2 d2
    have hr : (if x2 < 0 then (0 : Int32) else if 2 < x2 then 0 else 1) = 0 := by
      by_cases q : x2 < 0
      · rw [if_pos q]
      · have := bI_nlt rfl z0 q
        rw [if_neg q, if_pos ((i32_lt _ _).2 (by rw [z2]; omega))]
    rw [hr, if_pos rfl] at hy9
    exact (Option.some.inj hy).symm.trans (Option.some.inj hy9)
  · have c2i := bI_nlt rfl rfl c2
    rw [if_neg c2] at hy
    rw [if_pos (show gT z9 24 1 - 1 < x1 from (i32_lt _ _).2 (by rw [em]; omega)), if_pos rfl] at hy9
    exact (Option.some.inj hy).symm.trans (Option.some.inj hy9)
/-- ROW -/
theorem row_k {y y9 : Int32 × Sx} (hw : WKT zw (gT z9 24)) (hs : S5 z5 (gT z9 24)) (hy : fX8_row z8 z5 zw x1 = some y) (hy9 : fX9_row z9 x1 = some y9) : y.1 = y9.1 ∧ S5 y.2 (gT y9.2 24) ∧ FrL [24] z9 y9.2 ∧ ∀ i : Nat, ¬ i = 8 → ¬ (10 ≤ i ∧ i < 18) → gT y9.2 24 i = gT z9 24 i := by
  obtain ⟨s1, s2, s3, s4⟩ := id hs
  have z0 : (0 : Int32).toInt = 0 := by decide
  have z8i : (8 : Int32).toInt = 8 := by decide
  unfold fX8_row fX8_isFault at hy
  unfold fX9_row fX9_isFault at hy9
  rw [hw.2.1.1] at hy
  by_cases c1 : x1 = -1
  · rw [if_pos c1] at hy hy9
    obtain rfl := Option.some.inj hy
    obtain rfl := Option.some.inj hy9
    refine ⟨rfl, ⟨s1, rfl, ?_, fun i hi => ?_⟩, fr_T fr_rf (by decide), fun i h8 _ => if_neg h8⟩
    · show 0 ≤ (0 : Int32).toInt ∧ (0 : Int32).toInt ≤ 8
      omega
    · have hi : (i : Int) < (0 : Int32).toInt := hi
      omega
  rw [if_neg c1] at hy hy9
  have out : ∀ {u : Int32 × Sx} {u9 : Int32 × Sx}, u = (-2, z5) → u9 = (-2, z9) → u.1 = u9.1 ∧ S5 u.2 (gT u9.2 24) ∧ FrL [24] z9 u9.2 ∧ ∀ i : Nat, ¬ i = 8 → ¬ (10 ≤ i ∧ i < 18) → gT u9.2 24 i = gT z9 24 i := by
    intro u u9 e e9
    rw [e, e9]
    exact ⟨rfl, hs, fr_rf, fun _ _ _ => rfl⟩
  by_cases c2 : x1 < 0
  · rw [if_pos c2, bd_eq rfl, if_pos rfl] at hy hy9
    exact out (Option.some.inj hy).symm (Option.some.inj hy9).symm
  rw [if_neg c2] at hy hy9
  by_cases c3 : gT z9 24 0 ≤ x1
  · rw [if_pos c3, bd_eq rfl, if_pos rfl] at hy hy9
    exact out (Option.some.inj hy).symm (Option.some.inj hy9).symm
  rw [if_neg c3, bd_eq rfl, if_neg one0] at hy hy9
  rw [s2] at hy
  by_cases c4 : gT z9 24 8 = 8
  · rw [if_neg (show ¬ gT z9 24 8 < 8 by rw [c4]; decide)] at hy
    rw [if_pos c4] at hy9
    exact out (Option.some.inj hy).symm (Option.some.inj hy9).symm
  have c4i := bI_neq rfl z8i c4
  obtain ⟨n, hn⟩ : ∃ n : Nat, (gT z9 24 8).toInt = n := ⟨(gT z9 24 8).toInt.toNat, by omega⟩
  have e10 : (10 + gT z9 24 8).toInt = 10 + (n : Int) := i32_add (show (10 : Int32).toInt = 10 by decide) hn (by omega) (by omega)
  have n10 : (10 + gT z9 24 8).toNatClampNeg = 10 + n := n_cl (by rw [e10]; omega)
  rw [if_pos (show gT z9 24 8 < 8 from (i32_lt _ _).2 (by rw [z8i]; omega)), bd_eq (put_k hn (by omega) (by decide))] at hy
  rw [if_neg c4, gd_pos (inb_of (by omega) (by omega)), n10] at hy9
  have t8 : gT (sT z9 24 (10 + n) x1) 24 8 = gT z9 24 8 := if_neg (by omega)
  simp only [nm, t8] at hy9
  obtain rfl := Option.some.inj hy
  obtain rfl := Option.some.inj hy9
  have e8 : gT (sT (sT z9 24 (10 + n) x1) 24 8 (gT z9 24 8 + 1)) 24 8 = gT z9 24 8 + 1 := t24_eq
  have ep : (gT z9 24 8 + 1).toInt = (n : Int) + 1 := i32_add hn (show (1 : Int32).toInt = 1 by decide) (by omega) (by omega)
  have eo : ∀ i : Nat, ¬ i = 8 → gT (sT (sT z9 24 (10 + n) x1) 24 8 (gT z9 24 8 + 1)) 24 i = upd (gT z9 24) (10 + n) x1 i := fun i hi => if_neg hi
  refine ⟨e8.symm, ?_, fr_T (fr_T fr_rf (by decide)) (by decide), fun i h8 h10 => (eo i h8).trans (if_neg (by omega))⟩
  show S5 (sI (sTf z5 5 (upd (gT z5 5) n x1)) 6 (gT z9 24 8 + 1)) (gT (sT (sT z9 24 (10 + n) x1) 24 8 (gT z9 24 8 + 1)) 24)
  refine ⟨s1.trans (show gT z9 24 7 = _ from ((eo 7 (by omega)).trans (if_neg (by omega))).symm), e8.symm, by rw [e8]; omega, fun i hi => ?_⟩
  rw [e8, ep] at hi
  rw [eo (10 + i) (by omega)]
  show upd (gT z5 5) n x1 i = upd (gT z9 24) (10 + n) x1 (10 + i)
  by_cases d : i = n
  · rw [d, show upd (gT z5 5) n x1 n = x1 from if_pos rfl, show upd (gT z9 24) (10 + n) x1 (10 + n) = x1 from if_pos rfl]
  · rw [show upd (gT z5 5) n x1 i = gT z5 5 i from if_neg d, show upd (gT z9 24) (10 + n) x1 (10 + i) = gT z9 24 (10 + i) from if_neg (by omega)]
    exact s4 i (by omega)
/-- DAWN -/
theorem dawn_k {y : Int32 × Sx × Sx} {y9 : Int32 × Sx} (hw : WKT zw (gT z9 24)) (hs : S5 z5 (gT z9 24)) (hR : RI z9) (hy : fX8_dawn z8 z5 zw zd = some y) (hy9 : fX9_dawn z9 = some y9) : S5 y.2.1 (gT y9.2 24) ∧ (∀ i : Nat, KI i → ¬ i = 7 → gT y9.2 24 i = gT z9 24 i) ∧ gT y9.2 34 = gT z9 34 ∧ gT y9.2 35 = gT z9 35 := by
  have q9 := ok_get (dawn9 hR) hy9
  have z0 : (0 : Int32).toInt = 0 := by decide
  unfold fX8_dawn fX8_hasWork at hy
  rw [hw.2.1.1] at hy
  rcases q9 with ⟨c, e⟩ | ⟨c, e1, e2, e3, e4⟩
  · rw [if_pos ((i32_le _ _).2 (by rw [z0]; exact c)), bd_eq rfl, if_pos rfl] at hy
    obtain rfl := Option.some.inj hy
    rw [e]
    exact ⟨hs, fun _ _ _ => rfl, rfl, rfl⟩
  · rw [if_neg (fun k => by have := bI_le rfl z0 k; omega), bd_eq rfl, if_neg one0] at hy
    obtain ⟨r5, -, hy⟩ := bd_some hy
    obtain ⟨r7, -, hy⟩ := bd_some hy
    obtain ⟨r9, -, hy⟩ := bd_some hy
    obtain rfl := Option.some.inj hy
    refine ⟨?_, e1, e3, e4⟩
    obtain ⟨s1, s2, s3, s4⟩ := hs
    have t8 : gT y9.2 24 8 = gT z9 24 8 := e1 8 (by unfold KI DY; omega) (by omega)
    show S5 (sI (sI (sI z5 2 ((gI z5 2) + r7)) 3 ((gI z5 3) + (gI zd 1))) 4 ((gI z5 4) + 1)) (gT y9.2 24)
    unfold S5
    rw [t8, e2]
    refine ⟨show gI z5 4 + 1 = _ by rw [s1], s2, s3, fun i hi => ?_⟩
    rw [e1 (10 + i) (by unfold KI DY; omega) (by omega)]
    exact s4 i hi
theorem copy5 {z_t z_t_1 z_p1 z_p1_1 : Sx} : okP (fX5_copyFrom z_t z_t_1 z_p1 z_p1_1) (fun y => ∀ T, S5 z_p1 T → S5 y.1 T) := by
  unfold fX5_copyFrom
  refine ok_bd t_fX0_copyFrom (fun z2 _ => ok_some (fun T h => ?_))
  obtain ⟨a, b, c, d⟩ := h
  refine ⟨a, b, c, fun i hi => ?_⟩
  exact ((pk_cpy_in (Nat.zero_le i) (by omega)).trans (by rw [Nat.sub_zero, Nat.zero_add])).trans (d i hi)
theorem copy4 {z_t z_t_1 z_p1 z_p1_1 : Sx} : okP (fX5_copyFrom z_t z_t_1 z_p1 z_p1_1) (fun y => gI y.1 4 = gI z_p1 4) := by
  unfold fX5_copyFrom
  exact ok_bd t_fX0_copyFrom (fun z2 _ => ok_some rfl)
end W5

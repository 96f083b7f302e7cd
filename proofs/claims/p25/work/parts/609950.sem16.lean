/-! WEEKS, on both sides. -/
section S16
variable {zw zd z5 z8 z9 zt : Sx} {x1 x2 x3 : Int32} {nR k F : Nat} {zR : Sx}
theorem begins_k (hw : WKT zw (gT z9 24)) (hd : DR zd (gT z9 24)) : ∃ yd v, fX0_begin zd (gI zw 1) = some yd ∧ fX9_begins z9 = some v ∧ FrL [24] z9 v ∧ DR yd (gT v 24) ∧ ∀ i : Nat, ¬ DZ i → gT v 24 i = gT z9 24 i := by
  obtain ⟨F, d0, dF, d1, d2, d3, d4, d5, d6, d7, d8⟩ := id hd
  obtain ⟨yd, g1, g2, g3, g4, g5, g6, g7⟩ := begin_class (zd := zd) (v := gI zw 1)
  obtain ⟨y4, hy4⟩ : ∃ y4, y4 = sT (sT z9 24 3 (gT z9 24 2)) 24 4 0 := ⟨_, rfl⟩
  have t4 : ∀ i : Nat, gT y4 24 i = if i = 4 then 0 else if i = 3 then gT z9 24 2 else gT z9 24 i := fun i => by rw [hy4]; rfl
  have u0 : gT y4 24 0 = nI F := by rw [t4, if_neg (by omega), if_neg (by omega)]; exact d0
  have f4 : FrL [24] z9 y4 := by rw [hy4]; exact fr_T (fr_T fr_rf (by decide)) (by decide)
  obtain ⟨v, e, f, h1, h2⟩ := beg_run dF FU 0 y4 u0 (by omega) (FU_lt (by omega))
  have eb : fX9_begins z9 = some v := by
    unfold fX9_begins
    rw [← hy4]
    exact e
  have lo : ∀ i : Nat, i < 44 → gT v 24 i = gT y4 24 i := fun i hi => h2 i (by omega)
  have vs : ∀ j : Nat, j < F → gT v 24 (44 + 6 * j + 4) = (if gT z9 24 (44 + 6 * j + 4) = 1 then 0 else gT z9 24 (44 + 6 * j + 4)) := fun j hj => by
    have := (h1 j (by omega) hj).1
    have e4 : gT y4 24 (44 + 6 * j + 4) = gT z9 24 (44 + 6 * j + 4) := by rw [t4, if_neg (by omega), if_neg (by omega)]
    rw [e4] at this
    exact this
  have vb : bmf (gT v 24) 1 F = 0 := Nat.eq_of_testBit_eq (fun j => by
    rw [bm_bit, Nat.zero_testBit]
    refine decide_eq_false (fun q => ?_)
    have := q.2
    rw [vs j q.1] at this
    by_cases r : gT z9 24 (44 + 6 * j + 4) = 1
    · rw [if_pos r] at this; revert this; decide
    · rw [if_neg r] at this; exact r this)
  have vc : bmf (gT v 24) 2 F = bmf (gT z9 24) 2 F := bm_cg F (fun j hj => by
    rw [vs j hj]
    by_cases r : gT z9 24 (44 + 6 * j + 4) = 1
    · rw [if_pos r, r]; exact ⟨fun q => by revert q; decide, fun q => by revert q; decide⟩
    · rw [if_neg r])
  refine ⟨yd, v, g1, eb, fr_tr f4 f (by decide), ⟨F, ?_, dF, ?_, ?_, ?_, ?_, ?_, ?_, fun j hj => ?_, fun j hj => ?_⟩, fun i hi => ?_⟩
  · rw [lo 0 (by omega)]; exact u0
  · rw [lo 3 (by omega), t4, if_neg (by omega), if_pos rfl, ← hw.2.2.1]; exact g2
  · rw [lo 4 (by omega), t4, if_pos rfl]; exact g3
  · rw [vb]; exact g4
  · rw [vc]; exact g5.trans d4
  · rw [lo 9 (by omega), t4, if_neg (by omega), if_neg (by omega)]; exact g6.trans d5
  · rw [lo 9 (by omega), t4, if_neg (by omega), if_neg (by omega)]; exact d6
  · rw [vs j hj]
    by_cases r : gT z9 24 (44 + 6 * j + 4) = 1
    · rw [if_pos r]; exact Or.inl rfl
    · rw [if_neg r]; exact d7 j hj
  · rw [(h1 j (by omega) hj).2]; exact g7 j (by omega)
  · rw [h2 i (by
      by_cases q : i < 44
      · exact Or.inl (by omega)
      · exact Or.inr (fun k => hi (by unfold DZ; omega))), t4, if_neg (fun k => hi (by unfold DZ; omega)), if_neg (fun k => hi (by unfold DZ; omega))]
theorem week_run {B : Nat → Option Nat} {zd0 : Sx} {K : Sx → Int32 → Option (Int32 × Sx)} {w : Nat} (hw20 : w ≤ 20) (hx2 : x2 = nI w) (dF : F ≤ 10) : ∀ (q x n m : Nat) (zt z2 y9 : Sx) (a : Int32), 6 * w - x = q → x ≤ 6 * w → q < n → q < m → RREL nR zR y9 k → WKT zw (gT y9 24) → DR zt (gT y9 24) → gT y9 24 0 = nI F → ∃ r v1 v2 w9, lX8_weeks_some_54 z8 B z5 zw zd0 nR zR x2 x3 n zt z2 a (nI x) = some (r, v1, v2) ∧ lX9_weeks_51 K (nI k) x2 x3 m y9 a (nI x) = K w9 r := by
  have e6 : (nI w * 6 : Int32) = nI (6 * w) := Int32.toInt_inj.1 (by rw [i32_mul (nI_toInt (n := w) (by omega)) (show (6 : Int32).toInt = 6 by decide) (by omega) (by omega), nI_toInt (by omega)]; omega)
  have e6' : (6 * nI w : Int32) = nI (6 * w) := Int32.toInt_inj.1 (by rw [i32_mul (show (6 : Int32).toInt = 6 by decide) (nI_toInt (n := w) (by omega)) (by omega) (by omega), nI_toInt (by omega)]; omega)
  intro q
  induction q with
  | zero =>
    intro x n m zt z2 y9 a hq hx hn hm hR hw hd d0
    obtain ⟨n, rfl⟩ : ∃ j, n = j + 1 := ⟨n - 1, by omega⟩
    obtain ⟨m, rfl⟩ : ∃ j, m = j + 1 := ⟨m - 1, by omega⟩
    refine ⟨a, zt, z2, y9, ?_, ?_⟩
    · rw [lX8_weeks_some_54, hx2, e6, if_pos (nI_le (by omega) (by omega))]
    · rw [lX9_weeks_51, hx2, e6', if_pos (nI_le (by omega) (by omega))]
  | succ q ih =>
    intro x n m zt z2 y9 a hq hx hn hm hR hw hd d0
    obtain ⟨n, rfl⟩ : ∃ j, n = j + 1 := ⟨n - 1, by omega⟩
    obtain ⟨m, rfl⟩ : ∃ j, m = j + 1 := ⟨m - 1, by omega⟩
    obtain ⟨yd, v, b1, b2, b3, b4, b5⟩ := begins_k hw hd
    have hwv : WKT zw (gT v 24) := wkt_eq hw (fun i hi _ _ _ => b5 i (fun u => hi.2.1 (by unfold DZ at u; unfold DY; omega)))
    have d0v : gT v 24 0 = nI F := by rw [b5 0 (by unfold DZ; omega)]; exact d0
    obtain ⟨r, w2, wd, w9, p1, p2, p3, p4, p5, -⟩ := play_k (zw := zw) (zR := zR) (nR := nR) (k := k) dF 200 0 FU FU z2 yd v (by omega) (by omega) (FU_lt (by omega)) (FU_lt (by omega)) (rrel_fr hR b3 (by decide)) hwv b4 d0v
    have e1 : fX2_play z2 zw nR zR yd = some (r, w2, wd) := p1
    have e2 : fX9_passes v (nI k) = some (r, w9) := p2
    have d0w : gT w9 24 0 = nI F := by rw [p5 0 (by unfold DZ; omega)]; exact d0v
    have hww : WKT zw (gT w9 24) := wkt_eq hwv (fun i hi _ _ _ => p5 i (fun u => hi.2.1 (by unfold DZ at u; unfold DY; omega)))
    have hRw : RREL nR zR w9 k := rrel_fr (rrel_fr hR b3 (by decide)) p4 (by decide)
    obtain ⟨F2, c0, cF, c1, c2, c3, c4, c5, c6, c7, c8⟩ := id p3
    have eF : F2 = F := (nI_eq (by omega) (by omega)).1 (c0.symm.trans d0w)
    subst eF
    have nxt : ∀ t : Int32, ∃ r v1 v2 u9, lX8_weeks_some_54 z8 B z5 zw zd0 nR zR x2 x3 n wd w2 (a + t) (nI (x + 1)) = some (r, v1, v2) ∧ lX9_weeks_51 K (nI k) x2 x3 m w9 (a + t) (nI (x + 1)) = K u9 r := fun t => ih (x + 1) n m wd w2 w9 (a + t) (by omega) (by omega) (by omega) (by omega) hRw hww p3 d0w
    have eA : lX8_weeks_some_54 z8 B z5 zw zd0 nR zR x2 x3 (n + 1) zt z2 a (nI x) = (if x3 = 0 then lX8_weeks_some_54 z8 B z5 zw zd0 nR zR x2 x3 n wd w2 (a + gI wd 1) (nI (x + 1)) else if x3 = 1 then bd (fJ6_bitCount_0f7a4 (gI wd 2)) (fun r26 => lX8_weeks_some_54 z8 B z5 zw zd0 nR zR x2 x3 n wd w2 (a + r26) (nI (x + 1))) else bd (fX0_gone wd) (fun r22 => bd (fX7_hiddenCoins zw r22) (fun r24 => lX8_weeks_some_54 z8 B z5 zw zd0 nR zR x2 x3 n wd w2 (a + r24) (nI (x + 1))))) := by
      rw [lX8_weeks_some_54, show (x2 * 6 : Int32) = nI (6 * w) by rw [hx2]; exact e6, if_neg (nI_ge (by omega) (by omega)), bd_eq b1, e1, nI_1]
      rfl
    have eB : lX9_weeks_51 K (nI k) x2 x3 (m + 1) y9 a (nI x) = (if x3 = 0 then lX9_weeks_51 K (nI k) x2 x3 m w9 (a + gT w9 24 4) (nI (x + 1)) else if x3 = 1 then bd (fX9_thatAre w9 1) (fun r29 => bd (fX9_bits r29) (fun r31 => lX9_weeks_51 K (nI k) x2 x3 m w9 (a + r31) (nI (x + 1)))) else bd (fX9_hidden w9) (fun r27 => lX9_weeks_51 K (nI k) x2 x3 m w9 (a + r27) (nI (x + 1)))) := by
      rw [lX9_weeks_51, show (6 * x2 : Int32) = nI (6 * w) by rw [hx2]; exact e6', if_neg (nI_ge (by omega) (by omega)), bd_eq b2, bd2_eq e2, nI_1]
      rfl
    rw [eA, eB]
    by_cases k0 : x3 = 0
    · rw [if_pos k0, if_pos k0, c2]
      exact nxt _
    rw [if_neg k0, if_neg k0]
    by_cases k1 : x3 = 1
    · obtain ⟨t, t1, t2⟩ := cnt_both (bm_1024 (T := gT w9 24) (s := 1) dF)
      rw [if_pos k1, if_pos k1, c3, bd_eq t1, bd_eq (that_eq d0w dF), bd_eq t2]
      exact nxt _
    · have eg : fX0_gone wd = some (nI (bmf (gT w9 24) 1 F2 ||| bmf (gT w9 24) 2 F2)) := by unfold fX0_gone; rw [c3, c4, or_n]
      have ec : fX7_hiddenCoins zw (nI (bmf (gT w9 24) 1 F2 ||| bmf (gT w9 24) 2 F2)) = some (hsum (gT w9 24) zw F2) := by
        unfold fX7_hiddenCoins fX7_together
        rw [bd_eq (hidc_eq hww d0w dF c7)]
      have er : fX9_hidden w9 = some (hsum (gT w9 24) zw F2) := hid_ref hww d0w dF FU 0 (by omega) (FU_lt (by omega))
      rw [if_neg k1, if_neg k1, bd_eq eg, bd_eq ec, bd_eq er]
      exact nxt _
theorem weeks_k {B : Nat → Option Nat} {z2 : Sx} {y : Int32 × Sx × Sx} {y9 : Int32 × Sx} {qR : Nat} (hj : JT z8 z9) (hw : WKT zw (gT z9 24)) (hd : DR zd (gT z9 24)) (hI : RI z9) (hr : fX8_ruleForWork z8 B z5 zw x1 = some (some qR)) (hR : ∀ k : Nat, x1 = nI k → k < 6 → B k = some qR → RREL nR zR z9 k) (hy : fX8_weeks_some z8 B z5 zw zd zt z2 nR zR x1 x2 x3 = some y) (hy9 : fX9_weeks z9 x1 x2 x3 = some y9) : y.1 = y9.1 := by
  obtain ⟨F, d0, dF, -⟩ := id hd
  obtain ⟨N, t, hT, ht, j3, j2⟩ := hj
  have i0 : (0 : Int32).toInt = 0 := by decide
  have i1 : (1 : Int32).toInt = 1 := by decide
  have i2 : (2 : Int32).toInt = 2 := by decide
  have i20 : (20 : Int32).toInt = 20 := by decide
  have i6 : (6 : Int32).toInt = 6 := by decide
  have hr2 := hr
  unfold fX8_ruleForWork at hr2
  simp only [jn] at hr2
  by_cases c1 : x1 < 0
  · rw [if_pos c1, if_pos trivial] at hr2; cases hr2
  rw [if_neg c1] at hr2
  by_cases c2 : gI z8 3 ≤ x1
  · rw [if_pos c2, if_pos trivial] at hr2; cases hr2
  rw [if_neg c2] at hr2
  by_cases c3 : 6 ≤ x1
  · rw [if_pos c3, if_pos trivial] at hr2; cases hr2
  rw [if_neg c3] at hr2
  have a1 := bI_nlt rfl i0 c1
  have a3 := bI_nle i6 rfl c3
  obtain ⟨k, hk⟩ : ∃ k : Nat, x1.toInt = k := ⟨x1.toInt.toNat, by omega⟩
  have ex : x1 = nI k := Int32.toInt_inj.1 (by rw [hk, nI_toInt (by omega)])
  unfold fX8_hasWork at hr2
  by_cases c4 : gI zw 3 ≤ 0
  · rw [if_pos c4, bd_eq rfl, if_pos rfl, if_pos trivial] at hr2; cases hr2
  rw [if_neg c4, bd_eq rfl, if_neg one0, if_neg one0] at hr2
  have hB : B k = some qR := by
    have := (gd_some hr2).2
    rw [ex, nI_clamp (by omega)] at this
    exact Option.some.inj this
  have hRk := hR k ex (by omega) hB
  have b1 : fX9_in x2.toInt64 1 20 = some (if x2 < 1 then 0 else if 20 < x2 then 0 else 1) := in32t (l := 1) (h := 20) (by decide) (by decide)
  have b2 : fX9_in x3.toInt64 0 2 = some (if x3 < 0 then 0 else if 2 < x3 then 0 else 1) := in32t (l := 0) (h := 2) (by decide) (by decide)
  unfold fX8_weeks_some at hy
  rw [bd_eq hr] at hy
  unfold fX9_weeks fX9_isWork fX9_isRule at hy9
  rw [hw.2.1.1] at c4
  rw [j3] at c2
  rw [if_neg c4, bd_eq rfl, if_neg one0, if_neg c1, j2, if_neg c2, bd_eq rfl, if_neg one0, bd_eq b1] at hy9
  have fin : ∀ {u v : Sx}, some ((-1 : Int32), u, v) = some y → some ((-1 : Int32), z9) = some y9 → y.1 = y9.1 := fun a b => by rw [← Option.some.inj a, ← Option.some.inj b]
  by_cases e1 : x2 < 1
  · rw [if_pos e1] at hy
    rw [if_pos e1, if_pos rfl] at hy9
    exact fin hy hy9
  rw [if_neg e1] at hy hy9
  by_cases e2 : 20 < x2
  · rw [if_pos e2] at hy
    rw [if_pos e2, if_pos rfl] at hy9
    exact fin hy hy9
  rw [if_neg e2] at hy
  rw [if_neg e2, if_neg one0, bd_eq b2] at hy9
  by_cases e3 : x3 < 0
  · rw [if_pos e3] at hy
    rw [if_pos e3, if_pos rfl] at hy9
    exact fin hy hy9
  rw [if_neg e3] at hy hy9
  by_cases e4 : x3 ≤ 2
  · rw [if_pos e4] at hy
    rw [if_neg (show ¬ 2 < x3 from fun q => by have a := bI_lt i2 rfl q; have b := bI_le rfl i2 e4; omega), if_neg one0] at hy9
    have f1 := bI_nlt rfl i1 e1
    have f2 := bI_nlt i20 rfl e2
    obtain ⟨w, hw2⟩ : ∃ w : Nat, x2.toInt = w := ⟨x2.toInt.toNat, by omega⟩
    have ex2 : x2 = nI w := Int32.toInt_inj.1 (by rw [hw2, nI_toInt (by omega)])
    obtain ⟨z14, g1, g2⟩ := t_fX9_keeps (z_t := z9) hI.2.1
    have g24 : gT z14 24 = gT z9 24 := (g2.1 24 (by decide)).2.1
    rw [bd_eq g1, ex] at hy9
    have hdc : ∃ zc, fX0_copyFrom zt zd = some zc ∧ DR zc (gT z14 24) := by
      refine ⟨_, rfl, ?_⟩
      rw [g24]
      obtain ⟨F', d0', dF', d1', d2', d3', d4', d5', d6', d7', d8'⟩ := id hd
      refine ⟨F', d0', dF', d1', d2', d3', d4', d5', d6', d7', fun g hg => ?_⟩
      exact ((pk_cpy_in (Nat.zero_le g) (by omega)).trans (by rw [Nat.sub_zero, Nat.zero_add])).trans (d8' g hg)
    obtain ⟨zc, h1, h2⟩ := hdc
    rw [bd_eq h1] at hy
    obtain ⟨r, v1, v2, w9, m1, m2⟩ := week_run (B := B) (zd0 := zd) (z8 := z8) (z5 := z5) (K := fun (z32 : Sx) (i33 : Int32) => bd (fX9_putsBack z32) (fun z35 => some (i33, z35))) (zw := zw) (zR := zR) (nR := nR) (k := k) (x3 := x3) (show w ≤ 20 by omega) ex2 dF (6 * w) 0 FU FU zc z2 z14 0 (by omega) (by omega) (FU_lt (by omega)) (FU_lt (by omega)) (rrel_fr hRk g2.1 (by decide)) (by rw [g24]; exact hw) h2 (by rw [g24]; exact d0)
    have hy := m1.symm.trans hy
    have hy9 := m2.symm.trans hy9
    obtain ⟨z35, -, hy9⟩ := bd_some hy9
    obtain rfl := Option.some.inj hy
    obtain rfl := Option.some.inj hy9
    rfl
  · rw [if_neg e4] at hy
    rw [if_pos (show 2 < x3 from (i32_lt _ _).2 (by have := bI_nle rfl i2 e4; rw [i2]; omega)), if_pos rfl] at hy9
    exact fin hy hy9
theorem weeks_n {B : Nat → Option Nat} {y : Int32} {y9 : Int32 × Sx} (hj : JT z8 z9) (hw : WKT zw (gT z9 24)) (hr : fX8_ruleForWork z8 B z5 zw x1 = some none) (hB : ∀ k : Nat, k < 6 → nI k < gI z9 2 → B k = none → False) (hy : fX8_weeks_none z8 B z5 zw x1 x2 x3 = some y) (hy9 : fX9_weeks z9 x1 x2 x3 = some y9) : y = y9.1 := by
  obtain ⟨N, t, hT, ht, j3, j2⟩ := hj
  have i0 : (0 : Int32).toInt = 0 := by decide
  have i6 : (6 : Int32).toInt = 6 := by decide
  unfold fX8_weeks_none at hy
  rw [bd_eq hr] at hy
  have ey : y = -1 := (Option.some.inj hy).symm
  have fin : some ((-1 : Int32), z9) = some y9 → y = y9.1 := fun h => by rw [← Option.some.inj h, ey]
  unfold fX9_weeks fX9_isWork fX9_isRule at hy9
  by_cases c4 : gT z9 24 0 ≤ 0
  · rw [if_pos c4, bd_eq rfl, if_pos rfl] at hy9
    exact fin hy9
  rw [if_neg c4, bd_eq rfl, if_neg one0] at hy9
  by_cases c1 : x1 < 0
  · rw [if_pos c1, bd_eq rfl, if_pos rfl] at hy9
    exact fin hy9
  rw [if_neg c1] at hy9
  by_cases c2 : gI z9 2 ≤ x1
  · rw [if_pos c2, bd_eq rfl, if_pos rfl] at hy9
    exact fin hy9
  exfalso
  have a1 := bI_nlt rfl i0 c1
  have a2 := bI_nle rfl rfl c2
  have e2i : (gI z9 2).toInt = t := by rw [j2, nI_toInt (by omega)]
  obtain ⟨k, hk⟩ : ∃ k : Nat, x1.toInt = k := ⟨x1.toInt.toNat, by omega⟩
  have ex : x1 = nI k := Int32.toInt_inj.1 (by rw [hk, nI_toInt (by omega)])
  unfold fX8_ruleForWork fX8_hasWork at hr
  simp only [jn] at hr
  rw [if_neg c1, j3, ← j2, if_neg c2, if_neg (fun q => by have := bI_le i6 rfl q; omega), hw.2.1.1, if_neg c4, bd_eq rfl, if_neg one0, if_neg one0] at hr
  have := Option.some.inj (gd_some hr).2
  rw [ex, nI_clamp (by omega)] at this
  exact hB k (by omega) (by rw [← ex]; exact (i32_lt _ _).2 (by omega)) this
end S16

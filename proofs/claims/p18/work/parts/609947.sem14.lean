/-! A DAY by a RULE: play against passes. -/
section S14
variable {zw zR : Sx} {nR k F : Nat}
def KN (x1 : Int32) : Sx → Int32 → Option (Int32 × Sx) := fun (z21 : Sx) (i22 : Int32) => jn (fun (z24 : Sx) => some ((-1), z24)) (fun J23 => if i22 < 0 then J23 z21 else bd2 (fX9_stops z21 x1 i22) (fun r27 z28 => if r27 = 0 then some (i22, z28) else J23 z28))
/-- one LOOK of a DAY, or its end -/
theorem turn_k {zd y9 z2 : Sx} (hR : RREL nR zR y9 k) (hw : WKT zw (gT y9 24)) (hd : DR zd (gT y9 24)) (d0 : gT y9 24 0 = nI F) (dF : F ≤ 10) : ∃ r w2, fX2_nextFault z2 zw nR zR zd = some (r, w2) ∧ ((r = -1 ∧ ∃ w9, fX9_nextFor y9 (nI k) = some (-1, w9) ∧ FrL [21, 22, 23] y9 w9) ∨ ∃ (g : Nat) (s : Int32) (x2 w9 : Sx), g < F ∧ r = nI g ∧ gT y9 24 (44 + 6 * g + 4) = 0 ∧ (gT y9 24 (44 + 6 * g + 1)).toInt ≤ (gT y9 24 3).toInt ∧ (s = 0 ∨ s = 1) ∧ fX2_stopsAt w2 zw nR zR zd (nI g) = some (s, x2) ∧ fX9_nextFor y9 (nI k) = some (if s = 0 then nI g else -1, w9) ∧ FrL [21, 22, 23] y9 w9) := by
  obtain ⟨r, w2, w9, e1, e2, e3, e4⟩ := next_k (K := KN (nI k)) hR hw hd d0 dF F 0 FU FU z2 y9 (-1) 0 (by omega) (by omega) (FU_lt (by omega)) (FU_lt (by omega)) fr_rf (Or.inl rfl)
  have eN : fX9_nextFor y9 (nI k) = KN (nI k) w9 r := e2
  refine ⟨r, w2, e1, ?_⟩
  rcases e4 with rfl | ⟨g, hg, rfl, ho, hl⟩
  · left
    refine ⟨rfl, w9, ?_, e3⟩
    rw [eN]
    unfold KN
    simp only [jn]
    rw [if_pos (by decide)]
  · right
    have t24 : gT w9 24 = gT y9 24 := (e3 24 (by decide)).2.1
    obtain ⟨v, yw, f1, f2, f3, f4⟩ := words_k (z9 := w9) (zw := zw) (zd := zd) (g := g) (by rw [t24]; exact hw) (by rw [t24]; exact hd) (by rw [t24]; exact d0) dF hg
    have hRw : RREL nR zR yw k := rrel_fr (rrel_fr hR e3 (by decide)) f2 (by decide)
    obtain ⟨hk, hnR, hcm, C, hC, c1, c2, hcl⟩ := id hRw
    obtain ⟨s, x2, x9, s1, s2, s3, s4⟩ := stops_k (z9 := yw) hRw f4 c1 hC C 0 FU FU w2 yw (by omega) (by omega) (FU_lt (by omega)) (FU_lt (by omega)) fr_rf f3
    have eS : fX9_stops w9 (nI k) (nI g) = some (s, x9) := by unfold fX9_stops; rw [bd_eq f1]; exact s3
    refine ⟨g, s, x2, x9, hg, rfl, ho, hl, s1, s2, ?_, fr_tr (fr_tr e3 f2 (by decide)) s4 (by decide)⟩
    rw [eN]
    unfold KN
    simp only [jn]
    rw [if_neg (nI_pos (by omega)), bd2_eq eS]
    rcases s1 with rfl | rfl
    · rw [if_pos rfl, if_pos rfl]
    · rw [if_neg one0, if_neg one0]
theorem play_k (dF : F ≤ 10) : ∀ (q x n m : Nat) (z2 zd y9 : Sx), 200 - x = q → x ≤ 200 → q < n → q < m → RREL nR zR y9 k → WKT zw (gT y9 24) → DR zd (gT y9 24) → gT y9 24 0 = nI F → ∃ r w2 wd w9, lX2_play_3 zw nR zR n z2 zd (nI x) = some (r, w2, wd) ∧ lX9_passes_2 (nI k) m y9 (nI x) = some (r, w9) ∧ DR wd (gT w9 24) ∧ FrL [21, 22, 23, 24] y9 w9 ∧ (∀ i : Nat, ¬ DZ i → gT w9 24 i = gT y9 24 i) ∧ (0 ≤ (gT y9 24 3).toInt → 0 ≤ (gT w9 24 3).toInt ∧ (gT w9 24 3).toInt ≤ (gT y9 24 3).toInt) := by
  intro q
  induction q with
  | zero =>
    intro x n m z2 zd y9 hq hx hn hm hR hw hd d0
    obtain ⟨n, rfl⟩ : ∃ j, n = j + 1 := ⟨n - 1, by omega⟩
    obtain ⟨m, rfl⟩ : ∃ j, m = j + 1 := ⟨m - 1, by omega⟩
    obtain rfl : x = 200 := by omega
    refine ⟨200, z2, zd, y9, ?_, ?_, hd, fr_rf, fun _ _ => rfl, fun h => ⟨h, Int.le_refl _⟩⟩
    · rw [lX2_play_3, if_pos (show (200 : Int32) ≤ nI 200 by decide)]
    · rw [lX9_passes_2, if_pos (show (200 : Int32) ≤ nI 200 by decide)]
      rfl
  | succ q ih =>
    intro x n m z2 zd y9 hq hx hn hm hR hw hd d0
    obtain ⟨n, rfl⟩ : ∃ j, n = j + 1 := ⟨n - 1, by omega⟩
    obtain ⟨m, rfl⟩ : ∃ j, m = j + 1 := ⟨m - 1, by omega⟩
    have nx2 : ¬ (200 : Int32) ≤ nI x := nI_ge (b := 200) (by omega) (by decide)
    obtain ⟨r, w2, e1, h⟩ := turn_k (z2 := z2) hR hw hd d0 dF
    rw [lX2_play_3, if_neg nx2, bd2_eq e1, lX9_passes_2, if_neg nx2]
    rcases h with ⟨rfl, w9, f1, f2⟩ | ⟨g, s, x2, w9, hg, rfl, ho, hl, hs, f1, f2, f3⟩
    · rw [if_pos (by decide), bd2_eq f1, if_neg (by decide)]
      exact ⟨nI x, w2, zd, w9, rfl, rfl, by rw [(f2 24 (by decide)).2.1]; exact hd, fr_tr fr_rf f2 (by decide), fun i _ => by rw [(f2 24 (by decide)).2.1], fun h => by rw [(f2 24 (by decide)).2.1]; exact ⟨h, Int.le_refl _⟩⟩
    · rw [if_neg (nI_pos (by omega)), bd2_eq f1, bd2_eq f2]
      have t24 : gT w9 24 = gT y9 24 := (f3 24 (by decide)).2.1
      rcases hs with rfl | rfl
      · rw [if_pos rfl, if_pos rfl, if_pos (nI_ge0 (by omega))]
        obtain ⟨F2, d0', dF', d1, d2, d3, d4, d5, d6, d7, d8⟩ := id hd
        have hFi : (gT y9 24 0).toInt = F := by rw [d0, nI_toInt (by omega)]
        obtain ⟨b1, b2, b3, b4, b5, b6, -⟩ := hw.2.2.2.2 g (by omega)
        obtain ⟨j, hji⟩ : ∃ j : Nat, (gT zw 8 g).toInt = j := ⟨(gT zw 8 g).toInt.toNat, by omega⟩
        have hj1 := hw.1.2.2
        have hj : gT y9 24 (44 + 6 * g) = nI j := by rw [← b1]; exact Int32.toInt_inj.1 (by rw [hji, nI_toInt (by omega)])
        obtain ⟨y, l1, l2, l3⟩ := looks_eq (z9 := w9) (g := g) (k := j) (by omega) (by rw [t24]; exact hj) (by omega) (by rw [t24]; exact d6)
        rw [t24] at l1 l3
        obtain ⟨yd, m1, m2⟩ := lookfor_k (T2 := gT y 24) hw d0 dF hg hji hd ho l3
        rw [bd2_eq m1, bd2_eq l1, nI_1]
        have un : ∀ i : Nat, ¬ DZ i → gT y 24 i = gT y9 24 i := fun i hi => by
          rw [l3]
          exact lkt_eq (fun u => hi (by unfold DZ; omega)) (fun u => hi (by unfold DZ; omega)) (fun u => hi (by unfold DZ; omega)) (fun u => hi (by unfold DZ; omega)) (fun u => hi (by unfold DZ; omega))
        have fy : FrL [21, 22, 23, 24] y9 y := fr_tr (fr_tr fr_rf f3 (by decide)) l2 (by decide)
        have e3 : gT y 24 3 = gT y9 24 3 - gT y9 24 (44 + 6 * g + 1) := by
          rw [l3]
          unfold LKT
          rw [if_neg (fun u => absurd u.2 (by omega)), if_neg (fun u => absurd u.2 (by omega)), if_neg (by omega), if_pos rfl]
        obtain ⟨r2, v2, vd, v9, p1, p2, p3, p4, p5, p6⟩ := ih (x + 1) n m x2 yd y (by omega) (by omega) (by omega) (by omega) (rrel_fr hR fy (by decide)) (wkt_eq hw (fun i hi _ _ _ => un i (fun k => hi.2.1 (by unfold DZ at k; unfold DY; omega)))) m2 (by rw [un 0 (by unfold DZ; omega)]; exact d0)
        exact ⟨r2, v2, vd, v9, p1, p2, p3, fr_tr fy p4 (by decide), fun i hi => (p5 i hi).trans (un i hi), fun h => by
          rw [b2] at b6
          have e4 : (gT y 24 3).toInt = (gT y9 24 3).toInt - (gT y9 24 (44 + 6 * g + 1)).toInt := by
            have rg := n_rng (gT y9 24 3)
            rw [e3]; exact i32_sub rfl rfl (by omega) (by omega)
          have := p6 (by omega)
          omega⟩
      · rw [if_neg one0, if_neg one0, if_neg (by decide)]
        exact ⟨nI x, x2, zd, w9, rfl, rfl, by rw [t24]; exact hd, fr_tr fr_rf f3 (by decide), fun i _ => by rw [t24], fun h => by rw [t24]; exact ⟨h, Int.le_refl _⟩⟩
variable {z5 z8 z9 zd zt : Sx} {x1 : Int32}
theorem day_k {B : Nat → Option Nat} {z2 : Sx} {y : Int32 × Sx × Sx} {y9 : Int32 × Sx} {qR : Nat} (hj : JT z8 z9) (hw : WKT zw (gT z9 24)) (hd : DR zd (gT z9 24)) (hr : fX8_ruleForWork z8 B z5 zw x1 = some (some qR)) (hR : ∀ k : Nat, x1 = nI k → k < 6 → B k = some qR → RREL nR zR z9 k) (hy : fX8_day_some z8 B z5 zw zd z2 nR zR x1 = some y) (hy9 : fX9_day z9 x1 = some y9) : y.1 = y9.1 ∧ DR y.2.1 (gT y9.2 24) ∧ (∀ i : Nat, ¬ DZ i → gT y9.2 24 i = gT z9 24 i) ∧ (0 ≤ (gT z9 24 3).toInt → 0 ≤ (gT y9.2 24 3).toInt ∧ (gT y9.2 24 3).toInt ≤ (gT z9 24 3).toInt) := by
  obtain ⟨F, d0, dF, d1, d2, -⟩ := id hd
  obtain ⟨N, t, hT, ht, j3, j2⟩ := hj
  have i0 : (0 : Int32).toInt = 0 := by decide
  have i6 : (6 : Int32).toInt = 6 := by decide
  have hr2 := hr
  unfold fX8_ruleForWork at hr2
  simp only [jn] at hr2
  by_cases c1 : x1 < 0
  · rw [if_pos c1, if_pos trivial] at hr2; cases hr2
  rw [if_neg c1] at hr2
  by_cases c2 : gI z8 3 ≤ x1
  · rw [if_pos c2, if_pos trivial] at hr2; cases hr2
  rw [if_neg c2] at hr2
  by_cases c3 : 6 ≤ x1
  · rw [if_pos c3, if_pos trivial] at hr2; cases hr2
  rw [if_neg c3] at hr2
  have a1 := bI_nlt rfl i0 c1
  have a3 := bI_nle i6 rfl c3
  obtain ⟨k, hk⟩ : ∃ k : Nat, x1.toInt = k := ⟨x1.toInt.toNat, by omega⟩
  have ex : x1 = nI k := Int32.toInt_inj.1 (by rw [hk, nI_toInt (by omega)])
  unfold fX8_hasWork at hr2
  by_cases c4 : gI zw 3 ≤ 0
  · rw [if_pos c4, bd_eq rfl, if_pos rfl, if_pos trivial] at hr2; cases hr2
  rw [if_neg c4, bd_eq rfl, if_neg one0, if_neg one0] at hr2
  have hB : B k = some qR := by
    have := (gd_some hr2).2
    rw [ex, nI_clamp (by omega)] at this
    exact Option.some.inj this
  have hRk := hR k ex (by omega) hB
  unfold fX8_day_some at hy
  rw [bd_eq hr] at hy
  unfold fX9_day fX9_isWork fX9_isRule at hy9
  simp only [jn] at hy9
  rw [hw.2.1.1] at c4
  rw [j3] at c2
  rw [if_neg c4, bd_eq rfl, if_neg one0, if_neg c1, j2, if_neg c2, bd_eq rfl, if_neg one0, ex] at hy9
  obtain ⟨r, w2, wd, w9, p1, p2, p3, p4, p5, p6⟩ := play_k (zw := zw) (zR := zR) (nR := nR) (k := k) dF 200 0 FU FU z2 zd z9 (by omega) (by omega) (FU_lt (by omega)) (FU_lt (by omega)) hRk hw hd d0
  have e1 : fX2_play z2 zw nR zR zd = some (r, w2, wd) := p1
  have e2 : fX9_passes z9 (nI k) = some (r, w9) := p2
  rw [e1] at hy
  have hy : some (gI wd 1 - gI zd 1, wd, w2) = some y := hy
  rw [bd2_eq e2] at hy9
  obtain rfl := Option.some.inj hy
  obtain rfl := Option.some.inj hy9
  obtain ⟨F2, -, -, -, e4, -⟩ := id p3
  refine ⟨?_, p3, p5, p6⟩
  show gI wd 1 - gI zd 1 = gT w9 24 4 - gT z9 24 4
  rw [e4, d2]
theorem day_n {B : Nat → Option Nat} {y : Int32} {y9 : Int32 × Sx} (hj : JT z8 z9) (hw : WKT zw (gT z9 24)) (hr : fX8_ruleForWork z8 B z5 zw x1 = some none) (hB : ∀ k : Nat, k < 6 → nI k < gI z9 2 → B k = none → False) (hy : fX8_day_none z8 B z5 zw x1 = some y) (hy9 : fX9_day z9 x1 = some y9) : y = y9.1 ∧ y9.2 = z9 := by
  obtain ⟨N, t, hT, ht, j3, j2⟩ := hj
  have i0 : (0 : Int32).toInt = 0 := by decide
  have i6 : (6 : Int32).toInt = 6 := by decide
  unfold fX8_day_none at hy
  rw [bd_eq hr] at hy
  have ey : y = -1000000 := (Option.some.inj hy).symm
  have fin : some ((-1000000 : Int32), z9) = some y9 → y = y9.1 ∧ y9.2 = z9 := fun h => by
    have := Option.some.inj h
    rw [← this, ey]
    exact ⟨rfl, rfl⟩
  unfold fX9_day fX9_isWork fX9_isRule at hy9
  simp only [jn] at hy9
  by_cases c4 : gT z9 24 0 ≤ 0
  · rw [if_pos c4, bd_eq rfl, if_pos rfl] at hy9
    exact fin hy9
  rw [if_neg c4, bd_eq rfl, if_neg one0] at hy9
  by_cases c1 : x1 < 0
  · rw [if_pos c1, bd_eq rfl, if_pos rfl] at hy9
    exact fin hy9
  rw [if_neg c1] at hy9
  by_cases c2 : gI z9 2 ≤ x1
  · rw [if_pos c2, bd_eq rfl, if_pos rfl] at hy9
    exact fin hy9
  exfalso
  have a1 := bI_nlt rfl i0 c1
  have a2 := bI_nle rfl rfl c2
  have e2i : (gI z9 2).toInt = t := by rw [j2, nI_toInt (by omega)]
  obtain ⟨k, hk⟩ : ∃ k : Nat, x1.toInt = k := ⟨x1.toInt.toNat, by omega⟩
  have ex : x1 = nI k := Int32.toInt_inj.1 (by rw [hk, nI_toInt (by omega)])
  unfold fX8_ruleForWork fX8_hasWork at hr
  simp only [jn] at hr
  rw [if_neg c1, j3, ← j2, if_neg c2, if_neg (fun q => by have := bI_le i6 rfl q; omega), hw.2.1.1, if_neg c4, bd_eq rfl, if_neg one0, if_neg one0] at hr
  have := Option.some.inj (gd_some hr).2
  rw [ex, nI_clamp (by omega)] at this
  exact hB k (by omega) (by rw [← ex]; exact (i32_lt _ _).2 (by omega)) this
end S14

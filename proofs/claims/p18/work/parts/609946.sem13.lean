/-! A DAY by a RULE, on both sides. -/
section S13
variable {zw zd zR z9 z : Sx} {nR k F : Nat}
theorem words_k {g : Nat} (hw : WKT zw (gT z9 24)) (hd : DR zd (gT z9 24)) (d0 : gT z9 24 0 = nI F) (dF : F ≤ 10) (hg : g < F) : ∃ (v : Nat → Int64) (y : Sx), fX9_words z9 (nI g) = some y ∧ FrL [23] z9 y ∧ (∀ w : Nat, w < 9 → gJ y 23 w = v w) ∧ ∀ w : Nat, w < 9 → fX2_wordOf zw zd (nI (312 + w)) (nI g) = some (v w) := by
  obtain ⟨F2, d0', dF', d1, d2, d3, d4, d5, d6, d7, d8⟩ := hd
  have eF : F2 = F := (nI_eq (by omega) (by omega)).1 (d0'.symm.trans d0)
  subst eF
  have hFi : (gT z9 24 0).toInt = F2 := by rw [d0, nI_toInt (by omega)]
  obtain ⟨b1, b2, b3, b4, b5, b6, b7, b8, b9, b10, b11⟩ := hw.2.2.2.2 g (by omega)
  obtain ⟨j, hji⟩ : ∃ j : Nat, (gT zw 8 g).toInt = j := ⟨(gT zw 8 g).toInt.toNat, by omega⟩
  have hj1 := hw.1.2.2
  have hj : gT z9 24 (44 + 6 * g) = nI j := by rw [← b1]; exact Int32.toInt_inj.1 (by rw [hji, nI_toInt (by omega)])
  have epay : gT zw 12 g = gT z9 24 (26 + 3 * j) := by rw [b9, n_cl hji]; exact (hw.2.2.2.1 j (by omega)).1
  obtain ⟨r, r1, r2⟩ := cnt_both (bm_1024 (T := gT z9 24) (s := 1) dF)
  have egi : (nI g).toInt = g := nI_toInt (by omega)
  obtain ⟨y0, hy0⟩ : ∃ y0, y0 = sJ z9 23 0 (nI g).toInt64 := ⟨_, rfl⟩
  obtain ⟨y1, hy1⟩ : ∃ y1, y1 = sJ y0 23 1 (gT z9 24 (44 + 6 * g)).toInt64 := ⟨_, rfl⟩
  obtain ⟨y2, hy2⟩ : ∃ y2, y2 = sJ y1 23 2 (gT z9 24 (26 + 3 * j)).toInt64 := ⟨_, rfl⟩
  obtain ⟨y3, hy3⟩ : ∃ y3, y3 = sJ y2 23 3 (gT z9 24 (44 + 6 * g + 2)).toInt64 := ⟨_, rfl⟩
  obtain ⟨y4, hy4⟩ : ∃ y4, y4 = sJ y3 23 4 (gT z9 24 (44 + 6 * g + 1)).toInt64 := ⟨_, rfl⟩
  obtain ⟨y5, hy5⟩ : ∃ y5, y5 = sJ y4 23 5 (gT z9 24 3).toInt64 := ⟨_, rfl⟩
  obtain ⟨y6, hy6⟩ : ∃ y6, y6 = sJ y5 23 6 r.toInt64 := ⟨_, rfl⟩
  obtain ⟨y7, hy7⟩ : ∃ y7, y7 = sJ y6 23 7 (gT z9 24 (44 + 6 * g + 5)).toInt64 := ⟨_, rfl⟩
  obtain ⟨y8, hy8⟩ : ∃ y8, y8 = sJ y7 23 8 (gT z9 24 4).toInt64 := ⟨_, rfl⟩
  have t0 : gT y0 24 = gT z9 24 := by rw [hy0]; rfl
  have t1 : gT y1 24 = gT z9 24 := by rw [hy1]; exact t0
  have t2 : gT y2 24 = gT z9 24 := by rw [hy2]; exact t1
  have t3 : gT y3 24 = gT z9 24 := by rw [hy3]; exact t2
  have t4 : gT y4 24 = gT z9 24 := by rw [hy4]; exact t3
  have t5 : gT y5 24 = gT z9 24 := by rw [hy5]; exact t4
  have t6 : gT y6 24 = gT z9 24 := by rw [hy6]; exact t5
  have t7 : gT y7 24 = gT z9 24 := by rw [hy7]; exact t6
  have g0 : fX9_faultOf y0 (nI g) 0 = some (gT z9 24 (44 + 6 * g)) := by rw [← t0]; exact fo_eq (j := 0) (by omega) (by omega)
  have g1 : fX9_kindOf y1 (nI g) 0 = some (gT z9 24 (26 + 3 * j)) := by rw [← t1]; exact ko_eq (z9 := y1) (j := 0) (by omega) (by rw [t1]; exact hj) (by omega) (by omega)
  have g2 : fX9_faultOf y2 (nI g) 2 = some (gT z9 24 (44 + 6 * g + 2)) := by rw [← t2]; exact fo_eq (j := 2) (by omega) (by omega)
  have g3 : fX9_faultOf y3 (nI g) 1 = some (gT z9 24 (44 + 6 * g + 1)) := by rw [← t3]; exact fo_eq (j := 1) (by omega) (by omega)
  have g5 : fX9_thatAre y5 1 = some (nI (bmf (gT z9 24) 1 F2)) := by rw [← t5]; exact that_eq (by rw [t5]; exact d0) dF
  have g6 : fX9_faultOf y6 (nI g) 5 = some (gT z9 24 (44 + 6 * g + 5)) := by rw [← t6]; exact fo_eq (j := 5) (by omega) (by omega)
  have ew : fX9_words z9 (nI g) = some y8 := by
    unfold fX9_words
    rw [← hy0, bd_eq g0, ← hy1, bd_eq g1, ← hy2, bd_eq g2, ← hy3, bd_eq g3, ← hy4]
    show bd (fX9_thatAre (sJ y4 23 5 ((gT y4 24 3).toInt64)) 1) _ = _
    rw [t4, ← hy5, bd_eq g5, bd_eq r2, ← hy6, bd_eq g6, ← hy7]
    show some (sJ y7 23 8 ((gT y7 24 4).toInt64)) = _
    rw [t7, ← hy8]
  have hJ : ∀ w : Nat, gJ y8 23 w = if w = 8 then (gT z9 24 4).toInt64 else if w = 7 then (gT z9 24 (44 + 6 * g + 5)).toInt64 else if w = 6 then r.toInt64 else if w = 5 then (gT z9 24 3).toInt64 else if w = 4 then (gT z9 24 (44 + 6 * g + 1)).toInt64 else if w = 3 then (gT z9 24 (44 + 6 * g + 2)).toInt64 else if w = 2 then (gT z9 24 (26 + 3 * j)).toInt64 else if w = 1 then (gT z9 24 (44 + 6 * g)).toInt64 else if w = 0 then (nI g).toInt64 else gJ z9 23 w := fun w => by
    rw [hy8, hy7, hy6, hy5, hy4, hy3, hy2, hy1, hy0]
    rfl
  refine ⟨gJ y8 23, y8, ew, ?_, fun _ _ => rfl, fun w hw9 => ?_⟩
  · rw [hy8, hy7, hy6, hy5, hy4, hy3, hy2, hy1, hy0]
    exact fr_J (fr_J (fr_J (fr_J (fr_J (fr_J (fr_J (fr_J (fr_J fr_rf (by decide)) (by decide)) (by decide)) (by decide)) (by decide)) (by decide)) (by decide)) (by decide)) (by decide)
  · rw [hJ]
    rcases (show w = 0 ∨ w = 1 ∨ w = 2 ∨ w = 3 ∨ w = 4 ∨ w = 5 ∨ w = 6 ∨ w = 7 ∨ w = 8 by omega) with rfl | rfl | rfl | rfl | rfl | rfl | rfl | rfl | rfl
    · rfl
    · show bd (fX8_at 10 (gT zw 8) (nI g)) (fun r3 => some r3.toInt64) = some (gT z9 24 (44 + 6 * g)).toInt64
      rw [bd_eq (at_k egi (by omega) (by decide)), b1]
    · show bd (fX8_at 10 (gT zw 12) (nI g)) (fun r3 => some r3.toInt64) = some (gT z9 24 (26 + 3 * j)).toInt64
      rw [bd_eq (at_k egi (by omega) (by decide)), epay]
    · show bd (fX8_at 10 (gT zw 10) (nI g)) (fun r3 => some r3.toInt64) = some (gT z9 24 (44 + 6 * g + 2)).toInt64
      rw [bd_eq (at_k egi (by omega) (by decide)), b3]
    · show bd (fX8_at 10 (gT zw 9) (nI g)) (fun r3 => some r3.toInt64) = some (gT z9 24 (44 + 6 * g + 1)).toInt64
      rw [bd_eq (at_k egi (by omega) (by decide)), b2]
    · show some (gI zd 0).toInt64 = some (gT z9 24 3).toInt64
      rw [d1]
    · show bd (fJ6_bitCount_0f7a4 (gI zd 2)) (fun r11 => some r11.toInt64) = some r.toInt64
      rw [d3, bd_eq r1]
    · show bd (fX8_at 10 (gT zd 5) (nI g)) (fun r3 => some r3.toInt64) = some (gT z9 24 (44 + 6 * g + 5)).toInt64
      rw [bd_eq (at_k egi (by omega) (by decide)), d8 g hg]
    · show some (gI zd 1).toInt64 = some (gT z9 24 4).toInt64
      rw [d2]
/-- the fault that is looked for next -/
def NXT (T : Nat → Int32) (F : Nat) (r : Int32) : Prop := r = -1 ∨ ∃ g : Nat, g < F ∧ r = nI g ∧ T (44 + 6 * g + 4) = 0 ∧ (T (44 + 6 * g + 1)).toInt ≤ (T 3).toInt
theorem next_k {K : Sx → Int32 → Option (Int32 × Sx)} (hR : RREL nR zR z9 k) (hw : WKT zw (gT z9 24)) (hd : DR zd (gT z9 24)) (d0 : gT z9 24 0 = nI F) (dF : F ≤ 10) : ∀ (q g n m : Nat) (z2 y9 : Sx) (x4 : Int32) (x5 : Int64), F - g = q → g ≤ F → q < n → q < m → FrL [21, 22, 23] z9 y9 → NXT (gT z9 24) F x4 → ∃ r w2 w9, lX2_nextFault_9 zw nR zR zd n z2 x4 x5 (nI g) = some (r, w2) ∧ lX9_nextFor_7 K (nI k) m y9 x4 x5 (nI g) = K w9 r ∧ FrL [21, 22, 23] z9 w9 ∧ NXT (gT z9 24) F r := by
  obtain ⟨F2, d0', dF', d1, d2, d3, d4, d5, d6, d7, d8⟩ := id hd
  have eF : F2 = F := (nI_eq (by omega) (by omega)).1 (d0'.symm.trans d0)
  subst eF
  have hFi : (gT z9 24 0).toInt = F2 := by rw [d0, nI_toInt (by omega)]
  have h3 : gI zw 3 = nI F2 := hw.2.1.1.trans d0
  have eg : fX0_gone zd = some (nI (bmf (gT z9 24) 1 F2 ||| bmf (gT z9 24) 2 F2)) := by unfold fX0_gone; rw [d3, d4, or_n]
  intro q
  induction q with
  | zero =>
    intro g n m z2 y9 x4 x5 hq hg hn hm hf hx
    obtain ⟨n, rfl⟩ : ∃ j, n = j + 1 := ⟨n - 1, by omega⟩
    obtain ⟨m, rfl⟩ : ∃ j, m = j + 1 := ⟨m - 1, by omega⟩
    have t0 : gT y9 24 0 = nI F2 := by rw [(hf 24 (by decide)).2.1]; exact d0
    refine ⟨x4, z2, y9, ?_, ?_, hf, hx⟩
    · rw [lX2_nextFault_9, h3, if_pos (nI_le (by omega) (by omega))]
    · rw [lX9_nextFor_7, t0, if_pos (nI_le (by omega) (by omega))]
  | succ q ih =>
    intro g n m z2 y9 x4 x5 hq hg hn hm hf hx
    obtain ⟨n, rfl⟩ : ∃ j, n = j + 1 := ⟨n - 1, by omega⟩
    obtain ⟨m, rfl⟩ : ∃ j, m = j + 1 := ⟨m - 1, by omega⟩
    have t24 : gT y9 24 = gT z9 24 := (hf 24 (by decide)).2.1
    have t0 : gT y9 24 0 = nI F2 := by rw [t24]; exact d0
    have hwy : WKT zw (gT y9 24) := by rw [t24]; exact hw
    have hdy : DR zd (gT y9 24) := by rw [t24]; exact hd
    have hRy : RREL nR zR y9 k := rrel_fr hR hf (by decide)
    have gi : (nI g).toInt = g := nI_toInt (by omega)
    obtain ⟨b1, b2, -⟩ := hw.2.2.2.2 g (by omega)
    obtain ⟨r, o1, o2, o3⟩ := open_eq (z9 := y9) hwy t0 dF (by rw [t24]; exact d7) (show g < F2 by omega)
    rw [t24] at o1
    have ef1 : fX9_faultOf y9 (nI g) 1 = some (gT z9 24 (44 + 6 * g + 1)) := by rw [← t24]; exact fo_eq (j := 1) (by omega) (by omega)
    have t3 : gT y9 24 3 = gT z9 24 3 := by rw [t24]
    rw [lX2_nextFault_9, h3, if_neg (nI_ge (by omega) (by omega)), bd_eq eg, bd_eq o1, nI_1, lX9_nextFor_7, t0, if_neg (nI_ge (by omega) (by omega)), nI_1]
    simp only [jn]
    have em1 : ((-1 : Int32) < 0) := by decide
    rcases o3 with rfl | rfl
    · have ec : fX9_canLook y9 (nI g) = some 0 := by unfold fX9_canLook; rw [bd_eq o2, if_pos rfl]
      rw [if_pos rfl, if_pos trivial, if_pos em1, bd_eq ec, if_pos rfl]
      exact ih (g + 1) n m z2 y9 x4 x5 (by omega) (by omega) (by omega) (by omega) hf hx
    · rw [if_neg one0, bd_eq (at_k gi (by omega) (by decide)), b2, d1]
      by_cases cl : gT z9 24 3 < gT z9 24 (44 + 6 * g + 1)
      · have ec : fX9_canLook y9 (nI g) = some 0 := by unfold fX9_canLook; rw [bd_eq o2, if_neg one0, bd_eq ef1, t3, if_pos cl]
        rw [if_pos cl, if_pos trivial, if_pos em1, bd_eq ec, if_pos rfl]
        exact ih (g + 1) n m z2 y9 x4 x5 (by omega) (by omega) (by omega) (by omega) hf hx
      · have ec : fX9_canLook y9 (nI g) = some 1 := by unfold fX9_canLook; rw [bd_eq o2, if_neg one0, bd_eq ef1, t3, if_neg cl]
        have ho : gT z9 24 (44 + 6 * g + 4) = 0 := by
          unfold fX9_isOpen at o2
          have ef4 : fX9_faultOf y9 (nI g) 4 = some (gT z9 24 (44 + 6 * g + 4)) := by rw [← t24]; exact fo_eq (j := 4) (by omega) (by omega)
          rw [bd_eq ef4] at o2
          by_cases u : gT z9 24 (44 + 6 * g + 4) = 0
          · exact u
          · rw [if_neg u] at o2
            exact absurd (Option.some.inj o2) (by decide)
        rw [if_neg cl, if_neg one0, bd_eq ec, if_neg one0]
        obtain ⟨v, yw, e1, e2, e3, e4⟩ := words_k (z9 := y9) (g := g) hwy hdy t0 dF (by omega)
        have hRw : RREL nR zR yw k := rrel_fr hRy e2 (by decide)
        obtain ⟨hk, hnR, hcm, C, hC, c1, c2, hcl⟩ := id hRw
        obtain ⟨rc, r9, w2, w9, f1, f2, f3, f4⟩ := clause_k (z9 := yw) hRw e4 c1 hC C 0 FU FU z2 yw (by omega) (by omega) (FU_lt (by omega)) (FU_lt (by omega)) fr_rf e3
        have fA : fX2_lookClause z2 zw nR zR zd (nI g) = some (rc, w2) := f1
        have fB : fX9_clauseFor y9 (nI k) (nI g) = some (r9, w9) := by unfold fX9_clauseFor; rw [bd_eq e1]; exact f2
        have hf9 : FrL [21, 22, 23] z9 w9 := fr_tr (fr_tr hf e2 (by decide)) f3 (by decide)
        rw [bd2_eq fA, bd2_eq fB]
        rcases f4 with ⟨rfl, rfl⟩ | ⟨d, hd1, rfl, rfl, hd4⟩
        · rw [if_pos em1, if_neg (by decide)]
          exact ih (g + 1) n m w2 w9 x4 x5 (by omega) (by omega) (by omega) (by omega) hf9 hx
        · have di : (nI d).toInt = d := nI_toInt (by omega)
          obtain ⟨b, mm, e, h2, h3', h4, hbm, hme, heN, hcase⟩ := hcl d hd1
          have t5 : gT w9 5 = gT yw 5 := (f3 5 (by decide)).2.1
          have a1 : nI (60 * k + 5 * d) + 1 = nI (60 * k + 5 * d + 1) := nI_add (60 * k + 5 * d) 1
          have a2 : nI (60 * k + 5 * d) + 2 = nI (60 * k + 5 * d + 2) := nI_add (60 * k + 5 * d) 2
          have cc1 : (nI (60 * k + 5 * d + 1)).toNatClampNeg = 60 * k + 5 * d + 1 := nI_clamp (by omega)
          have cc2 : (nI (60 * k + 5 * d + 2)).toNatClampNeg = 60 * k + 5 * d + 2 := nI_clamp (by omega)
          rw [if_neg (nI_pos (by omega)), bd_eq (at_k di (by omega) (by decide)), bd_eq (at_k di (by omega) (by decide)), h2, h3', if_pos (nI_ge0 (by omega)), a1, a2, gd_pos (in_n (by omega) (by omega)), gd_pos (in_n (by omega) (by omega)), cc1, cc2, t5]
          rcases hcase with ⟨k0, kb, k1, k2, ksg, hc3⟩ | ⟨k0, -⟩
          · rw [k1, k2]
            obtain ⟨rr, y2, x9, s1, s2, s3, s4⟩ := seg_both (z2 := w2) (z9 := w9) (k := k) (zw := zw) (zd := zd) (x6 := nI g) ksg (by omega) (by omega) hnR hk (fun i hi => by rw [(f3 3 (by decide)).2.1]; exact hcm i hi) e4 (fun w hw9 => by rw [(f3 23 (by decide)).2.2]; exact e3 w hw9)
            rw [bd2_eq s2, bd2_eq s3]
            have hfx : FrL [21, 22, 23] z9 x9 := fr_tr hf9 s4 (by decide)
            have hgn : NXT (gT z9 24) F2 (nI g) := Or.inr ⟨g, by omega, rfl, ho, bI_nlt rfl rfl cl⟩
            by_cases c4 : x4 < 0
            · rw [if_pos c4, if_pos c4]
              exact ih (g + 1) n m y2 x9 (nI g) rr (by omega) (by omega) (by omega) (by omega) hfx hgn
            · rw [if_neg c4, if_neg c4]
              by_cases c5 : rr < x5
              · have n5 : ¬ x5 ≤ rr := fun u => by have a := (i64_lt _ _).1 c5; have b := (i64_le _ _).1 u; omega
                rw [if_neg n5, if_pos c5]
                exact ih (g + 1) n m y2 x9 (nI g) rr (by omega) (by omega) (by omega) (by omega) hfx hgn
              · have n5 : x5 ≤ rr := (i64_le _ _).2 (by
                  by_cases u : rr.toInt < x5.toInt
                  · exact absurd ((i64_lt _ _).2 u) c5
                  · omega)
                rw [if_pos n5, if_neg c5]
                exact ih (g + 1) n m y2 x9 x4 x5 (by omega) (by omega) (by omega) (by omega) hfx hx
          · exfalso
            rw [hd4] at k0
            revert k0; decide
end S13

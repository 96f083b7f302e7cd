/-! The class orders the faults of a WORK by what one LOOK earns. -/
def OLI (F : Nat) (o z : Sx) (f : Nat) : Prop := FrL [15, 16, 17] o z ∧ (∀ g : Nat, g < f → gT z 15 g = gT z 10 g * gT z 12 g) ∧ (∀ g : Nat, g < f → (gT z 9 g).toInt ≤ (gI z 17).toInt) ∧ (0 ≤ (gI z 17).toInt ∧ (gI z 17).toInt ≤ 99) ∧ (∀ i : Nat, i < f → ∃ g : Nat, g < f ∧ gT z 16 i = nI g) ∧ (∀ g : Nat, g < f → ∃ i : Nat, i < f ∧ gT z 16 i = nI g) ∧ ∀ i j : Nat, i ≤ j → j < f → (gT z 15 (gT z 16 j).toNatClampNeg).toInt ≤ (gT z 15 (gT z 16 i).toNatClampNeg).toInt
section S27
variable {o z z0 : Sx} {F f : Nat}
theorem in_run {k9 : Sx → Int32 → Option Sx} (hf : f < 10) (hp1 : ∀ i : Nat, i < f → ∃ g : Nat, g < f ∧ gT z0 16 i = nI g) : ∀ (p n : Nat) (z : Sx), p ≤ f → p < n → FrL [16] z0 z → (∀ i : Nat, i < p → gT z 16 i = gT z0 16 i) → (∀ i : Nat, p < i → i ≤ f → gT z 16 i = gT z0 16 (i - 1)) → (∀ i : Nat, p ≤ i → i < f → (gT z0 15 (gT z0 16 i).toNatClampNeg).toInt < (gT z0 15 f).toInt) → ∃ (z2 : Sx) (p2 : Nat), lX7_orderLooks_56 k9 (nI f) n z (nI p) = k9 z2 (nI p2) ∧ p2 ≤ f ∧ FrL [16] z0 z2 ∧ (∀ i : Nat, i < p2 → gT z2 16 i = gT z0 16 i) ∧ (∀ i : Nat, p2 < i → i ≤ f → gT z2 16 i = gT z0 16 (i - 1)) ∧ (∀ i : Nat, p2 ≤ i → i < f → (gT z0 15 (gT z0 16 i).toNatClampNeg).toInt < (gT z0 15 f).toInt) ∧ (p2 = 0 ∨ (gT z0 15 f).toInt ≤ (gT z0 15 (gT z0 16 (p2 - 1)).toNatClampNeg).toInt) := by
  intro p
  induction p with
  | zero =>
    intro n z hp hn fr h1 h2 h3
    obtain ⟨n, rfl⟩ : ∃ k, n = k + 1 := ⟨n - 1, by omega⟩
    refine ⟨z, 0, ?_, hp, fr, h1, h2, h3, Or.inl rfl⟩
    rw [lX7_orderLooks_56, if_pos (show nI 0 ≤ 0 by decide)]
  | succ p ih =>
    intro n z hp hn fr h1 h2 h3
    obtain ⟨n, rfl⟩ : ∃ k, n = k + 1 := ⟨n - 1, by omega⟩
    obtain ⟨g, hg, eg⟩ := hp1 p (by omega)
    have e15 : gT z 15 = gT z0 15 := (fr 15 (by decide)).2.1
    have a1 : fX8_at 10 (gT z 16) (nI (p + 1) - 1) = some (nI g) := by rw [nI_pred, at_k (nI_toInt (n := p) (by omega)) (by omega) (by decide), h1 p (by omega), eg]
    have a2 : fX8_at 10 (gT z 15) (nI g) = some (gT z0 15 g) := by rw [at_k (nI_toInt (n := g) (by omega)) (by omega) (by decide), e15]
    have a3 : fX8_at 10 (gT z 15) (nI f) = some (gT z0 15 f) := by rw [at_k (nI_toInt (n := f) (by omega)) (by omega) (by decide), e15]
    have em : nI (p + 1) + (-1) = nI p := (Int32.sub_eq_add_neg (nI (p + 1)) 1).symm.trans (nI_pred p)
    have cg : (gT z0 16 p).toNatClampNeg = g := by rw [eg, nI_clamp (by omega)]
    rw [lX7_orderLooks_56, if_neg (nI_nle (by omega) (by omega)), bd_eq a1, bd_eq a2, bd_eq a3]
    by_cases c : gT z0 15 f ≤ gT z0 15 g
    · refine ⟨z, p + 1, by rw [if_pos c], hp, fr, h1, h2, h3, Or.inr ?_⟩
      rw [Nat.add_sub_cancel, cg]
      exact (i32_le _ _).1 c
    · have ci := bI_nle rfl rfl c
      rw [if_neg c, bd_eq a1, bd_eq (put_k (nI_toInt (n := p + 1) (by omega)) (by omega) (by decide)), em]
      obtain ⟨z2, p2, b1, b2, b3, b4, b5, b6, b7⟩ := ih n (sTf z 16 (upd (gT z 16) (p + 1) (nI g))) (by omega) (by omega) (fr_Tf fr (by decide)) (fun i hi => by
        show upd (gT z 16) (p + 1) (nI g) i = _
        rw [g_upd, if_neg (by omega), h1 i (by omega)]) (fun i hi hif => by
        show upd (gT z 16) (p + 1) (nI g) i = _
        rw [g_upd]
        by_cases w : i = p + 1
        · rw [if_pos w, w, Nat.add_sub_cancel, eg]
        · rw [if_neg w, h2 i (by omega) hif]) (fun i hi hif => by
        by_cases w : i = p
        · rw [w, cg]; exact ci
        · exact h3 i (by omega) hif)
      exact ⟨z2, p2, b1, b2, b3, b4, b5, b6, b7⟩
theorem ol_run (hF : F ≤ 10) (h3 : gI o 3 = nI F) (h9 : ∀ g : Nat, g < F → 0 ≤ (gT o 9 g).toInt ∧ (gT o 9 g).toInt ≤ 99) : ∀ (q f n : Nat) (z : Sx), F - f = q → f ≤ F → q < n → OLI F o z f → ∃ y, lX7_orderLooks_2 n z (nI f) = some y ∧ OLI F o y F := by
  intro q
  induction q with
  | zero =>
    intro f n z hq hf hn hz
    obtain ⟨n, rfl⟩ : ∃ k, n = k + 1 := ⟨n - 1, by omega⟩
    obtain rfl : f = F := by omega
    exact ⟨z, by rw [lX7_orderLooks_2, (hz.1 3 (by decide)).1, h3, if_pos (nI_le (Nat.le_refl _) (by omega))], hz⟩
  | succ q ih =>
    intro f n z hq hf hn hz
    obtain ⟨n, rfl⟩ : ∃ k, n = k + 1 := ⟨n - 1, by omega⟩
    obtain ⟨fr, k15, k17, r17, p1, p2, so⟩ := id hz
    have fi : (nI f).toInt = f := nI_toInt (by omega)
    have m9 : 0 ≤ (gT z 9 f).toInt ∧ (gT z 9 f).toInt ≤ 99 := by rw [(fr 9 (by decide)).2.1]; exact h9 f (by omega)
    obtain ⟨z1, ez1⟩ : ∃ z1 : Sx, z1 = sTf (sI z 17 (mxI (gI z 17) (gT z 9 f))) 15 (upd (gT z 15) f (gT z 10 f * gT z 12 f)) := ⟨_, rfl⟩
    have t15 : ∀ g : Nat, gT z1 15 g = if g = f then gT z 10 f * gT z 12 f else gT z 15 g := fun g => by rw [ez1]; rfl
    have t16 : gT z1 16 = gT z 16 := by rw [ez1]; rfl
    have t17 : gI z1 17 = mxI (gI z 17) (gT z 9 f) := by rw [ez1]; rfl
    have fr1 : FrL [15, 16, 17] o z1 := by rw [ez1]; exact fr_Tf (fr_I fr (by decide)) (by decide)
    have q1 : ∀ i : Nat, i < f → ∃ g : Nat, g < f ∧ gT z1 16 i = nI g := by rw [t16]; exact p1
    obtain ⟨z2, pp, b1, b2, b3, b4, b5, b6, b7⟩ := in_run (z0 := z1) (k9 := fun (z22 : Sx) (i23 : Int32) => bd (fX8_put 10 (gT z22 16) i23 (nI f)) (fun z25 => lX7_orderLooks_2 n (sTf z22 16 z25) (nI (f + 1)))) (show f < 10 by omega) q1 f FU z1 (Nat.le_refl f) (FU_lt (by omega)) fr_rf (fun _ _ => rfl) (fun i h1 h2 => by omega) (fun i h1 h2 => by omega)
    have c15 : gT z2 15 = gT z1 15 := (b3 15 (by decide)).2.1
    have c17 : gI z2 17 = gI z1 17 := (b3 17 (by decide)).1
    have c10 : gT z2 10 = gT z 10 := by rw [(b3 10 (by decide)).2.1, ez1]; rfl
    have c12 : gT z2 12 = gT z 12 := by rw [(b3 12 (by decide)).2.1, ez1]; rfl
    have c9 : gT z2 9 = gT z 9 := by rw [(b3 9 (by decide)).2.1, ez1]; rfl
    rw [t16] at b4 b5 b6 b7
    have vv : ∀ i : Nat, i < f → (gT z1 15 (gT z 16 i).toNatClampNeg) = gT z 15 (gT z 16 i).toNatClampNeg := fun i hi => by
      obtain ⟨g, hg, eg⟩ := p1 i hi
      rw [eg, nI_clamp (by omega), t15, if_neg (by omega)]
    have A : ∀ i : Nat, upd (gT z2 16) pp (nI f) i = if i = pp then nI f else gT z2 16 i := fun i => rfl
    have cf : (nI f).toNatClampNeg = f := nI_clamp (by omega)
    obtain ⟨z3, ez3⟩ : ∃ z3 : Sx, z3 = sTf z2 16 (upd (gT z2 16) pp (nI f)) := ⟨_, rfl⟩
    have u15 : gT z3 15 = gT z1 15 := by rw [ez3]; exact c15
    have u16 : ∀ i : Nat, gT z3 16 i = if i = pp then nI f else gT z2 16 i := fun i => by rw [ez3]; rfl
    have m17 : gI z3 17 = mxI (gI z 17) (gT z 9 f) := by rw [ez3]; exact c17.trans t17
    have mge : (gI z 17).toInt ≤ (mxI (gI z 17) (gT z 9 f)).toInt ∧ (gT z 9 f).toInt ≤ (mxI (gI z 17) (gT z 9 f)).toInt ∧ (mxI (gI z 17) (gT z 9 f)).toInt ≤ 99 := by
      by_cases c : gI z 17 < gT z 9 f
      · have ci := bI_lt rfl rfl c
        rw [mxI, if_pos c]; omega
      · have ci := bI_nlt rfl rfl c
        rw [mxI, if_neg c]; omega
    have hz3 : OLI F o z3 (f + 1) := by
      refine ⟨?_, fun g hg => ?_, fun g hg => ?_, ?_, fun i hi => ?_, fun g hg => ?_, fun i j hij hj => ?_⟩
      · rw [ez3]; exact fr_Tf (fr_tr fr1 b3 (by decide)) (by decide)
      · have w10 : gT z3 10 = gT z 10 := by rw [ez3]; exact c10
        have w12 : gT z3 12 = gT z 12 := by rw [ez3]; exact c12
        rw [u15, t15, w10, w12]
        by_cases c : g = f
        · rw [if_pos c, c]
        · rw [if_neg c]; exact k15 g (by omega)
      · have w9 : gT z3 9 = gT z 9 := by rw [ez3]; exact c9
        rw [w9, m17]
        by_cases c : g = f
        · rw [c]; exact mge.2.1
        · have := k17 g (by omega)
          omega
      · rw [m17]; omega
      · rw [u16]
        by_cases c : i = pp
        · rw [if_pos c]; exact ⟨f, by omega, rfl⟩
        · rw [if_neg c]
          by_cases d : i < pp
          · obtain ⟨g, hg, eg⟩ := p1 i (by omega)
            exact ⟨g, by omega, by rw [b4 i d, eg]⟩
          · obtain ⟨g, hg, eg⟩ := p1 (i - 1) (by omega)
            exact ⟨g, by omega, by rw [b5 i (by omega) (by omega), eg]⟩
      · by_cases c : g = f
        · exact ⟨pp, by omega, by rw [u16, if_pos rfl, c]⟩
        · obtain ⟨i, hi, ei⟩ := p2 g (by omega)
          by_cases d : i < pp
          · exact ⟨i, by omega, by rw [u16, if_neg (by omega), b4 i d, ei]⟩
          · exact ⟨i + 1, by omega, by rw [u16, if_neg (by omega), b5 (i + 1) (by omega) (by omega), Nat.add_sub_cancel, ei]⟩
      · rw [u15, u16 i, u16 j]
        by_cases ci : i = pp
        · rw [if_pos ci]
          by_cases cj : j = pp
          · rw [if_pos cj]; exact Int.le_refl _
          · rw [if_neg cj, b5 j (by omega) (by omega), cf]
            exact Int.le_of_lt (b6 (j - 1) (by omega) (by omega))
        · rw [if_neg ci]
          by_cases di : i < pp
          · rw [b4 i di]
            by_cases cj : j = pp
            · rw [if_pos cj, cf]
              rcases b7 with b7 | b7
              · omega
              · have s1 := so i (pp - 1) (by omega) (by omega)
                rw [vv (pp - 1) (by omega)] at b7
                rw [vv i (by omega)]
                omega
            · rw [if_neg cj, vv i (by omega)]
              by_cases dj : j < pp
              · rw [b4 j dj, vv j (by omega)]
                exact so i j hij (by omega)
              · rw [b5 j (by omega) (by omega), vv (j - 1) (by omega)]
                exact so i (j - 1) (by omega) (by omega)
          · rw [if_neg (show ¬ j = pp by omega), b5 i (by omega) (by omega), b5 j (by omega) (by omega), vv (i - 1) (by omega), vv (j - 1) (by omega)]
            exact so (i - 1) (j - 1) (by omega) (by omega)
    obtain ⟨y, y1, y2⟩ := ih (f + 1) n z3 (by omega) (by omega) (by omega) hz3
    refine ⟨y, ?_, y2⟩
    have e9 : fX8_at 10 (gT z 9) (nI f) = some (gT z 9 f) := at_k fi (by omega) (by decide)
    have e10 : ∀ v : Int32, fX8_at 10 (gT (sI z 17 v) 10) (nI f) = some (gT z 10 f) := fun v => at_k fi (by omega) (by decide)
    have e12 : ∀ v : Int32, fX8_at 10 (gT (sI z 17 v) 12) (nI f) = some (gT z 12 f) := fun v => at_k fi (by omega) (by decide)
    have e15 : ∀ v w : Int32, fX8_put 10 (gT (sI z 17 v) 15) (nI f) w = some (upd (gT z 15) f w) := fun v w => put_k fi (by omega) (by decide)
    rw [lX7_orderLooks_2, (fr 3 (by decide)).1, h3, if_neg (nI_ge (by omega) (by omega)), bd_eq e9, bd_eq (e10 _), bd_eq (e12 _), bd_eq (e15 _ _), ← ez1, nI_1, b1, bd_eq (put_k (nI_toInt (n := pp) (by omega)) (by omega) (by decide)), ← ez3]
    exact y1
theorem rf_tail {k9 : Sx → Sx → Option (Sx × Sx)} {y : Sx × Sx} : ∀ (n : Nat) (z t : Sx) (x2 x3 : Int32), lX7_readFrom_10 k9 n z t x2 x3 = some y → (0 ≤ (gI z 3).toInt ∧ (gI z 3).toInt ≤ 10) → ∃ v u : Sx, k9 v u = some y ∧ FrL [1, 2, 3, 4, 5, 6, 7, 8, 9, 10, 11, 12, 13, 14] z v ∧ (0 ≤ (gI v 3).toInt ∧ (gI v 3).toInt ≤ 10) := by
  intro n
  induction n with
  | zero => intro z t x2 x3 h; cases h
  | succ n ih =>
    intro z t x2 x3 h hz
    rw [lX7_readFrom_10] at h
    by_cases c : x2 = 0
    · rw [if_pos c] at h; exact ⟨z, t, h, fr_rf, hz⟩
    · rw [if_neg c] at h
      by_cases d : 24 < x3
      · rw [if_pos d] at h; exact ⟨z, t, h, fr_rf, hz⟩
      · rw [if_neg d] at h
        obtain ⟨z4, z5, e1, h⟩ := bd2_some h
        obtain ⟨r7, z8, e2, h⟩ := bd2_some h
        obtain ⟨f1, -, f3⟩ := ok_get (t_fX7_readClause hz) e1
        obtain ⟨v, u, g1, g2, g3⟩ := ih z4 z8 r7 (x3 + 1) h f3
        exact ⟨v, u, g1, fr_tr f1 g2 (by decide), g3⟩
/-- a WORK that was taken is ordered -/
theorem work_bw {z8 z5 zd z4 z6 z9 : Sx} {y : Int32 × Sx × Sx × Sx × Sx × Sx} {y9 : Int32 × Sx} (h : JT z8 z9) (hR : RI z9) (hy : fX8_work_ok z8 z5 zd z4 z6 = some y) (hy9 : fX9_work z9 = some y9) : (∃ F : Nat, BW y.2.2.2.2.2 F) ∧ gI y.2.2.2.2.2 0 = gI z8 4 + 1 ∧ gI y.2.1 4 = gI z8 4 + 1 ∧ (1 ≤ (gI y.2.2.2.2.2 1).toInt ∧ (gI y.2.2.2.2.2 1).toInt ≤ 480) := by
  obtain ⟨N, t, hT, -⟩ := h
  obtain ⟨u6, w7, w6, w9, a1, a2, a3⟩ := work_whole (z6 := z6) (s := gI z8 4 + 1) hT
  have z0 : (0 : Int32).toInt = 0 := by decide
  unfold fX8_work_ok at hy
  rw [bd_eq a1, bd2_eq a2] at hy
  rcases a3 with ⟨c1, c2, c3⟩ | ⟨c1, c2, c3⟩
  · rw [if_pos c1] at hy
    obtain ⟨q8, q9, eb, hy⟩ := bd2_some hy
    obtain rfl := Option.some.inj hy
    have fr0 := fun hq => (ok_get (t_fX7_readFrom hq) a2).1
    have fr := fr0 (show 0 ≤ (0 : Int32).toInt ∧ (0 : Int32).toInt ≤ 10 by omega)
    have s0 : gI w7 0 = gI z8 4 + 1 := (fr 0 (by decide)).1
    unfold fX7_readFrom at a2
    obtain ⟨v, u, g1, g2, g3⟩ := rf_tail FU _ _ _ _ a2 (show 0 ≤ (0 : Int32).toInt ∧ (0 : Int32).toInt ≤ 10 by omega)
    rw [jn_e] at g1
    have eo : fX7_orderLooks v = some w7 := by
      by_cases c : gI v 3 = 0
      · rw [if_pos c] at g1
        obtain ⟨z18, -, g1⟩ := bd_some g1
        obtain ⟨z15, e, g1⟩ := bd_some g1
        have : z15 = w7 := congrArg Prod.fst (Option.some.inj g1)
        rw [← this]; exact e
      · rw [if_neg c] at g1
        obtain ⟨z15, e, g1⟩ := bd_some g1
        have : z15 = w7 := congrArg Prod.fst (Option.some.inj g1)
        rw [← this]; exact e
    have fo := ok_get t_fX7_orderLooks eo
    obtain ⟨⟨w2, w8a, w8b⟩, ⟨w3, w9a, w9b⟩, wt, wk, wf⟩ := c3
    obtain ⟨F, hF⟩ : ∃ F : Nat, (gI w9 9).toInt = F := ⟨(gI w9 9).toInt.toNat, by omega⟩
    have e3 : gI w7 3 = nI F := by rw [w3]; exact Int32.toInt_inj.1 (by rw [hF, nI_toInt (by omega)])
    have v3 : gI v 3 = nI F := (fo 3 (by decide)).1.symm.trans e3
    have v9 : gT v 9 = gT w7 9 := (fo 9 (by decide)).2.1.symm
    have v17 : (gI v 17).toInt = 0 := by rw [(g2 17 (by decide)).1]; exact z0
    obtain ⟨y, y1, y2⟩ := ol_run (o := v) (F := F) (by omega) v3 (fun g hg => by rw [v9]; have := (wf g (by omega)).2.2.2.2.2.1; omega) F 0 FU v (by omega) (by omega) (FU_lt (by omega)) ⟨fr_rf, fun g hg => by omega, fun g hg => by omega, by omega, fun i hi => by omega, fun g hg => by omega, fun i j _ hj => by omega⟩
    have ey : y = w7 := Option.some.inj (y1.symm.trans eo)
    subst ey
    obtain ⟨-, o1, o2, o3, o4, o5, o6⟩ := y2
    refine ⟨⟨F, e3, by omega, fun g hg => ?_, o3, o4, o5, o6⟩, s0, rfl, ?_⟩
    · obtain ⟨f1, f2, f3, f4, f5, f6, f7, f8, f9, -⟩ := wf g (by omega)
      have ck := clampI (x := gT y 8 g) f5.1
      obtain ⟨-, -, -, p4, -⟩ := wk (gT y 8 g).toNatClampNeg (by omega)
      exact ⟨f6, f7, f8, by rw [f9]; exact p4, o2 g hg, o1 g hg⟩
    · show 1 ≤ (gI y 1).toInt ∧ (gI y 1).toInt ≤ 480
      rcases wt with ⟨-, -, e⟩ | ⟨-, e, e1, e2⟩
      · rw [e, show (60 : Int32).toInt = 60 by decide]; omega
      · rw [e]; exact ⟨e1, e2⟩
  · rw [if_neg c1] at hy; cases hy
end S27

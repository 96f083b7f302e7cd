/-! The minutes left are never less than none, and never more than 480. -/
def LFT (T : Nat → Int32) : Prop := (0 ≤ (T 2).toInt ∧ (T 2).toInt ≤ 480) ∧ (0 ≤ (T 3).toInt ∧ (T 3).toInt ≤ 480)
def LFz (z : Sx) : Prop := LFT (gT z 24) ∧ ∀ k : Nat, k < 4 → ¬ gT z 35 k = 0 → LFT (fun i => gT z 34 (104 * k + i))
section S28
variable {zw zd z5 z8 z9 z z2 z4 z6 : Sx} {x1 x2 : Int32}
theorem lft_eq {T T2 : Nat → Int32} (h : LFT T) (e2 : T2 2 = T 2) (e3 : T2 3 = T 3) : LFT T2 := by
  unfold LFT
  rw [e2, e3]
  exact h
theorem lfz_new : LFz Z0 := by
  have z0 : (0 : Int32).toInt = 0 := by decide
  refine ⟨?_, fun k _ h => absurd rfl h⟩
  show (0 ≤ (0 : Int32).toInt ∧ (0 : Int32).toInt ≤ 480) ∧ (0 ≤ (0 : Int32).toInt ∧ (0 : Int32).toInt ≤ 480)
  omega
/-- a call that leaves the images -/
theorem lfz_T (h : LFz z) (t : LFT (gT z2 24)) (e34 : gT z2 34 = gT z 34) (e35 : gT z2 35 = gT z 35) : LFz z2 := by
  refine ⟨t, fun k hk hn => ?_⟩
  rw [e34]
  rw [e35] at hn
  exact h.2 k hk hn
theorem lfz_E (h : LFz z) (e : E9 z z2) : LFz z2 := lfz_T h (lft_eq h.1 (e.1 2 (by omega)) (e.1 3 (by omega))) e.2.1 e.2.2.1
theorem lfz_V (h : LFz z) (g : V9 z z2) (t : 0 ≤ (gT z2 24 3).toInt ∧ (gT z2 24 3).toInt ≤ 480) : LFz z2 := by
  refine lfz_T h ⟨?_, t⟩ g.2.1 g.2.2
  rw [g.1 2 (by unfold KI DY; omega)]
  exact h.1.1
theorem lfz_Eo {α : Type} {x : Option (α × Sx)} {y : α × Sx} (h : LFz z) (k : okP x (fun y => E9 z y.2)) (e : x = some y) : LFz y.2 := by
  have q := ok_get k e
  exact lfz_E h q
theorem lfz_Vo {α : Type} {x : Option (α × Sx)} {y : α × Sx} (h : LFz z) (k : okP x (fun y => V9 z y.2)) (e : x = some y) (t : 0 ≤ (gT y.2 24 3).toInt ∧ (gT y.2 24 3).toInt ≤ 480) : LFz y.2 := by
  have q := ok_get k e
  exact lfz_V h q t
theorem fine_lf {y9 : Int32 × Sx} (hy9 : fX9_fine z9 x1 = some y9) : gT y9.2 24 3 = gT z9 24 3 := by
  unfold fX9_fine fX9_isWork at hy9
  simp only [jn] at hy9
  by_cases c4 : gT z9 24 0 ≤ 0
  · rw [if_pos c4, bd_eq rfl, if_pos rfl] at hy9
    rw [← Option.some.inj hy9]
  · rw [if_neg c4, bd_eq rfl, if_neg one0] at hy9
    obtain ⟨r, -, hy9⟩ := bd_some hy9
    by_cases c : r = 0
    · rw [if_pos c] at hy9; rw [← Option.some.inj hy9]
    · rw [if_neg c] at hy9; rw [← Option.some.inj hy9]; rfl
theorem seed_lf {y9 : Int32 × Sx} (hy9 : fX9_seed z9 x1 = some y9) : gT y9.2 24 3 = gT z9 24 3 := by
  unfold fX9_seed at hy9
  by_cases c : 0 ≤ x1
  · rw [if_pos c] at hy9; rw [← Option.some.inj hy9]; rfl
  · rw [if_neg c] at hy9; rw [← Option.some.inj hy9]
theorem mend_lf {y9 : Int32 × Sx} (hd : DR zd (gT z9 24)) (hy9 : fX9_mend z9 x1 = some y9) : gT y9.2 24 3 = gT z9 24 3 := by
  obtain ⟨F, d0, dF, -⟩ := hd
  have i0 : (0 : Int32).toInt = 0 := by decide
  have hFi : (gT z9 24 0).toInt = F := by rw [d0, nI_toInt (by omega)]
  unfold fX9_mend fX9_isFault at hy9
  simp only [jn] at hy9
  by_cases c1 : x1 < 0
  · rw [if_pos c1, bd_eq rfl, if_pos rfl] at hy9; rw [← Option.some.inj hy9]
  rw [if_neg c1] at hy9
  by_cases c2 : gT z9 24 0 ≤ x1
  · rw [if_pos c2, bd_eq rfl, if_pos rfl] at hy9; rw [← Option.some.inj hy9]
  rw [if_neg c2, bd_eq rfl, if_neg one0] at hy9
  have c1i := bI_nlt rfl i0 c1
  have c2i := bI_nle hFi rfl c2
  obtain ⟨f, hf⟩ : ∃ f : Nat, x1.toInt = f := ⟨x1.toInt.toNat, by omega⟩
  have ex : x1 = nI f := Int32.toInt_inj.1 (by rw [hf, nI_toInt (by omega)])
  subst ex
  have e6 : (6 * nI f : Int32) = nI (6 * f) := Int32.toInt_inj.1 (by rw [i32_mul (show (6 : Int32).toInt = 6 by decide) (nI_toInt (n := f) (by omega)) (by omega) (by omega), nI_toInt (by omega)]; omega)
  have e44 : (44 : Int32) + nI (6 * f) = nI (44 + 6 * f) := nI_add 44 (6 * f)
  have a4 : nI (44 + 6 * f) + 4 = nI (44 + 6 * f + 4) := nI_add (44 + 6 * f) 4
  have c4 : (nI (44 + 6 * f + 4)).toNatClampNeg = 44 + 6 * f + 4 := nI_clamp (by omega)
  obtain ⟨r, -, hy9⟩ := bd_some hy9
  by_cases c : r ≤ 0
  · rw [if_pos c, e6, e44, a4] at hy9
    obtain ⟨-, hy9⟩ := gd_some hy9
    rw [c4] at hy9
    obtain ⟨r2, -, hy9⟩ := bd_some hy9
    have hy9 : some (gT (sT (sT z9 24 (44 + 6 * f + 4) 2) 24 5 (gT (sT z9 24 (44 + 6 * f + 4) 2) 24 5 - r2)) 24 5, sT (sT z9 24 (44 + 6 * f + 4) 2) 24 5 (gT (sT z9 24 (44 + 6 * f + 4) 2) 24 5 - r2)) = some y9 := hy9
    rw [← Option.some.inj hy9]
    exact (t24_ne (z := sT z9 24 (44 + 6 * f + 4) 2) (i := 5) (j := 3) (by omega)).trans (t24_ne (by omega))
  · rw [if_neg c] at hy9; rw [← Option.some.inj hy9]
theorem look_lf {y9 : Int32 × Sx} (hw : WKT zw (gT z9 24)) (hd : DR zd (gT z9 24)) (h0 : 0 ≤ (gT z9 24 3).toInt) (hy9 : fX9_look z9 x1 = some y9) : 0 ≤ (gT y9.2 24 3).toInt ∧ (gT y9.2 24 3).toInt ≤ (gT z9 24 3).toInt := by
  obtain ⟨F, d0, dF, d1, d2, d3, d4, d5, d6, d7, d8⟩ := id hd
  have i0 : (0 : Int32).toInt = 0 := by decide
  have hFi : (gT z9 24 0).toInt = F := by rw [d0, nI_toInt (by omega)]
  have same : ∀ v : Int32, some (v, z9) = some y9 → 0 ≤ (gT y9.2 24 3).toInt ∧ (gT y9.2 24 3).toInt ≤ (gT z9 24 3).toInt := fun v e => by rw [← Option.some.inj e]; exact ⟨h0, Int.le_refl _⟩
  unfold fX9_look fX9_isFault at hy9
  by_cases c1 : x1 < 0
  · rw [if_pos c1, bd_eq rfl, if_pos rfl] at hy9; exact same _ hy9
  rw [if_neg c1] at hy9
  by_cases c2 : gT z9 24 0 ≤ x1
  · rw [if_pos c2, bd_eq rfl, if_pos rfl] at hy9; exact same _ hy9
  rw [if_neg c2, bd_eq rfl, if_neg one0] at hy9
  have c1i := bI_nlt rfl i0 c1
  have c2i := bI_nle hFi rfl c2
  obtain ⟨g, hg⟩ : ∃ f : Nat, x1.toInt = f := ⟨x1.toInt.toNat, by omega⟩
  have ex : x1 = nI g := Int32.toInt_inj.1 (by rw [hg, nI_toInt (by omega)])
  subst ex
  obtain ⟨r, e1, hy9⟩ := bd_some hy9
  by_cases c3 : r = 0
  · rw [if_pos c3] at hy9; exact same _ hy9
  rw [if_neg c3] at hy9
  obtain ⟨r2, e2, hy9⟩ := bd_some hy9
  by_cases c4 : r2 = 0
  · rw [if_pos c4] at hy9; exact same _ hy9
  rw [if_neg c4] at hy9
  obtain ⟨b1, b2, b3, b4, b5, b6, -⟩ := hw.2.2.2.2 g (by omega)
  have ef1 : fX9_faultOf z9 (nI g) 1 = some (gT zw 9 g) := by rw [b2]; exact fo_eq (j := 1) (by omega) (by omega)
  have hl : (gT zw 9 g).toInt ≤ (gT z9 24 3).toInt := by
    unfold fX9_canLook at e2
    rw [bd_eq e1, if_neg c3, bd_eq ef1] at e2
    by_cases q : gT z9 24 3 < gT zw 9 g
    · rw [if_pos q] at e2; exact absurd (Option.some.inj e2).symm c4
    · exact bI_nlt rfl rfl q
  obtain ⟨j, hji⟩ : ∃ j : Nat, (gT zw 8 g).toInt = j := ⟨(gT zw 8 g).toInt.toNat, by omega⟩
  have hj1 := hw.1.2.2
  have hj : gT z9 24 (44 + 6 * g) = nI j := by rw [← b1]; exact Int32.toInt_inj.1 (by rw [hji, nI_toInt (by omega)])
  obtain ⟨y, l1, l2, l3⟩ := looks_eq (z9 := z9) (g := g) (k := j) (by omega) hj (by omega) d6
  rw [bd2_eq l1] at hy9
  have ey : y9.2 = y := by
    by_cases q : (if hitf (gT z9 24) g then (1 : Int32) else 0) = 0
    · rw [if_pos q] at hy9; rw [← Option.some.inj hy9]
    · rw [if_neg q] at hy9; rw [← Option.some.inj hy9]
  have e3 : gT y 24 3 = gT z9 24 3 - gT z9 24 (44 + 6 * g + 1) := by
    rw [l3]
    unfold LKT
    rw [if_neg (fun u => absurd u.2 (by omega)), if_neg (fun u => absurd u.2 (by omega)), if_neg (by omega), if_pos rfl]
  have rg := n_rng (gT z9 24 3)
  rw [ey, e3, ← b2, i32_sub rfl rfl (by omega) (by omega)]
  omega
theorem dawn_lf {y9 : Int32 × Sx} (hd : DR zd (gT z9 24)) (hy9 : fX9_dawn z9 = some y9) : gT y9.2 24 3 = gT z9 24 3 ∨ gT y9.2 24 3 = gT z9 24 2 := by
  obtain ⟨F, d0, dF, -⟩ := hd
  unfold fX9_dawn fX9_isWork at hy9
  by_cases c4 : gT z9 24 0 ≤ 0
  · rw [if_pos c4, bd_eq rfl, if_pos rfl] at hy9
    rw [← Option.some.inj hy9]; exact Or.inl rfl
  · rw [if_neg c4, bd_eq rfl, if_neg one0] at hy9
    obtain ⟨r, -, hy9⟩ := bd_some hy9
    simp only [nm] at hy9
    obtain ⟨w, e, hy9⟩ := bd_some hy9
    unfold fX9_begins at e
    obtain ⟨y, b1, b2, b3, b4⟩ := beg_run dF FU 0 (sT (sT (sT (sT (sT z9 24 5 ((gT z9 24 5) + r)) 24 6 ((gT (sT z9 24 5 ((gT z9 24 5) + r)) 24 6) + (gT (sT z9 24 5 ((gT z9 24 5) + r)) 24 4))) 24 7 ((gT (sT (sT z9 24 5 ((gT z9 24 5) + r)) 24 6 ((gT (sT z9 24 5 ((gT z9 24 5) + r)) 24 6) + (gT (sT z9 24 5 ((gT z9 24 5) + r)) 24 4))) 24 7) + 1)) 24 3 (gT z9 24 2)) 24 4 0) d0 (by omega) (FU_lt (by omega))
    have ew : w = y := Option.some.inj (e.symm.trans b1)
    rw [← Option.some.inj hy9, ew]
    right
    show gT y 24 3 = _
    rw [b4 3 (Or.inl (by omega))]
    rfl
theorem work_lf {y : Int32 × Sx × Sx × Sx × Sx × Sx} {y9 : Int32 × Sx} (h : JT z8 z9) (hR : RI z9) (hy : fX8_work_ok z8 z5 zd z4 z6 = some y) (hy9 : fX9_work z9 = some y9) : LFT (gT y9.2 24) := by
  obtain ⟨-, k2, -⟩ := work_k_ok h hR hy hy9
  obtain ⟨-, -, -, t1, t2⟩ := work_bw h hR hy hy9
  have e2 : gT y9.2 24 2 = gI y.2.2.2.2.2 1 := k2.2.2.1.symm
  obtain ⟨N, t, hT, -⟩ := h
  obtain ⟨u6, w7, w6, w9, a1, a2, a3⟩ := work_whole (z6 := z6) (s := gI z8 4 + 1) hT
  unfold fX8_work_ok at hy
  rw [bd_eq a1, bd2_eq a2] at hy
  rcases a3 with ⟨c1, c2, c3⟩ | ⟨c1, c2, c3⟩
  · have r8 := c3.1
    have r9 := c3.2.1
    obtain ⟨K, hK⟩ : ∃ K : Nat, (gI w9 8).toInt = K := ⟨(gI w9 8).toInt.toNat, by omega⟩
    obtain ⟨F, hF⟩ : ∃ F : Nat, (gI w9 9).toInt = F := ⟨(gI w9 9).toInt.toNat, by omega⟩
    have h8 : gI w9 8 = nI K := Int32.toInt_inj.1 (by rw [hK, nI_toInt (by omega)])
    have h9 : gI w9 9 = nI F := Int32.toInt_inj.1 (by rw [hF, nI_toInt (by omega)])
    obtain ⟨v9, e1, -, e3⟩ := work_T c2 h8 (by omega) h9 (by omega)
    rw [e1] at hy9
    obtain rfl := Option.some.inj hy9
    have e4 : gT v9 24 3 = gT v9 24 2 := e3.2.2.2.1
    have e2 : gT v9 24 2 = gI y.2.2.2.2.2 1 := e2
    unfold LFT
    show (0 ≤ (gT v9 24 2).toInt ∧ (gT v9 24 2).toInt ≤ 480) ∧ (0 ≤ (gT v9 24 3).toInt ∧ (gT v9 24 3).toInt ≤ 480)
    rw [e4, e2]
    omega
  · rw [if_neg c1] at hy; cases hy
theorem image_lf {y9 : Int32 × Sx} (h : LFz z9) (hy9 : fX9_image z9 x1 = some y9) : LFz y9.2 := by
  rcases ok_get image9 hy9 with ⟨-, e⟩ | ⟨ic, f, ha, hb, hm, hn⟩
  · rw [e]; exact h
  · have hcl := clampI (x := x1) ic.1
    refine ⟨by rw [(f 24 (by decide)).2.1]; exact h.1, fun k hk hz => ?_⟩
    by_cases c : k = x1.toNatClampNeg
    · subst c
      exact lft_eq h.1 (ha 2 (by omega)) (ha 3 (by omega))
    · rw [hn k c] at hz
      exact lft_eq (h.2 k hk hz) (hb (104 * k + 2) (by omega)) (hb (104 * k + 3) (by omega))
theorem back_lf {y9 : Int32 × Sx} (h : LFz z9) (hy9 : fX9_back z9 x1 = some y9) : LFz y9.2 := by
  rcases ok_get back9 hy9 with ⟨-, e⟩ | ⟨ic, ne, f, he⟩
  · rw [e]; exact h
  · have hcl := clampI (x := x1) ic.1
    have h4 := ic.2
    exact lfz_T h (lft_eq (h.2 _ (by omega) ne) (he 2 (by omega)) (he 3 (by omega))) (f 34 (by decide)).2.1 (f 35 (by decide)).2.1
theorem game_lf {y9 : Int32 × Sx} (h : LFz z9) (hy9 : fX9_game z9 x1 x2 = some y9) : LFz y9.2 := by
  rcases ok_get game9 hy9 with ⟨-, -, e⟩ | ⟨gc, -, e⟩
  · rw [e]; exact h
  · rw [e]
    exact lfz_T h (lft_eq h.1 (t24_ne (by omega)) (t24_ne (by omega))) rfl rfl
end S28

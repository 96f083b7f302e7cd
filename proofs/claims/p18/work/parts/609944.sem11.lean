/-! MEND and DAWN, on both sides. -/
section S11
variable {zw zd z5 z8 z9 : Sx} {x1 : Int32}
theorem mend_k {y : Int32 × Sx × Sx} {y9 : Int32 × Sx} (hw : WKT zw (gT z9 24)) (hd : DR zd (gT z9 24)) (hs : S6 z5 (gT z9 24)) (hy : fX8_mend z8 z5 zw zd x1 = some y) (hy9 : fX9_mend z9 x1 = some y9) : y.1 = y9.1 ∧ S6 y.2.1 (gT y9.2 24) ∧ DR y.2.2 (gT y9.2 24) := by
  obtain ⟨F, d0, dF, d1, d2, d3, d4, d5, d6, d7, d8⟩ := id hd
  have hFi : (gT z9 24 0).toInt = F := by rw [d0, nI_toInt (by omega)]
  have i0 : (0 : Int32).toInt = 0 := by decide
  unfold fX8_mend fX8_isFault at hy
  unfold fX9_mend fX9_isFault at hy9
  rw [hw.2.1.1] at hy
  simp only [jn] at hy9
  have out : ∀ (r : Int32) {u : Int32 × Sx × Sx} {u9 : Int32 × Sx}, u = (r, z5, zd) → u9 = (r, z9) → u.1 = u9.1 ∧ S6 u.2.1 (gT u9.2 24) ∧ DR u.2.2 (gT u9.2 24) := fun r u u9 e e9 => by rw [e, e9]; exact ⟨rfl, hs, hd⟩
  by_cases c2 : x1 < 0
  · rw [if_pos c2, bd_eq rfl, if_pos rfl] at hy hy9
    exact out _ (Option.some.inj hy).symm (Option.some.inj hy9).symm
  rw [if_neg c2] at hy hy9
  by_cases c3 : gT z9 24 0 ≤ x1
  · rw [if_pos c3, bd_eq rfl, if_pos rfl] at hy hy9
    exact out _ (Option.some.inj hy).symm (Option.some.inj hy9).symm
  rw [if_neg c3, bd_eq rfl, if_neg one0] at hy hy9
  have c2i := bI_nlt rfl i0 c2
  have c3i := bI_nle hFi rfl c3
  obtain ⟨g, hg⟩ : ∃ g : Nat, x1.toInt = g := ⟨x1.toInt.toNat, by omega⟩
  have ex : x1 = nI g := Int32.toInt_inj.1 (by rw [hg, nI_toInt (by omega)])
  subst ex
  have egi : (nI g).toInt = g := nI_toInt (by omega)
  obtain ⟨b1, b2, b3, b4, b5, b6, b7, b8, b9, b10, b11⟩ := hw.2.2.2.2 g (by omega)
  obtain ⟨k, hki⟩ : ∃ k : Nat, (gT zw 8 g).toInt = k := ⟨(gT zw 8 g).toInt.toNat, by omega⟩
  have hk1 := hw.1.2.2
  have hk : gT z9 24 (44 + 6 * g) = nI k := by rw [← b1]; exact Int32.toInt_inj.1 (by rw [hki, nI_toInt (by omega)])
  have emd : gT zw 14 g = gT z9 24 (26 + 3 * k + 2) := by rw [b11, n_cl hki]; exact (hw.2.2.2.1 k (by omega)).2.2.1
  have eg : fX0_gone zd = some (nI (bmf (gT z9 24) 1 F ||| bmf (gT z9 24) 2 F)) := by unfold fX0_gone; rw [d3, d4, or_n]
  have ef4 : fX9_faultOf z9 (nI g) 4 = some (gT z9 24 (44 + 6 * g + 4)) := fo_eq (j := 4) (by omega) (by omega)
  have hst := d7 g (by omega)
  rw [bd_eq eg, bd_eq (has_n (gone_lt dF) (by omega)), gone_bit (by omega) hst] at hy
  rw [bd_eq ef4] at hy9
  by_cases c : gT z9 24 (44 + 6 * g + 4) = 0
  · have e6 : (6 * nI g : Int32) = nI (6 * g) := Int32.toInt_inj.1 (by rw [i32_mul (show (6 : Int32).toInt = 6 by decide) (nI_toInt (n := g) (by omega)) (by omega) (by omega), nI_toInt (by omega)]; omega)
    have e44 : (44 : Int32) + nI (6 * g) = nI (44 + 6 * g) := nI_add 44 (6 * g)
    have a4 : nI (44 + 6 * g) + 4 = nI (44 + 6 * g + 4) := nI_add (44 + 6 * g) 4
    have eb : fX8_bit (nI g) = some (nI (2 ^ g)) := by unfold fX8_bit; rw [bit_f ⟨g, by omega⟩]
    rw [decide_eq_false (fun q => q c), if_pos (by decide), bd_eq eb, bd_eq (at_k egi (by omega) (by decide)), emd, hs.1] at hy
    rw [if_pos (show gT z9 24 (44 + 6 * g + 4) ≤ 0 by rw [c]; decide), e6, e44, a4, gd_pos (in_n (by omega) (by omega)), nI_clamp (by omega)] at hy9
    obtain ⟨y1, hy1⟩ : ∃ y1, y1 = sT z9 24 (44 + 6 * g + 4) 2 := ⟨_, rfl⟩
    have t1 : ∀ i : Nat, gT y1 24 i = if i = 44 + 6 * g + 4 then 2 else gT z9 24 i := fun i => by rw [hy1]; rfl
    rw [← hy1] at hy9
    have ek : fX9_kindOf y1 (nI g) 2 = some (gT z9 24 (26 + 3 * k + 2)) := by
      have h0 : gT y1 24 (44 + 6 * g) = nI k := by rw [t1, if_neg (by omega)]; exact hk
      have := ko_eq (z9 := y1) (j := 2) (by omega) h0 (by omega) (by omega)
      rw [t1, if_neg (by omega)] at this
      exact this
    have e5 : gT y1 24 5 = gT z9 24 5 := by rw [t1, if_neg (by omega)]
    rw [bd_eq ek, e5] at hy9
    have hy9 : some (gT (sT y1 24 5 (gT z9 24 5 - gT z9 24 (26 + 3 * k + 2))) 24 5, sT y1 24 5 (gT z9 24 5 - gT z9 24 (26 + 3 * k + 2))) = some y9 := hy9
    rw [t24_eq] at hy9
    obtain rfl := Option.some.inj hy
    obtain rfl := Option.some.inj hy9
    have T2 : ∀ i : Nat, ¬ i = 5 → gT (sT y1 24 5 (gT z9 24 5 - gT z9 24 (26 + 3 * k + 2))) 24 i = if i = 44 + 6 * g + 4 then 2 else gT z9 24 i := fun i hi => (t24_ne hi).trans (t1 i)
    refine ⟨rfl, ⟨t24_eq.symm, ?_⟩, F, ?_, dF, ?_, ?_, ?_, ?_, ?_, ?_, fun j hj => ?_, fun j hj => ?_⟩
    · show gI z5 3 = _
      rw [T2 6 (by omega), if_neg (by omega)]; exact hs.2
    · rw [T2 0 (by omega), if_neg (by omega)]; exact d0
    · show gI zd 0 = _
      rw [T2 3 (by omega), if_neg (by omega)]; exact d1
    · show gI zd 1 = _
      rw [T2 4 (by omega), if_neg (by omega)]; exact d2
    · show gI zd 2 = _
      rw [bm_cg (T := gT z9 24) F (fun j hj => by
        rw [T2 _ (by omega)]
        by_cases r : j = g
        · rw [r, if_pos rfl, c]
          exact ⟨fun q => by revert q; decide, fun q => by revert q; decide⟩
        · rw [if_neg (by omega)])]
      exact d3
    · show gI zd 3 ||| nI (2 ^ g) = _
      rw [bm_set (T := gT z9 24) (g := g) (by omega) (fun j hj => by
        rw [T2 _ (by omega)]
        by_cases r : j = g
        · rw [r, if_pos rfl]
          exact ⟨fun _ => Or.inl rfl, fun _ => rfl⟩
        · rw [if_neg (by omega)]
          exact ⟨fun q => Or.inr q, fun q => q.resolve_left r⟩), d4, or_n]
    · show gI zd 4 = _
      rw [T2 9 (by omega), if_neg (by omega)]; exact d5
    · rw [T2 9 (by omega), if_neg (by omega)]; exact d6
    · rw [T2 _ (by omega)]
      by_cases r : 44 + 6 * j + 4 = 44 + 6 * g + 4
      · rw [if_pos r]; exact Or.inr (Or.inr rfl)
      · rw [if_neg r]; exact d7 j hj
    · show gT zd 5 j = _
      rw [T2 _ (by omega), if_neg (by omega)]; exact d8 j hj
  · rw [decide_eq_true c, if_pos rfl, if_neg one0] at hy
    rw [if_neg (show ¬ gT z9 24 (44 + 6 * g + 4) ≤ 0 by rcases hst with q | q | q; exact absurd q c; rw [q]; decide; rw [q]; decide)] at hy9
    exact out _ (Option.some.inj hy).symm (Option.some.inj hy9).symm
/-- what stays hidden -/
def hsum (T : Nat → Int32) (zw : Sx) : Nat → Int32
  | 0 => 0
  | g + 1 => if T (44 + 6 * g + 4) = 0 then hsum T zw g + gT zw 13 g else hsum T zw g
theorem cpl_n {a g : Nat} (ha : a < 1024) (hg : g < 10) : fX8_has (nI a ^^^ (-1)) (nI g) = some (if a.testBit g = true then 0 else 1) := by
  have := cpl_f ha hg
  unfold fX8_has
  cases q : a.testBit g with
  | false =>
    rw [q] at this
    rw [if_neg (of_decide_eq_false this)]; rfl
  | true =>
    rw [q] at this
    rw [if_pos (of_decide_eq_true this)]; rfl
theorem hid_class {F : Nat} (hw : WKT zw (gT z9 24)) (d0 : gT z9 24 0 = nI F) (dF : F ≤ 10) (d7 : ∀ g : Nat, g < F → gT z9 24 (44 + 6 * g + 4) = 0 ∨ gT z9 24 (44 + 6 * g + 4) = 1 ∨ gT z9 24 (44 + 6 * g + 4) = 2) : ∀ (n g : Nat), g ≤ F → F - g < n → lX7_together_5 zw 10 (gT zw 13) (nI (bmf (gT z9 24) 1 F ||| bmf (gT z9 24) 2 F) ^^^ (-1)) n (hsum (gT z9 24) zw g) (nI g) = some (hsum (gT z9 24) zw F) := by
  have h3 : gI zw 3 = nI F := hw.2.1.1.trans d0
  intro n
  induction n with
  | zero => intro g _ hm; omega
  | succ n ih =>
    intro g hg hm
    rw [lX7_together_5, h3]
    by_cases c : g = F
    · rw [c, if_pos (nI_le (Nat.le_refl F) (by omega))]
    · have st : hsum (gT z9 24) zw (g + 1) = if gT z9 24 (44 + 6 * g + 4) = 0 then hsum (gT z9 24) zw g + gT zw 13 g else hsum (gT z9 24) zw g := rfl
      rw [if_neg (nI_ge (by omega) (by omega)), bd_eq (cpl_n (gone_lt dF) (by omega)), gone_bit (by omega) (d7 g (by omega)), nI_1]
      simp only [jn]
      by_cases q : gT z9 24 (44 + 6 * g + 4) = 0
      · rw [decide_eq_false (fun k => k q), if_neg (by decide), bd_eq (at_k (nI_toInt (n := g) (by omega)) (by omega) (by decide))]
        rw [if_pos q] at st
        rw [← st]
        exact ih (g + 1) (by omega) (by omega)
      · rw [decide_eq_true q, if_pos rfl, if_pos rfl]
        rw [if_neg q] at st
        rw [← st]
        exact ih (g + 1) (by omega) (by omega)
theorem hidc_eq {F : Nat} (hw : WKT zw (gT z9 24)) (d0 : gT z9 24 0 = nI F) (dF : F ≤ 10) (d7 : ∀ g : Nat, g < F → gT z9 24 (44 + 6 * g + 4) = 0 ∨ gT z9 24 (44 + 6 * g + 4) = 1 ∨ gT z9 24 (44 + 6 * g + 4) = 2) : lX7_together_5 zw 10 (gT zw 13) (nI (bmf (gT z9 24) 1 F ||| bmf (gT z9 24) 2 F) ^^^ (-1)) FU 0 0 = some (hsum (gT z9 24) zw F) := hid_class hw d0 dF d7 FU 0 (by omega) (FU_lt (by omega))
theorem hid_ref {F : Nat} (hw : WKT zw (gT z9 24)) (d0 : gT z9 24 0 = nI F) (dF : F ≤ 10) : ∀ (n g : Nat), g ≤ F → F - g < n → lX9_hidden_4 z9 n (hsum (gT z9 24) zw g) (nI g) = some (hsum (gT z9 24) zw F) := by
  have hFi : (gT z9 24 0).toInt = F := by rw [d0, nI_toInt (by omega)]
  intro n
  induction n with
  | zero => intro g _ hm; omega
  | succ n ih =>
    intro g hg hm
    rw [lX9_hidden_4, d0]
    by_cases c : g = F
    · rw [c, if_pos (nI_le (Nat.le_refl F) (by omega))]
    · have st : hsum (gT z9 24) zw (g + 1) = if gT z9 24 (44 + 6 * g + 4) = 0 then hsum (gT z9 24) zw g + gT zw 13 g else hsum (gT z9 24) zw g := rfl
      have ef4 : fX9_faultOf z9 (nI g) 4 = some (gT z9 24 (44 + 6 * g + 4)) := fo_eq (j := 4) (by omega) (by omega)
      obtain ⟨b1, b2, b3, b4, b5, b6, b7, b8, b9, b10, b11⟩ := hw.2.2.2.2 g (by omega)
      obtain ⟨k, hki⟩ : ∃ k : Nat, (gT zw 8 g).toInt = k := ⟨(gT zw 8 g).toInt.toNat, by omega⟩
      have hk1 := hw.1.2.2
      have hk : gT z9 24 (44 + 6 * g) = nI k := by rw [← b1]; exact Int32.toInt_inj.1 (by rw [hki, nI_toInt (by omega)])
      have ehd : gT zw 13 g = gT z9 24 (26 + 3 * k + 1) := by rw [b10, n_cl hki]; exact (hw.2.2.2.1 k (by omega)).2.1
      have ek : fX9_kindOf z9 (nI g) 1 = some (gT z9 24 (26 + 3 * k + 1)) := ko_eq (j := 1) (by omega) hk (by omega) (by omega)
      rw [if_neg (nI_ge (by omega) (by omega)), bd_eq ef4, nI_1]
      simp only [jn]
      by_cases q : gT z9 24 (44 + 6 * g + 4) = 0
      · rw [if_pos q, bd_eq ek, ← ehd]
        rw [if_pos q] at st
        rw [← st]
        exact ih (g + 1) (by omega) (by omega)
      · rw [if_neg q, Int32.add_zero]
        rw [if_neg q] at st
        rw [← st]
        exact ih (g + 1) (by omega) (by omega)
theorem fill_run {n0 : Nat} (hn : n0 ≤ 400) {v : Int32} : ∀ (n i : Nat) (f : Nat → Int32), i ≤ n0 → n0 - i < n → ∃ h, lJ7_fill_53178_5 n0 v (nI n0) n f (nI i) = some h ∧ (∀ j : Nat, i ≤ j → j < n0 → h j = v) ∧ ∀ j : Nat, j < i → h j = f j := by
  intro n
  induction n with
  | zero => intro i f _ hm; omega
  | succ n ih =>
    intro i f hi hm
    rw [lJ7_fill_53178_5]
    by_cases c : i = n0
    · rw [c, if_pos (nI_le (Nat.le_refl n0) (by omega))]
      exact ⟨f, rfl, fun j h1 h2 => by omega, fun _ _ => rfl⟩
    · rw [if_neg (nI_ge (by omega) (by omega)), gd_pos (in_n (by omega) (by omega)), nI_clamp (by omega), nI_1]
      obtain ⟨h, e, h1, h2⟩ := ih (i + 1) (upd f i v) (by omega) (by omega)
      refine ⟨h, e, fun j a b => ?_, fun j a => ?_⟩
      · by_cases d : j = i
        · rw [h2 j (by omega), d]; exact if_pos rfl
        · exact h1 j (by omega) b
      · rw [h2 j (by omega)]; exact if_neg (by omega)
theorem begin_class {v : Int32} : ∃ yd, fX0_begin zd v = some yd ∧ gI yd 0 = v ∧ gI yd 1 = 0 ∧ gI yd 2 = 0 ∧ gI yd 3 = gI zd 3 ∧ gI yd 4 = gI zd 4 ∧ ∀ j : Nat, j < 10 → gT yd 5 j = 0 := by
  obtain ⟨h, e, h1, -⟩ := fill_run (n0 := 10) (by decide) (v := 0) FU 0 (gT (sI (sI (sI zd 0 v) 1 0) 2 0) 5) (by omega) (FU_lt (by omega))
  refine ⟨sTf (sI (sI (sI zd 0 v) 1 0) 2 0) 5 h, ?_, rfl, rfl, rfl, rfl, rfl, fun j hj => h1 j (by omega) hj⟩
  unfold fX0_begin fJ7_fill_53178
  rw [show lJ7_fill_53178_5 10 0 (nI 10) FU (gT (sI (sI (sI zd 0 v) 1 0) 2 0) 5) 0 = some h from e]
  rfl
/-- the reference begins a DAY -/
theorem beg_run {F : Nat} (hF : F ≤ 10) : ∀ (n g : Nat) (z : Sx), gT z 24 0 = nI F → g ≤ F → F - g < n → ∃ y, lX9_begins_21 n z (nI g) = some y ∧ FrL [24] z y ∧ (∀ j : Nat, g ≤ j → j < F → gT y 24 (44 + 6 * j + 4) = (if gT z 24 (44 + 6 * j + 4) = 1 then 0 else gT z 24 (44 + 6 * j + 4)) ∧ gT y 24 (44 + 6 * j + 5) = 0) ∧ ∀ i : Nat, (i < 44 + 6 * g ∨ ¬ 4 ≤ (i - 44) % 6) → gT y 24 i = gT z 24 i := by
  intro n
  induction n with
  | zero => intro g z _ _ hm; omega
  | succ n ih =>
    intro g z h0 hg hm
    have e6 : (6 * nI g : Int32) = nI (6 * g) := Int32.toInt_inj.1 (by rw [i32_mul (show (6 : Int32).toInt = 6 by decide) (nI_toInt (n := g) (by omega)) (by omega) (by omega), nI_toInt (by omega)]; omega)
    have e44 : (44 : Int32) + nI (6 * g) = nI (44 + 6 * g) := nI_add 44 (6 * g)
    have a4 : nI (44 + 6 * g) + 4 = nI (44 + 6 * g + 4) := nI_add (44 + 6 * g) 4
    have a5 : nI (44 + 6 * g) + 5 = nI (44 + 6 * g + 5) := nI_add (44 + 6 * g) 5
    rw [lX9_begins_21, h0]
    by_cases c : g = F
    · rw [c, if_pos (nI_le (Nat.le_refl F) (by omega))]
      exact ⟨z, rfl, fr_rf, fun j h1 h2 => by omega, fun _ _ => rfl⟩
    · have c4 : (nI (44 + 6 * g + 4)).toNatClampNeg = 44 + 6 * g + 4 := nI_clamp (by omega)
      have c5 : (nI (44 + 6 * g + 5)).toNatClampNeg = 44 + 6 * g + 5 := nI_clamp (by omega)
      obtain ⟨w, hw⟩ : ∃ w : Int32, w = (if gT z 24 (44 + 6 * g + 4) = 1 then 0 else gT z 24 (44 + 6 * g + 4)) := ⟨_, rfl⟩
      have eS : (if nI F ≤ nI g then some z else gd (inb ((44 + (6 * (nI g))) + 4) 104) (jn (fun (i4 : Int32) (i5 : Int32) => gd (inb i5 104) (gd (inb ((44 + (6 * (nI g))) + 5) 104) (lX9_begins_21 n (sT (sT z 24 i5.toNatClampNeg i4) 24 (((44 + (6 * (nI g))) + 5).toNatClampNeg) 0) (nI g + 1)))) (fun J3 => if (gT z 24 (((44 + (6 * (nI g))) + 4).toNatClampNeg)) = 1 then J3 0 ((44 + (6 * (nI g))) + 4) else J3 (gT z 24 (((44 + (6 * (nI g))) + 4).toNatClampNeg)) ((44 + (6 * (nI g))) + 4)))) = lX9_begins_21 n (sT (sT z 24 (44 + 6 * g + 4) w) 24 (44 + 6 * g + 5) 0) (nI (g + 1)) := by
        rw [if_neg (nI_ge (by omega) (by omega)), e6, e44, a4, a5, nI_1, gd_pos (in_n (by omega) (by omega)), c4]
        simp only [jn]
        by_cases q : gT z 24 (44 + 6 * g + 4) = 1
        · rw [if_pos q, gd_pos (in_n (by omega) (by omega)), gd_pos (in_n (by omega) (by omega)), c4, c5, hw, if_pos q]
        · rw [if_neg q, gd_pos (in_n (by omega) (by omega)), gd_pos (in_n (by omega) (by omega)), c4, c5, hw, if_neg q]
      rw [eS]
      have o0 : gT (sT (sT z 24 (44 + 6 * g + 4) w) 24 (44 + 6 * g + 5) 0) 24 0 = nI F := (t24_ne (by omega)).trans ((t24_ne (by omega)).trans h0)
      obtain ⟨y, e, f, h1, h2⟩ := ih (g + 1) (sT (sT z 24 (44 + 6 * g + 4) w) 24 (44 + 6 * g + 5) 0) o0 (by omega) (by omega)
      have o1 : ∀ i : Nat, ¬ i = 44 + 6 * g + 4 → ¬ i = 44 + 6 * g + 5 → gT (sT (sT z 24 (44 + 6 * g + 4) w) 24 (44 + 6 * g + 5) 0) 24 i = gT z 24 i := fun i a b => (t24_ne b).trans (t24_ne a)
      refine ⟨y, e, fr_tr (fr_T (fr_T fr_rf (by decide)) (by decide)) f (by decide), fun j a b => ?_, fun i a => ?_⟩
      · by_cases d : j = g
        · subst d
          rw [h2 _ (by omega), h2 _ (by omega)]
          exact ⟨((t24_ne (by omega)).trans t24_eq).trans hw, t24_eq⟩
        · have := h1 j (by omega) b
          rw [o1 _ (by omega) (by omega)] at this
          exact this
      · rw [h2 i (by omega)]
        exact o1 i (by omega) (by omega)
theorem dawn_d {y : Int32 × Sx × Sx} {y9 : Int32 × Sx} (hw : WKT zw (gT z9 24)) (hd : DR zd (gT z9 24)) (hs : S6 z5 (gT z9 24)) (hy : fX8_dawn z8 z5 zw zd = some y) (hy9 : fX9_dawn z9 = some y9) : y.1 = y9.1 ∧ S6 y.2.1 (gT y9.2 24) ∧ DR y.2.2 (gT y9.2 24) := by
  obtain ⟨F, d0, dF, d1, d2, d3, d4, d5, d6, d7, d8⟩ := id hd
  have eg : fX0_gone zd = some (nI (bmf (gT z9 24) 1 F ||| bmf (gT z9 24) 2 F)) := by unfold fX0_gone; rw [d3, d4, or_n]
  have ec : fX7_hiddenCoins zw (nI (bmf (gT z9 24) 1 F ||| bmf (gT z9 24) 2 F)) = some (hsum (gT z9 24) zw F) := by
    unfold fX7_hiddenCoins fX7_together
    rw [bd_eq (hidc_eq hw d0 dF d7)]
  have er : fX9_hidden z9 = some (hsum (gT z9 24) zw F) := hid_ref hw d0 dF FU 0 (by omega) (FU_lt (by omega))
  unfold fX8_dawn fX8_hasWork at hy
  unfold fX9_dawn fX9_isWork at hy9
  rw [hw.2.1.1] at hy
  by_cases c : gT z9 24 0 ≤ 0
  · rw [if_pos c, bd_eq rfl, if_pos rfl] at hy hy9
    obtain rfl := Option.some.inj hy
    obtain rfl := Option.some.inj hy9
    exact ⟨rfl, hs, hd⟩
  rw [if_neg c, bd_eq rfl, if_neg one0] at hy hy9
  obtain ⟨yd, g1, g2, g3, g4, g5, g6, g7⟩ := begin_class (zd := zd) (v := gI zw 1)
  rw [bd_eq eg, bd_eq ec, bd_eq g1] at hy
  obtain rfl := Option.some.inj hy
  rw [bd_eq er] at hy9
  obtain ⟨y1, hy1⟩ : ∃ y1, y1 = sT z9 24 5 (gT z9 24 5 + hsum (gT z9 24) zw F) := ⟨_, rfl⟩
  have t1 : ∀ i : Nat, gT y1 24 i = if i = 5 then gT z9 24 5 + hsum (gT z9 24) zw F else gT z9 24 i := fun i => by rw [hy1]; rfl
  obtain ⟨y2, hy2⟩ : ∃ y2, y2 = sT y1 24 6 (gT z9 24 6 + gT z9 24 4) := ⟨_, rfl⟩
  have t2 : ∀ i : Nat, gT y2 24 i = if i = 6 then gT z9 24 6 + gT z9 24 4 else if i = 5 then gT z9 24 5 + hsum (gT z9 24) zw F else gT z9 24 i := fun i => by rw [hy2, ← t1]; rfl
  obtain ⟨y3, hy3⟩ : ∃ y3, y3 = sT y2 24 7 (gT z9 24 7 + 1) := ⟨_, rfl⟩
  have t3 : ∀ i : Nat, gT y3 24 i = if i = 7 then gT z9 24 7 + 1 else if i = 6 then gT z9 24 6 + gT z9 24 4 else if i = 5 then gT z9 24 5 + hsum (gT z9 24) zw F else gT z9 24 i := fun i => by rw [hy3, ← t2]; rfl
  obtain ⟨y4, hy4⟩ : ∃ y4, y4 = sT (sT y3 24 3 (gT z9 24 2)) 24 4 0 := ⟨_, rfl⟩
  have t4 : ∀ i : Nat, gT y4 24 i = if i = 4 then 0 else if i = 3 then gT z9 24 2 else gT y3 24 i := fun i => by rw [hy4]; rfl
  have u0 : gT y4 24 0 = nI F := by rw [t4, if_neg (by omega), if_neg (by omega), t3, if_neg (by omega), if_neg (by omega), if_neg (by omega)]; exact d0
  obtain ⟨v, e, f, h1, h2⟩ := beg_run dF FU 0 y4 u0 (by omega) (FU_lt (by omega))
  have eb : fX9_begins y3 = some v := by
    unfold fX9_begins
    have e2 : gT y3 24 2 = gT z9 24 2 := by rw [t3, if_neg (by omega), if_neg (by omega), if_neg (by omega)]
    rw [e2, ← hy4]
    exact e
  have hy9 : bd (fX9_begins (sT (sT (sT z9 24 5 (gT z9 24 5 + hsum (gT z9 24) zw F)) 24 6 (gT (sT z9 24 5 (gT z9 24 5 + hsum (gT z9 24) zw F)) 24 6 + gT (sT z9 24 5 (gT z9 24 5 + hsum (gT z9 24) zw F)) 24 4)) 24 7 (gT (sT (sT z9 24 5 (gT z9 24 5 + hsum (gT z9 24) zw F)) 24 6 (gT (sT z9 24 5 (gT z9 24 5 + hsum (gT z9 24) zw F)) 24 6 + gT (sT z9 24 5 (gT z9 24 5 + hsum (gT z9 24) zw F)) 24 4)) 24 7 + 1))) (fun z9 => some (gT z9 24 5, z9)) = some y9 := hy9
  have k6 : gT y1 24 6 = gT z9 24 6 := by rw [t1, if_neg (by omega)]
  have k4 : gT y1 24 4 = gT z9 24 4 := by rw [t1, if_neg (by omega)]
  have k7 : gT y2 24 7 = gT z9 24 7 := by rw [t2, if_neg (by omega), if_neg (by omega)]
  rw [← hy1, k6, k4, ← hy2, k7, ← hy3, bd_eq eb] at hy9
  obtain rfl := Option.some.inj hy9
  have lo : ∀ i : Nat, i < 44 → gT v 24 i = gT y4 24 i := fun i hi => h2 i (by omega)
  have v5 : gT v 24 5 = gT z9 24 5 + hsum (gT z9 24) zw F := by rw [lo 5 (by omega), t4, if_neg (by omega), if_neg (by omega), t3, if_neg (by omega), if_neg (by omega), if_pos rfl]
  have v6 : gT v 24 6 = gT z9 24 6 + gT z9 24 4 := by rw [lo 6 (by omega), t4, if_neg (by omega), if_neg (by omega), t3, if_neg (by omega), if_pos rfl]
  have vs : ∀ j : Nat, j < F → gT v 24 (44 + 6 * j + 4) = (if gT z9 24 (44 + 6 * j + 4) = 1 then 0 else gT z9 24 (44 + 6 * j + 4)) := fun j hj => by
    have := (h1 j (by omega) hj).1
    have e4 : gT y4 24 (44 + 6 * j + 4) = gT z9 24 (44 + 6 * j + 4) := by rw [t4, if_neg (by omega), if_neg (by omega), t3, if_neg (by omega), if_neg (by omega), if_neg (by omega)]
    rw [e4] at this
    exact this
  have vb : bmf (gT v 24) 1 F = 0 := Nat.eq_of_testBit_eq (fun j => by
    rw [bm_bit, Nat.zero_testBit]
    refine decide_eq_false (fun q => ?_)
    have := q.2
    rw [vs j q.1] at this
    by_cases r : gT z9 24 (44 + 6 * j + 4) = 1
    · rw [if_pos r] at this; revert this; decide
    · rw [if_neg r] at this; exact r this)
  have vc : bmf (gT v 24) 2 F = bmf (gT z9 24) 2 F := bm_cg F (fun j hj => by
    rw [vs j hj]
    by_cases r : gT z9 24 (44 + 6 * j + 4) = 1
    · rw [if_pos r, r]; exact ⟨fun q => by revert q; decide, fun q => by revert q; decide⟩
    · rw [if_neg r])
  refine ⟨?_, ⟨?_, ?_⟩, F, ?_, dF, ?_, ?_, ?_, ?_, ?_, ?_, fun j hj => ?_, fun j hj => ?_⟩
  · show gI z5 2 + hsum (gT z9 24) zw F = gT v 24 5
    rw [v5, hs.1]
  · show gI z5 2 + hsum (gT z9 24) zw F = gT v 24 5
    rw [v5, hs.1]
  · show gI z5 3 + gI zd 1 = gT v 24 6
    rw [v6, hs.2, d2]
  · rw [lo 0 (by omega)]; exact u0
  · rw [lo 3 (by omega), t4, if_neg (by omega), if_pos rfl, ← hw.2.2.1]; exact g2
  · rw [lo 4 (by omega), t4, if_pos rfl]; exact g3
  · rw [vb]; exact g4
  · rw [vc]; exact g5.trans d4
  · rw [lo 9 (by omega), t4, if_neg (by omega), if_neg (by omega), t3, if_neg (by omega), if_neg (by omega), if_neg (by omega)]; exact g6.trans d5
  · rw [lo 9 (by omega), t4, if_neg (by omega), if_neg (by omega), t3, if_neg (by omega), if_neg (by omega), if_neg (by omega)]; exact d6
  · rw [vs j hj]
    by_cases r : gT z9 24 (44 + 6 * j + 4) = 1
    · rw [if_pos r]; exact Or.inl rfl
    · rw [if_neg r]; exact d7 j hj
  · rw [(h1 j (by omega) hj).2]; exact g7 j (by omega)
end S11

/-! FINE, SEED, COINS, COUNT, FAULT, MEND, on both sides. -/
def S6 (z5 : Sx) (T : Nat → Int32) : Prop := gI z5 2 = T 5 ∧ gI z5 3 = T 6
theorem dr_cg {zd : Sx} {T T2 : Nat → Int32} (h : DR zd T) (e : ∀ i : Nat, (i = 0 ∨ i = 3 ∨ i = 4 ∨ i = 9 ∨ (44 ≤ i ∧ 4 ≤ (i - 44) % 6)) → T2 i = T i) : DR zd T2 := by
  obtain ⟨F, d0, dF, d1, d2, d3, d4, d5, d6, d7, d8⟩ := h
  have es : ∀ g : Nat, T2 (44 + 6 * g + 4) = T (44 + 6 * g + 4) := fun g => e _ (by omega)
  have b1 : ∀ s : Int32, bmf T2 s F = bmf T s F := fun s => bm_cg F (fun g _ => by rw [es])
  refine ⟨F, by rw [e 0 (by omega)]; exact d0, dF, by rw [e 3 (by omega)]; exact d1, by rw [e 4 (by omega)]; exact d2, by rw [b1]; exact d3, by rw [b1]; exact d4, by rw [e 9 (by omega)]; exact d5, by rw [e 9 (by omega)]; exact d6, fun g hg => by rw [es]; exact d7 g hg, fun g hg => by rw [e (44 + 6 * g + 5) (by omega)]; exact d8 g hg⟩
theorem dr_4 {zd : Sx} {T T2 : Nat → Int32} {v : Int32} (h : DR zd T) (e : ∀ i : Nat, ¬ i = 4 → T2 i = T i) (e4 : T2 4 = v) : DR (sI zd 1 v) T2 := by
  obtain ⟨F, d0, dF, d1, d2, d3, d4, d5, d6, d7, d8⟩ := h
  have es : ∀ g : Nat, T2 (44 + 6 * g + 4) = T (44 + 6 * g + 4) := fun g => e _ (by omega)
  have b1 : ∀ s : Int32, bmf T2 s F = bmf T s F := fun s => bm_cg F (fun g _ => by rw [es])
  refine ⟨F, by rw [e 0 (by omega)]; exact d0, dF, by rw [e 3 (by omega)]; exact d1, e4.symm, by rw [b1]; exact d3, by rw [b1]; exact d4, by rw [e 9 (by omega)]; exact d5, by rw [e 9 (by omega)]; exact d6, fun g hg => by rw [es]; exact d7 g hg, fun g hg => by rw [e (44 + 6 * g + 5) (by omega)]; exact d8 g hg⟩
theorem dr_9 {zd : Sx} {T T2 : Nat → Int32} {v : Int32} (h : DR zd T) (e : ∀ i : Nat, ¬ i = 9 → T2 i = T i) (e9 : T2 9 = v) (hv : 0 ≤ v.toInt) : DR (sI zd 4 v) T2 := by
  obtain ⟨F, d0, dF, d1, d2, d3, d4, d5, d6, d7, d8⟩ := h
  have es : ∀ g : Nat, T2 (44 + 6 * g + 4) = T (44 + 6 * g + 4) := fun g => e _ (by omega)
  have b1 : ∀ s : Int32, bmf T2 s F = bmf T s F := fun s => bm_cg F (fun g _ => by rw [es])
  refine ⟨F, by rw [e 0 (by omega)]; exact d0, dF, by rw [e 3 (by omega)]; exact d1, by rw [e 4 (by omega)]; exact d2, by rw [b1]; exact d3, by rw [b1]; exact d4, e9.symm, by rw [e9]; exact hv, fun g hg => by rw [es]; exact d7 g hg, fun g hg => by rw [e (44 + 6 * g + 5) (by omega)]; exact d8 g hg⟩
section S10
variable {zw zd z5 z8 z9 : Sx} {x1 x2 : Int32}
theorem t24_sT {z : Sx} {i j : Nat} {v : Int32} (h : ¬ j = i) : gT (sT z 24 i v) 24 j = gT z 24 j := t24_ne h
theorem fine_k {y y9 : Int32 × Sx} (hw : WKT zw (gT z9 24)) (hd : DR zd (gT z9 24)) (hy : fX8_fine z8 z5 zw zd x1 = some y) (hy9 : fX9_fine z9 x1 = some y9) : y.1 = y9.1 ∧ DR y.2 (gT y9.2 24) ∧ ∀ i : Nat, ¬ DZ i → gT y9.2 24 i = gT z9 24 i := by
  have hd4 : gI zd 1 = gT z9 24 4 := by obtain ⟨F, d0, dF, d1, d2, -⟩ := hd; exact d2
  have i0 : (0 : Int32).toInt = 0 := by decide
  have i9 : (999 : Int32).toInt = 999 := by decide
  have i2 : fX9_in x1.toInt64 0 999 = some (if x1 < 0 then 0 else if 999 < x1 then 0 else 1) := in32t (l := 0) (h := 999) (by decide) (by decide)
  have out : ∀ (r : Int32) {u u9 : Int32 × Sx}, u = (r, zd) → u9 = (r, z9) → u.1 = u9.1 ∧ DR u.2 (gT u9.2 24) ∧ ∀ i : Nat, ¬ DZ i → gT u9.2 24 i = gT z9 24 i := fun r u u9 e e9 => by rw [e, e9]; exact ⟨rfl, hd, fun _ _ => rfl⟩
  unfold fX8_fine fX8_hasWork at hy
  unfold fX9_fine fX9_isWork at hy9
  rw [hw.2.1.1] at hy
  simp only [jn] at hy9
  by_cases c : gT z9 24 0 ≤ 0
  · rw [if_pos c, bd_eq rfl, if_pos rfl] at hy hy9
    exact out _ (Option.some.inj hy).symm (Option.some.inj hy9).symm
  rw [if_neg c, bd_eq rfl, if_neg one0] at hy hy9
  rw [bd_eq i2] at hy9
  by_cases c1 : x1 < 0
  · rw [if_pos c1] at hy
    rw [if_pos c1, if_pos rfl] at hy9
    exact out _ (Option.some.inj hy).symm (Option.some.inj hy9).symm
  rw [if_neg c1] at hy hy9
  by_cases c2 : x1 ≤ 999
  · rw [if_pos c2] at hy
    rw [if_neg (show ¬ 999 < x1 from fun k => by have a := bI_lt i9 rfl k; have b := bI_le rfl i9 c2; omega), if_neg one0] at hy9
    obtain rfl := Option.some.inj hy
    obtain rfl := Option.some.inj hy9
    rw [hd4]
    show gT z9 24 4 - x1 = gT (sT z9 24 4 (gT z9 24 4 - x1)) 24 4 ∧ DR (sI zd 1 (gT z9 24 4 - x1)) (gT (sT z9 24 4 (gT z9 24 4 - x1)) 24) ∧ ∀ i : Nat, ¬ DZ i → gT (sT z9 24 4 (gT z9 24 4 - x1)) 24 i = gT z9 24 i
    exact ⟨t24_eq.symm, dr_4 hd (fun i hi => t24_sT hi) t24_eq, fun i hi => t24_sT (fun k => hi (by unfold DZ; omega))⟩
  · rw [if_neg c2] at hy
    rw [if_pos (show 999 < x1 from (i32_lt _ _).2 (by have := bI_nle rfl i9 c2; rw [i9]; omega)), if_pos rfl] at hy9
    exact out _ (Option.some.inj hy).symm (Option.some.inj hy9).symm
theorem seed_k {y y9 : Int32 × Sx} (hd : DR zd (gT z9 24)) (hy : fX8_seed z8 z5 zd x1 = some y) (hy9 : fX9_seed z9 x1 = some y9) : y.1 = y9.1 ∧ DR y.2 (gT y9.2 24) ∧ ∀ i : Nat, ¬ DZ i → gT y9.2 24 i = gT z9 24 i := by
  have hd9 : gI zd 4 = gT z9 24 9 := by obtain ⟨F, d0, dF, d1, d2, d3, d4, d5, -⟩ := hd; exact d5
  unfold fX8_seed at hy
  unfold fX9_seed at hy9
  by_cases c : 0 ≤ x1
  · rw [if_pos c] at hy hy9
    obtain rfl := Option.some.inj hy
    obtain rfl := Option.some.inj hy9
    exact ⟨hd9, dr_9 hd (fun i hi => t24_sT hi) t24_eq (by have := bI_le (show (0 : Int32).toInt = 0 by decide) rfl c; omega), fun i hi => t24_sT (fun k => hi (by unfold DZ; omega))⟩
  · rw [if_neg c] at hy hy9
    obtain rfl := Option.some.inj hy
    obtain rfl := Option.some.inj hy9
    exact ⟨rfl, hd, fun _ _ => rfl⟩
theorem coins_k {y y9 : Int32} (hd : DR zd (gT z9 24)) (hs : S6 z5 (gT z9 24)) (hy : fX8_coins z8 z5 zd x1 = some y) (hy9 : fX9_coins z9 x1 = some y9) : y = y9 := by
  have hd4 : gI zd 1 = gT z9 24 4 := by obtain ⟨F, d0, dF, d1, d2, -⟩ := hd; exact d2
  have i2 : fX9_in x1.toInt64 0 2 = some (if x1 < 0 then 0 else if 2 < x1 then 0 else 1) := in32t (l := 0) (h := 2) (by decide) (by decide)
  have z0 : (0 : Int32).toInt = 0 := by decide
  have z1 : (1 : Int32).toInt = 1 := by decide
  have z2 : (2 : Int32).toInt = 2 := by decide
  unfold fX8_coins at hy
  unfold fX9_coins at hy9
  rw [bd_eq i2] at hy9
  have e4 : ∀ k : Nat, k < 3 → x1 = nI k → y9 = gT z9 24 (4 + k) := fun k hk ex => by
    have c0 : ¬ x1 < 0 := by rw [ex]; exact nI_pos (by omega)
    have c2 : ¬ 2 < x1 := by rw [ex]; exact nI_nlt (a := 2) (by omega) (by decide)
    have e : (4 : Int32) + nI k = nI (4 + k) := nI_add 4 k
    rw [if_neg c0, if_neg c2, if_neg one0, ex, e, gd_pos (in_n (by omega) (by omega)), nI_clamp (by omega)] at hy9
    exact (Option.some.inj hy9).symm
  by_cases d0 : x1 = 0
  · rw [if_pos d0] at hy
    rw [e4 0 (by omega) d0, ← Option.some.inj hy]; exact hd4
  rw [if_neg d0] at hy
  by_cases d1 : x1 = 1
  · rw [if_pos d1] at hy
    rw [e4 1 (by omega) d1, ← Option.some.inj hy]; exact hs.1
  rw [if_neg d1] at hy
  by_cases d2 : x1 = 2
  · rw [if_pos d2] at hy
    rw [e4 2 (by omega) d2, ← Option.some.inj hy]; exact hs.2
  rw [if_neg d2] at hy
  have n0 := bI_neq rfl z0 d0
  have n1 := bI_neq rfl z1 d1
  have n2 := bI_neq rfl z2 d2
  have hr : (if x1 < 0 then (0 : Int32) else if 2 < x1 then 0 else 1) = 0 := by
    by_cases q : x1 < 0
    · rw [if_pos q]
    · have := bI_nlt rfl z0 q
      rw [if_neg q, if_pos ((i32_lt _ _).2 (by rw [z2]; omega))]
  rw [hr, if_pos rfl] at hy9
  exact (Option.some.inj hy).symm.trans (Option.some.inj hy9)
theorem bm_1024 {T : Nat → Int32} {s : Int32} {F : Nat} (hF : F ≤ 10) : bmf T s F < 1024 := Nat.lt_of_lt_of_le (bm_lt F) (show 2 ^ F ≤ 2 ^ 10 from Nat.pow_le_pow_right (by decide) hF)
theorem count_k {y y9 : Int32} (hj : JT z8 z9) (hw : WKT zw (gT z9 24)) (h5 : S5 z5 (gT z9 24)) (hd : DR zd (gT z9 24)) (hy : fX8_count z8 z5 zw zd x1 = some y) (hy9 : fX9_count z9 x1 = some y9) : y = y9 := by
  obtain ⟨F, d0, dF, d1, d2, d3, d4, d5, d6, d7, d8⟩ := hd
  obtain ⟨N, t, hT, ht, j3, j2⟩ := hj
  unfold fX8_count at hy
  unfold fX9_count at hy9
  have fin : ∀ {u v : Int32}, some u = some y → some v = some y9 → u = v → y = y9 := fun a b c => by rw [← Option.some.inj a, ← Option.some.inj b]; exact c
  by_cases c0 : x1 = 0
  · subst c0
    rw [if_pos rfl] at hy hy9
    rw [gd_pos (show inb 0 104 by decide)] at hy9
    exact fin hy hy9 hw.2.1.1
  rw [if_neg c0] at hy hy9
  by_cases c1 : x1 = 1
  · subst c1
    rw [if_pos rfl] at hy hy9
    rw [gd_pos (show inb 1 104 by decide)] at hy9
    exact fin hy hy9 hw.1.1
  rw [if_neg c1] at hy hy9
  by_cases c2 : x1 = 2
  · rw [if_pos c2] at hy hy9
    exact fin hy hy9 (j3.trans j2.symm)
  rw [if_neg c2] at hy hy9
  by_cases c3 : x1 = 3
  · rw [if_pos c3] at hy hy9
    exact fin hy hy9 d1
  rw [if_neg c3] at hy hy9
  by_cases c4 : x1 = 4
  · obtain ⟨r, r1, r2⟩ := cnt_both (bm_1024 (T := gT z9 24) (s := 1) dF)
    rw [if_pos c4, d3, bd_eq r1] at hy
    rw [if_pos c4, bd_eq (that_eq d0 dF), bd_eq r2] at hy9
    exact fin hy hy9 rfl
  rw [if_neg c4] at hy hy9
  by_cases c5 : x1 = 5
  · obtain ⟨r, r1, r2⟩ := cnt_both (bm_1024 (T := gT z9 24) (s := 2) dF)
    rw [if_pos c5, d4, bd_eq r1] at hy
    rw [if_pos c5, bd_eq (that_eq d0 dF), bd_eq r2] at hy9
    exact fin hy hy9 rfl
  rw [if_neg c5] at hy hy9
  by_cases c6 : x1 = 6
  · rw [if_pos c6] at hy hy9
    exact fin hy hy9 h5.2.1
  rw [if_neg c6] at hy hy9
  by_cases c7 : x1 = 7
  · rw [if_pos c7] at hy hy9
    exact fin hy hy9 d5
  rw [if_neg c7] at hy hy9
  by_cases c8 : x1 = 8
  · rw [if_pos c8] at hy hy9
    exact fin hy hy9 (hT.1.trans hT.2.1.symm)
  rw [if_neg c8] at hy hy9
  by_cases c9 : x1 = 9
  · rw [if_pos c9] at hy hy9
    exact fin hy hy9 h5.1
  rw [if_neg c9] at hy hy9
  by_cases c10 : x1 = 10
  · rw [if_pos c10] at hy hy9
    exact fin hy hy9 hw.2.2.1
  rw [if_neg c10] at hy hy9
  exact fin hy hy9 rfl
theorem has_n {a g : Nat} (ha : a < 1024) (hg : g < 10) : fX8_has (nI a) (nI g) = some (if a.testBit g = true then 1 else 0) := by
  have := has_f ha hg
  unfold fX8_has
  cases q : a.testBit g with
  | false =>
    rw [q] at this
    rw [if_pos (of_decide_eq_true this)]; rfl
  | true =>
    rw [q] at this
    rw [if_neg (of_decide_eq_false this)]; rfl
theorem fault_k {y y9 : Int32} (hw : WKT zw (gT z9 24)) (hd : DR zd (gT z9 24)) (hy : fX8_fault z8 z5 zw zd x1 x2 = some y) (hy9 : fX9_fault z9 x1 x2 = some y9) : y = y9 := by
  obtain ⟨F, d0, dF, d1, d2, d3, d4, d5, d6, d7, d8⟩ := hd
  have hFi : (gT z9 24 0).toInt = F := by rw [d0, nI_toInt (by omega)]
  have i0 : (0 : Int32).toInt = 0 := by decide
  have i6 : (6 : Int32).toInt = 6 := by decide
  have fin : ∀ {u v : Int32}, some u = some y → some v = some y9 → u = v → y = y9 := fun a b c => by rw [← Option.some.inj a, ← Option.some.inj b]; exact c
  unfold fX8_fault fX8_isFault at hy
  unfold fX9_fault fX9_isFault at hy9
  rw [hw.2.1.1] at hy
  by_cases c2 : x1 < 0
  · rw [if_pos c2, bd_eq rfl, if_pos rfl] at hy hy9
    exact fin hy hy9 rfl
  rw [if_neg c2] at hy hy9
  by_cases c3 : gT z9 24 0 ≤ x1
  · rw [if_pos c3, bd_eq rfl, if_pos rfl] at hy hy9
    exact fin hy hy9 rfl
  rw [if_neg c3, bd_eq rfl, if_neg one0] at hy hy9
  have c2i := bI_nlt rfl i0 c2
  have c3i := bI_nle hFi rfl c3
  obtain ⟨g, hg⟩ : ∃ g : Nat, x1.toInt = g := ⟨x1.toInt.toNat, by omega⟩
  have ex : x1 = nI g := Int32.toInt_inj.1 (by rw [hg, nI_toInt (by omega)])
  subst ex
  have egi : (nI g).toInt = g := nI_toInt (by omega)
  obtain ⟨b1, b2, b3, b4, b5, b6, b7, b8, b9, -⟩ := hw.2.2.2.2 g (by omega)
  have i2 : fX9_in x2.toInt64 0 6 = some (if x2 < 0 then 0 else if 6 < x2 then 0 else 1) := in32t (l := 0) (h := 6) (by decide) (by decide)
  rw [bd_eq i2] at hy9
  have e4 : ∀ k : Nat, k < 6 → x2 = nI k → y9 = gT z9 24 (44 + 6 * g + k) := fun k hk ex => by
    rw [if_neg (show ¬ x2 < 0 by rw [ex]; exact nI_pos (by omega)), if_neg (show ¬ 6 < x2 by rw [ex]; exact nI_nlt (a := 6) (by omega) (by decide)), if_neg one0, if_neg (show ¬ 6 ≤ x2 by rw [ex]; exact nI_ge (b := 6) (by omega) (by decide)), ex, bd_eq (fo_eq (by omega) hk)] at hy9
    exact (Option.some.inj hy9).symm
  by_cases k0 : x2 = 0
  · rw [if_pos k0, bd_eq (at_k egi (by omega) (by decide))] at hy
    rw [e4 0 (by omega) k0, ← Option.some.inj hy]; exact b1
  rw [if_neg k0] at hy
  by_cases k1 : x2 = 1
  · rw [if_pos k1, bd_eq (at_k egi (by omega) (by decide))] at hy
    rw [e4 1 (by omega) k1, ← Option.some.inj hy]; exact b2
  rw [if_neg k1] at hy
  by_cases k2 : x2 = 2
  · rw [if_pos k2, bd_eq (at_k egi (by omega) (by decide))] at hy
    rw [e4 2 (by omega) k2, ← Option.some.inj hy]; exact b3
  rw [if_neg k2] at hy
  by_cases k3 : x2 = 3
  · rw [if_pos k3, bd_eq (at_k egi (by omega) (by decide))] at hy
    rw [e4 3 (by omega) k3, ← Option.some.inj hy]; exact b4
  rw [if_neg k3] at hy
  by_cases k4 : x2 = 4
  · rw [if_pos k4, d3, bd_eq (has_n (bm_1024 dF) (by omega)), bm_bit] at hy
    rw [e4 4 (by omega) k4]
    rcases d7 g (by omega) with q | q | q
    · rw [q] at hy ⊢
      rw [decide_eq_false (fun k : g < F ∧ (0 : Int32) = 1 => by have := k.2; revert this; decide), if_pos (by decide), d4, bd_eq (has_n (bm_1024 dF) (by omega)), bm_bit, q, decide_eq_false (fun k : g < F ∧ (0 : Int32) = 2 => by have := k.2; revert this; decide), if_pos (by decide)] at hy
      exact (Option.some.inj hy).symm
    · rw [q] at hy ⊢
      rw [decide_eq_true (show g < F ∧ (1 : Int32) = 1 from ⟨by omega, rfl⟩), if_pos rfl, if_neg one0] at hy
      exact (Option.some.inj hy).symm
    · rw [q] at hy ⊢
      rw [decide_eq_false (fun k : g < F ∧ (2 : Int32) = 1 => by have := k.2; revert this; decide), if_pos (by decide), d4, bd_eq (has_n (bm_1024 dF) (by omega)), bm_bit, q, decide_eq_true (show g < F ∧ (2 : Int32) = 2 from ⟨by omega, rfl⟩), if_pos rfl, if_neg one0] at hy
      exact (Option.some.inj hy).symm
  rw [if_neg k4] at hy
  by_cases k5 : x2 = 5
  · rw [if_pos k5, bd_eq (at_k egi (by omega) (by decide))] at hy
    rw [e4 5 (by omega) k5, ← Option.some.inj hy]; exact d8 g (by omega)
  rw [if_neg k5] at hy
  by_cases k6 : x2 = 6
  · obtain ⟨r, o1, o2, o3⟩ := open_eq hw d0 dF d7 (show g < F by omega)
    have eg : fX0_gone zd = some (nI (bmf (gT z9 24) 1 F ||| bmf (gT z9 24) 2 F)) := by unfold fX0_gone; rw [d3, d4, or_n]
    rw [if_pos k6, bd_eq eg, bd_eq o1] at hy
    rw [k6, if_neg (by decide), if_pos (by decide), bd_eq o2] at hy9
    rw [hy] at hy9
    exact Option.some.inj hy9
  rw [if_neg k6] at hy
  have hr : (if x2 < 0 then (0 : Int32) else if 6 < x2 then 0 else 1) = 0 := by
    by_cases q : x2 < 0
    · rw [if_pos q]
    · have a := bI_nlt rfl i0 q
      have n0 := bI_neq rfl i0 k0
      have n1 := bI_neq rfl (show (1 : Int32).toInt = 1 by decide) k1
      have n2 := bI_neq rfl (show (2 : Int32).toInt = 2 by decide) k2
      have n3 := bI_neq rfl (show (3 : Int32).toInt = 3 by decide) k3
      have n4 := bI_neq rfl (show (4 : Int32).toInt = 4 by decide) k4
      have n5 := bI_neq rfl (show (5 : Int32).toInt = 5 by decide) k5
      have n6 := bI_neq rfl i6 k6
      rw [if_neg q, if_pos ((i32_lt _ _).2 (by rw [i6]; omega))]
  rw [hr, if_pos rfl] at hy9
  exact fin hy hy9 rfl
end S10

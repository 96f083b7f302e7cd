/-! MIXED: the class's divisor, found in at most a hundred steps, is the reference's. -/
def fbn : Nat → Nat
  | 0 => 0
  | 1 => 1
  | n + 2 => fbn n + fbn (n + 1)
theorem fbn_2 (n : Nat) : fbn (n + 2) = fbn n + fbn (n + 1) := rfl
theorem remA {x y : Int64} (hy : ¬ y = 0) : (x - x / y * y).toInt.natAbs = x.toInt.natAbs % y.toInt.natAbs := by
  have h0 : y.toInt ≠ 0 := fun e => hy (Int64.toInt.inj (by rw [e]; decide))
  rw [rem64 x y h0, Int.natAbs_tmod]
theorem nz64 {y : Int64} (h : y.toInt.natAbs = 0) : y = 0 := Int64.toInt.inj (by rw [show (0 : Int64).toInt = 0 by decide]; omega)
theorem mod_sub {a b : Nat} (h0 : 0 < b) (h : b ≤ a) : a % b ≤ a - b := by
  rw [Nat.mod_eq_sub_mod h]
  exact Nat.mod_le _ _
section EU
variable {k : Int64 → Option Int64} {u v : Int64} {c : Int32}
def EUP (k : Int64 → Option Int64) (u v : Int64) (c : Int32) (j : Nat) : Prop := ∀ (x y : Int64) (x9 : Int32) (n m : Nat), y.toInt.natAbs < fbn (j + 1) → 0 ≤ x9.toInt → x9.toInt + j ≤ 100 → j < n → j < m → lX8_partOf_12 k u v c n x y x9 = bd (lX9_divisor_28 m x y) k
theorem eu_0 {x y : Int64} {x9 : Int32} {n m : Nat} (hy : y = 0) (hn : 0 < n) (hm : 0 < m) : lX8_partOf_12 k u v c n x y x9 = bd (lX9_divisor_28 m x y) k := by
  obtain ⟨n, rfl⟩ : ∃ n', n = n' + 1 := ⟨n - 1, by omega⟩
  obtain ⟨m, rfl⟩ : ∃ m', m = m' + 1 := ⟨m - 1, by omega⟩
  rw [lX8_partOf_12, lX9_divisor_28, if_pos hy]
  by_cases c1 : (100 : Int32) ≤ x9
  · rw [if_pos c1, bd_eq (if_pos hy)]
  · rw [if_neg c1, bd_eq (if_pos hy)]
theorem eu_step {x y : Int64} {x9 : Int32} {n m : Nat} (hy : ¬ y = 0) (h9 : x9.toInt < 100) (h : lX8_partOf_12 k u v c n y (x - x / y * y) (x9 + 1) = bd (lX9_divisor_28 m y (x - x / y * y)) k) : lX8_partOf_12 k u v c (n + 1) x y x9 = bd (lX9_divisor_28 (m + 1) x y) k := by
  rw [lX8_partOf_12, lX9_divisor_28, if_neg (fun q => by have := bI_le (show (100 : Int32).toInt = 100 by decide) rfl q; omega), if_neg hy, if_neg hy, gd_pos hy, gd_pos hy]
  exact h
theorem eu_all : ∀ j : Nat, EUP k u v c j ∧ EUP k u v c (j + 1)
  | 0 => by
    constructor
    · intro x y x9 n m h1 h2 h3 h4 h5
      have h1 : y.toInt.natAbs < 1 := h1
      exact eu_0 (nz64 (by omega)) (by omega) (by omega)
    · intro x y x9 n m h1 h2 h3 h4 h5
      have h1 : y.toInt.natAbs < 1 := h1
      exact eu_0 (nz64 (by omega)) (by omega) (by omega)
  | j + 1 => by
    obtain ⟨p0, p1⟩ := eu_all j
    refine ⟨p1, ?_⟩
    intro x y x9 n m h1 h2 h3 h4 h5
    by_cases hy : y = 0
    · exact eu_0 hy (by omega) (by omega)
    obtain ⟨n, rfl⟩ : ∃ n', n = n' + 1 := ⟨n - 1, by omega⟩
    obtain ⟨m, rfl⟩ : ∃ m', m = m' + 1 := ⟨m - 1, by omega⟩
    have e9 : (x9 + 1).toInt = x9.toInt + 1 := i32_add rfl (show (1 : Int32).toInt = 1 by decide) (by omega) (by omega)
    refine eu_step hy (by omega) ?_
    have hr := remA (x := x) hy
    have hy0 : 0 < y.toInt.natAbs := by
      rcases Nat.eq_zero_or_pos y.toInt.natAbs with q | q
      · exact absurd (nz64 q) hy
      · exact q
    have hlt : (x - x / y * y).toInt.natAbs < y.toInt.natAbs := rem_lt hy
    generalize x - x / y * y = r at hr hlt ⊢
    rcases Nat.lt_or_ge r.toInt.natAbs (fbn (j + 2)) with q | q
    · exact p1 y r (x9 + 1) n m q (by omega) (by omega) (by omega) (by omega)
    · by_cases hr0 : r = 0
      · exact eu_0 hr0 (by omega) (by omega)
      obtain ⟨n, rfl⟩ : ∃ n', n = n' + 1 := ⟨n - 1, by omega⟩
      obtain ⟨m, rfl⟩ : ∃ m', m = m' + 1 := ⟨m - 1, by omega⟩
      have e92 : (x9 + 1 + 1).toInt = x9.toInt + 2 := by
        rw [i32_add e9 (show (1 : Int32).toInt = 1 by decide) (by omega) (by omega)]; omega
      refine eu_step hr0 (by omega) ?_
      have hs := remA (x := y) hr0
      have hr1 : 0 < r.toInt.natAbs := by
        rcases Nat.eq_zero_or_pos r.toInt.natAbs with q | q
        · exact absurd (nz64 q) hr0
        · exact q
      have hb := mod_sub (a := y.toInt.natAbs) hr1 (by omega)
      have hf : fbn (j + 3) = fbn (j + 1) + fbn (j + 2) := rfl
      have h1 : y.toInt.natAbs < fbn (j + 3) := h1
      exact p0 r _ (x9 + 1 + 1) n m (by rw [hs]; omega) (by omega) (by omega) (by omega) (by omega)
end EU
theorem fbn_101 : 18446744073709551616 < fbn 101 := by decide +kernel
theorem partOf_eq {x0 x2 w : Int64} {x4 : Int32} (h2 : 0 ≤ x2.toInt) (h : fX9_partOf x0 x2 x4 = some w) : fX8_partOf x0 x2 x4 = some w := by
  have e0 : (0 : Int64).toInt = 0 := by decide
  have n0 : (0 : Int32).toInt = 0 := by decide
  have hd : fX9_divisor x0 x2 = lX9_divisor_28 FU (abL x0) x2 := by
    unfold fX9_divisor
    simp only [jn]
    rw [if_pos ((i64_le _ _).2 (show (0 : Int64).toInt ≤ x2.toInt by omega)), if_pos ((i64_le _ _).2 (show (0 : Int64).toInt ≤ x2.toInt by omega))]
    by_cases c : (0 : Int64) < x0
    · have ci := lI_lt e0 rfl c
      rw [if_pos ((i64_le _ _).2 (show (0 : Int64).toInt ≤ x0.toInt by omega)), show abL x0 = x0 from if_pos c]
    · have ci := lI_nlt e0 rfl c
      rw [show abL x0 = -x0 from if_neg c]
      by_cases d : (0 : Int64) ≤ x0
      · have di := lI_le e0 rfl d
        have ex : x0 = 0 := Int64.toInt.inj (by omega)
        rw [if_pos d, ex]; rfl
      · rw [if_neg d]
  unfold fX9_partOf at h
  rw [hd] at h
  unfold fX8_partOf
  have hb := natAbs64 x2
  have f1 := fbn_101
  have e : ∀ K : Int64 → Option Int64, lX8_partOf_12 K x0 x2 x4 FU (abL x0) x2 0 = bd (lX9_divisor_28 FU (abL x0) x2) K := fun K => (eu_all 100).1 (abL x0) x2 0 FU FU (show x2.toInt.natAbs < fbn 101 by omega) (by omega) (by omega) (FU_lt (by omega)) (FU_lt (by omega))
  rw [e]
  simp only [jn] at h ⊢
  by_cases c : x4 = 0
  · rw [if_pos c] at h
    obtain ⟨r, er, h⟩ := bd_some h
    obtain ⟨hr, h⟩ := gd_some h
    rw [bd_eq er, if_neg hr, if_pos c, gd_pos hr]; exact h
  · rw [if_neg c] at h
    obtain ⟨r, er, h⟩ := bd_some h
    obtain ⟨hr, h⟩ := gd_some h
    rw [bd_eq er, if_neg hr, if_neg c, gd_pos hr]; exact h
theorem in32 {x l h : Int32} {lo hi : Int64} (hl : lo.toInt = l.toInt) (hh : hi.toInt = h.toInt) : fX9_in x.toInt64 lo hi = some (if x < l then 0 else if h < x then 0 else 1) := by
  unfold fX9_in
  by_cases c1 : x < l
  · have c1i := bI_lt rfl rfl c1
    rw [if_pos c1, if_pos ((i64_lt _ _).2 (by rw [Int32.toInt_toInt64, hl]; exact c1i))]
  · have c1i := bI_nlt rfl rfl c1
    rw [if_neg c1, if_neg (fun h => by have := (i64_lt _ _).1 h; rw [Int32.toInt_toInt64, hl] at this; omega)]
    by_cases c2 : h < x
    · have c2i := bI_lt rfl rfl c2
      rw [if_pos c2, if_pos ((i64_lt _ _).2 (by rw [Int32.toInt_toInt64, hh]; exact c2i))]
    · have c2i := bI_nlt rfl rfl c2
      rw [if_neg c2, if_neg (fun h => by have := (i64_lt _ _).1 h; rw [Int32.toInt_toInt64, hh] at this; omega)]
theorem cor_01 (a b c d v : Int32) : cor a b c d v = 0 ∨ cor a b c d v = v := by
  unfold cor
  by_cases c1 : a < b
  · rw [if_pos c1]; exact Or.inl rfl
  · rw [if_neg c1]
    by_cases c2 : c < d
    · rw [if_pos c2]; exact Or.inl rfl
    · rw [if_neg c2]; exact Or.inr rfl
theorem rsts_nn (g : Nat → Int32) : 0 ≤ (rsts g).toInt := by
  unfold rsts
  rcases cor_01 (g 0) (g 2) (g 4) (g 5) 1 with a | a <;> rcases cor_01 (g 1) (g 3) (g 5) (g 4) 2 with b | b <;> rcases cor_01 (g 2) (g 0) (g 6) (g 7) 4 with c | c <;> rcases cor_01 (g 3) (g 1) (g 7) (g 6) 8 with d | d <;> rw [a, b, c, d] <;> decide
theorem abI_toInt {x : Int32} (h : -1000 ≤ x.toInt ∧ x.toInt ≤ 1000) : 0 ≤ (abI x).toInt := by
  have e0 : (0 : Int32).toInt = 0 := by decide
  by_cases c : 0 ≤ x
  · have ci := bI_le e0 rfl c
    rw [show abI x = x from if_pos c]; exact ci
  · have ci := bI_nle e0 rfl c
    rw [show abI x = 0 - x from if_neg c, i32_sub e0 rfl (by omega) (by omega)]; omega
theorem mx_core {A B x2 w : Int32} (hb : -1000 ≤ (B + A).toInt ∧ (B + A).toInt ≤ 1000) (h : (if 0 ≤ A + B then bd (fX9_partOf (1 * A).toInt64 (1 * (A + B)).toInt64 x2) (fun r => some r.toInt32) else bd (fX9_partOf (-1 * A).toInt64 (-1 * (A + B)).toInt64 x2) (fun r => some r.toInt32)) = some w) : (if 0 ≤ B + A then bd (fX8_partOf A.toInt64 (abI (B + A)).toInt64 x2) (fun r => some r.toInt32) else bd (fX8_partOf (-A).toInt64 (abI (B + A)).toInt64 x2) (fun r => some r.toInt32)) = some w := by
  have hn : 0 ≤ ((abI (B + A)).toInt64).toInt := by rw [Int32.toInt_toInt64]; exact abI_toInt hb
  rw [Int32.add_comm A B] at h
  by_cases c : 0 ≤ B + A
  · rw [if_pos c, Int32.one_mul, Int32.one_mul] at h
    obtain ⟨r, er, h⟩ := bd_some h
    have ea : abI (B + A) = B + A := if_pos c
    rw [ea] at hn
    rw [if_pos c, ea, bd_eq (partOf_eq hn er)]
    exact h
  · rw [if_neg c] at h
    obtain ⟨r, er, h⟩ := bd_some h
    have ea : abI (B + A) = 0 - (B + A) := if_neg c
    have m1 : ∀ y : Int32, -1 * y = 0 - y := fun y => by rw [Int32.zero_sub, show (-1 : Int32) * y = -(1 * y) from Int32.neg_mul 1 y, Int32.one_mul]
    rw [m1, m1, ← ea, Int32.zero_sub] at er
    rw [if_neg c, bd_eq (partOf_eq hn er)]
    exact h
theorem mixed_eq {z z5 z9 : Sx} {x1 x2 w : Int32} (hR : RI z9) (hg : ∀ i : Nat, i < 8 → gT z5 7 i = gT z9 24 (18 + i)) (h : fX9_mixed z9 x1 x2 = some w) : fX8_mixed z z5 x1 x2 = some w := by
  have e1 : (1 : Int32).toInt = 1 := by decide
  have g9 : ∀ {x : Int32} {k : Nat}, x.toInt = k → k < 8 → fX9_gameOf z9 x = some (gT z5 7 k) := fun hx hk => by rw [hg _ hk]; exact go9 hx hk
  have bd99 : ∀ k : Nat, k < 8 → -99 ≤ (gT z5 7 k).toInt ∧ (gT z5 7 k).toInt ≤ 99 := fun k hk => by rw [hg k hk]; exact so_game hR.2.1 k hk
  unfold fX9_mixed at h
  unfold fX8_mixed
  rw [bd_eq (in32 (l := 0) (h := 1) (by decide) (by decide))] at h
  by_cases c1 : x1 < 0
  · rw [if_pos c1, if_pos rfl] at h
    rw [if_pos c1]; exact h
  rw [if_neg c1] at h ⊢
  by_cases c2 : 1 < x1
  · rw [if_pos c2, if_pos rfl] at h
    rw [if_pos c2]; exact h
  rw [if_neg c2, if_neg (show ¬ (1 : Int32) = 0 by decide), bd_eq (in32 (l := 0) (h := 1) (by decide) (by decide))] at h
  rw [if_neg c2]
  by_cases c3 : x2 < 0
  · rw [if_pos c3, if_pos rfl] at h
    rw [if_pos c3]; exact h
  rw [if_neg c3] at h ⊢
  by_cases c4 : 1 < x2
  · have c4i := bI_lt e1 rfl c4
    rw [if_pos c4, if_pos rfl] at h
    rw [if_neg (show ¬ x2 ≤ 1 from fun q => by have := bI_le rfl e1 q; omega)]; exact h
  have c4i := bI_nlt e1 rfl c4
  rw [if_neg c4, if_neg (show ¬ (1 : Int32) = 0 by decide), bd_eq rests9, ← rsts_eq hg] at h
  rw [if_pos (show x2 ≤ 1 from (i32_le _ _).2 (by omega)), bd_eq rests8]
  have rn := rsts_nn (gT z5 7)
  have n0 : (0 : Int32).toInt = 0 := by decide
  by_cases cR : rsts (gT z5 7) = 0
  · rw [if_pos (show rsts (gT z5 7) ≤ 0 from (i32_le _ _).2 (by rw [cR]; omega))] at h
    rw [if_pos cR]
    simp only [jn] at h ⊢
    by_cases cx : x1 = 0
    · rw [if_pos cx] at h ⊢
      rw [bd_eq (g9 (k := 7) (by decide) (by decide)), bd_eq (g9 (k := 6) (by decide) (by decide)), if_pos cx, bd_eq (g9 (k := 4) (by decide) (by decide)), bd_eq (g9 (k := 5) (by decide) (by decide))] at h
      rw [bd_eq (at8 (k := 4) (by decide) (by decide)), bd_eq (at8 (k := 5) (by decide) (by decide)), if_pos cx, bd_eq (at8 (k := 7) (by decide) (by decide)), bd_eq (at8 (k := 6) (by decide) (by decide))]
      have b7 := bd99 7 (by decide)
      have b6 := bd99 6 (by decide)
      have b4 := bd99 4 (by decide)
      have b5 := bd99 5 (by decide)
      have s1 := i32_sub (x := gT z5 7 4) (y := gT z5 7 5) rfl rfl (by omega) (by omega)
      have s2 := i32_sub (x := gT z5 7 7) (y := gT z5 7 6) rfl rfl (by omega) (by omega)
      have s3 := i32_add s1 s2 (by omega) (by omega)
      exact mx_core (by omega) h
    · rw [if_neg cx] at h ⊢
      rw [bd_eq (g9 (k := 3) (by decide) (by decide)), bd_eq (g9 (k := 1) (by decide) (by decide)), if_neg cx, bd_eq (g9 (k := 0) (by decide) (by decide)), bd_eq (g9 (k := 2) (by decide) (by decide))] at h
      rw [bd_eq (at8 (k := 0) (by decide) (by decide)), bd_eq (at8 (k := 2) (by decide) (by decide)), if_neg cx, bd_eq (at8 (k := 3) (by decide) (by decide)), bd_eq (at8 (k := 1) (by decide) (by decide))]
      have b0 := bd99 0 (by decide)
      have b1 := bd99 1 (by decide)
      have b2 := bd99 2 (by decide)
      have b3 := bd99 3 (by decide)
      have s1 := i32_sub (x := gT z5 7 0) (y := gT z5 7 2) rfl rfl (by omega) (by omega)
      have s2 := i32_sub (x := gT z5 7 3) (y := gT z5 7 1) rfl rfl (by omega) (by omega)
      have s3 := i32_add s1 s2 (by omega) (by omega)
      exact mx_core (by omega) h
  · have rp : (rsts (gT z5 7)).toInt ≠ 0 := fun q => cR (Int32.toInt_inj.1 (by rw [q]; decide))
    rw [if_neg (show ¬ rsts (gT z5 7) ≤ 0 from fun q => by have := bI_le rfl n0 q; omega)] at h
    rw [if_neg cR]; exact h

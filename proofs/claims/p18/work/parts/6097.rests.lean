/-! RESTS, of the same eight numbers, is the same on both sides. -/
theorem at8 {f : Nat → Int32} {x : Int32} {k : Nat} (hx : x.toInt = k) (hk : k < 8) : fX8_at 8 f x = some (f k) := by
  unfold fX8_at
  have e0 : (0 : Int32).toInt = 0 := by decide
  have e8 : (nI 8).toInt = 8 := by decide
  rw [if_neg (fun h => by have := bI_lt hx e0 h; omega), if_neg (fun h => by have := bI_le e8 hx h; omega), gd_pos (inb_of (by omega) (by omega)), n_cl hx]
theorem go9 {z : Sx} {x : Int32} {k : Nat} (hx : x.toInt = k) (hk : k < 8) : fX9_gameOf z x = some (gT z 24 (18 + k)) := by
  unfold fX9_gameOf
  have e18 : (18 + x).toInt = 18 + (k : Int) := i32_add (show (18 : Int32).toInt = 18 by decide) hx (by omega) (by omega)
  have n18 : (18 + x).toNatClampNeg = 18 + k := n_cl (by rw [e18]; omega)
  rw [gd_pos (inb_of (by omega) (by omega)), n18]
/-- a corner of the game: it stays where neither gains by leaving -/
def cor (a b c d v : Int32) : Int32 := if a < b then 0 else if c < d then 0 else v
theorem rst8 {z z5 : Sx} {n : Nat} {x1 x2 v : Int32} {k k2 k4 k5 : Nat} (h4 : ¬ (4 : Int32) ≤ x2) (hk : x2.toInt = k) (h2 : (x2 ^^^ 2).toInt = k2) (h44 : (4 + x2).toInt = k4) (h5 : (4 + (x2 ^^^ 1)).toInt = k5) (hv : (1 : Int32) <<< (x2 &&& 31) = v) (l1 : k < 8) (l2 : k2 < 8) (l4 : k4 < 8) (l5 : k5 < 8) : lX8_rests_4 z z5 (n + 1) x1 x2 = lX8_rests_4 z z5 n (x1 ||| cor (gT z5 7 k) (gT z5 7 k2) (gT z5 7 k4) (gT z5 7 k5) v) (x2 + 1) := by
  have o0 : x1 ||| (0 : Int32) = x1 := Int32.or_zero
  rw [lX8_rests_4, if_neg h4, bd_eq (at8 hk l1), bd_eq (at8 h2 l2), hv]
  unfold cor
  by_cases c1 : gT z5 7 k < gT z5 7 k2
  · simp only [jn, if_pos c1]
    rw [bd_eq (at8 h44 l4), bd_eq (at8 h5 l5), o0]
    by_cases c2 : gT z5 7 k4 < gT z5 7 k5
    · simp only [if_pos c2, if_true]
    · simp only [if_neg c2, if_true]
  · simp only [jn, if_neg c1]
    rw [bd_eq (at8 h44 l4), bd_eq (at8 h5 l5)]
    by_cases c2 : gT z5 7 k4 < gT z5 7 k5
    · simp only [if_pos c2]
      rw [if_neg (show ¬ (1 : Int32) = 0 by decide), if_pos trivial, o0]
    · simp only [if_neg c2]
      rw [if_neg (show ¬ (1 : Int32) = 0 by decide), if_neg (show ¬ (1 : Int32) = 0 by decide)]
def rsts (g : Nat → Int32) : Int32 := ((cor (g 0) (g 2) (g 4) (g 5) 1 ||| cor (g 1) (g 3) (g 5) (g 4) 2) ||| cor (g 2) (g 0) (g 6) (g 7) 4) ||| cor (g 3) (g 1) (g 7) (g 6) 8
theorem rests8 {z z5 : Sx} : fX8_rests z z5 = some (rsts (gT z5 7)) := by
  obtain ⟨m, hm⟩ : ∃ m : Nat, FU = m + 5 := ⟨18446744073709551611, rfl⟩
  unfold fX8_rests
  rw [hm]
  rw [rst8 (k := 0) (k2 := 2) (k4 := 4) (k5 := 5) (v := 1) (by decide) (by decide) (by decide) (by decide) (by decide) (by decide) (by decide) (by decide) (by decide) (by decide)]
  rw [show ((0 : Int32) + 1) = 1 by decide]
  rw [rst8 (k := 1) (k2 := 3) (k4 := 5) (k5 := 4) (v := 2) (by decide) (by decide) (by decide) (by decide) (by decide) (by decide) (by decide) (by decide) (by decide) (by decide)]
  rw [show ((1 : Int32) + 1) = 2 by decide]
  rw [rst8 (k := 2) (k2 := 0) (k4 := 6) (k5 := 7) (v := 4) (by decide) (by decide) (by decide) (by decide) (by decide) (by decide) (by decide) (by decide) (by decide) (by decide)]
  rw [show ((2 : Int32) + 1) = 3 by decide]
  rw [rst8 (k := 3) (k2 := 1) (k4 := 7) (k5 := 6) (v := 8) (by decide) (by decide) (by decide) (by decide) (by decide) (by decide) (by decide) (by decide) (by decide) (by decide)]
  rw [show ((3 : Int32) + 1) = 4 by decide]
  rw [lX8_rests_4, if_pos (by decide), show (0 : Int32) ||| cor (gT z5 7 0) (gT z5 7 2) (gT z5 7 4) (gT z5 7 5) 1 = cor (gT z5 7 0) (gT z5 7 2) (gT z5 7 4) (gT z5 7 5) 1 from Int32.zero_or]
  rfl
theorem sel1 {α : Type} {K : Int32 → Option α} {a b c d v : Int32} {x y : Option Int32} (hx : x = some c) (hy : y = some d) : jn K (fun J5 => jn (J5 0) (fun J52 => if a < b then J52 else bd x (fun r55 => bd y (fun r57 => if r55 < r57 then J52 else J5 v)))) = K (cor a b c d v) := by
  unfold cor
  simp only [jn]
  rw [hx, hy]
  by_cases c1 : a < b
  · rw [if_pos c1, if_pos c1]
  · rw [if_neg c1, if_neg c1]
    show (if c < d then K 0 else K v) = _
    by_cases c2 : c < d
    · rw [if_pos c2, if_pos c2]
    · rw [if_neg c2, if_neg c2]
theorem sel2 {α : Type} {K : Int32 → Int32 → Option α} {a b c d v i : Int32} {x y : Option Int32} (hx : x = some c) (hy : y = some d) : jn K (fun J11 => jn (fun (i45 : Int32) => J11 0 i45) (fun J44 => if a < b then J44 i else bd x (fun r48 => bd y (fun r50 => if r48 < r50 then J44 i else J11 v i)))) = K (cor a b c d v) i := by
  unfold cor
  simp only [jn]
  rw [hx, hy]
  by_cases c1 : a < b
  · rw [if_pos c1, if_pos c1]
  · rw [if_neg c1, if_neg c1]
    show (if c < d then K 0 i else K v i) = _
    by_cases c2 : c < d
    · rw [if_pos c2, if_pos c2]
    · rw [if_neg c2, if_neg c2]
theorem rests9 {z : Sx} : fX9_rests z = some (rsts (fun i => gT z 24 (18 + i))) := by
  have g0 : fX9_gameOf z 0 = some (gT z 24 (18 + 0)) := go9 (by decide) (by decide)
  have g1 : fX9_gameOf z 1 = some (gT z 24 (18 + 1)) := go9 (by decide) (by decide)
  have g2 : fX9_gameOf z 2 = some (gT z 24 (18 + 2)) := go9 (by decide) (by decide)
  have g3 : fX9_gameOf z 3 = some (gT z 24 (18 + 3)) := go9 (by decide) (by decide)
  have g4 : fX9_gameOf z 4 = some (gT z 24 (18 + 4)) := go9 (by decide) (by decide)
  have g5 : fX9_gameOf z 5 = some (gT z 24 (18 + 5)) := go9 (by decide) (by decide)
  have g6 : fX9_gameOf z 6 = some (gT z 24 (18 + 6)) := go9 (by decide) (by decide)
  have g7 : fX9_gameOf z 7 = some (gT z 24 (18 + 7)) := go9 (by decide) (by decide)
  unfold fX9_rests
  rw [bd_eq g0, bd_eq g2, sel1 g4 g5, bd_eq g1, bd_eq g3, sel2 g5 g4, bd_eq g2, bd_eq g0, sel2 g6 g7, bd_eq g3, bd_eq g1, sel2 g7 g6]
  rfl
theorem rsts_eq {f g : Nat → Int32} (h : ∀ i : Nat, i < 8 → f i = g i) : rsts f = rsts g := by
  unfold rsts
  rw [h 0 (by decide), h 1 (by decide), h 2 (by decide), h 3 (by decide), h 4 (by decide), h 5 (by decide), h 6 (by decide), h 7 (by decide)]

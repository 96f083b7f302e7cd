/-! The clauses of a WORK, on both sides. -/
def WR (z7 z9 : Sx) : Prop :=
  (gI z7 2 = gI z9 8 ∧ 0 ≤ (gI z9 8).toInt ∧ (gI z9 8).toInt ≤ 6) ∧ (gI z7 3 = gI z9 9 ∧ 0 ≤ (gI z9 9).toInt ∧ (gI z9 9).toInt ≤ 10) ∧
  ((gI z7 4 = 0 ∧ gI z9 7 = -1 ∧ gI z7 1 = 60) ∨ (gI z7 4 = 1 ∧ gI z7 1 = gI z9 7 ∧ 1 ≤ (gI z9 7).toInt ∧ (gI z9 7).toInt ≤ 480)) ∧
  (∀ k : Nat, (k : Int) < (gI z9 8).toInt → gT z7 5 k = gT z9 10 (3 * k) ∧ gT z7 6 k = gT z9 10 (3 * k + 1) ∧ gT z7 7 k = gT z9 10 (3 * k + 2) ∧ (0 ≤ (gT z7 5 k).toInt ∧ (gT z7 5 k).toInt ≤ 99) ∧ (0 ≤ (gT z7 6 k).toInt ∧ (gT z7 6 k).toInt ≤ 99) ∧ (0 ≤ (gT z7 7 k).toInt ∧ (gT z7 7 k).toInt ≤ 99)) ∧
  ∀ g : Nat, (g : Int) < (gI z9 9).toInt → gT z7 8 g = gT z9 11 (4 * g) ∧ gT z7 9 g = gT z9 11 (4 * g + 1) ∧ gT z7 10 g = gT z9 11 (4 * g + 2) ∧ gT z7 11 g = gT z9 11 (4 * g + 3) ∧ (0 ≤ (gT z7 8 g).toInt ∧ (gT z7 8 g).toInt < (gI z9 8).toInt) ∧ (1 ≤ (gT z7 9 g).toInt ∧ (gT z7 9 g).toInt ≤ 99) ∧ (0 ≤ (gT z7 10 g).toInt ∧ (gT z7 10 g).toInt ≤ 100) ∧ (-1 ≤ (gT z7 11 g).toInt ∧ (gT z7 11 g).toInt < g) ∧ gT z7 12 g = gT z7 5 (gT z7 8 g).toNatClampNeg ∧ gT z7 13 g = gT z7 6 (gT z7 8 g).toNatClampNeg ∧ gT z7 14 g = gT z7 7 (gT z7 8 g).toNatClampNeg
theorem put_k {n : Nat} {f : Nat → Int32} {x v : Int32} {k : Nat} (hx : x.toInt = k) (hk : k < n) (hn : n ≤ 400) : fX8_put n f x v = some (upd f k v) := by
  unfold fX8_put
  have e0 : (0 : Int32).toInt = 0 := by decide
  have en : (nI n).toInt = n := nI_toInt (by omega)
  rw [if_neg (fun h => by have := bI_lt hx e0 h; omega), if_neg (fun h => by have := bI_le en hx h; omega), gd_pos (inb_of (by omega) (by omega)), n_cl hx]
theorem put_tot {n : Nat} {f : Nat → Int32} {x v : Int32} : ∃ g, fX8_put n f x v = some g := by
  unfold fX8_put
  by_cases c1 : x < 0
  · exact ⟨_, if_pos c1⟩
  · by_cases c2 : nI n ≤ x
    · exact ⟨_, by rw [if_neg c1, if_pos c2]⟩
    · by_cases hn : n < 2 ^ 31
      · have en : (nI n).toInt = n := nI_toInt hn
        have e0 : (0 : Int32).toInt = 0 := by decide
        have a := bI_nlt rfl e0 c1
        have b := bI_nle en rfl c2
        exact ⟨_, by rw [if_neg c1, if_neg c2, gd_pos (inb_of (by omega) (by omega))]⟩
      · refine ⟨_, by rw [if_neg c1, if_neg c2, gd_pos ⟨c1, ?_⟩]⟩
        have r := n_rng x
        have a := bI_nlt rfl (show (0 : Int32).toInt = 0 by decide) c1
        have := clampI a
        omega
section KB
variable {f : Nat → Int32} {N p : Nat} {z6 z7 z9 : Sx}
/-- what stays where a number was read -/
theorem nb_t9 {p1 : Nat} {v : Int32} (h : T9 f N z9 p) (h1 : p1 ≤ N) : T9 f N (sI (sI z9 12 (nI p1)) 14 v) p1 := t9_I (t9_p h h1) (by decide) (by decide)
/-- three numbers, one behind the other; the class goes on where one was refused -/
theorem kind_fail {w6 : Sx} {e : Int32} {k : Sx} (he : ¬ gI w6 8 = 0) : ∃ w7, (bd2 (fX6_takeNumber w6 0 99) (fun r7 z8 => bd (fX8_put 6 (gT k 6) (gI z7 2) r7) (fun z10 => bd2 (fX6_takeNumber z8 0 99) (fun r12 z13 => bd (fX8_put 6 (gT (sTf k 6 z10) 7) (gI z7 2) r12) (fun z15 => some (sI (sTf (sTf k 6 z10) 7 z15) 2 ((gI z7 2) + 1), z13)))))) = some (w7, w6) := by
  rw [bd2_eq (take_bad he)]
  obtain ⟨g1, e1⟩ := put_tot (n := 6) (f := gT k 6) (x := gI z7 2) (v := 0)
  rw [bd_eq e1, bd2_eq (take_bad he)]
  obtain ⟨g2, e2⟩ := put_tot (n := 6) (f := gT (sTf k 6 g1) 7) (x := gI z7 2) (v := 0)
  rw [bd_eq e2]
  exact ⟨_, rfl⟩
end KB

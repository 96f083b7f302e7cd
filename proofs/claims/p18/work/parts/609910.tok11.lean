/-! FAULT: three numbers, and what it is under. -/
theorem at_k {n : Nat} {f : Nat → Int32} {x : Int32} {k : Nat} (hx : x.toInt = k) (hk : k < n) (hn : n ≤ 400) : fX8_at n f x = some (f k) := by
  unfold fX8_at
  have e0 : (0 : Int32).toInt = 0 := by decide
  have en : (nI n).toInt = n := nI_toInt (by omega)
  rw [if_neg (fun h => by have := bI_lt hx e0 h; omega), if_neg (fun h => by have := bI_le en hx h; omega), gd_pos (inb_of (by omega) (by omega)), n_cl hx]
theorem at_tot {n : Nat} {f : Nat → Int32} {x : Int32} (hn : n ≤ 400) : ∃ v, fX8_at n f x = some v := by
  unfold fX8_at
  by_cases c1 : x < 0
  · exact ⟨_, if_pos c1⟩
  · by_cases c2 : nI n ≤ x
    · exact ⟨_, by rw [if_neg c1, if_pos c2]⟩
    · have en : (nI n).toInt = n := nI_toInt (by omega)
      have e0 : (0 : Int32).toInt = 0 := by decide
      have a := bI_nlt rfl e0 c1
      have b := bI_nle en rfl c2
      exact ⟨_, by rw [if_neg c1, if_neg c2, gd_pos (inb_of (by omega) (by omega))]⟩
def FTK (r2 : Int32) : Sx → Sx → Option (Sx × Sx) := fun (z19 : Sx) (z20 : Sx) => bd (fX8_at 6 (gT z19 5) r2) (fun r22 => bd (fX8_put 10 (gT z19 12) (gI z19 3) r22) (fun z24 => bd (fX8_at 6 (gT (sTf z19 12 z24) 6) r2) (fun r26 => bd (fX8_put 10 (gT (sTf z19 12 z24) 13) (gI z19 3) r26) (fun z28 => bd (fX8_at 6 (gT (sTf (sTf z19 12 z24) 13 z28) 7) r2) (fun r30 => bd (fX8_put 10 (gT (sTf (sTf z19 12 z24) 13 z28) 14) (gI z19 3) r30) (fun z32 => some (sI (sTf (sTf (sTf z19 12 z24) 13 z28) 14 z32) 3 ((gI z19 3) + 1), z20)))))))
theorem ftk_tot {r2 : Int32} {z19 z20 : Sx} : ∃ w7, FTK r2 z19 z20 = some (w7, z20) := by
  unfold FTK
  obtain ⟨v1, e1⟩ := at_tot (n := 6) (f := gT z19 5) (x := r2) (by decide)
  obtain ⟨g1, f1⟩ := put_tot (n := 10) (f := gT z19 12) (x := gI z19 3) (v := v1)
  rw [bd_eq e1, bd_eq f1]
  obtain ⟨v2, e2⟩ := at_tot (n := 6) (f := gT (sTf z19 12 g1) 6) (x := r2) (by decide)
  obtain ⟨g2, f2⟩ := put_tot (n := 10) (f := gT (sTf z19 12 g1) 13) (x := gI z19 3) (v := v2)
  rw [bd_eq e2, bd_eq f2]
  obtain ⟨v3, e3⟩ := at_tot (n := 6) (f := gT (sTf (sTf z19 12 g1) 13 g2) 7) (x := r2) (by decide)
  obtain ⟨g3, f3⟩ := put_tot (n := 10) (f := gT (sTf (sTf z19 12 g1) 13 g2) 14) (x := gI z19 3) (v := v3)
  rw [bd_eq e3, bd_eq f3]
  exact ⟨_, rfl⟩
theorem ftk_k {r2 : Int32} {z19 z20 : Sx} {k g : Nat} (hr : r2.toInt = k) (hk : k < 6) (hg : (gI z19 3).toInt = g) (hg10 : g < 10) : FTK r2 z19 z20 = some (sI (sTf (sTf (sTf z19 12 (upd (gT z19 12) g (gT z19 5 k))) 13 (upd (gT z19 13) g (gT z19 6 k))) 14 (upd (gT z19 14) g (gT z19 7 k))) 3 ((gI z19 3) + 1), z20) := by
  unfold FTK
  rw [bd_eq (at_k hr hk (by decide)), bd_eq (put_k hg hg10 (by decide)), bd_eq (at_k hr hk (by decide)), bd_eq (put_k hg hg10 (by decide)), bd_eq (at_k hr hk (by decide)), bd_eq (put_k hg hg10 (by decide))]
  rfl
/-- the class's FAULT from its second number on -/
def FT2 (z7 : Sx) (r2 : Int32) (z3 : Sx) : Option (Sx × Sx) := bd (fX8_put 10 (gT z7 8) (gI z7 3) r2) (fun z5 => bd2 (fX6_takeNumber z3 1 99) (fun r7 z8 => bd (fX8_put 10 (gT (sTf z7 8 z5) 9) (gI z7 3) r7) (fun z10 => bd2 (fX6_takeNumber z8 0 100) (fun r12 z13 => bd (fX8_put 10 (gT (sTf (sTf z7 8 z5) 9 z10) 10) (gI z7 3) r12) (fun z15 => bd (fX8_put 10 (gT (sTf (sTf (sTf z7 8 z5) 9 z10) 10 z15) 11) (gI z7 3) (-1)) (fun z17 => jn (FTK r2) (fun J18 => if (gI z13 8) = 0 then if (gI z13 5) = 305 then bd (fX6_step z13) (fun z36 => bd2 (fX6_takeNumber z36 0 ((gI z7 3) - 1)) (fun r38 z39 => bd (fX8_put 10 (gT (sTf (sTf (sTf (sTf z7 8 z5) 9 z10) 10 z15) 11 z17) 11) (gI z7 3) r38) (fun z41 => J18 (sTf (sTf (sTf (sTf (sTf z7 8 z5) 9 z10) 10 z15) 11 z17) 11 z41) z39))) else J18 (sTf (sTf (sTf (sTf z7 8 z5) 9 z10) 10 z15) 11 z17) z13 else J18 (sTf (sTf (sTf (sTf z7 8 z5) 9 z10) 10 z15) 11 z17) z13)))))))
theorem ft_eq {z7 z6 : Sx} : fX7_readFault z7 z6 = bd2 (fX6_takeNumber z6 0 ((gI z7 2) - 1)) (fun r2 z3 => FT2 z7 r2 z3) := rfl
theorem ft2_bad {z7 z3 : Sx} {r2 : Int32} (h : ¬ gI z3 8 = 0) : ∃ w7, FT2 z7 r2 z3 = some (w7, z3) := by
  unfold FT2
  obtain ⟨g1, f1⟩ := put_tot (n := 10) (f := gT z7 8) (x := gI z7 3) (v := r2)
  rw [bd_eq f1, bd2_eq (take_bad h)]
  obtain ⟨g2, f2⟩ := put_tot (n := 10) (f := gT (sTf z7 8 g1) 9) (x := gI z7 3) (v := 0)
  rw [bd_eq f2, bd2_eq (take_bad h)]
  obtain ⟨g3, f3⟩ := put_tot (n := 10) (f := gT (sTf (sTf z7 8 g1) 9 g2) 10) (x := gI z7 3) (v := 0)
  rw [bd_eq f3]
  obtain ⟨g4, f4⟩ := put_tot (n := 10) (f := gT (sTf (sTf (sTf z7 8 g1) 9 g2) 10 g3) 11) (x := gI z7 3) (v := -1)
  rw [bd_eq f4]
  simp only [jn]
  rw [if_neg h]
  exact ftk_tot
section FH
variable {f : Nat → Int32} {N p : Nat} {z6 z7 z9 : Sx}
/-- the reference's FAULT behind its word -/
def FH9 (z3 : Sx) : Option (Int32 × Sx) := bd2 (fX9_numberHere z3 0 ((gI z3 8) - 1)) (fun r5 z6 => if r5 = 0 then some (0, z6) else gd (inb (4 * (gI z3 9)) 40) (bd2 (fX9_numberHere (sT z6 11 ((4 * (gI z3 9)).toNatClampNeg) (gI z6 14)) 1 99) (fun r10 z11 => if r10 = 0 then some (0, z11) else gd (inb ((4 * (gI z3 9)) + 1) 40) (bd2 (fX9_numberHere (sT z11 11 (((4 * (gI z3 9)) + 1).toNatClampNeg) (gI z11 14)) 0 100) (fun r15 z16 => if r15 = 0 then some (0, z16) else gd (inb ((4 * (gI z3 9)) + 2) 40) (gd (inb ((4 * (gI z3 9)) + 3) 40) (bd2 (fX9_takesWord (sT (sT z16 11 (((4 * (gI z3 9)) + 2).toNatClampNeg) (gI z16 14)) 11 (((4 * (gI z3 9)) + 3).toNatClampNeg) (-1)) 504363246962) (fun r21 z22 => jn (fun (z24 : Sx) => some (1, sI z24 9 ((gI z24 9) + 1))) (fun J23 => if r21 = 0 then J23 z22 else bd2 (fX9_numberHere z22 0 ((gI z22 9) - 1)) (fun r27 z28 => if r27 = 0 then some (0, z28) else J23 (sT z28 11 (((4 * (gI z3 9)) + 3).toNatClampNeg) (gI z28 14))))))))))))
theorem fh_eq {z : Sx} {x1 : Int32} : fX9_isFaultHere z x1 = if (gI z 9) = 10 then bd2 (fX9_fails z 4 x1) (fun r31 z32 => gd (r31 = 0 ∨ r31 = 1) (some (r31, z32))) else bd (fX9_passWord z) (fun z3 => FH9 z3) := rfl
end FH

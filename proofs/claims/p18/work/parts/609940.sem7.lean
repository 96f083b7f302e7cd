/-! A LOOK, on both sides. -/
theorem and31 (y : Int64) : (y &&& 2147483647).toInt = y.toInt % 2147483648 := by
  have h2 : (y.toBitVec &&& 2147483647#64).toNat = y.toBitVec.toNat % 2147483648 := by
    rw [BitVec.toNat_and]
    exact Nat.and_two_pow_sub_one_eq_mod y.toBitVec.toNat 31
  have h3 : (y &&& 2147483647).toInt = (y.toBitVec &&& 2147483647#64).toInt := rfl
  have h4 : y.toInt = y.toBitVec.toInt := rfl
  rw [h3, h4, BitVec.toInt_eq_toNat_cond, BitVec.toInt_eq_toNat_cond, h2]
  have h5 := y.toBitVec.isLt
  split <;> split <;> omega
/-- the next x -/
def nx (x : Int32) : Int32 := (((x.toInt64 * 1103515245) + 12345) &&& 2147483647).toInt32
/-- what a LOOK may change -/
def DZ (i : Nat) : Prop := i = 3 ∨ i = 4 ∨ i = 9 ∨ (44 ≤ i ∧ 4 ≤ (i - 44) % 6)
/-- the DAY on both sides -/
def DR (zd : Sx) (T : Nat → Int32) : Prop := ∃ F : Nat, T 0 = nI F ∧ F ≤ 10 ∧ gI zd 0 = T 3 ∧ gI zd 1 = T 4 ∧ gI zd 2 = nI (bmf T 1 F) ∧ gI zd 3 = nI (bmf T 2 F) ∧ gI zd 4 = T 9 ∧ 0 ≤ (T 9).toInt ∧ (∀ g : Nat, g < F → T (44 + 6 * g + 4) = 0 ∨ T (44 + 6 * g + 4) = 1 ∨ T (44 + 6 * g + 4) = 2) ∧ ∀ g : Nat, g < F → gT zd 5 g = T (44 + 6 * g + 5)
theorem fo_eq {z : Sx} {g j : Nat} (hg : g < 10) (hj : j < 6) : fX9_faultOf z (nI g) (nI j) = some (gT z 24 (44 + 6 * g + j)) := by
  have e6 : (6 * nI g : Int32) = nI (6 * g) := Int32.toInt_inj.1 (by rw [i32_mul (show (6 : Int32).toInt = 6 by decide) (nI_toInt (n := g) (by omega)) (by omega) (by omega), nI_toInt (by omega)]; omega)
  have e44 : (44 : Int32) + nI (6 * g) = nI (44 + 6 * g) := nI_add 44 (6 * g)
  unfold fX9_faultOf
  rw [e6, e44, nI_add, gd_pos (in_n (by omega) (by omega)), nI_clamp (by omega)]
theorem gone_bit {T : Nat → Int32} {F g : Nat} (hg : g < F) (h3 : T (44 + 6 * g + 4) = 0 ∨ T (44 + 6 * g + 4) = 1 ∨ T (44 + 6 * g + 4) = 2) : (bmf T 1 F ||| bmf T 2 F).testBit g = decide (¬ T (44 + 6 * g + 4) = 0) := by
  rw [Nat.testBit_or, bm_bit, bm_bit]
  rcases h3 with k | k | k <;> rw [k]
  · rw [decide_eq_false (fun q : g < F ∧ (0 : Int32) = 1 => by have := q.2; revert this; decide), decide_eq_false (fun q : g < F ∧ (0 : Int32) = 2 => by have := q.2; revert this; decide), decide_eq_false (fun q : ¬ (0 : Int32) = 0 => q rfl)]; rfl
  · rw [decide_eq_true (show g < F ∧ (1 : Int32) = 1 from ⟨hg, rfl⟩), Bool.true_or, decide_eq_true (show ¬ (1 : Int32) = 0 by decide)]
  · rw [decide_eq_true (show g < F ∧ (2 : Int32) = 2 from ⟨hg, rfl⟩), Bool.or_true, decide_eq_true (show ¬ (2 : Int32) = 0 by decide)]
theorem gone_lt {T : Nat → Int32} {F : Nat} (hF : F ≤ 10) : bmf T 1 F ||| bmf T 2 F < 1024 := Nat.lt_of_lt_of_le (Nat.or_lt_two_pow (bm_lt F) (bm_lt F)) (show 2 ^ F ≤ 2 ^ 10 from Nat.pow_le_pow_right (by decide) hF)
theorem shr_n {a g : Nat} (ha : a < 1024) (hg : g < 10) : ((nI a >>> (nI g &&& 31)) &&& 1) = 0 ↔ a.testBit g = false := by
  have := shr_f ha hg
  constructor
  · intro k
    rw [decide_eq_true k] at this
    cases q : a.testBit g with
    | false => rfl
    | true => rw [q] at this; cases this
  · intro k
    rw [k] at this
    exact of_decide_eq_true this
section LK
variable {zw zd z5 z8 z9 : Sx} {x1 : Int32}
theorem open_eq {F g : Nat} (hw : WKT zw (gT z9 24)) (h0 : gT z9 24 0 = nI F) (hF : F ≤ 10) (h3 : ∀ g : Nat, g < F → gT z9 24 (44 + 6 * g + 4) = 0 ∨ gT z9 24 (44 + 6 * g + 4) = 1 ∨ gT z9 24 (44 + 6 * g + 4) = 2) (hg : g < F) : ∃ r, fX7_isOpen zw (nI g) (nI (bmf (gT z9 24) 1 F ||| bmf (gT z9 24) 2 F)) = some r ∧ fX9_isOpen z9 (nI g) = some r ∧ (r = 0 ∨ r = 1) := by
  have i0 : (0 : Int32).toInt = 0 := by decide
  have hFi : (gT z9 24 0).toInt = F := by rw [h0, nI_toInt (by omega)]
  obtain ⟨b1, b2, b3, b4, b5, b6, b7, b8, -⟩ := hw.2.2.2.2 g (by omega)
  have ef4 : fX9_faultOf z9 (nI g) 4 = some (gT z9 24 (44 + 6 * g + 4)) := fo_eq (j := 4) (by omega) (by omega)
  have ef3 : fX9_faultOf z9 (nI g) 3 = some (gT zw 11 g) := by rw [b4]; exact fo_eq (j := 3) (by omega) (by omega)
  have gl := gone_lt (T := gT z9 24) hF
  unfold fX7_isOpen fX9_isOpen
  rw [if_neg (nI_pos (by omega)), if_neg (show ¬ (10 : Int32) ≤ nI g from nI_ge (b := 10) (by omega) (by decide)), bd_eq ef4]
  by_cases c : gT z9 24 (44 + 6 * g + 4) = 0
  · have hb : (bmf (gT z9 24) 1 F ||| bmf (gT z9 24) 2 F).testBit g = false := by rw [gone_bit hg (h3 g hg), decide_eq_false (fun q => q c)]
    rw [if_pos ((shr_n gl (by omega)).2 hb), if_pos c, gd_pos (in_n (by omega) (by omega)), nI_clamp (by omega), bd_eq ef3]
    simp only [jn]
    by_cases cu : gT zw 11 g < 0
    · rw [if_pos cu, if_pos cu]
      exact ⟨1, rfl, rfl, Or.inr rfl⟩
    · have cui := bI_nlt rfl i0 cu
      obtain ⟨k, hk⟩ : ∃ k : Nat, (gT zw 11 g).toInt = k := ⟨(gT zw 11 g).toInt.toNat, by omega⟩
      have eu : gT zw 11 g = nI k := Int32.toInt_inj.1 (by rw [hk, nI_toInt (by omega)])
      have ef5 : fX9_faultOf z9 (nI k) 4 = some (gT z9 24 (44 + 6 * k + 4)) := fo_eq (j := 4) (by omega) (by omega)
      rw [if_neg cu, if_neg cu, bd_eq ef3, eu, bd_eq ef5]
      have hk3 := h3 k (by omega)
      by_cases d : gT z9 24 (44 + 6 * k + 4) = 0
      · have hb2 : (bmf (gT z9 24) 1 F ||| bmf (gT z9 24) 2 F).testBit k = false := by rw [gone_bit (by omega) hk3, decide_eq_false (fun q => q d)]
        rw [if_pos ((shr_n gl (by omega)).2 hb2), if_pos (show gT z9 24 (44 + 6 * k + 4) ≤ 0 by rw [d]; decide)]
        exact ⟨0, rfl, rfl, Or.inl rfl⟩
      · have hb2 : ¬ (bmf (gT z9 24) 1 F ||| bmf (gT z9 24) 2 F).testBit k = false := by rw [gone_bit (by omega) hk3, decide_eq_true d]; decide
        rw [if_neg (fun q => hb2 ((shr_n gl (by omega)).1 q)), if_neg (show ¬ gT z9 24 (44 + 6 * k + 4) ≤ 0 by rcases hk3 with q | q | q; exact absurd q d; rw [q]; decide; rw [q]; decide)]
        exact ⟨1, rfl, rfl, Or.inr rfl⟩
  · have hb : ¬ (bmf (gT z9 24) 1 F ||| bmf (gT z9 24) 2 F).testBit g = false := by rw [gone_bit hg (h3 g hg), decide_eq_true c]; decide
    rw [if_neg (fun q => hb ((shr_n gl (by omega)).1 q)), if_neg c]
    exact ⟨0, rfl, rfl, Or.inl rfl⟩
end LK

/-! FITS, on both sides. -/
/-- pay, minutes of a set, and whether it could be found -/
def psum (zw : Sx) (a : Nat) : Nat → Int32
  | 0 => 0
  | g + 1 => if a.testBit g = true then psum zw a g + gT zw 12 g else psum zw a g
def msum (zw : Sx) (a : Nat) : Nat → Int32
  | 0 => 0
  | g + 1 => if a.testBit g = true then msum zw a g + gT zw 9 g else msum zw a g
def okf (zw : Sx) (T : Nat → Int32) (a g : Nat) : Prop := ¬ gT zw 10 g = 0 ∧ ¬ T (44 + 6 * g + 4) = 2 ∧ (gT zw 11 g < 0 ∨ a.testBit (gT zw 11 g).toNatClampNeg = true ∨ T (44 + 6 * (gT zw 11 g).toNatClampNeg + 4) = 2)
theorem and1 (y : Int32) : (y &&& 1) = 0 ∨ (y &&& 1) = 1 := by
  have h2 : (y.toBitVec &&& 1#32).toNat = y.toBitVec.toNat % 2 := by
    rw [BitVec.toNat_and]
    exact Nat.and_two_pow_sub_one_eq_mod y.toBitVec.toNat 1
  have h3 : (y &&& 1).toInt = (y.toBitVec &&& 1#32).toInt := rfl
  rw [BitVec.toInt_eq_toNat_cond, h2] at h3
  have h5 : y.toBitVec.toNat % 2 < 2 := Nat.mod_lt _ (by decide)
  rw [if_pos (by omega)] at h3
  rcases (show y.toBitVec.toNat % 2 = 0 ∨ y.toBitVec.toNat % 2 = 1 by omega) with q | q
  · left; exact Int32.toInt_inj.1 (by rw [h3, q]; decide)
  · right; exact Int32.toInt_inj.1 (by rw [h3, q]; decide)
section S17
variable {zw zd z5 z8 z9 : Sx} {x1 x2 : Int32} {F : Nat}
theorem pay_run {a : Nat} (ha : a < 1024) (h3 : gI zw 3 = nI F) (dF : F ≤ 10) : ∀ (n g : Nat), g ≤ F → F - g < n → lX7_together_5 zw 10 (gT zw 12) (nI a) n (psum zw a g) (nI g) = some (psum zw a F) := by
  intro n
  induction n with
  | zero => intro g _ hm; omega
  | succ n ih =>
    intro g hg hm
    rw [lX7_together_5, h3]
    by_cases c : g = F
    · rw [c, if_pos (nI_le (Nat.le_refl F) (by omega))]
    · have st : psum zw a (g + 1) = if a.testBit g = true then psum zw a g + gT zw 12 g else psum zw a g := rfl
      rw [if_neg (nI_ge (by omega) (by omega)), bd_eq (has_n ha (by omega)), nI_1]
      simp only [jn]
      by_cases q : a.testBit g = true
      · rw [if_pos q, if_neg one0, bd_eq (at_k (nI_toInt (n := g) (by omega)) (by omega) (by decide))]
        rw [if_pos q] at st
        rw [← st]
        exact ih (g + 1) (by omega) (by omega)
      · rw [if_neg q, if_pos rfl]
        rw [if_neg q] at st
        rw [← st]
        exact ih (g + 1) (by omega) (by omega)
theorem iso_n {a g : Nat} (ha : a < 1024) (hg : g < 10) : fX9_isOf (nI a) (nI g) = some (if a.testBit g = true then 1 else 0) := by
  have := shr_f ha hg
  have h1 := and1 (nI a >>> (nI g &&& 31))
  unfold fX9_isOf
  cases q : a.testBit g with
  | false =>
    rw [q] at this
    have e := of_decide_eq_true this
    rw [e, if_neg (by decide)]; rfl
  | true =>
    rw [q] at this
    have e := of_decide_eq_false this
    rw [h1.resolve_left e, if_pos rfl]; rfl
/-- one set: the class's couldBeFound, the reference's couldBe -/
theorem could_run {a : Nat} {k1 : Int32 → Option Int32} {k2 : Int32 → Int32 → Option Int32} {xx : Int32} (ha : a < 1024) (hw : WKT zw (gT z9 24)) (hd : DR zd (gT z9 24)) (d0 : gT z9 24 0 = nI F) (dF : F ≤ 10) : ∀ (n m g : Nat), g ≤ F → F - g < n → F - g < m → (lX7_couldBeFound_5 k1 zw (nI a) (gI zd 3) n (msum zw a g) (nI g) = k1 (msum zw a F) ∧ lX9_couldBe_8 k2 z9 (nI a) xx m (msum zw a g) (psum zw a g) (nI g) = k2 (msum zw a F) (psum zw a F)) ∨ (lX7_couldBeFound_5 k1 zw (nI a) (gI zd 3) n (msum zw a g) (nI g) = some 0 ∧ lX9_couldBe_8 k2 z9 (nI a) xx m (msum zw a g) (psum zw a g) (nI g) = some 0) := by
  obtain ⟨F2, d0', dF', d1, d2, d3, d4, d5, d6, d7, d8⟩ := id hd
  have eF : F2 = F := (nI_eq (by omega) (by omega)).1 (d0'.symm.trans d0)
  subst eF
  have h3 : gI zw 3 = nI F2 := hw.2.1.1.trans d0
  have hFi : (gT z9 24 0).toInt = F2 := by rw [d0, nI_toInt (by omega)]
  have i0 : (0 : Int32).toInt = 0 := by decide
  have hb2 : bmf (gT z9 24) 2 F2 < 1024 := bm_1024 dF
  intro n
  induction n with
  | zero => intro m g _ hm; omega
  | succ n ih =>
    intro m g hg hn hm
    obtain ⟨m, rfl⟩ : ∃ j, m = j + 1 := ⟨m - 1, by omega⟩
    rw [lX7_couldBeFound_5, h3, lX9_couldBe_8, d0]
    by_cases c : g = F2
    · left
      rw [c, if_pos (nI_le (Nat.le_refl F2) (by omega)), if_pos (nI_le (Nat.le_refl F2) (by omega))]
      exact ⟨rfl, rfl⟩
    · have sp : psum zw a (g + 1) = if a.testBit g = true then psum zw a g + gT zw 12 g else psum zw a g := rfl
      have sm : msum zw a (g + 1) = if a.testBit g = true then msum zw a g + gT zw 9 g else msum zw a g := rfl
      have gi : (nI g).toInt = g := nI_toInt (by omega)
      rw [if_neg (nI_ge (by omega) (by omega)), if_neg (nI_ge (by omega) (by omega)), bd_eq (has_n ha (by omega)), bd_eq (iso_n ha (by omega)), nI_1]
      dsimp only [jn]
      by_cases q : a.testBit g = true
      · rw [if_pos q] at sp sm
        obtain ⟨b1, b2, b3, b4, b5, b6, b7, b8, b9, b10, b11⟩ := hw.2.2.2.2 g (by omega)
        obtain ⟨j, hji⟩ : ∃ j : Nat, (gT zw 8 g).toInt = j := ⟨(gT zw 8 g).toInt.toNat, by omega⟩
        have hj1 := hw.1.2.2
        have hj : gT z9 24 (44 + 6 * g) = nI j := by rw [← b1]; exact Int32.toInt_inj.1 (by rw [hji, nI_toInt (by omega)])
        have epay : gT zw 12 g = gT z9 24 (26 + 3 * j) := by rw [b9, n_cl hji]; exact (hw.2.2.2.1 j (by omega)).1
        have ef3 : fX9_faultOf z9 (nI g) 3 = some (gT zw 11 g) := by rw [b4]; exact fo_eq (j := 3) (by omega) (by omega)
        have ef2 : fX9_faultOf z9 (nI g) 2 = some (gT zw 10 g) := by rw [b3]; exact fo_eq (j := 2) (by omega) (by omega)
        have ef1 : fX9_faultOf z9 (nI g) 1 = some (gT zw 9 g) := by rw [b2]; exact fo_eq (j := 1) (by omega) (by omega)
        have ef4 : fX9_faultOf z9 (nI g) 4 = some (gT z9 24 (44 + 6 * g + 4)) := fo_eq (j := 4) (by omega) (by omega)
        have ek : fX9_kindOf z9 (nI g) 0 = some (gT zw 12 g) := by
          rw [epay]
          exact ko_eq (j := 0) (by omega) hj (by omega) (by omega)
        have hm2 : fX8_has (gI zd 3) (nI g) = some (if gT z9 24 (44 + 6 * g + 4) = 2 then 1 else 0) := by
          rw [d4, has_n hb2 (by omega), bm_bit]
          by_cases u : gT z9 24 (44 + 6 * g + 4) = 2
          · rw [decide_eq_true ⟨by omega, u⟩, if_pos rfl, if_pos u]
          · rw [decide_eq_false (fun v => u v.2), if_neg (by decide), if_neg u]
        rw [if_pos q, if_neg one0, if_neg one0, bd_eq (at_k gi (by omega) (by decide)), bd_eq ef3, bd_eq ef2]
        have go : (lX7_couldBeFound_5 k1 zw (nI a) (gI zd 3) n (msum zw a g + gT zw 9 g) (nI (g + 1)) = k1 (msum zw a F2) ∧ lX9_couldBe_8 k2 z9 (nI a) xx m (msum zw a g + gT zw 9 g) (psum zw a g + gT zw 12 g) (nI (g + 1)) = k2 (msum zw a F2) (psum zw a F2)) ∨ (lX7_couldBeFound_5 k1 zw (nI a) (gI zd 3) n (msum zw a g + gT zw 9 g) (nI (g + 1)) = some 0 ∧ lX9_couldBe_8 k2 z9 (nI a) xx m (msum zw a g + gT zw 9 g) (psum zw a g + gT zw 12 g) (nI (g + 1)) = some 0) := by
          rw [← sp, ← sm]
          exact ih m (g + 1) (by omega) (by omega) (by omega)
        -- what the class makes of the one above
        have cov : ∀ G : Int32 → Option Int32, ∃ i10 : Int32, (i10 = 0 ∨ i10 = 1) ∧ (if gT zw 11 g < 0 then G 0 else bd (fX8_has (nI a ||| gI zd 3) (gT zw 11 g)) (fun r23 => if r23 = 0 then G 1 else G 0)) = G i10 ∧ (i10 = 0 ↔ (gT zw 11 g < 0 ∨ a.testBit (gT zw 11 g).toNatClampNeg = true ∨ gT z9 24 (44 + 6 * (gT zw 11 g).toNatClampNeg + 4) = 2)) := by
          intro G
          by_cases u : gT zw 11 g < 0
          · exact ⟨0, Or.inl rfl, if_pos u, ⟨fun _ => Or.inl u, fun _ => rfl⟩⟩
          · have ui := bI_nlt rfl i0 u
            obtain ⟨o, ho⟩ : ∃ o : Nat, (gT zw 11 g).toInt = o := ⟨(gT zw 11 g).toInt.toNat, by omega⟩
            have eo : gT zw 11 g = nI o := Int32.toInt_inj.1 (by rw [ho, nI_toInt (by omega)])
            have co : (gT zw 11 g).toNatClampNeg = o := n_cl ho
            have hor : a ||| bmf (gT z9 24) 2 F2 < 1024 := Nat.or_lt_two_pow (n := 10) ha hb2
            have hh : fX8_has (nI a ||| gI zd 3) (gT zw 11 g) = some (if a.testBit o = true ∨ gT z9 24 (44 + 6 * o + 4) = 2 then 1 else 0) := by
              rw [d4, or_n, eo, has_n hor (by omega), Nat.testBit_or, bm_bit]
              by_cases v : gT z9 24 (44 + 6 * o + 4) = 2
              · rw [decide_eq_true ⟨by omega, v⟩, Bool.or_true, if_pos rfl, if_pos (Or.inr v)]
              · rw [decide_eq_false (fun w => v w.2), Bool.or_false]
                by_cases w : a.testBit o = true
                · rw [if_pos w, if_pos (Or.inl w)]
                · rw [if_neg w, if_neg (fun t => t.elim w v)]
            rw [if_neg u, bd_eq hh, co]
            by_cases v : a.testBit o = true ∨ gT z9 24 (44 + 6 * o + 4) = 2
            · rw [if_pos v, if_neg one0]
              exact ⟨0, Or.inl rfl, rfl, ⟨fun _ => Or.inr v, fun _ => rfl⟩⟩
            · rw [if_neg v, if_pos rfl]
              exact ⟨1, Or.inr rfl, rfl, ⟨fun k => absurd k one0, fun k => (k.elim u v).elim⟩⟩
        obtain ⟨i10, j1, j2, j3⟩ := cov (fun (i10 : Int32) => bd (fX8_has (gI zd 3) (nI g)) (fun r12 => if r12 = 0 then bd (fX8_at 10 (gT zw 10) (nI g)) (fun r15 => if r15 = 0 then some 0 else if i10 = 0 then bd (fX8_at 10 (gT zw 9) (nI g)) (fun r19 => lX7_couldBeFound_5 k1 zw (nI a) (gI zd 3) n (msum zw a g + r19) (nI (g + 1))) else some 0) else some 0))
        rw [if_neg one0] at j2
        rw [j2, bd_eq hm2, bd_eq (at_k gi (by omega) (by decide)), bd_eq (at_k gi (by omega) (by decide))]
        by_cases o0 : gT zw 10 g = 0
        · right
          rw [if_pos o0, if_pos o0]
          refine ⟨?_, rfl⟩
          by_cases u : gT z9 24 (44 + 6 * g + 4) = 2
          · rw [if_pos u, if_neg one0]
          · rw [if_neg u, if_pos rfl]
        rw [if_neg o0, if_neg o0, bd_eq ef4]
        by_cases u : gT z9 24 (44 + 6 * g + 4) = 2
        · right
          rw [if_pos u, if_pos u, if_neg one0]
          exact ⟨rfl, rfl⟩
        rw [if_neg u, if_neg u, if_pos rfl]
        have rG : ∀ (X : Option Int32), (if gT zw 11 g < 0 then X else bd (fX9_isOf (nI a) (gT zw 11 g)) (fun r23 => if r23 = 0 then bd (fX9_faultOf z9 (gT zw 11 g) 4) (fun r26 => if r26 = 2 then X else some 0) else X)) = if i10 = 0 then X else some 0 := by
          intro X
          by_cases v : gT zw 11 g < 0
          · rw [if_pos v, if_pos (j3.2 (Or.inl v))]
          · have ui := bI_nlt rfl i0 v
            obtain ⟨o, ho⟩ : ∃ o : Nat, (gT zw 11 g).toInt = o := ⟨(gT zw 11 g).toInt.toNat, by omega⟩
            have eo : gT zw 11 g = nI o := Int32.toInt_inj.1 (by rw [ho, nI_toInt (by omega)])
            have co : (gT zw 11 g).toNatClampNeg = o := n_cl ho
            have ef5 : fX9_faultOf z9 (nI o) 4 = some (gT z9 24 (44 + 6 * o + 4)) := fo_eq (j := 4) (by omega) (by omega)
            rw [if_neg v, eo, bd_eq (iso_n ha (by omega))]
            rw [co] at j3
            by_cases w : a.testBit o = true
            · rw [if_pos w, if_neg one0, if_pos (j3.2 (Or.inr (Or.inl w)))]
            · rw [if_neg w, if_pos rfl, bd_eq ef5]
              by_cases t : gT z9 24 (44 + 6 * o + 4) = 2
              · rw [if_pos t, if_pos (j3.2 (Or.inr (Or.inr t)))]
              · rw [if_neg t, if_neg (fun y => (j3.1 y).elim v (fun z => z.elim w t))]
        rw [rG, bd_eq ef1, bd_eq ek]
        by_cases z : i10 = 0
        · rw [if_pos z, if_pos z]
          exact go
        · rw [if_neg z, if_neg z]
          exact Or.inr ⟨rfl, rfl⟩
      · rw [if_neg q] at sp sm
        rw [if_neg q, if_pos rfl, if_pos rfl, ← sp, ← sm]
        exact ih m (g + 1) (by omega) (by omega) (by omega)
end S17

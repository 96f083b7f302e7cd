section VB2
variable {f : Nat → Int32} {N p t l : Nat} {z4 z6 z9 : Sx}
/-- the class's VALUE by what stands there -/
def VM (z4 z6 : Sx) (c : Int32) : Option (Sx × Sx) := if (gI z4 3) < 60 then bd (fX4_emit (sI z4 3 ((gI z4 3) + 1)) c) (fun z10 => bd (fX6_step z6) (fun z12 => some (z10, z12))) else bd (fX6_fail z6 3) (fun z15 => some (z4, z15))
theorem rv_num (h : gI z6 5 = 301) : fX4_readValue z4 z6 = VM z4 z6 (gI z6 7) := by
  unfold fX4_readValue VM
  simp only [jn]
  rw [h]
  rfl
theorem rv_word (h1 : ¬ gI z6 5 = 301) (h2 : ¬ gI z6 5 < 312) (h3 : ¬ 320 < gI z6 5) : fX4_readValue z4 z6 = VM z4 z6 (-(gI z6 5)) := by
  unfold fX4_readValue VM
  simp only [jn, if_neg h1, if_neg h2, if_neg h3, if_neg one0, if_true]
theorem rv_no (h1 : ¬ gI z6 5 = 301) (h2 : gI z6 5 < 312 ∨ 320 < gI z6 5) : fX4_readValue z4 z6 = if (gI z6 5) = 302 then bd (fX6_fail z6 1) (fun z21 => some (z4, z21)) else bd (fX6_fail z6 0) (fun z21 => some (z4, z21)) := by
  unfold fX4_readValue
  by_cases c : gI z6 5 < 312
  · simp only [jn, if_neg h1, if_pos c, if_true]
  · have d : 320 < gI z6 5 := h2.resolve_left c
    simp only [jn, if_neg h1, if_neg c, if_pos d, if_true]
theorem v9_num (h9 : T9 f N z9 p) (hn : rnP isB f N p < N ∧ isD (f (rnP isB f N p)) = true) : fX9_value z9 = bd2 (fX9_numberHere (sI z9 12 (nI (rnP isB f N p))) 0 99999) (fun r24 z25 => if r24 = 0 then some (0, z25) else bd2 (fX9_makes z25 (nI (rnP isB f N p))) (fun r28 z29 => if r28 = 0 then some (0, z29) else bd (fX9_puts z29 0 (gI z29 14)) (fun z32 => some (1, z32)))) := by
  have hq := rq_le (P := isB) (b := f) (N := N) h9.2.2.1
  have hi : fX9_isDigit (sI z9 12 (nI (rnP isB f N p))) (gI (sI z9 12 (nI (rnP isB f N p))) 12) = some 1 := (idg9 (t9_p h9 hq) hq).trans (by rw [if_pos hn])
  unfold fX9_value
  rw [bd2_eq (see9 h9), bd_eq hi, if_neg one0]
  rfl
theorem v9_word (h9 : T9 f N z9 p) (hn : ¬ (rnP isB f N p < N ∧ isD (f (rnP isB f N p)) = true)) : fX9_value z9 = bd2 (fX9_wordHere (sI z9 12 (nI (rnP isB f N p)))) (fun r8 z9 => if 0 ≤ r8 then bd2 (fX9_makes z9 (nI (rnP isB f N p))) (fun r12 z13 => if r12 = 0 then some (0, z13) else bd (fX9_passWord z13) (fun z16 => bd (fX9_puts z16 1 r8) (fun z18 => some (1, z18)))) else bd2 (fX9_fails z9 0 (nI (rnP isB f N p))) (fun r20 z21 => gd (r20 = 0 ∨ r20 = 1) (some (r20, z21)))) := by
  have hq := rq_le (P := isB) (b := f) (N := N) h9.2.2.1
  have hi : fX9_isDigit (sI z9 12 (nI (rnP isB f N p))) (gI (sI z9 12 (nI (rnP isB f N p))) 12) = some 0 := (idg9 (t9_p h9 hq) hq).trans (by rw [if_neg hn])
  unfold fX9_value
  rw [bd2_eq (see9 h9), bd_eq hi, if_pos rfl]
  rfl
end VB2

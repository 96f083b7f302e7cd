/-! Signs, on both sides; a SUM. -/
/-- what the reference sees before p -/
def SV (f : Nat → Int32) (N p : Nat) : Int32 := if rnP isB f N p < N then f (rnP isB f N p) else -1
abbrev SG (c : Int32) : Prop := (0 ≤ c.toInt ∧ c.toInt < 128) ∧ isD c = false ∧ isL c = false ∧ ¬ c = 60 ∧ ¬ c = 62
theorem sb_eq {f s : Int32} (h : SB f s) (hf : f.toInt < 128) : s = f := Int32.toInt_inj.1 (h.2.2.1 hf)
section SGS
variable {f : Nat → Int32} {N p : Nat} {z6 z9 z4 : Sx} {c : Int32}
theorem see_v (h : T9 f N z9 p) : fX9_see z9 = some (SV f N p, sI z9 12 (nI (rnP isB f N p))) := see9 h
theorem sv_idem : SV f N (rnP isB f N p) = SV f N p := by
  unfold SV
  rw [rq_idem]
theorem sv_of (h : SV f N p = c) (hc : 0 ≤ c.toInt) : rnP isB f N p < N ∧ f (rnP isB f N p) = c := by
  unfold SV at h
  by_cases k : rnP isB f N p < N
  · rw [if_pos k] at h; exact ⟨k, h⟩
  · rw [if_neg k] at h
    rw [← h, show (-1 : Int32).toInt = -1 by decide] at hc
    omega
theorem tkc_sg {q : Nat} (hc : SG c) (h : f q = c) : tkc f N q = c ∧ tkx f N q = q + 1 := by
  obtain ⟨h0, h1, h2, h3, h4⟩ := hc
  have w : ¬ wid f N q := fun k => by
    rcases k.1 with e | e
    · exact h3 (h.symm.trans e)
    · exact h4 (h.symm.trans e)
  have d : ¬ isD (f q) = true := by rw [h, h1]; decide
  have l : ¬ isL (f q) = true := by rw [h, h2]; decide
  unfold tkc tkx
  rw [if_neg d, if_neg l, if_neg w, if_neg d, if_neg l, if_neg w]
  exact ⟨h, rfl⟩
theorem sg_code (hc : SG c) (hA : AT f N z6 p) : gI z6 5 = c ↔ SV f N p = c := by
  have hc1 := hc.1
  by_cases k : rnP isB f N p < N
  · rw [(at_tok hA k).1]
    unfold SV
    rw [if_pos k]
    refine ⟨fun h => ?_, fun h => (tkc_sg hc h).1⟩
    have h2 := congrArg Int32.toInt h
    unfold tkc at h2
    by_cases d : isD (f (rnP isB f N p)) = true
    · rw [if_pos d] at h2
      by_cases g : rnP isD f N (rnP isB f N p) - rnP isB f N p ≤ 5
      · rw [if_pos g, show (301 : Int32).toInt = 301 by decide] at h2; omega
      · rw [if_neg g, show (302 : Int32).toInt = 302 by decide] at h2; omega
    · rw [if_neg d] at h2
      by_cases l : isL (f (rnP isB f N p)) = true
      · rw [if_pos l] at h2
        have := wco_rng f (rnP isB f N p) (rnP isL f N (rnP isB f N p))
        omega
      · rw [if_neg l] at h2
        by_cases w : wid f N (rnP isB f N p)
        · rw [if_pos w] at h2
          by_cases e : f (rnP isB f N p) = 60
          · rw [if_pos e, show (256 : Int32).toInt = 256 by decide] at h2; omega
          · rw [if_neg e, show (257 : Int32).toInt = 257 by decide] at h2; omega
        · rw [if_neg w] at h2
          exact Int32.toInt_inj.1 h2
  · rw [(at_end hA (by omega)).1]
    unfold SV
    rw [if_neg k]
    refine ⟨fun h => ?_, fun h => ?_⟩
    · have h2 := congrArg Int32.toInt h; rw [show (300 : Int32).toInt = 300 by decide] at h2; omega
    · have h2 := congrArg Int32.toInt h; rw [show (-1 : Int32).toInt = -1 by decide] at h2; omega
/-- both pass a sign -/
theorem sg_step {t l : Nat} (hc : SG c) (h : RS f N z4 z6 z9 t l p) (hs : SV f N p = c) : ∃ w6, fX6_step z6 = some w6 ∧ RS f N z4 w6 (sI z9 12 (nI (rnP isB f N p + 1))) t l (rnP isB f N p + 1) ∧ rnP isB f N p < N ∧ p ≤ rnP isB f N p ∧ gT z9 0 (rnP isB f N p) = c ∧ f (rnP isB f N p) = c := by
  obtain ⟨hA, h8, h9, h13, hE, h3, hm⟩ := h
  obtain ⟨k, e⟩ := sv_of hs hc.1.1
  obtain ⟨-, -, -, w6, s1, s2, s3⟩ := at_tok hA k
  rw [(tkc_sg hc e).2] at s2
  exact ⟨w6, s1, ⟨s2, s3.trans h8, t9_p h9 (by omega), h13, em_9 hE (L := [12]) (fr_I fr_rf (by decide)) (by decide), h3, hm⟩, k, rq_ge, (sb_eq (h9.2.2.2.2 _ k) (by rw [e]; exact hc.1.2)).trans e, e⟩
theorem rs_sk {t l : Nat} (h : RS f N z4 z6 z9 t l p) : RS f N z4 z6 (sI z9 12 (nI (rnP isB f N p))) t l (rnP isB f N p) := by
  obtain ⟨hA, h8, h9, h13, hE, h3, hm⟩ := h
  exact ⟨at_sk hA, h8, t9_p h9 (rq_le h9.2.2.1), h13, em_9 hE (L := [12]) (fr_I fr_rf (by decide)) (by decide), h3, hm⟩
end SGS
theorem emit_tot {z : Sx} {c : Int32} : ∃ w, fX4_emit z c = some w := by
  unfold fX4_emit
  by_cases c1 : gI z 2 < 0
  · exact ⟨_, if_pos c1⟩
  · by_cases c2 : 400 ≤ gI z 2
    · exact ⟨_, by rw [if_neg c1, if_pos c2]⟩
    · have e0 : (0 : Int32).toInt = 0 := by decide
      have e4 : (400 : Int32).toInt = 400 := by decide
      have a := bI_nlt rfl e0 c1
      have b := bI_nle e4 rfl c2
      exact ⟨_, by rw [if_neg c1, if_neg c2, gd_pos (inb_of (by omega) (by omega))]⟩
theorem step_tot {z : Sx} : ∃ w, fX6_step z = some w ∧ gI w 8 = gI z 8 := by
  unfold fX6_step
  by_cases c1 : gI z 4 < 0
  · exact ⟨_, if_pos c1, rfl⟩
  · by_cases c2 : gI z 3 ≤ gI z 4
    · exact ⟨_, by rw [if_neg c1, if_pos c2], rfl⟩
    · by_cases c3 : 401 ≤ gI z 4
      · exact ⟨_, by rw [if_neg c1, if_neg c2, if_pos c3], rfl⟩
      · have e0 : (0 : Int32).toInt = 0 := by decide
        have e4 : (401 : Int32).toInt = 401 := by decide
        have a := bI_nlt rfl e0 c1
        have b := bI_nle e4 rfl c3
        refine ⟨sI (sI (sI (sI z 5 (gT z 0 ((gI z 4).toNatClampNeg))) 6 (gT z 1 ((gI z 4).toNatClampNeg))) 7 (gT z 2 ((gI z 4).toNatClampNeg))) 4 ((gI z 4) + 1), ?_, rfl⟩
        rw [if_neg c1, if_neg c2, if_neg c3, gd_pos (inb_of (by omega) (by omega))]
        rfl
/-- both went on, with room left for r codes -/
def OKB (f : Nat → Int32) (N : Nat) (z4 z9 : Sx) (A : Option (Sx × Sx)) (B : Option (Int32 × Sx)) (t r p : Nat) : Prop := ∃ (w4 w6 w9 : Sx) (p1 l1 : Nat), A = some (w4, w6) ∧ B = some (1, w9) ∧ RS f N w4 w6 w9 t l1 p1 ∧ p ≤ p1 ∧ p1 ≤ N ∧ l1 + r ≤ p1 ∧ FrL [1, 2, 3] z4 w4 ∧ FrL [3, 4, 12, 14, 16] z9 w9
section SUM
variable {f : Nat → Int32} {N p t l : Nat} {z4 z6 z9 : Sx} {k : Sx → Sx → Int32 → Option (Sx × Sx)} {n : Nat} {w x2 : Int32}
theorem cs_binds (h8 : gI z6 8 = 0) (hx : ¬ 400 ≤ x2) (hs : gI z6 5 = 42 ∨ gI z6 5 = 47) : lX4_readSum_8 k k (n + 1) z4 z6 w x2 = bd (fX6_step z6) (fun z15 => bd2 (fX4_readValue z4 z15) (fun z17 z18 => bd (fX4_emit z17 (-(gI z6 5))) (fun z24 => lX4_readSum_8 k k n z24 z18 w (x2 + 1)))) := by
  rw [lX4_readSum_8, if_neg hx, if_pos h8]
  rcases hs with h | h
  · simp only [jn, if_pos h, if_neg one0]
  · have h2 : ¬ gI z6 5 = 42 := by rw [h]; decide
    simp only [jn, if_neg h2, if_pos h, if_neg one0]
theorem cs_adds (h8 : gI z6 8 = 0) (hx : ¬ 400 ≤ x2) (hs : gI z6 5 = 43 ∨ gI z6 5 = 45) : lX4_readSum_8 k k (n + 1) z4 z6 w x2 = (if w = 0 then (fun z10 => bd (fX6_step z6) (fun z15 => bd2 (fX4_readValue z10 z15) (fun z17 z18 => lX4_readSum_8 k k n z17 z18 (gI z6 5) (x2 + 1)))) z4 else bd (fX4_emit z4 (-w)) (fun z10 => bd (fX6_step z6) (fun z15 => bd2 (fX4_readValue z10 z15) (fun z17 z18 => lX4_readSum_8 k k n z17 z18 (gI z6 5) (x2 + 1))))) := by
  rw [lX4_readSum_8, if_neg hx, if_pos h8]
  have h1 : ¬ gI z6 5 = 42 := by rcases hs with h | h <;> (rw [h]; decide)
  have h2 : ¬ gI z6 5 = 47 := by rcases hs with h | h <;> (rw [h]; decide)
  rcases hs with h | h
  · simp only [jn, if_neg h1, if_neg h2, if_pos h, if_true]
  · have h3 : ¬ gI z6 5 = 43 := by rw [h]; decide
    simp only [jn, if_neg h1, if_neg h2, if_neg h3, if_pos h, if_true]
theorem cs_stop (h1 : ¬ gI z6 5 = 42) (h2 : ¬ gI z6 5 = 47) (h3 : ¬ gI z6 5 = 43) (h4 : ¬ gI z6 5 = 45) : lX4_readSum_8 k k (n + 1) z4 z6 w x2 = k z4 z6 w := by
  rw [lX4_readSum_8]
  by_cases hx : 400 ≤ x2
  · rw [if_pos hx]
  · rw [if_neg hx]
    by_cases h8 : gI z6 8 = 0
    · rw [if_pos h8]
      simp only [jn, if_neg h1, if_neg h2, if_neg h3, if_neg h4, if_true]
    · rw [if_neg h8]
theorem cs_bad (h8 : ¬ gI z6 8 = 0) : lX4_readSum_8 k k (n + 1) z4 z6 w x2 = k z4 z6 w := by
  rw [lX4_readSum_8, if_neg h8]
  by_cases hx : 400 ≤ x2
  · rw [if_pos hx]
  · rw [if_neg hx]
theorem rt_binds {c i : Int32} (h9 : T9 f N z9 p) (hs : SV f N p = c) (hc : (c = 42 ∧ i = 4) ∨ (c = 47 ∧ i = 5)) : lX9_term_9 (n + 1) z9 = bd2 (fX9_value (sI z9 12 (nI (rnP isB f N p + 1)))) (fun r14 z15 => if r14 = 0 then some (0, z15) else bd (fX9_puts z15 i 0) (fun z18 => lX9_term_9 n z18)) := by
  have hc0 : 0 ≤ c.toInt ∧ c.toInt < 128 := by rcases hc with h | h <;> (rw [h.1]; decide)
  obtain ⟨k1, e⟩ := sv_of hs hc0.1
  have hN := h9.2.2.2.1
  have hq := rq_le (P := isB) (b := f) (N := N) h9.2.2.1
  have eg : gT z9 0 (rnP isB f N p) = c := (sb_eq (h9.2.2.2.2 _ k1) (by rw [e]; exact hc0.2)).trans e
  have T3 := t9_p h9 hq
  have s2 : fX9_see (sI z9 12 (nI (rnP isB f N p))) = some (c, sI z9 12 (nI (rnP isB f N p))) := by
    rw [see_v T3, sv_idem, hs, rq_idem, sI_sI]
  have gi : inb (gI (sI z9 12 (nI (rnP isB f N p))) 12) 400 := ⟨nI_pos (by omega), by show (nI (rnP isB f N p)).toNatClampNeg < 400; rw [nI_clamp (by omega)]; omega⟩
  have gv : gT (sI z9 12 (nI (rnP isB f N p))) 0 ((gI (sI z9 12 (nI (rnP isB f N p))) 12).toNatClampNeg) = c := by
    show gT z9 0 ((nI (rnP isB f N p)).toNatClampNeg) = c
    rw [nI_clamp (by omega)]; exact eg
  have gp : sI (sI z9 12 (nI (rnP isB f N p))) 12 (gI (sI z9 12 (nI (rnP isB f N p))) 12 + 1) = sI z9 12 (nI (rnP isB f N p + 1)) := by
    rw [sI_sI]; show sI z9 12 (nI (rnP isB f N p) + 1) = _; rw [nI_1]
  rw [lX9_term_9, bd2_eq (see_v h9), hs]
  simp only [jn]
  rcases hc with ⟨h1, h2⟩ | ⟨h1, h2⟩
  · rw [if_pos h1, gd_pos gi, gv, if_pos h1, gp, h2]
  · have h3 : ¬ c = 42 := by rw [h1]; decide
    rw [if_neg h3, bd2_eq s2, if_pos h1, gd_pos gi, gv, if_neg h3, gp, h2]
theorem rt_stop (h9 : T9 f N z9 p) (h1 : ¬ SV f N p = 42) (h2 : ¬ SV f N p = 47) : lX9_term_9 (n + 1) z9 = some (1, sI z9 12 (nI (rnP isB f N p))) := by
  have hq := rq_le (P := isB) (b := f) (N := N) h9.2.2.1
  have s2 : fX9_see (sI z9 12 (nI (rnP isB f N p))) = some (SV f N p, sI z9 12 (nI (rnP isB f N p))) := by
    rw [see_v (t9_p h9 hq), sv_idem, rq_idem, sI_sI]
  rw [lX9_term_9, bd2_eq (see_v h9)]
  simp only [jn]
  rw [if_neg h1, bd2_eq s2, if_neg h2]
theorem rs_adds {c i : Int32} (h9 : T9 f N z9 p) (hs : SV f N p = c) (hc : (c = 43 ∧ i = 2) ∨ (c = 45 ∧ i = 3)) : lX9_sum_9 (n + 1) z9 = bd2 (fX9_term (sI z9 12 (nI (rnP isB f N p + 1)))) (fun r14 z15 => if r14 = 0 then some (0, z15) else bd (fX9_puts z15 i 0) (fun z18 => lX9_sum_9 n z18)) := by
  have hc0 : 0 ≤ c.toInt ∧ c.toInt < 128 := by rcases hc with h | h <;> (rw [h.1]; decide)
  obtain ⟨k1, e⟩ := sv_of hs hc0.1
  have hN := h9.2.2.2.1
  have hq := rq_le (P := isB) (b := f) (N := N) h9.2.2.1
  have eg : gT z9 0 (rnP isB f N p) = c := (sb_eq (h9.2.2.2.2 _ k1) (by rw [e]; exact hc0.2)).trans e
  have T3 := t9_p h9 hq
  have s2 : fX9_see (sI z9 12 (nI (rnP isB f N p))) = some (c, sI z9 12 (nI (rnP isB f N p))) := by
    rw [see_v T3, sv_idem, hs, rq_idem, sI_sI]
  have gi : inb (gI (sI z9 12 (nI (rnP isB f N p))) 12) 400 := ⟨nI_pos (by omega), by show (nI (rnP isB f N p)).toNatClampNeg < 400; rw [nI_clamp (by omega)]; omega⟩
  have gv : gT (sI z9 12 (nI (rnP isB f N p))) 0 ((gI (sI z9 12 (nI (rnP isB f N p))) 12).toNatClampNeg) = c := by
    show gT z9 0 ((nI (rnP isB f N p)).toNatClampNeg) = c
    rw [nI_clamp (by omega)]; exact eg
  have gp : sI (sI z9 12 (nI (rnP isB f N p))) 12 (gI (sI z9 12 (nI (rnP isB f N p))) 12 + 1) = sI z9 12 (nI (rnP isB f N p + 1)) := by
    rw [sI_sI]; show sI z9 12 (nI (rnP isB f N p) + 1) = _; rw [nI_1]
  rw [lX9_sum_9, bd2_eq (see_v h9), hs]
  simp only [jn]
  rcases hc with ⟨h1, h2⟩ | ⟨h1, h2⟩
  · rw [if_pos h1, gd_pos gi, gv, if_pos h1, gp, h2]
  · have h3 : ¬ c = 43 := by rw [h1]; decide
    rw [if_neg h3, bd2_eq s2, if_pos h1, gd_pos gi, gv, if_neg h3, gp, h2]
theorem rs_stop (h9 : T9 f N z9 p) (h1 : ¬ SV f N p = 43) (h2 : ¬ SV f N p = 45) : lX9_sum_9 (n + 1) z9 = some (1, sI z9 12 (nI (rnP isB f N p))) := by
  have hq := rq_le (P := isB) (b := f) (N := N) h9.2.2.1
  have s2 : fX9_see (sI z9 12 (nI (rnP isB f N p))) = some (SV f N p, sI z9 12 (nI (rnP isB f N p))) := by
    rw [see_v (t9_p h9 hq), sv_idem, rq_idem, sI_sI]
  rw [lX9_sum_9, bd2_eq (see_v h9)]
  simp only [jn]
  rw [if_neg h1, bd2_eq s2, if_neg h2]
end SUM

/-! A fact and a test: the steps of each side. -/
def KT : Sx → Option (Int32 × Sx) := fun (z35 : Sx) => bd (fX9_isInside z35) (fun r37 => if r37 = 0 then bd (fX9_settles z35 1) (fun z40 => some (1, z40)) else bd2 (fX9_see z35) (fun r42 z43 => bd2 (fX9_fails z43 0 (gI z43 12)) (fun r45 z46 => gd (r45 = 0 ∨ r45 = 1) (some (r45, z46)))))
def KQ : Sx → Option (Int32 × Sx) := fun (z23 : Sx) => bd2 (fX9_compare z23) (fun r25 z26 => gd (r25 = 0 ∨ r25 = 1) (some (r25, z26)))
def TA (n : Nat) : Sx → Option (Int32 × Sx) := fun z7 => bd2 (fX9_isWord z7 6385252) (fun r9 z10 => jn (fun (z12 : Sx) (i13 : Int32) => if i13 = 0 then lX9_tested_12 KT n z12 i13 else bd2 (fX9_isWord z12 6385252) (fun r16 z17 => jn (fun (i19 : Int32) => bd (fX9_passWord z17) (fun z21 => bd (fX9_strength i19) (fun r23 => bd (fX9_settles z21 r23) (fun z25 => gd (inb (gI z25 20) 400) (lX9_tested_12 KT n (sI (sT z25 19 ((gI z25 20).toNatClampNeg) i19) 20 ((gI z25 20) + 1)) i13))))) (fun J18 => if r16 = 0 then J18 13 else J18 12))) (fun J11 => jn (fun (z29 : Sx) => J11 z29 1) (fun J28 => if r9 = 0 then bd2 (fX9_isWord z10 28530) (fun r32 z33 => if r32 = 0 then J11 z33 0 else J28 z33) else J28 z10)))
def TF (n : Nat) : Int32 → Sx → Option (Int32 × Sx) := fun r3 z4 => if r3 = 0 then some (0, z4) else bd (fX9_closes z4) (TA n)
def FP (nf n : Nat) (z : Sx) : Option (Int32 × Sx) := bd2 (lX9_fact_2 KQ nf z 1) (TF n)
def CL (nc n : Nat) (z : Sx) : Option (Int32 × Sx) := bd (lX9_closes_5 nc z) (TA n)
def CP (m nc n : Nat) (z : Sx) : Option (Int32 × Sx) := bd (lX9_settles_0 3 m z) (fun z2 => CL nc n z2)
theorem bd_as {α β γ : Type} {x : Option α} {g : α → Option β} {k : β → Option γ} : bd (bd x g) k = bd x (fun a => bd (g a) k) := by
  cases x with
  | none => rfl
  | some a => rfl
theorem te_go {n : Nat} {z : Sx} : lX9_tested_12 KT (n + 1) z 1 = FP FU n z := by
  rw [lX9_tested_12, if_neg one0]
  rfl
theorem te_end {n : Nat} {z : Sx} : lX9_tested_12 KT (n + 1) z 0 = KT z := by
  rw [lX9_tested_12, if_pos rfl]
theorem tf_0 {n : Nat} {z : Sx} : TF n 0 z = some (0, z) := if_pos rfl
theorem tf_1 {n : Nat} {z : Sx} : TF n 1 z = CP FU FU n z := by
  unfold TF
  rw [if_neg one0]
  unfold fX9_closes
  rw [bd_as]
  rfl
theorem cp_stop {f : Nat → Int32} {m nc n : Nat} {z9 : Sx} {s : List Int32} (h : SK z9 s) (hl : s.length ≤ 400) (hm : 0 < m) (hs : s = [] ∨ ∃ c s0, s = c :: s0 ∧ sth c < 3) : CP m nc n z9 = CL nc n z9 := by
  obtain ⟨m, rfl⟩ : ∃ k, m = k + 1 := ⟨m - 1, by omega⟩
  unfold CP
  rw [bd_eq (set_stop h hl hs)]
section FST
variable {f : Nat → Int32} {N t l p n nf : Nat} {z4 z6 z9 : Sx} {s : List Int32}
theorem fa_not (h9 : T9 f N z9 p) (hd : WD f N (rnP isB f N p) 7) : lX9_fact_2 KQ (nf + 1) z9 1 = bd2 (fX9_opens (sI z9 12 (nI (rnP isB f N p))) 11) (fun r18 z19 => if r18 = 0 then some (0, z19) else bd (fX9_passWord z19) (fun z22 => lX9_fact_2 KQ nf z22 1)) := by
  have hq := rq_le (P := isB) (b := f) (N := N) h9.2.2.1
  have y : fX9_isWord (sI z9 12 (nI (rnP isB f N p))) 7237492 = some (1, sI z9 12 (nI (rnP isB f N p))) := isw_yes (w := 7) (by decide) (t9_p h9 hq) rq_idem hd
  rw [lX9_fact_2, if_neg one0, bd2_eq (see_v h9), bd2_eq y]
  simp only [jn]
  rw [if_neg one0]
theorem fa_nw (h9 : T9 f N z9 p) (hd : ¬ WD f N (rnP isB f N p) 7) : lX9_fact_2 KQ (nf + 1) z9 1 = if SV f N p = 91 then bd2 (fX9_opens (sI z9 12 (nI (rnP isB f N p))) 91) (fun r14 z15 => if r14 = 0 then some (0, z15) else lX9_fact_2 KQ nf (sI z15 12 ((gI z15 12) + 1)) 1) else lX9_fact_2 KQ nf (sI z9 12 (nI (rnP isB f N p))) 0 := by
  have hq := rq_le (P := isB) (b := f) (N := N) h9.2.2.1
  have y : fX9_isWord (sI z9 12 (nI (rnP isB f N p))) 7237492 = some (0, sI z9 12 (nI (rnP isB f N p))) := isw_no (w := 7) (by decide) (t9_p h9 hq) rq_idem hd
  rw [lX9_fact_2, if_neg one0, bd2_eq (see_v h9), bd2_eq y]
  simp only [jn, if_true]
theorem fa_cmp (h9 : T9 f N z9 p) (hd : ¬ WD f N (rnP isB f N p) 7) (hs : ¬ SV f N p = 91) : lX9_fact_2 KQ (nf + 1 + 1) z9 1 = KQ (sI z9 12 (nI (rnP isB f N p))) := by
  rw [fa_nw h9 hd, if_neg hs, lX9_fact_2, if_pos rfl]
/-- the class's fact -/
def FE (z9 z10 : Sx) : Option (Sx × Sx) := if (gI z10 8) = 0 then if (gI z10 5) = 93 then bd (fX6_step z10) (fun z13 => some (z9, z13)) else bd (fX6_fail z10 0) (fun z17 => some (z9, z17)) else bd (fX6_step z10) (fun z13 => some (z9, z13))
variable {rec : Sx → Sx → Int32 → Option (Sx × Sx)} {x1 x2 x3 : Int32} {k : Sx → Sx → Int32 → Option (Sx × Sx)}
theorem fc_not (h : gI z6 5 = 311) : gX4_readFact rec z4 z6 x1 = if x1 < 10 then bd (fX6_step z6) (fun z5 => bd2 (rec z4 z5 (x1 + 1)) (fun z19 z20 => bd (fX4_emit z19 (-311)) (fun z22 => some (z22, z20)))) else bd (fX6_fail z6 2) (fun z24 => some (z4, z24)) := by
  unfold gX4_readFact
  simp only [jn, if_pos h, if_neg one0]
theorem fc_open (h1 : ¬ gI z6 5 = 311) (h : gI z6 5 = 91) : gX4_readFact rec z4 z6 x1 = if x1 < 10 then bd (fX6_step z6) (fun z5 => bd2 (fX4_readTest rec z4 z5 (x1 + 1)) FE) else bd (fX6_fail z6 2) (fun z24 => some (z4, z24)) := by
  unfold gX4_readFact
  simp only [jn, if_neg h1, if_pos h, if_true]
  rfl
theorem fc_cmp (h1 : ¬ gI z6 5 = 311) (h : ¬ gI z6 5 = 91) : gX4_readFact rec z4 z6 x1 = bd2 (fX4_readComparison z4 z6) (fun z28 z29 => some (z28, z29)) := by
  unfold gX4_readFact
  simp only [jn, if_neg h1, if_neg h, if_true]
/-- the class's test -/
def kt : Sx → Sx → Int32 → Option (Sx × Sx) := fun z35 z36 i37 => if i37 = 0 then some (z35, z36) else bd (fX4_emit z35 (-309)) (fun z40 => some (z40, z36))
theorem kt_tot : ∃ w4, kt z4 z6 x2 = some (w4, z6) := by
  unfold kt
  by_cases h : x2 = 0
  · exact ⟨_, if_pos h⟩
  · obtain ⟨w4, e⟩ := emit_tot (z := z4) (c := -309)
    exact ⟨w4, by rw [if_neg h, bd_eq e]⟩
theorem ct_and (h8 : gI z6 8 = 0) (hx : ¬ 400 ≤ x3) (h : gI z6 5 = 310) (h2 : x2 = 0 ∨ x2 = 1) : lX4_readTest_9 rec k x1 (n + 1) z4 z6 x2 x3 = bd (fX6_step z6) (fun z15 => bd2 (rec z4 z15 x1) (fun z17 z18 => bd (fX4_emit z17 (-310)) (fun z24 => lX4_readTest_9 rec k x1 n z24 z18 x2 (x3 + 1)))) := by
  have h1 : ¬ gI z6 5 = 309 := by rw [h]; decide
  rw [lX4_readTest_9, if_neg hx, if_pos h8]
  rcases h2 with rfl | rfl
  · simp only [jn, if_neg h1, if_pos h, if_true]
  · simp only [jn, if_neg h1, if_pos h, if_true, if_neg one0]
theorem ct_or (h8 : gI z6 8 = 0) (hx : ¬ 400 ≤ x3) (h : gI z6 5 = 309) : lX4_readTest_9 rec k x1 (n + 1) z4 z6 x2 x3 = (if x2 = 0 then (fun z10 => bd (fX6_step z6) (fun z15 => bd2 (rec z10 z15 x1) (fun z17 z18 => lX4_readTest_9 rec k x1 n z17 z18 1 (x3 + 1)))) z4 else bd (fX4_emit z4 (-309)) (fun z10 => bd (fX6_step z6) (fun z15 => bd2 (rec z10 z15 x1) (fun z17 z18 => lX4_readTest_9 rec k x1 n z17 z18 1 (x3 + 1))))) := by
  rw [lX4_readTest_9, if_neg hx, if_pos h8]
  by_cases h2 : x2 = 0
  · simp only [jn, if_pos h, if_neg one0, if_pos h2]
  · simp only [jn, if_pos h, if_neg one0, if_neg h2]
theorem ct_stop (h1 : ¬ gI z6 5 = 309) (h2 : ¬ gI z6 5 = 310) : lX4_readTest_9 rec k x1 (n + 1) z4 z6 x2 x3 = k z4 z6 x2 := by
  rw [lX4_readTest_9]
  by_cases hx : 400 ≤ x3
  · rw [if_pos hx]
  · rw [if_neg hx]
    by_cases h8 : gI z6 8 = 0
    · rw [if_pos h8]
      simp only [jn, if_neg h1, if_neg h2]
    · rw [if_neg h8]
theorem ct_bad (h8 : ¬ gI z6 8 = 0) : lX4_readTest_9 rec k x1 (n + 1) z4 z6 x2 x3 = k z4 z6 x2 := by
  rw [lX4_readTest_9, if_neg h8]
  by_cases hx : 400 ≤ x3
  · rw [if_pos hx]
  · rw [if_neg hx]
/-- the reference behind a fact -/
theorem ta_end (h9 : T9 f N z9 p) (hq : rnP isB f N p = p) (h6 : ¬ WD f N p 6) (h5 : ¬ WD f N p 5) : TA (n + 1) z9 = KT z9 := by
  have y6 : fX9_isWord z9 6385252 = some (0, z9) := isw_no (w := 6) (by decide) h9 hq h6
  have y5 : fX9_isWord z9 28530 = some (0, z9) := isw_no (w := 5) (by decide) h9 hq h5
  unfold TA
  rw [bd2_eq y6]
  simp only [jn, if_true]
  rw [bd2_eq y5, if_pos rfl, te_end]
theorem ta_and (h9 : T9 f N z9 p) (hq : rnP isB f N p = p) (h6 : WD f N p 6) : TA (n + 1) z9 = bd (fX9_settles (sI z9 12 (nI (rnP isL f N p))) 2) (fun z25 => gd (inb (gI z25 20) 400) (FP FU n (sI (sT z25 19 ((gI z25 20).toNatClampNeg) 12) 20 ((gI z25 20) + 1)))) := by
  have y6 : fX9_isWord z9 6385252 = some (1, z9) := isw_yes (w := 6) (by decide) h9 hq h6
  have es : fX9_strength 12 = some 2 := rfl
  unfold TA
  rw [bd2_eq y6]
  simp only [jn]
  rw [if_neg one0, if_neg one0, bd2_eq y6, if_neg one0, bd_eq (pass9 h9), bd_eq es]
  simp only [te_go]
theorem ta_or (h9 : T9 f N z9 p) (hq : rnP isB f N p = p) (h5 : WD f N p 5) : TA (n + 1) z9 = bd (fX9_settles (sI z9 12 (nI (rnP isL f N p))) 1) (fun z25 => gd (inb (gI z25 20) 400) (FP FU n (sI (sT z25 19 ((gI z25 20).toNatClampNeg) 13) 20 ((gI z25 20) + 1)))) := by
  have h6 : ¬ WD f N p 6 := fun k => by have := sp_one (v := 6) (w := 5) (by decide) (by decide) k h5; omega
  have y6 : fX9_isWord z9 6385252 = some (0, z9) := isw_no (w := 6) (by decide) h9 hq h6
  have y5 : fX9_isWord z9 28530 = some (1, z9) := isw_yes (w := 5) (by decide) h9 hq h5
  have es : fX9_strength 13 = some 1 := rfl
  unfold TA
  rw [bd2_eq y6]
  simp only [jn, if_true]
  rw [bd2_eq y5, if_neg one0, if_neg one0, bd2_eq y6, if_pos rfl, bd_eq (pass9 h9), bd_eq es]
  simp only [te_go]
theorem cl_no {nc : Nat} (h9 : T9 f N z9 p) (hs : ¬ SV f N p = 93) : CL (nc + 1) n z9 = TA n (sI z9 12 (nI (rnP isB f N p))) := by
  unfold CL
  rw [lX9_closes_5, bd2_eq (see_v h9), if_neg hs]
  rfl
theorem cl_yes {nc : Nat} (h9 : T9 f N z9 p) (hs : SV f N p = 93) (hi : fX9_isInside (sI z9 12 (nI (rnP isB f N p))) = some 1) {w9 : Sx} (hw : fX9_settles (sI z9 12 (nI (rnP isB f N p))) 1 = some w9) : CL (nc + 1) n z9 = CP FU nc n (sI (sI (sI w9 20 ((gI w9 20) - 1)) 17 ((gI w9 17) - 1)) 12 ((gI w9 12) + 1)) := by
  unfold CL
  rw [lX9_closes_5, bd2_eq (see_v h9), if_pos hs, bd_eq hi, if_neg one0, bd_eq hw, bd_as]
  rfl
theorem wd_sv {w : Nat} (hw : w < 17) (hd : WD f N (rnP isB f N p) w) : ¬ SV f N p = 93 ∧ ¬ SV f N p = 91 := by
  obtain ⟨h1, h2⟩ := wd_l hw hd
  have e : SV f N p = f (rnP isB f N p) := if_pos h1
  have h3 := isL_i.1 h2
  rw [e]
  refine ⟨fun k => ?_, fun k => ?_⟩
  · rw [k, show (93 : Int32).toInt = 93 by decide] at h3; omega
  · rw [k, show (91 : Int32).toInt = 91 by decide] at h3; omega
/-- both refuse where a bracket is not closed -/
theorem kt_in (h9 : T9 f N z9 p) (hq : rnP isB f N p = p) (h13 : gI z9 13 = 0) (hi : fX9_isInside z9 = some 1) : KT z9 = some (0, sI z9 13 (flt p 0)) := by
  have e : sI z9 12 (nI p) = z9 := by rw [← h9.2.1]; exact sI_self
  have hs := see_v h9
  rw [hq, e] at hs
  unfold KT
  rw [bd_eq hi, if_neg one0, bd2_eq hs, h9.2.1, bd2_eq fails9, gd_pos (Or.inl rfl), failz_e h13]
end FST

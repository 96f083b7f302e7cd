/-! A WORK's clauses, and a WORK, on both sides. -/
section WCL
variable {f : Nat → Int32} {N p x : Nat} {z6 z7 z9 : Sx} {x2 : Int32}
theorem wr_9 {w9 : Sx} {L : List Nat} (h : WR z7 z9) (hf : FrL L z9 w9) (hL : (L.contains 7 || L.contains 8 || L.contains 9 || (L.contains 10 || L.contains 11)) = false) : WR z7 w9 := by
  simp only [Bool.or_eq_false_iff] at hL
  unfold WR
  rw [(hf 7 hL.1.1.1).1, (hf 8 hL.1.1.2).1, (hf 9 hL.1.2).1, (hf 10 hL.2.1).2.1, (hf 11 hL.2.2).2.1]
  exact h
theorem wr_7 {w7 : Sx} (h : WR z7 z9) (hf : FrL [15, 16, 17] z7 w7) : WR w7 z9 := by
  unfold WR
  rw [(hf 1 (by decide)).1, (hf 2 (by decide)).1, (hf 3 (by decide)).1, (hf 4 (by decide)).1, (hf 5 (by decide)).2.1, (hf 6 (by decide)).2.1, (hf 7 (by decide)).2.1, (hf 8 (by decide)).2.1, (hf 9 (by decide)).2.1, (hf 10 (by decide)).2.1, (hf 11 (by decide)).2.1, (hf 12 (by decide)).2.1, (hf 13 (by decide)).2.1, (hf 14 (by decide)).2.1]
  exact h
/-- the class's clause -/
def WFL (z7 z6 : Sx) : Option (Sx × Sx) := bd (fX6_fail z6 4) (fun z5 => some (z7, z5))
theorem wc_no (h1 : ¬ gI z6 5 = 304) (h2 : ¬ gI z6 5 = 313) (h3 : ¬ gI z6 5 = 312) : fX7_readClause z7 z6 x2 = bd (fX6_fail z6 0) (fun z30 => some (z7, z30)) := by
  unfold fX7_readClause
  simp only [jn, if_neg h1, if_neg h2, if_neg h3]
theorem wc_time (h1 : gI z6 5 = 304) : fX7_readClause z7 z6 x2 = if gI z7 4 = 0 then if x2 < 24 then bd (fX6_step z6) (fun z10 => bd2 (fX6_takeNumber z10 1 480) (fun r20 z21 => some (sI (sI z7 4 1) 1 r20, z21))) else WFL z7 z6 else WFL z7 z6 := by
  unfold fX7_readClause
  simp only [jn, if_pos h1]
  rfl
theorem wc_kind (h1 : gI z6 5 = 313) : fX7_readClause z7 z6 x2 = if gI z7 2 < 6 then if x2 < 24 then bd (fX6_step z6) (fun z10 => bd2 (fX7_readKind z7 z10) (fun z17 z18 => some (z17, z18))) else WFL z7 z6 else WFL z7 z6 := by
  have h2 : ¬ gI z6 5 = 304 := by rw [h1]; decide
  unfold fX7_readClause
  simp only [jn, if_pos h1, if_neg h2, if_true, if_neg one0]
  rfl
theorem wc_fault (h1 : gI z6 5 = 312) : fX7_readClause z7 z6 x2 = if gI z7 3 < 10 then if x2 < 24 then bd (fX6_step z6) (fun z10 => bd2 (fX7_readFault z7 z10) (fun z14 z15 => some (z14, z15))) else WFL z7 z6 else WFL z7 z6 := by
  have h2 : ¬ gI z6 5 = 304 := by rw [h1]; decide
  have h3 : ¬ gI z6 5 = 313 := by rw [h1]; decide
  unfold fX7_readClause
  simp only [jn, if_pos h1, if_neg h2, if_neg h3, if_true, if_neg one0]
  rfl
/-- the reference's -/
def GK : Int32 → Sx → Option (Int32 × Sx) := fun r z => gd (r = 0 ∨ r = 1) (some (r, z))
theorem gk_1 {z : Sx} : bd2 (some ((1 : Int32), z)) GK = some (1, z) := by
  show gd ((1 : Int32) = 0 ∨ (1 : Int32) = 1) (some ((1 : Int32), z)) = _
  exact gd_pos (Or.inr rfl)
theorem gk_0 {z : Sx} : bd2 (some ((0 : Int32), z)) GK = some (0, z) := by
  show gd ((0 : Int32) = 0 ∨ (0 : Int32) = 1) (some ((0 : Int32), z)) = _
  exact gd_pos (Or.inl rfl)
theorem hw_no (h9 : T9 f N z9 p) (h15 : gI z9 15 = 6) (h13 : gI z9 13 = 0) (w0 : ¬ WD f N (rnP isB f N p) 0) (w9 : ¬ WD f N (rnP isB f N p) 9) (w8 : ¬ WD f N (rnP isB f N p) 8) : fX9_clauseHere z9 = some (0, sI (sI z9 12 (nI (rnP isB f N p))) 13 (flt (rnP isB f N p) 0)) := by
  have hq := rq_le (P := isB) (b := f) (N := N) h9.2.2.1
  have hT := t9_p h9 hq
  have y0 : fX9_isWord (sI z9 12 (nI (rnP isB f N p))) 1953066341 = some (0, sI z9 12 (nI (rnP isB f N p))) := isw_no (w := 0) (by decide) hT rq_idem w0
  have y9 : fX9_isWord (sI z9 12 (nI (rnP isB f N p))) 1802071652 = some (0, sI z9 12 (nI (rnP isB f N p))) := isw_no (w := 9) (by decide) hT rq_idem w9
  have y8 : fX9_isWord (sI z9 12 (nI (rnP isB f N p))) 439721749620 = some (0, sI z9 12 (nI (rnP isB f N p))) := isw_no (w := 8) (by decide) hT rq_idem w8
  have n6 : gI (sI z9 12 (nI (rnP isB f N p))) 15 = 6 := h15
  unfold fX9_clauseHere
  rw [bd2_eq (see_v h9)]
  simp only [jn, if_true, if_neg one0, if_pos n6]
  rw [bd2_eq y0, if_pos rfl, bd2_eq y9, if_pos rfl, bd2_eq y8, if_pos rfl]
  show bd2 (fX9_fails (sI z9 12 (nI (rnP isB f N p))) 0 (nI (rnP isB f N p))) _ = _
  rw [bd2_eq fails9, gd_pos (Or.inl rfl), failz_e (show gI (sI z9 12 (nI (rnP isB f N p))) 13 = 0 from h13)]
def HW (w : Nat) (z : Sx) (q : Int32) : Option (Int32 × Sx) := if w = 0 then fX9_isTimeHere z q else if w = 9 then fX9_isKindHere z q else fX9_isFaultHere z q
theorem hw_yes {w : Nat} (h9 : T9 f N z9 p) (h15 : gI z9 15 = 6) (hw : w = 0 ∨ w = 9 ∨ w = 8) (hd : WD f N (rnP isB f N p) w) : fX9_clauseHere z9 = if gI z9 18 = 24 then bd2 (fX9_fails (sI z9 12 (nI (rnP isB f N p))) 4 (nI (rnP isB f N p))) GK else bd2 (HW w (sI (sI z9 12 (nI (rnP isB f N p))) 18 ((gI z9 18) + 1)) (nI (rnP isB f N p))) GK := by
  have hq := rq_le (P := isB) (b := f) (N := N) h9.2.2.1
  have hT := t9_p h9 hq
  have n6 : gI (sI z9 12 (nI (rnP isB f N p))) 15 = 6 := h15
  have ne : ∀ v : Nat, v < 17 → ¬ v = w → ¬ WD f N (rnP isB f N p) v := fun v hv hn k => hn (sp_one hv (by omega) k hd)
  have a0 : ∀ v : Int32, T9 f N (sI (sI z9 12 (nI (rnP isB f N p))) 18 v) (rnP isB f N p) := fun v => t9_I hT (by decide) (by decide)
  unfold fX9_clauseHere
  rw [bd2_eq (see_v h9)]
  simp only [jn, if_true, if_neg one0, if_pos n6]
  rcases hw with rfl | rfl | rfl
  · have y0 : fX9_isWord (sI z9 12 (nI (rnP isB f N p))) 1953066341 = some (1, sI z9 12 (nI (rnP isB f N p))) := isw_yes (w := 0) (by decide) hT rq_idem hd
    have x0 : ∀ v : Int32, fX9_isWord (sI (sI z9 12 (nI (rnP isB f N p))) 18 v) 1953066341 = some (1, sI (sI z9 12 (nI (rnP isB f N p))) 18 v) := fun v => isw_yes (w := 0) (by decide) (a0 v) rq_idem hd
    rw [bd2_eq y0, if_neg one0, bd2_eq (x0 _), if_neg one0]
    rfl
  · have y0 : fX9_isWord (sI z9 12 (nI (rnP isB f N p))) 1953066341 = some (0, sI z9 12 (nI (rnP isB f N p))) := isw_no (w := 0) (by decide) hT rq_idem (ne 0 (by decide) (by decide))
    have x0 : ∀ v : Int32, fX9_isWord (sI (sI z9 12 (nI (rnP isB f N p))) 18 v) 1953066341 = some (0, sI (sI z9 12 (nI (rnP isB f N p))) 18 v) := fun v => isw_no (w := 0) (by decide) (a0 v) rq_idem (ne 0 (by decide) (by decide))
    have y9 : fX9_isWord (sI z9 12 (nI (rnP isB f N p))) 1802071652 = some (1, sI z9 12 (nI (rnP isB f N p))) := isw_yes (w := 9) (by decide) hT rq_idem hd
    have x9 : ∀ v : Int32, fX9_isWord (sI (sI z9 12 (nI (rnP isB f N p))) 18 v) 1802071652 = some (1, sI (sI z9 12 (nI (rnP isB f N p))) 18 v) := fun v => isw_yes (w := 9) (by decide) (a0 v) rq_idem hd
    rw [bd2_eq y0, if_pos rfl, bd2_eq y9, if_neg one0, bd2_eq (x0 _), if_pos rfl, bd2_eq (x9 _), if_neg one0]
    rfl
  · have y0 : fX9_isWord (sI z9 12 (nI (rnP isB f N p))) 1953066341 = some (0, sI z9 12 (nI (rnP isB f N p))) := isw_no (w := 0) (by decide) hT rq_idem (ne 0 (by decide) (by decide))
    have x0 : ∀ v : Int32, fX9_isWord (sI (sI z9 12 (nI (rnP isB f N p))) 18 v) 1953066341 = some (0, sI (sI z9 12 (nI (rnP isB f N p))) 18 v) := fun v => isw_no (w := 0) (by decide) (a0 v) rq_idem (ne 0 (by decide) (by decide))
    have y9 : fX9_isWord (sI z9 12 (nI (rnP isB f N p))) 1802071652 = some (0, sI z9 12 (nI (rnP isB f N p))) := isw_no (w := 9) (by decide) hT rq_idem (ne 9 (by decide) (by decide))
    have x9 : ∀ v : Int32, fX9_isWord (sI (sI z9 12 (nI (rnP isB f N p))) 18 v) 1802071652 = some (0, sI (sI z9 12 (nI (rnP isB f N p))) 18 v) := fun v => isw_no (w := 9) (by decide) (a0 v) rq_idem (ne 9 (by decide) (by decide))
    have y8 : fX9_isWord (sI z9 12 (nI (rnP isB f N p))) 439721749620 = some (1, sI z9 12 (nI (rnP isB f N p))) := isw_yes (w := 8) (by decide) hT rq_idem hd
    rw [bd2_eq y0, if_pos rfl, bd2_eq y9, if_pos rfl, bd2_eq y8, if_neg one0, bd2_eq (x0 _), if_pos rfl, bd2_eq (x9 _), if_pos rfl]
    rfl
/-- both stand before a clause of a WORK -/
def WC (f : Nat → Int32) (N : Nat) (z7 z6 z9 : Sx) (p x : Nat) : Prop := WSQ f N z6 z9 p ∧ WR z7 z9 ∧ gI z9 15 = 6 ∧ gI z9 18 = nI x ∧ x ≤ 24
def WOK (f : Nat → Int32) (N : Nat) (A : Option (Sx × Sx)) (B : Option (Int32 × Sx)) (p x : Nat) : Prop := ∃ (w7 w6 w9 : Sx) (p1 : Nat), A = some (w7, w6) ∧ B = some (1, w9) ∧ WC f N w7 w6 w9 p1 (x + 1) ∧ p < p1
/-- both pass the word -/
theorem ww_step {w : Nat} (hw : w < 17) (h : WC f N z7 z6 z9 p x) (hx : x < 24) (hd : WD f N (rnP isB f N p) w) : ∃ w6 y9 p2, fX6_step z6 = some w6 ∧ fX9_passWord (sI (sI z9 12 (nI (rnP isB f N p))) 18 (nI (x + 1))) = some y9 ∧ WC f N z7 w6 y9 p2 (x + 1) ∧ p < p2 := by
  obtain ⟨⟨hA, h8, h9, h13⟩, hr, h15, h18, -⟩ := h
  have hl := wd_l hw hd
  have hq := rq_le (P := isB) (b := f) (N := N) h9.2.2.1
  have hqg := rq_ge (P := isB) (b := f) (N := N) (p := p)
  obtain ⟨-, -, -, w6, s1, s2, s3⟩ := at_tok hA hl.1
  have hxx := tkx_gt (f := f) hl.1
  rw [tkx_wd hw hd] at s2 hxx
  have hT : T9 f N (sI (sI z9 12 (nI (rnP isB f N p))) 18 (nI (x + 1))) (rnP isB f N p) := t9_I (t9_p h9 hq) (by decide) (by decide)
  exact ⟨w6, _, rnP isL f N (rnP isB f N p), s1, pass9 hT, ⟨⟨s2, s3.trans h8, t9_p hT hxx.2, h13⟩, wr_9 (L := [12, 18]) hr (fr_I (fr_I (fr_I fr_rf (by decide)) (by decide)) (by decide)) (by decide), h15, rfl, by omega⟩, by omega⟩
theorem wfl_e {q : Nat} (h8 : gI z6 8 = 0) (h6 : gI z6 6 = nI q) : WFL z7 z6 = some (z7, sI z6 8 (flt q 4)) := by
  unfold WFL
  rw [bd_eq (fail6 h8 h6)]
theorem gk_fail {q : Nat} {z : Sx} (h13 : gI z 13 = 0) : bd2 (fX9_fails z 4 (nI q)) GK = some (0, sI z 13 (flt q 4)) := by
  rw [bd2_eq fails9, failz_e h13]
  exact gd_pos (Or.inl rfl)
theorem work_clause (h : WC f N z7 z6 z9 p x) : WOK f N (fX7_readClause z7 z6 (nI x)) (fX9_clauseHere z9) p x ∨ BDD (fX7_readClause z7 z6 (nI x)) (fX9_clauseHere z9) := by
  obtain ⟨⟨hA, h8, h9, h13⟩, hr, h15, h18, hx⟩ := id h
  have hp := h9.2.2.1
  have hN := h9.2.2.2.1
  have hq := rq_le (P := isB) (b := f) (N := N) hp
  have hb : ∀ i : Nat, i < N → 0 ≤ (f i).toInt ∧ (f i).toInt ≤ 255 := fun i hi => ⟨(h9.2.2.2.2 i hi).1, (h9.2.2.2.2 i hi).2.1⟩
  have cd : ∀ w : Nat, w < 17 → (gI z6 5 = nI (304 + w) ↔ WD f N (rnP isB f N p) w) := fun w hw => code_wd hw hA hp hb
  have six := at_6 hA hp
  have fl4 : ∀ z : Sx, gI z 13 = 0 → BDD (WFL z7 z6) (bd2 (fX9_fails z 4 (nI (rnP isB f N p))) GK) := fun z hz => ⟨z7, _, _, wfl_e h8 six, gk_fail hz, flt_n0 (a := 4) (by decide) (by decide) (by omega), rfl⟩
  have z24 : gI z9 18 = 24 ↔ x = 24 := by
    rw [h18]
    exact ⟨fun k => (nI_eq (b := 24) (by omega) (by decide)).1 k, fun k => by rw [k]; rfl⟩
  have l24 : nI x < 24 ↔ x < 24 := ⟨fun k => by
    by_cases c : x < 24
    · exact c
    · exact absurd k (nI_nlt (b := 24) (by omega) (by omega)), fun k => nI_lt (b := 24) k (by decide)⟩
  have e18 : gI z9 18 + 1 = nI (x + 1) := by rw [h18, nI_1]
  obtain ⟨⟨r2, r8a, r8b⟩, ⟨r3, r9a, r9b⟩, rt, -, -⟩ := id hr
  have z0 : (0 : Int32).toInt = 0 := by decide
  have z6i : (6 : Int32).toInt = 6 := by decide
  have z10i : (10 : Int32).toInt = 10 := by decide
  by_cases w0 : WD f N (rnP isB f N p) 0
  · rw [wc_time ((cd 0 (by decide)).2 w0), hw_yes h9 h15 (Or.inl rfl) w0]
    by_cases c24 : x = 24
    · right
      rw [if_pos (z24.2 c24), if_neg (show ¬ nI x < 24 from fun k => by have := l24.1 k; omega)]
      have := fl4 (sI z9 12 (nI (rnP isB f N p))) h13
      by_cases k : gI z7 4 = 0
      · rw [if_pos k]; exact this
      · rw [if_neg k]; exact this
    rw [if_neg (fun k => c24 (z24.1 k)), if_pos (l24.2 (by omega)), e18]
    show WOK f N _ (bd2 (fX9_isTimeHere _ _) GK) p x ∨ BDD _ (bd2 (fX9_isTimeHere _ _) GK)
    unfold fX9_isTimeHere
    rcases rt with ⟨t1, t2, t3⟩ | ⟨t1, t2, t3, t4⟩
    · obtain ⟨u6, y9, p2, s1, s2, s3, s4⟩ := ww_step (w := 0) (by decide) h (by omega) w0
      rw [if_pos t1, bd_eq s1, if_pos (show gI (sI (sI z9 12 (nI (rnP isB f N p))) 18 (nI (x + 1))) 7 < 0 by show gI z9 7 < 0; rw [t2]; decide), bd_eq s2]
      obtain ⟨k1, k2, k3, k4, k5⟩ := s3
      rcases num2 (lo := 1) (hi := 480) k1 with ⟨v, b6, b9, p3, t6, n6, W6, g6, lo6, hi6, q6, fr6⟩ | ⟨v, b6, b9, t6, n6, ne6, x6⟩
      · left
        have a1 := bI_le (show (1 : Int32).toInt = 1 by decide) rfl lo6
        have a2 := bI_le rfl (show (480 : Int32).toInt = 480 by decide) hi6
        refine ⟨sI (sI z7 4 1) 1 v, b6, sI b9 7 v, p3, by rw [bd2_eq t6], ?_, ⟨ws_fr (L := [7]) W6 (fr_I fr_rf (by decide)) (by decide) (by decide), ?_, (fr6 15 (by decide)).1.trans k3, (fr6 18 (by decide)).1.trans k4, k5⟩, by omega⟩
        · rw [bd2_eq n6, if_neg one0, q6]
          exact gk_1
        · have hr2 := wr_9 (L := [12, 14]) k2 fr6 (by decide)
          obtain ⟨j1, j2, -, j4, j5⟩ := hr2
          exact ⟨j1, j2, Or.inr ⟨rfl, rfl, a1, a2⟩, j4, j5⟩
      · right
        refine ⟨sI (sI z7 4 1) 1 v, b6, b9, by rw [bd2_eq t6], ?_, ne6, x6⟩
        rw [bd2_eq n6, if_pos rfl]
        exact gk_0
    · right
      rw [if_neg (show ¬ gI z7 4 = 0 by rw [t1]; decide), if_neg (show ¬ gI (sI (sI z9 12 (nI (rnP isB f N p))) 18 (nI (x + 1))) 7 < 0 from fun k => by have := bI_lt rfl z0 (show gI z9 7 < 0 from k); omega)]
      refine ⟨z7, _, sI (sI (sI z9 12 (nI (rnP isB f N p))) 18 (nI (x + 1))) 13 (flt (rnP isB f N p) 4), wfl_e h8 six, ?_, flt_n0 (a := 4) (by decide) (by decide) (by omega), rfl⟩
      rw [bd2_eq fails9, gd_pos (Or.inl rfl), failz_e (show gI (sI (sI z9 12 (nI (rnP isB f N p))) 18 (nI (x + 1))) 13 = 0 from h13)]
      exact gk_0
  by_cases w9 : WD f N (rnP isB f N p) 9
  · rw [wc_kind ((cd 9 (by decide)).2 w9), hw_yes h9 h15 (Or.inr (Or.inl rfl)) w9]
    by_cases c24 : x = 24
    · right
      rw [if_pos (z24.2 c24), if_neg (show ¬ nI x < 24 from fun k => by have := l24.1 k; omega)]
      have := fl4 (sI z9 12 (nI (rnP isB f N p))) h13
      by_cases k : gI z7 2 < 6
      · rw [if_pos k]; exact this
      · rw [if_neg k]; exact this
    rw [if_neg (fun k => c24 (z24.1 k)), if_pos (l24.2 (by omega)), e18]
    show WOK f N _ (bd2 (fX9_isKindHere _ _) GK) p x ∨ BDD _ (bd2 (fX9_isKindHere _ _) GK)
    unfold fX9_isKindHere
    by_cases k6 : (gI z9 8).toInt < 6
    · obtain ⟨u6, y9, p2, s1, s2, s3, s4⟩ := ww_step (w := 9) (by decide) h (by omega) w9
      rw [if_pos (show gI z7 2 < 6 from (i32_lt _ _).2 (by rw [r2, z6i]; exact k6)), bd_eq s1, if_neg (show ¬ gI (sI (sI z9 12 (nI (rnP isB f N p))) 18 (nI (x + 1))) 8 = 6 from fun k => by have k : gI z9 8 = 6 := k; rw [k, z6i] at k6; omega), bd_eq s2]
      obtain ⟨k1, k2, k3, k4, k5⟩ := s3
      have k8 : (gI y9 8).toInt < 6 := by
        have := k2.1.1
        rw [← this, r2]; exact k6
      rcases kind_b k1 k2 k8 with ⟨v7, v6, v9, p3, b1, b2, b3, b4, b5, b6⟩ | ⟨v7, v6, v9, b1, b2, b3, b4⟩
      · left
        refine ⟨v7, v6, v9, p3, by rw [bd2_eq b1], ?_, ⟨b3, b4, (b6 15 (by decide)).1.trans k3, (b6 18 (by decide)).1.trans k4, k5⟩, by omega⟩
        rw [show lX9_isKindHere_22 (fun (z10 : Sx) => some (1, sI z10 8 ((gI z10 8) + 1))) FU y9 0 = some (1, v9) from b2]
        exact gk_1
      · right
        refine ⟨v7, v6, v9, by rw [bd2_eq b1], ?_, b3, b4⟩
        rw [show lX9_isKindHere_22 (fun (z10 : Sx) => some (1, sI z10 8 ((gI z10 8) + 1))) FU y9 0 = some (0, v9) from b2]
        exact gk_0
    · right
      rw [if_neg (show ¬ gI z7 2 < 6 from fun k => by have := (i32_lt _ _).1 k; rw [r2, z6i] at this; omega), if_pos (show gI (sI (sI z9 12 (nI (rnP isB f N p))) 18 (nI (x + 1))) 8 = 6 from Int32.toInt_inj.1 (show (gI z9 8).toInt = _ by rw [z6i]; omega))]
      refine ⟨z7, _, sI (sI (sI z9 12 (nI (rnP isB f N p))) 18 (nI (x + 1))) 13 (flt (rnP isB f N p) 4), wfl_e h8 six, ?_, flt_n0 (a := 4) (by decide) (by decide) (by omega), rfl⟩
      rw [bd2_eq fails9, gd_pos (Or.inl rfl), failz_e (show gI (sI (sI z9 12 (nI (rnP isB f N p))) 18 (nI (x + 1))) 13 = 0 from h13)]
      exact gk_0
  by_cases w8 : WD f N (rnP isB f N p) 8
  · rw [wc_fault ((cd 8 (by decide)).2 w8), hw_yes h9 h15 (Or.inr (Or.inr rfl)) w8]
    by_cases c24 : x = 24
    · right
      rw [if_pos (z24.2 c24), if_neg (show ¬ nI x < 24 from fun k => by have := l24.1 k; omega)]
      have := fl4 (sI z9 12 (nI (rnP isB f N p))) h13
      by_cases k : gI z7 3 < 10
      · rw [if_pos k]; exact this
      · rw [if_neg k]; exact this
    rw [if_neg (fun k => c24 (z24.1 k)), if_pos (l24.2 (by omega)), e18]
    show WOK f N _ (bd2 (fX9_isFaultHere _ _) GK) p x ∨ BDD _ (bd2 (fX9_isFaultHere _ _) GK)
    rw [fh_eq]
    by_cases k6 : (gI z9 9).toInt < 10
    · obtain ⟨u6, y9, p2, s1, s2, s3, s4⟩ := ww_step (w := 8) (by decide) h (by omega) w8
      rw [if_pos (show gI z7 3 < 10 from (i32_lt _ _).2 (by rw [r3, z10i]; exact k6)), bd_eq s1, if_neg (show ¬ gI (sI (sI z9 12 (nI (rnP isB f N p))) 18 (nI (x + 1))) 9 = 10 from fun k => by have k : gI z9 9 = 10 := k; rw [k, z10i] at k6; omega), bd_eq s2]
      obtain ⟨k1, k2, k3, k4, k5⟩ := s3
      have k8 : (gI y9 9).toInt < 10 := by
        have := k2.2.1.1
        rw [← this, r3]; exact k6
      rcases fault_b k1 k2 k8 with ⟨v7, v6, v9, p3, b1, b2, b3, b4, b5, b6⟩ | ⟨v7, v6, v9, b1, b2, b3, b4⟩
      · left
        refine ⟨v7, v6, v9, p3, by rw [bd2_eq b1], ?_, ⟨b3, b4, (b6 15 (by decide)).1.trans k3, (b6 18 (by decide)).1.trans k4, k5⟩, by omega⟩
        rw [b2]
        exact gk_1
      · right
        refine ⟨v7, v6, v9, by rw [bd2_eq b1], ?_, b3, b4⟩
        rw [b2]
        exact gk_0
    · right
      rw [if_neg (show ¬ gI z7 3 < 10 from fun k => by have := (i32_lt _ _).1 k; rw [r3, z10i] at this; omega), if_pos (show gI (sI (sI z9 12 (nI (rnP isB f N p))) 18 (nI (x + 1))) 9 = 10 from Int32.toInt_inj.1 (show (gI z9 9).toInt = _ by rw [z10i]; omega))]
      refine ⟨z7, _, sI (sI (sI z9 12 (nI (rnP isB f N p))) 18 (nI (x + 1))) 13 (flt (rnP isB f N p) 4), wfl_e h8 six, ?_, flt_n0 (a := 4) (by decide) (by decide) (by omega), rfl⟩
      rw [bd2_eq fails9, gd_pos (Or.inl rfl), failz_e (show gI (sI (sI z9 12 (nI (rnP isB f N p))) 18 (nI (x + 1))) 13 = 0 from h13)]
      exact gk_0
  · right
    rw [wc_no (fun k => w0 ((cd 0 (by decide)).1 k)) (fun k => w9 ((cd 9 (by decide)).1 k)) (fun k => w8 ((cd 8 (by decide)).1 k)), bd_eq (fail6 h8 six), hw_no h9 h15 h13 w0 w9 w8]
    exact ⟨z7, _, _, rfl, rfl, flt_n0 (a := 0) (by decide) (by decide) (by omega), rfl⟩
/-- behind the clauses -/
def K7 : Sx → Sx → Option (Sx × Sx) := fun (z9 : Sx) (z10 : Sx) => jn (fun (z12 : Sx) (z13 : Sx) => bd (fX7_orderLooks z12) (fun z15 => some (z15, z13))) (fun J11 => if (gI z9 3) = 0 then bd (fX6_fail z10 0) (fun z18 => J11 z9 z18) else J11 z9 z10)
theorem fail_bad {w : Int32} (h : ¬ gI z6 8 = 0) : fX6_fail z6 w = some z6 := by
  unfold fX6_fail
  rw [if_neg h]
theorem k7_ok (h : ¬ gI z7 3 = 0) : ∃ w7, K7 z7 z6 = some (w7, z6) ∧ FrL [15, 16, 17] z7 w7 := by
  obtain ⟨w7, e, q⟩ := t_fX7_orderLooks (z_t := z7)
  refine ⟨w7, ?_, q⟩
  unfold K7
  simp only [jn]
  rw [if_neg h, bd_eq e]
theorem k7_bad (h : ¬ gI z6 8 = 0) : ∃ w7, K7 z7 z6 = some (w7, z6) := by
  obtain ⟨w7, e, q⟩ := t_fX7_orderLooks (z_t := z7)
  refine ⟨w7, ?_⟩
  unfold K7
  simp only [jn]
  by_cases c : gI z7 3 = 0
  · rw [if_pos c, bd_eq (fail_bad h), bd_eq e]
  · rw [if_neg c, bd_eq e]
theorem k7_0 {q : Nat} (h : gI z7 3 = 0) (h8 : gI z6 8 = 0) (h6 : gI z6 6 = nI q) : ∃ w7, K7 z7 z6 = some (w7, sI z6 8 (flt q 0)) := by
  obtain ⟨w7, e, -⟩ := t_fX7_orderLooks (z_t := z7)
  refine ⟨w7, ?_⟩
  unfold K7
  simp only [jn]
  rw [if_pos h, bd_eq (fail6 h8 h6), bd_eq e]
theorem kr_w1 (h9 : T9 f N z9 p) (h13 : gI z9 13 = 0) (h15 : gI z9 15 = 6) (h : ¬ gI z9 9 = 0) (hs : SV f N p = -1) : KR z9 1 = some (1, sI (sI z9 12 (nI (rnP isB f N p))) 1 0) := by
  unfold KR
  simp only [jn, if_true]
  rw [if_neg one0, bd2_eq (see_v h9), if_pos hs, if_neg one0, if_pos (show gI (sI z9 12 (nI (rnP isB f N p))) 15 = 6 from h15), if_neg (show ¬ gI (sI z9 12 (nI (rnP isB f N p))) 9 = 0 from h), if_pos (show gI (sI z9 12 (nI (rnP isB f N p))) 13 = 0 from h13)]
theorem kr_w0 (h9 : T9 f N z9 p) (h13 : gI z9 13 = 0) (h15 : gI z9 15 = 6) (h : gI z9 9 = 0) (hs : SV f N p = -1) : KR z9 1 = some (0, sI (sI (sI z9 12 (nI (rnP isB f N p))) 13 (flt (rnP isB f N p) 0)) 1 0) := by
  have hq := rq_le (P := isB) (b := f) (N := N) h9.2.2.1
  have hN := h9.2.2.2.1
  have e12 : gI (sI z9 12 (nI (rnP isB f N p))) 12 = nI (rnP isB f N p) := rfl
  unfold KR
  simp only [jn, if_true]
  rw [if_neg one0, bd2_eq (see_v h9), if_pos hs, if_neg one0, if_pos (show gI (sI z9 12 (nI (rnP isB f N p))) 15 = 6 from h15), if_pos (show gI (sI z9 12 (nI (rnP isB f N p))) 9 = 0 from h), e12, bd2_eq fails9, failz_e (show gI (sI z9 12 (nI (rnP isB f N p))) 13 = 0 from h13)]
  exact if_neg (flt_n0 (a := 0) (by decide) (by decide) (by omega))
theorem work_run : ∀ (g p x n m : Nat) (z7 z6 z9 : Sx), N - p ≤ g → WC f N z7 z6 z9 p x → N - p + 1 < n → N - p < m → (∃ w7 w6 w9, lX7_readFrom_10 K7 n z7 z6 1 (nI x) = some (w7, w6) ∧ gI w6 8 = 0 ∧ bd2 (fX9_clauseHere z9) (fun r11 z12 => lX9_readsAll_35 KR m z12 r11) = some (1, w9) ∧ WR w7 w9) ∨ BDD (lX7_readFrom_10 K7 n z7 z6 1 (nI x)) (bd2 (fX9_clauseHere z9) (fun r11 z12 => lX9_readsAll_35 KR m z12 r11)) := by
  intro g
  induction g with
  | zero =>
    intro p x n m z7 z6 z9 hg h hn hm
    obtain ⟨n, rfl⟩ : ∃ k, n = k + 1 + 1 := ⟨n - 2, by omega⟩
    obtain ⟨m, rfl⟩ : ∃ k, m = k + 1 := ⟨m - 1, by omega⟩
    have hx := h.2.2.2.2
    have x24 : ¬ (24 : Int32) < nI x := nI_nlt (a := 24) hx (by decide)
    rcases work_clause h with ⟨y7, y6, y9, p1, a1, a2, a3, a4⟩ | ⟨y7, y6, y9, a1, a2, a3, a4⟩
    · have := a3.1.2.2.1.2.2.1
      omega
    · right
      obtain ⟨w7, e⟩ := k7_bad (z7 := y7) a3
      refine ⟨w7, y6, sI y9 1 0, ?_, ?_, a3, a4⟩
      · rw [lX7_readFrom_10, if_neg one0, if_neg x24, bd2_eq a1, bd2_eq (an_bad a3), lX7_readFrom_10, if_pos rfl, e]
      · rw [bd2_eq a2, lX9_readsAll_35, if_pos rfl, kr_bad (by rw [a4]; exact a3)]
  | succ g ih =>
    intro p x n m z7 z6 z9 hg h hn hm
    obtain ⟨n, rfl⟩ : ∃ k, n = k + 1 + 1 := ⟨n - 2, by omega⟩
    obtain ⟨m, rfl⟩ : ∃ k, m = k + 1 := ⟨m - 1, by omega⟩
    have hx := h.2.2.2.2
    have x24 : ¬ (24 : Int32) < nI x := nI_nlt (a := 24) hx (by decide)
    rcases work_clause h with ⟨y7, y6, y9, p1, a1, a2, a3, a4⟩ | ⟨y7, y6, y9, a1, a2, a3, a4⟩
    · obtain ⟨⟨hA, h8, h9, h13⟩, hr, h15, h18, hx1⟩ := a3
      have hp := h9.2.2.1
      have hN := h9.2.2.2.1
      have hq := rq_le (P := isB) (b := f) (N := N) hp
      have hqg := rq_ge (P := isB) (b := f) (N := N) (p := p1)
      have T3 := t9_p h9 hq
      by_cases k59 : SV f N p1 = 59
      · have c59 : gI y6 5 = 59 := (sg_code (by decide) hA).2 k59
        obtain ⟨kq, ef⟩ := sv_of k59 (by decide)
        obtain ⟨-, -, -, u6, s1, s2, s3⟩ := at_tok hA kq
        rw [(tkc_sg (c := 59) (by decide) ef).2] at s2
        have eA : fX6_anotherClause y6 = some (1, u6) := by
          unfold fX6_anotherClause
          rw [if_pos h8, if_neg (by rw [c59]; decide), if_pos c59, bd_eq s1]
        have eB : lX9_readsAll_35 KR (m + 1) y9 1 = bd2 (fX9_clauseHere (sI y9 12 (nI (rnP isB f N p1 + 1)))) (fun r11 z12 => lX9_readsAll_35 KR m z12 r11) := by
          rw [lX9_readsAll_35, if_neg one0, bd2_eq (see_v h9), if_pos k59, sI_sI]
          show bd2 (fX9_clauseHere (sI y9 12 (nI (rnP isB f N p1) + 1))) _ = _
          rw [nI_1]
        have nx : WC f N y7 u6 (sI y9 12 (nI (rnP isB f N p1 + 1))) (rnP isB f N p1 + 1) (x + 1) := ⟨⟨s2, s3.trans h8, t9_p h9 (by omega), h13⟩, wr_9 (L := [12]) hr (fr_I fr_rf (by decide)) (by decide), h15, h18, hx1⟩
        have := ih (rnP isB f N p1 + 1) (x + 1) (n + 1) m y7 u6 (sI y9 12 (nI (rnP isB f N p1 + 1))) (by omega) nx (by omega) (by omega)
        rw [lX7_readFrom_10, if_neg one0, if_neg x24, bd2_eq a1, bd2_eq eA, nI_1, bd2_eq a2, eB]
        exact this
      · have c59 : ¬ gI y6 5 = 59 := fun k => k59 ((sg_code (by decide) hA).1 k)
        have sv2 : SV f N (rnP isB f N p1) = SV f N p1 := sv_idem
        have eB : lX9_readsAll_35 KR (m + 1) y9 1 = KR (sI y9 12 (nI (rnP isB f N p1))) 1 := by
          rw [lX9_readsAll_35, if_neg one0, bd2_eq (see_v h9), if_neg k59]
        have fin : ∀ u6, fX6_anotherClause y6 = some (0, u6) → lX7_readFrom_10 K7 (n + 1 + 1) z7 z6 1 (nI x) = K7 y7 u6 := fun u6 e => by
          rw [lX7_readFrom_10, if_neg one0, if_neg x24, bd2_eq a1, bd2_eq e, lX7_readFrom_10, if_pos rfl]
        by_cases hend : rnP isB f N p1 < N
        · right
          have sv : SV f N p1 = f (rnP isB f N p1) := if_pos hend
          have bb := h9.2.2.2.2 _ hend
          have n1 : ¬ SV f N p1 = -1 := fun k => by
            rw [sv] at k
            have := bb.1
            rw [k, show (-1 : Int32).toInt = -1 by decide] at this
            omega
          have c300 : ¬ gI y6 5 = 300 := by
            rw [(at_tok hA hend).1]
            exact tkc_300 ⟨bb.1, bb.2.1⟩
          have eA : fX6_anotherClause y6 = some (0, sI y6 8 (flt (rnP isB f N p1) 0)) := by
            unfold fX6_anotherClause
            rw [if_pos h8, if_neg c300, if_neg c59, bd_eq (fail6 h8 (at_6 hA hp))]
          have nz : ¬ gI (sI y6 8 (flt (rnP isB f N p1) 0)) 8 = 0 := flt_n0 (a := 0) (by decide) (by decide) (by omega)
          obtain ⟨w7, e⟩ := k7_bad (z7 := y7) nz
          refine ⟨w7, _, sI (sI (sI (sI y9 12 (nI (rnP isB f N p1))) 12 (nI (rnP isB f N (rnP isB f N p1)))) 13 (flt (rnP isB f N (rnP isB f N p1)) 0)) 1 0, (fin _ eA).trans e, ?_, nz, ?_⟩
          · rw [bd2_eq a2, eB, kr_no T3 h13 (by rw [sv2]; exact n1)]
          · show flt (rnP isB f N (rnP isB f N p1)) 0 = flt (rnP isB f N p1) 0
            rw [rq_idem]
        · have sv : SV f N p1 = -1 := if_neg hend
          have c300 : gI y6 5 = 300 := (at_end hA (by omega)).1
          have eA : fX6_anotherClause y6 = some (0, y6) := by
            unfold fX6_anotherClause
            rw [if_pos h8, if_pos c300]
          by_cases f0 : gI y7 3 = 0
          · right
            obtain ⟨w7, e⟩ := k7_0 f0 h8 (at_6 hA hp)
            refine ⟨w7, _, sI (sI (sI (sI y9 12 (nI (rnP isB f N p1))) 12 (nI (rnP isB f N (rnP isB f N p1)))) 13 (flt (rnP isB f N (rnP isB f N p1)) 0)) 1 0, (fin _ eA).trans e, ?_, flt_n0 (a := 0) (by decide) (by decide) (by omega), ?_⟩
            · rw [bd2_eq a2, eB, kr_w0 T3 h13 h15 (show gI y9 9 = 0 by rw [← hr.2.1.1]; exact f0) (by rw [sv2]; exact sv)]
            · show flt (rnP isB f N (rnP isB f N p1)) 0 = flt (rnP isB f N p1) 0
              rw [rq_idem]
          · left
            obtain ⟨w7, e, q⟩ := k7_ok (z6 := y6) f0
            refine ⟨w7, y6, sI (sI (sI y9 12 (nI (rnP isB f N p1))) 12 (nI (rnP isB f N (rnP isB f N p1)))) 1 0, (fin _ eA).trans e, h8, ?_, wr_9 (L := [1, 12]) (wr_7 hr q) (fr_I (fr_I (fr_I fr_rf (by decide)) (by decide)) (by decide)) (by decide)⟩
            rw [bd2_eq a2, eB, kr_w1 T3 h13 h15 (show ¬ gI y9 9 = 0 by rw [← hr.2.1.1]; exact f0) (by rw [sv2]; exact sv)]
    · right
      obtain ⟨w7, e⟩ := k7_bad (z7 := y7) a3
      refine ⟨w7, y6, sI y9 1 0, ?_, ?_, a3, a4⟩
      · rw [lX7_readFrom_10, if_neg one0, if_neg x24, bd2_eq a1, bd2_eq (an_bad a3), lX7_readFrom_10, if_pos rfl, e]
      · rw [bd2_eq a2, lX9_readsAll_35, if_pos rfl, kr_bad (by rw [a4]; exact a3)]
end WCL
section WWH
variable {N : Nat} {z4 z5 z6 z8 z9 zd : Sx} {s : Int32}
/-- a WORK is taken, or refused, by both -/
theorem work_whole (hT : TX z8 z9 N) : ∃ u6 w7 w6 w9, fX6_open z6 400 (gT z8 0) (gI z8 1) = some u6 ∧ fX7_readFrom (sI Z0 0 s) u6 = some (w7, w6) ∧ ((gI w6 8 = 0 ∧ fX9_readsAll (sI (sI (sI (sI z9 15 6) 7 (-1)) 8 0) 9 0) = some (1, w9) ∧ WR w7 w9) ∨ (¬ gI w6 8 = 0 ∧ fX9_readsAll (sI (sI (sI (sI z9 15 6) 7 (-1)) 8 0) 9 0) = some (0, w9) ∧ gI w9 13 = gI w6 8)) := by
  obtain ⟨h81, h91, hN, hb⟩ := hT
  obtain ⟨u6, a1, a2, a3⟩ := at_open (f := gT z8 0) (N := N) (z := z6) hN
  have c6 : (6 : Int32).toNatClampNeg = 6 := by decide
  have eR : fX9_readsAll (sI (sI (sI (sI z9 15 6) 7 (-1)) 8 0) 9 0) = bd2 (fX9_clauseHere (sI (sI (sI (sI (sT (sI (sI (sI (sI z9 15 6) 7 (-1)) 8 0) 9 0) 4 6 0) 18 0) 12 0) 13 0) 16 0)) (fun r11 z12 => lX9_readsAll_35 KR FU z12 r11) := by
    unfold fX9_readsAll
    rw [gd_pos (show inb (gI (sI (sI (sI (sI z9 15 6) 7 (-1)) 8 0) 9 0) 15) 7 from ⟨show ¬ (6 : Int32) < 0 by decide, show (6 : Int32).toNatClampNeg < 7 by decide⟩)]
    show bd2 (fX9_clauseHere (sI (sI (sI (sI (sT (sI (sI (sI (sI z9 15 6) 7 (-1)) 8 0) 9 0) 4 ((6 : Int32).toNatClampNeg) 0) 18 0) 12 0) 13 0) 16 0)) _ = _
    rw [c6]
    rfl
  have hW : WC (gT z8 0) N (sI (sI Z0 0 s) 1 60) u6 (sI (sI (sI (sI (sT (sI (sI (sI (sI z9 15 6) 7 (-1)) 8 0) 9 0) 4 6 0) 18 0) 12 0) 13 0) 16 0) 0 0 := by
    have z0 : (0 : Int32).toInt = 0 := by decide
    refine ⟨⟨a2, a3, ⟨h91, rfl, by omega, hN, hb⟩, rfl⟩, ⟨⟨rfl, show 0 ≤ (0 : Int32).toInt by omega, show (0 : Int32).toInt ≤ 6 by omega⟩, ⟨rfl, show 0 ≤ (0 : Int32).toInt by omega, show (0 : Int32).toInt ≤ 10 by omega⟩, Or.inl ⟨rfl, rfl, rfl⟩, fun k hk => ?_, fun g hg => ?_⟩, rfl, rfl, by omega⟩
    · have hk : (k : Int) < (0 : Int32).toInt := hk
      omega
    · have hg : (g : Int) < (0 : Int32).toInt := hg
      omega
  have eF : fX7_readFrom (sI Z0 0 s) u6 = lX7_readFrom_10 K7 FU (sI (sI Z0 0 s) 1 60) u6 1 (nI 0) := by
    unfold fX7_readFrom
    rfl
  rw [eR, h81]
  rcases work_run N 0 0 FU FU _ u6 _ (by omega) hW (FU_lt (by omega)) (FU_lt (by omega)) with ⟨w7, w6, w9, b1, b2, b3, b4⟩ | ⟨w7, w6, w9, b1, b2, b3, b4⟩
  · exact ⟨u6, w7, w6, w9, a1, eF.trans b1, Or.inl ⟨b2, b3, b4⟩⟩
  · exact ⟨u6, w7, w6, w9, a1, eF.trans b1, Or.inr ⟨b3, b2, b4⟩⟩
end WWH
set_option maxHeartbeats 1000000 in
theorem work9a {z_t : Sx} (h : RI z_t) : okP (fX9_work z_t) (fun y => ∃ (r : Int32) (z3 : Sx), fX9_readsAll (sI (sI (sI (sI z_t 15 6) 7 (-1)) 8 0) 9 0) = some (r, z3) ∧ (r = 0 → y = ((-2) - gI z3 13, z3)) ∧ (¬ r = 0 → y.1 = gI z3 9)) := by
  unfold fX9_work
  obtain ⟨h1, h2, h3, h6⟩ := id h
  have z0 : (0 : Int32).toInt = 0 := by decide
  obtain ⟨⟨r2, z3⟩, er, q⟩ := t_readsW (z_t := sI (sI (sI (sI z_t 15 6) 7 (-1)) 8 0) 9 0) rfl h1 z0 z0
  rw [bd2_eq er]
  obtain ⟨a1, a3, a4⟩ := q
  have a1 : FrL [1, 4, 7, 8, 9, 10, 11, 12, 13, 14, 16, 18] (sI (sI (sI (sI z_t 15 6) 7 (-1)) 8 0) 9 0) z3 := a1
  have fr3 : FrL [1, 4, 7, 8, 9, 10, 11, 12, 13, 14, 15, 16, 18] z_t z3 := fr_tr (fr_I (fr_I (fr_I (fr_I fr_rf (by decide)) (by decide)) (by decide)) (by decide)) a1 (by decide)
  refine ok_ite (fun c => ok_some ⟨r2, z3, er, fun _ => rfl, fun k => absurd c k⟩) (fun c => ?_)
  have hw : WKI z3 := by
    rcases a4 with q | q
    · exact absurd q c
    · exact q.2
  obtain ⟨w1, w2, w3, w4, w5⟩ := id hw
  have two : (2 : Int32).toInt = 2 := by decide
  have tn : (2 : Int32).toNatClampNeg = 2 := by decide
  have go : ∀ (v6 : Int32), okP (gd (inb 2 104) (nm (gT (sT (sT (sT z3 24 0 (gI z3 9)) 24 1 (gI z3 8)) 24 ((2 : Int32).toNatClampNeg) v6) 24 2 : Int32) (fun v9 => lX9_work_92 (fun (z12 : Sx) => lX9_work_113 (fun (z16 : Sx) => lX9_work_146 (fun (z24 : Sx) => some (gI z24 9, z24)) FU z16 0) FU z12 0) FU (sT (sT (sT (sT z3 24 0 (gI z3 9)) 24 1 (gI z3 8)) 24 ((2 : Int32).toNatClampNeg) v6) 24 3 v9) 4))) (fun y => ∃ (r : Int32) (z3 : Sx), fX9_readsAll (sI (sI (sI (sI z_t 15 6) 7 (-1)) 8 0) 9 0) = some (r, z3) ∧ (r = 0 → y = ((-2) - gI z3 13, z3)) ∧ (¬ r = 0 → y.1 = gI z3 9)) := by
    intro v6
    refine ok_gd (inb_of (by omega) (by omega)) ?_
    rw [tn]
    refine ok_nm2 (fun v9 _ => ?_)
    have ws0 : WSD z3 (gI z3 9) (gI z3 8) (sT (sT (sT (sT z3 24 0 (gI z3 9)) 24 1 (gI z3 8)) 24 2 v6) 24 3 v9) := by
      refine wsd_T (wsd_T ⟨fr_T (fr_T fr_rf (by decide)) (by decide), rfl, rfl, fun j hj => ?_⟩ (by omega)) (by omega)
      exact (show upd (upd (gT z3 24) 0 (gI z3 9)) 1 (gI z3 8) (18 + j) = upd (gT z3 24) 0 (gI z3 9) (18 + j) from if_neg (by omega)).trans (if_neg (by omega))
    have four : (4 : Int32).toInt = 4 := by decide
    refine tl_work92 (o := z3) (n := gI z3 9) (k := gI z3 8) (fun z12 ws12 e12 => ?_) FU _ 4 ws0 (by omega) (by omega) (fun q => by omega) (FU_lt (by omega))
    refine tl_work113 (o := z3) (n := gI z3 9) (k := gI z3 8) ⟨w1, w2⟩ (fun z16 ws16 e16 => ?_) FU z12 0 ws12 e12 (by omega) (FU_lt (by omega))
    have n0 : (0 : Int32).toNatClampNeg = 0 := by decide
    have wf0 : WF z3 (0 : Int32).toNatClampNeg z16 := fun g hg => by rw [n0] at hg; omega
    refine tl_work146 (o := z3) (n := gI z3 9) (k := gI z3 8) ⟨w3, w4⟩ (fun z24 ws24 e24 wf24 => ?_) FU z16 0 ws16 e16 (by omega) (by omega) wf0 (FU_lt (by omega))
    obtain ⟨f24, s0, s1, sg⟩ := ws24
    exact ok_some ⟨r2, z3, er, fun k => absurd k c, fun _ => (f24 9 (by decide)).1⟩
  refine ok_jn ?_
  exact ok_ite (fun _ => go _) (fun _ => go _)
section WST
variable {z4 z5 z6 z8 z9 zd : Sx}
theorem work_ans_ok {y : Int32 × Sx × Sx × Sx × Sx × Sx} {y9 : Int32 × Sx} (h : JT z8 z9) (hR : RI z9) (hy : fX8_work_ok z8 z5 zd z4 z6 = some y) (hy9 : fX9_work z9 = some y9) : y.1 = y9.1 := by
  obtain ⟨N, t, hT, -⟩ := h
  obtain ⟨u6, w7, w6, w9, a1, a2, a3⟩ := work_whole (z6 := z6) (s := gI z8 4 + 1) hT
  obtain ⟨r, z3, b1, b2, b3⟩ := ok_get (work9a hR) hy9
  unfold fX8_work_ok at hy
  rw [bd_eq a1, bd2_eq a2] at hy
  rcases a3 with ⟨c1, c2, c3⟩ | ⟨c1, c2, c3⟩
  · rw [if_pos c1] at hy
    obtain ⟨q8, q9, -, hy⟩ := bd2_some hy
    obtain rfl := Option.some.inj hy
    rw [b1] at c2
    have e := Option.some.inj c2
    rw [Prod.mk.injEq] at e
    obtain ⟨rfl, rfl⟩ := e
    rw [b3 one0]
    exact c3.2.1.1
  · rw [if_neg c1] at hy; cases hy
theorem work_ans_fail {y : Int32 × Sx × Sx × Sx × Sx} {y9 : Int32 × Sx} (h : JT z8 z9) (hR : RI z9) (hy : fX8_work_fail z8 z5 zd z4 z6 = some y) (hy9 : fX9_work z9 = some y9) : y.1 = y9.1 := by
  obtain ⟨N, t, hT, -⟩ := h
  obtain ⟨u6, w7, w6, w9, a1, a2, a3⟩ := work_whole (z6 := z6) (s := gI z8 4 + 1) hT
  obtain ⟨r, z3, b1, b2, b3⟩ := ok_get (work9a hR) hy9
  unfold fX8_work_fail at hy
  rw [bd_eq a1, bd2_eq a2] at hy
  rcases a3 with ⟨c1, c2, c3⟩ | ⟨c1, c2, c3⟩
  · rw [if_pos c1] at hy; cases hy
  · rw [if_neg c1] at hy
    obtain rfl := Option.some.inj hy
    rw [b1] at c2
    have e := Option.some.inj c2
    rw [Prod.mk.injEq] at e
    obtain ⟨rfl, rfl⟩ := e
    rw [b2 rfl, c3]
end WST

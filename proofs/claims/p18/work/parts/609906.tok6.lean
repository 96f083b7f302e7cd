/-! Numbers: the class takes one where the reference reads one. -/
theorem in32t {x l h : Int32} {lo hi : Int64} (hl : lo.toInt = l.toInt) (hh : hi.toInt = h.toInt) : fX9_in x.toInt64 lo hi = some (if x < l then 0 else if h < x then 0 else 1) := by
  unfold fX9_in
  by_cases c1 : x < l
  · have c1i := bI_lt rfl rfl c1
    rw [if_pos c1, if_pos ((i64_lt _ _).2 (by rw [Int32.toInt_toInt64, hl]; exact c1i))]
  · have c1i := bI_nlt rfl rfl c1
    rw [if_neg c1, if_neg (fun h => by have := (i64_lt _ _).1 h; rw [Int32.toInt_toInt64, hl] at this; omega)]
    by_cases c2 : h < x
    · have c2i := bI_lt rfl rfl c2
      rw [if_pos c2, if_pos ((i64_lt _ _).2 (by rw [Int32.toInt_toInt64, hh]; exact c2i))]
    · have c2i := bI_nlt rfl rfl c2
      rw [if_neg c2, if_neg (fun h => by have := (i64_lt _ _).1 h; rw [Int32.toInt_toInt64, hh] at this; omega)]
def failz (z : Sx) (x1 x2 : Int32) : Sx := if gI z 13 = 0 then sI z 13 ((1 + (8 * x2)) + x1) else z
theorem fails9 {z : Sx} {x1 x2 : Int32} : fX9_fails z x1 x2 = some (0, failz z x1 x2) := by
  unfold fX9_fails failz
  by_cases c : gI z 13 = 0
  · rw [if_pos c, if_pos c]
  · rw [if_neg c, if_neg c]
section NUM
variable {f : Nat → Int32} {N p : Nat} {z : Sx} {lo hi : Int32}
theorem num_no (h : T9 f N z p) (hn : ¬ (rnP isB f N p < N ∧ isD (f (rnP isB f N p)) = true)) : fX9_numberHere z lo hi = some (0, failz (sI z 12 (nI (rnP isB f N p))) 0 (nI (rnP isB f N p))) := by
  have hq := rq_le (P := isB) (b := f) (N := N) h.2.2.1
  unfold fX9_numberHere
  rw [bd2_eq (see9 h)]
  show bd (fX9_isDigit (sI z 12 (nI (rnP isB f N p))) (nI (rnP isB f N p))) _ = _
  rw [bd_eq (idg9 (t9_p h hq) hq), if_neg hn, if_pos rfl]
  show bd2 (fX9_fails (sI z 12 (nI (rnP isB f N p))) 0 (nI (rnP isB f N p))) _ = _
  rw [bd2_eq fails9, gd_pos (Or.inl rfl)]
theorem num_at (h : T9 f N z p) (hn : rnP isB f N p < N ∧ isD (f (rnP isB f N p)) = true) : fX9_numberHere z lo hi = if rnP isD f N (rnP isB f N p) - rnP isB f N p ≤ 5 ∧ lo ≤ tkn f N (rnP isB f N p) ∧ tkn f N (rnP isB f N p) ≤ hi then some (1, sI (sI z 12 (nI (rnP isD f N (rnP isB f N p)))) 14 (tkn f N (rnP isB f N p))) else some (0, failz (sI (sI z 12 (nI (rnP isD f N (rnP isB f N p)))) 14 (tkn f N (rnP isB f N p))) 1 (nI (rnP isB f N p))) := by
  have hN := h.2.2.2.1
  have hq := rq_le (P := isB) (b := f) (N := N) h.2.2.1
  have he := rq_ge (P := isD) (b := f) (N := N) (p := rnP isB f N p)
  have hl := rq_le (P := isD) (b := f) (N := N) hq
  have ev : tkn f N (rnP isB f N p) = nvl f (rnP isB f N p) (min 5 (rnP isD f N (rnP isB f N p) - rnP isB f N p)) := by
    unfold tkn; exact if_pos hn.2
  rw [ev]
  unfold fX9_numberHere
  rw [bd2_eq (see9 h)]
  show bd (fX9_isDigit (sI z 12 (nI (rnP isB f N p))) (nI (rnP isB f N p))) _ = _
  rw [bd_eq (idg9 (t9_p h hq) hq), if_pos hn, if_neg one0]
  refine Eq.trans (num_run (q := rnP isB f N p) FU (rnP isB f N p) 0 _ (t9_p h hq) (Nat.le_refl _) (by rw [Nat.sub_self]; rfl) (FU_lt (by omega))) ?_
  rw [sI_sI]
  generalize nvl f (rnP isB f N p) (min 5 (rnP isD f N (rnP isB f N p) - rnP isB f N p)) = v
  simp only [jn]
  show (if 5 < nI (rnP isD f N (rnP isB f N p)) - nI (rnP isB f N p) then _ else _) = _
  rw [nI_sub he]
  have bad : (bd2 (fX9_fails (sI (sI z 12 (nI (rnP isD f N (rnP isB f N p)))) 14 v) 1 (nI (rnP isB f N p))) (fun r20 z21 => if r20 = 0 then some ((0 : Int32), z21) else some (1, z21))) = some (0, failz (sI (sI z 12 (nI (rnP isD f N (rnP isB f N p)))) 14 v) 1 (nI (rnP isB f N p))) := by
    rw [bd2_eq fails9, if_pos rfl]
  by_cases c : rnP isD f N (rnP isB f N p) - rnP isB f N p ≤ 5
  · rw [if_neg (show ¬ (5 : Int32) < nI (rnP isD f N (rnP isB f N p) - rnP isB f N p) from nI_nlt (a := 5) c (by decide)), bd_eq (in32t (l := lo) (h := hi) (Int32.toInt_toInt64 lo) (Int32.toInt_toInt64 hi))]
    by_cases c1 : v < lo
    · rw [if_pos c1, if_pos rfl, if_neg (fun q => by have a := bI_lt rfl rfl c1; have b := bI_le rfl rfl q.2.1; omega)]
      exact bad
    · rw [if_neg c1]
      by_cases c2 : hi < v
      · rw [if_pos c2, if_pos rfl, if_neg (fun q => by have a := bI_lt rfl rfl c2; have b := bI_le rfl rfl q.2.2; omega)]
        exact bad
      · rw [if_neg c2, if_neg one0, if_pos ⟨c, dl_le c1, dl_le c2⟩]
  · rw [if_pos (show (5 : Int32) < nI (rnP isD f N (rnP isB f N p) - rnP isB f N p) from nI_lt (a := 5) (by omega) (by omega)), if_neg (fun q => c q.1)]
    exact bad
end NUM

/-! A number, on both sides. -/
theorem wco_rng (b : Nat → Int32) (p e : Nat) : 303 ≤ (wco b p e).toInt ∧ (wco b p e).toInt ≤ 320 := by
  unfold wco
  by_cases s0 : SPW b p e 0
  · rw [if_pos s0]; decide
  by_cases s1 : SPW b p e 1
  · rw [if_neg s0, if_pos s1]; decide
  by_cases s2 : SPW b p e 2
  · rw [if_neg s0, if_neg s1, if_pos s2]; decide
  by_cases s3 : SPW b p e 3
  · rw [if_neg s0, if_neg s1, if_neg s2, if_pos s3]; decide
  by_cases s4 : SPW b p e 4
  · rw [if_neg s0, if_neg s1, if_neg s2, if_neg s3, if_pos s4]; decide
  by_cases s5 : SPW b p e 5
  · rw [if_neg s0, if_neg s1, if_neg s2, if_neg s3, if_neg s4, if_pos s5]; decide
  by_cases s6 : SPW b p e 6
  · rw [if_neg s0, if_neg s1, if_neg s2, if_neg s3, if_neg s4, if_neg s5, if_pos s6]; decide
  by_cases s7 : SPW b p e 7
  · rw [if_neg s0, if_neg s1, if_neg s2, if_neg s3, if_neg s4, if_neg s5, if_neg s6, if_pos s7]; decide
  rw [if_neg s0, if_neg s1, if_neg s2, if_neg s3, if_neg s4, if_neg s5, if_neg s6, if_neg s7]
  by_cases s8 : SPW b p e 8
  · rw [if_pos s8]; decide
  by_cases s9 : SPW b p e 9
  · rw [if_neg s8, if_pos s9]; decide
  by_cases sa : SPW b p e 10
  · rw [if_neg s8, if_neg s9, if_pos sa]; decide
  by_cases sb : SPW b p e 11
  · rw [if_neg s8, if_neg s9, if_neg sa, if_pos sb]; decide
  by_cases sc : SPW b p e 12
  · rw [if_neg s8, if_neg s9, if_neg sa, if_neg sb, if_pos sc]; decide
  by_cases sd : SPW b p e 13
  · rw [if_neg s8, if_neg s9, if_neg sa, if_neg sb, if_neg sc, if_pos sd]; decide
  by_cases se : SPW b p e 14
  · rw [if_neg s8, if_neg s9, if_neg sa, if_neg sb, if_neg sc, if_neg sd, if_pos se]; decide
  by_cases sf : SPW b p e 15
  · rw [if_neg s8, if_neg s9, if_neg sa, if_neg sb, if_neg sc, if_neg sd, if_neg se, if_pos sf]; decide
  by_cases sg : SPW b p e 16
  · rw [if_neg s8, if_neg s9, if_neg sa, if_neg sb, if_neg sc, if_neg sd, if_neg se, if_neg sf, if_pos sg]; decide
  rw [if_neg s8, if_neg s9, if_neg sa, if_neg sb, if_neg sc, if_neg sd, if_neg se, if_neg sf, if_neg sg]; decide
theorem tkc_nd {b : Nat → Int32} {N q : Nat} (hd : ¬ isD (b q) = true) (hb : 0 ≤ (b q).toInt ∧ (b q).toInt ≤ 255) : (tkc b N q).toInt ≠ 301 ∧ (tkc b N q).toInt ≠ 302 ∧ (tkc b N q).toInt ≠ 300 := by
  unfold tkc
  rw [if_neg hd]
  by_cases c : isL (b q) = true
  · rw [if_pos c]
    have := wco_rng b q (rnP isL b N q)
    omega
  rw [if_neg c]
  by_cases w : wid b N q
  · rw [if_pos w]
    by_cases d : b q = 60
    · rw [if_pos d]; decide
    · rw [if_neg d]; decide
  · rw [if_neg w]; omega
theorem i32_ne {x : Int32} {a : Int} {y : Int32} (hy : y.toInt = a) (h : x.toInt ≠ a) : ¬ x = y := fun e => h (by rw [e, hy])
/-- what a fault of a text is told by -/
def flt (q : Nat) (w : Int32) : Int32 := (1 + 8 * nI q) + w
theorem flt_i {q : Nat} {w : Int32} {a : Nat} (hw : w.toInt = a) (ha : a ≤ 4) (hq : q ≤ 400) : (flt q w).toInt = 1 + 8 * (q : Int) + a := by
  have e1 : (8 * nI q : Int32).toInt = 8 * (q : Int) := by rw [i32_mul (show (8 : Int32).toInt = 8 by decide) (nI_toInt (n := q) (by omega)) (by omega) (by omega)]
  have e2 := i32_add (show (1 : Int32).toInt = 1 by decide) e1 (by omega) (by omega)
  exact i32_add e2 hw (by omega) (by omega)
theorem flt_n0 {q : Nat} {w : Int32} {a : Nat} (hw : w.toInt = a) (ha : a ≤ 4) (hq : q ≤ 400) : ¬ flt q w = 0 := fun e => by
  have := flt_i hw ha hq
  rw [e] at this
  have z0 : (0 : Int32).toInt = 0 := by decide
  omega
theorem fail6 {z : Sx} {q : Nat} {w : Int32} (h8 : gI z 8 = 0) (h6 : gI z 6 = nI q) : fX6_fail z w = some (sI z 8 (flt q w)) := by
  unfold fX6_fail
  rw [if_pos h8, h6]; rfl
theorem failz_e {z : Sx} {q : Nat} {w : Int32} (h : gI z 13 = 0) : failz z w (nI q) = sI z 13 (flt q w) := by
  unfold failz
  rw [if_pos h]; rfl
section NB
variable {f : Nat → Int32} {N p : Nat} {z6 z9 : Sx} {lo hi : Int32}
theorem at_6 (hA : AT f N z6 p) (hp : p ≤ N) : gI z6 6 = nI (rnP isB f N p) := by
  rcases Nat.lt_or_ge (rnP isB f N p) N with h | h
  · exact (at_tok hA h).2.1
  · have := rq_le (P := isB) (b := f) (N := N) hp
    rw [(at_end hA h).2.1, show rnP isB f N p = N by omega]
theorem num_both (hA : AT f N z6 p) (h8 : gI z6 8 = 0) (h9 : T9 f N z9 p) (h13 : gI z9 13 = 0) :
    (∃ (v : Int32) (w6 : Sx) (p1 : Nat), fX6_takeNumber z6 lo hi = some (v, w6) ∧ AT f N w6 p1 ∧ gI w6 8 = 0 ∧ p1 ≤ N ∧ p < p1 ∧ lo ≤ v ∧ v ≤ hi ∧ fX9_numberHere z9 lo hi = some (1, sI (sI z9 12 (nI p1)) 14 v)) ∨
    (∃ (v e : Int32) (w9 : Sx), fX6_takeNumber z6 lo hi = some (v, sI z6 8 e) ∧ ¬ e = 0 ∧ fX9_numberHere z9 lo hi = some (0, w9) ∧ gI w9 13 = e ∧ FrL [12, 13, 14] z9 w9) := by
  obtain ⟨h1, h12, hp, hN, hb⟩ := id h9
  have hq := rq_le (P := isB) (b := f) (N := N) hp
  have hqg := rq_ge (P := isB) (b := f) (N := N) (p := p)
  have z0 : (0 : Int32).toInt = (0 : Nat) := by decide
  have z1 : (1 : Int32).toInt = (1 : Nat) := by decide
  by_cases hn : rnP isB f N p < N ∧ isD (f (rnP isB f N p)) = true
  · obtain ⟨e5, e6, e7, w6, s1, s2, s3⟩ := at_tok hA hn.1
    have ec : tkc f N (rnP isB f N p) = if rnP isD f N (rnP isB f N p) - rnP isB f N p ≤ 5 then 301 else 302 := by
      unfold tkc; exact if_pos hn.2
    have ex : tkx f N (rnP isB f N p) = rnP isD f N (rnP isB f N p) := by
      unfold tkx; exact if_pos hn.2
    have hx := tkx_gt (f := f) hn.1
    rw [ex] at s2 hx
    rw [num_at h9 hn]
    unfold fX6_takeNumber
    rw [if_pos h8, e5, e7, ec]
    simp only [jn]
    by_cases c : rnP isD f N (rnP isB f N p) - rnP isB f N p ≤ 5
    · rw [if_pos c, if_pos rfl, if_pos rfl]
      by_cases c1 : tkn f N (rnP isB f N p) < lo
      · right
        rw [if_pos c1, bd_eq (fail6 h8 e6), if_neg (fun q => by have a := bI_lt rfl rfl c1; have b := bI_le rfl rfl q.2.1; omega), failz_e (show gI (sI (sI z9 12 (nI (rnP isD f N (rnP isB f N p)))) 14 (tkn f N (rnP isB f N p))) 13 = 0 from h13)]
        exact ⟨_, _, _, rfl, flt_n0 z1 (by omega) (by omega), rfl, rfl, fr_I (fr_I (fr_I fr_rf (by decide)) (by decide)) (by decide)⟩
      · rw [if_neg c1]
        by_cases c2 : hi < tkn f N (rnP isB f N p)
        · right
          rw [if_pos c2, bd_eq (fail6 h8 e6), if_neg (fun q => by have a := bI_lt rfl rfl c2; have b := bI_le rfl rfl q.2.2; omega), failz_e (show gI (sI (sI z9 12 (nI (rnP isD f N (rnP isB f N p)))) 14 (tkn f N (rnP isB f N p))) 13 = 0 from h13)]
          exact ⟨_, _, _, rfl, flt_n0 z1 (by omega) (by omega), rfl, rfl, fr_I (fr_I (fr_I fr_rf (by decide)) (by decide)) (by decide)⟩
        · left
          rw [if_neg c2, bd_eq s1, if_pos ⟨c, dl_le c1, dl_le c2⟩]
          exact ⟨_, w6, _, rfl, s2, s3.trans h8, hx.2, by omega, dl_le c1, dl_le c2, rfl⟩
    · right
      rw [if_neg c, if_neg (by decide), if_neg (by decide), if_pos rfl, bd_eq (fail6 h8 e6), if_neg (fun q => c q.1), failz_e (show gI (sI (sI z9 12 (nI (rnP isD f N (rnP isB f N p)))) 14 (tkn f N (rnP isB f N p))) 13 = 0 from h13)]
      exact ⟨_, _, _, rfl, flt_n0 z1 (by omega) (by omega), rfl, rfl, fr_I (fr_I (fr_I fr_rf (by decide)) (by decide)) (by decide)⟩
  · right
    rw [num_no h9 hn, failz_e (show gI (sI z9 12 (nI (rnP isB f N p))) 13 = 0 from h13)]
    have n5 : (gI z6 5).toInt ≠ 301 ∧ (gI z6 5).toInt ≠ 302 := by
      rcases Nat.lt_or_ge (rnP isB f N p) N with h | h
      · have hs := hb _ h
        rw [(at_tok hA h).1]
        have := tkc_nd (N := N) (fun q => hn ⟨h, q⟩) ⟨hs.1, hs.2.1⟩
        exact ⟨this.1, this.2.1⟩
      · rw [(at_end hA h).1]; decide
    unfold fX6_takeNumber
    rw [if_pos h8]
    simp only [jn]
    rw [if_neg (i32_ne (show (301 : Int32).toInt = 301 by decide) n5.1), if_neg (i32_ne (show (301 : Int32).toInt = 301 by decide) n5.1), if_neg (i32_ne (show (302 : Int32).toInt = 302 by decide) n5.2), bd_eq (fail6 h8 (at_6 hA hp))]
    exact ⟨_, _, _, rfl, flt_n0 z0 (by omega) (by omega), rfl, rfl, fr_I (fr_I fr_rf (by decide)) (by decide)⟩
theorem take_bad {z : Sx} {lo hi : Int32} (h : ¬ gI z 8 = 0) : fX6_takeNumber z lo hi = some (0, z) := by
  unfold fX6_takeNumber
  rw [if_neg h]
end NB

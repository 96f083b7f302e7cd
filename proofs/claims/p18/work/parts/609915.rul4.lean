section VB3
variable {f : Nat → Int32} {N p t l : Nat} {z4 z6 z9 : Sx}
set_option maxHeartbeats 1000000 in
theorem value_both (h : RS f N z4 z6 z9 t l p) (hl : l ≤ p) : GUD f N z4 z9 (fX4_readValue z4 z6) (fX9_value z9) t (l + 1) p ∨ BDD (fX4_readValue z4 z6) (fX9_value z9) := by
  obtain ⟨hA, h8, h9, h13, hE, h3, hm0, hm1⟩ := id h
  obtain ⟨-, -, hp, hN, hbb⟩ := id h9
  have hb : ∀ i : Nat, i < N → 0 ≤ (f i).toInt ∧ (f i).toInt ≤ 255 := fun i hi => ⟨(hbb i hi).1, (hbb i hi).2.1⟩
  have hq := rq_le (P := isB) (b := f) (N := N) hp
  have hqg := rq_ge (P := isB) (b := f) (N := N) (p := p)
  have hqq : rnP isB f N (rnP isB f N p) = rnP isB f N p := rq_idem
  have h6 := at_6 hA hp
  have T3 := t9_p h9 hq
  by_cases hn : rnP isB f N p < N ∧ isD (f (rnP isB f N p)) = true
  · obtain ⟨e5, -, e7, w6, s1, s2, s3⟩ := at_tok hA hn.1
    have hx := tkx_gt (f := f) hn.1
    have ex : tkx f N (rnP isB f N p) = rnP isD f N (rnP isB f N p) := by
      unfold tkx; rw [if_pos hn.2]
    rw [ex] at hx s2
    rw [v9_num h9 hn]
    have na := num_at (lo := 0) (hi := 99999) T3 (by rw [hqq]; exact hn)
    rw [hqq, sI_sI] at na
    by_cases c5 : rnP isD f N (rnP isB f N p) - rnP isB f N p ≤ 5
    · have ec : gI z6 5 = 301 := e5.trans (by unfold tkc; rw [if_pos hn.2, if_pos c5])
      have ev : tkn f N (rnP isB f N p) = nvl f (rnP isB f N p) (min 5 (rnP isD f N (rnP isB f N p) - rnP isB f N p)) := by
        unfold tkn; rw [if_pos hn.2]
      have rng := nvl_rng (f := f) (q := rnP isB f N p) (min 5 (rnP isD f N (rnP isB f N p) - rnP isB f N p)) (by omega) (fun i hi => (rq_in (P := isD) (b := f) (N := N) (p := rnP isB f N p) (i := rnP isB f N p + i) (by omega) (by omega)).2)
      rw [← ev] at rng
      have hp5 : (10 : Int) ^ (min 5 (rnP isD f N (rnP isB f N p) - rnP isB f N p)) ≤ 10 ^ 5 := by
        have : (10 : Nat) ^ (min 5 (rnP isD f N (rnP isB f N p) - rnP isB f N p)) ≤ 10 ^ 5 := Nat.pow_le_pow_right (by decide) (by omega)
        exact_mod_cast this
      have r1 : (tkn f N (rnP isB f N p)).toInt ≤ 99999 := by omega
      have q0 : (0 : Int32) ≤ tkn f N (rnP isB f N p) := (i32_le _ _).2 (by rw [show (0 : Int32).toInt = 0 by decide]; exact rng.1)
      have q9 : tkn f N (rnP isB f N p) ≤ 99999 := (i32_le _ _).2 (by rw [show (99999 : Int32).toInt = 99999 by decide]; exact r1)
      rw [if_pos ⟨c5, q0, q9⟩] at na
      rw [rv_num ec, bd2_eq na, if_neg one0, e7]
      exact made_both (c := tkn f N (rnP isB f N p)) (x1 := 0) (x2 := tkn f N (rnP isB f N p)) (v9 := sI (sI (sI z9 12 (nI (rnP isD f N (rnP isB f N p)))) 14 (tkn f N (rnP isB f N p))) 16 (gI z9 16 + 1)) h (by omega) hn.1 hqg rfl h13 rfl (t9_I (nb_t9 h9 hx.2) (by decide) (by decide)) hx.1 (fr_I (fr_I (fr_I fr_rf (by decide)) (by decide)) (by decide)) rfl h6 (Or.inl ⟨rng.1, r1, rfl⟩) ⟨w6, s1, s2, s3⟩
    · right
      have ec : gI z6 5 = 302 := e5.trans (by unfold tkc; rw [if_pos hn.2, if_neg c5])
      rw [if_neg (fun k => c5 k.1), failz_e (show gI (sI (sI z9 12 (nI (rnP isD f N (rnP isB f N p)))) 14 (tkn f N (rnP isB f N p))) 13 = 0 from h13)] at na
      rw [rv_no (by rw [ec]; decide) (Or.inl (by rw [ec]; decide)), if_pos ec, bd_eq (fail6 h8 h6), bd2_eq na, if_pos rfl]
      exact ⟨z4, _, _, rfl, rfl, flt_n0 (a := 1) (by decide) (by decide) (by omega), rfl⟩
  · have n5 : (gI z6 5).toInt ≠ 301 ∧ (gI z6 5).toInt ≠ 302 := by
      rcases Nat.lt_or_ge (rnP isB f N p) N with k | k
      · rw [(at_tok hA k).1]
        have := tkc_nd (N := N) (fun j => hn ⟨k, j⟩) (hb _ k)
        exact ⟨this.1, this.2.1⟩
      · rw [(at_end hA k).1]; decide
    have n301 : ¬ gI z6 5 = 301 := i32_ne (show (301 : Int32).toInt = 301 by decide) n5.1
    have n302 : ¬ gI z6 5 = 302 := i32_ne (show (302 : Int32).toInt = 302 by decide) n5.2
    rw [v9_word h9 hn]
    by_cases hw : ∃ w : Nat, 8 ≤ w ∧ w < 17 ∧ WD f N (rnP isB f N p) w
    · obtain ⟨w, w8, w17, hd⟩ := hw
      have hl9 := wd_l w17 hd
      have ec : gI z6 5 = nI (304 + w) := (code_wd w17 hA hp hb).2 hd
      have ei : (nI (304 + w)).toInt = ((304 + w : Nat) : Int) := nI_toInt (by omega)
      obtain ⟨-, -, -, w6, s1, s2, s3⟩ := at_tok hA hl9.1
      rw [tkx_wd w17 hd] at s2
      have hx := tkx_gt (f := f) hl9.1
      rw [tkx_wd w17 hd] at hx
      have wy := wh_yes w8 w17 T3 hqq hd
      have r0 : (0 : Int32) ≤ nI (w - 8) := (i32_le _ _).2 (by rw [nI_toInt (by omega), show (0 : Int32).toInt = 0 by decide]; omega)
      rw [rv_word n301 (fun k => by have := bI_lt rfl (show (312 : Int32).toInt = 312 by decide) k; rw [ec, ei] at this; omega) (fun k => by have := bI_lt (show (320 : Int32).toInt = 320 by decide) rfl k; rw [ec, ei] at this; omega), bd2_eq wy, if_pos r0, ec]
      have TP : T9 f N (sI (sI z9 12 (nI (rnP isB f N p))) 16 (gI z9 16 + 1)) (rnP isB f N p) := t9_I T3 (by decide) (by decide)
      exact made_both (c := -nI (304 + w)) (x1 := 1) (x2 := nI (w - 8)) (u9 := sI z9 12 (nI (rnP isB f N p))) (v9 := sI (sI (sI z9 12 (nI (rnP isB f N p))) 16 (gI z9 16 + 1)) 12 (nI (rnP isL f N (rnP isB f N p)))) (G := fun z13 => bd (fX9_passWord z13) (fun z16 => bd (fX9_puts z16 1 (nI (w - 8))) (fun z18 => some (1, z18)))) h (by omega) hl9.1 hqg rfl h13 (bd_eq (pass9 TP)) (t9_p TP hx.2) hx.1 (fr_I (fr_I (fr_I fr_rf (by decide)) (by decide)) (by decide)) rfl h6 (Or.inr (Or.inl ⟨w - 8, by omega, by rw [show 312 + (w - 8) = 304 + w by omega], rfl⟩)) ⟨w6, s1, s2, s3⟩
    · right
      have wn := wh_no T3 hqq (fun w w8 w17 hd => hw ⟨w, w8, w17, hd⟩)
      have out : gI z6 5 < 312 ∨ 320 < gI z6 5 := by
        by_cases k1 : gI z6 5 < 312
        · exact Or.inl k1
        · by_cases k2 : 320 < gI z6 5
          · exact Or.inr k2
          · exfalso
            have a1 := bI_nlt rfl (show (312 : Int32).toInt = 312 by decide) k1
            have a2 := bI_nlt (show (320 : Int32).toInt = 320 by decide) rfl k2
            obtain ⟨k, hk, ek⟩ := i32_cases (x := gI z6 5) (n := 321) (by decide) (by omega) (by omega)
            have ek2 := congrArg Int32.toInt ek
            rw [nI_toInt (by omega)] at ek2
            have w17 : k - 304 < 17 := by omega
            exact hw ⟨k - 304, by omega, w17, (code_wd w17 hA hp hb).1 (by rw [ek, show 304 + (k - 304) = k by omega])⟩
      rw [rv_no n301 out, if_neg n302, bd_eq (fail6 h8 h6), bd2_eq wn, if_neg (by decide), bd2_eq fails9, gd_pos (Or.inl rfl), failz_e (show gI (sI z9 12 (nI (rnP isB f N p))) 13 = 0 from h13)]
      exact ⟨z4, _, _, rfl, rfl, flt_n0 (a := 0) (by decide) (by decide) (by omega), rfl⟩
end VB3

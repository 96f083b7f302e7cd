/-! A comparison, on both sides. -/
section CMP
variable {f : Nat → Int32} {N t l p : Nat} {z4 z6 z9 : Sx}
theorem rs_made (h : RS f N z4 z6 z9 t l p) (hm : (gI z9 16).toInt < 60) : RS f N (sI z4 3 (gI z4 3 + 1)) z6 (sI z9 16 (gI z9 16 + 1)) t l p := by
  obtain ⟨hA, h8, h9, h13, hE, h3, hm0, hm1⟩ := h
  have em : (gI z9 16 + 1).toInt = (gI z9 16).toInt + 1 := i32_add rfl (show (1 : Int32).toInt = 1 by decide) (by omega) (by omega)
  refine ⟨hA, h8, t9_I h9 (by decide) (by decide), h13, em_9 (em_4 hE (L := [3]) (fr_I fr_rf (by decide)) (by decide)) (L := [16]) (fr_I fr_rf (by decide)) (by decide), ?_, ?_⟩
  · show gI z4 3 + 1 = gI z9 16 + 1
    rw [h3]
  · show 0 ≤ (gI z9 16 + 1).toInt ∧ (gI z9 16 + 1).toInt ≤ 60
    rw [em]; omega
def CQ (x : Int32) : Prop := x = 60 ∨ x = 256 ∨ x = 61 ∨ x = 257 ∨ x = 62
/-- the class's comparison behind its first SUM -/
def C2 (z2 z3 : Sx) : Option (Sx × Sx) := if (gI z2 3) < 60 then bd (fX6_step z3) (fun z8 => bd2 (fX4_readSum (sI z2 3 ((gI z2 3) + 1)) z8) (fun z10 z11 => bd (fX4_emit z10 (-(gI z3 5))) (fun z13 => some (z13, z11)))) else bd (fX6_fail z3 3) (fun z15 => some (z2, z15))
theorem c2_yes {z2 z3 : Sx} (e : fX4_readSum z4 z6 = some (z2, z3)) (h8 : gI z3 8 = 0) (h : CQ (gI z3 5)) : fX4_readComparison z4 z6 = C2 z2 z3 := by
  unfold fX4_readComparison C2
  rw [bd2_eq e, if_pos h8]
  simp only [jn]
  by_cases k1 : gI z3 5 = 60
  · rw [if_pos k1]
  rw [if_neg k1]
  by_cases k2 : gI z3 5 = 256
  · rw [if_pos k2]
  rw [if_neg k2]
  by_cases k3 : gI z3 5 = 61
  · rw [if_pos k3]
  rw [if_neg k3]
  by_cases k4 : gI z3 5 = 257
  · rw [if_pos k4]
  rw [if_neg k4, if_pos ((((h.resolve_left k1).resolve_left k2).resolve_left k3).resolve_left k4)]
theorem c2_no {z2 z3 : Sx} (e : fX4_readSum z4 z6 = some (z2, z3)) (h8 : gI z3 8 = 0) (h : ¬ CQ (gI z3 5)) : fX4_readComparison z4 z6 = bd (fX6_fail z3 0) (fun z22 => some (z2, z22)) := by
  unfold fX4_readComparison
  rw [bd2_eq e, if_pos h8]
  simp only [jn]
  rw [if_neg (fun k => h (Or.inl k)), if_neg (fun k => h (Or.inr (Or.inl k))), if_neg (fun k => h (Or.inr (Or.inr (Or.inl k)))), if_neg (fun k => h (Or.inr (Or.inr (Or.inr (Or.inl k))))), if_neg (fun k => h (Or.inr (Or.inr (Or.inr (Or.inr k)))))]
theorem c2_bad {z2 z3 : Sx} (e : fX4_readSum z4 z6 = some (z2, z3)) (h8 : ¬ gI z3 8 = 0) : fX4_readComparison z4 z6 = some (z2, z3) := by
  unfold fX4_readComparison
  rw [bd2_eq e, if_neg h8]
/-- the reference's comparison behind its sign -/
def R2 (z : Sx) (q : Nat) (s : Int32) : Option (Int32 × Sx) := bd2 (fX9_makes z (nI q)) (fun r14 z15 => if r14 = 0 then some (0, z15) else bd2 (fX9_sum z15) (fun r20 z21 => if r20 = 0 then some (0, z21) else bd (fX9_puts z21 s 0) (fun z24 => some (1, z24))))
theorem r2_no {w9 : Sx} (e : fX9_sum z9 = some (1, w9)) (h9 : T9 f N w9 p) (h13 : gI w9 13 = 0) (h : ¬ (SV f N p = 60 ∨ SV f N p = 61 ∨ SV f N p = 62)) : fX9_compare z9 = some (0, sI (sI w9 12 (nI (rnP isB f N p))) 13 (flt (rnP isB f N p) 0)) := by
  unfold fX9_compare
  rw [bd2_eq e, if_neg one0, bd2_eq (see_v h9)]
  simp only [jn]
  rw [if_neg (fun k => h (Or.inl k)), if_neg (fun k => h (Or.inr (Or.inl k))), if_neg (fun k => h (Or.inr (Or.inr k)))]
  show bd2 (fX9_fails (sI w9 12 (nI (rnP isB f N p))) 0 (nI (rnP isB f N p))) _ = _
  rw [bd2_eq fails9, gd_pos (Or.inl rfl), failz_e (show gI (sI w9 12 (nI (rnP isB f N p))) 13 = 0 from h13)]
theorem r2_one {w9 : Sx} {c s : Int32} (e : fX9_sum z9 = some (1, w9)) (h9 : T9 f N w9 p) (hs : SV f N p = c) (hc : (c = 60 ∧ s = 6) ∨ (c = 61 ∧ s = 8) ∨ (c = 62 ∧ s = 10)) (hw : ¬ wid f N (rnP isB f N p)) : fX9_compare z9 = R2 (sI w9 12 (nI (rnP isB f N p + 1))) (rnP isB f N p) s := by
  have hc0 : 0 ≤ c.toInt ∧ c.toInt < 128 := by rcases hc with h | h | h <;> (rw [h.1]; decide)
  obtain ⟨k1, ef⟩ := sv_of hs hc0.1
  have hN := h9.2.2.2.1
  have g1 : gI (sI w9 12 (nI (rnP isB f N p))) 1 = nI N := h9.1
  unfold fX9_compare R2
  rw [bd2_eq e, if_neg one0, bd2_eq (see_v h9), hs]
  simp only [jn]
  simp only [g1, sI_sI, nI_1, show gI (sI w9 12 (nI (rnP isB f N p))) 12 = nI (rnP isB f N p) from rfl]
  rcases hc with ⟨rfl, rfl⟩ | ⟨rfl, rfl⟩ | ⟨rfl, rfl⟩
  · rw [if_pos rfl, if_neg (by decide)]
    by_cases kN : N ≤ rnP isB f N p + 1
    · rw [if_pos (nI_le kN (by omega))]
      rfl
    · rw [if_neg (nI_ge (by omega) (by omega)), gd_pos ⟨nI_pos (by omega), by rw [nI_clamp (by omega)]; omega⟩, nI_clamp (by omega), if_neg]
      · rfl
      · intro k
        have hb := h9.2.2.2.2 (rnP isB f N p + 1) (by omega)
        have k : gT w9 0 (rnP isB f N p + 1) = 61 := k
        refine hw ⟨Or.inl ef, by omega, ?_⟩
        have := sb_and hb
        rw [k] at this
        rw [← this]; decide
  · rw [if_neg (by decide), if_pos rfl, if_pos rfl]
    rfl
  · rw [if_neg (by decide), if_neg (by decide), if_pos rfl, if_neg (by decide)]
    by_cases kN : N ≤ rnP isB f N p + 1
    · rw [if_pos (nI_le kN (by omega))]
      rfl
    · rw [if_neg (nI_ge (by omega) (by omega)), gd_pos ⟨nI_pos (by omega), by rw [nI_clamp (by omega)]; omega⟩, nI_clamp (by omega), if_neg]
      · rfl
      · intro k
        have hb := h9.2.2.2.2 (rnP isB f N p + 1) (by omega)
        have k : gT w9 0 (rnP isB f N p + 1) = 61 := k
        refine hw ⟨Or.inr ef, by omega, ?_⟩
        have := sb_and hb
        rw [k] at this
        rw [← this]; decide
theorem r2_two {w9 : Sx} {c s : Int32} (e : fX9_sum z9 = some (1, w9)) (h9 : T9 f N w9 p) (hs : SV f N p = c) (hc : (c = 60 ∧ s = 7) ∨ (c = 62 ∧ s = 9)) (hw : wid f N (rnP isB f N p)) : fX9_compare z9 = R2 (sI w9 12 (nI (rnP isB f N p + 2))) (rnP isB f N p) s := by
  have hc0 : 0 ≤ c.toInt ∧ c.toInt < 128 := by rcases hc with h | h <;> (rw [h.1]; decide)
  obtain ⟨k1, ef⟩ := sv_of hs hc0.1
  have hN := h9.2.2.2.1
  obtain ⟨-, w1, w2⟩ := hw
  have g1 : gI (sI w9 12 (nI (rnP isB f N p))) 1 = nI N := h9.1
  have gt : gT w9 0 (rnP isB f N p + 1) = 61 := (sb_eq (h9.2.2.2.2 _ w1) (by rw [w2]; decide)).trans w2
  unfold fX9_compare R2
  rw [bd2_eq e, if_neg one0, bd2_eq (see_v h9), hs]
  simp only [jn]
  simp only [g1, sI_sI, nI_1, show gI (sI w9 12 (nI (rnP isB f N p))) 12 = nI (rnP isB f N p) from rfl]
  rcases hc with ⟨rfl, rfl⟩ | ⟨rfl, rfl⟩
  · rw [if_pos rfl, if_neg (by decide), if_neg (nI_ge (by omega) (by omega)), gd_pos ⟨nI_pos (by omega), by rw [nI_clamp (by omega)]; omega⟩, nI_clamp (by omega), if_pos (show gT (sI w9 12 (nI (rnP isB f N p + 1))) 0 (rnP isB f N p + 1) = 61 from gt)]
    rfl
  · rw [if_neg (by decide), if_neg (by decide), if_pos rfl, if_neg (by decide), if_neg (nI_ge (by omega) (by omega)), gd_pos ⟨nI_pos (by omega), by rw [nI_clamp (by omega)]; omega⟩, nI_clamp (by omega), if_pos (show gT (sI w9 12 (nI (rnP isB f N p + 1))) 0 (rnP isB f N p + 1) = 61 from gt)]
    rfl
/-- behind the sign -/
theorem cmp2 {r q p1 : Nat} {c s : Int32} {w6 : Sx} (h : RS f N z4 z6 z9 t l p) (ec : gI z6 5 = c) (e6 : gI z6 6 = nI q) (hs : fX6_step z6 = some w6) (h2 : RS f N z4 w6 (sI z9 12 (nI p1)) t l p1) (hq : q ≤ 400) (hp1 : p < p1) (hl : l + r ≤ p) (ho : (-c, s) ∈ opc) : OKB f N z4 z9 (C2 z4 z6) (R2 (sI z9 12 (nI p1)) q s) t r (p + 1) ∨ BDD (C2 z4 z6) (R2 (sI z9 12 (nI p1)) q s) := by
  obtain ⟨hA, h8, h9, h13, hE, h3, hm0, hm1⟩ := id h
  have z60 : (60 : Int32).toInt = 60 := by decide
  unfold C2 R2
  by_cases c60 : (gI z9 16).toInt < 60
  · have cl : gI z4 3 < 60 := (i32_lt _ _).2 (by rw [h3, z60]; exact c60)
    rw [if_pos cl, bd_eq hs, bd2_eq (makes_ok (z := sI z9 12 (nI p1)) (x := nI q) c60), if_neg one0, ec]
    have h5 := rs_made h2 (show (gI (sI z9 12 (nI p1)) 16).toInt < 60 from c60)
    rcases sum_both (r := r + 1) h5 (by omega) with ⟨v4, v6, v9, p2, l2, b1, b2, b3, b4, b5, b6, b7, b8⟩ | ⟨v4, v6, v9, b1, b2, b3, b4⟩
    · left
      obtain ⟨x4, x9, d1, d2, d3, d4, d5⟩ := rs_emit (c := -c) (x1 := s) (x2 := 0) b3 (by omega) (opc_cm ho)
      rw [bd2_eq b1, bd2_eq b2, if_neg one0, bd_eq d1, bd_eq d2]
      exact ⟨x4, v6, x9, p2, l2 + 1, rfl, rfl, d3, by omega, b5, by omega, fr_tr (fr_tr (fr_I fr_rf (by decide)) b7 (by decide)) d4 (by decide), fr_tr (fr_tr (fr_I (fr_I fr_rf (by decide)) (by decide)) b8 (by decide)) d5 (by decide)⟩
    · right
      obtain ⟨x4, e4⟩ := emit_tot (z := v4) (c := -c)
      rw [bd2_eq b1, bd2_eq b2, if_pos rfl, bd_eq e4]
      exact ⟨x4, v6, v9, rfl, rfl, b3, b4⟩
  · right
    have cl : ¬ gI z4 3 < 60 := fun k => by have := (i32_lt _ _).1 k; rw [h3, z60] at this; omega
    rw [if_neg cl, bd_eq (fail6 h8 e6), bd2_eq (makes_no (z := sI z9 12 (nI p1)) (q := q) (show (gI z9 16).toInt = 60 by omega) h13), if_pos rfl]
    exact ⟨z4, _, _, rfl, rfl, flt_n0 (a := 3) (by decide) (by decide) hq, rfl⟩
theorem rs_go {w6 : Sx} {p1 : Nat} (h : RS f N z4 z6 z9 t l p) (s2 : AT f N w6 p1) (s3 : gI w6 8 = gI z6 8) (hp : p1 ≤ N) : RS f N z4 w6 (sI z9 12 (nI p1)) t l p1 := by
  obtain ⟨hA, h8, h9, h13, hE, h3, hm⟩ := h
  exact ⟨s2, s3.trans h8, t9_p h9 hp, h13, em_9 hE (L := [12]) (fr_I fr_rf (by decide)) (by decide), h3, hm⟩
theorem tkc_cmp {q : Nat} {c : Int32} (hf : f q = c) (hc : c = 60 ∨ c = 62) : (wid f N q → tkc f N q = (if c = 60 then 256 else 257) ∧ tkx f N q = q + 2) ∧ (¬ wid f N q → tkc f N q = c ∧ tkx f N q = q + 1) := by
  have d : ¬ isD (f q) = true := by rw [hf]; rcases hc with k | k <;> (rw [k]; decide)
  have lt : ¬ isL (f q) = true := by rw [hf]; rcases hc with k | k <;> (rw [k]; decide)
  unfold tkc tkx
  rw [if_neg d, if_neg lt, if_neg d, if_neg lt]
  refine ⟨fun w => ?_, fun w => ?_⟩
  · rw [if_pos w, if_pos w, hf]; exact ⟨rfl, rfl⟩
  · rw [if_neg w, if_neg w, hf]; exact ⟨rfl, rfl⟩
theorem cq_no (hA : AT f N z6 p) (hb : ∀ i : Nat, i < N → 0 ≤ (f i).toInt ∧ (f i).toInt ≤ 255) (h : ¬ (SV f N p = 60 ∨ SV f N p = 61 ∨ SV f N p = 62)) : ¬ CQ (gI z6 5) := by
  by_cases k : rnP isB f N p < N
  · have sv : SV f N p = f (rnP isB f N p) := if_pos k
    rw [sv] at h
    rw [(at_tok hA k).1]
    unfold tkc CQ
    have bb := hb _ k
    by_cases d : isD (f (rnP isB f N p)) = true
    · rw [if_pos d]
      by_cases g : rnP isD f N (rnP isB f N p) - rnP isB f N p ≤ 5
      · rw [if_pos g]; decide
      · rw [if_neg g]; decide
    rw [if_neg d]
    by_cases lt : isL (f (rnP isB f N p)) = true
    · rw [if_pos lt]
      have w := wco_rng f (rnP isB f N p) (rnP isL f N (rnP isB f N p))
      intro q
      rcases q with q | q | q | q | q <;> (rw [q] at w; revert w; decide)
    rw [if_neg lt]
    have w : ¬ wid f N (rnP isB f N p) := fun w => by
      rcases w.1 with e | e
      · exact h (Or.inl e)
      · exact h (Or.inr (Or.inr e))
    rw [if_neg w]
    intro q
    rcases q with q | q | q | q | q
    · exact h (Or.inl q)
    · rw [q, show (256 : Int32).toInt = 256 by decide] at bb; omega
    · exact h (Or.inr (Or.inl q))
    · rw [q, show (257 : Int32).toInt = 257 by decide] at bb; omega
    · exact h (Or.inr (Or.inr q))
  · rw [(at_end hA (by omega)).1]
    unfold CQ
    decide
theorem cmp_both {r : Nat} (h : RS f N z4 z6 z9 t l p) (hl : l + r ≤ p) : OKB f N z4 z9 (fX4_readComparison z4 z6) (fX9_compare z9) t r (p + 1) ∨ BDD (fX4_readComparison z4 z6) (fX9_compare z9) := by
  rcases sum_both (r := r) h hl with ⟨v4, v6, v9, p1, l1, b1, b2, b3, b4, b5, b6, b7, b8⟩ | ⟨v4, v6, v9, b1, b2, b3, b4⟩
  · obtain ⟨hA, h8, h9, h13, hE, h3, hm0, hm1⟩ := id b3
    have hN := h9.2.2.2.1
    have hq := rq_le (P := isB) (b := f) (N := N) h9.2.2.1
    have hqg := rq_ge (P := isB) (b := f) (N := N) (p := p1)
    have h6 := at_6 hA h9.2.2.1
    have fin : ∀ (p2 : Nat) (c s : Int32) (w6 : Sx), gI v6 5 = c → CQ c → fX9_compare z9 = R2 (sI v9 12 (nI p2)) (rnP isB f N p1) s → fX6_step v6 = some w6 → AT f N w6 p2 → gI w6 8 = gI v6 8 → p1 < p2 → p2 ≤ N → (-c, s) ∈ opc → OKB f N z4 z9 (fX4_readComparison z4 z6) (fX9_compare z9) t r (p + 1) ∨ BDD (fX4_readComparison z4 z6) (fX9_compare z9) := by
      intro p2 c s w6 ec hcq e9 s1 s2 s3 g1 g2 ho
      rw [c2_yes b1 h8 (by rw [ec]; exact hcq), e9]
      rcases cmp2 (r := r) b3 ec h6 s1 (rs_go b3 s2 s3 g2) (by omega) g1 b6 ho with k | k
      · exact Or.inl (okb_fr k (by omega) b7 b8)
      · exact Or.inr k
    by_cases k : SV f N p1 = 60 ∨ SV f N p1 = 61 ∨ SV f N p1 = 62
    · obtain ⟨kq, ef⟩ : rnP isB f N p1 < N ∧ f (rnP isB f N p1) = SV f N p1 := by
        rcases k with k | k | k <;> (rw [k]; exact sv_of k (by decide))
      obtain ⟨e5, -, -, w6, s1, s2, s3⟩ := at_tok hA kq
      have hx := tkx_gt (f := f) kq
      by_cases w : wid f N (rnP isB f N p1)
      · rcases k with k | k | k
        · obtain ⟨t1, t2⟩ := (tkc_cmp (N := N) (ef.trans k) (Or.inl rfl)).1 w
          rw [t2] at s2 hx
          exact fin _ 256 7 w6 (e5.trans t1) (Or.inr (Or.inl rfl)) (r2_two b2 h9 k (Or.inl ⟨rfl, rfl⟩) w) s1 s2 s3 (by omega) hx.2 (by decide)
        · exfalso
          have := w.1
          rw [ef, k] at this
          revert this; decide
        · obtain ⟨t1, t2⟩ := (tkc_cmp (N := N) (ef.trans k) (Or.inr rfl)).1 w
          rw [t2] at s2 hx
          exact fin _ 257 9 w6 (e5.trans t1) (Or.inr (Or.inr (Or.inr (Or.inl rfl)))) (r2_two b2 h9 k (Or.inr ⟨rfl, rfl⟩) w) s1 s2 s3 (by omega) hx.2 (by decide)
      · rcases k with k | k | k
        · obtain ⟨t1, t2⟩ := (tkc_cmp (N := N) (ef.trans k) (Or.inl rfl)).2 w
          rw [t2] at s2 hx
          exact fin _ 60 6 w6 (e5.trans t1) (Or.inl rfl) (r2_one b2 h9 k (Or.inl ⟨rfl, rfl⟩) w) s1 s2 s3 (by omega) hx.2 (by decide)
        · obtain ⟨t1, t2⟩ := tkc_sg (N := N) (c := 61) (by decide) (ef.trans k)
          rw [t2] at s2 hx
          exact fin _ 61 8 w6 (e5.trans t1) (Or.inr (Or.inr (Or.inl rfl))) (r2_one b2 h9 k (Or.inr (Or.inl ⟨rfl, rfl⟩)) w) s1 s2 s3 (by omega) hx.2 (by decide)
        · obtain ⟨t1, t2⟩ := (tkc_cmp (N := N) (ef.trans k) (Or.inr rfl)).2 w
          rw [t2] at s2 hx
          exact fin _ 62 10 w6 (e5.trans t1) (Or.inr (Or.inr (Or.inr (Or.inr rfl)))) (r2_one b2 h9 k (Or.inr (Or.inr ⟨rfl, rfl⟩)) w) s1 s2 s3 (by omega) hx.2 (by decide)
    · right
      rw [c2_no b1 h8 (cq_no hA (fun i hi => ⟨(h9.2.2.2.2 i hi).1, (h9.2.2.2.2 i hi).2.1⟩) k), bd_eq (fail6 h8 h6), r2_no b2 h9 h13 k]
      exact ⟨v4, _, _, rfl, rfl, flt_n0 (a := 0) (by decide) (by decide) (by omega), rfl⟩
  · right
    refine ⟨v4, v6, v9, c2_bad b1 b3, ?_, b3, b4⟩
    unfold fX9_compare
    rw [bd2_eq b2, if_pos rfl]
end CMP

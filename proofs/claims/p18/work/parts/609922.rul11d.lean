/-! A fact, on both sides. -/
section FAC
variable {f : Nat → Int32} {N t : Nat}
theorem fok_fr {p p0 : Nat} {s : List Int32} {z4 z9 u4 u9 : Sx} {A : Option (Sx × Sx)} {B : Option (Int32 × Sx)} (h : FOK f N u4 u9 A B t s p) (hp : p0 ≤ p) (h4 : FrL [1, 2, 3] z4 u4) (h9 : FrL [3, 4, 12, 14, 16, 17, 19, 20] z9 u9) : FOK f N z4 z9 A B t s p0 := by
  obtain ⟨w4, w6, w9, p1, l1, m, nc, n1, a1, a2, a3, a4, a5, a6, a7, a8, a9, b1, b2⟩ := h
  exact ⟨w4, w6, w9, p1, l1, m, nc, n1, a1, a2, a3, a4, a5, by omega, a7, a8, a9, fr_tr h4 b1 (by decide), fr_tr h9 b2 (by decide)⟩
/-- both refuse: too deep -/
theorem deep_both {l p : Nat} {s : List Int32} {z4 z6 z9 : Sx} {c : Int32} {G : Int32 → Sx → Option (Int32 × Sx)} {n : Nat} (h : RS f N z4 z6 z9 t l p) (hk : SK z9 s) (hd : dpt s = 10) (hG : ∀ z, G 0 z = some (0, z)) : BDD (bd (fX6_fail z6 2) (fun z24 => some (z4, z24))) (bd2 (bd2 (fX9_opens (sI z9 12 (nI (rnP isB f N p))) c) G) (TF n)) := by
  obtain ⟨hA, h8, h9, h13, -⟩ := h
  have hN := h9.2.2.2.1
  have hq := rq_le (P := isB) (b := f) (N := N) h9.2.2.1
  have kz : SK (sI z9 12 (nI (rnP isB f N p))) s := sk_fr (L := [12]) hk (fr_I fr_rf (by decide)) (by decide)
  rw [bd_eq (fail6 h8 (at_6 hA h9.2.2.1)), bd2_eq (opens_no (q := rnP isB f N p) kz hd rfl h13), hG, bd2_eq rfl, tf_0]
  exact ⟨z4, _, _, rfl, rfl, flt_n0 (a := 2) (by decide) (by decide) (by omega), rfl⟩
theorem fa_cl {dp l p l1 p1 nc n1 m : Nat} {s e : List Int32} {v4 w4 w6 w9 : Sx} (a3 : RS f N v4 w6 w9 t l1 p1) (a4 : SK w9 (e ++ 91 :: s)) (a5 : EMS v4 e w4) (a6 : ∀ c ∈ e, c = 12 ∨ c = 13) (a7 : l1 + e.length + (91 :: s).length + 1 ≤ p1) (a8 : N - p1 < nc) (a9 : N - p1 < n1) (b1 : ¬ gI w6 5 = 309) (b2 : ¬ gI w6 5 = 310) : FOK f N v4 w9 (FE w4 w6) (CL nc n1 w9) t s p1 ∨ BDD (FE w4 w6) (CL nc n1 w9) := by
  obtain ⟨hA, h8, h9, h13, -⟩ := id a3
  have hN := h9.2.2.2.1
  have hp := h9.2.2.1
  have hq := rq_le (P := isB) (b := f) (N := N) hp
  have hqg := rq_ge (P := isB) (b := f) (N := N) (p := p1)
  rw [List.length_cons] at a7
  obtain ⟨nc, rfl⟩ : ∃ k, nc = k + 1 := ⟨nc - 1, by omega⟩
  obtain ⟨n1, rfl⟩ : ∃ k, n1 = k + 1 := ⟨n1 - 1, by omega⟩
  have hsk := rs_sk a3
  have kz : SK (sI w9 12 (nI (rnP isB f N p1))) (e ++ 91 :: s) := sk_fr (L := [12]) a4 (fr_I fr_rf (by decide)) (by decide)
  have hin : fX9_isInside (sI w9 12 (nI (rnP isB f N p1))) = some 1 := ins_yes kz (by rw [List.length_append, List.length_cons]; omega) (List.mem_append_right _ List.mem_cons_self)
  unfold FE
  rw [if_pos h8]
  by_cases k93 : SV f N p1 = 93
  · left
    have e5 : gI w6 5 = 93 := (sg_code (by decide) hA).2 k93
    obtain ⟨u9, c1, c2, c3, c4, c5⟩ := set_all (x := 1) (s := 91 :: s) (w4 := w4) e l1 v4 _ hsk kz (fun c hc => ⟨a6 c hc, by rcases a6 c hc with k | k <;> (rw [k]; decide)⟩) a5 (by omega) (by rw [List.length_append, List.length_cons]; omega)
    have hst : fX9_settles (sI w9 12 (nI (rnP isB f N p1))) 1 = some u9 := by
      unfold fX9_settles
      have := c3 (FU - 1 - e.length + 1)
      rw [show FU - 1 - e.length + 1 + e.length = FU by unfold FU; omega] at this
      rw [this]
      exact set_stop c2 (by rw [List.length_cons]; omega) (Or.inr ⟨91, s, rfl, by decide⟩)
    obtain ⟨x6, s1, s2, s3, s4, -, -⟩ := sg_step (c := 93) (by decide) c1 (sv_idem.trans k93)
    rw [rq_idem] at s2 s3 s4
    have g12 : gI u9 12 = nI (rnP isB f N p1) := c1.2.2.1.2.1
    obtain ⟨k1, k2, k3⟩ := c2
    rw [List.length_cons] at k1
    have q1 : gI u9 20 - 1 = nI s.length := by rw [k1]; exact nI_sub (b := 1) (by omega)
    have q2 : gI u9 17 - 1 = nI (dpt s) := by
      rw [k3]
      show nI (dpt s + 1) - 1 = _
      exact nI_sub (b := 1) (by omega)
    rw [if_pos e5, bd_eq s1, cl_yes h9 k93 hin hst, q1, q2, show gI u9 12 + 1 = nI (rnP isB f N p1 + 1) by rw [g12, nI_1]]
    have ry : RS f N w4 x6 (sI (sI (sI u9 20 (nI s.length)) 17 (nI (dpt s))) 12 (nI (rnP isB f N p1 + 1))) t (l1 + e.length) (rnP isB f N p1 + 1) := by
      refine rs_fr (L := [17, 20]) s2 (fun j hj => ?_) (by decide)
      have j1 : ¬ j = 17 := fun k => by rw [k] at hj; revert hj; decide
      have j2 : ¬ j = 20 := fun k => by rw [k] at hj; revert hj; decide
      refine ⟨?_, rfl, rfl⟩
      show upd (upd (upd u9.1 20 (nI s.length)) 17 (nI (dpt s))) 12 (nI (rnP isB f N p1 + 1)) j = upd u9.1 12 (nI (rnP isB f N p1 + 1)) j
      unfold upd
      rw [if_neg j1, if_neg j2]
    exact ⟨w4, x6, _, rnP isB f N p1 + 1, l1 + e.length, FU, nc, n1 + 1, rfl, rfl, ry, ⟨rfl, k2.2, rfl⟩, by omega, by omega, FU_lt (by omega), by omega, by omega, fr_tr fr_rf c4 (by decide), fr_I (fr_I (fr_I (fr_tr (fr_I fr_rf (by decide)) c5 (by decide)) (by decide)) (by decide)) (by decide)⟩
  · right
    have e5 : ¬ gI w6 5 = 93 := fun k => k93 ((sg_code (by decide) hA).1 k)
    have w5 : ¬ WD f N (rnP isB f N p1) 5 := fun k => b1 ((rs_wd (w := 5) (by decide) a3).2 k)
    have w6' : ¬ WD f N (rnP isB f N p1) 6 := fun k => b2 ((rs_wd (w := 6) (by decide) a3).2 k)
    rw [if_neg e5, bd_eq (fail6 h8 (at_6 hA hp)), cl_no h9 k93, ta_end hsk.2.2.1 rq_idem w6' w5, kt_in hsk.2.2.1 rq_idem hsk.2.2.2.1 hin]
    exact ⟨w4, _, _, rfl, rfl, flt_n0 (a := 0) (by decide) (by decide) (by omega), rfl⟩
set_option maxHeartbeats 1000000 in
theorem fact_all : ∀ dp : Nat, FACTP f N t dp := by
  intro dp
  induction dp with
  | zero => intro nf n l p s z4 z6 z9 _ _ h1 h2; omega
  | succ dp F =>
    intro nf n l p s z4 z6 z9 h hk hd hdp hl hnf hn
    show FOK f N z4 z9 (gX4_readFact (fX4_readFact dp) z4 z6 (nI (dpt s))) (FP nf n z9) t s p ∨ BDD (gX4_readFact (fX4_readFact dp) z4 z6 (nI (dpt s))) (FP nf n z9)
    have h9 := h.2.2.1
    have hp := h9.2.2.1
    have hN := h9.2.2.2.1
    have hq := rq_le (P := isB) (b := f) (N := N) hp
    have hqg := rq_ge (P := isB) (b := f) (N := N) (p := p)
    obtain ⟨nf, rfl⟩ : ∃ k, nf = k + 1 + 1 := ⟨nf - 2, by omega⟩
    have hsk := rs_sk h
    have kz : SK (sI z9 12 (nI (rnP isB f N p))) s := sk_fr (L := [12]) hk (fr_I fr_rf (by decide)) (by decide)
    unfold FP
    by_cases w7 : WD f N (rnP isB f N p) 7
    · have hw := wd_l (by decide) w7
      have c5 : gI z6 5 = 311 := (rs_wd (w := 7) (by decide) h).2 w7
      rw [fc_not c5, fa_not h9 w7]
      by_cases d10 : dpt s < 10
      · obtain ⟨u9, o1, o2, o3⟩ := opens_ok (c := 11) kz (by omega) d10 (Or.inl rfl)
        have hu : RS f N z4 z6 u9 t l (rnP isB f N p) := rs_fr hsk o3 (by decide)
        obtain ⟨w6, s1, s2, s3, s4, -⟩ := wd_step (w := 7) (by decide) hu (by rw [rq_idem]; exact w7)
        rw [rq_idem] at s2 s3 s4
        rw [if_pos (show nI (dpt s) < 10 from nI_lt (b := 10) d10 (by decide)), bd_eq s1, bd2_eq o1, if_neg one0, bd_eq (pass9 hu.2.2.1), nI_1]
        have ed : dpt (11 :: s) = dpt s + 1 := rfl
        have k2 : SK (sI u9 12 (nI (rnP isL f N (rnP isB f N p)))) (11 :: s) := sk_fr (L := [12]) o2 (fr_I fr_rf (by decide)) (by decide)
        have ff := F (nf + 1) n l _ (11 :: s) z4 w6 _ s2 k2 (by omega) (by omega) (by rw [List.length_cons]; omega) (by omega) (by omega)
        unfold FP at ff
        rw [ed] at ff
        rcases ff with ⟨x4, x6, x9, p1, l1, m, nc2, n2, c1, c2, c3, c4, c5, c6, c7, c8, c9, d1, d2⟩ | ⟨x4, x6, x9, c1, c2, c3, c4⟩
        · left
          rw [List.length_cons] at c5 c7
          have hpN := c3.2.2.1.2.2.1
          obtain ⟨m, rfl⟩ : ∃ k, m = k + 1 := ⟨m - 1, by omega⟩
          obtain ⟨y4, y9, b1, b2, b3, b4, b5, b6⟩ := pop1 (c := 11) c3 c4 (Or.inl rfl) (by omega) (by omega)
          have b1 : fX4_emit x4 (-311) = some y4 := b1
          have eB : CP (m + 1) nc2 n2 x9 = CP m nc2 n2 y9 := by
            unfold CP
            rw [b2 m 3 (by decide)]
          rw [bd2_eq c1, bd_eq b1, c2, eB]
          refine ⟨y4, x6, y9, p1, l1 + 1, m, nc2, n2, rfl, rfl, b3, b4, by omega, by omega, by omega, c8, c9, fr_tr d1 b5 (by decide), ?_⟩
          exact fr_tr (fr_tr (fr_I (fr_tr (fr_I fr_rf (by decide)) o3 (by decide)) (by decide)) d2 (by decide)) b6 (by decide)
        · right
          obtain ⟨y4, e4⟩ := emit_tot (z := x4) (c := -311)
          rw [bd2_eq c1, bd_eq e4, c2]
          exact ⟨y4, x6, x9, rfl, rfl, c3, c4⟩
      · right
        rw [if_neg (show ¬ nI (dpt s) < 10 from nI_nlt (b := 10) (by omega) (by omega))]
        exact deep_both h hk (by omega) (fun z => if_pos rfl)
    have n7 : ¬ gI z6 5 = 311 := fun k => w7 ((rs_wd (w := 7) (by decide) h).1 k)
    by_cases k91 : SV f N p = 91
    · have c5 : gI z6 5 = 91 := (sg_code (by decide) h.1).2 k91
      rw [fc_open n7 c5, fa_nw h9 w7, if_pos k91]
      obtain ⟨kq, -⟩ := sv_of k91 (by decide)
      by_cases d10 : dpt s < 10
      · obtain ⟨u9, o1, o2, o3⟩ := opens_ok (c := 91) kz (by omega) d10 (Or.inr rfl)
        have hu : RS f N z4 z6 u9 t l (rnP isB f N p) := rs_fr hsk o3 (by decide)
        obtain ⟨w6, s1, s2, s3, s4, -, -⟩ := sg_step (c := 91) (by decide) hu (sv_idem.trans k91)
        rw [rq_idem] at s2 s3 s4
        have g12 : gI u9 12 + 1 = nI (rnP isB f N p + 1) := by rw [hu.2.2.1.2.1, nI_1]
        rw [if_pos (show nI (dpt s) < 10 from nI_lt (b := 10) d10 (by decide)), bd_eq s1, bd2_eq o1, if_neg one0, g12, nI_1]
        have ed : dpt (91 :: s) = dpt s + 1 := rfl
        have k2 : SK (sI u9 12 (nI (rnP isB f N p + 1))) (91 :: s) := sk_fr (L := [12]) o2 (fr_I fr_rf (by decide)) (by decide)
        have f9 : FrL [3, 4, 12, 14, 16, 17, 19, 20] z9 (sI u9 12 (nI (rnP isB f N p + 1))) := fr_I (fr_tr (fr_I fr_rf (by decide)) o3 (by decide)) (by decide)
        have ff := test_both (nf := nf + 1) (n := n) F (s := 91 :: s) (Or.inr ⟨s, rfl⟩) (by omega) (by omega) s2 k2 (by rw [List.length_cons]; omega) (by omega) (by omega)
        unfold FP at ff
        rw [ed] at ff
        rcases ff with ⟨v4, w4, x6, x9, e, p1, l1, nc2, n2, a1, a2, a3, a4, a5, a6, a7, a8, a9, b1, b2, b3, b4, b5⟩ | ⟨x4, x6, x9, c1, c2, c3, c4⟩
        · rw [bd2_eq a1, a2]
          rcases fa_cl (dp := 0) (l := 0) (p := 0) (m := 0) a3 a4 a5 a6 a7 a9 b1 b2 b3 with k | k
          · exact Or.inl (fok_fr k (by omega) b4 (fr_tr f9 b5 (by decide)))
          · exact Or.inr k
        · right
          obtain ⟨y6, e4, e5⟩ := step_tot (z := x6)
          rw [bd2_eq c1, c2]
          unfold FE
          rw [if_neg c3, bd_eq e4]
          exact ⟨x4, y6, x9, rfl, rfl, by rw [e5]; exact c3, by rw [e5]; exact c4⟩
      · right
        rw [if_neg (show ¬ nI (dpt s) < 10 from nI_nlt (b := 10) (by omega) (by omega))]
        exact deep_both h hk (by omega) (fun z => if_pos rfl)
    have n91 : ¬ gI z6 5 = 91 := fun k => k91 ((sg_code (by decide) h.1).1 k)
    rw [fc_cmp n7 n91, fa_cmp h9 w7 k91]
    unfold KQ
    rcases cmp_both (r := s.length + 1) hsk (by omega) with ⟨x4, x6, x9, p1, l1, b1, b2, b3, b4, b5, b6, b7, b8⟩ | ⟨x4, x6, x9, c1, c2, c3, c4⟩
    · left
      rw [bd2_eq b1, bd2_eq b2, gd_pos (Or.inr rfl), bd2_eq rfl, tf_1]
      exact ⟨x4, x6, x9, p1, l1, FU, FU, n, rfl, rfl, b3, sk_fr kz b8 (by decide), b6, by omega, FU_lt (by omega), FU_lt (by omega), by omega, b7, fr_tr (fr_I fr_rf (by decide)) b8 (by decide)⟩
    · right
      rw [bd2_eq c1, bd2_eq c2, gd_pos (Or.inl rfl), bd2_eq rfl, tf_0]
      exact ⟨x4, x6, x9, rfl, rfl, c3, c4⟩
/-- a whole test -/
theorem tested_both {l p : Nat} {z4 z6 z9 : Sx} (h : RS f N z4 z6 z9 t l p) (hl : l + 1 ≤ p) : (∃ (w4 w6 w9 : Sx) (p1 l1 : Nat), fX4_readTest (fX4_readFact 16) z4 z6 0 = some (w4, w6) ∧ fX9_tested z9 = some (1, w9) ∧ RS f N w4 w6 w9 t l1 p1 ∧ p < p1 ∧ p1 ≤ N ∧ l1 + 1 ≤ p1 ∧ FrL [1, 2, 3] z4 w4 ∧ FrL [3, 4, 12, 14, 16, 17, 19, 20] z9 w9) ∨ BDD (fX4_readTest (fX4_readFact 16) z4 z6 0) (fX9_tested z9) := by
  have hN := h.2.2.1.2.2.2.1
  have eB : fX9_tested z9 = FP FU (18446744073709551615) (sI (sI z9 20 0) 17 0) := te_go
  have r2 : RS f N z4 z6 (sI (sI z9 20 0) 17 0) t l p := rs_fr (L := [17, 20]) h (fr_I (fr_I fr_rf (by decide)) (by decide)) (by decide)
  have k2 : SK (sI (sI z9 20 0) 17 0) [] := ⟨rfl, trivial, rfl⟩
  have ff := test_both (nf := FU) (n := 18446744073709551615) (fact_all (f := f) (N := N) (t := t) 16) (s := []) (Or.inl rfl) (by decide) (by decide) r2 k2 hl (FU_lt (by omega)) (by omega)
  rw [← eB] at ff
  rcases ff with ⟨v4, w4, x6, x9, e, p1, l1, nc2, n2, a1, a2, a3, a4, a5, a6, a7, a8, a9, b1, b2, b3, b4, b5⟩ | k
  · have hp := a3.2.2.1.2.2.1
    have hq := rq_le (P := isB) (b := f) (N := N) hp
    have hqg := rq_ge (P := isB) (b := f) (N := N) (p := p1)
    have hsk := rs_sk a3
    rw [List.append_nil] at a4
    rw [List.length_nil] at a7
    have kz : SK (sI x9 12 (nI (rnP isB f N p1))) (e ++ []) := by
      rw [List.append_nil]; exact sk_fr (L := [12]) a4 (fr_I fr_rf (by decide)) (by decide)
    have kz' : SK (sI x9 12 (nI (rnP isB f N p1))) e := sk_fr (L := [12]) a4 (fr_I fr_rf (by decide)) (by decide)
    obtain ⟨nc2, rfl⟩ : ∃ k, nc2 = k + 1 := ⟨nc2 - 1, by omega⟩
    obtain ⟨n2, rfl⟩ : ∃ k, n2 = k + 1 := ⟨n2 - 1, by omega⟩
    have w5 : ¬ WD f N (rnP isB f N p1) 5 := fun k => b2 ((rs_wd (w := 5) (by decide) a3).2 k)
    have w6' : ¬ WD f N (rnP isB f N p1) 6 := fun k => b3 ((rs_wd (w := 6) (by decide) a3).2 k)
    have hin : fX9_isInside (sI x9 12 (nI (rnP isB f N p1))) = some 0 := ins_no kz' (by omega) (fun c hc => by rcases a6 c hc with k | k <;> (rw [k]; decide))
    obtain ⟨u9, c1, c2, c3, c4, c5⟩ := set_all (x := 1) (s := []) (w4 := w4) e l1 v4 _ hsk kz (fun c hc => ⟨a6 c hc, by rcases a6 c hc with k | k <;> (rw [k]; decide)⟩) a5 (by omega) (by rw [List.append_nil]; omega)
    have hst : fX9_settles (sI x9 12 (nI (rnP isB f N p1))) 1 = some u9 := by
      unfold fX9_settles
      have := c3 (FU - 1 - e.length + 1)
      rw [show FU - 1 - e.length + 1 + e.length = FU by unfold FU; omega] at this
      rw [this]
      exact set_stop c2 (by decide) (Or.inl rfl)
    left
    have ta : TA (n2 + 1) (sI x9 12 (nI (rnP isB f N p1))) = some (1, u9) := by
      rw [ta_end hsk.2.2.1 rq_idem w6' w5]
      unfold KT
      rw [bd_eq hin, if_pos rfl, bd_eq hst]
    have eC : fX9_tested z9 = some (1, u9) := by
      rw [a2]
      by_cases k93 : SV f N p1 = 93
      · unfold CL
        rw [lX9_closes_5, bd2_eq (see_v a3.2.2.1), if_pos k93, bd_eq hin, if_pos rfl]
        exact ta
      · rw [cl_no a3.2.2.1 k93, ta]
    exact ⟨w4, x6, u9, rnP isB f N p1, l1 + e.length, a1, eC, c1, by omega, hq, by omega, fr_tr b4 c4 (by decide), fr_tr (fr_tr (fr_I (fr_I fr_rf (by decide)) (by decide)) b5 (by decide)) (fr_tr (L := [3, 4, 12, 17, 20]) (fr_I fr_rf (by decide)) c5 (by decide)) (by decide)⟩
  · exact Or.inr k
end FAC

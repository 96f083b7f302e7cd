/-! A test on both sides, given that a fact is read alike. -/
/-- both have a fact -/
def FOK (f : Nat → Int32) (N : Nat) (z4 z9 : Sx) (A : Option (Sx × Sx)) (B : Option (Int32 × Sx)) (t : Nat) (s : List Int32) (p : Nat) : Prop := ∃ (w4 w6 w9 : Sx) (p1 l1 m nc n1 : Nat), A = some (w4, w6) ∧ B = CP m nc n1 w9 ∧ RS f N w4 w6 w9 t l1 p1 ∧ SK w9 s ∧ l1 + s.length + 1 ≤ p1 ∧ p < p1 ∧ s.length < m ∧ N - p1 < nc ∧ N - p1 < n1 ∧ FrL [1, 2, 3] z4 w4 ∧ FrL [3, 4, 12, 14, 16, 17, 19, 20] z9 w9
def FACTP (f : Nat → Int32) (N t dp : Nat) : Prop := ∀ (nf n l p : Nat) (s : List Int32) (z4 z6 z9 : Sx), RS f N z4 z6 z9 t l p → SK z9 s → dpt s ≤ 10 → 11 ≤ dp + dpt s → l + s.length + 1 ≤ p → N - p + 1 < nf → N - p < n → FOK f N z4 z9 (fX4_readFact dp z4 z6 (nI (dpt s))) (FP nf n z9) t s p ∨ BDD (fX4_readFact dp z4 z6 (nI (dpt s))) (FP nf n z9)
/-- both have a test; the reference's last signs wait -/
def TOK (f : Nat → Int32) (N : Nat) (z4 z9 : Sx) (A : Option (Sx × Sx)) (B : Option (Int32 × Sx)) (t : Nat) (s : List Int32) (p : Nat) : Prop := ∃ (v4 w4 w6 w9 : Sx) (e : List Int32) (p1 l1 nc n1 : Nat), A = some (w4, w6) ∧ B = CL nc n1 w9 ∧ RS f N v4 w6 w9 t l1 p1 ∧ SK w9 (e ++ s) ∧ EMS v4 e w4 ∧ (∀ c ∈ e, c = 12 ∨ c = 13) ∧ l1 + e.length + s.length + 1 ≤ p1 ∧ p ≤ p1 ∧ N - p1 < nc ∧ N - p1 < n1 ∧ ¬ gI w6 5 = 309 ∧ ¬ gI w6 5 = 310 ∧ FrL [1, 2, 3] z4 v4 ∧ FrL [3, 4, 12, 14, 16, 17, 19, 20] z9 w9
theorem tok_fr {f : Nat → Int32} {N t p p0 : Nat} {s : List Int32} {z4 z9 u4 u9 : Sx} {A : Option (Sx × Sx)} {B : Option (Int32 × Sx)} (h : TOK f N u4 u9 A B t s p) (hp : p0 ≤ p) (h4 : FrL [1, 2, 3] z4 u4) (h9 : FrL [3, 4, 12, 14, 16, 17, 19, 20] z9 u9) : TOK f N z4 z9 A B t s p0 := by
  obtain ⟨v4, w4, w6, w9, e, p1, l1, nc, n1, a1, a2, a3, a4, a5, a6, a7, a8, a9, b1, b2, b3, b4, b5⟩ := h
  exact ⟨v4, w4, w6, w9, e, p1, l1, nc, n1, a1, a2, a3, a4, a5, a6, a7, by omega, a9, b1, b2, b3, fr_tr h4 b4 (by decide), fr_tr h9 b5 (by decide)⟩
theorem dpt_app {s : List Int32} : ∀ e : List Int32, (∀ c ∈ e, c = 12 ∨ c = 13) → dpt (e ++ s) = dpt s := by
  intro e
  induction e with
  | nil => intro _; rfl
  | cons c e ih =>
    intro h
    have h1 := h c List.mem_cons_self
    have n : ¬ (c = 11 ∨ c = 91) := by rcases h1 with k | k <;> (rw [k]; decide)
    show dpt (e ++ s) + (if c = 11 ∨ c = 91 then 1 else 0) = _
    rw [if_neg n, ih (fun d hd => h d (List.mem_cons_of_mem _ hd))]
    exact Nat.add_zero _
/-- a test's own signs: AND above OR -/
def AB (a b : List Int32) (x2 : Int32) : Prop := (a = [] ∨ a = [12]) ∧ ((b = [] ∧ x2 = 0) ∨ (b = [13] ∧ x2 = 1))
theorem ab_mem {a b : List Int32} {x2 : Int32} (h : AB a b x2) : (∀ c ∈ a, c = 12) ∧ (∀ c ∈ b, c = 13) ∧ a.length ≤ 1 ∧ b.length ≤ 1 := by
  obtain ⟨h1, h2⟩ := h
  refine ⟨fun c hc => ?_, fun c hc => ?_, ?_, ?_⟩
  · rcases h1 with rfl | rfl
    · cases hc
    · exact List.mem_singleton.1 hc
  · rcases h2 with ⟨rfl, -⟩ | ⟨rfl, -⟩
    · cases hc
    · exact List.mem_singleton.1 hc
  · rcases h1 with rfl | rfl
    · exact Nat.zero_le _
    · exact Nat.le_refl _
  · rcases h2 with ⟨rfl, -⟩ | ⟨rfl, -⟩
    · exact Nat.zero_le _
    · exact Nat.le_refl _
theorem ab_or {a b : List Int32} {x2 : Int32} {v4 z4 : Sx} (h : AB a b x2) (he : EMS v4 a z4) : ∃ w4, EMS v4 (a ++ b) w4 ∧ ∀ G : Sx → Option (Sx × Sx), (if x2 = 0 then G z4 else bd (fX4_emit z4 (-309)) G) = G w4 := by
  rcases h.2 with ⟨rfl, rfl⟩ | ⟨rfl, rfl⟩
  · exact ⟨z4, by rw [List.append_nil]; exact he, fun G => if_pos rfl⟩
  · obtain ⟨w4, e⟩ := emit_tot (z := z4) (c := -309)
    exact ⟨w4, ems_app (c := 13) e a v4 he, fun G => by rw [if_neg one0, bd_eq e]⟩
def top0 (s : List Int32) : Prop := s = [] ∨ ∃ s0, s = 91 :: s0
section TST
variable {f : Nat → Int32} {N t dp : Nat} {s : List Int32}
theorem t0_stop {x : Int32} (h : top0 s) (hx : (0 : Int32) < x) : s = [] ∨ ∃ c s0, s = c :: s0 ∧ sth c < x := by
  rcases h with h | ⟨s0, h⟩
  · exact Or.inl h
  · exact Or.inr ⟨91, s0, h, hx⟩
theorem ab_stop {a b : List Int32} {x2 : Int32} (h : AB a b x2) (hs : top0 s) : b ++ s = [] ∨ ∃ c s0, b ++ s = c :: s0 ∧ sth c < 2 := by
  rcases h.2 with ⟨rfl, -⟩ | ⟨rfl, -⟩
  · exact t0_stop hs (by decide)
  · exact Or.inr ⟨13, s, rfl, by decide⟩
set_option maxHeartbeats 1000000 in
theorem test_run (F : FACTP f N t dp) (hs0 : top0 s) (hd : dpt s ≤ 10) (hdp : 11 ≤ dp + dpt s) : ∀ (g p l x3 n nc n1 : Nat) (a b : List Int32) (x2 : Int32) (v4 z4 z6 z9 : Sx), N - p ≤ g → RS f N v4 z6 z9 t l p → SK z9 (a ++ (b ++ s)) → EMS v4 a z4 → AB a b x2 → l + a.length + b.length + s.length + 1 ≤ p → x3 ≤ p → N - p < n → N - p < nc → N - p < n1 → TOK f N v4 z9 (lX4_readTest_9 (fX4_readFact dp) kt (nI (dpt s)) n z4 z6 x2 (nI x3)) (CL nc n1 z9) t s p ∨ BDD (lX4_readTest_9 (fX4_readFact dp) kt (nI (dpt s)) n z4 z6 x2 (nI x3)) (CL nc n1 z9) := by
  intro g
  induction g with
  | zero =>
    intro p l x3 n nc n1 a b x2 v4 z4 z6 z9 hg h hk he hab hl hx hn hnc hn1
    have h9 := h.2.2.1
    have hp := h9.2.2.1
    have hqg := rq_ge (P := isB) (b := f) (N := N) (p := p)
    obtain ⟨ma, mb, -, -⟩ := ab_mem hab
    obtain ⟨w4, e1, e2⟩ := ab_or hab he
    obtain ⟨n, rfl⟩ : ∃ k, n = k + 1 := ⟨n - 1, by omega⟩
    have nw : ∀ w : Nat, w < 17 → ¬ gI z6 5 = nI (304 + w) := fun w hw k => by have := (wd_l hw ((rs_wd hw h).1 k)).1; omega
    left
    refine ⟨v4, w4, z6, z9, a ++ b, p, l, nc, n1, (ct_stop (nw 5 (by decide)) (nw 6 (by decide))).trans (e2 (fun z => some (z, z6))), rfl, h, by rw [List.append_assoc]; exact hk, e1, fun c hc => ?_, by rw [List.length_append]; omega, Nat.le_refl _, hnc, hn1, nw 5 (by decide), nw 6 (by decide), fr_rf, fr_rf⟩
    rcases List.mem_append.1 hc with k | k
    · exact Or.inl (ma c k)
    · exact Or.inr (mb c k)
  | succ g ih =>
    intro p l x3 n nc n1 a b x2 v4 z4 z6 z9 hg h hk he hab hl hx hn hnc hn1
    have h9 := h.2.2.1
    have hp := h9.2.2.1
    have hN := h9.2.2.2.1
    have hq := rq_le (P := isB) (b := f) (N := N) hp
    have hqg := rq_ge (P := isB) (b := f) (N := N) (p := p)
    obtain ⟨ma, mb, la, lb⟩ := ab_mem hab
    obtain ⟨w4, e1, e2⟩ := ab_or hab he
    obtain ⟨n, rfl⟩ : ∃ k, n = k + 1 := ⟨n - 1, by omega⟩
    obtain ⟨nc, rfl⟩ : ∃ k, nc = k + 1 := ⟨nc - 1, by omega⟩
    obtain ⟨n1, rfl⟩ : ∃ k, n1 = k + 1 := ⟨n1 - 1, by omega⟩
    have hab2 : ∀ c ∈ a ++ b, c = 12 ∨ c = 13 := fun c hc => by
      rcases List.mem_append.1 hc with k | k
      · exact Or.inl (ma c k)
      · exact Or.inr (mb c k)
    have hsk := rs_sk h
    have k12 : SK (sI z9 12 (nI (rnP isB f N p))) (a ++ (b ++ s)) := sk_fr (L := [12]) hk (fr_I fr_rf (by decide)) (by decide)
    by_cases w5 : WD f N (rnP isB f N p) 5
    · have hw := wd_l (by decide) w5
      have c5 : gI z6 5 = 309 := (rs_wd (w := 5) (by decide) h).2 w5
      obtain ⟨w6, s1, s2, s3, s4, -⟩ := wd_step (w := 5) (by decide) hsk (by rw [rq_idem]; exact w5)
      rw [rq_idem] at s2 s3 s4
      have kp : SK (sI (sI z9 12 (nI (rnP isB f N p))) 12 (nI (rnP isL f N (rnP isB f N p)))) ((a ++ b) ++ s) := by
        rw [List.append_assoc]; exact sk_fr (L := [12]) k12 (fr_I fr_rf (by decide)) (by decide)
      obtain ⟨u9, b1, b2, b3, b4, b5⟩ := set_all (x := 1) (s := s) (w4 := w4) (a ++ b) l v4 _ s2 kp (fun c hc => ⟨hab2 c hc, by rcases hab2 c hc with k | k <;> (rw [k]; decide)⟩) e1 (by rw [List.length_append]; omega) (by rw [List.length_append, List.length_append]; omega)
      rw [List.length_append] at b1 b3
      have hst : fX9_settles (sI (sI z9 12 (nI (rnP isB f N p))) 12 (nI (rnP isL f N (rnP isB f N p)))) 1 = some u9 := by
        unfold fX9_settles
        have := b3 (FU - 1 - (a.length + b.length) + 1)
        rw [show FU - 1 - (a.length + b.length) + 1 + (a.length + b.length) = FU by unfold FU; omega] at this
        rw [this]
        exact set_stop b2 (by omega) (t0_stop hs0 (by decide))
      obtain ⟨g1, g2⟩ := sk_push (c := 13) b2 (by omega) (Or.inr rfl)
      have hB : CL (nc + 1) (n1 + 1) z9 = FP FU n1 (sI (sT u9 19 ((gI u9 20).toNatClampNeg) 13) 20 ((gI u9 20) + 1)) := by
        rw [cl_no h9 (wd_sv (by decide) w5).1, ta_or hsk.2.2.1 rq_idem w5, bd_eq hst, gd_pos g1]
      have hA : lX4_readTest_9 (fX4_readFact dp) kt (nI (dpt s)) (n + 1) z4 z6 x2 (nI x3) = bd (fX6_step z6) (fun z15 => bd2 (fX4_readFact dp w4 z15 (nI (dpt s))) (fun z17 z18 => lX4_readTest_9 (fX4_readFact dp) kt (nI (dpt s)) n z17 z18 1 (nI x3 + 1))) := (ct_or h.2.1 (show ¬ (400 : Int32) ≤ nI x3 from nI_ge (b := 400) (by omega) (by decide)) c5).trans (e2 (fun z10 => bd (fX6_step z6) (fun z15 => bd2 (fX4_readFact dp z10 z15 (nI (dpt s))) (fun z17 z18 => lX4_readTest_9 (fX4_readFact dp) kt (nI (dpt s)) n z17 z18 1 (nI x3 + 1)))))
      rw [hA, hB, bd_eq s1]
      have ry : RS f N w4 w6 (sI (sT u9 19 ((gI u9 20).toNatClampNeg) 13) 20 ((gI u9 20) + 1)) t (l + (a.length + b.length)) (rnP isL f N (rnP isB f N p)) := rs_fr (L := [19, 20]) b1 (fr_I (fr_T fr_rf (by decide)) (by decide)) (by decide)
      have ed : dpt (13 :: s) = dpt s := dpt_app (s := s) [13] (fun c hc => Or.inr (List.mem_singleton.1 hc))
      have ff := F FU n1 _ _ (13 :: s) _ _ _ ry g2 (by omega) (by omega) (by rw [List.length_cons]; omega) (FU_lt (by omega)) (by omega)
      rw [ed] at ff
      have f9 : FrL [3, 4, 12, 14, 16, 17, 19, 20] z9 (sI (sT u9 19 ((gI u9 20).toNatClampNeg) 13) 20 ((gI u9 20) + 1)) := fr_I (fr_T (fr_tr (fr_I (fr_I fr_rf (by decide)) (by decide)) b5 (by decide)) (by decide)) (by decide)
      rcases ff with ⟨x4, x6, x9, p1, l1, m, nc2, n2, c1, c2, c3, c4, c5, c6, c7, c8, c9, d1, d2⟩ | ⟨x4, x6, x9, c1, c2, c3, c4⟩
      · rw [List.length_cons] at c5 c7
        rw [bd2_eq c1, c2, cp_stop (f := f) c4 (by rw [List.length_cons]; have := c3.2.2.1.2.2.1; omega) (by omega) (Or.inr ⟨13, s, rfl, by decide⟩), nI_1]
        have hpN := c3.2.2.1.2.2.1
        rcases ih p1 l1 (x3 + 1) n nc2 n2 [] [13] 1 x4 x4 x6 x9 (by omega) c3 c4 rfl ⟨Or.inl rfl, Or.inr ⟨rfl, rfl⟩⟩ (by rw [List.length_nil, List.length_singleton]; omega) (by omega) (by omega) c8 c9 with k | k
        · left
          exact tok_fr k (by omega) (fr_tr (fr_tr fr_rf b4 (by decide)) d1 (by decide)) (fr_tr f9 d2 (by decide))
        · exact Or.inr k
      · right
        obtain ⟨n, rfl⟩ : ∃ k, n = k + 1 := ⟨n - 1, by omega⟩
        obtain ⟨y4, e4⟩ := kt_tot (z4 := x4) (z6 := x6) (x2 := 1)
        rw [bd2_eq c1, c2, ct_bad c3]
        exact ⟨y4, x6, x9, e4, rfl, c3, c4⟩
    by_cases w6' : WD f N (rnP isB f N p) 6
    · have hw := wd_l (by decide) w6'
      have c5 : gI z6 5 = 310 := (rs_wd (w := 6) (by decide) h).2 w6'
      obtain ⟨w6, s1, s2, s3, s4, -⟩ := wd_step (w := 6) (by decide) hsk (by rw [rq_idem]; exact w6')
      rw [rq_idem] at s2 s3 s4
      have kp : SK (sI (sI z9 12 (nI (rnP isB f N p))) 12 (nI (rnP isL f N (rnP isB f N p)))) (a ++ (b ++ s)) := sk_fr (L := [12]) k12 (fr_I fr_rf (by decide)) (by decide)
      obtain ⟨u9, b1, b2, b3, b4, b5⟩ := set_all (x := 2) (s := b ++ s) (w4 := z4) a l v4 _ s2 kp (fun c hc => ⟨Or.inl (ma c hc), by rw [ma c hc]; decide⟩) he (by omega) (by rw [List.length_append, List.length_append]; omega)
      have hst : fX9_settles (sI (sI z9 12 (nI (rnP isB f N p))) 12 (nI (rnP isL f N (rnP isB f N p)))) 2 = some u9 := by
        unfold fX9_settles
        have := b3 (FU - 1 - a.length + 1)
        rw [show FU - 1 - a.length + 1 + a.length = FU by unfold FU; omega] at this
        rw [this]
        exact set_stop b2 (by rw [List.length_append]; omega) (ab_stop hab hs0)
      obtain ⟨g1, g2⟩ := sk_push (c := 12) b2 (by rw [List.length_append]; omega) (Or.inl rfl)
      have hB : CL (nc + 1) (n1 + 1) z9 = FP FU n1 (sI (sT u9 19 ((gI u9 20).toNatClampNeg) 12) 20 ((gI u9 20) + 1)) := by
        rw [cl_no h9 (wd_sv (by decide) w6').1, ta_and hsk.2.2.1 rq_idem w6', bd_eq hst, gd_pos g1]
      rw [ct_and h.2.1 (show ¬ (400 : Int32) ≤ nI x3 from nI_ge (b := 400) (by omega) (by decide)) c5 (by rcases hab.2 with k | k; exact Or.inl k.2; exact Or.inr k.2), hB, bd_eq s1]
      have ry : RS f N z4 w6 (sI (sT u9 19 ((gI u9 20).toNatClampNeg) 12) 20 ((gI u9 20) + 1)) t (l + a.length) (rnP isL f N (rnP isB f N p)) := rs_fr (L := [19, 20]) b1 (fr_I (fr_T fr_rf (by decide)) (by decide)) (by decide)
      have ed : dpt (12 :: (b ++ s)) = dpt s := dpt_app (s := s) (12 :: b) (fun c hc => by
        rcases List.mem_cons.1 hc with k | k
        · exact Or.inl k
        · exact Or.inr (mb c k))
      have ff := F FU n1 _ _ (12 :: (b ++ s)) _ _ _ ry g2 (by omega) (by omega) (by rw [List.length_cons, List.length_append]; omega) (FU_lt (by omega)) (by omega)
      rw [ed] at ff
      have f9 : FrL [3, 4, 12, 14, 16, 17, 19, 20] z9 (sI (sT u9 19 ((gI u9 20).toNatClampNeg) 12) 20 ((gI u9 20) + 1)) := fr_I (fr_T (fr_tr (fr_I (fr_I fr_rf (by decide)) (by decide)) b5 (by decide)) (by decide)) (by decide)
      rcases ff with ⟨x4, x6, x9, p1, l1, m, nc2, n2, c1, c2, c3, c4, c5, c6, c7, c8, c9, d1, d2⟩ | ⟨x4, x6, x9, c1, c2, c3, c4⟩
      · rw [List.length_cons, List.length_append] at c5 c7
        have hpN := c3.2.2.1.2.2.1
        obtain ⟨y4, e4⟩ := emit_tot (z := x4) (c := -310)
        rw [bd2_eq c1, c2, cp_stop (f := f) c4 (by rw [List.length_cons, List.length_append]; omega) (by omega) (Or.inr ⟨12, b ++ s, rfl, by decide⟩), bd_eq e4, nI_1]
        rcases ih p1 l1 (x3 + 1) n nc2 n2 [12] b x2 x4 y4 x6 x9 (by omega) c3 c4 ⟨y4, e4, rfl⟩ ⟨Or.inr rfl, hab.2⟩ (by rw [List.length_singleton]; omega) (by omega) (by omega) c8 c9 with k | k
        · left
          exact tok_fr k (by omega) (fr_tr (fr_tr fr_rf b4 (by decide)) d1 (by decide)) (fr_tr f9 d2 (by decide))
        · exact Or.inr k
      · right
        obtain ⟨n, rfl⟩ : ∃ k, n = k + 1 := ⟨n - 1, by omega⟩
        obtain ⟨y4, e4⟩ := emit_tot (z := x4) (c := -310)
        obtain ⟨v4, e5⟩ := kt_tot (z4 := y4) (z6 := x6) (x2 := x2)
        rw [bd2_eq c1, c2, bd_eq e4, ct_bad c3]
        exact ⟨v4, x6, x9, e5, rfl, c3, c4⟩
    have n5 : ¬ gI z6 5 = 309 := fun k => w5 ((rs_wd (w := 5) (by decide) h).1 k)
    have n6 : ¬ gI z6 5 = 310 := fun k => w6' ((rs_wd (w := 6) (by decide) h).1 k)
    left
    exact ⟨v4, w4, z6, z9, a ++ b, p, l, nc + 1, n1 + 1, (ct_stop n5 n6).trans (e2 (fun z => some (z, z6))), rfl, h, by rw [List.append_assoc]; exact hk, e1, hab2, by rw [List.length_append]; omega, Nat.le_refl _, hnc, hn1, n5, n6, fr_rf, fr_rf⟩
theorem ct_badF {rec : Sx → Sx → Int32 → Option (Sx × Sx)} {k : Sx → Sx → Int32 → Option (Sx × Sx)} {x1 x2 x3 : Int32} {z4 z6 : Sx} (h8 : ¬ gI z6 8 = 0) : lX4_readTest_9 rec k x1 FU z4 z6 x2 x3 = k z4 z6 x2 := by
  have e : FU = 18446744073709551615 + 1 := rfl
  rw [e]
  exact ct_bad h8
theorem rt_eq {rec : Sx → Sx → Int32 → Option (Sx × Sx)} {x1 : Int32} {z4 z6 : Sx} : fX4_readTest rec z4 z6 x1 = bd2 (rec z4 z6 x1) (fun z2 z3 => lX4_readTest_9 rec kt x1 FU z2 z3 0 0) := by
  unfold fX4_readTest
  rfl
theorem test_both (F : FACTP f N t dp) (hs0 : top0 s) (hd : dpt s ≤ 10) (hdp : 11 ≤ dp + dpt s) {nf n l p : Nat} {z4 z6 z9 : Sx} (h : RS f N z4 z6 z9 t l p) (hk : SK z9 s) (hl : l + s.length + 1 ≤ p) (hnf : N - p + 1 < nf) (hn : N - p < n) : TOK f N z4 z9 (fX4_readTest (fX4_readFact dp) z4 z6 (nI (dpt s))) (FP nf n z9) t s (p + 1) ∨ BDD (fX4_readTest (fX4_readFact dp) z4 z6 (nI (dpt s))) (FP nf n z9) := by
  have hN := h.2.2.1.2.2.2.1
  rcases F nf n l p s z4 z6 z9 h hk hd hdp hl hnf hn with ⟨x4, x6, x9, p1, l1, m, nc2, n2, c1, c2, c3, c4, c5, c6, c7, c8, c9, d1, d2⟩ | ⟨x4, x6, x9, c1, c2, c3, c4⟩
  · have hpN := c3.2.2.1.2.2.1
    rw [rt_eq, bd2_eq c1, c2, cp_stop (f := f) c4 (by omega) (by omega) (t0_stop hs0 (by decide))]
    rcases test_run F hs0 hd hdp (N - p1) p1 l1 0 FU nc2 n2 [] [] 0 x4 x4 x6 x9 (Nat.le_refl _) c3 c4 rfl ⟨Or.inl rfl, Or.inl ⟨rfl, rfl⟩⟩ (by rw [List.length_nil]; omega) (by omega) (FU_lt (by omega)) c8 c9 with k | k
    · exact Or.inl (tok_fr k (by omega) d1 d2)
    · exact Or.inr k
  · right
    obtain ⟨y4, e4⟩ := kt_tot (z4 := x4) (z6 := x6) (x2 := 0)
    rw [rt_eq, bd2_eq c1, c2, ct_badF c3]
    exact ⟨y4, x6, x9, e4, rfl, c3, c4⟩
end TST

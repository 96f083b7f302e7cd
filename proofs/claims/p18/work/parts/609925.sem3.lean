/-! The class's comparison, fact and test write stretches that come to 0 or 1. -/
section CX3
variable {z4 z6 : Sx} {l : Nat}
theorem sgl_op1 {c : Nat → Int32} {b e m : Nat} {P Q : Int64 → Prop} (h : SGL c b e m 2 P) (hv : isOp (c e)) (hp : ∀ x y, Q (jo (-(c e)) y x)) : SGL c b (e + 1) m 1 Q := ⟨by have := h.1; omega, fun W st hs => by
  obtain ⟨L, h1, h2, h3⟩ := h.2 W st hs
  match L, h1, h2, h3 with
  | [x, y], _, _, h3 =>
    refine ⟨[jo (-(c e)) y x], rfl, fun v hv2 => ?_, sgl_s h h3 (cst_op (st := st) hv.1 hv.2.1 hv.2.2)⟩
    rw [List.mem_singleton.1 hv2]; exact hp x y
  | x :: y :: w :: L2, h1, _, _ => rw [List.length_cons, List.length_cons, List.length_cons] at h1; omega
  | [x], h1, _, _ => rw [List.length_singleton] at h1; omega
  | [], h1, _, _ => rw [List.length_nil] at h1; omega⟩
theorem jo_cmp {v : Int32} (h : CQ v) (x y : Int64) : P01 (jo (-(-v)) y x) := by
  have e : jo (-(-v)) y x = cmpv v y x := by
    rcases h with rfl | rfl | rfl | rfl | rfl
    · unfold jo; rw [if_neg (by decide), if_neg (by decide), if_neg (by decide), if_neg (by decide), if_neg (by decide), if_neg (by decide)]; rfl
    · unfold jo; rw [if_neg (by decide), if_neg (by decide), if_neg (by decide), if_neg (by decide), if_neg (by decide), if_neg (by decide)]; rfl
    · unfold jo; rw [if_neg (by decide), if_neg (by decide), if_neg (by decide), if_neg (by decide), if_neg (by decide), if_neg (by decide)]; rfl
    · unfold jo; rw [if_neg (by decide), if_neg (by decide), if_neg (by decide), if_neg (by decide), if_neg (by decide), if_neg (by decide)]; rfl
    · unfold jo; rw [if_neg (by decide), if_neg (by decide), if_neg (by decide), if_neg (by decide), if_neg (by decide), if_neg (by decide)]; rfl
  rw [e]
  exact cmpv_01
theorem cmp_x (h8 : gI z6 8 = 0) (hn : NN z6) (hl : LNs z4 l) : CQR (fun c l l1 => SGL c l l1 4 1 P01) z4 l (fX4_readComparison z4 z6) := by
  obtain ⟨y4, y6, e1, q⟩ := sum_x h8 hn hl
  rcases q with q | ⟨q8, qn, l1, g1, g2, g3, g4⟩
  · exact ⟨y4, y6, c2_bad e1 q, Or.inl q⟩
  by_cases hc : CQ (gI y6 5)
  · rw [c2_yes e1 q8 hc]
    unfold C2
    by_cases c60 : gI y4 3 < 60
    · rw [if_pos c60]
      obtain ⟨u6, s1, s2, s3⟩ := nn_step qn
      obtain ⟨v4, v6, e2, p⟩ := sum_x (z4 := sI y4 3 (gI y4 3 + 1)) (l := l1) (s3.trans q8) s2 g1
      rw [bd_eq s1, bd2_eq e2]
      rcases p with p | ⟨p8, pn, l2, k1, k2, k3, k4⟩
      · obtain ⟨x4, e3⟩ := emit_tot (z := v4) (c := -(gI y6 5))
        rw [bd_eq e3]
        exact ⟨x4, v6, rfl, Or.inl p⟩
      · obtain ⟨x4, e3, l3, m1, m2, m3, m4⟩ := emit_x (x := -(gI y6 5)) k1
        rw [bd_eq e3]
        refine ⟨x4, v6, rfl, Or.inr ⟨p8, pn, l3, m1, by omega, fun i hi => (m3 i (by omega)).trans ((k3 i (by omega)).trans (g3 i hi)), fun k => ?_⟩⟩
        obtain ⟨rfl, r⟩ := m4 k
        have t1 := sgl_m (m2 := 4) (sgl_cg (g4 (by omega)) k3) (by omega)
        have t2 := sgl_app t1 (k4 (by omega)) (by omega)
        refine sgl_op1 (sgl_cg t2 m3) (by rw [r]; exact isop (by rcases hc with k | k | k | k | k <;> simp only [k, true_or, or_true])) (fun x y => ?_)
        rw [r]
        exact jo_cmp hc x y
    · rw [if_neg c60]
      obtain ⟨w6, e, q⟩ := nn_fail (x := 3) (a := 3) qn q8 (by decide) (by decide)
      rw [bd_eq e]
      exact ⟨y4, w6, rfl, Or.inl q⟩
  · rw [c2_no e1 q8 hc]
    obtain ⟨w6, e, q⟩ := nn_fail (x := 0) (a := 0) qn q8 (by decide) (by decide)
    rw [bd_eq e]
    exact ⟨y4, w6, rfl, Or.inl q⟩
def FXP (dp d : Nat) : Prop := ∀ (l : Nat) (z4 z6 : Sx), gI z6 8 = 0 → NN z6 → LNs z4 l → CQR (fun c l l1 => SGL c l l1 (24 - 2 * d) 1 P01) z4 l (fX4_readFact dp z4 z6 (nI d))
def XK (x2 : Int32) (k : Nat) : Prop := (x2 = 0 ∧ k = 0) ∨ (x2 = 1 ∧ k = 1)
theorem kt_x {z40 : Sx} {l0 k m : Nat} {x2 : Int32} (hk : XK x2 k) (h8 : gI z6 8 = 0) (hn : NN z6) (hl : LNs z4 l) (h0 : l0 ≤ l) (hp : ∀ i : Nat, i < l0 → gT z4 1 i = gT z40 1 i) (hs : l < 400 → SGL (gT z4 1) l0 l m (k + 1) P01) : CQR (fun c l l1 => SGL c l l1 m 1 P01) z40 l0 (kt z4 z6 x2) := by
  unfold kt
  rcases hk with ⟨rfl, rfl⟩ | ⟨rfl, rfl⟩
  · rw [if_pos rfl]
    exact ⟨z4, z6, rfl, Or.inr ⟨h8, hn, l, hl, h0, hp, hs⟩⟩
  · obtain ⟨w4, e1, l1, q1, q2, q3, q4⟩ := emit_x (x := -309) hl
    rw [if_neg one0, bd_eq e1]
    refine ⟨w4, z6, rfl, Or.inr ⟨h8, hn, l1, q1, by omega, fun i hi => (q3 i (by omega)).trans (hp i hi), fun k => ?_⟩⟩
    obtain ⟨rfl, r⟩ := q4 k
    exact sgl_op (k := 0) (sgl_cg (hs (by omega)) q3) (by rw [r]; unfold isOp; decide) (fun x y hx hy => by rw [r]; exact or01s hx hy)
theorem test_loop {z40 : Sx} {l0 dp d : Nat} (hd : d ≤ 10) (F : FXP dp d) : ∀ (n j k l : Nat) (z4 z6 : Sx) (x2 : Int32), j ≤ 400 → 400 - j < n → XK x2 k → gI z6 8 = 0 → NN z6 → LNs z4 l → l0 ≤ l → (∀ i : Nat, i < l0 → gT z4 1 i = gT z40 1 i) → (l < 400 → SGL (gT z4 1) l0 l (26 - 2 * d) (k + 1) P01) → CQR (fun c l l1 => SGL c l l1 (26 - 2 * d) 1 P01) z40 l0 (lX4_readTest_9 (fX4_readFact dp) kt (nI d) n z4 z6 x2 (nI j)) := by
  intro n
  induction n with
  | zero => intro j k l z4 z6 x2 _ hm; omega
  | succ n ih =>
    intro j k l z4 z6 x2 hj hm hk h8 hn hl h0 hp hs
    by_cases j4 : j = 400
    · rw [lX4_readTest_9, if_pos (show (400 : Int32) ≤ nI j from nI_le (a := 400) (by omega) (by omega))]
      exact kt_x hk h8 hn hl h0 hp hs
    have hx : ¬ (400 : Int32) ≤ nI j := nI_ge (b := 400) (by omega) (by decide)
    have hk1 : k ≤ 1 := by rcases hk with q | q <;> omega
    obtain ⟨u6, s1, s2, s3⟩ := nn_step hn
    have bad : ∀ (y4 y6 : Sx) (w : Int32), ¬ gI y6 8 = 0 → CQR (fun c l l1 => SGL c l l1 (26 - 2 * d) 1 P01) z40 l0 (lX4_readTest_9 (fX4_readFact dp) kt (nI d) n y4 y6 w (nI j + 1)) := by
      intro y4 y6 w hb
      obtain ⟨n, rfl⟩ : ∃ k, n = k + 1 := ⟨n - 1, by omega⟩
      obtain ⟨v4, e⟩ := kt_tot (z4 := y4) (z6 := y6) (x2 := w)
      exact ⟨v4, y6, (ct_bad hb).trans e, Or.inl hb⟩
    by_cases ca : gI z6 5 = 310
    · rw [ct_and h8 hx ca (by rcases hk with q | q; exact Or.inl q.1; exact Or.inr q.1), bd_eq s1]
      obtain ⟨y4, y6, e1, q⟩ := F l z4 u6 (s3.trans h8) s2 hl
      rw [bd2_eq e1]
      rcases q with q | ⟨q8, qn, l1, g1, g2, g3, g4⟩
      · obtain ⟨v4, e⟩ := emit_tot (z := y4) (c := -310)
        rw [bd_eq e]
        exact bad v4 y6 x2 q
      · obtain ⟨v4, e, l2, k1, k2, k3, k4⟩ := emit_x (x := -310) g1
        rw [bd_eq e, nI_1]
        refine ih (j + 1) k l2 v4 y6 x2 (by omega) (by omega) hk q8 qn k1 (by omega) (fun i hi => (k3 i (by omega)).trans ((g3 i (by omega)).trans (hp i hi))) (fun kk => ?_)
        obtain ⟨rfl, r⟩ := k4 kk
        have t1 := sgl_app (sgl_cg (hs (by omega)) g3) (g4 (by omega)) (by omega)
        exact sgl_op (sgl_cg t1 k3) (by rw [r]; unfold isOp; decide) (fun x y hx hy => by rw [r]; exact and01 hx hy)
    by_cases co : gI z6 5 = 309
    · have fl : ∃ (x4 : Sx) (lx : Nat), (∀ G : Sx → Option (Sx × Sx), (if x2 = 0 then G z4 else bd (fX4_emit z4 (-309)) G) = G x4) ∧ LNs x4 lx ∧ l0 ≤ lx ∧ (∀ i : Nat, i < l0 → gT x4 1 i = gT z40 1 i) ∧ (lx < 400 → SGL (gT x4 1) l0 lx (26 - 2 * d) 1 P01) := by
        rcases hk with ⟨rfl, rfl⟩ | ⟨rfl, rfl⟩
        · exact ⟨z4, l, fun G => if_pos rfl, hl, h0, hp, hs⟩
        · obtain ⟨w4, e1, l1, q1, q2, q3, q4⟩ := emit_x (x := -309) hl
          refine ⟨w4, l1, fun G => by rw [if_neg one0, bd_eq e1], q1, by omega, fun i hi => (q3 i (by omega)).trans (hp i hi), fun k => ?_⟩
          obtain ⟨rfl, r⟩ := q4 k
          exact sgl_op (k := 0) (sgl_cg (hs (by omega)) q3) (by rw [r]; unfold isOp; decide) (fun x y hx hy => by rw [r]; exact or01s hx hy)
      obtain ⟨x4, lx, f1, f2, f3, f4, f5⟩ := fl
      have eA := (ct_or (rec := fX4_readFact dp) (k := kt) (n := n) (x1 := nI d) (x2 := x2) (z4 := z4) h8 hx co).trans (f1 (fun z10 => bd (fX6_step z6) (fun z15 => bd2 (fX4_readFact dp z10 z15 (nI d)) (fun z17 z18 => lX4_readTest_9 (fX4_readFact dp) kt (nI d) n z17 z18 1 (nI j + 1)))))
      rw [eA]
      show CQR _ z40 l0 (bd (fX6_step z6) _)
      rw [bd_eq s1]
      obtain ⟨y4, y6, e1, q⟩ := F lx x4 u6 (s3.trans h8) s2 f2
      rw [bd2_eq e1]
      rcases q with q | ⟨q8, qn, l1, g1, g2, g3, g4⟩
      · exact bad y4 y6 1 q
      · rw [nI_1]
        refine ih (j + 1) 1 l1 y4 y6 1 (by omega) (by omega) (Or.inr ⟨rfl, rfl⟩) q8 qn g1 (by omega) (fun i hi => (g3 i (by omega)).trans (f4 i hi)) (fun k => ?_)
        exact sgl_app (sgl_cg (f5 (by omega)) g3) (g4 k) (by omega)
    · rw [ct_stop co ca]
      exact kt_x hk h8 hn hl h0 hp hs
theorem test_x {dp d : Nat} (hd : d ≤ 10) (F : FXP dp d) (h8 : gI z6 8 = 0) (hn : NN z6) (hl : LNs z4 l) : CQR (fun c l l1 => SGL c l l1 (26 - 2 * d) 1 P01) z4 l (fX4_readTest (fX4_readFact dp) z4 z6 (nI d)) := by
  obtain ⟨y4, y6, e1, q⟩ := F l z4 z6 h8 hn hl
  rw [rt_eq, bd2_eq e1]
  rcases q with q | ⟨q8, qn, l1, g1, g2, g3, g4⟩
  · obtain ⟨v4, e⟩ := kt_tot (z4 := y4) (z6 := y6) (x2 := 0)
    exact ⟨v4, y6, (ct_badF q).trans e, Or.inl q⟩
  · exact test_loop (z40 := z4) (l0 := l) hd F FU 0 0 l1 y4 y6 0 (by omega) (FU_lt (by omega)) (Or.inl ⟨rfl, rfl⟩) q8 qn g1 g2 g3 (fun k => sgl_m (g4 k) (by omega))
theorem fact_x : ∀ (dp d : Nat), d ≤ 10 → 11 ≤ dp + d → FXP dp d := by
  intro dp
  induction dp with
  | zero => intro d h1 h2; omega
  | succ dp ih =>
    intro d hd hdp l z4 z6 h8 hn hl
    show CQR _ z4 l (gX4_readFact (fX4_readFact dp) z4 z6 (nI d))
    by_cases c7 : gI z6 5 = 311
    · rw [fc_not c7]
      by_cases d10 : d < 10
      · obtain ⟨u6, s1, s2, s3⟩ := nn_step hn
        obtain ⟨y4, y6, e1, q⟩ := ih (d + 1) (by omega) (by omega) l z4 u6 (s3.trans h8) s2 hl
        rw [if_pos (show nI d < 10 from nI_lt (b := 10) d10 (by decide)), bd_eq s1, nI_1, bd2_eq e1]
        rcases q with q | ⟨q8, qn, l1, g1, g2, g3, g4⟩
        · obtain ⟨v4, e⟩ := emit_tot (z := y4) (c := -311)
          rw [bd_eq e]
          exact ⟨v4, y6, rfl, Or.inl q⟩
        · obtain ⟨v4, e, l2, k1, k2, k3, k4⟩ := emit_x (x := -311) g1
          rw [bd_eq e]
          refine ⟨v4, y6, rfl, Or.inr ⟨q8, qn, l2, k1, by omega, fun i hi => (k3 i (by omega)).trans (g3 i hi), fun kk => ?_⟩⟩
          obtain ⟨rfl, r⟩ := k4 kk
          exact sgl_not (k := 0) (sgl_cg (sgl_m (g4 (by omega)) (by omega)) k3) r
      · rw [if_neg (show ¬ nI d < 10 from nI_nlt (b := 10) (by omega) (by omega))]
        obtain ⟨w6, e, q⟩ := nn_fail (x := 2) (a := 2) hn h8 (by decide) (by decide)
        rw [bd_eq e]
        exact ⟨z4, w6, rfl, Or.inl q⟩
    by_cases c91 : gI z6 5 = 91
    · rw [fc_open c7 c91]
      by_cases d10 : d < 10
      · obtain ⟨u6, s1, s2, s3⟩ := nn_step hn
        obtain ⟨y4, y6, e1, q⟩ := test_x (z4 := z4) (l := l) (d := d + 1) (by omega) (ih (d + 1) (by omega) (by omega)) (s3.trans h8) s2 hl
        rw [if_pos (show nI d < 10 from nI_lt (b := 10) d10 (by decide)), bd_eq s1, nI_1, bd2_eq e1]
        unfold FE
        rcases q with q | ⟨q8, qn, l1, g1, g2, g3, g4⟩
        · obtain ⟨v6, e, e5⟩ := step_tot (z := y6)
          rw [if_neg q, bd_eq e]
          exact ⟨y4, v6, rfl, Or.inl (by rw [e5]; exact q)⟩
        · rw [if_pos q8]
          by_cases c93 : gI y6 5 = 93
          · obtain ⟨v6, t1, t2, t3⟩ := nn_step qn
            rw [if_pos c93, bd_eq t1]
            exact ⟨y4, v6, rfl, Or.inr ⟨t3.trans q8, t2, l1, g1, g2, g3, fun k => by
              have := g4 k
              rw [show 26 - 2 * (d + 1) = 24 - 2 * d by omega] at this
              exact this⟩⟩
          · obtain ⟨w6, e, q⟩ := nn_fail (x := 0) (a := 0) qn q8 (by decide) (by decide)
            rw [if_neg c93, bd_eq e]
            exact ⟨y4, w6, rfl, Or.inl q⟩
      · rw [if_neg (show ¬ nI d < 10 from nI_nlt (b := 10) (by omega) (by omega))]
        obtain ⟨w6, e, q⟩ := nn_fail (x := 2) (a := 2) hn h8 (by decide) (by decide)
        rw [bd_eq e]
        exact ⟨z4, w6, rfl, Or.inl q⟩
    · rw [fc_cmp c7 c91]
      obtain ⟨y4, y6, e1, q⟩ := cmp_x h8 hn hl
      rw [bd2_eq e1]
      refine ⟨y4, y6, rfl, ?_⟩
      rcases q with q | ⟨q8, qn, l1, g1, g2, g3, g4⟩
      · exact Or.inl q
      · exact Or.inr ⟨q8, qn, l1, g1, g2, g3, fun k => sgl_m (g4 k) (by omega)⟩
end CX3

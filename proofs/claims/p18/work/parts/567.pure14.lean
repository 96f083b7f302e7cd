def RAW (o : Sx) (y : Int32 × Sx) : Prop := FrL [1, 4, 7, 8, 9, 10, 11, 12, 13, 14, 16, 18] o y.2 ∧ (gI y.2 1).toInt = 0 ∧ (y.1 = 0 ∨ (y.1 = 1 ∧ WKI y.2))
theorem raw_end {o z : Sx} (hf : FrL [4, 7, 8, 9, 10, 11, 12, 13, 14, 16, 18] o z) (hg : (gI z 13).toInt ≠ 0 ∨ WKI z) : okP (if (gI z 13) = 0 then some ((1 : Int32), sI z 1 0) else some (0, sI z 1 0)) (RAW o) := by
  refine ok_ite (fun c => ?_) (fun c => ?_)
  · have ci := bI_eq rfl (show (0 : Int32).toInt = 0 by decide) c
    rcases hg with q | q
    · exact absurd ci q
    · exact ok_some ⟨fr_I (fr_tr fr_rf hf (by decide)) (by decide), show (0 : Int32).toInt = 0 by decide, Or.inr ⟨rfl, wki_eq (z := z) rfl rfl rfl q⟩⟩
  · exact ok_some ⟨fr_I (fr_tr fr_rf hf (by decide)) (by decide), show (0 : Int32).toInt = 0 by decide, Or.inl rfl⟩
set_option maxHeartbeats 2000000 in
theorem tl_readsW {o : Sx} {k : Sx → Int32 → Option (Int32 × Sx)} (pt : (gI o 15).toInt = 6) (p1 : (gI o 1).toInt ≤ 400) (hk : ∀ z x, FrL [4, 7, 8, 9, 10, 11, 12, 13, 14, 16, 18] o z → 0 ≤ (gI z 12).toInt → (gI z 12).toInt ≤ (gI o 1).toInt → (x = 0 ∧ (gI z 13).toInt ≠ 0 ∨ x = 1 ∧ WKI z) → okP (k z x) (RAW o)) : ∀ (n : Nat) (z : Sx) (x : Int32), FrL [4, 7, 8, 9, 10, 11, 12, 13, 14, 16, 18] o z → 0 ≤ (gI z 12).toInt → (gI z 12).toInt ≤ (gI o 1).toInt → (x = 0 ∧ (gI z 13).toInt ≠ 0 ∨ x = 1 ∧ WKI z) → ((gI o 1).toInt - (gI z 12).toInt).toNat < n → okP (lX9_readsAll_35 k n z x) (RAW o) := by
  intro n
  induction n with
  | zero => intro _ _ _ _ _ _ hm; omega
  | succ n ih =>
    intro z x fr h0 h1 hx hm
    rw [lX9_readsAll_35]
    refine ok_ite (fun c => hk z x fr h0 h1 hx) (fun c => ?_)
    have hg : x = 1 ∧ WKI z := hx.resolve_left (fun q => c q.1)
    obtain ⟨hx1, g1⟩ := hg
    have e1 : (gI z 1).toInt = (gI o 1).toInt := congrArg Int32.toInt (fr 1 (by decide)).1
    refine ok_bd2 (t_fX9_see (by omega)) (fun r7 z8 q => ?_)
    have f8 : FrL [12] z z8 := q.1
    have n8 : (gI z 12).toInt ≤ (gI z8 12).toInt ∧ (gI z8 12).toInt ≤ (gI z 1).toInt := q.2.1
    have r8 : r7.toInt = -1 ∨ (0 ≤ r7.toInt ∧ (gI z8 12).toInt < (gI z 1).toInt) := q.2.2.1
    clear q
    have k1 : (gI z8 1).toInt = (gI z 1).toInt := congrArg Int32.toInt (f8 1 (by decide)).1
    have fr8 : FrL [4, 7, 8, 9, 10, 11, 12, 13, 14, 16, 18] o z8 := fr_tr fr f8 (by decide)
    have k15 : (gI z8 15).toInt = 6 := (congrArg Int32.toInt (fr8 15 (by decide)).1).trans pt
    have w8 : WKI z8 := wki_eq (f8 8 (by decide)).1 (f8 9 (by decide)).1 (f8 11 (by decide)).2.1 g1
    refine ok_ite (fun c2 => ?_) (fun c2 => ?_)
    · have c2i := bI_eq rfl (show (59 : Int32).toInt = 59 by decide) c2
      have en : (gI z8 12 + 1).toInt = (gI z8 12).toInt + 1 := i32_add rfl (show (1 : Int32).toInt = 1 by decide) (by omega) (by omega)
      refine ok_bd2 (t_clauseW (z_t := sI z8 12 (gI z8 12 + 1)) k15 (show 0 ≤ (gI z8 12 + 1).toInt ∧ (gI z8 12 + 1).toInt ≤ (gI z8 1).toInt ∧ (gI z8 1).toInt ≤ 400 by omega) (wki_eq (z := z8) rfl rfl rfl w8)) (fun r11 z12 q => ?_)
      obtain ⟨a1, a3, a4, a5⟩ := q
      have a1 : FrL [7, 8, 9, 10, 11, 12, 13, 14, 18] (sI z8 12 (gI z8 12 + 1)) z12 := a1
      have a3 : (gI z8 12 + 1).toInt ≤ (gI z12 12).toInt := a3
      have a4 : (gI z12 12).toInt ≤ (gI z8 1).toInt := a4
      exact ih z12 r11 (fr_tr (fr_I fr8 (by decide)) a1 (by decide)) (by omega) (by omega) a5 (by omega)
    · exact hk z8 x fr8 (by omega) (by omega) (Or.inr ⟨hx1, w8⟩)
set_option maxHeartbeats 2000000 in
theorem t_readsW {z_t : Sx} (pt : gI z_t 15 = 6) (p1 : 0 ≤ (gI z_t 1).toInt ∧ (gI z_t 1).toInt ≤ 400) (h8 : (gI z_t 8).toInt = 0) (h9 : (gI z_t 9).toInt = 0) : okP (fX9_readsAll z_t) (RAW z_t) := by
  unfold fX9_readsAll
  have z0 : (0 : Int32).toInt = 0 := by decide
  have pti : (gI z_t 15).toInt = 6 := by rw [pt]; decide
  have e15n : (gI z_t 15).toNatClampNeg = 6 := n_cl pti
  refine ok_gd (inb_of (by omega) (by omega)) ?_
  simp only [e15n]
  obtain ⟨zi, hzi⟩ : ∃ zi, zi = sI (sI (sI (sI (sT z_t 4 6 0) 18 0) 12 0) 13 0) 16 0 := ⟨_, rfl⟩
  have i12 : (gI zi 12).toInt = 0 := by rw [hzi]; exact z0
  have i1 : (gI zi 1).toInt = (gI z_t 1).toInt := by rw [hzi]; rfl
  have i15 : (gI zi 15).toInt = 6 := by rw [hzi]; exact pti
  have fri : FrL [4, 7, 8, 9, 10, 11, 12, 13, 14, 16, 18] z_t zi := by rw [hzi]; exact fr_I (fr_I (fr_I (fr_I (fr_T fr_rf (by decide)) (by decide)) (by decide)) (by decide)) (by decide)
  have wi : WKI zi := by
    rw [hzi]
    refine ⟨show 0 ≤ (gI z_t 8).toInt by omega, show (gI z_t 8).toInt ≤ 6 by omega, show 0 ≤ (gI z_t 9).toInt by omega, show (gI z_t 9).toInt ≤ 10 by omega, fun f hf => ?_⟩
    have hf2 : (f : Int) < (gI z_t 9).toInt := hf
    omega
  rw [← hzi]
  refine ok_bd2 (t_clauseW i15 (by omega) wi) (fun r3 z4 q => ?_)
  obtain ⟨a1, a3, a4, a5⟩ := q
  have a1 : FrL [7, 8, 9, 10, 11, 12, 13, 14, 18] zi z4 := a1
  have a3 : (gI zi 12).toInt ≤ (gI z4 12).toInt := a3
  have a4 : (gI z4 12).toInt ≤ (gI zi 1).toInt := a4
  refine tl_readsW (o := z_t) pti p1.2 (fun z13 i14 fr h0 h1 hx => ?_) FU z4 r3 (fr_tr fri a1 (by decide)) (by omega) (by omega) a5 (FU_lt (by omega))
  have e1 : (gI z13 1).toInt = (gI z_t 1).toInt := congrArg Int32.toInt (fr 1 (by decide)).1
  refine ok_jn2 (Q := fun J => ∀ z16 i17, FrL [4, 7, 8, 9, 10, 11, 12, 13, 14, 16, 18] z_t z16 → 0 ≤ (gI z16 12).toInt → (gI z16 12).toInt ≤ 400 → ((gI z16 13).toInt ≠ 0 ∨ WKI z16) → okP (J z16 i17) (RAW z_t)) ?_ (fun J15 HJ => ?_)
  · intro z16 i17 f16 b0 b1 hg
    refine ok_jn ?_
    refine ok_ite (fun _ => raw_end f16 hg) (fun _ => ?_)
    refine ok_ite (fun c => ?_) (fun _ => raw_end f16 hg)
    refine ok_ite (fun c2 => ?_) (fun _ => raw_end f16 hg)
    refine ok_bd2 (t_fX9_fails (by omega)) (fun r25 z26 q => ?_)
    have q2 : FrL [13] z16 z26 := q.2.1
    have q4 : (gI z26 13).toInt ≠ 0 := q.2.2.2
    exact raw_end (fr_tr f16 q2 (by decide)) (Or.inl q4)
  · refine ok_ite (fun c => ?_) (fun c => ?_)
    · refine HJ z13 i14 fr (by omega) (by omega) (Or.inl ?_)
      rcases hx with q | q
      · exact q.2
      · rw [q.1] at c; exact absurd c (by decide)
    · have hg : i14 = 1 ∧ WKI z13 := hx.resolve_left (fun q => c q.1)
      obtain ⟨hx1, g1⟩ := hg
      refine ok_bd2 (t_fX9_see (by omega)) (fun r29 z30 q => ?_)
      have f30 : FrL [12] z13 z30 := q.1
      have n30 : (gI z13 12).toInt ≤ (gI z30 12).toInt ∧ (gI z30 12).toInt ≤ (gI z13 1).toInt := q.2.1
      clear q
      refine ok_ite (fun c2 => ?_) (fun c2 => ?_)
      · exact HJ z30 i14 (fr_tr fr f30 (by decide)) (by omega) (by omega) (Or.inr (wki_eq (f30 8 (by decide)).1 (f30 9 (by decide)).1 (f30 11 (by decide)).2.1 g1))
      · refine ok_bd2 (t_fX9_fails (by omega)) (fun r33 z34 q => ?_)
        have q2 : FrL [13] z30 z34 := q.2.1
        have q4 : (gI z34 13).toInt ≠ 0 := q.2.2.2
        have e12 : (gI z34 12).toInt = (gI z30 12).toInt := congrArg Int32.toInt (q2 12 (by decide)).1
        exact HJ z34 r33 (fr_tr (fr_tr fr f30 (by decide)) q2 (by decide)) (by omega) (by omega) (Or.inl q4)
/-- what the rows of a work's telling keep -/
def WSD (o : Sx) (n k : Int32) (z : Sx) : Prop := FrL [24] o z ∧ gT z 24 0 = n ∧ gT z 24 1 = k ∧ ∀ j : Nat, j < 8 → gT z 24 (18 + j) = gT o 24 (18 + j)
theorem wsd_T {o z : Sx} {n k v : Int32} {i : Nat} (h : WSD o n k z) (hi : 2 ≤ i ∧ i < 18 ∨ 26 ≤ i) : WSD o n k (sT z 24 i v) := by
  obtain ⟨h1, h2, h3, h4⟩ := h
  have e : ∀ j, j ≠ i → gT (sT z 24 i v) 24 j = gT z 24 j := fun j hj => if_neg hj
  exact ⟨fr_T h1 (by decide), (e 0 (by omega)).trans h2, (e 1 (by omega)).trans h3, fun j hj => (e (18 + j) (by omega)).trans (h4 j hj)⟩
theorem tl_work92 {o : Sx} {n k : Int32} {kk : Sx → Option (Int32 × Sx)} {P : Int32 × Sx → Prop} (hk : ∀ z, WSD o n k z → gT z 24 8 = 0 → okP (kk z) P) : ∀ (m : Nat) (z : Sx) (x : Int32), WSD o n k z → 4 ≤ x.toInt → x.toInt ≤ 9 → (8 < x.toInt → gT z 24 8 = 0) → (9 - x.toInt).toNat < m → okP (lX9_work_92 kk m z x) P := by
  intro m
  induction m with
  | zero => intro _ _ _ _ _ _ hm; omega
  | succ m ih =>
    intro z x hw h4 h9 h8 hm
    have hc := clampI (x := x) (by omega)
    rw [lX9_work_92]
    refine ok_ite (fun c => ?_) (fun c => ?_)
    · have ci := bI_le (show (9 : Int32).toInt = 9 by decide) rfl c
      exact hk z hw (h8 (by omega))
    · have ci := bI_nle (show (9 : Int32).toInt = 9 by decide) rfl c
      refine ok_gd (inb_of (by omega) (by omega)) ?_
      have e1 : (x + 1).toInt = x.toInt + 1 := i32_add rfl (show (1 : Int32).toInt = 1 by decide) (by omega) (by omega)
      refine ih _ (x + 1) (wsd_T hw (by omega)) (by omega) (by omega) (fun q => ?_) (by omega)
      have e8 : x.toNatClampNeg = 8 := by omega
      rw [e8]; rfl
theorem tl_work113 {o : Sx} {n k : Int32} {kk : Sx → Option (Int32 × Sx)} {P : Int32 × Sx → Prop} (ho : 0 ≤ (gI o 8).toInt ∧ (gI o 8).toInt ≤ 6) (hk : ∀ z, WSD o n k z → gT z 24 8 = 0 → okP (kk z) P) : ∀ (m : Nat) (z : Sx) (x : Int32), WSD o n k z → gT z 24 8 = 0 → 0 ≤ x.toInt → (20 - x.toInt).toNat < m → okP (lX9_work_113 kk m z x) P := by
  intro m
  induction m with
  | zero => intro _ _ _ _ _ hm; omega
  | succ m ih =>
    intro z x hw h8 h0 hm
    have hc := clampI h0
    have hr := n_rng (gI z 8)
    have e8 : (gI z 8).toInt = (gI o 8).toInt := congrArg Int32.toInt (hw.1 8 (by decide)).1
    rw [lX9_work_113]
    have e3 : (3 * gI z 8).toInt = 3 * (gI z 8).toInt := i32_mul (show (3 : Int32).toInt = 3 by decide) rfl (by omega) (by omega)
    refine ok_ite (fun c => hk z hw h8) (fun c => ?_)
    have ci := bI_nle e3 rfl c
    refine ok_gd (inb_of (by omega) (by omega)) ?_
    have e2 : (26 + x).toInt = 26 + x.toInt := i32_add (show (26 : Int32).toInt = 26 by decide) rfl (by omega) (by omega)
    have e2n : (26 + x).toNatClampNeg = 26 + x.toNatClampNeg := n_cl (by rw [e2]; omega)
    refine ok_gd (inb_of (by omega) (by omega)) ?_
    rw [e2n]
    have e1 : (x + 1).toInt = x.toInt + 1 := i32_add rfl (show (1 : Int32).toInt = 1 by decide) (by omega) (by omega)
    exact ih _ (x + 1) (wsd_T hw (by omega)) ((show upd (gT z 24) (26 + x.toNatClampNeg) (gT z 10 x.toNatClampNeg) 8 = gT z 24 8 from if_neg (by omega)).trans h8) (by omega) (by omega)

/-- FAULTS told up to m stand in said -/
def WF (o : Sx) (m : Nat) (z : Sx) : Prop := ∀ g : Nat, g < m → gT z 24 (44 + 6 * g) = gT o 11 (4 * g) ∧ gT z 24 (47 + 6 * g) = gT o 11 (4 * g + 3)
theorem wf_T {o z : Sx} {m i : Nat} {v : Int32} (h : WF o m z) (hi : 44 + 6 * m ≤ i) : WF o m (sT z 24 i v) := fun g hg => by
  have e : ∀ j, j ≠ i → gT (sT z 24 i v) 24 j = gT z 24 j := fun j hj => if_neg hj
  rw [e (44 + 6 * g) (by omega), e (47 + 6 * g) (by omega)]
  exact h g hg
theorem tl_work156 {o : Sx} {n k x1 : Int32} {f : Nat} {kk : Sx → Option (Int32 × Sx)} {P : Int32 × Sx → Prop} (hf : x1.toInt = f) (hf9 : f ≤ 9) (hk : ∀ z, WSD o n k z → gT z 24 8 = 0 → WF o f z → gT z 24 (44 + 6 * f) = gT o 11 (4 * f) → gT z 24 (47 + 6 * f) = gT o 11 (4 * f + 3) → okP (kk z) P) : ∀ (m : Nat) (z : Sx) (x : Int32), WSD o n k z → gT z 24 8 = 0 → WF o f z → 0 ≤ x.toInt → x.toInt ≤ 4 → (0 < x.toInt → gT z 24 (44 + 6 * f) = gT o 11 (4 * f)) → (3 < x.toInt → gT z 24 (47 + 6 * f) = gT o 11 (4 * f + 3)) → (4 - x.toInt).toNat < m → okP (lX9_work_156 kk x1 m z x) P := by
  intro m
  induction m with
  | zero => intro _ _ _ _ _ _ _ _ _ hm; omega
  | succ m ih =>
    intro z x hw h8 hwf h0 h4 ha hb hm
    have hc := clampI h0
    rw [lX9_work_156]
    refine ok_ite (fun c => ?_) (fun c => ?_)
    · have ci := bI_le (show (4 : Int32).toInt = 4 by decide) rfl c
      exact hk z hw h8 hwf (ha (by omega)) (hb (by omega))
    · have ci := bI_nle (show (4 : Int32).toInt = 4 by decide) rfl c
      have e4 : (4 * x1).toInt = 4 * (f : Int) := by rw [i32_mul (show (4 : Int32).toInt = 4 by decide) hf (by omega) (by omega)]
      have e6 : (6 * x1).toInt = 6 * (f : Int) := by rw [i32_mul (show (6 : Int32).toInt = 6 by decide) hf (by omega) (by omega)]
      have a1 : ((4 * x1) + x).toInt = 4 * (f : Int) + x.toInt := i32_add e4 rfl (by omega) (by omega)
      have a2 : (44 + (6 * x1)).toInt = 44 + 6 * (f : Int) := i32_add (show (44 : Int32).toInt = 44 by decide) e6 (by omega) (by omega)
      have a3 : ((44 + (6 * x1)) + x).toInt = 44 + 6 * (f : Int) + x.toInt := i32_add a2 rfl (by omega) (by omega)
      have n1 : ((4 * x1) + x).toNatClampNeg = 4 * f + x.toNatClampNeg := n_cl (by rw [a1]; omega)
      have n3 : ((44 + (6 * x1)) + x).toNatClampNeg = 44 + 6 * f + x.toNatClampNeg := n_cl (by rw [a3]; omega)
      refine ok_gd (inb_of (by omega) (by omega)) ?_
      refine ok_gd (inb_of (by omega) (by omega)) ?_
      rw [n1, n3]
      have e1 : (x + 1).toInt = x.toInt + 1 := i32_add rfl (show (1 : Int32).toInt = 1 by decide) (by omega) (by omega)
      have e11 : gT z 11 = gT o 11 := (hw.1 11 (by decide)).2.1
      have un : ∀ j, j ≠ 44 + 6 * f + x.toNatClampNeg → gT (sT z 24 (44 + 6 * f + x.toNatClampNeg) (gT z 11 (4 * f + x.toNatClampNeg))) 24 j = gT z 24 j := fun j hj => if_neg hj
      have up : gT (sT z 24 (44 + 6 * f + x.toNatClampNeg) (gT z 11 (4 * f + x.toNatClampNeg))) 24 (44 + 6 * f + x.toNatClampNeg) = gT z 11 (4 * f + x.toNatClampNeg) := if_pos rfl
      refine ih _ (x + 1) (wsd_T hw (by omega)) ((un 8 (by omega)).trans h8) (wf_T hwf (by omega)) (by omega) (by omega) (fun q => ?_) (fun q => ?_) (by omega)
      · by_cases q0 : x.toInt = 0
        · have ex : x.toNatClampNeg = 0 := by omega
          rw [ex] at up ⊢
          rw [← e11]; exact up
        · rw [un (44 + 6 * f) (by omega)]; exact ha (by omega)
      · have ex : x.toNatClampNeg = 3 := by omega
        rw [ex] at up ⊢
        have e47 : 47 + 6 * f = 44 + 6 * f + 3 := by omega
        rw [← e11, e47]; exact up
theorem tl_work146 {o : Sx} {n k : Int32} {kk : Sx → Option (Int32 × Sx)} {P : Int32 × Sx → Prop} (ho : 0 ≤ (gI o 9).toInt ∧ (gI o 9).toInt ≤ 10) (hk : ∀ z, WSD o n k z → gT z 24 8 = 0 → WF o (gI o 9).toNatClampNeg z → okP (kk z) P) : ∀ (m : Nat) (z : Sx) (x : Int32), WSD o n k z → gT z 24 8 = 0 → 0 ≤ x.toInt → x.toInt ≤ (gI o 9).toInt → WF o x.toNatClampNeg z → (10 - x.toInt).toNat < m → okP (lX9_work_146 kk m z x) P := by
  intro m
  induction m with
  | zero => intro _ _ _ _ _ _ _ hm; omega
  | succ m ih =>
    intro z x hw h8 h0 h9 hwf hm
    have hc := clampI h0
    have hco := clampI ho.1
    have e9 : (gI z 9).toInt = (gI o 9).toInt := congrArg Int32.toInt (hw.1 9 (by decide)).1
    rw [lX9_work_146]
    refine ok_ite (fun c => ?_) (fun c => ?_)
    · have ci := bI_le rfl rfl c
      have ex : x.toNatClampNeg = (gI o 9).toNatClampNeg := by omega
      rw [ex] at hwf
      exact hk z hw h8 hwf
    · have ci := bI_nle rfl rfl c
      have e6 : (6 * x).toInt = 6 * x.toInt := i32_mul (show (6 : Int32).toInt = 6 by decide) rfl (by omega) (by omega)
      have a2 : (44 + (6 * x)).toInt = 44 + 6 * x.toInt := i32_add (show (44 : Int32).toInt = 44 by decide) e6 (by omega) (by omega)
      have a4 : ((44 + (6 * x)) + 4).toInt = 44 + 6 * x.toInt + 4 := i32_add a2 (show (4 : Int32).toInt = 4 by decide) (by omega) (by omega)
      have a5 : ((44 + (6 * x)) + 5).toInt = 44 + 6 * x.toInt + 5 := i32_add a2 (show (5 : Int32).toInt = 5 by decide) (by omega) (by omega)
      have n4 : ((44 + (6 * x)) + 4).toNatClampNeg = 44 + 6 * x.toNatClampNeg + 4 := n_cl (by rw [a4]; omega)
      have n5 : ((44 + (6 * x)) + 5).toNatClampNeg = 44 + 6 * x.toNatClampNeg + 5 := n_cl (by rw [a5]; omega)
      have e1 : (x + 1).toInt = x.toInt + 1 := i32_add rfl (show (1 : Int32).toInt = 1 by decide) (by omega) (by omega)
      have e1n : (x + 1).toNatClampNeg = x.toNatClampNeg + 1 := n_cl (by rw [e1]; omega)
      have z0 : (0 : Int32).toInt = 0 := by decide
      refine tl_work156 (f := x.toNatClampNeg) (by omega) (by omega) (fun z21 w21 h821 wf21 hA hB => ?_) FU z 0 hw h8 hwf (by omega) (by omega) (fun q => by omega) (fun q => by omega) (FU_lt (by omega))
      refine ok_gd (inb_of (by omega) (by omega)) ?_
      refine ok_gd (inb_of (by omega) (by omega)) ?_
      rw [n4, n5]
      have un : ∀ j, j ≠ 44 + 6 * x.toNatClampNeg + 4 → j ≠ 44 + 6 * x.toNatClampNeg + 5 → gT (sT (sT z21 24 (44 + 6 * x.toNatClampNeg + 4) 0) 24 (44 + 6 * x.toNatClampNeg + 5) 0) 24 j = gT z21 24 j := fun j h1 h2 => (if_neg h2).trans (if_neg h1)
      refine ih _ (x + 1) (wsd_T (wsd_T w21 (by omega)) (by omega)) ((un 8 (by omega) (by omega)).trans h821) (by omega) (by omega) ?_ (by omega)
      rw [e1n]
      intro g hg
      rw [un (44 + 6 * g) (by omega) (by omega), un (47 + 6 * g) (by omega) (by omega)]
      by_cases q : g = x.toNatClampNeg
      · subst q; exact ⟨hA, hB⟩
      · exact wf21 g (by omega)
set_option maxHeartbeats 1000000 in
theorem t_fX9_work {z_t : Sx} (h : RI z_t) : okP (fX9_work z_t) (fun y => RI y.2) := by
  unfold fX9_work
  obtain ⟨h1, h2, h3, h6⟩ := id h
  have z0 : (0 : Int32).toInt = 0 := by decide
  refine ok_bd2 (t_readsW (z_t := sI (sI (sI (sI z_t 15 6) 7 (-1)) 8 0) 9 0) rfl h1 z0 z0) (fun r2 z3 q => ?_)
  obtain ⟨a1, a3, a4⟩ := q
  have a1 : FrL [1, 4, 7, 8, 9, 10, 11, 12, 13, 14, 16, 18] (sI (sI (sI (sI z_t 15 6) 7 (-1)) 8 0) 9 0) z3 := a1
  have a3 : (gI z3 1).toInt = 0 := a3
  have fr3 : FrL [1, 4, 7, 8, 9, 10, 11, 12, 13, 14, 15, 16, 18] z_t z3 := fr_tr (fr_I (fr_I (fr_I (fr_I fr_rf (by decide)) (by decide)) (by decide)) (by decide)) a1 (by decide)
  have e2 : gI z3 2 = gI z_t 2 := (fr3 2 (by decide)).1
  have ru3 : RU z3 := by
    unfold RU; rw [e2]
    exact ⟨h3.1, h3.2.1, fun t ht => rk_fr fr3 (by decide) (h3.2.2 t ht)⟩
  have s3 : SOK (gT z3 24) := so_fr fr3 (by decide) h2
  have m3 : IMG z3 := img_fr fr3 (by decide) (by decide) h6
  refine ok_ite (fun c => ?_) (fun c => ?_)
  · exact ok_some ⟨show 0 ≤ (gI z3 1).toInt ∧ (gI z3 1).toInt ≤ 400 by omega, s3, ru3, m3⟩
  have hw : WKI z3 := by
    rcases a4 with q | q
    · exact absurd q c
    · exact q.2
  obtain ⟨w1, w2, w3, w4, w5⟩ := id hw
  have two : (2 : Int32).toInt = 2 := by decide
  have tn : (2 : Int32).toNatClampNeg = 2 := by decide
  have go : ∀ (v6 : Int32), okP (gd (inb 2 104) (nm (gT (sT (sT (sT z3 24 0 (gI z3 9)) 24 1 (gI z3 8)) 24 ((2 : Int32).toNatClampNeg) v6) 24 2 : Int32) (fun v9 => lX9_work_92 (fun (z12 : Sx) => lX9_work_113 (fun (z16 : Sx) => lX9_work_146 (fun (z24 : Sx) => some (gI z24 9, z24)) FU z16 0) FU z12 0) FU (sT (sT (sT (sT z3 24 0 (gI z3 9)) 24 1 (gI z3 8)) 24 ((2 : Int32).toNatClampNeg) v6) 24 3 v9) 4))) (fun y => RI y.2) := by
    intro v6
    refine ok_gd (inb_of (by omega) (by omega)) ?_
    rw [tn]
    refine ok_nm2 (fun v9 _ => ?_)
    have ws0 : WSD z3 (gI z3 9) (gI z3 8) (sT (sT (sT (sT z3 24 0 (gI z3 9)) 24 1 (gI z3 8)) 24 2 v6) 24 3 v9) := by
      refine wsd_T (wsd_T ⟨fr_T (fr_T fr_rf (by decide)) (by decide), rfl, rfl, fun j hj => ?_⟩ (by omega)) (by omega)
      exact (show upd (upd (gT z3 24) 0 (gI z3 9)) 1 (gI z3 8) (18 + j) = upd (gT z3 24) 0 (gI z3 9) (18 + j) from if_neg (by omega)).trans (if_neg (by omega))
    have four : (4 : Int32).toInt = 4 := by decide
    refine tl_work92 (o := z3) (n := gI z3 9) (k := gI z3 8) (fun z12 ws12 e12 => ?_) FU _ 4 ws0 (by omega) (by omega) (fun q => by omega) (FU_lt (by omega))
    refine tl_work113 (o := z3) (n := gI z3 9) (k := gI z3 8) ⟨w1, w2⟩ (fun z16 ws16 e16 => ?_) FU z12 0 ws12 e12 (by omega) (FU_lt (by omega))
    have n0 : (0 : Int32).toNatClampNeg = 0 := by decide
    have wf0 : WF z3 (0 : Int32).toNatClampNeg z16 := fun g hg => by rw [n0] at hg; omega
    refine tl_work146 (o := z3) (n := gI z3 9) (k := gI z3 8) ⟨w3, w4⟩ (fun z24 ws24 e24 wf24 => ?_) FU z16 0 ws16 e16 (by omega) (by omega) wf0 (FU_lt (by omega))
    obtain ⟨f24, s0, s1, sg⟩ := ws24
    have hco := clampI w3
    have sok : SOK (gT z24 24) := by
      unfold SOK
      rw [s0, s1, e24]
      refine ⟨⟨w3, w4⟩, ⟨w1, w2⟩, ⟨by decide, by decide⟩, fun f hf => ?_, fun k hk => by omega, fun k hk => ?_⟩
      · have hq := wf24 f (by omega)
        rw [hq.1, hq.2]; exact w5 f hf
      · rw [sg k hk]; exact s3.2.2.2.2.2 k hk
    have k2 : gI z24 2 = gI z3 2 := (f24 2 (by decide)).1
    have k1 : (gI z24 1).toInt = (gI z3 1).toInt := congrArg Int32.toInt (f24 1 (by decide)).1
    have ru : RU z24 := by
      unfold RU; rw [k2]
      exact ⟨ru3.1, ru3.2.1, fun t ht => rk_fr f24 (by decide) (ru3.2.2 t ht)⟩
    exact ok_some ⟨show 0 ≤ (gI z24 1).toInt ∧ (gI z24 1).toInt ≤ 400 by omega, sok, ru, img_fr f24 (by decide) (by decide) m3⟩
  refine ok_jn ?_
  exact ok_ite (fun _ => go _) (fun _ => go _)

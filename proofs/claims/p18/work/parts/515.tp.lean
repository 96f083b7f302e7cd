set_option maxHeartbeats 400000 in
set_option maxRecDepth 20000 in
theorem t_fX9_pop {z_t : Sx} (p1 : 1 ≤ (gI z_t 22).toInt ∧ (gI z_t 22).toInt ≤ 64) : okP (fX9_pop z_t) (fun y => (FrL [22] z_t y.2) ∧ ((gI y.2 22).toInt = (gI z_t 22).toInt - 1)) := by
  unfold fX9_pop
  have r_1 := n_rng (gI z_t 22)
  have e_2 : ((gI z_t 22) - 1).toInt = ((gI z_t 22).toInt - 1) := (i32_sub rfl (show (1 : Int32).toInt = 1 by decide) (by omega) (by omega))
  refine ok_gd (inb_of (by omega) (by omega)) ?_
  have i_3 : (((gI z_t 22) - 1).toNatClampNeg : Int) = ((gI z_t 22) - 1).toInt := clampI (by omega)
  try have e_4 : ((gI z_t 22) - 1).toInt = ((gI z_t 22).toInt - 1) := (i32_sub rfl (show (1 : Int32).toInt = 1 by decide) (by omega) (by omega))
  exact ok_some ⟨(fr_I fr_rf (by decide)), (show ((gI z_t 22) - 1).toInt = (gI z_t 22).toInt - 1 by first | omega | assumption | trivial)⟩

set_option maxHeartbeats 400000 in
set_option maxRecDepth 20000 in
theorem t_fX9_one {x0 : Int32} {x1 : Int64} {x3 : Int64} : okP (fX9_one x0 x1 x3) (fun _ => True) := by
  unfold fX9_one
  refine ok_ite (fun c_1 => ?_) (fun c_1 => ?_)
  · skip
    have r_2 := n_rng x0
    have c_1i : x0.toInt = 2 := bI_eq rfl (show (2 : Int32).toInt = 2 by decide) c_1
    exact ok_some trivial
  · skip
    have r_3 := n_rng x0
    have c_1i : x0.toInt ≠ 2 := bI_neq rfl (show (2 : Int32).toInt = 2 by decide) c_1
    refine ok_ite (fun c_4 => ?_) (fun c_4 => ?_)
    · skip
      have c_4i : x0.toInt = 3 := bI_eq rfl (show (3 : Int32).toInt = 3 by decide) c_4
      exact ok_some trivial
    · skip
      have c_4i : x0.toInt ≠ 3 := bI_neq rfl (show (3 : Int32).toInt = 3 by decide) c_4
      refine ok_ite (fun c_5 => ?_) (fun c_5 => ?_)
      · skip
        have c_5i : x0.toInt = 4 := bI_eq rfl (show (4 : Int32).toInt = 4 by decide) c_5
        exact ok_some trivial
      · skip
        have c_5i : x0.toInt ≠ 4 := bI_neq rfl (show (4 : Int32).toInt = 4 by decide) c_5
        refine ok_ite (fun c_6 => ?_) (fun c_6 => ?_)
        · skip
          have c_6i : x0.toInt = 5 := bI_eq rfl (show (5 : Int32).toInt = 5 by decide) c_6
          refine ok_ite (fun c_7 => ?_) (fun c_7 => ?_)
          · skip
            have c_7i : x3.toInt = 0 := lI_eq rfl (show (0 : Int64).toInt = 0 by decide) c_7
            exact ok_some trivial
          · skip
            have c_7i : x3.toInt ≠ 0 := lI_neq rfl (show (0 : Int64).toInt = 0 by decide) c_7
            refine ok_gd (by assumption) ?_
            exact ok_some trivial
        · skip
          have c_6i : x0.toInt ≠ 5 := bI_neq rfl (show (5 : Int32).toInt = 5 by decide) c_6
          refine ok_ite (fun c_8 => ?_) (fun c_8 => ?_)
          · skip
            have c_8i : x0.toInt = 6 := bI_eq rfl (show (6 : Int32).toInt = 6 by decide) c_8
            refine ok_ite (fun c_9 => ?_) (fun c_9 => ?_)
            · skip
              have c_9i : x3.toInt ≤ x1.toInt := lI_le rfl rfl c_9
              exact ok_some trivial
            · skip
              have c_9i : x3.toInt > x1.toInt := lI_nle rfl rfl c_9
              exact ok_some trivial
          · skip
            have c_8i : x0.toInt ≠ 6 := bI_neq rfl (show (6 : Int32).toInt = 6 by decide) c_8
            refine ok_ite (fun c_10 => ?_) (fun c_10 => ?_)
            · skip
              have c_10i : x0.toInt = 7 := bI_eq rfl (show (7 : Int32).toInt = 7 by decide) c_10
              refine ok_ite (fun c_11 => ?_) (fun c_11 => ?_)
              · skip
                have c_11i : x3.toInt < x1.toInt := lI_lt rfl rfl c_11
                exact ok_some trivial
              · skip
                have c_11i : x3.toInt ≥ x1.toInt := lI_nlt rfl rfl c_11
                exact ok_some trivial
            · skip
              have c_10i : x0.toInt ≠ 7 := bI_neq rfl (show (7 : Int32).toInt = 7 by decide) c_10
              refine ok_ite (fun c_12 => ?_) (fun c_12 => ?_)
              · skip
                have c_12i : x0.toInt = 8 := bI_eq rfl (show (8 : Int32).toInt = 8 by decide) c_12
                refine ok_ite (fun c_13 => ?_) (fun c_13 => ?_)
                · skip
                  have c_13i : x1.toInt = x3.toInt := lI_eq rfl rfl c_13
                  exact ok_some trivial
                · skip
                  have c_13i : x1.toInt ≠ x3.toInt := lI_neq rfl rfl c_13
                  exact ok_some trivial
              · skip
                have c_12i : x0.toInt ≠ 8 := bI_neq rfl (show (8 : Int32).toInt = 8 by decide) c_12
                refine ok_ite (fun c_14 => ?_) (fun c_14 => ?_)
                · skip
                  have c_14i : x0.toInt = 9 := bI_eq rfl (show (9 : Int32).toInt = 9 by decide) c_14
                  refine ok_ite (fun c_15 => ?_) (fun c_15 => ?_)
                  · skip
                    have c_15i : x1.toInt < x3.toInt := lI_lt rfl rfl c_15
                    exact ok_some trivial
                  · skip
                    have c_15i : x1.toInt ≥ x3.toInt := lI_nlt rfl rfl c_15
                    exact ok_some trivial
                · skip
                  have c_14i : x0.toInt ≠ 9 := bI_neq rfl (show (9 : Int32).toInt = 9 by decide) c_14
                  refine ok_ite (fun c_16 => ?_) (fun c_16 => ?_)
                  · skip
                    have c_16i : x0.toInt = 10 := bI_eq rfl (show (10 : Int32).toInt = 10 by decide) c_16
                    refine ok_ite (fun c_17 => ?_) (fun c_17 => ?_)
                    · skip
                      have c_17i : x1.toInt ≤ x3.toInt := lI_le rfl rfl c_17
                      exact ok_some trivial
                    · skip
                      have c_17i : x1.toInt > x3.toInt := lI_nle rfl rfl c_17
                      exact ok_some trivial
                  · skip
                    have c_16i : x0.toInt ≠ 10 := bI_neq rfl (show (10 : Int32).toInt = 10 by decide) c_16
                    refine ok_ite (fun c_18 => ?_) (fun c_18 => ?_)
                    · skip
                      have c_18i : x0.toInt = 11 := bI_eq rfl (show (11 : Int32).toInt = 11 by decide) c_18
                      exact ok_some trivial
                    · skip
                      have c_18i : x0.toInt ≠ 11 := bI_neq rfl (show (11 : Int32).toInt = 11 by decide) c_18
                      refine ok_ite (fun c_19 => ?_) (fun c_19 => ?_)
                      · skip
                        have c_19i : x0.toInt = 12 := bI_eq rfl (show (12 : Int32).toInt = 12 by decide) c_19
                        exact ok_some trivial
                      · skip
                        have c_19i : x0.toInt ≠ 12 := bI_neq rfl (show (12 : Int32).toInt = 12 by decide) c_19
                        exact ok_some trivial

set_option maxHeartbeats 400000 in
set_option maxRecDepth 20000 in
theorem t_fX9_push {z_t : Sx} {x1 : Int64} (p1 : 0 ≤ (gI z_t 22).toInt ∧ (gI z_t 22).toInt < 64) : okP (fX9_push z_t x1) (fun y => (FrL [21, 22] z_t y) ∧ ((gI y 22).toInt = (gI z_t 22).toInt + 1)) := by
  unfold fX9_push
  refine ok_gd (inb_of (by omega) (by omega)) ?_
  have i_1 : ((gI z_t 22).toNatClampNeg : Int) = (gI z_t 22).toInt := clampI (by omega)
  have r_2 := n_rng (gI z_t 22)
  try have e_3 : ((gI z_t 22) + 1).toInt = ((gI z_t 22).toInt + 1) := (i32_add rfl (show (1 : Int32).toInt = 1 by decide) (by omega) (by omega))
  exact ok_some ⟨(fr_I (fr_J fr_rf (by decide)) (by decide)), (show ((gI z_t 22) + 1).toInt = (gI z_t 22).toInt + 1 by first | omega | assumption | trivial)⟩

theorem tl_reckons {t b : Nat} {o : Sx} {x1 x3 : Int32} {k : Sx → Option (Int64 × Sx)} {P : Int64 × Sx → Prop} (ht : x1.toInt = t) (t6 : t < 6) (h3 : 0 ≤ x3.toInt) (seg : SEG (gT o 3) t b x3.toNatClampNeg) (hk : ∀ z, FrL [21, 22] o z → (gI z 22).toInt = 1 → okP (k z) P) : ∀ (n : Nat) (z : Sx) (x4 : Int32), FrL [21, 22] o z → (b : Int) ≤ x4.toInt → x4.toInt ≤ x3.toInt → (∃ h : Nat, rn (fun i => gT o 3 (400 * t + i)) b (x4.toNatClampNeg - b) = some h ∧ (gI z 22).toInt = h) → (x3.toInt - x4.toInt).toNat < n → okP (lX9_reckons_8 k x1 x3 n z x4) P := by
  intro n
  induction n with
  | zero => intro _ _ _ _ _ _ hm; omega
  | succ n ih =>
    intro z x4 fr hb h4 hi hm
    obtain ⟨h, hr, htop⟩ := hi
    have hs400 := seg.2.1
    have c3 := clampI h3
    have c4 := clampI (x := x4) (by omega)
    have hle := rn_le _ _ hr
    rw [lX9_reckons_8]
    refine ok_ite (fun c1 => ?_) (fun c1 => ?_)
    · have c1i := bI_le rfl rfl c1
      have e : x4.toNatClampNeg = x3.toNatClampNeg := by omega
      rw [e, seg.2.2] at hr
      cases hr
      exact hk z fr htop
    · have c1i := bI_nle rfl rfl c1
      have e1 : (400 * x1).toInt = 400 * (t : Int) := by rw [i32_mul (show (400 : Int32).toInt = 400 by decide) ht (by omega) (by omega)]
      have e2 : ((400 * x1) + x4).toInt = 400 * (t : Int) + x4.toInt := i32_add e1 rfl (by omega) (by omega)
      have ei : ((400 * x1) + x4).toNatClampNeg = 400 * t + x4.toNatClampNeg := n_cl (by rw [e2]; omega)
      refine ok_gd (inb_of (by omega) (by omega)) ?_
      rw [ei]
      obtain ⟨h', hst, hr'⟩ := rn_next seg (k := x4.toNatClampNeg) (by omega) (by omega) hr
      have ew : gT z 3 = gT o 3 := (fr 3 (by decide)).2.1
      rw [ew]
      have e3 : (x4 + 1).toInt = x4.toInt + 1 := i32_add rfl (show (1 : Int32).toInt = 1 by decide) (by omega) (by omega)
      have e4 : (x4 + 1).toNatClampNeg = x4.toNatClampNeg + 1 := n_cl (by rw [e3]; omega)
      have go : ∀ z', FrL [21, 22] o z' → (gI z' 22).toInt = h' → okP (lX9_reckons_8 k x1 x3 n z' (x4 + 1)) P := fun z' f' ht' => ih z' (x4 + 1) f' (by omega) (by omega) ⟨h', by rw [e4]; exact hr', ht'⟩ (by omega)
      refine ok_jn ?_
      refine ok_ite (fun c2 => ?_) (fun c2 => ?_)
      · have q := stp0 c2 hst
        refine ok_bd (t_fX9_push (by omega)) (fun z27 hq => ?_)
        have q2 : (gI z27 22).toInt = (gI z 22).toInt + 1 := hq.2
        exact go z27 (fr_tr fr hq.1 (by decide)) (by omega)
      · refine ok_ite (fun c5 => ?_) (fun c5 => ?_)
        · have q := stp1 c2 c5 hst
          refine ok_gd q.1 ?_
          refine ok_bd (t_fX9_push (by omega)) (fun z27 hq => ?_)
          have q2 : (gI z27 22).toInt = (gI z 22).toInt + 1 := hq.2
          exact go z27 (fr_tr fr hq.1 (by decide)) (by omega)
        · refine ok_ite (fun c6 => ?_) (fun c6 => ?_)
          · have q := stpN c2 c5 c6 hst
            refine ok_bd2 (t_fX9_pop (by omega)) (fun r19 z20 hq => ?_)
            have q2 : (gI z20 22).toInt = (gI z 22).toInt - 1 := hq.2
            refine ok_bd (t_fX9_push (by omega)) (fun z22 hq3 => ?_)
            have q3 : (gI z22 22).toInt = (gI z20 22).toInt + 1 := hq3.2
            exact go z22 (fr_tr (fr_tr fr hq.1 (by decide)) hq3.1 (by decide)) (by omega)
          · have q := stpB c2 c5 c6 hst
            refine ok_bd2 (t_fX9_pop (by omega)) (fun r9 z10 hq => ?_)
            have q2 : (gI z10 22).toInt = (gI z 22).toInt - 1 := hq.2
            refine ok_bd2 (t_fX9_pop (by omega)) (fun r12 z13 hq4 => ?_)
            have q4 : (gI z13 22).toInt = (gI z10 22).toInt - 1 := hq4.2
            refine ok_bd t_fX9_one (fun r15 _ => ?_)
            refine ok_bd (t_fX9_push (by omega)) (fun z17 hq3 => ?_)
            have q3 : (gI z17 22).toInt = (gI z13 22).toInt + 1 := hq3.2
            exact go z17 (fr_tr (fr_tr (fr_tr fr hq.1 (by decide)) hq4.1 (by decide)) hq3.1 (by decide)) (by omega)
theorem t_fX9_reckons {z_t : Sx} {x1 x2 x3 : Int32} {t : Nat} (ht : x1.toInt = t) (t6 : t < 6) (seg : SGI (gT z_t 3) t x2 x3) : okP (fX9_reckons z_t x1 x2 x3) (fun y => FrL [21, 22] z_t y.2) := by
  unfold fX9_reckons
  have c2 := clampI seg.1
  have c3 := clampI seg.2.1
  have hle := seg.2.2.1
  refine tl_reckons (o := z_t) (b := x2.toNatClampNeg) ht t6 seg.2.1 seg.2.2 (fun z fr htop => ?_) FU (sI z_t 22 0) x2 (fr_I fr_rf (by decide)) (by omega) (by omega) ⟨0, by rw [Nat.sub_self]; rfl, show (0 : Int32).toInt = 0 by decide⟩ (FU_lt (by have := n_rng x2; have := n_rng x3; omega))
  refine ok_bd2 (t_fX9_pop (by omega)) (fun r z' hq => ?_)
  exact ok_some (fr_tr fr hq.1 (by decide))
theorem rk_cl {z : Sx} {t : Nat} {x1 x3 : Int32} (h : RK z t) (ht : x1.toInt = t) (h0 : 0 ≤ x3.toInt) (h1 : x3.toInt < (gT z 6 x1.toNatClampNeg).toInt) :
    (gT z 5 (((60 * x1) + (5 * x3)).toNatClampNeg) = 0 → SGI (gT z 3) t (gT z 5 ((((60 * x1) + (5 * x3)) + 1).toNatClampNeg)) (gT z 5 ((((60 * x1) + (5 * x3)) + 2).toNatClampNeg)) ∧ ((gT z 5 ((((60 * x1) + (5 * x3)) + 3).toNatClampNeg)).toInt < 0 ∨ SGI (gT z 3) t (gT z 5 ((((60 * x1) + (5 * x3)) + 3).toNatClampNeg)) (gT z 5 ((((60 * x1) + (5 * x3)) + 4).toNatClampNeg)))) ∧ (gT z 5 (((60 * x1) + (5 * x3)).toNatClampNeg) = 1 → SGI (gT z 3) t (gT z 5 ((((60 * x1) + (5 * x3)) + 3).toNatClampNeg)) (gT z 5 ((((60 * x1) + (5 * x3)) + 4).toNatClampNeg))) := by
  obtain ⟨t6, hc0, hc1, hcl⟩ := h
  have et : x1.toNatClampNeg = t := n_cl ht
  rw [et] at h1
  have c3 := clampI h0
  have e1 : (60 * x1).toInt = 60 * (t : Int) := by rw [i32_mul (show (60 : Int32).toInt = 60 by decide) ht (by omega) (by omega)]
  have e2 : (5 * x3).toInt = 5 * x3.toInt := i32_mul (show (5 : Int32).toInt = 5 by decide) rfl (by omega) (by omega)
  have e3 : ((60 * x1) + (5 * x3)).toInt = 60 * (t : Int) + 5 * x3.toInt := i32_add e1 e2 (by omega) (by omega)
  have a0 : ((60 * x1) + (5 * x3)).toNatClampNeg = 60 * t + 5 * x3.toNatClampNeg := n_cl (by rw [e3]; omega)
  have a1 : (((60 * x1) + (5 * x3)) + 1).toNatClampNeg = 60 * t + 5 * x3.toNatClampNeg + 1 := n_cl (by rw [i32_add e3 (show (1 : Int32).toInt = 1 by decide) (by omega) (by omega)]; omega)
  have a2 : (((60 * x1) + (5 * x3)) + 2).toNatClampNeg = 60 * t + 5 * x3.toNatClampNeg + 2 := n_cl (by rw [i32_add e3 (show (2 : Int32).toInt = 2 by decide) (by omega) (by omega)]; omega)
  have a3 : (((60 * x1) + (5 * x3)) + 3).toNatClampNeg = 60 * t + 5 * x3.toNatClampNeg + 3 := n_cl (by rw [i32_add e3 (show (3 : Int32).toInt = 3 by decide) (by omega) (by omega)]; omega)
  have a4 : (((60 * x1) + (5 * x3)) + 4).toNatClampNeg = 60 * t + 5 * x3.toNatClampNeg + 4 := n_cl (by rw [i32_add e3 (show (4 : Int32).toInt = 4 by decide) (by omega) (by omega)]; omega)
  rw [a0, a1, a2, a3, a4]
  exact hcl x3.toNatClampNeg (by omega)
def LK (z : Sx) (t : Nat) (r : Int32) : Prop := SGI (gT z 3) t (gT z 5 ((r + 1).toNatClampNeg)) (gT z 5 ((r + 2).toNatClampNeg)) ∧ r.toInt ≤ 357
theorem lk_fr {L : List Nat} {z z' : Sx} {t : Nat} {x y : Nat} (hf : FrL L z z') (h : SGI (gT z 3) t (gT z 5 x) (gT z 5 y)) (h3 : L.contains 3 = false := by decide) (h5 : L.contains 5 = false := by decide) : SGI (gT z' 3) t (gT z' 5 x) (gT z' 5 y) := by
  rw [(hf 3 h3).2.1, (hf 5 h5).2.1]; exact h

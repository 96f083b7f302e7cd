set_option maxHeartbeats 400000 in
set_option maxRecDepth 20000 in
theorem tl_lX9_see_0 {o_z_t : Sx} {k38 : Sx → Option (Int32 × Sx)} (Hk38 : ∀ (y0 : Sx), (FrL [12] o_z_t y0) → ((gI o_z_t 12).toInt ≤ (gI y0 12).toInt ∧ (gI y0 12).toInt ≤ (gI o_z_t 1).toInt) → (NB o_z_t → (gI y0 12).toInt = (gI o_z_t 12).toInt) → ((gI y0 1) ≤ (gI y0 12) ∨ ¬ gT y0 0 ((gI y0 12).toNatClampNeg) = 32) → okP (k38 y0) (fun y => (FrL [12] o_z_t y.2) ∧ ((gI o_z_t 12).toInt ≤ (gI y.2 12).toInt ∧ (gI y.2 12).toInt ≤ (gI o_z_t 1).toInt) ∧ (y.1.toInt = -1 ∨ (0 ≤ y.1.toInt ∧ (gI y.2 12).toInt < (gI o_z_t 1).toInt)) ∧ (NB o_z_t → (gI y.2 12).toInt = (gI o_z_t 12).toInt) ∧ (0 ≤ y.1.toInt → NB y.2))) (p1 : 0 ≤ (gI o_z_t 12).toInt ∧ (gI o_z_t 12).toInt ≤ (gI o_z_t 1).toInt ∧ (gI o_z_t 1).toInt ≤ 400) : ∀ (n : Nat) (z_t : Sx), (FrL [12] o_z_t z_t) → ((gI o_z_t 12).toInt ≤ (gI z_t 12).toInt ∧ (gI z_t 12).toInt ≤ (gI o_z_t 1).toInt) → (NB o_z_t → (gI z_t 12).toInt = (gI o_z_t 12).toInt) → ((gI o_z_t 1).toInt - (gI z_t 12).toInt).toNat < n → okP (lX9_see_0 k38 n z_t) (fun y => (FrL [12] o_z_t y.2) ∧ ((gI o_z_t 12).toInt ≤ (gI y.2 12).toInt ∧ (gI y.2 12).toInt ≤ (gI o_z_t 1).toInt) ∧ (y.1.toInt = -1 ∨ (0 ≤ y.1.toInt ∧ (gI y.2 12).toInt < (gI o_z_t 1).toInt)) ∧ (NB o_z_t → (gI y.2 12).toInt = (gI o_z_t 12).toInt) ∧ (0 ≤ y.1.toInt → NB y.2)) := by
  intro n
  induction n with
  | zero => intro _ _ _ _ hm; omega
  | succ n ih =>
    intro z_t frz_t i0 i1 hm
    rw [lX9_see_0]
    have tk1 : (gI z_t 1).toInt = (gI o_z_t 1).toInt := congrArg Int32.toInt (frz_t 1 (by decide)).1
    refine ok_ite (fun c_1 => ?_) (fun c_1 => ?_)
    · skip
      have r_2 := n_rng (gI z_t 1)
      have r_3 := n_rng (gI z_t 12)
      have c_1i : (gI z_t 1).toInt ≤ (gI z_t 12).toInt := bI_le rfl rfl c_1
      exact Hk38 z_t frz_t (by first | omega | exact i1 | exact Or.inl (by assumption) | exact Or.inr (by assumption)) (by first | omega | exact i1 | exact Or.inl (by assumption) | exact Or.inr (by assumption)) (by first | omega | exact i1 | exact Or.inl (by assumption) | exact Or.inr (by assumption))
    · skip
      have r_4 := n_rng (gI z_t 1)
      have r_5 := n_rng (gI z_t 12)
      have c_1i : (gI z_t 1).toInt > (gI z_t 12).toInt := bI_nle rfl rfl c_1
      refine ok_gd (inb_of (by omega) (by omega)) ?_
      have i_6 : ((gI z_t 12).toNatClampNeg : Int) = (gI z_t 12).toInt := clampI (by omega)
      refine ok_ite (fun c_7 => ?_) (fun c_7 => ?_)
      · skip
        have r_8 := n_rng (gT z_t 0 (gI z_t 12).toNatClampNeg)
        have c_7i : (gT z_t 0 (gI z_t 12).toNatClampNeg).toInt = 32 := bI_eq rfl (show (32 : Int32).toInt = 32 by decide) c_7
        try have e_9 : ((gI z_t 12) + 1).toInt = ((gI z_t 12).toInt + 1) := (i32_add rfl (show (1 : Int32).toInt = 1 by decide) (by omega) (by omega))
        exact ih (sI z_t 12 ((gI z_t 12) + 1)) (fr_I frz_t (by decide)) (show (gI o_z_t 12).toInt ≤ ((gI z_t 12) + 1).toInt ∧ ((gI z_t 12) + 1).toInt ≤ (gI o_z_t 1).toInt by first | omega | assumption | decide) (show NB o_z_t → ((gI z_t 12) + 1).toInt = (gI o_z_t 12).toInt by intro q; exact absurd q (nb_32 frz_t (by decide) i1 (by assumption))) (by show ((gI o_z_t 1).toInt - ((gI z_t 12) + 1).toInt).toNat < n; omega)
      · skip
        have r_10 := n_rng (gT z_t 0 (gI z_t 12).toNatClampNeg)
        have c_7i : (gT z_t 0 (gI z_t 12).toNatClampNeg).toInt ≠ 32 := bI_neq rfl (show (32 : Int32).toInt = 32 by decide) c_7
        exact Hk38 z_t frz_t (by first | omega | exact i1 | exact Or.inl (by assumption) | exact Or.inr (by assumption)) (by first | omega | exact i1 | exact Or.inl (by assumption) | exact Or.inr (by assumption)) (by first | omega | exact i1 | exact Or.inl (by assumption) | exact Or.inr (by assumption))
set_option maxHeartbeats 400000 in
set_option maxRecDepth 20000 in
theorem t_fX9_see {z_t : Sx} (p1 : 0 ≤ (gI z_t 12).toInt ∧ (gI z_t 12).toInt ≤ (gI z_t 1).toInt ∧ (gI z_t 1).toInt ≤ 400) : okP (fX9_see z_t) (fun y => (FrL [12] z_t y.2) ∧ ((gI z_t 12).toInt ≤ (gI y.2 12).toInt ∧ (gI y.2 12).toInt ≤ (gI z_t 1).toInt) ∧ (y.1.toInt = -1 ∨ (0 ≤ y.1.toInt ∧ (gI y.2 12).toInt < (gI z_t 1).toInt)) ∧ (NB z_t → (gI y.2 12).toInt = (gI z_t 12).toInt) ∧ (0 ≤ y.1.toInt → NB y.2)) := by
  unfold fX9_see
  refine tl_lX9_see_0 (fun z4 k_1 k_2 k_3 k_4 => ?_) (by first | omega | assumption | decide) FU z_t fr_rf (show (gI z_t 12).toInt ≤ (gI z_t 12).toInt ∧ (gI z_t 12).toInt ≤ (gI z_t 1).toInt by first | omega | assumption | decide) (show NB z_t → (gI z_t 12).toInt = (gI z_t 12).toInt by intro _; rfl) (FU_lt (by omega))
  · skip
    have k_1_1 : (gI z4 1).toInt = (gI z_t 1).toInt := congrArg Int32.toInt (k_1 1 (by decide)).1
    refine ok_ite (fun c_5 => ?_) (fun c_5 => ?_)
    · skip
      have r_6 := n_rng (gI z4 1)
      have r_7 := n_rng (gI z4 12)
      have c_5i : (gI z4 1).toInt ≤ (gI z4 12).toInt := bI_le rfl rfl c_5
      try have e_8 : (-1 : Int32).toInt = (-1) := (show (-1 : Int32).toInt = -1 by decide)
      exact ok_some ⟨k_1, (show (gI z_t 12).toInt ≤ (gI z4 12).toInt ∧ (gI z4 12).toInt ≤ (gI z_t 1).toInt by first | omega | assumption | trivial), (show (-1 : Int32).toInt = -1 ∨ (0 ≤ (-1 : Int32).toInt ∧ (gI z4 12).toInt < (gI z_t 1).toInt) by exact Or.inl (by decide)), (show NB z_t → (gI z4 12).toInt = (gI z_t 12).toInt by assumption), (show 0 ≤ (-1 : Int32).toInt → NB z4 by intro q; exact absurd q (by decide))⟩
    · skip
      have r_9 := n_rng (gI z4 1)
      have r_10 := n_rng (gI z4 12)
      have c_5i : (gI z4 1).toInt > (gI z4 12).toInt := bI_nle rfl rfl c_5
      refine ok_gd (inb_of (by omega) (by omega)) ?_
      have i_11 : ((gI z4 12).toNatClampNeg : Int) = (gI z4 12).toInt := clampI (by omega)
      exact ok_some ⟨k_1, (show (gI z_t 12).toInt ≤ (gI z4 12).toInt ∧ (gI z4 12).toInt ≤ (gI z_t 1).toInt by first | omega | assumption | trivial), (show ((gT z4 0 (gI z4 12).toNatClampNeg) &&& 255).toInt = -1 ∨ (0 ≤ ((gT z4 0 (gI z4 12).toNatClampNeg) &&& 255).toInt ∧ (gI z4 12).toInt < (gI z_t 1).toInt) by exact Or.inr ⟨(and_rng _ (by decide)).1, by omega⟩), (show NB z_t → (gI z4 12).toInt = (gI z_t 12).toInt by assumption), (show 0 ≤ ((gT z4 0 (gI z4 12).toNatClampNeg) &&& 255).toInt → NB z4 by intro _; exact ⟨by assumption, (show (gI z4 1) ≤ (gI z4 12) ∨ ¬ gT z4 0 ((gI z4 12).toNatClampNeg) = 32 by assumption).resolve_left (by assumption)⟩)⟩

set_option maxHeartbeats 400000 in
set_option maxRecDepth 20000 in
theorem t_fX9_isLetter {z_t : Sx} {x1 : Int32} (p1 : 0 ≤ x1.toInt ∧ (gI z_t 1).toInt ≤ 400) : okP (fX9_isLetter z_t x1) (fun y => (y = 0 ∨ y = 1) ∧ (y.toInt = 0 ∨ (y.toInt = 1 ∧ x1.toInt < (gI z_t 1).toInt)) ∧ (y.toInt = 1 → LTR z_t x1) ∧ (LTR z_t x1 → y.toInt = 1)) := by
  unfold fX9_isLetter
  refine ok_ite (fun c_1 => ?_) (fun c_1 => ?_)
  · skip
    have r_2 := n_rng (gI z_t 1)
    have r_3 := n_rng x1
    have c_1i : (gI z_t 1).toInt ≤ x1.toInt := bI_le rfl rfl c_1
    try have e_4 : (0 : Int32).toInt = 0 := (show (0 : Int32).toInt = 0 by decide)
    exact ok_some ⟨Or.inl rfl, (show (0 : Int32).toInt = 0 ∨ ((0 : Int32).toInt = 1 ∧ x1.toInt < (gI z_t 1).toInt) by first | exact Or.inl (by decide) | exact Or.inr ⟨by decide, by omega⟩), (show (0 : Int32).toInt = 1 → LTR z_t x1 by intro q; exact absurd q (by decide)), (show LTR z_t x1 → (0 : Int32).toInt = 1 by intro q; exact absurd (by assumption) q.1)⟩
  · skip
    have r_5 := n_rng (gI z_t 1)
    have r_6 := n_rng x1
    have c_1i : (gI z_t 1).toInt > x1.toInt := bI_nle rfl rfl c_1
    refine ok_gd (inb_of (by omega) (by omega)) ?_
    have i_7 : (x1.toNatClampNeg : Int) = x1.toInt := clampI (by omega)
    refine ok_ite (fun c_8 => ?_) (fun c_8 => ?_)
    · skip
      have r_9 := n_rng (gT z_t 0 x1.toNatClampNeg)
      have c_8i : (gT z_t 0 x1.toNatClampNeg).toInt < 97 := bI_lt rfl (show (97 : Int32).toInt = 97 by decide) c_8
      try have e_10 : (0 : Int32).toInt = 0 := (show (0 : Int32).toInt = 0 by decide)
      exact ok_some ⟨Or.inl rfl, (show (0 : Int32).toInt = 0 ∨ ((0 : Int32).toInt = 1 ∧ x1.toInt < (gI z_t 1).toInt) by first | exact Or.inl (by decide) | exact Or.inr ⟨by decide, by omega⟩), (show (0 : Int32).toInt = 1 → LTR z_t x1 by intro q; exact absurd q (by decide)), (show LTR z_t x1 → (0 : Int32).toInt = 1 by intro q; exact absurd (by assumption) q.2.1)⟩
    · skip
      have r_11 := n_rng (gT z_t 0 x1.toNatClampNeg)
      have c_8i : (gT z_t 0 x1.toNatClampNeg).toInt ≥ 97 := bI_nlt rfl (show (97 : Int32).toInt = 97 by decide) c_8
      refine ok_ite (fun c_12 => ?_) (fun c_12 => ?_)
      · skip
        have c_12i : 122 < (gT z_t 0 x1.toNatClampNeg).toInt := bI_lt (show (122 : Int32).toInt = 122 by decide) rfl c_12
        try have e_13 : (0 : Int32).toInt = 0 := (show (0 : Int32).toInt = 0 by decide)
        exact ok_some ⟨Or.inl rfl, (show (0 : Int32).toInt = 0 ∨ ((0 : Int32).toInt = 1 ∧ x1.toInt < (gI z_t 1).toInt) by first | exact Or.inl (by decide) | exact Or.inr ⟨by decide, by omega⟩), (show (0 : Int32).toInt = 1 → LTR z_t x1 by intro q; exact absurd q (by decide)), (show LTR z_t x1 → (0 : Int32).toInt = 1 by intro q; exact absurd (by assumption) q.2.2)⟩
      · skip
        have c_12i : 122 ≥ (gT z_t 0 x1.toNatClampNeg).toInt := bI_nlt (show (122 : Int32).toInt = 122 by decide) rfl c_12
        try have e_14 : (1 : Int32).toInt = 1 := (show (1 : Int32).toInt = 1 by decide)
        exact ok_some ⟨Or.inr rfl, (show (1 : Int32).toInt = 0 ∨ ((1 : Int32).toInt = 1 ∧ x1.toInt < (gI z_t 1).toInt) by first | exact Or.inl (by decide) | exact Or.inr ⟨by decide, by omega⟩), (show (1 : Int32).toInt = 1 → LTR z_t x1 by intro _; exact ⟨by assumption, by assumption, by assumption⟩), (show LTR z_t x1 → (1 : Int32).toInt = 1 by intro _; decide)⟩

set_option maxHeartbeats 400000 in
set_option maxRecDepth 20000 in
theorem tl_lX9_isWord_10 {o_z_t : Sx} {k56 : Int64 → Int32 → Option (Int32 × Sx)} {z_t : Sx} {x1 : Int64} (Hk56 : ∀ (y0 : Int64) (y1 : Int32), (y1.toInt > 0 → LTR z_t (gI z_t 12)) → okP (k56 y0 y1) (fun y => (y.1 = 0 ∨ y.1 = 1) ∧ (FrL [12] o_z_t y.2) ∧ ((gI o_z_t 12).toInt ≤ (gI y.2 12).toInt ∧ (gI y.2 12).toInt ≤ (gI o_z_t 1).toInt) ∧ (y.1.toInt = 1 → LTR y.2 (gI y.2 12)) ∧ (NB o_z_t → (gI y.2 12).toInt = (gI o_z_t 12).toInt))) (p1 : 0 ≤ (gI z_t 12).toInt ∧ (gI z_t 12).toInt ≤ (gI z_t 1).toInt ∧ (gI z_t 1).toInt ≤ 400) : ∀ (n : Nat) (x3 : Int64) (x5 : Int32), (0 ≤ x5.toInt ∧ (gI z_t 12).toInt + x5.toInt ≤ (gI z_t 1).toInt) → (x5.toInt > 0 → LTR z_t (gI z_t 12)) → ((gI z_t 1).toInt - x5.toInt).toNat < n → okP (lX9_isWord_10 k56 z_t x1 n x3 x5) (fun y => (y.1 = 0 ∨ y.1 = 1) ∧ (FrL [12] o_z_t y.2) ∧ ((gI o_z_t 12).toInt ≤ (gI y.2 12).toInt ∧ (gI y.2 12).toInt ≤ (gI o_z_t 1).toInt) ∧ (y.1.toInt = 1 → LTR y.2 (gI y.2 12)) ∧ (NB o_z_t → (gI y.2 12).toInt = (gI o_z_t 12).toInt)) := by
  intro n
  induction n with
  | zero => intro _ _ _ _ hm; omega
  | succ n ih =>
    intro x3 x5 i0 i1 hm
    rw [lX9_isWord_10]
    have r_2 := n_rng (gI z_t 12)
    have r_3 := n_rng x5
    have e_4 : ((gI z_t 12) + x5).toInt = ((gI z_t 12).toInt + x5.toInt) := (i32_add rfl rfl (by omega) (by omega))
    refine ok_bd (t_fX9_isLetter (by first | omega | assumption | decide | (show 0 ≤ ((gI z_t 12) + x5).toInt ∧ (gI z_t 1).toInt ≤ 400; first | omega | assumption))) (fun r5 q_1 => ?_)
    have h_5 : r5 = 0 ∨ r5 = 1 := q_1.1
    have h_5i := bool_i h_5
    have h_6 : r5.toInt = 0 ∨ (r5.toInt = 1 ∧ ((gI z_t 12) + x5).toInt < (gI z_t 1).toInt) := q_1.2.1
    have h_7 : r5.toInt = 1 → LTR z_t ((gI z_t 12) + x5) := q_1.2.2.1
    have h_8 : LTR z_t ((gI z_t 12) + x5) → r5.toInt = 1 := q_1.2.2.2
    clear q_1
    refine ok_ite (fun c_9 => ?_) (fun c_9 => ?_)
    · skip
      have r_10 := n_rng r5
      have c_9i : r5.toInt = 0 := bI_eq rfl (show (0 : Int32).toInt = 0 by decide) c_9
      exact Hk56 x3 x5 (by exact i1)
    · skip
      have r_11 := n_rng r5
      have c_9i : r5.toInt ≠ 0 := bI_neq rfl (show (0 : Int32).toInt = 0 by decide) c_9
      have u_12 : LTR z_t ((gI z_t 12) + x5) := h_7 (by omega)
      refine ok_jn ?_
      refine ok_ite (fun c_13 => ?_) (fun c_13 => ?_)
      · skip
        have c_13i : 8 ≤ x5.toInt := bI_le (show (8 : Int32).toInt = 8 by decide) rfl c_13
        try have e_14 : (x5 + 1).toInt = (x5.toInt + 1) := (i32_add rfl (show (1 : Int32).toInt = 1 by decide) (by omega) (by omega))
        exact ih x3 (x5 + 1) (by first | omega | assumption | decide) (by intro _; exact ltr_step i0.1 i1 ((show r5.toInt = 1 → LTR z_t ((gI z_t 12) + x5) by assumption) (by omega))) (by omega)
      · skip
        have c_13i : 8 > x5.toInt := bI_nle (show (8 : Int32).toInt = 8 by decide) rfl c_13
        have e_15 : ((gI z_t 12) + x5).toInt = ((gI z_t 12).toInt + x5.toInt) := (i32_add rfl rfl (by omega) (by omega))
        refine ok_gd (inb_of (by omega) (by omega)) ?_
        have i_16 : (((gI z_t 12) + x5).toNatClampNeg : Int) = ((gI z_t 12) + x5).toInt := clampI (by omega)
        refine ok_nm ?_
        try have e_17 : (x5 + 1).toInt = (x5.toInt + 1) := (i32_add rfl (show (1 : Int32).toInt = 1 by decide) (by omega) (by omega))
        exact ih ((x3 <<< ((Int32.toInt64 8) &&& 63)) ||| (gT z_t 0 ((gI z_t 12) + x5).toNatClampNeg).toInt64) (x5 + 1) (by first | omega | assumption | decide) (by intro _; exact ltr_step i0.1 i1 ((show r5.toInt = 1 → LTR z_t ((gI z_t 12) + x5) by assumption) (by omega))) (by omega)
set_option maxHeartbeats 400000 in
set_option maxRecDepth 20000 in
theorem t_fX9_isWord {z_t : Sx} {x1 : Int64} (p1 : 0 ≤ (gI z_t 12).toInt ∧ (gI z_t 12).toInt ≤ (gI z_t 1).toInt ∧ (gI z_t 1).toInt ≤ 400) : okP (fX9_isWord z_t x1) (fun y => (y.1 = 0 ∨ y.1 = 1) ∧ (FrL [12] z_t y.2) ∧ ((gI z_t 12).toInt ≤ (gI y.2 12).toInt ∧ (gI y.2 12).toInt ≤ (gI z_t 1).toInt) ∧ (y.1.toInt = 1 → LTR y.2 (gI y.2 12)) ∧ (NB z_t → (gI y.2 12).toInt = (gI z_t 12).toInt)) := by
  unfold fX9_isWord
  refine ok_bd2 (t_fX9_see (by first | omega | assumption | decide | (show 0 ≤ (gI z_t 12).toInt ∧ (gI z_t 12).toInt ≤ (gI z_t 1).toInt ∧ (gI z_t 1).toInt ≤ 400; first | omega | assumption))) (fun r2 z3 q_1 => ?_)
  have h_2 : FrL [12] z_t z3 := q_1.1
  have h_3 : (gI z_t 12).toInt ≤ (gI z3 12).toInt ∧ (gI z3 12).toInt ≤ (gI z_t 1).toInt := q_1.2.1
  have h_4 : r2.toInt = -1 ∨ (0 ≤ r2.toInt ∧ (gI z3 12).toInt < (gI z_t 1).toInt) := q_1.2.2.1
  have h_5 : NB z_t → (gI z3 12).toInt = (gI z_t 12).toInt := q_1.2.2.2.1
  have h_6 : 0 ≤ r2.toInt → NB z3 := q_1.2.2.2.2
  clear q_1
  have s_7 : (gI z3 1).toInt = (gI z_t 1).toInt := congrArg Int32.toInt (h_2 1 (by decide)).1
  try have e_9 : (0 : Int32).toInt = 0 := (show (0 : Int32).toInt = 0 by decide)
  refine tl_lX9_isWord_10 (fun i12 i13 k_8 => ?_) (by first | omega | assumption | decide) FU 0 0 (by first | omega | assumption | decide) (by intro q; exact absurd q (by decide)) (FU_lt (by omega))
  · skip
    refine ok_ite (fun c_10 => ?_) (fun c_10 => ?_)
    · skip
      have r_11 := n_rng i13
      have c_10i : i13.toInt ≤ 0 := bI_le rfl (show (0 : Int32).toInt = 0 by decide) c_10
      try have e_12 : (0 : Int32).toInt = 0 := (show (0 : Int32).toInt = 0 by decide)
      exact ok_some ⟨Or.inl rfl, (fr_tr fr_rf h_2 (by decide)), (show (gI z_t 12).toInt ≤ (gI z3 12).toInt ∧ (gI z3 12).toInt ≤ (gI z_t 1).toInt by first | omega | assumption | trivial), (show (0 : Int32).toInt = 1 → LTR z3 (gI z3 12) from fun q => absurd q (by decide)), (show NB z_t → (gI z3 12).toInt = (gI z_t 12).toInt by assumption)⟩
    · skip
      have r_13 := n_rng i13
      have c_10i : i13.toInt > 0 := bI_nle rfl (show (0 : Int32).toInt = 0 by decide) c_10
      refine ok_ite (fun c_14 => ?_) (fun c_14 => ?_)
      · skip
        have c_14i : 8 ≤ i13.toInt := bI_le (show (8 : Int32).toInt = 8 by decide) rfl c_14
        try have e_15 : (0 : Int32).toInt = 0 := (show (0 : Int32).toInt = 0 by decide)
        exact ok_some ⟨Or.inl rfl, (fr_tr fr_rf h_2 (by decide)), (show (gI z_t 12).toInt ≤ (gI z3 12).toInt ∧ (gI z3 12).toInt ≤ (gI z_t 1).toInt by first | omega | assumption | trivial), (show (0 : Int32).toInt = 1 → LTR z3 (gI z3 12) from fun q => absurd q (by decide)), (show NB z_t → (gI z3 12).toInt = (gI z_t 12).toInt by assumption)⟩
      · skip
        have c_14i : 8 > i13.toInt := bI_nle (show (8 : Int32).toInt = 8 by decide) rfl c_14
        refine ok_ite (fun c_16 => ?_) (fun c_16 => ?_)
        · skip
          have c_16i : i12.toInt = x1.toInt := lI_eq rfl rfl c_16
          try have e_17 : (1 : Int32).toInt = 1 := (show (1 : Int32).toInt = 1 by decide)
          exact ok_some ⟨Or.inr rfl, (fr_tr fr_rf h_2 (by decide)), (show (gI z_t 12).toInt ≤ (gI z3 12).toInt ∧ (gI z3 12).toInt ≤ (gI z_t 1).toInt by first | omega | assumption | trivial), (show (1 : Int32).toInt = 1 → LTR z3 (gI z3 12) by intro _; exact (show i13.toInt > 0 → LTR z3 (gI z3 12) by assumption) (by omega)), (show NB z_t → (gI z3 12).toInt = (gI z_t 12).toInt by assumption)⟩
        · skip
          have c_16i : i12.toInt ≠ x1.toInt := lI_neq rfl rfl c_16
          try have e_18 : (0 : Int32).toInt = 0 := (show (0 : Int32).toInt = 0 by decide)
          exact ok_some ⟨Or.inl rfl, (fr_tr fr_rf h_2 (by decide)), (show (gI z_t 12).toInt ≤ (gI z3 12).toInt ∧ (gI z3 12).toInt ≤ (gI z_t 1).toInt by first | omega | assumption | trivial), (show (0 : Int32).toInt = 1 → LTR z3 (gI z3 12) from fun q => absurd q (by decide)), (show NB z_t → (gI z3 12).toInt = (gI z_t 12).toInt by assumption)⟩

set_option maxHeartbeats 400000 in
set_option maxRecDepth 20000 in
theorem tl_lX9_passWord_0 {o_z_t : Sx} (p1 : 0 ≤ (gI o_z_t 12).toInt ∧ (gI o_z_t 12).toInt ≤ (gI o_z_t 1).toInt ∧ (gI o_z_t 1).toInt ≤ 400) : ∀ (n : Nat) (z_t : Sx), (FrL [12] o_z_t z_t) → ((gI o_z_t 12).toInt ≤ (gI z_t 12).toInt ∧ (gI z_t 12).toInt ≤ (gI o_z_t 1).toInt) → ((gI o_z_t 1).toInt - (gI z_t 12).toInt).toNat < n → okP (lX9_passWord_0 n z_t) (fun y => (FrL [12] o_z_t y) ∧ ((gI o_z_t 12).toInt ≤ (gI y 12).toInt ∧ (gI y 12).toInt ≤ (gI o_z_t 1).toInt) ∧ (LTR o_z_t (gI o_z_t 12) → (gI o_z_t 12).toInt < (gI y 12).toInt)) := by
  intro n
  induction n with
  | zero => intro _ _ _ hm; omega
  | succ n ih =>
    intro z_t frz_t i0 hm
    rw [lX9_passWord_0]
    have tk1 : (gI z_t 1).toInt = (gI o_z_t 1).toInt := congrArg Int32.toInt (frz_t 1 (by decide)).1
    refine ok_bd (t_fX9_isLetter (by first | omega | assumption | decide | (show 0 ≤ (gI z_t 12).toInt ∧ (gI z_t 1).toInt ≤ 400; first | omega | assumption))) (fun r2 q_1 => ?_)
    have h_2 : r2 = 0 ∨ r2 = 1 := q_1.1
    have h_2i := bool_i h_2
    have h_3 : r2.toInt = 0 ∨ (r2.toInt = 1 ∧ (gI z_t 12).toInt < (gI z_t 1).toInt) := q_1.2.1
    have h_4 : r2.toInt = 1 → LTR z_t (gI z_t 12) := q_1.2.2.1
    have h_5 : LTR z_t (gI z_t 12) → r2.toInt = 1 := q_1.2.2.2
    clear q_1
    refine ok_ite (fun c_6 => ?_) (fun c_6 => ?_)
    · skip
      have r_7 := n_rng r2
      have c_6i : r2.toInt = 0 := bI_eq rfl (show (0 : Int32).toInt = 0 by decide) c_6
      exact ok_some ⟨frz_t, (show (gI o_z_t 12).toInt ≤ (gI z_t 12).toInt ∧ (gI z_t 12).toInt ≤ (gI o_z_t 1).toInt by first | omega | assumption | trivial), (show LTR o_z_t (gI o_z_t 12) → (gI o_z_t 12).toInt < (gI z_t 12).toInt by exact ltr_pass frz_t i0.1 (show LTR z_t (gI z_t 12) → r2.toInt = 1 by assumption) (by omega))⟩
    · skip
      have r_8 := n_rng r2
      have c_6i : r2.toInt ≠ 0 := bI_neq rfl (show (0 : Int32).toInt = 0 by decide) c_6
      have u_9 : LTR z_t (gI z_t 12) := h_4 (by omega)
      have r_10 := n_rng (gI z_t 12)
      try have e_11 : ((gI z_t 12) + 1).toInt = ((gI z_t 12).toInt + 1) := (i32_add rfl (show (1 : Int32).toInt = 1 by decide) (by omega) (by omega))
      exact ih (sI z_t 12 ((gI z_t 12) + 1)) (fr_I frz_t (by decide)) (show (gI o_z_t 12).toInt ≤ ((gI z_t 12) + 1).toInt ∧ ((gI z_t 12) + 1).toInt ≤ (gI o_z_t 1).toInt by first | omega | assumption | decide) (by show ((gI o_z_t 1).toInt - ((gI z_t 12) + 1).toInt).toNat < n; omega)
set_option maxHeartbeats 400000 in
set_option maxRecDepth 20000 in
theorem t_fX9_passWord {z_t : Sx} (p1 : 0 ≤ (gI z_t 12).toInt ∧ (gI z_t 12).toInt ≤ (gI z_t 1).toInt ∧ (gI z_t 1).toInt ≤ 400) : okP (fX9_passWord z_t) (fun y => (FrL [12] z_t y) ∧ ((gI z_t 12).toInt ≤ (gI y 12).toInt ∧ (gI y 12).toInt ≤ (gI z_t 1).toInt) ∧ (LTR z_t (gI z_t 12) → (gI z_t 12).toInt < (gI y 12).toInt)) := by
  unfold fX9_passWord
  refine tl_lX9_passWord_0 (by first | omega | assumption | decide) FU z_t fr_rf (show (gI z_t 12).toInt ≤ (gI z_t 12).toInt ∧ (gI z_t 12).toInt ≤ (gI z_t 1).toInt by first | omega | assumption | decide) (FU_lt (by omega))

set_option maxHeartbeats 400000 in
set_option maxRecDepth 20000 in
theorem t_fX9_isDigit {z_t : Sx} {x1 : Int32} (p1 : 0 ≤ x1.toInt ∧ (gI z_t 1).toInt ≤ 400) : okP (fX9_isDigit z_t x1) (fun y => (y = 0 ∨ y = 1) ∧ (y.toInt = 0 ∨ (y.toInt = 1 ∧ x1.toInt < (gI z_t 1).toInt)) ∧ (y.toInt = 1 → DGT z_t x1) ∧ (DGT z_t x1 → y.toInt = 1)) := by
  unfold fX9_isDigit
  refine ok_ite (fun c_1 => ?_) (fun c_1 => ?_)
  · skip
    have r_2 := n_rng (gI z_t 1)
    have r_3 := n_rng x1
    have c_1i : (gI z_t 1).toInt ≤ x1.toInt := bI_le rfl rfl c_1
    try have e_4 : (0 : Int32).toInt = 0 := (show (0 : Int32).toInt = 0 by decide)
    exact ok_some ⟨Or.inl rfl, (show (0 : Int32).toInt = 0 ∨ ((0 : Int32).toInt = 1 ∧ x1.toInt < (gI z_t 1).toInt) by first | exact Or.inl (by decide) | exact Or.inr ⟨by decide, by omega⟩), (show (0 : Int32).toInt = 1 → DGT z_t x1 by intro q; exact absurd q (by decide)), (show DGT z_t x1 → (0 : Int32).toInt = 1 by intro q; exact absurd (by assumption) q.1)⟩
  · skip
    have r_5 := n_rng (gI z_t 1)
    have r_6 := n_rng x1
    have c_1i : (gI z_t 1).toInt > x1.toInt := bI_nle rfl rfl c_1
    refine ok_gd (inb_of (by omega) (by omega)) ?_
    have i_7 : (x1.toNatClampNeg : Int) = x1.toInt := clampI (by omega)
    refine ok_ite (fun c_8 => ?_) (fun c_8 => ?_)
    · skip
      have r_9 := n_rng (gT z_t 0 x1.toNatClampNeg)
      have c_8i : (gT z_t 0 x1.toNatClampNeg).toInt < 48 := bI_lt rfl (show (48 : Int32).toInt = 48 by decide) c_8
      try have e_10 : (0 : Int32).toInt = 0 := (show (0 : Int32).toInt = 0 by decide)
      exact ok_some ⟨Or.inl rfl, (show (0 : Int32).toInt = 0 ∨ ((0 : Int32).toInt = 1 ∧ x1.toInt < (gI z_t 1).toInt) by first | exact Or.inl (by decide) | exact Or.inr ⟨by decide, by omega⟩), (show (0 : Int32).toInt = 1 → DGT z_t x1 by intro q; exact absurd q (by decide)), (show DGT z_t x1 → (0 : Int32).toInt = 1 by intro q; exact absurd (by assumption) q.2.1)⟩
    · skip
      have r_11 := n_rng (gT z_t 0 x1.toNatClampNeg)
      have c_8i : (gT z_t 0 x1.toNatClampNeg).toInt ≥ 48 := bI_nlt rfl (show (48 : Int32).toInt = 48 by decide) c_8
      refine ok_ite (fun c_12 => ?_) (fun c_12 => ?_)
      · skip
        have c_12i : 57 < (gT z_t 0 x1.toNatClampNeg).toInt := bI_lt (show (57 : Int32).toInt = 57 by decide) rfl c_12
        try have e_13 : (0 : Int32).toInt = 0 := (show (0 : Int32).toInt = 0 by decide)
        exact ok_some ⟨Or.inl rfl, (show (0 : Int32).toInt = 0 ∨ ((0 : Int32).toInt = 1 ∧ x1.toInt < (gI z_t 1).toInt) by first | exact Or.inl (by decide) | exact Or.inr ⟨by decide, by omega⟩), (show (0 : Int32).toInt = 1 → DGT z_t x1 by intro q; exact absurd q (by decide)), (show DGT z_t x1 → (0 : Int32).toInt = 1 by intro q; exact absurd (by assumption) q.2.2)⟩
      · skip
        have c_12i : 57 ≥ (gT z_t 0 x1.toNatClampNeg).toInt := bI_nlt (show (57 : Int32).toInt = 57 by decide) rfl c_12
        try have e_14 : (1 : Int32).toInt = 1 := (show (1 : Int32).toInt = 1 by decide)
        exact ok_some ⟨Or.inr rfl, (show (1 : Int32).toInt = 0 ∨ ((1 : Int32).toInt = 1 ∧ x1.toInt < (gI z_t 1).toInt) by first | exact Or.inl (by decide) | exact Or.inr ⟨by decide, by omega⟩), (show (1 : Int32).toInt = 1 → DGT z_t x1 by intro _; exact ⟨by assumption, by assumption, by assumption⟩), (show DGT z_t x1 → (1 : Int32).toInt = 1 by intro _; decide)⟩

set_option maxHeartbeats 400000 in
set_option maxRecDepth 20000 in
theorem t_fX9_fails {z_t : Sx} {x1 : Int32} {x2 : Int32} (p1 : 0 ≤ x2.toInt ∧ x2.toInt ≤ 400 ∧ 0 ≤ x1.toInt ∧ x1.toInt ≤ 4) : okP (fX9_fails z_t x1 x2) (fun y => (y.1 = 0 ∨ y.1 = 1) ∧ (FrL [13] z_t y.2) ∧ (y.1.toInt = 0) ∧ ((gI y.2 13).toInt ≠ 0)) := by
  unfold fX9_fails
  refine ok_ite (fun c_1 => ?_) (fun c_1 => ?_)
  · skip
    have r_2 := n_rng (gI z_t 13)
    have c_1i : (gI z_t 13).toInt = 0 := bI_eq rfl (show (0 : Int32).toInt = 0 by decide) c_1
    have r_3 := n_rng x2
    have r_4 := n_rng x1
    try have e_5 : ((1 + (8 * x2)) + x1).toInt = ((1 + (8 * x2.toInt)) + x1.toInt) := (i32_add (i32_add (show (1 : Int32).toInt = 1 by decide) (i32_mul (show (8 : Int32).toInt = 8 by decide) rfl (by omega) (by omega)) (by omega) (by omega)) rfl (by omega) (by omega))
    try have e_6 : (0 : Int32).toInt = 0 := (show (0 : Int32).toInt = 0 by decide)
    exact ok_some ⟨Or.inl rfl, (fr_I fr_rf (by decide)), (show (0 : Int32).toInt = 0 by first | omega | assumption | trivial), (show ((1 + (8 * x2)) + x1).toInt ≠ 0 by first | omega | assumption | trivial)⟩
  · skip
    have r_7 := n_rng (gI z_t 13)
    have c_1i : (gI z_t 13).toInt ≠ 0 := bI_neq rfl (show (0 : Int32).toInt = 0 by decide) c_1
    try have e_8 : (0 : Int32).toInt = 0 := (show (0 : Int32).toInt = 0 by decide)
    exact ok_some ⟨Or.inl rfl, fr_rf, (show (0 : Int32).toInt = 0 by first | omega | assumption | trivial), (show (gI z_t 13).toInt ≠ 0 by first | omega | assumption | trivial)⟩

set_option maxHeartbeats 400000 in
set_option maxRecDepth 20000 in
theorem tl_lX9_numberHere_34 {o_z_t : Sx} {o_x1 : Int32} {o_x2 : Int32} {k88 : Sx → Int32 → Option (Int32 × Sx)} {x1 : Int32} {x2 : Int32} {x3 : Int32} (Hk88 : ∀ (y0 : Sx) (y1 : Int32), (FrL [12, 13, 14] o_z_t y0) → (x3.toInt < (gI y0 12).toInt ∧ (gI y0 12).toInt ≤ (gI o_z_t 1).toInt) → okP (k88 y0 y1) (fun y => (y.1 = 0 ∨ y.1 = 1) ∧ (FrL [12, 13, 14] o_z_t y.2) ∧ ((gI o_z_t 12).toInt ≤ (gI y.2 12).toInt ∧ (gI y.2 12).toInt ≤ (gI o_z_t 1).toInt) ∧ (y.1.toInt = 0 → (gI y.2 13).toInt ≠ 0) ∧ (y.1.toInt = 1 → (gI o_z_t 12).toInt < (gI y.2 12).toInt) ∧ (y.1.toInt = 1 → o_x1.toInt ≤ (gI y.2 14).toInt ∧ (gI y.2 14).toInt ≤ o_x2.toInt))) (p1 : 0 ≤ (gI o_z_t 12).toInt ∧ (gI o_z_t 12).toInt ≤ (gI o_z_t 1).toInt ∧ (gI o_z_t 1).toInt ≤ 400) (hdg : DGT o_z_t x3) (p3 : (gI o_z_t 12).toInt ≤ x3.toInt ∧ x3.toInt ≤ (gI o_z_t 1).toInt) : ∀ (n : Nat) (z_t : Sx) (x4 : Int32), (FrL [12, 13, 14] o_z_t z_t) → (x3.toInt ≤ (gI z_t 12).toInt ∧ (gI z_t 12).toInt ≤ (gI o_z_t 1).toInt) → ((gI o_z_t 1).toInt - (gI z_t 12).toInt).toNat < n → okP (lX9_numberHere_34 k88 x1 x2 x3 n z_t x4) (fun y => (y.1 = 0 ∨ y.1 = 1) ∧ (FrL [12, 13, 14] o_z_t y.2) ∧ ((gI o_z_t 12).toInt ≤ (gI y.2 12).toInt ∧ (gI y.2 12).toInt ≤ (gI o_z_t 1).toInt) ∧ (y.1.toInt = 0 → (gI y.2 13).toInt ≠ 0) ∧ (y.1.toInt = 1 → (gI o_z_t 12).toInt < (gI y.2 12).toInt) ∧ (y.1.toInt = 1 → o_x1.toInt ≤ (gI y.2 14).toInt ∧ (gI y.2 14).toInt ≤ o_x2.toInt)) := by
  intro n
  induction n with
  | zero => intro _ _ _ _ hm; omega
  | succ n ih =>
    intro z_t x4 frz_t i0 hm
    rw [lX9_numberHere_34]
    have tk1 : (gI z_t 1).toInt = (gI o_z_t 1).toInt := congrArg Int32.toInt (frz_t 1 (by decide)).1
    refine ok_bd (t_fX9_isDigit (by first | omega | assumption | decide | (show 0 ≤ (gI z_t 12).toInt ∧ (gI z_t 1).toInt ≤ 400; first | omega | assumption))) (fun r8 q_1 => ?_)
    have h_2 : r8 = 0 ∨ r8 = 1 := q_1.1
    have h_2i := bool_i h_2
    have h_3 : r8.toInt = 0 ∨ (r8.toInt = 1 ∧ (gI z_t 12).toInt < (gI z_t 1).toInt) := q_1.2.1
    have h_4 : r8.toInt = 1 → DGT z_t (gI z_t 12) := q_1.2.2.1
    have h_5 : DGT z_t (gI z_t 12) → r8.toInt = 1 := q_1.2.2.2
    clear q_1
    refine ok_ite (fun c_6 => ?_) (fun c_6 => ?_)
    · skip
      have r_7 := n_rng r8
      have c_6i : r8.toInt = 0 := bI_eq rfl (show (0 : Int32).toInt = 0 by decide) c_6
      exact Hk88 z_t x4 frz_t (by have := dgt_pass frz_t i0.1 hdg (show DGT z_t (gI z_t 12) → r8.toInt = 1 by assumption) (by omega); omega)
    · skip
      have r_8 := n_rng r8
      have c_6i : r8.toInt ≠ 0 := bI_neq rfl (show (0 : Int32).toInt = 0 by decide) c_6
      have u_9 : DGT z_t (gI z_t 12) := h_4 (by omega)
      refine ok_jn ?_
      refine ok_ite (fun c_10 => ?_) (fun c_10 => ?_)
      · skip
        have r_11 := n_rng (gI z_t 12)
        have r_12 := n_rng x3
        try have c_10i : 5 ≤ ((gI z_t 12).toInt - x3.toInt) := bI_le (show (5 : Int32).toInt = 5 by decide) (i32_sub rfl rfl (by omega) (by omega)) c_10
        try have e_13 : ((gI z_t 12) + 1).toInt = ((gI z_t 12).toInt + 1) := (i32_add rfl (show (1 : Int32).toInt = 1 by decide) (by omega) (by omega))
        exact ih (sI z_t 12 ((gI z_t 12) + 1)) x4 (fr_I frz_t (by decide)) (show x3.toInt ≤ ((gI z_t 12) + 1).toInt ∧ ((gI z_t 12) + 1).toInt ≤ (gI o_z_t 1).toInt by first | omega | assumption | decide) (by show ((gI o_z_t 1).toInt - ((gI z_t 12) + 1).toInt).toNat < n; omega)
      · skip
        have r_14 := n_rng (gI z_t 12)
        have r_15 := n_rng x3
        try have c_10i : 5 > ((gI z_t 12).toInt - x3.toInt) := bI_nle (show (5 : Int32).toInt = 5 by decide) (i32_sub rfl rfl (by omega) (by omega)) c_10
        refine ok_gd (inb_of (by omega) (by omega)) ?_
        have i_16 : ((gI z_t 12).toNatClampNeg : Int) = (gI z_t 12).toInt := clampI (by omega)
        have r_17 := n_rng x4
        have r_18 := n_rng (gT z_t 0 (gI z_t 12).toNatClampNeg)
        try have e_19 : (((10 * x4) + (gT z_t 0 (gI z_t 12).toNatClampNeg)) - 48).toInt = (((10 * x4.toInt) + (gT z_t 0 (gI z_t 12).toNatClampNeg).toInt) - 48) := (i32_sub (i32_add (i32_mul (show (10 : Int32).toInt = 10 by decide) rfl (by omega) (by omega)) rfl (by omega) (by omega)) (show (48 : Int32).toInt = 48 by decide) (by omega) (by omega))
        try have e_20 : ((gI z_t 12) + 1).toInt = ((gI z_t 12).toInt + 1) := (i32_add rfl (show (1 : Int32).toInt = 1 by decide) (by omega) (by omega))
        exact ih (sI z_t 12 ((gI z_t 12) + 1)) (((10 * x4) + (gT z_t 0 (gI z_t 12).toNatClampNeg)) - 48) (fr_I frz_t (by decide)) (show x3.toInt ≤ ((gI z_t 12) + 1).toInt ∧ ((gI z_t 12) + 1).toInt ≤ (gI o_z_t 1).toInt by first | omega | assumption | decide) (by show ((gI o_z_t 1).toInt - ((gI z_t 12) + 1).toInt).toNat < n; omega)
set_option maxHeartbeats 400000 in
set_option maxRecDepth 20000 in
theorem t_fX9_numberHere {z_t : Sx} {x1 : Int32} {x2 : Int32} (p1 : 0 ≤ (gI z_t 12).toInt ∧ (gI z_t 12).toInt ≤ (gI z_t 1).toInt ∧ (gI z_t 1).toInt ≤ 400) : okP (fX9_numberHere z_t x1 x2) (fun y => (y.1 = 0 ∨ y.1 = 1) ∧ (FrL [12, 13, 14] z_t y.2) ∧ ((gI z_t 12).toInt ≤ (gI y.2 12).toInt ∧ (gI y.2 12).toInt ≤ (gI z_t 1).toInt) ∧ (y.1.toInt = 0 → (gI y.2 13).toInt ≠ 0) ∧ (y.1.toInt = 1 → (gI z_t 12).toInt < (gI y.2 12).toInt) ∧ (y.1.toInt = 1 → x1.toInt ≤ (gI y.2 14).toInt ∧ (gI y.2 14).toInt ≤ x2.toInt)) := by
  unfold fX9_numberHere
  refine ok_bd2 (t_fX9_see (by first | omega | assumption | decide | (show 0 ≤ (gI z_t 12).toInt ∧ (gI z_t 12).toInt ≤ (gI z_t 1).toInt ∧ (gI z_t 1).toInt ≤ 400; first | omega | assumption))) (fun r2 z3 q_1 => ?_)
  have h_2 : FrL [12] z_t z3 := q_1.1
  have h_3 : (gI z_t 12).toInt ≤ (gI z3 12).toInt ∧ (gI z3 12).toInt ≤ (gI z_t 1).toInt := q_1.2.1
  have h_4 : r2.toInt = -1 ∨ (0 ≤ r2.toInt ∧ (gI z3 12).toInt < (gI z_t 1).toInt) := q_1.2.2.1
  have h_5 : NB z_t → (gI z3 12).toInt = (gI z_t 12).toInt := q_1.2.2.2.1
  have h_6 : 0 ≤ r2.toInt → NB z3 := q_1.2.2.2.2
  clear q_1
  have s_7 : (gI z3 1).toInt = (gI z_t 1).toInt := congrArg Int32.toInt (h_2 1 (by decide)).1
  have s_8 : (gI z3 13).toInt = (gI z_t 13).toInt := congrArg Int32.toInt (h_2 13 (by decide)).1
  refine ok_bd (t_fX9_isDigit (by first | omega | assumption | decide | (show 0 ≤ (gI z3 12).toInt ∧ (gI z3 1).toInt ≤ 400; first | omega | assumption))) (fun r5 q_9 => ?_)
  have h_10 : r5 = 0 ∨ r5 = 1 := q_9.1
  have h_10i := bool_i h_10
  have h_11 : r5.toInt = 0 ∨ (r5.toInt = 1 ∧ (gI z3 12).toInt < (gI z3 1).toInt) := q_9.2.1
  have h_12 : r5.toInt = 1 → DGT z3 (gI z3 12) := q_9.2.2.1
  have h_13 : DGT z3 (gI z3 12) → r5.toInt = 1 := q_9.2.2.2
  clear q_9
  refine ok_ite (fun c_14 => ?_) (fun c_14 => ?_)
  · skip
    have r_15 := n_rng r5
    have c_14i : r5.toInt = 0 := bI_eq rfl (show (0 : Int32).toInt = 0 by decide) c_14
    have e_17 : (0 : Int32).toInt = 0 := (show (0 : Int32).toInt = 0 by decide)
    refine ok_bd2 (t_fX9_fails (by first | omega | assumption | decide | (show 0 ≤ (gI z3 12).toInt ∧ (gI z3 12).toInt ≤ 400 ∧ 0 ≤ (0 : Int32).toInt ∧ (0 : Int32).toInt ≤ 4; first | omega | assumption))) (fun r28 z29 q_16 => ?_)
    have h_18 : r28 = 0 ∨ r28 = 1 := q_16.1
    have h_18i := bool_i h_18
    have h_19 : FrL [13] z3 z29 := q_16.2.1
    have h_20 : r28.toInt = 0 := q_16.2.2.1
    have h_21 : (gI z29 13).toInt ≠ 0 := q_16.2.2.2
    clear q_16
    have s_22 : (gI z29 1).toInt = (gI z3 1).toInt := congrArg Int32.toInt (h_19 1 (by decide)).1
    have s_23 : (gI z29 12).toInt = (gI z3 12).toInt := congrArg Int32.toInt (h_19 12 (by decide)).1
    refine ok_gd h_18 ?_
    exact ok_some ⟨h_18, (fr_tr (fr_tr fr_rf h_2 (by decide)) h_19 (by decide)), (show (gI z_t 12).toInt ≤ (gI z29 12).toInt ∧ (gI z29 12).toInt ≤ (gI z_t 1).toInt by first | omega | assumption | trivial), (show r28.toInt = 0 → (gI z29 13).toInt ≠ 0 by first | omega | assumption | trivial), (show r28.toInt = 1 → (gI z_t 12).toInt < (gI z29 12).toInt by first | omega | assumption | trivial), (show r28.toInt = 1 → x1.toInt ≤ (gI z29 14).toInt ∧ (gI z29 14).toInt ≤ x2.toInt by first | omega | assumption | trivial)⟩
  · skip
    have r_24 := n_rng r5
    have c_14i : r5.toInt ≠ 0 := bI_neq rfl (show (0 : Int32).toInt = 0 by decide) c_14
    have u_25 : DGT z3 (gI z3 12) := h_12 (by omega)
    try have e_28 : (0 : Int32).toInt = 0 := (show (0 : Int32).toInt = 0 by decide)
    refine tl_lX9_numberHere_34 (fun z14 i15 k_26 k_27 => ?_) (by first | omega | assumption | decide) (by exact dgt_fr (z := z3) (L := [12]) (fun j hj => ⟨((show FrL [12] z_t z3 by assumption) j hj).1.symm, ((show FrL [12] z_t z3 by assumption) j hj).2.1.symm, ((show FrL [12] z_t z3 by assumption) j hj).2.2.symm⟩) (by decide) (by decide) ((show r5.toInt = 1 → DGT z3 (gI z3 12) by assumption) (by omega))) (by first | omega | assumption | decide) FU z3 0 (fr_tr fr_rf h_2 (by decide)) (show (gI z3 12).toInt ≤ (gI z3 12).toInt ∧ (gI z3 12).toInt ≤ (gI z_t 1).toInt by first | omega | assumption | decide) (FU_lt (by omega))
    · skip
      have k_26_1 : (gI z14 1).toInt = (gI z_t 1).toInt := congrArg Int32.toInt (k_26 1 (by decide)).1
      refine ok_jn ?_
      refine ok_jn ?_
      refine ok_ite (fun c_29 => ?_) (fun c_29 => ?_)
      · skip
        have r_30 := n_rng (gI z14 12)
        have r_31 := n_rng (gI z3 12)
        try have c_29i : 5 < ((gI z14 12).toInt - (gI z3 12).toInt) := bI_lt (show (5 : Int32).toInt = 5 by decide) (i32_sub rfl rfl (by omega) (by omega)) c_29
        have e_33 : (1 : Int32).toInt = 1 := (show (1 : Int32).toInt = 1 by decide)
        refine ok_bd2 (t_fX9_fails (by first | omega | assumption | decide | (show 0 ≤ (gI z3 12).toInt ∧ (gI z3 12).toInt ≤ 400 ∧ 0 ≤ (1 : Int32).toInt ∧ (1 : Int32).toInt ≤ 4; first | omega | assumption))) (fun r20 z21 q_32 => ?_)
        have h_34 : r20 = 0 ∨ r20 = 1 := q_32.1
        have h_34i := bool_i h_34
        have h_35 : FrL [13] (sI z14 14 i15) z21 := q_32.2.1
        have h_36 : r20.toInt = 0 := q_32.2.2.1
        have h_37 : (gI z21 13).toInt ≠ 0 := q_32.2.2.2
        clear q_32
        have s_38 : (gI z21 1).toInt = (gI z14 1).toInt := congrArg Int32.toInt (h_35 1 (by decide)).1
        have s_39 : (gI z21 12).toInt = (gI z14 12).toInt := congrArg Int32.toInt (h_35 12 (by decide)).1
        refine ok_ite (fun c_40 => ?_) (fun c_40 => ?_)
        · skip
          have r_41 := n_rng r20
          have c_40i : r20.toInt = 0 := bI_eq rfl (show (0 : Int32).toInt = 0 by decide) c_40
          try have e_42 : (0 : Int32).toInt = 0 := (show (0 : Int32).toInt = 0 by decide)
          exact ok_some ⟨Or.inl rfl, (fr_tr (fr_I k_26 (by decide)) h_35 (by decide)), (show (gI z_t 12).toInt ≤ (gI z21 12).toInt ∧ (gI z21 12).toInt ≤ (gI z_t 1).toInt by first | omega | assumption | trivial), (show (0 : Int32).toInt = 0 → (gI z21 13).toInt ≠ 0 from fun _ => by first | omega | assumption), (show (0 : Int32).toInt = 1 → (gI z_t 12).toInt < (gI z21 12).toInt from fun q => absurd q (by decide)), (show (0 : Int32).toInt = 1 → x1.toInt ≤ (gI z21 14).toInt ∧ (gI z21 14).toInt ≤ x2.toInt from fun q => absurd q (by decide))⟩
        · skip
          have r_43 := n_rng r20
          have c_40i : r20.toInt ≠ 0 := bI_neq rfl (show (0 : Int32).toInt = 0 by decide) c_40
          exact ok_some ⟨Or.inr rfl, (fr_tr (fr_I k_26 (by decide)) h_35 (by decide)), (show (gI z_t 12).toInt ≤ (gI z21 12).toInt ∧ (gI z21 12).toInt ≤ (gI z_t 1).toInt by first | omega | assumption | trivial), (show (1 : Int32).toInt = 0 → (gI z21 13).toInt ≠ 0 from fun q => absurd q (by decide)), (show (1 : Int32).toInt = 1 → (gI z_t 12).toInt < (gI z21 12).toInt from fun _ => by first | omega | assumption), (show (1 : Int32).toInt = 1 → x1.toInt ≤ (gI z21 14).toInt ∧ (gI z21 14).toInt ≤ x2.toInt from fun _ => by first | omega | assumption)⟩
      · skip
        have r_44 := n_rng (gI z14 12)
        have r_45 := n_rng (gI z3 12)
        try have c_29i : 5 ≥ ((gI z14 12).toInt - (gI z3 12).toInt) := bI_nlt (show (5 : Int32).toInt = 5 by decide) (i32_sub rfl rfl (by omega) (by omega)) c_29
        have r_47 := n_rng i15
        have e_48 : i15.toInt64.toInt = i15.toInt := (l64_of rfl)
        have r_49 := n_rng x1
        have e_50 : x1.toInt64.toInt = x1.toInt := (l64_of rfl)
        have r_51 := n_rng x2
        have e_52 : x2.toInt64.toInt = x2.toInt := (l64_of rfl)
        refine ok_bd (t_fX9_in) (fun r25 q_46 => ?_)
        have h_53 : r25 = 0 ∨ r25 = 1 := q_46.1
        have h_53i := bool_i h_53
        have h_54 : (r25.toInt = 1 ∧ x1.toInt64.toInt ≤ i15.toInt64.toInt ∧ i15.toInt64.toInt ≤ x2.toInt64.toInt) ∨ (r25.toInt = 0 ∧ (i15.toInt64.toInt < x1.toInt64.toInt ∨ x2.toInt64.toInt < i15.toInt64.toInt)) := q_46.2
        clear q_46
        refine ok_ite (fun c_55 => ?_) (fun c_55 => ?_)
        · skip
          have r_56 := n_rng r25
          have c_55i : r25.toInt = 0 := bI_eq rfl (show (0 : Int32).toInt = 0 by decide) c_55
          have e_58 : (1 : Int32).toInt = 1 := (show (1 : Int32).toInt = 1 by decide)
          refine ok_bd2 (t_fX9_fails (by first | omega | assumption | decide | (show 0 ≤ (gI z3 12).toInt ∧ (gI z3 12).toInt ≤ 400 ∧ 0 ≤ (1 : Int32).toInt ∧ (1 : Int32).toInt ≤ 4; first | omega | assumption))) (fun r20 z21 q_57 => ?_)
          have h_59 : r20 = 0 ∨ r20 = 1 := q_57.1
          have h_59i := bool_i h_59
          have h_60 : FrL [13] (sI z14 14 i15) z21 := q_57.2.1
          have h_61 : r20.toInt = 0 := q_57.2.2.1
          have h_62 : (gI z21 13).toInt ≠ 0 := q_57.2.2.2
          clear q_57
          have s_63 : (gI z21 1).toInt = (gI z14 1).toInt := congrArg Int32.toInt (h_60 1 (by decide)).1
          have s_64 : (gI z21 12).toInt = (gI z14 12).toInt := congrArg Int32.toInt (h_60 12 (by decide)).1
          refine ok_ite (fun c_65 => ?_) (fun c_65 => ?_)
          · skip
            have r_66 := n_rng r20
            have c_65i : r20.toInt = 0 := bI_eq rfl (show (0 : Int32).toInt = 0 by decide) c_65
            try have e_67 : (0 : Int32).toInt = 0 := (show (0 : Int32).toInt = 0 by decide)
            exact ok_some ⟨Or.inl rfl, (fr_tr (fr_I k_26 (by decide)) h_60 (by decide)), (show (gI z_t 12).toInt ≤ (gI z21 12).toInt ∧ (gI z21 12).toInt ≤ (gI z_t 1).toInt by first | omega | assumption | trivial), (show (0 : Int32).toInt = 0 → (gI z21 13).toInt ≠ 0 from fun _ => by first | omega | assumption), (show (0 : Int32).toInt = 1 → (gI z_t 12).toInt < (gI z21 12).toInt from fun q => absurd q (by decide)), (show (0 : Int32).toInt = 1 → x1.toInt ≤ (gI z21 14).toInt ∧ (gI z21 14).toInt ≤ x2.toInt from fun q => absurd q (by decide))⟩
          · skip
            have r_68 := n_rng r20
            have c_65i : r20.toInt ≠ 0 := bI_neq rfl (show (0 : Int32).toInt = 0 by decide) c_65
            exact ok_some ⟨Or.inr rfl, (fr_tr (fr_I k_26 (by decide)) h_60 (by decide)), (show (gI z_t 12).toInt ≤ (gI z21 12).toInt ∧ (gI z21 12).toInt ≤ (gI z_t 1).toInt by first | omega | assumption | trivial), (show (1 : Int32).toInt = 0 → (gI z21 13).toInt ≠ 0 from fun q => absurd q (by decide)), (show (1 : Int32).toInt = 1 → (gI z_t 12).toInt < (gI z21 12).toInt from fun _ => by first | omega | assumption), (show (1 : Int32).toInt = 1 → x1.toInt ≤ (gI z21 14).toInt ∧ (gI z21 14).toInt ≤ x2.toInt from fun _ => by first | omega | assumption)⟩
        · skip
          have r_69 := n_rng r25
          have c_55i : r25.toInt ≠ 0 := bI_neq rfl (show (0 : Int32).toInt = 0 by decide) c_55
          try have e_70 : (1 : Int32).toInt = 1 := (show (1 : Int32).toInt = 1 by decide)
          exact ok_some ⟨Or.inr rfl, (fr_I k_26 (by decide)), (show (gI z_t 12).toInt ≤ (gI z14 12).toInt ∧ (gI z14 12).toInt ≤ (gI z_t 1).toInt by first | omega | assumption | trivial), (show (1 : Int32).toInt = 0 → (gI z14 13).toInt ≠ 0 from fun q => absurd q (by decide)), (show (1 : Int32).toInt = 1 → (gI z_t 12).toInt < (gI z14 12).toInt from fun _ => by first | omega | assumption), (show (1 : Int32).toInt = 1 → x1.toInt ≤ (i15).toInt ∧ (i15).toInt ≤ x2.toInt from fun _ => by first | omega | assumption)⟩

set_option maxHeartbeats 400000 in
set_option maxRecDepth 20000 in
theorem t_fX9_takesWord {z_t : Sx} {x1 : Int64} (p1 : 0 ≤ (gI z_t 12).toInt ∧ (gI z_t 12).toInt ≤ (gI z_t 1).toInt ∧ (gI z_t 1).toInt ≤ 400) : okP (fX9_takesWord z_t x1) (fun y => (y.1 = 0 ∨ y.1 = 1) ∧ (FrL [12] z_t y.2) ∧ ((gI z_t 12).toInt ≤ (gI y.2 12).toInt ∧ (gI y.2 12).toInt ≤ (gI z_t 1).toInt)) := by
  unfold fX9_takesWord
  refine ok_bd2 (t_fX9_isWord (by first | omega | assumption | decide | (show 0 ≤ (gI z_t 12).toInt ∧ (gI z_t 12).toInt ≤ (gI z_t 1).toInt ∧ (gI z_t 1).toInt ≤ 400; first | omega | assumption))) (fun r2 z3 q_1 => ?_)
  have h_2 : r2 = 0 ∨ r2 = 1 := q_1.1
  have h_2i := bool_i h_2
  have h_3 : FrL [12] z_t z3 := q_1.2.1
  have h_4 : (gI z_t 12).toInt ≤ (gI z3 12).toInt ∧ (gI z3 12).toInt ≤ (gI z_t 1).toInt := q_1.2.2.1
  have h_5 : r2.toInt = 1 → LTR z3 (gI z3 12) := q_1.2.2.2.1
  have h_6 : NB z_t → (gI z3 12).toInt = (gI z_t 12).toInt := q_1.2.2.2.2
  clear q_1
  have s_7 : (gI z3 1).toInt = (gI z_t 1).toInt := congrArg Int32.toInt (h_3 1 (by decide)).1
  have s_8 : (gI z3 13).toInt = (gI z_t 13).toInt := congrArg Int32.toInt (h_3 13 (by decide)).1
  refine ok_ite (fun c_9 => ?_) (fun c_9 => ?_)
  · skip
    have r_10 := n_rng r2
    have c_9i : r2.toInt = 0 := bI_eq rfl (show (0 : Int32).toInt = 0 by decide) c_9
    exact ok_some ⟨Or.inl rfl, (fr_tr fr_rf h_3 (by decide)), (show (gI z_t 12).toInt ≤ (gI z3 12).toInt ∧ (gI z3 12).toInt ≤ (gI z_t 1).toInt by first | omega | assumption | trivial)⟩
  · skip
    have r_11 := n_rng r2
    have c_9i : r2.toInt ≠ 0 := bI_neq rfl (show (0 : Int32).toInt = 0 by decide) c_9
    have u_12 : LTR z3 (gI z3 12) := h_5 (by omega)
    refine ok_bd (t_fX9_passWord (by first | omega | assumption | decide | (show 0 ≤ (gI z3 12).toInt ∧ (gI z3 12).toInt ≤ (gI z3 1).toInt ∧ (gI z3 1).toInt ≤ 400; first | omega | assumption))) (fun z6 q_13 => ?_)
    have h_14 : FrL [12] z3 z6 := q_13.1
    have h_15 : (gI z3 12).toInt ≤ (gI z6 12).toInt ∧ (gI z6 12).toInt ≤ (gI z3 1).toInt := q_13.2.1
    have h_16 : LTR z3 (gI z3 12) → (gI z3 12).toInt < (gI z6 12).toInt := q_13.2.2
    clear q_13
    have s_17 : (gI z6 1).toInt = (gI z3 1).toInt := congrArg Int32.toInt (h_14 1 (by decide)).1
    have s_18 : (gI z6 13).toInt = (gI z3 13).toInt := congrArg Int32.toInt (h_14 13 (by decide)).1
    exact ok_some ⟨Or.inr rfl, (fr_tr (fr_tr fr_rf h_3 (by decide)) h_14 (by decide)), (show (gI z_t 12).toInt ≤ (gI z6 12).toInt ∧ (gI z6 12).toInt ≤ (gI z_t 1).toInt by first | omega | assumption | trivial)⟩

set_option maxHeartbeats 400000 in
set_option maxRecDepth 20000 in
theorem t_fX9_wordHere {z_t : Sx} (p1 : 0 ≤ (gI z_t 12).toInt ∧ (gI z_t 12).toInt ≤ (gI z_t 1).toInt ∧ (gI z_t 1).toInt ≤ 400) : okP (fX9_wordHere z_t) (fun y => (FrL [12] z_t y.2) ∧ ((gI z_t 12).toInt ≤ (gI y.2 12).toInt ∧ (gI y.2 12).toInt ≤ (gI z_t 1).toInt) ∧ (-1 ≤ y.1.toInt ∧ y.1.toInt ≤ 8) ∧ (0 ≤ y.1.toInt → LTR y.2 (gI y.2 12))) := by
  unfold fX9_wordHere
  refine ok_bd2 (t_fX9_isWord (by first | omega | assumption | decide | (show 0 ≤ (gI z_t 12).toInt ∧ (gI z_t 12).toInt ≤ (gI z_t 1).toInt ∧ (gI z_t 1).toInt ≤ 400; first | omega | assumption))) (fun r2 z3 q_1 => ?_)
  have h_2 : r2 = 0 ∨ r2 = 1 := q_1.1
  have h_2i := bool_i h_2
  have h_3 : FrL [12] z_t z3 := q_1.2.1
  have h_4 : (gI z_t 12).toInt ≤ (gI z3 12).toInt ∧ (gI z3 12).toInt ≤ (gI z_t 1).toInt := q_1.2.2.1
  have h_5 : r2.toInt = 1 → LTR z3 (gI z3 12) := q_1.2.2.2.1
  have h_6 : NB z_t → (gI z3 12).toInt = (gI z_t 12).toInt := q_1.2.2.2.2
  clear q_1
  have s_7 : (gI z3 1).toInt = (gI z_t 1).toInt := congrArg Int32.toInt (h_3 1 (by decide)).1
  have s_8 : (gI z3 13).toInt = (gI z_t 13).toInt := congrArg Int32.toInt (h_3 13 (by decide)).1
  refine ok_ite (fun c_9 => ?_) (fun c_9 => ?_)
  · skip
    have r_10 := n_rng r2
    have c_9i : r2.toInt = 0 := bI_eq rfl (show (0 : Int32).toInt = 0 by decide) c_9
    refine ok_bd2 (t_fX9_isWord (by first | omega | assumption | decide | (show 0 ≤ (gI z3 12).toInt ∧ (gI z3 12).toInt ≤ (gI z3 1).toInt ∧ (gI z3 1).toInt ≤ 400; first | omega | assumption))) (fun r6 z7 q_11 => ?_)
    have h_12 : r6 = 0 ∨ r6 = 1 := q_11.1
    have h_12i := bool_i h_12
    have h_13 : FrL [12] z3 z7 := q_11.2.1
    have h_14 : (gI z3 12).toInt ≤ (gI z7 12).toInt ∧ (gI z7 12).toInt ≤ (gI z3 1).toInt := q_11.2.2.1
    have h_15 : r6.toInt = 1 → LTR z7 (gI z7 12) := q_11.2.2.2.1
    have h_16 : NB z3 → (gI z7 12).toInt = (gI z3 12).toInt := q_11.2.2.2.2
    clear q_11
    have s_17 : (gI z7 1).toInt = (gI z3 1).toInt := congrArg Int32.toInt (h_13 1 (by decide)).1
    have s_18 : (gI z7 13).toInt = (gI z3 13).toInt := congrArg Int32.toInt (h_13 13 (by decide)).1
    refine ok_ite (fun c_19 => ?_) (fun c_19 => ?_)
    · skip
      have r_20 := n_rng r6
      have c_19i : r6.toInt = 0 := bI_eq rfl (show (0 : Int32).toInt = 0 by decide) c_19
      refine ok_bd2 (t_fX9_isWord (by first | omega | assumption | decide | (show 0 ≤ (gI z7 12).toInt ∧ (gI z7 12).toInt ≤ (gI z7 1).toInt ∧ (gI z7 1).toInt ≤ 400; first | omega | assumption))) (fun r10 z11 q_21 => ?_)
      have h_22 : r10 = 0 ∨ r10 = 1 := q_21.1
      have h_22i := bool_i h_22
      have h_23 : FrL [12] z7 z11 := q_21.2.1
      have h_24 : (gI z7 12).toInt ≤ (gI z11 12).toInt ∧ (gI z11 12).toInt ≤ (gI z7 1).toInt := q_21.2.2.1
      have h_25 : r10.toInt = 1 → LTR z11 (gI z11 12) := q_21.2.2.2.1
      have h_26 : NB z7 → (gI z11 12).toInt = (gI z7 12).toInt := q_21.2.2.2.2
      clear q_21
      have s_27 : (gI z11 1).toInt = (gI z7 1).toInt := congrArg Int32.toInt (h_23 1 (by decide)).1
      have s_28 : (gI z11 13).toInt = (gI z7 13).toInt := congrArg Int32.toInt (h_23 13 (by decide)).1
      refine ok_ite (fun c_29 => ?_) (fun c_29 => ?_)
      · skip
        have r_30 := n_rng r10
        have c_29i : r10.toInt = 0 := bI_eq rfl (show (0 : Int32).toInt = 0 by decide) c_29
        refine ok_bd2 (t_fX9_isWord (by first | omega | assumption | decide | (show 0 ≤ (gI z11 12).toInt ∧ (gI z11 12).toInt ≤ (gI z11 1).toInt ∧ (gI z11 1).toInt ≤ 400; first | omega | assumption))) (fun r14 z15 q_31 => ?_)
        have h_32 : r14 = 0 ∨ r14 = 1 := q_31.1
        have h_32i := bool_i h_32
        have h_33 : FrL [12] z11 z15 := q_31.2.1
        have h_34 : (gI z11 12).toInt ≤ (gI z15 12).toInt ∧ (gI z15 12).toInt ≤ (gI z11 1).toInt := q_31.2.2.1
        have h_35 : r14.toInt = 1 → LTR z15 (gI z15 12) := q_31.2.2.2.1
        have h_36 : NB z11 → (gI z15 12).toInt = (gI z11 12).toInt := q_31.2.2.2.2
        clear q_31
        have s_37 : (gI z15 1).toInt = (gI z11 1).toInt := congrArg Int32.toInt (h_33 1 (by decide)).1
        have s_38 : (gI z15 13).toInt = (gI z11 13).toInt := congrArg Int32.toInt (h_33 13 (by decide)).1
        refine ok_ite (fun c_39 => ?_) (fun c_39 => ?_)
        · skip
          have r_40 := n_rng r14
          have c_39i : r14.toInt = 0 := bI_eq rfl (show (0 : Int32).toInt = 0 by decide) c_39
          refine ok_bd2 (t_fX9_isWord (by first | omega | assumption | decide | (show 0 ≤ (gI z15 12).toInt ∧ (gI z15 12).toInt ≤ (gI z15 1).toInt ∧ (gI z15 1).toInt ≤ 400; first | omega | assumption))) (fun r18 z19 q_41 => ?_)
          have h_42 : r18 = 0 ∨ r18 = 1 := q_41.1
          have h_42i := bool_i h_42
          have h_43 : FrL [12] z15 z19 := q_41.2.1
          have h_44 : (gI z15 12).toInt ≤ (gI z19 12).toInt ∧ (gI z19 12).toInt ≤ (gI z15 1).toInt := q_41.2.2.1
          have h_45 : r18.toInt = 1 → LTR z19 (gI z19 12) := q_41.2.2.2.1
          have h_46 : NB z15 → (gI z19 12).toInt = (gI z15 12).toInt := q_41.2.2.2.2
          clear q_41
          have s_47 : (gI z19 1).toInt = (gI z15 1).toInt := congrArg Int32.toInt (h_43 1 (by decide)).1
          have s_48 : (gI z19 13).toInt = (gI z15 13).toInt := congrArg Int32.toInt (h_43 13 (by decide)).1
          refine ok_ite (fun c_49 => ?_) (fun c_49 => ?_)
          · skip
            have r_50 := n_rng r18
            have c_49i : r18.toInt = 0 := bI_eq rfl (show (0 : Int32).toInt = 0 by decide) c_49
            refine ok_bd2 (t_fX9_isWord (by first | omega | assumption | decide | (show 0 ≤ (gI z19 12).toInt ∧ (gI z19 12).toInt ≤ (gI z19 1).toInt ∧ (gI z19 1).toInt ≤ 400; first | omega | assumption))) (fun r22 z23 q_51 => ?_)
            have h_52 : r22 = 0 ∨ r22 = 1 := q_51.1
            have h_52i := bool_i h_52
            have h_53 : FrL [12] z19 z23 := q_51.2.1
            have h_54 : (gI z19 12).toInt ≤ (gI z23 12).toInt ∧ (gI z23 12).toInt ≤ (gI z19 1).toInt := q_51.2.2.1
            have h_55 : r22.toInt = 1 → LTR z23 (gI z23 12) := q_51.2.2.2.1
            have h_56 : NB z19 → (gI z23 12).toInt = (gI z19 12).toInt := q_51.2.2.2.2
            clear q_51
            have s_57 : (gI z23 1).toInt = (gI z19 1).toInt := congrArg Int32.toInt (h_53 1 (by decide)).1
            have s_58 : (gI z23 13).toInt = (gI z19 13).toInt := congrArg Int32.toInt (h_53 13 (by decide)).1
            refine ok_ite (fun c_59 => ?_) (fun c_59 => ?_)
            · skip
              have r_60 := n_rng r22
              have c_59i : r22.toInt = 0 := bI_eq rfl (show (0 : Int32).toInt = 0 by decide) c_59
              refine ok_bd2 (t_fX9_isWord (by first | omega | assumption | decide | (show 0 ≤ (gI z23 12).toInt ∧ (gI z23 12).toInt ≤ (gI z23 1).toInt ∧ (gI z23 1).toInt ≤ 400; first | omega | assumption))) (fun r26 z27 q_61 => ?_)
              have h_62 : r26 = 0 ∨ r26 = 1 := q_61.1
              have h_62i := bool_i h_62
              have h_63 : FrL [12] z23 z27 := q_61.2.1
              have h_64 : (gI z23 12).toInt ≤ (gI z27 12).toInt ∧ (gI z27 12).toInt ≤ (gI z23 1).toInt := q_61.2.2.1
              have h_65 : r26.toInt = 1 → LTR z27 (gI z27 12) := q_61.2.2.2.1
              have h_66 : NB z23 → (gI z27 12).toInt = (gI z23 12).toInt := q_61.2.2.2.2
              clear q_61
              have s_67 : (gI z27 1).toInt = (gI z23 1).toInt := congrArg Int32.toInt (h_63 1 (by decide)).1
              have s_68 : (gI z27 13).toInt = (gI z23 13).toInt := congrArg Int32.toInt (h_63 13 (by decide)).1
              refine ok_ite (fun c_69 => ?_) (fun c_69 => ?_)
              · skip
                have r_70 := n_rng r26
                have c_69i : r26.toInt = 0 := bI_eq rfl (show (0 : Int32).toInt = 0 by decide) c_69
                refine ok_bd2 (t_fX9_isWord (by first | omega | assumption | decide | (show 0 ≤ (gI z27 12).toInt ∧ (gI z27 12).toInt ≤ (gI z27 1).toInt ∧ (gI z27 1).toInt ≤ 400; first | omega | assumption))) (fun r30 z31 q_71 => ?_)
                have h_72 : r30 = 0 ∨ r30 = 1 := q_71.1
                have h_72i := bool_i h_72
                have h_73 : FrL [12] z27 z31 := q_71.2.1
                have h_74 : (gI z27 12).toInt ≤ (gI z31 12).toInt ∧ (gI z31 12).toInt ≤ (gI z27 1).toInt := q_71.2.2.1
                have h_75 : r30.toInt = 1 → LTR z31 (gI z31 12) := q_71.2.2.2.1
                have h_76 : NB z27 → (gI z31 12).toInt = (gI z27 12).toInt := q_71.2.2.2.2
                clear q_71
                have s_77 : (gI z31 1).toInt = (gI z27 1).toInt := congrArg Int32.toInt (h_73 1 (by decide)).1
                have s_78 : (gI z31 13).toInt = (gI z27 13).toInt := congrArg Int32.toInt (h_73 13 (by decide)).1
                refine ok_ite (fun c_79 => ?_) (fun c_79 => ?_)
                · skip
                  have r_80 := n_rng r30
                  have c_79i : r30.toInt = 0 := bI_eq rfl (show (0 : Int32).toInt = 0 by decide) c_79
                  refine ok_bd2 (t_fX9_isWord (by first | omega | assumption | decide | (show 0 ≤ (gI z31 12).toInt ∧ (gI z31 12).toInt ≤ (gI z31 1).toInt ∧ (gI z31 1).toInt ≤ 400; first | omega | assumption))) (fun r34 z35 q_81 => ?_)
                  have h_82 : r34 = 0 ∨ r34 = 1 := q_81.1
                  have h_82i := bool_i h_82
                  have h_83 : FrL [12] z31 z35 := q_81.2.1
                  have h_84 : (gI z31 12).toInt ≤ (gI z35 12).toInt ∧ (gI z35 12).toInt ≤ (gI z31 1).toInt := q_81.2.2.1
                  have h_85 : r34.toInt = 1 → LTR z35 (gI z35 12) := q_81.2.2.2.1
                  have h_86 : NB z31 → (gI z35 12).toInt = (gI z31 12).toInt := q_81.2.2.2.2
                  clear q_81
                  have s_87 : (gI z35 1).toInt = (gI z31 1).toInt := congrArg Int32.toInt (h_83 1 (by decide)).1
                  have s_88 : (gI z35 13).toInt = (gI z31 13).toInt := congrArg Int32.toInt (h_83 13 (by decide)).1
                  refine ok_ite (fun c_89 => ?_) (fun c_89 => ?_)
                  · skip
                    have r_90 := n_rng r34
                    have c_89i : r34.toInt = 0 := bI_eq rfl (show (0 : Int32).toInt = 0 by decide) c_89
                    try have e_91 : (-1 : Int32).toInt = (-1) := (show (-1 : Int32).toInt = -1 by decide)
                    exact ok_some ⟨(fr_tr (fr_tr (fr_tr (fr_tr (fr_tr (fr_tr (fr_tr (fr_tr (fr_tr fr_rf h_3 (by decide)) h_13 (by decide)) h_23 (by decide)) h_33 (by decide)) h_43 (by decide)) h_53 (by decide)) h_63 (by decide)) h_73 (by decide)) h_83 (by decide)), (show (gI z_t 12).toInt ≤ (gI z35 12).toInt ∧ (gI z35 12).toInt ≤ (gI z_t 1).toInt by first | omega | assumption | trivial), (show -1 ≤ (-1 : Int32).toInt ∧ (-1 : Int32).toInt ≤ 8 by first | omega | assumption | trivial), (show 0 ≤ (-1 : Int32).toInt → LTR z35 (gI z35 12) by first | (intro q; exact absurd q (by decide)) | (intro _; assumption))⟩
                  · skip
                    have r_92 := n_rng r34
                    have c_89i : r34.toInt ≠ 0 := bI_neq rfl (show (0 : Int32).toInt = 0 by decide) c_89
                    have u_93 : LTR z35 (gI z35 12) := h_85 (by omega)
                    try have e_94 : (8 : Int32).toInt = 8 := (show (8 : Int32).toInt = 8 by decide)
                    exact ok_some ⟨(fr_tr (fr_tr (fr_tr (fr_tr (fr_tr (fr_tr (fr_tr (fr_tr (fr_tr fr_rf h_3 (by decide)) h_13 (by decide)) h_23 (by decide)) h_33 (by decide)) h_43 (by decide)) h_53 (by decide)) h_63 (by decide)) h_73 (by decide)) h_83 (by decide)), (show (gI z_t 12).toInt ≤ (gI z35 12).toInt ∧ (gI z35 12).toInt ≤ (gI z_t 1).toInt by first | omega | assumption | trivial), (show -1 ≤ (8 : Int32).toInt ∧ (8 : Int32).toInt ≤ 8 by first | omega | assumption | trivial), (show 0 ≤ (8 : Int32).toInt → LTR z35 (gI z35 12) by first | (intro q; exact absurd q (by decide)) | (intro _; assumption))⟩
                · skip
                  have r_95 := n_rng r30
                  have c_79i : r30.toInt ≠ 0 := bI_neq rfl (show (0 : Int32).toInt = 0 by decide) c_79
                  have u_96 : LTR z31 (gI z31 12) := h_75 (by omega)
                  try have e_97 : (7 : Int32).toInt = 7 := (show (7 : Int32).toInt = 7 by decide)
                  exact ok_some ⟨(fr_tr (fr_tr (fr_tr (fr_tr (fr_tr (fr_tr (fr_tr (fr_tr fr_rf h_3 (by decide)) h_13 (by decide)) h_23 (by decide)) h_33 (by decide)) h_43 (by decide)) h_53 (by decide)) h_63 (by decide)) h_73 (by decide)), (show (gI z_t 12).toInt ≤ (gI z31 12).toInt ∧ (gI z31 12).toInt ≤ (gI z_t 1).toInt by first | omega | assumption | trivial), (show -1 ≤ (7 : Int32).toInt ∧ (7 : Int32).toInt ≤ 8 by first | omega | assumption | trivial), (show 0 ≤ (7 : Int32).toInt → LTR z31 (gI z31 12) by first | (intro q; exact absurd q (by decide)) | (intro _; assumption))⟩
              · skip
                have r_98 := n_rng r26
                have c_69i : r26.toInt ≠ 0 := bI_neq rfl (show (0 : Int32).toInt = 0 by decide) c_69
                have u_99 : LTR z27 (gI z27 12) := h_65 (by omega)
                try have e_100 : (6 : Int32).toInt = 6 := (show (6 : Int32).toInt = 6 by decide)
                exact ok_some ⟨(fr_tr (fr_tr (fr_tr (fr_tr (fr_tr (fr_tr (fr_tr fr_rf h_3 (by decide)) h_13 (by decide)) h_23 (by decide)) h_33 (by decide)) h_43 (by decide)) h_53 (by decide)) h_63 (by decide)), (show (gI z_t 12).toInt ≤ (gI z27 12).toInt ∧ (gI z27 12).toInt ≤ (gI z_t 1).toInt by first | omega | assumption | trivial), (show -1 ≤ (6 : Int32).toInt ∧ (6 : Int32).toInt ≤ 8 by first | omega | assumption | trivial), (show 0 ≤ (6 : Int32).toInt → LTR z27 (gI z27 12) by first | (intro q; exact absurd q (by decide)) | (intro _; assumption))⟩
            · skip
              have r_101 := n_rng r22
              have c_59i : r22.toInt ≠ 0 := bI_neq rfl (show (0 : Int32).toInt = 0 by decide) c_59
              have u_102 : LTR z23 (gI z23 12) := h_55 (by omega)
              try have e_103 : (5 : Int32).toInt = 5 := (show (5 : Int32).toInt = 5 by decide)
              exact ok_some ⟨(fr_tr (fr_tr (fr_tr (fr_tr (fr_tr (fr_tr fr_rf h_3 (by decide)) h_13 (by decide)) h_23 (by decide)) h_33 (by decide)) h_43 (by decide)) h_53 (by decide)), (show (gI z_t 12).toInt ≤ (gI z23 12).toInt ∧ (gI z23 12).toInt ≤ (gI z_t 1).toInt by first | omega | assumption | trivial), (show -1 ≤ (5 : Int32).toInt ∧ (5 : Int32).toInt ≤ 8 by first | omega | assumption | trivial), (show 0 ≤ (5 : Int32).toInt → LTR z23 (gI z23 12) by first | (intro q; exact absurd q (by decide)) | (intro _; assumption))⟩
          · skip
            have r_104 := n_rng r18
            have c_49i : r18.toInt ≠ 0 := bI_neq rfl (show (0 : Int32).toInt = 0 by decide) c_49
            have u_105 : LTR z19 (gI z19 12) := h_45 (by omega)
            try have e_106 : (4 : Int32).toInt = 4 := (show (4 : Int32).toInt = 4 by decide)
            exact ok_some ⟨(fr_tr (fr_tr (fr_tr (fr_tr (fr_tr fr_rf h_3 (by decide)) h_13 (by decide)) h_23 (by decide)) h_33 (by decide)) h_43 (by decide)), (show (gI z_t 12).toInt ≤ (gI z19 12).toInt ∧ (gI z19 12).toInt ≤ (gI z_t 1).toInt by first | omega | assumption | trivial), (show -1 ≤ (4 : Int32).toInt ∧ (4 : Int32).toInt ≤ 8 by first | omega | assumption | trivial), (show 0 ≤ (4 : Int32).toInt → LTR z19 (gI z19 12) by first | (intro q; exact absurd q (by decide)) | (intro _; assumption))⟩
        · skip
          have r_107 := n_rng r14
          have c_39i : r14.toInt ≠ 0 := bI_neq rfl (show (0 : Int32).toInt = 0 by decide) c_39
          have u_108 : LTR z15 (gI z15 12) := h_35 (by omega)
          try have e_109 : (3 : Int32).toInt = 3 := (show (3 : Int32).toInt = 3 by decide)
          exact ok_some ⟨(fr_tr (fr_tr (fr_tr (fr_tr fr_rf h_3 (by decide)) h_13 (by decide)) h_23 (by decide)) h_33 (by decide)), (show (gI z_t 12).toInt ≤ (gI z15 12).toInt ∧ (gI z15 12).toInt ≤ (gI z_t 1).toInt by first | omega | assumption | trivial), (show -1 ≤ (3 : Int32).toInt ∧ (3 : Int32).toInt ≤ 8 by first | omega | assumption | trivial), (show 0 ≤ (3 : Int32).toInt → LTR z15 (gI z15 12) by first | (intro q; exact absurd q (by decide)) | (intro _; assumption))⟩
      · skip
        have r_110 := n_rng r10
        have c_29i : r10.toInt ≠ 0 := bI_neq rfl (show (0 : Int32).toInt = 0 by decide) c_29
        have u_111 : LTR z11 (gI z11 12) := h_25 (by omega)
        try have e_112 : (2 : Int32).toInt = 2 := (show (2 : Int32).toInt = 2 by decide)
        exact ok_some ⟨(fr_tr (fr_tr (fr_tr fr_rf h_3 (by decide)) h_13 (by decide)) h_23 (by decide)), (show (gI z_t 12).toInt ≤ (gI z11 12).toInt ∧ (gI z11 12).toInt ≤ (gI z_t 1).toInt by first | omega | assumption | trivial), (show -1 ≤ (2 : Int32).toInt ∧ (2 : Int32).toInt ≤ 8 by first | omega | assumption | trivial), (show 0 ≤ (2 : Int32).toInt → LTR z11 (gI z11 12) by first | (intro q; exact absurd q (by decide)) | (intro _; assumption))⟩
    · skip
      have r_113 := n_rng r6
      have c_19i : r6.toInt ≠ 0 := bI_neq rfl (show (0 : Int32).toInt = 0 by decide) c_19
      have u_114 : LTR z7 (gI z7 12) := h_15 (by omega)
      try have e_115 : (1 : Int32).toInt = 1 := (show (1 : Int32).toInt = 1 by decide)
      exact ok_some ⟨(fr_tr (fr_tr fr_rf h_3 (by decide)) h_13 (by decide)), (show (gI z_t 12).toInt ≤ (gI z7 12).toInt ∧ (gI z7 12).toInt ≤ (gI z_t 1).toInt by first | omega | assumption | trivial), (show -1 ≤ (1 : Int32).toInt ∧ (1 : Int32).toInt ≤ 8 by first | omega | assumption | trivial), (show 0 ≤ (1 : Int32).toInt → LTR z7 (gI z7 12) by first | (intro q; exact absurd q (by decide)) | (intro _; assumption))⟩
  · skip
    have r_116 := n_rng r2
    have c_9i : r2.toInt ≠ 0 := bI_neq rfl (show (0 : Int32).toInt = 0 by decide) c_9
    have u_117 : LTR z3 (gI z3 12) := h_5 (by omega)
    try have e_118 : (0 : Int32).toInt = 0 := (show (0 : Int32).toInt = 0 by decide)
    exact ok_some ⟨(fr_tr fr_rf h_3 (by decide)), (show (gI z_t 12).toInt ≤ (gI z3 12).toInt ∧ (gI z3 12).toInt ≤ (gI z_t 1).toInt by first | omega | assumption | trivial), (show -1 ≤ (0 : Int32).toInt ∧ (0 : Int32).toInt ≤ 8 by first | omega | assumption | trivial), (show 0 ≤ (0 : Int32).toInt → LTR z3 (gI z3 12) by first | (intro q; exact absurd q (by decide)) | (intro _; assumption))⟩

set_option maxHeartbeats 400000 in
set_option maxRecDepth 20000 in
theorem t_fX9_makes {z_t : Sx} {x1 : Int32} (p1 : 0 ≤ (gI z_t 16).toInt ∧ (gI z_t 16).toInt ≤ 60) (p2 : 0 ≤ x1.toInt ∧ x1.toInt ≤ 400) : okP (fX9_makes z_t x1) (fun y => (y.1 = 0 ∨ y.1 = 1) ∧ (FrL [13, 16] z_t y.2) ∧ (y.1.toInt = 0 → (gI y.2 13).toInt ≠ 0) ∧ (y.1.toInt = 1 → (gI y.2 16).toInt = (gI z_t 16).toInt + 1 ∧ (gI y.2 16).toInt ≤ 60)) := by
  unfold fX9_makes
  refine ok_ite (fun c_1 => ?_) (fun c_1 => ?_)
  · skip
    have r_2 := n_rng (gI z_t 16)
    have c_1i : (gI z_t 16).toInt = 60 := bI_eq rfl (show (60 : Int32).toInt = 60 by decide) c_1
    have e_4 : (3 : Int32).toInt = 3 := (show (3 : Int32).toInt = 3 by decide)
    refine ok_bd2 (t_fX9_fails (by first | omega | assumption | decide | (show 0 ≤ x1.toInt ∧ x1.toInt ≤ 400 ∧ 0 ≤ (3 : Int32).toInt ∧ (3 : Int32).toInt ≤ 4; first | omega | assumption))) (fun r3 z4 q_3 => ?_)
    have h_5 : r3 = 0 ∨ r3 = 1 := q_3.1
    have h_5i := bool_i h_5
    have h_6 : FrL [13] z_t z4 := q_3.2.1
    have h_7 : r3.toInt = 0 := q_3.2.2.1
    have h_8 : (gI z4 13).toInt ≠ 0 := q_3.2.2.2
    clear q_3
    refine ok_gd h_5 ?_
    exact ok_some ⟨h_5, (fr_tr fr_rf h_6 (by decide)), (show r3.toInt = 0 → (gI z4 13).toInt ≠ 0 by first | omega | assumption | trivial), (show r3.toInt = 1 → (gI z4 16).toInt = (gI z_t 16).toInt + 1 ∧ (gI z4 16).toInt ≤ 60 by first | omega | assumption | trivial)⟩
  · skip
    have r_9 := n_rng (gI z_t 16)
    have c_1i : (gI z_t 16).toInt ≠ 60 := bI_neq rfl (show (60 : Int32).toInt = 60 by decide) c_1
    try have e_10 : ((gI z_t 16) + 1).toInt = ((gI z_t 16).toInt + 1) := (i32_add rfl (show (1 : Int32).toInt = 1 by decide) (by omega) (by omega))
    try have e_11 : (1 : Int32).toInt = 1 := (show (1 : Int32).toInt = 1 by decide)
    exact ok_some ⟨Or.inr rfl, (fr_I fr_rf (by decide)), (show (1 : Int32).toInt = 0 → (gI z_t 13).toInt ≠ 0 from fun q => absurd q (by decide)), (show (1 : Int32).toInt = 1 → ((gI z_t 16) + 1).toInt = (gI z_t 16).toInt + 1 ∧ ((gI z_t 16) + 1).toInt ≤ 60 from fun _ => by first | omega | assumption)⟩

set_option maxHeartbeats 400000 in
set_option maxRecDepth 20000 in
theorem tl_lX9_isKindHere_22 {o_z_t : Sx} {k62 : Sx → Option (Int32 × Sx)} (Hk62 : ∀ (y0 : Sx), (FrL [8, 10, 12, 13, 14] o_z_t y0) → ((gI o_z_t 12).toInt ≤ (gI y0 12).toInt ∧ (gI y0 12).toInt ≤ (gI o_z_t 1).toInt) → ((gI y0 8).toInt = (gI o_z_t 8).toInt) → okP (k62 y0) (fun y => (y.1 = 0 ∨ y.1 = 1) ∧ (FrL [8, 10, 12, 13, 14] o_z_t y.2) ∧ ((gI o_z_t 12).toInt ≤ (gI y.2 12).toInt ∧ (gI y.2 12).toInt ≤ (gI o_z_t 1).toInt) ∧ (y.1.toInt = 0 → (gI y.2 13).toInt ≠ 0) ∧ (y.1.toInt = 1 → 0 ≤ (gI y.2 8).toInt ∧ (gI y.2 8).toInt ≤ 6))) (p1 : 0 ≤ (gI o_z_t 12).toInt ∧ (gI o_z_t 12).toInt ≤ (gI o_z_t 1).toInt ∧ (gI o_z_t 1).toInt ≤ 400) (pk : 0 ≤ (gI o_z_t 8).toInt ∧ (gI o_z_t 8).toInt ≤ 5) : ∀ (n : Nat) (z_t : Sx) (x2 : Int32), (FrL [8, 10, 12, 13, 14] o_z_t z_t) → ((gI o_z_t 12).toInt ≤ (gI z_t 12).toInt ∧ (gI z_t 12).toInt ≤ (gI o_z_t 1).toInt) → ((gI z_t 8).toInt = (gI o_z_t 8).toInt) → (0 ≤ x2.toInt) → (3 + 0 - x2.toInt).toNat < n → okP (lX9_isKindHere_22 k62 n z_t x2) (fun y => (y.1 = 0 ∨ y.1 = 1) ∧ (FrL [8, 10, 12, 13, 14] o_z_t y.2) ∧ ((gI o_z_t 12).toInt ≤ (gI y.2 12).toInt ∧ (gI y.2 12).toInt ≤ (gI o_z_t 1).toInt) ∧ (y.1.toInt = 0 → (gI y.2 13).toInt ≠ 0) ∧ (y.1.toInt = 1 → 0 ≤ (gI y.2 8).toInt ∧ (gI y.2 8).toInt ≤ 6)) := by
  intro n
  induction n with
  | zero => intro _ _ _ _ _ _ hm; omega
  | succ n ih =>
    intro z_t x2 frz_t i0 i8 i2 hm
    rw [lX9_isKindHere_22]
    have tk1 : (gI z_t 1).toInt = (gI o_z_t 1).toInt := congrArg Int32.toInt (frz_t 1 (by decide)).1
    refine ok_ite (fun c_1 => ?_) (fun c_1 => ?_)
    · skip
      have r_2 := n_rng x2
      have c_1i : 3 ≤ x2.toInt := bI_le (show (3 : Int32).toInt = 3 by decide) rfl c_1
      exact Hk62 z_t frz_t (by first | omega | assumption | decide) (by first | omega | assumption | decide)
    · skip
      have r_3 := n_rng x2
      have c_1i : 3 > x2.toInt := bI_nle (show (3 : Int32).toInt = 3 by decide) rfl c_1
      have e_5 : (0 : Int32).toInt = 0 := (show (0 : Int32).toInt = 0 by decide)
      have e_6 : (99 : Int32).toInt = 99 := (show (99 : Int32).toInt = 99 by decide)
      refine ok_bd2 (t_fX9_numberHere (by first | omega | assumption | decide | (show 0 ≤ (gI z_t 12).toInt ∧ (gI z_t 12).toInt ≤ (gI z_t 1).toInt ∧ (gI z_t 1).toInt ≤ 400; first | omega | assumption))) (fun r6 z7 q_4 => ?_)
      have h_7 : r6 = 0 ∨ r6 = 1 := q_4.1
      have h_7i := bool_i h_7
      have h_8 : FrL [12, 13, 14] z_t z7 := q_4.2.1
      have h_9 : (gI z_t 12).toInt ≤ (gI z7 12).toInt ∧ (gI z7 12).toInt ≤ (gI z_t 1).toInt := q_4.2.2.1
      have h_10 : r6.toInt = 0 → (gI z7 13).toInt ≠ 0 := q_4.2.2.2.1
      have h_11 : r6.toInt = 1 → (gI z_t 12).toInt < (gI z7 12).toInt := q_4.2.2.2.2.1
      have h_12 : r6.toInt = 1 → (0 : Int32).toInt ≤ (gI z7 14).toInt ∧ (gI z7 14).toInt ≤ (99 : Int32).toInt := q_4.2.2.2.2.2
      clear q_4
      have s_13 : (gI z7 1).toInt = (gI z_t 1).toInt := congrArg Int32.toInt (h_8 1 (by decide)).1
      have s_14 : (gI z7 8).toInt = (gI z_t 8).toInt := congrArg Int32.toInt (h_8 8 (by decide)).1
      refine ok_ite (fun c_15 => ?_) (fun c_15 => ?_)
      · skip
        have r_16 := n_rng r6
        have c_15i : r6.toInt = 0 := bI_eq rfl (show (0 : Int32).toInt = 0 by decide) c_15
        have u_17 : (gI z7 13).toInt ≠ 0 := h_10 (by omega)
        exact ok_some ⟨Or.inl rfl, (fr_tr frz_t h_8 (by decide)), (show (gI o_z_t 12).toInt ≤ (gI z7 12).toInt ∧ (gI z7 12).toInt ≤ (gI o_z_t 1).toInt by first | omega | assumption | trivial), (show (0 : Int32).toInt = 0 → (gI z7 13).toInt ≠ 0 from fun _ => by first | omega | assumption), (show (0 : Int32).toInt = 1 → 0 ≤ (gI z7 8).toInt ∧ (gI z7 8).toInt ≤ 6 from fun q => absurd q (by decide))⟩
      · skip
        have r_18 := n_rng r6
        have c_15i : r6.toInt ≠ 0 := bI_neq rfl (show (0 : Int32).toInt = 0 by decide) c_15
        have u_19 : (gI z_t 12).toInt < (gI z7 12).toInt := h_11 (by omega)
        have u_20 : (0 : Int32).toInt ≤ (gI z7 14).toInt ∧ (gI z7 14).toInt ≤ (99 : Int32).toInt := h_12 (by omega)
        have r_21 := n_rng (gI z7 8)
        have e_22 : ((3 * (gI z7 8)) + x2).toInt = ((3 * (gI z7 8).toInt) + x2.toInt) := (i32_add (i32_mul (show (3 : Int32).toInt = 3 by decide) rfl (by omega) (by omega)) rfl (by omega) (by omega))
        refine ok_gd (inb_of (by omega) (by omega)) ?_
        have i_23 : (((3 * (gI z7 8)) + x2).toNatClampNeg : Int) = ((3 * (gI z7 8)) + x2).toInt := clampI (by omega)
        try have e_24 : (x2 + 1).toInt = (x2.toInt + 1) := (i32_add rfl (show (1 : Int32).toInt = 1 by decide) (by omega) (by omega))
        exact ih (sT z7 10 ((3 * (gI z7 8)) + x2).toNatClampNeg (gI z7 14)) (x2 + 1) (fr_T (fr_tr frz_t h_8 (by decide)) (by decide)) (show (gI o_z_t 12).toInt ≤ (gI z7 12).toInt ∧ (gI z7 12).toInt ≤ (gI o_z_t 1).toInt by first | omega | assumption | decide) (show (gI z7 8).toInt = (gI o_z_t 8).toInt by first | omega | assumption | decide) (by first | omega | assumption | decide) (by omega)
set_option maxHeartbeats 400000 in
set_option maxRecDepth 20000 in
theorem t_fX9_isKindHere {z_t : Sx} {x1 : Int32} (p1 : 0 ≤ (gI z_t 12).toInt ∧ (gI z_t 12).toInt ≤ (gI z_t 1).toInt ∧ (gI z_t 1).toInt ≤ 400) (pa : 0 ≤ x1.toInt ∧ x1.toInt ≤ 400) (pk : 0 ≤ (gI z_t 8).toInt ∧ (gI z_t 8).toInt ≤ 6) : okP (fX9_isKindHere z_t x1) (fun y => (y.1 = 0 ∨ y.1 = 1) ∧ (FrL [8, 10, 12, 13, 14] z_t y.2) ∧ ((gI z_t 12).toInt ≤ (gI y.2 12).toInt ∧ (gI y.2 12).toInt ≤ (gI z_t 1).toInt) ∧ (y.1.toInt = 0 → (gI y.2 13).toInt ≠ 0) ∧ (y.1.toInt = 1 → 0 ≤ (gI y.2 8).toInt ∧ (gI y.2 8).toInt ≤ 6)) := by
  unfold fX9_isKindHere
  refine ok_ite (fun c_1 => ?_) (fun c_1 => ?_)
  · skip
    have r_2 := n_rng (gI z_t 8)
    have c_1i : (gI z_t 8).toInt = 6 := bI_eq rfl (show (6 : Int32).toInt = 6 by decide) c_1
    have e_4 : (4 : Int32).toInt = 4 := (show (4 : Int32).toInt = 4 by decide)
    refine ok_bd2 (t_fX9_fails (by first | omega | assumption | decide | (show 0 ≤ x1.toInt ∧ x1.toInt ≤ 400 ∧ 0 ≤ (4 : Int32).toInt ∧ (4 : Int32).toInt ≤ 4; first | omega | assumption))) (fun r12 z13 q_3 => ?_)
    have h_5 : r12 = 0 ∨ r12 = 1 := q_3.1
    have h_5i := bool_i h_5
    have h_6 : FrL [13] z_t z13 := q_3.2.1
    have h_7 : r12.toInt = 0 := q_3.2.2.1
    have h_8 : (gI z13 13).toInt ≠ 0 := q_3.2.2.2
    clear q_3
    have s_9 : (gI z13 1).toInt = (gI z_t 1).toInt := congrArg Int32.toInt (h_6 1 (by decide)).1
    have s_10 : (gI z13 8).toInt = (gI z_t 8).toInt := congrArg Int32.toInt (h_6 8 (by decide)).1
    have s_11 : (gI z13 12).toInt = (gI z_t 12).toInt := congrArg Int32.toInt (h_6 12 (by decide)).1
    refine ok_gd h_5 ?_
    exact ok_some ⟨h_5, (fr_tr fr_rf h_6 (by decide)), (show (gI z_t 12).toInt ≤ (gI z13 12).toInt ∧ (gI z13 12).toInt ≤ (gI z_t 1).toInt by first | omega | assumption | trivial), (show r12.toInt = 0 → (gI z13 13).toInt ≠ 0 by first | omega | assumption | trivial), (show r12.toInt = 1 → 0 ≤ (gI z13 8).toInt ∧ (gI z13 8).toInt ≤ 6 by first | omega | assumption | trivial)⟩
  · skip
    have r_12 := n_rng (gI z_t 8)
    have c_1i : (gI z_t 8).toInt ≠ 6 := bI_neq rfl (show (6 : Int32).toInt = 6 by decide) c_1
    refine ok_bd (t_fX9_passWord (by first | omega | assumption | decide | (show 0 ≤ (gI z_t 12).toInt ∧ (gI z_t 12).toInt ≤ (gI z_t 1).toInt ∧ (gI z_t 1).toInt ≤ 400; first | omega | assumption))) (fun z3 q_13 => ?_)
    have h_14 : FrL [12] z_t z3 := q_13.1
    have h_15 : (gI z_t 12).toInt ≤ (gI z3 12).toInt ∧ (gI z3 12).toInt ≤ (gI z_t 1).toInt := q_13.2.1
    have h_16 : LTR z_t (gI z_t 12) → (gI z_t 12).toInt < (gI z3 12).toInt := q_13.2.2
    clear q_13
    have s_17 : (gI z3 1).toInt = (gI z_t 1).toInt := congrArg Int32.toInt (h_14 1 (by decide)).1
    have s_18 : (gI z3 8).toInt = (gI z_t 8).toInt := congrArg Int32.toInt (h_14 8 (by decide)).1
    try have e_22 : (0 : Int32).toInt = 0 := (show (0 : Int32).toInt = 0 by decide)
    refine tl_lX9_isKindHere_22 (fun z10 k_19 k_20 k_21 => ?_) (by first | omega | assumption | decide) (by first | omega | assumption | decide) FU z3 0 (fr_tr fr_rf h_14 (by decide)) (show (gI z_t 12).toInt ≤ (gI z3 12).toInt ∧ (gI z3 12).toInt ≤ (gI z_t 1).toInt by first | omega | assumption | decide) (show (gI z3 8).toInt = (gI z_t 8).toInt by first | omega | assumption | decide) (by first | omega | assumption | decide) (FU_lt (by omega))
    · skip
      have k_19_1 : (gI z10 1).toInt = (gI z_t 1).toInt := congrArg Int32.toInt (k_19 1 (by decide)).1
      have r_23 := n_rng (gI z10 8)
      try have e_24 : ((gI z10 8) + 1).toInt = ((gI z10 8).toInt + 1) := (i32_add rfl (show (1 : Int32).toInt = 1 by decide) (by omega) (by omega))
      try have e_25 : (1 : Int32).toInt = 1 := (show (1 : Int32).toInt = 1 by decide)
      exact ok_some ⟨Or.inr rfl, (fr_I k_19 (by decide)), (show (gI z_t 12).toInt ≤ (gI z10 12).toInt ∧ (gI z10 12).toInt ≤ (gI z_t 1).toInt by first | omega | assumption | trivial), (show (1 : Int32).toInt = 0 → (gI z10 13).toInt ≠ 0 from fun q => absurd q (by decide)), (show (1 : Int32).toInt = 1 → 0 ≤ ((gI z10 8) + 1).toInt ∧ ((gI z10 8) + 1).toInt ≤ 6 from fun _ => by first | omega | assumption)⟩

set_option maxHeartbeats 400000 in
set_option maxRecDepth 20000 in
theorem t_fX9_isTimeHere {z_t : Sx} {x1 : Int32} (p1 : 0 ≤ (gI z_t 12).toInt ∧ (gI z_t 12).toInt ≤ (gI z_t 1).toInt ∧ (gI z_t 1).toInt ≤ 400) (pa : 0 ≤ x1.toInt ∧ x1.toInt ≤ 400) : okP (fX9_isTimeHere z_t x1) (fun y => (y.1 = 0 ∨ y.1 = 1) ∧ (FrL [7, 12, 13, 14] z_t y.2) ∧ ((gI z_t 12).toInt ≤ (gI y.2 12).toInt ∧ (gI y.2 12).toInt ≤ (gI z_t 1).toInt) ∧ (y.1.toInt = 0 → (gI y.2 13).toInt ≠ 0)) := by
  unfold fX9_isTimeHere
  refine ok_ite (fun c_1 => ?_) (fun c_1 => ?_)
  · skip
    have r_2 := n_rng (gI z_t 7)
    have c_1i : (gI z_t 7).toInt < 0 := bI_lt rfl (show (0 : Int32).toInt = 0 by decide) c_1
    refine ok_bd (t_fX9_passWord (by first | omega | assumption | decide | (show 0 ≤ (gI z_t 12).toInt ∧ (gI z_t 12).toInt ≤ (gI z_t 1).toInt ∧ (gI z_t 1).toInt ≤ 400; first | omega | assumption))) (fun z3 q_3 => ?_)
    have h_4 : FrL [12] z_t z3 := q_3.1
    have h_5 : (gI z_t 12).toInt ≤ (gI z3 12).toInt ∧ (gI z3 12).toInt ≤ (gI z_t 1).toInt := q_3.2.1
    have h_6 : LTR z_t (gI z_t 12) → (gI z_t 12).toInt < (gI z3 12).toInt := q_3.2.2
    clear q_3
    have s_7 : (gI z3 1).toInt = (gI z_t 1).toInt := congrArg Int32.toInt (h_4 1 (by decide)).1
    have e_9 : (1 : Int32).toInt = 1 := (show (1 : Int32).toInt = 1 by decide)
    have e_10 : (480 : Int32).toInt = 480 := (show (480 : Int32).toInt = 480 by decide)
    refine ok_bd2 (t_fX9_numberHere (by first | omega | assumption | decide | (show 0 ≤ (gI z3 12).toInt ∧ (gI z3 12).toInt ≤ (gI z3 1).toInt ∧ (gI z3 1).toInt ≤ 400; first | omega | assumption))) (fun r5 z6 q_8 => ?_)
    have h_11 : r5 = 0 ∨ r5 = 1 := q_8.1
    have h_11i := bool_i h_11
    have h_12 : FrL [12, 13, 14] z3 z6 := q_8.2.1
    have h_13 : (gI z3 12).toInt ≤ (gI z6 12).toInt ∧ (gI z6 12).toInt ≤ (gI z3 1).toInt := q_8.2.2.1
    have h_14 : r5.toInt = 0 → (gI z6 13).toInt ≠ 0 := q_8.2.2.2.1
    have h_15 : r5.toInt = 1 → (gI z3 12).toInt < (gI z6 12).toInt := q_8.2.2.2.2.1
    have h_16 : r5.toInt = 1 → (1 : Int32).toInt ≤ (gI z6 14).toInt ∧ (gI z6 14).toInt ≤ (480 : Int32).toInt := q_8.2.2.2.2.2
    clear q_8
    have s_17 : (gI z6 1).toInt = (gI z3 1).toInt := congrArg Int32.toInt (h_12 1 (by decide)).1
    refine ok_ite (fun c_18 => ?_) (fun c_18 => ?_)
    · skip
      have r_19 := n_rng r5
      have c_18i : r5.toInt = 0 := bI_eq rfl (show (0 : Int32).toInt = 0 by decide) c_18
      have u_20 : (gI z6 13).toInt ≠ 0 := h_14 (by omega)
      try have e_21 : (0 : Int32).toInt = 0 := (show (0 : Int32).toInt = 0 by decide)
      exact ok_some ⟨Or.inl rfl, (fr_tr (fr_tr fr_rf h_4 (by decide)) h_12 (by decide)), (show (gI z_t 12).toInt ≤ (gI z6 12).toInt ∧ (gI z6 12).toInt ≤ (gI z_t 1).toInt by first | omega | assumption | trivial), (show (0 : Int32).toInt = 0 → (gI z6 13).toInt ≠ 0 from fun _ => by first | omega | assumption)⟩
    · skip
      have r_22 := n_rng r5
      have c_18i : r5.toInt ≠ 0 := bI_neq rfl (show (0 : Int32).toInt = 0 by decide) c_18
      have u_23 : (gI z3 12).toInt < (gI z6 12).toInt := h_15 (by omega)
      have u_24 : (1 : Int32).toInt ≤ (gI z6 14).toInt ∧ (gI z6 14).toInt ≤ (480 : Int32).toInt := h_16 (by omega)
      exact ok_some ⟨Or.inr rfl, (fr_I (fr_tr (fr_tr fr_rf h_4 (by decide)) h_12 (by decide)) (by decide)), (show (gI z_t 12).toInt ≤ (gI z6 12).toInt ∧ (gI z6 12).toInt ≤ (gI z_t 1).toInt by first | omega | assumption | trivial), (show (1 : Int32).toInt = 0 → (gI z6 13).toInt ≠ 0 from fun q => absurd q (by decide))⟩
  · skip
    have r_25 := n_rng (gI z_t 7)
    have c_1i : (gI z_t 7).toInt ≥ 0 := bI_nlt rfl (show (0 : Int32).toInt = 0 by decide) c_1
    have e_27 : (4 : Int32).toInt = 4 := (show (4 : Int32).toInt = 4 by decide)
    refine ok_bd2 (t_fX9_fails (by first | omega | assumption | decide | (show 0 ≤ x1.toInt ∧ x1.toInt ≤ 400 ∧ 0 ≤ (4 : Int32).toInt ∧ (4 : Int32).toInt ≤ 4; first | omega | assumption))) (fun r9 z10 q_26 => ?_)
    have h_28 : r9 = 0 ∨ r9 = 1 := q_26.1
    have h_28i := bool_i h_28
    have h_29 : FrL [13] z_t z10 := q_26.2.1
    have h_30 : r9.toInt = 0 := q_26.2.2.1
    have h_31 : (gI z10 13).toInt ≠ 0 := q_26.2.2.2
    clear q_26
    have s_32 : (gI z10 1).toInt = (gI z_t 1).toInt := congrArg Int32.toInt (h_29 1 (by decide)).1
    have s_33 : (gI z10 12).toInt = (gI z_t 12).toInt := congrArg Int32.toInt (h_29 12 (by decide)).1
    refine ok_gd h_28 ?_
    exact ok_some ⟨h_28, (fr_tr fr_rf h_29 (by decide)), (show (gI z_t 12).toInt ≤ (gI z10 12).toInt ∧ (gI z10 12).toInt ≤ (gI z_t 1).toInt by first | omega | assumption | trivial), (show r9.toInt = 0 → (gI z10 13).toInt ≠ 0 by first | omega | assumption | trivial)⟩

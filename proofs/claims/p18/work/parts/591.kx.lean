/-! What the reference's calls leave of its table: all but minutes left, coins, draws, and what is known of the faults. -/
def DY (i : Nat) : Prop := i = 3 ∨ i = 4 ∨ i = 5 ∨ i = 6 ∨ i = 9 ∨ (44 ≤ i ∧ 4 ≤ (i - 44) % 6)
def KX (z z' : Sx) : Prop := (gT z' 24 0).toInt = (gT z 24 0).toInt ∧ (gT z' 24 8).toInt = (gT z 24 8).toInt ∧ ∀ j : Nat, ¬ DY j → gT z' 24 j = gT z 24 j
theorem kx_rf {z : Sx} : KX z z := ⟨rfl, rfl, fun _ _ => rfl⟩
theorem kx_I {z z' : Sx} {k : Nat} {v : Int32} (h : KX z z') : KX z (sI z' k v) := h
theorem kx_J {z z' : Sx} {k i : Nat} {v : Int64} (h : KX z z') : KX z (sJ z' k i v) := h
theorem kx_Tn {z z' : Sx} {k i : Nat} {v : Int32} (h : KX z z') (hk : ¬ 24 = k) : KX z (sT z' k i v) := by
  have e : gT (sT z' k i v) 24 = gT z' 24 := if_neg hk
  unfold KX; rw [e]; exact h
theorem kx_T {z z' : Sx} {i : Nat} {v : Int32} (h : KX z z') (h0 : i = 3 ∨ i = 4 ∨ i = 5 ∨ i = 6 ∨ i = 9 ∨ (44 ≤ i ∧ 4 ≤ (i - 44) % 6)) (h8 : ¬ 8 = i) : KX z (sT z' 24 i v) := by
  have e : ∀ j : Nat, ¬ j = i → gT (sT z' 24 i v) 24 j = gT z' 24 j := fun j hj => if_neg hj
  refine ⟨by rw [e 0 (by omega)]; exact h.1, by rw [e 8 (by omega)]; exact h.2.1, fun j hj => ?_⟩
  rw [e j (fun q => hj (by rw [q]; exact h0))]
  exact h.2.2 j hj
theorem kx_fr {L : List Nat} {z z1 z' : Sx} (h : KX z z1) (hf : FrL L z1 z') (hL : L.contains 24 = false) : KX z z' := by
  unfold KX; rw [(hf 24 hL).2.1]; exact h
theorem kx_tr {z z1 z2 : Sx} (h : KX z z1) (h2 : KX z1 z2) : KX z z2 := ⟨h2.1.trans h.1, h2.2.1.trans h.2.1, fun j hj => (h2.2.2 j hj).trans (h.2.2 j hj)⟩
set_option maxHeartbeats 400000 in
set_option maxRecDepth 20000 in
theorem k_fX9_draw {z_t : Sx} {x1 : Int32} (p1 : ¬ x1 = 0) (hS : SOK (gT z_t 24)) : okP (fX9_draw z_t x1) (fun y => (FrL [24] z_t y.2) ∧ (SOK (gT y.2 24)) ∧ (KX z_t y.2)) := by
  unfold fX9_draw
  have hn := hS.1
  have hr := hS.2.2.1
  refine ok_nm ?_
  refine ok_gd (by assumption) ?_
  exact ok_some ⟨(fr_T fr_rf (by decide)), (so_T hS (by unfold freeix; omega)), (kx_T kx_rf (by omega) (by omega))⟩


set_option maxHeartbeats 400000 in
set_option maxRecDepth 20000 in
theorem kl_lX9_begins_21 {o_z_t : Sx} : ∀ (n : Nat) (z_t : Sx) (x1 : Int32), (FrL [24] o_z_t z_t) → (SOK (gT z_t 24)) → (KX o_z_t z_t) → (0 ≤ x1.toInt) → ((gT z_t 24 0).toInt + 0 - x1.toInt).toNat < n → okP (lX9_begins_21 n z_t x1) (fun y => (FrL [24] o_z_t y) ∧ (SOK (gT y 24)) ∧ (KX o_z_t y)) := by
  intro n
  induction n with
  | zero => intro _ _ _ _ _ _ hm; omega
  | succ n ih =>
    intro z_t x1 frz_t iS iK i0 hm
    rw [lX9_begins_21]
    have iKa := iK.1
    have iKb := iK.2.1
    have hn := iS.1
    have hr := iS.2.2.1
    refine ok_ite (fun c_1 => ?_) (fun c_1 => ?_)
    · skip
      have r_2 := n_rng (gT z_t 24 0)
      have r_3 := n_rng x1
      have c_1i : (gT z_t 24 0).toInt ≤ x1.toInt := bI_le rfl rfl c_1
      exact ok_some ⟨frz_t, iS, iK⟩
    · skip
      have r_4 := n_rng (gT z_t 24 0)
      have r_5 := n_rng x1
      have c_1i : (gT z_t 24 0).toInt > x1.toInt := bI_nle rfl rfl c_1
      have e_6 : ((44 + (6 * x1)) + 4).toInt = ((44 + (6 * x1.toInt)) + 4) := (i32_add (i32_add (show (44 : Int32).toInt = 44 by decide) (i32_mul (show (6 : Int32).toInt = 6 by decide) rfl (by omega) (by omega)) (by omega) (by omega)) (show (4 : Int32).toInt = 4 by decide) (by omega) (by omega))
      refine ok_gd (inb_of (by omega) (by omega)) ?_
      have i_7 : (((44 + (6 * x1)) + 4).toNatClampNeg : Int) = ((44 + (6 * x1)) + 4).toInt := clampI (by omega)
      refine ok_jn ?_
      refine ok_ite (fun c_8 => ?_) (fun c_8 => ?_)
      · skip
        have r_9 := n_rng (gT z_t 24 ((44 + (6 * x1)) + 4).toNatClampNeg)
        have c_8i : (gT z_t 24 ((44 + (6 * x1)) + 4).toNatClampNeg).toInt = 1 := bI_eq rfl (show (1 : Int32).toInt = 1 by decide) c_8
        refine ok_gd (inb_of (by omega) (by omega)) ?_
        have e_10 : ((44 + (6 * x1)) + 5).toInt = ((44 + (6 * x1.toInt)) + 5) := (i32_add (i32_add (show (44 : Int32).toInt = 44 by decide) (i32_mul (show (6 : Int32).toInt = 6 by decide) rfl (by omega) (by omega)) (by omega) (by omega)) (show (5 : Int32).toInt = 5 by decide) (by omega) (by omega))
        refine ok_gd (inb_of (by omega) (by omega)) ?_
        have i_11 : (((44 + (6 * x1)) + 5).toNatClampNeg : Int) = ((44 + (6 * x1)) + 5).toInt := clampI (by omega)
        try have e_12 : (x1 + 1).toInt = (x1.toInt + 1) := (i32_add rfl (show (1 : Int32).toInt = 1 by decide) (by omega) (by omega))
        have n_13 : KX z_t (sT (sT z_t 24 ((44 + (6 * x1)) + 4).toNatClampNeg 0) 24 ((44 + (6 * x1)) + 5).toNatClampNeg 0) := (kx_T (kx_T kx_rf (by omega) (by omega)) (by omega) (by omega))
        have n_13a := n_13.1
        have n_13b := n_13.2.1
        exact ih (sT (sT z_t 24 ((44 + (6 * x1)) + 4).toNatClampNeg 0) 24 ((44 + (6 * x1)) + 5).toNatClampNeg 0) (x1 + 1) (fr_T (fr_T frz_t (by decide)) (by decide)) (so_T (so_T iS (by unfold freeix; omega)) (by unfold freeix; omega)) (kx_T (kx_T iK (by omega) (by omega)) (by omega) (by omega)) (by first | omega | assumption | decide) (by omega)
      · skip
        have r_14 := n_rng (gT z_t 24 ((44 + (6 * x1)) + 4).toNatClampNeg)
        have c_8i : (gT z_t 24 ((44 + (6 * x1)) + 4).toNatClampNeg).toInt ≠ 1 := bI_neq rfl (show (1 : Int32).toInt = 1 by decide) c_8
        refine ok_gd (inb_of (by omega) (by omega)) ?_
        have e_15 : ((44 + (6 * x1)) + 5).toInt = ((44 + (6 * x1.toInt)) + 5) := (i32_add (i32_add (show (44 : Int32).toInt = 44 by decide) (i32_mul (show (6 : Int32).toInt = 6 by decide) rfl (by omega) (by omega)) (by omega) (by omega)) (show (5 : Int32).toInt = 5 by decide) (by omega) (by omega))
        refine ok_gd (inb_of (by omega) (by omega)) ?_
        have i_16 : (((44 + (6 * x1)) + 5).toNatClampNeg : Int) = ((44 + (6 * x1)) + 5).toInt := clampI (by omega)
        try have e_17 : (x1 + 1).toInt = (x1.toInt + 1) := (i32_add rfl (show (1 : Int32).toInt = 1 by decide) (by omega) (by omega))
        have n_18 : KX z_t (sT (sT z_t 24 ((44 + (6 * x1)) + 4).toNatClampNeg (gT z_t 24 ((44 + (6 * x1)) + 4).toNatClampNeg)) 24 ((44 + (6 * x1)) + 5).toNatClampNeg 0) := (kx_T (kx_T kx_rf (by omega) (by omega)) (by omega) (by omega))
        have n_18a := n_18.1
        have n_18b := n_18.2.1
        exact ih (sT (sT z_t 24 ((44 + (6 * x1)) + 4).toNatClampNeg (gT z_t 24 ((44 + (6 * x1)) + 4).toNatClampNeg)) 24 ((44 + (6 * x1)) + 5).toNatClampNeg 0) (x1 + 1) (fr_T (fr_T frz_t (by decide)) (by decide)) (so_T (so_T iS (by unfold freeix; omega)) (by unfold freeix; omega)) (kx_T (kx_T iK (by omega) (by omega)) (by omega) (by omega)) (by first | omega | assumption | decide) (by omega)

set_option maxHeartbeats 400000 in
set_option maxRecDepth 20000 in
theorem k_fX9_begins {z_t : Sx} (hS : SOK (gT z_t 24)) : okP (fX9_begins z_t) (fun y => (FrL [24] z_t y) ∧ (SOK (gT y 24)) ∧ (KX z_t y)) := by
  unfold fX9_begins
  have hn := hS.1
  have hr := hS.2.2.1
  try have e_1 : (0 : Int32).toInt = 0 := (show (0 : Int32).toInt = 0 by decide)
  have n_2 : KX z_t (sT (sT z_t 24 3 (gT z_t 24 2)) 24 4 0) := (kx_T (kx_T kx_rf (by omega) (by omega)) (by omega) (by omega))
  have n_2a := n_2.1
  have n_2b := n_2.2.1
  refine kl_lX9_begins_21  FU (sT (sT z_t 24 3 (gT z_t 24 2)) 24 4 0) 0 (fr_T (fr_T fr_rf (by decide)) (by decide)) (so_T (so_T hS (by unfold freeix; omega)) (by unfold freeix; omega)) (kx_T (kx_T kx_rf (by omega) (by omega)) (by omega) (by omega)) (by first | omega | assumption | decide) (FU_lt (by have := n_rng (gT (sT (sT z_t 24 3 (gT z_t 24 2)) 24 4 0) 24 0); omega))


set_option maxHeartbeats 400000 in
set_option maxRecDepth 20000 in
theorem kl_lX9_comesOut_5 {o_z_t : Sx} {x1 : Int32} : ∀ (n : Nat) (z_t : Sx) (x2 : Int64) (x4 : Int32), (FrL [24] o_z_t z_t) → (SOK (gT z_t 24)) → (KX o_z_t z_t) → (0 ≤ x4.toInt) → ((gT o_z_t 24 8).toInt - x4.toInt).toNat < n → okP (lX9_comesOut_5 x1 n z_t x2 x4) (fun y => (FrL [24] o_z_t y.2) ∧ (SOK (gT y.2 24)) ∧ (KX o_z_t y.2)) := by
  intro n
  induction n with
  | zero => intro _ _ _ _ _ _ _ hm; omega
  | succ n ih =>
    intro z_t x2 x4 frz_t iS iK i0 hm
    rw [lX9_comesOut_5]
    have iKa := iK.1
    have iKb := iK.2.1
    have hn := iS.1
    have hr := iS.2.2.1
    refine ok_ite (fun c_1 => ?_) (fun c_1 => ?_)
    · skip
      have r_2 := n_rng (gT z_t 24 8)
      have r_3 := n_rng x4
      have c_1i : (gT z_t 24 8).toInt ≤ x4.toInt := bI_le rfl rfl c_1
      exact ok_some ⟨frz_t, iS, iK⟩
    · skip
      have r_4 := n_rng (gT z_t 24 8)
      have r_5 := n_rng x4
      have c_1i : (gT z_t 24 8).toInt > x4.toInt := bI_nle rfl rfl c_1
      have e_6 : (10 + x4).toInt = (10 + x4.toInt) := (i32_add (show (10 : Int32).toInt = 10 by decide) rfl (by omega) (by omega))
      refine ok_gd (inb_of (by omega) (by omega)) ?_
      have i_7 : ((10 + x4).toNatClampNeg : Int) = (10 + x4).toInt := clampI (by omega)
      refine ok_bd (t_fX9_isOf) (fun r4 q_8 => ?_)
      have h_9 : r4 = 0 ∨ r4 = 1 := q_8
      have h_9i := bool_i h_9
      clear q_8
      have hw := so_row iS (x := x4) (by omega) (by omega)
      refine ok_bd (t_fX9_canLook (by first | omega | assumption | decide | (show 0 ≤ (gT z_t 24 (10 + x4).toNatClampNeg).toInt ∧ (gT z_t 24 (10 + x4).toNatClampNeg).toInt < (gT z_t 24 0).toInt; first | omega | assumption)) iS) (fun r6 q_10 => ?_)
      have h_11 : r6 = 0 ∨ r6 = 1 := q_10
      have h_11i := bool_i h_11
      clear q_10
      refine ok_jn ?_
      refine ok_ite (fun c_12 => ?_) (fun c_12 => ?_)
      · skip
        have r_13 := n_rng r6
        have c_12i : r6.toInt = 0 := bI_eq rfl (show (0 : Int32).toInt = 0 by decide) c_12
        refine ok_ite (fun c_14 => ?_) (fun c_14 => ?_)
        · skip
          have r_15 := n_rng r4
          have c_14i : r4.toInt = 0 := bI_eq rfl (show (0 : Int32).toInt = 0 by decide) c_14
          try have e_16 : (x4 + 1).toInt = (x4.toInt + 1) := (i32_add rfl (show (1 : Int32).toInt = 1 by decide) (by omega) (by omega))
          exact ih z_t (x2 * 100) (x4 + 1) frz_t iS iK (by first | omega | assumption | decide) (by omega)
        · skip
          have r_17 := n_rng r4
          have c_14i : r4.toInt ≠ 0 := bI_neq rfl (show (0 : Int32).toInt = 0 by decide) c_14
          exact ok_some ⟨frz_t, iS, iK⟩
      · skip
        have r_18 := n_rng r6
        have c_12i : r6.toInt ≠ 0 := bI_neq rfl (show (0 : Int32).toInt = 0 by decide) c_12
        have e_20 : (1 : Int32).toInt = 1 := (show (1 : Int32).toInt = 1 by decide)
        refine ok_bd (t_fX9_faultOf (by first | omega | assumption | decide | (show 0 ≤ (gT z_t 24 (10 + x4).toNatClampNeg).toInt ∧ (gT z_t 24 (10 + x4).toNatClampNeg).toInt ≤ 9; first | omega | assumption)) (by first | omega | assumption | decide | (show 0 ≤ (1 : Int32).toInt ∧ (1 : Int32).toInt ≤ 5; first | omega | assumption))) (fun r12 q_19 => ?_)
        have h_21 : r12 = gT z_t 24 (((44 + (6 * (gT z_t 24 (10 + x4).toNatClampNeg))) + (1 : Int32)).toNatClampNeg) := q_19
        clear q_19
        refine ok_jn ?_
        refine ok_ite (fun c_22 => ?_) (fun c_22 => ?_)
        · skip
          have r_23 := n_rng r4
          have c_22i : r4.toInt = 0 := bI_eq rfl (show (0 : Int32).toInt = 0 by decide) c_22
          have e_25 : (2 : Int32).toInt = 2 := (show (2 : Int32).toInt = 2 by decide)
          refine ok_bd (t_fX9_faultOf (by first | omega | assumption | decide | (show 0 ≤ (gT z_t 24 (10 + x4).toNatClampNeg).toInt ∧ (gT z_t 24 (10 + x4).toNatClampNeg).toInt ≤ 9; first | omega | assumption)) (by first | omega | assumption | decide | (show 0 ≤ (2 : Int32).toInt ∧ (2 : Int32).toInt ≤ 5; first | omega | assumption))) (fun r23 q_24 => ?_)
          have h_26 : r23 = gT (sT z_t 24 3 ((gT z_t 24 3) - r12)) 24 (((44 + (6 * (gT z_t 24 (10 + x4).toNatClampNeg))) + (2 : Int32)).toNatClampNeg) := q_24
          clear q_24
          refine ok_ite (fun c_27 => ?_) (fun c_27 => ?_)
          · skip
            have c_27i : r4.toInt = 0 := bI_eq rfl (show (0 : Int32).toInt = 0 by decide) c_27
            try have e_28 : (x4 + 1).toInt = (x4.toInt + 1) := (i32_add rfl (show (1 : Int32).toInt = 1 by decide) (by omega) (by omega))
            have n_29 : KX z_t (sT z_t 24 3 ((gT z_t 24 3) - r12)) := (kx_T kx_rf (by omega) (by omega))
            have n_29a := n_29.1
            have n_29b := n_29.2.1
            exact ih (sT z_t 24 3 ((gT z_t 24 3) - r12)) (x2 * (100 - r23).toInt64) (x4 + 1) (fr_T frz_t (by decide)) (so_T iS (by unfold freeix; omega)) (kx_T iK (by omega) (by omega)) (by first | omega | assumption | decide) (by omega)
          · skip
            have c_27i : r4.toInt ≠ 0 := bI_neq rfl (show (0 : Int32).toInt = 0 by decide) c_27
            have r_30 := n_rng (gT z_t 24 (10 + x4).toNatClampNeg)
            have e_31 : ((44 + (6 * (gT z_t 24 (10 + x4).toNatClampNeg))) + 4).toInt = ((44 + (6 * (gT z_t 24 (10 + x4).toNatClampNeg).toInt)) + 4) := (i32_add (i32_add (show (44 : Int32).toInt = 44 by decide) (i32_mul (show (6 : Int32).toInt = 6 by decide) rfl (by omega) (by omega)) (by omega) (by omega)) (show (4 : Int32).toInt = 4 by decide) (by omega) (by omega))
            refine ok_gd (inb_of (by omega) (by omega)) ?_
            have i_32 : (((44 + (6 * (gT z_t 24 (10 + x4).toNatClampNeg))) + 4).toNatClampNeg : Int) = ((44 + (6 * (gT z_t 24 (10 + x4).toNatClampNeg))) + 4).toInt := clampI (by omega)
            have e_34 : (0 : Int32).toInt = 0 := (show (0 : Int32).toInt = 0 by decide)
            have n_35 : KX z_t (sT (sT z_t 24 3 ((gT z_t 24 3) - r12)) 24 ((44 + (6 * (gT z_t 24 (10 + x4).toNatClampNeg))) + 4).toNatClampNeg 1) := (kx_T (kx_T kx_rf (by omega) (by omega)) (by omega) (by omega))
            have n_35a := n_35.1
            have n_35b := n_35.2.1
            refine ok_bd (t_fX9_kindOf (by first | omega | assumption | decide | (show 0 ≤ (gT z_t 24 (10 + x4).toNatClampNeg).toInt ∧ (gT z_t 24 (10 + x4).toNatClampNeg).toInt < (gT (sT (sT z_t 24 3 ((gT z_t 24 3) - r12)) 24 ((44 + (6 * (gT z_t 24 (10 + x4).toNatClampNeg))) + 4).toNatClampNeg 1) 24 0).toInt; first | omega | assumption)) (by first | omega | assumption | decide | (show 0 ≤ (0 : Int32).toInt ∧ (0 : Int32).toInt ≤ 2; first | omega | assumption)) (so_T (so_T iS (by unfold freeix; omega)) (by unfold freeix; omega))) (fun r19 q_33 => ?_)
            refine ok_nm ?_
            try have e_36 : (x4 + 1).toInt = (x4.toInt + 1) := (i32_add rfl (show (1 : Int32).toInt = 1 by decide) (by omega) (by omega))
            have n_37 : KX z_t (sT (sT (sT z_t 24 3 ((gT z_t 24 3) - r12)) 24 ((44 + (6 * (gT z_t 24 (10 + x4).toNatClampNeg))) + 4).toNatClampNeg 1) 24 4 ((gT (sT (sT z_t 24 3 ((gT z_t 24 3) - r12)) 24 ((44 + (6 * (gT z_t 24 (10 + x4).toNatClampNeg))) + 4).toNatClampNeg 1) 24 4) + r19)) := (kx_T (kx_T (kx_T kx_rf (by omega) (by omega)) (by omega) (by omega)) (by omega) (by omega))
            have n_37a := n_37.1
            have n_37b := n_37.2.1
            exact ih (sT (sT (sT z_t 24 3 ((gT z_t 24 3) - r12)) 24 ((44 + (6 * (gT z_t 24 (10 + x4).toNatClampNeg))) + 4).toNatClampNeg 1) 24 4 ((gT (sT (sT z_t 24 3 ((gT z_t 24 3) - r12)) 24 ((44 + (6 * (gT z_t 24 (10 + x4).toNatClampNeg))) + 4).toNatClampNeg 1) 24 4) + r19)) (x2 * (100 - r23).toInt64) (x4 + 1) (fr_T (fr_T (fr_T frz_t (by decide)) (by decide)) (by decide)) (so_T (so_T (so_T iS (by unfold freeix; omega)) (by unfold freeix; omega)) (by unfold freeix; omega)) (kx_T (kx_T (kx_T iK (by omega) (by omega)) (by omega) (by omega)) (by omega) (by omega)) (by first | omega | assumption | decide) (by omega)
        · skip
          have r_38 := n_rng r4
          have c_22i : r4.toInt ≠ 0 := bI_neq rfl (show (0 : Int32).toInt = 0 by decide) c_22
          have e_40 : (2 : Int32).toInt = 2 := (show (2 : Int32).toInt = 2 by decide)
          refine ok_bd (t_fX9_faultOf (by first | omega | assumption | decide | (show 0 ≤ (gT z_t 24 (10 + x4).toNatClampNeg).toInt ∧ (gT z_t 24 (10 + x4).toNatClampNeg).toInt ≤ 9; first | omega | assumption)) (by first | omega | assumption | decide | (show 0 ≤ (2 : Int32).toInt ∧ (2 : Int32).toInt ≤ 5; first | omega | assumption))) (fun r25 q_39 => ?_)
          have h_41 : r25 = gT (sT z_t 24 3 ((gT z_t 24 3) - r12)) 24 (((44 + (6 * (gT z_t 24 (10 + x4).toNatClampNeg))) + (2 : Int32)).toNatClampNeg) := q_39
          clear q_39
          refine ok_ite (fun c_42 => ?_) (fun c_42 => ?_)
          · skip
            have c_42i : r4.toInt = 0 := bI_eq rfl (show (0 : Int32).toInt = 0 by decide) c_42
            try have e_43 : (x4 + 1).toInt = (x4.toInt + 1) := (i32_add rfl (show (1 : Int32).toInt = 1 by decide) (by omega) (by omega))
            have n_44 : KX z_t (sT z_t 24 3 ((gT z_t 24 3) - r12)) := (kx_T kx_rf (by omega) (by omega))
            have n_44a := n_44.1
            have n_44b := n_44.2.1
            exact ih (sT z_t 24 3 ((gT z_t 24 3) - r12)) (x2 * r25.toInt64) (x4 + 1) (fr_T frz_t (by decide)) (so_T iS (by unfold freeix; omega)) (kx_T iK (by omega) (by omega)) (by first | omega | assumption | decide) (by omega)
          · skip
            have c_42i : r4.toInt ≠ 0 := bI_neq rfl (show (0 : Int32).toInt = 0 by decide) c_42
            have r_45 := n_rng (gT z_t 24 (10 + x4).toNatClampNeg)
            have e_46 : ((44 + (6 * (gT z_t 24 (10 + x4).toNatClampNeg))) + 4).toInt = ((44 + (6 * (gT z_t 24 (10 + x4).toNatClampNeg).toInt)) + 4) := (i32_add (i32_add (show (44 : Int32).toInt = 44 by decide) (i32_mul (show (6 : Int32).toInt = 6 by decide) rfl (by omega) (by omega)) (by omega) (by omega)) (show (4 : Int32).toInt = 4 by decide) (by omega) (by omega))
            refine ok_gd (inb_of (by omega) (by omega)) ?_
            have i_47 : (((44 + (6 * (gT z_t 24 (10 + x4).toNatClampNeg))) + 4).toNatClampNeg : Int) = ((44 + (6 * (gT z_t 24 (10 + x4).toNatClampNeg))) + 4).toInt := clampI (by omega)
            have e_49 : (0 : Int32).toInt = 0 := (show (0 : Int32).toInt = 0 by decide)
            have n_50 : KX z_t (sT (sT z_t 24 3 ((gT z_t 24 3) - r12)) 24 ((44 + (6 * (gT z_t 24 (10 + x4).toNatClampNeg))) + 4).toNatClampNeg 1) := (kx_T (kx_T kx_rf (by omega) (by omega)) (by omega) (by omega))
            have n_50a := n_50.1
            have n_50b := n_50.2.1
            refine ok_bd (t_fX9_kindOf (by first | omega | assumption | decide | (show 0 ≤ (gT z_t 24 (10 + x4).toNatClampNeg).toInt ∧ (gT z_t 24 (10 + x4).toNatClampNeg).toInt < (gT (sT (sT z_t 24 3 ((gT z_t 24 3) - r12)) 24 ((44 + (6 * (gT z_t 24 (10 + x4).toNatClampNeg))) + 4).toNatClampNeg 1) 24 0).toInt; first | omega | assumption)) (by first | omega | assumption | decide | (show 0 ≤ (0 : Int32).toInt ∧ (0 : Int32).toInt ≤ 2; first | omega | assumption)) (so_T (so_T iS (by unfold freeix; omega)) (by unfold freeix; omega))) (fun r19 q_48 => ?_)
            refine ok_nm ?_
            try have e_51 : (x4 + 1).toInt = (x4.toInt + 1) := (i32_add rfl (show (1 : Int32).toInt = 1 by decide) (by omega) (by omega))
            have n_52 : KX z_t (sT (sT (sT z_t 24 3 ((gT z_t 24 3) - r12)) 24 ((44 + (6 * (gT z_t 24 (10 + x4).toNatClampNeg))) + 4).toNatClampNeg 1) 24 4 ((gT (sT (sT z_t 24 3 ((gT z_t 24 3) - r12)) 24 ((44 + (6 * (gT z_t 24 (10 + x4).toNatClampNeg))) + 4).toNatClampNeg 1) 24 4) + r19)) := (kx_T (kx_T (kx_T kx_rf (by omega) (by omega)) (by omega) (by omega)) (by omega) (by omega))
            have n_52a := n_52.1
            have n_52b := n_52.2.1
            exact ih (sT (sT (sT z_t 24 3 ((gT z_t 24 3) - r12)) 24 ((44 + (6 * (gT z_t 24 (10 + x4).toNatClampNeg))) + 4).toNatClampNeg 1) 24 4 ((gT (sT (sT z_t 24 3 ((gT z_t 24 3) - r12)) 24 ((44 + (6 * (gT z_t 24 (10 + x4).toNatClampNeg))) + 4).toNatClampNeg 1) 24 4) + r19)) (x2 * r25.toInt64) (x4 + 1) (fr_T (fr_T (fr_T frz_t (by decide)) (by decide)) (by decide)) (so_T (so_T (so_T iS (by unfold freeix; omega)) (by unfold freeix; omega)) (by unfold freeix; omega)) (kx_T (kx_T (kx_T iK (by omega) (by omega)) (by omega) (by omega)) (by omega) (by omega)) (by first | omega | assumption | decide) (by omega)

set_option maxHeartbeats 400000 in
set_option maxRecDepth 20000 in
theorem k_fX9_comesOut {z_t : Sx} {x1 : Int32} (hS : SOK (gT z_t 24)) : okP (fX9_comesOut z_t x1) (fun y => (FrL [24] z_t y.2) ∧ (SOK (gT y.2 24)) ∧ (KX z_t y.2)) := by
  unfold fX9_comesOut
  have hn := hS.1
  have hr := hS.2.2.1
  try have e_1 : (0 : Int32).toInt = 0 := (show (0 : Int32).toInt = 0 by decide)
  refine kl_lX9_comesOut_5  FU z_t 1 0 fr_rf hS kx_rf (by first | omega | assumption | decide) (FU_lt (by omega))


set_option maxHeartbeats 400000 in
set_option maxRecDepth 20000 in
theorem k_fX9_looks {z_t : Sx} {x1 : Int32} (p1 : 0 ≤ x1.toInt ∧ x1.toInt < (gT z_t 24 0).toInt) (hS : SOK (gT z_t 24)) : okP (fX9_looks z_t x1) (fun y => (y.1 = 0 ∨ y.1 = 1) ∧ (FrL [24] z_t y.2) ∧ (SOK (gT y.2 24)) ∧ (KX z_t y.2)) := by
  unfold fX9_looks
  have hn := hS.1
  have hr := hS.2.2.1
  have r_1 := n_rng x1
  have e_2 : ((44 + (6 * x1)) + 5).toInt = ((44 + (6 * x1.toInt)) + 5) := (i32_add (i32_add (show (44 : Int32).toInt = 44 by decide) (i32_mul (show (6 : Int32).toInt = 6 by decide) rfl (by omega) (by omega)) (by omega) (by omega)) (show (5 : Int32).toInt = 5 by decide) (by omega) (by omega))
  refine ok_gd (inb_of (by omega) (by omega)) ?_
  have i_3 : (((44 + (6 * x1)) + 5).toNatClampNeg : Int) = ((44 + (6 * x1)) + 5).toInt := clampI (by omega)
  have e_4 : ((44 + (6 * x1)) + 1).toInt = ((44 + (6 * x1.toInt)) + 1) := (i32_add (i32_add (show (44 : Int32).toInt = 44 by decide) (i32_mul (show (6 : Int32).toInt = 6 by decide) rfl (by omega) (by omega)) (by omega) (by omega)) (show (1 : Int32).toInt = 1 by decide) (by omega) (by omega))
  refine ok_gd (inb_of (by omega) (by omega)) ?_
  have i_5 : (((44 + (6 * x1)) + 1).toNatClampNeg : Int) = ((44 + (6 * x1)) + 1).toInt := clampI (by omega)
  refine ok_nm ?_
  have e_7 : (100 : Int32).toInt = 100 := (show (100 : Int32).toInt = 100 by decide)
  have n_8 : KX z_t (sT (sT z_t 24 ((44 + (6 * x1)) + 5).toNatClampNeg ((gT z_t 24 ((44 + (6 * x1)) + 5).toNatClampNeg) + 1)) 24 3 ((gT (sT z_t 24 ((44 + (6 * x1)) + 5).toNatClampNeg ((gT z_t 24 ((44 + (6 * x1)) + 5).toNatClampNeg) + 1)) 24 3) - (gT (sT z_t 24 ((44 + (6 * x1)) + 5).toNatClampNeg ((gT z_t 24 ((44 + (6 * x1)) + 5).toNatClampNeg) + 1)) 24 ((44 + (6 * x1)) + 1).toNatClampNeg))) := (kx_T (kx_T kx_rf (by omega) (by omega)) (by omega) (by omega))
  have n_8a := n_8.1
  have n_8b := n_8.2.1
  refine ok_bd2 (k_fX9_draw (by first | omega | assumption | decide | (show ¬ (100 : Int32) = 0; first | omega | assumption)) (so_T (so_T hS (by unfold freeix; omega)) (by unfold freeix; omega))) (fun r5 z6 q_6 => ?_)
  have h_9 : FrL [24] (sT (sT z_t 24 ((44 + (6 * x1)) + 5).toNatClampNeg ((gT z_t 24 ((44 + (6 * x1)) + 5).toNatClampNeg) + 1)) 24 3 ((gT (sT z_t 24 ((44 + (6 * x1)) + 5).toNatClampNeg ((gT z_t 24 ((44 + (6 * x1)) + 5).toNatClampNeg) + 1)) 24 3) - (gT (sT z_t 24 ((44 + (6 * x1)) + 5).toNatClampNeg ((gT z_t 24 ((44 + (6 * x1)) + 5).toNatClampNeg) + 1)) 24 ((44 + (6 * x1)) + 1).toNatClampNeg))) z6 := q_6.1
  have h_10 : SOK (gT z6 24) := q_6.2.1
  have h_11 : KX (sT (sT z_t 24 ((44 + (6 * x1)) + 5).toNatClampNeg ((gT z_t 24 ((44 + (6 * x1)) + 5).toNatClampNeg) + 1)) 24 3 ((gT (sT z_t 24 ((44 + (6 * x1)) + 5).toNatClampNeg ((gT z_t 24 ((44 + (6 * x1)) + 5).toNatClampNeg) + 1)) 24 3) - (gT (sT z_t 24 ((44 + (6 * x1)) + 5).toNatClampNeg ((gT z_t 24 ((44 + (6 * x1)) + 5).toNatClampNeg) + 1)) 24 ((44 + (6 * x1)) + 1).toNatClampNeg))) z6 := q_6.2.2
  have h_11a := h_11.1
  have h_11b := h_11.2.1
  clear q_6
  have e_12 : ((44 + (6 * x1)) + 2).toInt = ((44 + (6 * x1.toInt)) + 2) := (i32_add (i32_add (show (44 : Int32).toInt = 44 by decide) (i32_mul (show (6 : Int32).toInt = 6 by decide) rfl (by omega) (by omega)) (by omega) (by omega)) (show (2 : Int32).toInt = 2 by decide) (by omega) (by omega))
  refine ok_gd (inb_of (by omega) (by omega)) ?_
  have i_13 : (((44 + (6 * x1)) + 2).toNatClampNeg : Int) = ((44 + (6 * x1)) + 2).toInt := clampI (by omega)
  refine ok_ite (fun c_14 => ?_) (fun c_14 => ?_)
  · skip
    have r_15 := n_rng r5
    have r_16 := n_rng (gT z6 24 ((44 + (6 * x1)) + 2).toNatClampNeg)
    have c_14i : r5.toInt < (gT z6 24 ((44 + (6 * x1)) + 2).toNatClampNeg).toInt := bI_lt rfl rfl c_14
    have e_17 : ((44 + (6 * x1)) + 4).toInt = ((44 + (6 * x1.toInt)) + 4) := (i32_add (i32_add (show (44 : Int32).toInt = 44 by decide) (i32_mul (show (6 : Int32).toInt = 6 by decide) rfl (by omega) (by omega)) (by omega) (by omega)) (show (4 : Int32).toInt = 4 by decide) (by omega) (by omega))
    refine ok_gd (inb_of (by omega) (by omega)) ?_
    have i_18 : (((44 + (6 * x1)) + 4).toNatClampNeg : Int) = ((44 + (6 * x1)) + 4).toInt := clampI (by omega)
    have e_20 : (0 : Int32).toInt = 0 := (show (0 : Int32).toInt = 0 by decide)
    have n_21 : KX z6 (sT z6 24 ((44 + (6 * x1)) + 4).toNatClampNeg 1) := (kx_T kx_rf (by omega) (by omega))
    have n_21a := n_21.1
    have n_21b := n_21.2.1
    refine ok_bd (t_fX9_kindOf (by first | omega | assumption | decide | (show 0 ≤ x1.toInt ∧ x1.toInt < (gT (sT z6 24 ((44 + (6 * x1)) + 4).toNatClampNeg 1) 24 0).toInt; first | omega | assumption)) (by first | omega | assumption | decide | (show 0 ≤ (0 : Int32).toInt ∧ (0 : Int32).toInt ≤ 2; first | omega | assumption)) (so_T h_10 (by unfold freeix; omega))) (fun r11 q_19 => ?_)
    refine ok_nm ?_
    exact ok_some ⟨Or.inr rfl, (fr_T (fr_T (fr_tr (fr_T (fr_T fr_rf (by decide)) (by decide)) h_9 (by decide)) (by decide)) (by decide)), (so_T (so_T h_10 (by unfold freeix; omega)) (by unfold freeix; omega)), (kx_T (kx_T (kx_tr (kx_T (kx_T kx_rf (by omega) (by omega)) (by omega) (by omega)) h_11) (by omega) (by omega)) (by omega) (by omega))⟩
  · skip
    have r_22 := n_rng r5
    have r_23 := n_rng (gT z6 24 ((44 + (6 * x1)) + 2).toNatClampNeg)
    have c_14i : r5.toInt ≥ (gT z6 24 ((44 + (6 * x1)) + 2).toNatClampNeg).toInt := bI_nlt rfl rfl c_14
    exact ok_some ⟨Or.inl rfl, (fr_tr (fr_T (fr_T fr_rf (by decide)) (by decide)) h_9 (by decide)), h_10, (kx_tr (kx_T (kx_T kx_rf (by omega) (by omega)) (by omega) (by omega)) h_11)⟩


set_option maxHeartbeats 400000 in
set_option maxRecDepth 20000 in
theorem kl_lX9_passes_2 {t : Nat} {o_z_t : Sx} {x1 : Int32} (pt : x1.toInt = t) (hR : RK o_z_t t) : ∀ (n : Nat) (z_t : Sx) (x2 : Int32), (FrL [21, 22, 23, 24] o_z_t z_t) → (SOK (gT z_t 24)) → (KX o_z_t z_t) → (200 + 0 - x2.toInt).toNat < n → okP (lX9_passes_2 x1 n z_t x2) (fun y => (FrL [21, 22, 23, 24] o_z_t y.2) ∧ (SOK (gT y.2 24)) ∧ (KX o_z_t y.2)) := by
  intro n
  induction n with
  | zero => intro _ _ _ _ _ hm; omega
  | succ n ih =>
    intro z_t x2 frz_t iS iK hm
    rw [lX9_passes_2]
    have iKa := iK.1
    have iKb := iK.2.1
    have hn := iS.1
    have hr := iS.2.2.1
    refine ok_ite (fun c_1 => ?_) (fun c_1 => ?_)
    · skip
      have r_2 := n_rng x2
      have c_1i : 200 ≤ x2.toInt := bI_le (show (200 : Int32).toInt = 200 by decide) rfl c_1
      exact ok_some ⟨frz_t, iS, iK⟩
    · skip
      have r_3 := n_rng x2
      have c_1i : 200 > x2.toInt := bI_nle (show (200 : Int32).toInt = 200 by decide) rfl c_1
      refine ok_bd2 (t_fX9_nextFor (t := t) (by first | omega | assumption | decide | (show x1.toInt = t; first | omega | assumption)) iS (rk_fr frz_t (by decide) hR)) (fun r3 z4 q_4 => ?_)
      have h_5 : FrL [21, 22, 23] z_t z4 := q_4.1
      have h_6 : -1 ≤ r3.toInt ∧ r3.toInt < (gT z_t 24 0).toInt := q_4.2
      clear q_4
      have n_7 : KX z_t z4 := kx_fr kx_rf h_5 (by decide)
      have n_7a := n_7.1
      have n_7b := n_7.2.1
      refine ok_ite (fun c_8 => ?_) (fun c_8 => ?_)
      · skip
        have r_9 := n_rng r3
        have c_8i : 0 ≤ r3.toInt := bI_le (show (0 : Int32).toInt = 0 by decide) rfl c_8
        refine ok_bd2 (k_fX9_looks (by first | omega | assumption | decide | (show 0 ≤ r3.toInt ∧ r3.toInt < (gT z4 24 0).toInt; first | omega | assumption)) (so_fr h_5 (by decide) iS)) (fun r7 z8 q_10 => ?_)
        have h_11 : r7 = 0 ∨ r7 = 1 := q_10.1
        have h_11i := bool_i h_11
        have h_12 : FrL [24] z4 z8 := q_10.2.1
        have h_13 : SOK (gT z8 24) := q_10.2.2.1
        have h_14 : KX z4 z8 := q_10.2.2.2
        have h_14a := h_14.1
        have h_14b := h_14.2.1
        clear q_10
        try have e_15 : (x2 + 1).toInt = (x2.toInt + 1) := (i32_add rfl (show (1 : Int32).toInt = 1 by decide) (by omega) (by omega))
        exact ih z8 (x2 + 1) (fr_tr (fr_tr frz_t h_5 (by decide)) h_12 (by decide)) h_13 (kx_tr (kx_fr iK h_5 (by decide)) h_14) (by omega)
      · skip
        have r_16 := n_rng r3
        have c_8i : 0 > r3.toInt := bI_nle (show (0 : Int32).toInt = 0 by decide) rfl c_8
        exact ok_some ⟨(fr_tr frz_t h_5 (by decide)), (so_fr h_5 (by decide) iS), (kx_fr iK h_5 (by decide))⟩

set_option maxHeartbeats 400000 in
set_option maxRecDepth 20000 in
theorem k_fX9_passes {z_t : Sx} {x1 : Int32} {t : Nat} (pt : x1.toInt = t) (hS : SOK (gT z_t 24)) (hR : RK z_t t) : okP (fX9_passes z_t x1) (fun y => (FrL [21, 22, 23, 24] z_t y.2) ∧ (SOK (gT y.2 24)) ∧ (KX z_t y.2)) := by
  unfold fX9_passes
  have hn := hS.1
  have hr := hS.2.2.1
  try have e_1 : (0 : Int32).toInt = 0 := (show (0 : Int32).toInt = 0 by decide)
  refine kl_lX9_passes_2 (t := t) (by first | omega | assumption | decide) hR FU z_t 0 fr_rf hS kx_rf (FU_lt (by omega))


set_option maxHeartbeats 400000 in
set_option maxRecDepth 20000 in
theorem k_fX9_day {z_t : Sx} {x1 : Int32} (hU : RU z_t) (hS : SOK (gT z_t 24)) : okP (fX9_day z_t x1) (fun y => (FrL [21, 22, 23, 24] z_t y.2) ∧ (SOK (gT y.2 24)) ∧ (KX z_t y.2)) := by
  unfold fX9_day
  have hn := hS.1
  have hr := hS.2.2.1
  refine ok_bd (t_fX9_isWork) (fun r2 q_1 => ?_)
  have h_2 : r2 = 0 ∨ r2 = 1 := q_1.1
  have h_2i := bool_i h_2
  have h_3 : (r2.toInt = 1 ∧ 0 < (gT z_t 24 0).toInt) ∨ r2.toInt = 0 := q_1.2
  clear q_1
  refine ok_jn ?_
  refine ok_ite (fun c_4 => ?_) (fun c_4 => ?_)
  · skip
    have r_5 := n_rng r2
    have c_4i : r2.toInt = 0 := bI_eq rfl (show (0 : Int32).toInt = 0 by decide) c_4
    exact ok_some ⟨fr_rf, hS, kx_rf⟩
  · skip
    have r_6 := n_rng r2
    have c_4i : r2.toInt ≠ 0 := bI_neq rfl (show (0 : Int32).toInt = 0 by decide) c_4
    refine ok_bd (t_fX9_isRule) (fun r6 q_7 => ?_)
    have h_8 : r6 = 0 ∨ r6 = 1 := q_7.1
    have h_8i := bool_i h_8
    have h_9 : (r6.toInt = 1 ∧ 0 ≤ x1.toInt ∧ x1.toInt < (gI z_t 2).toInt) ∨ r6.toInt = 0 := q_7.2
    clear q_7
    refine ok_ite (fun c_10 => ?_) (fun c_10 => ?_)
    · skip
      have r_11 := n_rng r6
      have c_10i : r6.toInt = 0 := bI_eq rfl (show (0 : Int32).toInt = 0 by decide) c_10
      exact ok_some ⟨fr_rf, hS, kx_rf⟩
    · skip
      have r_12 := n_rng r6
      have c_10i : r6.toInt ≠ 0 := bI_neq rfl (show (0 : Int32).toInt = 0 by decide) c_10
      have hR : RK z_t x1.toNatClampNeg := hU.2.2 _ (by have := clampI (x := x1) (by omega); omega)
      refine ok_bd2 (k_fX9_passes (t := x1.toNatClampNeg) (by exact (clampI (x := x1) (by omega)).symm) hS hR) (fun r9 z10 q_13 => ?_)
      have h_14 : FrL [21, 22, 23, 24] z_t z10 := q_13.1
      have h_15 : SOK (gT z10 24) := q_13.2.1
      have h_16 : KX z_t z10 := q_13.2.2
      have h_16a := h_16.1
      have h_16b := h_16.2.1
      clear q_13
      exact ok_some ⟨(fr_tr fr_rf h_14 (by decide)), h_15, (kx_tr kx_rf h_16)⟩


set_option maxHeartbeats 400000 in
set_option maxRecDepth 20000 in
theorem k_fX9_fine {z_t : Sx} {x1 : Int32} (hS : SOK (gT z_t 24)) : okP (fX9_fine z_t x1) (fun y => (FrL [24] z_t y.2) ∧ (SOK (gT y.2 24)) ∧ (KX z_t y.2)) := by
  unfold fX9_fine
  have hn := hS.1
  have hr := hS.2.2.1
  refine ok_bd (t_fX9_isWork) (fun r2 q_1 => ?_)
  have h_2 : r2 = 0 ∨ r2 = 1 := q_1.1
  have h_2i := bool_i h_2
  have h_3 : (r2.toInt = 1 ∧ 0 < (gT z_t 24 0).toInt) ∨ r2.toInt = 0 := q_1.2
  clear q_1
  refine ok_jn ?_
  refine ok_ite (fun c_4 => ?_) (fun c_4 => ?_)
  · skip
    have r_5 := n_rng r2
    have c_4i : r2.toInt = 0 := bI_eq rfl (show (0 : Int32).toInt = 0 by decide) c_4
    exact ok_some ⟨fr_rf, hS, kx_rf⟩
  · skip
    have r_6 := n_rng r2
    have c_4i : r2.toInt ≠ 0 := bI_neq rfl (show (0 : Int32).toInt = 0 by decide) c_4
    have r_8 := n_rng x1
    have e_9 : x1.toInt64.toInt = x1.toInt := (l64_of rfl)
    have e_10 : (0 : Int64).toInt = 0 := (show (0 : Int64).toInt = 0 by decide)
    have e_11 : (999 : Int64).toInt = 999 := (show (999 : Int64).toInt = 999 by decide)
    refine ok_bd (t_fX9_in) (fun r6 q_7 => ?_)
    have h_12 : r6 = 0 ∨ r6 = 1 := q_7.1
    have h_12i := bool_i h_12
    have h_13 : (r6.toInt = 1 ∧ (0 : Int64).toInt ≤ x1.toInt64.toInt ∧ x1.toInt64.toInt ≤ (999 : Int64).toInt) ∨ (r6.toInt = 0 ∧ (x1.toInt64.toInt < (0 : Int64).toInt ∨ (999 : Int64).toInt < x1.toInt64.toInt)) := q_7.2
    clear q_7
    refine ok_ite (fun c_14 => ?_) (fun c_14 => ?_)
    · skip
      have r_15 := n_rng r6
      have c_14i : r6.toInt = 0 := bI_eq rfl (show (0 : Int32).toInt = 0 by decide) c_14
      exact ok_some ⟨fr_rf, hS, kx_rf⟩
    · skip
      have r_16 := n_rng r6
      have c_14i : r6.toInt ≠ 0 := bI_neq rfl (show (0 : Int32).toInt = 0 by decide) c_14
      exact ok_some ⟨(fr_T fr_rf (by decide)), (so_T hS (by unfold freeix; omega)), (kx_T kx_rf (by omega) (by omega))⟩


set_option maxHeartbeats 400000 in
set_option maxRecDepth 20000 in
theorem k_fX9_look {z_t : Sx} {x1 : Int32} (hS : SOK (gT z_t 24)) : okP (fX9_look z_t x1) (fun y => (FrL [24] z_t y.2) ∧ (SOK (gT y.2 24)) ∧ (KX z_t y.2)) := by
  unfold fX9_look
  have hn := hS.1
  have hr := hS.2.2.1
  refine ok_bd (t_fX9_isFault) (fun r2 q_1 => ?_)
  have h_2 : r2 = 0 ∨ r2 = 1 := q_1.1
  have h_2i := bool_i h_2
  have h_3 : (r2.toInt = 1 ∧ 0 ≤ x1.toInt ∧ x1.toInt < (gT z_t 24 0).toInt) ∨ r2.toInt = 0 := q_1.2
  clear q_1
  refine ok_ite (fun c_4 => ?_) (fun c_4 => ?_)
  · skip
    have r_5 := n_rng r2
    have c_4i : r2.toInt = 0 := bI_eq rfl (show (0 : Int32).toInt = 0 by decide) c_4
    exact ok_some ⟨fr_rf, hS, kx_rf⟩
  · skip
    have r_6 := n_rng r2
    have c_4i : r2.toInt ≠ 0 := bI_neq rfl (show (0 : Int32).toInt = 0 by decide) c_4
    refine ok_bd (t_fX9_isOpen (by first | omega | assumption | decide | (show 0 ≤ x1.toInt ∧ x1.toInt < (gT z_t 24 0).toInt; first | omega | assumption)) hS) (fun r5 q_7 => ?_)
    have h_8 : r5 = 0 ∨ r5 = 1 := q_7
    have h_8i := bool_i h_8
    clear q_7
    refine ok_ite (fun c_9 => ?_) (fun c_9 => ?_)
    · skip
      have r_10 := n_rng r5
      have c_9i : r5.toInt = 0 := bI_eq rfl (show (0 : Int32).toInt = 0 by decide) c_9
      exact ok_some ⟨fr_rf, hS, kx_rf⟩
    · skip
      have r_11 := n_rng r5
      have c_9i : r5.toInt ≠ 0 := bI_neq rfl (show (0 : Int32).toInt = 0 by decide) c_9
      refine ok_bd (t_fX9_canLook (by first | omega | assumption | decide | (show 0 ≤ x1.toInt ∧ x1.toInt < (gT z_t 24 0).toInt; first | omega | assumption)) hS) (fun r8 q_12 => ?_)
      have h_13 : r8 = 0 ∨ r8 = 1 := q_12
      have h_13i := bool_i h_13
      clear q_12
      refine ok_ite (fun c_14 => ?_) (fun c_14 => ?_)
      · skip
        have r_15 := n_rng r8
        have c_14i : r8.toInt = 0 := bI_eq rfl (show (0 : Int32).toInt = 0 by decide) c_14
        exact ok_some ⟨fr_rf, hS, kx_rf⟩
      · skip
        have r_16 := n_rng r8
        have c_14i : r8.toInt ≠ 0 := bI_neq rfl (show (0 : Int32).toInt = 0 by decide) c_14
        refine ok_bd2 (k_fX9_looks (by first | omega | assumption | decide | (show 0 ≤ x1.toInt ∧ x1.toInt < (gT z_t 24 0).toInt; first | omega | assumption)) hS) (fun r11 z12 q_17 => ?_)
        have h_18 : r11 = 0 ∨ r11 = 1 := q_17.1
        have h_18i := bool_i h_18
        have h_19 : FrL [24] z_t z12 := q_17.2.1
        have h_20 : SOK (gT z12 24) := q_17.2.2.1
        have h_21 : KX z_t z12 := q_17.2.2.2
        have h_21a := h_21.1
        have h_21b := h_21.2.1
        clear q_17
        refine ok_ite (fun c_22 => ?_) (fun c_22 => ?_)
        · skip
          have r_23 := n_rng r11
          have c_22i : r11.toInt = 0 := bI_eq rfl (show (0 : Int32).toInt = 0 by decide) c_22
          exact ok_some ⟨(fr_tr fr_rf h_19 (by decide)), h_20, (kx_tr kx_rf h_21)⟩
        · skip
          have r_24 := n_rng r11
          have c_22i : r11.toInt ≠ 0 := bI_neq rfl (show (0 : Int32).toInt = 0 by decide) c_22
          exact ok_some ⟨(fr_tr fr_rf h_19 (by decide)), h_20, (kx_tr kx_rf h_21)⟩


set_option maxHeartbeats 400000 in
set_option maxRecDepth 20000 in
theorem k_fX9_mend {z_t : Sx} {x1 : Int32} (hS : SOK (gT z_t 24)) : okP (fX9_mend z_t x1) (fun y => (FrL [24] z_t y.2) ∧ (SOK (gT y.2 24)) ∧ (KX z_t y.2)) := by
  unfold fX9_mend
  have hn := hS.1
  have hr := hS.2.2.1
  refine ok_bd (t_fX9_isFault) (fun r2 q_1 => ?_)
  have h_2 : r2 = 0 ∨ r2 = 1 := q_1.1
  have h_2i := bool_i h_2
  have h_3 : (r2.toInt = 1 ∧ 0 ≤ x1.toInt ∧ x1.toInt < (gT z_t 24 0).toInt) ∨ r2.toInt = 0 := q_1.2
  clear q_1
  refine ok_jn ?_
  refine ok_ite (fun c_4 => ?_) (fun c_4 => ?_)
  · skip
    have r_5 := n_rng r2
    have c_4i : r2.toInt = 0 := bI_eq rfl (show (0 : Int32).toInt = 0 by decide) c_4
    exact ok_some ⟨fr_rf, hS, kx_rf⟩
  · skip
    have r_6 := n_rng r2
    have c_4i : r2.toInt ≠ 0 := bI_neq rfl (show (0 : Int32).toInt = 0 by decide) c_4
    have e_8 : (4 : Int32).toInt = 4 := (show (4 : Int32).toInt = 4 by decide)
    refine ok_bd (t_fX9_faultOf (by first | omega | assumption | decide | (show 0 ≤ x1.toInt ∧ x1.toInt ≤ 9; first | omega | assumption)) (by first | omega | assumption | decide | (show 0 ≤ (4 : Int32).toInt ∧ (4 : Int32).toInt ≤ 5; first | omega | assumption))) (fun r6 q_7 => ?_)
    have h_9 : r6 = gT z_t 24 (((44 + (6 * x1)) + (4 : Int32)).toNatClampNeg) := q_7
    clear q_7
    refine ok_ite (fun c_10 => ?_) (fun c_10 => ?_)
    · skip
      have r_11 := n_rng r6
      have c_10i : r6.toInt ≤ 0 := bI_le rfl (show (0 : Int32).toInt = 0 by decide) c_10
      have r_12 := n_rng x1
      have e_13 : ((44 + (6 * x1)) + 4).toInt = ((44 + (6 * x1.toInt)) + 4) := (i32_add (i32_add (show (44 : Int32).toInt = 44 by decide) (i32_mul (show (6 : Int32).toInt = 6 by decide) rfl (by omega) (by omega)) (by omega) (by omega)) (show (4 : Int32).toInt = 4 by decide) (by omega) (by omega))
      refine ok_gd (inb_of (by omega) (by omega)) ?_
      have i_14 : (((44 + (6 * x1)) + 4).toNatClampNeg : Int) = ((44 + (6 * x1)) + 4).toInt := clampI (by omega)
      have e_16 : (2 : Int32).toInt = 2 := (show (2 : Int32).toInt = 2 by decide)
      have n_17 : KX z_t (sT z_t 24 ((44 + (6 * x1)) + 4).toNatClampNeg 2) := (kx_T kx_rf (by omega) (by omega))
      have n_17a := n_17.1
      have n_17b := n_17.2.1
      refine ok_bd (t_fX9_kindOf (by first | omega | assumption | decide | (show 0 ≤ x1.toInt ∧ x1.toInt < (gT (sT z_t 24 ((44 + (6 * x1)) + 4).toNatClampNeg 2) 24 0).toInt; first | omega | assumption)) (by first | omega | assumption | decide | (show 0 ≤ (2 : Int32).toInt ∧ (2 : Int32).toInt ≤ 2; first | omega | assumption)) (so_T hS (by unfold freeix; omega))) (fun r10 q_15 => ?_)
      refine ok_nm ?_
      exact ok_some ⟨(fr_T (fr_T fr_rf (by decide)) (by decide)), (so_T (so_T hS (by unfold freeix; omega)) (by unfold freeix; omega)), (kx_T (kx_T kx_rf (by omega) (by omega)) (by omega) (by omega))⟩
    · skip
      have r_18 := n_rng r6
      have c_10i : r6.toInt > 0 := bI_nle rfl (show (0 : Int32).toInt = 0 by decide) c_10
      exact ok_some ⟨fr_rf, hS, kx_rf⟩


set_option maxHeartbeats 400000 in
set_option maxRecDepth 20000 in
theorem k_fX9_seed {z_t : Sx} {x1 : Int32} (hS : SOK (gT z_t 24)) : okP (fX9_seed z_t x1) (fun y => (FrL [24] z_t y.2) ∧ (SOK (gT y.2 24)) ∧ (KX z_t y.2)) := by
  unfold fX9_seed
  have hn := hS.1
  have hr := hS.2.2.1
  refine ok_ite (fun c_1 => ?_) (fun c_1 => ?_)
  · skip
    have r_2 := n_rng x1
    have c_1i : 0 ≤ x1.toInt := bI_le (show (0 : Int32).toInt = 0 by decide) rfl c_1
    exact ok_some ⟨(fr_T fr_rf (by decide)), (so_T hS (by unfold freeix; omega)), (kx_T kx_rf (by omega) (by omega))⟩
  · skip
    have r_3 := n_rng x1
    have c_1i : 0 > x1.toInt := bI_nle (show (0 : Int32).toInt = 0 by decide) rfl c_1
    exact ok_some ⟨fr_rf, hS, kx_rf⟩


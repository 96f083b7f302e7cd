set_option maxHeartbeats 400000 in
set_option maxRecDepth 20000 in
theorem t_fX9_in {x0 : Int64} {x2 : Int64} {x4 : Int64} : okP (fX9_in x0 x2 x4) (fun y => (y = 0 ∨ y = 1) ∧ ((y.toInt = 1 ∧ x2.toInt ≤ x0.toInt ∧ x0.toInt ≤ x4.toInt) ∨ (y.toInt = 0 ∧ (x0.toInt < x2.toInt ∨ x4.toInt < x0.toInt)))) := by
  unfold fX9_in
  refine ok_ite (fun c_1 => ?_) (fun c_1 => ?_)
  · skip
    have c_1i : x0.toInt < x2.toInt := lI_lt rfl rfl c_1
    try have e_2 : (0 : Int32).toInt = 0 := (show (0 : Int32).toInt = 0 by decide)
    exact ok_some ⟨Or.inl rfl, (show ((0 : Int32).toInt = 1 ∧ x2.toInt ≤ x0.toInt ∧ x0.toInt ≤ x4.toInt) ∨ ((0 : Int32).toInt = 0 ∧ (x0.toInt < x2.toInt ∨ x4.toInt < x0.toInt)) by first | exact Or.inl ⟨by decide, by omega, by omega⟩ | exact Or.inr ⟨by decide, by omega⟩)⟩
  · skip
    have c_1i : x0.toInt ≥ x2.toInt := lI_nlt rfl rfl c_1
    refine ok_ite (fun c_3 => ?_) (fun c_3 => ?_)
    · skip
      have c_3i : x4.toInt < x0.toInt := lI_lt rfl rfl c_3
      try have e_4 : (0 : Int32).toInt = 0 := (show (0 : Int32).toInt = 0 by decide)
      exact ok_some ⟨Or.inl rfl, (show ((0 : Int32).toInt = 1 ∧ x2.toInt ≤ x0.toInt ∧ x0.toInt ≤ x4.toInt) ∨ ((0 : Int32).toInt = 0 ∧ (x0.toInt < x2.toInt ∨ x4.toInt < x0.toInt)) by first | exact Or.inl ⟨by decide, by omega, by omega⟩ | exact Or.inr ⟨by decide, by omega⟩)⟩
    · skip
      have c_3i : x4.toInt ≥ x0.toInt := lI_nlt rfl rfl c_3
      try have e_5 : (1 : Int32).toInt = 1 := (show (1 : Int32).toInt = 1 by decide)
      exact ok_some ⟨Or.inr rfl, (show ((1 : Int32).toInt = 1 ∧ x2.toInt ≤ x0.toInt ∧ x0.toInt ≤ x4.toInt) ∨ ((1 : Int32).toInt = 0 ∧ (x0.toInt < x2.toInt ∨ x4.toInt < x0.toInt)) by first | exact Or.inl ⟨by decide, by omega, by omega⟩ | exact Or.inr ⟨by decide, by omega⟩)⟩

set_option maxHeartbeats 400000 in
set_option maxRecDepth 20000 in
theorem tl_lX9_begins_21 {o_z_t : Sx} : ∀ (n : Nat) (z_t : Sx) (x1 : Int32), (FrL [24] o_z_t z_t) → (SOK (gT z_t 24)) → (KC o_z_t z_t) → (0 ≤ x1.toInt) → ((gT z_t 24 0).toInt + 0 - x1.toInt).toNat < n → okP (lX9_begins_21 n z_t x1) (fun y => (FrL [24] o_z_t y) ∧ (SOK (gT y 24)) ∧ (KC o_z_t y)) := by
  intro n
  induction n with
  | zero => intro _ _ _ _ _ _ hm; omega
  | succ n ih =>
    intro z_t x1 frz_t iS iK i0 hm
    rw [lX9_begins_21]
    have iKa := iK.1
    have iKb := iK.2
    have hn := iS.1
    have hr := iS.2.2.1
    refine ok_ite (fun c_1 => ?_) (fun c_1 => ?_)
    · skip
      have r_2 := n_rng (gT z_t 24 0)
      have r_3 := n_rng x1
      have c_1i : (gT z_t 24 0).toInt ≤ x1.toInt := bI_le rfl rfl c_1
      exact ok_some ⟨frz_t, iS, iK⟩
    · skip
      have r_4 := n_rng (gT z_t 24 0)
      have r_5 := n_rng x1
      have c_1i : (gT z_t 24 0).toInt > x1.toInt := bI_nle rfl rfl c_1
      have e_6 : ((44 + (6 * x1)) + 4).toInt = ((44 + (6 * x1.toInt)) + 4) := (i32_add (i32_add (show (44 : Int32).toInt = 44 by decide) (i32_mul (show (6 : Int32).toInt = 6 by decide) rfl (by omega) (by omega)) (by omega) (by omega)) (show (4 : Int32).toInt = 4 by decide) (by omega) (by omega))
      refine ok_gd (inb_of (by omega) (by omega)) ?_
      have i_7 : (((44 + (6 * x1)) + 4).toNatClampNeg : Int) = ((44 + (6 * x1)) + 4).toInt := clampI (by omega)
      refine ok_jn ?_
      refine ok_ite (fun c_8 => ?_) (fun c_8 => ?_)
      · skip
        have r_9 := n_rng (gT z_t 24 ((44 + (6 * x1)) + 4).toNatClampNeg)
        have c_8i : (gT z_t 24 ((44 + (6 * x1)) + 4).toNatClampNeg).toInt = 1 := bI_eq rfl (show (1 : Int32).toInt = 1 by decide) c_8
        refine ok_gd (inb_of (by omega) (by omega)) ?_
        have e_10 : ((44 + (6 * x1)) + 5).toInt = ((44 + (6 * x1.toInt)) + 5) := (i32_add (i32_add (show (44 : Int32).toInt = 44 by decide) (i32_mul (show (6 : Int32).toInt = 6 by decide) rfl (by omega) (by omega)) (by omega) (by omega)) (show (5 : Int32).toInt = 5 by decide) (by omega) (by omega))
        refine ok_gd (inb_of (by omega) (by omega)) ?_
        have i_11 : (((44 + (6 * x1)) + 5).toNatClampNeg : Int) = ((44 + (6 * x1)) + 5).toInt := clampI (by omega)
        try have e_12 : (x1 + 1).toInt = (x1.toInt + 1) := (i32_add rfl (show (1 : Int32).toInt = 1 by decide) (by omega) (by omega))
        have n_13 : KC z_t (sT (sT z_t 24 ((44 + (6 * x1)) + 4).toNatClampNeg 0) 24 ((44 + (6 * x1)) + 5).toNatClampNeg 0) := (kc_T (kc_T kc_rf (by omega) (by omega)) (by omega) (by omega))
        have n_13a := n_13.1
        have n_13b := n_13.2
        exact ih (sT (sT z_t 24 ((44 + (6 * x1)) + 4).toNatClampNeg 0) 24 ((44 + (6 * x1)) + 5).toNatClampNeg 0) (x1 + 1) (fr_T (fr_T frz_t (by decide)) (by decide)) (so_T (so_T iS (by unfold freeix; omega)) (by unfold freeix; omega)) (kc_T (kc_T iK (by omega) (by omega)) (by omega) (by omega)) (by first | omega | assumption | decide) (by omega)
      · skip
        have r_14 := n_rng (gT z_t 24 ((44 + (6 * x1)) + 4).toNatClampNeg)
        have c_8i : (gT z_t 24 ((44 + (6 * x1)) + 4).toNatClampNeg).toInt ≠ 1 := bI_neq rfl (show (1 : Int32).toInt = 1 by decide) c_8
        refine ok_gd (inb_of (by omega) (by omega)) ?_
        have e_15 : ((44 + (6 * x1)) + 5).toInt = ((44 + (6 * x1.toInt)) + 5) := (i32_add (i32_add (show (44 : Int32).toInt = 44 by decide) (i32_mul (show (6 : Int32).toInt = 6 by decide) rfl (by omega) (by omega)) (by omega) (by omega)) (show (5 : Int32).toInt = 5 by decide) (by omega) (by omega))
        refine ok_gd (inb_of (by omega) (by omega)) ?_
        have i_16 : (((44 + (6 * x1)) + 5).toNatClampNeg : Int) = ((44 + (6 * x1)) + 5).toInt := clampI (by omega)
        try have e_17 : (x1 + 1).toInt = (x1.toInt + 1) := (i32_add rfl (show (1 : Int32).toInt = 1 by decide) (by omega) (by omega))
        have n_18 : KC z_t (sT (sT z_t 24 ((44 + (6 * x1)) + 4).toNatClampNeg (gT z_t 24 ((44 + (6 * x1)) + 4).toNatClampNeg)) 24 ((44 + (6 * x1)) + 5).toNatClampNeg 0) := (kc_T (kc_T kc_rf (by omega) (by omega)) (by omega) (by omega))
        have n_18a := n_18.1
        have n_18b := n_18.2
        exact ih (sT (sT z_t 24 ((44 + (6 * x1)) + 4).toNatClampNeg (gT z_t 24 ((44 + (6 * x1)) + 4).toNatClampNeg)) 24 ((44 + (6 * x1)) + 5).toNatClampNeg 0) (x1 + 1) (fr_T (fr_T frz_t (by decide)) (by decide)) (so_T (so_T iS (by unfold freeix; omega)) (by unfold freeix; omega)) (kc_T (kc_T iK (by omega) (by omega)) (by omega) (by omega)) (by first | omega | assumption | decide) (by omega)
set_option maxHeartbeats 400000 in
set_option maxRecDepth 20000 in
theorem t_fX9_begins {z_t : Sx} (hS : SOK (gT z_t 24)) : okP (fX9_begins z_t) (fun y => (FrL [24] z_t y) ∧ (SOK (gT y 24)) ∧ (KC z_t y)) := by
  unfold fX9_begins
  have hn := hS.1
  have hr := hS.2.2.1
  try have e_1 : (0 : Int32).toInt = 0 := (show (0 : Int32).toInt = 0 by decide)
  have n_2 : KC z_t (sT (sT z_t 24 3 (gT z_t 24 2)) 24 4 0) := (kc_T (kc_T kc_rf (by omega) (by omega)) (by omega) (by omega))
  have n_2a := n_2.1
  have n_2b := n_2.2
  refine tl_lX9_begins_21  FU (sT (sT z_t 24 3 (gT z_t 24 2)) 24 4 0) 0 (fr_T (fr_T fr_rf (by decide)) (by decide)) (so_T (so_T hS (by unfold freeix; omega)) (by unfold freeix; omega)) (kc_T (kc_T kc_rf (by omega) (by omega)) (by omega) (by omega)) (by first | omega | assumption | decide) (FU_lt (by have := n_rng (gT (sT (sT z_t 24 3 (gT z_t 24 2)) 24 4 0) 24 0); omega))

set_option maxHeartbeats 400000 in
set_option maxRecDepth 20000 in
theorem t_fX9_isWork {z_t : Sx} : okP (fX9_isWork z_t) (fun y => (y = 0 ∨ y = 1) ∧ ((y.toInt = 1 ∧ 0 < (gT z_t 24 0).toInt) ∨ y.toInt = 0)) := by
  unfold fX9_isWork
  refine ok_ite (fun c_1 => ?_) (fun c_1 => ?_)
  · skip
    have r_2 := n_rng (gT z_t 24 0)
    have c_1i : (gT z_t 24 0).toInt ≤ 0 := bI_le rfl (show (0 : Int32).toInt = 0 by decide) c_1
    try have e_3 : (0 : Int32).toInt = 0 := (show (0 : Int32).toInt = 0 by decide)
    exact ok_some ⟨Or.inl rfl, (show ((0 : Int32).toInt = 1 ∧ 0 < (gT z_t 24 0).toInt) ∨ (0 : Int32).toInt = 0 by first | exact Or.inl ⟨by decide, by omega⟩ | exact Or.inr (by decide))⟩
  · skip
    have r_4 := n_rng (gT z_t 24 0)
    have c_1i : (gT z_t 24 0).toInt > 0 := bI_nle rfl (show (0 : Int32).toInt = 0 by decide) c_1
    try have e_5 : (1 : Int32).toInt = 1 := (show (1 : Int32).toInt = 1 by decide)
    exact ok_some ⟨Or.inr rfl, (show ((1 : Int32).toInt = 1 ∧ 0 < (gT z_t 24 0).toInt) ∨ (1 : Int32).toInt = 0 by first | exact Or.inl ⟨by decide, by omega⟩ | exact Or.inr (by decide))⟩

set_option maxHeartbeats 400000 in
set_option maxRecDepth 20000 in
theorem tl_lX9_keeps_2 {o_z_t : Sx} : ∀ (n : Nat) (z_t : Sx) (x1 : Int32), (FrL [25] o_z_t z_t) → (SOK (gT z_t 24)) → (0 ≤ x1.toInt ∧ x1.toInt ≤ 104) → (∀ i : Nat, (i : Int) < x1.toInt → gT z_t 25 i = gT o_z_t 24 i) → (104 + 0 - x1.toInt).toNat < n → okP (lX9_keeps_2 n z_t x1) (fun y => (FrL [25] o_z_t y) ∧ (E104 (gT y 25) (gT o_z_t 24))) := by
  intro n
  induction n with
  | zero => intro _ _ _ _ _ _ hm; omega
  | succ n ih =>
    intro z_t x1 frz_t iS i0 i1 hm
    rw [lX9_keeps_2]
    have hn := iS.1
    have hr := iS.2.2.1
    refine ok_ite (fun c_1 => ?_) (fun c_1 => ?_)
    · skip
      have r_2 := n_rng x1
      have c_1i : 104 ≤ x1.toInt := bI_le (show (104 : Int32).toInt = 104 by decide) rfl c_1
      exact ok_some ⟨frz_t, (show E104 (gT z_t 25) (gT o_z_t 24) by intro i hi; exact i1 i (by omega))⟩
    · skip
      have r_3 := n_rng x1
      have c_1i : 104 > x1.toInt := bI_nle (show (104 : Int32).toInt = 104 by decide) rfl c_1
      refine ok_gd (inb_of (by omega) (by omega)) ?_
      have i_4 : (x1.toNatClampNeg : Int) = x1.toInt := clampI (by omega)
      try have e_5 : (x1 + 1).toInt = (x1.toInt + 1) := (i32_add rfl (show (1 : Int32).toInt = 1 by decide) (by omega) (by omega))
      have n_6 : KC z_t (sT z_t 25 x1.toNatClampNeg (gT z_t 24 x1.toNatClampNeg)) := (kc_Tn kc_rf (by decide))
      have n_6a := n_6.1
      have n_6b := n_6.2
      exact ih (sT z_t 25 x1.toNatClampNeg (gT z_t 24 x1.toNatClampNeg)) (x1 + 1) (fr_T frz_t (by decide)) (so_Tn iS (by decide)) (by first | omega | assumption | decide) (by exact keep_step (show gT z_t 24 = gT o_z_t 24 from (frz_t 24 (by decide)).2.1) (by omega) (by omega) i1) (by omega)
set_option maxHeartbeats 400000 in
set_option maxRecDepth 20000 in
theorem t_fX9_keeps {z_t : Sx} (hS : SOK (gT z_t 24)) : okP (fX9_keeps z_t) (fun y => (FrL [25] z_t y) ∧ (E104 (gT y 25) (gT z_t 24))) := by
  unfold fX9_keeps
  have hn := hS.1
  have hr := hS.2.2.1
  try have e_1 : (0 : Int32).toInt = 0 := (show (0 : Int32).toInt = 0 by decide)
  refine tl_lX9_keeps_2  FU z_t 0 fr_rf hS (by first | omega | assumption | decide) (by intro i hi; omega) (FU_lt (by omega))

set_option maxHeartbeats 400000 in
set_option maxRecDepth 20000 in
theorem t_fX9_faultOf {z_t : Sx} {x1 : Int32} {x2 : Int32} (p1 : 0 ≤ x1.toInt ∧ x1.toInt ≤ 9) (p2 : 0 ≤ x2.toInt ∧ x2.toInt ≤ 5) : okP (fX9_faultOf z_t x1 x2) (fun y => (y = gT z_t 24 (((44 + (6 * x1)) + x2).toNatClampNeg))) := by
  unfold fX9_faultOf
  have r_1 := n_rng x1
  have r_2 := n_rng x2
  have e_3 : ((44 + (6 * x1)) + x2).toInt = ((44 + (6 * x1.toInt)) + x2.toInt) := (i32_add (i32_add (show (44 : Int32).toInt = 44 by decide) (i32_mul (show (6 : Int32).toInt = 6 by decide) rfl (by omega) (by omega)) (by omega) (by omega)) rfl (by omega) (by omega))
  refine ok_gd (inb_of (by omega) (by omega)) ?_
  have i_4 : (((44 + (6 * x1)) + x2).toNatClampNeg : Int) = ((44 + (6 * x1)) + x2).toInt := clampI (by omega)
  exact ok_some (show (gT z_t 24 ((44 + (6 * x1)) + x2).toNatClampNeg) = gT z_t 24 (((44 + (6 * x1)) + x2).toNatClampNeg) by rfl)

set_option maxHeartbeats 400000 in
set_option maxRecDepth 20000 in
theorem t_fX9_kindOf {z_t : Sx} {x1 : Int32} {x2 : Int32} (p1 : 0 ≤ x1.toInt ∧ x1.toInt < (gT z_t 24 0).toInt) (p2 : 0 ≤ x2.toInt ∧ x2.toInt ≤ 2) (hS : SOK (gT z_t 24)) : okP (fX9_kindOf z_t x1 x2) (fun _ => True) := by
  unfold fX9_kindOf
  have hn := hS.1
  have hr := hS.2.2.1
  have e_2 : (0 : Int32).toInt = 0 := (show (0 : Int32).toInt = 0 by decide)
  refine ok_bd (t_fX9_faultOf (by first | omega | assumption | decide | (show 0 ≤ x1.toInt ∧ x1.toInt ≤ 9; first | omega | assumption)) (by first | omega | assumption | decide | (show 0 ≤ (0 : Int32).toInt ∧ (0 : Int32).toInt ≤ 5; first | omega | assumption))) (fun r2 q_1 => ?_)
  have h_3 : r2 = gT z_t 24 (((44 + (6 * x1)) + (0 : Int32)).toNatClampNeg) := q_1
  clear q_1
  have hb := so_kd hS (x := x1) (by omega) (by omega)
  rw [← h_3] at hb
  have r_4 := n_rng r2
  have r_5 := n_rng x2
  have e_6 : ((26 + (3 * r2)) + x2).toInt = ((26 + (3 * r2.toInt)) + x2.toInt) := (i32_add (i32_add (show (26 : Int32).toInt = 26 by decide) (i32_mul (show (3 : Int32).toInt = 3 by decide) rfl (by omega) (by omega)) (by omega) (by omega)) rfl (by omega) (by omega))
  refine ok_gd (inb_of (by omega) (by omega)) ?_
  have i_7 : (((26 + (3 * r2)) + x2).toNatClampNeg : Int) = ((26 + (3 * r2)) + x2).toInt := clampI (by omega)
  exact ok_some trivial

set_option maxHeartbeats 400000 in
set_option maxRecDepth 20000 in
theorem tl_lX9_hidden_4 {z_t : Sx} (hS : SOK (gT z_t 24)) : ∀ (n : Nat) (x1 : Int32) (x2 : Int32), (0 ≤ x2.toInt) → ((gT z_t 24 0).toInt + 0 - x2.toInt).toNat < n → okP (lX9_hidden_4 z_t n x1 x2) (fun _ => True) := by
  intro n
  induction n with
  | zero => intro _ _ _ hm; omega
  | succ n ih =>
    intro x1 x2 i0 hm
    rw [lX9_hidden_4]
    have hn := hS.1
    have hr := hS.2.2.1
    refine ok_ite (fun c_1 => ?_) (fun c_1 => ?_)
    · skip
      have r_2 := n_rng (gT z_t 24 0)
      have r_3 := n_rng x2
      have c_1i : (gT z_t 24 0).toInt ≤ x2.toInt := bI_le rfl rfl c_1
      exact ok_some trivial
    · skip
      have r_4 := n_rng (gT z_t 24 0)
      have r_5 := n_rng x2
      have c_1i : (gT z_t 24 0).toInt > x2.toInt := bI_nle rfl rfl c_1
      have e_7 : (4 : Int32).toInt = 4 := (show (4 : Int32).toInt = 4 by decide)
      refine ok_bd (t_fX9_faultOf (by first | omega | assumption | decide | (show 0 ≤ x2.toInt ∧ x2.toInt ≤ 9; first | omega | assumption)) (by first | omega | assumption | decide | (show 0 ≤ (4 : Int32).toInt ∧ (4 : Int32).toInt ≤ 5; first | omega | assumption))) (fun r3 q_6 => ?_)
      have h_8 : r3 = gT z_t 24 (((44 + (6 * x2)) + (4 : Int32)).toNatClampNeg) := q_6
      clear q_6
      refine ok_jn ?_
      refine ok_ite (fun c_9 => ?_) (fun c_9 => ?_)
      · skip
        have r_10 := n_rng r3
        have c_9i : r3.toInt = 0 := bI_eq rfl (show (0 : Int32).toInt = 0 by decide) c_9
        have e_12 : (1 : Int32).toInt = 1 := (show (1 : Int32).toInt = 1 by decide)
        refine ok_bd (t_fX9_kindOf (by first | omega | assumption | decide | (show 0 ≤ x2.toInt ∧ x2.toInt < (gT z_t 24 0).toInt; first | omega | assumption)) (by first | omega | assumption | decide | (show 0 ≤ (1 : Int32).toInt ∧ (1 : Int32).toInt ≤ 2; first | omega | assumption)) hS) (fun r9 q_11 => ?_)
        have r_13 := n_rng x1
        have r_14 := n_rng r9
        try have e_15 : (x1 + r9).toInt = (x1.toInt + r9.toInt) := (i32_add rfl rfl (by omega) (by omega))
        try have e_16 : (x2 + 1).toInt = (x2.toInt + 1) := (i32_add rfl (show (1 : Int32).toInt = 1 by decide) (by omega) (by omega))
        exact ih (x1 + r9) (x2 + 1) (by first | omega | assumption | decide) (by omega)
      · skip
        have r_17 := n_rng r3
        have c_9i : r3.toInt ≠ 0 := bI_neq rfl (show (0 : Int32).toInt = 0 by decide) c_9
        have r_18 := n_rng x1
        try have e_19 : (x1 + 0).toInt = (x1.toInt + 0) := (i32_add rfl (show (0 : Int32).toInt = 0 by decide) (by omega) (by omega))
        try have e_20 : (x2 + 1).toInt = (x2.toInt + 1) := (i32_add rfl (show (1 : Int32).toInt = 1 by decide) (by omega) (by omega))
        exact ih (x1 + 0) (x2 + 1) (by first | omega | assumption | decide) (by omega)
set_option maxHeartbeats 400000 in
set_option maxRecDepth 20000 in
theorem t_fX9_hidden {z_t : Sx} (hS : SOK (gT z_t 24)) : okP (fX9_hidden z_t) (fun _ => True) := by
  unfold fX9_hidden
  have hn := hS.1
  have hr := hS.2.2.1
  try have e_1 : (0 : Int32).toInt = 0 := (show (0 : Int32).toInt = 0 by decide)
  refine tl_lX9_hidden_4 hS FU 0 0 (by first | omega | assumption | decide) (FU_lt (by have := n_rng (gT z_t 24 0); omega))

set_option maxHeartbeats 400000 in
set_option maxRecDepth 20000 in
theorem tl_lX9_hundreds_5 {x1 : Int32} (p1 : x1.toInt ≤ 8) : ∀ (n : Nat) (x2 : Int64) (x4 : Int32), (∃ k : Nat, k ≤ 8 ∧ x4.toInt = k ∧ x2.toInt = (100 : Int) ^ k) → (x1.toInt + 0 - x4.toInt).toNat < n → okP (lX9_hundreds_5 x1 n x2 x4) (fun y => (1 ≤ y.toInt ∧ y.toInt ≤ 10000000000000000)) := by
  intro n
  induction n with
  | zero => intro _ _ _ hm; omega
  | succ n ih =>
    intro x2 x4 i0 hm
    rw [lX9_hundreds_5]
    refine ok_ite (fun c_1 => ?_) (fun c_1 => ?_)
    · skip
      have r_2 := n_rng x1
      have r_3 := n_rng x4
      have c_1i : x1.toInt ≤ x4.toInt := bI_le rfl rfl c_1
      exact ok_some (show 1 ≤ x2.toInt ∧ x2.toInt ≤ 10000000000000000 by exact h100b i0)
    · skip
      have r_4 := n_rng x1
      have r_5 := n_rng x4
      have c_1i : x1.toInt > x4.toInt := bI_nle rfl rfl c_1
      try have e_6 : (x4 + 1).toInt = (x4.toInt + 1) := (i32_add rfl (show (1 : Int32).toInt = 1 by decide) (by omega) (by omega))
      exact ih (x2 * 100) (x4 + 1) (by exact h100 i0 (by omega)) (by omega)
set_option maxHeartbeats 400000 in
set_option maxRecDepth 20000 in
theorem t_fX9_hundreds {x1 : Int32} (p1 : x1.toInt ≤ 8) : okP (fX9_hundreds x1) (fun y => (1 ≤ y.toInt ∧ y.toInt ≤ 10000000000000000)) := by
  unfold fX9_hundreds
  try have e_1 : (0 : Int32).toInt = 0 := (show (0 : Int32).toInt = 0 by decide)
  refine tl_lX9_hundreds_5 (by first | omega | assumption | decide) FU 1 0 (by exact ⟨0, by decide, by decide, by decide⟩) (FU_lt (by have := n_rng x1; omega))

set_option maxHeartbeats 400000 in
set_option maxRecDepth 20000 in
theorem t_fX9_isOpen {z_t : Sx} {x1 : Int32} (p1 : 0 ≤ x1.toInt ∧ x1.toInt < (gT z_t 24 0).toInt) (hS : SOK (gT z_t 24)) : okP (fX9_isOpen z_t x1) (fun y => (y = 0 ∨ y = 1)) := by
  unfold fX9_isOpen
  have hn := hS.1
  have hr := hS.2.2.1
  have e_2 : (4 : Int32).toInt = 4 := (show (4 : Int32).toInt = 4 by decide)
  refine ok_bd (t_fX9_faultOf (by first | omega | assumption | decide | (show 0 ≤ x1.toInt ∧ x1.toInt ≤ 9; first | omega | assumption)) (by first | omega | assumption | decide | (show 0 ≤ (4 : Int32).toInt ∧ (4 : Int32).toInt ≤ 5; first | omega | assumption))) (fun r2 q_1 => ?_)
  have h_3 : r2 = gT z_t 24 (((44 + (6 * x1)) + (4 : Int32)).toNatClampNeg) := q_1
  clear q_1
  refine ok_ite (fun c_4 => ?_) (fun c_4 => ?_)
  · skip
    have r_5 := n_rng r2
    have c_4i : r2.toInt = 0 := bI_eq rfl (show (0 : Int32).toInt = 0 by decide) c_4
    have e_7 : (3 : Int32).toInt = 3 := (show (3 : Int32).toInt = 3 by decide)
    refine ok_bd (t_fX9_faultOf (by first | omega | assumption | decide | (show 0 ≤ x1.toInt ∧ x1.toInt ≤ 9; first | omega | assumption)) (by first | omega | assumption | decide | (show 0 ≤ (3 : Int32).toInt ∧ (3 : Int32).toInt ≤ 5; first | omega | assumption))) (fun r5 q_6 => ?_)
    have h_8 : r5 = gT z_t 24 (((44 + (6 * x1)) + (3 : Int32)).toNatClampNeg) := q_6
    clear q_6
    have hb := so_un hS (x := x1) (by omega) (by omega)
    rw [← h_8] at hb
    refine ok_jn ?_
    refine ok_ite (fun c_9 => ?_) (fun c_9 => ?_)
    · skip
      have r_10 := n_rng r5
      have c_9i : r5.toInt < 0 := bI_lt rfl (show (0 : Int32).toInt = 0 by decide) c_9
      exact ok_some (Or.inr rfl)
    · skip
      have r_11 := n_rng r5
      have c_9i : r5.toInt ≥ 0 := bI_nlt rfl (show (0 : Int32).toInt = 0 by decide) c_9
      refine ok_bd (t_fX9_faultOf (by first | omega | assumption | decide | (show 0 ≤ x1.toInt ∧ x1.toInt ≤ 9; first | omega | assumption)) (by first | omega | assumption | decide | (show 0 ≤ (3 : Int32).toInt ∧ (3 : Int32).toInt ≤ 5; first | omega | assumption))) (fun r9 q_12 => ?_)
      have h_13 : r9 = gT z_t 24 (((44 + (6 * x1)) + (3 : Int32)).toNatClampNeg) := q_12
      clear q_12
      have e59 : r9.toInt = r5.toInt := congrArg Int32.toInt (h_13.trans (show r5 = gT z_t 24 (((44 + (6 * x1)) + 3).toNatClampNeg) by assumption).symm)
      refine ok_bd (t_fX9_faultOf (by first | omega | assumption | decide | (show 0 ≤ r9.toInt ∧ r9.toInt ≤ 9; first | omega | assumption)) (by first | omega | assumption | decide | (show 0 ≤ (4 : Int32).toInt ∧ (4 : Int32).toInt ≤ 5; first | omega | assumption))) (fun r11 q_14 => ?_)
      have h_15 : r11 = gT z_t 24 (((44 + (6 * r9)) + (4 : Int32)).toNatClampNeg) := q_14
      clear q_14
      refine ok_ite (fun c_16 => ?_) (fun c_16 => ?_)
      · skip
        have r_17 := n_rng r11
        have c_16i : r11.toInt ≤ 0 := bI_le rfl (show (0 : Int32).toInt = 0 by decide) c_16
        exact ok_some (Or.inl rfl)
      · skip
        have r_18 := n_rng r11
        have c_16i : r11.toInt > 0 := bI_nle rfl (show (0 : Int32).toInt = 0 by decide) c_16
        exact ok_some (Or.inr rfl)
  · skip
    have r_19 := n_rng r2
    have c_4i : r2.toInt ≠ 0 := bI_neq rfl (show (0 : Int32).toInt = 0 by decide) c_4
    exact ok_some (Or.inl rfl)

set_option maxHeartbeats 400000 in
set_option maxRecDepth 20000 in
theorem t_fX9_canLook {z_t : Sx} {x1 : Int32} (p1 : 0 ≤ x1.toInt ∧ x1.toInt < (gT z_t 24 0).toInt) (hS : SOK (gT z_t 24)) : okP (fX9_canLook z_t x1) (fun y => (y = 0 ∨ y = 1)) := by
  unfold fX9_canLook
  have hn := hS.1
  have hr := hS.2.2.1
  refine ok_bd (t_fX9_isOpen (by first | omega | assumption | decide | (show 0 ≤ x1.toInt ∧ x1.toInt < (gT z_t 24 0).toInt; first | omega | assumption)) hS) (fun r2 q_1 => ?_)
  have h_2 : r2 = 0 ∨ r2 = 1 := q_1
  have h_2i := bool_i h_2
  clear q_1
  refine ok_ite (fun c_3 => ?_) (fun c_3 => ?_)
  · skip
    have r_4 := n_rng r2
    have c_3i : r2.toInt = 0 := bI_eq rfl (show (0 : Int32).toInt = 0 by decide) c_3
    exact ok_some (Or.inl rfl)
  · skip
    have r_5 := n_rng r2
    have c_3i : r2.toInt ≠ 0 := bI_neq rfl (show (0 : Int32).toInt = 0 by decide) c_3
    have e_7 : (1 : Int32).toInt = 1 := (show (1 : Int32).toInt = 1 by decide)
    refine ok_bd (t_fX9_faultOf (by first | omega | assumption | decide | (show 0 ≤ x1.toInt ∧ x1.toInt ≤ 9; first | omega | assumption)) (by first | omega | assumption | decide | (show 0 ≤ (1 : Int32).toInt ∧ (1 : Int32).toInt ≤ 5; first | omega | assumption))) (fun r5 q_6 => ?_)
    have h_8 : r5 = gT z_t 24 (((44 + (6 * x1)) + (1 : Int32)).toNatClampNeg) := q_6
    clear q_6
    refine ok_ite (fun c_9 => ?_) (fun c_9 => ?_)
    · skip
      have r_10 := n_rng (gT z_t 24 3)
      have r_11 := n_rng r5
      have c_9i : (gT z_t 24 3).toInt < r5.toInt := bI_lt rfl rfl c_9
      exact ok_some (Or.inl rfl)
    · skip
      have r_12 := n_rng (gT z_t 24 3)
      have r_13 := n_rng r5
      have c_9i : (gT z_t 24 3).toInt ≥ r5.toInt := bI_nlt rfl rfl c_9
      exact ok_some (Or.inr rfl)

set_option maxHeartbeats 400000 in
set_option maxRecDepth 20000 in
theorem tl_lX9_putsBack_2 {o_z_t : Sx} (pk : SOK (gT o_z_t 25)) : ∀ (n : Nat) (z_t : Sx) (x1 : Int32), (FrL [24] o_z_t z_t) → (0 ≤ x1.toInt ∧ x1.toInt ≤ 104) → (∀ i : Nat, (i : Int) < x1.toInt → gT z_t 24 i = gT o_z_t 25 i) → (104 + 0 - x1.toInt).toNat < n → okP (lX9_putsBack_2 n z_t x1) (fun y => (FrL [24] o_z_t y) ∧ (E104 (gT y 24) (gT o_z_t 25)) ∧ (SOK (gT y 24))) := by
  intro n
  induction n with
  | zero => intro _ _ _ _ _ hm; omega
  | succ n ih =>
    intro z_t x1 frz_t i0 i1 hm
    rw [lX9_putsBack_2]
    refine ok_ite (fun c_1 => ?_) (fun c_1 => ?_)
    · skip
      have r_2 := n_rng x1
      have c_1i : 104 ≤ x1.toInt := bI_le (show (104 : Int32).toInt = 104 by decide) rfl c_1
      exact ok_some ⟨frz_t, (show E104 (gT z_t 24) (gT o_z_t 25) by intro i hi; exact i1 i (by omega)), (show SOK (gT z_t 24) by exact sok_eq (fun i hi => i1 i (by omega)) pk)⟩
    · skip
      have r_3 := n_rng x1
      have c_1i : 104 > x1.toInt := bI_nle (show (104 : Int32).toInt = 104 by decide) rfl c_1
      refine ok_gd (inb_of (by omega) (by omega)) ?_
      have i_4 : (x1.toNatClampNeg : Int) = x1.toInt := clampI (by omega)
      try have e_5 : (x1 + 1).toInt = (x1.toInt + 1) := (i32_add rfl (show (1 : Int32).toInt = 1 by decide) (by omega) (by omega))
      exact ih (sT z_t 24 x1.toNatClampNeg (gT z_t 25 x1.toNatClampNeg)) (x1 + 1) (fr_T frz_t (by decide)) (by first | omega | assumption | decide) (by exact back_step (show gT z_t 25 = gT o_z_t 25 from (frz_t 25 (by decide)).2.1) (by omega) (by omega) i1) (by omega)
set_option maxHeartbeats 400000 in
set_option maxRecDepth 20000 in
theorem t_fX9_putsBack {z_t : Sx} (pk : SOK (gT z_t 25)) : okP (fX9_putsBack z_t) (fun y => (FrL [24] z_t y) ∧ (E104 (gT y 24) (gT z_t 25)) ∧ (SOK (gT y 24))) := by
  unfold fX9_putsBack
  try have e_1 : (0 : Int32).toInt = 0 := (show (0 : Int32).toInt = 0 by decide)
  refine tl_lX9_putsBack_2 (by first | omega | assumption | decide) FU z_t 0 fr_rf (by first | omega | assumption | decide) (by intro i hi; omega) (FU_lt (by omega))

set_option maxHeartbeats 400000 in
set_option maxRecDepth 20000 in
theorem tl_lX9_divisor_28 {o_x2 : Int64} : ∀ (n : Nat) (x4 : Int64) (x6 : Int64), (o_x2.toInt ≠ 0 → x4.toInt ≠ 0 ∨ x6.toInt ≠ 0) → x6.toInt.natAbs < n → okP (lX9_divisor_28 n x4 x6) (fun y => (o_x2.toInt ≠ 0 → y.toInt ≠ 0)) := by
  intro n
  induction n with
  | zero => intro _ _ _ hm; omega
  | succ n ih =>
    intro x4 x6 i0 hm
    rw [lX9_divisor_28]
    refine ok_ite (fun c_1 => ?_) (fun c_1 => ?_)
    · skip
      have c_1i : x6.toInt = 0 := lI_eq rfl (show (0 : Int64).toInt = 0 by decide) c_1
      exact ok_some (show o_x2.toInt ≠ 0 → x4.toInt ≠ 0 by first | omega | assumption | trivial)
    · skip
      have c_1i : x6.toInt ≠ 0 := lI_neq rfl (show (0 : Int64).toInt = 0 by decide) c_1
      refine ok_gd (by assumption) ?_
      exact ih x6 (x4 - ((x4 / x6) * x6)) (by intro _; exact Or.inl (by omega)) (by exact Nat.lt_of_lt_of_le (rem_lt (by assumption)) (by omega))
set_option maxHeartbeats 400000 in
set_option maxRecDepth 20000 in
theorem t_fX9_divisor {x0 : Int64} {x2 : Int64} : okP (fX9_divisor x0 x2) (fun y => (x2.toInt ≠ 0 → y.toInt ≠ 0)) := by
  unfold fX9_divisor
  refine ok_jn ?_
  refine ok_ite (fun c_1 => ?_) (fun c_1 => ?_)
  · skip
    have c_1i : 0 ≤ x0.toInt := lI_le (show (0 : Int64).toInt = 0 by decide) rfl c_1
    refine ok_jn ?_
    refine ok_ite (fun c_2 => ?_) (fun c_2 => ?_)
    · skip
      have c_2i : 0 ≤ x2.toInt := lI_le (show (0 : Int64).toInt = 0 by decide) rfl c_2
      refine tl_lX9_divisor_28  FU x0 x2 (by intro q; exact Or.inr (by first | omega | exact neg64 q)) (FU_lt (by exact natAbs64 _))
    · skip
      have c_2i : 0 > x2.toInt := lI_nle (show (0 : Int64).toInt = 0 by decide) rfl c_2
      refine tl_lX9_divisor_28  FU x0 (-x2) (by intro q; exact Or.inr (by first | omega | exact neg64 q)) (FU_lt (by exact natAbs64 _))
  · skip
    have c_1i : 0 > x0.toInt := lI_nle (show (0 : Int64).toInt = 0 by decide) rfl c_1
    refine ok_jn ?_
    refine ok_ite (fun c_3 => ?_) (fun c_3 => ?_)
    · skip
      have c_3i : 0 ≤ x2.toInt := lI_le (show (0 : Int64).toInt = 0 by decide) rfl c_3
      refine tl_lX9_divisor_28  FU (-x0) x2 (by intro q; exact Or.inr (by first | omega | exact neg64 q)) (FU_lt (by exact natAbs64 _))
    · skip
      have c_3i : 0 > x2.toInt := lI_nle (show (0 : Int64).toInt = 0 by decide) rfl c_3
      refine tl_lX9_divisor_28  FU (-x0) (-x2) (by intro q; exact Or.inr (by first | omega | exact neg64 q)) (FU_lt (by exact natAbs64 _))

set_option maxHeartbeats 400000 in
set_option maxRecDepth 20000 in
theorem t_fX9_partOf {x1 : Int64} {x3 : Int64} {x5 : Int32} (p1 : x3.toInt ≠ 0) : okP (fX9_partOf x1 x3 x5) (fun _ => True) := by
  unfold fX9_partOf
  refine ok_jn ?_
  refine ok_ite (fun c_1 => ?_) (fun c_1 => ?_)
  · skip
    have r_2 := n_rng x5
    have c_1i : x5.toInt = 0 := bI_eq rfl (show (0 : Int32).toInt = 0 by decide) c_1
    refine ok_bd (t_fX9_divisor) (fun r4 q_3 => ?_)
    have h_4 : x3.toInt ≠ 0 → r4.toInt ≠ 0 := q_3
    clear q_3
    have hd := h_4 p1
    refine ok_gd (by exact fun q => by rw [q] at hd; exact hd (by decide)) ?_
    exact ok_some trivial
  · skip
    have r_5 := n_rng x5
    have c_1i : x5.toInt ≠ 0 := bI_neq rfl (show (0 : Int32).toInt = 0 by decide) c_1
    refine ok_bd (t_fX9_divisor) (fun r4 q_6 => ?_)
    have h_7 : x3.toInt ≠ 0 → r4.toInt ≠ 0 := q_6
    clear q_6
    have hd := h_7 p1
    refine ok_gd (by exact fun q => by rw [q] at hd; exact hd (by decide)) ?_
    exact ok_some trivial

set_option maxHeartbeats 400000 in
set_option maxRecDepth 20000 in
theorem tl_lX9_bits_4 : ∀ (n : Nat) (x1 : Int32) (x2 : Int32), x2.toUInt32.toNat < n → okP (lX9_bits_4 n x1 x2) (fun _ => True) := by
  intro n
  induction n with
  | zero => intro _ _ hm; omega
  | succ n ih =>
    intro x1 x2 hm
    rw [lX9_bits_4]
    refine ok_ite (fun c_1 => ?_) (fun c_1 => ?_)
    · skip
      have r_2 := n_rng x2
      have c_1i : x2.toInt = 0 := bI_eq rfl (show (0 : Int32).toInt = 0 by decide) c_1
      exact ok_some trivial
    · skip
      have r_3 := n_rng x2
      have c_1i : x2.toInt ≠ 0 := bI_neq rfl (show (0 : Int32).toInt = 0 by decide) c_1
      have r_4 := n_rng x1
      try have e_5 : (x1 + 1).toInt = (x1.toInt + 1) := (i32_add rfl (show (1 : Int32).toInt = 1 by decide) (by omega) (by omega))
      exact ih (x1 + 1) (x2 &&& (x2 - 1))  (by exact Nat.lt_of_lt_of_le (bits_lt (by assumption)) (by omega))
set_option maxHeartbeats 400000 in
set_option maxRecDepth 20000 in
theorem t_fX9_bits {x0 : Int32} : okP (fX9_bits x0) (fun _ => True) := by
  unfold fX9_bits
  try have e_1 : (0 : Int32).toInt = 0 := (show (0 : Int32).toInt = 0 by decide)
  refine tl_lX9_bits_4  FU 0 x0  (FU_lt (by have := x0.toUInt32.toNat_lt; omega))

set_option maxHeartbeats 400000 in
set_option maxRecDepth 20000 in
theorem tl_lX9_checks_28 {x1 : Int32} {x2 : Int32} (p1 : 0 ≤ x1.toInt ∧ x1.toInt ≤ 9999 ∧ 0 ≤ x2.toInt ∧ x2.toInt ≤ 9999) : ∀ (n : Nat) (x3 : Int32), (0 ≤ x3.toInt ∧ x3.toInt ≤ 100) → (101 - x3.toInt).toNat < n → okP (lX9_checks_28 x1 x2 n x3) (fun _ => True) := by
  intro n
  induction n with
  | zero => intro _ _ hm; omega
  | succ n ih =>
    intro x3 i0 hm
    rw [lX9_checks_28]
    have e0 := i0
    refine ok_ite (fun c_1 => ?_) (fun c_1 => ?_)
    · skip
      have r_2 := n_rng (x1 * (100 - x3))
      have r_3 := n_rng (x2 * x3)
      have c_1i : (x1 * (100 - x3)).toInt ≤ (x2 * x3).toInt := bI_le rfl rfl c_1
      exact ok_some trivial
    · skip
      have r_4 := n_rng (x1 * (100 - x3))
      have r_5 := n_rng (x2 * x3)
      have c_1i : (x1 * (100 - x3)).toInt > (x2 * x3).toInt := bI_nle rfl rfl c_1
      have r_6 := n_rng x3
      try have e_7 : (x3 + 1).toInt = (x3.toInt + 1) := (i32_add rfl (show (1 : Int32).toInt = 1 by decide) (by omega) (by omega))
      exact ih (x3 + 1) (by have := ck_lt (x3 := x3) p1 i0 (by assumption); omega) (by omega)
set_option maxHeartbeats 400000 in
set_option maxRecDepth 20000 in
theorem t_fX9_checks {x1 : Int32} {x2 : Int32} : okP (fX9_checks x1 x2) (fun _ => True) := by
  unfold fX9_checks
  have r_2 := n_rng x1
  have e_3 : x1.toInt64.toInt = x1.toInt := (l64_of rfl)
  have e_4 : (0 : Int64).toInt = 0 := (show (0 : Int64).toInt = 0 by decide)
  have e_5 : (9999 : Int64).toInt = 9999 := (show (9999 : Int64).toInt = 9999 by decide)
  refine ok_bd (t_fX9_in) (fun r2 q_1 => ?_)
  have h_6 : r2 = 0 ∨ r2 = 1 := q_1.1
  have h_6i := bool_i h_6
  have h_7 : (r2.toInt = 1 ∧ (0 : Int64).toInt ≤ x1.toInt64.toInt ∧ x1.toInt64.toInt ≤ (9999 : Int64).toInt) ∨ (r2.toInt = 0 ∧ (x1.toInt64.toInt < (0 : Int64).toInt ∨ (9999 : Int64).toInt < x1.toInt64.toInt)) := q_1.2
  clear q_1
  refine ok_ite (fun c_8 => ?_) (fun c_8 => ?_)
  · skip
    have r_9 := n_rng r2
    have c_8i : r2.toInt = 0 := bI_eq rfl (show (0 : Int32).toInt = 0 by decide) c_8
    exact ok_some trivial
  · skip
    have r_10 := n_rng r2
    have c_8i : r2.toInt ≠ 0 := bI_neq rfl (show (0 : Int32).toInt = 0 by decide) c_8
    have r_12 := n_rng x2
    have e_13 : x2.toInt64.toInt = x2.toInt := (l64_of rfl)
    refine ok_bd (t_fX9_in) (fun r5 q_11 => ?_)
    have h_14 : r5 = 0 ∨ r5 = 1 := q_11.1
    have h_14i := bool_i h_14
    have h_15 : (r5.toInt = 1 ∧ (0 : Int64).toInt ≤ x2.toInt64.toInt ∧ x2.toInt64.toInt ≤ (9999 : Int64).toInt) ∨ (r5.toInt = 0 ∧ (x2.toInt64.toInt < (0 : Int64).toInt ∨ (9999 : Int64).toInt < x2.toInt64.toInt)) := q_11.2
    clear q_11
    refine ok_ite (fun c_16 => ?_) (fun c_16 => ?_)
    · skip
      have r_17 := n_rng r5
      have c_16i : r5.toInt = 0 := bI_eq rfl (show (0 : Int32).toInt = 0 by decide) c_16
      exact ok_some trivial
    · skip
      have r_18 := n_rng r5
      have c_16i : r5.toInt ≠ 0 := bI_neq rfl (show (0 : Int32).toInt = 0 by decide) c_16
      try have e_19 : (0 : Int32).toInt = 0 := (show (0 : Int32).toInt = 0 by decide)
      refine tl_lX9_checks_28 (by first | omega | assumption | decide) FU 0 (by omega) (FU_lt (by omega))

set_option maxHeartbeats 400000 in
set_option maxRecDepth 20000 in
theorem tl_lX9_thatAre_4 {z_t : Sx} {x1 : Int32} (hS : SOK (gT z_t 24)) : ∀ (n : Nat) (x2 : Int32) (x3 : Int32), (0 ≤ x3.toInt) → ((gT z_t 24 0).toInt + 0 - x3.toInt).toNat < n → okP (lX9_thatAre_4 z_t x1 n x2 x3) (fun _ => True) := by
  intro n
  induction n with
  | zero => intro _ _ _ hm; omega
  | succ n ih =>
    intro x2 x3 i0 hm
    rw [lX9_thatAre_4]
    have hn := hS.1
    have hr := hS.2.2.1
    refine ok_ite (fun c_1 => ?_) (fun c_1 => ?_)
    · skip
      have r_2 := n_rng (gT z_t 24 0)
      have r_3 := n_rng x3
      have c_1i : (gT z_t 24 0).toInt ≤ x3.toInt := bI_le rfl rfl c_1
      exact ok_some trivial
    · skip
      have r_4 := n_rng (gT z_t 24 0)
      have r_5 := n_rng x3
      have c_1i : (gT z_t 24 0).toInt > x3.toInt := bI_nle rfl rfl c_1
      have e_7 : (4 : Int32).toInt = 4 := (show (4 : Int32).toInt = 4 by decide)
      refine ok_bd (t_fX9_faultOf (by first | omega | assumption | decide | (show 0 ≤ x3.toInt ∧ x3.toInt ≤ 9; first | omega | assumption)) (by first | omega | assumption | decide | (show 0 ≤ (4 : Int32).toInt ∧ (4 : Int32).toInt ≤ 5; first | omega | assumption))) (fun r3 q_6 => ?_)
      have h_8 : r3 = gT z_t 24 (((44 + (6 * x3)) + (4 : Int32)).toNatClampNeg) := q_6
      clear q_6
      refine ok_jn ?_
      refine ok_ite (fun c_9 => ?_) (fun c_9 => ?_)
      · skip
        have r_10 := n_rng r3
        have r_11 := n_rng x1
        have c_9i : r3.toInt = x1.toInt := bI_eq rfl rfl c_9
        try have e_12 : (x3 + 1).toInt = (x3.toInt + 1) := (i32_add rfl (show (1 : Int32).toInt = 1 by decide) (by omega) (by omega))
        exact ih (x2 ||| ((1 : Int32) <<< (x3 &&& 31))) (x3 + 1) (by first | omega | assumption | decide) (by omega)
      · skip
        have r_13 := n_rng r3
        have r_14 := n_rng x1
        have c_9i : r3.toInt ≠ x1.toInt := bI_neq rfl rfl c_9
        try have e_15 : (x3 + 1).toInt = (x3.toInt + 1) := (i32_add rfl (show (1 : Int32).toInt = 1 by decide) (by omega) (by omega))
        exact ih (x2 ||| 0) (x3 + 1) (by first | omega | assumption | decide) (by omega)
set_option maxHeartbeats 400000 in
set_option maxRecDepth 20000 in
theorem t_fX9_thatAre {z_t : Sx} {x1 : Int32} (hS : SOK (gT z_t 24)) : okP (fX9_thatAre z_t x1) (fun _ => True) := by
  unfold fX9_thatAre
  have hn := hS.1
  have hr := hS.2.2.1
  try have e_1 : (0 : Int32).toInt = 0 := (show (0 : Int32).toInt = 0 by decide)
  refine tl_lX9_thatAre_4 hS FU 0 0 (by first | omega | assumption | decide) (FU_lt (by have := n_rng (gT z_t 24 0); omega))

set_option maxHeartbeats 400000 in
set_option maxRecDepth 20000 in
theorem t_fX9_words {z_t : Sx} {x1 : Int32} (p1 : 0 ≤ x1.toInt ∧ x1.toInt < (gT z_t 24 0).toInt) (hS : SOK (gT z_t 24)) : okP (fX9_words z_t x1) (fun y => (FrL [23] z_t y)) := by
  unfold fX9_words
  have hn := hS.1
  have hr := hS.2.2.1
  have e_2 : (0 : Int32).toInt = 0 := (show (0 : Int32).toInt = 0 by decide)
  refine ok_bd (t_fX9_faultOf (by first | omega | assumption | decide | (show 0 ≤ x1.toInt ∧ x1.toInt ≤ 9; first | omega | assumption)) (by first | omega | assumption | decide | (show 0 ≤ (0 : Int32).toInt ∧ (0 : Int32).toInt ≤ 5; first | omega | assumption))) (fun r2 q_1 => ?_)
  have h_3 : r2 = gT z_t 24 (((44 + (6 * x1)) + (0 : Int32)).toNatClampNeg) := q_1
  clear q_1
  have n_5 : KC z_t (sJ (sJ z_t 23 0 x1.toInt64) 23 1 r2.toInt64) := (kc_J (kc_J kc_rf))
  have n_5a := n_5.1
  have n_5b := n_5.2
  refine ok_bd (t_fX9_kindOf (by first | omega | assumption | decide | (show 0 ≤ x1.toInt ∧ x1.toInt < (gT z_t 24 0).toInt; first | omega | assumption)) (by first | omega | assumption | decide | (show 0 ≤ (0 : Int32).toInt ∧ (0 : Int32).toInt ≤ 2; first | omega | assumption)) (so_J (so_J hS))) (fun r4 q_4 => ?_)
  have e_7 : (2 : Int32).toInt = 2 := (show (2 : Int32).toInt = 2 by decide)
  refine ok_bd (t_fX9_faultOf (by first | omega | assumption | decide | (show 0 ≤ x1.toInt ∧ x1.toInt ≤ 9; first | omega | assumption)) (by first | omega | assumption | decide | (show 0 ≤ (2 : Int32).toInt ∧ (2 : Int32).toInt ≤ 5; first | omega | assumption))) (fun r6 q_6 => ?_)
  have h_8 : r6 = gT z_t 24 (((44 + (6 * x1)) + (2 : Int32)).toNatClampNeg) := q_6
  clear q_6
  have e_10 : (1 : Int32).toInt = 1 := (show (1 : Int32).toInt = 1 by decide)
  refine ok_bd (t_fX9_faultOf (by first | omega | assumption | decide | (show 0 ≤ x1.toInt ∧ x1.toInt ≤ 9; first | omega | assumption)) (by first | omega | assumption | decide | (show 0 ≤ (1 : Int32).toInt ∧ (1 : Int32).toInt ≤ 5; first | omega | assumption))) (fun r8 q_9 => ?_)
  have h_11 : r8 = gT z_t 24 (((44 + (6 * x1)) + (1 : Int32)).toNatClampNeg) := q_9
  clear q_9
  refine ok_nm ?_
  have n_13 : KC z_t (sJ (sJ (sJ (sJ (sJ (sJ z_t 23 0 x1.toInt64) 23 1 r2.toInt64) 23 2 r4.toInt64) 23 3 r6.toInt64) 23 4 r8.toInt64) 23 5 (gT (sJ (sJ (sJ (sJ (sJ z_t 23 0 x1.toInt64) 23 1 r2.toInt64) 23 2 r4.toInt64) 23 3 r6.toInt64) 23 4 r8.toInt64) 24 3).toInt64) := (kc_J (kc_J (kc_J (kc_J (kc_J (kc_J kc_rf))))))
  have n_13a := n_13.1
  have n_13b := n_13.2
  refine ok_bd (t_fX9_thatAre (so_J (so_J (so_J (so_J (so_J (so_J hS))))))) (fun r11 q_12 => ?_)
  refine ok_bd (t_fX9_bits) (fun r13 q_14 => ?_)
  have e_16 : (5 : Int32).toInt = 5 := (show (5 : Int32).toInt = 5 by decide)
  refine ok_bd (t_fX9_faultOf (by first | omega | assumption | decide | (show 0 ≤ x1.toInt ∧ x1.toInt ≤ 9; first | omega | assumption)) (by first | omega | assumption | decide | (show 0 ≤ (5 : Int32).toInt ∧ (5 : Int32).toInt ≤ 5; first | omega | assumption))) (fun r15 q_15 => ?_)
  have h_17 : r15 = gT z_t 24 (((44 + (6 * x1)) + (5 : Int32)).toNatClampNeg) := q_15
  clear q_15
  refine ok_nm ?_
  exact ok_some (fr_J (fr_J (fr_J (fr_J (fr_J (fr_J (fr_J (fr_J (fr_J fr_rf (by decide)) (by decide)) (by decide)) (by decide)) (by decide)) (by decide)) (by decide)) (by decide)) (by decide))

set_option maxHeartbeats 400000 in
set_option maxRecDepth 20000 in
theorem tl_lX9_clauseFor_7 {t : Nat} {o_z_t : Sx} {x1 : Int32} (pt : x1.toInt = t) (hR : RK o_z_t t) : ∀ (n : Nat) (z_t : Sx) (x3 : Int32), (FrL [21, 22, 23] o_z_t z_t) → (SOK (gT z_t 24)) → (0 ≤ x3.toInt) → (12 - x3.toInt).toNat < n → okP (lX9_clauseFor_7 x1 n z_t x3) (fun y => (FrL [21, 22, 23] o_z_t y.2) ∧ (0 ≤ y.1.toInt → LK y.2 t y.1) ∧ (y.1.toInt ≤ 357)) := by
  intro n
  induction n with
  | zero => intro _ _ _ _ _ hm; omega
  | succ n ih =>
    intro z_t x3 frz_t iS i0 hm
    rw [lX9_clauseFor_7]
    have hn := iS.1
    have hr := iS.2.2.1
    have hR1 := rk_fr frz_t (by decide) hR
    have pt1 : x1.toNatClampNeg = t := n_cl pt
    have t61 := hR1.1
    have hc1 : 0 ≤ (gT z_t 6 x1.toNatClampNeg).toInt ∧ (gT z_t 6 x1.toNatClampNeg).toInt ≤ 12 := by rw [pt1]; exact ⟨hR1.2.1, hR1.2.2.1⟩
    refine ok_gd (inb_of (by omega) (by omega)) ?_
    have i_1 : (x1.toNatClampNeg : Int) = x1.toInt := clampI (by omega)
    refine ok_ite (fun c_2 => ?_) (fun c_2 => ?_)
    · skip
      have r_3 := n_rng (gT z_t 6 x1.toNatClampNeg)
      have r_4 := n_rng x3
      have c_2i : (gT z_t 6 x1.toNatClampNeg).toInt ≤ x3.toInt := bI_le rfl rfl c_2
      try have e_5 : (-1 : Int32).toInt = (-1) := (show (-1 : Int32).toInt = -1 by decide)
      exact ok_some ⟨frz_t, (show 0 ≤ (-1 : Int32).toInt → LK z_t t (-1 : Int32) by intro q; exact absurd q (by decide)), (show (-1 : Int32).toInt ≤ 357 by first | omega | assumption | trivial)⟩
    · skip
      have r_6 := n_rng (gT z_t 6 x1.toNatClampNeg)
      have r_7 := n_rng x3
      have c_2i : (gT z_t 6 x1.toNatClampNeg).toInt > x3.toInt := bI_nle rfl rfl c_2
      have r_8 := n_rng x1
      have e_9 : ((60 * x1) + (5 * x3)).toInt = ((60 * x1.toInt) + (5 * x3.toInt)) := (i32_add (i32_mul (show (60 : Int32).toInt = 60 by decide) rfl (by omega) (by omega)) (i32_mul (show (5 : Int32).toInt = 5 by decide) rfl (by omega) (by omega)) (by omega) (by omega))
      refine ok_gd (inb_of (by omega) (by omega)) ?_
      have i_10 : (((60 * x1) + (5 * x3)).toNatClampNeg : Int) = ((60 * x1) + (5 * x3)).toInt := clampI (by omega)
      refine ok_jn ?_
      refine ok_ite (fun c_11 => ?_) (fun c_11 => ?_)
      · skip
        have r_12 := n_rng (gT z_t 5 ((60 * x1) + (5 * x3)).toNatClampNeg)
        have c_11i : (gT z_t 5 ((60 * x1) + (5 * x3)).toNatClampNeg).toInt = 0 := bI_eq rfl (show (0 : Int32).toInt = 0 by decide) c_11
        have e_13 : (((60 * x1) + (5 * x3)) + 3).toInt = (((60 * x1.toInt) + (5 * x3.toInt)) + 3) := (i32_add (i32_add (i32_mul (show (60 : Int32).toInt = 60 by decide) rfl (by omega) (by omega)) (i32_mul (show (5 : Int32).toInt = 5 by decide) rfl (by omega) (by omega)) (by omega) (by omega)) (show (3 : Int32).toInt = 3 by decide) (by omega) (by omega))
        refine ok_gd (inb_of (by omega) (by omega)) ?_
        have i_14 : ((((60 * x1) + (5 * x3)) + 3).toNatClampNeg : Int) = (((60 * x1) + (5 * x3)) + 3).toInt := clampI (by omega)
        refine ok_ite (fun c_15 => ?_) (fun c_15 => ?_)
        · skip
          have r_16 := n_rng (gT z_t 5 (((60 * x1) + (5 * x3)) + 3).toNatClampNeg)
          have c_15i : (gT z_t 5 (((60 * x1) + (5 * x3)) + 3).toNatClampNeg).toInt < 0 := bI_lt rfl (show (0 : Int32).toInt = 0 by decide) c_15
          try have e_17 : ((60 * x1) + (5 * x3)).toInt = ((60 * x1.toInt) + (5 * x3.toInt)) := (i32_add (i32_mul (show (60 : Int32).toInt = 60 by decide) rfl (by omega) (by omega)) (i32_mul (show (5 : Int32).toInt = 5 by decide) rfl (by omega) (by omega)) (by omega) (by omega))
          exact ok_some ⟨frz_t, (show 0 ≤ ((60 * x1) + (5 * x3)).toInt → LK z_t t ((60 * x1) + (5 * x3)) by intro _; exact ⟨((rk_cl hR1 pt i0 (by omega)).1 (by assumption)).1, by omega⟩), (show ((60 * x1) + (5 * x3)).toInt ≤ 357 by first | omega | assumption | trivial)⟩
        · skip
          have r_18 := n_rng (gT z_t 5 (((60 * x1) + (5 * x3)) + 3).toNatClampNeg)
          have c_15i : (gT z_t 5 (((60 * x1) + (5 * x3)) + 3).toNatClampNeg).toInt ≥ 0 := bI_nlt rfl (show (0 : Int32).toInt = 0 by decide) c_15
          have e_19 : (((60 * x1) + (5 * x3)) + 4).toInt = (((60 * x1.toInt) + (5 * x3.toInt)) + 4) := (i32_add (i32_add (i32_mul (show (60 : Int32).toInt = 60 by decide) rfl (by omega) (by omega)) (i32_mul (show (5 : Int32).toInt = 5 by decide) rfl (by omega) (by omega)) (by omega) (by omega)) (show (4 : Int32).toInt = 4 by decide) (by omega) (by omega))
          refine ok_gd (inb_of (by omega) (by omega)) ?_
          have i_20 : ((((60 * x1) + (5 * x3)) + 4).toNatClampNeg : Int) = (((60 * x1) + (5 * x3)) + 4).toInt := clampI (by omega)
          refine ok_bd2 (t_fX9_reckons (t := t) (by exact pt) (by exact t61) (by exact ((rk_cl hR1 pt i0 (by omega)).1 (by assumption)).2.resolve_left (by omega))) (fun r13 z14 q_21 => ?_)
          have h_22 : FrL [21, 22] z_t z14 := q_21
          clear q_21
          have n_23 : KC z_t z14 := kc_fr kc_rf h_22 (by decide)
          have n_23a := n_23.1
          have n_23b := n_23.2
          refine ok_ite (fun c_24 => ?_) (fun c_24 => ?_)
          · skip
            have c_24i : r13.toInt = 1 := lI_eq rfl (show (1 : Int64).toInt = 1 by decide) c_24
            try have e_25 : ((60 * x1) + (5 * x3)).toInt = ((60 * x1.toInt) + (5 * x3.toInt)) := (i32_add (i32_mul (show (60 : Int32).toInt = 60 by decide) rfl (by omega) (by omega)) (i32_mul (show (5 : Int32).toInt = 5 by decide) rfl (by omega) (by omega)) (by omega) (by omega))
            exact ok_some ⟨(fr_tr frz_t h_22 (by decide)), (show 0 ≤ ((60 * x1) + (5 * x3)).toInt → LK z14 t ((60 * x1) + (5 * x3)) by intro _; exact ⟨lk_fr (show FrL [21, 22] z_t z14 by assumption) ((rk_cl hR1 pt i0 (by omega)).1 (by assumption)).1, by omega⟩), (show ((60 * x1) + (5 * x3)).toInt ≤ 357 by first | omega | assumption | trivial)⟩
          · skip
            have c_24i : r13.toInt ≠ 1 := lI_neq rfl (show (1 : Int64).toInt = 1 by decide) c_24
            try have e_26 : (x3 + 1).toInt = (x3.toInt + 1) := (i32_add rfl (show (1 : Int32).toInt = 1 by decide) (by omega) (by omega))
            exact ih z14 (x3 + 1) (fr_tr frz_t h_22 (by decide)) (so_fr h_22 (by decide) iS) (by first | omega | assumption | decide) (by omega)
      · skip
        have r_27 := n_rng (gT z_t 5 ((60 * x1) + (5 * x3)).toNatClampNeg)
        have c_11i : (gT z_t 5 ((60 * x1) + (5 * x3)).toNatClampNeg).toInt ≠ 0 := bI_neq rfl (show (0 : Int32).toInt = 0 by decide) c_11
        try have e_28 : (x3 + 1).toInt = (x3.toInt + 1) := (i32_add rfl (show (1 : Int32).toInt = 1 by decide) (by omega) (by omega))
        exact ih z_t (x3 + 1) frz_t iS (by first | omega | assumption | decide) (by omega)
set_option maxHeartbeats 400000 in
set_option maxRecDepth 20000 in
theorem t_fX9_clauseFor {z_t : Sx} {x1 : Int32} {x2 : Int32} {t : Nat} (pt : x1.toInt = t) (p2 : 0 ≤ x2.toInt ∧ x2.toInt < (gT z_t 24 0).toInt) (hS : SOK (gT z_t 24)) (hR : RK z_t t) : okP (fX9_clauseFor z_t x1 x2) (fun y => (FrL [21, 22, 23] z_t y.2) ∧ (0 ≤ y.1.toInt → LK y.2 t y.1) ∧ (y.1.toInt ≤ 357)) := by
  unfold fX9_clauseFor
  have hn := hS.1
  have hr := hS.2.2.1
  refine ok_bd (t_fX9_words (by first | omega | assumption | decide | (show 0 ≤ x2.toInt ∧ x2.toInt < (gT z_t 24 0).toInt; first | omega | assumption)) hS) (fun z2 q_1 => ?_)
  have h_2 : FrL [23] z_t z2 := q_1
  clear q_1
  have n_3 : KC z_t z2 := kc_fr kc_rf h_2 (by decide)
  have n_3a := n_3.1
  have n_3b := n_3.2
  try have e_4 : (0 : Int32).toInt = 0 := (show (0 : Int32).toInt = 0 by decide)
  refine tl_lX9_clauseFor_7 (t := t) (by first | omega | assumption | decide) hR FU z2 0 (fr_tr fr_rf h_2 (by decide)) (so_fr h_2 (by decide) hS) (by first | omega | assumption | decide) (FU_lt (by omega))

set_option maxHeartbeats 400000 in
set_option maxRecDepth 20000 in
theorem t_fX9_strength {x0 : Int32} : okP (fX9_strength x0) (fun _ => True) := by
  unfold fX9_strength
  refine ok_ite (fun c_1 => ?_) (fun c_1 => ?_)
  · skip
    have r_2 := n_rng x0
    have c_1i : x0.toInt = 13 := bI_eq rfl (show (13 : Int32).toInt = 13 by decide) c_1
    exact ok_some trivial
  · skip
    have r_3 := n_rng x0
    have c_1i : x0.toInt ≠ 13 := bI_neq rfl (show (13 : Int32).toInt = 13 by decide) c_1
    refine ok_ite (fun c_4 => ?_) (fun c_4 => ?_)
    · skip
      have c_4i : x0.toInt = 12 := bI_eq rfl (show (12 : Int32).toInt = 12 by decide) c_4
      exact ok_some trivial
    · skip
      have c_4i : x0.toInt ≠ 12 := bI_neq rfl (show (12 : Int32).toInt = 12 by decide) c_4
      refine ok_ite (fun c_5 => ?_) (fun c_5 => ?_)
      · skip
        have c_5i : x0.toInt = 11 := bI_eq rfl (show (11 : Int32).toInt = 11 by decide) c_5
        exact ok_some trivial
      · skip
        have c_5i : x0.toInt ≠ 11 := bI_neq rfl (show (11 : Int32).toInt = 11 by decide) c_5
        exact ok_some trivial

set_option maxHeartbeats 400000 in
set_option maxRecDepth 20000 in
theorem t_fX9_coins {z_t : Sx} {x1 : Int32} (hS : SOK (gT z_t 24)) : okP (fX9_coins z_t x1) (fun _ => True) := by
  unfold fX9_coins
  have hn := hS.1
  have hr := hS.2.2.1
  have r_2 := n_rng x1
  have e_3 : x1.toInt64.toInt = x1.toInt := (l64_of rfl)
  have e_4 : (0 : Int64).toInt = 0 := (show (0 : Int64).toInt = 0 by decide)
  have e_5 : (2 : Int64).toInt = 2 := (show (2 : Int64).toInt = 2 by decide)
  refine ok_bd (t_fX9_in) (fun r2 q_1 => ?_)
  have h_6 : r2 = 0 ∨ r2 = 1 := q_1.1
  have h_6i := bool_i h_6
  have h_7 : (r2.toInt = 1 ∧ (0 : Int64).toInt ≤ x1.toInt64.toInt ∧ x1.toInt64.toInt ≤ (2 : Int64).toInt) ∨ (r2.toInt = 0 ∧ (x1.toInt64.toInt < (0 : Int64).toInt ∨ (2 : Int64).toInt < x1.toInt64.toInt)) := q_1.2
  clear q_1
  refine ok_ite (fun c_8 => ?_) (fun c_8 => ?_)
  · skip
    have r_9 := n_rng r2
    have c_8i : r2.toInt = 0 := bI_eq rfl (show (0 : Int32).toInt = 0 by decide) c_8
    exact ok_some trivial
  · skip
    have r_10 := n_rng r2
    have c_8i : r2.toInt ≠ 0 := bI_neq rfl (show (0 : Int32).toInt = 0 by decide) c_8
    have e_11 : (4 + x1).toInt = (4 + x1.toInt) := (i32_add (show (4 : Int32).toInt = 4 by decide) rfl (by omega) (by omega))
    refine ok_gd (inb_of (by omega) (by omega)) ?_
    have i_12 : ((4 + x1).toNatClampNeg : Int) = (4 + x1).toInt := clampI (by omega)
    exact ok_some trivial

set_option maxHeartbeats 400000 in
set_option maxRecDepth 20000 in
theorem t_fX9_isOf {x0 : Int32} {x1 : Int32} : okP (fX9_isOf x0 x1) (fun y => (y = 0 ∨ y = 1)) := by
  unfold fX9_isOf
  refine ok_ite (fun c_1 => ?_) (fun c_1 => ?_)
  · skip
    have r_2 := n_rng ((x0 >>> (x1 &&& 31)) &&& 1)
    have c_1i : ((x0 >>> (x1 &&& 31)) &&& 1).toInt = 1 := bI_eq rfl (show (1 : Int32).toInt = 1 by decide) c_1
    exact ok_some (Or.inr rfl)
  · skip
    have r_3 := n_rng ((x0 >>> (x1 &&& 31)) &&& 1)
    have c_1i : ((x0 >>> (x1 &&& 31)) &&& 1).toInt ≠ 1 := bI_neq rfl (show (1 : Int32).toInt = 1 by decide) c_1
    exact ok_some (Or.inl rfl)

set_option maxHeartbeats 400000 in
set_option maxRecDepth 20000 in
theorem tl_lX9_comesOut_5 {o_z_t : Sx} {x1 : Int32} : ∀ (n : Nat) (z_t : Sx) (x2 : Int64) (x4 : Int32), (FrL [24] o_z_t z_t) → (SOK (gT z_t 24)) → (KC o_z_t z_t) → (0 ≤ x4.toInt) → ((gT o_z_t 24 8).toInt - x4.toInt).toNat < n → okP (lX9_comesOut_5 x1 n z_t x2 x4) (fun y => (FrL [24] o_z_t y.2) ∧ (SOK (gT y.2 24)) ∧ (KC o_z_t y.2)) := by
  intro n
  induction n with
  | zero => intro _ _ _ _ _ _ _ hm; omega
  | succ n ih =>
    intro z_t x2 x4 frz_t iS iK i0 hm
    rw [lX9_comesOut_5]
    have iKa := iK.1
    have iKb := iK.2
    have hn := iS.1
    have hr := iS.2.2.1
    refine ok_ite (fun c_1 => ?_) (fun c_1 => ?_)
    · skip
      have r_2 := n_rng (gT z_t 24 8)
      have r_3 := n_rng x4
      have c_1i : (gT z_t 24 8).toInt ≤ x4.toInt := bI_le rfl rfl c_1
      exact ok_some ⟨frz_t, iS, iK⟩
    · skip
      have r_4 := n_rng (gT z_t 24 8)
      have r_5 := n_rng x4
      have c_1i : (gT z_t 24 8).toInt > x4.toInt := bI_nle rfl rfl c_1
      have e_6 : (10 + x4).toInt = (10 + x4.toInt) := (i32_add (show (10 : Int32).toInt = 10 by decide) rfl (by omega) (by omega))
      refine ok_gd (inb_of (by omega) (by omega)) ?_
      have i_7 : ((10 + x4).toNatClampNeg : Int) = (10 + x4).toInt := clampI (by omega)
      refine ok_bd (t_fX9_isOf) (fun r4 q_8 => ?_)
      have h_9 : r4 = 0 ∨ r4 = 1 := q_8
      have h_9i := bool_i h_9
      clear q_8
      have hw := so_row iS (x := x4) (by omega) (by omega)
      refine ok_bd (t_fX9_canLook (by first | omega | assumption | decide | (show 0 ≤ (gT z_t 24 (10 + x4).toNatClampNeg).toInt ∧ (gT z_t 24 (10 + x4).toNatClampNeg).toInt < (gT z_t 24 0).toInt; first | omega | assumption)) iS) (fun r6 q_10 => ?_)
      have h_11 : r6 = 0 ∨ r6 = 1 := q_10
      have h_11i := bool_i h_11
      clear q_10
      refine ok_jn ?_
      refine ok_ite (fun c_12 => ?_) (fun c_12 => ?_)
      · skip
        have r_13 := n_rng r6
        have c_12i : r6.toInt = 0 := bI_eq rfl (show (0 : Int32).toInt = 0 by decide) c_12
        refine ok_ite (fun c_14 => ?_) (fun c_14 => ?_)
        · skip
          have r_15 := n_rng r4
          have c_14i : r4.toInt = 0 := bI_eq rfl (show (0 : Int32).toInt = 0 by decide) c_14
          try have e_16 : (x4 + 1).toInt = (x4.toInt + 1) := (i32_add rfl (show (1 : Int32).toInt = 1 by decide) (by omega) (by omega))
          exact ih z_t (x2 * 100) (x4 + 1) frz_t iS iK (by first | omega | assumption | decide) (by omega)
        · skip
          have r_17 := n_rng r4
          have c_14i : r4.toInt ≠ 0 := bI_neq rfl (show (0 : Int32).toInt = 0 by decide) c_14
          exact ok_some ⟨frz_t, iS, iK⟩
      · skip
        have r_18 := n_rng r6
        have c_12i : r6.toInt ≠ 0 := bI_neq rfl (show (0 : Int32).toInt = 0 by decide) c_12
        have e_20 : (1 : Int32).toInt = 1 := (show (1 : Int32).toInt = 1 by decide)
        refine ok_bd (t_fX9_faultOf (by first | omega | assumption | decide | (show 0 ≤ (gT z_t 24 (10 + x4).toNatClampNeg).toInt ∧ (gT z_t 24 (10 + x4).toNatClampNeg).toInt ≤ 9; first | omega | assumption)) (by first | omega | assumption | decide | (show 0 ≤ (1 : Int32).toInt ∧ (1 : Int32).toInt ≤ 5; first | omega | assumption))) (fun r12 q_19 => ?_)
        have h_21 : r12 = gT z_t 24 (((44 + (6 * (gT z_t 24 (10 + x4).toNatClampNeg))) + (1 : Int32)).toNatClampNeg) := q_19
        clear q_19
        refine ok_jn ?_
        refine ok_ite (fun c_22 => ?_) (fun c_22 => ?_)
        · skip
          have r_23 := n_rng r4
          have c_22i : r4.toInt = 0 := bI_eq rfl (show (0 : Int32).toInt = 0 by decide) c_22
          have e_25 : (2 : Int32).toInt = 2 := (show (2 : Int32).toInt = 2 by decide)
          refine ok_bd (t_fX9_faultOf (by first | omega | assumption | decide | (show 0 ≤ (gT z_t 24 (10 + x4).toNatClampNeg).toInt ∧ (gT z_t 24 (10 + x4).toNatClampNeg).toInt ≤ 9; first | omega | assumption)) (by first | omega | assumption | decide | (show 0 ≤ (2 : Int32).toInt ∧ (2 : Int32).toInt ≤ 5; first | omega | assumption))) (fun r23 q_24 => ?_)
          have h_26 : r23 = gT (sT z_t 24 3 ((gT z_t 24 3) - r12)) 24 (((44 + (6 * (gT z_t 24 (10 + x4).toNatClampNeg))) + (2 : Int32)).toNatClampNeg) := q_24
          clear q_24
          refine ok_ite (fun c_27 => ?_) (fun c_27 => ?_)
          · skip
            have c_27i : r4.toInt = 0 := bI_eq rfl (show (0 : Int32).toInt = 0 by decide) c_27
            try have e_28 : (x4 + 1).toInt = (x4.toInt + 1) := (i32_add rfl (show (1 : Int32).toInt = 1 by decide) (by omega) (by omega))
            have n_29 : KC z_t (sT z_t 24 3 ((gT z_t 24 3) - r12)) := (kc_T kc_rf (by omega) (by omega))
            have n_29a := n_29.1
            have n_29b := n_29.2
            exact ih (sT z_t 24 3 ((gT z_t 24 3) - r12)) (x2 * (100 - r23).toInt64) (x4 + 1) (fr_T frz_t (by decide)) (so_T iS (by unfold freeix; omega)) (kc_T iK (by omega) (by omega)) (by first | omega | assumption | decide) (by omega)
          · skip
            have c_27i : r4.toInt ≠ 0 := bI_neq rfl (show (0 : Int32).toInt = 0 by decide) c_27
            have r_30 := n_rng (gT z_t 24 (10 + x4).toNatClampNeg)
            have e_31 : ((44 + (6 * (gT z_t 24 (10 + x4).toNatClampNeg))) + 4).toInt = ((44 + (6 * (gT z_t 24 (10 + x4).toNatClampNeg).toInt)) + 4) := (i32_add (i32_add (show (44 : Int32).toInt = 44 by decide) (i32_mul (show (6 : Int32).toInt = 6 by decide) rfl (by omega) (by omega)) (by omega) (by omega)) (show (4 : Int32).toInt = 4 by decide) (by omega) (by omega))
            refine ok_gd (inb_of (by omega) (by omega)) ?_
            have i_32 : (((44 + (6 * (gT z_t 24 (10 + x4).toNatClampNeg))) + 4).toNatClampNeg : Int) = ((44 + (6 * (gT z_t 24 (10 + x4).toNatClampNeg))) + 4).toInt := clampI (by omega)
            have e_34 : (0 : Int32).toInt = 0 := (show (0 : Int32).toInt = 0 by decide)
            have n_35 : KC z_t (sT (sT z_t 24 3 ((gT z_t 24 3) - r12)) 24 ((44 + (6 * (gT z_t 24 (10 + x4).toNatClampNeg))) + 4).toNatClampNeg 1) := (kc_T (kc_T kc_rf (by omega) (by omega)) (by omega) (by omega))
            have n_35a := n_35.1
            have n_35b := n_35.2
            refine ok_bd (t_fX9_kindOf (by first | omega | assumption | decide | (show 0 ≤ (gT z_t 24 (10 + x4).toNatClampNeg).toInt ∧ (gT z_t 24 (10 + x4).toNatClampNeg).toInt < (gT (sT (sT z_t 24 3 ((gT z_t 24 3) - r12)) 24 ((44 + (6 * (gT z_t 24 (10 + x4).toNatClampNeg))) + 4).toNatClampNeg 1) 24 0).toInt; first | omega | assumption)) (by first | omega | assumption | decide | (show 0 ≤ (0 : Int32).toInt ∧ (0 : Int32).toInt ≤ 2; first | omega | assumption)) (so_T (so_T iS (by unfold freeix; omega)) (by unfold freeix; omega))) (fun r19 q_33 => ?_)
            refine ok_nm ?_
            try have e_36 : (x4 + 1).toInt = (x4.toInt + 1) := (i32_add rfl (show (1 : Int32).toInt = 1 by decide) (by omega) (by omega))
            have n_37 : KC z_t (sT (sT (sT z_t 24 3 ((gT z_t 24 3) - r12)) 24 ((44 + (6 * (gT z_t 24 (10 + x4).toNatClampNeg))) + 4).toNatClampNeg 1) 24 4 ((gT (sT (sT z_t 24 3 ((gT z_t 24 3) - r12)) 24 ((44 + (6 * (gT z_t 24 (10 + x4).toNatClampNeg))) + 4).toNatClampNeg 1) 24 4) + r19)) := (kc_T (kc_T (kc_T kc_rf (by omega) (by omega)) (by omega) (by omega)) (by omega) (by omega))
            have n_37a := n_37.1
            have n_37b := n_37.2
            exact ih (sT (sT (sT z_t 24 3 ((gT z_t 24 3) - r12)) 24 ((44 + (6 * (gT z_t 24 (10 + x4).toNatClampNeg))) + 4).toNatClampNeg 1) 24 4 ((gT (sT (sT z_t 24 3 ((gT z_t 24 3) - r12)) 24 ((44 + (6 * (gT z_t 24 (10 + x4).toNatClampNeg))) + 4).toNatClampNeg 1) 24 4) + r19)) (x2 * (100 - r23).toInt64) (x4 + 1) (fr_T (fr_T (fr_T frz_t (by decide)) (by decide)) (by decide)) (so_T (so_T (so_T iS (by unfold freeix; omega)) (by unfold freeix; omega)) (by unfold freeix; omega)) (kc_T (kc_T (kc_T iK (by omega) (by omega)) (by omega) (by omega)) (by omega) (by omega)) (by first | omega | assumption | decide) (by omega)
        · skip
          have r_38 := n_rng r4
          have c_22i : r4.toInt ≠ 0 := bI_neq rfl (show (0 : Int32).toInt = 0 by decide) c_22
          have e_40 : (2 : Int32).toInt = 2 := (show (2 : Int32).toInt = 2 by decide)
          refine ok_bd (t_fX9_faultOf (by first | omega | assumption | decide | (show 0 ≤ (gT z_t 24 (10 + x4).toNatClampNeg).toInt ∧ (gT z_t 24 (10 + x4).toNatClampNeg).toInt ≤ 9; first | omega | assumption)) (by first | omega | assumption | decide | (show 0 ≤ (2 : Int32).toInt ∧ (2 : Int32).toInt ≤ 5; first | omega | assumption))) (fun r25 q_39 => ?_)
          have h_41 : r25 = gT (sT z_t 24 3 ((gT z_t 24 3) - r12)) 24 (((44 + (6 * (gT z_t 24 (10 + x4).toNatClampNeg))) + (2 : Int32)).toNatClampNeg) := q_39
          clear q_39
          refine ok_ite (fun c_42 => ?_) (fun c_42 => ?_)
          · skip
            have c_42i : r4.toInt = 0 := bI_eq rfl (show (0 : Int32).toInt = 0 by decide) c_42
            try have e_43 : (x4 + 1).toInt = (x4.toInt + 1) := (i32_add rfl (show (1 : Int32).toInt = 1 by decide) (by omega) (by omega))
            have n_44 : KC z_t (sT z_t 24 3 ((gT z_t 24 3) - r12)) := (kc_T kc_rf (by omega) (by omega))
            have n_44a := n_44.1
            have n_44b := n_44.2
            exact ih (sT z_t 24 3 ((gT z_t 24 3) - r12)) (x2 * r25.toInt64) (x4 + 1) (fr_T frz_t (by decide)) (so_T iS (by unfold freeix; omega)) (kc_T iK (by omega) (by omega)) (by first | omega | assumption | decide) (by omega)
          · skip
            have c_42i : r4.toInt ≠ 0 := bI_neq rfl (show (0 : Int32).toInt = 0 by decide) c_42
            have r_45 := n_rng (gT z_t 24 (10 + x4).toNatClampNeg)
            have e_46 : ((44 + (6 * (gT z_t 24 (10 + x4).toNatClampNeg))) + 4).toInt = ((44 + (6 * (gT z_t 24 (10 + x4).toNatClampNeg).toInt)) + 4) := (i32_add (i32_add (show (44 : Int32).toInt = 44 by decide) (i32_mul (show (6 : Int32).toInt = 6 by decide) rfl (by omega) (by omega)) (by omega) (by omega)) (show (4 : Int32).toInt = 4 by decide) (by omega) (by omega))
            refine ok_gd (inb_of (by omega) (by omega)) ?_
            have i_47 : (((44 + (6 * (gT z_t 24 (10 + x4).toNatClampNeg))) + 4).toNatClampNeg : Int) = ((44 + (6 * (gT z_t 24 (10 + x4).toNatClampNeg))) + 4).toInt := clampI (by omega)
            have e_49 : (0 : Int32).toInt = 0 := (show (0 : Int32).toInt = 0 by decide)
            have n_50 : KC z_t (sT (sT z_t 24 3 ((gT z_t 24 3) - r12)) 24 ((44 + (6 * (gT z_t 24 (10 + x4).toNatClampNeg))) + 4).toNatClampNeg 1) := (kc_T (kc_T kc_rf (by omega) (by omega)) (by omega) (by omega))
            have n_50a := n_50.1
            have n_50b := n_50.2
            refine ok_bd (t_fX9_kindOf (by first | omega | assumption | decide | (show 0 ≤ (gT z_t 24 (10 + x4).toNatClampNeg).toInt ∧ (gT z_t 24 (10 + x4).toNatClampNeg).toInt < (gT (sT (sT z_t 24 3 ((gT z_t 24 3) - r12)) 24 ((44 + (6 * (gT z_t 24 (10 + x4).toNatClampNeg))) + 4).toNatClampNeg 1) 24 0).toInt; first | omega | assumption)) (by first | omega | assumption | decide | (show 0 ≤ (0 : Int32).toInt ∧ (0 : Int32).toInt ≤ 2; first | omega | assumption)) (so_T (so_T iS (by unfold freeix; omega)) (by unfold freeix; omega))) (fun r19 q_48 => ?_)
            refine ok_nm ?_
            try have e_51 : (x4 + 1).toInt = (x4.toInt + 1) := (i32_add rfl (show (1 : Int32).toInt = 1 by decide) (by omega) (by omega))
            have n_52 : KC z_t (sT (sT (sT z_t 24 3 ((gT z_t 24 3) - r12)) 24 ((44 + (6 * (gT z_t 24 (10 + x4).toNatClampNeg))) + 4).toNatClampNeg 1) 24 4 ((gT (sT (sT z_t 24 3 ((gT z_t 24 3) - r12)) 24 ((44 + (6 * (gT z_t 24 (10 + x4).toNatClampNeg))) + 4).toNatClampNeg 1) 24 4) + r19)) := (kc_T (kc_T (kc_T kc_rf (by omega) (by omega)) (by omega) (by omega)) (by omega) (by omega))
            have n_52a := n_52.1
            have n_52b := n_52.2
            exact ih (sT (sT (sT z_t 24 3 ((gT z_t 24 3) - r12)) 24 ((44 + (6 * (gT z_t 24 (10 + x4).toNatClampNeg))) + 4).toNatClampNeg 1) 24 4 ((gT (sT (sT z_t 24 3 ((gT z_t 24 3) - r12)) 24 ((44 + (6 * (gT z_t 24 (10 + x4).toNatClampNeg))) + 4).toNatClampNeg 1) 24 4) + r19)) (x2 * r25.toInt64) (x4 + 1) (fr_T (fr_T (fr_T frz_t (by decide)) (by decide)) (by decide)) (so_T (so_T (so_T iS (by unfold freeix; omega)) (by unfold freeix; omega)) (by unfold freeix; omega)) (kc_T (kc_T (kc_T iK (by omega) (by omega)) (by omega) (by omega)) (by omega) (by omega)) (by first | omega | assumption | decide) (by omega)
set_option maxHeartbeats 400000 in
set_option maxRecDepth 20000 in
theorem t_fX9_comesOut {z_t : Sx} {x1 : Int32} (hS : SOK (gT z_t 24)) : okP (fX9_comesOut z_t x1) (fun y => (FrL [24] z_t y.2) ∧ (SOK (gT y.2 24)) ∧ (KC z_t y.2)) := by
  unfold fX9_comesOut
  have hn := hS.1
  have hr := hS.2.2.1
  try have e_1 : (0 : Int32).toInt = 0 := (show (0 : Int32).toInt = 0 by decide)
  refine tl_lX9_comesOut_5  FU z_t 1 0 fr_rf hS kc_rf (by first | omega | assumption | decide) (FU_lt (by omega))

set_option maxHeartbeats 400000 in
set_option maxRecDepth 20000 in
theorem tl_lX9_couldBe_8 {k116 : Int32 → Int32 → Option (Int32)} {z_t : Sx} {x1 : Int32} {x2 : Int32} (Hk116 : ∀ (y0 : Int32) (y1 : Int32), okP (k116 y0 y1) (fun y => (y = 0 ∨ y = 1))) (hS : SOK (gT z_t 24)) : ∀ (n : Nat) (x3 : Int32) (x4 : Int32) (x5 : Int32), (0 ≤ x5.toInt) → ((gT z_t 24 0).toInt + 0 - x5.toInt).toNat < n → okP (lX9_couldBe_8 k116 z_t x1 x2 n x3 x4 x5) (fun y => (y = 0 ∨ y = 1)) := by
  intro n
  induction n with
  | zero => intro _ _ _ _ hm; omega
  | succ n ih =>
    intro x3 x4 x5 i0 hm
    rw [lX9_couldBe_8]
    have hn := hS.1
    have hr := hS.2.2.1
    refine ok_ite (fun c_1 => ?_) (fun c_1 => ?_)
    · skip
      have r_2 := n_rng (gT z_t 24 0)
      have r_3 := n_rng x5
      have c_1i : (gT z_t 24 0).toInt ≤ x5.toInt := bI_le rfl rfl c_1
      exact Hk116 x3 x4 
    · skip
      have r_4 := n_rng (gT z_t 24 0)
      have r_5 := n_rng x5
      have c_1i : (gT z_t 24 0).toInt > x5.toInt := bI_nle rfl rfl c_1
      refine ok_bd (t_fX9_isOf) (fun r3 q_6 => ?_)
      have h_7 : r3 = 0 ∨ r3 = 1 := q_6
      have h_7i := bool_i h_7
      clear q_6
      refine ok_jn ?_
      refine ok_ite (fun c_8 => ?_) (fun c_8 => ?_)
      · skip
        have r_9 := n_rng r3
        have c_8i : r3.toInt = 0 := bI_eq rfl (show (0 : Int32).toInt = 0 by decide) c_8
        try have e_10 : (x5 + 1).toInt = (x5.toInt + 1) := (i32_add rfl (show (1 : Int32).toInt = 1 by decide) (by omega) (by omega))
        exact ih x3 x4 (x5 + 1) (by first | omega | assumption | decide) (by omega)
      · skip
        have r_11 := n_rng r3
        have c_8i : r3.toInt ≠ 0 := bI_neq rfl (show (0 : Int32).toInt = 0 by decide) c_8
        have e_13 : (3 : Int32).toInt = 3 := (show (3 : Int32).toInt = 3 by decide)
        refine ok_bd (t_fX9_faultOf (by first | omega | assumption | decide | (show 0 ≤ x5.toInt ∧ x5.toInt ≤ 9; first | omega | assumption)) (by first | omega | assumption | decide | (show 0 ≤ (3 : Int32).toInt ∧ (3 : Int32).toInt ≤ 5; first | omega | assumption))) (fun r9 q_12 => ?_)
        have h_14 : r9 = gT z_t 24 (((44 + (6 * x5)) + (3 : Int32)).toNatClampNeg) := q_12
        clear q_12
        have hb := so_un hS (x := x5) (by omega) (by omega)
        rw [← h_14] at hb
        have e_16 : (2 : Int32).toInt = 2 := (show (2 : Int32).toInt = 2 by decide)
        refine ok_bd (t_fX9_faultOf (by first | omega | assumption | decide | (show 0 ≤ x5.toInt ∧ x5.toInt ≤ 9; first | omega | assumption)) (by first | omega | assumption | decide | (show 0 ≤ (2 : Int32).toInt ∧ (2 : Int32).toInt ≤ 5; first | omega | assumption))) (fun r11 q_15 => ?_)
        have h_17 : r11 = gT z_t 24 (((44 + (6 * x5)) + (2 : Int32)).toNatClampNeg) := q_15
        clear q_15
        refine ok_ite (fun c_18 => ?_) (fun c_18 => ?_)
        · skip
          have r_19 := n_rng r11
          have c_18i : r11.toInt = 0 := bI_eq rfl (show (0 : Int32).toInt = 0 by decide) c_18
          exact ok_some (Or.inl rfl)
        · skip
          have r_20 := n_rng r11
          have c_18i : r11.toInt ≠ 0 := bI_neq rfl (show (0 : Int32).toInt = 0 by decide) c_18
          have e_22 : (4 : Int32).toInt = 4 := (show (4 : Int32).toInt = 4 by decide)
          refine ok_bd (t_fX9_faultOf (by first | omega | assumption | decide | (show 0 ≤ x5.toInt ∧ x5.toInt ≤ 9; first | omega | assumption)) (by first | omega | assumption | decide | (show 0 ≤ (4 : Int32).toInt ∧ (4 : Int32).toInt ≤ 5; first | omega | assumption))) (fun r14 q_21 => ?_)
          have h_23 : r14 = gT z_t 24 (((44 + (6 * x5)) + (4 : Int32)).toNatClampNeg) := q_21
          clear q_21
          refine ok_ite (fun c_24 => ?_) (fun c_24 => ?_)
          · skip
            have r_25 := n_rng r14
            have c_24i : r14.toInt = 2 := bI_eq rfl (show (2 : Int32).toInt = 2 by decide) c_24
            exact ok_some (Or.inl rfl)
          · skip
            have r_26 := n_rng r14
            have c_24i : r14.toInt ≠ 2 := bI_neq rfl (show (2 : Int32).toInt = 2 by decide) c_24
            refine ok_jn ?_
            refine ok_ite (fun c_27 => ?_) (fun c_27 => ?_)
            · skip
              have r_28 := n_rng r9
              have c_27i : r9.toInt < 0 := bI_lt rfl (show (0 : Int32).toInt = 0 by decide) c_27
              have e_30 : (1 : Int32).toInt = 1 := (show (1 : Int32).toInt = 1 by decide)
              refine ok_bd (t_fX9_faultOf (by first | omega | assumption | decide | (show 0 ≤ x5.toInt ∧ x5.toInt ≤ 9; first | omega | assumption)) (by first | omega | assumption | decide | (show 0 ≤ (1 : Int32).toInt ∧ (1 : Int32).toInt ≤ 5; first | omega | assumption))) (fun r18 q_29 => ?_)
              have h_31 : r18 = gT z_t 24 (((44 + (6 * x5)) + (1 : Int32)).toNatClampNeg) := q_29
              clear q_29
              have e_33 : (0 : Int32).toInt = 0 := (show (0 : Int32).toInt = 0 by decide)
              refine ok_bd (t_fX9_kindOf (by first | omega | assumption | decide | (show 0 ≤ x5.toInt ∧ x5.toInt < (gT z_t 24 0).toInt; first | omega | assumption)) (by first | omega | assumption | decide | (show 0 ≤ (0 : Int32).toInt ∧ (0 : Int32).toInt ≤ 2; first | omega | assumption)) hS) (fun r20 q_32 => ?_)
              have r_34 := n_rng x3
              have r_35 := n_rng r18
              try have e_36 : (x3 + r18).toInt = (x3.toInt + r18.toInt) := (i32_add rfl rfl (by omega) (by omega))
              have r_37 := n_rng x4
              have r_38 := n_rng r20
              try have e_39 : (x4 + r20).toInt = (x4.toInt + r20.toInt) := (i32_add rfl rfl (by omega) (by omega))
              try have e_40 : (x5 + 1).toInt = (x5.toInt + 1) := (i32_add rfl (show (1 : Int32).toInt = 1 by decide) (by omega) (by omega))
              exact ih (x3 + r18) (x4 + r20) (x5 + 1) (by first | omega | assumption | decide) (by omega)
            · skip
              have r_41 := n_rng r9
              have c_27i : r9.toInt ≥ 0 := bI_nlt rfl (show (0 : Int32).toInt = 0 by decide) c_27
              refine ok_bd (t_fX9_isOf) (fun r23 q_42 => ?_)
              have h_43 : r23 = 0 ∨ r23 = 1 := q_42
              have h_43i := bool_i h_43
              clear q_42
              refine ok_ite (fun c_44 => ?_) (fun c_44 => ?_)
              · skip
                have r_45 := n_rng r23
                have c_44i : r23.toInt = 0 := bI_eq rfl (show (0 : Int32).toInt = 0 by decide) c_44
                refine ok_bd (t_fX9_faultOf (by first | omega | assumption | decide | (show 0 ≤ r9.toInt ∧ r9.toInt ≤ 9; first | omega | assumption)) (by first | omega | assumption | decide | (show 0 ≤ (4 : Int32).toInt ∧ (4 : Int32).toInt ≤ 5; first | omega | assumption))) (fun r26 q_46 => ?_)
                have h_47 : r26 = gT z_t 24 (((44 + (6 * r9)) + (4 : Int32)).toNatClampNeg) := q_46
                clear q_46
                refine ok_ite (fun c_48 => ?_) (fun c_48 => ?_)
                · skip
                  have r_49 := n_rng r26
                  have c_48i : r26.toInt = 2 := bI_eq rfl (show (2 : Int32).toInt = 2 by decide) c_48
                  have e_51 : (1 : Int32).toInt = 1 := (show (1 : Int32).toInt = 1 by decide)
                  refine ok_bd (t_fX9_faultOf (by first | omega | assumption | decide | (show 0 ≤ x5.toInt ∧ x5.toInt ≤ 9; first | omega | assumption)) (by first | omega | assumption | decide | (show 0 ≤ (1 : Int32).toInt ∧ (1 : Int32).toInt ≤ 5; first | omega | assumption))) (fun r18 q_50 => ?_)
                  have h_52 : r18 = gT z_t 24 (((44 + (6 * x5)) + (1 : Int32)).toNatClampNeg) := q_50
                  clear q_50
                  have e_54 : (0 : Int32).toInt = 0 := (show (0 : Int32).toInt = 0 by decide)
                  refine ok_bd (t_fX9_kindOf (by first | omega | assumption | decide | (show 0 ≤ x5.toInt ∧ x5.toInt < (gT z_t 24 0).toInt; first | omega | assumption)) (by first | omega | assumption | decide | (show 0 ≤ (0 : Int32).toInt ∧ (0 : Int32).toInt ≤ 2; first | omega | assumption)) hS) (fun r20 q_53 => ?_)
                  have r_55 := n_rng x3
                  have r_56 := n_rng r18
                  try have e_57 : (x3 + r18).toInt = (x3.toInt + r18.toInt) := (i32_add rfl rfl (by omega) (by omega))
                  have r_58 := n_rng x4
                  have r_59 := n_rng r20
                  try have e_60 : (x4 + r20).toInt = (x4.toInt + r20.toInt) := (i32_add rfl rfl (by omega) (by omega))
                  try have e_61 : (x5 + 1).toInt = (x5.toInt + 1) := (i32_add rfl (show (1 : Int32).toInt = 1 by decide) (by omega) (by omega))
                  exact ih (x3 + r18) (x4 + r20) (x5 + 1) (by first | omega | assumption | decide) (by omega)
                · skip
                  have r_62 := n_rng r26
                  have c_48i : r26.toInt ≠ 2 := bI_neq rfl (show (2 : Int32).toInt = 2 by decide) c_48
                  exact ok_some (Or.inl rfl)
              · skip
                have r_63 := n_rng r23
                have c_44i : r23.toInt ≠ 0 := bI_neq rfl (show (0 : Int32).toInt = 0 by decide) c_44
                have e_65 : (1 : Int32).toInt = 1 := (show (1 : Int32).toInt = 1 by decide)
                refine ok_bd (t_fX9_faultOf (by first | omega | assumption | decide | (show 0 ≤ x5.toInt ∧ x5.toInt ≤ 9; first | omega | assumption)) (by first | omega | assumption | decide | (show 0 ≤ (1 : Int32).toInt ∧ (1 : Int32).toInt ≤ 5; first | omega | assumption))) (fun r18 q_64 => ?_)
                have h_66 : r18 = gT z_t 24 (((44 + (6 * x5)) + (1 : Int32)).toNatClampNeg) := q_64
                clear q_64
                have e_68 : (0 : Int32).toInt = 0 := (show (0 : Int32).toInt = 0 by decide)
                refine ok_bd (t_fX9_kindOf (by first | omega | assumption | decide | (show 0 ≤ x5.toInt ∧ x5.toInt < (gT z_t 24 0).toInt; first | omega | assumption)) (by first | omega | assumption | decide | (show 0 ≤ (0 : Int32).toInt ∧ (0 : Int32).toInt ≤ 2; first | omega | assumption)) hS) (fun r20 q_67 => ?_)
                have r_69 := n_rng x3
                have r_70 := n_rng r18
                try have e_71 : (x3 + r18).toInt = (x3.toInt + r18.toInt) := (i32_add rfl rfl (by omega) (by omega))
                have r_72 := n_rng x4
                have r_73 := n_rng r20
                try have e_74 : (x4 + r20).toInt = (x4.toInt + r20.toInt) := (i32_add rfl rfl (by omega) (by omega))
                try have e_75 : (x5 + 1).toInt = (x5.toInt + 1) := (i32_add rfl (show (1 : Int32).toInt = 1 by decide) (by omega) (by omega))
                exact ih (x3 + r18) (x4 + r20) (x5 + 1) (by first | omega | assumption | decide) (by omega)
set_option maxHeartbeats 400000 in
set_option maxRecDepth 20000 in
theorem t_fX9_couldBe {z_t : Sx} {x1 : Int32} {x2 : Int32} (hS : SOK (gT z_t 24)) : okP (fX9_couldBe z_t x1 x2) (fun y => (y = 0 ∨ y = 1)) := by
  unfold fX9_couldBe
  have hn := hS.1
  have hr := hS.2.2.1
  try have e_1 : (0 : Int32).toInt = 0 := (show (0 : Int32).toInt = 0 by decide)
  refine tl_lX9_couldBe_8 (fun i28 i29 => ?_) hS FU 0 0 0 (by first | omega | assumption | decide) (FU_lt (by have := n_rng (gT z_t 24 0); omega))
  · skip
    refine ok_ite (fun c_2 => ?_) (fun c_2 => ?_)
    · skip
      have r_3 := n_rng (gT z_t 24 2)
      have r_4 := n_rng i28
      have c_2i : (gT z_t 24 2).toInt < i28.toInt := bI_lt rfl rfl c_2
      exact ok_some (Or.inl rfl)
    · skip
      have r_5 := n_rng (gT z_t 24 2)
      have r_6 := n_rng i28
      have c_2i : (gT z_t 24 2).toInt ≥ i28.toInt := bI_nlt rfl rfl c_2
      refine ok_ite (fun c_7 => ?_) (fun c_7 => ?_)
      · skip
        have r_8 := n_rng i29
        have r_9 := n_rng x2
        have c_7i : i29.toInt = x2.toInt := bI_eq rfl rfl c_7
        exact ok_some (Or.inr rfl)
      · skip
        have r_10 := n_rng i29
        have r_11 := n_rng x2
        have c_7i : i29.toInt ≠ x2.toInt := bI_neq rfl rfl c_7
        exact ok_some (Or.inl rfl)

set_option maxHeartbeats 400000 in
set_option maxRecDepth 20000 in
theorem t_fX9_count {z_t : Sx} {x1 : Int32} (hS : SOK (gT z_t 24)) : okP (fX9_count z_t x1) (fun _ => True) := by
  unfold fX9_count
  have hn := hS.1
  have hr := hS.2.2.1
  refine ok_ite (fun c_1 => ?_) (fun c_1 => ?_)
  · skip
    have r_2 := n_rng x1
    have c_1i : x1.toInt = 0 := bI_eq rfl (show (0 : Int32).toInt = 0 by decide) c_1
    refine ok_gd (inb_of (by omega) (by omega)) ?_
    have i_3 : (x1.toNatClampNeg : Int) = x1.toInt := clampI (by omega)
    exact ok_some trivial
  · skip
    have r_4 := n_rng x1
    have c_1i : x1.toInt ≠ 0 := bI_neq rfl (show (0 : Int32).toInt = 0 by decide) c_1
    refine ok_ite (fun c_5 => ?_) (fun c_5 => ?_)
    · skip
      have c_5i : x1.toInt = 1 := bI_eq rfl (show (1 : Int32).toInt = 1 by decide) c_5
      refine ok_gd (inb_of (by omega) (by omega)) ?_
      have i_6 : (x1.toNatClampNeg : Int) = x1.toInt := clampI (by omega)
      exact ok_some trivial
    · skip
      have c_5i : x1.toInt ≠ 1 := bI_neq rfl (show (1 : Int32).toInt = 1 by decide) c_5
      refine ok_ite (fun c_7 => ?_) (fun c_7 => ?_)
      · skip
        have c_7i : x1.toInt = 2 := bI_eq rfl (show (2 : Int32).toInt = 2 by decide) c_7
        exact ok_some trivial
      · skip
        have c_7i : x1.toInt ≠ 2 := bI_neq rfl (show (2 : Int32).toInt = 2 by decide) c_7
        refine ok_ite (fun c_8 => ?_) (fun c_8 => ?_)
        · skip
          have c_8i : x1.toInt = 3 := bI_eq rfl (show (3 : Int32).toInt = 3 by decide) c_8
          exact ok_some trivial
        · skip
          have c_8i : x1.toInt ≠ 3 := bI_neq rfl (show (3 : Int32).toInt = 3 by decide) c_8
          refine ok_ite (fun c_9 => ?_) (fun c_9 => ?_)
          · skip
            have c_9i : x1.toInt = 4 := bI_eq rfl (show (4 : Int32).toInt = 4 by decide) c_9
            refine ok_bd (t_fX9_thatAre hS) (fun r5 q_10 => ?_)
            refine ok_bd (t_fX9_bits) (fun r7 q_11 => ?_)
            exact ok_some trivial
          · skip
            have c_9i : x1.toInt ≠ 4 := bI_neq rfl (show (4 : Int32).toInt = 4 by decide) c_9
            refine ok_ite (fun c_12 => ?_) (fun c_12 => ?_)
            · skip
              have c_12i : x1.toInt = 5 := bI_eq rfl (show (5 : Int32).toInt = 5 by decide) c_12
              refine ok_bd (t_fX9_thatAre hS) (fun r9 q_13 => ?_)
              refine ok_bd (t_fX9_bits) (fun r11 q_14 => ?_)
              exact ok_some trivial
            · skip
              have c_12i : x1.toInt ≠ 5 := bI_neq rfl (show (5 : Int32).toInt = 5 by decide) c_12
              refine ok_ite (fun c_15 => ?_) (fun c_15 => ?_)
              · skip
                have c_15i : x1.toInt = 6 := bI_eq rfl (show (6 : Int32).toInt = 6 by decide) c_15
                exact ok_some trivial
              · skip
                have c_15i : x1.toInt ≠ 6 := bI_neq rfl (show (6 : Int32).toInt = 6 by decide) c_15
                refine ok_ite (fun c_16 => ?_) (fun c_16 => ?_)
                · skip
                  have c_16i : x1.toInt = 7 := bI_eq rfl (show (7 : Int32).toInt = 7 by decide) c_16
                  exact ok_some trivial
                · skip
                  have c_16i : x1.toInt ≠ 7 := bI_neq rfl (show (7 : Int32).toInt = 7 by decide) c_16
                  refine ok_ite (fun c_17 => ?_) (fun c_17 => ?_)
                  · skip
                    have c_17i : x1.toInt = 8 := bI_eq rfl (show (8 : Int32).toInt = 8 by decide) c_17
                    exact ok_some trivial
                  · skip
                    have c_17i : x1.toInt ≠ 8 := bI_neq rfl (show (8 : Int32).toInt = 8 by decide) c_17
                    refine ok_ite (fun c_18 => ?_) (fun c_18 => ?_)
                    · skip
                      have c_18i : x1.toInt = 9 := bI_eq rfl (show (9 : Int32).toInt = 9 by decide) c_18
                      exact ok_some trivial
                    · skip
                      have c_18i : x1.toInt ≠ 9 := bI_neq rfl (show (9 : Int32).toInt = 9 by decide) c_18
                      refine ok_ite (fun c_19 => ?_) (fun c_19 => ?_)
                      · skip
                        have c_19i : x1.toInt = 10 := bI_eq rfl (show (10 : Int32).toInt = 10 by decide) c_19
                        exact ok_some trivial
                      · skip
                        have c_19i : x1.toInt ≠ 10 := bI_neq rfl (show (10 : Int32).toInt = 10 by decide) c_19
                        exact ok_some trivial

set_option maxHeartbeats 400000 in
set_option maxRecDepth 20000 in
theorem t_fX9_dawn {z_t : Sx} (hS : SOK (gT z_t 24)) : okP (fX9_dawn z_t) (fun y => (FrL [24] z_t y.2) ∧ (SOK (gT y.2 24)) ∧ (KC z_t y.2)) := by
  unfold fX9_dawn
  have hn := hS.1
  have hr := hS.2.2.1
  refine ok_bd (t_fX9_isWork) (fun r2 q_1 => ?_)
  have h_2 : r2 = 0 ∨ r2 = 1 := q_1.1
  have h_2i := bool_i h_2
  have h_3 : (r2.toInt = 1 ∧ 0 < (gT z_t 24 0).toInt) ∨ r2.toInt = 0 := q_1.2
  clear q_1
  refine ok_ite (fun c_4 => ?_) (fun c_4 => ?_)
  · skip
    have r_5 := n_rng r2
    have c_4i : r2.toInt = 0 := bI_eq rfl (show (0 : Int32).toInt = 0 by decide) c_4
    exact ok_some ⟨fr_rf, hS, kc_rf⟩
  · skip
    have r_6 := n_rng r2
    have c_4i : r2.toInt ≠ 0 := bI_neq rfl (show (0 : Int32).toInt = 0 by decide) c_4
    refine ok_bd (t_fX9_hidden hS) (fun r5 q_7 => ?_)
    refine ok_nm ?_
    refine ok_nm ?_
    have n_9 : KC z_t (sT (sT (sT z_t 24 5 ((gT z_t 24 5) + r5)) 24 6 ((gT (sT z_t 24 5 ((gT z_t 24 5) + r5)) 24 6) + (gT (sT z_t 24 5 ((gT z_t 24 5) + r5)) 24 4))) 24 7 ((gT (sT (sT z_t 24 5 ((gT z_t 24 5) + r5)) 24 6 ((gT (sT z_t 24 5 ((gT z_t 24 5) + r5)) 24 6) + (gT (sT z_t 24 5 ((gT z_t 24 5) + r5)) 24 4))) 24 7) + 1)) := (kc_T (kc_T (kc_T kc_rf (by omega) (by omega)) (by omega) (by omega)) (by omega) (by omega))
    have n_9a := n_9.1
    have n_9b := n_9.2
    refine ok_bd (t_fX9_begins (so_T (so_T (so_T hS (by unfold freeix; omega)) (by unfold freeix; omega)) (by unfold freeix; omega))) (fun z9 q_8 => ?_)
    have h_10 : FrL [24] (sT (sT (sT z_t 24 5 ((gT z_t 24 5) + r5)) 24 6 ((gT (sT z_t 24 5 ((gT z_t 24 5) + r5)) 24 6) + (gT (sT z_t 24 5 ((gT z_t 24 5) + r5)) 24 4))) 24 7 ((gT (sT (sT z_t 24 5 ((gT z_t 24 5) + r5)) 24 6 ((gT (sT z_t 24 5 ((gT z_t 24 5) + r5)) 24 6) + (gT (sT z_t 24 5 ((gT z_t 24 5) + r5)) 24 4))) 24 7) + 1)) z9 := q_8.1
    have h_11 : SOK (gT z9 24) := q_8.2.1
    have h_12 : KC (sT (sT (sT z_t 24 5 ((gT z_t 24 5) + r5)) 24 6 ((gT (sT z_t 24 5 ((gT z_t 24 5) + r5)) 24 6) + (gT (sT z_t 24 5 ((gT z_t 24 5) + r5)) 24 4))) 24 7 ((gT (sT (sT z_t 24 5 ((gT z_t 24 5) + r5)) 24 6 ((gT (sT z_t 24 5 ((gT z_t 24 5) + r5)) 24 6) + (gT (sT z_t 24 5 ((gT z_t 24 5) + r5)) 24 4))) 24 7) + 1)) z9 := q_8.2.2
    have h_12a := h_12.1
    have h_12b := h_12.2
    clear q_8
    exact ok_some ⟨(fr_tr (fr_T (fr_T (fr_T fr_rf (by decide)) (by decide)) (by decide)) h_10 (by decide)), h_11, (kc_tr (kc_T (kc_T (kc_T kc_rf (by omega) (by omega)) (by omega) (by omega)) (by omega) (by omega)) h_12)⟩

set_option maxHeartbeats 400000 in
set_option maxRecDepth 20000 in
theorem t_fX9_isRule {z_t : Sx} {x1 : Int32} : okP (fX9_isRule z_t x1) (fun y => (y = 0 ∨ y = 1) ∧ ((y.toInt = 1 ∧ 0 ≤ x1.toInt ∧ x1.toInt < (gI z_t 2).toInt) ∨ y.toInt = 0)) := by
  unfold fX9_isRule
  refine ok_ite (fun c_1 => ?_) (fun c_1 => ?_)
  · skip
    have r_2 := n_rng x1
    have c_1i : x1.toInt < 0 := bI_lt rfl (show (0 : Int32).toInt = 0 by decide) c_1
    try have e_3 : (0 : Int32).toInt = 0 := (show (0 : Int32).toInt = 0 by decide)
    exact ok_some ⟨Or.inl rfl, (show ((0 : Int32).toInt = 1 ∧ 0 ≤ x1.toInt ∧ x1.toInt < (gI z_t 2).toInt) ∨ (0 : Int32).toInt = 0 by first | exact Or.inl ⟨by decide, by omega, by omega⟩ | exact Or.inr (by decide))⟩
  · skip
    have r_4 := n_rng x1
    have c_1i : x1.toInt ≥ 0 := bI_nlt rfl (show (0 : Int32).toInt = 0 by decide) c_1
    refine ok_ite (fun c_5 => ?_) (fun c_5 => ?_)
    · skip
      have r_6 := n_rng (gI z_t 2)
      have c_5i : (gI z_t 2).toInt ≤ x1.toInt := bI_le rfl rfl c_5
      try have e_7 : (0 : Int32).toInt = 0 := (show (0 : Int32).toInt = 0 by decide)
      exact ok_some ⟨Or.inl rfl, (show ((0 : Int32).toInt = 1 ∧ 0 ≤ x1.toInt ∧ x1.toInt < (gI z_t 2).toInt) ∨ (0 : Int32).toInt = 0 by first | exact Or.inl ⟨by decide, by omega, by omega⟩ | exact Or.inr (by decide))⟩
    · skip
      have r_8 := n_rng (gI z_t 2)
      have c_5i : (gI z_t 2).toInt > x1.toInt := bI_nle rfl rfl c_5
      try have e_9 : (1 : Int32).toInt = 1 := (show (1 : Int32).toInt = 1 by decide)
      exact ok_some ⟨Or.inr rfl, (show ((1 : Int32).toInt = 1 ∧ 0 ≤ x1.toInt ∧ x1.toInt < (gI z_t 2).toInt) ∨ (1 : Int32).toInt = 0 by first | exact Or.inl ⟨by decide, by omega, by omega⟩ | exact Or.inr (by decide))⟩

set_option maxHeartbeats 400000 in
set_option maxRecDepth 20000 in
theorem tl_lX9_stops_7 {t : Nat} {o_z_t : Sx} {x1 : Int32} (pt : x1.toInt = t) (hR : RK o_z_t t) : ∀ (n : Nat) (z_t : Sx) (x3 : Int32), (FrL [21, 22, 23] o_z_t z_t) → (SOK (gT z_t 24)) → (0 ≤ x3.toInt) → (12 - x3.toInt).toNat < n → okP (lX9_stops_7 x1 n z_t x3) (fun y => (y.1 = 0 ∨ y.1 = 1) ∧ (FrL [21, 22, 23] o_z_t y.2)) := by
  intro n
  induction n with
  | zero => intro _ _ _ _ _ hm; omega
  | succ n ih =>
    intro z_t x3 frz_t iS i0 hm
    rw [lX9_stops_7]
    have hn := iS.1
    have hr := iS.2.2.1
    have hR1 := rk_fr frz_t (by decide) hR
    have pt1 : x1.toNatClampNeg = t := n_cl pt
    have t61 := hR1.1
    have hc1 : 0 ≤ (gT z_t 6 x1.toNatClampNeg).toInt ∧ (gT z_t 6 x1.toNatClampNeg).toInt ≤ 12 := by rw [pt1]; exact ⟨hR1.2.1, hR1.2.2.1⟩
    refine ok_gd (inb_of (by omega) (by omega)) ?_
    have i_1 : (x1.toNatClampNeg : Int) = x1.toInt := clampI (by omega)
    refine ok_ite (fun c_2 => ?_) (fun c_2 => ?_)
    · skip
      have r_3 := n_rng (gT z_t 6 x1.toNatClampNeg)
      have r_4 := n_rng x3
      have c_2i : (gT z_t 6 x1.toNatClampNeg).toInt ≤ x3.toInt := bI_le rfl rfl c_2
      exact ok_some ⟨Or.inl rfl, frz_t⟩
    · skip
      have r_5 := n_rng (gT z_t 6 x1.toNatClampNeg)
      have r_6 := n_rng x3
      have c_2i : (gT z_t 6 x1.toNatClampNeg).toInt > x3.toInt := bI_nle rfl rfl c_2
      have r_7 := n_rng x1
      have e_8 : ((60 * x1) + (5 * x3)).toInt = ((60 * x1.toInt) + (5 * x3.toInt)) := (i32_add (i32_mul (show (60 : Int32).toInt = 60 by decide) rfl (by omega) (by omega)) (i32_mul (show (5 : Int32).toInt = 5 by decide) rfl (by omega) (by omega)) (by omega) (by omega))
      refine ok_gd (inb_of (by omega) (by omega)) ?_
      have i_9 : (((60 * x1) + (5 * x3)).toNatClampNeg : Int) = ((60 * x1) + (5 * x3)).toInt := clampI (by omega)
      refine ok_jn ?_
      refine ok_ite (fun c_10 => ?_) (fun c_10 => ?_)
      · skip
        have r_11 := n_rng (gT z_t 5 ((60 * x1) + (5 * x3)).toNatClampNeg)
        have c_10i : (gT z_t 5 ((60 * x1) + (5 * x3)).toNatClampNeg).toInt = 1 := bI_eq rfl (show (1 : Int32).toInt = 1 by decide) c_10
        have e_12 : (((60 * x1) + (5 * x3)) + 3).toInt = (((60 * x1.toInt) + (5 * x3.toInt)) + 3) := (i32_add (i32_add (i32_mul (show (60 : Int32).toInt = 60 by decide) rfl (by omega) (by omega)) (i32_mul (show (5 : Int32).toInt = 5 by decide) rfl (by omega) (by omega)) (by omega) (by omega)) (show (3 : Int32).toInt = 3 by decide) (by omega) (by omega))
        refine ok_gd (inb_of (by omega) (by omega)) ?_
        have i_13 : ((((60 * x1) + (5 * x3)) + 3).toNatClampNeg : Int) = (((60 * x1) + (5 * x3)) + 3).toInt := clampI (by omega)
        have e_14 : (((60 * x1) + (5 * x3)) + 4).toInt = (((60 * x1.toInt) + (5 * x3.toInt)) + 4) := (i32_add (i32_add (i32_mul (show (60 : Int32).toInt = 60 by decide) rfl (by omega) (by omega)) (i32_mul (show (5 : Int32).toInt = 5 by decide) rfl (by omega) (by omega)) (by omega) (by omega)) (show (4 : Int32).toInt = 4 by decide) (by omega) (by omega))
        refine ok_gd (inb_of (by omega) (by omega)) ?_
        have i_15 : ((((60 * x1) + (5 * x3)) + 4).toNatClampNeg : Int) = (((60 * x1) + (5 * x3)) + 4).toInt := clampI (by omega)
        refine ok_bd2 (t_fX9_reckons (t := t) (by exact pt) (by exact t61) (by exact (rk_cl hR1 pt i0 (by omega)).2 (by assumption))) (fun r12 z13 q_16 => ?_)
        have h_17 : FrL [21, 22] z_t z13 := q_16
        clear q_16
        have n_18 : KC z_t z13 := kc_fr kc_rf h_17 (by decide)
        have n_18a := n_18.1
        have n_18b := n_18.2
        refine ok_ite (fun c_19 => ?_) (fun c_19 => ?_)
        · skip
          have c_19i : r12.toInt = 1 := lI_eq rfl (show (1 : Int64).toInt = 1 by decide) c_19
          exact ok_some ⟨Or.inr rfl, (fr_tr frz_t h_17 (by decide))⟩
        · skip
          have c_19i : r12.toInt ≠ 1 := lI_neq rfl (show (1 : Int64).toInt = 1 by decide) c_19
          try have e_20 : (x3 + 1).toInt = (x3.toInt + 1) := (i32_add rfl (show (1 : Int32).toInt = 1 by decide) (by omega) (by omega))
          exact ih z13 (x3 + 1) (fr_tr frz_t h_17 (by decide)) (so_fr h_17 (by decide) iS) (by first | omega | assumption | decide) (by omega)
      · skip
        have r_21 := n_rng (gT z_t 5 ((60 * x1) + (5 * x3)).toNatClampNeg)
        have c_10i : (gT z_t 5 ((60 * x1) + (5 * x3)).toNatClampNeg).toInt ≠ 1 := bI_neq rfl (show (1 : Int32).toInt = 1 by decide) c_10
        try have e_22 : (x3 + 1).toInt = (x3.toInt + 1) := (i32_add rfl (show (1 : Int32).toInt = 1 by decide) (by omega) (by omega))
        exact ih z_t (x3 + 1) frz_t iS (by first | omega | assumption | decide) (by omega)
set_option maxHeartbeats 400000 in
set_option maxRecDepth 20000 in
theorem t_fX9_stops {z_t : Sx} {x1 : Int32} {x2 : Int32} {t : Nat} (pt : x1.toInt = t) (p2 : 0 ≤ x2.toInt ∧ x2.toInt < (gT z_t 24 0).toInt) (hS : SOK (gT z_t 24)) (hR : RK z_t t) : okP (fX9_stops z_t x1 x2) (fun y => (y.1 = 0 ∨ y.1 = 1) ∧ (FrL [21, 22, 23] z_t y.2)) := by
  unfold fX9_stops
  have hn := hS.1
  have hr := hS.2.2.1
  refine ok_bd (t_fX9_words (by first | omega | assumption | decide | (show 0 ≤ x2.toInt ∧ x2.toInt < (gT z_t 24 0).toInt; first | omega | assumption)) hS) (fun z2 q_1 => ?_)
  have h_2 : FrL [23] z_t z2 := q_1
  clear q_1
  have n_3 : KC z_t z2 := kc_fr kc_rf h_2 (by decide)
  have n_3a := n_3.1
  have n_3b := n_3.2
  try have e_4 : (0 : Int32).toInt = 0 := (show (0 : Int32).toInt = 0 by decide)
  refine tl_lX9_stops_7 (t := t) (by first | omega | assumption | decide) hR FU z2 0 (fr_tr fr_rf h_2 (by decide)) (so_fr h_2 (by decide) hS) (by first | omega | assumption | decide) (FU_lt (by omega))

set_option maxHeartbeats 400000 in
set_option maxRecDepth 20000 in
theorem tl_lX9_nextFor_7 {t : Nat} {o_z_t : Sx} {k98 : Sx → Int32 → Option (Int32 × Sx)} {x1 : Int32} (Hk98 : ∀ (y0 : Sx) (y1 : Int32), (FrL [21, 22, 23] o_z_t y0) → (SOK (gT y0 24)) → (-1 ≤ y1.toInt ∧ y1.toInt < (gT o_z_t 24 0).toInt) → okP (k98 y0 y1) (fun y => (FrL [21, 22, 23] o_z_t y.2) ∧ (-1 ≤ y.1.toInt ∧ y.1.toInt < (gT o_z_t 24 0).toInt))) (pt : x1.toInt = t) (hR : RK o_z_t t) : ∀ (n : Nat) (z_t : Sx) (x2 : Int32) (x3 : Int64) (x5 : Int32), (FrL [21, 22, 23] o_z_t z_t) → (SOK (gT z_t 24)) → (0 ≤ x5.toInt) → (-1 ≤ x2.toInt ∧ x2.toInt < (gT o_z_t 24 0).toInt) → ((gT o_z_t 24 0).toInt - x5.toInt).toNat < n → okP (lX9_nextFor_7 k98 x1 n z_t x2 x3 x5) (fun y => (FrL [21, 22, 23] o_z_t y.2) ∧ (-1 ≤ y.1.toInt ∧ y.1.toInt < (gT o_z_t 24 0).toInt)) := by
  intro n
  induction n with
  | zero => intro _ _ _ _ _ _ _ _ hm; omega
  | succ n ih =>
    intro z_t x2 x3 x5 frz_t iS i0 i2 hm
    rw [lX9_nextFor_7]
    have hn := iS.1
    have hr := iS.2.2.1
    have k0 : (gT z_t 24 0).toInt = (gT o_z_t 24 0).toInt := by rw [(frz_t 24 (by decide)).2.1]
    have t61 := hR.1
    refine ok_ite (fun c_1 => ?_) (fun c_1 => ?_)
    · skip
      have r_2 := n_rng (gT z_t 24 0)
      have r_3 := n_rng x5
      have c_1i : (gT z_t 24 0).toInt ≤ x5.toInt := bI_le rfl rfl c_1
      exact Hk98 z_t x2 frz_t iS (by first | omega | assumption | decide)
    · skip
      have r_4 := n_rng (gT z_t 24 0)
      have r_5 := n_rng x5
      have c_1i : (gT z_t 24 0).toInt > x5.toInt := bI_nle rfl rfl c_1
      refine ok_bd (t_fX9_canLook (by first | omega | assumption | decide | (show 0 ≤ x5.toInt ∧ x5.toInt < (gT z_t 24 0).toInt; first | omega | assumption)) iS) (fun r3 q_6 => ?_)
      have h_7 : r3 = 0 ∨ r3 = 1 := q_6
      have h_7i := bool_i h_7
      clear q_6
      refine ok_jn ?_
      refine ok_ite (fun c_8 => ?_) (fun c_8 => ?_)
      · skip
        have r_9 := n_rng r3
        have c_8i : r3.toInt = 0 := bI_eq rfl (show (0 : Int32).toInt = 0 by decide) c_8
        try have e_10 : (x5 + 1).toInt = (x5.toInt + 1) := (i32_add rfl (show (1 : Int32).toInt = 1 by decide) (by omega) (by omega))
        exact ih z_t x2 x3 (x5 + 1) frz_t iS (by first | omega | assumption | decide) (by first | omega | assumption | decide) (by omega)
      · skip
        have r_11 := n_rng r3
        have c_8i : r3.toInt ≠ 0 := bI_neq rfl (show (0 : Int32).toInt = 0 by decide) c_8
        refine ok_bd2 (t_fX9_clauseFor (t := t) (by first | omega | assumption | decide | (show x1.toInt = t; first | omega | assumption)) (by first | omega | assumption | decide | (show 0 ≤ x5.toInt ∧ x5.toInt < (gT z_t 24 0).toInt; first | omega | assumption)) iS (rk_fr frz_t (by decide) hR)) (fun r10 z11 q_12 => ?_)
        have h_13 : FrL [21, 22, 23] z_t z11 := q_12.1
        have h_14 : 0 ≤ r10.toInt → LK z11 t r10 := q_12.2.1
        have h_15 : r10.toInt ≤ 357 := q_12.2.2
        clear q_12
        have n_16 : KC z_t z11 := kc_fr kc_rf h_13 (by decide)
        have n_16a := n_16.1
        have n_16b := n_16.2
        refine ok_ite (fun c_17 => ?_) (fun c_17 => ?_)
        · skip
          have r_18 := n_rng r10
          have c_17i : 0 ≤ r10.toInt := bI_le (show (0 : Int32).toInt = 0 by decide) rfl c_17
          have e_19 : (r10 + 1).toInt = (r10.toInt + 1) := (i32_add rfl (show (1 : Int32).toInt = 1 by decide) (by omega) (by omega))
          refine ok_gd (inb_of (by omega) (by omega)) ?_
          have i_20 : ((r10 + 1).toNatClampNeg : Int) = (r10 + 1).toInt := clampI (by omega)
          have e_21 : (r10 + 2).toInt = (r10.toInt + 2) := (i32_add rfl (show (2 : Int32).toInt = 2 by decide) (by omega) (by omega))
          refine ok_gd (inb_of (by omega) (by omega)) ?_
          have i_22 : ((r10 + 2).toNatClampNeg : Int) = (r10 + 2).toInt := clampI (by omega)
          have hlk := (show 0 ≤ r10.toInt → LK z11 t r10 by assumption) (by omega)
          refine ok_bd2 (t_fX9_reckons (t := t) (by exact pt) (by exact t61) (by exact hlk.1)) (fun r16 z17 q_23 => ?_)
          have h_24 : FrL [21, 22] z11 z17 := q_23
          clear q_23
          have n_25 : KC z11 z17 := kc_fr kc_rf h_24 (by decide)
          have n_25a := n_25.1
          have n_25b := n_25.2
          refine ok_jn ?_
          refine ok_ite (fun c_26 => ?_) (fun c_26 => ?_)
          · skip
            have r_27 := n_rng x2
            have c_26i : x2.toInt < 0 := bI_lt rfl (show (0 : Int32).toInt = 0 by decide) c_26
            try have e_28 : (x5 + 1).toInt = (x5.toInt + 1) := (i32_add rfl (show (1 : Int32).toInt = 1 by decide) (by omega) (by omega))
            exact ih z17 x5 r16 (x5 + 1) (fr_tr (fr_tr frz_t h_13 (by decide)) h_24 (by decide)) (so_fr h_24 (by decide) (so_fr h_13 (by decide) iS)) (by first | omega | assumption | decide) (by first | omega | assumption | decide) (by omega)
          · skip
            have r_29 := n_rng x2
            have c_26i : x2.toInt ≥ 0 := bI_nlt rfl (show (0 : Int32).toInt = 0 by decide) c_26
            refine ok_ite (fun c_30 => ?_) (fun c_30 => ?_)
            · skip
              have c_30i : r16.toInt < x3.toInt := lI_lt rfl rfl c_30
              try have e_31 : (x5 + 1).toInt = (x5.toInt + 1) := (i32_add rfl (show (1 : Int32).toInt = 1 by decide) (by omega) (by omega))
              exact ih z17 x5 r16 (x5 + 1) (fr_tr (fr_tr frz_t h_13 (by decide)) h_24 (by decide)) (so_fr h_24 (by decide) (so_fr h_13 (by decide) iS)) (by first | omega | assumption | decide) (by first | omega | assumption | decide) (by omega)
            · skip
              have c_30i : r16.toInt ≥ x3.toInt := lI_nlt rfl rfl c_30
              try have e_32 : (x5 + 1).toInt = (x5.toInt + 1) := (i32_add rfl (show (1 : Int32).toInt = 1 by decide) (by omega) (by omega))
              exact ih z17 x2 x3 (x5 + 1) (fr_tr (fr_tr frz_t h_13 (by decide)) h_24 (by decide)) (so_fr h_24 (by decide) (so_fr h_13 (by decide) iS)) (by first | omega | assumption | decide) (by first | omega | assumption | decide) (by omega)
        · skip
          have r_33 := n_rng r10
          have c_17i : 0 > r10.toInt := bI_nle (show (0 : Int32).toInt = 0 by decide) rfl c_17
          try have e_34 : (x5 + 1).toInt = (x5.toInt + 1) := (i32_add rfl (show (1 : Int32).toInt = 1 by decide) (by omega) (by omega))
          exact ih z11 x2 x3 (x5 + 1) (fr_tr frz_t h_13 (by decide)) (so_fr h_13 (by decide) iS) (by first | omega | assumption | decide) (by first | omega | assumption | decide) (by omega)
set_option maxHeartbeats 400000 in
set_option maxRecDepth 20000 in
theorem t_fX9_nextFor {z_t : Sx} {x1 : Int32} {t : Nat} (pt : x1.toInt = t) (hS : SOK (gT z_t 24)) (hR : RK z_t t) : okP (fX9_nextFor z_t x1) (fun y => (FrL [21, 22, 23] z_t y.2) ∧ (-1 ≤ y.1.toInt ∧ y.1.toInt < (gT z_t 24 0).toInt)) := by
  unfold fX9_nextFor
  have hn := hS.1
  have hr := hS.2.2.1
  try have e_4 : (-1 : Int32).toInt = (-1) := (show (-1 : Int32).toInt = -1 by decide)
  try have e_5 : (0 : Int32).toInt = 0 := (show (0 : Int32).toInt = 0 by decide)
  refine tl_lX9_nextFor_7 (t := t) (fun z21 i22 k_1 k_2 k_3 => ?_) (by first | omega | assumption | decide) hR FU z_t (-1) 0 0 fr_rf hS (by first | omega | assumption | decide) (by first | omega | assumption | decide) (FU_lt (by omega))
  · skip
    refine ok_jn ?_
    refine ok_ite (fun c_6 => ?_) (fun c_6 => ?_)
    · skip
      have r_7 := n_rng i22
      have c_6i : i22.toInt < 0 := bI_lt rfl (show (0 : Int32).toInt = 0 by decide) c_6
      try have e_8 : (-1 : Int32).toInt = (-1) := (show (-1 : Int32).toInt = -1 by decide)
      exact ok_some ⟨k_1, (show -1 ≤ (-1 : Int32).toInt ∧ (-1 : Int32).toInt < (gT z_t 24 0).toInt by first | omega | assumption | trivial)⟩
    · skip
      have r_9 := n_rng i22
      have c_6i : i22.toInt ≥ 0 := bI_nlt rfl (show (0 : Int32).toInt = 0 by decide) c_6
      have kq : (gT z21 24 0).toInt = (gT z_t 24 0).toInt := by rw [((show FrL [21, 22, 23] z_t z21 by assumption) 24 (by decide)).2.1]
      refine ok_bd2 (t_fX9_stops (t := t) (by first | omega | assumption | decide | (show x1.toInt = t; first | omega | assumption)) (by first | omega | assumption | decide | (show 0 ≤ i22.toInt ∧ i22.toInt < (gT z21 24 0).toInt; first | omega | assumption)) k_2 (rk_fr k_1 (by decide) hR)) (fun r27 z28 q_10 => ?_)
      have h_11 : r27 = 0 ∨ r27 = 1 := q_10.1
      have h_11i := bool_i h_11
      have h_12 : FrL [21, 22, 23] z21 z28 := q_10.2
      clear q_10
      have n_13 : KC z21 z28 := kc_fr kc_rf h_12 (by decide)
      have n_13a := n_13.1
      have n_13b := n_13.2
      refine ok_ite (fun c_14 => ?_) (fun c_14 => ?_)
      · skip
        have r_15 := n_rng r27
        have c_14i : r27.toInt = 0 := bI_eq rfl (show (0 : Int32).toInt = 0 by decide) c_14
        exact ok_some ⟨(fr_tr k_1 h_12 (by decide)), (show -1 ≤ i22.toInt ∧ i22.toInt < (gT z_t 24 0).toInt by first | omega | assumption | trivial)⟩
      · skip
        have r_16 := n_rng r27
        have c_14i : r27.toInt ≠ 0 := bI_neq rfl (show (0 : Int32).toInt = 0 by decide) c_14
        try have e_17 : (-1 : Int32).toInt = (-1) := (show (-1 : Int32).toInt = -1 by decide)
        exact ok_some ⟨(fr_tr k_1 h_12 (by decide)), (show -1 ≤ (-1 : Int32).toInt ∧ (-1 : Int32).toInt < (gT z_t 24 0).toInt by first | omega | assumption | trivial)⟩

set_option maxHeartbeats 400000 in
set_option maxRecDepth 20000 in
theorem t_fX9_draw {z_t : Sx} {x1 : Int32} (p1 : ¬ x1 = 0) (hS : SOK (gT z_t 24)) : okP (fX9_draw z_t x1) (fun y => (FrL [24] z_t y.2) ∧ (SOK (gT y.2 24)) ∧ (KC z_t y.2)) := by
  unfold fX9_draw
  have hn := hS.1
  have hr := hS.2.2.1
  refine ok_nm ?_
  refine ok_gd (by assumption) ?_
  exact ok_some ⟨(fr_T fr_rf (by decide)), (so_T hS (by unfold freeix; omega)), (kc_T kc_rf (by omega) (by omega))⟩

set_option maxHeartbeats 400000 in
set_option maxRecDepth 20000 in
theorem t_fX9_looks {z_t : Sx} {x1 : Int32} (p1 : 0 ≤ x1.toInt ∧ x1.toInt < (gT z_t 24 0).toInt) (hS : SOK (gT z_t 24)) : okP (fX9_looks z_t x1) (fun y => (y.1 = 0 ∨ y.1 = 1) ∧ (FrL [24] z_t y.2) ∧ (SOK (gT y.2 24)) ∧ (KC z_t y.2)) := by
  unfold fX9_looks
  have hn := hS.1
  have hr := hS.2.2.1
  have r_1 := n_rng x1
  have e_2 : ((44 + (6 * x1)) + 5).toInt = ((44 + (6 * x1.toInt)) + 5) := (i32_add (i32_add (show (44 : Int32).toInt = 44 by decide) (i32_mul (show (6 : Int32).toInt = 6 by decide) rfl (by omega) (by omega)) (by omega) (by omega)) (show (5 : Int32).toInt = 5 by decide) (by omega) (by omega))
  refine ok_gd (inb_of (by omega) (by omega)) ?_
  have i_3 : (((44 + (6 * x1)) + 5).toNatClampNeg : Int) = ((44 + (6 * x1)) + 5).toInt := clampI (by omega)
  have e_4 : ((44 + (6 * x1)) + 1).toInt = ((44 + (6 * x1.toInt)) + 1) := (i32_add (i32_add (show (44 : Int32).toInt = 44 by decide) (i32_mul (show (6 : Int32).toInt = 6 by decide) rfl (by omega) (by omega)) (by omega) (by omega)) (show (1 : Int32).toInt = 1 by decide) (by omega) (by omega))
  refine ok_gd (inb_of (by omega) (by omega)) ?_
  have i_5 : (((44 + (6 * x1)) + 1).toNatClampNeg : Int) = ((44 + (6 * x1)) + 1).toInt := clampI (by omega)
  refine ok_nm ?_
  have e_7 : (100 : Int32).toInt = 100 := (show (100 : Int32).toInt = 100 by decide)
  have n_8 : KC z_t (sT (sT z_t 24 ((44 + (6 * x1)) + 5).toNatClampNeg ((gT z_t 24 ((44 + (6 * x1)) + 5).toNatClampNeg) + 1)) 24 3 ((gT (sT z_t 24 ((44 + (6 * x1)) + 5).toNatClampNeg ((gT z_t 24 ((44 + (6 * x1)) + 5).toNatClampNeg) + 1)) 24 3) - (gT (sT z_t 24 ((44 + (6 * x1)) + 5).toNatClampNeg ((gT z_t 24 ((44 + (6 * x1)) + 5).toNatClampNeg) + 1)) 24 ((44 + (6 * x1)) + 1).toNatClampNeg))) := (kc_T (kc_T kc_rf (by omega) (by omega)) (by omega) (by omega))
  have n_8a := n_8.1
  have n_8b := n_8.2
  refine ok_bd2 (t_fX9_draw (by first | omega | assumption | decide | (show ¬ (100 : Int32) = 0; first | omega | assumption)) (so_T (so_T hS (by unfold freeix; omega)) (by unfold freeix; omega))) (fun r5 z6 q_6 => ?_)
  have h_9 : FrL [24] (sT (sT z_t 24 ((44 + (6 * x1)) + 5).toNatClampNeg ((gT z_t 24 ((44 + (6 * x1)) + 5).toNatClampNeg) + 1)) 24 3 ((gT (sT z_t 24 ((44 + (6 * x1)) + 5).toNatClampNeg ((gT z_t 24 ((44 + (6 * x1)) + 5).toNatClampNeg) + 1)) 24 3) - (gT (sT z_t 24 ((44 + (6 * x1)) + 5).toNatClampNeg ((gT z_t 24 ((44 + (6 * x1)) + 5).toNatClampNeg) + 1)) 24 ((44 + (6 * x1)) + 1).toNatClampNeg))) z6 := q_6.1
  have h_10 : SOK (gT z6 24) := q_6.2.1
  have h_11 : KC (sT (sT z_t 24 ((44 + (6 * x1)) + 5).toNatClampNeg ((gT z_t 24 ((44 + (6 * x1)) + 5).toNatClampNeg) + 1)) 24 3 ((gT (sT z_t 24 ((44 + (6 * x1)) + 5).toNatClampNeg ((gT z_t 24 ((44 + (6 * x1)) + 5).toNatClampNeg) + 1)) 24 3) - (gT (sT z_t 24 ((44 + (6 * x1)) + 5).toNatClampNeg ((gT z_t 24 ((44 + (6 * x1)) + 5).toNatClampNeg) + 1)) 24 ((44 + (6 * x1)) + 1).toNatClampNeg))) z6 := q_6.2.2
  have h_11a := h_11.1
  have h_11b := h_11.2
  clear q_6
  have e_12 : ((44 + (6 * x1)) + 2).toInt = ((44 + (6 * x1.toInt)) + 2) := (i32_add (i32_add (show (44 : Int32).toInt = 44 by decide) (i32_mul (show (6 : Int32).toInt = 6 by decide) rfl (by omega) (by omega)) (by omega) (by omega)) (show (2 : Int32).toInt = 2 by decide) (by omega) (by omega))
  refine ok_gd (inb_of (by omega) (by omega)) ?_
  have i_13 : (((44 + (6 * x1)) + 2).toNatClampNeg : Int) = ((44 + (6 * x1)) + 2).toInt := clampI (by omega)
  refine ok_ite (fun c_14 => ?_) (fun c_14 => ?_)
  · skip
    have r_15 := n_rng r5
    have r_16 := n_rng (gT z6 24 ((44 + (6 * x1)) + 2).toNatClampNeg)
    have c_14i : r5.toInt < (gT z6 24 ((44 + (6 * x1)) + 2).toNatClampNeg).toInt := bI_lt rfl rfl c_14
    have e_17 : ((44 + (6 * x1)) + 4).toInt = ((44 + (6 * x1.toInt)) + 4) := (i32_add (i32_add (show (44 : Int32).toInt = 44 by decide) (i32_mul (show (6 : Int32).toInt = 6 by decide) rfl (by omega) (by omega)) (by omega) (by omega)) (show (4 : Int32).toInt = 4 by decide) (by omega) (by omega))
    refine ok_gd (inb_of (by omega) (by omega)) ?_
    have i_18 : (((44 + (6 * x1)) + 4).toNatClampNeg : Int) = ((44 + (6 * x1)) + 4).toInt := clampI (by omega)
    have e_20 : (0 : Int32).toInt = 0 := (show (0 : Int32).toInt = 0 by decide)
    have n_21 : KC z6 (sT z6 24 ((44 + (6 * x1)) + 4).toNatClampNeg 1) := (kc_T kc_rf (by omega) (by omega))
    have n_21a := n_21.1
    have n_21b := n_21.2
    refine ok_bd (t_fX9_kindOf (by first | omega | assumption | decide | (show 0 ≤ x1.toInt ∧ x1.toInt < (gT (sT z6 24 ((44 + (6 * x1)) + 4).toNatClampNeg 1) 24 0).toInt; first | omega | assumption)) (by first | omega | assumption | decide | (show 0 ≤ (0 : Int32).toInt ∧ (0 : Int32).toInt ≤ 2; first | omega | assumption)) (so_T h_10 (by unfold freeix; omega))) (fun r11 q_19 => ?_)
    refine ok_nm ?_
    exact ok_some ⟨Or.inr rfl, (fr_T (fr_T (fr_tr (fr_T (fr_T fr_rf (by decide)) (by decide)) h_9 (by decide)) (by decide)) (by decide)), (so_T (so_T h_10 (by unfold freeix; omega)) (by unfold freeix; omega)), (kc_T (kc_T (kc_tr (kc_T (kc_T kc_rf (by omega) (by omega)) (by omega) (by omega)) h_11) (by omega) (by omega)) (by omega) (by omega))⟩
  · skip
    have r_22 := n_rng r5
    have r_23 := n_rng (gT z6 24 ((44 + (6 * x1)) + 2).toNatClampNeg)
    have c_14i : r5.toInt ≥ (gT z6 24 ((44 + (6 * x1)) + 2).toNatClampNeg).toInt := bI_nlt rfl rfl c_14
    exact ok_some ⟨Or.inl rfl, (fr_tr (fr_T (fr_T fr_rf (by decide)) (by decide)) h_9 (by decide)), h_10, (kc_tr (kc_T (kc_T kc_rf (by omega) (by omega)) (by omega) (by omega)) h_11)⟩

set_option maxHeartbeats 400000 in
set_option maxRecDepth 20000 in
theorem tl_lX9_passes_2 {t : Nat} {o_z_t : Sx} {x1 : Int32} (pt : x1.toInt = t) (hR : RK o_z_t t) : ∀ (n : Nat) (z_t : Sx) (x2 : Int32), (FrL [21, 22, 23, 24] o_z_t z_t) → (SOK (gT z_t 24)) → (KC o_z_t z_t) → (200 + 0 - x2.toInt).toNat < n → okP (lX9_passes_2 x1 n z_t x2) (fun y => (FrL [21, 22, 23, 24] o_z_t y.2) ∧ (SOK (gT y.2 24)) ∧ (KC o_z_t y.2)) := by
  intro n
  induction n with
  | zero => intro _ _ _ _ _ hm; omega
  | succ n ih =>
    intro z_t x2 frz_t iS iK hm
    rw [lX9_passes_2]
    have iKa := iK.1
    have iKb := iK.2
    have hn := iS.1
    have hr := iS.2.2.1
    refine ok_ite (fun c_1 => ?_) (fun c_1 => ?_)
    · skip
      have r_2 := n_rng x2
      have c_1i : 200 ≤ x2.toInt := bI_le (show (200 : Int32).toInt = 200 by decide) rfl c_1
      exact ok_some ⟨frz_t, iS, iK⟩
    · skip
      have r_3 := n_rng x2
      have c_1i : 200 > x2.toInt := bI_nle (show (200 : Int32).toInt = 200 by decide) rfl c_1
      refine ok_bd2 (t_fX9_nextFor (t := t) (by first | omega | assumption | decide | (show x1.toInt = t; first | omega | assumption)) iS (rk_fr frz_t (by decide) hR)) (fun r3 z4 q_4 => ?_)
      have h_5 : FrL [21, 22, 23] z_t z4 := q_4.1
      have h_6 : -1 ≤ r3.toInt ∧ r3.toInt < (gT z_t 24 0).toInt := q_4.2
      clear q_4
      have n_7 : KC z_t z4 := kc_fr kc_rf h_5 (by decide)
      have n_7a := n_7.1
      have n_7b := n_7.2
      refine ok_ite (fun c_8 => ?_) (fun c_8 => ?_)
      · skip
        have r_9 := n_rng r3
        have c_8i : 0 ≤ r3.toInt := bI_le (show (0 : Int32).toInt = 0 by decide) rfl c_8
        refine ok_bd2 (t_fX9_looks (by first | omega | assumption | decide | (show 0 ≤ r3.toInt ∧ r3.toInt < (gT z4 24 0).toInt; first | omega | assumption)) (so_fr h_5 (by decide) iS)) (fun r7 z8 q_10 => ?_)
        have h_11 : r7 = 0 ∨ r7 = 1 := q_10.1
        have h_11i := bool_i h_11
        have h_12 : FrL [24] z4 z8 := q_10.2.1
        have h_13 : SOK (gT z8 24) := q_10.2.2.1
        have h_14 : KC z4 z8 := q_10.2.2.2
        have h_14a := h_14.1
        have h_14b := h_14.2
        clear q_10
        try have e_15 : (x2 + 1).toInt = (x2.toInt + 1) := (i32_add rfl (show (1 : Int32).toInt = 1 by decide) (by omega) (by omega))
        exact ih z8 (x2 + 1) (fr_tr (fr_tr frz_t h_5 (by decide)) h_12 (by decide)) h_13 (kc_tr (kc_fr iK h_5 (by decide)) h_14) (by omega)
      · skip
        have r_16 := n_rng r3
        have c_8i : 0 > r3.toInt := bI_nle (show (0 : Int32).toInt = 0 by decide) rfl c_8
        exact ok_some ⟨(fr_tr frz_t h_5 (by decide)), (so_fr h_5 (by decide) iS), (kc_fr iK h_5 (by decide))⟩
set_option maxHeartbeats 400000 in
set_option maxRecDepth 20000 in
theorem t_fX9_passes {z_t : Sx} {x1 : Int32} {t : Nat} (pt : x1.toInt = t) (hS : SOK (gT z_t 24)) (hR : RK z_t t) : okP (fX9_passes z_t x1) (fun y => (FrL [21, 22, 23, 24] z_t y.2) ∧ (SOK (gT y.2 24)) ∧ (KC z_t y.2)) := by
  unfold fX9_passes
  have hn := hS.1
  have hr := hS.2.2.1
  try have e_1 : (0 : Int32).toInt = 0 := (show (0 : Int32).toInt = 0 by decide)
  refine tl_lX9_passes_2 (t := t) (by first | omega | assumption | decide) hR FU z_t 0 fr_rf hS kc_rf (FU_lt (by omega))

set_option maxHeartbeats 400000 in
set_option maxRecDepth 20000 in
theorem t_fX9_day {z_t : Sx} {x1 : Int32} (hU : RU z_t) (hS : SOK (gT z_t 24)) : okP (fX9_day z_t x1) (fun y => (FrL [21, 22, 23, 24] z_t y.2) ∧ (SOK (gT y.2 24)) ∧ (KC z_t y.2)) := by
  unfold fX9_day
  have hn := hS.1
  have hr := hS.2.2.1
  refine ok_bd (t_fX9_isWork) (fun r2 q_1 => ?_)
  have h_2 : r2 = 0 ∨ r2 = 1 := q_1.1
  have h_2i := bool_i h_2
  have h_3 : (r2.toInt = 1 ∧ 0 < (gT z_t 24 0).toInt) ∨ r2.toInt = 0 := q_1.2
  clear q_1
  refine ok_jn ?_
  refine ok_ite (fun c_4 => ?_) (fun c_4 => ?_)
  · skip
    have r_5 := n_rng r2
    have c_4i : r2.toInt = 0 := bI_eq rfl (show (0 : Int32).toInt = 0 by decide) c_4
    exact ok_some ⟨fr_rf, hS, kc_rf⟩
  · skip
    have r_6 := n_rng r2
    have c_4i : r2.toInt ≠ 0 := bI_neq rfl (show (0 : Int32).toInt = 0 by decide) c_4
    refine ok_bd (t_fX9_isRule) (fun r6 q_7 => ?_)
    have h_8 : r6 = 0 ∨ r6 = 1 := q_7.1
    have h_8i := bool_i h_8
    have h_9 : (r6.toInt = 1 ∧ 0 ≤ x1.toInt ∧ x1.toInt < (gI z_t 2).toInt) ∨ r6.toInt = 0 := q_7.2
    clear q_7
    refine ok_ite (fun c_10 => ?_) (fun c_10 => ?_)
    · skip
      have r_11 := n_rng r6
      have c_10i : r6.toInt = 0 := bI_eq rfl (show (0 : Int32).toInt = 0 by decide) c_10
      exact ok_some ⟨fr_rf, hS, kc_rf⟩
    · skip
      have r_12 := n_rng r6
      have c_10i : r6.toInt ≠ 0 := bI_neq rfl (show (0 : Int32).toInt = 0 by decide) c_10
      have hR : RK z_t x1.toNatClampNeg := hU.2.2 _ (by have := clampI (x := x1) (by omega); omega)
      refine ok_bd2 (t_fX9_passes (t := x1.toNatClampNeg) (by exact (clampI (x := x1) (by omega)).symm) hS hR) (fun r9 z10 q_13 => ?_)
      have h_14 : FrL [21, 22, 23, 24] z_t z10 := q_13.1
      have h_15 : SOK (gT z10 24) := q_13.2.1
      have h_16 : KC z_t z10 := q_13.2.2
      have h_16a := h_16.1
      have h_16b := h_16.2
      clear q_13
      exact ok_some ⟨(fr_tr fr_rf h_14 (by decide)), h_15, (kc_tr kc_rf h_16)⟩

set_option maxHeartbeats 400000 in
set_option maxRecDepth 20000 in
theorem t_fX9_end {z_t : Sx} {x1 : Int32} (p1 : 0 ≤ (gI z_t 1).toInt ∧ (gI z_t 1).toInt ≤ 400) : okP (fX9_end z_t x1) (fun y => (FrL [1] z_t y.2) ∧ (0 ≤ (gI y.2 1).toInt ∧ (gI y.2 1).toInt ≤ 400)) := by
  unfold fX9_end
  refine ok_ite (fun c_1 => ?_) (fun c_1 => ?_)
  · skip
    have r_2 := n_rng x1
    have c_1i : x1.toInt < 0 := bI_lt rfl (show (0 : Int32).toInt = 0 by decide) c_1
    exact ok_some ⟨fr_rf, (show 0 ≤ (gI z_t 1).toInt ∧ (gI z_t 1).toInt ≤ 400 by first | omega | assumption | trivial)⟩
  · skip
    have r_3 := n_rng x1
    have c_1i : x1.toInt ≥ 0 := bI_nlt rfl (show (0 : Int32).toInt = 0 by decide) c_1
    refine ok_ite (fun c_4 => ?_) (fun c_4 => ?_)
    · skip
      have r_5 := n_rng (gI z_t 1)
      have c_4i : x1.toInt ≤ (gI z_t 1).toInt := bI_le rfl rfl c_4
      exact ok_some ⟨(fr_I fr_rf (by decide)), (show 0 ≤ (x1).toInt ∧ (x1).toInt ≤ 400 by first | omega | assumption | trivial)⟩
    · skip
      have r_6 := n_rng (gI z_t 1)
      have c_4i : x1.toInt > (gI z_t 1).toInt := bI_nle rfl rfl c_4
      exact ok_some ⟨fr_rf, (show 0 ≤ (gI z_t 1).toInt ∧ (gI z_t 1).toInt ≤ 400 by first | omega | assumption | trivial)⟩

set_option maxHeartbeats 400000 in
set_option maxRecDepth 20000 in
theorem t_fX9_isFault {z_t : Sx} {x1 : Int32} : okP (fX9_isFault z_t x1) (fun y => (y = 0 ∨ y = 1) ∧ ((y.toInt = 1 ∧ 0 ≤ x1.toInt ∧ x1.toInt < (gT z_t 24 0).toInt) ∨ y.toInt = 0)) := by
  unfold fX9_isFault
  refine ok_ite (fun c_1 => ?_) (fun c_1 => ?_)
  · skip
    have r_2 := n_rng x1
    have c_1i : x1.toInt < 0 := bI_lt rfl (show (0 : Int32).toInt = 0 by decide) c_1
    try have e_3 : (0 : Int32).toInt = 0 := (show (0 : Int32).toInt = 0 by decide)
    exact ok_some ⟨Or.inl rfl, (show ((0 : Int32).toInt = 1 ∧ 0 ≤ x1.toInt ∧ x1.toInt < (gT z_t 24 0).toInt) ∨ (0 : Int32).toInt = 0 by first | exact Or.inl ⟨by decide, by omega, by omega⟩ | exact Or.inr (by decide))⟩
  · skip
    have r_4 := n_rng x1
    have c_1i : x1.toInt ≥ 0 := bI_nlt rfl (show (0 : Int32).toInt = 0 by decide) c_1
    refine ok_ite (fun c_5 => ?_) (fun c_5 => ?_)
    · skip
      have r_6 := n_rng (gT z_t 24 0)
      have c_5i : (gT z_t 24 0).toInt ≤ x1.toInt := bI_le rfl rfl c_5
      try have e_7 : (0 : Int32).toInt = 0 := (show (0 : Int32).toInt = 0 by decide)
      exact ok_some ⟨Or.inl rfl, (show ((0 : Int32).toInt = 1 ∧ 0 ≤ x1.toInt ∧ x1.toInt < (gT z_t 24 0).toInt) ∨ (0 : Int32).toInt = 0 by first | exact Or.inl ⟨by decide, by omega, by omega⟩ | exact Or.inr (by decide))⟩
    · skip
      have r_8 := n_rng (gT z_t 24 0)
      have c_5i : (gT z_t 24 0).toInt > x1.toInt := bI_nle rfl rfl c_5
      try have e_9 : (1 : Int32).toInt = 1 := (show (1 : Int32).toInt = 1 by decide)
      exact ok_some ⟨Or.inr rfl, (show ((1 : Int32).toInt = 1 ∧ 0 ≤ x1.toInt ∧ x1.toInt < (gT z_t 24 0).toInt) ∨ (1 : Int32).toInt = 0 by first | exact Or.inl ⟨by decide, by omega, by omega⟩ | exact Or.inr (by decide))⟩

set_option maxHeartbeats 400000 in
set_option maxRecDepth 20000 in
theorem t_fX9_fault {z_t : Sx} {x1 : Int32} {x2 : Int32} (hS : SOK (gT z_t 24)) : okP (fX9_fault z_t x1 x2) (fun _ => True) := by
  unfold fX9_fault
  have hn := hS.1
  have hr := hS.2.2.1
  refine ok_bd (t_fX9_isFault) (fun r2 q_1 => ?_)
  have h_2 : r2 = 0 ∨ r2 = 1 := q_1.1
  have h_2i := bool_i h_2
  have h_3 : (r2.toInt = 1 ∧ 0 ≤ x1.toInt ∧ x1.toInt < (gT z_t 24 0).toInt) ∨ r2.toInt = 0 := q_1.2
  clear q_1
  refine ok_ite (fun c_4 => ?_) (fun c_4 => ?_)
  · skip
    have r_5 := n_rng r2
    have c_4i : r2.toInt = 0 := bI_eq rfl (show (0 : Int32).toInt = 0 by decide) c_4
    exact ok_some trivial
  · skip
    have r_6 := n_rng r2
    have c_4i : r2.toInt ≠ 0 := bI_neq rfl (show (0 : Int32).toInt = 0 by decide) c_4
    have r_8 := n_rng x2
    have e_9 : x2.toInt64.toInt = x2.toInt := (l64_of rfl)
    have e_10 : (0 : Int64).toInt = 0 := (show (0 : Int64).toInt = 0 by decide)
    have e_11 : (6 : Int64).toInt = 6 := (show (6 : Int64).toInt = 6 by decide)
    refine ok_bd (t_fX9_in) (fun r5 q_7 => ?_)
    have h_12 : r5 = 0 ∨ r5 = 1 := q_7.1
    have h_12i := bool_i h_12
    have h_13 : (r5.toInt = 1 ∧ (0 : Int64).toInt ≤ x2.toInt64.toInt ∧ x2.toInt64.toInt ≤ (6 : Int64).toInt) ∨ (r5.toInt = 0 ∧ (x2.toInt64.toInt < (0 : Int64).toInt ∨ (6 : Int64).toInt < x2.toInt64.toInt)) := q_7.2
    clear q_7
    refine ok_ite (fun c_14 => ?_) (fun c_14 => ?_)
    · skip
      have r_15 := n_rng r5
      have c_14i : r5.toInt = 0 := bI_eq rfl (show (0 : Int32).toInt = 0 by decide) c_14
      exact ok_some trivial
    · skip
      have r_16 := n_rng r5
      have c_14i : r5.toInt ≠ 0 := bI_neq rfl (show (0 : Int32).toInt = 0 by decide) c_14
      refine ok_ite (fun c_17 => ?_) (fun c_17 => ?_)
      · skip
        have c_17i : 6 ≤ x2.toInt := bI_le (show (6 : Int32).toInt = 6 by decide) rfl c_17
        refine ok_bd (t_fX9_isOpen (by first | omega | assumption | decide | (show 0 ≤ x1.toInt ∧ x1.toInt < (gT z_t 24 0).toInt; first | omega | assumption)) hS) (fun r9 q_18 => ?_)
        have h_19 : r9 = 0 ∨ r9 = 1 := q_18
        have h_19i := bool_i h_19
        clear q_18
        refine ok_ite (fun c_20 => ?_) (fun c_20 => ?_)
        · skip
          have r_21 := n_rng r9
          have c_20i : r9.toInt = 0 := bI_eq rfl (show (0 : Int32).toInt = 0 by decide) c_20
          exact ok_some trivial
        · skip
          have r_22 := n_rng r9
          have c_20i : r9.toInt ≠ 0 := bI_neq rfl (show (0 : Int32).toInt = 0 by decide) c_20
          exact ok_some trivial
      · skip
        have c_17i : 6 > x2.toInt := bI_nle (show (6 : Int32).toInt = 6 by decide) rfl c_17
        refine ok_bd (t_fX9_faultOf (by first | omega | assumption | decide | (show 0 ≤ x1.toInt ∧ x1.toInt ≤ 9; first | omega | assumption)) (by first | omega | assumption | decide | (show 0 ≤ x2.toInt ∧ x2.toInt ≤ 5; first | omega | assumption))) (fun r12 q_23 => ?_)
        have h_24 : r12 = gT z_t 24 (((44 + (6 * x1)) + x2).toNatClampNeg) := q_23
        clear q_23
        exact ok_some trivial

set_option maxHeartbeats 400000 in
set_option maxRecDepth 20000 in
theorem tl_lX9_four_3 {o_z_t : Sx} {x1 : Int32} (p1 : 0 ≤ (gI o_z_t 1).toInt ∧ (gI o_z_t 1).toInt ≤ 396) : ∀ (n : Nat) (z_t : Sx) (x2 : Int32), (FrL [0, 1] o_z_t z_t) → (8 * (gI z_t 1).toInt + x2.toInt = 8 * (gI o_z_t 1).toInt + 24 ∧ -8 ≤ x2.toInt ∧ x2.toInt ≤ 24) → (x2.toInt + 8).toNat < n → okP (lX9_four_3 x1 n z_t x2) (fun y => (FrL [0, 1] o_z_t y) ∧ ((gI y 1).toInt = (gI o_z_t 1).toInt + 4)) := by
  intro n
  induction n with
  | zero => intro _ _ _ _ hm; omega
  | succ n ih =>
    intro z_t x2 frz_t i0 hm
    rw [lX9_four_3]
    refine ok_ite (fun c_1 => ?_) (fun c_1 => ?_)
    · skip
      have r_2 := n_rng x2
      have c_1i : x2.toInt < 0 := bI_lt rfl (show (0 : Int32).toInt = 0 by decide) c_1
      exact ok_some ⟨frz_t, (show (gI z_t 1).toInt = (gI o_z_t 1).toInt + 4 by first | omega | assumption | trivial)⟩
    · skip
      have r_3 := n_rng x2
      have c_1i : x2.toInt ≥ 0 := bI_nlt rfl (show (0 : Int32).toInt = 0 by decide) c_1
      refine ok_gd (inb_of (by omega) (by omega)) ?_
      have i_4 : ((gI z_t 1).toNatClampNeg : Int) = (gI z_t 1).toInt := clampI (by omega)
      try have e_5 : (x2 + (-8)).toInt = (x2.toInt + (-8)) := (i32_add rfl (show (-8 : Int32).toInt = -8 by decide) (by omega) (by omega))
      have r_6 := n_rng (gI z_t 1)
      try have e_7 : ((gI z_t 1) + 1).toInt = ((gI z_t 1).toInt + 1) := (i32_add rfl (show (1 : Int32).toInt = 1 by decide) (by omega) (by omega))
      exact ih (sI (sT z_t 0 (gI z_t 1).toNatClampNeg (vp_nar .byte (x1 >>> (x2 &&& 31)).toInt8.toInt32)) 1 ((gI z_t 1) + 1)) (x2 + (-8)) (fr_I (fr_T frz_t (by decide)) (by decide)) (show 8 * ((gI z_t 1) + 1).toInt + (x2 + (-8)).toInt = 8 * (gI o_z_t 1).toInt + 24 ∧ -8 ≤ (x2 + (-8)).toInt ∧ (x2 + (-8)).toInt ≤ 24 by first | omega | assumption | decide) (by omega)
set_option maxHeartbeats 400000 in
set_option maxRecDepth 20000 in
theorem t_fX9_four {z_t : Sx} {x1 : Int32} (p1 : 0 ≤ (gI z_t 1).toInt ∧ (gI z_t 1).toInt ≤ 396) : okP (fX9_four z_t x1) (fun y => (FrL [0, 1] z_t y) ∧ ((gI y 1).toInt = (gI z_t 1).toInt + 4)) := by
  unfold fX9_four
  try have e_1 : (24 : Int32).toInt = 24 := (show (24 : Int32).toInt = 24 by decide)
  refine tl_lX9_four_3 (by first | omega | assumption | decide) FU z_t 24 fr_rf (show 8 * (gI z_t 1).toInt + (24 : Int32).toInt = 8 * (gI z_t 1).toInt + 24 ∧ -8 ≤ (24 : Int32).toInt ∧ (24 : Int32).toInt ≤ 24 by first | omega | assumption | decide) (FU_lt (by omega))

set_option maxHeartbeats 400000 in
set_option maxRecDepth 20000 in
theorem t_fX9_feed {z_t : Sx} {x1 : Int32} {x2 : Int32} {x3 : Int32} {x4 : Int32} {x5 : Int32} (p1 : 0 ≤ (gI z_t 1).toInt ∧ (gI z_t 1).toInt ≤ 400) : okP (fX9_feed z_t x1 x2 x3 x4 x5) (fun y => (FrL [0, 1] z_t y.2) ∧ (0 ≤ (gI y.2 1).toInt ∧ (gI y.2 1).toInt ≤ 400)) := by
  unfold fX9_feed
  refine ok_ite (fun c_1 => ?_) (fun c_1 => ?_)
  · skip
    have r_2 := n_rng (gI z_t 1)
    try have c_1i : ((gI z_t 1).toInt + 20) ≤ 400 := bI_le (i32_add rfl (show (20 : Int32).toInt = 20 by decide) (by omega) (by omega)) (show (400 : Int32).toInt = 400 by decide) c_1
    refine ok_bd (t_fX9_four (by first | omega | assumption | decide | (show 0 ≤ (gI z_t 1).toInt ∧ (gI z_t 1).toInt ≤ 396; first | omega | assumption))) (fun z3 q_3 => ?_)
    have h_4 : FrL [0, 1] z_t z3 := q_3.1
    have h_5 : (gI z3 1).toInt = (gI z_t 1).toInt + 4 := q_3.2
    clear q_3
    refine ok_bd (t_fX9_four (by first | omega | assumption | decide | (show 0 ≤ (gI z3 1).toInt ∧ (gI z3 1).toInt ≤ 396; first | omega | assumption))) (fun z5 q_6 => ?_)
    have h_7 : FrL [0, 1] z3 z5 := q_6.1
    have h_8 : (gI z5 1).toInt = (gI z3 1).toInt + 4 := q_6.2
    clear q_6
    refine ok_bd (t_fX9_four (by first | omega | assumption | decide | (show 0 ≤ (gI z5 1).toInt ∧ (gI z5 1).toInt ≤ 396; first | omega | assumption))) (fun z7 q_9 => ?_)
    have h_10 : FrL [0, 1] z5 z7 := q_9.1
    have h_11 : (gI z7 1).toInt = (gI z5 1).toInt + 4 := q_9.2
    clear q_9
    refine ok_bd (t_fX9_four (by first | omega | assumption | decide | (show 0 ≤ (gI z7 1).toInt ∧ (gI z7 1).toInt ≤ 396; first | omega | assumption))) (fun z9 q_12 => ?_)
    have h_13 : FrL [0, 1] z7 z9 := q_12.1
    have h_14 : (gI z9 1).toInt = (gI z7 1).toInt + 4 := q_12.2
    clear q_12
    refine ok_bd (t_fX9_four (by first | omega | assumption | decide | (show 0 ≤ (gI z9 1).toInt ∧ (gI z9 1).toInt ≤ 396; first | omega | assumption))) (fun z11 q_15 => ?_)
    have h_16 : FrL [0, 1] z9 z11 := q_15.1
    have h_17 : (gI z11 1).toInt = (gI z9 1).toInt + 4 := q_15.2
    clear q_15
    exact ok_some ⟨(fr_tr (fr_tr (fr_tr (fr_tr (fr_tr fr_rf h_4 (by decide)) h_7 (by decide)) h_10 (by decide)) h_13 (by decide)) h_16 (by decide)), (show 0 ≤ (gI z11 1).toInt ∧ (gI z11 1).toInt ≤ 400 by first | omega | assumption | trivial)⟩
  · skip
    have r_18 := n_rng (gI z_t 1)
    try have c_1i : ((gI z_t 1).toInt + 20) > 400 := bI_nle (i32_add rfl (show (20 : Int32).toInt = 20 by decide) (by omega) (by omega)) (show (400 : Int32).toInt = 400 by decide) c_1
    exact ok_some ⟨fr_rf, (show 0 ≤ (gI z_t 1).toInt ∧ (gI z_t 1).toInt ≤ 400 by first | omega | assumption | trivial)⟩

set_option maxHeartbeats 400000 in
set_option maxRecDepth 20000 in
theorem t_fX9_fine {z_t : Sx} {x1 : Int32} (hS : SOK (gT z_t 24)) : okP (fX9_fine z_t x1) (fun y => (FrL [24] z_t y.2) ∧ (SOK (gT y.2 24)) ∧ (KC z_t y.2)) := by
  unfold fX9_fine
  have hn := hS.1
  have hr := hS.2.2.1
  refine ok_bd (t_fX9_isWork) (fun r2 q_1 => ?_)
  have h_2 : r2 = 0 ∨ r2 = 1 := q_1.1
  have h_2i := bool_i h_2
  have h_3 : (r2.toInt = 1 ∧ 0 < (gT z_t 24 0).toInt) ∨ r2.toInt = 0 := q_1.2
  clear q_1
  refine ok_jn ?_
  refine ok_ite (fun c_4 => ?_) (fun c_4 => ?_)
  · skip
    have r_5 := n_rng r2
    have c_4i : r2.toInt = 0 := bI_eq rfl (show (0 : Int32).toInt = 0 by decide) c_4
    exact ok_some ⟨fr_rf, hS, kc_rf⟩
  · skip
    have r_6 := n_rng r2
    have c_4i : r2.toInt ≠ 0 := bI_neq rfl (show (0 : Int32).toInt = 0 by decide) c_4
    have r_8 := n_rng x1
    have e_9 : x1.toInt64.toInt = x1.toInt := (l64_of rfl)
    have e_10 : (0 : Int64).toInt = 0 := (show (0 : Int64).toInt = 0 by decide)
    have e_11 : (999 : Int64).toInt = 999 := (show (999 : Int64).toInt = 999 by decide)
    refine ok_bd (t_fX9_in) (fun r6 q_7 => ?_)
    have h_12 : r6 = 0 ∨ r6 = 1 := q_7.1
    have h_12i := bool_i h_12
    have h_13 : (r6.toInt = 1 ∧ (0 : Int64).toInt ≤ x1.toInt64.toInt ∧ x1.toInt64.toInt ≤ (999 : Int64).toInt) ∨ (r6.toInt = 0 ∧ (x1.toInt64.toInt < (0 : Int64).toInt ∨ (999 : Int64).toInt < x1.toInt64.toInt)) := q_7.2
    clear q_7
    refine ok_ite (fun c_14 => ?_) (fun c_14 => ?_)
    · skip
      have r_15 := n_rng r6
      have c_14i : r6.toInt = 0 := bI_eq rfl (show (0 : Int32).toInt = 0 by decide) c_14
      exact ok_some ⟨fr_rf, hS, kc_rf⟩
    · skip
      have r_16 := n_rng r6
      have c_14i : r6.toInt ≠ 0 := bI_neq rfl (show (0 : Int32).toInt = 0 by decide) c_14
      exact ok_some ⟨(fr_T fr_rf (by decide)), (so_T hS (by unfold freeix; omega)), (kc_T kc_rf (by omega) (by omega))⟩

set_option maxHeartbeats 400000 in
set_option maxRecDepth 20000 in
theorem tl_lX9_fits_56 {k100 : Int32 → Int32 → Int32 → Option (Int32)} {z_t : Sx} {x1 : Int32} {x2 : Int32} {x3 : Int32} (Hk100 : ∀ (y0 : Int32) (y1 : Int32) (y2 : Int32), okP (k100 y0 y1 y2) (fun _ => True)) (p3 : x3.toInt < 1024) (hS : SOK (gT z_t 24)) : ∀ (n : Nat) (x4 : Int32) (x5 : Int32) (x6 : Int32) (x7 : Int32), (x3.toInt + 1 - x7.toInt).toNat < n → okP (lX9_fits_56 k100 z_t x1 x2 x3 n x4 x5 x6 x7) (fun _ => True) := by
  intro n
  induction n with
  | zero => intro _ _ _ _ hm; omega
  | succ n ih =>
    intro x4 x5 x6 x7 hm
    rw [lX9_fits_56]
    have hn := hS.1
    have hr := hS.2.2.1
    refine ok_ite (fun c_1 => ?_) (fun c_1 => ?_)
    · skip
      have r_2 := n_rng x3
      have r_3 := n_rng x7
      have c_1i : x3.toInt < x7.toInt := bI_lt rfl rfl c_1
      exact Hk100 x4 x5 x6 
    · skip
      have r_4 := n_rng x3
      have r_5 := n_rng x7
      have c_1i : x3.toInt ≥ x7.toInt := bI_nlt rfl rfl c_1
      refine ok_bd (t_fX9_couldBe hS) (fun r12 q_6 => ?_)
      have h_7 : r12 = 0 ∨ r12 = 1 := q_6
      have h_7i := bool_i h_7
      clear q_6
      refine ok_jn ?_
      refine ok_ite (fun c_8 => ?_) (fun c_8 => ?_)
      · skip
        have r_9 := n_rng r12
        have c_8i : r12.toInt = 0 := bI_eq rfl (show (0 : Int32).toInt = 0 by decide) c_8
        try have e_10 : (x7 + 1).toInt = (x7.toInt + 1) := (i32_add rfl (show (1 : Int32).toInt = 1 by decide) (by omega) (by omega))
        exact ih x4 x5 x6 (x7 + 1)  (by omega)
      · skip
        have r_11 := n_rng r12
        have c_8i : r12.toInt ≠ 0 := bI_neq rfl (show (0 : Int32).toInt = 0 by decide) c_8
        have r_12 := n_rng x4
        try have e_13 : (x4 + 1).toInt = (x4.toInt + 1) := (i32_add rfl (show (1 : Int32).toInt = 1 by decide) (by omega) (by omega))
        try have e_14 : (x7 + 1).toInt = (x7.toInt + 1) := (i32_add rfl (show (1 : Int32).toInt = 1 by decide) (by omega) (by omega))
        exact ih (x4 + 1) (x5 &&& x7) (x6 &&& (x7 ^^^ (-1))) (x7 + 1)  (by omega)
set_option maxHeartbeats 400000 in
set_option maxRecDepth 20000 in
theorem t_fX9_fits {z_t : Sx} {x1 : Int32} {x2 : Int32} (hS : SOK (gT z_t 24)) : okP (fX9_fits z_t x1 x2) (fun _ => True) := by
  unfold fX9_fits
  have hn := hS.1
  have hr := hS.2.2.1
  have hs := shl_rng (x := gT z_t 24 0) (by omega) (by omega)
  refine ok_bd (t_fX9_isWork) (fun r2 q_1 => ?_)
  have h_2 : r2 = 0 ∨ r2 = 1 := q_1.1
  have h_2i := bool_i h_2
  have h_3 : (r2.toInt = 1 ∧ 0 < (gT z_t 24 0).toInt) ∨ r2.toInt = 0 := q_1.2
  clear q_1
  refine ok_ite (fun c_4 => ?_) (fun c_4 => ?_)
  · skip
    have r_5 := n_rng r2
    have c_4i : r2.toInt = 0 := bI_eq rfl (show (0 : Int32).toInt = 0 by decide) c_4
    exact ok_some trivial
  · skip
    have r_6 := n_rng r2
    have c_4i : r2.toInt ≠ 0 := bI_neq rfl (show (0 : Int32).toInt = 0 by decide) c_4
    have r_8 := n_rng x1
    have e_9 : x1.toInt64.toInt = x1.toInt := (l64_of rfl)
    have e_10 : (0 : Int64).toInt = 0 := (show (0 : Int64).toInt = 0 by decide)
    have e_11 : (9999 : Int64).toInt = 9999 := (show (9999 : Int64).toInt = 9999 by decide)
    refine ok_bd (t_fX9_in) (fun r5 q_7 => ?_)
    have h_12 : r5 = 0 ∨ r5 = 1 := q_7.1
    have h_12i := bool_i h_12
    have h_13 : (r5.toInt = 1 ∧ (0 : Int64).toInt ≤ x1.toInt64.toInt ∧ x1.toInt64.toInt ≤ (9999 : Int64).toInt) ∨ (r5.toInt = 0 ∧ (x1.toInt64.toInt < (0 : Int64).toInt ∨ (9999 : Int64).toInt < x1.toInt64.toInt)) := q_7.2
    clear q_7
    refine ok_ite (fun c_14 => ?_) (fun c_14 => ?_)
    · skip
      have r_15 := n_rng r5
      have c_14i : r5.toInt = 0 := bI_eq rfl (show (0 : Int32).toInt = 0 by decide) c_14
      exact ok_some trivial
    · skip
      have r_16 := n_rng r5
      have c_14i : r5.toInt ≠ 0 := bI_neq rfl (show (0 : Int32).toInt = 0 by decide) c_14
      have r_18 := n_rng x2
      have e_19 : x2.toInt64.toInt = x2.toInt := (l64_of rfl)
      have e_20 : (2 : Int64).toInt = 2 := (show (2 : Int64).toInt = 2 by decide)
      refine ok_bd (t_fX9_in) (fun r8 q_17 => ?_)
      have h_21 : r8 = 0 ∨ r8 = 1 := q_17.1
      have h_21i := bool_i h_21
      have h_22 : (r8.toInt = 1 ∧ (0 : Int64).toInt ≤ x2.toInt64.toInt ∧ x2.toInt64.toInt ≤ (2 : Int64).toInt) ∨ (r8.toInt = 0 ∧ (x2.toInt64.toInt < (0 : Int64).toInt ∨ (2 : Int64).toInt < x2.toInt64.toInt)) := q_17.2
      clear q_17
      refine ok_ite (fun c_23 => ?_) (fun c_23 => ?_)
      · skip
        have r_24 := n_rng r8
        have c_23i : r8.toInt = 0 := bI_eq rfl (show (0 : Int32).toInt = 0 by decide) c_23
        exact ok_some trivial
      · skip
        have r_25 := n_rng r8
        have c_23i : r8.toInt ≠ 0 := bI_neq rfl (show (0 : Int32).toInt = 0 by decide) c_23
        try have e_26 : (0 : Int32).toInt = 0 := (show (0 : Int32).toInt = 0 by decide)
        have r_27 := n_rng ((1 : Int32) <<< ((gT z_t 24 0) &&& 31))
        try have e_28 : (((1 : Int32) <<< ((gT z_t 24 0) &&& 31)) - 1).toInt = (((1 : Int32) <<< ((gT z_t 24 0) &&& 31)).toInt - 1) := (i32_sub rfl (show (1 : Int32).toInt = 1 by decide) (by omega) (by omega))
        refine tl_lX9_fits_56 (fun i18 i19 i20 => ?_) (by first | omega | assumption | decide) hS FU 0 (((1 : Int32) <<< ((gT z_t 24 0) &&& 31)) - 1) (((1 : Int32) <<< ((gT z_t 24 0) &&& 31)) - 1) 0  (FU_lt (by have := n_rng (((1 : Int32) <<< ((gT z_t 24 0) &&& 31)) - 1); have := n_rng (((1 : Int32) <<< ((gT z_t 24 0) &&& 31)) - 1); have := n_rng (((1 : Int32) <<< ((gT z_t 24 0) &&& 31)) - 1); omega))
        · skip
          refine ok_ite (fun c_29 => ?_) (fun c_29 => ?_)
          · skip
            have c_29i : x2.toInt = 0 := bI_eq rfl (show (0 : Int32).toInt = 0 by decide) c_29
            exact ok_some trivial
          · skip
            have c_29i : x2.toInt ≠ 0 := bI_neq rfl (show (0 : Int32).toInt = 0 by decide) c_29
            refine ok_ite (fun c_30 => ?_) (fun c_30 => ?_)
            · skip
              have r_31 := n_rng i18
              have c_30i : i18.toInt = 0 := bI_eq rfl (show (0 : Int32).toInt = 0 by decide) c_30
              exact ok_some trivial
            · skip
              have r_32 := n_rng i18
              have c_30i : i18.toInt ≠ 0 := bI_neq rfl (show (0 : Int32).toInt = 0 by decide) c_30
              refine ok_ite (fun c_33 => ?_) (fun c_33 => ?_)
              · skip
                have c_33i : x2.toInt = 1 := bI_eq rfl (show (1 : Int32).toInt = 1 by decide) c_33
                exact ok_some trivial
              · skip
                have c_33i : x2.toInt ≠ 1 := bI_neq rfl (show (1 : Int32).toInt = 1 by decide) c_33
                exact ok_some trivial

set_option maxHeartbeats 400000 in
set_option maxRecDepth 20000 in
theorem t_fX9_game {z_t : Sx} {x1 : Int32} {x2 : Int32} (hS : SOK (gT z_t 24)) : okP (fX9_game z_t x1 x2) (fun y => (FrL [24] z_t y.2) ∧ (SOK (gT y.2 24)) ∧ (KC z_t y.2)) := by
  unfold fX9_game
  have hn := hS.1
  have hr := hS.2.2.1
  have r_2 := n_rng x1
  have e_3 : x1.toInt64.toInt = x1.toInt := (l64_of rfl)
  have e_4 : (0 : Int64).toInt = 0 := (show (0 : Int64).toInt = 0 by decide)
  have e_5 : (7 : Int64).toInt = 7 := (show (7 : Int64).toInt = 7 by decide)
  refine ok_bd (t_fX9_in) (fun r2 q_1 => ?_)
  have h_6 : r2 = 0 ∨ r2 = 1 := q_1.1
  have h_6i := bool_i h_6
  have h_7 : (r2.toInt = 1 ∧ (0 : Int64).toInt ≤ x1.toInt64.toInt ∧ x1.toInt64.toInt ≤ (7 : Int64).toInt) ∨ (r2.toInt = 0 ∧ (x1.toInt64.toInt < (0 : Int64).toInt ∨ (7 : Int64).toInt < x1.toInt64.toInt)) := q_1.2
  clear q_1
  refine ok_ite (fun c_8 => ?_) (fun c_8 => ?_)
  · skip
    have r_9 := n_rng r2
    have c_8i : r2.toInt = 0 := bI_eq rfl (show (0 : Int32).toInt = 0 by decide) c_8
    exact ok_some ⟨fr_rf, hS, kc_rf⟩
  · skip
    have r_10 := n_rng r2
    have c_8i : r2.toInt ≠ 0 := bI_neq rfl (show (0 : Int32).toInt = 0 by decide) c_8
    have r_12 := n_rng x2
    have e_13 : x2.toInt64.toInt = x2.toInt := (l64_of rfl)
    have e_14 : (-99 : Int64).toInt = (-99) := (show (-99 : Int64).toInt = -99 by decide)
    have e_15 : (99 : Int64).toInt = 99 := (show (99 : Int64).toInt = 99 by decide)
    refine ok_bd (t_fX9_in) (fun r5 q_11 => ?_)
    have h_16 : r5 = 0 ∨ r5 = 1 := q_11.1
    have h_16i := bool_i h_16
    have h_17 : (r5.toInt = 1 ∧ (-99 : Int64).toInt ≤ x2.toInt64.toInt ∧ x2.toInt64.toInt ≤ (99 : Int64).toInt) ∨ (r5.toInt = 0 ∧ (x2.toInt64.toInt < (-99 : Int64).toInt ∨ (99 : Int64).toInt < x2.toInt64.toInt)) := q_11.2
    clear q_11
    refine ok_ite (fun c_18 => ?_) (fun c_18 => ?_)
    · skip
      have r_19 := n_rng r5
      have c_18i : r5.toInt = 0 := bI_eq rfl (show (0 : Int32).toInt = 0 by decide) c_18
      exact ok_some ⟨fr_rf, hS, kc_rf⟩
    · skip
      have r_20 := n_rng r5
      have c_18i : r5.toInt ≠ 0 := bI_neq rfl (show (0 : Int32).toInt = 0 by decide) c_18
      have e_21 : (18 + x1).toInt = (18 + x1.toInt) := (i32_add (show (18 : Int32).toInt = 18 by decide) rfl (by omega) (by omega))
      refine ok_gd (inb_of (by omega) (by omega)) ?_
      have i_22 : ((18 + x1).toNatClampNeg : Int) = (18 + x1).toInt := clampI (by omega)
      exact ok_some ⟨(fr_T fr_rf (by decide)), (so_gm hS (by omega) (by omega) (by omega) (by omega)), (kc_T kc_rf (by omega) (by omega))⟩

set_option maxHeartbeats 400000 in
set_option maxRecDepth 20000 in
theorem t_fX9_gameOf {z_t : Sx} {x1 : Int32} (p1 : 0 ≤ x1.toInt ∧ x1.toInt ≤ 7) : okP (fX9_gameOf z_t x1) (fun y => (y = gT z_t 24 ((18 + x1).toNatClampNeg))) := by
  unfold fX9_gameOf
  have r_1 := n_rng x1
  have e_2 : (18 + x1).toInt = (18 + x1.toInt) := (i32_add (show (18 : Int32).toInt = 18 by decide) rfl (by omega) (by omega))
  refine ok_gd (inb_of (by omega) (by omega)) ?_
  have i_3 : ((18 + x1).toNatClampNeg : Int) = (18 + x1).toInt := clampI (by omega)
  exact ok_some (show (gT z_t 24 (18 + x1).toNatClampNeg) = gT z_t 24 ((18 + x1).toNatClampNeg) by rfl)

set_option maxHeartbeats 400000 in
set_option maxRecDepth 20000 in
theorem t_fX9_kind {z_t : Sx} {x1 : Int32} {x2 : Int32} (hS : SOK (gT z_t 24)) : okP (fX9_kind z_t x1 x2) (fun _ => True) := by
  unfold fX9_kind
  have hn := hS.1
  have hr := hS.2.2.1
  have hk := hS.2.1
  have r_2 := n_rng x1
  have e_3 : x1.toInt64.toInt = x1.toInt := (l64_of rfl)
  have e_4 : (0 : Int64).toInt = 0 := (show (0 : Int64).toInt = 0 by decide)
  have r_5 := n_rng (gT z_t 24 1)
  have e_6 : ((gT z_t 24 1) - 1).toInt64.toInt = ((gT z_t 24 1).toInt - 1) := (l64_of (i32_sub rfl (show (1 : Int32).toInt = 1 by decide) (by omega) (by omega)))
  refine ok_bd (t_fX9_in) (fun r2 q_1 => ?_)
  have h_7 : r2 = 0 ∨ r2 = 1 := q_1.1
  have h_7i := bool_i h_7
  have h_8 : (r2.toInt = 1 ∧ (0 : Int64).toInt ≤ x1.toInt64.toInt ∧ x1.toInt64.toInt ≤ ((gT z_t 24 1) - 1).toInt64.toInt) ∨ (r2.toInt = 0 ∧ (x1.toInt64.toInt < (0 : Int64).toInt ∨ ((gT z_t 24 1) - 1).toInt64.toInt < x1.toInt64.toInt)) := q_1.2
  clear q_1
  refine ok_ite (fun c_9 => ?_) (fun c_9 => ?_)
  · skip
    have r_10 := n_rng r2
    have c_9i : r2.toInt = 0 := bI_eq rfl (show (0 : Int32).toInt = 0 by decide) c_9
    exact ok_some trivial
  · skip
    have r_11 := n_rng r2
    have c_9i : r2.toInt ≠ 0 := bI_neq rfl (show (0 : Int32).toInt = 0 by decide) c_9
    have r_13 := n_rng x2
    have e_14 : x2.toInt64.toInt = x2.toInt := (l64_of rfl)
    have e_15 : (2 : Int64).toInt = 2 := (show (2 : Int64).toInt = 2 by decide)
    refine ok_bd (t_fX9_in) (fun r5 q_12 => ?_)
    have h_16 : r5 = 0 ∨ r5 = 1 := q_12.1
    have h_16i := bool_i h_16
    have h_17 : (r5.toInt = 1 ∧ (0 : Int64).toInt ≤ x2.toInt64.toInt ∧ x2.toInt64.toInt ≤ (2 : Int64).toInt) ∨ (r5.toInt = 0 ∧ (x2.toInt64.toInt < (0 : Int64).toInt ∨ (2 : Int64).toInt < x2.toInt64.toInt)) := q_12.2
    clear q_12
    refine ok_ite (fun c_18 => ?_) (fun c_18 => ?_)
    · skip
      have r_19 := n_rng r5
      have c_18i : r5.toInt = 0 := bI_eq rfl (show (0 : Int32).toInt = 0 by decide) c_18
      exact ok_some trivial
    · skip
      have r_20 := n_rng r5
      have c_18i : r5.toInt ≠ 0 := bI_neq rfl (show (0 : Int32).toInt = 0 by decide) c_18
      have e_21 : ((26 + (3 * x1)) + x2).toInt = ((26 + (3 * x1.toInt)) + x2.toInt) := (i32_add (i32_add (show (26 : Int32).toInt = 26 by decide) (i32_mul (show (3 : Int32).toInt = 3 by decide) rfl (by omega) (by omega)) (by omega) (by omega)) rfl (by omega) (by omega))
      refine ok_gd (inb_of (by omega) (by omega)) ?_
      have i_22 : (((26 + (3 * x1)) + x2).toNatClampNeg : Int) = ((26 + (3 * x1)) + x2).toInt := clampI (by omega)
      exact ok_some trivial

set_option maxHeartbeats 400000 in
set_option maxRecDepth 20000 in
theorem t_fX9_look {z_t : Sx} {x1 : Int32} (hS : SOK (gT z_t 24)) : okP (fX9_look z_t x1) (fun y => (FrL [24] z_t y.2) ∧ (SOK (gT y.2 24)) ∧ (KC z_t y.2)) := by
  unfold fX9_look
  have hn := hS.1
  have hr := hS.2.2.1
  refine ok_bd (t_fX9_isFault) (fun r2 q_1 => ?_)
  have h_2 : r2 = 0 ∨ r2 = 1 := q_1.1
  have h_2i := bool_i h_2
  have h_3 : (r2.toInt = 1 ∧ 0 ≤ x1.toInt ∧ x1.toInt < (gT z_t 24 0).toInt) ∨ r2.toInt = 0 := q_1.2
  clear q_1
  refine ok_ite (fun c_4 => ?_) (fun c_4 => ?_)
  · skip
    have r_5 := n_rng r2
    have c_4i : r2.toInt = 0 := bI_eq rfl (show (0 : Int32).toInt = 0 by decide) c_4
    exact ok_some ⟨fr_rf, hS, kc_rf⟩
  · skip
    have r_6 := n_rng r2
    have c_4i : r2.toInt ≠ 0 := bI_neq rfl (show (0 : Int32).toInt = 0 by decide) c_4
    refine ok_bd (t_fX9_isOpen (by first | omega | assumption | decide | (show 0 ≤ x1.toInt ∧ x1.toInt < (gT z_t 24 0).toInt; first | omega | assumption)) hS) (fun r5 q_7 => ?_)
    have h_8 : r5 = 0 ∨ r5 = 1 := q_7
    have h_8i := bool_i h_8
    clear q_7
    refine ok_ite (fun c_9 => ?_) (fun c_9 => ?_)
    · skip
      have r_10 := n_rng r5
      have c_9i : r5.toInt = 0 := bI_eq rfl (show (0 : Int32).toInt = 0 by decide) c_9
      exact ok_some ⟨fr_rf, hS, kc_rf⟩
    · skip
      have r_11 := n_rng r5
      have c_9i : r5.toInt ≠ 0 := bI_neq rfl (show (0 : Int32).toInt = 0 by decide) c_9
      refine ok_bd (t_fX9_canLook (by first | omega | assumption | decide | (show 0 ≤ x1.toInt ∧ x1.toInt < (gT z_t 24 0).toInt; first | omega | assumption)) hS) (fun r8 q_12 => ?_)
      have h_13 : r8 = 0 ∨ r8 = 1 := q_12
      have h_13i := bool_i h_13
      clear q_12
      refine ok_ite (fun c_14 => ?_) (fun c_14 => ?_)
      · skip
        have r_15 := n_rng r8
        have c_14i : r8.toInt = 0 := bI_eq rfl (show (0 : Int32).toInt = 0 by decide) c_14
        exact ok_some ⟨fr_rf, hS, kc_rf⟩
      · skip
        have r_16 := n_rng r8
        have c_14i : r8.toInt ≠ 0 := bI_neq rfl (show (0 : Int32).toInt = 0 by decide) c_14
        refine ok_bd2 (t_fX9_looks (by first | omega | assumption | decide | (show 0 ≤ x1.toInt ∧ x1.toInt < (gT z_t 24 0).toInt; first | omega | assumption)) hS) (fun r11 z12 q_17 => ?_)
        have h_18 : r11 = 0 ∨ r11 = 1 := q_17.1
        have h_18i := bool_i h_18
        have h_19 : FrL [24] z_t z12 := q_17.2.1
        have h_20 : SOK (gT z12 24) := q_17.2.2.1
        have h_21 : KC z_t z12 := q_17.2.2.2
        have h_21a := h_21.1
        have h_21b := h_21.2
        clear q_17
        refine ok_ite (fun c_22 => ?_) (fun c_22 => ?_)
        · skip
          have r_23 := n_rng r11
          have c_22i : r11.toInt = 0 := bI_eq rfl (show (0 : Int32).toInt = 0 by decide) c_22
          exact ok_some ⟨(fr_tr fr_rf h_19 (by decide)), h_20, (kc_tr kc_rf h_21)⟩
        · skip
          have r_24 := n_rng r11
          have c_22i : r11.toInt ≠ 0 := bI_neq rfl (show (0 : Int32).toInt = 0 by decide) c_22
          exact ok_some ⟨(fr_tr fr_rf h_19 (by decide)), h_20, (kc_tr kc_rf h_21)⟩

set_option maxHeartbeats 400000 in
set_option maxRecDepth 20000 in
theorem t_fX9_mend {z_t : Sx} {x1 : Int32} (hS : SOK (gT z_t 24)) : okP (fX9_mend z_t x1) (fun y => (FrL [24] z_t y.2) ∧ (SOK (gT y.2 24)) ∧ (KC z_t y.2)) := by
  unfold fX9_mend
  have hn := hS.1
  have hr := hS.2.2.1
  refine ok_bd (t_fX9_isFault) (fun r2 q_1 => ?_)
  have h_2 : r2 = 0 ∨ r2 = 1 := q_1.1
  have h_2i := bool_i h_2
  have h_3 : (r2.toInt = 1 ∧ 0 ≤ x1.toInt ∧ x1.toInt < (gT z_t 24 0).toInt) ∨ r2.toInt = 0 := q_1.2
  clear q_1
  refine ok_jn ?_
  refine ok_ite (fun c_4 => ?_) (fun c_4 => ?_)
  · skip
    have r_5 := n_rng r2
    have c_4i : r2.toInt = 0 := bI_eq rfl (show (0 : Int32).toInt = 0 by decide) c_4
    exact ok_some ⟨fr_rf, hS, kc_rf⟩
  · skip
    have r_6 := n_rng r2
    have c_4i : r2.toInt ≠ 0 := bI_neq rfl (show (0 : Int32).toInt = 0 by decide) c_4
    have e_8 : (4 : Int32).toInt = 4 := (show (4 : Int32).toInt = 4 by decide)
    refine ok_bd (t_fX9_faultOf (by first | omega | assumption | decide | (show 0 ≤ x1.toInt ∧ x1.toInt ≤ 9; first | omega | assumption)) (by first | omega | assumption | decide | (show 0 ≤ (4 : Int32).toInt ∧ (4 : Int32).toInt ≤ 5; first | omega | assumption))) (fun r6 q_7 => ?_)
    have h_9 : r6 = gT z_t 24 (((44 + (6 * x1)) + (4 : Int32)).toNatClampNeg) := q_7
    clear q_7
    refine ok_ite (fun c_10 => ?_) (fun c_10 => ?_)
    · skip
      have r_11 := n_rng r6
      have c_10i : r6.toInt ≤ 0 := bI_le rfl (show (0 : Int32).toInt = 0 by decide) c_10
      have r_12 := n_rng x1
      have e_13 : ((44 + (6 * x1)) + 4).toInt = ((44 + (6 * x1.toInt)) + 4) := (i32_add (i32_add (show (44 : Int32).toInt = 44 by decide) (i32_mul (show (6 : Int32).toInt = 6 by decide) rfl (by omega) (by omega)) (by omega) (by omega)) (show (4 : Int32).toInt = 4 by decide) (by omega) (by omega))
      refine ok_gd (inb_of (by omega) (by omega)) ?_
      have i_14 : (((44 + (6 * x1)) + 4).toNatClampNeg : Int) = ((44 + (6 * x1)) + 4).toInt := clampI (by omega)
      have e_16 : (2 : Int32).toInt = 2 := (show (2 : Int32).toInt = 2 by decide)
      have n_17 : KC z_t (sT z_t 24 ((44 + (6 * x1)) + 4).toNatClampNeg 2) := (kc_T kc_rf (by omega) (by omega))
      have n_17a := n_17.1
      have n_17b := n_17.2
      refine ok_bd (t_fX9_kindOf (by first | omega | assumption | decide | (show 0 ≤ x1.toInt ∧ x1.toInt < (gT (sT z_t 24 ((44 + (6 * x1)) + 4).toNatClampNeg 2) 24 0).toInt; first | omega | assumption)) (by first | omega | assumption | decide | (show 0 ≤ (2 : Int32).toInt ∧ (2 : Int32).toInt ≤ 2; first | omega | assumption)) (so_T hS (by unfold freeix; omega))) (fun r10 q_15 => ?_)
      refine ok_nm ?_
      exact ok_some ⟨(fr_T (fr_T fr_rf (by decide)) (by decide)), (so_T (so_T hS (by unfold freeix; omega)) (by unfold freeix; omega)), (kc_T (kc_T kc_rf (by omega) (by omega)) (by omega) (by omega))⟩
    · skip
      have r_18 := n_rng r6
      have c_10i : r6.toInt > 0 := bI_nle rfl (show (0 : Int32).toInt = 0 by decide) c_10
      exact ok_some ⟨fr_rf, hS, kc_rf⟩

set_option maxHeartbeats 400000 in
set_option maxRecDepth 20000 in
theorem t_fX9_rests {z_t : Sx} : okP (fX9_rests z_t) (fun y => (y.toInt ≤ 0 → ((gT z_t 24 ((18 + (0 : Int32)).toNatClampNeg)).toInt < (gT z_t 24 ((18 + (2 : Int32)).toNatClampNeg)).toInt ∨ (gT z_t 24 ((18 + (4 : Int32)).toNatClampNeg)).toInt < (gT z_t 24 ((18 + (5 : Int32)).toNatClampNeg)).toInt) ∧ ((gT z_t 24 ((18 + (1 : Int32)).toNatClampNeg)).toInt < (gT z_t 24 ((18 + (3 : Int32)).toNatClampNeg)).toInt ∨ (gT z_t 24 ((18 + (5 : Int32)).toNatClampNeg)).toInt < (gT z_t 24 ((18 + (4 : Int32)).toNatClampNeg)).toInt) ∧ ((gT z_t 24 ((18 + (2 : Int32)).toNatClampNeg)).toInt < (gT z_t 24 ((18 + (0 : Int32)).toNatClampNeg)).toInt ∨ (gT z_t 24 ((18 + (6 : Int32)).toNatClampNeg)).toInt < (gT z_t 24 ((18 + (7 : Int32)).toNatClampNeg)).toInt) ∧ ((gT z_t 24 ((18 + (3 : Int32)).toNatClampNeg)).toInt < (gT z_t 24 ((18 + (1 : Int32)).toNatClampNeg)).toInt ∨ (gT z_t 24 ((18 + (7 : Int32)).toNatClampNeg)).toInt < (gT z_t 24 ((18 + (6 : Int32)).toNatClampNeg)).toInt))) := by
  unfold fX9_rests
  have e_2 : (0 : Int32).toInt = 0 := (show (0 : Int32).toInt = 0 by decide)
  refine ok_bd (t_fX9_gameOf (by first | omega | assumption | decide | (show 0 ≤ (0 : Int32).toInt ∧ (0 : Int32).toInt ≤ 7; first | omega | assumption))) (fun r2 q_1 => ?_)
  have h_3 : r2 = gT z_t 24 ((18 + (0 : Int32)).toNatClampNeg) := q_1
  clear q_1
  have := congrArg Int32.toInt h_3
  have e_5 : (2 : Int32).toInt = 2 := (show (2 : Int32).toInt = 2 by decide)
  refine ok_bd (t_fX9_gameOf (by first | omega | assumption | decide | (show 0 ≤ (2 : Int32).toInt ∧ (2 : Int32).toInt ≤ 7; first | omega | assumption))) (fun r4 q_4 => ?_)
  have h_6 : r4 = gT z_t 24 ((18 + (2 : Int32)).toNatClampNeg) := q_4
  clear q_4
  have := congrArg Int32.toInt h_6
  refine ok_jn ?_
  refine ok_jn ?_
  refine ok_ite (fun c_7 => ?_) (fun c_7 => ?_)
  · skip
    have r_8 := n_rng r2
    have r_9 := n_rng r4
    have c_7i : r2.toInt < r4.toInt := bI_lt rfl rfl c_7
    have e_11 : (1 : Int32).toInt = 1 := (show (1 : Int32).toInt = 1 by decide)
    refine ok_bd (t_fX9_gameOf (by first | omega | assumption | decide | (show 0 ≤ (1 : Int32).toInt ∧ (1 : Int32).toInt ≤ 7; first | omega | assumption))) (fun r8 q_10 => ?_)
    have h_12 : r8 = gT z_t 24 ((18 + (1 : Int32)).toNatClampNeg) := q_10
    clear q_10
    have := congrArg Int32.toInt h_12
    have e_14 : (3 : Int32).toInt = 3 := (show (3 : Int32).toInt = 3 by decide)
    refine ok_bd (t_fX9_gameOf (by first | omega | assumption | decide | (show 0 ≤ (3 : Int32).toInt ∧ (3 : Int32).toInt ≤ 7; first | omega | assumption))) (fun r10 q_13 => ?_)
    have h_15 : r10 = gT z_t 24 ((18 + (3 : Int32)).toNatClampNeg) := q_13
    clear q_13
    have := congrArg Int32.toInt h_15
    refine ok_jn ?_
    refine ok_jn ?_
    refine ok_ite (fun c_16 => ?_) (fun c_16 => ?_)
    · skip
      have r_17 := n_rng r8
      have r_18 := n_rng r10
      have c_16i : r8.toInt < r10.toInt := bI_lt rfl rfl c_16
      refine ok_bd (t_fX9_gameOf (by first | omega | assumption | decide | (show 0 ≤ (2 : Int32).toInt ∧ (2 : Int32).toInt ≤ 7; first | omega | assumption))) (fun r15 q_19 => ?_)
      have h_20 : r15 = gT z_t 24 ((18 + (2 : Int32)).toNatClampNeg) := q_19
      clear q_19
      have := congrArg Int32.toInt h_20
      refine ok_bd (t_fX9_gameOf (by first | omega | assumption | decide | (show 0 ≤ (0 : Int32).toInt ∧ (0 : Int32).toInt ≤ 7; first | omega | assumption))) (fun r17 q_21 => ?_)
      have h_22 : r17 = gT z_t 24 ((18 + (0 : Int32)).toNatClampNeg) := q_21
      clear q_21
      have := congrArg Int32.toInt h_22
      refine ok_jn ?_
      refine ok_jn ?_
      refine ok_ite (fun c_23 => ?_) (fun c_23 => ?_)
      · skip
        have r_24 := n_rng r15
        have r_25 := n_rng r17
        have c_23i : r15.toInt < r17.toInt := bI_lt rfl rfl c_23
        refine ok_bd (t_fX9_gameOf (by first | omega | assumption | decide | (show 0 ≤ (3 : Int32).toInt ∧ (3 : Int32).toInt ≤ 7; first | omega | assumption))) (fun r22 q_26 => ?_)
        have h_27 : r22 = gT z_t 24 ((18 + (3 : Int32)).toNatClampNeg) := q_26
        clear q_26
        have := congrArg Int32.toInt h_27
        refine ok_bd (t_fX9_gameOf (by first | omega | assumption | decide | (show 0 ≤ (1 : Int32).toInt ∧ (1 : Int32).toInt ≤ 7; first | omega | assumption))) (fun r24 q_28 => ?_)
        have h_29 : r24 = gT z_t 24 ((18 + (1 : Int32)).toNatClampNeg) := q_28
        clear q_28
        have := congrArg Int32.toInt h_29
        refine ok_jn ?_
        refine ok_jn ?_
        refine ok_ite (fun c_30 => ?_) (fun c_30 => ?_)
        · skip
          have r_31 := n_rng r22
          have r_32 := n_rng r24
          have c_30i : r22.toInt < r24.toInt := bI_lt rfl rfl c_30
          exact ok_some (show ((((0 : Int32) ||| 0) ||| 0) ||| 0).toInt ≤ 0 → ((gT z_t 24 ((18 + (0 : Int32)).toNatClampNeg)).toInt < (gT z_t 24 ((18 + (2 : Int32)).toNatClampNeg)).toInt ∨ (gT z_t 24 ((18 + (4 : Int32)).toNatClampNeg)).toInt < (gT z_t 24 ((18 + (5 : Int32)).toNatClampNeg)).toInt) ∧ ((gT z_t 24 ((18 + (1 : Int32)).toNatClampNeg)).toInt < (gT z_t 24 ((18 + (3 : Int32)).toNatClampNeg)).toInt ∨ (gT z_t 24 ((18 + (5 : Int32)).toNatClampNeg)).toInt < (gT z_t 24 ((18 + (4 : Int32)).toNatClampNeg)).toInt) ∧ ((gT z_t 24 ((18 + (2 : Int32)).toNatClampNeg)).toInt < (gT z_t 24 ((18 + (0 : Int32)).toNatClampNeg)).toInt ∨ (gT z_t 24 ((18 + (6 : Int32)).toNatClampNeg)).toInt < (gT z_t 24 ((18 + (7 : Int32)).toNatClampNeg)).toInt) ∧ ((gT z_t 24 ((18 + (3 : Int32)).toNatClampNeg)).toInt < (gT z_t 24 ((18 + (1 : Int32)).toNatClampNeg)).toInt ∨ (gT z_t 24 ((18 + (7 : Int32)).toNatClampNeg)).toInt < (gT z_t 24 ((18 + (6 : Int32)).toNatClampNeg)).toInt) by first | (intro q; exact absurd q (by decide)) | (intro _; omega))
        · skip
          have r_33 := n_rng r22
          have r_34 := n_rng r24
          have c_30i : r22.toInt ≥ r24.toInt := bI_nlt rfl rfl c_30
          have e_36 : (7 : Int32).toInt = 7 := (show (7 : Int32).toInt = 7 by decide)
          refine ok_bd (t_fX9_gameOf (by first | omega | assumption | decide | (show 0 ≤ (7 : Int32).toInt ∧ (7 : Int32).toInt ≤ 7; first | omega | assumption))) (fun r32 q_35 => ?_)
          have h_37 : r32 = gT z_t 24 ((18 + (7 : Int32)).toNatClampNeg) := q_35
          clear q_35
          have := congrArg Int32.toInt h_37
          have e_39 : (6 : Int32).toInt = 6 := (show (6 : Int32).toInt = 6 by decide)
          refine ok_bd (t_fX9_gameOf (by first | omega | assumption | decide | (show 0 ≤ (6 : Int32).toInt ∧ (6 : Int32).toInt ≤ 7; first | omega | assumption))) (fun r34 q_38 => ?_)
          have h_40 : r34 = gT z_t 24 ((18 + (6 : Int32)).toNatClampNeg) := q_38
          clear q_38
          have := congrArg Int32.toInt h_40
          refine ok_ite (fun c_41 => ?_) (fun c_41 => ?_)
          · skip
            have r_42 := n_rng r32
            have r_43 := n_rng r34
            have c_41i : r32.toInt < r34.toInt := bI_lt rfl rfl c_41
            exact ok_some (show ((((0 : Int32) ||| 0) ||| 0) ||| 0).toInt ≤ 0 → ((gT z_t 24 ((18 + (0 : Int32)).toNatClampNeg)).toInt < (gT z_t 24 ((18 + (2 : Int32)).toNatClampNeg)).toInt ∨ (gT z_t 24 ((18 + (4 : Int32)).toNatClampNeg)).toInt < (gT z_t 24 ((18 + (5 : Int32)).toNatClampNeg)).toInt) ∧ ((gT z_t 24 ((18 + (1 : Int32)).toNatClampNeg)).toInt < (gT z_t 24 ((18 + (3 : Int32)).toNatClampNeg)).toInt ∨ (gT z_t 24 ((18 + (5 : Int32)).toNatClampNeg)).toInt < (gT z_t 24 ((18 + (4 : Int32)).toNatClampNeg)).toInt) ∧ ((gT z_t 24 ((18 + (2 : Int32)).toNatClampNeg)).toInt < (gT z_t 24 ((18 + (0 : Int32)).toNatClampNeg)).toInt ∨ (gT z_t 24 ((18 + (6 : Int32)).toNatClampNeg)).toInt < (gT z_t 24 ((18 + (7 : Int32)).toNatClampNeg)).toInt) ∧ ((gT z_t 24 ((18 + (3 : Int32)).toNatClampNeg)).toInt < (gT z_t 24 ((18 + (1 : Int32)).toNatClampNeg)).toInt ∨ (gT z_t 24 ((18 + (7 : Int32)).toNatClampNeg)).toInt < (gT z_t 24 ((18 + (6 : Int32)).toNatClampNeg)).toInt) by first | (intro q; exact absurd q (by decide)) | (intro _; omega))
          · skip
            have r_44 := n_rng r32
            have r_45 := n_rng r34
            have c_41i : r32.toInt ≥ r34.toInt := bI_nlt rfl rfl c_41
            exact ok_some (show ((((0 : Int32) ||| 0) ||| 0) ||| 8).toInt ≤ 0 → ((gT z_t 24 ((18 + (0 : Int32)).toNatClampNeg)).toInt < (gT z_t 24 ((18 + (2 : Int32)).toNatClampNeg)).toInt ∨ (gT z_t 24 ((18 + (4 : Int32)).toNatClampNeg)).toInt < (gT z_t 24 ((18 + (5 : Int32)).toNatClampNeg)).toInt) ∧ ((gT z_t 24 ((18 + (1 : Int32)).toNatClampNeg)).toInt < (gT z_t 24 ((18 + (3 : Int32)).toNatClampNeg)).toInt ∨ (gT z_t 24 ((18 + (5 : Int32)).toNatClampNeg)).toInt < (gT z_t 24 ((18 + (4 : Int32)).toNatClampNeg)).toInt) ∧ ((gT z_t 24 ((18 + (2 : Int32)).toNatClampNeg)).toInt < (gT z_t 24 ((18 + (0 : Int32)).toNatClampNeg)).toInt ∨ (gT z_t 24 ((18 + (6 : Int32)).toNatClampNeg)).toInt < (gT z_t 24 ((18 + (7 : Int32)).toNatClampNeg)).toInt) ∧ ((gT z_t 24 ((18 + (3 : Int32)).toNatClampNeg)).toInt < (gT z_t 24 ((18 + (1 : Int32)).toNatClampNeg)).toInt ∨ (gT z_t 24 ((18 + (7 : Int32)).toNatClampNeg)).toInt < (gT z_t 24 ((18 + (6 : Int32)).toNatClampNeg)).toInt) by first | (intro q; exact absurd q (by decide)) | (intro _; omega))
      · skip
        have r_46 := n_rng r15
        have r_47 := n_rng r17
        have c_23i : r15.toInt ≥ r17.toInt := bI_nlt rfl rfl c_23
        have e_49 : (6 : Int32).toInt = 6 := (show (6 : Int32).toInt = 6 by decide)
        refine ok_bd (t_fX9_gameOf (by first | omega | assumption | decide | (show 0 ≤ (6 : Int32).toInt ∧ (6 : Int32).toInt ≤ 7; first | omega | assumption))) (fun r40 q_48 => ?_)
        have h_50 : r40 = gT z_t 24 ((18 + (6 : Int32)).toNatClampNeg) := q_48
        clear q_48
        have := congrArg Int32.toInt h_50
        have e_52 : (7 : Int32).toInt = 7 := (show (7 : Int32).toInt = 7 by decide)
        refine ok_bd (t_fX9_gameOf (by first | omega | assumption | decide | (show 0 ≤ (7 : Int32).toInt ∧ (7 : Int32).toInt ≤ 7; first | omega | assumption))) (fun r42 q_51 => ?_)
        have h_53 : r42 = gT z_t 24 ((18 + (7 : Int32)).toNatClampNeg) := q_51
        clear q_51
        have := congrArg Int32.toInt h_53
        refine ok_ite (fun c_54 => ?_) (fun c_54 => ?_)
        · skip
          have r_55 := n_rng r40
          have r_56 := n_rng r42
          have c_54i : r40.toInt < r42.toInt := bI_lt rfl rfl c_54
          refine ok_bd (t_fX9_gameOf (by first | omega | assumption | decide | (show 0 ≤ (3 : Int32).toInt ∧ (3 : Int32).toInt ≤ 7; first | omega | assumption))) (fun r22 q_57 => ?_)
          have h_58 : r22 = gT z_t 24 ((18 + (3 : Int32)).toNatClampNeg) := q_57
          clear q_57
          have := congrArg Int32.toInt h_58
          refine ok_bd (t_fX9_gameOf (by first | omega | assumption | decide | (show 0 ≤ (1 : Int32).toInt ∧ (1 : Int32).toInt ≤ 7; first | omega | assumption))) (fun r24 q_59 => ?_)
          have h_60 : r24 = gT z_t 24 ((18 + (1 : Int32)).toNatClampNeg) := q_59
          clear q_59
          have := congrArg Int32.toInt h_60
          refine ok_jn ?_
          refine ok_jn ?_
          refine ok_ite (fun c_61 => ?_) (fun c_61 => ?_)
          · skip
            have r_62 := n_rng r22
            have r_63 := n_rng r24
            have c_61i : r22.toInt < r24.toInt := bI_lt rfl rfl c_61
            exact ok_some (show ((((0 : Int32) ||| 0) ||| 0) ||| 0).toInt ≤ 0 → ((gT z_t 24 ((18 + (0 : Int32)).toNatClampNeg)).toInt < (gT z_t 24 ((18 + (2 : Int32)).toNatClampNeg)).toInt ∨ (gT z_t 24 ((18 + (4 : Int32)).toNatClampNeg)).toInt < (gT z_t 24 ((18 + (5 : Int32)).toNatClampNeg)).toInt) ∧ ((gT z_t 24 ((18 + (1 : Int32)).toNatClampNeg)).toInt < (gT z_t 24 ((18 + (3 : Int32)).toNatClampNeg)).toInt ∨ (gT z_t 24 ((18 + (5 : Int32)).toNatClampNeg)).toInt < (gT z_t 24 ((18 + (4 : Int32)).toNatClampNeg)).toInt) ∧ ((gT z_t 24 ((18 + (2 : Int32)).toNatClampNeg)).toInt < (gT z_t 24 ((18 + (0 : Int32)).toNatClampNeg)).toInt ∨ (gT z_t 24 ((18 + (6 : Int32)).toNatClampNeg)).toInt < (gT z_t 24 ((18 + (7 : Int32)).toNatClampNeg)).toInt) ∧ ((gT z_t 24 ((18 + (3 : Int32)).toNatClampNeg)).toInt < (gT z_t 24 ((18 + (1 : Int32)).toNatClampNeg)).toInt ∨ (gT z_t 24 ((18 + (7 : Int32)).toNatClampNeg)).toInt < (gT z_t 24 ((18 + (6 : Int32)).toNatClampNeg)).toInt) by first | (intro q; exact absurd q (by decide)) | (intro _; omega))
          · skip
            have r_64 := n_rng r22
            have r_65 := n_rng r24
            have c_61i : r22.toInt ≥ r24.toInt := bI_nlt rfl rfl c_61
            refine ok_bd (t_fX9_gameOf (by first | omega | assumption | decide | (show 0 ≤ (7 : Int32).toInt ∧ (7 : Int32).toInt ≤ 7; first | omega | assumption))) (fun r32 q_66 => ?_)
            have h_67 : r32 = gT z_t 24 ((18 + (7 : Int32)).toNatClampNeg) := q_66
            clear q_66
            have := congrArg Int32.toInt h_67
            refine ok_bd (t_fX9_gameOf (by first | omega | assumption | decide | (show 0 ≤ (6 : Int32).toInt ∧ (6 : Int32).toInt ≤ 7; first | omega | assumption))) (fun r34 q_68 => ?_)
            have h_69 : r34 = gT z_t 24 ((18 + (6 : Int32)).toNatClampNeg) := q_68
            clear q_68
            have := congrArg Int32.toInt h_69
            refine ok_ite (fun c_70 => ?_) (fun c_70 => ?_)
            · skip
              have r_71 := n_rng r32
              have r_72 := n_rng r34
              have c_70i : r32.toInt < r34.toInt := bI_lt rfl rfl c_70
              exact ok_some (show ((((0 : Int32) ||| 0) ||| 0) ||| 0).toInt ≤ 0 → ((gT z_t 24 ((18 + (0 : Int32)).toNatClampNeg)).toInt < (gT z_t 24 ((18 + (2 : Int32)).toNatClampNeg)).toInt ∨ (gT z_t 24 ((18 + (4 : Int32)).toNatClampNeg)).toInt < (gT z_t 24 ((18 + (5 : Int32)).toNatClampNeg)).toInt) ∧ ((gT z_t 24 ((18 + (1 : Int32)).toNatClampNeg)).toInt < (gT z_t 24 ((18 + (3 : Int32)).toNatClampNeg)).toInt ∨ (gT z_t 24 ((18 + (5 : Int32)).toNatClampNeg)).toInt < (gT z_t 24 ((18 + (4 : Int32)).toNatClampNeg)).toInt) ∧ ((gT z_t 24 ((18 + (2 : Int32)).toNatClampNeg)).toInt < (gT z_t 24 ((18 + (0 : Int32)).toNatClampNeg)).toInt ∨ (gT z_t 24 ((18 + (6 : Int32)).toNatClampNeg)).toInt < (gT z_t 24 ((18 + (7 : Int32)).toNatClampNeg)).toInt) ∧ ((gT z_t 24 ((18 + (3 : Int32)).toNatClampNeg)).toInt < (gT z_t 24 ((18 + (1 : Int32)).toNatClampNeg)).toInt ∨ (gT z_t 24 ((18 + (7 : Int32)).toNatClampNeg)).toInt < (gT z_t 24 ((18 + (6 : Int32)).toNatClampNeg)).toInt) by first | (intro q; exact absurd q (by decide)) | (intro _; omega))
            · skip
              have r_73 := n_rng r32
              have r_74 := n_rng r34
              have c_70i : r32.toInt ≥ r34.toInt := bI_nlt rfl rfl c_70
              exact ok_some (show ((((0 : Int32) ||| 0) ||| 0) ||| 8).toInt ≤ 0 → ((gT z_t 24 ((18 + (0 : Int32)).toNatClampNeg)).toInt < (gT z_t 24 ((18 + (2 : Int32)).toNatClampNeg)).toInt ∨ (gT z_t 24 ((18 + (4 : Int32)).toNatClampNeg)).toInt < (gT z_t 24 ((18 + (5 : Int32)).toNatClampNeg)).toInt) ∧ ((gT z_t 24 ((18 + (1 : Int32)).toNatClampNeg)).toInt < (gT z_t 24 ((18 + (3 : Int32)).toNatClampNeg)).toInt ∨ (gT z_t 24 ((18 + (5 : Int32)).toNatClampNeg)).toInt < (gT z_t 24 ((18 + (4 : Int32)).toNatClampNeg)).toInt) ∧ ((gT z_t 24 ((18 + (2 : Int32)).toNatClampNeg)).toInt < (gT z_t 24 ((18 + (0 : Int32)).toNatClampNeg)).toInt ∨ (gT z_t 24 ((18 + (6 : Int32)).toNatClampNeg)).toInt < (gT z_t 24 ((18 + (7 : Int32)).toNatClampNeg)).toInt) ∧ ((gT z_t 24 ((18 + (3 : Int32)).toNatClampNeg)).toInt < (gT z_t 24 ((18 + (1 : Int32)).toNatClampNeg)).toInt ∨ (gT z_t 24 ((18 + (7 : Int32)).toNatClampNeg)).toInt < (gT z_t 24 ((18 + (6 : Int32)).toNatClampNeg)).toInt) by first | (intro q; exact absurd q (by decide)) | (intro _; omega))
        · skip
          have r_75 := n_rng r40
          have r_76 := n_rng r42
          have c_54i : r40.toInt ≥ r42.toInt := bI_nlt rfl rfl c_54
          refine ok_bd (t_fX9_gameOf (by first | omega | assumption | decide | (show 0 ≤ (3 : Int32).toInt ∧ (3 : Int32).toInt ≤ 7; first | omega | assumption))) (fun r22 q_77 => ?_)
          have h_78 : r22 = gT z_t 24 ((18 + (3 : Int32)).toNatClampNeg) := q_77
          clear q_77
          have := congrArg Int32.toInt h_78
          refine ok_bd (t_fX9_gameOf (by first | omega | assumption | decide | (show 0 ≤ (1 : Int32).toInt ∧ (1 : Int32).toInt ≤ 7; first | omega | assumption))) (fun r24 q_79 => ?_)
          have h_80 : r24 = gT z_t 24 ((18 + (1 : Int32)).toNatClampNeg) := q_79
          clear q_79
          have := congrArg Int32.toInt h_80
          refine ok_jn ?_
          refine ok_jn ?_
          refine ok_ite (fun c_81 => ?_) (fun c_81 => ?_)
          · skip
            have r_82 := n_rng r22
            have r_83 := n_rng r24
            have c_81i : r22.toInt < r24.toInt := bI_lt rfl rfl c_81
            exact ok_some (show ((((0 : Int32) ||| 0) ||| 4) ||| 0).toInt ≤ 0 → ((gT z_t 24 ((18 + (0 : Int32)).toNatClampNeg)).toInt < (gT z_t 24 ((18 + (2 : Int32)).toNatClampNeg)).toInt ∨ (gT z_t 24 ((18 + (4 : Int32)).toNatClampNeg)).toInt < (gT z_t 24 ((18 + (5 : Int32)).toNatClampNeg)).toInt) ∧ ((gT z_t 24 ((18 + (1 : Int32)).toNatClampNeg)).toInt < (gT z_t 24 ((18 + (3 : Int32)).toNatClampNeg)).toInt ∨ (gT z_t 24 ((18 + (5 : Int32)).toNatClampNeg)).toInt < (gT z_t 24 ((18 + (4 : Int32)).toNatClampNeg)).toInt) ∧ ((gT z_t 24 ((18 + (2 : Int32)).toNatClampNeg)).toInt < (gT z_t 24 ((18 + (0 : Int32)).toNatClampNeg)).toInt ∨ (gT z_t 24 ((18 + (6 : Int32)).toNatClampNeg)).toInt < (gT z_t 24 ((18 + (7 : Int32)).toNatClampNeg)).toInt) ∧ ((gT z_t 24 ((18 + (3 : Int32)).toNatClampNeg)).toInt < (gT z_t 24 ((18 + (1 : Int32)).toNatClampNeg)).toInt ∨ (gT z_t 24 ((18 + (7 : Int32)).toNatClampNeg)).toInt < (gT z_t 24 ((18 + (6 : Int32)).toNatClampNeg)).toInt) by first | (intro q; exact absurd q (by decide)) | (intro _; omega))
          · skip
            have r_84 := n_rng r22
            have r_85 := n_rng r24
            have c_81i : r22.toInt ≥ r24.toInt := bI_nlt rfl rfl c_81
            refine ok_bd (t_fX9_gameOf (by first | omega | assumption | decide | (show 0 ≤ (7 : Int32).toInt ∧ (7 : Int32).toInt ≤ 7; first | omega | assumption))) (fun r32 q_86 => ?_)
            have h_87 : r32 = gT z_t 24 ((18 + (7 : Int32)).toNatClampNeg) := q_86
            clear q_86
            have := congrArg Int32.toInt h_87
            refine ok_bd (t_fX9_gameOf (by first | omega | assumption | decide | (show 0 ≤ (6 : Int32).toInt ∧ (6 : Int32).toInt ≤ 7; first | omega | assumption))) (fun r34 q_88 => ?_)
            have h_89 : r34 = gT z_t 24 ((18 + (6 : Int32)).toNatClampNeg) := q_88
            clear q_88
            have := congrArg Int32.toInt h_89
            refine ok_ite (fun c_90 => ?_) (fun c_90 => ?_)
            · skip
              have r_91 := n_rng r32
              have r_92 := n_rng r34
              have c_90i : r32.toInt < r34.toInt := bI_lt rfl rfl c_90
              exact ok_some (show ((((0 : Int32) ||| 0) ||| 4) ||| 0).toInt ≤ 0 → ((gT z_t 24 ((18 + (0 : Int32)).toNatClampNeg)).toInt < (gT z_t 24 ((18 + (2 : Int32)).toNatClampNeg)).toInt ∨ (gT z_t 24 ((18 + (4 : Int32)).toNatClampNeg)).toInt < (gT z_t 24 ((18 + (5 : Int32)).toNatClampNeg)).toInt) ∧ ((gT z_t 24 ((18 + (1 : Int32)).toNatClampNeg)).toInt < (gT z_t 24 ((18 + (3 : Int32)).toNatClampNeg)).toInt ∨ (gT z_t 24 ((18 + (5 : Int32)).toNatClampNeg)).toInt < (gT z_t 24 ((18 + (4 : Int32)).toNatClampNeg)).toInt) ∧ ((gT z_t 24 ((18 + (2 : Int32)).toNatClampNeg)).toInt < (gT z_t 24 ((18 + (0 : Int32)).toNatClampNeg)).toInt ∨ (gT z_t 24 ((18 + (6 : Int32)).toNatClampNeg)).toInt < (gT z_t 24 ((18 + (7 : Int32)).toNatClampNeg)).toInt) ∧ ((gT z_t 24 ((18 + (3 : Int32)).toNatClampNeg)).toInt < (gT z_t 24 ((18 + (1 : Int32)).toNatClampNeg)).toInt ∨ (gT z_t 24 ((18 + (7 : Int32)).toNatClampNeg)).toInt < (gT z_t 24 ((18 + (6 : Int32)).toNatClampNeg)).toInt) by first | (intro q; exact absurd q (by decide)) | (intro _; omega))
            · skip
              have r_93 := n_rng r32
              have r_94 := n_rng r34
              have c_90i : r32.toInt ≥ r34.toInt := bI_nlt rfl rfl c_90
              exact ok_some (show ((((0 : Int32) ||| 0) ||| 4) ||| 8).toInt ≤ 0 → ((gT z_t 24 ((18 + (0 : Int32)).toNatClampNeg)).toInt < (gT z_t 24 ((18 + (2 : Int32)).toNatClampNeg)).toInt ∨ (gT z_t 24 ((18 + (4 : Int32)).toNatClampNeg)).toInt < (gT z_t 24 ((18 + (5 : Int32)).toNatClampNeg)).toInt) ∧ ((gT z_t 24 ((18 + (1 : Int32)).toNatClampNeg)).toInt < (gT z_t 24 ((18 + (3 : Int32)).toNatClampNeg)).toInt ∨ (gT z_t 24 ((18 + (5 : Int32)).toNatClampNeg)).toInt < (gT z_t 24 ((18 + (4 : Int32)).toNatClampNeg)).toInt) ∧ ((gT z_t 24 ((18 + (2 : Int32)).toNatClampNeg)).toInt < (gT z_t 24 ((18 + (0 : Int32)).toNatClampNeg)).toInt ∨ (gT z_t 24 ((18 + (6 : Int32)).toNatClampNeg)).toInt < (gT z_t 24 ((18 + (7 : Int32)).toNatClampNeg)).toInt) ∧ ((gT z_t 24 ((18 + (3 : Int32)).toNatClampNeg)).toInt < (gT z_t 24 ((18 + (1 : Int32)).toNatClampNeg)).toInt ∨ (gT z_t 24 ((18 + (7 : Int32)).toNatClampNeg)).toInt < (gT z_t 24 ((18 + (6 : Int32)).toNatClampNeg)).toInt) by first | (intro q; exact absurd q (by decide)) | (intro _; omega))
    · skip
      have r_95 := n_rng r8
      have r_96 := n_rng r10
      have c_16i : r8.toInt ≥ r10.toInt := bI_nlt rfl rfl c_16
      have e_98 : (5 : Int32).toInt = 5 := (show (5 : Int32).toInt = 5 by decide)
      refine ok_bd (t_fX9_gameOf (by first | omega | assumption | decide | (show 0 ≤ (5 : Int32).toInt ∧ (5 : Int32).toInt ≤ 7; first | omega | assumption))) (fun r48 q_97 => ?_)
      have h_99 : r48 = gT z_t 24 ((18 + (5 : Int32)).toNatClampNeg) := q_97
      clear q_97
      have := congrArg Int32.toInt h_99
      have e_101 : (4 : Int32).toInt = 4 := (show (4 : Int32).toInt = 4 by decide)
      refine ok_bd (t_fX9_gameOf (by first | omega | assumption | decide | (show 0 ≤ (4 : Int32).toInt ∧ (4 : Int32).toInt ≤ 7; first | omega | assumption))) (fun r50 q_100 => ?_)
      have h_102 : r50 = gT z_t 24 ((18 + (4 : Int32)).toNatClampNeg) := q_100
      clear q_100
      have := congrArg Int32.toInt h_102
      refine ok_ite (fun c_103 => ?_) (fun c_103 => ?_)
      · skip
        have r_104 := n_rng r48
        have r_105 := n_rng r50
        have c_103i : r48.toInt < r50.toInt := bI_lt rfl rfl c_103
        refine ok_bd (t_fX9_gameOf (by first | omega | assumption | decide | (show 0 ≤ (2 : Int32).toInt ∧ (2 : Int32).toInt ≤ 7; first | omega | assumption))) (fun r15 q_106 => ?_)
        have h_107 : r15 = gT z_t 24 ((18 + (2 : Int32)).toNatClampNeg) := q_106
        clear q_106
        have := congrArg Int32.toInt h_107
        refine ok_bd (t_fX9_gameOf (by first | omega | assumption | decide | (show 0 ≤ (0 : Int32).toInt ∧ (0 : Int32).toInt ≤ 7; first | omega | assumption))) (fun r17 q_108 => ?_)
        have h_109 : r17 = gT z_t 24 ((18 + (0 : Int32)).toNatClampNeg) := q_108
        clear q_108
        have := congrArg Int32.toInt h_109
        refine ok_jn ?_
        refine ok_jn ?_
        refine ok_ite (fun c_110 => ?_) (fun c_110 => ?_)
        · skip
          have r_111 := n_rng r15
          have r_112 := n_rng r17
          have c_110i : r15.toInt < r17.toInt := bI_lt rfl rfl c_110
          refine ok_bd (t_fX9_gameOf (by first | omega | assumption | decide | (show 0 ≤ (3 : Int32).toInt ∧ (3 : Int32).toInt ≤ 7; first | omega | assumption))) (fun r22 q_113 => ?_)
          have h_114 : r22 = gT z_t 24 ((18 + (3 : Int32)).toNatClampNeg) := q_113
          clear q_113
          have := congrArg Int32.toInt h_114
          refine ok_bd (t_fX9_gameOf (by first | omega | assumption | decide | (show 0 ≤ (1 : Int32).toInt ∧ (1 : Int32).toInt ≤ 7; first | omega | assumption))) (fun r24 q_115 => ?_)
          have h_116 : r24 = gT z_t 24 ((18 + (1 : Int32)).toNatClampNeg) := q_115
          clear q_115
          have := congrArg Int32.toInt h_116
          refine ok_jn ?_
          refine ok_jn ?_
          refine ok_ite (fun c_117 => ?_) (fun c_117 => ?_)
          · skip
            have r_118 := n_rng r22
            have r_119 := n_rng r24
            have c_117i : r22.toInt < r24.toInt := bI_lt rfl rfl c_117
            exact ok_some (show ((((0 : Int32) ||| 0) ||| 0) ||| 0).toInt ≤ 0 → ((gT z_t 24 ((18 + (0 : Int32)).toNatClampNeg)).toInt < (gT z_t 24 ((18 + (2 : Int32)).toNatClampNeg)).toInt ∨ (gT z_t 24 ((18 + (4 : Int32)).toNatClampNeg)).toInt < (gT z_t 24 ((18 + (5 : Int32)).toNatClampNeg)).toInt) ∧ ((gT z_t 24 ((18 + (1 : Int32)).toNatClampNeg)).toInt < (gT z_t 24 ((18 + (3 : Int32)).toNatClampNeg)).toInt ∨ (gT z_t 24 ((18 + (5 : Int32)).toNatClampNeg)).toInt < (gT z_t 24 ((18 + (4 : Int32)).toNatClampNeg)).toInt) ∧ ((gT z_t 24 ((18 + (2 : Int32)).toNatClampNeg)).toInt < (gT z_t 24 ((18 + (0 : Int32)).toNatClampNeg)).toInt ∨ (gT z_t 24 ((18 + (6 : Int32)).toNatClampNeg)).toInt < (gT z_t 24 ((18 + (7 : Int32)).toNatClampNeg)).toInt) ∧ ((gT z_t 24 ((18 + (3 : Int32)).toNatClampNeg)).toInt < (gT z_t 24 ((18 + (1 : Int32)).toNatClampNeg)).toInt ∨ (gT z_t 24 ((18 + (7 : Int32)).toNatClampNeg)).toInt < (gT z_t 24 ((18 + (6 : Int32)).toNatClampNeg)).toInt) by first | (intro q; exact absurd q (by decide)) | (intro _; omega))
          · skip
            have r_120 := n_rng r22
            have r_121 := n_rng r24
            have c_117i : r22.toInt ≥ r24.toInt := bI_nlt rfl rfl c_117
            have e_123 : (7 : Int32).toInt = 7 := (show (7 : Int32).toInt = 7 by decide)
            refine ok_bd (t_fX9_gameOf (by first | omega | assumption | decide | (show 0 ≤ (7 : Int32).toInt ∧ (7 : Int32).toInt ≤ 7; first | omega | assumption))) (fun r32 q_122 => ?_)
            have h_124 : r32 = gT z_t 24 ((18 + (7 : Int32)).toNatClampNeg) := q_122
            clear q_122
            have := congrArg Int32.toInt h_124
            have e_126 : (6 : Int32).toInt = 6 := (show (6 : Int32).toInt = 6 by decide)
            refine ok_bd (t_fX9_gameOf (by first | omega | assumption | decide | (show 0 ≤ (6 : Int32).toInt ∧ (6 : Int32).toInt ≤ 7; first | omega | assumption))) (fun r34 q_125 => ?_)
            have h_127 : r34 = gT z_t 24 ((18 + (6 : Int32)).toNatClampNeg) := q_125
            clear q_125
            have := congrArg Int32.toInt h_127
            refine ok_ite (fun c_128 => ?_) (fun c_128 => ?_)
            · skip
              have r_129 := n_rng r32
              have r_130 := n_rng r34
              have c_128i : r32.toInt < r34.toInt := bI_lt rfl rfl c_128
              exact ok_some (show ((((0 : Int32) ||| 0) ||| 0) ||| 0).toInt ≤ 0 → ((gT z_t 24 ((18 + (0 : Int32)).toNatClampNeg)).toInt < (gT z_t 24 ((18 + (2 : Int32)).toNatClampNeg)).toInt ∨ (gT z_t 24 ((18 + (4 : Int32)).toNatClampNeg)).toInt < (gT z_t 24 ((18 + (5 : Int32)).toNatClampNeg)).toInt) ∧ ((gT z_t 24 ((18 + (1 : Int32)).toNatClampNeg)).toInt < (gT z_t 24 ((18 + (3 : Int32)).toNatClampNeg)).toInt ∨ (gT z_t 24 ((18 + (5 : Int32)).toNatClampNeg)).toInt < (gT z_t 24 ((18 + (4 : Int32)).toNatClampNeg)).toInt) ∧ ((gT z_t 24 ((18 + (2 : Int32)).toNatClampNeg)).toInt < (gT z_t 24 ((18 + (0 : Int32)).toNatClampNeg)).toInt ∨ (gT z_t 24 ((18 + (6 : Int32)).toNatClampNeg)).toInt < (gT z_t 24 ((18 + (7 : Int32)).toNatClampNeg)).toInt) ∧ ((gT z_t 24 ((18 + (3 : Int32)).toNatClampNeg)).toInt < (gT z_t 24 ((18 + (1 : Int32)).toNatClampNeg)).toInt ∨ (gT z_t 24 ((18 + (7 : Int32)).toNatClampNeg)).toInt < (gT z_t 24 ((18 + (6 : Int32)).toNatClampNeg)).toInt) by first | (intro q; exact absurd q (by decide)) | (intro _; omega))
            · skip
              have r_131 := n_rng r32
              have r_132 := n_rng r34
              have c_128i : r32.toInt ≥ r34.toInt := bI_nlt rfl rfl c_128
              exact ok_some (show ((((0 : Int32) ||| 0) ||| 0) ||| 8).toInt ≤ 0 → ((gT z_t 24 ((18 + (0 : Int32)).toNatClampNeg)).toInt < (gT z_t 24 ((18 + (2 : Int32)).toNatClampNeg)).toInt ∨ (gT z_t 24 ((18 + (4 : Int32)).toNatClampNeg)).toInt < (gT z_t 24 ((18 + (5 : Int32)).toNatClampNeg)).toInt) ∧ ((gT z_t 24 ((18 + (1 : Int32)).toNatClampNeg)).toInt < (gT z_t 24 ((18 + (3 : Int32)).toNatClampNeg)).toInt ∨ (gT z_t 24 ((18 + (5 : Int32)).toNatClampNeg)).toInt < (gT z_t 24 ((18 + (4 : Int32)).toNatClampNeg)).toInt) ∧ ((gT z_t 24 ((18 + (2 : Int32)).toNatClampNeg)).toInt < (gT z_t 24 ((18 + (0 : Int32)).toNatClampNeg)).toInt ∨ (gT z_t 24 ((18 + (6 : Int32)).toNatClampNeg)).toInt < (gT z_t 24 ((18 + (7 : Int32)).toNatClampNeg)).toInt) ∧ ((gT z_t 24 ((18 + (3 : Int32)).toNatClampNeg)).toInt < (gT z_t 24 ((18 + (1 : Int32)).toNatClampNeg)).toInt ∨ (gT z_t 24 ((18 + (7 : Int32)).toNatClampNeg)).toInt < (gT z_t 24 ((18 + (6 : Int32)).toNatClampNeg)).toInt) by first | (intro q; exact absurd q (by decide)) | (intro _; omega))
        · skip
          have r_133 := n_rng r15
          have r_134 := n_rng r17
          have c_110i : r15.toInt ≥ r17.toInt := bI_nlt rfl rfl c_110
          have e_136 : (6 : Int32).toInt = 6 := (show (6 : Int32).toInt = 6 by decide)
          refine ok_bd (t_fX9_gameOf (by first | omega | assumption | decide | (show 0 ≤ (6 : Int32).toInt ∧ (6 : Int32).toInt ≤ 7; first | omega | assumption))) (fun r40 q_135 => ?_)
          have h_137 : r40 = gT z_t 24 ((18 + (6 : Int32)).toNatClampNeg) := q_135
          clear q_135
          have := congrArg Int32.toInt h_137
          have e_139 : (7 : Int32).toInt = 7 := (show (7 : Int32).toInt = 7 by decide)
          refine ok_bd (t_fX9_gameOf (by first | omega | assumption | decide | (show 0 ≤ (7 : Int32).toInt ∧ (7 : Int32).toInt ≤ 7; first | omega | assumption))) (fun r42 q_138 => ?_)
          have h_140 : r42 = gT z_t 24 ((18 + (7 : Int32)).toNatClampNeg) := q_138
          clear q_138
          have := congrArg Int32.toInt h_140
          refine ok_ite (fun c_141 => ?_) (fun c_141 => ?_)
          · skip
            have r_142 := n_rng r40
            have r_143 := n_rng r42
            have c_141i : r40.toInt < r42.toInt := bI_lt rfl rfl c_141
            refine ok_bd (t_fX9_gameOf (by first | omega | assumption | decide | (show 0 ≤ (3 : Int32).toInt ∧ (3 : Int32).toInt ≤ 7; first | omega | assumption))) (fun r22 q_144 => ?_)
            have h_145 : r22 = gT z_t 24 ((18 + (3 : Int32)).toNatClampNeg) := q_144
            clear q_144
            have := congrArg Int32.toInt h_145
            refine ok_bd (t_fX9_gameOf (by first | omega | assumption | decide | (show 0 ≤ (1 : Int32).toInt ∧ (1 : Int32).toInt ≤ 7; first | omega | assumption))) (fun r24 q_146 => ?_)
            have h_147 : r24 = gT z_t 24 ((18 + (1 : Int32)).toNatClampNeg) := q_146
            clear q_146
            have := congrArg Int32.toInt h_147
            refine ok_jn ?_
            refine ok_jn ?_
            refine ok_ite (fun c_148 => ?_) (fun c_148 => ?_)
            · skip
              have r_149 := n_rng r22
              have r_150 := n_rng r24
              have c_148i : r22.toInt < r24.toInt := bI_lt rfl rfl c_148
              exact ok_some (show ((((0 : Int32) ||| 0) ||| 0) ||| 0).toInt ≤ 0 → ((gT z_t 24 ((18 + (0 : Int32)).toNatClampNeg)).toInt < (gT z_t 24 ((18 + (2 : Int32)).toNatClampNeg)).toInt ∨ (gT z_t 24 ((18 + (4 : Int32)).toNatClampNeg)).toInt < (gT z_t 24 ((18 + (5 : Int32)).toNatClampNeg)).toInt) ∧ ((gT z_t 24 ((18 + (1 : Int32)).toNatClampNeg)).toInt < (gT z_t 24 ((18 + (3 : Int32)).toNatClampNeg)).toInt ∨ (gT z_t 24 ((18 + (5 : Int32)).toNatClampNeg)).toInt < (gT z_t 24 ((18 + (4 : Int32)).toNatClampNeg)).toInt) ∧ ((gT z_t 24 ((18 + (2 : Int32)).toNatClampNeg)).toInt < (gT z_t 24 ((18 + (0 : Int32)).toNatClampNeg)).toInt ∨ (gT z_t 24 ((18 + (6 : Int32)).toNatClampNeg)).toInt < (gT z_t 24 ((18 + (7 : Int32)).toNatClampNeg)).toInt) ∧ ((gT z_t 24 ((18 + (3 : Int32)).toNatClampNeg)).toInt < (gT z_t 24 ((18 + (1 : Int32)).toNatClampNeg)).toInt ∨ (gT z_t 24 ((18 + (7 : Int32)).toNatClampNeg)).toInt < (gT z_t 24 ((18 + (6 : Int32)).toNatClampNeg)).toInt) by first | (intro q; exact absurd q (by decide)) | (intro _; omega))
            · skip
              have r_151 := n_rng r22
              have r_152 := n_rng r24
              have c_148i : r22.toInt ≥ r24.toInt := bI_nlt rfl rfl c_148
              refine ok_bd (t_fX9_gameOf (by first | omega | assumption | decide | (show 0 ≤ (7 : Int32).toInt ∧ (7 : Int32).toInt ≤ 7; first | omega | assumption))) (fun r32 q_153 => ?_)
              have h_154 : r32 = gT z_t 24 ((18 + (7 : Int32)).toNatClampNeg) := q_153
              clear q_153
              have := congrArg Int32.toInt h_154
              refine ok_bd (t_fX9_gameOf (by first | omega | assumption | decide | (show 0 ≤ (6 : Int32).toInt ∧ (6 : Int32).toInt ≤ 7; first | omega | assumption))) (fun r34 q_155 => ?_)
              have h_156 : r34 = gT z_t 24 ((18 + (6 : Int32)).toNatClampNeg) := q_155
              clear q_155
              have := congrArg Int32.toInt h_156
              refine ok_ite (fun c_157 => ?_) (fun c_157 => ?_)
              · skip
                have r_158 := n_rng r32
                have r_159 := n_rng r34
                have c_157i : r32.toInt < r34.toInt := bI_lt rfl rfl c_157
                exact ok_some (show ((((0 : Int32) ||| 0) ||| 0) ||| 0).toInt ≤ 0 → ((gT z_t 24 ((18 + (0 : Int32)).toNatClampNeg)).toInt < (gT z_t 24 ((18 + (2 : Int32)).toNatClampNeg)).toInt ∨ (gT z_t 24 ((18 + (4 : Int32)).toNatClampNeg)).toInt < (gT z_t 24 ((18 + (5 : Int32)).toNatClampNeg)).toInt) ∧ ((gT z_t 24 ((18 + (1 : Int32)).toNatClampNeg)).toInt < (gT z_t 24 ((18 + (3 : Int32)).toNatClampNeg)).toInt ∨ (gT z_t 24 ((18 + (5 : Int32)).toNatClampNeg)).toInt < (gT z_t 24 ((18 + (4 : Int32)).toNatClampNeg)).toInt) ∧ ((gT z_t 24 ((18 + (2 : Int32)).toNatClampNeg)).toInt < (gT z_t 24 ((18 + (0 : Int32)).toNatClampNeg)).toInt ∨ (gT z_t 24 ((18 + (6 : Int32)).toNatClampNeg)).toInt < (gT z_t 24 ((18 + (7 : Int32)).toNatClampNeg)).toInt) ∧ ((gT z_t 24 ((18 + (3 : Int32)).toNatClampNeg)).toInt < (gT z_t 24 ((18 + (1 : Int32)).toNatClampNeg)).toInt ∨ (gT z_t 24 ((18 + (7 : Int32)).toNatClampNeg)).toInt < (gT z_t 24 ((18 + (6 : Int32)).toNatClampNeg)).toInt) by first | (intro q; exact absurd q (by decide)) | (intro _; omega))
              · skip
                have r_160 := n_rng r32
                have r_161 := n_rng r34
                have c_157i : r32.toInt ≥ r34.toInt := bI_nlt rfl rfl c_157
                exact ok_some (show ((((0 : Int32) ||| 0) ||| 0) ||| 8).toInt ≤ 0 → ((gT z_t 24 ((18 + (0 : Int32)).toNatClampNeg)).toInt < (gT z_t 24 ((18 + (2 : Int32)).toNatClampNeg)).toInt ∨ (gT z_t 24 ((18 + (4 : Int32)).toNatClampNeg)).toInt < (gT z_t 24 ((18 + (5 : Int32)).toNatClampNeg)).toInt) ∧ ((gT z_t 24 ((18 + (1 : Int32)).toNatClampNeg)).toInt < (gT z_t 24 ((18 + (3 : Int32)).toNatClampNeg)).toInt ∨ (gT z_t 24 ((18 + (5 : Int32)).toNatClampNeg)).toInt < (gT z_t 24 ((18 + (4 : Int32)).toNatClampNeg)).toInt) ∧ ((gT z_t 24 ((18 + (2 : Int32)).toNatClampNeg)).toInt < (gT z_t 24 ((18 + (0 : Int32)).toNatClampNeg)).toInt ∨ (gT z_t 24 ((18 + (6 : Int32)).toNatClampNeg)).toInt < (gT z_t 24 ((18 + (7 : Int32)).toNatClampNeg)).toInt) ∧ ((gT z_t 24 ((18 + (3 : Int32)).toNatClampNeg)).toInt < (gT z_t 24 ((18 + (1 : Int32)).toNatClampNeg)).toInt ∨ (gT z_t 24 ((18 + (7 : Int32)).toNatClampNeg)).toInt < (gT z_t 24 ((18 + (6 : Int32)).toNatClampNeg)).toInt) by first | (intro q; exact absurd q (by decide)) | (intro _; omega))
          · skip
            have r_162 := n_rng r40
            have r_163 := n_rng r42
            have c_141i : r40.toInt ≥ r42.toInt := bI_nlt rfl rfl c_141
            refine ok_bd (t_fX9_gameOf (by first | omega | assumption | decide | (show 0 ≤ (3 : Int32).toInt ∧ (3 : Int32).toInt ≤ 7; first | omega | assumption))) (fun r22 q_164 => ?_)
            have h_165 : r22 = gT z_t 24 ((18 + (3 : Int32)).toNatClampNeg) := q_164
            clear q_164
            have := congrArg Int32.toInt h_165
            refine ok_bd (t_fX9_gameOf (by first | omega | assumption | decide | (show 0 ≤ (1 : Int32).toInt ∧ (1 : Int32).toInt ≤ 7; first | omega | assumption))) (fun r24 q_166 => ?_)
            have h_167 : r24 = gT z_t 24 ((18 + (1 : Int32)).toNatClampNeg) := q_166
            clear q_166
            have := congrArg Int32.toInt h_167
            refine ok_jn ?_
            refine ok_jn ?_
            refine ok_ite (fun c_168 => ?_) (fun c_168 => ?_)
            · skip
              have r_169 := n_rng r22
              have r_170 := n_rng r24
              have c_168i : r22.toInt < r24.toInt := bI_lt rfl rfl c_168
              exact ok_some (show ((((0 : Int32) ||| 0) ||| 4) ||| 0).toInt ≤ 0 → ((gT z_t 24 ((18 + (0 : Int32)).toNatClampNeg)).toInt < (gT z_t 24 ((18 + (2 : Int32)).toNatClampNeg)).toInt ∨ (gT z_t 24 ((18 + (4 : Int32)).toNatClampNeg)).toInt < (gT z_t 24 ((18 + (5 : Int32)).toNatClampNeg)).toInt) ∧ ((gT z_t 24 ((18 + (1 : Int32)).toNatClampNeg)).toInt < (gT z_t 24 ((18 + (3 : Int32)).toNatClampNeg)).toInt ∨ (gT z_t 24 ((18 + (5 : Int32)).toNatClampNeg)).toInt < (gT z_t 24 ((18 + (4 : Int32)).toNatClampNeg)).toInt) ∧ ((gT z_t 24 ((18 + (2 : Int32)).toNatClampNeg)).toInt < (gT z_t 24 ((18 + (0 : Int32)).toNatClampNeg)).toInt ∨ (gT z_t 24 ((18 + (6 : Int32)).toNatClampNeg)).toInt < (gT z_t 24 ((18 + (7 : Int32)).toNatClampNeg)).toInt) ∧ ((gT z_t 24 ((18 + (3 : Int32)).toNatClampNeg)).toInt < (gT z_t 24 ((18 + (1 : Int32)).toNatClampNeg)).toInt ∨ (gT z_t 24 ((18 + (7 : Int32)).toNatClampNeg)).toInt < (gT z_t 24 ((18 + (6 : Int32)).toNatClampNeg)).toInt) by first | (intro q; exact absurd q (by decide)) | (intro _; omega))
            · skip
              have r_171 := n_rng r22
              have r_172 := n_rng r24
              have c_168i : r22.toInt ≥ r24.toInt := bI_nlt rfl rfl c_168
              refine ok_bd (t_fX9_gameOf (by first | omega | assumption | decide | (show 0 ≤ (7 : Int32).toInt ∧ (7 : Int32).toInt ≤ 7; first | omega | assumption))) (fun r32 q_173 => ?_)
              have h_174 : r32 = gT z_t 24 ((18 + (7 : Int32)).toNatClampNeg) := q_173
              clear q_173
              have := congrArg Int32.toInt h_174
              refine ok_bd (t_fX9_gameOf (by first | omega | assumption | decide | (show 0 ≤ (6 : Int32).toInt ∧ (6 : Int32).toInt ≤ 7; first | omega | assumption))) (fun r34 q_175 => ?_)
              have h_176 : r34 = gT z_t 24 ((18 + (6 : Int32)).toNatClampNeg) := q_175
              clear q_175
              have := congrArg Int32.toInt h_176
              refine ok_ite (fun c_177 => ?_) (fun c_177 => ?_)
              · skip
                have r_178 := n_rng r32
                have r_179 := n_rng r34
                have c_177i : r32.toInt < r34.toInt := bI_lt rfl rfl c_177
                exact ok_some (show ((((0 : Int32) ||| 0) ||| 4) ||| 0).toInt ≤ 0 → ((gT z_t 24 ((18 + (0 : Int32)).toNatClampNeg)).toInt < (gT z_t 24 ((18 + (2 : Int32)).toNatClampNeg)).toInt ∨ (gT z_t 24 ((18 + (4 : Int32)).toNatClampNeg)).toInt < (gT z_t 24 ((18 + (5 : Int32)).toNatClampNeg)).toInt) ∧ ((gT z_t 24 ((18 + (1 : Int32)).toNatClampNeg)).toInt < (gT z_t 24 ((18 + (3 : Int32)).toNatClampNeg)).toInt ∨ (gT z_t 24 ((18 + (5 : Int32)).toNatClampNeg)).toInt < (gT z_t 24 ((18 + (4 : Int32)).toNatClampNeg)).toInt) ∧ ((gT z_t 24 ((18 + (2 : Int32)).toNatClampNeg)).toInt < (gT z_t 24 ((18 + (0 : Int32)).toNatClampNeg)).toInt ∨ (gT z_t 24 ((18 + (6 : Int32)).toNatClampNeg)).toInt < (gT z_t 24 ((18 + (7 : Int32)).toNatClampNeg)).toInt) ∧ ((gT z_t 24 ((18 + (3 : Int32)).toNatClampNeg)).toInt < (gT z_t 24 ((18 + (1 : Int32)).toNatClampNeg)).toInt ∨ (gT z_t 24 ((18 + (7 : Int32)).toNatClampNeg)).toInt < (gT z_t 24 ((18 + (6 : Int32)).toNatClampNeg)).toInt) by first | (intro q; exact absurd q (by decide)) | (intro _; omega))
              · skip
                have r_180 := n_rng r32
                have r_181 := n_rng r34
                have c_177i : r32.toInt ≥ r34.toInt := bI_nlt rfl rfl c_177
                exact ok_some (show ((((0 : Int32) ||| 0) ||| 4) ||| 8).toInt ≤ 0 → ((gT z_t 24 ((18 + (0 : Int32)).toNatClampNeg)).toInt < (gT z_t 24 ((18 + (2 : Int32)).toNatClampNeg)).toInt ∨ (gT z_t 24 ((18 + (4 : Int32)).toNatClampNeg)).toInt < (gT z_t 24 ((18 + (5 : Int32)).toNatClampNeg)).toInt) ∧ ((gT z_t 24 ((18 + (1 : Int32)).toNatClampNeg)).toInt < (gT z_t 24 ((18 + (3 : Int32)).toNatClampNeg)).toInt ∨ (gT z_t 24 ((18 + (5 : Int32)).toNatClampNeg)).toInt < (gT z_t 24 ((18 + (4 : Int32)).toNatClampNeg)).toInt) ∧ ((gT z_t 24 ((18 + (2 : Int32)).toNatClampNeg)).toInt < (gT z_t 24 ((18 + (0 : Int32)).toNatClampNeg)).toInt ∨ (gT z_t 24 ((18 + (6 : Int32)).toNatClampNeg)).toInt < (gT z_t 24 ((18 + (7 : Int32)).toNatClampNeg)).toInt) ∧ ((gT z_t 24 ((18 + (3 : Int32)).toNatClampNeg)).toInt < (gT z_t 24 ((18 + (1 : Int32)).toNatClampNeg)).toInt ∨ (gT z_t 24 ((18 + (7 : Int32)).toNatClampNeg)).toInt < (gT z_t 24 ((18 + (6 : Int32)).toNatClampNeg)).toInt) by first | (intro q; exact absurd q (by decide)) | (intro _; omega))
      · skip
        have r_182 := n_rng r48
        have r_183 := n_rng r50
        have c_103i : r48.toInt ≥ r50.toInt := bI_nlt rfl rfl c_103
        refine ok_bd (t_fX9_gameOf (by first | omega | assumption | decide | (show 0 ≤ (2 : Int32).toInt ∧ (2 : Int32).toInt ≤ 7; first | omega | assumption))) (fun r15 q_184 => ?_)
        have h_185 : r15 = gT z_t 24 ((18 + (2 : Int32)).toNatClampNeg) := q_184
        clear q_184
        have := congrArg Int32.toInt h_185
        refine ok_bd (t_fX9_gameOf (by first | omega | assumption | decide | (show 0 ≤ (0 : Int32).toInt ∧ (0 : Int32).toInt ≤ 7; first | omega | assumption))) (fun r17 q_186 => ?_)
        have h_187 : r17 = gT z_t 24 ((18 + (0 : Int32)).toNatClampNeg) := q_186
        clear q_186
        have := congrArg Int32.toInt h_187
        refine ok_jn ?_
        refine ok_jn ?_
        refine ok_ite (fun c_188 => ?_) (fun c_188 => ?_)
        · skip
          have r_189 := n_rng r15
          have r_190 := n_rng r17
          have c_188i : r15.toInt < r17.toInt := bI_lt rfl rfl c_188
          refine ok_bd (t_fX9_gameOf (by first | omega | assumption | decide | (show 0 ≤ (3 : Int32).toInt ∧ (3 : Int32).toInt ≤ 7; first | omega | assumption))) (fun r22 q_191 => ?_)
          have h_192 : r22 = gT z_t 24 ((18 + (3 : Int32)).toNatClampNeg) := q_191
          clear q_191
          have := congrArg Int32.toInt h_192
          refine ok_bd (t_fX9_gameOf (by first | omega | assumption | decide | (show 0 ≤ (1 : Int32).toInt ∧ (1 : Int32).toInt ≤ 7; first | omega | assumption))) (fun r24 q_193 => ?_)
          have h_194 : r24 = gT z_t 24 ((18 + (1 : Int32)).toNatClampNeg) := q_193
          clear q_193
          have := congrArg Int32.toInt h_194
          refine ok_jn ?_
          refine ok_jn ?_
          refine ok_ite (fun c_195 => ?_) (fun c_195 => ?_)
          · skip
            have r_196 := n_rng r22
            have r_197 := n_rng r24
            have c_195i : r22.toInt < r24.toInt := bI_lt rfl rfl c_195
            exact ok_some (show ((((0 : Int32) ||| 2) ||| 0) ||| 0).toInt ≤ 0 → ((gT z_t 24 ((18 + (0 : Int32)).toNatClampNeg)).toInt < (gT z_t 24 ((18 + (2 : Int32)).toNatClampNeg)).toInt ∨ (gT z_t 24 ((18 + (4 : Int32)).toNatClampNeg)).toInt < (gT z_t 24 ((18 + (5 : Int32)).toNatClampNeg)).toInt) ∧ ((gT z_t 24 ((18 + (1 : Int32)).toNatClampNeg)).toInt < (gT z_t 24 ((18 + (3 : Int32)).toNatClampNeg)).toInt ∨ (gT z_t 24 ((18 + (5 : Int32)).toNatClampNeg)).toInt < (gT z_t 24 ((18 + (4 : Int32)).toNatClampNeg)).toInt) ∧ ((gT z_t 24 ((18 + (2 : Int32)).toNatClampNeg)).toInt < (gT z_t 24 ((18 + (0 : Int32)).toNatClampNeg)).toInt ∨ (gT z_t 24 ((18 + (6 : Int32)).toNatClampNeg)).toInt < (gT z_t 24 ((18 + (7 : Int32)).toNatClampNeg)).toInt) ∧ ((gT z_t 24 ((18 + (3 : Int32)).toNatClampNeg)).toInt < (gT z_t 24 ((18 + (1 : Int32)).toNatClampNeg)).toInt ∨ (gT z_t 24 ((18 + (7 : Int32)).toNatClampNeg)).toInt < (gT z_t 24 ((18 + (6 : Int32)).toNatClampNeg)).toInt) by first | (intro q; exact absurd q (by decide)) | (intro _; omega))
          · skip
            have r_198 := n_rng r22
            have r_199 := n_rng r24
            have c_195i : r22.toInt ≥ r24.toInt := bI_nlt rfl rfl c_195
            have e_201 : (7 : Int32).toInt = 7 := (show (7 : Int32).toInt = 7 by decide)
            refine ok_bd (t_fX9_gameOf (by first | omega | assumption | decide | (show 0 ≤ (7 : Int32).toInt ∧ (7 : Int32).toInt ≤ 7; first | omega | assumption))) (fun r32 q_200 => ?_)
            have h_202 : r32 = gT z_t 24 ((18 + (7 : Int32)).toNatClampNeg) := q_200
            clear q_200
            have := congrArg Int32.toInt h_202
            have e_204 : (6 : Int32).toInt = 6 := (show (6 : Int32).toInt = 6 by decide)
            refine ok_bd (t_fX9_gameOf (by first | omega | assumption | decide | (show 0 ≤ (6 : Int32).toInt ∧ (6 : Int32).toInt ≤ 7; first | omega | assumption))) (fun r34 q_203 => ?_)
            have h_205 : r34 = gT z_t 24 ((18 + (6 : Int32)).toNatClampNeg) := q_203
            clear q_203
            have := congrArg Int32.toInt h_205
            refine ok_ite (fun c_206 => ?_) (fun c_206 => ?_)
            · skip
              have r_207 := n_rng r32
              have r_208 := n_rng r34
              have c_206i : r32.toInt < r34.toInt := bI_lt rfl rfl c_206
              exact ok_some (show ((((0 : Int32) ||| 2) ||| 0) ||| 0).toInt ≤ 0 → ((gT z_t 24 ((18 + (0 : Int32)).toNatClampNeg)).toInt < (gT z_t 24 ((18 + (2 : Int32)).toNatClampNeg)).toInt ∨ (gT z_t 24 ((18 + (4 : Int32)).toNatClampNeg)).toInt < (gT z_t 24 ((18 + (5 : Int32)).toNatClampNeg)).toInt) ∧ ((gT z_t 24 ((18 + (1 : Int32)).toNatClampNeg)).toInt < (gT z_t 24 ((18 + (3 : Int32)).toNatClampNeg)).toInt ∨ (gT z_t 24 ((18 + (5 : Int32)).toNatClampNeg)).toInt < (gT z_t 24 ((18 + (4 : Int32)).toNatClampNeg)).toInt) ∧ ((gT z_t 24 ((18 + (2 : Int32)).toNatClampNeg)).toInt < (gT z_t 24 ((18 + (0 : Int32)).toNatClampNeg)).toInt ∨ (gT z_t 24 ((18 + (6 : Int32)).toNatClampNeg)).toInt < (gT z_t 24 ((18 + (7 : Int32)).toNatClampNeg)).toInt) ∧ ((gT z_t 24 ((18 + (3 : Int32)).toNatClampNeg)).toInt < (gT z_t 24 ((18 + (1 : Int32)).toNatClampNeg)).toInt ∨ (gT z_t 24 ((18 + (7 : Int32)).toNatClampNeg)).toInt < (gT z_t 24 ((18 + (6 : Int32)).toNatClampNeg)).toInt) by first | (intro q; exact absurd q (by decide)) | (intro _; omega))
            · skip
              have r_209 := n_rng r32
              have r_210 := n_rng r34
              have c_206i : r32.toInt ≥ r34.toInt := bI_nlt rfl rfl c_206
              exact ok_some (show ((((0 : Int32) ||| 2) ||| 0) ||| 8).toInt ≤ 0 → ((gT z_t 24 ((18 + (0 : Int32)).toNatClampNeg)).toInt < (gT z_t 24 ((18 + (2 : Int32)).toNatClampNeg)).toInt ∨ (gT z_t 24 ((18 + (4 : Int32)).toNatClampNeg)).toInt < (gT z_t 24 ((18 + (5 : Int32)).toNatClampNeg)).toInt) ∧ ((gT z_t 24 ((18 + (1 : Int32)).toNatClampNeg)).toInt < (gT z_t 24 ((18 + (3 : Int32)).toNatClampNeg)).toInt ∨ (gT z_t 24 ((18 + (5 : Int32)).toNatClampNeg)).toInt < (gT z_t 24 ((18 + (4 : Int32)).toNatClampNeg)).toInt) ∧ ((gT z_t 24 ((18 + (2 : Int32)).toNatClampNeg)).toInt < (gT z_t 24 ((18 + (0 : Int32)).toNatClampNeg)).toInt ∨ (gT z_t 24 ((18 + (6 : Int32)).toNatClampNeg)).toInt < (gT z_t 24 ((18 + (7 : Int32)).toNatClampNeg)).toInt) ∧ ((gT z_t 24 ((18 + (3 : Int32)).toNatClampNeg)).toInt < (gT z_t 24 ((18 + (1 : Int32)).toNatClampNeg)).toInt ∨ (gT z_t 24 ((18 + (7 : Int32)).toNatClampNeg)).toInt < (gT z_t 24 ((18 + (6 : Int32)).toNatClampNeg)).toInt) by first | (intro q; exact absurd q (by decide)) | (intro _; omega))
        · skip
          have r_211 := n_rng r15
          have r_212 := n_rng r17
          have c_188i : r15.toInt ≥ r17.toInt := bI_nlt rfl rfl c_188
          have e_214 : (6 : Int32).toInt = 6 := (show (6 : Int32).toInt = 6 by decide)
          refine ok_bd (t_fX9_gameOf (by first | omega | assumption | decide | (show 0 ≤ (6 : Int32).toInt ∧ (6 : Int32).toInt ≤ 7; first | omega | assumption))) (fun r40 q_213 => ?_)
          have h_215 : r40 = gT z_t 24 ((18 + (6 : Int32)).toNatClampNeg) := q_213
          clear q_213
          have := congrArg Int32.toInt h_215
          have e_217 : (7 : Int32).toInt = 7 := (show (7 : Int32).toInt = 7 by decide)
          refine ok_bd (t_fX9_gameOf (by first | omega | assumption | decide | (show 0 ≤ (7 : Int32).toInt ∧ (7 : Int32).toInt ≤ 7; first | omega | assumption))) (fun r42 q_216 => ?_)
          have h_218 : r42 = gT z_t 24 ((18 + (7 : Int32)).toNatClampNeg) := q_216
          clear q_216
          have := congrArg Int32.toInt h_218
          refine ok_ite (fun c_219 => ?_) (fun c_219 => ?_)
          · skip
            have r_220 := n_rng r40
            have r_221 := n_rng r42
            have c_219i : r40.toInt < r42.toInt := bI_lt rfl rfl c_219
            refine ok_bd (t_fX9_gameOf (by first | omega | assumption | decide | (show 0 ≤ (3 : Int32).toInt ∧ (3 : Int32).toInt ≤ 7; first | omega | assumption))) (fun r22 q_222 => ?_)
            have h_223 : r22 = gT z_t 24 ((18 + (3 : Int32)).toNatClampNeg) := q_222
            clear q_222
            have := congrArg Int32.toInt h_223
            refine ok_bd (t_fX9_gameOf (by first | omega | assumption | decide | (show 0 ≤ (1 : Int32).toInt ∧ (1 : Int32).toInt ≤ 7; first | omega | assumption))) (fun r24 q_224 => ?_)
            have h_225 : r24 = gT z_t 24 ((18 + (1 : Int32)).toNatClampNeg) := q_224
            clear q_224
            have := congrArg Int32.toInt h_225
            refine ok_jn ?_
            refine ok_jn ?_
            refine ok_ite (fun c_226 => ?_) (fun c_226 => ?_)
            · skip
              have r_227 := n_rng r22
              have r_228 := n_rng r24
              have c_226i : r22.toInt < r24.toInt := bI_lt rfl rfl c_226
              exact ok_some (show ((((0 : Int32) ||| 2) ||| 0) ||| 0).toInt ≤ 0 → ((gT z_t 24 ((18 + (0 : Int32)).toNatClampNeg)).toInt < (gT z_t 24 ((18 + (2 : Int32)).toNatClampNeg)).toInt ∨ (gT z_t 24 ((18 + (4 : Int32)).toNatClampNeg)).toInt < (gT z_t 24 ((18 + (5 : Int32)).toNatClampNeg)).toInt) ∧ ((gT z_t 24 ((18 + (1 : Int32)).toNatClampNeg)).toInt < (gT z_t 24 ((18 + (3 : Int32)).toNatClampNeg)).toInt ∨ (gT z_t 24 ((18 + (5 : Int32)).toNatClampNeg)).toInt < (gT z_t 24 ((18 + (4 : Int32)).toNatClampNeg)).toInt) ∧ ((gT z_t 24 ((18 + (2 : Int32)).toNatClampNeg)).toInt < (gT z_t 24 ((18 + (0 : Int32)).toNatClampNeg)).toInt ∨ (gT z_t 24 ((18 + (6 : Int32)).toNatClampNeg)).toInt < (gT z_t 24 ((18 + (7 : Int32)).toNatClampNeg)).toInt) ∧ ((gT z_t 24 ((18 + (3 : Int32)).toNatClampNeg)).toInt < (gT z_t 24 ((18 + (1 : Int32)).toNatClampNeg)).toInt ∨ (gT z_t 24 ((18 + (7 : Int32)).toNatClampNeg)).toInt < (gT z_t 24 ((18 + (6 : Int32)).toNatClampNeg)).toInt) by first | (intro q; exact absurd q (by decide)) | (intro _; omega))
            · skip
              have r_229 := n_rng r22
              have r_230 := n_rng r24
              have c_226i : r22.toInt ≥ r24.toInt := bI_nlt rfl rfl c_226
              refine ok_bd (t_fX9_gameOf (by first | omega | assumption | decide | (show 0 ≤ (7 : Int32).toInt ∧ (7 : Int32).toInt ≤ 7; first | omega | assumption))) (fun r32 q_231 => ?_)
              have h_232 : r32 = gT z_t 24 ((18 + (7 : Int32)).toNatClampNeg) := q_231
              clear q_231
              have := congrArg Int32.toInt h_232
              refine ok_bd (t_fX9_gameOf (by first | omega | assumption | decide | (show 0 ≤ (6 : Int32).toInt ∧ (6 : Int32).toInt ≤ 7; first | omega | assumption))) (fun r34 q_233 => ?_)
              have h_234 : r34 = gT z_t 24 ((18 + (6 : Int32)).toNatClampNeg) := q_233
              clear q_233
              have := congrArg Int32.toInt h_234
              refine ok_ite (fun c_235 => ?_) (fun c_235 => ?_)
              · skip
                have r_236 := n_rng r32
                have r_237 := n_rng r34
                have c_235i : r32.toInt < r34.toInt := bI_lt rfl rfl c_235
                exact ok_some (show ((((0 : Int32) ||| 2) ||| 0) ||| 0).toInt ≤ 0 → ((gT z_t 24 ((18 + (0 : Int32)).toNatClampNeg)).toInt < (gT z_t 24 ((18 + (2 : Int32)).toNatClampNeg)).toInt ∨ (gT z_t 24 ((18 + (4 : Int32)).toNatClampNeg)).toInt < (gT z_t 24 ((18 + (5 : Int32)).toNatClampNeg)).toInt) ∧ ((gT z_t 24 ((18 + (1 : Int32)).toNatClampNeg)).toInt < (gT z_t 24 ((18 + (3 : Int32)).toNatClampNeg)).toInt ∨ (gT z_t 24 ((18 + (5 : Int32)).toNatClampNeg)).toInt < (gT z_t 24 ((18 + (4 : Int32)).toNatClampNeg)).toInt) ∧ ((gT z_t 24 ((18 + (2 : Int32)).toNatClampNeg)).toInt < (gT z_t 24 ((18 + (0 : Int32)).toNatClampNeg)).toInt ∨ (gT z_t 24 ((18 + (6 : Int32)).toNatClampNeg)).toInt < (gT z_t 24 ((18 + (7 : Int32)).toNatClampNeg)).toInt) ∧ ((gT z_t 24 ((18 + (3 : Int32)).toNatClampNeg)).toInt < (gT z_t 24 ((18 + (1 : Int32)).toNatClampNeg)).toInt ∨ (gT z_t 24 ((18 + (7 : Int32)).toNatClampNeg)).toInt < (gT z_t 24 ((18 + (6 : Int32)).toNatClampNeg)).toInt) by first | (intro q; exact absurd q (by decide)) | (intro _; omega))
              · skip
                have r_238 := n_rng r32
                have r_239 := n_rng r34
                have c_235i : r32.toInt ≥ r34.toInt := bI_nlt rfl rfl c_235
                exact ok_some (show ((((0 : Int32) ||| 2) ||| 0) ||| 8).toInt ≤ 0 → ((gT z_t 24 ((18 + (0 : Int32)).toNatClampNeg)).toInt < (gT z_t 24 ((18 + (2 : Int32)).toNatClampNeg)).toInt ∨ (gT z_t 24 ((18 + (4 : Int32)).toNatClampNeg)).toInt < (gT z_t 24 ((18 + (5 : Int32)).toNatClampNeg)).toInt) ∧ ((gT z_t 24 ((18 + (1 : Int32)).toNatClampNeg)).toInt < (gT z_t 24 ((18 + (3 : Int32)).toNatClampNeg)).toInt ∨ (gT z_t 24 ((18 + (5 : Int32)).toNatClampNeg)).toInt < (gT z_t 24 ((18 + (4 : Int32)).toNatClampNeg)).toInt) ∧ ((gT z_t 24 ((18 + (2 : Int32)).toNatClampNeg)).toInt < (gT z_t 24 ((18 + (0 : Int32)).toNatClampNeg)).toInt ∨ (gT z_t 24 ((18 + (6 : Int32)).toNatClampNeg)).toInt < (gT z_t 24 ((18 + (7 : Int32)).toNatClampNeg)).toInt) ∧ ((gT z_t 24 ((18 + (3 : Int32)).toNatClampNeg)).toInt < (gT z_t 24 ((18 + (1 : Int32)).toNatClampNeg)).toInt ∨ (gT z_t 24 ((18 + (7 : Int32)).toNatClampNeg)).toInt < (gT z_t 24 ((18 + (6 : Int32)).toNatClampNeg)).toInt) by first | (intro q; exact absurd q (by decide)) | (intro _; omega))
          · skip
            have r_240 := n_rng r40
            have r_241 := n_rng r42
            have c_219i : r40.toInt ≥ r42.toInt := bI_nlt rfl rfl c_219
            refine ok_bd (t_fX9_gameOf (by first | omega | assumption | decide | (show 0 ≤ (3 : Int32).toInt ∧ (3 : Int32).toInt ≤ 7; first | omega | assumption))) (fun r22 q_242 => ?_)
            have h_243 : r22 = gT z_t 24 ((18 + (3 : Int32)).toNatClampNeg) := q_242
            clear q_242
            have := congrArg Int32.toInt h_243
            refine ok_bd (t_fX9_gameOf (by first | omega | assumption | decide | (show 0 ≤ (1 : Int32).toInt ∧ (1 : Int32).toInt ≤ 7; first | omega | assumption))) (fun r24 q_244 => ?_)
            have h_245 : r24 = gT z_t 24 ((18 + (1 : Int32)).toNatClampNeg) := q_244
            clear q_244
            have := congrArg Int32.toInt h_245
            refine ok_jn ?_
            refine ok_jn ?_
            refine ok_ite (fun c_246 => ?_) (fun c_246 => ?_)
            · skip
              have r_247 := n_rng r22
              have r_248 := n_rng r24
              have c_246i : r22.toInt < r24.toInt := bI_lt rfl rfl c_246
              exact ok_some (show ((((0 : Int32) ||| 2) ||| 4) ||| 0).toInt ≤ 0 → ((gT z_t 24 ((18 + (0 : Int32)).toNatClampNeg)).toInt < (gT z_t 24 ((18 + (2 : Int32)).toNatClampNeg)).toInt ∨ (gT z_t 24 ((18 + (4 : Int32)).toNatClampNeg)).toInt < (gT z_t 24 ((18 + (5 : Int32)).toNatClampNeg)).toInt) ∧ ((gT z_t 24 ((18 + (1 : Int32)).toNatClampNeg)).toInt < (gT z_t 24 ((18 + (3 : Int32)).toNatClampNeg)).toInt ∨ (gT z_t 24 ((18 + (5 : Int32)).toNatClampNeg)).toInt < (gT z_t 24 ((18 + (4 : Int32)).toNatClampNeg)).toInt) ∧ ((gT z_t 24 ((18 + (2 : Int32)).toNatClampNeg)).toInt < (gT z_t 24 ((18 + (0 : Int32)).toNatClampNeg)).toInt ∨ (gT z_t 24 ((18 + (6 : Int32)).toNatClampNeg)).toInt < (gT z_t 24 ((18 + (7 : Int32)).toNatClampNeg)).toInt) ∧ ((gT z_t 24 ((18 + (3 : Int32)).toNatClampNeg)).toInt < (gT z_t 24 ((18 + (1 : Int32)).toNatClampNeg)).toInt ∨ (gT z_t 24 ((18 + (7 : Int32)).toNatClampNeg)).toInt < (gT z_t 24 ((18 + (6 : Int32)).toNatClampNeg)).toInt) by first | (intro q; exact absurd q (by decide)) | (intro _; omega))
            · skip
              have r_249 := n_rng r22
              have r_250 := n_rng r24
              have c_246i : r22.toInt ≥ r24.toInt := bI_nlt rfl rfl c_246
              refine ok_bd (t_fX9_gameOf (by first | omega | assumption | decide | (show 0 ≤ (7 : Int32).toInt ∧ (7 : Int32).toInt ≤ 7; first | omega | assumption))) (fun r32 q_251 => ?_)
              have h_252 : r32 = gT z_t 24 ((18 + (7 : Int32)).toNatClampNeg) := q_251
              clear q_251
              have := congrArg Int32.toInt h_252
              refine ok_bd (t_fX9_gameOf (by first | omega | assumption | decide | (show 0 ≤ (6 : Int32).toInt ∧ (6 : Int32).toInt ≤ 7; first | omega | assumption))) (fun r34 q_253 => ?_)
              have h_254 : r34 = gT z_t 24 ((18 + (6 : Int32)).toNatClampNeg) := q_253
              clear q_253
              have := congrArg Int32.toInt h_254
              refine ok_ite (fun c_255 => ?_) (fun c_255 => ?_)
              · skip
                have r_256 := n_rng r32
                have r_257 := n_rng r34
                have c_255i : r32.toInt < r34.toInt := bI_lt rfl rfl c_255
                exact ok_some (show ((((0 : Int32) ||| 2) ||| 4) ||| 0).toInt ≤ 0 → ((gT z_t 24 ((18 + (0 : Int32)).toNatClampNeg)).toInt < (gT z_t 24 ((18 + (2 : Int32)).toNatClampNeg)).toInt ∨ (gT z_t 24 ((18 + (4 : Int32)).toNatClampNeg)).toInt < (gT z_t 24 ((18 + (5 : Int32)).toNatClampNeg)).toInt) ∧ ((gT z_t 24 ((18 + (1 : Int32)).toNatClampNeg)).toInt < (gT z_t 24 ((18 + (3 : Int32)).toNatClampNeg)).toInt ∨ (gT z_t 24 ((18 + (5 : Int32)).toNatClampNeg)).toInt < (gT z_t 24 ((18 + (4 : Int32)).toNatClampNeg)).toInt) ∧ ((gT z_t 24 ((18 + (2 : Int32)).toNatClampNeg)).toInt < (gT z_t 24 ((18 + (0 : Int32)).toNatClampNeg)).toInt ∨ (gT z_t 24 ((18 + (6 : Int32)).toNatClampNeg)).toInt < (gT z_t 24 ((18 + (7 : Int32)).toNatClampNeg)).toInt) ∧ ((gT z_t 24 ((18 + (3 : Int32)).toNatClampNeg)).toInt < (gT z_t 24 ((18 + (1 : Int32)).toNatClampNeg)).toInt ∨ (gT z_t 24 ((18 + (7 : Int32)).toNatClampNeg)).toInt < (gT z_t 24 ((18 + (6 : Int32)).toNatClampNeg)).toInt) by first | (intro q; exact absurd q (by decide)) | (intro _; omega))
              · skip
                have r_258 := n_rng r32
                have r_259 := n_rng r34
                have c_255i : r32.toInt ≥ r34.toInt := bI_nlt rfl rfl c_255
                exact ok_some (show ((((0 : Int32) ||| 2) ||| 4) ||| 8).toInt ≤ 0 → ((gT z_t 24 ((18 + (0 : Int32)).toNatClampNeg)).toInt < (gT z_t 24 ((18 + (2 : Int32)).toNatClampNeg)).toInt ∨ (gT z_t 24 ((18 + (4 : Int32)).toNatClampNeg)).toInt < (gT z_t 24 ((18 + (5 : Int32)).toNatClampNeg)).toInt) ∧ ((gT z_t 24 ((18 + (1 : Int32)).toNatClampNeg)).toInt < (gT z_t 24 ((18 + (3 : Int32)).toNatClampNeg)).toInt ∨ (gT z_t 24 ((18 + (5 : Int32)).toNatClampNeg)).toInt < (gT z_t 24 ((18 + (4 : Int32)).toNatClampNeg)).toInt) ∧ ((gT z_t 24 ((18 + (2 : Int32)).toNatClampNeg)).toInt < (gT z_t 24 ((18 + (0 : Int32)).toNatClampNeg)).toInt ∨ (gT z_t 24 ((18 + (6 : Int32)).toNatClampNeg)).toInt < (gT z_t 24 ((18 + (7 : Int32)).toNatClampNeg)).toInt) ∧ ((gT z_t 24 ((18 + (3 : Int32)).toNatClampNeg)).toInt < (gT z_t 24 ((18 + (1 : Int32)).toNatClampNeg)).toInt ∨ (gT z_t 24 ((18 + (7 : Int32)).toNatClampNeg)).toInt < (gT z_t 24 ((18 + (6 : Int32)).toNatClampNeg)).toInt) by first | (intro q; exact absurd q (by decide)) | (intro _; omega))
  · skip
    have r_260 := n_rng r2
    have r_261 := n_rng r4
    have c_7i : r2.toInt ≥ r4.toInt := bI_nlt rfl rfl c_7
    have e_263 : (4 : Int32).toInt = 4 := (show (4 : Int32).toInt = 4 by decide)
    refine ok_bd (t_fX9_gameOf (by first | omega | assumption | decide | (show 0 ≤ (4 : Int32).toInt ∧ (4 : Int32).toInt ≤ 7; first | omega | assumption))) (fun r55 q_262 => ?_)
    have h_264 : r55 = gT z_t 24 ((18 + (4 : Int32)).toNatClampNeg) := q_262
    clear q_262
    have := congrArg Int32.toInt h_264
    have e_266 : (5 : Int32).toInt = 5 := (show (5 : Int32).toInt = 5 by decide)
    refine ok_bd (t_fX9_gameOf (by first | omega | assumption | decide | (show 0 ≤ (5 : Int32).toInt ∧ (5 : Int32).toInt ≤ 7; first | omega | assumption))) (fun r57 q_265 => ?_)
    have h_267 : r57 = gT z_t 24 ((18 + (5 : Int32)).toNatClampNeg) := q_265
    clear q_265
    have := congrArg Int32.toInt h_267
    refine ok_ite (fun c_268 => ?_) (fun c_268 => ?_)
    · skip
      have r_269 := n_rng r55
      have r_270 := n_rng r57
      have c_268i : r55.toInt < r57.toInt := bI_lt rfl rfl c_268
      have e_272 : (1 : Int32).toInt = 1 := (show (1 : Int32).toInt = 1 by decide)
      refine ok_bd (t_fX9_gameOf (by first | omega | assumption | decide | (show 0 ≤ (1 : Int32).toInt ∧ (1 : Int32).toInt ≤ 7; first | omega | assumption))) (fun r8 q_271 => ?_)
      have h_273 : r8 = gT z_t 24 ((18 + (1 : Int32)).toNatClampNeg) := q_271
      clear q_271
      have := congrArg Int32.toInt h_273
      have e_275 : (3 : Int32).toInt = 3 := (show (3 : Int32).toInt = 3 by decide)
      refine ok_bd (t_fX9_gameOf (by first | omega | assumption | decide | (show 0 ≤ (3 : Int32).toInt ∧ (3 : Int32).toInt ≤ 7; first | omega | assumption))) (fun r10 q_274 => ?_)
      have h_276 : r10 = gT z_t 24 ((18 + (3 : Int32)).toNatClampNeg) := q_274
      clear q_274
      have := congrArg Int32.toInt h_276
      refine ok_jn ?_
      refine ok_jn ?_
      refine ok_ite (fun c_277 => ?_) (fun c_277 => ?_)
      · skip
        have r_278 := n_rng r8
        have r_279 := n_rng r10
        have c_277i : r8.toInt < r10.toInt := bI_lt rfl rfl c_277
        refine ok_bd (t_fX9_gameOf (by first | omega | assumption | decide | (show 0 ≤ (2 : Int32).toInt ∧ (2 : Int32).toInt ≤ 7; first | omega | assumption))) (fun r15 q_280 => ?_)
        have h_281 : r15 = gT z_t 24 ((18 + (2 : Int32)).toNatClampNeg) := q_280
        clear q_280
        have := congrArg Int32.toInt h_281
        refine ok_bd (t_fX9_gameOf (by first | omega | assumption | decide | (show 0 ≤ (0 : Int32).toInt ∧ (0 : Int32).toInt ≤ 7; first | omega | assumption))) (fun r17 q_282 => ?_)
        have h_283 : r17 = gT z_t 24 ((18 + (0 : Int32)).toNatClampNeg) := q_282
        clear q_282
        have := congrArg Int32.toInt h_283
        refine ok_jn ?_
        refine ok_jn ?_
        refine ok_ite (fun c_284 => ?_) (fun c_284 => ?_)
        · skip
          have r_285 := n_rng r15
          have r_286 := n_rng r17
          have c_284i : r15.toInt < r17.toInt := bI_lt rfl rfl c_284
          refine ok_bd (t_fX9_gameOf (by first | omega | assumption | decide | (show 0 ≤ (3 : Int32).toInt ∧ (3 : Int32).toInt ≤ 7; first | omega | assumption))) (fun r22 q_287 => ?_)
          have h_288 : r22 = gT z_t 24 ((18 + (3 : Int32)).toNatClampNeg) := q_287
          clear q_287
          have := congrArg Int32.toInt h_288
          refine ok_bd (t_fX9_gameOf (by first | omega | assumption | decide | (show 0 ≤ (1 : Int32).toInt ∧ (1 : Int32).toInt ≤ 7; first | omega | assumption))) (fun r24 q_289 => ?_)
          have h_290 : r24 = gT z_t 24 ((18 + (1 : Int32)).toNatClampNeg) := q_289
          clear q_289
          have := congrArg Int32.toInt h_290
          refine ok_jn ?_
          refine ok_jn ?_
          refine ok_ite (fun c_291 => ?_) (fun c_291 => ?_)
          · skip
            have r_292 := n_rng r22
            have r_293 := n_rng r24
            have c_291i : r22.toInt < r24.toInt := bI_lt rfl rfl c_291
            exact ok_some (show ((((0 : Int32) ||| 0) ||| 0) ||| 0).toInt ≤ 0 → ((gT z_t 24 ((18 + (0 : Int32)).toNatClampNeg)).toInt < (gT z_t 24 ((18 + (2 : Int32)).toNatClampNeg)).toInt ∨ (gT z_t 24 ((18 + (4 : Int32)).toNatClampNeg)).toInt < (gT z_t 24 ((18 + (5 : Int32)).toNatClampNeg)).toInt) ∧ ((gT z_t 24 ((18 + (1 : Int32)).toNatClampNeg)).toInt < (gT z_t 24 ((18 + (3 : Int32)).toNatClampNeg)).toInt ∨ (gT z_t 24 ((18 + (5 : Int32)).toNatClampNeg)).toInt < (gT z_t 24 ((18 + (4 : Int32)).toNatClampNeg)).toInt) ∧ ((gT z_t 24 ((18 + (2 : Int32)).toNatClampNeg)).toInt < (gT z_t 24 ((18 + (0 : Int32)).toNatClampNeg)).toInt ∨ (gT z_t 24 ((18 + (6 : Int32)).toNatClampNeg)).toInt < (gT z_t 24 ((18 + (7 : Int32)).toNatClampNeg)).toInt) ∧ ((gT z_t 24 ((18 + (3 : Int32)).toNatClampNeg)).toInt < (gT z_t 24 ((18 + (1 : Int32)).toNatClampNeg)).toInt ∨ (gT z_t 24 ((18 + (7 : Int32)).toNatClampNeg)).toInt < (gT z_t 24 ((18 + (6 : Int32)).toNatClampNeg)).toInt) by first | (intro q; exact absurd q (by decide)) | (intro _; omega))
          · skip
            have r_294 := n_rng r22
            have r_295 := n_rng r24
            have c_291i : r22.toInt ≥ r24.toInt := bI_nlt rfl rfl c_291
            have e_297 : (7 : Int32).toInt = 7 := (show (7 : Int32).toInt = 7 by decide)
            refine ok_bd (t_fX9_gameOf (by first | omega | assumption | decide | (show 0 ≤ (7 : Int32).toInt ∧ (7 : Int32).toInt ≤ 7; first | omega | assumption))) (fun r32 q_296 => ?_)
            have h_298 : r32 = gT z_t 24 ((18 + (7 : Int32)).toNatClampNeg) := q_296
            clear q_296
            have := congrArg Int32.toInt h_298
            have e_300 : (6 : Int32).toInt = 6 := (show (6 : Int32).toInt = 6 by decide)
            refine ok_bd (t_fX9_gameOf (by first | omega | assumption | decide | (show 0 ≤ (6 : Int32).toInt ∧ (6 : Int32).toInt ≤ 7; first | omega | assumption))) (fun r34 q_299 => ?_)
            have h_301 : r34 = gT z_t 24 ((18 + (6 : Int32)).toNatClampNeg) := q_299
            clear q_299
            have := congrArg Int32.toInt h_301
            refine ok_ite (fun c_302 => ?_) (fun c_302 => ?_)
            · skip
              have r_303 := n_rng r32
              have r_304 := n_rng r34
              have c_302i : r32.toInt < r34.toInt := bI_lt rfl rfl c_302
              exact ok_some (show ((((0 : Int32) ||| 0) ||| 0) ||| 0).toInt ≤ 0 → ((gT z_t 24 ((18 + (0 : Int32)).toNatClampNeg)).toInt < (gT z_t 24 ((18 + (2 : Int32)).toNatClampNeg)).toInt ∨ (gT z_t 24 ((18 + (4 : Int32)).toNatClampNeg)).toInt < (gT z_t 24 ((18 + (5 : Int32)).toNatClampNeg)).toInt) ∧ ((gT z_t 24 ((18 + (1 : Int32)).toNatClampNeg)).toInt < (gT z_t 24 ((18 + (3 : Int32)).toNatClampNeg)).toInt ∨ (gT z_t 24 ((18 + (5 : Int32)).toNatClampNeg)).toInt < (gT z_t 24 ((18 + (4 : Int32)).toNatClampNeg)).toInt) ∧ ((gT z_t 24 ((18 + (2 : Int32)).toNatClampNeg)).toInt < (gT z_t 24 ((18 + (0 : Int32)).toNatClampNeg)).toInt ∨ (gT z_t 24 ((18 + (6 : Int32)).toNatClampNeg)).toInt < (gT z_t 24 ((18 + (7 : Int32)).toNatClampNeg)).toInt) ∧ ((gT z_t 24 ((18 + (3 : Int32)).toNatClampNeg)).toInt < (gT z_t 24 ((18 + (1 : Int32)).toNatClampNeg)).toInt ∨ (gT z_t 24 ((18 + (7 : Int32)).toNatClampNeg)).toInt < (gT z_t 24 ((18 + (6 : Int32)).toNatClampNeg)).toInt) by first | (intro q; exact absurd q (by decide)) | (intro _; omega))
            · skip
              have r_305 := n_rng r32
              have r_306 := n_rng r34
              have c_302i : r32.toInt ≥ r34.toInt := bI_nlt rfl rfl c_302
              exact ok_some (show ((((0 : Int32) ||| 0) ||| 0) ||| 8).toInt ≤ 0 → ((gT z_t 24 ((18 + (0 : Int32)).toNatClampNeg)).toInt < (gT z_t 24 ((18 + (2 : Int32)).toNatClampNeg)).toInt ∨ (gT z_t 24 ((18 + (4 : Int32)).toNatClampNeg)).toInt < (gT z_t 24 ((18 + (5 : Int32)).toNatClampNeg)).toInt) ∧ ((gT z_t 24 ((18 + (1 : Int32)).toNatClampNeg)).toInt < (gT z_t 24 ((18 + (3 : Int32)).toNatClampNeg)).toInt ∨ (gT z_t 24 ((18 + (5 : Int32)).toNatClampNeg)).toInt < (gT z_t 24 ((18 + (4 : Int32)).toNatClampNeg)).toInt) ∧ ((gT z_t 24 ((18 + (2 : Int32)).toNatClampNeg)).toInt < (gT z_t 24 ((18 + (0 : Int32)).toNatClampNeg)).toInt ∨ (gT z_t 24 ((18 + (6 : Int32)).toNatClampNeg)).toInt < (gT z_t 24 ((18 + (7 : Int32)).toNatClampNeg)).toInt) ∧ ((gT z_t 24 ((18 + (3 : Int32)).toNatClampNeg)).toInt < (gT z_t 24 ((18 + (1 : Int32)).toNatClampNeg)).toInt ∨ (gT z_t 24 ((18 + (7 : Int32)).toNatClampNeg)).toInt < (gT z_t 24 ((18 + (6 : Int32)).toNatClampNeg)).toInt) by first | (intro q; exact absurd q (by decide)) | (intro _; omega))
        · skip
          have r_307 := n_rng r15
          have r_308 := n_rng r17
          have c_284i : r15.toInt ≥ r17.toInt := bI_nlt rfl rfl c_284
          have e_310 : (6 : Int32).toInt = 6 := (show (6 : Int32).toInt = 6 by decide)
          refine ok_bd (t_fX9_gameOf (by first | omega | assumption | decide | (show 0 ≤ (6 : Int32).toInt ∧ (6 : Int32).toInt ≤ 7; first | omega | assumption))) (fun r40 q_309 => ?_)
          have h_311 : r40 = gT z_t 24 ((18 + (6 : Int32)).toNatClampNeg) := q_309
          clear q_309
          have := congrArg Int32.toInt h_311
          have e_313 : (7 : Int32).toInt = 7 := (show (7 : Int32).toInt = 7 by decide)
          refine ok_bd (t_fX9_gameOf (by first | omega | assumption | decide | (show 0 ≤ (7 : Int32).toInt ∧ (7 : Int32).toInt ≤ 7; first | omega | assumption))) (fun r42 q_312 => ?_)
          have h_314 : r42 = gT z_t 24 ((18 + (7 : Int32)).toNatClampNeg) := q_312
          clear q_312
          have := congrArg Int32.toInt h_314
          refine ok_ite (fun c_315 => ?_) (fun c_315 => ?_)
          · skip
            have r_316 := n_rng r40
            have r_317 := n_rng r42
            have c_315i : r40.toInt < r42.toInt := bI_lt rfl rfl c_315
            refine ok_bd (t_fX9_gameOf (by first | omega | assumption | decide | (show 0 ≤ (3 : Int32).toInt ∧ (3 : Int32).toInt ≤ 7; first | omega | assumption))) (fun r22 q_318 => ?_)
            have h_319 : r22 = gT z_t 24 ((18 + (3 : Int32)).toNatClampNeg) := q_318
            clear q_318
            have := congrArg Int32.toInt h_319
            refine ok_bd (t_fX9_gameOf (by first | omega | assumption | decide | (show 0 ≤ (1 : Int32).toInt ∧ (1 : Int32).toInt ≤ 7; first | omega | assumption))) (fun r24 q_320 => ?_)
            have h_321 : r24 = gT z_t 24 ((18 + (1 : Int32)).toNatClampNeg) := q_320
            clear q_320
            have := congrArg Int32.toInt h_321
            refine ok_jn ?_
            refine ok_jn ?_
            refine ok_ite (fun c_322 => ?_) (fun c_322 => ?_)
            · skip
              have r_323 := n_rng r22
              have r_324 := n_rng r24
              have c_322i : r22.toInt < r24.toInt := bI_lt rfl rfl c_322
              exact ok_some (show ((((0 : Int32) ||| 0) ||| 0) ||| 0).toInt ≤ 0 → ((gT z_t 24 ((18 + (0 : Int32)).toNatClampNeg)).toInt < (gT z_t 24 ((18 + (2 : Int32)).toNatClampNeg)).toInt ∨ (gT z_t 24 ((18 + (4 : Int32)).toNatClampNeg)).toInt < (gT z_t 24 ((18 + (5 : Int32)).toNatClampNeg)).toInt) ∧ ((gT z_t 24 ((18 + (1 : Int32)).toNatClampNeg)).toInt < (gT z_t 24 ((18 + (3 : Int32)).toNatClampNeg)).toInt ∨ (gT z_t 24 ((18 + (5 : Int32)).toNatClampNeg)).toInt < (gT z_t 24 ((18 + (4 : Int32)).toNatClampNeg)).toInt) ∧ ((gT z_t 24 ((18 + (2 : Int32)).toNatClampNeg)).toInt < (gT z_t 24 ((18 + (0 : Int32)).toNatClampNeg)).toInt ∨ (gT z_t 24 ((18 + (6 : Int32)).toNatClampNeg)).toInt < (gT z_t 24 ((18 + (7 : Int32)).toNatClampNeg)).toInt) ∧ ((gT z_t 24 ((18 + (3 : Int32)).toNatClampNeg)).toInt < (gT z_t 24 ((18 + (1 : Int32)).toNatClampNeg)).toInt ∨ (gT z_t 24 ((18 + (7 : Int32)).toNatClampNeg)).toInt < (gT z_t 24 ((18 + (6 : Int32)).toNatClampNeg)).toInt) by first | (intro q; exact absurd q (by decide)) | (intro _; omega))
            · skip
              have r_325 := n_rng r22
              have r_326 := n_rng r24
              have c_322i : r22.toInt ≥ r24.toInt := bI_nlt rfl rfl c_322
              refine ok_bd (t_fX9_gameOf (by first | omega | assumption | decide | (show 0 ≤ (7 : Int32).toInt ∧ (7 : Int32).toInt ≤ 7; first | omega | assumption))) (fun r32 q_327 => ?_)
              have h_328 : r32 = gT z_t 24 ((18 + (7 : Int32)).toNatClampNeg) := q_327
              clear q_327
              have := congrArg Int32.toInt h_328
              refine ok_bd (t_fX9_gameOf (by first | omega | assumption | decide | (show 0 ≤ (6 : Int32).toInt ∧ (6 : Int32).toInt ≤ 7; first | omega | assumption))) (fun r34 q_329 => ?_)
              have h_330 : r34 = gT z_t 24 ((18 + (6 : Int32)).toNatClampNeg) := q_329
              clear q_329
              have := congrArg Int32.toInt h_330
              refine ok_ite (fun c_331 => ?_) (fun c_331 => ?_)
              · skip
                have r_332 := n_rng r32
                have r_333 := n_rng r34
                have c_331i : r32.toInt < r34.toInt := bI_lt rfl rfl c_331
                exact ok_some (show ((((0 : Int32) ||| 0) ||| 0) ||| 0).toInt ≤ 0 → ((gT z_t 24 ((18 + (0 : Int32)).toNatClampNeg)).toInt < (gT z_t 24 ((18 + (2 : Int32)).toNatClampNeg)).toInt ∨ (gT z_t 24 ((18 + (4 : Int32)).toNatClampNeg)).toInt < (gT z_t 24 ((18 + (5 : Int32)).toNatClampNeg)).toInt) ∧ ((gT z_t 24 ((18 + (1 : Int32)).toNatClampNeg)).toInt < (gT z_t 24 ((18 + (3 : Int32)).toNatClampNeg)).toInt ∨ (gT z_t 24 ((18 + (5 : Int32)).toNatClampNeg)).toInt < (gT z_t 24 ((18 + (4 : Int32)).toNatClampNeg)).toInt) ∧ ((gT z_t 24 ((18 + (2 : Int32)).toNatClampNeg)).toInt < (gT z_t 24 ((18 + (0 : Int32)).toNatClampNeg)).toInt ∨ (gT z_t 24 ((18 + (6 : Int32)).toNatClampNeg)).toInt < (gT z_t 24 ((18 + (7 : Int32)).toNatClampNeg)).toInt) ∧ ((gT z_t 24 ((18 + (3 : Int32)).toNatClampNeg)).toInt < (gT z_t 24 ((18 + (1 : Int32)).toNatClampNeg)).toInt ∨ (gT z_t 24 ((18 + (7 : Int32)).toNatClampNeg)).toInt < (gT z_t 24 ((18 + (6 : Int32)).toNatClampNeg)).toInt) by first | (intro q; exact absurd q (by decide)) | (intro _; omega))
              · skip
                have r_334 := n_rng r32
                have r_335 := n_rng r34
                have c_331i : r32.toInt ≥ r34.toInt := bI_nlt rfl rfl c_331
                exact ok_some (show ((((0 : Int32) ||| 0) ||| 0) ||| 8).toInt ≤ 0 → ((gT z_t 24 ((18 + (0 : Int32)).toNatClampNeg)).toInt < (gT z_t 24 ((18 + (2 : Int32)).toNatClampNeg)).toInt ∨ (gT z_t 24 ((18 + (4 : Int32)).toNatClampNeg)).toInt < (gT z_t 24 ((18 + (5 : Int32)).toNatClampNeg)).toInt) ∧ ((gT z_t 24 ((18 + (1 : Int32)).toNatClampNeg)).toInt < (gT z_t 24 ((18 + (3 : Int32)).toNatClampNeg)).toInt ∨ (gT z_t 24 ((18 + (5 : Int32)).toNatClampNeg)).toInt < (gT z_t 24 ((18 + (4 : Int32)).toNatClampNeg)).toInt) ∧ ((gT z_t 24 ((18 + (2 : Int32)).toNatClampNeg)).toInt < (gT z_t 24 ((18 + (0 : Int32)).toNatClampNeg)).toInt ∨ (gT z_t 24 ((18 + (6 : Int32)).toNatClampNeg)).toInt < (gT z_t 24 ((18 + (7 : Int32)).toNatClampNeg)).toInt) ∧ ((gT z_t 24 ((18 + (3 : Int32)).toNatClampNeg)).toInt < (gT z_t 24 ((18 + (1 : Int32)).toNatClampNeg)).toInt ∨ (gT z_t 24 ((18 + (7 : Int32)).toNatClampNeg)).toInt < (gT z_t 24 ((18 + (6 : Int32)).toNatClampNeg)).toInt) by first | (intro q; exact absurd q (by decide)) | (intro _; omega))
          · skip
            have r_336 := n_rng r40
            have r_337 := n_rng r42
            have c_315i : r40.toInt ≥ r42.toInt := bI_nlt rfl rfl c_315
            refine ok_bd (t_fX9_gameOf (by first | omega | assumption | decide | (show 0 ≤ (3 : Int32).toInt ∧ (3 : Int32).toInt ≤ 7; first | omega | assumption))) (fun r22 q_338 => ?_)
            have h_339 : r22 = gT z_t 24 ((18 + (3 : Int32)).toNatClampNeg) := q_338
            clear q_338
            have := congrArg Int32.toInt h_339
            refine ok_bd (t_fX9_gameOf (by first | omega | assumption | decide | (show 0 ≤ (1 : Int32).toInt ∧ (1 : Int32).toInt ≤ 7; first | omega | assumption))) (fun r24 q_340 => ?_)
            have h_341 : r24 = gT z_t 24 ((18 + (1 : Int32)).toNatClampNeg) := q_340
            clear q_340
            have := congrArg Int32.toInt h_341
            refine ok_jn ?_
            refine ok_jn ?_
            refine ok_ite (fun c_342 => ?_) (fun c_342 => ?_)
            · skip
              have r_343 := n_rng r22
              have r_344 := n_rng r24
              have c_342i : r22.toInt < r24.toInt := bI_lt rfl rfl c_342
              exact ok_some (show ((((0 : Int32) ||| 0) ||| 4) ||| 0).toInt ≤ 0 → ((gT z_t 24 ((18 + (0 : Int32)).toNatClampNeg)).toInt < (gT z_t 24 ((18 + (2 : Int32)).toNatClampNeg)).toInt ∨ (gT z_t 24 ((18 + (4 : Int32)).toNatClampNeg)).toInt < (gT z_t 24 ((18 + (5 : Int32)).toNatClampNeg)).toInt) ∧ ((gT z_t 24 ((18 + (1 : Int32)).toNatClampNeg)).toInt < (gT z_t 24 ((18 + (3 : Int32)).toNatClampNeg)).toInt ∨ (gT z_t 24 ((18 + (5 : Int32)).toNatClampNeg)).toInt < (gT z_t 24 ((18 + (4 : Int32)).toNatClampNeg)).toInt) ∧ ((gT z_t 24 ((18 + (2 : Int32)).toNatClampNeg)).toInt < (gT z_t 24 ((18 + (0 : Int32)).toNatClampNeg)).toInt ∨ (gT z_t 24 ((18 + (6 : Int32)).toNatClampNeg)).toInt < (gT z_t 24 ((18 + (7 : Int32)).toNatClampNeg)).toInt) ∧ ((gT z_t 24 ((18 + (3 : Int32)).toNatClampNeg)).toInt < (gT z_t 24 ((18 + (1 : Int32)).toNatClampNeg)).toInt ∨ (gT z_t 24 ((18 + (7 : Int32)).toNatClampNeg)).toInt < (gT z_t 24 ((18 + (6 : Int32)).toNatClampNeg)).toInt) by first | (intro q; exact absurd q (by decide)) | (intro _; omega))
            · skip
              have r_345 := n_rng r22
              have r_346 := n_rng r24
              have c_342i : r22.toInt ≥ r24.toInt := bI_nlt rfl rfl c_342
              refine ok_bd (t_fX9_gameOf (by first | omega | assumption | decide | (show 0 ≤ (7 : Int32).toInt ∧ (7 : Int32).toInt ≤ 7; first | omega | assumption))) (fun r32 q_347 => ?_)
              have h_348 : r32 = gT z_t 24 ((18 + (7 : Int32)).toNatClampNeg) := q_347
              clear q_347
              have := congrArg Int32.toInt h_348
              refine ok_bd (t_fX9_gameOf (by first | omega | assumption | decide | (show 0 ≤ (6 : Int32).toInt ∧ (6 : Int32).toInt ≤ 7; first | omega | assumption))) (fun r34 q_349 => ?_)
              have h_350 : r34 = gT z_t 24 ((18 + (6 : Int32)).toNatClampNeg) := q_349
              clear q_349
              have := congrArg Int32.toInt h_350
              refine ok_ite (fun c_351 => ?_) (fun c_351 => ?_)
              · skip
                have r_352 := n_rng r32
                have r_353 := n_rng r34
                have c_351i : r32.toInt < r34.toInt := bI_lt rfl rfl c_351
                exact ok_some (show ((((0 : Int32) ||| 0) ||| 4) ||| 0).toInt ≤ 0 → ((gT z_t 24 ((18 + (0 : Int32)).toNatClampNeg)).toInt < (gT z_t 24 ((18 + (2 : Int32)).toNatClampNeg)).toInt ∨ (gT z_t 24 ((18 + (4 : Int32)).toNatClampNeg)).toInt < (gT z_t 24 ((18 + (5 : Int32)).toNatClampNeg)).toInt) ∧ ((gT z_t 24 ((18 + (1 : Int32)).toNatClampNeg)).toInt < (gT z_t 24 ((18 + (3 : Int32)).toNatClampNeg)).toInt ∨ (gT z_t 24 ((18 + (5 : Int32)).toNatClampNeg)).toInt < (gT z_t 24 ((18 + (4 : Int32)).toNatClampNeg)).toInt) ∧ ((gT z_t 24 ((18 + (2 : Int32)).toNatClampNeg)).toInt < (gT z_t 24 ((18 + (0 : Int32)).toNatClampNeg)).toInt ∨ (gT z_t 24 ((18 + (6 : Int32)).toNatClampNeg)).toInt < (gT z_t 24 ((18 + (7 : Int32)).toNatClampNeg)).toInt) ∧ ((gT z_t 24 ((18 + (3 : Int32)).toNatClampNeg)).toInt < (gT z_t 24 ((18 + (1 : Int32)).toNatClampNeg)).toInt ∨ (gT z_t 24 ((18 + (7 : Int32)).toNatClampNeg)).toInt < (gT z_t 24 ((18 + (6 : Int32)).toNatClampNeg)).toInt) by first | (intro q; exact absurd q (by decide)) | (intro _; omega))
              · skip
                have r_354 := n_rng r32
                have r_355 := n_rng r34
                have c_351i : r32.toInt ≥ r34.toInt := bI_nlt rfl rfl c_351
                exact ok_some (show ((((0 : Int32) ||| 0) ||| 4) ||| 8).toInt ≤ 0 → ((gT z_t 24 ((18 + (0 : Int32)).toNatClampNeg)).toInt < (gT z_t 24 ((18 + (2 : Int32)).toNatClampNeg)).toInt ∨ (gT z_t 24 ((18 + (4 : Int32)).toNatClampNeg)).toInt < (gT z_t 24 ((18 + (5 : Int32)).toNatClampNeg)).toInt) ∧ ((gT z_t 24 ((18 + (1 : Int32)).toNatClampNeg)).toInt < (gT z_t 24 ((18 + (3 : Int32)).toNatClampNeg)).toInt ∨ (gT z_t 24 ((18 + (5 : Int32)).toNatClampNeg)).toInt < (gT z_t 24 ((18 + (4 : Int32)).toNatClampNeg)).toInt) ∧ ((gT z_t 24 ((18 + (2 : Int32)).toNatClampNeg)).toInt < (gT z_t 24 ((18 + (0 : Int32)).toNatClampNeg)).toInt ∨ (gT z_t 24 ((18 + (6 : Int32)).toNatClampNeg)).toInt < (gT z_t 24 ((18 + (7 : Int32)).toNatClampNeg)).toInt) ∧ ((gT z_t 24 ((18 + (3 : Int32)).toNatClampNeg)).toInt < (gT z_t 24 ((18 + (1 : Int32)).toNatClampNeg)).toInt ∨ (gT z_t 24 ((18 + (7 : Int32)).toNatClampNeg)).toInt < (gT z_t 24 ((18 + (6 : Int32)).toNatClampNeg)).toInt) by first | (intro q; exact absurd q (by decide)) | (intro _; omega))
      · skip
        have r_356 := n_rng r8
        have r_357 := n_rng r10
        have c_277i : r8.toInt ≥ r10.toInt := bI_nlt rfl rfl c_277
        refine ok_bd (t_fX9_gameOf (by first | omega | assumption | decide | (show 0 ≤ (5 : Int32).toInt ∧ (5 : Int32).toInt ≤ 7; first | omega | assumption))) (fun r48 q_358 => ?_)
        have h_359 : r48 = gT z_t 24 ((18 + (5 : Int32)).toNatClampNeg) := q_358
        clear q_358
        have := congrArg Int32.toInt h_359
        refine ok_bd (t_fX9_gameOf (by first | omega | assumption | decide | (show 0 ≤ (4 : Int32).toInt ∧ (4 : Int32).toInt ≤ 7; first | omega | assumption))) (fun r50 q_360 => ?_)
        have h_361 : r50 = gT z_t 24 ((18 + (4 : Int32)).toNatClampNeg) := q_360
        clear q_360
        have := congrArg Int32.toInt h_361
        refine ok_ite (fun c_362 => ?_) (fun c_362 => ?_)
        · skip
          have r_363 := n_rng r48
          have r_364 := n_rng r50
          have c_362i : r48.toInt < r50.toInt := bI_lt rfl rfl c_362
          refine ok_bd (t_fX9_gameOf (by first | omega | assumption | decide | (show 0 ≤ (2 : Int32).toInt ∧ (2 : Int32).toInt ≤ 7; first | omega | assumption))) (fun r15 q_365 => ?_)
          have h_366 : r15 = gT z_t 24 ((18 + (2 : Int32)).toNatClampNeg) := q_365
          clear q_365
          have := congrArg Int32.toInt h_366
          refine ok_bd (t_fX9_gameOf (by first | omega | assumption | decide | (show 0 ≤ (0 : Int32).toInt ∧ (0 : Int32).toInt ≤ 7; first | omega | assumption))) (fun r17 q_367 => ?_)
          have h_368 : r17 = gT z_t 24 ((18 + (0 : Int32)).toNatClampNeg) := q_367
          clear q_367
          have := congrArg Int32.toInt h_368
          refine ok_jn ?_
          refine ok_jn ?_
          refine ok_ite (fun c_369 => ?_) (fun c_369 => ?_)
          · skip
            have r_370 := n_rng r15
            have r_371 := n_rng r17
            have c_369i : r15.toInt < r17.toInt := bI_lt rfl rfl c_369
            refine ok_bd (t_fX9_gameOf (by first | omega | assumption | decide | (show 0 ≤ (3 : Int32).toInt ∧ (3 : Int32).toInt ≤ 7; first | omega | assumption))) (fun r22 q_372 => ?_)
            have h_373 : r22 = gT z_t 24 ((18 + (3 : Int32)).toNatClampNeg) := q_372
            clear q_372
            have := congrArg Int32.toInt h_373
            refine ok_bd (t_fX9_gameOf (by first | omega | assumption | decide | (show 0 ≤ (1 : Int32).toInt ∧ (1 : Int32).toInt ≤ 7; first | omega | assumption))) (fun r24 q_374 => ?_)
            have h_375 : r24 = gT z_t 24 ((18 + (1 : Int32)).toNatClampNeg) := q_374
            clear q_374
            have := congrArg Int32.toInt h_375
            refine ok_jn ?_
            refine ok_jn ?_
            refine ok_ite (fun c_376 => ?_) (fun c_376 => ?_)
            · skip
              have r_377 := n_rng r22
              have r_378 := n_rng r24
              have c_376i : r22.toInt < r24.toInt := bI_lt rfl rfl c_376
              exact ok_some (show ((((0 : Int32) ||| 0) ||| 0) ||| 0).toInt ≤ 0 → ((gT z_t 24 ((18 + (0 : Int32)).toNatClampNeg)).toInt < (gT z_t 24 ((18 + (2 : Int32)).toNatClampNeg)).toInt ∨ (gT z_t 24 ((18 + (4 : Int32)).toNatClampNeg)).toInt < (gT z_t 24 ((18 + (5 : Int32)).toNatClampNeg)).toInt) ∧ ((gT z_t 24 ((18 + (1 : Int32)).toNatClampNeg)).toInt < (gT z_t 24 ((18 + (3 : Int32)).toNatClampNeg)).toInt ∨ (gT z_t 24 ((18 + (5 : Int32)).toNatClampNeg)).toInt < (gT z_t 24 ((18 + (4 : Int32)).toNatClampNeg)).toInt) ∧ ((gT z_t 24 ((18 + (2 : Int32)).toNatClampNeg)).toInt < (gT z_t 24 ((18 + (0 : Int32)).toNatClampNeg)).toInt ∨ (gT z_t 24 ((18 + (6 : Int32)).toNatClampNeg)).toInt < (gT z_t 24 ((18 + (7 : Int32)).toNatClampNeg)).toInt) ∧ ((gT z_t 24 ((18 + (3 : Int32)).toNatClampNeg)).toInt < (gT z_t 24 ((18 + (1 : Int32)).toNatClampNeg)).toInt ∨ (gT z_t 24 ((18 + (7 : Int32)).toNatClampNeg)).toInt < (gT z_t 24 ((18 + (6 : Int32)).toNatClampNeg)).toInt) by first | (intro q; exact absurd q (by decide)) | (intro _; omega))
            · skip
              have r_379 := n_rng r22
              have r_380 := n_rng r24
              have c_376i : r22.toInt ≥ r24.toInt := bI_nlt rfl rfl c_376
              have e_382 : (7 : Int32).toInt = 7 := (show (7 : Int32).toInt = 7 by decide)
              refine ok_bd (t_fX9_gameOf (by first | omega | assumption | decide | (show 0 ≤ (7 : Int32).toInt ∧ (7 : Int32).toInt ≤ 7; first | omega | assumption))) (fun r32 q_381 => ?_)
              have h_383 : r32 = gT z_t 24 ((18 + (7 : Int32)).toNatClampNeg) := q_381
              clear q_381
              have := congrArg Int32.toInt h_383
              have e_385 : (6 : Int32).toInt = 6 := (show (6 : Int32).toInt = 6 by decide)
              refine ok_bd (t_fX9_gameOf (by first | omega | assumption | decide | (show 0 ≤ (6 : Int32).toInt ∧ (6 : Int32).toInt ≤ 7; first | omega | assumption))) (fun r34 q_384 => ?_)
              have h_386 : r34 = gT z_t 24 ((18 + (6 : Int32)).toNatClampNeg) := q_384
              clear q_384
              have := congrArg Int32.toInt h_386
              refine ok_ite (fun c_387 => ?_) (fun c_387 => ?_)
              · skip
                have r_388 := n_rng r32
                have r_389 := n_rng r34
                have c_387i : r32.toInt < r34.toInt := bI_lt rfl rfl c_387
                exact ok_some (show ((((0 : Int32) ||| 0) ||| 0) ||| 0).toInt ≤ 0 → ((gT z_t 24 ((18 + (0 : Int32)).toNatClampNeg)).toInt < (gT z_t 24 ((18 + (2 : Int32)).toNatClampNeg)).toInt ∨ (gT z_t 24 ((18 + (4 : Int32)).toNatClampNeg)).toInt < (gT z_t 24 ((18 + (5 : Int32)).toNatClampNeg)).toInt) ∧ ((gT z_t 24 ((18 + (1 : Int32)).toNatClampNeg)).toInt < (gT z_t 24 ((18 + (3 : Int32)).toNatClampNeg)).toInt ∨ (gT z_t 24 ((18 + (5 : Int32)).toNatClampNeg)).toInt < (gT z_t 24 ((18 + (4 : Int32)).toNatClampNeg)).toInt) ∧ ((gT z_t 24 ((18 + (2 : Int32)).toNatClampNeg)).toInt < (gT z_t 24 ((18 + (0 : Int32)).toNatClampNeg)).toInt ∨ (gT z_t 24 ((18 + (6 : Int32)).toNatClampNeg)).toInt < (gT z_t 24 ((18 + (7 : Int32)).toNatClampNeg)).toInt) ∧ ((gT z_t 24 ((18 + (3 : Int32)).toNatClampNeg)).toInt < (gT z_t 24 ((18 + (1 : Int32)).toNatClampNeg)).toInt ∨ (gT z_t 24 ((18 + (7 : Int32)).toNatClampNeg)).toInt < (gT z_t 24 ((18 + (6 : Int32)).toNatClampNeg)).toInt) by first | (intro q; exact absurd q (by decide)) | (intro _; omega))
              · skip
                have r_390 := n_rng r32
                have r_391 := n_rng r34
                have c_387i : r32.toInt ≥ r34.toInt := bI_nlt rfl rfl c_387
                exact ok_some (show ((((0 : Int32) ||| 0) ||| 0) ||| 8).toInt ≤ 0 → ((gT z_t 24 ((18 + (0 : Int32)).toNatClampNeg)).toInt < (gT z_t 24 ((18 + (2 : Int32)).toNatClampNeg)).toInt ∨ (gT z_t 24 ((18 + (4 : Int32)).toNatClampNeg)).toInt < (gT z_t 24 ((18 + (5 : Int32)).toNatClampNeg)).toInt) ∧ ((gT z_t 24 ((18 + (1 : Int32)).toNatClampNeg)).toInt < (gT z_t 24 ((18 + (3 : Int32)).toNatClampNeg)).toInt ∨ (gT z_t 24 ((18 + (5 : Int32)).toNatClampNeg)).toInt < (gT z_t 24 ((18 + (4 : Int32)).toNatClampNeg)).toInt) ∧ ((gT z_t 24 ((18 + (2 : Int32)).toNatClampNeg)).toInt < (gT z_t 24 ((18 + (0 : Int32)).toNatClampNeg)).toInt ∨ (gT z_t 24 ((18 + (6 : Int32)).toNatClampNeg)).toInt < (gT z_t 24 ((18 + (7 : Int32)).toNatClampNeg)).toInt) ∧ ((gT z_t 24 ((18 + (3 : Int32)).toNatClampNeg)).toInt < (gT z_t 24 ((18 + (1 : Int32)).toNatClampNeg)).toInt ∨ (gT z_t 24 ((18 + (7 : Int32)).toNatClampNeg)).toInt < (gT z_t 24 ((18 + (6 : Int32)).toNatClampNeg)).toInt) by first | (intro q; exact absurd q (by decide)) | (intro _; omega))
          · skip
            have r_392 := n_rng r15
            have r_393 := n_rng r17
            have c_369i : r15.toInt ≥ r17.toInt := bI_nlt rfl rfl c_369
            have e_395 : (6 : Int32).toInt = 6 := (show (6 : Int32).toInt = 6 by decide)
            refine ok_bd (t_fX9_gameOf (by first | omega | assumption | decide | (show 0 ≤ (6 : Int32).toInt ∧ (6 : Int32).toInt ≤ 7; first | omega | assumption))) (fun r40 q_394 => ?_)
            have h_396 : r40 = gT z_t 24 ((18 + (6 : Int32)).toNatClampNeg) := q_394
            clear q_394
            have := congrArg Int32.toInt h_396
            have e_398 : (7 : Int32).toInt = 7 := (show (7 : Int32).toInt = 7 by decide)
            refine ok_bd (t_fX9_gameOf (by first | omega | assumption | decide | (show 0 ≤ (7 : Int32).toInt ∧ (7 : Int32).toInt ≤ 7; first | omega | assumption))) (fun r42 q_397 => ?_)
            have h_399 : r42 = gT z_t 24 ((18 + (7 : Int32)).toNatClampNeg) := q_397
            clear q_397
            have := congrArg Int32.toInt h_399
            refine ok_ite (fun c_400 => ?_) (fun c_400 => ?_)
            · skip
              have r_401 := n_rng r40
              have r_402 := n_rng r42
              have c_400i : r40.toInt < r42.toInt := bI_lt rfl rfl c_400
              refine ok_bd (t_fX9_gameOf (by first | omega | assumption | decide | (show 0 ≤ (3 : Int32).toInt ∧ (3 : Int32).toInt ≤ 7; first | omega | assumption))) (fun r22 q_403 => ?_)
              have h_404 : r22 = gT z_t 24 ((18 + (3 : Int32)).toNatClampNeg) := q_403
              clear q_403
              have := congrArg Int32.toInt h_404
              refine ok_bd (t_fX9_gameOf (by first | omega | assumption | decide | (show 0 ≤ (1 : Int32).toInt ∧ (1 : Int32).toInt ≤ 7; first | omega | assumption))) (fun r24 q_405 => ?_)
              have h_406 : r24 = gT z_t 24 ((18 + (1 : Int32)).toNatClampNeg) := q_405
              clear q_405
              have := congrArg Int32.toInt h_406
              refine ok_jn ?_
              refine ok_jn ?_
              refine ok_ite (fun c_407 => ?_) (fun c_407 => ?_)
              · skip
                have r_408 := n_rng r22
                have r_409 := n_rng r24
                have c_407i : r22.toInt < r24.toInt := bI_lt rfl rfl c_407
                exact ok_some (show ((((0 : Int32) ||| 0) ||| 0) ||| 0).toInt ≤ 0 → ((gT z_t 24 ((18 + (0 : Int32)).toNatClampNeg)).toInt < (gT z_t 24 ((18 + (2 : Int32)).toNatClampNeg)).toInt ∨ (gT z_t 24 ((18 + (4 : Int32)).toNatClampNeg)).toInt < (gT z_t 24 ((18 + (5 : Int32)).toNatClampNeg)).toInt) ∧ ((gT z_t 24 ((18 + (1 : Int32)).toNatClampNeg)).toInt < (gT z_t 24 ((18 + (3 : Int32)).toNatClampNeg)).toInt ∨ (gT z_t 24 ((18 + (5 : Int32)).toNatClampNeg)).toInt < (gT z_t 24 ((18 + (4 : Int32)).toNatClampNeg)).toInt) ∧ ((gT z_t 24 ((18 + (2 : Int32)).toNatClampNeg)).toInt < (gT z_t 24 ((18 + (0 : Int32)).toNatClampNeg)).toInt ∨ (gT z_t 24 ((18 + (6 : Int32)).toNatClampNeg)).toInt < (gT z_t 24 ((18 + (7 : Int32)).toNatClampNeg)).toInt) ∧ ((gT z_t 24 ((18 + (3 : Int32)).toNatClampNeg)).toInt < (gT z_t 24 ((18 + (1 : Int32)).toNatClampNeg)).toInt ∨ (gT z_t 24 ((18 + (7 : Int32)).toNatClampNeg)).toInt < (gT z_t 24 ((18 + (6 : Int32)).toNatClampNeg)).toInt) by first | (intro q; exact absurd q (by decide)) | (intro _; omega))
              · skip
                have r_410 := n_rng r22
                have r_411 := n_rng r24
                have c_407i : r22.toInt ≥ r24.toInt := bI_nlt rfl rfl c_407
                refine ok_bd (t_fX9_gameOf (by first | omega | assumption | decide | (show 0 ≤ (7 : Int32).toInt ∧ (7 : Int32).toInt ≤ 7; first | omega | assumption))) (fun r32 q_412 => ?_)
                have h_413 : r32 = gT z_t 24 ((18 + (7 : Int32)).toNatClampNeg) := q_412
                clear q_412
                have := congrArg Int32.toInt h_413
                refine ok_bd (t_fX9_gameOf (by first | omega | assumption | decide | (show 0 ≤ (6 : Int32).toInt ∧ (6 : Int32).toInt ≤ 7; first | omega | assumption))) (fun r34 q_414 => ?_)
                have h_415 : r34 = gT z_t 24 ((18 + (6 : Int32)).toNatClampNeg) := q_414
                clear q_414
                have := congrArg Int32.toInt h_415
                refine ok_ite (fun c_416 => ?_) (fun c_416 => ?_)
                · skip
                  have r_417 := n_rng r32
                  have r_418 := n_rng r34
                  have c_416i : r32.toInt < r34.toInt := bI_lt rfl rfl c_416
                  exact ok_some (show ((((0 : Int32) ||| 0) ||| 0) ||| 0).toInt ≤ 0 → ((gT z_t 24 ((18 + (0 : Int32)).toNatClampNeg)).toInt < (gT z_t 24 ((18 + (2 : Int32)).toNatClampNeg)).toInt ∨ (gT z_t 24 ((18 + (4 : Int32)).toNatClampNeg)).toInt < (gT z_t 24 ((18 + (5 : Int32)).toNatClampNeg)).toInt) ∧ ((gT z_t 24 ((18 + (1 : Int32)).toNatClampNeg)).toInt < (gT z_t 24 ((18 + (3 : Int32)).toNatClampNeg)).toInt ∨ (gT z_t 24 ((18 + (5 : Int32)).toNatClampNeg)).toInt < (gT z_t 24 ((18 + (4 : Int32)).toNatClampNeg)).toInt) ∧ ((gT z_t 24 ((18 + (2 : Int32)).toNatClampNeg)).toInt < (gT z_t 24 ((18 + (0 : Int32)).toNatClampNeg)).toInt ∨ (gT z_t 24 ((18 + (6 : Int32)).toNatClampNeg)).toInt < (gT z_t 24 ((18 + (7 : Int32)).toNatClampNeg)).toInt) ∧ ((gT z_t 24 ((18 + (3 : Int32)).toNatClampNeg)).toInt < (gT z_t 24 ((18 + (1 : Int32)).toNatClampNeg)).toInt ∨ (gT z_t 24 ((18 + (7 : Int32)).toNatClampNeg)).toInt < (gT z_t 24 ((18 + (6 : Int32)).toNatClampNeg)).toInt) by first | (intro q; exact absurd q (by decide)) | (intro _; omega))
                · skip
                  have r_419 := n_rng r32
                  have r_420 := n_rng r34
                  have c_416i : r32.toInt ≥ r34.toInt := bI_nlt rfl rfl c_416
                  exact ok_some (show ((((0 : Int32) ||| 0) ||| 0) ||| 8).toInt ≤ 0 → ((gT z_t 24 ((18 + (0 : Int32)).toNatClampNeg)).toInt < (gT z_t 24 ((18 + (2 : Int32)).toNatClampNeg)).toInt ∨ (gT z_t 24 ((18 + (4 : Int32)).toNatClampNeg)).toInt < (gT z_t 24 ((18 + (5 : Int32)).toNatClampNeg)).toInt) ∧ ((gT z_t 24 ((18 + (1 : Int32)).toNatClampNeg)).toInt < (gT z_t 24 ((18 + (3 : Int32)).toNatClampNeg)).toInt ∨ (gT z_t 24 ((18 + (5 : Int32)).toNatClampNeg)).toInt < (gT z_t 24 ((18 + (4 : Int32)).toNatClampNeg)).toInt) ∧ ((gT z_t 24 ((18 + (2 : Int32)).toNatClampNeg)).toInt < (gT z_t 24 ((18 + (0 : Int32)).toNatClampNeg)).toInt ∨ (gT z_t 24 ((18 + (6 : Int32)).toNatClampNeg)).toInt < (gT z_t 24 ((18 + (7 : Int32)).toNatClampNeg)).toInt) ∧ ((gT z_t 24 ((18 + (3 : Int32)).toNatClampNeg)).toInt < (gT z_t 24 ((18 + (1 : Int32)).toNatClampNeg)).toInt ∨ (gT z_t 24 ((18 + (7 : Int32)).toNatClampNeg)).toInt < (gT z_t 24 ((18 + (6 : Int32)).toNatClampNeg)).toInt) by first | (intro q; exact absurd q (by decide)) | (intro _; omega))
            · skip
              have r_421 := n_rng r40
              have r_422 := n_rng r42
              have c_400i : r40.toInt ≥ r42.toInt := bI_nlt rfl rfl c_400
              refine ok_bd (t_fX9_gameOf (by first | omega | assumption | decide | (show 0 ≤ (3 : Int32).toInt ∧ (3 : Int32).toInt ≤ 7; first | omega | assumption))) (fun r22 q_423 => ?_)
              have h_424 : r22 = gT z_t 24 ((18 + (3 : Int32)).toNatClampNeg) := q_423
              clear q_423
              have := congrArg Int32.toInt h_424
              refine ok_bd (t_fX9_gameOf (by first | omega | assumption | decide | (show 0 ≤ (1 : Int32).toInt ∧ (1 : Int32).toInt ≤ 7; first | omega | assumption))) (fun r24 q_425 => ?_)
              have h_426 : r24 = gT z_t 24 ((18 + (1 : Int32)).toNatClampNeg) := q_425
              clear q_425
              have := congrArg Int32.toInt h_426
              refine ok_jn ?_
              refine ok_jn ?_
              refine ok_ite (fun c_427 => ?_) (fun c_427 => ?_)
              · skip
                have r_428 := n_rng r22
                have r_429 := n_rng r24
                have c_427i : r22.toInt < r24.toInt := bI_lt rfl rfl c_427
                exact ok_some (show ((((0 : Int32) ||| 0) ||| 4) ||| 0).toInt ≤ 0 → ((gT z_t 24 ((18 + (0 : Int32)).toNatClampNeg)).toInt < (gT z_t 24 ((18 + (2 : Int32)).toNatClampNeg)).toInt ∨ (gT z_t 24 ((18 + (4 : Int32)).toNatClampNeg)).toInt < (gT z_t 24 ((18 + (5 : Int32)).toNatClampNeg)).toInt) ∧ ((gT z_t 24 ((18 + (1 : Int32)).toNatClampNeg)).toInt < (gT z_t 24 ((18 + (3 : Int32)).toNatClampNeg)).toInt ∨ (gT z_t 24 ((18 + (5 : Int32)).toNatClampNeg)).toInt < (gT z_t 24 ((18 + (4 : Int32)).toNatClampNeg)).toInt) ∧ ((gT z_t 24 ((18 + (2 : Int32)).toNatClampNeg)).toInt < (gT z_t 24 ((18 + (0 : Int32)).toNatClampNeg)).toInt ∨ (gT z_t 24 ((18 + (6 : Int32)).toNatClampNeg)).toInt < (gT z_t 24 ((18 + (7 : Int32)).toNatClampNeg)).toInt) ∧ ((gT z_t 24 ((18 + (3 : Int32)).toNatClampNeg)).toInt < (gT z_t 24 ((18 + (1 : Int32)).toNatClampNeg)).toInt ∨ (gT z_t 24 ((18 + (7 : Int32)).toNatClampNeg)).toInt < (gT z_t 24 ((18 + (6 : Int32)).toNatClampNeg)).toInt) by first | (intro q; exact absurd q (by decide)) | (intro _; omega))
              · skip
                have r_430 := n_rng r22
                have r_431 := n_rng r24
                have c_427i : r22.toInt ≥ r24.toInt := bI_nlt rfl rfl c_427
                refine ok_bd (t_fX9_gameOf (by first | omega | assumption | decide | (show 0 ≤ (7 : Int32).toInt ∧ (7 : Int32).toInt ≤ 7; first | omega | assumption))) (fun r32 q_432 => ?_)
                have h_433 : r32 = gT z_t 24 ((18 + (7 : Int32)).toNatClampNeg) := q_432
                clear q_432
                have := congrArg Int32.toInt h_433
                refine ok_bd (t_fX9_gameOf (by first | omega | assumption | decide | (show 0 ≤ (6 : Int32).toInt ∧ (6 : Int32).toInt ≤ 7; first | omega | assumption))) (fun r34 q_434 => ?_)
                have h_435 : r34 = gT z_t 24 ((18 + (6 : Int32)).toNatClampNeg) := q_434
                clear q_434
                have := congrArg Int32.toInt h_435
                refine ok_ite (fun c_436 => ?_) (fun c_436 => ?_)
                · skip
                  have r_437 := n_rng r32
                  have r_438 := n_rng r34
                  have c_436i : r32.toInt < r34.toInt := bI_lt rfl rfl c_436
                  exact ok_some (show ((((0 : Int32) ||| 0) ||| 4) ||| 0).toInt ≤ 0 → ((gT z_t 24 ((18 + (0 : Int32)).toNatClampNeg)).toInt < (gT z_t 24 ((18 + (2 : Int32)).toNatClampNeg)).toInt ∨ (gT z_t 24 ((18 + (4 : Int32)).toNatClampNeg)).toInt < (gT z_t 24 ((18 + (5 : Int32)).toNatClampNeg)).toInt) ∧ ((gT z_t 24 ((18 + (1 : Int32)).toNatClampNeg)).toInt < (gT z_t 24 ((18 + (3 : Int32)).toNatClampNeg)).toInt ∨ (gT z_t 24 ((18 + (5 : Int32)).toNatClampNeg)).toInt < (gT z_t 24 ((18 + (4 : Int32)).toNatClampNeg)).toInt) ∧ ((gT z_t 24 ((18 + (2 : Int32)).toNatClampNeg)).toInt < (gT z_t 24 ((18 + (0 : Int32)).toNatClampNeg)).toInt ∨ (gT z_t 24 ((18 + (6 : Int32)).toNatClampNeg)).toInt < (gT z_t 24 ((18 + (7 : Int32)).toNatClampNeg)).toInt) ∧ ((gT z_t 24 ((18 + (3 : Int32)).toNatClampNeg)).toInt < (gT z_t 24 ((18 + (1 : Int32)).toNatClampNeg)).toInt ∨ (gT z_t 24 ((18 + (7 : Int32)).toNatClampNeg)).toInt < (gT z_t 24 ((18 + (6 : Int32)).toNatClampNeg)).toInt) by first | (intro q; exact absurd q (by decide)) | (intro _; omega))
                · skip
                  have r_439 := n_rng r32
                  have r_440 := n_rng r34
                  have c_436i : r32.toInt ≥ r34.toInt := bI_nlt rfl rfl c_436
                  exact ok_some (show ((((0 : Int32) ||| 0) ||| 4) ||| 8).toInt ≤ 0 → ((gT z_t 24 ((18 + (0 : Int32)).toNatClampNeg)).toInt < (gT z_t 24 ((18 + (2 : Int32)).toNatClampNeg)).toInt ∨ (gT z_t 24 ((18 + (4 : Int32)).toNatClampNeg)).toInt < (gT z_t 24 ((18 + (5 : Int32)).toNatClampNeg)).toInt) ∧ ((gT z_t 24 ((18 + (1 : Int32)).toNatClampNeg)).toInt < (gT z_t 24 ((18 + (3 : Int32)).toNatClampNeg)).toInt ∨ (gT z_t 24 ((18 + (5 : Int32)).toNatClampNeg)).toInt < (gT z_t 24 ((18 + (4 : Int32)).toNatClampNeg)).toInt) ∧ ((gT z_t 24 ((18 + (2 : Int32)).toNatClampNeg)).toInt < (gT z_t 24 ((18 + (0 : Int32)).toNatClampNeg)).toInt ∨ (gT z_t 24 ((18 + (6 : Int32)).toNatClampNeg)).toInt < (gT z_t 24 ((18 + (7 : Int32)).toNatClampNeg)).toInt) ∧ ((gT z_t 24 ((18 + (3 : Int32)).toNatClampNeg)).toInt < (gT z_t 24 ((18 + (1 : Int32)).toNatClampNeg)).toInt ∨ (gT z_t 24 ((18 + (7 : Int32)).toNatClampNeg)).toInt < (gT z_t 24 ((18 + (6 : Int32)).toNatClampNeg)).toInt) by first | (intro q; exact absurd q (by decide)) | (intro _; omega))
        · skip
          have r_441 := n_rng r48
          have r_442 := n_rng r50
          have c_362i : r48.toInt ≥ r50.toInt := bI_nlt rfl rfl c_362
          refine ok_bd (t_fX9_gameOf (by first | omega | assumption | decide | (show 0 ≤ (2 : Int32).toInt ∧ (2 : Int32).toInt ≤ 7; first | omega | assumption))) (fun r15 q_443 => ?_)
          have h_444 : r15 = gT z_t 24 ((18 + (2 : Int32)).toNatClampNeg) := q_443
          clear q_443
          have := congrArg Int32.toInt h_444
          refine ok_bd (t_fX9_gameOf (by first | omega | assumption | decide | (show 0 ≤ (0 : Int32).toInt ∧ (0 : Int32).toInt ≤ 7; first | omega | assumption))) (fun r17 q_445 => ?_)
          have h_446 : r17 = gT z_t 24 ((18 + (0 : Int32)).toNatClampNeg) := q_445
          clear q_445
          have := congrArg Int32.toInt h_446
          refine ok_jn ?_
          refine ok_jn ?_
          refine ok_ite (fun c_447 => ?_) (fun c_447 => ?_)
          · skip
            have r_448 := n_rng r15
            have r_449 := n_rng r17
            have c_447i : r15.toInt < r17.toInt := bI_lt rfl rfl c_447
            refine ok_bd (t_fX9_gameOf (by first | omega | assumption | decide | (show 0 ≤ (3 : Int32).toInt ∧ (3 : Int32).toInt ≤ 7; first | omega | assumption))) (fun r22 q_450 => ?_)
            have h_451 : r22 = gT z_t 24 ((18 + (3 : Int32)).toNatClampNeg) := q_450
            clear q_450
            have := congrArg Int32.toInt h_451
            refine ok_bd (t_fX9_gameOf (by first | omega | assumption | decide | (show 0 ≤ (1 : Int32).toInt ∧ (1 : Int32).toInt ≤ 7; first | omega | assumption))) (fun r24 q_452 => ?_)
            have h_453 : r24 = gT z_t 24 ((18 + (1 : Int32)).toNatClampNeg) := q_452
            clear q_452
            have := congrArg Int32.toInt h_453
            refine ok_jn ?_
            refine ok_jn ?_
            refine ok_ite (fun c_454 => ?_) (fun c_454 => ?_)
            · skip
              have r_455 := n_rng r22
              have r_456 := n_rng r24
              have c_454i : r22.toInt < r24.toInt := bI_lt rfl rfl c_454
              exact ok_some (show ((((0 : Int32) ||| 2) ||| 0) ||| 0).toInt ≤ 0 → ((gT z_t 24 ((18 + (0 : Int32)).toNatClampNeg)).toInt < (gT z_t 24 ((18 + (2 : Int32)).toNatClampNeg)).toInt ∨ (gT z_t 24 ((18 + (4 : Int32)).toNatClampNeg)).toInt < (gT z_t 24 ((18 + (5 : Int32)).toNatClampNeg)).toInt) ∧ ((gT z_t 24 ((18 + (1 : Int32)).toNatClampNeg)).toInt < (gT z_t 24 ((18 + (3 : Int32)).toNatClampNeg)).toInt ∨ (gT z_t 24 ((18 + (5 : Int32)).toNatClampNeg)).toInt < (gT z_t 24 ((18 + (4 : Int32)).toNatClampNeg)).toInt) ∧ ((gT z_t 24 ((18 + (2 : Int32)).toNatClampNeg)).toInt < (gT z_t 24 ((18 + (0 : Int32)).toNatClampNeg)).toInt ∨ (gT z_t 24 ((18 + (6 : Int32)).toNatClampNeg)).toInt < (gT z_t 24 ((18 + (7 : Int32)).toNatClampNeg)).toInt) ∧ ((gT z_t 24 ((18 + (3 : Int32)).toNatClampNeg)).toInt < (gT z_t 24 ((18 + (1 : Int32)).toNatClampNeg)).toInt ∨ (gT z_t 24 ((18 + (7 : Int32)).toNatClampNeg)).toInt < (gT z_t 24 ((18 + (6 : Int32)).toNatClampNeg)).toInt) by first | (intro q; exact absurd q (by decide)) | (intro _; omega))
            · skip
              have r_457 := n_rng r22
              have r_458 := n_rng r24
              have c_454i : r22.toInt ≥ r24.toInt := bI_nlt rfl rfl c_454
              have e_460 : (7 : Int32).toInt = 7 := (show (7 : Int32).toInt = 7 by decide)
              refine ok_bd (t_fX9_gameOf (by first | omega | assumption | decide | (show 0 ≤ (7 : Int32).toInt ∧ (7 : Int32).toInt ≤ 7; first | omega | assumption))) (fun r32 q_459 => ?_)
              have h_461 : r32 = gT z_t 24 ((18 + (7 : Int32)).toNatClampNeg) := q_459
              clear q_459
              have := congrArg Int32.toInt h_461
              have e_463 : (6 : Int32).toInt = 6 := (show (6 : Int32).toInt = 6 by decide)
              refine ok_bd (t_fX9_gameOf (by first | omega | assumption | decide | (show 0 ≤ (6 : Int32).toInt ∧ (6 : Int32).toInt ≤ 7; first | omega | assumption))) (fun r34 q_462 => ?_)
              have h_464 : r34 = gT z_t 24 ((18 + (6 : Int32)).toNatClampNeg) := q_462
              clear q_462
              have := congrArg Int32.toInt h_464
              refine ok_ite (fun c_465 => ?_) (fun c_465 => ?_)
              · skip
                have r_466 := n_rng r32
                have r_467 := n_rng r34
                have c_465i : r32.toInt < r34.toInt := bI_lt rfl rfl c_465
                exact ok_some (show ((((0 : Int32) ||| 2) ||| 0) ||| 0).toInt ≤ 0 → ((gT z_t 24 ((18 + (0 : Int32)).toNatClampNeg)).toInt < (gT z_t 24 ((18 + (2 : Int32)).toNatClampNeg)).toInt ∨ (gT z_t 24 ((18 + (4 : Int32)).toNatClampNeg)).toInt < (gT z_t 24 ((18 + (5 : Int32)).toNatClampNeg)).toInt) ∧ ((gT z_t 24 ((18 + (1 : Int32)).toNatClampNeg)).toInt < (gT z_t 24 ((18 + (3 : Int32)).toNatClampNeg)).toInt ∨ (gT z_t 24 ((18 + (5 : Int32)).toNatClampNeg)).toInt < (gT z_t 24 ((18 + (4 : Int32)).toNatClampNeg)).toInt) ∧ ((gT z_t 24 ((18 + (2 : Int32)).toNatClampNeg)).toInt < (gT z_t 24 ((18 + (0 : Int32)).toNatClampNeg)).toInt ∨ (gT z_t 24 ((18 + (6 : Int32)).toNatClampNeg)).toInt < (gT z_t 24 ((18 + (7 : Int32)).toNatClampNeg)).toInt) ∧ ((gT z_t 24 ((18 + (3 : Int32)).toNatClampNeg)).toInt < (gT z_t 24 ((18 + (1 : Int32)).toNatClampNeg)).toInt ∨ (gT z_t 24 ((18 + (7 : Int32)).toNatClampNeg)).toInt < (gT z_t 24 ((18 + (6 : Int32)).toNatClampNeg)).toInt) by first | (intro q; exact absurd q (by decide)) | (intro _; omega))
              · skip
                have r_468 := n_rng r32
                have r_469 := n_rng r34
                have c_465i : r32.toInt ≥ r34.toInt := bI_nlt rfl rfl c_465
                exact ok_some (show ((((0 : Int32) ||| 2) ||| 0) ||| 8).toInt ≤ 0 → ((gT z_t 24 ((18 + (0 : Int32)).toNatClampNeg)).toInt < (gT z_t 24 ((18 + (2 : Int32)).toNatClampNeg)).toInt ∨ (gT z_t 24 ((18 + (4 : Int32)).toNatClampNeg)).toInt < (gT z_t 24 ((18 + (5 : Int32)).toNatClampNeg)).toInt) ∧ ((gT z_t 24 ((18 + (1 : Int32)).toNatClampNeg)).toInt < (gT z_t 24 ((18 + (3 : Int32)).toNatClampNeg)).toInt ∨ (gT z_t 24 ((18 + (5 : Int32)).toNatClampNeg)).toInt < (gT z_t 24 ((18 + (4 : Int32)).toNatClampNeg)).toInt) ∧ ((gT z_t 24 ((18 + (2 : Int32)).toNatClampNeg)).toInt < (gT z_t 24 ((18 + (0 : Int32)).toNatClampNeg)).toInt ∨ (gT z_t 24 ((18 + (6 : Int32)).toNatClampNeg)).toInt < (gT z_t 24 ((18 + (7 : Int32)).toNatClampNeg)).toInt) ∧ ((gT z_t 24 ((18 + (3 : Int32)).toNatClampNeg)).toInt < (gT z_t 24 ((18 + (1 : Int32)).toNatClampNeg)).toInt ∨ (gT z_t 24 ((18 + (7 : Int32)).toNatClampNeg)).toInt < (gT z_t 24 ((18 + (6 : Int32)).toNatClampNeg)).toInt) by first | (intro q; exact absurd q (by decide)) | (intro _; omega))
          · skip
            have r_470 := n_rng r15
            have r_471 := n_rng r17
            have c_447i : r15.toInt ≥ r17.toInt := bI_nlt rfl rfl c_447
            have e_473 : (6 : Int32).toInt = 6 := (show (6 : Int32).toInt = 6 by decide)
            refine ok_bd (t_fX9_gameOf (by first | omega | assumption | decide | (show 0 ≤ (6 : Int32).toInt ∧ (6 : Int32).toInt ≤ 7; first | omega | assumption))) (fun r40 q_472 => ?_)
            have h_474 : r40 = gT z_t 24 ((18 + (6 : Int32)).toNatClampNeg) := q_472
            clear q_472
            have := congrArg Int32.toInt h_474
            have e_476 : (7 : Int32).toInt = 7 := (show (7 : Int32).toInt = 7 by decide)
            refine ok_bd (t_fX9_gameOf (by first | omega | assumption | decide | (show 0 ≤ (7 : Int32).toInt ∧ (7 : Int32).toInt ≤ 7; first | omega | assumption))) (fun r42 q_475 => ?_)
            have h_477 : r42 = gT z_t 24 ((18 + (7 : Int32)).toNatClampNeg) := q_475
            clear q_475
            have := congrArg Int32.toInt h_477
            refine ok_ite (fun c_478 => ?_) (fun c_478 => ?_)
            · skip
              have r_479 := n_rng r40
              have r_480 := n_rng r42
              have c_478i : r40.toInt < r42.toInt := bI_lt rfl rfl c_478
              refine ok_bd (t_fX9_gameOf (by first | omega | assumption | decide | (show 0 ≤ (3 : Int32).toInt ∧ (3 : Int32).toInt ≤ 7; first | omega | assumption))) (fun r22 q_481 => ?_)
              have h_482 : r22 = gT z_t 24 ((18 + (3 : Int32)).toNatClampNeg) := q_481
              clear q_481
              have := congrArg Int32.toInt h_482
              refine ok_bd (t_fX9_gameOf (by first | omega | assumption | decide | (show 0 ≤ (1 : Int32).toInt ∧ (1 : Int32).toInt ≤ 7; first | omega | assumption))) (fun r24 q_483 => ?_)
              have h_484 : r24 = gT z_t 24 ((18 + (1 : Int32)).toNatClampNeg) := q_483
              clear q_483
              have := congrArg Int32.toInt h_484
              refine ok_jn ?_
              refine ok_jn ?_
              refine ok_ite (fun c_485 => ?_) (fun c_485 => ?_)
              · skip
                have r_486 := n_rng r22
                have r_487 := n_rng r24
                have c_485i : r22.toInt < r24.toInt := bI_lt rfl rfl c_485
                exact ok_some (show ((((0 : Int32) ||| 2) ||| 0) ||| 0).toInt ≤ 0 → ((gT z_t 24 ((18 + (0 : Int32)).toNatClampNeg)).toInt < (gT z_t 24 ((18 + (2 : Int32)).toNatClampNeg)).toInt ∨ (gT z_t 24 ((18 + (4 : Int32)).toNatClampNeg)).toInt < (gT z_t 24 ((18 + (5 : Int32)).toNatClampNeg)).toInt) ∧ ((gT z_t 24 ((18 + (1 : Int32)).toNatClampNeg)).toInt < (gT z_t 24 ((18 + (3 : Int32)).toNatClampNeg)).toInt ∨ (gT z_t 24 ((18 + (5 : Int32)).toNatClampNeg)).toInt < (gT z_t 24 ((18 + (4 : Int32)).toNatClampNeg)).toInt) ∧ ((gT z_t 24 ((18 + (2 : Int32)).toNatClampNeg)).toInt < (gT z_t 24 ((18 + (0 : Int32)).toNatClampNeg)).toInt ∨ (gT z_t 24 ((18 + (6 : Int32)).toNatClampNeg)).toInt < (gT z_t 24 ((18 + (7 : Int32)).toNatClampNeg)).toInt) ∧ ((gT z_t 24 ((18 + (3 : Int32)).toNatClampNeg)).toInt < (gT z_t 24 ((18 + (1 : Int32)).toNatClampNeg)).toInt ∨ (gT z_t 24 ((18 + (7 : Int32)).toNatClampNeg)).toInt < (gT z_t 24 ((18 + (6 : Int32)).toNatClampNeg)).toInt) by first | (intro q; exact absurd q (by decide)) | (intro _; omega))
              · skip
                have r_488 := n_rng r22
                have r_489 := n_rng r24
                have c_485i : r22.toInt ≥ r24.toInt := bI_nlt rfl rfl c_485
                refine ok_bd (t_fX9_gameOf (by first | omega | assumption | decide | (show 0 ≤ (7 : Int32).toInt ∧ (7 : Int32).toInt ≤ 7; first | omega | assumption))) (fun r32 q_490 => ?_)
                have h_491 : r32 = gT z_t 24 ((18 + (7 : Int32)).toNatClampNeg) := q_490
                clear q_490
                have := congrArg Int32.toInt h_491
                refine ok_bd (t_fX9_gameOf (by first | omega | assumption | decide | (show 0 ≤ (6 : Int32).toInt ∧ (6 : Int32).toInt ≤ 7; first | omega | assumption))) (fun r34 q_492 => ?_)
                have h_493 : r34 = gT z_t 24 ((18 + (6 : Int32)).toNatClampNeg) := q_492
                clear q_492
                have := congrArg Int32.toInt h_493
                refine ok_ite (fun c_494 => ?_) (fun c_494 => ?_)
                · skip
                  have r_495 := n_rng r32
                  have r_496 := n_rng r34
                  have c_494i : r32.toInt < r34.toInt := bI_lt rfl rfl c_494
                  exact ok_some (show ((((0 : Int32) ||| 2) ||| 0) ||| 0).toInt ≤ 0 → ((gT z_t 24 ((18 + (0 : Int32)).toNatClampNeg)).toInt < (gT z_t 24 ((18 + (2 : Int32)).toNatClampNeg)).toInt ∨ (gT z_t 24 ((18 + (4 : Int32)).toNatClampNeg)).toInt < (gT z_t 24 ((18 + (5 : Int32)).toNatClampNeg)).toInt) ∧ ((gT z_t 24 ((18 + (1 : Int32)).toNatClampNeg)).toInt < (gT z_t 24 ((18 + (3 : Int32)).toNatClampNeg)).toInt ∨ (gT z_t 24 ((18 + (5 : Int32)).toNatClampNeg)).toInt < (gT z_t 24 ((18 + (4 : Int32)).toNatClampNeg)).toInt) ∧ ((gT z_t 24 ((18 + (2 : Int32)).toNatClampNeg)).toInt < (gT z_t 24 ((18 + (0 : Int32)).toNatClampNeg)).toInt ∨ (gT z_t 24 ((18 + (6 : Int32)).toNatClampNeg)).toInt < (gT z_t 24 ((18 + (7 : Int32)).toNatClampNeg)).toInt) ∧ ((gT z_t 24 ((18 + (3 : Int32)).toNatClampNeg)).toInt < (gT z_t 24 ((18 + (1 : Int32)).toNatClampNeg)).toInt ∨ (gT z_t 24 ((18 + (7 : Int32)).toNatClampNeg)).toInt < (gT z_t 24 ((18 + (6 : Int32)).toNatClampNeg)).toInt) by first | (intro q; exact absurd q (by decide)) | (intro _; omega))
                · skip
                  have r_497 := n_rng r32
                  have r_498 := n_rng r34
                  have c_494i : r32.toInt ≥ r34.toInt := bI_nlt rfl rfl c_494
                  exact ok_some (show ((((0 : Int32) ||| 2) ||| 0) ||| 8).toInt ≤ 0 → ((gT z_t 24 ((18 + (0 : Int32)).toNatClampNeg)).toInt < (gT z_t 24 ((18 + (2 : Int32)).toNatClampNeg)).toInt ∨ (gT z_t 24 ((18 + (4 : Int32)).toNatClampNeg)).toInt < (gT z_t 24 ((18 + (5 : Int32)).toNatClampNeg)).toInt) ∧ ((gT z_t 24 ((18 + (1 : Int32)).toNatClampNeg)).toInt < (gT z_t 24 ((18 + (3 : Int32)).toNatClampNeg)).toInt ∨ (gT z_t 24 ((18 + (5 : Int32)).toNatClampNeg)).toInt < (gT z_t 24 ((18 + (4 : Int32)).toNatClampNeg)).toInt) ∧ ((gT z_t 24 ((18 + (2 : Int32)).toNatClampNeg)).toInt < (gT z_t 24 ((18 + (0 : Int32)).toNatClampNeg)).toInt ∨ (gT z_t 24 ((18 + (6 : Int32)).toNatClampNeg)).toInt < (gT z_t 24 ((18 + (7 : Int32)).toNatClampNeg)).toInt) ∧ ((gT z_t 24 ((18 + (3 : Int32)).toNatClampNeg)).toInt < (gT z_t 24 ((18 + (1 : Int32)).toNatClampNeg)).toInt ∨ (gT z_t 24 ((18 + (7 : Int32)).toNatClampNeg)).toInt < (gT z_t 24 ((18 + (6 : Int32)).toNatClampNeg)).toInt) by first | (intro q; exact absurd q (by decide)) | (intro _; omega))
            · skip
              have r_499 := n_rng r40
              have r_500 := n_rng r42
              have c_478i : r40.toInt ≥ r42.toInt := bI_nlt rfl rfl c_478
              refine ok_bd (t_fX9_gameOf (by first | omega | assumption | decide | (show 0 ≤ (3 : Int32).toInt ∧ (3 : Int32).toInt ≤ 7; first | omega | assumption))) (fun r22 q_501 => ?_)
              have h_502 : r22 = gT z_t 24 ((18 + (3 : Int32)).toNatClampNeg) := q_501
              clear q_501
              have := congrArg Int32.toInt h_502
              refine ok_bd (t_fX9_gameOf (by first | omega | assumption | decide | (show 0 ≤ (1 : Int32).toInt ∧ (1 : Int32).toInt ≤ 7; first | omega | assumption))) (fun r24 q_503 => ?_)
              have h_504 : r24 = gT z_t 24 ((18 + (1 : Int32)).toNatClampNeg) := q_503
              clear q_503
              have := congrArg Int32.toInt h_504
              refine ok_jn ?_
              refine ok_jn ?_
              refine ok_ite (fun c_505 => ?_) (fun c_505 => ?_)
              · skip
                have r_506 := n_rng r22
                have r_507 := n_rng r24
                have c_505i : r22.toInt < r24.toInt := bI_lt rfl rfl c_505
                exact ok_some (show ((((0 : Int32) ||| 2) ||| 4) ||| 0).toInt ≤ 0 → ((gT z_t 24 ((18 + (0 : Int32)).toNatClampNeg)).toInt < (gT z_t 24 ((18 + (2 : Int32)).toNatClampNeg)).toInt ∨ (gT z_t 24 ((18 + (4 : Int32)).toNatClampNeg)).toInt < (gT z_t 24 ((18 + (5 : Int32)).toNatClampNeg)).toInt) ∧ ((gT z_t 24 ((18 + (1 : Int32)).toNatClampNeg)).toInt < (gT z_t 24 ((18 + (3 : Int32)).toNatClampNeg)).toInt ∨ (gT z_t 24 ((18 + (5 : Int32)).toNatClampNeg)).toInt < (gT z_t 24 ((18 + (4 : Int32)).toNatClampNeg)).toInt) ∧ ((gT z_t 24 ((18 + (2 : Int32)).toNatClampNeg)).toInt < (gT z_t 24 ((18 + (0 : Int32)).toNatClampNeg)).toInt ∨ (gT z_t 24 ((18 + (6 : Int32)).toNatClampNeg)).toInt < (gT z_t 24 ((18 + (7 : Int32)).toNatClampNeg)).toInt) ∧ ((gT z_t 24 ((18 + (3 : Int32)).toNatClampNeg)).toInt < (gT z_t 24 ((18 + (1 : Int32)).toNatClampNeg)).toInt ∨ (gT z_t 24 ((18 + (7 : Int32)).toNatClampNeg)).toInt < (gT z_t 24 ((18 + (6 : Int32)).toNatClampNeg)).toInt) by first | (intro q; exact absurd q (by decide)) | (intro _; omega))
              · skip
                have r_508 := n_rng r22
                have r_509 := n_rng r24
                have c_505i : r22.toInt ≥ r24.toInt := bI_nlt rfl rfl c_505
                refine ok_bd (t_fX9_gameOf (by first | omega | assumption | decide | (show 0 ≤ (7 : Int32).toInt ∧ (7 : Int32).toInt ≤ 7; first | omega | assumption))) (fun r32 q_510 => ?_)
                have h_511 : r32 = gT z_t 24 ((18 + (7 : Int32)).toNatClampNeg) := q_510
                clear q_510
                have := congrArg Int32.toInt h_511
                refine ok_bd (t_fX9_gameOf (by first | omega | assumption | decide | (show 0 ≤ (6 : Int32).toInt ∧ (6 : Int32).toInt ≤ 7; first | omega | assumption))) (fun r34 q_512 => ?_)
                have h_513 : r34 = gT z_t 24 ((18 + (6 : Int32)).toNatClampNeg) := q_512
                clear q_512
                have := congrArg Int32.toInt h_513
                refine ok_ite (fun c_514 => ?_) (fun c_514 => ?_)
                · skip
                  have r_515 := n_rng r32
                  have r_516 := n_rng r34
                  have c_514i : r32.toInt < r34.toInt := bI_lt rfl rfl c_514
                  exact ok_some (show ((((0 : Int32) ||| 2) ||| 4) ||| 0).toInt ≤ 0 → ((gT z_t 24 ((18 + (0 : Int32)).toNatClampNeg)).toInt < (gT z_t 24 ((18 + (2 : Int32)).toNatClampNeg)).toInt ∨ (gT z_t 24 ((18 + (4 : Int32)).toNatClampNeg)).toInt < (gT z_t 24 ((18 + (5 : Int32)).toNatClampNeg)).toInt) ∧ ((gT z_t 24 ((18 + (1 : Int32)).toNatClampNeg)).toInt < (gT z_t 24 ((18 + (3 : Int32)).toNatClampNeg)).toInt ∨ (gT z_t 24 ((18 + (5 : Int32)).toNatClampNeg)).toInt < (gT z_t 24 ((18 + (4 : Int32)).toNatClampNeg)).toInt) ∧ ((gT z_t 24 ((18 + (2 : Int32)).toNatClampNeg)).toInt < (gT z_t 24 ((18 + (0 : Int32)).toNatClampNeg)).toInt ∨ (gT z_t 24 ((18 + (6 : Int32)).toNatClampNeg)).toInt < (gT z_t 24 ((18 + (7 : Int32)).toNatClampNeg)).toInt) ∧ ((gT z_t 24 ((18 + (3 : Int32)).toNatClampNeg)).toInt < (gT z_t 24 ((18 + (1 : Int32)).toNatClampNeg)).toInt ∨ (gT z_t 24 ((18 + (7 : Int32)).toNatClampNeg)).toInt < (gT z_t 24 ((18 + (6 : Int32)).toNatClampNeg)).toInt) by first | (intro q; exact absurd q (by decide)) | (intro _; omega))
                · skip
                  have r_517 := n_rng r32
                  have r_518 := n_rng r34
                  have c_514i : r32.toInt ≥ r34.toInt := bI_nlt rfl rfl c_514
                  exact ok_some (show ((((0 : Int32) ||| 2) ||| 4) ||| 8).toInt ≤ 0 → ((gT z_t 24 ((18 + (0 : Int32)).toNatClampNeg)).toInt < (gT z_t 24 ((18 + (2 : Int32)).toNatClampNeg)).toInt ∨ (gT z_t 24 ((18 + (4 : Int32)).toNatClampNeg)).toInt < (gT z_t 24 ((18 + (5 : Int32)).toNatClampNeg)).toInt) ∧ ((gT z_t 24 ((18 + (1 : Int32)).toNatClampNeg)).toInt < (gT z_t 24 ((18 + (3 : Int32)).toNatClampNeg)).toInt ∨ (gT z_t 24 ((18 + (5 : Int32)).toNatClampNeg)).toInt < (gT z_t 24 ((18 + (4 : Int32)).toNatClampNeg)).toInt) ∧ ((gT z_t 24 ((18 + (2 : Int32)).toNatClampNeg)).toInt < (gT z_t 24 ((18 + (0 : Int32)).toNatClampNeg)).toInt ∨ (gT z_t 24 ((18 + (6 : Int32)).toNatClampNeg)).toInt < (gT z_t 24 ((18 + (7 : Int32)).toNatClampNeg)).toInt) ∧ ((gT z_t 24 ((18 + (3 : Int32)).toNatClampNeg)).toInt < (gT z_t 24 ((18 + (1 : Int32)).toNatClampNeg)).toInt ∨ (gT z_t 24 ((18 + (7 : Int32)).toNatClampNeg)).toInt < (gT z_t 24 ((18 + (6 : Int32)).toNatClampNeg)).toInt) by first | (intro q; exact absurd q (by decide)) | (intro _; omega))
    · skip
      have r_519 := n_rng r55
      have r_520 := n_rng r57
      have c_268i : r55.toInt ≥ r57.toInt := bI_nlt rfl rfl c_268
      have e_522 : (1 : Int32).toInt = 1 := (show (1 : Int32).toInt = 1 by decide)
      refine ok_bd (t_fX9_gameOf (by first | omega | assumption | decide | (show 0 ≤ (1 : Int32).toInt ∧ (1 : Int32).toInt ≤ 7; first | omega | assumption))) (fun r8 q_521 => ?_)
      have h_523 : r8 = gT z_t 24 ((18 + (1 : Int32)).toNatClampNeg) := q_521
      clear q_521
      have := congrArg Int32.toInt h_523
      have e_525 : (3 : Int32).toInt = 3 := (show (3 : Int32).toInt = 3 by decide)
      refine ok_bd (t_fX9_gameOf (by first | omega | assumption | decide | (show 0 ≤ (3 : Int32).toInt ∧ (3 : Int32).toInt ≤ 7; first | omega | assumption))) (fun r10 q_524 => ?_)
      have h_526 : r10 = gT z_t 24 ((18 + (3 : Int32)).toNatClampNeg) := q_524
      clear q_524
      have := congrArg Int32.toInt h_526
      refine ok_jn ?_
      refine ok_jn ?_
      refine ok_ite (fun c_527 => ?_) (fun c_527 => ?_)
      · skip
        have r_528 := n_rng r8
        have r_529 := n_rng r10
        have c_527i : r8.toInt < r10.toInt := bI_lt rfl rfl c_527
        refine ok_bd (t_fX9_gameOf (by first | omega | assumption | decide | (show 0 ≤ (2 : Int32).toInt ∧ (2 : Int32).toInt ≤ 7; first | omega | assumption))) (fun r15 q_530 => ?_)
        have h_531 : r15 = gT z_t 24 ((18 + (2 : Int32)).toNatClampNeg) := q_530
        clear q_530
        have := congrArg Int32.toInt h_531
        refine ok_bd (t_fX9_gameOf (by first | omega | assumption | decide | (show 0 ≤ (0 : Int32).toInt ∧ (0 : Int32).toInt ≤ 7; first | omega | assumption))) (fun r17 q_532 => ?_)
        have h_533 : r17 = gT z_t 24 ((18 + (0 : Int32)).toNatClampNeg) := q_532
        clear q_532
        have := congrArg Int32.toInt h_533
        refine ok_jn ?_
        refine ok_jn ?_
        refine ok_ite (fun c_534 => ?_) (fun c_534 => ?_)
        · skip
          have r_535 := n_rng r15
          have r_536 := n_rng r17
          have c_534i : r15.toInt < r17.toInt := bI_lt rfl rfl c_534
          refine ok_bd (t_fX9_gameOf (by first | omega | assumption | decide | (show 0 ≤ (3 : Int32).toInt ∧ (3 : Int32).toInt ≤ 7; first | omega | assumption))) (fun r22 q_537 => ?_)
          have h_538 : r22 = gT z_t 24 ((18 + (3 : Int32)).toNatClampNeg) := q_537
          clear q_537
          have := congrArg Int32.toInt h_538
          refine ok_bd (t_fX9_gameOf (by first | omega | assumption | decide | (show 0 ≤ (1 : Int32).toInt ∧ (1 : Int32).toInt ≤ 7; first | omega | assumption))) (fun r24 q_539 => ?_)
          have h_540 : r24 = gT z_t 24 ((18 + (1 : Int32)).toNatClampNeg) := q_539
          clear q_539
          have := congrArg Int32.toInt h_540
          refine ok_jn ?_
          refine ok_jn ?_
          refine ok_ite (fun c_541 => ?_) (fun c_541 => ?_)
          · skip
            have r_542 := n_rng r22
            have r_543 := n_rng r24
            have c_541i : r22.toInt < r24.toInt := bI_lt rfl rfl c_541
            exact ok_some (show ((((1 : Int32) ||| 0) ||| 0) ||| 0).toInt ≤ 0 → ((gT z_t 24 ((18 + (0 : Int32)).toNatClampNeg)).toInt < (gT z_t 24 ((18 + (2 : Int32)).toNatClampNeg)).toInt ∨ (gT z_t 24 ((18 + (4 : Int32)).toNatClampNeg)).toInt < (gT z_t 24 ((18 + (5 : Int32)).toNatClampNeg)).toInt) ∧ ((gT z_t 24 ((18 + (1 : Int32)).toNatClampNeg)).toInt < (gT z_t 24 ((18 + (3 : Int32)).toNatClampNeg)).toInt ∨ (gT z_t 24 ((18 + (5 : Int32)).toNatClampNeg)).toInt < (gT z_t 24 ((18 + (4 : Int32)).toNatClampNeg)).toInt) ∧ ((gT z_t 24 ((18 + (2 : Int32)).toNatClampNeg)).toInt < (gT z_t 24 ((18 + (0 : Int32)).toNatClampNeg)).toInt ∨ (gT z_t 24 ((18 + (6 : Int32)).toNatClampNeg)).toInt < (gT z_t 24 ((18 + (7 : Int32)).toNatClampNeg)).toInt) ∧ ((gT z_t 24 ((18 + (3 : Int32)).toNatClampNeg)).toInt < (gT z_t 24 ((18 + (1 : Int32)).toNatClampNeg)).toInt ∨ (gT z_t 24 ((18 + (7 : Int32)).toNatClampNeg)).toInt < (gT z_t 24 ((18 + (6 : Int32)).toNatClampNeg)).toInt) by first | (intro q; exact absurd q (by decide)) | (intro _; omega))
          · skip
            have r_544 := n_rng r22
            have r_545 := n_rng r24
            have c_541i : r22.toInt ≥ r24.toInt := bI_nlt rfl rfl c_541
            have e_547 : (7 : Int32).toInt = 7 := (show (7 : Int32).toInt = 7 by decide)
            refine ok_bd (t_fX9_gameOf (by first | omega | assumption | decide | (show 0 ≤ (7 : Int32).toInt ∧ (7 : Int32).toInt ≤ 7; first | omega | assumption))) (fun r32 q_546 => ?_)
            have h_548 : r32 = gT z_t 24 ((18 + (7 : Int32)).toNatClampNeg) := q_546
            clear q_546
            have := congrArg Int32.toInt h_548
            have e_550 : (6 : Int32).toInt = 6 := (show (6 : Int32).toInt = 6 by decide)
            refine ok_bd (t_fX9_gameOf (by first | omega | assumption | decide | (show 0 ≤ (6 : Int32).toInt ∧ (6 : Int32).toInt ≤ 7; first | omega | assumption))) (fun r34 q_549 => ?_)
            have h_551 : r34 = gT z_t 24 ((18 + (6 : Int32)).toNatClampNeg) := q_549
            clear q_549
            have := congrArg Int32.toInt h_551
            refine ok_ite (fun c_552 => ?_) (fun c_552 => ?_)
            · skip
              have r_553 := n_rng r32
              have r_554 := n_rng r34
              have c_552i : r32.toInt < r34.toInt := bI_lt rfl rfl c_552
              exact ok_some (show ((((1 : Int32) ||| 0) ||| 0) ||| 0).toInt ≤ 0 → ((gT z_t 24 ((18 + (0 : Int32)).toNatClampNeg)).toInt < (gT z_t 24 ((18 + (2 : Int32)).toNatClampNeg)).toInt ∨ (gT z_t 24 ((18 + (4 : Int32)).toNatClampNeg)).toInt < (gT z_t 24 ((18 + (5 : Int32)).toNatClampNeg)).toInt) ∧ ((gT z_t 24 ((18 + (1 : Int32)).toNatClampNeg)).toInt < (gT z_t 24 ((18 + (3 : Int32)).toNatClampNeg)).toInt ∨ (gT z_t 24 ((18 + (5 : Int32)).toNatClampNeg)).toInt < (gT z_t 24 ((18 + (4 : Int32)).toNatClampNeg)).toInt) ∧ ((gT z_t 24 ((18 + (2 : Int32)).toNatClampNeg)).toInt < (gT z_t 24 ((18 + (0 : Int32)).toNatClampNeg)).toInt ∨ (gT z_t 24 ((18 + (6 : Int32)).toNatClampNeg)).toInt < (gT z_t 24 ((18 + (7 : Int32)).toNatClampNeg)).toInt) ∧ ((gT z_t 24 ((18 + (3 : Int32)).toNatClampNeg)).toInt < (gT z_t 24 ((18 + (1 : Int32)).toNatClampNeg)).toInt ∨ (gT z_t 24 ((18 + (7 : Int32)).toNatClampNeg)).toInt < (gT z_t 24 ((18 + (6 : Int32)).toNatClampNeg)).toInt) by first | (intro q; exact absurd q (by decide)) | (intro _; omega))
            · skip
              have r_555 := n_rng r32
              have r_556 := n_rng r34
              have c_552i : r32.toInt ≥ r34.toInt := bI_nlt rfl rfl c_552
              exact ok_some (show ((((1 : Int32) ||| 0) ||| 0) ||| 8).toInt ≤ 0 → ((gT z_t 24 ((18 + (0 : Int32)).toNatClampNeg)).toInt < (gT z_t 24 ((18 + (2 : Int32)).toNatClampNeg)).toInt ∨ (gT z_t 24 ((18 + (4 : Int32)).toNatClampNeg)).toInt < (gT z_t 24 ((18 + (5 : Int32)).toNatClampNeg)).toInt) ∧ ((gT z_t 24 ((18 + (1 : Int32)).toNatClampNeg)).toInt < (gT z_t 24 ((18 + (3 : Int32)).toNatClampNeg)).toInt ∨ (gT z_t 24 ((18 + (5 : Int32)).toNatClampNeg)).toInt < (gT z_t 24 ((18 + (4 : Int32)).toNatClampNeg)).toInt) ∧ ((gT z_t 24 ((18 + (2 : Int32)).toNatClampNeg)).toInt < (gT z_t 24 ((18 + (0 : Int32)).toNatClampNeg)).toInt ∨ (gT z_t 24 ((18 + (6 : Int32)).toNatClampNeg)).toInt < (gT z_t 24 ((18 + (7 : Int32)).toNatClampNeg)).toInt) ∧ ((gT z_t 24 ((18 + (3 : Int32)).toNatClampNeg)).toInt < (gT z_t 24 ((18 + (1 : Int32)).toNatClampNeg)).toInt ∨ (gT z_t 24 ((18 + (7 : Int32)).toNatClampNeg)).toInt < (gT z_t 24 ((18 + (6 : Int32)).toNatClampNeg)).toInt) by first | (intro q; exact absurd q (by decide)) | (intro _; omega))
        · skip
          have r_557 := n_rng r15
          have r_558 := n_rng r17
          have c_534i : r15.toInt ≥ r17.toInt := bI_nlt rfl rfl c_534
          have e_560 : (6 : Int32).toInt = 6 := (show (6 : Int32).toInt = 6 by decide)
          refine ok_bd (t_fX9_gameOf (by first | omega | assumption | decide | (show 0 ≤ (6 : Int32).toInt ∧ (6 : Int32).toInt ≤ 7; first | omega | assumption))) (fun r40 q_559 => ?_)
          have h_561 : r40 = gT z_t 24 ((18 + (6 : Int32)).toNatClampNeg) := q_559
          clear q_559
          have := congrArg Int32.toInt h_561
          have e_563 : (7 : Int32).toInt = 7 := (show (7 : Int32).toInt = 7 by decide)
          refine ok_bd (t_fX9_gameOf (by first | omega | assumption | decide | (show 0 ≤ (7 : Int32).toInt ∧ (7 : Int32).toInt ≤ 7; first | omega | assumption))) (fun r42 q_562 => ?_)
          have h_564 : r42 = gT z_t 24 ((18 + (7 : Int32)).toNatClampNeg) := q_562
          clear q_562
          have := congrArg Int32.toInt h_564
          refine ok_ite (fun c_565 => ?_) (fun c_565 => ?_)
          · skip
            have r_566 := n_rng r40
            have r_567 := n_rng r42
            have c_565i : r40.toInt < r42.toInt := bI_lt rfl rfl c_565
            refine ok_bd (t_fX9_gameOf (by first | omega | assumption | decide | (show 0 ≤ (3 : Int32).toInt ∧ (3 : Int32).toInt ≤ 7; first | omega | assumption))) (fun r22 q_568 => ?_)
            have h_569 : r22 = gT z_t 24 ((18 + (3 : Int32)).toNatClampNeg) := q_568
            clear q_568
            have := congrArg Int32.toInt h_569
            refine ok_bd (t_fX9_gameOf (by first | omega | assumption | decide | (show 0 ≤ (1 : Int32).toInt ∧ (1 : Int32).toInt ≤ 7; first | omega | assumption))) (fun r24 q_570 => ?_)
            have h_571 : r24 = gT z_t 24 ((18 + (1 : Int32)).toNatClampNeg) := q_570
            clear q_570
            have := congrArg Int32.toInt h_571
            refine ok_jn ?_
            refine ok_jn ?_
            refine ok_ite (fun c_572 => ?_) (fun c_572 => ?_)
            · skip
              have r_573 := n_rng r22
              have r_574 := n_rng r24
              have c_572i : r22.toInt < r24.toInt := bI_lt rfl rfl c_572
              exact ok_some (show ((((1 : Int32) ||| 0) ||| 0) ||| 0).toInt ≤ 0 → ((gT z_t 24 ((18 + (0 : Int32)).toNatClampNeg)).toInt < (gT z_t 24 ((18 + (2 : Int32)).toNatClampNeg)).toInt ∨ (gT z_t 24 ((18 + (4 : Int32)).toNatClampNeg)).toInt < (gT z_t 24 ((18 + (5 : Int32)).toNatClampNeg)).toInt) ∧ ((gT z_t 24 ((18 + (1 : Int32)).toNatClampNeg)).toInt < (gT z_t 24 ((18 + (3 : Int32)).toNatClampNeg)).toInt ∨ (gT z_t 24 ((18 + (5 : Int32)).toNatClampNeg)).toInt < (gT z_t 24 ((18 + (4 : Int32)).toNatClampNeg)).toInt) ∧ ((gT z_t 24 ((18 + (2 : Int32)).toNatClampNeg)).toInt < (gT z_t 24 ((18 + (0 : Int32)).toNatClampNeg)).toInt ∨ (gT z_t 24 ((18 + (6 : Int32)).toNatClampNeg)).toInt < (gT z_t 24 ((18 + (7 : Int32)).toNatClampNeg)).toInt) ∧ ((gT z_t 24 ((18 + (3 : Int32)).toNatClampNeg)).toInt < (gT z_t 24 ((18 + (1 : Int32)).toNatClampNeg)).toInt ∨ (gT z_t 24 ((18 + (7 : Int32)).toNatClampNeg)).toInt < (gT z_t 24 ((18 + (6 : Int32)).toNatClampNeg)).toInt) by first | (intro q; exact absurd q (by decide)) | (intro _; omega))
            · skip
              have r_575 := n_rng r22
              have r_576 := n_rng r24
              have c_572i : r22.toInt ≥ r24.toInt := bI_nlt rfl rfl c_572
              refine ok_bd (t_fX9_gameOf (by first | omega | assumption | decide | (show 0 ≤ (7 : Int32).toInt ∧ (7 : Int32).toInt ≤ 7; first | omega | assumption))) (fun r32 q_577 => ?_)
              have h_578 : r32 = gT z_t 24 ((18 + (7 : Int32)).toNatClampNeg) := q_577
              clear q_577
              have := congrArg Int32.toInt h_578
              refine ok_bd (t_fX9_gameOf (by first | omega | assumption | decide | (show 0 ≤ (6 : Int32).toInt ∧ (6 : Int32).toInt ≤ 7; first | omega | assumption))) (fun r34 q_579 => ?_)
              have h_580 : r34 = gT z_t 24 ((18 + (6 : Int32)).toNatClampNeg) := q_579
              clear q_579
              have := congrArg Int32.toInt h_580
              refine ok_ite (fun c_581 => ?_) (fun c_581 => ?_)
              · skip
                have r_582 := n_rng r32
                have r_583 := n_rng r34
                have c_581i : r32.toInt < r34.toInt := bI_lt rfl rfl c_581
                exact ok_some (show ((((1 : Int32) ||| 0) ||| 0) ||| 0).toInt ≤ 0 → ((gT z_t 24 ((18 + (0 : Int32)).toNatClampNeg)).toInt < (gT z_t 24 ((18 + (2 : Int32)).toNatClampNeg)).toInt ∨ (gT z_t 24 ((18 + (4 : Int32)).toNatClampNeg)).toInt < (gT z_t 24 ((18 + (5 : Int32)).toNatClampNeg)).toInt) ∧ ((gT z_t 24 ((18 + (1 : Int32)).toNatClampNeg)).toInt < (gT z_t 24 ((18 + (3 : Int32)).toNatClampNeg)).toInt ∨ (gT z_t 24 ((18 + (5 : Int32)).toNatClampNeg)).toInt < (gT z_t 24 ((18 + (4 : Int32)).toNatClampNeg)).toInt) ∧ ((gT z_t 24 ((18 + (2 : Int32)).toNatClampNeg)).toInt < (gT z_t 24 ((18 + (0 : Int32)).toNatClampNeg)).toInt ∨ (gT z_t 24 ((18 + (6 : Int32)).toNatClampNeg)).toInt < (gT z_t 24 ((18 + (7 : Int32)).toNatClampNeg)).toInt) ∧ ((gT z_t 24 ((18 + (3 : Int32)).toNatClampNeg)).toInt < (gT z_t 24 ((18 + (1 : Int32)).toNatClampNeg)).toInt ∨ (gT z_t 24 ((18 + (7 : Int32)).toNatClampNeg)).toInt < (gT z_t 24 ((18 + (6 : Int32)).toNatClampNeg)).toInt) by first | (intro q; exact absurd q (by decide)) | (intro _; omega))
              · skip
                have r_584 := n_rng r32
                have r_585 := n_rng r34
                have c_581i : r32.toInt ≥ r34.toInt := bI_nlt rfl rfl c_581
                exact ok_some (show ((((1 : Int32) ||| 0) ||| 0) ||| 8).toInt ≤ 0 → ((gT z_t 24 ((18 + (0 : Int32)).toNatClampNeg)).toInt < (gT z_t 24 ((18 + (2 : Int32)).toNatClampNeg)).toInt ∨ (gT z_t 24 ((18 + (4 : Int32)).toNatClampNeg)).toInt < (gT z_t 24 ((18 + (5 : Int32)).toNatClampNeg)).toInt) ∧ ((gT z_t 24 ((18 + (1 : Int32)).toNatClampNeg)).toInt < (gT z_t 24 ((18 + (3 : Int32)).toNatClampNeg)).toInt ∨ (gT z_t 24 ((18 + (5 : Int32)).toNatClampNeg)).toInt < (gT z_t 24 ((18 + (4 : Int32)).toNatClampNeg)).toInt) ∧ ((gT z_t 24 ((18 + (2 : Int32)).toNatClampNeg)).toInt < (gT z_t 24 ((18 + (0 : Int32)).toNatClampNeg)).toInt ∨ (gT z_t 24 ((18 + (6 : Int32)).toNatClampNeg)).toInt < (gT z_t 24 ((18 + (7 : Int32)).toNatClampNeg)).toInt) ∧ ((gT z_t 24 ((18 + (3 : Int32)).toNatClampNeg)).toInt < (gT z_t 24 ((18 + (1 : Int32)).toNatClampNeg)).toInt ∨ (gT z_t 24 ((18 + (7 : Int32)).toNatClampNeg)).toInt < (gT z_t 24 ((18 + (6 : Int32)).toNatClampNeg)).toInt) by first | (intro q; exact absurd q (by decide)) | (intro _; omega))
          · skip
            have r_586 := n_rng r40
            have r_587 := n_rng r42
            have c_565i : r40.toInt ≥ r42.toInt := bI_nlt rfl rfl c_565
            refine ok_bd (t_fX9_gameOf (by first | omega | assumption | decide | (show 0 ≤ (3 : Int32).toInt ∧ (3 : Int32).toInt ≤ 7; first | omega | assumption))) (fun r22 q_588 => ?_)
            have h_589 : r22 = gT z_t 24 ((18 + (3 : Int32)).toNatClampNeg) := q_588
            clear q_588
            have := congrArg Int32.toInt h_589
            refine ok_bd (t_fX9_gameOf (by first | omega | assumption | decide | (show 0 ≤ (1 : Int32).toInt ∧ (1 : Int32).toInt ≤ 7; first | omega | assumption))) (fun r24 q_590 => ?_)
            have h_591 : r24 = gT z_t 24 ((18 + (1 : Int32)).toNatClampNeg) := q_590
            clear q_590
            have := congrArg Int32.toInt h_591
            refine ok_jn ?_
            refine ok_jn ?_
            refine ok_ite (fun c_592 => ?_) (fun c_592 => ?_)
            · skip
              have r_593 := n_rng r22
              have r_594 := n_rng r24
              have c_592i : r22.toInt < r24.toInt := bI_lt rfl rfl c_592
              exact ok_some (show ((((1 : Int32) ||| 0) ||| 4) ||| 0).toInt ≤ 0 → ((gT z_t 24 ((18 + (0 : Int32)).toNatClampNeg)).toInt < (gT z_t 24 ((18 + (2 : Int32)).toNatClampNeg)).toInt ∨ (gT z_t 24 ((18 + (4 : Int32)).toNatClampNeg)).toInt < (gT z_t 24 ((18 + (5 : Int32)).toNatClampNeg)).toInt) ∧ ((gT z_t 24 ((18 + (1 : Int32)).toNatClampNeg)).toInt < (gT z_t 24 ((18 + (3 : Int32)).toNatClampNeg)).toInt ∨ (gT z_t 24 ((18 + (5 : Int32)).toNatClampNeg)).toInt < (gT z_t 24 ((18 + (4 : Int32)).toNatClampNeg)).toInt) ∧ ((gT z_t 24 ((18 + (2 : Int32)).toNatClampNeg)).toInt < (gT z_t 24 ((18 + (0 : Int32)).toNatClampNeg)).toInt ∨ (gT z_t 24 ((18 + (6 : Int32)).toNatClampNeg)).toInt < (gT z_t 24 ((18 + (7 : Int32)).toNatClampNeg)).toInt) ∧ ((gT z_t 24 ((18 + (3 : Int32)).toNatClampNeg)).toInt < (gT z_t 24 ((18 + (1 : Int32)).toNatClampNeg)).toInt ∨ (gT z_t 24 ((18 + (7 : Int32)).toNatClampNeg)).toInt < (gT z_t 24 ((18 + (6 : Int32)).toNatClampNeg)).toInt) by first | (intro q; exact absurd q (by decide)) | (intro _; omega))
            · skip
              have r_595 := n_rng r22
              have r_596 := n_rng r24
              have c_592i : r22.toInt ≥ r24.toInt := bI_nlt rfl rfl c_592
              refine ok_bd (t_fX9_gameOf (by first | omega | assumption | decide | (show 0 ≤ (7 : Int32).toInt ∧ (7 : Int32).toInt ≤ 7; first | omega | assumption))) (fun r32 q_597 => ?_)
              have h_598 : r32 = gT z_t 24 ((18 + (7 : Int32)).toNatClampNeg) := q_597
              clear q_597
              have := congrArg Int32.toInt h_598
              refine ok_bd (t_fX9_gameOf (by first | omega | assumption | decide | (show 0 ≤ (6 : Int32).toInt ∧ (6 : Int32).toInt ≤ 7; first | omega | assumption))) (fun r34 q_599 => ?_)
              have h_600 : r34 = gT z_t 24 ((18 + (6 : Int32)).toNatClampNeg) := q_599
              clear q_599
              have := congrArg Int32.toInt h_600
              refine ok_ite (fun c_601 => ?_) (fun c_601 => ?_)
              · skip
                have r_602 := n_rng r32
                have r_603 := n_rng r34
                have c_601i : r32.toInt < r34.toInt := bI_lt rfl rfl c_601
                exact ok_some (show ((((1 : Int32) ||| 0) ||| 4) ||| 0).toInt ≤ 0 → ((gT z_t 24 ((18 + (0 : Int32)).toNatClampNeg)).toInt < (gT z_t 24 ((18 + (2 : Int32)).toNatClampNeg)).toInt ∨ (gT z_t 24 ((18 + (4 : Int32)).toNatClampNeg)).toInt < (gT z_t 24 ((18 + (5 : Int32)).toNatClampNeg)).toInt) ∧ ((gT z_t 24 ((18 + (1 : Int32)).toNatClampNeg)).toInt < (gT z_t 24 ((18 + (3 : Int32)).toNatClampNeg)).toInt ∨ (gT z_t 24 ((18 + (5 : Int32)).toNatClampNeg)).toInt < (gT z_t 24 ((18 + (4 : Int32)).toNatClampNeg)).toInt) ∧ ((gT z_t 24 ((18 + (2 : Int32)).toNatClampNeg)).toInt < (gT z_t 24 ((18 + (0 : Int32)).toNatClampNeg)).toInt ∨ (gT z_t 24 ((18 + (6 : Int32)).toNatClampNeg)).toInt < (gT z_t 24 ((18 + (7 : Int32)).toNatClampNeg)).toInt) ∧ ((gT z_t 24 ((18 + (3 : Int32)).toNatClampNeg)).toInt < (gT z_t 24 ((18 + (1 : Int32)).toNatClampNeg)).toInt ∨ (gT z_t 24 ((18 + (7 : Int32)).toNatClampNeg)).toInt < (gT z_t 24 ((18 + (6 : Int32)).toNatClampNeg)).toInt) by first | (intro q; exact absurd q (by decide)) | (intro _; omega))
              · skip
                have r_604 := n_rng r32
                have r_605 := n_rng r34
                have c_601i : r32.toInt ≥ r34.toInt := bI_nlt rfl rfl c_601
                exact ok_some (show ((((1 : Int32) ||| 0) ||| 4) ||| 8).toInt ≤ 0 → ((gT z_t 24 ((18 + (0 : Int32)).toNatClampNeg)).toInt < (gT z_t 24 ((18 + (2 : Int32)).toNatClampNeg)).toInt ∨ (gT z_t 24 ((18 + (4 : Int32)).toNatClampNeg)).toInt < (gT z_t 24 ((18 + (5 : Int32)).toNatClampNeg)).toInt) ∧ ((gT z_t 24 ((18 + (1 : Int32)).toNatClampNeg)).toInt < (gT z_t 24 ((18 + (3 : Int32)).toNatClampNeg)).toInt ∨ (gT z_t 24 ((18 + (5 : Int32)).toNatClampNeg)).toInt < (gT z_t 24 ((18 + (4 : Int32)).toNatClampNeg)).toInt) ∧ ((gT z_t 24 ((18 + (2 : Int32)).toNatClampNeg)).toInt < (gT z_t 24 ((18 + (0 : Int32)).toNatClampNeg)).toInt ∨ (gT z_t 24 ((18 + (6 : Int32)).toNatClampNeg)).toInt < (gT z_t 24 ((18 + (7 : Int32)).toNatClampNeg)).toInt) ∧ ((gT z_t 24 ((18 + (3 : Int32)).toNatClampNeg)).toInt < (gT z_t 24 ((18 + (1 : Int32)).toNatClampNeg)).toInt ∨ (gT z_t 24 ((18 + (7 : Int32)).toNatClampNeg)).toInt < (gT z_t 24 ((18 + (6 : Int32)).toNatClampNeg)).toInt) by first | (intro q; exact absurd q (by decide)) | (intro _; omega))
      · skip
        have r_606 := n_rng r8
        have r_607 := n_rng r10
        have c_527i : r8.toInt ≥ r10.toInt := bI_nlt rfl rfl c_527
        refine ok_bd (t_fX9_gameOf (by first | omega | assumption | decide | (show 0 ≤ (5 : Int32).toInt ∧ (5 : Int32).toInt ≤ 7; first | omega | assumption))) (fun r48 q_608 => ?_)
        have h_609 : r48 = gT z_t 24 ((18 + (5 : Int32)).toNatClampNeg) := q_608
        clear q_608
        have := congrArg Int32.toInt h_609
        refine ok_bd (t_fX9_gameOf (by first | omega | assumption | decide | (show 0 ≤ (4 : Int32).toInt ∧ (4 : Int32).toInt ≤ 7; first | omega | assumption))) (fun r50 q_610 => ?_)
        have h_611 : r50 = gT z_t 24 ((18 + (4 : Int32)).toNatClampNeg) := q_610
        clear q_610
        have := congrArg Int32.toInt h_611
        refine ok_ite (fun c_612 => ?_) (fun c_612 => ?_)
        · skip
          have r_613 := n_rng r48
          have r_614 := n_rng r50
          have c_612i : r48.toInt < r50.toInt := bI_lt rfl rfl c_612
          refine ok_bd (t_fX9_gameOf (by first | omega | assumption | decide | (show 0 ≤ (2 : Int32).toInt ∧ (2 : Int32).toInt ≤ 7; first | omega | assumption))) (fun r15 q_615 => ?_)
          have h_616 : r15 = gT z_t 24 ((18 + (2 : Int32)).toNatClampNeg) := q_615
          clear q_615
          have := congrArg Int32.toInt h_616
          refine ok_bd (t_fX9_gameOf (by first | omega | assumption | decide | (show 0 ≤ (0 : Int32).toInt ∧ (0 : Int32).toInt ≤ 7; first | omega | assumption))) (fun r17 q_617 => ?_)
          have h_618 : r17 = gT z_t 24 ((18 + (0 : Int32)).toNatClampNeg) := q_617
          clear q_617
          have := congrArg Int32.toInt h_618
          refine ok_jn ?_
          refine ok_jn ?_
          refine ok_ite (fun c_619 => ?_) (fun c_619 => ?_)
          · skip
            have r_620 := n_rng r15
            have r_621 := n_rng r17
            have c_619i : r15.toInt < r17.toInt := bI_lt rfl rfl c_619
            refine ok_bd (t_fX9_gameOf (by first | omega | assumption | decide | (show 0 ≤ (3 : Int32).toInt ∧ (3 : Int32).toInt ≤ 7; first | omega | assumption))) (fun r22 q_622 => ?_)
            have h_623 : r22 = gT z_t 24 ((18 + (3 : Int32)).toNatClampNeg) := q_622
            clear q_622
            have := congrArg Int32.toInt h_623
            refine ok_bd (t_fX9_gameOf (by first | omega | assumption | decide | (show 0 ≤ (1 : Int32).toInt ∧ (1 : Int32).toInt ≤ 7; first | omega | assumption))) (fun r24 q_624 => ?_)
            have h_625 : r24 = gT z_t 24 ((18 + (1 : Int32)).toNatClampNeg) := q_624
            clear q_624
            have := congrArg Int32.toInt h_625
            refine ok_jn ?_
            refine ok_jn ?_
            refine ok_ite (fun c_626 => ?_) (fun c_626 => ?_)
            · skip
              have r_627 := n_rng r22
              have r_628 := n_rng r24
              have c_626i : r22.toInt < r24.toInt := bI_lt rfl rfl c_626
              exact ok_some (show ((((1 : Int32) ||| 0) ||| 0) ||| 0).toInt ≤ 0 → ((gT z_t 24 ((18 + (0 : Int32)).toNatClampNeg)).toInt < (gT z_t 24 ((18 + (2 : Int32)).toNatClampNeg)).toInt ∨ (gT z_t 24 ((18 + (4 : Int32)).toNatClampNeg)).toInt < (gT z_t 24 ((18 + (5 : Int32)).toNatClampNeg)).toInt) ∧ ((gT z_t 24 ((18 + (1 : Int32)).toNatClampNeg)).toInt < (gT z_t 24 ((18 + (3 : Int32)).toNatClampNeg)).toInt ∨ (gT z_t 24 ((18 + (5 : Int32)).toNatClampNeg)).toInt < (gT z_t 24 ((18 + (4 : Int32)).toNatClampNeg)).toInt) ∧ ((gT z_t 24 ((18 + (2 : Int32)).toNatClampNeg)).toInt < (gT z_t 24 ((18 + (0 : Int32)).toNatClampNeg)).toInt ∨ (gT z_t 24 ((18 + (6 : Int32)).toNatClampNeg)).toInt < (gT z_t 24 ((18 + (7 : Int32)).toNatClampNeg)).toInt) ∧ ((gT z_t 24 ((18 + (3 : Int32)).toNatClampNeg)).toInt < (gT z_t 24 ((18 + (1 : Int32)).toNatClampNeg)).toInt ∨ (gT z_t 24 ((18 + (7 : Int32)).toNatClampNeg)).toInt < (gT z_t 24 ((18 + (6 : Int32)).toNatClampNeg)).toInt) by first | (intro q; exact absurd q (by decide)) | (intro _; omega))
            · skip
              have r_629 := n_rng r22
              have r_630 := n_rng r24
              have c_626i : r22.toInt ≥ r24.toInt := bI_nlt rfl rfl c_626
              have e_632 : (7 : Int32).toInt = 7 := (show (7 : Int32).toInt = 7 by decide)
              refine ok_bd (t_fX9_gameOf (by first | omega | assumption | decide | (show 0 ≤ (7 : Int32).toInt ∧ (7 : Int32).toInt ≤ 7; first | omega | assumption))) (fun r32 q_631 => ?_)
              have h_633 : r32 = gT z_t 24 ((18 + (7 : Int32)).toNatClampNeg) := q_631
              clear q_631
              have := congrArg Int32.toInt h_633
              have e_635 : (6 : Int32).toInt = 6 := (show (6 : Int32).toInt = 6 by decide)
              refine ok_bd (t_fX9_gameOf (by first | omega | assumption | decide | (show 0 ≤ (6 : Int32).toInt ∧ (6 : Int32).toInt ≤ 7; first | omega | assumption))) (fun r34 q_634 => ?_)
              have h_636 : r34 = gT z_t 24 ((18 + (6 : Int32)).toNatClampNeg) := q_634
              clear q_634
              have := congrArg Int32.toInt h_636
              refine ok_ite (fun c_637 => ?_) (fun c_637 => ?_)
              · skip
                have r_638 := n_rng r32
                have r_639 := n_rng r34
                have c_637i : r32.toInt < r34.toInt := bI_lt rfl rfl c_637
                exact ok_some (show ((((1 : Int32) ||| 0) ||| 0) ||| 0).toInt ≤ 0 → ((gT z_t 24 ((18 + (0 : Int32)).toNatClampNeg)).toInt < (gT z_t 24 ((18 + (2 : Int32)).toNatClampNeg)).toInt ∨ (gT z_t 24 ((18 + (4 : Int32)).toNatClampNeg)).toInt < (gT z_t 24 ((18 + (5 : Int32)).toNatClampNeg)).toInt) ∧ ((gT z_t 24 ((18 + (1 : Int32)).toNatClampNeg)).toInt < (gT z_t 24 ((18 + (3 : Int32)).toNatClampNeg)).toInt ∨ (gT z_t 24 ((18 + (5 : Int32)).toNatClampNeg)).toInt < (gT z_t 24 ((18 + (4 : Int32)).toNatClampNeg)).toInt) ∧ ((gT z_t 24 ((18 + (2 : Int32)).toNatClampNeg)).toInt < (gT z_t 24 ((18 + (0 : Int32)).toNatClampNeg)).toInt ∨ (gT z_t 24 ((18 + (6 : Int32)).toNatClampNeg)).toInt < (gT z_t 24 ((18 + (7 : Int32)).toNatClampNeg)).toInt) ∧ ((gT z_t 24 ((18 + (3 : Int32)).toNatClampNeg)).toInt < (gT z_t 24 ((18 + (1 : Int32)).toNatClampNeg)).toInt ∨ (gT z_t 24 ((18 + (7 : Int32)).toNatClampNeg)).toInt < (gT z_t 24 ((18 + (6 : Int32)).toNatClampNeg)).toInt) by first | (intro q; exact absurd q (by decide)) | (intro _; omega))
              · skip
                have r_640 := n_rng r32
                have r_641 := n_rng r34
                have c_637i : r32.toInt ≥ r34.toInt := bI_nlt rfl rfl c_637
                exact ok_some (show ((((1 : Int32) ||| 0) ||| 0) ||| 8).toInt ≤ 0 → ((gT z_t 24 ((18 + (0 : Int32)).toNatClampNeg)).toInt < (gT z_t 24 ((18 + (2 : Int32)).toNatClampNeg)).toInt ∨ (gT z_t 24 ((18 + (4 : Int32)).toNatClampNeg)).toInt < (gT z_t 24 ((18 + (5 : Int32)).toNatClampNeg)).toInt) ∧ ((gT z_t 24 ((18 + (1 : Int32)).toNatClampNeg)).toInt < (gT z_t 24 ((18 + (3 : Int32)).toNatClampNeg)).toInt ∨ (gT z_t 24 ((18 + (5 : Int32)).toNatClampNeg)).toInt < (gT z_t 24 ((18 + (4 : Int32)).toNatClampNeg)).toInt) ∧ ((gT z_t 24 ((18 + (2 : Int32)).toNatClampNeg)).toInt < (gT z_t 24 ((18 + (0 : Int32)).toNatClampNeg)).toInt ∨ (gT z_t 24 ((18 + (6 : Int32)).toNatClampNeg)).toInt < (gT z_t 24 ((18 + (7 : Int32)).toNatClampNeg)).toInt) ∧ ((gT z_t 24 ((18 + (3 : Int32)).toNatClampNeg)).toInt < (gT z_t 24 ((18 + (1 : Int32)).toNatClampNeg)).toInt ∨ (gT z_t 24 ((18 + (7 : Int32)).toNatClampNeg)).toInt < (gT z_t 24 ((18 + (6 : Int32)).toNatClampNeg)).toInt) by first | (intro q; exact absurd q (by decide)) | (intro _; omega))
          · skip
            have r_642 := n_rng r15
            have r_643 := n_rng r17
            have c_619i : r15.toInt ≥ r17.toInt := bI_nlt rfl rfl c_619
            have e_645 : (6 : Int32).toInt = 6 := (show (6 : Int32).toInt = 6 by decide)
            refine ok_bd (t_fX9_gameOf (by first | omega | assumption | decide | (show 0 ≤ (6 : Int32).toInt ∧ (6 : Int32).toInt ≤ 7; first | omega | assumption))) (fun r40 q_644 => ?_)
            have h_646 : r40 = gT z_t 24 ((18 + (6 : Int32)).toNatClampNeg) := q_644
            clear q_644
            have := congrArg Int32.toInt h_646
            have e_648 : (7 : Int32).toInt = 7 := (show (7 : Int32).toInt = 7 by decide)
            refine ok_bd (t_fX9_gameOf (by first | omega | assumption | decide | (show 0 ≤ (7 : Int32).toInt ∧ (7 : Int32).toInt ≤ 7; first | omega | assumption))) (fun r42 q_647 => ?_)
            have h_649 : r42 = gT z_t 24 ((18 + (7 : Int32)).toNatClampNeg) := q_647
            clear q_647
            have := congrArg Int32.toInt h_649
            refine ok_ite (fun c_650 => ?_) (fun c_650 => ?_)
            · skip
              have r_651 := n_rng r40
              have r_652 := n_rng r42
              have c_650i : r40.toInt < r42.toInt := bI_lt rfl rfl c_650
              refine ok_bd (t_fX9_gameOf (by first | omega | assumption | decide | (show 0 ≤ (3 : Int32).toInt ∧ (3 : Int32).toInt ≤ 7; first | omega | assumption))) (fun r22 q_653 => ?_)
              have h_654 : r22 = gT z_t 24 ((18 + (3 : Int32)).toNatClampNeg) := q_653
              clear q_653
              have := congrArg Int32.toInt h_654
              refine ok_bd (t_fX9_gameOf (by first | omega | assumption | decide | (show 0 ≤ (1 : Int32).toInt ∧ (1 : Int32).toInt ≤ 7; first | omega | assumption))) (fun r24 q_655 => ?_)
              have h_656 : r24 = gT z_t 24 ((18 + (1 : Int32)).toNatClampNeg) := q_655
              clear q_655
              have := congrArg Int32.toInt h_656
              refine ok_jn ?_
              refine ok_jn ?_
              refine ok_ite (fun c_657 => ?_) (fun c_657 => ?_)
              · skip
                have r_658 := n_rng r22
                have r_659 := n_rng r24
                have c_657i : r22.toInt < r24.toInt := bI_lt rfl rfl c_657
                exact ok_some (show ((((1 : Int32) ||| 0) ||| 0) ||| 0).toInt ≤ 0 → ((gT z_t 24 ((18 + (0 : Int32)).toNatClampNeg)).toInt < (gT z_t 24 ((18 + (2 : Int32)).toNatClampNeg)).toInt ∨ (gT z_t 24 ((18 + (4 : Int32)).toNatClampNeg)).toInt < (gT z_t 24 ((18 + (5 : Int32)).toNatClampNeg)).toInt) ∧ ((gT z_t 24 ((18 + (1 : Int32)).toNatClampNeg)).toInt < (gT z_t 24 ((18 + (3 : Int32)).toNatClampNeg)).toInt ∨ (gT z_t 24 ((18 + (5 : Int32)).toNatClampNeg)).toInt < (gT z_t 24 ((18 + (4 : Int32)).toNatClampNeg)).toInt) ∧ ((gT z_t 24 ((18 + (2 : Int32)).toNatClampNeg)).toInt < (gT z_t 24 ((18 + (0 : Int32)).toNatClampNeg)).toInt ∨ (gT z_t 24 ((18 + (6 : Int32)).toNatClampNeg)).toInt < (gT z_t 24 ((18 + (7 : Int32)).toNatClampNeg)).toInt) ∧ ((gT z_t 24 ((18 + (3 : Int32)).toNatClampNeg)).toInt < (gT z_t 24 ((18 + (1 : Int32)).toNatClampNeg)).toInt ∨ (gT z_t 24 ((18 + (7 : Int32)).toNatClampNeg)).toInt < (gT z_t 24 ((18 + (6 : Int32)).toNatClampNeg)).toInt) by first | (intro q; exact absurd q (by decide)) | (intro _; omega))
              · skip
                have r_660 := n_rng r22
                have r_661 := n_rng r24
                have c_657i : r22.toInt ≥ r24.toInt := bI_nlt rfl rfl c_657
                refine ok_bd (t_fX9_gameOf (by first | omega | assumption | decide | (show 0 ≤ (7 : Int32).toInt ∧ (7 : Int32).toInt ≤ 7; first | omega | assumption))) (fun r32 q_662 => ?_)
                have h_663 : r32 = gT z_t 24 ((18 + (7 : Int32)).toNatClampNeg) := q_662
                clear q_662
                have := congrArg Int32.toInt h_663
                refine ok_bd (t_fX9_gameOf (by first | omega | assumption | decide | (show 0 ≤ (6 : Int32).toInt ∧ (6 : Int32).toInt ≤ 7; first | omega | assumption))) (fun r34 q_664 => ?_)
                have h_665 : r34 = gT z_t 24 ((18 + (6 : Int32)).toNatClampNeg) := q_664
                clear q_664
                have := congrArg Int32.toInt h_665
                refine ok_ite (fun c_666 => ?_) (fun c_666 => ?_)
                · skip
                  have r_667 := n_rng r32
                  have r_668 := n_rng r34
                  have c_666i : r32.toInt < r34.toInt := bI_lt rfl rfl c_666
                  exact ok_some (show ((((1 : Int32) ||| 0) ||| 0) ||| 0).toInt ≤ 0 → ((gT z_t 24 ((18 + (0 : Int32)).toNatClampNeg)).toInt < (gT z_t 24 ((18 + (2 : Int32)).toNatClampNeg)).toInt ∨ (gT z_t 24 ((18 + (4 : Int32)).toNatClampNeg)).toInt < (gT z_t 24 ((18 + (5 : Int32)).toNatClampNeg)).toInt) ∧ ((gT z_t 24 ((18 + (1 : Int32)).toNatClampNeg)).toInt < (gT z_t 24 ((18 + (3 : Int32)).toNatClampNeg)).toInt ∨ (gT z_t 24 ((18 + (5 : Int32)).toNatClampNeg)).toInt < (gT z_t 24 ((18 + (4 : Int32)).toNatClampNeg)).toInt) ∧ ((gT z_t 24 ((18 + (2 : Int32)).toNatClampNeg)).toInt < (gT z_t 24 ((18 + (0 : Int32)).toNatClampNeg)).toInt ∨ (gT z_t 24 ((18 + (6 : Int32)).toNatClampNeg)).toInt < (gT z_t 24 ((18 + (7 : Int32)).toNatClampNeg)).toInt) ∧ ((gT z_t 24 ((18 + (3 : Int32)).toNatClampNeg)).toInt < (gT z_t 24 ((18 + (1 : Int32)).toNatClampNeg)).toInt ∨ (gT z_t 24 ((18 + (7 : Int32)).toNatClampNeg)).toInt < (gT z_t 24 ((18 + (6 : Int32)).toNatClampNeg)).toInt) by first | (intro q; exact absurd q (by decide)) | (intro _; omega))
                · skip
                  have r_669 := n_rng r32
                  have r_670 := n_rng r34
                  have c_666i : r32.toInt ≥ r34.toInt := bI_nlt rfl rfl c_666
                  exact ok_some (show ((((1 : Int32) ||| 0) ||| 0) ||| 8).toInt ≤ 0 → ((gT z_t 24 ((18 + (0 : Int32)).toNatClampNeg)).toInt < (gT z_t 24 ((18 + (2 : Int32)).toNatClampNeg)).toInt ∨ (gT z_t 24 ((18 + (4 : Int32)).toNatClampNeg)).toInt < (gT z_t 24 ((18 + (5 : Int32)).toNatClampNeg)).toInt) ∧ ((gT z_t 24 ((18 + (1 : Int32)).toNatClampNeg)).toInt < (gT z_t 24 ((18 + (3 : Int32)).toNatClampNeg)).toInt ∨ (gT z_t 24 ((18 + (5 : Int32)).toNatClampNeg)).toInt < (gT z_t 24 ((18 + (4 : Int32)).toNatClampNeg)).toInt) ∧ ((gT z_t 24 ((18 + (2 : Int32)).toNatClampNeg)).toInt < (gT z_t 24 ((18 + (0 : Int32)).toNatClampNeg)).toInt ∨ (gT z_t 24 ((18 + (6 : Int32)).toNatClampNeg)).toInt < (gT z_t 24 ((18 + (7 : Int32)).toNatClampNeg)).toInt) ∧ ((gT z_t 24 ((18 + (3 : Int32)).toNatClampNeg)).toInt < (gT z_t 24 ((18 + (1 : Int32)).toNatClampNeg)).toInt ∨ (gT z_t 24 ((18 + (7 : Int32)).toNatClampNeg)).toInt < (gT z_t 24 ((18 + (6 : Int32)).toNatClampNeg)).toInt) by first | (intro q; exact absurd q (by decide)) | (intro _; omega))
            · skip
              have r_671 := n_rng r40
              have r_672 := n_rng r42
              have c_650i : r40.toInt ≥ r42.toInt := bI_nlt rfl rfl c_650
              refine ok_bd (t_fX9_gameOf (by first | omega | assumption | decide | (show 0 ≤ (3 : Int32).toInt ∧ (3 : Int32).toInt ≤ 7; first | omega | assumption))) (fun r22 q_673 => ?_)
              have h_674 : r22 = gT z_t 24 ((18 + (3 : Int32)).toNatClampNeg) := q_673
              clear q_673
              have := congrArg Int32.toInt h_674
              refine ok_bd (t_fX9_gameOf (by first | omega | assumption | decide | (show 0 ≤ (1 : Int32).toInt ∧ (1 : Int32).toInt ≤ 7; first | omega | assumption))) (fun r24 q_675 => ?_)
              have h_676 : r24 = gT z_t 24 ((18 + (1 : Int32)).toNatClampNeg) := q_675
              clear q_675
              have := congrArg Int32.toInt h_676
              refine ok_jn ?_
              refine ok_jn ?_
              refine ok_ite (fun c_677 => ?_) (fun c_677 => ?_)
              · skip
                have r_678 := n_rng r22
                have r_679 := n_rng r24
                have c_677i : r22.toInt < r24.toInt := bI_lt rfl rfl c_677
                exact ok_some (show ((((1 : Int32) ||| 0) ||| 4) ||| 0).toInt ≤ 0 → ((gT z_t 24 ((18 + (0 : Int32)).toNatClampNeg)).toInt < (gT z_t 24 ((18 + (2 : Int32)).toNatClampNeg)).toInt ∨ (gT z_t 24 ((18 + (4 : Int32)).toNatClampNeg)).toInt < (gT z_t 24 ((18 + (5 : Int32)).toNatClampNeg)).toInt) ∧ ((gT z_t 24 ((18 + (1 : Int32)).toNatClampNeg)).toInt < (gT z_t 24 ((18 + (3 : Int32)).toNatClampNeg)).toInt ∨ (gT z_t 24 ((18 + (5 : Int32)).toNatClampNeg)).toInt < (gT z_t 24 ((18 + (4 : Int32)).toNatClampNeg)).toInt) ∧ ((gT z_t 24 ((18 + (2 : Int32)).toNatClampNeg)).toInt < (gT z_t 24 ((18 + (0 : Int32)).toNatClampNeg)).toInt ∨ (gT z_t 24 ((18 + (6 : Int32)).toNatClampNeg)).toInt < (gT z_t 24 ((18 + (7 : Int32)).toNatClampNeg)).toInt) ∧ ((gT z_t 24 ((18 + (3 : Int32)).toNatClampNeg)).toInt < (gT z_t 24 ((18 + (1 : Int32)).toNatClampNeg)).toInt ∨ (gT z_t 24 ((18 + (7 : Int32)).toNatClampNeg)).toInt < (gT z_t 24 ((18 + (6 : Int32)).toNatClampNeg)).toInt) by first | (intro q; exact absurd q (by decide)) | (intro _; omega))
              · skip
                have r_680 := n_rng r22
                have r_681 := n_rng r24
                have c_677i : r22.toInt ≥ r24.toInt := bI_nlt rfl rfl c_677
                refine ok_bd (t_fX9_gameOf (by first | omega | assumption | decide | (show 0 ≤ (7 : Int32).toInt ∧ (7 : Int32).toInt ≤ 7; first | omega | assumption))) (fun r32 q_682 => ?_)
                have h_683 : r32 = gT z_t 24 ((18 + (7 : Int32)).toNatClampNeg) := q_682
                clear q_682
                have := congrArg Int32.toInt h_683
                refine ok_bd (t_fX9_gameOf (by first | omega | assumption | decide | (show 0 ≤ (6 : Int32).toInt ∧ (6 : Int32).toInt ≤ 7; first | omega | assumption))) (fun r34 q_684 => ?_)
                have h_685 : r34 = gT z_t 24 ((18 + (6 : Int32)).toNatClampNeg) := q_684
                clear q_684
                have := congrArg Int32.toInt h_685
                refine ok_ite (fun c_686 => ?_) (fun c_686 => ?_)
                · skip
                  have r_687 := n_rng r32
                  have r_688 := n_rng r34
                  have c_686i : r32.toInt < r34.toInt := bI_lt rfl rfl c_686
                  exact ok_some (show ((((1 : Int32) ||| 0) ||| 4) ||| 0).toInt ≤ 0 → ((gT z_t 24 ((18 + (0 : Int32)).toNatClampNeg)).toInt < (gT z_t 24 ((18 + (2 : Int32)).toNatClampNeg)).toInt ∨ (gT z_t 24 ((18 + (4 : Int32)).toNatClampNeg)).toInt < (gT z_t 24 ((18 + (5 : Int32)).toNatClampNeg)).toInt) ∧ ((gT z_t 24 ((18 + (1 : Int32)).toNatClampNeg)).toInt < (gT z_t 24 ((18 + (3 : Int32)).toNatClampNeg)).toInt ∨ (gT z_t 24 ((18 + (5 : Int32)).toNatClampNeg)).toInt < (gT z_t 24 ((18 + (4 : Int32)).toNatClampNeg)).toInt) ∧ ((gT z_t 24 ((18 + (2 : Int32)).toNatClampNeg)).toInt < (gT z_t 24 ((18 + (0 : Int32)).toNatClampNeg)).toInt ∨ (gT z_t 24 ((18 + (6 : Int32)).toNatClampNeg)).toInt < (gT z_t 24 ((18 + (7 : Int32)).toNatClampNeg)).toInt) ∧ ((gT z_t 24 ((18 + (3 : Int32)).toNatClampNeg)).toInt < (gT z_t 24 ((18 + (1 : Int32)).toNatClampNeg)).toInt ∨ (gT z_t 24 ((18 + (7 : Int32)).toNatClampNeg)).toInt < (gT z_t 24 ((18 + (6 : Int32)).toNatClampNeg)).toInt) by first | (intro q; exact absurd q (by decide)) | (intro _; omega))
                · skip
                  have r_689 := n_rng r32
                  have r_690 := n_rng r34
                  have c_686i : r32.toInt ≥ r34.toInt := bI_nlt rfl rfl c_686
                  exact ok_some (show ((((1 : Int32) ||| 0) ||| 4) ||| 8).toInt ≤ 0 → ((gT z_t 24 ((18 + (0 : Int32)).toNatClampNeg)).toInt < (gT z_t 24 ((18 + (2 : Int32)).toNatClampNeg)).toInt ∨ (gT z_t 24 ((18 + (4 : Int32)).toNatClampNeg)).toInt < (gT z_t 24 ((18 + (5 : Int32)).toNatClampNeg)).toInt) ∧ ((gT z_t 24 ((18 + (1 : Int32)).toNatClampNeg)).toInt < (gT z_t 24 ((18 + (3 : Int32)).toNatClampNeg)).toInt ∨ (gT z_t 24 ((18 + (5 : Int32)).toNatClampNeg)).toInt < (gT z_t 24 ((18 + (4 : Int32)).toNatClampNeg)).toInt) ∧ ((gT z_t 24 ((18 + (2 : Int32)).toNatClampNeg)).toInt < (gT z_t 24 ((18 + (0 : Int32)).toNatClampNeg)).toInt ∨ (gT z_t 24 ((18 + (6 : Int32)).toNatClampNeg)).toInt < (gT z_t 24 ((18 + (7 : Int32)).toNatClampNeg)).toInt) ∧ ((gT z_t 24 ((18 + (3 : Int32)).toNatClampNeg)).toInt < (gT z_t 24 ((18 + (1 : Int32)).toNatClampNeg)).toInt ∨ (gT z_t 24 ((18 + (7 : Int32)).toNatClampNeg)).toInt < (gT z_t 24 ((18 + (6 : Int32)).toNatClampNeg)).toInt) by first | (intro q; exact absurd q (by decide)) | (intro _; omega))
        · skip
          have r_691 := n_rng r48
          have r_692 := n_rng r50
          have c_612i : r48.toInt ≥ r50.toInt := bI_nlt rfl rfl c_612
          refine ok_bd (t_fX9_gameOf (by first | omega | assumption | decide | (show 0 ≤ (2 : Int32).toInt ∧ (2 : Int32).toInt ≤ 7; first | omega | assumption))) (fun r15 q_693 => ?_)
          have h_694 : r15 = gT z_t 24 ((18 + (2 : Int32)).toNatClampNeg) := q_693
          clear q_693
          have := congrArg Int32.toInt h_694
          refine ok_bd (t_fX9_gameOf (by first | omega | assumption | decide | (show 0 ≤ (0 : Int32).toInt ∧ (0 : Int32).toInt ≤ 7; first | omega | assumption))) (fun r17 q_695 => ?_)
          have h_696 : r17 = gT z_t 24 ((18 + (0 : Int32)).toNatClampNeg) := q_695
          clear q_695
          have := congrArg Int32.toInt h_696
          refine ok_jn ?_
          refine ok_jn ?_
          refine ok_ite (fun c_697 => ?_) (fun c_697 => ?_)
          · skip
            have r_698 := n_rng r15
            have r_699 := n_rng r17
            have c_697i : r15.toInt < r17.toInt := bI_lt rfl rfl c_697
            refine ok_bd (t_fX9_gameOf (by first | omega | assumption | decide | (show 0 ≤ (3 : Int32).toInt ∧ (3 : Int32).toInt ≤ 7; first | omega | assumption))) (fun r22 q_700 => ?_)
            have h_701 : r22 = gT z_t 24 ((18 + (3 : Int32)).toNatClampNeg) := q_700
            clear q_700
            have := congrArg Int32.toInt h_701
            refine ok_bd (t_fX9_gameOf (by first | omega | assumption | decide | (show 0 ≤ (1 : Int32).toInt ∧ (1 : Int32).toInt ≤ 7; first | omega | assumption))) (fun r24 q_702 => ?_)
            have h_703 : r24 = gT z_t 24 ((18 + (1 : Int32)).toNatClampNeg) := q_702
            clear q_702
            have := congrArg Int32.toInt h_703
            refine ok_jn ?_
            refine ok_jn ?_
            refine ok_ite (fun c_704 => ?_) (fun c_704 => ?_)
            · skip
              have r_705 := n_rng r22
              have r_706 := n_rng r24
              have c_704i : r22.toInt < r24.toInt := bI_lt rfl rfl c_704
              exact ok_some (show ((((1 : Int32) ||| 2) ||| 0) ||| 0).toInt ≤ 0 → ((gT z_t 24 ((18 + (0 : Int32)).toNatClampNeg)).toInt < (gT z_t 24 ((18 + (2 : Int32)).toNatClampNeg)).toInt ∨ (gT z_t 24 ((18 + (4 : Int32)).toNatClampNeg)).toInt < (gT z_t 24 ((18 + (5 : Int32)).toNatClampNeg)).toInt) ∧ ((gT z_t 24 ((18 + (1 : Int32)).toNatClampNeg)).toInt < (gT z_t 24 ((18 + (3 : Int32)).toNatClampNeg)).toInt ∨ (gT z_t 24 ((18 + (5 : Int32)).toNatClampNeg)).toInt < (gT z_t 24 ((18 + (4 : Int32)).toNatClampNeg)).toInt) ∧ ((gT z_t 24 ((18 + (2 : Int32)).toNatClampNeg)).toInt < (gT z_t 24 ((18 + (0 : Int32)).toNatClampNeg)).toInt ∨ (gT z_t 24 ((18 + (6 : Int32)).toNatClampNeg)).toInt < (gT z_t 24 ((18 + (7 : Int32)).toNatClampNeg)).toInt) ∧ ((gT z_t 24 ((18 + (3 : Int32)).toNatClampNeg)).toInt < (gT z_t 24 ((18 + (1 : Int32)).toNatClampNeg)).toInt ∨ (gT z_t 24 ((18 + (7 : Int32)).toNatClampNeg)).toInt < (gT z_t 24 ((18 + (6 : Int32)).toNatClampNeg)).toInt) by first | (intro q; exact absurd q (by decide)) | (intro _; omega))
            · skip
              have r_707 := n_rng r22
              have r_708 := n_rng r24
              have c_704i : r22.toInt ≥ r24.toInt := bI_nlt rfl rfl c_704
              have e_710 : (7 : Int32).toInt = 7 := (show (7 : Int32).toInt = 7 by decide)
              refine ok_bd (t_fX9_gameOf (by first | omega | assumption | decide | (show 0 ≤ (7 : Int32).toInt ∧ (7 : Int32).toInt ≤ 7; first | omega | assumption))) (fun r32 q_709 => ?_)
              have h_711 : r32 = gT z_t 24 ((18 + (7 : Int32)).toNatClampNeg) := q_709
              clear q_709
              have := congrArg Int32.toInt h_711
              have e_713 : (6 : Int32).toInt = 6 := (show (6 : Int32).toInt = 6 by decide)
              refine ok_bd (t_fX9_gameOf (by first | omega | assumption | decide | (show 0 ≤ (6 : Int32).toInt ∧ (6 : Int32).toInt ≤ 7; first | omega | assumption))) (fun r34 q_712 => ?_)
              have h_714 : r34 = gT z_t 24 ((18 + (6 : Int32)).toNatClampNeg) := q_712
              clear q_712
              have := congrArg Int32.toInt h_714
              refine ok_ite (fun c_715 => ?_) (fun c_715 => ?_)
              · skip
                have r_716 := n_rng r32
                have r_717 := n_rng r34
                have c_715i : r32.toInt < r34.toInt := bI_lt rfl rfl c_715
                exact ok_some (show ((((1 : Int32) ||| 2) ||| 0) ||| 0).toInt ≤ 0 → ((gT z_t 24 ((18 + (0 : Int32)).toNatClampNeg)).toInt < (gT z_t 24 ((18 + (2 : Int32)).toNatClampNeg)).toInt ∨ (gT z_t 24 ((18 + (4 : Int32)).toNatClampNeg)).toInt < (gT z_t 24 ((18 + (5 : Int32)).toNatClampNeg)).toInt) ∧ ((gT z_t 24 ((18 + (1 : Int32)).toNatClampNeg)).toInt < (gT z_t 24 ((18 + (3 : Int32)).toNatClampNeg)).toInt ∨ (gT z_t 24 ((18 + (5 : Int32)).toNatClampNeg)).toInt < (gT z_t 24 ((18 + (4 : Int32)).toNatClampNeg)).toInt) ∧ ((gT z_t 24 ((18 + (2 : Int32)).toNatClampNeg)).toInt < (gT z_t 24 ((18 + (0 : Int32)).toNatClampNeg)).toInt ∨ (gT z_t 24 ((18 + (6 : Int32)).toNatClampNeg)).toInt < (gT z_t 24 ((18 + (7 : Int32)).toNatClampNeg)).toInt) ∧ ((gT z_t 24 ((18 + (3 : Int32)).toNatClampNeg)).toInt < (gT z_t 24 ((18 + (1 : Int32)).toNatClampNeg)).toInt ∨ (gT z_t 24 ((18 + (7 : Int32)).toNatClampNeg)).toInt < (gT z_t 24 ((18 + (6 : Int32)).toNatClampNeg)).toInt) by first | (intro q; exact absurd q (by decide)) | (intro _; omega))
              · skip
                have r_718 := n_rng r32
                have r_719 := n_rng r34
                have c_715i : r32.toInt ≥ r34.toInt := bI_nlt rfl rfl c_715
                exact ok_some (show ((((1 : Int32) ||| 2) ||| 0) ||| 8).toInt ≤ 0 → ((gT z_t 24 ((18 + (0 : Int32)).toNatClampNeg)).toInt < (gT z_t 24 ((18 + (2 : Int32)).toNatClampNeg)).toInt ∨ (gT z_t 24 ((18 + (4 : Int32)).toNatClampNeg)).toInt < (gT z_t 24 ((18 + (5 : Int32)).toNatClampNeg)).toInt) ∧ ((gT z_t 24 ((18 + (1 : Int32)).toNatClampNeg)).toInt < (gT z_t 24 ((18 + (3 : Int32)).toNatClampNeg)).toInt ∨ (gT z_t 24 ((18 + (5 : Int32)).toNatClampNeg)).toInt < (gT z_t 24 ((18 + (4 : Int32)).toNatClampNeg)).toInt) ∧ ((gT z_t 24 ((18 + (2 : Int32)).toNatClampNeg)).toInt < (gT z_t 24 ((18 + (0 : Int32)).toNatClampNeg)).toInt ∨ (gT z_t 24 ((18 + (6 : Int32)).toNatClampNeg)).toInt < (gT z_t 24 ((18 + (7 : Int32)).toNatClampNeg)).toInt) ∧ ((gT z_t 24 ((18 + (3 : Int32)).toNatClampNeg)).toInt < (gT z_t 24 ((18 + (1 : Int32)).toNatClampNeg)).toInt ∨ (gT z_t 24 ((18 + (7 : Int32)).toNatClampNeg)).toInt < (gT z_t 24 ((18 + (6 : Int32)).toNatClampNeg)).toInt) by first | (intro q; exact absurd q (by decide)) | (intro _; omega))
          · skip
            have r_720 := n_rng r15
            have r_721 := n_rng r17
            have c_697i : r15.toInt ≥ r17.toInt := bI_nlt rfl rfl c_697
            have e_723 : (6 : Int32).toInt = 6 := (show (6 : Int32).toInt = 6 by decide)
            refine ok_bd (t_fX9_gameOf (by first | omega | assumption | decide | (show 0 ≤ (6 : Int32).toInt ∧ (6 : Int32).toInt ≤ 7; first | omega | assumption))) (fun r40 q_722 => ?_)
            have h_724 : r40 = gT z_t 24 ((18 + (6 : Int32)).toNatClampNeg) := q_722
            clear q_722
            have := congrArg Int32.toInt h_724
            have e_726 : (7 : Int32).toInt = 7 := (show (7 : Int32).toInt = 7 by decide)
            refine ok_bd (t_fX9_gameOf (by first | omega | assumption | decide | (show 0 ≤ (7 : Int32).toInt ∧ (7 : Int32).toInt ≤ 7; first | omega | assumption))) (fun r42 q_725 => ?_)
            have h_727 : r42 = gT z_t 24 ((18 + (7 : Int32)).toNatClampNeg) := q_725
            clear q_725
            have := congrArg Int32.toInt h_727
            refine ok_ite (fun c_728 => ?_) (fun c_728 => ?_)
            · skip
              have r_729 := n_rng r40
              have r_730 := n_rng r42
              have c_728i : r40.toInt < r42.toInt := bI_lt rfl rfl c_728
              refine ok_bd (t_fX9_gameOf (by first | omega | assumption | decide | (show 0 ≤ (3 : Int32).toInt ∧ (3 : Int32).toInt ≤ 7; first | omega | assumption))) (fun r22 q_731 => ?_)
              have h_732 : r22 = gT z_t 24 ((18 + (3 : Int32)).toNatClampNeg) := q_731
              clear q_731
              have := congrArg Int32.toInt h_732
              refine ok_bd (t_fX9_gameOf (by first | omega | assumption | decide | (show 0 ≤ (1 : Int32).toInt ∧ (1 : Int32).toInt ≤ 7; first | omega | assumption))) (fun r24 q_733 => ?_)
              have h_734 : r24 = gT z_t 24 ((18 + (1 : Int32)).toNatClampNeg) := q_733
              clear q_733
              have := congrArg Int32.toInt h_734
              refine ok_jn ?_
              refine ok_jn ?_
              refine ok_ite (fun c_735 => ?_) (fun c_735 => ?_)
              · skip
                have r_736 := n_rng r22
                have r_737 := n_rng r24
                have c_735i : r22.toInt < r24.toInt := bI_lt rfl rfl c_735
                exact ok_some (show ((((1 : Int32) ||| 2) ||| 0) ||| 0).toInt ≤ 0 → ((gT z_t 24 ((18 + (0 : Int32)).toNatClampNeg)).toInt < (gT z_t 24 ((18 + (2 : Int32)).toNatClampNeg)).toInt ∨ (gT z_t 24 ((18 + (4 : Int32)).toNatClampNeg)).toInt < (gT z_t 24 ((18 + (5 : Int32)).toNatClampNeg)).toInt) ∧ ((gT z_t 24 ((18 + (1 : Int32)).toNatClampNeg)).toInt < (gT z_t 24 ((18 + (3 : Int32)).toNatClampNeg)).toInt ∨ (gT z_t 24 ((18 + (5 : Int32)).toNatClampNeg)).toInt < (gT z_t 24 ((18 + (4 : Int32)).toNatClampNeg)).toInt) ∧ ((gT z_t 24 ((18 + (2 : Int32)).toNatClampNeg)).toInt < (gT z_t 24 ((18 + (0 : Int32)).toNatClampNeg)).toInt ∨ (gT z_t 24 ((18 + (6 : Int32)).toNatClampNeg)).toInt < (gT z_t 24 ((18 + (7 : Int32)).toNatClampNeg)).toInt) ∧ ((gT z_t 24 ((18 + (3 : Int32)).toNatClampNeg)).toInt < (gT z_t 24 ((18 + (1 : Int32)).toNatClampNeg)).toInt ∨ (gT z_t 24 ((18 + (7 : Int32)).toNatClampNeg)).toInt < (gT z_t 24 ((18 + (6 : Int32)).toNatClampNeg)).toInt) by first | (intro q; exact absurd q (by decide)) | (intro _; omega))
              · skip
                have r_738 := n_rng r22
                have r_739 := n_rng r24
                have c_735i : r22.toInt ≥ r24.toInt := bI_nlt rfl rfl c_735
                refine ok_bd (t_fX9_gameOf (by first | omega | assumption | decide | (show 0 ≤ (7 : Int32).toInt ∧ (7 : Int32).toInt ≤ 7; first | omega | assumption))) (fun r32 q_740 => ?_)
                have h_741 : r32 = gT z_t 24 ((18 + (7 : Int32)).toNatClampNeg) := q_740
                clear q_740
                have := congrArg Int32.toInt h_741
                refine ok_bd (t_fX9_gameOf (by first | omega | assumption | decide | (show 0 ≤ (6 : Int32).toInt ∧ (6 : Int32).toInt ≤ 7; first | omega | assumption))) (fun r34 q_742 => ?_)
                have h_743 : r34 = gT z_t 24 ((18 + (6 : Int32)).toNatClampNeg) := q_742
                clear q_742
                have := congrArg Int32.toInt h_743
                refine ok_ite (fun c_744 => ?_) (fun c_744 => ?_)
                · skip
                  have r_745 := n_rng r32
                  have r_746 := n_rng r34
                  have c_744i : r32.toInt < r34.toInt := bI_lt rfl rfl c_744
                  exact ok_some (show ((((1 : Int32) ||| 2) ||| 0) ||| 0).toInt ≤ 0 → ((gT z_t 24 ((18 + (0 : Int32)).toNatClampNeg)).toInt < (gT z_t 24 ((18 + (2 : Int32)).toNatClampNeg)).toInt ∨ (gT z_t 24 ((18 + (4 : Int32)).toNatClampNeg)).toInt < (gT z_t 24 ((18 + (5 : Int32)).toNatClampNeg)).toInt) ∧ ((gT z_t 24 ((18 + (1 : Int32)).toNatClampNeg)).toInt < (gT z_t 24 ((18 + (3 : Int32)).toNatClampNeg)).toInt ∨ (gT z_t 24 ((18 + (5 : Int32)).toNatClampNeg)).toInt < (gT z_t 24 ((18 + (4 : Int32)).toNatClampNeg)).toInt) ∧ ((gT z_t 24 ((18 + (2 : Int32)).toNatClampNeg)).toInt < (gT z_t 24 ((18 + (0 : Int32)).toNatClampNeg)).toInt ∨ (gT z_t 24 ((18 + (6 : Int32)).toNatClampNeg)).toInt < (gT z_t 24 ((18 + (7 : Int32)).toNatClampNeg)).toInt) ∧ ((gT z_t 24 ((18 + (3 : Int32)).toNatClampNeg)).toInt < (gT z_t 24 ((18 + (1 : Int32)).toNatClampNeg)).toInt ∨ (gT z_t 24 ((18 + (7 : Int32)).toNatClampNeg)).toInt < (gT z_t 24 ((18 + (6 : Int32)).toNatClampNeg)).toInt) by first | (intro q; exact absurd q (by decide)) | (intro _; omega))
                · skip
                  have r_747 := n_rng r32
                  have r_748 := n_rng r34
                  have c_744i : r32.toInt ≥ r34.toInt := bI_nlt rfl rfl c_744
                  exact ok_some (show ((((1 : Int32) ||| 2) ||| 0) ||| 8).toInt ≤ 0 → ((gT z_t 24 ((18 + (0 : Int32)).toNatClampNeg)).toInt < (gT z_t 24 ((18 + (2 : Int32)).toNatClampNeg)).toInt ∨ (gT z_t 24 ((18 + (4 : Int32)).toNatClampNeg)).toInt < (gT z_t 24 ((18 + (5 : Int32)).toNatClampNeg)).toInt) ∧ ((gT z_t 24 ((18 + (1 : Int32)).toNatClampNeg)).toInt < (gT z_t 24 ((18 + (3 : Int32)).toNatClampNeg)).toInt ∨ (gT z_t 24 ((18 + (5 : Int32)).toNatClampNeg)).toInt < (gT z_t 24 ((18 + (4 : Int32)).toNatClampNeg)).toInt) ∧ ((gT z_t 24 ((18 + (2 : Int32)).toNatClampNeg)).toInt < (gT z_t 24 ((18 + (0 : Int32)).toNatClampNeg)).toInt ∨ (gT z_t 24 ((18 + (6 : Int32)).toNatClampNeg)).toInt < (gT z_t 24 ((18 + (7 : Int32)).toNatClampNeg)).toInt) ∧ ((gT z_t 24 ((18 + (3 : Int32)).toNatClampNeg)).toInt < (gT z_t 24 ((18 + (1 : Int32)).toNatClampNeg)).toInt ∨ (gT z_t 24 ((18 + (7 : Int32)).toNatClampNeg)).toInt < (gT z_t 24 ((18 + (6 : Int32)).toNatClampNeg)).toInt) by first | (intro q; exact absurd q (by decide)) | (intro _; omega))
            · skip
              have r_749 := n_rng r40
              have r_750 := n_rng r42
              have c_728i : r40.toInt ≥ r42.toInt := bI_nlt rfl rfl c_728
              refine ok_bd (t_fX9_gameOf (by first | omega | assumption | decide | (show 0 ≤ (3 : Int32).toInt ∧ (3 : Int32).toInt ≤ 7; first | omega | assumption))) (fun r22 q_751 => ?_)
              have h_752 : r22 = gT z_t 24 ((18 + (3 : Int32)).toNatClampNeg) := q_751
              clear q_751
              have := congrArg Int32.toInt h_752
              refine ok_bd (t_fX9_gameOf (by first | omega | assumption | decide | (show 0 ≤ (1 : Int32).toInt ∧ (1 : Int32).toInt ≤ 7; first | omega | assumption))) (fun r24 q_753 => ?_)
              have h_754 : r24 = gT z_t 24 ((18 + (1 : Int32)).toNatClampNeg) := q_753
              clear q_753
              have := congrArg Int32.toInt h_754
              refine ok_jn ?_
              refine ok_jn ?_
              refine ok_ite (fun c_755 => ?_) (fun c_755 => ?_)
              · skip
                have r_756 := n_rng r22
                have r_757 := n_rng r24
                have c_755i : r22.toInt < r24.toInt := bI_lt rfl rfl c_755
                exact ok_some (show ((((1 : Int32) ||| 2) ||| 4) ||| 0).toInt ≤ 0 → ((gT z_t 24 ((18 + (0 : Int32)).toNatClampNeg)).toInt < (gT z_t 24 ((18 + (2 : Int32)).toNatClampNeg)).toInt ∨ (gT z_t 24 ((18 + (4 : Int32)).toNatClampNeg)).toInt < (gT z_t 24 ((18 + (5 : Int32)).toNatClampNeg)).toInt) ∧ ((gT z_t 24 ((18 + (1 : Int32)).toNatClampNeg)).toInt < (gT z_t 24 ((18 + (3 : Int32)).toNatClampNeg)).toInt ∨ (gT z_t 24 ((18 + (5 : Int32)).toNatClampNeg)).toInt < (gT z_t 24 ((18 + (4 : Int32)).toNatClampNeg)).toInt) ∧ ((gT z_t 24 ((18 + (2 : Int32)).toNatClampNeg)).toInt < (gT z_t 24 ((18 + (0 : Int32)).toNatClampNeg)).toInt ∨ (gT z_t 24 ((18 + (6 : Int32)).toNatClampNeg)).toInt < (gT z_t 24 ((18 + (7 : Int32)).toNatClampNeg)).toInt) ∧ ((gT z_t 24 ((18 + (3 : Int32)).toNatClampNeg)).toInt < (gT z_t 24 ((18 + (1 : Int32)).toNatClampNeg)).toInt ∨ (gT z_t 24 ((18 + (7 : Int32)).toNatClampNeg)).toInt < (gT z_t 24 ((18 + (6 : Int32)).toNatClampNeg)).toInt) by first | (intro q; exact absurd q (by decide)) | (intro _; omega))
              · skip
                have r_758 := n_rng r22
                have r_759 := n_rng r24
                have c_755i : r22.toInt ≥ r24.toInt := bI_nlt rfl rfl c_755
                refine ok_bd (t_fX9_gameOf (by first | omega | assumption | decide | (show 0 ≤ (7 : Int32).toInt ∧ (7 : Int32).toInt ≤ 7; first | omega | assumption))) (fun r32 q_760 => ?_)
                have h_761 : r32 = gT z_t 24 ((18 + (7 : Int32)).toNatClampNeg) := q_760
                clear q_760
                have := congrArg Int32.toInt h_761
                refine ok_bd (t_fX9_gameOf (by first | omega | assumption | decide | (show 0 ≤ (6 : Int32).toInt ∧ (6 : Int32).toInt ≤ 7; first | omega | assumption))) (fun r34 q_762 => ?_)
                have h_763 : r34 = gT z_t 24 ((18 + (6 : Int32)).toNatClampNeg) := q_762
                clear q_762
                have := congrArg Int32.toInt h_763
                refine ok_ite (fun c_764 => ?_) (fun c_764 => ?_)
                · skip
                  have r_765 := n_rng r32
                  have r_766 := n_rng r34
                  have c_764i : r32.toInt < r34.toInt := bI_lt rfl rfl c_764
                  exact ok_some (show ((((1 : Int32) ||| 2) ||| 4) ||| 0).toInt ≤ 0 → ((gT z_t 24 ((18 + (0 : Int32)).toNatClampNeg)).toInt < (gT z_t 24 ((18 + (2 : Int32)).toNatClampNeg)).toInt ∨ (gT z_t 24 ((18 + (4 : Int32)).toNatClampNeg)).toInt < (gT z_t 24 ((18 + (5 : Int32)).toNatClampNeg)).toInt) ∧ ((gT z_t 24 ((18 + (1 : Int32)).toNatClampNeg)).toInt < (gT z_t 24 ((18 + (3 : Int32)).toNatClampNeg)).toInt ∨ (gT z_t 24 ((18 + (5 : Int32)).toNatClampNeg)).toInt < (gT z_t 24 ((18 + (4 : Int32)).toNatClampNeg)).toInt) ∧ ((gT z_t 24 ((18 + (2 : Int32)).toNatClampNeg)).toInt < (gT z_t 24 ((18 + (0 : Int32)).toNatClampNeg)).toInt ∨ (gT z_t 24 ((18 + (6 : Int32)).toNatClampNeg)).toInt < (gT z_t 24 ((18 + (7 : Int32)).toNatClampNeg)).toInt) ∧ ((gT z_t 24 ((18 + (3 : Int32)).toNatClampNeg)).toInt < (gT z_t 24 ((18 + (1 : Int32)).toNatClampNeg)).toInt ∨ (gT z_t 24 ((18 + (7 : Int32)).toNatClampNeg)).toInt < (gT z_t 24 ((18 + (6 : Int32)).toNatClampNeg)).toInt) by first | (intro q; exact absurd q (by decide)) | (intro _; omega))
                · skip
                  have r_767 := n_rng r32
                  have r_768 := n_rng r34
                  have c_764i : r32.toInt ≥ r34.toInt := bI_nlt rfl rfl c_764
                  exact ok_some (show ((((1 : Int32) ||| 2) ||| 4) ||| 8).toInt ≤ 0 → ((gT z_t 24 ((18 + (0 : Int32)).toNatClampNeg)).toInt < (gT z_t 24 ((18 + (2 : Int32)).toNatClampNeg)).toInt ∨ (gT z_t 24 ((18 + (4 : Int32)).toNatClampNeg)).toInt < (gT z_t 24 ((18 + (5 : Int32)).toNatClampNeg)).toInt) ∧ ((gT z_t 24 ((18 + (1 : Int32)).toNatClampNeg)).toInt < (gT z_t 24 ((18 + (3 : Int32)).toNatClampNeg)).toInt ∨ (gT z_t 24 ((18 + (5 : Int32)).toNatClampNeg)).toInt < (gT z_t 24 ((18 + (4 : Int32)).toNatClampNeg)).toInt) ∧ ((gT z_t 24 ((18 + (2 : Int32)).toNatClampNeg)).toInt < (gT z_t 24 ((18 + (0 : Int32)).toNatClampNeg)).toInt ∨ (gT z_t 24 ((18 + (6 : Int32)).toNatClampNeg)).toInt < (gT z_t 24 ((18 + (7 : Int32)).toNatClampNeg)).toInt) ∧ ((gT z_t 24 ((18 + (3 : Int32)).toNatClampNeg)).toInt < (gT z_t 24 ((18 + (1 : Int32)).toNatClampNeg)).toInt ∨ (gT z_t 24 ((18 + (7 : Int32)).toNatClampNeg)).toInt < (gT z_t 24 ((18 + (6 : Int32)).toNatClampNeg)).toInt) by first | (intro q; exact absurd q (by decide)) | (intro _; omega))

set_option maxHeartbeats 400000 in
set_option maxRecDepth 20000 in
theorem t_fX9_mixed {z_t : Sx} {x1 : Int32} {x2 : Int32} (hS : SOK (gT z_t 24)) : okP (fX9_mixed z_t x1 x2) (fun _ => True) := by
  unfold fX9_mixed
  have hn := hS.1
  have hr := hS.2.2.1
  have b0 : -99 ≤ (gT z_t 24 ((18 + (0 : Int32)).toNatClampNeg)).toInt ∧ (gT z_t 24 ((18 + (0 : Int32)).toNatClampNeg)).toInt ≤ 99 := so_game hS 0 (by decide)
  have b1 : -99 ≤ (gT z_t 24 ((18 + (1 : Int32)).toNatClampNeg)).toInt ∧ (gT z_t 24 ((18 + (1 : Int32)).toNatClampNeg)).toInt ≤ 99 := so_game hS 1 (by decide)
  have b2 : -99 ≤ (gT z_t 24 ((18 + (2 : Int32)).toNatClampNeg)).toInt ∧ (gT z_t 24 ((18 + (2 : Int32)).toNatClampNeg)).toInt ≤ 99 := so_game hS 2 (by decide)
  have b3 : -99 ≤ (gT z_t 24 ((18 + (3 : Int32)).toNatClampNeg)).toInt ∧ (gT z_t 24 ((18 + (3 : Int32)).toNatClampNeg)).toInt ≤ 99 := so_game hS 3 (by decide)
  have b4 : -99 ≤ (gT z_t 24 ((18 + (4 : Int32)).toNatClampNeg)).toInt ∧ (gT z_t 24 ((18 + (4 : Int32)).toNatClampNeg)).toInt ≤ 99 := so_game hS 4 (by decide)
  have b5 : -99 ≤ (gT z_t 24 ((18 + (5 : Int32)).toNatClampNeg)).toInt ∧ (gT z_t 24 ((18 + (5 : Int32)).toNatClampNeg)).toInt ≤ 99 := so_game hS 5 (by decide)
  have b6 : -99 ≤ (gT z_t 24 ((18 + (6 : Int32)).toNatClampNeg)).toInt ∧ (gT z_t 24 ((18 + (6 : Int32)).toNatClampNeg)).toInt ≤ 99 := so_game hS 6 (by decide)
  have b7 : -99 ≤ (gT z_t 24 ((18 + (7 : Int32)).toNatClampNeg)).toInt ∧ (gT z_t 24 ((18 + (7 : Int32)).toNatClampNeg)).toInt ≤ 99 := so_game hS 7 (by decide)
  have r_2 := n_rng x1
  have e_3 : x1.toInt64.toInt = x1.toInt := (l64_of rfl)
  have e_4 : (0 : Int64).toInt = 0 := (show (0 : Int64).toInt = 0 by decide)
  have e_5 : (1 : Int64).toInt = 1 := (show (1 : Int64).toInt = 1 by decide)
  refine ok_bd (t_fX9_in) (fun r2 q_1 => ?_)
  have h_6 : r2 = 0 ∨ r2 = 1 := q_1.1
  have h_6i := bool_i h_6
  have h_7 : (r2.toInt = 1 ∧ (0 : Int64).toInt ≤ x1.toInt64.toInt ∧ x1.toInt64.toInt ≤ (1 : Int64).toInt) ∨ (r2.toInt = 0 ∧ (x1.toInt64.toInt < (0 : Int64).toInt ∨ (1 : Int64).toInt < x1.toInt64.toInt)) := q_1.2
  clear q_1
  refine ok_ite (fun c_8 => ?_) (fun c_8 => ?_)
  · skip
    have r_9 := n_rng r2
    have c_8i : r2.toInt = 0 := bI_eq rfl (show (0 : Int32).toInt = 0 by decide) c_8
    exact ok_some trivial
  · skip
    have r_10 := n_rng r2
    have c_8i : r2.toInt ≠ 0 := bI_neq rfl (show (0 : Int32).toInt = 0 by decide) c_8
    have r_12 := n_rng x2
    have e_13 : x2.toInt64.toInt = x2.toInt := (l64_of rfl)
    refine ok_bd (t_fX9_in) (fun r5 q_11 => ?_)
    have h_14 : r5 = 0 ∨ r5 = 1 := q_11.1
    have h_14i := bool_i h_14
    have h_15 : (r5.toInt = 1 ∧ (0 : Int64).toInt ≤ x2.toInt64.toInt ∧ x2.toInt64.toInt ≤ (1 : Int64).toInt) ∨ (r5.toInt = 0 ∧ (x2.toInt64.toInt < (0 : Int64).toInt ∨ (1 : Int64).toInt < x2.toInt64.toInt)) := q_11.2
    clear q_11
    refine ok_ite (fun c_16 => ?_) (fun c_16 => ?_)
    · skip
      have r_17 := n_rng r5
      have c_16i : r5.toInt = 0 := bI_eq rfl (show (0 : Int32).toInt = 0 by decide) c_16
      exact ok_some trivial
    · skip
      have r_18 := n_rng r5
      have c_16i : r5.toInt ≠ 0 := bI_neq rfl (show (0 : Int32).toInt = 0 by decide) c_16
      refine ok_bd (t_fX9_rests) (fun r8 q_19 => ?_)
      have h_20 : r8.toInt ≤ 0 → ((gT z_t 24 ((18 + (0 : Int32)).toNatClampNeg)).toInt < (gT z_t 24 ((18 + (2 : Int32)).toNatClampNeg)).toInt ∨ (gT z_t 24 ((18 + (4 : Int32)).toNatClampNeg)).toInt < (gT z_t 24 ((18 + (5 : Int32)).toNatClampNeg)).toInt) ∧ ((gT z_t 24 ((18 + (1 : Int32)).toNatClampNeg)).toInt < (gT z_t 24 ((18 + (3 : Int32)).toNatClampNeg)).toInt ∨ (gT z_t 24 ((18 + (5 : Int32)).toNatClampNeg)).toInt < (gT z_t 24 ((18 + (4 : Int32)).toNatClampNeg)).toInt) ∧ ((gT z_t 24 ((18 + (2 : Int32)).toNatClampNeg)).toInt < (gT z_t 24 ((18 + (0 : Int32)).toNatClampNeg)).toInt ∨ (gT z_t 24 ((18 + (6 : Int32)).toNatClampNeg)).toInt < (gT z_t 24 ((18 + (7 : Int32)).toNatClampNeg)).toInt) ∧ ((gT z_t 24 ((18 + (3 : Int32)).toNatClampNeg)).toInt < (gT z_t 24 ((18 + (1 : Int32)).toNatClampNeg)).toInt ∨ (gT z_t 24 ((18 + (7 : Int32)).toNatClampNeg)).toInt < (gT z_t 24 ((18 + (6 : Int32)).toNatClampNeg)).toInt) := q_19
      clear q_19
      refine ok_ite (fun c_21 => ?_) (fun c_21 => ?_)
      · skip
        have r_22 := n_rng r8
        have c_21i : r8.toInt ≤ 0 := bI_le rfl (show (0 : Int32).toInt = 0 by decide) c_21
        refine ok_jn ?_
        refine ok_ite (fun c_23 => ?_) (fun c_23 => ?_)
        · skip
          have c_23i : x1.toInt = 0 := bI_eq rfl (show (0 : Int32).toInt = 0 by decide) c_23
          have e_25 : (7 : Int32).toInt = 7 := (show (7 : Int32).toInt = 7 by decide)
          refine ok_bd (t_fX9_gameOf (by first | omega | assumption | decide | (show 0 ≤ (7 : Int32).toInt ∧ (7 : Int32).toInt ≤ 7; first | omega | assumption))) (fun r35 q_24 => ?_)
          have h_26 : r35 = gT z_t 24 ((18 + (7 : Int32)).toNatClampNeg) := q_24
          clear q_24
          have := congrArg Int32.toInt h_26
          have e_28 : (6 : Int32).toInt = 6 := (show (6 : Int32).toInt = 6 by decide)
          refine ok_bd (t_fX9_gameOf (by first | omega | assumption | decide | (show 0 ≤ (6 : Int32).toInt ∧ (6 : Int32).toInt ≤ 7; first | omega | assumption))) (fun r37 q_27 => ?_)
          have h_29 : r37 = gT z_t 24 ((18 + (6 : Int32)).toNatClampNeg) := q_27
          clear q_27
          have := congrArg Int32.toInt h_29
          refine ok_jn ?_
          refine ok_ite (fun c_30 => ?_) (fun c_30 => ?_)
          · skip
            have c_30i : x1.toInt = 0 := bI_eq rfl (show (0 : Int32).toInt = 0 by decide) c_30
            have e_32 : (4 : Int32).toInt = 4 := (show (4 : Int32).toInt = 4 by decide)
            refine ok_bd (t_fX9_gameOf (by first | omega | assumption | decide | (show 0 ≤ (4 : Int32).toInt ∧ (4 : Int32).toInt ≤ 7; first | omega | assumption))) (fun r26 q_31 => ?_)
            have h_33 : r26 = gT z_t 24 ((18 + (4 : Int32)).toNatClampNeg) := q_31
            clear q_31
            have := congrArg Int32.toInt h_33
            have e_35 : (5 : Int32).toInt = 5 := (show (5 : Int32).toInt = 5 by decide)
            refine ok_bd (t_fX9_gameOf (by first | omega | assumption | decide | (show 0 ≤ (5 : Int32).toInt ∧ (5 : Int32).toInt ≤ 7; first | omega | assumption))) (fun r28 q_34 => ?_)
            have h_36 : r28 = gT z_t 24 ((18 + (5 : Int32)).toNatClampNeg) := q_34
            clear q_34
            have := congrArg Int32.toInt h_36
            refine ok_jn ?_
            refine ok_ite (fun c_37 => ?_) (fun c_37 => ?_)
            · skip
              have r_38 := n_rng r35
              have r_39 := n_rng r37
              have r_40 := n_rng r26
              have r_41 := n_rng r28
              try have c_37i : 0 ≤ ((r35.toInt - r37.toInt) + (r26.toInt - r28.toInt)) := bI_le (show (0 : Int32).toInt = 0 by decide) (i32_add (i32_sub rfl rfl (by omega) (by omega)) (i32_sub rfl rfl (by omega) (by omega)) (by omega) (by omega)) c_37
              have e_43 : (1 * ((r35 - r37) + (r26 - r28))).toInt64.toInt = (1 * ((r35.toInt - r37.toInt) + (r26.toInt - r28.toInt))) := (l64_of (i32_mul (show (1 : Int32).toInt = 1 by decide) (i32_add (i32_sub rfl rfl (by omega) (by omega)) (i32_sub rfl rfl (by omega) (by omega)) (by omega) (by omega)) (by omega) (by omega)))
              refine ok_bd (t_fX9_partOf (by first | omega | assumption | decide | (show (1 * ((r35 - r37) + (r26 - r28))).toInt64.toInt ≠ 0; first | omega | assumption))) (fun r18 q_42 => ?_)
              exact ok_some trivial
            · skip
              have r_44 := n_rng r35
              have r_45 := n_rng r37
              have r_46 := n_rng r26
              have r_47 := n_rng r28
              try have c_37i : 0 > ((r35.toInt - r37.toInt) + (r26.toInt - r28.toInt)) := bI_nle (show (0 : Int32).toInt = 0 by decide) (i32_add (i32_sub rfl rfl (by omega) (by omega)) (i32_sub rfl rfl (by omega) (by omega)) (by omega) (by omega)) c_37
              have e_49 : ((-1) * ((r35 - r37) + (r26 - r28))).toInt64.toInt = ((-1) * ((r35.toInt - r37.toInt) + (r26.toInt - r28.toInt))) := (l64_of (i32_mul (show (-1 : Int32).toInt = -1 by decide) (i32_add (i32_sub rfl rfl (by omega) (by omega)) (i32_sub rfl rfl (by omega) (by omega)) (by omega) (by omega)) (by omega) (by omega)))
              refine ok_bd (t_fX9_partOf (by first | omega | assumption | decide | (show ((-1) * ((r35 - r37) + (r26 - r28))).toInt64.toInt ≠ 0; first | omega | assumption))) (fun r18 q_48 => ?_)
              exact ok_some trivial
          · skip
            have c_30i : x1.toInt ≠ 0 := bI_neq rfl (show (0 : Int32).toInt = 0 by decide) c_30
            have e_51 : (0 : Int32).toInt = 0 := (show (0 : Int32).toInt = 0 by decide)
            refine ok_bd (t_fX9_gameOf (by first | omega | assumption | decide | (show 0 ≤ (0 : Int32).toInt ∧ (0 : Int32).toInt ≤ 7; first | omega | assumption))) (fun r22 q_50 => ?_)
            have h_52 : r22 = gT z_t 24 ((18 + (0 : Int32)).toNatClampNeg) := q_50
            clear q_50
            have := congrArg Int32.toInt h_52
            have e_54 : (2 : Int32).toInt = 2 := (show (2 : Int32).toInt = 2 by decide)
            refine ok_bd (t_fX9_gameOf (by first | omega | assumption | decide | (show 0 ≤ (2 : Int32).toInt ∧ (2 : Int32).toInt ≤ 7; first | omega | assumption))) (fun r24 q_53 => ?_)
            have h_55 : r24 = gT z_t 24 ((18 + (2 : Int32)).toNatClampNeg) := q_53
            clear q_53
            have := congrArg Int32.toInt h_55
            refine ok_jn ?_
            refine ok_ite (fun c_56 => ?_) (fun c_56 => ?_)
            · skip
              have r_57 := n_rng r35
              have r_58 := n_rng r37
              have r_59 := n_rng r22
              have r_60 := n_rng r24
              try have c_56i : 0 ≤ ((r35.toInt - r37.toInt) + (r22.toInt - r24.toInt)) := bI_le (show (0 : Int32).toInt = 0 by decide) (i32_add (i32_sub rfl rfl (by omega) (by omega)) (i32_sub rfl rfl (by omega) (by omega)) (by omega) (by omega)) c_56
              have e_62 : (1 * ((r35 - r37) + (r22 - r24))).toInt64.toInt = (1 * ((r35.toInt - r37.toInt) + (r22.toInt - r24.toInt))) := (l64_of (i32_mul (show (1 : Int32).toInt = 1 by decide) (i32_add (i32_sub rfl rfl (by omega) (by omega)) (i32_sub rfl rfl (by omega) (by omega)) (by omega) (by omega)) (by omega) (by omega)))
              refine ok_bd (t_fX9_partOf (by first | omega | assumption | decide | (show (1 * ((r35 - r37) + (r22 - r24))).toInt64.toInt ≠ 0; first | omega | assumption))) (fun r18 q_61 => ?_)
              exact ok_some trivial
            · skip
              have r_63 := n_rng r35
              have r_64 := n_rng r37
              have r_65 := n_rng r22
              have r_66 := n_rng r24
              try have c_56i : 0 > ((r35.toInt - r37.toInt) + (r22.toInt - r24.toInt)) := bI_nle (show (0 : Int32).toInt = 0 by decide) (i32_add (i32_sub rfl rfl (by omega) (by omega)) (i32_sub rfl rfl (by omega) (by omega)) (by omega) (by omega)) c_56
              have e_68 : ((-1) * ((r35 - r37) + (r22 - r24))).toInt64.toInt = ((-1) * ((r35.toInt - r37.toInt) + (r22.toInt - r24.toInt))) := (l64_of (i32_mul (show (-1 : Int32).toInt = -1 by decide) (i32_add (i32_sub rfl rfl (by omega) (by omega)) (i32_sub rfl rfl (by omega) (by omega)) (by omega) (by omega)) (by omega) (by omega)))
              refine ok_bd (t_fX9_partOf (by first | omega | assumption | decide | (show ((-1) * ((r35 - r37) + (r22 - r24))).toInt64.toInt ≠ 0; first | omega | assumption))) (fun r18 q_67 => ?_)
              exact ok_some trivial
        · skip
          have c_23i : x1.toInt ≠ 0 := bI_neq rfl (show (0 : Int32).toInt = 0 by decide) c_23
          have e_70 : (3 : Int32).toInt = 3 := (show (3 : Int32).toInt = 3 by decide)
          refine ok_bd (t_fX9_gameOf (by first | omega | assumption | decide | (show 0 ≤ (3 : Int32).toInt ∧ (3 : Int32).toInt ≤ 7; first | omega | assumption))) (fun r31 q_69 => ?_)
          have h_71 : r31 = gT z_t 24 ((18 + (3 : Int32)).toNatClampNeg) := q_69
          clear q_69
          have := congrArg Int32.toInt h_71
          have e_73 : (1 : Int32).toInt = 1 := (show (1 : Int32).toInt = 1 by decide)
          refine ok_bd (t_fX9_gameOf (by first | omega | assumption | decide | (show 0 ≤ (1 : Int32).toInt ∧ (1 : Int32).toInt ≤ 7; first | omega | assumption))) (fun r33 q_72 => ?_)
          have h_74 : r33 = gT z_t 24 ((18 + (1 : Int32)).toNatClampNeg) := q_72
          clear q_72
          have := congrArg Int32.toInt h_74
          refine ok_jn ?_
          refine ok_ite (fun c_75 => ?_) (fun c_75 => ?_)
          · skip
            have c_75i : x1.toInt = 0 := bI_eq rfl (show (0 : Int32).toInt = 0 by decide) c_75
            have e_77 : (4 : Int32).toInt = 4 := (show (4 : Int32).toInt = 4 by decide)
            refine ok_bd (t_fX9_gameOf (by first | omega | assumption | decide | (show 0 ≤ (4 : Int32).toInt ∧ (4 : Int32).toInt ≤ 7; first | omega | assumption))) (fun r26 q_76 => ?_)
            have h_78 : r26 = gT z_t 24 ((18 + (4 : Int32)).toNatClampNeg) := q_76
            clear q_76
            have := congrArg Int32.toInt h_78
            have e_80 : (5 : Int32).toInt = 5 := (show (5 : Int32).toInt = 5 by decide)
            refine ok_bd (t_fX9_gameOf (by first | omega | assumption | decide | (show 0 ≤ (5 : Int32).toInt ∧ (5 : Int32).toInt ≤ 7; first | omega | assumption))) (fun r28 q_79 => ?_)
            have h_81 : r28 = gT z_t 24 ((18 + (5 : Int32)).toNatClampNeg) := q_79
            clear q_79
            have := congrArg Int32.toInt h_81
            refine ok_jn ?_
            refine ok_ite (fun c_82 => ?_) (fun c_82 => ?_)
            · skip
              have r_83 := n_rng r31
              have r_84 := n_rng r33
              have r_85 := n_rng r26
              have r_86 := n_rng r28
              try have c_82i : 0 ≤ ((r31.toInt - r33.toInt) + (r26.toInt - r28.toInt)) := bI_le (show (0 : Int32).toInt = 0 by decide) (i32_add (i32_sub rfl rfl (by omega) (by omega)) (i32_sub rfl rfl (by omega) (by omega)) (by omega) (by omega)) c_82
              have e_88 : (1 * ((r31 - r33) + (r26 - r28))).toInt64.toInt = (1 * ((r31.toInt - r33.toInt) + (r26.toInt - r28.toInt))) := (l64_of (i32_mul (show (1 : Int32).toInt = 1 by decide) (i32_add (i32_sub rfl rfl (by omega) (by omega)) (i32_sub rfl rfl (by omega) (by omega)) (by omega) (by omega)) (by omega) (by omega)))
              refine ok_bd (t_fX9_partOf (by first | omega | assumption | decide | (show (1 * ((r31 - r33) + (r26 - r28))).toInt64.toInt ≠ 0; first | omega | assumption))) (fun r18 q_87 => ?_)
              exact ok_some trivial
            · skip
              have r_89 := n_rng r31
              have r_90 := n_rng r33
              have r_91 := n_rng r26
              have r_92 := n_rng r28
              try have c_82i : 0 > ((r31.toInt - r33.toInt) + (r26.toInt - r28.toInt)) := bI_nle (show (0 : Int32).toInt = 0 by decide) (i32_add (i32_sub rfl rfl (by omega) (by omega)) (i32_sub rfl rfl (by omega) (by omega)) (by omega) (by omega)) c_82
              have e_94 : ((-1) * ((r31 - r33) + (r26 - r28))).toInt64.toInt = ((-1) * ((r31.toInt - r33.toInt) + (r26.toInt - r28.toInt))) := (l64_of (i32_mul (show (-1 : Int32).toInt = -1 by decide) (i32_add (i32_sub rfl rfl (by omega) (by omega)) (i32_sub rfl rfl (by omega) (by omega)) (by omega) (by omega)) (by omega) (by omega)))
              refine ok_bd (t_fX9_partOf (by first | omega | assumption | decide | (show ((-1) * ((r31 - r33) + (r26 - r28))).toInt64.toInt ≠ 0; first | omega | assumption))) (fun r18 q_93 => ?_)
              exact ok_some trivial
          · skip
            have c_75i : x1.toInt ≠ 0 := bI_neq rfl (show (0 : Int32).toInt = 0 by decide) c_75
            have e_96 : (0 : Int32).toInt = 0 := (show (0 : Int32).toInt = 0 by decide)
            refine ok_bd (t_fX9_gameOf (by first | omega | assumption | decide | (show 0 ≤ (0 : Int32).toInt ∧ (0 : Int32).toInt ≤ 7; first | omega | assumption))) (fun r22 q_95 => ?_)
            have h_97 : r22 = gT z_t 24 ((18 + (0 : Int32)).toNatClampNeg) := q_95
            clear q_95
            have := congrArg Int32.toInt h_97
            have e_99 : (2 : Int32).toInt = 2 := (show (2 : Int32).toInt = 2 by decide)
            refine ok_bd (t_fX9_gameOf (by first | omega | assumption | decide | (show 0 ≤ (2 : Int32).toInt ∧ (2 : Int32).toInt ≤ 7; first | omega | assumption))) (fun r24 q_98 => ?_)
            have h_100 : r24 = gT z_t 24 ((18 + (2 : Int32)).toNatClampNeg) := q_98
            clear q_98
            have := congrArg Int32.toInt h_100
            refine ok_jn ?_
            refine ok_ite (fun c_101 => ?_) (fun c_101 => ?_)
            · skip
              have r_102 := n_rng r31
              have r_103 := n_rng r33
              have r_104 := n_rng r22
              have r_105 := n_rng r24
              try have c_101i : 0 ≤ ((r31.toInt - r33.toInt) + (r22.toInt - r24.toInt)) := bI_le (show (0 : Int32).toInt = 0 by decide) (i32_add (i32_sub rfl rfl (by omega) (by omega)) (i32_sub rfl rfl (by omega) (by omega)) (by omega) (by omega)) c_101
              have e_107 : (1 * ((r31 - r33) + (r22 - r24))).toInt64.toInt = (1 * ((r31.toInt - r33.toInt) + (r22.toInt - r24.toInt))) := (l64_of (i32_mul (show (1 : Int32).toInt = 1 by decide) (i32_add (i32_sub rfl rfl (by omega) (by omega)) (i32_sub rfl rfl (by omega) (by omega)) (by omega) (by omega)) (by omega) (by omega)))
              refine ok_bd (t_fX9_partOf (by first | omega | assumption | decide | (show (1 * ((r31 - r33) + (r22 - r24))).toInt64.toInt ≠ 0; first | omega | assumption))) (fun r18 q_106 => ?_)
              exact ok_some trivial
            · skip
              have r_108 := n_rng r31
              have r_109 := n_rng r33
              have r_110 := n_rng r22
              have r_111 := n_rng r24
              try have c_101i : 0 > ((r31.toInt - r33.toInt) + (r22.toInt - r24.toInt)) := bI_nle (show (0 : Int32).toInt = 0 by decide) (i32_add (i32_sub rfl rfl (by omega) (by omega)) (i32_sub rfl rfl (by omega) (by omega)) (by omega) (by omega)) c_101
              have e_113 : ((-1) * ((r31 - r33) + (r22 - r24))).toInt64.toInt = ((-1) * ((r31.toInt - r33.toInt) + (r22.toInt - r24.toInt))) := (l64_of (i32_mul (show (-1 : Int32).toInt = -1 by decide) (i32_add (i32_sub rfl rfl (by omega) (by omega)) (i32_sub rfl rfl (by omega) (by omega)) (by omega) (by omega)) (by omega) (by omega)))
              refine ok_bd (t_fX9_partOf (by first | omega | assumption | decide | (show ((-1) * ((r31 - r33) + (r22 - r24))).toInt64.toInt ≠ 0; first | omega | assumption))) (fun r18 q_112 => ?_)
              exact ok_some trivial
      · skip
        have r_114 := n_rng r8
        have c_21i : r8.toInt > 0 := bI_nle rfl (show (0 : Int32).toInt = 0 by decide) c_21
        exact ok_some trivial

set_option maxHeartbeats 400000 in
set_option maxRecDepth 20000 in
theorem t_fX9_row {z_t : Sx} {x1 : Int32} (hS : SOK (gT z_t 24)) : okP (fX9_row z_t x1) (fun y => (FrL [24] z_t y.2) ∧ (SOK (gT y.2 24))) := by
  unfold fX9_row
  have hn := hS.1
  have hr := hS.2.2.1
  refine ok_ite (fun c_1 => ?_) (fun c_1 => ?_)
  · skip
    have r_2 := n_rng x1
    have c_1i : x1.toInt = (-1) := bI_eq rfl (show (-1 : Int32).toInt = -1 by decide) c_1
    exact ok_some ⟨(fr_T fr_rf (by decide)), (so_row0 hS)⟩
  · skip
    have r_3 := n_rng x1
    have c_1i : x1.toInt ≠ (-1) := bI_neq rfl (show (-1 : Int32).toInt = -1 by decide) c_1
    refine ok_bd (t_fX9_isFault) (fun r3 q_4 => ?_)
    have h_5 : r3 = 0 ∨ r3 = 1 := q_4.1
    have h_5i := bool_i h_5
    have h_6 : (r3.toInt = 1 ∧ 0 ≤ x1.toInt ∧ x1.toInt < (gT z_t 24 0).toInt) ∨ r3.toInt = 0 := q_4.2
    clear q_4
    refine ok_ite (fun c_7 => ?_) (fun c_7 => ?_)
    · skip
      have r_8 := n_rng r3
      have c_7i : r3.toInt = 0 := bI_eq rfl (show (0 : Int32).toInt = 0 by decide) c_7
      exact ok_some ⟨fr_rf, hS⟩
    · skip
      have r_9 := n_rng r3
      have c_7i : r3.toInt ≠ 0 := bI_neq rfl (show (0 : Int32).toInt = 0 by decide) c_7
      refine ok_ite (fun c_10 => ?_) (fun c_10 => ?_)
      · skip
        have r_11 := n_rng (gT z_t 24 8)
        have c_10i : (gT z_t 24 8).toInt = 8 := bI_eq rfl (show (8 : Int32).toInt = 8 by decide) c_10
        exact ok_some ⟨fr_rf, hS⟩
      · skip
        have r_12 := n_rng (gT z_t 24 8)
        have c_10i : (gT z_t 24 8).toInt ≠ 8 := bI_neq rfl (show (8 : Int32).toInt = 8 by decide) c_10
        have e_13 : (10 + (gT z_t 24 8)).toInt = (10 + (gT z_t 24 8).toInt) := (i32_add (show (10 : Int32).toInt = 10 by decide) rfl (by omega) (by omega))
        refine ok_gd (inb_of (by omega) (by omega)) ?_
        have i_14 : ((10 + (gT z_t 24 8)).toNatClampNeg : Int) = (10 + (gT z_t 24 8)).toInt := clampI (by omega)
        refine ok_nm ?_
        exact ok_some ⟨(fr_T (fr_T fr_rf (by decide)) (by decide)), (so_rowp hS (by omega) (by omega) (by omega))⟩

set_option maxHeartbeats 400000 in
set_option maxRecDepth 20000 in
theorem t_fX9_seed {z_t : Sx} {x1 : Int32} (hS : SOK (gT z_t 24)) : okP (fX9_seed z_t x1) (fun y => (FrL [24] z_t y.2) ∧ (SOK (gT y.2 24)) ∧ (KC z_t y.2)) := by
  unfold fX9_seed
  have hn := hS.1
  have hr := hS.2.2.1
  refine ok_ite (fun c_1 => ?_) (fun c_1 => ?_)
  · skip
    have r_2 := n_rng x1
    have c_1i : 0 ≤ x1.toInt := bI_le (show (0 : Int32).toInt = 0 by decide) rfl c_1
    exact ok_some ⟨(fr_T fr_rf (by decide)), (so_T hS (by unfold freeix; omega)), (kc_T kc_rf (by omega) (by omega))⟩
  · skip
    have r_3 := n_rng x1
    have c_1i : 0 > x1.toInt := bI_nle (show (0 : Int32).toInt = 0 by decide) rfl c_1
    exact ok_some ⟨fr_rf, hS, kc_rf⟩

set_option maxHeartbeats 1000000 in
set_option maxRecDepth 20000 in
theorem t_fX9_in {x0 : Int64} {x2 : Int64} {x4 : Int64} : okP (fX9_in x0 x2 x4) (fun y => (y = 0 ∨ y = 1) ∧ ((y.toInt = 1 ∧ x2.toInt ≤ x0.toInt ∧ x0.toInt ≤ x4.toInt) ∨ (y.toInt = 0 ∧ (x0.toInt < x2.toInt ∨ x4.toInt < x0.toInt)))) := by
  unfold fX9_in
  refine ok_ite (fun c_1 => ?_) (fun c_1 => ?_)
  · skip
    have c_1i : x0.toInt < x2.toInt := lI_lt rfl rfl c_1
    exact ok_some ⟨Or.inl rfl, (show ((0 : Int32).toInt = 1 ∧ x2.toInt ≤ x0.toInt ∧ x0.toInt ≤ x4.toInt) ∨ ((0 : Int32).toInt = 0 ∧ (x0.toInt < x2.toInt ∨ x4.toInt < x0.toInt)) by first | exact Or.inl ⟨by decide, by omega, by omega⟩ | exact Or.inr ⟨by decide, by omega⟩)⟩
  · skip
    have c_1i : x0.toInt ≥ x2.toInt := lI_nlt rfl rfl c_1
    refine ok_ite (fun c_2 => ?_) (fun c_2 => ?_)
    · skip
      have c_2i : x4.toInt < x0.toInt := lI_lt rfl rfl c_2
      exact ok_some ⟨Or.inl rfl, (show ((0 : Int32).toInt = 1 ∧ x2.toInt ≤ x0.toInt ∧ x0.toInt ≤ x4.toInt) ∨ ((0 : Int32).toInt = 0 ∧ (x0.toInt < x2.toInt ∨ x4.toInt < x0.toInt)) by first | exact Or.inl ⟨by decide, by omega, by omega⟩ | exact Or.inr ⟨by decide, by omega⟩)⟩
    · skip
      have c_2i : x4.toInt ≥ x0.toInt := lI_nlt rfl rfl c_2
      exact ok_some ⟨Or.inr rfl, (show ((1 : Int32).toInt = 1 ∧ x2.toInt ≤ x0.toInt ∧ x0.toInt ≤ x4.toInt) ∨ ((1 : Int32).toInt = 0 ∧ (x0.toInt < x2.toInt ∨ x4.toInt < x0.toInt)) by first | exact Or.inl ⟨by decide, by omega, by omega⟩ | exact Or.inr ⟨by decide, by omega⟩)⟩

set_option maxHeartbeats 1000000 in
set_option maxRecDepth 20000 in
theorem tl_lX9_begins_21 {o_z_t : Sx} : ∀ (n : Nat) (z_t : Sx) (x1 : Int32), (FrL [24] o_z_t z_t) → (SOK (gT z_t 24)) → (KC o_z_t z_t) → (0 ≤ x1.toInt) → ((gT z_t 24 0).toInt + 0 - x1.toInt).toNat < n → okP (lX9_begins_21 n z_t x1) (fun y => (FrL [24] o_z_t y) ∧ (SOK (gT y 24)) ∧ (KC o_z_t y)) := by
  intro n
  induction n with
  | zero => intro _ _ _ _ _ _ hm; omega
  | succ n ih =>
    intro z_t x1 frz_t iS iK i0 hm
    rw [lX9_begins_21]
    have iKa := iK.1
    have iKb := iK.2
    have hn := iS.1
    have hr := iS.2.2.1
    refine ok_ite (fun c_1 => ?_) (fun c_1 => ?_)
    · skip
      have r_2 := n_rng (gT z_t 24 0)
      have r_3 := n_rng x1
      have c_1i : (gT z_t 24 0).toInt ≤ x1.toInt := bI_le rfl rfl c_1
      exact ok_some ⟨frz_t, iS, iK⟩
    · skip
      have r_4 := n_rng (gT z_t 24 0)
      have r_5 := n_rng x1
      have c_1i : (gT z_t 24 0).toInt > x1.toInt := bI_nle rfl rfl c_1
      have e_6 : ((44 + (6 * x1)) + 4).toInt = ((44 + (6 * x1.toInt)) + 4) := (i32_add (i32_add (show (44 : Int32).toInt = 44 by decide) (i32_mul (show (6 : Int32).toInt = 6 by decide) rfl (by omega) (by omega)) (by omega) (by omega)) (show (4 : Int32).toInt = 4 by decide) (by omega) (by omega))
      refine ok_gd (inb_of (by omega) (by omega)) ?_
      have i_7 : (((44 + (6 * x1)) + 4).toNatClampNeg : Int) = ((44 + (6 * x1)) + 4).toInt := clampI (by omega)
      refine ok_jn ?_
      refine ok_ite (fun c_8 => ?_) (fun c_8 => ?_)
      · skip
        have r_9 := n_rng (gT z_t 24 ((44 + (6 * x1)) + 4).toNatClampNeg)
        have c_8i : (gT z_t 24 ((44 + (6 * x1)) + 4).toNatClampNeg).toInt = 1 := bI_eq rfl (show (1 : Int32).toInt = 1 by decide) c_8
        refine ok_gd (inb_of (by omega) (by omega)) ?_
        have e_10 : ((44 + (6 * x1)) + 5).toInt = ((44 + (6 * x1.toInt)) + 5) := (i32_add (i32_add (show (44 : Int32).toInt = 44 by decide) (i32_mul (show (6 : Int32).toInt = 6 by decide) rfl (by omega) (by omega)) (by omega) (by omega)) (show (5 : Int32).toInt = 5 by decide) (by omega) (by omega))
        refine ok_gd (inb_of (by omega) (by omega)) ?_
        have i_11 : (((44 + (6 * x1)) + 5).toNatClampNeg : Int) = ((44 + (6 * x1)) + 5).toInt := clampI (by omega)
        try have e_12 : (x1 + 1).toInt = (x1.toInt + 1) := (i32_add rfl (show (1 : Int32).toInt = 1 by decide) (by omega) (by omega))
        exact ih (sT (sT z_t 24 ((44 + (6 * x1)) + 4).toNatClampNeg 0) 24 ((44 + (6 * x1)) + 5).toNatClampNeg 0) (x1 + 1) (fr_T (fr_T frz_t (by decide)) (by decide)) (so_T (so_T iS (by unfold freeix; omega)) (by unfold freeix; omega)) (kc_T (kc_T iK (by omega) (by omega)) (by omega) (by omega)) (by first | omega | assumption | decide) (by omega)
      · skip
        have r_13 := n_rng (gT z_t 24 ((44 + (6 * x1)) + 4).toNatClampNeg)
        have c_8i : (gT z_t 24 ((44 + (6 * x1)) + 4).toNatClampNeg).toInt ≠ 1 := bI_neq rfl (show (1 : Int32).toInt = 1 by decide) c_8
        refine ok_gd (inb_of (by omega) (by omega)) ?_
        have e_14 : ((44 + (6 * x1)) + 5).toInt = ((44 + (6 * x1.toInt)) + 5) := (i32_add (i32_add (show (44 : Int32).toInt = 44 by decide) (i32_mul (show (6 : Int32).toInt = 6 by decide) rfl (by omega) (by omega)) (by omega) (by omega)) (show (5 : Int32).toInt = 5 by decide) (by omega) (by omega))
        refine ok_gd (inb_of (by omega) (by omega)) ?_
        have i_15 : (((44 + (6 * x1)) + 5).toNatClampNeg : Int) = ((44 + (6 * x1)) + 5).toInt := clampI (by omega)
        try have e_16 : (x1 + 1).toInt = (x1.toInt + 1) := (i32_add rfl (show (1 : Int32).toInt = 1 by decide) (by omega) (by omega))
        exact ih (sT (sT z_t 24 ((44 + (6 * x1)) + 4).toNatClampNeg (gT z_t 24 ((44 + (6 * x1)) + 4).toNatClampNeg)) 24 ((44 + (6 * x1)) + 5).toNatClampNeg 0) (x1 + 1) (fr_T (fr_T frz_t (by decide)) (by decide)) (so_T (so_T iS (by unfold freeix; omega)) (by unfold freeix; omega)) (kc_T (kc_T iK (by omega) (by omega)) (by omega) (by omega)) (by first | omega | assumption | decide) (by omega)
set_option maxHeartbeats 1000000 in
set_option maxRecDepth 20000 in
theorem t_fX9_begins {z_t : Sx} (hS : SOK (gT z_t 24)) : okP (fX9_begins z_t) (fun y => (FrL [24] z_t y) ∧ (SOK (gT y 24)) ∧ (KC z_t y)) := by
  unfold fX9_begins
  have hn := hS.1
  have hr := hS.2.2.1
  try have e_1 : (0 : Int32).toInt = 0 := (show (0 : Int32).toInt = 0 by decide)
  refine tl_lX9_begins_21  FU (sT (sT z_t 24 3 (gT z_t 24 2)) 24 4 0) 0 (fr_T (fr_T fr_rf (by decide)) (by decide)) (so_T (so_T hS (by unfold freeix; omega)) (by unfold freeix; omega)) (kc_T (kc_T kc_rf (by omega) (by omega)) (by omega) (by omega)) (by first | omega | assumption | decide) (FU_lt (by have := n_rng (gT (sT (sT z_t 24 3 (gT z_t 24 2)) 24 4 0) 24 0); omega))

set_option maxHeartbeats 1000000 in
set_option maxRecDepth 20000 in
theorem t_fX9_isWork {z_t : Sx} : okP (fX9_isWork z_t) (fun y => (y = 0 ∨ y = 1) ∧ ((y.toInt = 1 ∧ 0 < (gT z_t 24 0).toInt) ∨ y.toInt = 0)) := by
  unfold fX9_isWork
  refine ok_ite (fun c_1 => ?_) (fun c_1 => ?_)
  · skip
    have r_2 := n_rng (gT z_t 24 0)
    have c_1i : (gT z_t 24 0).toInt ≤ 0 := bI_le rfl (show (0 : Int32).toInt = 0 by decide) c_1
    exact ok_some ⟨Or.inl rfl, (show ((0 : Int32).toInt = 1 ∧ 0 < (gT z_t 24 0).toInt) ∨ (0 : Int32).toInt = 0 by first | exact Or.inl ⟨by decide, by omega⟩ | exact Or.inr (by decide))⟩
  · skip
    have r_3 := n_rng (gT z_t 24 0)
    have c_1i : (gT z_t 24 0).toInt > 0 := bI_nle rfl (show (0 : Int32).toInt = 0 by decide) c_1
    exact ok_some ⟨Or.inr rfl, (show ((1 : Int32).toInt = 1 ∧ 0 < (gT z_t 24 0).toInt) ∨ (1 : Int32).toInt = 0 by first | exact Or.inl ⟨by decide, by omega⟩ | exact Or.inr (by decide))⟩

set_option maxHeartbeats 1000000 in
set_option maxRecDepth 20000 in
theorem tl_lX9_keeps_2 {o_z_t : Sx} : ∀ (n : Nat) (z_t : Sx) (x1 : Int32), (FrL [25] o_z_t z_t) → (SOK (gT z_t 24)) → (0 ≤ x1.toInt ∧ x1.toInt ≤ 104) → (∀ i : Nat, (i : Int) < x1.toInt → gT z_t 25 i = gT o_z_t 24 i) → (104 + 0 - x1.toInt).toNat < n → okP (lX9_keeps_2 n z_t x1) (fun y => (FrL [25] o_z_t y) ∧ (E104 (gT y 25) (gT o_z_t 24))) := by
  intro n
  induction n with
  | zero => intro _ _ _ _ _ _ hm; omega
  | succ n ih =>
    intro z_t x1 frz_t iS i0 i1 hm
    rw [lX9_keeps_2]
    have hn := iS.1
    have hr := iS.2.2.1
    refine ok_ite (fun c_1 => ?_) (fun c_1 => ?_)
    · skip
      have r_2 := n_rng x1
      have c_1i : 104 ≤ x1.toInt := bI_le (show (104 : Int32).toInt = 104 by decide) rfl c_1
      exact ok_some ⟨frz_t, (show E104 (gT z_t 25) (gT o_z_t 24) by intro i hi; exact i1 i (by omega))⟩
    · skip
      have r_3 := n_rng x1
      have c_1i : 104 > x1.toInt := bI_nle (show (104 : Int32).toInt = 104 by decide) rfl c_1
      refine ok_gd (inb_of (by omega) (by omega)) ?_
      have i_4 : (x1.toNatClampNeg : Int) = x1.toInt := clampI (by omega)
      try have e_5 : (x1 + 1).toInt = (x1.toInt + 1) := (i32_add rfl (show (1 : Int32).toInt = 1 by decide) (by omega) (by omega))
      exact ih (sT z_t 25 x1.toNatClampNeg (gT z_t 24 x1.toNatClampNeg)) (x1 + 1) (fr_T frz_t (by decide)) (so_Tn iS (by decide)) (by first | omega | assumption | decide) (by exact keep_step (show gT z_t 24 = gT o_z_t 24 from (frz_t 24 (by decide)).2.1) (by omega) (by omega) i1) (by omega)
set_option maxHeartbeats 1000000 in
set_option maxRecDepth 20000 in
theorem t_fX9_keeps {z_t : Sx} (hS : SOK (gT z_t 24)) : okP (fX9_keeps z_t) (fun y => (FrL [25] z_t y) ∧ (E104 (gT y 25) (gT z_t 24))) := by
  unfold fX9_keeps
  have hn := hS.1
  have hr := hS.2.2.1
  try have e_1 : (0 : Int32).toInt = 0 := (show (0 : Int32).toInt = 0 by decide)
  refine tl_lX9_keeps_2  FU z_t 0 fr_rf hS (by first | omega | assumption | decide) (by intro i hi; omega) (FU_lt (by omega))

set_option maxHeartbeats 1000000 in
set_option maxRecDepth 20000 in
theorem t_fX9_faultOf {z_t : Sx} {x1 : Int32} {x2 : Int32} (p1 : 0 ≤ x1.toInt ∧ x1.toInt ≤ 9) (p2 : 0 ≤ x2.toInt ∧ x2.toInt ≤ 5) : okP (fX9_faultOf z_t x1 x2) (fun y => (y = gT z_t 24 (((44 + (6 * x1)) + x2).toNatClampNeg))) := by
  unfold fX9_faultOf
  have r_1 := n_rng x1
  have r_2 := n_rng x2
  have e_3 : ((44 + (6 * x1)) + x2).toInt = ((44 + (6 * x1.toInt)) + x2.toInt) := (i32_add (i32_add (show (44 : Int32).toInt = 44 by decide) (i32_mul (show (6 : Int32).toInt = 6 by decide) rfl (by omega) (by omega)) (by omega) (by omega)) rfl (by omega) (by omega))
  refine ok_gd (inb_of (by omega) (by omega)) ?_
  have i_4 : (((44 + (6 * x1)) + x2).toNatClampNeg : Int) = ((44 + (6 * x1)) + x2).toInt := clampI (by omega)
  exact ok_some (show (gT z_t 24 ((44 + (6 * x1)) + x2).toNatClampNeg) = gT z_t 24 (((44 + (6 * x1)) + x2).toNatClampNeg) by rfl)

set_option maxHeartbeats 1000000 in
set_option maxRecDepth 20000 in
theorem t_fX9_kindOf {z_t : Sx} {x1 : Int32} {x2 : Int32} (p1 : 0 ≤ x1.toInt ∧ x1.toInt < (gT z_t 24 0).toInt) (p2 : 0 ≤ x2.toInt ∧ x2.toInt ≤ 2) (hS : SOK (gT z_t 24)) : okP (fX9_kindOf z_t x1 x2) (fun _ => True) := by
  unfold fX9_kindOf
  have hn := hS.1
  have hr := hS.2.2.1
  have e_2 : (0 : Int32).toInt = 0 := (show (0 : Int32).toInt = 0 by decide)
  refine ok_bd (t_fX9_faultOf (by first | omega | assumption | decide | (show 0 ≤ x1.toInt ∧ x1.toInt ≤ 9; first | omega | assumption)) (by first | omega | assumption | decide | (show 0 ≤ (0 : Int32).toInt ∧ (0 : Int32).toInt ≤ 5; first | omega | assumption))) (fun r2 q_1 => ?_)
  have h_3 : r2 = gT z_t 24 (((44 + (6 * x1)) + (0 : Int32)).toNatClampNeg) := q_1
  have hb := so_kd hS (x := x1) (by omega) (by omega)
  rw [← h_3] at hb
  have r_4 := n_rng r2
  have r_5 := n_rng x2
  have e_6 : ((26 + (3 * r2)) + x2).toInt = ((26 + (3 * r2.toInt)) + x2.toInt) := (i32_add (i32_add (show (26 : Int32).toInt = 26 by decide) (i32_mul (show (3 : Int32).toInt = 3 by decide) rfl (by omega) (by omega)) (by omega) (by omega)) rfl (by omega) (by omega))
  refine ok_gd (inb_of (by omega) (by omega)) ?_
  have i_7 : (((26 + (3 * r2)) + x2).toNatClampNeg : Int) = ((26 + (3 * r2)) + x2).toInt := clampI (by omega)
  exact ok_some trivial

set_option maxHeartbeats 1000000 in
set_option maxRecDepth 20000 in
theorem tl_lX9_hidden_4 {z_t : Sx} (hS : SOK (gT z_t 24)) : ∀ (n : Nat) (x1 : Int32) (x2 : Int32), (0 ≤ x2.toInt) → ((gT z_t 24 0).toInt + 0 - x2.toInt).toNat < n → okP (lX9_hidden_4 z_t n x1 x2) (fun _ => True) := by
  intro n
  induction n with
  | zero => intro _ _ _ hm; omega
  | succ n ih =>
    intro x1 x2 i0 hm
    rw [lX9_hidden_4]
    have hn := hS.1
    have hr := hS.2.2.1
    refine ok_ite (fun c_1 => ?_) (fun c_1 => ?_)
    · skip
      have r_2 := n_rng (gT z_t 24 0)
      have r_3 := n_rng x2
      have c_1i : (gT z_t 24 0).toInt ≤ x2.toInt := bI_le rfl rfl c_1
      exact ok_some trivial
    · skip
      have r_4 := n_rng (gT z_t 24 0)
      have r_5 := n_rng x2
      have c_1i : (gT z_t 24 0).toInt > x2.toInt := bI_nle rfl rfl c_1
      have e_7 : (4 : Int32).toInt = 4 := (show (4 : Int32).toInt = 4 by decide)
      refine ok_bd (t_fX9_faultOf (by first | omega | assumption | decide | (show 0 ≤ x2.toInt ∧ x2.toInt ≤ 9; first | omega | assumption)) (by first | omega | assumption | decide | (show 0 ≤ (4 : Int32).toInt ∧ (4 : Int32).toInt ≤ 5; first | omega | assumption))) (fun r3 q_6 => ?_)
      have h_8 : r3 = gT z_t 24 (((44 + (6 * x2)) + (4 : Int32)).toNatClampNeg) := q_6
      refine ok_jn ?_
      refine ok_ite (fun c_9 => ?_) (fun c_9 => ?_)
      · skip
        have r_10 := n_rng r3
        have c_9i : r3.toInt = 0 := bI_eq rfl (show (0 : Int32).toInt = 0 by decide) c_9
        have e_12 : (1 : Int32).toInt = 1 := (show (1 : Int32).toInt = 1 by decide)
        refine ok_bd (t_fX9_kindOf (by first | omega | assumption | decide | (show 0 ≤ x2.toInt ∧ x2.toInt < (gT z_t 24 0).toInt; first | omega | assumption)) (by first | omega | assumption | decide | (show 0 ≤ (1 : Int32).toInt ∧ (1 : Int32).toInt ≤ 2; first | omega | assumption)) hS) (fun r9 q_11 => ?_)
        have r_13 := n_rng x1
        have r_14 := n_rng r9
        try have e_15 : (x1 + r9).toInt = (x1.toInt + r9.toInt) := (i32_add rfl rfl (by omega) (by omega))
        try have e_16 : (x2 + 1).toInt = (x2.toInt + 1) := (i32_add rfl (show (1 : Int32).toInt = 1 by decide) (by omega) (by omega))
        exact ih (x1 + r9) (x2 + 1) (by first | omega | assumption | decide) (by omega)
      · skip
        have r_17 := n_rng r3
        have c_9i : r3.toInt ≠ 0 := bI_neq rfl (show (0 : Int32).toInt = 0 by decide) c_9
        have r_18 := n_rng x1
        try have e_19 : (x1 + 0).toInt = (x1.toInt + 0) := (i32_add rfl (show (0 : Int32).toInt = 0 by decide) (by omega) (by omega))
        try have e_20 : (x2 + 1).toInt = (x2.toInt + 1) := (i32_add rfl (show (1 : Int32).toInt = 1 by decide) (by omega) (by omega))
        exact ih (x1 + 0) (x2 + 1) (by first | omega | assumption | decide) (by omega)
set_option maxHeartbeats 1000000 in
set_option maxRecDepth 20000 in
theorem t_fX9_hidden {z_t : Sx} (hS : SOK (gT z_t 24)) : okP (fX9_hidden z_t) (fun _ => True) := by
  unfold fX9_hidden
  have hn := hS.1
  have hr := hS.2.2.1
  try have e_1 : (0 : Int32).toInt = 0 := (show (0 : Int32).toInt = 0 by decide)
  refine tl_lX9_hidden_4 hS FU 0 0 (by first | omega | assumption | decide) (FU_lt (by have := n_rng (gT z_t 24 0); omega))

set_option maxHeartbeats 1000000 in
set_option maxRecDepth 20000 in
theorem tl_lX9_hundreds_5 {x1 : Int32} : ∀ (n : Nat) (x2 : Int64) (x4 : Int32), (x1.toInt + 0 - x4.toInt).toNat < n → okP (lX9_hundreds_5 x1 n x2 x4) (fun _ => True) := by
  intro n
  induction n with
  | zero => intro _ _ hm; omega
  | succ n ih =>
    intro x2 x4 hm
    rw [lX9_hundreds_5]
    refine ok_ite (fun c_1 => ?_) (fun c_1 => ?_)
    · skip
      have r_2 := n_rng x1
      have r_3 := n_rng x4
      have c_1i : x1.toInt ≤ x4.toInt := bI_le rfl rfl c_1
      exact ok_some trivial
    · skip
      have r_4 := n_rng x1
      have r_5 := n_rng x4
      have c_1i : x1.toInt > x4.toInt := bI_nle rfl rfl c_1
      try have e_6 : (x4 + 1).toInt = (x4.toInt + 1) := (i32_add rfl (show (1 : Int32).toInt = 1 by decide) (by omega) (by omega))
      exact ih (x2 * 100) (x4 + 1)  (by omega)
set_option maxHeartbeats 1000000 in
set_option maxRecDepth 20000 in
theorem t_fX9_hundreds {x1 : Int32} : okP (fX9_hundreds x1) (fun _ => True) := by
  unfold fX9_hundreds
  try have e_1 : (0 : Int32).toInt = 0 := (show (0 : Int32).toInt = 0 by decide)
  refine tl_lX9_hundreds_5  FU 1 0  (FU_lt (by have := n_rng x1; omega))

set_option maxHeartbeats 1000000 in
set_option maxRecDepth 20000 in
theorem t_fX9_isOpen {z_t : Sx} {x1 : Int32} (p1 : 0 ≤ x1.toInt ∧ x1.toInt < (gT z_t 24 0).toInt) (hS : SOK (gT z_t 24)) : okP (fX9_isOpen z_t x1) (fun y => (y = 0 ∨ y = 1)) := by
  unfold fX9_isOpen
  have hn := hS.1
  have hr := hS.2.2.1
  have e_2 : (4 : Int32).toInt = 4 := (show (4 : Int32).toInt = 4 by decide)
  refine ok_bd (t_fX9_faultOf (by first | omega | assumption | decide | (show 0 ≤ x1.toInt ∧ x1.toInt ≤ 9; first | omega | assumption)) (by first | omega | assumption | decide | (show 0 ≤ (4 : Int32).toInt ∧ (4 : Int32).toInt ≤ 5; first | omega | assumption))) (fun r2 q_1 => ?_)
  have h_3 : r2 = gT z_t 24 (((44 + (6 * x1)) + (4 : Int32)).toNatClampNeg) := q_1
  refine ok_ite (fun c_4 => ?_) (fun c_4 => ?_)
  · skip
    have r_5 := n_rng r2
    have c_4i : r2.toInt = 0 := bI_eq rfl (show (0 : Int32).toInt = 0 by decide) c_4
    have e_7 : (3 : Int32).toInt = 3 := (show (3 : Int32).toInt = 3 by decide)
    refine ok_bd (t_fX9_faultOf (by first | omega | assumption | decide | (show 0 ≤ x1.toInt ∧ x1.toInt ≤ 9; first | omega | assumption)) (by first | omega | assumption | decide | (show 0 ≤ (3 : Int32).toInt ∧ (3 : Int32).toInt ≤ 5; first | omega | assumption))) (fun r5 q_6 => ?_)
    have h_8 : r5 = gT z_t 24 (((44 + (6 * x1)) + (3 : Int32)).toNatClampNeg) := q_6
    have hb := so_un hS (x := x1) (by omega) (by omega)
    rw [← h_8] at hb
    refine ok_jn ?_
    refine ok_ite (fun c_9 => ?_) (fun c_9 => ?_)
    · skip
      have r_10 := n_rng r5
      have c_9i : r5.toInt < 0 := bI_lt rfl (show (0 : Int32).toInt = 0 by decide) c_9
      exact ok_some (Or.inr rfl)
    · skip
      have r_11 := n_rng r5
      have c_9i : r5.toInt ≥ 0 := bI_nlt rfl (show (0 : Int32).toInt = 0 by decide) c_9
      refine ok_bd (t_fX9_faultOf (by first | omega | assumption | decide | (show 0 ≤ x1.toInt ∧ x1.toInt ≤ 9; first | omega | assumption)) (by first | omega | assumption | decide | (show 0 ≤ (3 : Int32).toInt ∧ (3 : Int32).toInt ≤ 5; first | omega | assumption))) (fun r9 q_12 => ?_)
      have h_13 : r9 = gT z_t 24 (((44 + (6 * x1)) + (3 : Int32)).toNatClampNeg) := q_12
      have e59 : r9.toInt = r5.toInt := congrArg Int32.toInt (h_13.trans (show r5 = gT z_t 24 (((44 + (6 * x1)) + 3).toNatClampNeg) by assumption).symm)
      refine ok_bd (t_fX9_faultOf (by first | omega | assumption | decide | (show 0 ≤ r9.toInt ∧ r9.toInt ≤ 9; first | omega | assumption)) (by first | omega | assumption | decide | (show 0 ≤ (4 : Int32).toInt ∧ (4 : Int32).toInt ≤ 5; first | omega | assumption))) (fun r11 q_14 => ?_)
      have h_15 : r11 = gT z_t 24 (((44 + (6 * r9)) + (4 : Int32)).toNatClampNeg) := q_14
      refine ok_ite (fun c_16 => ?_) (fun c_16 => ?_)
      · skip
        have r_17 := n_rng r11
        have c_16i : r11.toInt ≤ 0 := bI_le rfl (show (0 : Int32).toInt = 0 by decide) c_16
        exact ok_some (Or.inl rfl)
      · skip
        have r_18 := n_rng r11
        have c_16i : r11.toInt > 0 := bI_nle rfl (show (0 : Int32).toInt = 0 by decide) c_16
        exact ok_some (Or.inr rfl)
  · skip
    have r_19 := n_rng r2
    have c_4i : r2.toInt ≠ 0 := bI_neq rfl (show (0 : Int32).toInt = 0 by decide) c_4
    exact ok_some (Or.inl rfl)

set_option maxHeartbeats 1000000 in
set_option maxRecDepth 20000 in
theorem t_fX9_canLook {z_t : Sx} {x1 : Int32} (p1 : 0 ≤ x1.toInt ∧ x1.toInt < (gT z_t 24 0).toInt) (hS : SOK (gT z_t 24)) : okP (fX9_canLook z_t x1) (fun y => (y = 0 ∨ y = 1)) := by
  unfold fX9_canLook
  have hn := hS.1
  have hr := hS.2.2.1
  refine ok_bd (t_fX9_isOpen (by first | omega | assumption | decide | (show 0 ≤ x1.toInt ∧ x1.toInt < (gT z_t 24 0).toInt; first | omega | assumption)) hS) (fun r2 q_1 => ?_)
  have h_2 : r2 = 0 ∨ r2 = 1 := q_1
  refine ok_ite (fun c_3 => ?_) (fun c_3 => ?_)
  · skip
    have r_4 := n_rng r2
    have c_3i : r2.toInt = 0 := bI_eq rfl (show (0 : Int32).toInt = 0 by decide) c_3
    exact ok_some (Or.inl rfl)
  · skip
    have r_5 := n_rng r2
    have c_3i : r2.toInt ≠ 0 := bI_neq rfl (show (0 : Int32).toInt = 0 by decide) c_3
    have e_7 : (1 : Int32).toInt = 1 := (show (1 : Int32).toInt = 1 by decide)
    refine ok_bd (t_fX9_faultOf (by first | omega | assumption | decide | (show 0 ≤ x1.toInt ∧ x1.toInt ≤ 9; first | omega | assumption)) (by first | omega | assumption | decide | (show 0 ≤ (1 : Int32).toInt ∧ (1 : Int32).toInt ≤ 5; first | omega | assumption))) (fun r5 q_6 => ?_)
    have h_8 : r5 = gT z_t 24 (((44 + (6 * x1)) + (1 : Int32)).toNatClampNeg) := q_6
    refine ok_ite (fun c_9 => ?_) (fun c_9 => ?_)
    · skip
      have r_10 := n_rng (gT z_t 24 3)
      have r_11 := n_rng r5
      have c_9i : (gT z_t 24 3).toInt < r5.toInt := bI_lt rfl rfl c_9
      exact ok_some (Or.inl rfl)
    · skip
      have r_12 := n_rng (gT z_t 24 3)
      have r_13 := n_rng r5
      have c_9i : (gT z_t 24 3).toInt ≥ r5.toInt := bI_nlt rfl rfl c_9
      exact ok_some (Or.inr rfl)

set_option maxHeartbeats 1000000 in
set_option maxRecDepth 20000 in
theorem tl_lX9_putsBack_2 {o_z_t : Sx} (pk : SOK (gT o_z_t 25)) : ∀ (n : Nat) (z_t : Sx) (x1 : Int32), (FrL [24] o_z_t z_t) → (0 ≤ x1.toInt ∧ x1.toInt ≤ 104) → (∀ i : Nat, (i : Int) < x1.toInt → gT z_t 24 i = gT o_z_t 25 i) → (104 + 0 - x1.toInt).toNat < n → okP (lX9_putsBack_2 n z_t x1) (fun y => (FrL [24] o_z_t y) ∧ (E104 (gT y 24) (gT o_z_t 25)) ∧ (SOK (gT y 24))) := by
  intro n
  induction n with
  | zero => intro _ _ _ _ _ hm; omega
  | succ n ih =>
    intro z_t x1 frz_t i0 i1 hm
    rw [lX9_putsBack_2]
    refine ok_ite (fun c_1 => ?_) (fun c_1 => ?_)
    · skip
      have r_2 := n_rng x1
      have c_1i : 104 ≤ x1.toInt := bI_le (show (104 : Int32).toInt = 104 by decide) rfl c_1
      exact ok_some ⟨frz_t, (show E104 (gT z_t 24) (gT o_z_t 25) by intro i hi; exact i1 i (by omega)), (show SOK (gT z_t 24) by exact sok_eq (fun i hi => i1 i (by omega)) pk)⟩
    · skip
      have r_3 := n_rng x1
      have c_1i : 104 > x1.toInt := bI_nle (show (104 : Int32).toInt = 104 by decide) rfl c_1
      refine ok_gd (inb_of (by omega) (by omega)) ?_
      have i_4 : (x1.toNatClampNeg : Int) = x1.toInt := clampI (by omega)
      try have e_5 : (x1 + 1).toInt = (x1.toInt + 1) := (i32_add rfl (show (1 : Int32).toInt = 1 by decide) (by omega) (by omega))
      exact ih (sT z_t 24 x1.toNatClampNeg (gT z_t 25 x1.toNatClampNeg)) (x1 + 1) (fr_T frz_t (by decide)) (by first | omega | assumption | decide) (by exact back_step (show gT z_t 25 = gT o_z_t 25 from (frz_t 25 (by decide)).2.1) (by omega) (by omega) i1) (by omega)
set_option maxHeartbeats 1000000 in
set_option maxRecDepth 20000 in
theorem t_fX9_putsBack {z_t : Sx} (pk : SOK (gT z_t 25)) : okP (fX9_putsBack z_t) (fun y => (FrL [24] z_t y) ∧ (E104 (gT y 24) (gT z_t 25)) ∧ (SOK (gT y 24))) := by
  unfold fX9_putsBack
  try have e_1 : (0 : Int32).toInt = 0 := (show (0 : Int32).toInt = 0 by decide)
  refine tl_lX9_putsBack_2 (by first | omega | assumption | decide) FU z_t 0 fr_rf (by first | omega | assumption | decide) (by intro i hi; omega) (FU_lt (by omega))

set_option maxHeartbeats 1000000 in
set_option maxRecDepth 20000 in
theorem tl_lX9_bits_4 : ∀ (n : Nat) (x1 : Int32) (x2 : Int32), x2.toUInt32.toNat < n → okP (lX9_bits_4 n x1 x2) (fun _ => True) := by
  intro n
  induction n with
  | zero => intro _ _ hm; omega
  | succ n ih =>
    intro x1 x2 hm
    rw [lX9_bits_4]
    refine ok_ite (fun c_1 => ?_) (fun c_1 => ?_)
    · skip
      have r_2 := n_rng x2
      have c_1i : x2.toInt = 0 := bI_eq rfl (show (0 : Int32).toInt = 0 by decide) c_1
      exact ok_some trivial
    · skip
      have r_3 := n_rng x2
      have c_1i : x2.toInt ≠ 0 := bI_neq rfl (show (0 : Int32).toInt = 0 by decide) c_1
      have r_4 := n_rng x1
      try have e_5 : (x1 + 1).toInt = (x1.toInt + 1) := (i32_add rfl (show (1 : Int32).toInt = 1 by decide) (by omega) (by omega))
      exact ih (x1 + 1) (x2 &&& (x2 - 1))  (by exact Nat.lt_of_lt_of_le (bits_lt (by assumption)) (by omega))
set_option maxHeartbeats 1000000 in
set_option maxRecDepth 20000 in
theorem t_fX9_bits {x0 : Int32} : okP (fX9_bits x0) (fun _ => True) := by
  unfold fX9_bits
  try have e_1 : (0 : Int32).toInt = 0 := (show (0 : Int32).toInt = 0 by decide)
  refine tl_lX9_bits_4  FU 0 x0  (FU_lt (by have := x0.toUInt32.toNat_lt; omega))

set_option maxHeartbeats 1000000 in
set_option maxRecDepth 20000 in
theorem tl_lX9_thatAre_4 {z_t : Sx} {x1 : Int32} (hS : SOK (gT z_t 24)) : ∀ (n : Nat) (x2 : Int32) (x3 : Int32), (0 ≤ x3.toInt) → ((gT z_t 24 0).toInt + 0 - x3.toInt).toNat < n → okP (lX9_thatAre_4 z_t x1 n x2 x3) (fun _ => True) := by
  intro n
  induction n with
  | zero => intro _ _ _ hm; omega
  | succ n ih =>
    intro x2 x3 i0 hm
    rw [lX9_thatAre_4]
    have hn := hS.1
    have hr := hS.2.2.1
    refine ok_ite (fun c_1 => ?_) (fun c_1 => ?_)
    · skip
      have r_2 := n_rng (gT z_t 24 0)
      have r_3 := n_rng x3
      have c_1i : (gT z_t 24 0).toInt ≤ x3.toInt := bI_le rfl rfl c_1
      exact ok_some trivial
    · skip
      have r_4 := n_rng (gT z_t 24 0)
      have r_5 := n_rng x3
      have c_1i : (gT z_t 24 0).toInt > x3.toInt := bI_nle rfl rfl c_1
      have e_7 : (4 : Int32).toInt = 4 := (show (4 : Int32).toInt = 4 by decide)
      refine ok_bd (t_fX9_faultOf (by first | omega | assumption | decide | (show 0 ≤ x3.toInt ∧ x3.toInt ≤ 9; first | omega | assumption)) (by first | omega | assumption | decide | (show 0 ≤ (4 : Int32).toInt ∧ (4 : Int32).toInt ≤ 5; first | omega | assumption))) (fun r3 q_6 => ?_)
      have h_8 : r3 = gT z_t 24 (((44 + (6 * x3)) + (4 : Int32)).toNatClampNeg) := q_6
      refine ok_jn ?_
      refine ok_ite (fun c_9 => ?_) (fun c_9 => ?_)
      · skip
        have r_10 := n_rng r3
        have r_11 := n_rng x1
        have c_9i : r3.toInt = x1.toInt := bI_eq rfl rfl c_9
        try have e_12 : (x3 + 1).toInt = (x3.toInt + 1) := (i32_add rfl (show (1 : Int32).toInt = 1 by decide) (by omega) (by omega))
        exact ih (x2 ||| ((1 : Int32) <<< (x3 &&& 31))) (x3 + 1) (by first | omega | assumption | decide) (by omega)
      · skip
        have r_13 := n_rng r3
        have r_14 := n_rng x1
        have c_9i : r3.toInt ≠ x1.toInt := bI_neq rfl rfl c_9
        try have e_15 : (x3 + 1).toInt = (x3.toInt + 1) := (i32_add rfl (show (1 : Int32).toInt = 1 by decide) (by omega) (by omega))
        exact ih (x2 ||| 0) (x3 + 1) (by first | omega | assumption | decide) (by omega)
set_option maxHeartbeats 1000000 in
set_option maxRecDepth 20000 in
theorem t_fX9_thatAre {z_t : Sx} {x1 : Int32} (hS : SOK (gT z_t 24)) : okP (fX9_thatAre z_t x1) (fun _ => True) := by
  unfold fX9_thatAre
  have hn := hS.1
  have hr := hS.2.2.1
  try have e_1 : (0 : Int32).toInt = 0 := (show (0 : Int32).toInt = 0 by decide)
  refine tl_lX9_thatAre_4 hS FU 0 0 (by first | omega | assumption | decide) (FU_lt (by have := n_rng (gT z_t 24 0); omega))

set_option maxHeartbeats 1000000 in
set_option maxRecDepth 20000 in
theorem t_fX9_words {z_t : Sx} {x1 : Int32} (p1 : 0 ≤ x1.toInt ∧ x1.toInt < (gT z_t 24 0).toInt) (hS : SOK (gT z_t 24)) : okP (fX9_words z_t x1) (fun y => (FrL [23] z_t y)) := by
  unfold fX9_words
  have hn := hS.1
  have hr := hS.2.2.1
  have e_2 : (0 : Int32).toInt = 0 := (show (0 : Int32).toInt = 0 by decide)
  refine ok_bd (t_fX9_faultOf (by first | omega | assumption | decide | (show 0 ≤ x1.toInt ∧ x1.toInt ≤ 9; first | omega | assumption)) (by first | omega | assumption | decide | (show 0 ≤ (0 : Int32).toInt ∧ (0 : Int32).toInt ≤ 5; first | omega | assumption))) (fun r2 q_1 => ?_)
  have h_3 : r2 = gT z_t 24 (((44 + (6 * x1)) + (0 : Int32)).toNatClampNeg) := q_1
  have n_5 : KC z_t (sJ (sJ z_t 23 0 x1.toInt64) 23 1 r2.toInt64) := (kc_J (kc_J kc_rf))
  have n_5a := n_5.1
  have n_5b := n_5.2
  refine ok_bd (t_fX9_kindOf (by first | omega | assumption | decide | (show 0 ≤ x1.toInt ∧ x1.toInt < (gT z_t 24 0).toInt; first | omega | assumption)) (by first | omega | assumption | decide | (show 0 ≤ (0 : Int32).toInt ∧ (0 : Int32).toInt ≤ 2; first | omega | assumption)) (so_J (so_J hS))) (fun r4 q_4 => ?_)
  have e_7 : (2 : Int32).toInt = 2 := (show (2 : Int32).toInt = 2 by decide)
  refine ok_bd (t_fX9_faultOf (by first | omega | assumption | decide | (show 0 ≤ x1.toInt ∧ x1.toInt ≤ 9; first | omega | assumption)) (by first | omega | assumption | decide | (show 0 ≤ (2 : Int32).toInt ∧ (2 : Int32).toInt ≤ 5; first | omega | assumption))) (fun r6 q_6 => ?_)
  have h_8 : r6 = gT z_t 24 (((44 + (6 * x1)) + (2 : Int32)).toNatClampNeg) := q_6
  have e_10 : (1 : Int32).toInt = 1 := (show (1 : Int32).toInt = 1 by decide)
  refine ok_bd (t_fX9_faultOf (by first | omega | assumption | decide | (show 0 ≤ x1.toInt ∧ x1.toInt ≤ 9; first | omega | assumption)) (by first | omega | assumption | decide | (show 0 ≤ (1 : Int32).toInt ∧ (1 : Int32).toInt ≤ 5; first | omega | assumption))) (fun r8 q_9 => ?_)
  have h_11 : r8 = gT z_t 24 (((44 + (6 * x1)) + (1 : Int32)).toNatClampNeg) := q_9
  refine ok_nm ?_
  have n_13 : KC z_t (sJ (sJ (sJ (sJ (sJ (sJ z_t 23 0 x1.toInt64) 23 1 r2.toInt64) 23 2 r4.toInt64) 23 3 r6.toInt64) 23 4 r8.toInt64) 23 5 (gT (sJ (sJ (sJ (sJ (sJ z_t 23 0 x1.toInt64) 23 1 r2.toInt64) 23 2 r4.toInt64) 23 3 r6.toInt64) 23 4 r8.toInt64) 24 3).toInt64) := (kc_J (kc_J (kc_J (kc_J (kc_J (kc_J kc_rf))))))
  have n_13a := n_13.1
  have n_13b := n_13.2
  refine ok_bd (t_fX9_thatAre (so_J (so_J (so_J (so_J (so_J (so_J hS))))))) (fun r11 q_12 => ?_)
  refine ok_bd (t_fX9_bits) (fun r13 q_14 => ?_)
  have e_16 : (5 : Int32).toInt = 5 := (show (5 : Int32).toInt = 5 by decide)
  refine ok_bd (t_fX9_faultOf (by first | omega | assumption | decide | (show 0 ≤ x1.toInt ∧ x1.toInt ≤ 9; first | omega | assumption)) (by first | omega | assumption | decide | (show 0 ≤ (5 : Int32).toInt ∧ (5 : Int32).toInt ≤ 5; first | omega | assumption))) (fun r15 q_15 => ?_)
  have h_17 : r15 = gT z_t 24 (((44 + (6 * x1)) + (5 : Int32)).toNatClampNeg) := q_15
  refine ok_nm ?_
  exact ok_some (fr_J (fr_J (fr_J (fr_J (fr_J (fr_J (fr_J (fr_J (fr_J fr_rf (by decide)) (by decide)) (by decide)) (by decide)) (by decide)) (by decide)) (by decide)) (by decide)) (by decide))

set_option maxHeartbeats 1000000 in
set_option maxRecDepth 20000 in
theorem t_fX9_coins {z_t : Sx} {x1 : Int32} (hS : SOK (gT z_t 24)) : okP (fX9_coins z_t x1) (fun _ => True) := by
  unfold fX9_coins
  have hn := hS.1
  have hr := hS.2.2.1
  have r_2 := n_rng x1
  have e_3 : x1.toInt64.toInt = x1.toInt := (l64_of rfl)
  have e_4 : (0 : Int64).toInt = 0 := (show (0 : Int64).toInt = 0 by decide)
  have e_5 : (2 : Int64).toInt = 2 := (show (2 : Int64).toInt = 2 by decide)
  refine ok_bd (t_fX9_in) (fun r2 q_1 => ?_)
  have h_6 : r2 = 0 ∨ r2 = 1 := q_1.1
  have h_7 : (r2.toInt = 1 ∧ (0 : Int64).toInt ≤ x1.toInt64.toInt ∧ x1.toInt64.toInt ≤ (2 : Int64).toInt) ∨ (r2.toInt = 0 ∧ (x1.toInt64.toInt < (0 : Int64).toInt ∨ (2 : Int64).toInt < x1.toInt64.toInt)) := q_1.2
  refine ok_ite (fun c_8 => ?_) (fun c_8 => ?_)
  · skip
    have r_9 := n_rng r2
    have c_8i : r2.toInt = 0 := bI_eq rfl (show (0 : Int32).toInt = 0 by decide) c_8
    exact ok_some trivial
  · skip
    have r_10 := n_rng r2
    have c_8i : r2.toInt ≠ 0 := bI_neq rfl (show (0 : Int32).toInt = 0 by decide) c_8
    have e_11 : (4 + x1).toInt = (4 + x1.toInt) := (i32_add (show (4 : Int32).toInt = 4 by decide) rfl (by omega) (by omega))
    refine ok_gd (inb_of (by omega) (by omega)) ?_
    have i_12 : ((4 + x1).toNatClampNeg : Int) = (4 + x1).toInt := clampI (by omega)
    exact ok_some trivial

set_option maxHeartbeats 1000000 in
set_option maxRecDepth 20000 in
theorem t_fX9_count {z_t : Sx} {x1 : Int32} (hS : SOK (gT z_t 24)) : okP (fX9_count z_t x1) (fun _ => True) := by
  unfold fX9_count
  have hn := hS.1
  have hr := hS.2.2.1
  refine ok_ite (fun c_1 => ?_) (fun c_1 => ?_)
  · skip
    have r_2 := n_rng x1
    have c_1i : x1.toInt = 0 := bI_eq rfl (show (0 : Int32).toInt = 0 by decide) c_1
    refine ok_gd (inb_of (by omega) (by omega)) ?_
    have i_3 : (x1.toNatClampNeg : Int) = x1.toInt := clampI (by omega)
    exact ok_some trivial
  · skip
    have r_4 := n_rng x1
    have c_1i : x1.toInt ≠ 0 := bI_neq rfl (show (0 : Int32).toInt = 0 by decide) c_1
    refine ok_ite (fun c_5 => ?_) (fun c_5 => ?_)
    · skip
      have c_5i : x1.toInt = 1 := bI_eq rfl (show (1 : Int32).toInt = 1 by decide) c_5
      refine ok_gd (inb_of (by omega) (by omega)) ?_
      have i_6 : (x1.toNatClampNeg : Int) = x1.toInt := clampI (by omega)
      exact ok_some trivial
    · skip
      have c_5i : x1.toInt ≠ 1 := bI_neq rfl (show (1 : Int32).toInt = 1 by decide) c_5
      refine ok_ite (fun c_7 => ?_) (fun c_7 => ?_)
      · skip
        have c_7i : x1.toInt = 2 := bI_eq rfl (show (2 : Int32).toInt = 2 by decide) c_7
        exact ok_some trivial
      · skip
        have c_7i : x1.toInt ≠ 2 := bI_neq rfl (show (2 : Int32).toInt = 2 by decide) c_7
        refine ok_ite (fun c_8 => ?_) (fun c_8 => ?_)
        · skip
          have c_8i : x1.toInt = 3 := bI_eq rfl (show (3 : Int32).toInt = 3 by decide) c_8
          exact ok_some trivial
        · skip
          have c_8i : x1.toInt ≠ 3 := bI_neq rfl (show (3 : Int32).toInt = 3 by decide) c_8
          refine ok_ite (fun c_9 => ?_) (fun c_9 => ?_)
          · skip
            have c_9i : x1.toInt = 4 := bI_eq rfl (show (4 : Int32).toInt = 4 by decide) c_9
            refine ok_bd (t_fX9_thatAre hS) (fun r5 q_10 => ?_)
            refine ok_bd (t_fX9_bits) (fun r7 q_11 => ?_)
            exact ok_some trivial
          · skip
            have c_9i : x1.toInt ≠ 4 := bI_neq rfl (show (4 : Int32).toInt = 4 by decide) c_9
            refine ok_ite (fun c_12 => ?_) (fun c_12 => ?_)
            · skip
              have c_12i : x1.toInt = 5 := bI_eq rfl (show (5 : Int32).toInt = 5 by decide) c_12
              refine ok_bd (t_fX9_thatAre hS) (fun r9 q_13 => ?_)
              refine ok_bd (t_fX9_bits) (fun r11 q_14 => ?_)
              exact ok_some trivial
            · skip
              have c_12i : x1.toInt ≠ 5 := bI_neq rfl (show (5 : Int32).toInt = 5 by decide) c_12
              refine ok_ite (fun c_15 => ?_) (fun c_15 => ?_)
              · skip
                have c_15i : x1.toInt = 6 := bI_eq rfl (show (6 : Int32).toInt = 6 by decide) c_15
                exact ok_some trivial
              · skip
                have c_15i : x1.toInt ≠ 6 := bI_neq rfl (show (6 : Int32).toInt = 6 by decide) c_15
                refine ok_ite (fun c_16 => ?_) (fun c_16 => ?_)
                · skip
                  have c_16i : x1.toInt = 7 := bI_eq rfl (show (7 : Int32).toInt = 7 by decide) c_16
                  exact ok_some trivial
                · skip
                  have c_16i : x1.toInt ≠ 7 := bI_neq rfl (show (7 : Int32).toInt = 7 by decide) c_16
                  refine ok_ite (fun c_17 => ?_) (fun c_17 => ?_)
                  · skip
                    have c_17i : x1.toInt = 8 := bI_eq rfl (show (8 : Int32).toInt = 8 by decide) c_17
                    exact ok_some trivial
                  · skip
                    have c_17i : x1.toInt ≠ 8 := bI_neq rfl (show (8 : Int32).toInt = 8 by decide) c_17
                    refine ok_ite (fun c_18 => ?_) (fun c_18 => ?_)
                    · skip
                      have c_18i : x1.toInt = 9 := bI_eq rfl (show (9 : Int32).toInt = 9 by decide) c_18
                      exact ok_some trivial
                    · skip
                      have c_18i : x1.toInt ≠ 9 := bI_neq rfl (show (9 : Int32).toInt = 9 by decide) c_18
                      refine ok_ite (fun c_19 => ?_) (fun c_19 => ?_)
                      · skip
                        have c_19i : x1.toInt = 10 := bI_eq rfl (show (10 : Int32).toInt = 10 by decide) c_19
                        exact ok_some trivial
                      · skip
                        have c_19i : x1.toInt ≠ 10 := bI_neq rfl (show (10 : Int32).toInt = 10 by decide) c_19
                        exact ok_some trivial

set_option maxHeartbeats 1000000 in
set_option maxRecDepth 20000 in
theorem t_fX9_dawn {z_t : Sx} (hS : SOK (gT z_t 24)) : okP (fX9_dawn z_t) (fun y => (FrL [24] z_t y.2) ∧ (SOK (gT y.2 24)) ∧ (KC z_t y.2)) := by
  unfold fX9_dawn
  have hn := hS.1
  have hr := hS.2.2.1
  refine ok_bd (t_fX9_isWork) (fun r2 q_1 => ?_)
  have h_2 : r2 = 0 ∨ r2 = 1 := q_1.1
  have h_3 : (r2.toInt = 1 ∧ 0 < (gT z_t 24 0).toInt) ∨ r2.toInt = 0 := q_1.2
  refine ok_ite (fun c_4 => ?_) (fun c_4 => ?_)
  · skip
    have r_5 := n_rng r2
    have c_4i : r2.toInt = 0 := bI_eq rfl (show (0 : Int32).toInt = 0 by decide) c_4
    exact ok_some ⟨fr_rf, hS, kc_rf⟩
  · skip
    have r_6 := n_rng r2
    have c_4i : r2.toInt ≠ 0 := bI_neq rfl (show (0 : Int32).toInt = 0 by decide) c_4
    refine ok_bd (t_fX9_hidden hS) (fun r5 q_7 => ?_)
    refine ok_nm ?_
    refine ok_nm ?_
    have n_9 : KC z_t (sT (sT (sT z_t 24 5 ((gT z_t 24 5) + r5)) 24 6 ((gT (sT z_t 24 5 ((gT z_t 24 5) + r5)) 24 6) + (gT (sT z_t 24 5 ((gT z_t 24 5) + r5)) 24 4))) 24 7 ((gT (sT (sT z_t 24 5 ((gT z_t 24 5) + r5)) 24 6 ((gT (sT z_t 24 5 ((gT z_t 24 5) + r5)) 24 6) + (gT (sT z_t 24 5 ((gT z_t 24 5) + r5)) 24 4))) 24 7) + 1)) := (kc_T (kc_T (kc_T kc_rf (by omega) (by omega)) (by omega) (by omega)) (by omega) (by omega))
    have n_9a := n_9.1
    have n_9b := n_9.2
    refine ok_bd (t_fX9_begins (so_T (so_T (so_T hS (by unfold freeix; omega)) (by unfold freeix; omega)) (by unfold freeix; omega))) (fun z9 q_8 => ?_)
    have h_10 : FrL [24] (sT (sT (sT z_t 24 5 ((gT z_t 24 5) + r5)) 24 6 ((gT (sT z_t 24 5 ((gT z_t 24 5) + r5)) 24 6) + (gT (sT z_t 24 5 ((gT z_t 24 5) + r5)) 24 4))) 24 7 ((gT (sT (sT z_t 24 5 ((gT z_t 24 5) + r5)) 24 6 ((gT (sT z_t 24 5 ((gT z_t 24 5) + r5)) 24 6) + (gT (sT z_t 24 5 ((gT z_t 24 5) + r5)) 24 4))) 24 7) + 1)) z9 := q_8.1
    have h_11 : SOK (gT z9 24) := q_8.2.1
    have h_12 : KC (sT (sT (sT z_t 24 5 ((gT z_t 24 5) + r5)) 24 6 ((gT (sT z_t 24 5 ((gT z_t 24 5) + r5)) 24 6) + (gT (sT z_t 24 5 ((gT z_t 24 5) + r5)) 24 4))) 24 7 ((gT (sT (sT z_t 24 5 ((gT z_t 24 5) + r5)) 24 6 ((gT (sT z_t 24 5 ((gT z_t 24 5) + r5)) 24 6) + (gT (sT z_t 24 5 ((gT z_t 24 5) + r5)) 24 4))) 24 7) + 1)) z9 := q_8.2.2
    have h_12a := h_12.1
    have h_12b := h_12.2
    exact ok_some ⟨(fr_tr (fr_T (fr_T (fr_T fr_rf (by decide)) (by decide)) (by decide)) h_10 (by decide)), h_11, (kc_tr (kc_T (kc_T (kc_T kc_rf (by omega) (by omega)) (by omega) (by omega)) (by omega) (by omega)) h_12)⟩

set_option maxHeartbeats 1000000 in
set_option maxRecDepth 20000 in
theorem t_fX9_isRule {z_t : Sx} {x1 : Int32} : okP (fX9_isRule z_t x1) (fun y => (y = 0 ∨ y = 1) ∧ ((y.toInt = 1 ∧ 0 ≤ x1.toInt ∧ x1.toInt < (gI z_t 2).toInt) ∨ y.toInt = 0)) := by
  unfold fX9_isRule
  refine ok_ite (fun c_1 => ?_) (fun c_1 => ?_)
  · skip
    have r_2 := n_rng x1
    have c_1i : x1.toInt < 0 := bI_lt rfl (show (0 : Int32).toInt = 0 by decide) c_1
    exact ok_some ⟨Or.inl rfl, (show ((0 : Int32).toInt = 1 ∧ 0 ≤ x1.toInt ∧ x1.toInt < (gI z_t 2).toInt) ∨ (0 : Int32).toInt = 0 by first | exact Or.inl ⟨by decide, by omega, by omega⟩ | exact Or.inr (by decide))⟩
  · skip
    have r_3 := n_rng x1
    have c_1i : x1.toInt ≥ 0 := bI_nlt rfl (show (0 : Int32).toInt = 0 by decide) c_1
    refine ok_ite (fun c_4 => ?_) (fun c_4 => ?_)
    · skip
      have r_5 := n_rng (gI z_t 2)
      have c_4i : (gI z_t 2).toInt ≤ x1.toInt := bI_le rfl rfl c_4
      exact ok_some ⟨Or.inl rfl, (show ((0 : Int32).toInt = 1 ∧ 0 ≤ x1.toInt ∧ x1.toInt < (gI z_t 2).toInt) ∨ (0 : Int32).toInt = 0 by first | exact Or.inl ⟨by decide, by omega, by omega⟩ | exact Or.inr (by decide))⟩
    · skip
      have r_6 := n_rng (gI z_t 2)
      have c_4i : (gI z_t 2).toInt > x1.toInt := bI_nle rfl rfl c_4
      exact ok_some ⟨Or.inr rfl, (show ((1 : Int32).toInt = 1 ∧ 0 ≤ x1.toInt ∧ x1.toInt < (gI z_t 2).toInt) ∨ (1 : Int32).toInt = 0 by first | exact Or.inl ⟨by decide, by omega, by omega⟩ | exact Or.inr (by decide))⟩

set_option maxHeartbeats 1000000 in
set_option maxRecDepth 20000 in
theorem t_fX9_draw {z_t : Sx} {x1 : Int32} (p1 : ¬ x1 = 0) (hS : SOK (gT z_t 24)) : okP (fX9_draw z_t x1) (fun y => (FrL [24] z_t y.2) ∧ (SOK (gT y.2 24)) ∧ (KC z_t y.2)) := by
  unfold fX9_draw
  have hn := hS.1
  have hr := hS.2.2.1
  refine ok_nm ?_
  refine ok_gd (by assumption) ?_
  exact ok_some ⟨(fr_T fr_rf (by decide)), (so_T hS (by unfold freeix; omega)), (kc_T kc_rf (by omega) (by omega))⟩

set_option maxHeartbeats 1000000 in
set_option maxRecDepth 20000 in
theorem t_fX9_looks {z_t : Sx} {x1 : Int32} (p1 : 0 ≤ x1.toInt ∧ x1.toInt < (gT z_t 24 0).toInt) (hS : SOK (gT z_t 24)) : okP (fX9_looks z_t x1) (fun y => (y.1 = 0 ∨ y.1 = 1) ∧ (FrL [24] z_t y.2) ∧ (SOK (gT y.2 24)) ∧ (KC z_t y.2)) := by
  unfold fX9_looks
  have hn := hS.1
  have hr := hS.2.2.1
  have r_1 := n_rng x1
  have e_2 : ((44 + (6 * x1)) + 5).toInt = ((44 + (6 * x1.toInt)) + 5) := (i32_add (i32_add (show (44 : Int32).toInt = 44 by decide) (i32_mul (show (6 : Int32).toInt = 6 by decide) rfl (by omega) (by omega)) (by omega) (by omega)) (show (5 : Int32).toInt = 5 by decide) (by omega) (by omega))
  refine ok_gd (inb_of (by omega) (by omega)) ?_
  have i_3 : (((44 + (6 * x1)) + 5).toNatClampNeg : Int) = ((44 + (6 * x1)) + 5).toInt := clampI (by omega)
  have e_4 : ((44 + (6 * x1)) + 1).toInt = ((44 + (6 * x1.toInt)) + 1) := (i32_add (i32_add (show (44 : Int32).toInt = 44 by decide) (i32_mul (show (6 : Int32).toInt = 6 by decide) rfl (by omega) (by omega)) (by omega) (by omega)) (show (1 : Int32).toInt = 1 by decide) (by omega) (by omega))
  refine ok_gd (inb_of (by omega) (by omega)) ?_
  have i_5 : (((44 + (6 * x1)) + 1).toNatClampNeg : Int) = ((44 + (6 * x1)) + 1).toInt := clampI (by omega)
  refine ok_nm ?_
  have e_7 : (100 : Int32).toInt = 100 := (show (100 : Int32).toInt = 100 by decide)
  have n_8 : KC z_t (sT (sT z_t 24 ((44 + (6 * x1)) + 5).toNatClampNeg ((gT z_t 24 ((44 + (6 * x1)) + 5).toNatClampNeg) + 1)) 24 3 ((gT (sT z_t 24 ((44 + (6 * x1)) + 5).toNatClampNeg ((gT z_t 24 ((44 + (6 * x1)) + 5).toNatClampNeg) + 1)) 24 3) - (gT (sT z_t 24 ((44 + (6 * x1)) + 5).toNatClampNeg ((gT z_t 24 ((44 + (6 * x1)) + 5).toNatClampNeg) + 1)) 24 ((44 + (6 * x1)) + 1).toNatClampNeg))) := (kc_T (kc_T kc_rf (by omega) (by omega)) (by omega) (by omega))
  have n_8a := n_8.1
  have n_8b := n_8.2
  refine ok_bd2 (t_fX9_draw (by first | omega | assumption | decide | (show ¬ (100 : Int32) = 0; first | omega | assumption)) (so_T (so_T hS (by unfold freeix; omega)) (by unfold freeix; omega))) (fun r5 z6 q_6 => ?_)
  have h_9 : FrL [24] (sT (sT z_t 24 ((44 + (6 * x1)) + 5).toNatClampNeg ((gT z_t 24 ((44 + (6 * x1)) + 5).toNatClampNeg) + 1)) 24 3 ((gT (sT z_t 24 ((44 + (6 * x1)) + 5).toNatClampNeg ((gT z_t 24 ((44 + (6 * x1)) + 5).toNatClampNeg) + 1)) 24 3) - (gT (sT z_t 24 ((44 + (6 * x1)) + 5).toNatClampNeg ((gT z_t 24 ((44 + (6 * x1)) + 5).toNatClampNeg) + 1)) 24 ((44 + (6 * x1)) + 1).toNatClampNeg))) z6 := q_6.1
  have h_10 : SOK (gT z6 24) := q_6.2.1
  have h_11 : KC (sT (sT z_t 24 ((44 + (6 * x1)) + 5).toNatClampNeg ((gT z_t 24 ((44 + (6 * x1)) + 5).toNatClampNeg) + 1)) 24 3 ((gT (sT z_t 24 ((44 + (6 * x1)) + 5).toNatClampNeg ((gT z_t 24 ((44 + (6 * x1)) + 5).toNatClampNeg) + 1)) 24 3) - (gT (sT z_t 24 ((44 + (6 * x1)) + 5).toNatClampNeg ((gT z_t 24 ((44 + (6 * x1)) + 5).toNatClampNeg) + 1)) 24 ((44 + (6 * x1)) + 1).toNatClampNeg))) z6 := q_6.2.2
  have h_11a := h_11.1
  have h_11b := h_11.2
  have e_12 : ((44 + (6 * x1)) + 2).toInt = ((44 + (6 * x1.toInt)) + 2) := (i32_add (i32_add (show (44 : Int32).toInt = 44 by decide) (i32_mul (show (6 : Int32).toInt = 6 by decide) rfl (by omega) (by omega)) (by omega) (by omega)) (show (2 : Int32).toInt = 2 by decide) (by omega) (by omega))
  refine ok_gd (inb_of (by omega) (by omega)) ?_
  have i_13 : (((44 + (6 * x1)) + 2).toNatClampNeg : Int) = ((44 + (6 * x1)) + 2).toInt := clampI (by omega)
  refine ok_ite (fun c_14 => ?_) (fun c_14 => ?_)
  · skip
    have r_15 := n_rng r5
    have r_16 := n_rng (gT z6 24 ((44 + (6 * x1)) + 2).toNatClampNeg)
    have c_14i : r5.toInt < (gT z6 24 ((44 + (6 * x1)) + 2).toNatClampNeg).toInt := bI_lt rfl rfl c_14
    have e_17 : ((44 + (6 * x1)) + 4).toInt = ((44 + (6 * x1.toInt)) + 4) := (i32_add (i32_add (show (44 : Int32).toInt = 44 by decide) (i32_mul (show (6 : Int32).toInt = 6 by decide) rfl (by omega) (by omega)) (by omega) (by omega)) (show (4 : Int32).toInt = 4 by decide) (by omega) (by omega))
    refine ok_gd (inb_of (by omega) (by omega)) ?_
    have i_18 : (((44 + (6 * x1)) + 4).toNatClampNeg : Int) = ((44 + (6 * x1)) + 4).toInt := clampI (by omega)
    have e_20 : (0 : Int32).toInt = 0 := (show (0 : Int32).toInt = 0 by decide)
    have n_21 : KC z6 (sT z6 24 ((44 + (6 * x1)) + 4).toNatClampNeg 1) := (kc_T kc_rf (by omega) (by omega))
    have n_21a := n_21.1
    have n_21b := n_21.2
    refine ok_bd (t_fX9_kindOf (by first | omega | assumption | decide | (show 0 ≤ x1.toInt ∧ x1.toInt < (gT (sT z6 24 ((44 + (6 * x1)) + 4).toNatClampNeg 1) 24 0).toInt; first | omega | assumption)) (by first | omega | assumption | decide | (show 0 ≤ (0 : Int32).toInt ∧ (0 : Int32).toInt ≤ 2; first | omega | assumption)) (so_T h_10 (by unfold freeix; omega))) (fun r11 q_19 => ?_)
    refine ok_nm ?_
    exact ok_some ⟨Or.inr rfl, (fr_T (fr_T (fr_tr (fr_T (fr_T fr_rf (by decide)) (by decide)) h_9 (by decide)) (by decide)) (by decide)), (so_T (so_T h_10 (by unfold freeix; omega)) (by unfold freeix; omega)), (kc_T (kc_T (kc_tr (kc_T (kc_T kc_rf (by omega) (by omega)) (by omega) (by omega)) h_11) (by omega) (by omega)) (by omega) (by omega))⟩
  · skip
    have r_22 := n_rng r5
    have r_23 := n_rng (gT z6 24 ((44 + (6 * x1)) + 2).toNatClampNeg)
    have c_14i : r5.toInt ≥ (gT z6 24 ((44 + (6 * x1)) + 2).toNatClampNeg).toInt := bI_nlt rfl rfl c_14
    exact ok_some ⟨Or.inl rfl, (fr_tr (fr_T (fr_T fr_rf (by decide)) (by decide)) h_9 (by decide)), h_10, (kc_tr (kc_T (kc_T kc_rf (by omega) (by omega)) (by omega) (by omega)) h_11)⟩

set_option maxHeartbeats 1000000 in
set_option maxRecDepth 20000 in
theorem t_fX9_isFault {z_t : Sx} {x1 : Int32} : okP (fX9_isFault z_t x1) (fun y => (y = 0 ∨ y = 1) ∧ ((y.toInt = 1 ∧ 0 ≤ x1.toInt ∧ x1.toInt < (gT z_t 24 0).toInt) ∨ y.toInt = 0)) := by
  unfold fX9_isFault
  refine ok_ite (fun c_1 => ?_) (fun c_1 => ?_)
  · skip
    have r_2 := n_rng x1
    have c_1i : x1.toInt < 0 := bI_lt rfl (show (0 : Int32).toInt = 0 by decide) c_1
    exact ok_some ⟨Or.inl rfl, (show ((0 : Int32).toInt = 1 ∧ 0 ≤ x1.toInt ∧ x1.toInt < (gT z_t 24 0).toInt) ∨ (0 : Int32).toInt = 0 by first | exact Or.inl ⟨by decide, by omega, by omega⟩ | exact Or.inr (by decide))⟩
  · skip
    have r_3 := n_rng x1
    have c_1i : x1.toInt ≥ 0 := bI_nlt rfl (show (0 : Int32).toInt = 0 by decide) c_1
    refine ok_ite (fun c_4 => ?_) (fun c_4 => ?_)
    · skip
      have r_5 := n_rng (gT z_t 24 0)
      have c_4i : (gT z_t 24 0).toInt ≤ x1.toInt := bI_le rfl rfl c_4
      exact ok_some ⟨Or.inl rfl, (show ((0 : Int32).toInt = 1 ∧ 0 ≤ x1.toInt ∧ x1.toInt < (gT z_t 24 0).toInt) ∨ (0 : Int32).toInt = 0 by first | exact Or.inl ⟨by decide, by omega, by omega⟩ | exact Or.inr (by decide))⟩
    · skip
      have r_6 := n_rng (gT z_t 24 0)
      have c_4i : (gT z_t 24 0).toInt > x1.toInt := bI_nle rfl rfl c_4
      exact ok_some ⟨Or.inr rfl, (show ((1 : Int32).toInt = 1 ∧ 0 ≤ x1.toInt ∧ x1.toInt < (gT z_t 24 0).toInt) ∨ (1 : Int32).toInt = 0 by first | exact Or.inl ⟨by decide, by omega, by omega⟩ | exact Or.inr (by decide))⟩

set_option maxHeartbeats 1000000 in
set_option maxRecDepth 20000 in
theorem t_fX9_fault {z_t : Sx} {x1 : Int32} {x2 : Int32} (hS : SOK (gT z_t 24)) : okP (fX9_fault z_t x1 x2) (fun _ => True) := by
  unfold fX9_fault
  have hn := hS.1
  have hr := hS.2.2.1
  refine ok_bd (t_fX9_isFault) (fun r2 q_1 => ?_)
  have h_2 : r2 = 0 ∨ r2 = 1 := q_1.1
  have h_3 : (r2.toInt = 1 ∧ 0 ≤ x1.toInt ∧ x1.toInt < (gT z_t 24 0).toInt) ∨ r2.toInt = 0 := q_1.2
  refine ok_ite (fun c_4 => ?_) (fun c_4 => ?_)
  · skip
    have r_5 := n_rng r2
    have c_4i : r2.toInt = 0 := bI_eq rfl (show (0 : Int32).toInt = 0 by decide) c_4
    exact ok_some trivial
  · skip
    have r_6 := n_rng r2
    have c_4i : r2.toInt ≠ 0 := bI_neq rfl (show (0 : Int32).toInt = 0 by decide) c_4
    have r_8 := n_rng x2
    have e_9 : x2.toInt64.toInt = x2.toInt := (l64_of rfl)
    have e_10 : (0 : Int64).toInt = 0 := (show (0 : Int64).toInt = 0 by decide)
    have e_11 : (6 : Int64).toInt = 6 := (show (6 : Int64).toInt = 6 by decide)
    refine ok_bd (t_fX9_in) (fun r5 q_7 => ?_)
    have h_12 : r5 = 0 ∨ r5 = 1 := q_7.1
    have h_13 : (r5.toInt = 1 ∧ (0 : Int64).toInt ≤ x2.toInt64.toInt ∧ x2.toInt64.toInt ≤ (6 : Int64).toInt) ∨ (r5.toInt = 0 ∧ (x2.toInt64.toInt < (0 : Int64).toInt ∨ (6 : Int64).toInt < x2.toInt64.toInt)) := q_7.2
    refine ok_ite (fun c_14 => ?_) (fun c_14 => ?_)
    · skip
      have r_15 := n_rng r5
      have c_14i : r5.toInt = 0 := bI_eq rfl (show (0 : Int32).toInt = 0 by decide) c_14
      exact ok_some trivial
    · skip
      have r_16 := n_rng r5
      have c_14i : r5.toInt ≠ 0 := bI_neq rfl (show (0 : Int32).toInt = 0 by decide) c_14
      refine ok_ite (fun c_17 => ?_) (fun c_17 => ?_)
      · skip
        have c_17i : 6 ≤ x2.toInt := bI_le (show (6 : Int32).toInt = 6 by decide) rfl c_17
        refine ok_bd (t_fX9_isOpen (by first | omega | assumption | decide | (show 0 ≤ x1.toInt ∧ x1.toInt < (gT z_t 24 0).toInt; first | omega | assumption)) hS) (fun r9 q_18 => ?_)
        have h_19 : r9 = 0 ∨ r9 = 1 := q_18
        refine ok_ite (fun c_20 => ?_) (fun c_20 => ?_)
        · skip
          have r_21 := n_rng r9
          have c_20i : r9.toInt = 0 := bI_eq rfl (show (0 : Int32).toInt = 0 by decide) c_20
          exact ok_some trivial
        · skip
          have r_22 := n_rng r9
          have c_20i : r9.toInt ≠ 0 := bI_neq rfl (show (0 : Int32).toInt = 0 by decide) c_20
          exact ok_some trivial
      · skip
        have c_17i : 6 > x2.toInt := bI_nle (show (6 : Int32).toInt = 6 by decide) rfl c_17
        refine ok_bd (t_fX9_faultOf (by first | omega | assumption | decide | (show 0 ≤ x1.toInt ∧ x1.toInt ≤ 9; first | omega | assumption)) (by first | omega | assumption | decide | (show 0 ≤ x2.toInt ∧ x2.toInt ≤ 5; first | omega | assumption))) (fun r12 q_23 => ?_)
        have h_24 : r12 = gT z_t 24 (((44 + (6 * x1)) + x2).toNatClampNeg) := q_23
        exact ok_some trivial

set_option maxHeartbeats 1000000 in
set_option maxRecDepth 20000 in
theorem t_fX9_fine {z_t : Sx} {x1 : Int32} (hS : SOK (gT z_t 24)) : okP (fX9_fine z_t x1) (fun y => (FrL [24] z_t y.2) ∧ (SOK (gT y.2 24)) ∧ (KC z_t y.2)) := by
  unfold fX9_fine
  have hn := hS.1
  have hr := hS.2.2.1
  refine ok_bd (t_fX9_isWork) (fun r2 q_1 => ?_)
  have h_2 : r2 = 0 ∨ r2 = 1 := q_1.1
  have h_3 : (r2.toInt = 1 ∧ 0 < (gT z_t 24 0).toInt) ∨ r2.toInt = 0 := q_1.2
  refine ok_jn ?_
  refine ok_ite (fun c_4 => ?_) (fun c_4 => ?_)
  · skip
    have r_5 := n_rng r2
    have c_4i : r2.toInt = 0 := bI_eq rfl (show (0 : Int32).toInt = 0 by decide) c_4
    exact ok_some ⟨fr_rf, hS, kc_rf⟩
  · skip
    have r_6 := n_rng r2
    have c_4i : r2.toInt ≠ 0 := bI_neq rfl (show (0 : Int32).toInt = 0 by decide) c_4
    have r_8 := n_rng x1
    have e_9 : x1.toInt64.toInt = x1.toInt := (l64_of rfl)
    have e_10 : (0 : Int64).toInt = 0 := (show (0 : Int64).toInt = 0 by decide)
    have e_11 : (999 : Int64).toInt = 999 := (show (999 : Int64).toInt = 999 by decide)
    refine ok_bd (t_fX9_in) (fun r6 q_7 => ?_)
    have h_12 : r6 = 0 ∨ r6 = 1 := q_7.1
    have h_13 : (r6.toInt = 1 ∧ (0 : Int64).toInt ≤ x1.toInt64.toInt ∧ x1.toInt64.toInt ≤ (999 : Int64).toInt) ∨ (r6.toInt = 0 ∧ (x1.toInt64.toInt < (0 : Int64).toInt ∨ (999 : Int64).toInt < x1.toInt64.toInt)) := q_7.2
    refine ok_ite (fun c_14 => ?_) (fun c_14 => ?_)
    · skip
      have r_15 := n_rng r6
      have c_14i : r6.toInt = 0 := bI_eq rfl (show (0 : Int32).toInt = 0 by decide) c_14
      exact ok_some ⟨fr_rf, hS, kc_rf⟩
    · skip
      have r_16 := n_rng r6
      have c_14i : r6.toInt ≠ 0 := bI_neq rfl (show (0 : Int32).toInt = 0 by decide) c_14
      exact ok_some ⟨(fr_T fr_rf (by decide)), (so_T hS (by unfold freeix; omega)), (kc_T kc_rf (by omega) (by omega))⟩

set_option maxHeartbeats 1000000 in
set_option maxRecDepth 20000 in
theorem t_fX9_gameOf {z_t : Sx} {x1 : Int32} (p1 : 0 ≤ x1.toInt ∧ x1.toInt ≤ 7) : okP (fX9_gameOf z_t x1) (fun y => (y = gT z_t 24 ((18 + x1).toNatClampNeg))) := by
  unfold fX9_gameOf
  have r_1 := n_rng x1
  have e_2 : (18 + x1).toInt = (18 + x1.toInt) := (i32_add (show (18 : Int32).toInt = 18 by decide) rfl (by omega) (by omega))
  refine ok_gd (inb_of (by omega) (by omega)) ?_
  have i_3 : ((18 + x1).toNatClampNeg : Int) = (18 + x1).toInt := clampI (by omega)
  exact ok_some (show (gT z_t 24 (18 + x1).toNatClampNeg) = gT z_t 24 ((18 + x1).toNatClampNeg) by rfl)

set_option maxHeartbeats 1000000 in
set_option maxRecDepth 20000 in
theorem t_fX9_kind {z_t : Sx} {x1 : Int32} {x2 : Int32} (hS : SOK (gT z_t 24)) : okP (fX9_kind z_t x1 x2) (fun _ => True) := by
  unfold fX9_kind
  have hn := hS.1
  have hr := hS.2.2.1
  have hk := hS.2.1
  have r_2 := n_rng x1
  have e_3 : x1.toInt64.toInt = x1.toInt := (l64_of rfl)
  have e_4 : (0 : Int64).toInt = 0 := (show (0 : Int64).toInt = 0 by decide)
  have r_5 := n_rng (gT z_t 24 1)
  have e_6 : ((gT z_t 24 1) - 1).toInt64.toInt = ((gT z_t 24 1).toInt - 1) := (l64_of (i32_sub rfl (show (1 : Int32).toInt = 1 by decide) (by omega) (by omega)))
  refine ok_bd (t_fX9_in) (fun r2 q_1 => ?_)
  have h_7 : r2 = 0 ∨ r2 = 1 := q_1.1
  have h_8 : (r2.toInt = 1 ∧ (0 : Int64).toInt ≤ x1.toInt64.toInt ∧ x1.toInt64.toInt ≤ ((gT z_t 24 1) - 1).toInt64.toInt) ∨ (r2.toInt = 0 ∧ (x1.toInt64.toInt < (0 : Int64).toInt ∨ ((gT z_t 24 1) - 1).toInt64.toInt < x1.toInt64.toInt)) := q_1.2
  refine ok_ite (fun c_9 => ?_) (fun c_9 => ?_)
  · skip
    have r_10 := n_rng r2
    have c_9i : r2.toInt = 0 := bI_eq rfl (show (0 : Int32).toInt = 0 by decide) c_9
    exact ok_some trivial
  · skip
    have r_11 := n_rng r2
    have c_9i : r2.toInt ≠ 0 := bI_neq rfl (show (0 : Int32).toInt = 0 by decide) c_9
    have r_13 := n_rng x2
    have e_14 : x2.toInt64.toInt = x2.toInt := (l64_of rfl)
    have e_15 : (2 : Int64).toInt = 2 := (show (2 : Int64).toInt = 2 by decide)
    refine ok_bd (t_fX9_in) (fun r5 q_12 => ?_)
    have h_16 : r5 = 0 ∨ r5 = 1 := q_12.1
    have h_17 : (r5.toInt = 1 ∧ (0 : Int64).toInt ≤ x2.toInt64.toInt ∧ x2.toInt64.toInt ≤ (2 : Int64).toInt) ∨ (r5.toInt = 0 ∧ (x2.toInt64.toInt < (0 : Int64).toInt ∨ (2 : Int64).toInt < x2.toInt64.toInt)) := q_12.2
    refine ok_ite (fun c_18 => ?_) (fun c_18 => ?_)
    · skip
      have r_19 := n_rng r5
      have c_18i : r5.toInt = 0 := bI_eq rfl (show (0 : Int32).toInt = 0 by decide) c_18
      exact ok_some trivial
    · skip
      have r_20 := n_rng r5
      have c_18i : r5.toInt ≠ 0 := bI_neq rfl (show (0 : Int32).toInt = 0 by decide) c_18
      have e_21 : ((26 + (3 * x1)) + x2).toInt = ((26 + (3 * x1.toInt)) + x2.toInt) := (i32_add (i32_add (show (26 : Int32).toInt = 26 by decide) (i32_mul (show (3 : Int32).toInt = 3 by decide) rfl (by omega) (by omega)) (by omega) (by omega)) rfl (by omega) (by omega))
      refine ok_gd (inb_of (by omega) (by omega)) ?_
      have i_22 : (((26 + (3 * x1)) + x2).toNatClampNeg : Int) = ((26 + (3 * x1)) + x2).toInt := clampI (by omega)
      exact ok_some trivial

set_option maxHeartbeats 1000000 in
set_option maxRecDepth 20000 in
theorem t_fX9_look {z_t : Sx} {x1 : Int32} (hS : SOK (gT z_t 24)) : okP (fX9_look z_t x1) (fun y => (FrL [24] z_t y.2) ∧ (SOK (gT y.2 24)) ∧ (KC z_t y.2)) := by
  unfold fX9_look
  have hn := hS.1
  have hr := hS.2.2.1
  refine ok_bd (t_fX9_isFault) (fun r2 q_1 => ?_)
  have h_2 : r2 = 0 ∨ r2 = 1 := q_1.1
  have h_3 : (r2.toInt = 1 ∧ 0 ≤ x1.toInt ∧ x1.toInt < (gT z_t 24 0).toInt) ∨ r2.toInt = 0 := q_1.2
  refine ok_ite (fun c_4 => ?_) (fun c_4 => ?_)
  · skip
    have r_5 := n_rng r2
    have c_4i : r2.toInt = 0 := bI_eq rfl (show (0 : Int32).toInt = 0 by decide) c_4
    exact ok_some ⟨fr_rf, hS, kc_rf⟩
  · skip
    have r_6 := n_rng r2
    have c_4i : r2.toInt ≠ 0 := bI_neq rfl (show (0 : Int32).toInt = 0 by decide) c_4
    refine ok_bd (t_fX9_isOpen (by first | omega | assumption | decide | (show 0 ≤ x1.toInt ∧ x1.toInt < (gT z_t 24 0).toInt; first | omega | assumption)) hS) (fun r5 q_7 => ?_)
    have h_8 : r5 = 0 ∨ r5 = 1 := q_7
    refine ok_ite (fun c_9 => ?_) (fun c_9 => ?_)
    · skip
      have r_10 := n_rng r5
      have c_9i : r5.toInt = 0 := bI_eq rfl (show (0 : Int32).toInt = 0 by decide) c_9
      exact ok_some ⟨fr_rf, hS, kc_rf⟩
    · skip
      have r_11 := n_rng r5
      have c_9i : r5.toInt ≠ 0 := bI_neq rfl (show (0 : Int32).toInt = 0 by decide) c_9
      refine ok_bd (t_fX9_canLook (by first | omega | assumption | decide | (show 0 ≤ x1.toInt ∧ x1.toInt < (gT z_t 24 0).toInt; first | omega | assumption)) hS) (fun r8 q_12 => ?_)
      have h_13 : r8 = 0 ∨ r8 = 1 := q_12
      refine ok_ite (fun c_14 => ?_) (fun c_14 => ?_)
      · skip
        have r_15 := n_rng r8
        have c_14i : r8.toInt = 0 := bI_eq rfl (show (0 : Int32).toInt = 0 by decide) c_14
        exact ok_some ⟨fr_rf, hS, kc_rf⟩
      · skip
        have r_16 := n_rng r8
        have c_14i : r8.toInt ≠ 0 := bI_neq rfl (show (0 : Int32).toInt = 0 by decide) c_14
        refine ok_bd2 (t_fX9_looks (by first | omega | assumption | decide | (show 0 ≤ x1.toInt ∧ x1.toInt < (gT z_t 24 0).toInt; first | omega | assumption)) hS) (fun r11 z12 q_17 => ?_)
        have h_18 : r11 = 0 ∨ r11 = 1 := q_17.1
        have h_19 : FrL [24] z_t z12 := q_17.2.1
        have h_20 : SOK (gT z12 24) := q_17.2.2.1
        have h_21 : KC z_t z12 := q_17.2.2.2
        have h_21a := h_21.1
        have h_21b := h_21.2
        refine ok_ite (fun c_22 => ?_) (fun c_22 => ?_)
        · skip
          have r_23 := n_rng r11
          have c_22i : r11.toInt = 0 := bI_eq rfl (show (0 : Int32).toInt = 0 by decide) c_22
          exact ok_some ⟨(fr_tr fr_rf h_19 (by decide)), h_20, (kc_tr kc_rf h_21)⟩
        · skip
          have r_24 := n_rng r11
          have c_22i : r11.toInt ≠ 0 := bI_neq rfl (show (0 : Int32).toInt = 0 by decide) c_22
          exact ok_some ⟨(fr_tr fr_rf h_19 (by decide)), h_20, (kc_tr kc_rf h_21)⟩

set_option maxHeartbeats 1000000 in
set_option maxRecDepth 20000 in
theorem t_fX9_mend {z_t : Sx} {x1 : Int32} (hS : SOK (gT z_t 24)) : okP (fX9_mend z_t x1) (fun y => (FrL [24] z_t y.2) ∧ (SOK (gT y.2 24)) ∧ (KC z_t y.2)) := by
  unfold fX9_mend
  have hn := hS.1
  have hr := hS.2.2.1
  refine ok_bd (t_fX9_isFault) (fun r2 q_1 => ?_)
  have h_2 : r2 = 0 ∨ r2 = 1 := q_1.1
  have h_3 : (r2.toInt = 1 ∧ 0 ≤ x1.toInt ∧ x1.toInt < (gT z_t 24 0).toInt) ∨ r2.toInt = 0 := q_1.2
  refine ok_jn ?_
  refine ok_ite (fun c_4 => ?_) (fun c_4 => ?_)
  · skip
    have r_5 := n_rng r2
    have c_4i : r2.toInt = 0 := bI_eq rfl (show (0 : Int32).toInt = 0 by decide) c_4
    exact ok_some ⟨fr_rf, hS, kc_rf⟩
  · skip
    have r_6 := n_rng r2
    have c_4i : r2.toInt ≠ 0 := bI_neq rfl (show (0 : Int32).toInt = 0 by decide) c_4
    have e_8 : (4 : Int32).toInt = 4 := (show (4 : Int32).toInt = 4 by decide)
    refine ok_bd (t_fX9_faultOf (by first | omega | assumption | decide | (show 0 ≤ x1.toInt ∧ x1.toInt ≤ 9; first | omega | assumption)) (by first | omega | assumption | decide | (show 0 ≤ (4 : Int32).toInt ∧ (4 : Int32).toInt ≤ 5; first | omega | assumption))) (fun r6 q_7 => ?_)
    have h_9 : r6 = gT z_t 24 (((44 + (6 * x1)) + (4 : Int32)).toNatClampNeg) := q_7
    refine ok_ite (fun c_10 => ?_) (fun c_10 => ?_)
    · skip
      have r_11 := n_rng r6
      have c_10i : r6.toInt ≤ 0 := bI_le rfl (show (0 : Int32).toInt = 0 by decide) c_10
      have r_12 := n_rng x1
      have e_13 : ((44 + (6 * x1)) + 4).toInt = ((44 + (6 * x1.toInt)) + 4) := (i32_add (i32_add (show (44 : Int32).toInt = 44 by decide) (i32_mul (show (6 : Int32).toInt = 6 by decide) rfl (by omega) (by omega)) (by omega) (by omega)) (show (4 : Int32).toInt = 4 by decide) (by omega) (by omega))
      refine ok_gd (inb_of (by omega) (by omega)) ?_
      have i_14 : (((44 + (6 * x1)) + 4).toNatClampNeg : Int) = ((44 + (6 * x1)) + 4).toInt := clampI (by omega)
      have e_16 : (2 : Int32).toInt = 2 := (show (2 : Int32).toInt = 2 by decide)
      have n_17 : KC z_t (sT z_t 24 ((44 + (6 * x1)) + 4).toNatClampNeg 2) := (kc_T kc_rf (by omega) (by omega))
      have n_17a := n_17.1
      have n_17b := n_17.2
      refine ok_bd (t_fX9_kindOf (by first | omega | assumption | decide | (show 0 ≤ x1.toInt ∧ x1.toInt < (gT (sT z_t 24 ((44 + (6 * x1)) + 4).toNatClampNeg 2) 24 0).toInt; first | omega | assumption)) (by first | omega | assumption | decide | (show 0 ≤ (2 : Int32).toInt ∧ (2 : Int32).toInt ≤ 2; first | omega | assumption)) (so_T hS (by unfold freeix; omega))) (fun r10 q_15 => ?_)
      refine ok_nm ?_
      exact ok_some ⟨(fr_T (fr_T fr_rf (by decide)) (by decide)), (so_T (so_T hS (by unfold freeix; omega)) (by unfold freeix; omega)), (kc_T (kc_T kc_rf (by omega) (by omega)) (by omega) (by omega))⟩
    · skip
      have r_18 := n_rng r6
      have c_10i : r6.toInt > 0 := bI_nle rfl (show (0 : Int32).toInt = 0 by decide) c_10
      exact ok_some ⟨fr_rf, hS, kc_rf⟩

set_option maxHeartbeats 1000000 in
set_option maxRecDepth 20000 in
theorem t_fX9_row {z_t : Sx} {x1 : Int32} (hS : SOK (gT z_t 24)) : okP (fX9_row z_t x1) (fun y => (FrL [24] z_t y.2) ∧ (SOK (gT y.2 24))) := by
  unfold fX9_row
  have hn := hS.1
  have hr := hS.2.2.1
  refine ok_ite (fun c_1 => ?_) (fun c_1 => ?_)
  · skip
    have r_2 := n_rng x1
    have c_1i : x1.toInt = (-1) := bI_eq rfl (show (-1 : Int32).toInt = -1 by decide) c_1
    exact ok_some ⟨(fr_T fr_rf (by decide)), (so_T hS (by unfold freeix; omega))⟩
  · skip
    have r_3 := n_rng x1
    have c_1i : x1.toInt ≠ (-1) := bI_neq rfl (show (-1 : Int32).toInt = -1 by decide) c_1
    refine ok_bd (t_fX9_isFault) (fun r3 q_4 => ?_)
    have h_5 : r3 = 0 ∨ r3 = 1 := q_4.1
    have h_6 : (r3.toInt = 1 ∧ 0 ≤ x1.toInt ∧ x1.toInt < (gT z_t 24 0).toInt) ∨ r3.toInt = 0 := q_4.2
    refine ok_ite (fun c_7 => ?_) (fun c_7 => ?_)
    · skip
      have r_8 := n_rng r3
      have c_7i : r3.toInt = 0 := bI_eq rfl (show (0 : Int32).toInt = 0 by decide) c_7
      exact ok_some ⟨fr_rf, hS⟩
    · skip
      have r_9 := n_rng r3
      have c_7i : r3.toInt ≠ 0 := bI_neq rfl (show (0 : Int32).toInt = 0 by decide) c_7
      refine ok_ite (fun c_10 => ?_) (fun c_10 => ?_)
      · skip
        have r_11 := n_rng (gT z_t 24 8)
        have c_10i : (gT z_t 24 8).toInt = 8 := bI_eq rfl (show (8 : Int32).toInt = 8 by decide) c_10
        exact ok_some ⟨fr_rf, hS⟩
      · skip
        have r_12 := n_rng (gT z_t 24 8)
        have c_10i : (gT z_t 24 8).toInt ≠ 8 := bI_neq rfl (show (8 : Int32).toInt = 8 by decide) c_10
        have e_13 : (10 + (gT z_t 24 8)).toInt = (10 + (gT z_t 24 8).toInt) := (i32_add (show (10 : Int32).toInt = 10 by decide) rfl (by omega) (by omega))
        refine ok_gd (inb_of (by omega) (by omega)) ?_
        have i_14 : ((10 + (gT z_t 24 8)).toNatClampNeg : Int) = (10 + (gT z_t 24 8)).toInt := clampI (by omega)
        refine ok_nm ?_
        exact ok_some ⟨(fr_T (fr_T fr_rf (by decide)) (by decide)), (so_T (so_T hS (by unfold freeix; omega)) (by unfold freeix; omega))⟩

set_option maxHeartbeats 1000000 in
set_option maxRecDepth 20000 in
theorem t_fX9_seed {z_t : Sx} {x1 : Int32} (hS : SOK (gT z_t 24)) : okP (fX9_seed z_t x1) (fun y => (FrL [24] z_t y.2) ∧ (SOK (gT y.2 24)) ∧ (KC z_t y.2)) := by
  unfold fX9_seed
  have hn := hS.1
  have hr := hS.2.2.1
  refine ok_ite (fun c_1 => ?_) (fun c_1 => ?_)
  · skip
    have r_2 := n_rng x1
    have c_1i : 0 ≤ x1.toInt := bI_le (show (0 : Int32).toInt = 0 by decide) rfl c_1
    exact ok_some ⟨(fr_T fr_rf (by decide)), (so_T hS (by unfold freeix; omega)), (kc_T kc_rf (by omega) (by omega))⟩
  · skip
    have r_3 := n_rng x1
    have c_1i : 0 > x1.toInt := bI_nle (show (0 : Int32).toInt = 0 by decide) rfl c_1
    exact ok_some ⟨fr_rf, hS, kc_rf⟩

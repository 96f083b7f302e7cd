theorem nar01 {x : Int32} (h : x = 0 ∨ x = 1) : vp_nar .boolean x = x := by
  rcases h with e | e <;> (rw [e]; decide)
set_option maxHeartbeats 400000 in
set_option maxRecDepth 20000 in
theorem t_fX9_comesTo {z_t : Sx} {x1 : Int32} {x2 : Int32} (pd : 0 ≤ x1.toInt ∧ x1.toInt ≤ 5) (pn : 0 ≤ x2.toInt ∧ x2.toInt ≤ 5) (hS : SOK (gT z_t 24)) : okP (fX9_comesTo z_t x1 x2) (fun y => (FrL [26, 30, 31, 32, 33] z_t y) ∧ (∀ k : Nat, k ≠ x1.toNatClampNeg → gT y 26 k = gT z_t 26 k) ∧ (gT y 26 x1.toNatClampNeg = -1)) := by
  unfold fX9_comesTo
  have hn := hS.1
  have hr := hS.2.2.1
  refine ok_gd (inb_of (by omega) (by omega)) ?_
  have i_1 : (x1.toNatClampNeg : Int) = x1.toInt := clampI (by omega)
  have n_3 : KC z_t (sJ (sT (sT z_t 26 x1.toNatClampNeg (-1)) 33 x1.toNatClampNeg (gT (sT z_t 26 x1.toNatClampNeg (-1)) 24 3)) 30 x1.toNatClampNeg 0) := (kc_J (kc_Tn (kc_Tn kc_rf (by decide)) (by decide)))
  have n_3a := n_3.1
  have n_3b := n_3.2
  refine ok_bd (t_fX9_hidden (so_J (so_Tn (so_Tn hS (by decide)) (by decide)))) (fun r3 q_2 => ?_)
  have r_5 := n_rng x2
  have r_6 := n_rng x1
  have e_7 : (x2 - x1).toInt = (x2.toInt - x1.toInt) := (i32_sub rfl rfl (by omega) (by omega))
  refine ok_bd (t_fX9_hundreds (by first | omega | assumption | decide | (show (x2 - x1).toInt ≤ 8; first | omega | assumption))) (fun r5 q_4 => ?_)
  have h_8 : 1 ≤ r5.toInt ∧ r5.toInt ≤ 10000000000000000 := q_4
  clear q_4
  exact ok_some ⟨(fr_T (fr_J (fr_J (fr_T (fr_T fr_rf (by decide)) (by decide)) (by decide)) (by decide)) (by decide)), (show ∀ k : Nat, k ≠ x1.toNatClampNeg → gT (sT z_t 26 x1.toNatClampNeg (-1)) 26 k = gT z_t 26 k by intro k hk; exact (show upd (gT z_t 26) x1.toNatClampNeg (-1) k = gT z_t 26 k from if_neg hk)), (show gT (sT z_t 26 x1.toNatClampNeg (-1)) 26 x1.toNatClampNeg = -1 by exact (show upd (gT z_t 26) x1.toNatClampNeg (-1) x1.toNatClampNeg = -1 from if_pos rfl))⟩

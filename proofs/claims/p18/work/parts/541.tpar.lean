set_option maxHeartbeats 400000 in
set_option maxRecDepth 20000 in
theorem t_fX9_value {z_t : Sx} {t : Nat} {b : Nat} {h : Nat} {o : Nat} (p1 : 0 ≤ (gI z_t 12).toInt ∧ (gI z_t 12).toInt ≤ (gI z_t 1).toInt ∧ (gI z_t 1).toInt ≤ 400) (pt : (gI z_t 15).toInt = t ∧ t < 6) (pL : 0 ≤ (gT z_t 4 t).toInt ∧ (gT z_t 4 t).toInt + o ≤ (gI z_t 12).toInt) (pm : 0 ≤ (gI z_t 16).toInt ∧ (gI z_t 16).toInt ≤ 60 ∧ h ≤ (gI z_t 16).toInt) (pR : RN z_t t b h) : okP (fX9_value z_t) (fun y => (y.1 = 0 ∨ y.1 = 1) ∧ (FrL [3, 4, 12, 13, 14, 16] z_t y.2) ∧ ((gI z_t 12).toInt ≤ (gI y.2 12).toInt ∧ (gI y.2 12).toInt ≤ (gI z_t 1).toInt) ∧ (KP t z_t y.2) ∧ (y.1.toInt = 0 → (gI y.2 13).toInt ≠ 0) ∧ (y.1.toInt = 1 → (gT y.2 4 t).toInt + o ≤ (gI y.2 12).toInt ∧ h + 1 ≤ (gI y.2 16).toInt ∧ (gI y.2 16).toInt ≤ 60) ∧ (y.1.toInt = 1 → RN y.2 t b (h + 1))) := by
  unfold fX9_value
  refine ok_bd2 (t_fX9_see (by first | omega | assumption | decide | (show 0 ≤ (gI z_t 12).toInt ∧ (gI z_t 12).toInt ≤ (gI z_t 1).toInt ∧ (gI z_t 1).toInt ≤ 400; first | omega | assumption))) (fun r2 z3 q_1 => ?_)
  have h_2 : FrL [12] z_t z3 := q_1.1
  have h_3 : (gI z_t 12).toInt ≤ (gI z3 12).toInt ∧ (gI z3 12).toInt ≤ (gI z_t 1).toInt := q_1.2.1
  have h_4 : r2.toInt = -1 ∨ (0 ≤ r2.toInt ∧ (gI z3 12).toInt < (gI z_t 1).toInt) := q_1.2.2.1
  have h_5 : NB z_t → (gI z3 12).toInt = (gI z_t 12).toInt := q_1.2.2.2.1
  have h_6 : 0 ≤ r2.toInt → NB z3 := q_1.2.2.2.2
  clear q_1
  have s_7 : (gI z3 1).toInt = (gI z_t 1).toInt := congrArg Int32.toInt (h_2 1 (by decide)).1
  have s_8 : (gI z3 13).toInt = (gI z_t 13).toInt := congrArg Int32.toInt (h_2 13 (by decide)).1
  have s_9 : (gI z3 15).toInt = (gI z_t 15).toInt := congrArg Int32.toInt (h_2 15 (by decide)).1
  have s_10 : (gI z3 16).toInt = (gI z_t 16).toInt := congrArg Int32.toInt (h_2 16 (by decide)).1
  have s_11 : (gT z3 4 t).toInt = (gT z_t 4 t).toInt := congrArg (fun f : Nat → Int32 => (f t).toInt) (h_2 4 (by decide)).2.1
  refine ok_bd (t_fX9_isDigit (by first | omega | assumption | decide | (show 0 ≤ (gI z3 12).toInt ∧ (gI z3 1).toInt ≤ 400; first | omega | assumption))) (fun r5 q_12 => ?_)
  have h_13 : r5 = 0 ∨ r5 = 1 := q_12.1
  have h_13i := bool_i h_13
  have h_14 : r5.toInt = 0 ∨ (r5.toInt = 1 ∧ (gI z3 12).toInt < (gI z3 1).toInt) := q_12.2.1
  have h_15 : r5.toInt = 1 → DGT z3 (gI z3 12) := q_12.2.2.1
  have h_16 : DGT z3 (gI z3 12) → r5.toInt = 1 := q_12.2.2.2
  clear q_12
  refine ok_ite (fun c_17 => ?_) (fun c_17 => ?_)
  · skip
    have r_18 := n_rng r5
    have c_17i : r5.toInt = 0 := bI_eq rfl (show (0 : Int32).toInt = 0 by decide) c_17
    refine ok_bd2 (t_fX9_wordHere (by first | omega | assumption | decide | (show 0 ≤ (gI z3 12).toInt ∧ (gI z3 12).toInt ≤ (gI z3 1).toInt ∧ (gI z3 1).toInt ≤ 400; first | omega | assumption))) (fun r8 z9 q_19 => ?_)
    have h_20 : FrL [12] z3 z9 := q_19.1
    have h_21 : (gI z3 12).toInt ≤ (gI z9 12).toInt ∧ (gI z9 12).toInt ≤ (gI z3 1).toInt := q_19.2.1
    have h_22 : -1 ≤ r8.toInt ∧ r8.toInt ≤ 8 := q_19.2.2.1
    have h_23 : 0 ≤ r8.toInt → LTR z9 (gI z9 12) := q_19.2.2.2
    clear q_19
    have s_24 : (gI z9 1).toInt = (gI z3 1).toInt := congrArg Int32.toInt (h_20 1 (by decide)).1
    have s_25 : (gI z9 13).toInt = (gI z3 13).toInt := congrArg Int32.toInt (h_20 13 (by decide)).1
    have s_26 : (gI z9 15).toInt = (gI z3 15).toInt := congrArg Int32.toInt (h_20 15 (by decide)).1
    have s_27 : (gI z9 16).toInt = (gI z3 16).toInt := congrArg Int32.toInt (h_20 16 (by decide)).1
    have s_28 : (gT z9 4 t).toInt = (gT z3 4 t).toInt := congrArg (fun f : Nat → Int32 => (f t).toInt) (h_20 4 (by decide)).2.1
    refine ok_ite (fun c_29 => ?_) (fun c_29 => ?_)
    · skip
      have r_30 := n_rng r8
      have c_29i : 0 ≤ r8.toInt := bI_le (show (0 : Int32).toInt = 0 by decide) rfl c_29
      refine ok_bd2 (t_fX9_makes (by first | omega | assumption | decide | (show 0 ≤ (gI z9 16).toInt ∧ (gI z9 16).toInt ≤ 60; first | omega | assumption)) (by first | omega | assumption | decide | (show 0 ≤ (gI z3 12).toInt ∧ (gI z3 12).toInt ≤ 400; first | omega | assumption))) (fun r12 z13 q_31 => ?_)
      have h_32 : r12 = 0 ∨ r12 = 1 := q_31.1
      have h_32i := bool_i h_32
      have h_33 : FrL [13, 16] z9 z13 := q_31.2.1
      have h_34 : r12.toInt = 0 → (gI z13 13).toInt ≠ 0 := q_31.2.2.1
      have h_35 : r12.toInt = 1 → (gI z13 16).toInt = (gI z9 16).toInt + 1 ∧ (gI z13 16).toInt ≤ 60 := q_31.2.2.2
      clear q_31
      have s_36 : (gI z13 1).toInt = (gI z9 1).toInt := congrArg Int32.toInt (h_33 1 (by decide)).1
      have s_37 : (gI z13 12).toInt = (gI z9 12).toInt := congrArg Int32.toInt (h_33 12 (by decide)).1
      have s_38 : (gI z13 15).toInt = (gI z9 15).toInt := congrArg Int32.toInt (h_33 15 (by decide)).1
      have s_39 : (gT z13 4 t).toInt = (gT z9 4 t).toInt := congrArg (fun f : Nat → Int32 => (f t).toInt) (h_33 4 (by decide)).2.1
      refine ok_ite (fun c_40 => ?_) (fun c_40 => ?_)
      · skip
        have r_41 := n_rng r12
        have c_40i : r12.toInt = 0 := bI_eq rfl (show (0 : Int32).toInt = 0 by decide) c_40
        have u_42 : (gI z13 13).toInt ≠ 0 := h_34 (by omega)
        try have e_43 : (0 : Int32).toInt = 0 := (show (0 : Int32).toInt = 0 by decide)
        exact ok_some ⟨Or.inl rfl, (fr_tr (fr_tr (fr_tr fr_rf h_2 (by decide)) h_20 (by decide)) h_33 (by decide)), (show (gI z_t 12).toInt ≤ (gI z13 12).toInt ∧ (gI z13 12).toInt ≤ (gI z_t 1).toInt by first | omega | assumption | trivial), (kp_fr (kp_fr (kp_fr kp_rf h_2 (by decide)) h_20 (by decide)) h_33 (by decide)), (show (0 : Int32).toInt = 0 → (gI z13 13).toInt ≠ 0 from fun _ => by first | omega | assumption), (show (0 : Int32).toInt = 1 → (gT z13 4 t).toInt + o ≤ (gI z13 12).toInt ∧ h + 1 ≤ (gI z13 16).toInt ∧ (gI z13 16).toInt ≤ 60 from fun q => absurd q (by decide)), (show (0 : Int32).toInt = 1 → RN z13 t b (h + 1) from fun q => absurd q (by decide))⟩
      · skip
        have r_44 := n_rng r12
        have c_40i : r12.toInt ≠ 0 := bI_neq rfl (show (0 : Int32).toInt = 0 by decide) c_40
        have u_45 : (gI z13 16).toInt = (gI z9 16).toInt + 1 ∧ (gI z13 16).toInt ≤ 60 := h_35 (by omega)
        refine ok_bd (t_fX9_passWord (by first | omega | assumption | decide | (show 0 ≤ (gI z13 12).toInt ∧ (gI z13 12).toInt ≤ (gI z13 1).toInt ∧ (gI z13 1).toInt ≤ 400; first | omega | assumption))) (fun z16 q_46 => ?_)
        have h_47 : FrL [12] z13 z16 := q_46.1
        have h_48 : (gI z13 12).toInt ≤ (gI z16 12).toInt ∧ (gI z16 12).toInt ≤ (gI z13 1).toInt := q_46.2.1
        have h_49 : LTR z13 (gI z13 12) → (gI z13 12).toInt < (gI z16 12).toInt := q_46.2.2
        clear q_46
        have s_50 : (gI z16 1).toInt = (gI z13 1).toInt := congrArg Int32.toInt (h_47 1 (by decide)).1
        have s_51 : (gI z16 13).toInt = (gI z13 13).toInt := congrArg Int32.toInt (h_47 13 (by decide)).1
        have s_52 : (gI z16 15).toInt = (gI z13 15).toInt := congrArg Int32.toInt (h_47 15 (by decide)).1
        have s_53 : (gI z16 16).toInt = (gI z13 16).toInt := congrArg Int32.toInt (h_47 16 (by decide)).1
        have s_54 : (gT z16 4 t).toInt = (gT z13 4 t).toInt := congrArg (fun f : Nat → Int32 => (f t).toInt) (h_47 4 (by decide)).2.1
        have pg := h_49 (ltr_same (show FrL [13, 16] z9 z13 by assumption) (by omega) ((show 0 ≤ r8.toInt → LTR z9 (gI z9 12) by assumption) (by omega)))
        have e_56 : (1 : Int32).toInt = 1 := (show (1 : Int32).toInt = 1 by decide)
        refine ok_bd (t_fX9_puts (t := t) (by first | omega | assumption | decide | (show (gI z16 15).toInt = t ∧ t < 6; first | omega | assumption)) (by first | omega | assumption | decide | (show 0 ≤ (gT z16 4 t).toInt ∧ (gT z16 4 t).toInt < 400; first | omega | assumption))) (fun z18 q_55 => ?_)
        have h_57 : FrL [3, 4] z16 z18 := q_55.1
        have h_58 : PUT t z16 z18 ((1 : Int32) + (16 * r8)) := q_55.2
        clear q_55
        have s_59 : (gI z18 1).toInt = (gI z16 1).toInt := congrArg Int32.toInt (h_57 1 (by decide)).1
        have s_60 : (gI z18 12).toInt = (gI z16 12).toInt := congrArg Int32.toInt (h_57 12 (by decide)).1
        have s_61 : (gI z18 13).toInt = (gI z16 13).toInt := congrArg Int32.toInt (h_57 13 (by decide)).1
        have s_62 : (gI z18 15).toInt = (gI z16 15).toInt := congrArg Int32.toInt (h_57 15 (by decide)).1
        have s_63 : (gI z18 16).toInt = (gI z16 16).toInt := congrArg Int32.toInt (h_57 16 (by decide)).1
        have h_58a := h_58.1
        have h_58k := h_58.2.1
        have h_58r : RN z18 t b (h + 1) := rn_put (by omega) h_58 (rn_fr h_47 (by decide) (rn_fr h_33 (by decide) (rn_fr h_20 (by decide) (rn_fr h_2 (by decide) (by assumption))))) (stp_word (by omega) (by omega) (by omega))
        exact ok_some ⟨Or.inr rfl, (fr_tr (fr_tr (fr_tr (fr_tr (fr_tr fr_rf h_2 (by decide)) h_20 (by decide)) h_33 (by decide)) h_47 (by decide)) h_57 (by decide)), (show (gI z_t 12).toInt ≤ (gI z18 12).toInt ∧ (gI z18 12).toInt ≤ (gI z_t 1).toInt by first | omega | assumption | trivial), (kp_tr (kp_fr (kp_fr (kp_fr (kp_fr kp_rf h_2 (by decide)) h_20 (by decide)) h_33 (by decide)) h_47 (by decide)) h_58k), (show (1 : Int32).toInt = 0 → (gI z18 13).toInt ≠ 0 from fun q => absurd q (by decide)), (show (1 : Int32).toInt = 1 → (gT z18 4 t).toInt + o ≤ (gI z18 12).toInt ∧ h + 1 ≤ (gI z18 16).toInt ∧ (gI z18 16).toInt ≤ 60 from fun _ => by first | omega | assumption), (fun _ => h_58r)⟩
    · skip
      have r_64 := n_rng r8
      have c_29i : 0 > r8.toInt := bI_nle (show (0 : Int32).toInt = 0 by decide) rfl c_29
      have e_66 : (0 : Int32).toInt = 0 := (show (0 : Int32).toInt = 0 by decide)
      refine ok_bd2 (t_fX9_fails (by first | omega | assumption | decide | (show 0 ≤ (gI z3 12).toInt ∧ (gI z3 12).toInt ≤ 400 ∧ 0 ≤ (0 : Int32).toInt ∧ (0 : Int32).toInt ≤ 4; first | omega | assumption))) (fun r20 z21 q_65 => ?_)
      have h_67 : r20 = 0 ∨ r20 = 1 := q_65.1
      have h_67i := bool_i h_67
      have h_68 : FrL [13] z9 z21 := q_65.2.1
      have h_69 : r20.toInt = 0 := q_65.2.2.1
      have h_70 : (gI z21 13).toInt ≠ 0 := q_65.2.2.2
      clear q_65
      have s_71 : (gI z21 1).toInt = (gI z9 1).toInt := congrArg Int32.toInt (h_68 1 (by decide)).1
      have s_72 : (gI z21 12).toInt = (gI z9 12).toInt := congrArg Int32.toInt (h_68 12 (by decide)).1
      have s_73 : (gI z21 15).toInt = (gI z9 15).toInt := congrArg Int32.toInt (h_68 15 (by decide)).1
      have s_74 : (gI z21 16).toInt = (gI z9 16).toInt := congrArg Int32.toInt (h_68 16 (by decide)).1
      have s_75 : (gT z21 4 t).toInt = (gT z9 4 t).toInt := congrArg (fun f : Nat → Int32 => (f t).toInt) (h_68 4 (by decide)).2.1
      refine ok_gd h_67 ?_
      exact ok_some ⟨h_67, (fr_tr (fr_tr (fr_tr fr_rf h_2 (by decide)) h_20 (by decide)) h_68 (by decide)), (show (gI z_t 12).toInt ≤ (gI z21 12).toInt ∧ (gI z21 12).toInt ≤ (gI z_t 1).toInt by first | omega | assumption | trivial), (kp_fr (kp_fr (kp_fr kp_rf h_2 (by decide)) h_20 (by decide)) h_68 (by decide)), (show r20.toInt = 0 → (gI z21 13).toInt ≠ 0 by first | omega | assumption | trivial), (show r20.toInt = 1 → (gT z21 4 t).toInt + o ≤ (gI z21 12).toInt ∧ h + 1 ≤ (gI z21 16).toInt ∧ (gI z21 16).toInt ≤ 60 by first | omega | assumption | trivial), (show r20.toInt = 1 → RN z21 t b (h + 1) by first | assumption | (intro q; omega))⟩
  · skip
    have r_76 := n_rng r5
    have c_17i : r5.toInt ≠ 0 := bI_neq rfl (show (0 : Int32).toInt = 0 by decide) c_17
    have u_77 : DGT z3 (gI z3 12) := h_15 (by omega)
    have e_79 : (0 : Int32).toInt = 0 := (show (0 : Int32).toInt = 0 by decide)
    have e_80 : (99999 : Int32).toInt = 99999 := (show (99999 : Int32).toInt = 99999 by decide)
    refine ok_bd2 (t_fX9_numberHere (by first | omega | assumption | decide | (show 0 ≤ (gI z3 12).toInt ∧ (gI z3 12).toInt ≤ (gI z3 1).toInt ∧ (gI z3 1).toInt ≤ 400; first | omega | assumption))) (fun r24 z25 q_78 => ?_)
    have h_81 : r24 = 0 ∨ r24 = 1 := q_78.1
    have h_81i := bool_i h_81
    have h_82 : FrL [12, 13, 14] z3 z25 := q_78.2.1
    have h_83 : (gI z3 12).toInt ≤ (gI z25 12).toInt ∧ (gI z25 12).toInt ≤ (gI z3 1).toInt := q_78.2.2.1
    have h_84 : r24.toInt = 0 → (gI z25 13).toInt ≠ 0 := q_78.2.2.2.1
    have h_85 : r24.toInt = 1 → (gI z3 12).toInt < (gI z25 12).toInt := q_78.2.2.2.2.1
    have h_86 : r24.toInt = 1 → (0 : Int32).toInt ≤ (gI z25 14).toInt ∧ (gI z25 14).toInt ≤ (99999 : Int32).toInt := q_78.2.2.2.2.2
    clear q_78
    have s_87 : (gI z25 1).toInt = (gI z3 1).toInt := congrArg Int32.toInt (h_82 1 (by decide)).1
    have s_88 : (gI z25 15).toInt = (gI z3 15).toInt := congrArg Int32.toInt (h_82 15 (by decide)).1
    have s_89 : (gI z25 16).toInt = (gI z3 16).toInt := congrArg Int32.toInt (h_82 16 (by decide)).1
    have s_90 : (gT z25 4 t).toInt = (gT z3 4 t).toInt := congrArg (fun f : Nat → Int32 => (f t).toInt) (h_82 4 (by decide)).2.1
    refine ok_ite (fun c_91 => ?_) (fun c_91 => ?_)
    · skip
      have r_92 := n_rng r24
      have c_91i : r24.toInt = 0 := bI_eq rfl (show (0 : Int32).toInt = 0 by decide) c_91
      have u_93 : (gI z25 13).toInt ≠ 0 := h_84 (by omega)
      exact ok_some ⟨Or.inl rfl, (fr_tr (fr_tr fr_rf h_2 (by decide)) h_82 (by decide)), (show (gI z_t 12).toInt ≤ (gI z25 12).toInt ∧ (gI z25 12).toInt ≤ (gI z_t 1).toInt by first | omega | assumption | trivial), (kp_fr (kp_fr kp_rf h_2 (by decide)) h_82 (by decide)), (show (0 : Int32).toInt = 0 → (gI z25 13).toInt ≠ 0 from fun _ => by first | omega | assumption), (show (0 : Int32).toInt = 1 → (gT z25 4 t).toInt + o ≤ (gI z25 12).toInt ∧ h + 1 ≤ (gI z25 16).toInt ∧ (gI z25 16).toInt ≤ 60 from fun q => absurd q (by decide)), (show (0 : Int32).toInt = 1 → RN z25 t b (h + 1) from fun q => absurd q (by decide))⟩
    · skip
      have r_94 := n_rng r24
      have c_91i : r24.toInt ≠ 0 := bI_neq rfl (show (0 : Int32).toInt = 0 by decide) c_91
      have u_95 : (gI z3 12).toInt < (gI z25 12).toInt := h_85 (by omega)
      have u_96 : (0 : Int32).toInt ≤ (gI z25 14).toInt ∧ (gI z25 14).toInt ≤ (99999 : Int32).toInt := h_86 (by omega)
      refine ok_bd2 (t_fX9_makes (by first | omega | assumption | decide | (show 0 ≤ (gI z25 16).toInt ∧ (gI z25 16).toInt ≤ 60; first | omega | assumption)) (by first | omega | assumption | decide | (show 0 ≤ (gI z3 12).toInt ∧ (gI z3 12).toInt ≤ 400; first | omega | assumption))) (fun r28 z29 q_97 => ?_)
      have h_98 : r28 = 0 ∨ r28 = 1 := q_97.1
      have h_98i := bool_i h_98
      have h_99 : FrL [13, 16] z25 z29 := q_97.2.1
      have h_100 : r28.toInt = 0 → (gI z29 13).toInt ≠ 0 := q_97.2.2.1
      have h_101 : r28.toInt = 1 → (gI z29 16).toInt = (gI z25 16).toInt + 1 ∧ (gI z29 16).toInt ≤ 60 := q_97.2.2.2
      clear q_97
      have s_102 : (gI z29 1).toInt = (gI z25 1).toInt := congrArg Int32.toInt (h_99 1 (by decide)).1
      have s_103 : (gI z29 12).toInt = (gI z25 12).toInt := congrArg Int32.toInt (h_99 12 (by decide)).1
      have s_104 : (gI z29 15).toInt = (gI z25 15).toInt := congrArg Int32.toInt (h_99 15 (by decide)).1
      have s_105 : (gT z29 4 t).toInt = (gT z25 4 t).toInt := congrArg (fun f : Nat → Int32 => (f t).toInt) (h_99 4 (by decide)).2.1
      refine ok_ite (fun c_106 => ?_) (fun c_106 => ?_)
      · skip
        have r_107 := n_rng r28
        have c_106i : r28.toInt = 0 := bI_eq rfl (show (0 : Int32).toInt = 0 by decide) c_106
        have u_108 : (gI z29 13).toInt ≠ 0 := h_100 (by omega)
        exact ok_some ⟨Or.inl rfl, (fr_tr (fr_tr (fr_tr fr_rf h_2 (by decide)) h_82 (by decide)) h_99 (by decide)), (show (gI z_t 12).toInt ≤ (gI z29 12).toInt ∧ (gI z29 12).toInt ≤ (gI z_t 1).toInt by first | omega | assumption | trivial), (kp_fr (kp_fr (kp_fr kp_rf h_2 (by decide)) h_82 (by decide)) h_99 (by decide)), (show (0 : Int32).toInt = 0 → (gI z29 13).toInt ≠ 0 from fun _ => by first | omega | assumption), (show (0 : Int32).toInt = 1 → (gT z29 4 t).toInt + o ≤ (gI z29 12).toInt ∧ h + 1 ≤ (gI z29 16).toInt ∧ (gI z29 16).toInt ≤ 60 from fun q => absurd q (by decide)), (show (0 : Int32).toInt = 1 → RN z29 t b (h + 1) from fun q => absurd q (by decide))⟩
      · skip
        have r_109 := n_rng r28
        have c_106i : r28.toInt ≠ 0 := bI_neq rfl (show (0 : Int32).toInt = 0 by decide) c_106
        have u_110 : (gI z29 16).toInt = (gI z25 16).toInt + 1 ∧ (gI z29 16).toInt ≤ 60 := h_101 (by omega)
        refine ok_bd (t_fX9_puts (t := t) (by first | omega | assumption | decide | (show (gI z29 15).toInt = t ∧ t < 6; first | omega | assumption)) (by first | omega | assumption | decide | (show 0 ≤ (gT z29 4 t).toInt ∧ (gT z29 4 t).toInt < 400; first | omega | assumption))) (fun z32 q_111 => ?_)
        have h_112 : FrL [3, 4] z29 z32 := q_111.1
        have h_113 : PUT t z29 z32 ((0 : Int32) + (16 * (gI z29 14))) := q_111.2
        clear q_111
        have s_114 : (gI z32 1).toInt = (gI z29 1).toInt := congrArg Int32.toInt (h_112 1 (by decide)).1
        have s_115 : (gI z32 12).toInt = (gI z29 12).toInt := congrArg Int32.toInt (h_112 12 (by decide)).1
        have s_116 : (gI z32 13).toInt = (gI z29 13).toInt := congrArg Int32.toInt (h_112 13 (by decide)).1
        have s_117 : (gI z32 15).toInt = (gI z29 15).toInt := congrArg Int32.toInt (h_112 15 (by decide)).1
        have s_118 : (gI z32 16).toInt = (gI z29 16).toInt := congrArg Int32.toInt (h_112 16 (by decide)).1
        have h_113a := h_113.1
        have h_113k := h_113.2.1
        have h_113r : RN z32 t b (h + 1) := rn_put (by omega) h_113 (rn_fr h_99 (by decide) (rn_fr h_82 (by decide) (rn_fr h_2 (by decide) (by assumption)))) (stp_num (by omega))
        try have e_119 : (1 : Int32).toInt = 1 := (show (1 : Int32).toInt = 1 by decide)
        exact ok_some ⟨Or.inr rfl, (fr_tr (fr_tr (fr_tr (fr_tr fr_rf h_2 (by decide)) h_82 (by decide)) h_99 (by decide)) h_112 (by decide)), (show (gI z_t 12).toInt ≤ (gI z32 12).toInt ∧ (gI z32 12).toInt ≤ (gI z_t 1).toInt by first | omega | assumption | trivial), (kp_tr (kp_fr (kp_fr (kp_fr kp_rf h_2 (by decide)) h_82 (by decide)) h_99 (by decide)) h_113k), (show (1 : Int32).toInt = 0 → (gI z32 13).toInt ≠ 0 from fun q => absurd q (by decide)), (show (1 : Int32).toInt = 1 → (gT z32 4 t).toInt + o ≤ (gI z32 12).toInt ∧ h + 1 ≤ (gI z32 16).toInt ∧ (gI z32 16).toInt ≤ 60 from fun _ => by first | omega | assumption), (fun _ => h_113r)⟩

set_option maxHeartbeats 400000 in
set_option maxRecDepth 20000 in
theorem tl_lX9_term_9 {t : Nat} {b : Nat} {h : Nat} {o : Nat} {o_z_t : Sx} (p1 : 0 ≤ (gI o_z_t 12).toInt ∧ (gI o_z_t 12).toInt ≤ (gI o_z_t 1).toInt ∧ (gI o_z_t 1).toInt ≤ 400) (pt : (gI o_z_t 15).toInt = t ∧ t < 6) (pL : 0 ≤ (gT o_z_t 4 t).toInt) : ∀ (n : Nat) (z_t : Sx), (FrL [3, 4, 12, 13, 14, 16] o_z_t z_t) → ((gI o_z_t 12).toInt ≤ (gI z_t 12).toInt ∧ (gI z_t 12).toInt ≤ (gI o_z_t 1).toInt) → ((gT z_t 4 t).toInt + o ≤ (gI z_t 12).toInt) → (h + 1 ≤ (gI z_t 16).toInt ∧ (gI z_t 16).toInt ≤ 60) → (KP t o_z_t z_t) → (RN z_t t b (h + 1)) → ((gI o_z_t 1).toInt - (gI z_t 12).toInt).toNat < n → okP (lX9_term_9 n z_t) (fun y => (y.1 = 0 ∨ y.1 = 1) ∧ (FrL [3, 4, 12, 13, 14, 16] o_z_t y.2) ∧ ((gI o_z_t 12).toInt ≤ (gI y.2 12).toInt ∧ (gI y.2 12).toInt ≤ (gI o_z_t 1).toInt) ∧ (KP t o_z_t y.2) ∧ (y.1.toInt = 0 → (gI y.2 13).toInt ≠ 0) ∧ (y.1.toInt = 1 → (gT y.2 4 t).toInt + o ≤ (gI y.2 12).toInt ∧ h + 1 ≤ (gI y.2 16).toInt ∧ (gI y.2 16).toInt ≤ 60) ∧ (y.1.toInt = 1 → RN y.2 t b (h + 1))) := by
  intro n
  induction n with
  | zero => intro _ _ _ _ _ _ _ hm; omega
  | succ n ih =>
    intro z_t frz_t i0 iL im iP iR hm
    rw [lX9_term_9]
    have iPa := iP.1
    have tk1 : (gI z_t 1).toInt = (gI o_z_t 1).toInt := congrArg Int32.toInt (frz_t 1 (by decide)).1
    have tk15 : (gI z_t 15).toInt = (gI o_z_t 15).toInt := congrArg Int32.toInt (frz_t 15 (by decide)).1
    refine ok_bd2 (t_fX9_see (by first | omega | assumption | decide | (show 0 ≤ (gI z_t 12).toInt ∧ (gI z_t 12).toInt ≤ (gI z_t 1).toInt ∧ (gI z_t 1).toInt ≤ 400; first | omega | assumption))) (fun r6 z7 q_1 => ?_)
    have h_2 : FrL [12] z_t z7 := q_1.1
    have h_3 : (gI z_t 12).toInt ≤ (gI z7 12).toInt ∧ (gI z7 12).toInt ≤ (gI z_t 1).toInt := q_1.2.1
    have h_4 : r6.toInt = -1 ∨ (0 ≤ r6.toInt ∧ (gI z7 12).toInt < (gI z_t 1).toInt) := q_1.2.2.1
    have h_5 : NB z_t → (gI z7 12).toInt = (gI z_t 12).toInt := q_1.2.2.2.1
    have h_6 : 0 ≤ r6.toInt → NB z7 := q_1.2.2.2.2
    clear q_1
    have s_7 : (gI z7 1).toInt = (gI z_t 1).toInt := congrArg Int32.toInt (h_2 1 (by decide)).1
    have s_8 : (gI z7 13).toInt = (gI z_t 13).toInt := congrArg Int32.toInt (h_2 13 (by decide)).1
    have s_9 : (gI z7 15).toInt = (gI z_t 15).toInt := congrArg Int32.toInt (h_2 15 (by decide)).1
    have s_10 : (gI z7 16).toInt = (gI z_t 16).toInt := congrArg Int32.toInt (h_2 16 (by decide)).1
    have s_11 : (gT z7 4 t).toInt = (gT z_t 4 t).toInt := congrArg (fun f : Nat → Int32 => (f t).toInt) (h_2 4 (by decide)).2.1
    refine ok_jn ?_
    refine ok_ite (fun c_12 => ?_) (fun c_12 => ?_)
    · skip
      have r_13 := n_rng r6
      have c_12i : r6.toInt = 42 := bI_eq rfl (show (42 : Int32).toInt = 42 by decide) c_12
      refine ok_gd (inb_of (by omega) (by omega)) ?_
      have i_14 : ((gI z7 12).toNatClampNeg : Int) = (gI z7 12).toInt := clampI (by omega)
      refine ok_jn ?_
      refine ok_ite (fun c_15 => ?_) (fun c_15 => ?_)
      · skip
        have r_16 := n_rng (gT z7 0 (gI z7 12).toNatClampNeg)
        have c_15i : (gT z7 0 (gI z7 12).toNatClampNeg).toInt = 42 := bI_eq rfl (show (42 : Int32).toInt = 42 by decide) c_15
        have r_18 := n_rng (gI z7 12)
        try have e_19 : ((gI z7 12) + 1).toInt = ((gI z7 12).toInt + 1) := (i32_add rfl (show (1 : Int32).toInt = 1 by decide) (by omega) (by omega))
        refine ok_bd2 (t_fX9_value (t := t) (b := b) (h := h + 1) (o := o + 1) (by first | omega | assumption | decide | (show 0 ≤ ((gI z7 12) + 1).toInt ∧ ((gI z7 12) + 1).toInt ≤ (gI z7 1).toInt ∧ (gI z7 1).toInt ≤ 400; first | omega | assumption)) (by first | omega | assumption | decide | (show (gI z7 15).toInt = t ∧ t < 6; first | omega | assumption)) (by first | omega | assumption | decide | (show 0 ≤ (gT z7 4 t).toInt ∧ (gT z7 4 t).toInt + (o + 1) ≤ ((gI z7 12) + 1).toInt; first | omega | assumption)) (by first | omega | assumption | decide | (show 0 ≤ (gI z7 16).toInt ∧ (gI z7 16).toInt ≤ 60 ∧ (h + 1) ≤ (gI z7 16).toInt; first | omega | assumption)) (rn_I (rn_fr h_2 (by decide) iR))) (fun r14 z15 q_17 => ?_)
        have h_20 : r14 = 0 ∨ r14 = 1 := q_17.1
        have h_20i := bool_i h_20
        have h_21 : FrL [3, 4, 12, 13, 14, 16] (sI z7 12 ((gI z7 12) + 1)) z15 := q_17.2.1
        have h_22 : ((gI z7 12) + 1).toInt ≤ (gI z15 12).toInt ∧ (gI z15 12).toInt ≤ (gI z7 1).toInt := q_17.2.2.1
        have h_23 : KP t (sI z7 12 ((gI z7 12) + 1)) z15 := q_17.2.2.2.1
        have h_23a : (gT z7 4 t).toInt ≤ (gT z15 4 t).toInt := h_23.1
        have h_24 : r14.toInt = 0 → (gI z15 13).toInt ≠ 0 := q_17.2.2.2.2.1
        have h_25 : r14.toInt = 1 → (gT z15 4 t).toInt + (o + 1) ≤ (gI z15 12).toInt ∧ (h + 1) + 1 ≤ (gI z15 16).toInt ∧ (gI z15 16).toInt ≤ 60 := q_17.2.2.2.2.2.1
        have h_26 : r14.toInt = 1 → RN z15 t b ((h + 1) + 1) := q_17.2.2.2.2.2.2
        clear q_17
        have s_27 : (gI z15 1).toInt = (gI z7 1).toInt := congrArg Int32.toInt (h_21 1 (by decide)).1
        have s_28 : (gI z15 15).toInt = (gI z7 15).toInt := congrArg Int32.toInt (h_21 15 (by decide)).1
        refine ok_ite (fun c_29 => ?_) (fun c_29 => ?_)
        · skip
          have r_30 := n_rng r14
          have c_29i : r14.toInt = 0 := bI_eq rfl (show (0 : Int32).toInt = 0 by decide) c_29
          have u_31 : (gI z15 13).toInt ≠ 0 := h_24 (by omega)
          try have e_32 : (0 : Int32).toInt = 0 := (show (0 : Int32).toInt = 0 by decide)
          exact ok_some ⟨Or.inl rfl, (fr_tr (fr_I (fr_tr frz_t h_2 (by decide)) (by decide)) h_21 (by decide)), (show (gI o_z_t 12).toInt ≤ (gI z15 12).toInt ∧ (gI z15 12).toInt ≤ (gI o_z_t 1).toInt by first | omega | assumption | trivial), (kp_tr (kp_I (kp_fr iP h_2 (by decide))) h_23), (show (0 : Int32).toInt = 0 → (gI z15 13).toInt ≠ 0 from fun _ => by first | omega | assumption), (show (0 : Int32).toInt = 1 → (gT z15 4 t).toInt + o ≤ (gI z15 12).toInt ∧ h + 1 ≤ (gI z15 16).toInt ∧ (gI z15 16).toInt ≤ 60 from fun q => absurd q (by decide)), (show (0 : Int32).toInt = 1 → RN z15 t b (h + 1) from fun q => absurd q (by decide))⟩
        · skip
          have r_33 := n_rng r14
          have c_29i : r14.toInt ≠ 0 := bI_neq rfl (show (0 : Int32).toInt = 0 by decide) c_29
          have u_34 : (gT z15 4 t).toInt + (o + 1) ≤ (gI z15 12).toInt ∧ (h + 1) + 1 ≤ (gI z15 16).toInt ∧ (gI z15 16).toInt ≤ 60 := h_25 (by omega)
          have u_35 : RN z15 t b ((h + 1) + 1) := h_26 (by omega)
          have e_37 : (4 : Int32).toInt = 4 := (show (4 : Int32).toInt = 4 by decide)
          have e_38 : (0 : Int32).toInt = 0 := (show (0 : Int32).toInt = 0 by decide)
          refine ok_bd (t_fX9_puts (t := t) (by first | omega | assumption | decide | (show (gI z15 15).toInt = t ∧ t < 6; first | omega | assumption)) (by first | omega | assumption | decide | (show 0 ≤ (gT z15 4 t).toInt ∧ (gT z15 4 t).toInt < 400; first | omega | assumption))) (fun z18 q_36 => ?_)
          have h_39 : FrL [3, 4] z15 z18 := q_36.1
          have h_40 : PUT t z15 z18 ((4 : Int32) + (16 * (0 : Int32))) := q_36.2
          clear q_36
          have s_41 : (gI z18 1).toInt = (gI z15 1).toInt := congrArg Int32.toInt (h_39 1 (by decide)).1
          have s_42 : (gI z18 12).toInt = (gI z15 12).toInt := congrArg Int32.toInt (h_39 12 (by decide)).1
          have s_43 : (gI z18 13).toInt = (gI z15 13).toInt := congrArg Int32.toInt (h_39 13 (by decide)).1
          have s_44 : (gI z18 15).toInt = (gI z15 15).toInt := congrArg Int32.toInt (h_39 15 (by decide)).1
          have s_45 : (gI z18 16).toInt = (gI z15 16).toInt := congrArg Int32.toInt (h_39 16 (by decide)).1
          have h_40a := h_40.1
          have h_40k := h_40.2.1
          have h_40r : RN z18 t b ((h + 1)) := rn_put (by omega) h_40 u_35 (stp_bin (by omega) (by decide) (by decide) (by decide))
          exact ih z18 (fr_tr (fr_tr (fr_I (fr_tr frz_t h_2 (by decide)) (by decide)) h_21 (by decide)) h_39 (by decide)) (show (gI o_z_t 12).toInt ≤ (gI z18 12).toInt ∧ (gI z18 12).toInt ≤ (gI o_z_t 1).toInt by first | omega | assumption | decide) (show (gT z18 4 t).toInt + o ≤ (gI z18 12).toInt by first | omega | assumption | decide) (show h + 1 ≤ (gI z18 16).toInt ∧ (gI z18 16).toInt ≤ 60 by first | omega | assumption | decide) (kp_tr (kp_tr (kp_I (kp_fr iP h_2 (by decide))) h_23) h_40k) h_40r (by omega)
      · skip
        have r_46 := n_rng (gT z7 0 (gI z7 12).toNatClampNeg)
        have c_15i : (gT z7 0 (gI z7 12).toNatClampNeg).toInt ≠ 42 := bI_neq rfl (show (42 : Int32).toInt = 42 by decide) c_15
        have r_48 := n_rng (gI z7 12)
        try have e_49 : ((gI z7 12) + 1).toInt = ((gI z7 12).toInt + 1) := (i32_add rfl (show (1 : Int32).toInt = 1 by decide) (by omega) (by omega))
        refine ok_bd2 (t_fX9_value (t := t) (b := b) (h := h + 1) (o := o + 1) (by first | omega | assumption | decide | (show 0 ≤ ((gI z7 12) + 1).toInt ∧ ((gI z7 12) + 1).toInt ≤ (gI z7 1).toInt ∧ (gI z7 1).toInt ≤ 400; first | omega | assumption)) (by first | omega | assumption | decide | (show (gI z7 15).toInt = t ∧ t < 6; first | omega | assumption)) (by first | omega | assumption | decide | (show 0 ≤ (gT z7 4 t).toInt ∧ (gT z7 4 t).toInt + (o + 1) ≤ ((gI z7 12) + 1).toInt; first | omega | assumption)) (by first | omega | assumption | decide | (show 0 ≤ (gI z7 16).toInt ∧ (gI z7 16).toInt ≤ 60 ∧ (h + 1) ≤ (gI z7 16).toInt; first | omega | assumption)) (rn_I (rn_fr h_2 (by decide) iR))) (fun r14 z15 q_47 => ?_)
        have h_50 : r14 = 0 ∨ r14 = 1 := q_47.1
        have h_50i := bool_i h_50
        have h_51 : FrL [3, 4, 12, 13, 14, 16] (sI z7 12 ((gI z7 12) + 1)) z15 := q_47.2.1
        have h_52 : ((gI z7 12) + 1).toInt ≤ (gI z15 12).toInt ∧ (gI z15 12).toInt ≤ (gI z7 1).toInt := q_47.2.2.1
        have h_53 : KP t (sI z7 12 ((gI z7 12) + 1)) z15 := q_47.2.2.2.1
        have h_53a : (gT z7 4 t).toInt ≤ (gT z15 4 t).toInt := h_53.1
        have h_54 : r14.toInt = 0 → (gI z15 13).toInt ≠ 0 := q_47.2.2.2.2.1
        have h_55 : r14.toInt = 1 → (gT z15 4 t).toInt + (o + 1) ≤ (gI z15 12).toInt ∧ (h + 1) + 1 ≤ (gI z15 16).toInt ∧ (gI z15 16).toInt ≤ 60 := q_47.2.2.2.2.2.1
        have h_56 : r14.toInt = 1 → RN z15 t b ((h + 1) + 1) := q_47.2.2.2.2.2.2
        clear q_47
        have s_57 : (gI z15 1).toInt = (gI z7 1).toInt := congrArg Int32.toInt (h_51 1 (by decide)).1
        have s_58 : (gI z15 15).toInt = (gI z7 15).toInt := congrArg Int32.toInt (h_51 15 (by decide)).1
        refine ok_ite (fun c_59 => ?_) (fun c_59 => ?_)
        · skip
          have r_60 := n_rng r14
          have c_59i : r14.toInt = 0 := bI_eq rfl (show (0 : Int32).toInt = 0 by decide) c_59
          have u_61 : (gI z15 13).toInt ≠ 0 := h_54 (by omega)
          try have e_62 : (0 : Int32).toInt = 0 := (show (0 : Int32).toInt = 0 by decide)
          exact ok_some ⟨Or.inl rfl, (fr_tr (fr_I (fr_tr frz_t h_2 (by decide)) (by decide)) h_51 (by decide)), (show (gI o_z_t 12).toInt ≤ (gI z15 12).toInt ∧ (gI z15 12).toInt ≤ (gI o_z_t 1).toInt by first | omega | assumption | trivial), (kp_tr (kp_I (kp_fr iP h_2 (by decide))) h_53), (show (0 : Int32).toInt = 0 → (gI z15 13).toInt ≠ 0 from fun _ => by first | omega | assumption), (show (0 : Int32).toInt = 1 → (gT z15 4 t).toInt + o ≤ (gI z15 12).toInt ∧ h + 1 ≤ (gI z15 16).toInt ∧ (gI z15 16).toInt ≤ 60 from fun q => absurd q (by decide)), (show (0 : Int32).toInt = 1 → RN z15 t b (h + 1) from fun q => absurd q (by decide))⟩
        · skip
          have r_63 := n_rng r14
          have c_59i : r14.toInt ≠ 0 := bI_neq rfl (show (0 : Int32).toInt = 0 by decide) c_59
          have u_64 : (gT z15 4 t).toInt + (o + 1) ≤ (gI z15 12).toInt ∧ (h + 1) + 1 ≤ (gI z15 16).toInt ∧ (gI z15 16).toInt ≤ 60 := h_55 (by omega)
          have u_65 : RN z15 t b ((h + 1) + 1) := h_56 (by omega)
          have e_67 : (5 : Int32).toInt = 5 := (show (5 : Int32).toInt = 5 by decide)
          have e_68 : (0 : Int32).toInt = 0 := (show (0 : Int32).toInt = 0 by decide)
          refine ok_bd (t_fX9_puts (t := t) (by first | omega | assumption | decide | (show (gI z15 15).toInt = t ∧ t < 6; first | omega | assumption)) (by first | omega | assumption | decide | (show 0 ≤ (gT z15 4 t).toInt ∧ (gT z15 4 t).toInt < 400; first | omega | assumption))) (fun z18 q_66 => ?_)
          have h_69 : FrL [3, 4] z15 z18 := q_66.1
          have h_70 : PUT t z15 z18 ((5 : Int32) + (16 * (0 : Int32))) := q_66.2
          clear q_66
          have s_71 : (gI z18 1).toInt = (gI z15 1).toInt := congrArg Int32.toInt (h_69 1 (by decide)).1
          have s_72 : (gI z18 12).toInt = (gI z15 12).toInt := congrArg Int32.toInt (h_69 12 (by decide)).1
          have s_73 : (gI z18 13).toInt = (gI z15 13).toInt := congrArg Int32.toInt (h_69 13 (by decide)).1
          have s_74 : (gI z18 15).toInt = (gI z15 15).toInt := congrArg Int32.toInt (h_69 15 (by decide)).1
          have s_75 : (gI z18 16).toInt = (gI z15 16).toInt := congrArg Int32.toInt (h_69 16 (by decide)).1
          have h_70a := h_70.1
          have h_70k := h_70.2.1
          have h_70r : RN z18 t b ((h + 1)) := rn_put (by omega) h_70 u_65 (stp_bin (by omega) (by decide) (by decide) (by decide))
          exact ih z18 (fr_tr (fr_tr (fr_I (fr_tr frz_t h_2 (by decide)) (by decide)) h_51 (by decide)) h_69 (by decide)) (show (gI o_z_t 12).toInt ≤ (gI z18 12).toInt ∧ (gI z18 12).toInt ≤ (gI o_z_t 1).toInt by first | omega | assumption | decide) (show (gT z18 4 t).toInt + o ≤ (gI z18 12).toInt by first | omega | assumption | decide) (show h + 1 ≤ (gI z18 16).toInt ∧ (gI z18 16).toInt ≤ 60 by first | omega | assumption | decide) (kp_tr (kp_tr (kp_I (kp_fr iP h_2 (by decide))) h_53) h_70k) h_70r (by omega)
    · skip
      have r_76 := n_rng r6
      have c_12i : r6.toInt ≠ 42 := bI_neq rfl (show (42 : Int32).toInt = 42 by decide) c_12
      refine ok_bd2 (t_fX9_see (by first | omega | assumption | decide | (show 0 ≤ (gI z7 12).toInt ∧ (gI z7 12).toInt ≤ (gI z7 1).toInt ∧ (gI z7 1).toInt ≤ 400; first | omega | assumption))) (fun r22 z23 q_77 => ?_)
      have h_78 : FrL [12] z7 z23 := q_77.1
      have h_79 : (gI z7 12).toInt ≤ (gI z23 12).toInt ∧ (gI z23 12).toInt ≤ (gI z7 1).toInt := q_77.2.1
      have h_80 : r22.toInt = -1 ∨ (0 ≤ r22.toInt ∧ (gI z23 12).toInt < (gI z7 1).toInt) := q_77.2.2.1
      have h_81 : NB z7 → (gI z23 12).toInt = (gI z7 12).toInt := q_77.2.2.2.1
      have h_82 : 0 ≤ r22.toInt → NB z23 := q_77.2.2.2.2
      clear q_77
      have s_83 : (gI z23 1).toInt = (gI z7 1).toInt := congrArg Int32.toInt (h_78 1 (by decide)).1
      have s_84 : (gI z23 13).toInt = (gI z7 13).toInt := congrArg Int32.toInt (h_78 13 (by decide)).1
      have s_85 : (gI z23 15).toInt = (gI z7 15).toInt := congrArg Int32.toInt (h_78 15 (by decide)).1
      have s_86 : (gI z23 16).toInt = (gI z7 16).toInt := congrArg Int32.toInt (h_78 16 (by decide)).1
      have s_87 : (gT z23 4 t).toInt = (gT z7 4 t).toInt := congrArg (fun f : Nat → Int32 => (f t).toInt) (h_78 4 (by decide)).2.1
      refine ok_ite (fun c_88 => ?_) (fun c_88 => ?_)
      · skip
        have r_89 := n_rng r22
        have c_88i : r22.toInt = 47 := bI_eq rfl (show (47 : Int32).toInt = 47 by decide) c_88
        refine ok_gd (inb_of (by omega) (by omega)) ?_
        have i_90 : ((gI z23 12).toNatClampNeg : Int) = (gI z23 12).toInt := clampI (by omega)
        refine ok_jn ?_
        refine ok_ite (fun c_91 => ?_) (fun c_91 => ?_)
        · skip
          have r_92 := n_rng (gT z23 0 (gI z23 12).toNatClampNeg)
          have c_91i : (gT z23 0 (gI z23 12).toNatClampNeg).toInt = 42 := bI_eq rfl (show (42 : Int32).toInt = 42 by decide) c_91
          have r_94 := n_rng (gI z23 12)
          try have e_95 : ((gI z23 12) + 1).toInt = ((gI z23 12).toInt + 1) := (i32_add rfl (show (1 : Int32).toInt = 1 by decide) (by omega) (by omega))
          refine ok_bd2 (t_fX9_value (t := t) (b := b) (h := h + 1) (o := o + 1) (by first | omega | assumption | decide | (show 0 ≤ ((gI z23 12) + 1).toInt ∧ ((gI z23 12) + 1).toInt ≤ (gI z23 1).toInt ∧ (gI z23 1).toInt ≤ 400; first | omega | assumption)) (by first | omega | assumption | decide | (show (gI z23 15).toInt = t ∧ t < 6; first | omega | assumption)) (by first | omega | assumption | decide | (show 0 ≤ (gT z23 4 t).toInt ∧ (gT z23 4 t).toInt + (o + 1) ≤ ((gI z23 12) + 1).toInt; first | omega | assumption)) (by first | omega | assumption | decide | (show 0 ≤ (gI z23 16).toInt ∧ (gI z23 16).toInt ≤ 60 ∧ (h + 1) ≤ (gI z23 16).toInt; first | omega | assumption)) (rn_I (rn_fr h_78 (by decide) (rn_fr h_2 (by decide) iR)))) (fun r14 z15 q_93 => ?_)
          have h_96 : r14 = 0 ∨ r14 = 1 := q_93.1
          have h_96i := bool_i h_96
          have h_97 : FrL [3, 4, 12, 13, 14, 16] (sI z23 12 ((gI z23 12) + 1)) z15 := q_93.2.1
          have h_98 : ((gI z23 12) + 1).toInt ≤ (gI z15 12).toInt ∧ (gI z15 12).toInt ≤ (gI z23 1).toInt := q_93.2.2.1
          have h_99 : KP t (sI z23 12 ((gI z23 12) + 1)) z15 := q_93.2.2.2.1
          have h_99a : (gT z23 4 t).toInt ≤ (gT z15 4 t).toInt := h_99.1
          have h_100 : r14.toInt = 0 → (gI z15 13).toInt ≠ 0 := q_93.2.2.2.2.1
          have h_101 : r14.toInt = 1 → (gT z15 4 t).toInt + (o + 1) ≤ (gI z15 12).toInt ∧ (h + 1) + 1 ≤ (gI z15 16).toInt ∧ (gI z15 16).toInt ≤ 60 := q_93.2.2.2.2.2.1
          have h_102 : r14.toInt = 1 → RN z15 t b ((h + 1) + 1) := q_93.2.2.2.2.2.2
          clear q_93
          have s_103 : (gI z15 1).toInt = (gI z23 1).toInt := congrArg Int32.toInt (h_97 1 (by decide)).1
          have s_104 : (gI z15 15).toInt = (gI z23 15).toInt := congrArg Int32.toInt (h_97 15 (by decide)).1
          refine ok_ite (fun c_105 => ?_) (fun c_105 => ?_)
          · skip
            have r_106 := n_rng r14
            have c_105i : r14.toInt = 0 := bI_eq rfl (show (0 : Int32).toInt = 0 by decide) c_105
            have u_107 : (gI z15 13).toInt ≠ 0 := h_100 (by omega)
            try have e_108 : (0 : Int32).toInt = 0 := (show (0 : Int32).toInt = 0 by decide)
            exact ok_some ⟨Or.inl rfl, (fr_tr (fr_I (fr_tr (fr_tr frz_t h_2 (by decide)) h_78 (by decide)) (by decide)) h_97 (by decide)), (show (gI o_z_t 12).toInt ≤ (gI z15 12).toInt ∧ (gI z15 12).toInt ≤ (gI o_z_t 1).toInt by first | omega | assumption | trivial), (kp_tr (kp_I (kp_fr (kp_fr iP h_2 (by decide)) h_78 (by decide))) h_99), (show (0 : Int32).toInt = 0 → (gI z15 13).toInt ≠ 0 from fun _ => by first | omega | assumption), (show (0 : Int32).toInt = 1 → (gT z15 4 t).toInt + o ≤ (gI z15 12).toInt ∧ h + 1 ≤ (gI z15 16).toInt ∧ (gI z15 16).toInt ≤ 60 from fun q => absurd q (by decide)), (show (0 : Int32).toInt = 1 → RN z15 t b (h + 1) from fun q => absurd q (by decide))⟩
          · skip
            have r_109 := n_rng r14
            have c_105i : r14.toInt ≠ 0 := bI_neq rfl (show (0 : Int32).toInt = 0 by decide) c_105
            have u_110 : (gT z15 4 t).toInt + (o + 1) ≤ (gI z15 12).toInt ∧ (h + 1) + 1 ≤ (gI z15 16).toInt ∧ (gI z15 16).toInt ≤ 60 := h_101 (by omega)
            have u_111 : RN z15 t b ((h + 1) + 1) := h_102 (by omega)
            have e_113 : (4 : Int32).toInt = 4 := (show (4 : Int32).toInt = 4 by decide)
            have e_114 : (0 : Int32).toInt = 0 := (show (0 : Int32).toInt = 0 by decide)
            refine ok_bd (t_fX9_puts (t := t) (by first | omega | assumption | decide | (show (gI z15 15).toInt = t ∧ t < 6; first | omega | assumption)) (by first | omega | assumption | decide | (show 0 ≤ (gT z15 4 t).toInt ∧ (gT z15 4 t).toInt < 400; first | omega | assumption))) (fun z18 q_112 => ?_)
            have h_115 : FrL [3, 4] z15 z18 := q_112.1
            have h_116 : PUT t z15 z18 ((4 : Int32) + (16 * (0 : Int32))) := q_112.2
            clear q_112
            have s_117 : (gI z18 1).toInt = (gI z15 1).toInt := congrArg Int32.toInt (h_115 1 (by decide)).1
            have s_118 : (gI z18 12).toInt = (gI z15 12).toInt := congrArg Int32.toInt (h_115 12 (by decide)).1
            have s_119 : (gI z18 13).toInt = (gI z15 13).toInt := congrArg Int32.toInt (h_115 13 (by decide)).1
            have s_120 : (gI z18 15).toInt = (gI z15 15).toInt := congrArg Int32.toInt (h_115 15 (by decide)).1
            have s_121 : (gI z18 16).toInt = (gI z15 16).toInt := congrArg Int32.toInt (h_115 16 (by decide)).1
            have h_116a := h_116.1
            have h_116k := h_116.2.1
            have h_116r : RN z18 t b ((h + 1)) := rn_put (by omega) h_116 u_111 (stp_bin (by omega) (by decide) (by decide) (by decide))
            exact ih z18 (fr_tr (fr_tr (fr_I (fr_tr (fr_tr frz_t h_2 (by decide)) h_78 (by decide)) (by decide)) h_97 (by decide)) h_115 (by decide)) (show (gI o_z_t 12).toInt ≤ (gI z18 12).toInt ∧ (gI z18 12).toInt ≤ (gI o_z_t 1).toInt by first | omega | assumption | decide) (show (gT z18 4 t).toInt + o ≤ (gI z18 12).toInt by first | omega | assumption | decide) (show h + 1 ≤ (gI z18 16).toInt ∧ (gI z18 16).toInt ≤ 60 by first | omega | assumption | decide) (kp_tr (kp_tr (kp_I (kp_fr (kp_fr iP h_2 (by decide)) h_78 (by decide))) h_99) h_116k) h_116r (by omega)
        · skip
          have r_122 := n_rng (gT z23 0 (gI z23 12).toNatClampNeg)
          have c_91i : (gT z23 0 (gI z23 12).toNatClampNeg).toInt ≠ 42 := bI_neq rfl (show (42 : Int32).toInt = 42 by decide) c_91
          have r_124 := n_rng (gI z23 12)
          try have e_125 : ((gI z23 12) + 1).toInt = ((gI z23 12).toInt + 1) := (i32_add rfl (show (1 : Int32).toInt = 1 by decide) (by omega) (by omega))
          refine ok_bd2 (t_fX9_value (t := t) (b := b) (h := h + 1) (o := o + 1) (by first | omega | assumption | decide | (show 0 ≤ ((gI z23 12) + 1).toInt ∧ ((gI z23 12) + 1).toInt ≤ (gI z23 1).toInt ∧ (gI z23 1).toInt ≤ 400; first | omega | assumption)) (by first | omega | assumption | decide | (show (gI z23 15).toInt = t ∧ t < 6; first | omega | assumption)) (by first | omega | assumption | decide | (show 0 ≤ (gT z23 4 t).toInt ∧ (gT z23 4 t).toInt + (o + 1) ≤ ((gI z23 12) + 1).toInt; first | omega | assumption)) (by first | omega | assumption | decide | (show 0 ≤ (gI z23 16).toInt ∧ (gI z23 16).toInt ≤ 60 ∧ (h + 1) ≤ (gI z23 16).toInt; first | omega | assumption)) (rn_I (rn_fr h_78 (by decide) (rn_fr h_2 (by decide) iR)))) (fun r14 z15 q_123 => ?_)
          have h_126 : r14 = 0 ∨ r14 = 1 := q_123.1
          have h_126i := bool_i h_126
          have h_127 : FrL [3, 4, 12, 13, 14, 16] (sI z23 12 ((gI z23 12) + 1)) z15 := q_123.2.1
          have h_128 : ((gI z23 12) + 1).toInt ≤ (gI z15 12).toInt ∧ (gI z15 12).toInt ≤ (gI z23 1).toInt := q_123.2.2.1
          have h_129 : KP t (sI z23 12 ((gI z23 12) + 1)) z15 := q_123.2.2.2.1
          have h_129a : (gT z23 4 t).toInt ≤ (gT z15 4 t).toInt := h_129.1
          have h_130 : r14.toInt = 0 → (gI z15 13).toInt ≠ 0 := q_123.2.2.2.2.1
          have h_131 : r14.toInt = 1 → (gT z15 4 t).toInt + (o + 1) ≤ (gI z15 12).toInt ∧ (h + 1) + 1 ≤ (gI z15 16).toInt ∧ (gI z15 16).toInt ≤ 60 := q_123.2.2.2.2.2.1
          have h_132 : r14.toInt = 1 → RN z15 t b ((h + 1) + 1) := q_123.2.2.2.2.2.2
          clear q_123
          have s_133 : (gI z15 1).toInt = (gI z23 1).toInt := congrArg Int32.toInt (h_127 1 (by decide)).1
          have s_134 : (gI z15 15).toInt = (gI z23 15).toInt := congrArg Int32.toInt (h_127 15 (by decide)).1
          refine ok_ite (fun c_135 => ?_) (fun c_135 => ?_)
          · skip
            have r_136 := n_rng r14
            have c_135i : r14.toInt = 0 := bI_eq rfl (show (0 : Int32).toInt = 0 by decide) c_135
            have u_137 : (gI z15 13).toInt ≠ 0 := h_130 (by omega)
            try have e_138 : (0 : Int32).toInt = 0 := (show (0 : Int32).toInt = 0 by decide)
            exact ok_some ⟨Or.inl rfl, (fr_tr (fr_I (fr_tr (fr_tr frz_t h_2 (by decide)) h_78 (by decide)) (by decide)) h_127 (by decide)), (show (gI o_z_t 12).toInt ≤ (gI z15 12).toInt ∧ (gI z15 12).toInt ≤ (gI o_z_t 1).toInt by first | omega | assumption | trivial), (kp_tr (kp_I (kp_fr (kp_fr iP h_2 (by decide)) h_78 (by decide))) h_129), (show (0 : Int32).toInt = 0 → (gI z15 13).toInt ≠ 0 from fun _ => by first | omega | assumption), (show (0 : Int32).toInt = 1 → (gT z15 4 t).toInt + o ≤ (gI z15 12).toInt ∧ h + 1 ≤ (gI z15 16).toInt ∧ (gI z15 16).toInt ≤ 60 from fun q => absurd q (by decide)), (show (0 : Int32).toInt = 1 → RN z15 t b (h + 1) from fun q => absurd q (by decide))⟩
          · skip
            have r_139 := n_rng r14
            have c_135i : r14.toInt ≠ 0 := bI_neq rfl (show (0 : Int32).toInt = 0 by decide) c_135
            have u_140 : (gT z15 4 t).toInt + (o + 1) ≤ (gI z15 12).toInt ∧ (h + 1) + 1 ≤ (gI z15 16).toInt ∧ (gI z15 16).toInt ≤ 60 := h_131 (by omega)
            have u_141 : RN z15 t b ((h + 1) + 1) := h_132 (by omega)
            have e_143 : (5 : Int32).toInt = 5 := (show (5 : Int32).toInt = 5 by decide)
            have e_144 : (0 : Int32).toInt = 0 := (show (0 : Int32).toInt = 0 by decide)
            refine ok_bd (t_fX9_puts (t := t) (by first | omega | assumption | decide | (show (gI z15 15).toInt = t ∧ t < 6; first | omega | assumption)) (by first | omega | assumption | decide | (show 0 ≤ (gT z15 4 t).toInt ∧ (gT z15 4 t).toInt < 400; first | omega | assumption))) (fun z18 q_142 => ?_)
            have h_145 : FrL [3, 4] z15 z18 := q_142.1
            have h_146 : PUT t z15 z18 ((5 : Int32) + (16 * (0 : Int32))) := q_142.2
            clear q_142
            have s_147 : (gI z18 1).toInt = (gI z15 1).toInt := congrArg Int32.toInt (h_145 1 (by decide)).1
            have s_148 : (gI z18 12).toInt = (gI z15 12).toInt := congrArg Int32.toInt (h_145 12 (by decide)).1
            have s_149 : (gI z18 13).toInt = (gI z15 13).toInt := congrArg Int32.toInt (h_145 13 (by decide)).1
            have s_150 : (gI z18 15).toInt = (gI z15 15).toInt := congrArg Int32.toInt (h_145 15 (by decide)).1
            have s_151 : (gI z18 16).toInt = (gI z15 16).toInt := congrArg Int32.toInt (h_145 16 (by decide)).1
            have h_146a := h_146.1
            have h_146k := h_146.2.1
            have h_146r : RN z18 t b ((h + 1)) := rn_put (by omega) h_146 u_141 (stp_bin (by omega) (by decide) (by decide) (by decide))
            exact ih z18 (fr_tr (fr_tr (fr_I (fr_tr (fr_tr frz_t h_2 (by decide)) h_78 (by decide)) (by decide)) h_127 (by decide)) h_145 (by decide)) (show (gI o_z_t 12).toInt ≤ (gI z18 12).toInt ∧ (gI z18 12).toInt ≤ (gI o_z_t 1).toInt by first | omega | assumption | decide) (show (gT z18 4 t).toInt + o ≤ (gI z18 12).toInt by first | omega | assumption | decide) (show h + 1 ≤ (gI z18 16).toInt ∧ (gI z18 16).toInt ≤ 60 by first | omega | assumption | decide) (kp_tr (kp_tr (kp_I (kp_fr (kp_fr iP h_2 (by decide)) h_78 (by decide))) h_129) h_146k) h_146r (by omega)
      · skip
        have r_152 := n_rng r22
        have c_88i : r22.toInt ≠ 47 := bI_neq rfl (show (47 : Int32).toInt = 47 by decide) c_88
        try have e_153 : (1 : Int32).toInt = 1 := (show (1 : Int32).toInt = 1 by decide)
        exact ok_some ⟨Or.inr rfl, (fr_tr (fr_tr frz_t h_2 (by decide)) h_78 (by decide)), (show (gI o_z_t 12).toInt ≤ (gI z23 12).toInt ∧ (gI z23 12).toInt ≤ (gI o_z_t 1).toInt by first | omega | assumption | trivial), (kp_fr (kp_fr iP h_2 (by decide)) h_78 (by decide)), (show (1 : Int32).toInt = 0 → (gI z23 13).toInt ≠ 0 from fun q => absurd q (by decide)), (show (1 : Int32).toInt = 1 → (gT z23 4 t).toInt + o ≤ (gI z23 12).toInt ∧ h + 1 ≤ (gI z23 16).toInt ∧ (gI z23 16).toInt ≤ 60 from fun _ => by first | omega | assumption), (fun _ => (rn_fr h_78 (by decide) (rn_fr h_2 (by decide) iR)))⟩
set_option maxHeartbeats 400000 in
set_option maxRecDepth 20000 in
theorem t_fX9_term {z_t : Sx} {t : Nat} {b : Nat} {h : Nat} {o : Nat} (p1 : 0 ≤ (gI z_t 12).toInt ∧ (gI z_t 12).toInt ≤ (gI z_t 1).toInt ∧ (gI z_t 1).toInt ≤ 400) (pt : (gI z_t 15).toInt = t ∧ t < 6) (pL : 0 ≤ (gT z_t 4 t).toInt ∧ (gT z_t 4 t).toInt + o ≤ (gI z_t 12).toInt) (pm : 0 ≤ (gI z_t 16).toInt ∧ (gI z_t 16).toInt ≤ 60 ∧ h ≤ (gI z_t 16).toInt) (pR : RN z_t t b h) : okP (fX9_term z_t) (fun y => (y.1 = 0 ∨ y.1 = 1) ∧ (FrL [3, 4, 12, 13, 14, 16] z_t y.2) ∧ ((gI z_t 12).toInt ≤ (gI y.2 12).toInt ∧ (gI y.2 12).toInt ≤ (gI z_t 1).toInt) ∧ (KP t z_t y.2) ∧ (y.1.toInt = 0 → (gI y.2 13).toInt ≠ 0) ∧ (y.1.toInt = 1 → (gT y.2 4 t).toInt + o ≤ (gI y.2 12).toInt ∧ h + 1 ≤ (gI y.2 16).toInt ∧ (gI y.2 16).toInt ≤ 60) ∧ (y.1.toInt = 1 → RN y.2 t b (h + 1))) := by
  unfold fX9_term
  refine ok_bd2 (t_fX9_value (t := t) (b := b) (h := h) (o := o) (by first | omega | assumption | decide | (show 0 ≤ (gI z_t 12).toInt ∧ (gI z_t 12).toInt ≤ (gI z_t 1).toInt ∧ (gI z_t 1).toInt ≤ 400; first | omega | assumption)) (by first | omega | assumption | decide | (show (gI z_t 15).toInt = t ∧ t < 6; first | omega | assumption)) (by first | omega | assumption | decide | (show 0 ≤ (gT z_t 4 t).toInt ∧ (gT z_t 4 t).toInt + o ≤ (gI z_t 12).toInt; first | omega | assumption)) (by first | omega | assumption | decide | (show 0 ≤ (gI z_t 16).toInt ∧ (gI z_t 16).toInt ≤ 60 ∧ h ≤ (gI z_t 16).toInt; first | omega | assumption)) (by assumption)) (fun r2 z3 q_1 => ?_)
  have h_2 : r2 = 0 ∨ r2 = 1 := q_1.1
  have h_2i := bool_i h_2
  have h_3 : FrL [3, 4, 12, 13, 14, 16] z_t z3 := q_1.2.1
  have h_4 : (gI z_t 12).toInt ≤ (gI z3 12).toInt ∧ (gI z3 12).toInt ≤ (gI z_t 1).toInt := q_1.2.2.1
  have h_5 : KP t z_t z3 := q_1.2.2.2.1
  have h_5a : (gT z_t 4 t).toInt ≤ (gT z3 4 t).toInt := h_5.1
  have h_6 : r2.toInt = 0 → (gI z3 13).toInt ≠ 0 := q_1.2.2.2.2.1
  have h_7 : r2.toInt = 1 → (gT z3 4 t).toInt + o ≤ (gI z3 12).toInt ∧ h + 1 ≤ (gI z3 16).toInt ∧ (gI z3 16).toInt ≤ 60 := q_1.2.2.2.2.2.1
  have h_8 : r2.toInt = 1 → RN z3 t b (h + 1) := q_1.2.2.2.2.2.2
  clear q_1
  have s_9 : (gI z3 1).toInt = (gI z_t 1).toInt := congrArg Int32.toInt (h_3 1 (by decide)).1
  have s_10 : (gI z3 15).toInt = (gI z_t 15).toInt := congrArg Int32.toInt (h_3 15 (by decide)).1
  refine ok_ite (fun c_11 => ?_) (fun c_11 => ?_)
  · skip
    have r_12 := n_rng r2
    have c_11i : r2.toInt = 0 := bI_eq rfl (show (0 : Int32).toInt = 0 by decide) c_11
    have u_13 : (gI z3 13).toInt ≠ 0 := h_6 (by omega)
    try have e_14 : (0 : Int32).toInt = 0 := (show (0 : Int32).toInt = 0 by decide)
    exact ok_some ⟨Or.inl rfl, (fr_tr fr_rf h_3 (by decide)), (show (gI z_t 12).toInt ≤ (gI z3 12).toInt ∧ (gI z3 12).toInt ≤ (gI z_t 1).toInt by first | omega | assumption | trivial), (kp_tr kp_rf h_5), (show (0 : Int32).toInt = 0 → (gI z3 13).toInt ≠ 0 from fun _ => by first | omega | assumption), (show (0 : Int32).toInt = 1 → (gT z3 4 t).toInt + o ≤ (gI z3 12).toInt ∧ h + 1 ≤ (gI z3 16).toInt ∧ (gI z3 16).toInt ≤ 60 from fun q => absurd q (by decide)), (show (0 : Int32).toInt = 1 → RN z3 t b (h + 1) from fun q => absurd q (by decide))⟩
  · skip
    have r_15 := n_rng r2
    have c_11i : r2.toInt ≠ 0 := bI_neq rfl (show (0 : Int32).toInt = 0 by decide) c_11
    have u_16 : (gT z3 4 t).toInt + o ≤ (gI z3 12).toInt ∧ h + 1 ≤ (gI z3 16).toInt ∧ (gI z3 16).toInt ≤ 60 := h_7 (by omega)
    have u_17 : RN z3 t b (h + 1) := h_8 (by omega)
    refine tl_lX9_term_9 (t := t) (b := b) (h := h) (o := o) (by first | omega | assumption | decide) (by first | omega | assumption | decide) (by first | omega | assumption | decide) FU z3 (fr_tr fr_rf h_3 (by decide)) (show (gI z_t 12).toInt ≤ (gI z3 12).toInt ∧ (gI z3 12).toInt ≤ (gI z_t 1).toInt by first | omega | assumption | decide) (show (gT z3 4 t).toInt + o ≤ (gI z3 12).toInt by first | omega | assumption | decide) (show h + 1 ≤ (gI z3 16).toInt ∧ (gI z3 16).toInt ≤ 60 by first | omega | assumption | decide) (kp_tr kp_rf h_5) u_17 (FU_lt (by omega))

set_option maxHeartbeats 400000 in
set_option maxRecDepth 20000 in
theorem tl_lX9_sum_9 {t : Nat} {b : Nat} {h : Nat} {o : Nat} {o_z_t : Sx} (p1 : 0 ≤ (gI o_z_t 12).toInt ∧ (gI o_z_t 12).toInt ≤ (gI o_z_t 1).toInt ∧ (gI o_z_t 1).toInt ≤ 400) (pt : (gI o_z_t 15).toInt = t ∧ t < 6) (pL : 0 ≤ (gT o_z_t 4 t).toInt) : ∀ (n : Nat) (z_t : Sx), (FrL [3, 4, 12, 13, 14, 16] o_z_t z_t) → ((gI o_z_t 12).toInt ≤ (gI z_t 12).toInt ∧ (gI z_t 12).toInt ≤ (gI o_z_t 1).toInt) → ((gT z_t 4 t).toInt + o ≤ (gI z_t 12).toInt) → (h + 1 ≤ (gI z_t 16).toInt ∧ (gI z_t 16).toInt ≤ 60) → (KP t o_z_t z_t) → (RN z_t t b (h + 1)) → ((gI o_z_t 1).toInt - (gI z_t 12).toInt).toNat < n → okP (lX9_sum_9 n z_t) (fun y => (y.1 = 0 ∨ y.1 = 1) ∧ (FrL [3, 4, 12, 13, 14, 16] o_z_t y.2) ∧ ((gI o_z_t 12).toInt ≤ (gI y.2 12).toInt ∧ (gI y.2 12).toInt ≤ (gI o_z_t 1).toInt) ∧ (KP t o_z_t y.2) ∧ (y.1.toInt = 0 → (gI y.2 13).toInt ≠ 0) ∧ (y.1.toInt = 1 → (gT y.2 4 t).toInt + o ≤ (gI y.2 12).toInt ∧ h + 1 ≤ (gI y.2 16).toInt ∧ (gI y.2 16).toInt ≤ 60) ∧ (y.1.toInt = 1 → RN y.2 t b (h + 1))) := by
  intro n
  induction n with
  | zero => intro _ _ _ _ _ _ _ hm; omega
  | succ n ih =>
    intro z_t frz_t i0 iL im iP iR hm
    rw [lX9_sum_9]
    have iPa := iP.1
    have tk1 : (gI z_t 1).toInt = (gI o_z_t 1).toInt := congrArg Int32.toInt (frz_t 1 (by decide)).1
    have tk15 : (gI z_t 15).toInt = (gI o_z_t 15).toInt := congrArg Int32.toInt (frz_t 15 (by decide)).1
    refine ok_bd2 (t_fX9_see (by first | omega | assumption | decide | (show 0 ≤ (gI z_t 12).toInt ∧ (gI z_t 12).toInt ≤ (gI z_t 1).toInt ∧ (gI z_t 1).toInt ≤ 400; first | omega | assumption))) (fun r6 z7 q_1 => ?_)
    have h_2 : FrL [12] z_t z7 := q_1.1
    have h_3 : (gI z_t 12).toInt ≤ (gI z7 12).toInt ∧ (gI z7 12).toInt ≤ (gI z_t 1).toInt := q_1.2.1
    have h_4 : r6.toInt = -1 ∨ (0 ≤ r6.toInt ∧ (gI z7 12).toInt < (gI z_t 1).toInt) := q_1.2.2.1
    have h_5 : NB z_t → (gI z7 12).toInt = (gI z_t 12).toInt := q_1.2.2.2.1
    have h_6 : 0 ≤ r6.toInt → NB z7 := q_1.2.2.2.2
    clear q_1
    have s_7 : (gI z7 1).toInt = (gI z_t 1).toInt := congrArg Int32.toInt (h_2 1 (by decide)).1
    have s_8 : (gI z7 13).toInt = (gI z_t 13).toInt := congrArg Int32.toInt (h_2 13 (by decide)).1
    have s_9 : (gI z7 15).toInt = (gI z_t 15).toInt := congrArg Int32.toInt (h_2 15 (by decide)).1
    have s_10 : (gI z7 16).toInt = (gI z_t 16).toInt := congrArg Int32.toInt (h_2 16 (by decide)).1
    have s_11 : (gT z7 4 t).toInt = (gT z_t 4 t).toInt := congrArg (fun f : Nat → Int32 => (f t).toInt) (h_2 4 (by decide)).2.1
    refine ok_jn ?_
    refine ok_ite (fun c_12 => ?_) (fun c_12 => ?_)
    · skip
      have r_13 := n_rng r6
      have c_12i : r6.toInt = 43 := bI_eq rfl (show (43 : Int32).toInt = 43 by decide) c_12
      refine ok_gd (inb_of (by omega) (by omega)) ?_
      have i_14 : ((gI z7 12).toNatClampNeg : Int) = (gI z7 12).toInt := clampI (by omega)
      refine ok_jn ?_
      refine ok_ite (fun c_15 => ?_) (fun c_15 => ?_)
      · skip
        have r_16 := n_rng (gT z7 0 (gI z7 12).toNatClampNeg)
        have c_15i : (gT z7 0 (gI z7 12).toNatClampNeg).toInt = 43 := bI_eq rfl (show (43 : Int32).toInt = 43 by decide) c_15
        have r_18 := n_rng (gI z7 12)
        try have e_19 : ((gI z7 12) + 1).toInt = ((gI z7 12).toInt + 1) := (i32_add rfl (show (1 : Int32).toInt = 1 by decide) (by omega) (by omega))
        refine ok_bd2 (t_fX9_term (t := t) (b := b) (h := h + 1) (o := o + 1) (by first | omega | assumption | decide | (show 0 ≤ ((gI z7 12) + 1).toInt ∧ ((gI z7 12) + 1).toInt ≤ (gI z7 1).toInt ∧ (gI z7 1).toInt ≤ 400; first | omega | assumption)) (by first | omega | assumption | decide | (show (gI z7 15).toInt = t ∧ t < 6; first | omega | assumption)) (by first | omega | assumption | decide | (show 0 ≤ (gT z7 4 t).toInt ∧ (gT z7 4 t).toInt + (o + 1) ≤ ((gI z7 12) + 1).toInt; first | omega | assumption)) (by first | omega | assumption | decide | (show 0 ≤ (gI z7 16).toInt ∧ (gI z7 16).toInt ≤ 60 ∧ (h + 1) ≤ (gI z7 16).toInt; first | omega | assumption)) (rn_I (rn_fr h_2 (by decide) iR))) (fun r14 z15 q_17 => ?_)
        have h_20 : r14 = 0 ∨ r14 = 1 := q_17.1
        have h_20i := bool_i h_20
        have h_21 : FrL [3, 4, 12, 13, 14, 16] (sI z7 12 ((gI z7 12) + 1)) z15 := q_17.2.1
        have h_22 : ((gI z7 12) + 1).toInt ≤ (gI z15 12).toInt ∧ (gI z15 12).toInt ≤ (gI z7 1).toInt := q_17.2.2.1
        have h_23 : KP t (sI z7 12 ((gI z7 12) + 1)) z15 := q_17.2.2.2.1
        have h_23a : (gT z7 4 t).toInt ≤ (gT z15 4 t).toInt := h_23.1
        have h_24 : r14.toInt = 0 → (gI z15 13).toInt ≠ 0 := q_17.2.2.2.2.1
        have h_25 : r14.toInt = 1 → (gT z15 4 t).toInt + (o + 1) ≤ (gI z15 12).toInt ∧ (h + 1) + 1 ≤ (gI z15 16).toInt ∧ (gI z15 16).toInt ≤ 60 := q_17.2.2.2.2.2.1
        have h_26 : r14.toInt = 1 → RN z15 t b ((h + 1) + 1) := q_17.2.2.2.2.2.2
        clear q_17
        have s_27 : (gI z15 1).toInt = (gI z7 1).toInt := congrArg Int32.toInt (h_21 1 (by decide)).1
        have s_28 : (gI z15 15).toInt = (gI z7 15).toInt := congrArg Int32.toInt (h_21 15 (by decide)).1
        refine ok_ite (fun c_29 => ?_) (fun c_29 => ?_)
        · skip
          have r_30 := n_rng r14
          have c_29i : r14.toInt = 0 := bI_eq rfl (show (0 : Int32).toInt = 0 by decide) c_29
          have u_31 : (gI z15 13).toInt ≠ 0 := h_24 (by omega)
          try have e_32 : (0 : Int32).toInt = 0 := (show (0 : Int32).toInt = 0 by decide)
          exact ok_some ⟨Or.inl rfl, (fr_tr (fr_I (fr_tr frz_t h_2 (by decide)) (by decide)) h_21 (by decide)), (show (gI o_z_t 12).toInt ≤ (gI z15 12).toInt ∧ (gI z15 12).toInt ≤ (gI o_z_t 1).toInt by first | omega | assumption | trivial), (kp_tr (kp_I (kp_fr iP h_2 (by decide))) h_23), (show (0 : Int32).toInt = 0 → (gI z15 13).toInt ≠ 0 from fun _ => by first | omega | assumption), (show (0 : Int32).toInt = 1 → (gT z15 4 t).toInt + o ≤ (gI z15 12).toInt ∧ h + 1 ≤ (gI z15 16).toInt ∧ (gI z15 16).toInt ≤ 60 from fun q => absurd q (by decide)), (show (0 : Int32).toInt = 1 → RN z15 t b (h + 1) from fun q => absurd q (by decide))⟩
        · skip
          have r_33 := n_rng r14
          have c_29i : r14.toInt ≠ 0 := bI_neq rfl (show (0 : Int32).toInt = 0 by decide) c_29
          have u_34 : (gT z15 4 t).toInt + (o + 1) ≤ (gI z15 12).toInt ∧ (h + 1) + 1 ≤ (gI z15 16).toInt ∧ (gI z15 16).toInt ≤ 60 := h_25 (by omega)
          have u_35 : RN z15 t b ((h + 1) + 1) := h_26 (by omega)
          have e_37 : (2 : Int32).toInt = 2 := (show (2 : Int32).toInt = 2 by decide)
          have e_38 : (0 : Int32).toInt = 0 := (show (0 : Int32).toInt = 0 by decide)
          refine ok_bd (t_fX9_puts (t := t) (by first | omega | assumption | decide | (show (gI z15 15).toInt = t ∧ t < 6; first | omega | assumption)) (by first | omega | assumption | decide | (show 0 ≤ (gT z15 4 t).toInt ∧ (gT z15 4 t).toInt < 400; first | omega | assumption))) (fun z18 q_36 => ?_)
          have h_39 : FrL [3, 4] z15 z18 := q_36.1
          have h_40 : PUT t z15 z18 ((2 : Int32) + (16 * (0 : Int32))) := q_36.2
          clear q_36
          have s_41 : (gI z18 1).toInt = (gI z15 1).toInt := congrArg Int32.toInt (h_39 1 (by decide)).1
          have s_42 : (gI z18 12).toInt = (gI z15 12).toInt := congrArg Int32.toInt (h_39 12 (by decide)).1
          have s_43 : (gI z18 13).toInt = (gI z15 13).toInt := congrArg Int32.toInt (h_39 13 (by decide)).1
          have s_44 : (gI z18 15).toInt = (gI z15 15).toInt := congrArg Int32.toInt (h_39 15 (by decide)).1
          have s_45 : (gI z18 16).toInt = (gI z15 16).toInt := congrArg Int32.toInt (h_39 16 (by decide)).1
          have h_40a := h_40.1
          have h_40k := h_40.2.1
          have h_40r : RN z18 t b ((h + 1)) := rn_put (by omega) h_40 u_35 (stp_bin (by omega) (by decide) (by decide) (by decide))
          exact ih z18 (fr_tr (fr_tr (fr_I (fr_tr frz_t h_2 (by decide)) (by decide)) h_21 (by decide)) h_39 (by decide)) (show (gI o_z_t 12).toInt ≤ (gI z18 12).toInt ∧ (gI z18 12).toInt ≤ (gI o_z_t 1).toInt by first | omega | assumption | decide) (show (gT z18 4 t).toInt + o ≤ (gI z18 12).toInt by first | omega | assumption | decide) (show h + 1 ≤ (gI z18 16).toInt ∧ (gI z18 16).toInt ≤ 60 by first | omega | assumption | decide) (kp_tr (kp_tr (kp_I (kp_fr iP h_2 (by decide))) h_23) h_40k) h_40r (by omega)
      · skip
        have r_46 := n_rng (gT z7 0 (gI z7 12).toNatClampNeg)
        have c_15i : (gT z7 0 (gI z7 12).toNatClampNeg).toInt ≠ 43 := bI_neq rfl (show (43 : Int32).toInt = 43 by decide) c_15
        have r_48 := n_rng (gI z7 12)
        try have e_49 : ((gI z7 12) + 1).toInt = ((gI z7 12).toInt + 1) := (i32_add rfl (show (1 : Int32).toInt = 1 by decide) (by omega) (by omega))
        refine ok_bd2 (t_fX9_term (t := t) (b := b) (h := h + 1) (o := o + 1) (by first | omega | assumption | decide | (show 0 ≤ ((gI z7 12) + 1).toInt ∧ ((gI z7 12) + 1).toInt ≤ (gI z7 1).toInt ∧ (gI z7 1).toInt ≤ 400; first | omega | assumption)) (by first | omega | assumption | decide | (show (gI z7 15).toInt = t ∧ t < 6; first | omega | assumption)) (by first | omega | assumption | decide | (show 0 ≤ (gT z7 4 t).toInt ∧ (gT z7 4 t).toInt + (o + 1) ≤ ((gI z7 12) + 1).toInt; first | omega | assumption)) (by first | omega | assumption | decide | (show 0 ≤ (gI z7 16).toInt ∧ (gI z7 16).toInt ≤ 60 ∧ (h + 1) ≤ (gI z7 16).toInt; first | omega | assumption)) (rn_I (rn_fr h_2 (by decide) iR))) (fun r14 z15 q_47 => ?_)
        have h_50 : r14 = 0 ∨ r14 = 1 := q_47.1
        have h_50i := bool_i h_50
        have h_51 : FrL [3, 4, 12, 13, 14, 16] (sI z7 12 ((gI z7 12) + 1)) z15 := q_47.2.1
        have h_52 : ((gI z7 12) + 1).toInt ≤ (gI z15 12).toInt ∧ (gI z15 12).toInt ≤ (gI z7 1).toInt := q_47.2.2.1
        have h_53 : KP t (sI z7 12 ((gI z7 12) + 1)) z15 := q_47.2.2.2.1
        have h_53a : (gT z7 4 t).toInt ≤ (gT z15 4 t).toInt := h_53.1
        have h_54 : r14.toInt = 0 → (gI z15 13).toInt ≠ 0 := q_47.2.2.2.2.1
        have h_55 : r14.toInt = 1 → (gT z15 4 t).toInt + (o + 1) ≤ (gI z15 12).toInt ∧ (h + 1) + 1 ≤ (gI z15 16).toInt ∧ (gI z15 16).toInt ≤ 60 := q_47.2.2.2.2.2.1
        have h_56 : r14.toInt = 1 → RN z15 t b ((h + 1) + 1) := q_47.2.2.2.2.2.2
        clear q_47
        have s_57 : (gI z15 1).toInt = (gI z7 1).toInt := congrArg Int32.toInt (h_51 1 (by decide)).1
        have s_58 : (gI z15 15).toInt = (gI z7 15).toInt := congrArg Int32.toInt (h_51 15 (by decide)).1
        refine ok_ite (fun c_59 => ?_) (fun c_59 => ?_)
        · skip
          have r_60 := n_rng r14
          have c_59i : r14.toInt = 0 := bI_eq rfl (show (0 : Int32).toInt = 0 by decide) c_59
          have u_61 : (gI z15 13).toInt ≠ 0 := h_54 (by omega)
          try have e_62 : (0 : Int32).toInt = 0 := (show (0 : Int32).toInt = 0 by decide)
          exact ok_some ⟨Or.inl rfl, (fr_tr (fr_I (fr_tr frz_t h_2 (by decide)) (by decide)) h_51 (by decide)), (show (gI o_z_t 12).toInt ≤ (gI z15 12).toInt ∧ (gI z15 12).toInt ≤ (gI o_z_t 1).toInt by first | omega | assumption | trivial), (kp_tr (kp_I (kp_fr iP h_2 (by decide))) h_53), (show (0 : Int32).toInt = 0 → (gI z15 13).toInt ≠ 0 from fun _ => by first | omega | assumption), (show (0 : Int32).toInt = 1 → (gT z15 4 t).toInt + o ≤ (gI z15 12).toInt ∧ h + 1 ≤ (gI z15 16).toInt ∧ (gI z15 16).toInt ≤ 60 from fun q => absurd q (by decide)), (show (0 : Int32).toInt = 1 → RN z15 t b (h + 1) from fun q => absurd q (by decide))⟩
        · skip
          have r_63 := n_rng r14
          have c_59i : r14.toInt ≠ 0 := bI_neq rfl (show (0 : Int32).toInt = 0 by decide) c_59
          have u_64 : (gT z15 4 t).toInt + (o + 1) ≤ (gI z15 12).toInt ∧ (h + 1) + 1 ≤ (gI z15 16).toInt ∧ (gI z15 16).toInt ≤ 60 := h_55 (by omega)
          have u_65 : RN z15 t b ((h + 1) + 1) := h_56 (by omega)
          have e_67 : (3 : Int32).toInt = 3 := (show (3 : Int32).toInt = 3 by decide)
          have e_68 : (0 : Int32).toInt = 0 := (show (0 : Int32).toInt = 0 by decide)
          refine ok_bd (t_fX9_puts (t := t) (by first | omega | assumption | decide | (show (gI z15 15).toInt = t ∧ t < 6; first | omega | assumption)) (by first | omega | assumption | decide | (show 0 ≤ (gT z15 4 t).toInt ∧ (gT z15 4 t).toInt < 400; first | omega | assumption))) (fun z18 q_66 => ?_)
          have h_69 : FrL [3, 4] z15 z18 := q_66.1
          have h_70 : PUT t z15 z18 ((3 : Int32) + (16 * (0 : Int32))) := q_66.2
          clear q_66
          have s_71 : (gI z18 1).toInt = (gI z15 1).toInt := congrArg Int32.toInt (h_69 1 (by decide)).1
          have s_72 : (gI z18 12).toInt = (gI z15 12).toInt := congrArg Int32.toInt (h_69 12 (by decide)).1
          have s_73 : (gI z18 13).toInt = (gI z15 13).toInt := congrArg Int32.toInt (h_69 13 (by decide)).1
          have s_74 : (gI z18 15).toInt = (gI z15 15).toInt := congrArg Int32.toInt (h_69 15 (by decide)).1
          have s_75 : (gI z18 16).toInt = (gI z15 16).toInt := congrArg Int32.toInt (h_69 16 (by decide)).1
          have h_70a := h_70.1
          have h_70k := h_70.2.1
          have h_70r : RN z18 t b ((h + 1)) := rn_put (by omega) h_70 u_65 (stp_bin (by omega) (by decide) (by decide) (by decide))
          exact ih z18 (fr_tr (fr_tr (fr_I (fr_tr frz_t h_2 (by decide)) (by decide)) h_51 (by decide)) h_69 (by decide)) (show (gI o_z_t 12).toInt ≤ (gI z18 12).toInt ∧ (gI z18 12).toInt ≤ (gI o_z_t 1).toInt by first | omega | assumption | decide) (show (gT z18 4 t).toInt + o ≤ (gI z18 12).toInt by first | omega | assumption | decide) (show h + 1 ≤ (gI z18 16).toInt ∧ (gI z18 16).toInt ≤ 60 by first | omega | assumption | decide) (kp_tr (kp_tr (kp_I (kp_fr iP h_2 (by decide))) h_53) h_70k) h_70r (by omega)
    · skip
      have r_76 := n_rng r6
      have c_12i : r6.toInt ≠ 43 := bI_neq rfl (show (43 : Int32).toInt = 43 by decide) c_12
      refine ok_bd2 (t_fX9_see (by first | omega | assumption | decide | (show 0 ≤ (gI z7 12).toInt ∧ (gI z7 12).toInt ≤ (gI z7 1).toInt ∧ (gI z7 1).toInt ≤ 400; first | omega | assumption))) (fun r22 z23 q_77 => ?_)
      have h_78 : FrL [12] z7 z23 := q_77.1
      have h_79 : (gI z7 12).toInt ≤ (gI z23 12).toInt ∧ (gI z23 12).toInt ≤ (gI z7 1).toInt := q_77.2.1
      have h_80 : r22.toInt = -1 ∨ (0 ≤ r22.toInt ∧ (gI z23 12).toInt < (gI z7 1).toInt) := q_77.2.2.1
      have h_81 : NB z7 → (gI z23 12).toInt = (gI z7 12).toInt := q_77.2.2.2.1
      have h_82 : 0 ≤ r22.toInt → NB z23 := q_77.2.2.2.2
      clear q_77
      have s_83 : (gI z23 1).toInt = (gI z7 1).toInt := congrArg Int32.toInt (h_78 1 (by decide)).1
      have s_84 : (gI z23 13).toInt = (gI z7 13).toInt := congrArg Int32.toInt (h_78 13 (by decide)).1
      have s_85 : (gI z23 15).toInt = (gI z7 15).toInt := congrArg Int32.toInt (h_78 15 (by decide)).1
      have s_86 : (gI z23 16).toInt = (gI z7 16).toInt := congrArg Int32.toInt (h_78 16 (by decide)).1
      have s_87 : (gT z23 4 t).toInt = (gT z7 4 t).toInt := congrArg (fun f : Nat → Int32 => (f t).toInt) (h_78 4 (by decide)).2.1
      refine ok_ite (fun c_88 => ?_) (fun c_88 => ?_)
      · skip
        have r_89 := n_rng r22
        have c_88i : r22.toInt = 45 := bI_eq rfl (show (45 : Int32).toInt = 45 by decide) c_88
        refine ok_gd (inb_of (by omega) (by omega)) ?_
        have i_90 : ((gI z23 12).toNatClampNeg : Int) = (gI z23 12).toInt := clampI (by omega)
        refine ok_jn ?_
        refine ok_ite (fun c_91 => ?_) (fun c_91 => ?_)
        · skip
          have r_92 := n_rng (gT z23 0 (gI z23 12).toNatClampNeg)
          have c_91i : (gT z23 0 (gI z23 12).toNatClampNeg).toInt = 43 := bI_eq rfl (show (43 : Int32).toInt = 43 by decide) c_91
          have r_94 := n_rng (gI z23 12)
          try have e_95 : ((gI z23 12) + 1).toInt = ((gI z23 12).toInt + 1) := (i32_add rfl (show (1 : Int32).toInt = 1 by decide) (by omega) (by omega))
          refine ok_bd2 (t_fX9_term (t := t) (b := b) (h := h + 1) (o := o + 1) (by first | omega | assumption | decide | (show 0 ≤ ((gI z23 12) + 1).toInt ∧ ((gI z23 12) + 1).toInt ≤ (gI z23 1).toInt ∧ (gI z23 1).toInt ≤ 400; first | omega | assumption)) (by first | omega | assumption | decide | (show (gI z23 15).toInt = t ∧ t < 6; first | omega | assumption)) (by first | omega | assumption | decide | (show 0 ≤ (gT z23 4 t).toInt ∧ (gT z23 4 t).toInt + (o + 1) ≤ ((gI z23 12) + 1).toInt; first | omega | assumption)) (by first | omega | assumption | decide | (show 0 ≤ (gI z23 16).toInt ∧ (gI z23 16).toInt ≤ 60 ∧ (h + 1) ≤ (gI z23 16).toInt; first | omega | assumption)) (rn_I (rn_fr h_78 (by decide) (rn_fr h_2 (by decide) iR)))) (fun r14 z15 q_93 => ?_)
          have h_96 : r14 = 0 ∨ r14 = 1 := q_93.1
          have h_96i := bool_i h_96
          have h_97 : FrL [3, 4, 12, 13, 14, 16] (sI z23 12 ((gI z23 12) + 1)) z15 := q_93.2.1
          have h_98 : ((gI z23 12) + 1).toInt ≤ (gI z15 12).toInt ∧ (gI z15 12).toInt ≤ (gI z23 1).toInt := q_93.2.2.1
          have h_99 : KP t (sI z23 12 ((gI z23 12) + 1)) z15 := q_93.2.2.2.1
          have h_99a : (gT z23 4 t).toInt ≤ (gT z15 4 t).toInt := h_99.1
          have h_100 : r14.toInt = 0 → (gI z15 13).toInt ≠ 0 := q_93.2.2.2.2.1
          have h_101 : r14.toInt = 1 → (gT z15 4 t).toInt + (o + 1) ≤ (gI z15 12).toInt ∧ (h + 1) + 1 ≤ (gI z15 16).toInt ∧ (gI z15 16).toInt ≤ 60 := q_93.2.2.2.2.2.1
          have h_102 : r14.toInt = 1 → RN z15 t b ((h + 1) + 1) := q_93.2.2.2.2.2.2
          clear q_93
          have s_103 : (gI z15 1).toInt = (gI z23 1).toInt := congrArg Int32.toInt (h_97 1 (by decide)).1
          have s_104 : (gI z15 15).toInt = (gI z23 15).toInt := congrArg Int32.toInt (h_97 15 (by decide)).1
          refine ok_ite (fun c_105 => ?_) (fun c_105 => ?_)
          · skip
            have r_106 := n_rng r14
            have c_105i : r14.toInt = 0 := bI_eq rfl (show (0 : Int32).toInt = 0 by decide) c_105
            have u_107 : (gI z15 13).toInt ≠ 0 := h_100 (by omega)
            try have e_108 : (0 : Int32).toInt = 0 := (show (0 : Int32).toInt = 0 by decide)
            exact ok_some ⟨Or.inl rfl, (fr_tr (fr_I (fr_tr (fr_tr frz_t h_2 (by decide)) h_78 (by decide)) (by decide)) h_97 (by decide)), (show (gI o_z_t 12).toInt ≤ (gI z15 12).toInt ∧ (gI z15 12).toInt ≤ (gI o_z_t 1).toInt by first | omega | assumption | trivial), (kp_tr (kp_I (kp_fr (kp_fr iP h_2 (by decide)) h_78 (by decide))) h_99), (show (0 : Int32).toInt = 0 → (gI z15 13).toInt ≠ 0 from fun _ => by first | omega | assumption), (show (0 : Int32).toInt = 1 → (gT z15 4 t).toInt + o ≤ (gI z15 12).toInt ∧ h + 1 ≤ (gI z15 16).toInt ∧ (gI z15 16).toInt ≤ 60 from fun q => absurd q (by decide)), (show (0 : Int32).toInt = 1 → RN z15 t b (h + 1) from fun q => absurd q (by decide))⟩
          · skip
            have r_109 := n_rng r14
            have c_105i : r14.toInt ≠ 0 := bI_neq rfl (show (0 : Int32).toInt = 0 by decide) c_105
            have u_110 : (gT z15 4 t).toInt + (o + 1) ≤ (gI z15 12).toInt ∧ (h + 1) + 1 ≤ (gI z15 16).toInt ∧ (gI z15 16).toInt ≤ 60 := h_101 (by omega)
            have u_111 : RN z15 t b ((h + 1) + 1) := h_102 (by omega)
            have e_113 : (2 : Int32).toInt = 2 := (show (2 : Int32).toInt = 2 by decide)
            have e_114 : (0 : Int32).toInt = 0 := (show (0 : Int32).toInt = 0 by decide)
            refine ok_bd (t_fX9_puts (t := t) (by first | omega | assumption | decide | (show (gI z15 15).toInt = t ∧ t < 6; first | omega | assumption)) (by first | omega | assumption | decide | (show 0 ≤ (gT z15 4 t).toInt ∧ (gT z15 4 t).toInt < 400; first | omega | assumption))) (fun z18 q_112 => ?_)
            have h_115 : FrL [3, 4] z15 z18 := q_112.1
            have h_116 : PUT t z15 z18 ((2 : Int32) + (16 * (0 : Int32))) := q_112.2
            clear q_112
            have s_117 : (gI z18 1).toInt = (gI z15 1).toInt := congrArg Int32.toInt (h_115 1 (by decide)).1
            have s_118 : (gI z18 12).toInt = (gI z15 12).toInt := congrArg Int32.toInt (h_115 12 (by decide)).1
            have s_119 : (gI z18 13).toInt = (gI z15 13).toInt := congrArg Int32.toInt (h_115 13 (by decide)).1
            have s_120 : (gI z18 15).toInt = (gI z15 15).toInt := congrArg Int32.toInt (h_115 15 (by decide)).1
            have s_121 : (gI z18 16).toInt = (gI z15 16).toInt := congrArg Int32.toInt (h_115 16 (by decide)).1
            have h_116a := h_116.1
            have h_116k := h_116.2.1
            have h_116r : RN z18 t b ((h + 1)) := rn_put (by omega) h_116 u_111 (stp_bin (by omega) (by decide) (by decide) (by decide))
            exact ih z18 (fr_tr (fr_tr (fr_I (fr_tr (fr_tr frz_t h_2 (by decide)) h_78 (by decide)) (by decide)) h_97 (by decide)) h_115 (by decide)) (show (gI o_z_t 12).toInt ≤ (gI z18 12).toInt ∧ (gI z18 12).toInt ≤ (gI o_z_t 1).toInt by first | omega | assumption | decide) (show (gT z18 4 t).toInt + o ≤ (gI z18 12).toInt by first | omega | assumption | decide) (show h + 1 ≤ (gI z18 16).toInt ∧ (gI z18 16).toInt ≤ 60 by first | omega | assumption | decide) (kp_tr (kp_tr (kp_I (kp_fr (kp_fr iP h_2 (by decide)) h_78 (by decide))) h_99) h_116k) h_116r (by omega)
        · skip
          have r_122 := n_rng (gT z23 0 (gI z23 12).toNatClampNeg)
          have c_91i : (gT z23 0 (gI z23 12).toNatClampNeg).toInt ≠ 43 := bI_neq rfl (show (43 : Int32).toInt = 43 by decide) c_91
          have r_124 := n_rng (gI z23 12)
          try have e_125 : ((gI z23 12) + 1).toInt = ((gI z23 12).toInt + 1) := (i32_add rfl (show (1 : Int32).toInt = 1 by decide) (by omega) (by omega))
          refine ok_bd2 (t_fX9_term (t := t) (b := b) (h := h + 1) (o := o + 1) (by first | omega | assumption | decide | (show 0 ≤ ((gI z23 12) + 1).toInt ∧ ((gI z23 12) + 1).toInt ≤ (gI z23 1).toInt ∧ (gI z23 1).toInt ≤ 400; first | omega | assumption)) (by first | omega | assumption | decide | (show (gI z23 15).toInt = t ∧ t < 6; first | omega | assumption)) (by first | omega | assumption | decide | (show 0 ≤ (gT z23 4 t).toInt ∧ (gT z23 4 t).toInt + (o + 1) ≤ ((gI z23 12) + 1).toInt; first | omega | assumption)) (by first | omega | assumption | decide | (show 0 ≤ (gI z23 16).toInt ∧ (gI z23 16).toInt ≤ 60 ∧ (h + 1) ≤ (gI z23 16).toInt; first | omega | assumption)) (rn_I (rn_fr h_78 (by decide) (rn_fr h_2 (by decide) iR)))) (fun r14 z15 q_123 => ?_)
          have h_126 : r14 = 0 ∨ r14 = 1 := q_123.1
          have h_126i := bool_i h_126
          have h_127 : FrL [3, 4, 12, 13, 14, 16] (sI z23 12 ((gI z23 12) + 1)) z15 := q_123.2.1
          have h_128 : ((gI z23 12) + 1).toInt ≤ (gI z15 12).toInt ∧ (gI z15 12).toInt ≤ (gI z23 1).toInt := q_123.2.2.1
          have h_129 : KP t (sI z23 12 ((gI z23 12) + 1)) z15 := q_123.2.2.2.1
          have h_129a : (gT z23 4 t).toInt ≤ (gT z15 4 t).toInt := h_129.1
          have h_130 : r14.toInt = 0 → (gI z15 13).toInt ≠ 0 := q_123.2.2.2.2.1
          have h_131 : r14.toInt = 1 → (gT z15 4 t).toInt + (o + 1) ≤ (gI z15 12).toInt ∧ (h + 1) + 1 ≤ (gI z15 16).toInt ∧ (gI z15 16).toInt ≤ 60 := q_123.2.2.2.2.2.1
          have h_132 : r14.toInt = 1 → RN z15 t b ((h + 1) + 1) := q_123.2.2.2.2.2.2
          clear q_123
          have s_133 : (gI z15 1).toInt = (gI z23 1).toInt := congrArg Int32.toInt (h_127 1 (by decide)).1
          have s_134 : (gI z15 15).toInt = (gI z23 15).toInt := congrArg Int32.toInt (h_127 15 (by decide)).1
          refine ok_ite (fun c_135 => ?_) (fun c_135 => ?_)
          · skip
            have r_136 := n_rng r14
            have c_135i : r14.toInt = 0 := bI_eq rfl (show (0 : Int32).toInt = 0 by decide) c_135
            have u_137 : (gI z15 13).toInt ≠ 0 := h_130 (by omega)
            try have e_138 : (0 : Int32).toInt = 0 := (show (0 : Int32).toInt = 0 by decide)
            exact ok_some ⟨Or.inl rfl, (fr_tr (fr_I (fr_tr (fr_tr frz_t h_2 (by decide)) h_78 (by decide)) (by decide)) h_127 (by decide)), (show (gI o_z_t 12).toInt ≤ (gI z15 12).toInt ∧ (gI z15 12).toInt ≤ (gI o_z_t 1).toInt by first | omega | assumption | trivial), (kp_tr (kp_I (kp_fr (kp_fr iP h_2 (by decide)) h_78 (by decide))) h_129), (show (0 : Int32).toInt = 0 → (gI z15 13).toInt ≠ 0 from fun _ => by first | omega | assumption), (show (0 : Int32).toInt = 1 → (gT z15 4 t).toInt + o ≤ (gI z15 12).toInt ∧ h + 1 ≤ (gI z15 16).toInt ∧ (gI z15 16).toInt ≤ 60 from fun q => absurd q (by decide)), (show (0 : Int32).toInt = 1 → RN z15 t b (h + 1) from fun q => absurd q (by decide))⟩
          · skip
            have r_139 := n_rng r14
            have c_135i : r14.toInt ≠ 0 := bI_neq rfl (show (0 : Int32).toInt = 0 by decide) c_135
            have u_140 : (gT z15 4 t).toInt + (o + 1) ≤ (gI z15 12).toInt ∧ (h + 1) + 1 ≤ (gI z15 16).toInt ∧ (gI z15 16).toInt ≤ 60 := h_131 (by omega)
            have u_141 : RN z15 t b ((h + 1) + 1) := h_132 (by omega)
            have e_143 : (3 : Int32).toInt = 3 := (show (3 : Int32).toInt = 3 by decide)
            have e_144 : (0 : Int32).toInt = 0 := (show (0 : Int32).toInt = 0 by decide)
            refine ok_bd (t_fX9_puts (t := t) (by first | omega | assumption | decide | (show (gI z15 15).toInt = t ∧ t < 6; first | omega | assumption)) (by first | omega | assumption | decide | (show 0 ≤ (gT z15 4 t).toInt ∧ (gT z15 4 t).toInt < 400; first | omega | assumption))) (fun z18 q_142 => ?_)
            have h_145 : FrL [3, 4] z15 z18 := q_142.1
            have h_146 : PUT t z15 z18 ((3 : Int32) + (16 * (0 : Int32))) := q_142.2
            clear q_142
            have s_147 : (gI z18 1).toInt = (gI z15 1).toInt := congrArg Int32.toInt (h_145 1 (by decide)).1
            have s_148 : (gI z18 12).toInt = (gI z15 12).toInt := congrArg Int32.toInt (h_145 12 (by decide)).1
            have s_149 : (gI z18 13).toInt = (gI z15 13).toInt := congrArg Int32.toInt (h_145 13 (by decide)).1
            have s_150 : (gI z18 15).toInt = (gI z15 15).toInt := congrArg Int32.toInt (h_145 15 (by decide)).1
            have s_151 : (gI z18 16).toInt = (gI z15 16).toInt := congrArg Int32.toInt (h_145 16 (by decide)).1
            have h_146a := h_146.1
            have h_146k := h_146.2.1
            have h_146r : RN z18 t b ((h + 1)) := rn_put (by omega) h_146 u_141 (stp_bin (by omega) (by decide) (by decide) (by decide))
            exact ih z18 (fr_tr (fr_tr (fr_I (fr_tr (fr_tr frz_t h_2 (by decide)) h_78 (by decide)) (by decide)) h_127 (by decide)) h_145 (by decide)) (show (gI o_z_t 12).toInt ≤ (gI z18 12).toInt ∧ (gI z18 12).toInt ≤ (gI o_z_t 1).toInt by first | omega | assumption | decide) (show (gT z18 4 t).toInt + o ≤ (gI z18 12).toInt by first | omega | assumption | decide) (show h + 1 ≤ (gI z18 16).toInt ∧ (gI z18 16).toInt ≤ 60 by first | omega | assumption | decide) (kp_tr (kp_tr (kp_I (kp_fr (kp_fr iP h_2 (by decide)) h_78 (by decide))) h_129) h_146k) h_146r (by omega)
      · skip
        have r_152 := n_rng r22
        have c_88i : r22.toInt ≠ 45 := bI_neq rfl (show (45 : Int32).toInt = 45 by decide) c_88
        try have e_153 : (1 : Int32).toInt = 1 := (show (1 : Int32).toInt = 1 by decide)
        exact ok_some ⟨Or.inr rfl, (fr_tr (fr_tr frz_t h_2 (by decide)) h_78 (by decide)), (show (gI o_z_t 12).toInt ≤ (gI z23 12).toInt ∧ (gI z23 12).toInt ≤ (gI o_z_t 1).toInt by first | omega | assumption | trivial), (kp_fr (kp_fr iP h_2 (by decide)) h_78 (by decide)), (show (1 : Int32).toInt = 0 → (gI z23 13).toInt ≠ 0 from fun q => absurd q (by decide)), (show (1 : Int32).toInt = 1 → (gT z23 4 t).toInt + o ≤ (gI z23 12).toInt ∧ h + 1 ≤ (gI z23 16).toInt ∧ (gI z23 16).toInt ≤ 60 from fun _ => by first | omega | assumption), (fun _ => (rn_fr h_78 (by decide) (rn_fr h_2 (by decide) iR)))⟩
set_option maxHeartbeats 400000 in
set_option maxRecDepth 20000 in
theorem t_fX9_sum {z_t : Sx} {t : Nat} {b : Nat} {h : Nat} {o : Nat} (p1 : 0 ≤ (gI z_t 12).toInt ∧ (gI z_t 12).toInt ≤ (gI z_t 1).toInt ∧ (gI z_t 1).toInt ≤ 400) (pt : (gI z_t 15).toInt = t ∧ t < 6) (pL : 0 ≤ (gT z_t 4 t).toInt ∧ (gT z_t 4 t).toInt + o ≤ (gI z_t 12).toInt) (pm : 0 ≤ (gI z_t 16).toInt ∧ (gI z_t 16).toInt ≤ 60 ∧ h ≤ (gI z_t 16).toInt) (pR : RN z_t t b h) : okP (fX9_sum z_t) (fun y => (y.1 = 0 ∨ y.1 = 1) ∧ (FrL [3, 4, 12, 13, 14, 16] z_t y.2) ∧ ((gI z_t 12).toInt ≤ (gI y.2 12).toInt ∧ (gI y.2 12).toInt ≤ (gI z_t 1).toInt) ∧ (KP t z_t y.2) ∧ (y.1.toInt = 0 → (gI y.2 13).toInt ≠ 0) ∧ (y.1.toInt = 1 → (gT y.2 4 t).toInt + o ≤ (gI y.2 12).toInt ∧ h + 1 ≤ (gI y.2 16).toInt ∧ (gI y.2 16).toInt ≤ 60) ∧ (y.1.toInt = 1 → RN y.2 t b (h + 1))) := by
  unfold fX9_sum
  refine ok_bd2 (t_fX9_term (t := t) (b := b) (h := h) (o := o) (by first | omega | assumption | decide | (show 0 ≤ (gI z_t 12).toInt ∧ (gI z_t 12).toInt ≤ (gI z_t 1).toInt ∧ (gI z_t 1).toInt ≤ 400; first | omega | assumption)) (by first | omega | assumption | decide | (show (gI z_t 15).toInt = t ∧ t < 6; first | omega | assumption)) (by first | omega | assumption | decide | (show 0 ≤ (gT z_t 4 t).toInt ∧ (gT z_t 4 t).toInt + o ≤ (gI z_t 12).toInt; first | omega | assumption)) (by first | omega | assumption | decide | (show 0 ≤ (gI z_t 16).toInt ∧ (gI z_t 16).toInt ≤ 60 ∧ h ≤ (gI z_t 16).toInt; first | omega | assumption)) (by assumption)) (fun r2 z3 q_1 => ?_)
  have h_2 : r2 = 0 ∨ r2 = 1 := q_1.1
  have h_2i := bool_i h_2
  have h_3 : FrL [3, 4, 12, 13, 14, 16] z_t z3 := q_1.2.1
  have h_4 : (gI z_t 12).toInt ≤ (gI z3 12).toInt ∧ (gI z3 12).toInt ≤ (gI z_t 1).toInt := q_1.2.2.1
  have h_5 : KP t z_t z3 := q_1.2.2.2.1
  have h_5a : (gT z_t 4 t).toInt ≤ (gT z3 4 t).toInt := h_5.1
  have h_6 : r2.toInt = 0 → (gI z3 13).toInt ≠ 0 := q_1.2.2.2.2.1
  have h_7 : r2.toInt = 1 → (gT z3 4 t).toInt + o ≤ (gI z3 12).toInt ∧ h + 1 ≤ (gI z3 16).toInt ∧ (gI z3 16).toInt ≤ 60 := q_1.2.2.2.2.2.1
  have h_8 : r2.toInt = 1 → RN z3 t b (h + 1) := q_1.2.2.2.2.2.2
  clear q_1
  have s_9 : (gI z3 1).toInt = (gI z_t 1).toInt := congrArg Int32.toInt (h_3 1 (by decide)).1
  have s_10 : (gI z3 15).toInt = (gI z_t 15).toInt := congrArg Int32.toInt (h_3 15 (by decide)).1
  refine ok_ite (fun c_11 => ?_) (fun c_11 => ?_)
  · skip
    have r_12 := n_rng r2
    have c_11i : r2.toInt = 0 := bI_eq rfl (show (0 : Int32).toInt = 0 by decide) c_11
    have u_13 : (gI z3 13).toInt ≠ 0 := h_6 (by omega)
    try have e_14 : (0 : Int32).toInt = 0 := (show (0 : Int32).toInt = 0 by decide)
    exact ok_some ⟨Or.inl rfl, (fr_tr fr_rf h_3 (by decide)), (show (gI z_t 12).toInt ≤ (gI z3 12).toInt ∧ (gI z3 12).toInt ≤ (gI z_t 1).toInt by first | omega | assumption | trivial), (kp_tr kp_rf h_5), (show (0 : Int32).toInt = 0 → (gI z3 13).toInt ≠ 0 from fun _ => by first | omega | assumption), (show (0 : Int32).toInt = 1 → (gT z3 4 t).toInt + o ≤ (gI z3 12).toInt ∧ h + 1 ≤ (gI z3 16).toInt ∧ (gI z3 16).toInt ≤ 60 from fun q => absurd q (by decide)), (show (0 : Int32).toInt = 1 → RN z3 t b (h + 1) from fun q => absurd q (by decide))⟩
  · skip
    have r_15 := n_rng r2
    have c_11i : r2.toInt ≠ 0 := bI_neq rfl (show (0 : Int32).toInt = 0 by decide) c_11
    have u_16 : (gT z3 4 t).toInt + o ≤ (gI z3 12).toInt ∧ h + 1 ≤ (gI z3 16).toInt ∧ (gI z3 16).toInt ≤ 60 := h_7 (by omega)
    have u_17 : RN z3 t b (h + 1) := h_8 (by omega)
    refine tl_lX9_sum_9 (t := t) (b := b) (h := h) (o := o) (by first | omega | assumption | decide) (by first | omega | assumption | decide) (by first | omega | assumption | decide) FU z3 (fr_tr fr_rf h_3 (by decide)) (show (gI z_t 12).toInt ≤ (gI z3 12).toInt ∧ (gI z3 12).toInt ≤ (gI z_t 1).toInt by first | omega | assumption | decide) (show (gT z3 4 t).toInt + o ≤ (gI z3 12).toInt by first | omega | assumption | decide) (show h + 1 ≤ (gI z3 16).toInt ∧ (gI z3 16).toInt ≤ 60 by first | omega | assumption | decide) (kp_tr kp_rf h_5) u_17 (FU_lt (by omega))

set_option maxHeartbeats 4000000 in
set_option maxRecDepth 20000 in
theorem t_fX9_compare {z_t : Sx} {t : Nat} {b : Nat} {h : Nat} {o : Nat} (p1 : 0 ≤ (gI z_t 12).toInt ∧ (gI z_t 12).toInt ≤ (gI z_t 1).toInt ∧ (gI z_t 1).toInt ≤ 400) (pt : (gI z_t 15).toInt = t ∧ t < 6) (pL : 0 ≤ (gT z_t 4 t).toInt ∧ (gT z_t 4 t).toInt + o ≤ (gI z_t 12).toInt) (pm : 0 ≤ (gI z_t 16).toInt ∧ (gI z_t 16).toInt ≤ 60 ∧ h ≤ (gI z_t 16).toInt) (pR : RN z_t t b h) : okP (fX9_compare z_t) (fun y => (y.1 = 0 ∨ y.1 = 1) ∧ (FrL [3, 4, 12, 13, 14, 16] z_t y.2) ∧ ((gI z_t 12).toInt ≤ (gI y.2 12).toInt ∧ (gI y.2 12).toInt ≤ (gI z_t 1).toInt) ∧ (KP t z_t y.2) ∧ (y.1.toInt = 0 → (gI y.2 13).toInt ≠ 0) ∧ (y.1.toInt = 1 → (gT y.2 4 t).toInt + o ≤ (gI y.2 12).toInt ∧ h + 1 ≤ (gI y.2 16).toInt ∧ (gI y.2 16).toInt ≤ 60) ∧ (y.1.toInt = 1 → RN y.2 t b (h + 1))) := by
  unfold fX9_compare
  refine ok_bd2 (t_fX9_sum (t := t) (b := b) (h := h) (o := o) (by first | omega | assumption | decide | (show 0 ≤ (gI z_t 12).toInt ∧ (gI z_t 12).toInt ≤ (gI z_t 1).toInt ∧ (gI z_t 1).toInt ≤ 400; first | omega | assumption)) (by first | omega | assumption | decide | (show (gI z_t 15).toInt = t ∧ t < 6; first | omega | assumption)) (by first | omega | assumption | decide | (show 0 ≤ (gT z_t 4 t).toInt ∧ (gT z_t 4 t).toInt + o ≤ (gI z_t 12).toInt; first | omega | assumption)) (by first | omega | assumption | decide | (show 0 ≤ (gI z_t 16).toInt ∧ (gI z_t 16).toInt ≤ 60 ∧ h ≤ (gI z_t 16).toInt; first | omega | assumption)) (by assumption)) (fun r2 z3 q_1 => ?_)
  have h_2 : r2 = 0 ∨ r2 = 1 := q_1.1
  have h_2i := bool_i h_2
  have h_3 : FrL [3, 4, 12, 13, 14, 16] z_t z3 := q_1.2.1
  have h_4 : (gI z_t 12).toInt ≤ (gI z3 12).toInt ∧ (gI z3 12).toInt ≤ (gI z_t 1).toInt := q_1.2.2.1
  have h_5 : KP t z_t z3 := q_1.2.2.2.1
  have h_5a : (gT z_t 4 t).toInt ≤ (gT z3 4 t).toInt := h_5.1
  have h_6 : r2.toInt = 0 → (gI z3 13).toInt ≠ 0 := q_1.2.2.2.2.1
  have h_7 : r2.toInt = 1 → (gT z3 4 t).toInt + o ≤ (gI z3 12).toInt ∧ h + 1 ≤ (gI z3 16).toInt ∧ (gI z3 16).toInt ≤ 60 := q_1.2.2.2.2.2.1
  have h_8 : r2.toInt = 1 → RN z3 t b (h + 1) := q_1.2.2.2.2.2.2
  clear q_1
  have s_9 : (gI z3 1).toInt = (gI z_t 1).toInt := congrArg Int32.toInt (h_3 1 (by decide)).1
  have s_10 : (gI z3 15).toInt = (gI z_t 15).toInt := congrArg Int32.toInt (h_3 15 (by decide)).1
  refine ok_ite (fun c_11 => ?_) (fun c_11 => ?_)
  · skip
    have r_12 := n_rng r2
    have c_11i : r2.toInt = 0 := bI_eq rfl (show (0 : Int32).toInt = 0 by decide) c_11
    have u_13 : (gI z3 13).toInt ≠ 0 := h_6 (by omega)
    try have e_14 : (0 : Int32).toInt = 0 := (show (0 : Int32).toInt = 0 by decide)
    exact ok_some ⟨Or.inl rfl, (fr_tr fr_rf h_3 (by decide)), (show (gI z_t 12).toInt ≤ (gI z3 12).toInt ∧ (gI z3 12).toInt ≤ (gI z_t 1).toInt by first | omega | assumption | trivial), (kp_tr kp_rf h_5), (show (0 : Int32).toInt = 0 → (gI z3 13).toInt ≠ 0 from fun _ => by first | omega | assumption), (show (0 : Int32).toInt = 1 → (gT z3 4 t).toInt + o ≤ (gI z3 12).toInt ∧ h + 1 ≤ (gI z3 16).toInt ∧ (gI z3 16).toInt ≤ 60 from fun q => absurd q (by decide)), (show (0 : Int32).toInt = 1 → RN z3 t b (h + 1) from fun q => absurd q (by decide))⟩
  · skip
    have r_15 := n_rng r2
    have c_11i : r2.toInt ≠ 0 := bI_neq rfl (show (0 : Int32).toInt = 0 by decide) c_11
    have u_16 : (gT z3 4 t).toInt + o ≤ (gI z3 12).toInt ∧ h + 1 ≤ (gI z3 16).toInt ∧ (gI z3 16).toInt ≤ 60 := h_7 (by omega)
    have u_17 : RN z3 t b (h + 1) := h_8 (by omega)
    refine ok_bd2 (t_fX9_see (by first | omega | assumption | decide | (show 0 ≤ (gI z3 12).toInt ∧ (gI z3 12).toInt ≤ (gI z3 1).toInt ∧ (gI z3 1).toInt ≤ 400; first | omega | assumption))) (fun r6 z7 q_18 => ?_)
    have h_19 : FrL [12] z3 z7 := q_18.1
    have h_20 : (gI z3 12).toInt ≤ (gI z7 12).toInt ∧ (gI z7 12).toInt ≤ (gI z3 1).toInt := q_18.2.1
    have h_21 : r6.toInt = -1 ∨ (0 ≤ r6.toInt ∧ (gI z7 12).toInt < (gI z3 1).toInt) := q_18.2.2.1
    have h_22 : NB z3 → (gI z7 12).toInt = (gI z3 12).toInt := q_18.2.2.2.1
    have h_23 : 0 ≤ r6.toInt → NB z7 := q_18.2.2.2.2
    clear q_18
    have s_24 : (gI z7 1).toInt = (gI z3 1).toInt := congrArg Int32.toInt (h_19 1 (by decide)).1
    have s_25 : (gI z7 13).toInt = (gI z3 13).toInt := congrArg Int32.toInt (h_19 13 (by decide)).1
    have s_26 : (gI z7 15).toInt = (gI z3 15).toInt := congrArg Int32.toInt (h_19 15 (by decide)).1
    have s_27 : (gI z7 16).toInt = (gI z3 16).toInt := congrArg Int32.toInt (h_19 16 (by decide)).1
    have s_28 : (gT z7 4 t).toInt = (gT z3 4 t).toInt := congrArg (fun f : Nat → Int32 => (f t).toInt) (h_19 4 (by decide)).2.1
    refine ok_jn ?_
    refine ok_ite (fun c_29 => ?_) (fun c_29 => ?_)
    · skip
      have r_30 := n_rng r6
      have c_29i : r6.toInt = 60 := bI_eq rfl (show (60 : Int32).toInt = 60 by decide) c_29
      refine ok_jn ?_
      refine ok_jn ?_
      refine ok_ite (fun c_31 => ?_) (fun c_31 => ?_)
      · skip
        have c_31i : r6.toInt = 61 := bI_eq rfl (show (61 : Int32).toInt = 61 by decide) c_31
        refine ok_jn ?_
        refine ok_ite (fun c_32 => ?_) (fun c_32 => ?_)
        · skip
          refine ok_bd2 (t_fX9_makes (by first | omega | assumption | decide | (show 0 ≤ (gI z7 16).toInt ∧ (gI z7 16).toInt ≤ 60; first | omega | assumption)) (by first | omega | assumption | decide | (show 0 ≤ (gI z7 12).toInt ∧ (gI z7 12).toInt ≤ 400; first | omega | assumption))) (fun r14 z15 q_33 => ?_)
          have h_34 : r14 = 0 ∨ r14 = 1 := q_33.1
          have h_34i := bool_i h_34
          have h_35 : FrL [13, 16] (sI z7 12 ((gI z7 12) + 1)) z15 := q_33.2.1
          have h_36 : r14.toInt = 0 → (gI z15 13).toInt ≠ 0 := q_33.2.2.1
          have h_37 : r14.toInt = 1 → (gI z15 16).toInt = (gI z7 16).toInt + 1 ∧ (gI z15 16).toInt ≤ 60 := q_33.2.2.2
          clear q_33
          have s_38 : (gI z15 1).toInt = (gI z7 1).toInt := congrArg Int32.toInt (h_35 1 (by decide)).1
          have r_39 := n_rng (gI z7 12)
          try have e_40 : ((gI z7 12) + 1).toInt = ((gI z7 12).toInt + 1) := (i32_add rfl (show (1 : Int32).toInt = 1 by decide) (by omega) (by omega))
          have s_41 : (gI z15 12).toInt = ((gI z7 12) + 1).toInt := congrArg Int32.toInt (h_35 12 (by decide)).1
          have s_42 : (gI z15 15).toInt = (gI z7 15).toInt := congrArg Int32.toInt (h_35 15 (by decide)).1
          have s_43 : (gT z15 4 t).toInt = (gT z7 4 t).toInt := congrArg (fun f : Nat → Int32 => (f t).toInt) (h_35 4 (by decide)).2.1
          refine ok_ite (fun c_44 => ?_) (fun c_44 => ?_)
          · skip
            have r_45 := n_rng r14
            have c_44i : r14.toInt = 0 := bI_eq rfl (show (0 : Int32).toInt = 0 by decide) c_44
            have u_46 : (gI z15 13).toInt ≠ 0 := h_36 (by omega)
            try have e_47 : (0 : Int32).toInt = 0 := (show (0 : Int32).toInt = 0 by decide)
            exact ok_some ⟨Or.inl rfl, (fr_tr (fr_I (fr_tr (fr_tr fr_rf h_3 (by decide)) h_19 (by decide)) (by decide)) h_35 (by decide)), (show (gI z_t 12).toInt ≤ (gI z15 12).toInt ∧ (gI z15 12).toInt ≤ (gI z_t 1).toInt by first | omega | assumption | trivial), (kp_fr (kp_I (kp_fr (kp_tr kp_rf h_5) h_19 (by decide))) h_35 (by decide)), (show (0 : Int32).toInt = 0 → (gI z15 13).toInt ≠ 0 from fun _ => by first | omega | assumption), (show (0 : Int32).toInt = 1 → (gT z15 4 t).toInt + o ≤ (gI z15 12).toInt ∧ h + 1 ≤ (gI z15 16).toInt ∧ (gI z15 16).toInt ≤ 60 from fun q => absurd q (by decide)), (show (0 : Int32).toInt = 1 → RN z15 t b (h + 1) from fun q => absurd q (by decide))⟩
          · skip
            have r_48 := n_rng r14
            have c_44i : r14.toInt ≠ 0 := bI_neq rfl (show (0 : Int32).toInt = 0 by decide) c_44
            have u_49 : (gI z15 16).toInt = (gI z7 16).toInt + 1 ∧ (gI z15 16).toInt ≤ 60 := h_37 (by omega)
            refine ok_jn ?_
            refine ok_ite (fun c_50 => ?_) (fun c_50 => ?_)
            · skip
              have c_50i : r6.toInt = 60 := bI_eq rfl (show (60 : Int32).toInt = 60 by decide) c_50
              refine ok_ite (fun c_51 => ?_) (fun c_51 => ?_)
              · skip
                refine ok_bd2 (t_fX9_sum (t := t) (b := b) (h := h + 1) (o := o + 1) (by first | omega | assumption | decide | (show 0 ≤ (gI z15 12).toInt ∧ (gI z15 12).toInt ≤ (gI z15 1).toInt ∧ (gI z15 1).toInt ≤ 400; first | omega | assumption)) (by first | omega | assumption | decide | (show (gI z15 15).toInt = t ∧ t < 6; first | omega | assumption)) (by first | omega | assumption | decide | (show 0 ≤ (gT z15 4 t).toInt ∧ (gT z15 4 t).toInt + (o + 1) ≤ (gI z15 12).toInt; first | omega | assumption)) (by first | omega | assumption | decide | (show 0 ≤ (gI z15 16).toInt ∧ (gI z15 16).toInt ≤ 60 ∧ (h + 1) ≤ (gI z15 16).toInt; first | omega | assumption)) (rn_fr h_35 (by decide) (rn_I (rn_fr h_19 (by decide) u_17)))) (fun r20 z21 q_52 => ?_)
                have h_53 : r20 = 0 ∨ r20 = 1 := q_52.1
                have h_53i := bool_i h_53
                have h_54 : FrL [3, 4, 12, 13, 14, 16] z15 z21 := q_52.2.1
                have h_55 : (gI z15 12).toInt ≤ (gI z21 12).toInt ∧ (gI z21 12).toInt ≤ (gI z15 1).toInt := q_52.2.2.1
                have h_56 : KP t z15 z21 := q_52.2.2.2.1
                have h_56a : (gT z15 4 t).toInt ≤ (gT z21 4 t).toInt := h_56.1
                have h_57 : r20.toInt = 0 → (gI z21 13).toInt ≠ 0 := q_52.2.2.2.2.1
                have h_58 : r20.toInt = 1 → (gT z21 4 t).toInt + (o + 1) ≤ (gI z21 12).toInt ∧ (h + 1) + 1 ≤ (gI z21 16).toInt ∧ (gI z21 16).toInt ≤ 60 := q_52.2.2.2.2.2.1
                have h_59 : r20.toInt = 1 → RN z21 t b ((h + 1) + 1) := q_52.2.2.2.2.2.2
                clear q_52
                have s_60 : (gI z21 1).toInt = (gI z15 1).toInt := congrArg Int32.toInt (h_54 1 (by decide)).1
                have s_61 : (gI z21 15).toInt = (gI z15 15).toInt := congrArg Int32.toInt (h_54 15 (by decide)).1
                refine ok_ite (fun c_62 => ?_) (fun c_62 => ?_)
                · skip
                  have r_63 := n_rng r20
                  have c_62i : r20.toInt = 0 := bI_eq rfl (show (0 : Int32).toInt = 0 by decide) c_62
                  have u_64 : (gI z21 13).toInt ≠ 0 := h_57 (by omega)
                  try have e_65 : (0 : Int32).toInt = 0 := (show (0 : Int32).toInt = 0 by decide)
                  exact ok_some ⟨Or.inl rfl, (fr_tr (fr_tr (fr_I (fr_tr (fr_tr fr_rf h_3 (by decide)) h_19 (by decide)) (by decide)) h_35 (by decide)) h_54 (by decide)), (show (gI z_t 12).toInt ≤ (gI z21 12).toInt ∧ (gI z21 12).toInt ≤ (gI z_t 1).toInt by first | omega | assumption | trivial), (kp_tr (kp_fr (kp_I (kp_fr (kp_tr kp_rf h_5) h_19 (by decide))) h_35 (by decide)) h_56), (show (0 : Int32).toInt = 0 → (gI z21 13).toInt ≠ 0 from fun _ => by first | omega | assumption), (show (0 : Int32).toInt = 1 → (gT z21 4 t).toInt + o ≤ (gI z21 12).toInt ∧ h + 1 ≤ (gI z21 16).toInt ∧ (gI z21 16).toInt ≤ 60 from fun q => absurd q (by decide)), (show (0 : Int32).toInt = 1 → RN z21 t b (h + 1) from fun q => absurd q (by decide))⟩
                · skip
                  have r_66 := n_rng r20
                  have c_62i : r20.toInt ≠ 0 := bI_neq rfl (show (0 : Int32).toInt = 0 by decide) c_62
                  have u_67 : (gT z21 4 t).toInt + (o + 1) ≤ (gI z21 12).toInt ∧ (h + 1) + 1 ≤ (gI z21 16).toInt ∧ (gI z21 16).toInt ≤ 60 := h_58 (by omega)
                  have u_68 : RN z21 t b ((h + 1) + 1) := h_59 (by omega)
                  have e_70 : ((6 : Int32) + 0).toInt = (6 + 0) := (i32_add (show (6 : Int32).toInt = 6 by decide) (show (0 : Int32).toInt = 0 by decide) (by omega) (by omega))
                  have e_71 : (0 : Int32).toInt = 0 := (show (0 : Int32).toInt = 0 by decide)
                  refine ok_bd (t_fX9_puts (t := t) (by first | omega | assumption | decide | (show (gI z21 15).toInt = t ∧ t < 6; first | omega | assumption)) (by first | omega | assumption | decide | (show 0 ≤ (gT z21 4 t).toInt ∧ (gT z21 4 t).toInt < 400; first | omega | assumption))) (fun z24 q_69 => ?_)
                  have h_72 : FrL [3, 4] z21 z24 := q_69.1
                  have h_73 : PUT t z21 z24 (((6 : Int32) + 0) + (16 * (0 : Int32))) := q_69.2
                  clear q_69
                  have s_74 : (gI z24 1).toInt = (gI z21 1).toInt := congrArg Int32.toInt (h_72 1 (by decide)).1
                  have s_75 : (gI z24 12).toInt = (gI z21 12).toInt := congrArg Int32.toInt (h_72 12 (by decide)).1
                  have s_76 : (gI z24 13).toInt = (gI z21 13).toInt := congrArg Int32.toInt (h_72 13 (by decide)).1
                  have s_77 : (gI z24 15).toInt = (gI z21 15).toInt := congrArg Int32.toInt (h_72 15 (by decide)).1
                  have s_78 : (gI z24 16).toInt = (gI z21 16).toInt := congrArg Int32.toInt (h_72 16 (by decide)).1
                  have h_73a := h_73.1
                  have h_73k := h_73.2.1
                  have h_73r : RN z24 t b ((h + 1)) := rn_put (by omega) h_73 u_68 (stp_bin (by omega) (by decide) (by decide) (by decide))
                  try have e_79 : (1 : Int32).toInt = 1 := (show (1 : Int32).toInt = 1 by decide)
                  exact ok_some ⟨Or.inr rfl, (fr_tr (fr_tr (fr_tr (fr_I (fr_tr (fr_tr fr_rf h_3 (by decide)) h_19 (by decide)) (by decide)) h_35 (by decide)) h_54 (by decide)) h_72 (by decide)), (show (gI z_t 12).toInt ≤ (gI z24 12).toInt ∧ (gI z24 12).toInt ≤ (gI z_t 1).toInt by first | omega | assumption | trivial), (kp_tr (kp_tr (kp_fr (kp_I (kp_fr (kp_tr kp_rf h_5) h_19 (by decide))) h_35 (by decide)) h_56) h_73k), (show (1 : Int32).toInt = 0 → (gI z24 13).toInt ≠ 0 from fun q => absurd q (by decide)), (show (1 : Int32).toInt = 1 → (gT z24 4 t).toInt + o ≤ (gI z24 12).toInt ∧ h + 1 ≤ (gI z24 16).toInt ∧ (gI z24 16).toInt ≤ 60 from fun _ => by first | omega | assumption), (fun _ => h_73r)⟩
              · skip
                exact absurd (by decide) c_51
            · skip
              have c_50i : r6.toInt ≠ 60 := bI_neq rfl (show (60 : Int32).toInt = 60 by decide) c_50
              refine ok_ite (fun c_80 => ?_) (fun c_80 => ?_)
              · skip
                have c_80i : r6.toInt = 61 := bI_eq rfl (show (61 : Int32).toInt = 61 by decide) c_80
                refine ok_bd2 (t_fX9_sum (t := t) (b := b) (h := h + 1) (o := o + 1) (by first | omega | assumption | decide | (show 0 ≤ (gI z15 12).toInt ∧ (gI z15 12).toInt ≤ (gI z15 1).toInt ∧ (gI z15 1).toInt ≤ 400; first | omega | assumption)) (by first | omega | assumption | decide | (show (gI z15 15).toInt = t ∧ t < 6; first | omega | assumption)) (by first | omega | assumption | decide | (show 0 ≤ (gT z15 4 t).toInt ∧ (gT z15 4 t).toInt + (o + 1) ≤ (gI z15 12).toInt; first | omega | assumption)) (by first | omega | assumption | decide | (show 0 ≤ (gI z15 16).toInt ∧ (gI z15 16).toInt ≤ 60 ∧ (h + 1) ≤ (gI z15 16).toInt; first | omega | assumption)) (rn_fr h_35 (by decide) (rn_I (rn_fr h_19 (by decide) u_17)))) (fun r20 z21 q_81 => ?_)
                have h_82 : r20 = 0 ∨ r20 = 1 := q_81.1
                have h_82i := bool_i h_82
                have h_83 : FrL [3, 4, 12, 13, 14, 16] z15 z21 := q_81.2.1
                have h_84 : (gI z15 12).toInt ≤ (gI z21 12).toInt ∧ (gI z21 12).toInt ≤ (gI z15 1).toInt := q_81.2.2.1
                have h_85 : KP t z15 z21 := q_81.2.2.2.1
                have h_85a : (gT z15 4 t).toInt ≤ (gT z21 4 t).toInt := h_85.1
                have h_86 : r20.toInt = 0 → (gI z21 13).toInt ≠ 0 := q_81.2.2.2.2.1
                have h_87 : r20.toInt = 1 → (gT z21 4 t).toInt + (o + 1) ≤ (gI z21 12).toInt ∧ (h + 1) + 1 ≤ (gI z21 16).toInt ∧ (gI z21 16).toInt ≤ 60 := q_81.2.2.2.2.2.1
                have h_88 : r20.toInt = 1 → RN z21 t b ((h + 1) + 1) := q_81.2.2.2.2.2.2
                clear q_81
                have s_89 : (gI z21 1).toInt = (gI z15 1).toInt := congrArg Int32.toInt (h_83 1 (by decide)).1
                have s_90 : (gI z21 15).toInt = (gI z15 15).toInt := congrArg Int32.toInt (h_83 15 (by decide)).1
                refine ok_ite (fun c_91 => ?_) (fun c_91 => ?_)
                · skip
                  have r_92 := n_rng r20
                  have c_91i : r20.toInt = 0 := bI_eq rfl (show (0 : Int32).toInt = 0 by decide) c_91
                  have u_93 : (gI z21 13).toInt ≠ 0 := h_86 (by omega)
                  try have e_94 : (0 : Int32).toInt = 0 := (show (0 : Int32).toInt = 0 by decide)
                  exact ok_some ⟨Or.inl rfl, (fr_tr (fr_tr (fr_I (fr_tr (fr_tr fr_rf h_3 (by decide)) h_19 (by decide)) (by decide)) h_35 (by decide)) h_83 (by decide)), (show (gI z_t 12).toInt ≤ (gI z21 12).toInt ∧ (gI z21 12).toInt ≤ (gI z_t 1).toInt by first | omega | assumption | trivial), (kp_tr (kp_fr (kp_I (kp_fr (kp_tr kp_rf h_5) h_19 (by decide))) h_35 (by decide)) h_85), (show (0 : Int32).toInt = 0 → (gI z21 13).toInt ≠ 0 from fun _ => by first | omega | assumption), (show (0 : Int32).toInt = 1 → (gT z21 4 t).toInt + o ≤ (gI z21 12).toInt ∧ h + 1 ≤ (gI z21 16).toInt ∧ (gI z21 16).toInt ≤ 60 from fun q => absurd q (by decide)), (show (0 : Int32).toInt = 1 → RN z21 t b (h + 1) from fun q => absurd q (by decide))⟩
                · skip
                  have r_95 := n_rng r20
                  have c_91i : r20.toInt ≠ 0 := bI_neq rfl (show (0 : Int32).toInt = 0 by decide) c_91
                  have u_96 : (gT z21 4 t).toInt + (o + 1) ≤ (gI z21 12).toInt ∧ (h + 1) + 1 ≤ (gI z21 16).toInt ∧ (gI z21 16).toInt ≤ 60 := h_87 (by omega)
                  have u_97 : RN z21 t b ((h + 1) + 1) := h_88 (by omega)
                  have e_99 : ((6 : Int32) + 2).toInt = (6 + 2) := (i32_add (show (6 : Int32).toInt = 6 by decide) (show (2 : Int32).toInt = 2 by decide) (by omega) (by omega))
                  have e_100 : (0 : Int32).toInt = 0 := (show (0 : Int32).toInt = 0 by decide)
                  refine ok_bd (t_fX9_puts (t := t) (by first | omega | assumption | decide | (show (gI z21 15).toInt = t ∧ t < 6; first | omega | assumption)) (by first | omega | assumption | decide | (show 0 ≤ (gT z21 4 t).toInt ∧ (gT z21 4 t).toInt < 400; first | omega | assumption))) (fun z24 q_98 => ?_)
                  have h_101 : FrL [3, 4] z21 z24 := q_98.1
                  have h_102 : PUT t z21 z24 (((6 : Int32) + 2) + (16 * (0 : Int32))) := q_98.2
                  clear q_98
                  have s_103 : (gI z24 1).toInt = (gI z21 1).toInt := congrArg Int32.toInt (h_101 1 (by decide)).1
                  have s_104 : (gI z24 12).toInt = (gI z21 12).toInt := congrArg Int32.toInt (h_101 12 (by decide)).1
                  have s_105 : (gI z24 13).toInt = (gI z21 13).toInt := congrArg Int32.toInt (h_101 13 (by decide)).1
                  have s_106 : (gI z24 15).toInt = (gI z21 15).toInt := congrArg Int32.toInt (h_101 15 (by decide)).1
                  have s_107 : (gI z24 16).toInt = (gI z21 16).toInt := congrArg Int32.toInt (h_101 16 (by decide)).1
                  have h_102a := h_102.1
                  have h_102k := h_102.2.1
                  have h_102r : RN z24 t b ((h + 1)) := rn_put (by omega) h_102 u_97 (stp_bin (by omega) (by decide) (by decide) (by decide))
                  try have e_108 : (1 : Int32).toInt = 1 := (show (1 : Int32).toInt = 1 by decide)
                  exact ok_some ⟨Or.inr rfl, (fr_tr (fr_tr (fr_tr (fr_I (fr_tr (fr_tr fr_rf h_3 (by decide)) h_19 (by decide)) (by decide)) h_35 (by decide)) h_83 (by decide)) h_101 (by decide)), (show (gI z_t 12).toInt ≤ (gI z24 12).toInt ∧ (gI z24 12).toInt ≤ (gI z_t 1).toInt by first | omega | assumption | trivial), (kp_tr (kp_tr (kp_fr (kp_I (kp_fr (kp_tr kp_rf h_5) h_19 (by decide))) h_35 (by decide)) h_85) h_102k), (show (1 : Int32).toInt = 0 → (gI z24 13).toInt ≠ 0 from fun q => absurd q (by decide)), (show (1 : Int32).toInt = 1 → (gT z24 4 t).toInt + o ≤ (gI z24 12).toInt ∧ h + 1 ≤ (gI z24 16).toInt ∧ (gI z24 16).toInt ≤ 60 from fun _ => by first | omega | assumption), (fun _ => h_102r)⟩
              · skip
                have c_80i : r6.toInt ≠ 61 := bI_neq rfl (show (61 : Int32).toInt = 61 by decide) c_80
                refine ok_ite (fun c_109 => ?_) (fun c_109 => ?_)
                · skip
                  refine ok_bd2 (t_fX9_sum (t := t) (b := b) (h := h + 1) (o := o + 1) (by first | omega | assumption | decide | (show 0 ≤ (gI z15 12).toInt ∧ (gI z15 12).toInt ≤ (gI z15 1).toInt ∧ (gI z15 1).toInt ≤ 400; first | omega | assumption)) (by first | omega | assumption | decide | (show (gI z15 15).toInt = t ∧ t < 6; first | omega | assumption)) (by first | omega | assumption | decide | (show 0 ≤ (gT z15 4 t).toInt ∧ (gT z15 4 t).toInt + (o + 1) ≤ (gI z15 12).toInt; first | omega | assumption)) (by first | omega | assumption | decide | (show 0 ≤ (gI z15 16).toInt ∧ (gI z15 16).toInt ≤ 60 ∧ (h + 1) ≤ (gI z15 16).toInt; first | omega | assumption)) (rn_fr h_35 (by decide) (rn_I (rn_fr h_19 (by decide) u_17)))) (fun r20 z21 q_110 => ?_)
                  have h_111 : r20 = 0 ∨ r20 = 1 := q_110.1
                  have h_111i := bool_i h_111
                  have h_112 : FrL [3, 4, 12, 13, 14, 16] z15 z21 := q_110.2.1
                  have h_113 : (gI z15 12).toInt ≤ (gI z21 12).toInt ∧ (gI z21 12).toInt ≤ (gI z15 1).toInt := q_110.2.2.1
                  have h_114 : KP t z15 z21 := q_110.2.2.2.1
                  have h_114a : (gT z15 4 t).toInt ≤ (gT z21 4 t).toInt := h_114.1
                  have h_115 : r20.toInt = 0 → (gI z21 13).toInt ≠ 0 := q_110.2.2.2.2.1
                  have h_116 : r20.toInt = 1 → (gT z21 4 t).toInt + (o + 1) ≤ (gI z21 12).toInt ∧ (h + 1) + 1 ≤ (gI z21 16).toInt ∧ (gI z21 16).toInt ≤ 60 := q_110.2.2.2.2.2.1
                  have h_117 : r20.toInt = 1 → RN z21 t b ((h + 1) + 1) := q_110.2.2.2.2.2.2
                  clear q_110
                  have s_118 : (gI z21 1).toInt = (gI z15 1).toInt := congrArg Int32.toInt (h_112 1 (by decide)).1
                  have s_119 : (gI z21 15).toInt = (gI z15 15).toInt := congrArg Int32.toInt (h_112 15 (by decide)).1
                  refine ok_ite (fun c_120 => ?_) (fun c_120 => ?_)
                  · skip
                    have r_121 := n_rng r20
                    have c_120i : r20.toInt = 0 := bI_eq rfl (show (0 : Int32).toInt = 0 by decide) c_120
                    have u_122 : (gI z21 13).toInt ≠ 0 := h_115 (by omega)
                    try have e_123 : (0 : Int32).toInt = 0 := (show (0 : Int32).toInt = 0 by decide)
                    exact ok_some ⟨Or.inl rfl, (fr_tr (fr_tr (fr_I (fr_tr (fr_tr fr_rf h_3 (by decide)) h_19 (by decide)) (by decide)) h_35 (by decide)) h_112 (by decide)), (show (gI z_t 12).toInt ≤ (gI z21 12).toInt ∧ (gI z21 12).toInt ≤ (gI z_t 1).toInt by first | omega | assumption | trivial), (kp_tr (kp_fr (kp_I (kp_fr (kp_tr kp_rf h_5) h_19 (by decide))) h_35 (by decide)) h_114), (show (0 : Int32).toInt = 0 → (gI z21 13).toInt ≠ 0 from fun _ => by first | omega | assumption), (show (0 : Int32).toInt = 1 → (gT z21 4 t).toInt + o ≤ (gI z21 12).toInt ∧ h + 1 ≤ (gI z21 16).toInt ∧ (gI z21 16).toInt ≤ 60 from fun q => absurd q (by decide)), (show (0 : Int32).toInt = 1 → RN z21 t b (h + 1) from fun q => absurd q (by decide))⟩
                  · skip
                    have r_124 := n_rng r20
                    have c_120i : r20.toInt ≠ 0 := bI_neq rfl (show (0 : Int32).toInt = 0 by decide) c_120
                    have u_125 : (gT z21 4 t).toInt + (o + 1) ≤ (gI z21 12).toInt ∧ (h + 1) + 1 ≤ (gI z21 16).toInt ∧ (gI z21 16).toInt ≤ 60 := h_116 (by omega)
                    have u_126 : RN z21 t b ((h + 1) + 1) := h_117 (by omega)
                    have e_128 : ((6 : Int32) + 4).toInt = (6 + 4) := (i32_add (show (6 : Int32).toInt = 6 by decide) (show (4 : Int32).toInt = 4 by decide) (by omega) (by omega))
                    have e_129 : (0 : Int32).toInt = 0 := (show (0 : Int32).toInt = 0 by decide)
                    refine ok_bd (t_fX9_puts (t := t) (by first | omega | assumption | decide | (show (gI z21 15).toInt = t ∧ t < 6; first | omega | assumption)) (by first | omega | assumption | decide | (show 0 ≤ (gT z21 4 t).toInt ∧ (gT z21 4 t).toInt < 400; first | omega | assumption))) (fun z24 q_127 => ?_)
                    have h_130 : FrL [3, 4] z21 z24 := q_127.1
                    have h_131 : PUT t z21 z24 (((6 : Int32) + 4) + (16 * (0 : Int32))) := q_127.2
                    clear q_127
                    have s_132 : (gI z24 1).toInt = (gI z21 1).toInt := congrArg Int32.toInt (h_130 1 (by decide)).1
                    have s_133 : (gI z24 12).toInt = (gI z21 12).toInt := congrArg Int32.toInt (h_130 12 (by decide)).1
                    have s_134 : (gI z24 13).toInt = (gI z21 13).toInt := congrArg Int32.toInt (h_130 13 (by decide)).1
                    have s_135 : (gI z24 15).toInt = (gI z21 15).toInt := congrArg Int32.toInt (h_130 15 (by decide)).1
                    have s_136 : (gI z24 16).toInt = (gI z21 16).toInt := congrArg Int32.toInt (h_130 16 (by decide)).1
                    have h_131a := h_131.1
                    have h_131k := h_131.2.1
                    have h_131r : RN z24 t b ((h + 1)) := rn_put (by omega) h_131 u_126 (stp_bin (by omega) (by decide) (by decide) (by decide))
                    try have e_137 : (1 : Int32).toInt = 1 := (show (1 : Int32).toInt = 1 by decide)
                    exact ok_some ⟨Or.inr rfl, (fr_tr (fr_tr (fr_tr (fr_I (fr_tr (fr_tr fr_rf h_3 (by decide)) h_19 (by decide)) (by decide)) h_35 (by decide)) h_112 (by decide)) h_130 (by decide)), (show (gI z_t 12).toInt ≤ (gI z24 12).toInt ∧ (gI z24 12).toInt ≤ (gI z_t 1).toInt by first | omega | assumption | trivial), (kp_tr (kp_tr (kp_fr (kp_I (kp_fr (kp_tr kp_rf h_5) h_19 (by decide))) h_35 (by decide)) h_114) h_131k), (show (1 : Int32).toInt = 0 → (gI z24 13).toInt ≠ 0 from fun q => absurd q (by decide)), (show (1 : Int32).toInt = 1 → (gT z24 4 t).toInt + o ≤ (gI z24 12).toInt ∧ h + 1 ≤ (gI z24 16).toInt ∧ (gI z24 16).toInt ≤ 60 from fun _ => by first | omega | assumption), (fun _ => h_131r)⟩
                · skip
                  exact absurd (by decide) c_109
        · skip
          exact absurd (by decide) c_32
      · skip
        have c_31i : r6.toInt ≠ 61 := bI_neq rfl (show (61 : Int32).toInt = 61 by decide) c_31
        refine ok_ite (fun c_138 => ?_) (fun c_138 => ?_)
        · skip
          have r_139 := n_rng (gI z7 1)
          have r_140 := n_rng (gI z7 12)
          try have c_138i : (gI z7 1).toInt ≤ ((gI z7 12).toInt + 1) := bI_le rfl (i32_add rfl (show (1 : Int32).toInt = 1 by decide) (by omega) (by omega)) c_138
          refine ok_jn ?_
          refine ok_ite (fun c_141 => ?_) (fun c_141 => ?_)
          · skip
            refine ok_bd2 (t_fX9_makes (by first | omega | assumption | decide | (show 0 ≤ (gI z7 16).toInt ∧ (gI z7 16).toInt ≤ 60; first | omega | assumption)) (by first | omega | assumption | decide | (show 0 ≤ (gI z7 12).toInt ∧ (gI z7 12).toInt ≤ 400; first | omega | assumption))) (fun r14 z15 q_142 => ?_)
            have h_143 : r14 = 0 ∨ r14 = 1 := q_142.1
            have h_143i := bool_i h_143
            have h_144 : FrL [13, 16] (sI z7 12 ((gI z7 12) + 1)) z15 := q_142.2.1
            have h_145 : r14.toInt = 0 → (gI z15 13).toInt ≠ 0 := q_142.2.2.1
            have h_146 : r14.toInt = 1 → (gI z15 16).toInt = (gI z7 16).toInt + 1 ∧ (gI z15 16).toInt ≤ 60 := q_142.2.2.2
            clear q_142
            have s_147 : (gI z15 1).toInt = (gI z7 1).toInt := congrArg Int32.toInt (h_144 1 (by decide)).1
            try have e_148 : ((gI z7 12) + 1).toInt = ((gI z7 12).toInt + 1) := (i32_add rfl (show (1 : Int32).toInt = 1 by decide) (by omega) (by omega))
            have s_149 : (gI z15 12).toInt = ((gI z7 12) + 1).toInt := congrArg Int32.toInt (h_144 12 (by decide)).1
            have s_150 : (gI z15 15).toInt = (gI z7 15).toInt := congrArg Int32.toInt (h_144 15 (by decide)).1
            have s_151 : (gT z15 4 t).toInt = (gT z7 4 t).toInt := congrArg (fun f : Nat → Int32 => (f t).toInt) (h_144 4 (by decide)).2.1
            refine ok_ite (fun c_152 => ?_) (fun c_152 => ?_)
            · skip
              have r_153 := n_rng r14
              have c_152i : r14.toInt = 0 := bI_eq rfl (show (0 : Int32).toInt = 0 by decide) c_152
              have u_154 : (gI z15 13).toInt ≠ 0 := h_145 (by omega)
              try have e_155 : (0 : Int32).toInt = 0 := (show (0 : Int32).toInt = 0 by decide)
              exact ok_some ⟨Or.inl rfl, (fr_tr (fr_I (fr_tr (fr_tr fr_rf h_3 (by decide)) h_19 (by decide)) (by decide)) h_144 (by decide)), (show (gI z_t 12).toInt ≤ (gI z15 12).toInt ∧ (gI z15 12).toInt ≤ (gI z_t 1).toInt by first | omega | assumption | trivial), (kp_fr (kp_I (kp_fr (kp_tr kp_rf h_5) h_19 (by decide))) h_144 (by decide)), (show (0 : Int32).toInt = 0 → (gI z15 13).toInt ≠ 0 from fun _ => by first | omega | assumption), (show (0 : Int32).toInt = 1 → (gT z15 4 t).toInt + o ≤ (gI z15 12).toInt ∧ h + 1 ≤ (gI z15 16).toInt ∧ (gI z15 16).toInt ≤ 60 from fun q => absurd q (by decide)), (show (0 : Int32).toInt = 1 → RN z15 t b (h + 1) from fun q => absurd q (by decide))⟩
            · skip
              have r_156 := n_rng r14
              have c_152i : r14.toInt ≠ 0 := bI_neq rfl (show (0 : Int32).toInt = 0 by decide) c_152
              have u_157 : (gI z15 16).toInt = (gI z7 16).toInt + 1 ∧ (gI z15 16).toInt ≤ 60 := h_146 (by omega)
              refine ok_jn ?_
              refine ok_ite (fun c_158 => ?_) (fun c_158 => ?_)
              · skip
                have c_158i : r6.toInt = 60 := bI_eq rfl (show (60 : Int32).toInt = 60 by decide) c_158
                refine ok_ite (fun c_159 => ?_) (fun c_159 => ?_)
                · skip
                  refine ok_bd2 (t_fX9_sum (t := t) (b := b) (h := h + 1) (o := o + 1) (by first | omega | assumption | decide | (show 0 ≤ (gI z15 12).toInt ∧ (gI z15 12).toInt ≤ (gI z15 1).toInt ∧ (gI z15 1).toInt ≤ 400; first | omega | assumption)) (by first | omega | assumption | decide | (show (gI z15 15).toInt = t ∧ t < 6; first | omega | assumption)) (by first | omega | assumption | decide | (show 0 ≤ (gT z15 4 t).toInt ∧ (gT z15 4 t).toInt + (o + 1) ≤ (gI z15 12).toInt; first | omega | assumption)) (by first | omega | assumption | decide | (show 0 ≤ (gI z15 16).toInt ∧ (gI z15 16).toInt ≤ 60 ∧ (h + 1) ≤ (gI z15 16).toInt; first | omega | assumption)) (rn_fr h_144 (by decide) (rn_I (rn_fr h_19 (by decide) u_17)))) (fun r20 z21 q_160 => ?_)
                  have h_161 : r20 = 0 ∨ r20 = 1 := q_160.1
                  have h_161i := bool_i h_161
                  have h_162 : FrL [3, 4, 12, 13, 14, 16] z15 z21 := q_160.2.1
                  have h_163 : (gI z15 12).toInt ≤ (gI z21 12).toInt ∧ (gI z21 12).toInt ≤ (gI z15 1).toInt := q_160.2.2.1
                  have h_164 : KP t z15 z21 := q_160.2.2.2.1
                  have h_164a : (gT z15 4 t).toInt ≤ (gT z21 4 t).toInt := h_164.1
                  have h_165 : r20.toInt = 0 → (gI z21 13).toInt ≠ 0 := q_160.2.2.2.2.1
                  have h_166 : r20.toInt = 1 → (gT z21 4 t).toInt + (o + 1) ≤ (gI z21 12).toInt ∧ (h + 1) + 1 ≤ (gI z21 16).toInt ∧ (gI z21 16).toInt ≤ 60 := q_160.2.2.2.2.2.1
                  have h_167 : r20.toInt = 1 → RN z21 t b ((h + 1) + 1) := q_160.2.2.2.2.2.2
                  clear q_160
                  have s_168 : (gI z21 1).toInt = (gI z15 1).toInt := congrArg Int32.toInt (h_162 1 (by decide)).1
                  have s_169 : (gI z21 15).toInt = (gI z15 15).toInt := congrArg Int32.toInt (h_162 15 (by decide)).1
                  refine ok_ite (fun c_170 => ?_) (fun c_170 => ?_)
                  · skip
                    have r_171 := n_rng r20
                    have c_170i : r20.toInt = 0 := bI_eq rfl (show (0 : Int32).toInt = 0 by decide) c_170
                    have u_172 : (gI z21 13).toInt ≠ 0 := h_165 (by omega)
                    try have e_173 : (0 : Int32).toInt = 0 := (show (0 : Int32).toInt = 0 by decide)
                    exact ok_some ⟨Or.inl rfl, (fr_tr (fr_tr (fr_I (fr_tr (fr_tr fr_rf h_3 (by decide)) h_19 (by decide)) (by decide)) h_144 (by decide)) h_162 (by decide)), (show (gI z_t 12).toInt ≤ (gI z21 12).toInt ∧ (gI z21 12).toInt ≤ (gI z_t 1).toInt by first | omega | assumption | trivial), (kp_tr (kp_fr (kp_I (kp_fr (kp_tr kp_rf h_5) h_19 (by decide))) h_144 (by decide)) h_164), (show (0 : Int32).toInt = 0 → (gI z21 13).toInt ≠ 0 from fun _ => by first | omega | assumption), (show (0 : Int32).toInt = 1 → (gT z21 4 t).toInt + o ≤ (gI z21 12).toInt ∧ h + 1 ≤ (gI z21 16).toInt ∧ (gI z21 16).toInt ≤ 60 from fun q => absurd q (by decide)), (show (0 : Int32).toInt = 1 → RN z21 t b (h + 1) from fun q => absurd q (by decide))⟩
                  · skip
                    have r_174 := n_rng r20
                    have c_170i : r20.toInt ≠ 0 := bI_neq rfl (show (0 : Int32).toInt = 0 by decide) c_170
                    have u_175 : (gT z21 4 t).toInt + (o + 1) ≤ (gI z21 12).toInt ∧ (h + 1) + 1 ≤ (gI z21 16).toInt ∧ (gI z21 16).toInt ≤ 60 := h_166 (by omega)
                    have u_176 : RN z21 t b ((h + 1) + 1) := h_167 (by omega)
                    have e_178 : ((6 : Int32) + 0).toInt = (6 + 0) := (i32_add (show (6 : Int32).toInt = 6 by decide) (show (0 : Int32).toInt = 0 by decide) (by omega) (by omega))
                    have e_179 : (0 : Int32).toInt = 0 := (show (0 : Int32).toInt = 0 by decide)
                    refine ok_bd (t_fX9_puts (t := t) (by first | omega | assumption | decide | (show (gI z21 15).toInt = t ∧ t < 6; first | omega | assumption)) (by first | omega | assumption | decide | (show 0 ≤ (gT z21 4 t).toInt ∧ (gT z21 4 t).toInt < 400; first | omega | assumption))) (fun z24 q_177 => ?_)
                    have h_180 : FrL [3, 4] z21 z24 := q_177.1
                    have h_181 : PUT t z21 z24 (((6 : Int32) + 0) + (16 * (0 : Int32))) := q_177.2
                    clear q_177
                    have s_182 : (gI z24 1).toInt = (gI z21 1).toInt := congrArg Int32.toInt (h_180 1 (by decide)).1
                    have s_183 : (gI z24 12).toInt = (gI z21 12).toInt := congrArg Int32.toInt (h_180 12 (by decide)).1
                    have s_184 : (gI z24 13).toInt = (gI z21 13).toInt := congrArg Int32.toInt (h_180 13 (by decide)).1
                    have s_185 : (gI z24 15).toInt = (gI z21 15).toInt := congrArg Int32.toInt (h_180 15 (by decide)).1
                    have s_186 : (gI z24 16).toInt = (gI z21 16).toInt := congrArg Int32.toInt (h_180 16 (by decide)).1
                    have h_181a := h_181.1
                    have h_181k := h_181.2.1
                    have h_181r : RN z24 t b ((h + 1)) := rn_put (by omega) h_181 u_176 (stp_bin (by omega) (by decide) (by decide) (by decide))
                    try have e_187 : (1 : Int32).toInt = 1 := (show (1 : Int32).toInt = 1 by decide)
                    exact ok_some ⟨Or.inr rfl, (fr_tr (fr_tr (fr_tr (fr_I (fr_tr (fr_tr fr_rf h_3 (by decide)) h_19 (by decide)) (by decide)) h_144 (by decide)) h_162 (by decide)) h_180 (by decide)), (show (gI z_t 12).toInt ≤ (gI z24 12).toInt ∧ (gI z24 12).toInt ≤ (gI z_t 1).toInt by first | omega | assumption | trivial), (kp_tr (kp_tr (kp_fr (kp_I (kp_fr (kp_tr kp_rf h_5) h_19 (by decide))) h_144 (by decide)) h_164) h_181k), (show (1 : Int32).toInt = 0 → (gI z24 13).toInt ≠ 0 from fun q => absurd q (by decide)), (show (1 : Int32).toInt = 1 → (gT z24 4 t).toInt + o ≤ (gI z24 12).toInt ∧ h + 1 ≤ (gI z24 16).toInt ∧ (gI z24 16).toInt ≤ 60 from fun _ => by first | omega | assumption), (fun _ => h_181r)⟩
                · skip
                  exact absurd (by decide) c_159
              · skip
                have c_158i : r6.toInt ≠ 60 := bI_neq rfl (show (60 : Int32).toInt = 60 by decide) c_158
                refine ok_ite (fun c_188 => ?_) (fun c_188 => ?_)
                · skip
                  have c_188i : r6.toInt = 61 := bI_eq rfl (show (61 : Int32).toInt = 61 by decide) c_188
                  refine ok_bd2 (t_fX9_sum (t := t) (b := b) (h := h + 1) (o := o + 1) (by first | omega | assumption | decide | (show 0 ≤ (gI z15 12).toInt ∧ (gI z15 12).toInt ≤ (gI z15 1).toInt ∧ (gI z15 1).toInt ≤ 400; first | omega | assumption)) (by first | omega | assumption | decide | (show (gI z15 15).toInt = t ∧ t < 6; first | omega | assumption)) (by first | omega | assumption | decide | (show 0 ≤ (gT z15 4 t).toInt ∧ (gT z15 4 t).toInt + (o + 1) ≤ (gI z15 12).toInt; first | omega | assumption)) (by first | omega | assumption | decide | (show 0 ≤ (gI z15 16).toInt ∧ (gI z15 16).toInt ≤ 60 ∧ (h + 1) ≤ (gI z15 16).toInt; first | omega | assumption)) (rn_fr h_144 (by decide) (rn_I (rn_fr h_19 (by decide) u_17)))) (fun r20 z21 q_189 => ?_)
                  have h_190 : r20 = 0 ∨ r20 = 1 := q_189.1
                  have h_190i := bool_i h_190
                  have h_191 : FrL [3, 4, 12, 13, 14, 16] z15 z21 := q_189.2.1
                  have h_192 : (gI z15 12).toInt ≤ (gI z21 12).toInt ∧ (gI z21 12).toInt ≤ (gI z15 1).toInt := q_189.2.2.1
                  have h_193 : KP t z15 z21 := q_189.2.2.2.1
                  have h_193a : (gT z15 4 t).toInt ≤ (gT z21 4 t).toInt := h_193.1
                  have h_194 : r20.toInt = 0 → (gI z21 13).toInt ≠ 0 := q_189.2.2.2.2.1
                  have h_195 : r20.toInt = 1 → (gT z21 4 t).toInt + (o + 1) ≤ (gI z21 12).toInt ∧ (h + 1) + 1 ≤ (gI z21 16).toInt ∧ (gI z21 16).toInt ≤ 60 := q_189.2.2.2.2.2.1
                  have h_196 : r20.toInt = 1 → RN z21 t b ((h + 1) + 1) := q_189.2.2.2.2.2.2
                  clear q_189
                  have s_197 : (gI z21 1).toInt = (gI z15 1).toInt := congrArg Int32.toInt (h_191 1 (by decide)).1
                  have s_198 : (gI z21 15).toInt = (gI z15 15).toInt := congrArg Int32.toInt (h_191 15 (by decide)).1
                  refine ok_ite (fun c_199 => ?_) (fun c_199 => ?_)
                  · skip
                    have r_200 := n_rng r20
                    have c_199i : r20.toInt = 0 := bI_eq rfl (show (0 : Int32).toInt = 0 by decide) c_199
                    have u_201 : (gI z21 13).toInt ≠ 0 := h_194 (by omega)
                    try have e_202 : (0 : Int32).toInt = 0 := (show (0 : Int32).toInt = 0 by decide)
                    exact ok_some ⟨Or.inl rfl, (fr_tr (fr_tr (fr_I (fr_tr (fr_tr fr_rf h_3 (by decide)) h_19 (by decide)) (by decide)) h_144 (by decide)) h_191 (by decide)), (show (gI z_t 12).toInt ≤ (gI z21 12).toInt ∧ (gI z21 12).toInt ≤ (gI z_t 1).toInt by first | omega | assumption | trivial), (kp_tr (kp_fr (kp_I (kp_fr (kp_tr kp_rf h_5) h_19 (by decide))) h_144 (by decide)) h_193), (show (0 : Int32).toInt = 0 → (gI z21 13).toInt ≠ 0 from fun _ => by first | omega | assumption), (show (0 : Int32).toInt = 1 → (gT z21 4 t).toInt + o ≤ (gI z21 12).toInt ∧ h + 1 ≤ (gI z21 16).toInt ∧ (gI z21 16).toInt ≤ 60 from fun q => absurd q (by decide)), (show (0 : Int32).toInt = 1 → RN z21 t b (h + 1) from fun q => absurd q (by decide))⟩
                  · skip
                    have r_203 := n_rng r20
                    have c_199i : r20.toInt ≠ 0 := bI_neq rfl (show (0 : Int32).toInt = 0 by decide) c_199
                    have u_204 : (gT z21 4 t).toInt + (o + 1) ≤ (gI z21 12).toInt ∧ (h + 1) + 1 ≤ (gI z21 16).toInt ∧ (gI z21 16).toInt ≤ 60 := h_195 (by omega)
                    have u_205 : RN z21 t b ((h + 1) + 1) := h_196 (by omega)
                    have e_207 : ((6 : Int32) + 2).toInt = (6 + 2) := (i32_add (show (6 : Int32).toInt = 6 by decide) (show (2 : Int32).toInt = 2 by decide) (by omega) (by omega))
                    have e_208 : (0 : Int32).toInt = 0 := (show (0 : Int32).toInt = 0 by decide)
                    refine ok_bd (t_fX9_puts (t := t) (by first | omega | assumption | decide | (show (gI z21 15).toInt = t ∧ t < 6; first | omega | assumption)) (by first | omega | assumption | decide | (show 0 ≤ (gT z21 4 t).toInt ∧ (gT z21 4 t).toInt < 400; first | omega | assumption))) (fun z24 q_206 => ?_)
                    have h_209 : FrL [3, 4] z21 z24 := q_206.1
                    have h_210 : PUT t z21 z24 (((6 : Int32) + 2) + (16 * (0 : Int32))) := q_206.2
                    clear q_206
                    have s_211 : (gI z24 1).toInt = (gI z21 1).toInt := congrArg Int32.toInt (h_209 1 (by decide)).1
                    have s_212 : (gI z24 12).toInt = (gI z21 12).toInt := congrArg Int32.toInt (h_209 12 (by decide)).1
                    have s_213 : (gI z24 13).toInt = (gI z21 13).toInt := congrArg Int32.toInt (h_209 13 (by decide)).1
                    have s_214 : (gI z24 15).toInt = (gI z21 15).toInt := congrArg Int32.toInt (h_209 15 (by decide)).1
                    have s_215 : (gI z24 16).toInt = (gI z21 16).toInt := congrArg Int32.toInt (h_209 16 (by decide)).1
                    have h_210a := h_210.1
                    have h_210k := h_210.2.1
                    have h_210r : RN z24 t b ((h + 1)) := rn_put (by omega) h_210 u_205 (stp_bin (by omega) (by decide) (by decide) (by decide))
                    try have e_216 : (1 : Int32).toInt = 1 := (show (1 : Int32).toInt = 1 by decide)
                    exact ok_some ⟨Or.inr rfl, (fr_tr (fr_tr (fr_tr (fr_I (fr_tr (fr_tr fr_rf h_3 (by decide)) h_19 (by decide)) (by decide)) h_144 (by decide)) h_191 (by decide)) h_209 (by decide)), (show (gI z_t 12).toInt ≤ (gI z24 12).toInt ∧ (gI z24 12).toInt ≤ (gI z_t 1).toInt by first | omega | assumption | trivial), (kp_tr (kp_tr (kp_fr (kp_I (kp_fr (kp_tr kp_rf h_5) h_19 (by decide))) h_144 (by decide)) h_193) h_210k), (show (1 : Int32).toInt = 0 → (gI z24 13).toInt ≠ 0 from fun q => absurd q (by decide)), (show (1 : Int32).toInt = 1 → (gT z24 4 t).toInt + o ≤ (gI z24 12).toInt ∧ h + 1 ≤ (gI z24 16).toInt ∧ (gI z24 16).toInt ≤ 60 from fun _ => by first | omega | assumption), (fun _ => h_210r)⟩
                · skip
                  have c_188i : r6.toInt ≠ 61 := bI_neq rfl (show (61 : Int32).toInt = 61 by decide) c_188
                  refine ok_ite (fun c_217 => ?_) (fun c_217 => ?_)
                  · skip
                    refine ok_bd2 (t_fX9_sum (t := t) (b := b) (h := h + 1) (o := o + 1) (by first | omega | assumption | decide | (show 0 ≤ (gI z15 12).toInt ∧ (gI z15 12).toInt ≤ (gI z15 1).toInt ∧ (gI z15 1).toInt ≤ 400; first | omega | assumption)) (by first | omega | assumption | decide | (show (gI z15 15).toInt = t ∧ t < 6; first | omega | assumption)) (by first | omega | assumption | decide | (show 0 ≤ (gT z15 4 t).toInt ∧ (gT z15 4 t).toInt + (o + 1) ≤ (gI z15 12).toInt; first | omega | assumption)) (by first | omega | assumption | decide | (show 0 ≤ (gI z15 16).toInt ∧ (gI z15 16).toInt ≤ 60 ∧ (h + 1) ≤ (gI z15 16).toInt; first | omega | assumption)) (rn_fr h_144 (by decide) (rn_I (rn_fr h_19 (by decide) u_17)))) (fun r20 z21 q_218 => ?_)
                    have h_219 : r20 = 0 ∨ r20 = 1 := q_218.1
                    have h_219i := bool_i h_219
                    have h_220 : FrL [3, 4, 12, 13, 14, 16] z15 z21 := q_218.2.1
                    have h_221 : (gI z15 12).toInt ≤ (gI z21 12).toInt ∧ (gI z21 12).toInt ≤ (gI z15 1).toInt := q_218.2.2.1
                    have h_222 : KP t z15 z21 := q_218.2.2.2.1
                    have h_222a : (gT z15 4 t).toInt ≤ (gT z21 4 t).toInt := h_222.1
                    have h_223 : r20.toInt = 0 → (gI z21 13).toInt ≠ 0 := q_218.2.2.2.2.1
                    have h_224 : r20.toInt = 1 → (gT z21 4 t).toInt + (o + 1) ≤ (gI z21 12).toInt ∧ (h + 1) + 1 ≤ (gI z21 16).toInt ∧ (gI z21 16).toInt ≤ 60 := q_218.2.2.2.2.2.1
                    have h_225 : r20.toInt = 1 → RN z21 t b ((h + 1) + 1) := q_218.2.2.2.2.2.2
                    clear q_218
                    have s_226 : (gI z21 1).toInt = (gI z15 1).toInt := congrArg Int32.toInt (h_220 1 (by decide)).1
                    have s_227 : (gI z21 15).toInt = (gI z15 15).toInt := congrArg Int32.toInt (h_220 15 (by decide)).1
                    refine ok_ite (fun c_228 => ?_) (fun c_228 => ?_)
                    · skip
                      have r_229 := n_rng r20
                      have c_228i : r20.toInt = 0 := bI_eq rfl (show (0 : Int32).toInt = 0 by decide) c_228
                      have u_230 : (gI z21 13).toInt ≠ 0 := h_223 (by omega)
                      try have e_231 : (0 : Int32).toInt = 0 := (show (0 : Int32).toInt = 0 by decide)
                      exact ok_some ⟨Or.inl rfl, (fr_tr (fr_tr (fr_I (fr_tr (fr_tr fr_rf h_3 (by decide)) h_19 (by decide)) (by decide)) h_144 (by decide)) h_220 (by decide)), (show (gI z_t 12).toInt ≤ (gI z21 12).toInt ∧ (gI z21 12).toInt ≤ (gI z_t 1).toInt by first | omega | assumption | trivial), (kp_tr (kp_fr (kp_I (kp_fr (kp_tr kp_rf h_5) h_19 (by decide))) h_144 (by decide)) h_222), (show (0 : Int32).toInt = 0 → (gI z21 13).toInt ≠ 0 from fun _ => by first | omega | assumption), (show (0 : Int32).toInt = 1 → (gT z21 4 t).toInt + o ≤ (gI z21 12).toInt ∧ h + 1 ≤ (gI z21 16).toInt ∧ (gI z21 16).toInt ≤ 60 from fun q => absurd q (by decide)), (show (0 : Int32).toInt = 1 → RN z21 t b (h + 1) from fun q => absurd q (by decide))⟩
                    · skip
                      have r_232 := n_rng r20
                      have c_228i : r20.toInt ≠ 0 := bI_neq rfl (show (0 : Int32).toInt = 0 by decide) c_228
                      have u_233 : (gT z21 4 t).toInt + (o + 1) ≤ (gI z21 12).toInt ∧ (h + 1) + 1 ≤ (gI z21 16).toInt ∧ (gI z21 16).toInt ≤ 60 := h_224 (by omega)
                      have u_234 : RN z21 t b ((h + 1) + 1) := h_225 (by omega)
                      have e_236 : ((6 : Int32) + 4).toInt = (6 + 4) := (i32_add (show (6 : Int32).toInt = 6 by decide) (show (4 : Int32).toInt = 4 by decide) (by omega) (by omega))
                      have e_237 : (0 : Int32).toInt = 0 := (show (0 : Int32).toInt = 0 by decide)
                      refine ok_bd (t_fX9_puts (t := t) (by first | omega | assumption | decide | (show (gI z21 15).toInt = t ∧ t < 6; first | omega | assumption)) (by first | omega | assumption | decide | (show 0 ≤ (gT z21 4 t).toInt ∧ (gT z21 4 t).toInt < 400; first | omega | assumption))) (fun z24 q_235 => ?_)
                      have h_238 : FrL [3, 4] z21 z24 := q_235.1
                      have h_239 : PUT t z21 z24 (((6 : Int32) + 4) + (16 * (0 : Int32))) := q_235.2
                      clear q_235
                      have s_240 : (gI z24 1).toInt = (gI z21 1).toInt := congrArg Int32.toInt (h_238 1 (by decide)).1
                      have s_241 : (gI z24 12).toInt = (gI z21 12).toInt := congrArg Int32.toInt (h_238 12 (by decide)).1
                      have s_242 : (gI z24 13).toInt = (gI z21 13).toInt := congrArg Int32.toInt (h_238 13 (by decide)).1
                      have s_243 : (gI z24 15).toInt = (gI z21 15).toInt := congrArg Int32.toInt (h_238 15 (by decide)).1
                      have s_244 : (gI z24 16).toInt = (gI z21 16).toInt := congrArg Int32.toInt (h_238 16 (by decide)).1
                      have h_239a := h_239.1
                      have h_239k := h_239.2.1
                      have h_239r : RN z24 t b ((h + 1)) := rn_put (by omega) h_239 u_234 (stp_bin (by omega) (by decide) (by decide) (by decide))
                      try have e_245 : (1 : Int32).toInt = 1 := (show (1 : Int32).toInt = 1 by decide)
                      exact ok_some ⟨Or.inr rfl, (fr_tr (fr_tr (fr_tr (fr_I (fr_tr (fr_tr fr_rf h_3 (by decide)) h_19 (by decide)) (by decide)) h_144 (by decide)) h_220 (by decide)) h_238 (by decide)), (show (gI z_t 12).toInt ≤ (gI z24 12).toInt ∧ (gI z24 12).toInt ≤ (gI z_t 1).toInt by first | omega | assumption | trivial), (kp_tr (kp_tr (kp_fr (kp_I (kp_fr (kp_tr kp_rf h_5) h_19 (by decide))) h_144 (by decide)) h_222) h_239k), (show (1 : Int32).toInt = 0 → (gI z24 13).toInt ≠ 0 from fun q => absurd q (by decide)), (show (1 : Int32).toInt = 1 → (gT z24 4 t).toInt + o ≤ (gI z24 12).toInt ∧ h + 1 ≤ (gI z24 16).toInt ∧ (gI z24 16).toInt ≤ 60 from fun _ => by first | omega | assumption), (fun _ => h_239r)⟩
                  · skip
                    exact absurd (by decide) c_217
          · skip
            exact absurd (by decide) c_141
        · skip
          have r_246 := n_rng (gI z7 1)
          have r_247 := n_rng (gI z7 12)
          try have c_138i : (gI z7 1).toInt > ((gI z7 12).toInt + 1) := bI_nle rfl (i32_add rfl (show (1 : Int32).toInt = 1 by decide) (by omega) (by omega)) c_138
          have e_248 : ((gI z7 12) + 1).toInt = ((gI z7 12).toInt + 1) := (i32_add rfl (show (1 : Int32).toInt = 1 by decide) (by omega) (by omega))
          refine ok_gd (inb_of (by omega) (by omega)) ?_
          have i_249 : (((gI z7 12) + 1).toNatClampNeg : Int) = ((gI z7 12) + 1).toInt := clampI (by omega)
          refine ok_ite (fun c_250 => ?_) (fun c_250 => ?_)
          · skip
            have r_251 := n_rng (gT z7 0 ((gI z7 12) + 1).toNatClampNeg)
            have c_250i : (gT z7 0 ((gI z7 12) + 1).toNatClampNeg).toInt = 61 := bI_eq rfl (show (61 : Int32).toInt = 61 by decide) c_250
            refine ok_jn ?_
            refine ok_ite (fun c_252 => ?_) (fun c_252 => ?_)
            · skip
              exact absurd c_252 (by decide)
            · skip
              refine ok_bd2 (t_fX9_makes (by first | omega | assumption | decide | (show 0 ≤ (gI z7 16).toInt ∧ (gI z7 16).toInt ≤ 60; first | omega | assumption)) (by first | omega | assumption | decide | (show 0 ≤ (gI z7 12).toInt ∧ (gI z7 12).toInt ≤ 400; first | omega | assumption))) (fun r14 z15 q_253 => ?_)
              have h_254 : r14 = 0 ∨ r14 = 1 := q_253.1
              have h_254i := bool_i h_254
              have h_255 : FrL [13, 16] (sI (sI z7 12 ((gI z7 12) + 1)) 12 (((gI z7 12) + 1) + 1)) z15 := q_253.2.1
              have h_256 : r14.toInt = 0 → (gI z15 13).toInt ≠ 0 := q_253.2.2.1
              have h_257 : r14.toInt = 1 → (gI z15 16).toInt = (gI z7 16).toInt + 1 ∧ (gI z15 16).toInt ≤ 60 := q_253.2.2.2
              clear q_253
              have s_258 : (gI z15 1).toInt = (gI z7 1).toInt := congrArg Int32.toInt (h_255 1 (by decide)).1
              try have e_259 : (((gI z7 12) + 1) + 1).toInt = (((gI z7 12).toInt + 1) + 1) := (i32_add (i32_add rfl (show (1 : Int32).toInt = 1 by decide) (by omega) (by omega)) (show (1 : Int32).toInt = 1 by decide) (by omega) (by omega))
              have s_260 : (gI z15 12).toInt = (((gI z7 12) + 1) + 1).toInt := congrArg Int32.toInt (h_255 12 (by decide)).1
              have s_261 : (gI z15 15).toInt = (gI z7 15).toInt := congrArg Int32.toInt (h_255 15 (by decide)).1
              have s_262 : (gT z15 4 t).toInt = (gT z7 4 t).toInt := congrArg (fun f : Nat → Int32 => (f t).toInt) (h_255 4 (by decide)).2.1
              refine ok_ite (fun c_263 => ?_) (fun c_263 => ?_)
              · skip
                have r_264 := n_rng r14
                have c_263i : r14.toInt = 0 := bI_eq rfl (show (0 : Int32).toInt = 0 by decide) c_263
                have u_265 : (gI z15 13).toInt ≠ 0 := h_256 (by omega)
                try have e_266 : (0 : Int32).toInt = 0 := (show (0 : Int32).toInt = 0 by decide)
                exact ok_some ⟨Or.inl rfl, (fr_tr (fr_I (fr_I (fr_tr (fr_tr fr_rf h_3 (by decide)) h_19 (by decide)) (by decide)) (by decide)) h_255 (by decide)), (show (gI z_t 12).toInt ≤ (gI z15 12).toInt ∧ (gI z15 12).toInt ≤ (gI z_t 1).toInt by first | omega | assumption | trivial), (kp_fr (kp_I (kp_I (kp_fr (kp_tr kp_rf h_5) h_19 (by decide)))) h_255 (by decide)), (show (0 : Int32).toInt = 0 → (gI z15 13).toInt ≠ 0 from fun _ => by first | omega | assumption), (show (0 : Int32).toInt = 1 → (gT z15 4 t).toInt + o ≤ (gI z15 12).toInt ∧ h + 1 ≤ (gI z15 16).toInt ∧ (gI z15 16).toInt ≤ 60 from fun q => absurd q (by decide)), (show (0 : Int32).toInt = 1 → RN z15 t b (h + 1) from fun q => absurd q (by decide))⟩
              · skip
                have r_267 := n_rng r14
                have c_263i : r14.toInt ≠ 0 := bI_neq rfl (show (0 : Int32).toInt = 0 by decide) c_263
                have u_268 : (gI z15 16).toInt = (gI z7 16).toInt + 1 ∧ (gI z15 16).toInt ≤ 60 := h_257 (by omega)
                refine ok_jn ?_
                refine ok_ite (fun c_269 => ?_) (fun c_269 => ?_)
                · skip
                  have c_269i : r6.toInt = 60 := bI_eq rfl (show (60 : Int32).toInt = 60 by decide) c_269
                  refine ok_ite (fun c_270 => ?_) (fun c_270 => ?_)
                  · skip
                    exact absurd c_270 (by decide)
                  · skip
                    refine ok_bd2 (t_fX9_sum (t := t) (b := b) (h := h + 1) (o := o + 1) (by first | omega | assumption | decide | (show 0 ≤ (gI z15 12).toInt ∧ (gI z15 12).toInt ≤ (gI z15 1).toInt ∧ (gI z15 1).toInt ≤ 400; first | omega | assumption)) (by first | omega | assumption | decide | (show (gI z15 15).toInt = t ∧ t < 6; first | omega | assumption)) (by first | omega | assumption | decide | (show 0 ≤ (gT z15 4 t).toInt ∧ (gT z15 4 t).toInt + (o + 1) ≤ (gI z15 12).toInt; first | omega | assumption)) (by first | omega | assumption | decide | (show 0 ≤ (gI z15 16).toInt ∧ (gI z15 16).toInt ≤ 60 ∧ (h + 1) ≤ (gI z15 16).toInt; first | omega | assumption)) (rn_fr h_255 (by decide) (rn_I (rn_I (rn_fr h_19 (by decide) u_17))))) (fun r20 z21 q_271 => ?_)
                    have h_272 : r20 = 0 ∨ r20 = 1 := q_271.1
                    have h_272i := bool_i h_272
                    have h_273 : FrL [3, 4, 12, 13, 14, 16] z15 z21 := q_271.2.1
                    have h_274 : (gI z15 12).toInt ≤ (gI z21 12).toInt ∧ (gI z21 12).toInt ≤ (gI z15 1).toInt := q_271.2.2.1
                    have h_275 : KP t z15 z21 := q_271.2.2.2.1
                    have h_275a : (gT z15 4 t).toInt ≤ (gT z21 4 t).toInt := h_275.1
                    have h_276 : r20.toInt = 0 → (gI z21 13).toInt ≠ 0 := q_271.2.2.2.2.1
                    have h_277 : r20.toInt = 1 → (gT z21 4 t).toInt + (o + 1) ≤ (gI z21 12).toInt ∧ (h + 1) + 1 ≤ (gI z21 16).toInt ∧ (gI z21 16).toInt ≤ 60 := q_271.2.2.2.2.2.1
                    have h_278 : r20.toInt = 1 → RN z21 t b ((h + 1) + 1) := q_271.2.2.2.2.2.2
                    clear q_271
                    have s_279 : (gI z21 1).toInt = (gI z15 1).toInt := congrArg Int32.toInt (h_273 1 (by decide)).1
                    have s_280 : (gI z21 15).toInt = (gI z15 15).toInt := congrArg Int32.toInt (h_273 15 (by decide)).1
                    refine ok_ite (fun c_281 => ?_) (fun c_281 => ?_)
                    · skip
                      have r_282 := n_rng r20
                      have c_281i : r20.toInt = 0 := bI_eq rfl (show (0 : Int32).toInt = 0 by decide) c_281
                      have u_283 : (gI z21 13).toInt ≠ 0 := h_276 (by omega)
                      try have e_284 : (0 : Int32).toInt = 0 := (show (0 : Int32).toInt = 0 by decide)
                      exact ok_some ⟨Or.inl rfl, (fr_tr (fr_tr (fr_I (fr_I (fr_tr (fr_tr fr_rf h_3 (by decide)) h_19 (by decide)) (by decide)) (by decide)) h_255 (by decide)) h_273 (by decide)), (show (gI z_t 12).toInt ≤ (gI z21 12).toInt ∧ (gI z21 12).toInt ≤ (gI z_t 1).toInt by first | omega | assumption | trivial), (kp_tr (kp_fr (kp_I (kp_I (kp_fr (kp_tr kp_rf h_5) h_19 (by decide)))) h_255 (by decide)) h_275), (show (0 : Int32).toInt = 0 → (gI z21 13).toInt ≠ 0 from fun _ => by first | omega | assumption), (show (0 : Int32).toInt = 1 → (gT z21 4 t).toInt + o ≤ (gI z21 12).toInt ∧ h + 1 ≤ (gI z21 16).toInt ∧ (gI z21 16).toInt ≤ 60 from fun q => absurd q (by decide)), (show (0 : Int32).toInt = 1 → RN z21 t b (h + 1) from fun q => absurd q (by decide))⟩
                    · skip
                      have r_285 := n_rng r20
                      have c_281i : r20.toInt ≠ 0 := bI_neq rfl (show (0 : Int32).toInt = 0 by decide) c_281
                      have u_286 : (gT z21 4 t).toInt + (o + 1) ≤ (gI z21 12).toInt ∧ (h + 1) + 1 ≤ (gI z21 16).toInt ∧ (gI z21 16).toInt ≤ 60 := h_277 (by omega)
                      have u_287 : RN z21 t b ((h + 1) + 1) := h_278 (by omega)
                      have e_289 : ((6 : Int32) + 1).toInt = (6 + 1) := (i32_add (show (6 : Int32).toInt = 6 by decide) (show (1 : Int32).toInt = 1 by decide) (by omega) (by omega))
                      have e_290 : (0 : Int32).toInt = 0 := (show (0 : Int32).toInt = 0 by decide)
                      refine ok_bd (t_fX9_puts (t := t) (by first | omega | assumption | decide | (show (gI z21 15).toInt = t ∧ t < 6; first | omega | assumption)) (by first | omega | assumption | decide | (show 0 ≤ (gT z21 4 t).toInt ∧ (gT z21 4 t).toInt < 400; first | omega | assumption))) (fun z24 q_288 => ?_)
                      have h_291 : FrL [3, 4] z21 z24 := q_288.1
                      have h_292 : PUT t z21 z24 (((6 : Int32) + 1) + (16 * (0 : Int32))) := q_288.2
                      clear q_288
                      have s_293 : (gI z24 1).toInt = (gI z21 1).toInt := congrArg Int32.toInt (h_291 1 (by decide)).1
                      have s_294 : (gI z24 12).toInt = (gI z21 12).toInt := congrArg Int32.toInt (h_291 12 (by decide)).1
                      have s_295 : (gI z24 13).toInt = (gI z21 13).toInt := congrArg Int32.toInt (h_291 13 (by decide)).1
                      have s_296 : (gI z24 15).toInt = (gI z21 15).toInt := congrArg Int32.toInt (h_291 15 (by decide)).1
                      have s_297 : (gI z24 16).toInt = (gI z21 16).toInt := congrArg Int32.toInt (h_291 16 (by decide)).1
                      have h_292a := h_292.1
                      have h_292k := h_292.2.1
                      have h_292r : RN z24 t b ((h + 1)) := rn_put (by omega) h_292 u_287 (stp_bin (by omega) (by decide) (by decide) (by decide))
                      try have e_298 : (1 : Int32).toInt = 1 := (show (1 : Int32).toInt = 1 by decide)
                      exact ok_some ⟨Or.inr rfl, (fr_tr (fr_tr (fr_tr (fr_I (fr_I (fr_tr (fr_tr fr_rf h_3 (by decide)) h_19 (by decide)) (by decide)) (by decide)) h_255 (by decide)) h_273 (by decide)) h_291 (by decide)), (show (gI z_t 12).toInt ≤ (gI z24 12).toInt ∧ (gI z24 12).toInt ≤ (gI z_t 1).toInt by first | omega | assumption | trivial), (kp_tr (kp_tr (kp_fr (kp_I (kp_I (kp_fr (kp_tr kp_rf h_5) h_19 (by decide)))) h_255 (by decide)) h_275) h_292k), (show (1 : Int32).toInt = 0 → (gI z24 13).toInt ≠ 0 from fun q => absurd q (by decide)), (show (1 : Int32).toInt = 1 → (gT z24 4 t).toInt + o ≤ (gI z24 12).toInt ∧ h + 1 ≤ (gI z24 16).toInt ∧ (gI z24 16).toInt ≤ 60 from fun _ => by first | omega | assumption), (fun _ => h_292r)⟩
                · skip
                  have c_269i : r6.toInt ≠ 60 := bI_neq rfl (show (60 : Int32).toInt = 60 by decide) c_269
                  refine ok_ite (fun c_299 => ?_) (fun c_299 => ?_)
                  · skip
                    have c_299i : r6.toInt = 61 := bI_eq rfl (show (61 : Int32).toInt = 61 by decide) c_299
                    refine ok_bd2 (t_fX9_sum (t := t) (b := b) (h := h + 1) (o := o + 1) (by first | omega | assumption | decide | (show 0 ≤ (gI z15 12).toInt ∧ (gI z15 12).toInt ≤ (gI z15 1).toInt ∧ (gI z15 1).toInt ≤ 400; first | omega | assumption)) (by first | omega | assumption | decide | (show (gI z15 15).toInt = t ∧ t < 6; first | omega | assumption)) (by first | omega | assumption | decide | (show 0 ≤ (gT z15 4 t).toInt ∧ (gT z15 4 t).toInt + (o + 1) ≤ (gI z15 12).toInt; first | omega | assumption)) (by first | omega | assumption | decide | (show 0 ≤ (gI z15 16).toInt ∧ (gI z15 16).toInt ≤ 60 ∧ (h + 1) ≤ (gI z15 16).toInt; first | omega | assumption)) (rn_fr h_255 (by decide) (rn_I (rn_I (rn_fr h_19 (by decide) u_17))))) (fun r20 z21 q_300 => ?_)
                    have h_301 : r20 = 0 ∨ r20 = 1 := q_300.1
                    have h_301i := bool_i h_301
                    have h_302 : FrL [3, 4, 12, 13, 14, 16] z15 z21 := q_300.2.1
                    have h_303 : (gI z15 12).toInt ≤ (gI z21 12).toInt ∧ (gI z21 12).toInt ≤ (gI z15 1).toInt := q_300.2.2.1
                    have h_304 : KP t z15 z21 := q_300.2.2.2.1
                    have h_304a : (gT z15 4 t).toInt ≤ (gT z21 4 t).toInt := h_304.1
                    have h_305 : r20.toInt = 0 → (gI z21 13).toInt ≠ 0 := q_300.2.2.2.2.1
                    have h_306 : r20.toInt = 1 → (gT z21 4 t).toInt + (o + 1) ≤ (gI z21 12).toInt ∧ (h + 1) + 1 ≤ (gI z21 16).toInt ∧ (gI z21 16).toInt ≤ 60 := q_300.2.2.2.2.2.1
                    have h_307 : r20.toInt = 1 → RN z21 t b ((h + 1) + 1) := q_300.2.2.2.2.2.2
                    clear q_300
                    have s_308 : (gI z21 1).toInt = (gI z15 1).toInt := congrArg Int32.toInt (h_302 1 (by decide)).1
                    have s_309 : (gI z21 15).toInt = (gI z15 15).toInt := congrArg Int32.toInt (h_302 15 (by decide)).1
                    refine ok_ite (fun c_310 => ?_) (fun c_310 => ?_)
                    · skip
                      have r_311 := n_rng r20
                      have c_310i : r20.toInt = 0 := bI_eq rfl (show (0 : Int32).toInt = 0 by decide) c_310
                      have u_312 : (gI z21 13).toInt ≠ 0 := h_305 (by omega)
                      try have e_313 : (0 : Int32).toInt = 0 := (show (0 : Int32).toInt = 0 by decide)
                      exact ok_some ⟨Or.inl rfl, (fr_tr (fr_tr (fr_I (fr_I (fr_tr (fr_tr fr_rf h_3 (by decide)) h_19 (by decide)) (by decide)) (by decide)) h_255 (by decide)) h_302 (by decide)), (show (gI z_t 12).toInt ≤ (gI z21 12).toInt ∧ (gI z21 12).toInt ≤ (gI z_t 1).toInt by first | omega | assumption | trivial), (kp_tr (kp_fr (kp_I (kp_I (kp_fr (kp_tr kp_rf h_5) h_19 (by decide)))) h_255 (by decide)) h_304), (show (0 : Int32).toInt = 0 → (gI z21 13).toInt ≠ 0 from fun _ => by first | omega | assumption), (show (0 : Int32).toInt = 1 → (gT z21 4 t).toInt + o ≤ (gI z21 12).toInt ∧ h + 1 ≤ (gI z21 16).toInt ∧ (gI z21 16).toInt ≤ 60 from fun q => absurd q (by decide)), (show (0 : Int32).toInt = 1 → RN z21 t b (h + 1) from fun q => absurd q (by decide))⟩
                    · skip
                      have r_314 := n_rng r20
                      have c_310i : r20.toInt ≠ 0 := bI_neq rfl (show (0 : Int32).toInt = 0 by decide) c_310
                      have u_315 : (gT z21 4 t).toInt + (o + 1) ≤ (gI z21 12).toInt ∧ (h + 1) + 1 ≤ (gI z21 16).toInt ∧ (gI z21 16).toInt ≤ 60 := h_306 (by omega)
                      have u_316 : RN z21 t b ((h + 1) + 1) := h_307 (by omega)
                      have e_318 : ((6 : Int32) + 2).toInt = (6 + 2) := (i32_add (show (6 : Int32).toInt = 6 by decide) (show (2 : Int32).toInt = 2 by decide) (by omega) (by omega))
                      have e_319 : (0 : Int32).toInt = 0 := (show (0 : Int32).toInt = 0 by decide)
                      refine ok_bd (t_fX9_puts (t := t) (by first | omega | assumption | decide | (show (gI z21 15).toInt = t ∧ t < 6; first | omega | assumption)) (by first | omega | assumption | decide | (show 0 ≤ (gT z21 4 t).toInt ∧ (gT z21 4 t).toInt < 400; first | omega | assumption))) (fun z24 q_317 => ?_)
                      have h_320 : FrL [3, 4] z21 z24 := q_317.1
                      have h_321 : PUT t z21 z24 (((6 : Int32) + 2) + (16 * (0 : Int32))) := q_317.2
                      clear q_317
                      have s_322 : (gI z24 1).toInt = (gI z21 1).toInt := congrArg Int32.toInt (h_320 1 (by decide)).1
                      have s_323 : (gI z24 12).toInt = (gI z21 12).toInt := congrArg Int32.toInt (h_320 12 (by decide)).1
                      have s_324 : (gI z24 13).toInt = (gI z21 13).toInt := congrArg Int32.toInt (h_320 13 (by decide)).1
                      have s_325 : (gI z24 15).toInt = (gI z21 15).toInt := congrArg Int32.toInt (h_320 15 (by decide)).1
                      have s_326 : (gI z24 16).toInt = (gI z21 16).toInt := congrArg Int32.toInt (h_320 16 (by decide)).1
                      have h_321a := h_321.1
                      have h_321k := h_321.2.1
                      have h_321r : RN z24 t b ((h + 1)) := rn_put (by omega) h_321 u_316 (stp_bin (by omega) (by decide) (by decide) (by decide))
                      try have e_327 : (1 : Int32).toInt = 1 := (show (1 : Int32).toInt = 1 by decide)
                      exact ok_some ⟨Or.inr rfl, (fr_tr (fr_tr (fr_tr (fr_I (fr_I (fr_tr (fr_tr fr_rf h_3 (by decide)) h_19 (by decide)) (by decide)) (by decide)) h_255 (by decide)) h_302 (by decide)) h_320 (by decide)), (show (gI z_t 12).toInt ≤ (gI z24 12).toInt ∧ (gI z24 12).toInt ≤ (gI z_t 1).toInt by first | omega | assumption | trivial), (kp_tr (kp_tr (kp_fr (kp_I (kp_I (kp_fr (kp_tr kp_rf h_5) h_19 (by decide)))) h_255 (by decide)) h_304) h_321k), (show (1 : Int32).toInt = 0 → (gI z24 13).toInt ≠ 0 from fun q => absurd q (by decide)), (show (1 : Int32).toInt = 1 → (gT z24 4 t).toInt + o ≤ (gI z24 12).toInt ∧ h + 1 ≤ (gI z24 16).toInt ∧ (gI z24 16).toInt ≤ 60 from fun _ => by first | omega | assumption), (fun _ => h_321r)⟩
                  · skip
                    have c_299i : r6.toInt ≠ 61 := bI_neq rfl (show (61 : Int32).toInt = 61 by decide) c_299
                    refine ok_ite (fun c_328 => ?_) (fun c_328 => ?_)
                    · skip
                      exact absurd c_328 (by decide)
                    · skip
                      refine ok_bd2 (t_fX9_sum (t := t) (b := b) (h := h + 1) (o := o + 1) (by first | omega | assumption | decide | (show 0 ≤ (gI z15 12).toInt ∧ (gI z15 12).toInt ≤ (gI z15 1).toInt ∧ (gI z15 1).toInt ≤ 400; first | omega | assumption)) (by first | omega | assumption | decide | (show (gI z15 15).toInt = t ∧ t < 6; first | omega | assumption)) (by first | omega | assumption | decide | (show 0 ≤ (gT z15 4 t).toInt ∧ (gT z15 4 t).toInt + (o + 1) ≤ (gI z15 12).toInt; first | omega | assumption)) (by first | omega | assumption | decide | (show 0 ≤ (gI z15 16).toInt ∧ (gI z15 16).toInt ≤ 60 ∧ (h + 1) ≤ (gI z15 16).toInt; first | omega | assumption)) (rn_fr h_255 (by decide) (rn_I (rn_I (rn_fr h_19 (by decide) u_17))))) (fun r20 z21 q_329 => ?_)
                      have h_330 : r20 = 0 ∨ r20 = 1 := q_329.1
                      have h_330i := bool_i h_330
                      have h_331 : FrL [3, 4, 12, 13, 14, 16] z15 z21 := q_329.2.1
                      have h_332 : (gI z15 12).toInt ≤ (gI z21 12).toInt ∧ (gI z21 12).toInt ≤ (gI z15 1).toInt := q_329.2.2.1
                      have h_333 : KP t z15 z21 := q_329.2.2.2.1
                      have h_333a : (gT z15 4 t).toInt ≤ (gT z21 4 t).toInt := h_333.1
                      have h_334 : r20.toInt = 0 → (gI z21 13).toInt ≠ 0 := q_329.2.2.2.2.1
                      have h_335 : r20.toInt = 1 → (gT z21 4 t).toInt + (o + 1) ≤ (gI z21 12).toInt ∧ (h + 1) + 1 ≤ (gI z21 16).toInt ∧ (gI z21 16).toInt ≤ 60 := q_329.2.2.2.2.2.1
                      have h_336 : r20.toInt = 1 → RN z21 t b ((h + 1) + 1) := q_329.2.2.2.2.2.2
                      clear q_329
                      have s_337 : (gI z21 1).toInt = (gI z15 1).toInt := congrArg Int32.toInt (h_331 1 (by decide)).1
                      have s_338 : (gI z21 15).toInt = (gI z15 15).toInt := congrArg Int32.toInt (h_331 15 (by decide)).1
                      refine ok_ite (fun c_339 => ?_) (fun c_339 => ?_)
                      · skip
                        have r_340 := n_rng r20
                        have c_339i : r20.toInt = 0 := bI_eq rfl (show (0 : Int32).toInt = 0 by decide) c_339
                        have u_341 : (gI z21 13).toInt ≠ 0 := h_334 (by omega)
                        try have e_342 : (0 : Int32).toInt = 0 := (show (0 : Int32).toInt = 0 by decide)
                        exact ok_some ⟨Or.inl rfl, (fr_tr (fr_tr (fr_I (fr_I (fr_tr (fr_tr fr_rf h_3 (by decide)) h_19 (by decide)) (by decide)) (by decide)) h_255 (by decide)) h_331 (by decide)), (show (gI z_t 12).toInt ≤ (gI z21 12).toInt ∧ (gI z21 12).toInt ≤ (gI z_t 1).toInt by first | omega | assumption | trivial), (kp_tr (kp_fr (kp_I (kp_I (kp_fr (kp_tr kp_rf h_5) h_19 (by decide)))) h_255 (by decide)) h_333), (show (0 : Int32).toInt = 0 → (gI z21 13).toInt ≠ 0 from fun _ => by first | omega | assumption), (show (0 : Int32).toInt = 1 → (gT z21 4 t).toInt + o ≤ (gI z21 12).toInt ∧ h + 1 ≤ (gI z21 16).toInt ∧ (gI z21 16).toInt ≤ 60 from fun q => absurd q (by decide)), (show (0 : Int32).toInt = 1 → RN z21 t b (h + 1) from fun q => absurd q (by decide))⟩
                      · skip
                        have r_343 := n_rng r20
                        have c_339i : r20.toInt ≠ 0 := bI_neq rfl (show (0 : Int32).toInt = 0 by decide) c_339
                        have u_344 : (gT z21 4 t).toInt + (o + 1) ≤ (gI z21 12).toInt ∧ (h + 1) + 1 ≤ (gI z21 16).toInt ∧ (gI z21 16).toInt ≤ 60 := h_335 (by omega)
                        have u_345 : RN z21 t b ((h + 1) + 1) := h_336 (by omega)
                        have e_347 : ((6 : Int32) + 3).toInt = (6 + 3) := (i32_add (show (6 : Int32).toInt = 6 by decide) (show (3 : Int32).toInt = 3 by decide) (by omega) (by omega))
                        have e_348 : (0 : Int32).toInt = 0 := (show (0 : Int32).toInt = 0 by decide)
                        refine ok_bd (t_fX9_puts (t := t) (by first | omega | assumption | decide | (show (gI z21 15).toInt = t ∧ t < 6; first | omega | assumption)) (by first | omega | assumption | decide | (show 0 ≤ (gT z21 4 t).toInt ∧ (gT z21 4 t).toInt < 400; first | omega | assumption))) (fun z24 q_346 => ?_)
                        have h_349 : FrL [3, 4] z21 z24 := q_346.1
                        have h_350 : PUT t z21 z24 (((6 : Int32) + 3) + (16 * (0 : Int32))) := q_346.2
                        clear q_346
                        have s_351 : (gI z24 1).toInt = (gI z21 1).toInt := congrArg Int32.toInt (h_349 1 (by decide)).1
                        have s_352 : (gI z24 12).toInt = (gI z21 12).toInt := congrArg Int32.toInt (h_349 12 (by decide)).1
                        have s_353 : (gI z24 13).toInt = (gI z21 13).toInt := congrArg Int32.toInt (h_349 13 (by decide)).1
                        have s_354 : (gI z24 15).toInt = (gI z21 15).toInt := congrArg Int32.toInt (h_349 15 (by decide)).1
                        have s_355 : (gI z24 16).toInt = (gI z21 16).toInt := congrArg Int32.toInt (h_349 16 (by decide)).1
                        have h_350a := h_350.1
                        have h_350k := h_350.2.1
                        have h_350r : RN z24 t b ((h + 1)) := rn_put (by omega) h_350 u_345 (stp_bin (by omega) (by decide) (by decide) (by decide))
                        try have e_356 : (1 : Int32).toInt = 1 := (show (1 : Int32).toInt = 1 by decide)
                        exact ok_some ⟨Or.inr rfl, (fr_tr (fr_tr (fr_tr (fr_I (fr_I (fr_tr (fr_tr fr_rf h_3 (by decide)) h_19 (by decide)) (by decide)) (by decide)) h_255 (by decide)) h_331 (by decide)) h_349 (by decide)), (show (gI z_t 12).toInt ≤ (gI z24 12).toInt ∧ (gI z24 12).toInt ≤ (gI z_t 1).toInt by first | omega | assumption | trivial), (kp_tr (kp_tr (kp_fr (kp_I (kp_I (kp_fr (kp_tr kp_rf h_5) h_19 (by decide)))) h_255 (by decide)) h_333) h_350k), (show (1 : Int32).toInt = 0 → (gI z24 13).toInt ≠ 0 from fun q => absurd q (by decide)), (show (1 : Int32).toInt = 1 → (gT z24 4 t).toInt + o ≤ (gI z24 12).toInt ∧ h + 1 ≤ (gI z24 16).toInt ∧ (gI z24 16).toInt ≤ 60 from fun _ => by first | omega | assumption), (fun _ => h_350r)⟩
          · skip
            have r_357 := n_rng (gT z7 0 ((gI z7 12) + 1).toNatClampNeg)
            have c_250i : (gT z7 0 ((gI z7 12) + 1).toNatClampNeg).toInt ≠ 61 := bI_neq rfl (show (61 : Int32).toInt = 61 by decide) c_250
            refine ok_jn ?_
            refine ok_ite (fun c_358 => ?_) (fun c_358 => ?_)
            · skip
              refine ok_bd2 (t_fX9_makes (by first | omega | assumption | decide | (show 0 ≤ (gI z7 16).toInt ∧ (gI z7 16).toInt ≤ 60; first | omega | assumption)) (by first | omega | assumption | decide | (show 0 ≤ (gI z7 12).toInt ∧ (gI z7 12).toInt ≤ 400; first | omega | assumption))) (fun r14 z15 q_359 => ?_)
              have h_360 : r14 = 0 ∨ r14 = 1 := q_359.1
              have h_360i := bool_i h_360
              have h_361 : FrL [13, 16] (sI z7 12 ((gI z7 12) + 1)) z15 := q_359.2.1
              have h_362 : r14.toInt = 0 → (gI z15 13).toInt ≠ 0 := q_359.2.2.1
              have h_363 : r14.toInt = 1 → (gI z15 16).toInt = (gI z7 16).toInt + 1 ∧ (gI z15 16).toInt ≤ 60 := q_359.2.2.2
              clear q_359
              have s_364 : (gI z15 1).toInt = (gI z7 1).toInt := congrArg Int32.toInt (h_361 1 (by decide)).1
              try have e_365 : ((gI z7 12) + 1).toInt = ((gI z7 12).toInt + 1) := (i32_add rfl (show (1 : Int32).toInt = 1 by decide) (by omega) (by omega))
              have s_366 : (gI z15 12).toInt = ((gI z7 12) + 1).toInt := congrArg Int32.toInt (h_361 12 (by decide)).1
              have s_367 : (gI z15 15).toInt = (gI z7 15).toInt := congrArg Int32.toInt (h_361 15 (by decide)).1
              have s_368 : (gT z15 4 t).toInt = (gT z7 4 t).toInt := congrArg (fun f : Nat → Int32 => (f t).toInt) (h_361 4 (by decide)).2.1
              refine ok_ite (fun c_369 => ?_) (fun c_369 => ?_)
              · skip
                have r_370 := n_rng r14
                have c_369i : r14.toInt = 0 := bI_eq rfl (show (0 : Int32).toInt = 0 by decide) c_369
                have u_371 : (gI z15 13).toInt ≠ 0 := h_362 (by omega)
                try have e_372 : (0 : Int32).toInt = 0 := (show (0 : Int32).toInt = 0 by decide)
                exact ok_some ⟨Or.inl rfl, (fr_tr (fr_I (fr_tr (fr_tr fr_rf h_3 (by decide)) h_19 (by decide)) (by decide)) h_361 (by decide)), (show (gI z_t 12).toInt ≤ (gI z15 12).toInt ∧ (gI z15 12).toInt ≤ (gI z_t 1).toInt by first | omega | assumption | trivial), (kp_fr (kp_I (kp_fr (kp_tr kp_rf h_5) h_19 (by decide))) h_361 (by decide)), (show (0 : Int32).toInt = 0 → (gI z15 13).toInt ≠ 0 from fun _ => by first | omega | assumption), (show (0 : Int32).toInt = 1 → (gT z15 4 t).toInt + o ≤ (gI z15 12).toInt ∧ h + 1 ≤ (gI z15 16).toInt ∧ (gI z15 16).toInt ≤ 60 from fun q => absurd q (by decide)), (show (0 : Int32).toInt = 1 → RN z15 t b (h + 1) from fun q => absurd q (by decide))⟩
              · skip
                have r_373 := n_rng r14
                have c_369i : r14.toInt ≠ 0 := bI_neq rfl (show (0 : Int32).toInt = 0 by decide) c_369
                have u_374 : (gI z15 16).toInt = (gI z7 16).toInt + 1 ∧ (gI z15 16).toInt ≤ 60 := h_363 (by omega)
                refine ok_jn ?_
                refine ok_ite (fun c_375 => ?_) (fun c_375 => ?_)
                · skip
                  have c_375i : r6.toInt = 60 := bI_eq rfl (show (60 : Int32).toInt = 60 by decide) c_375
                  refine ok_ite (fun c_376 => ?_) (fun c_376 => ?_)
                  · skip
                    refine ok_bd2 (t_fX9_sum (t := t) (b := b) (h := h + 1) (o := o + 1) (by first | omega | assumption | decide | (show 0 ≤ (gI z15 12).toInt ∧ (gI z15 12).toInt ≤ (gI z15 1).toInt ∧ (gI z15 1).toInt ≤ 400; first | omega | assumption)) (by first | omega | assumption | decide | (show (gI z15 15).toInt = t ∧ t < 6; first | omega | assumption)) (by first | omega | assumption | decide | (show 0 ≤ (gT z15 4 t).toInt ∧ (gT z15 4 t).toInt + (o + 1) ≤ (gI z15 12).toInt; first | omega | assumption)) (by first | omega | assumption | decide | (show 0 ≤ (gI z15 16).toInt ∧ (gI z15 16).toInt ≤ 60 ∧ (h + 1) ≤ (gI z15 16).toInt; first | omega | assumption)) (rn_fr h_361 (by decide) (rn_I (rn_fr h_19 (by decide) u_17)))) (fun r20 z21 q_377 => ?_)
                    have h_378 : r20 = 0 ∨ r20 = 1 := q_377.1
                    have h_378i := bool_i h_378
                    have h_379 : FrL [3, 4, 12, 13, 14, 16] z15 z21 := q_377.2.1
                    have h_380 : (gI z15 12).toInt ≤ (gI z21 12).toInt ∧ (gI z21 12).toInt ≤ (gI z15 1).toInt := q_377.2.2.1
                    have h_381 : KP t z15 z21 := q_377.2.2.2.1
                    have h_381a : (gT z15 4 t).toInt ≤ (gT z21 4 t).toInt := h_381.1
                    have h_382 : r20.toInt = 0 → (gI z21 13).toInt ≠ 0 := q_377.2.2.2.2.1
                    have h_383 : r20.toInt = 1 → (gT z21 4 t).toInt + (o + 1) ≤ (gI z21 12).toInt ∧ (h + 1) + 1 ≤ (gI z21 16).toInt ∧ (gI z21 16).toInt ≤ 60 := q_377.2.2.2.2.2.1
                    have h_384 : r20.toInt = 1 → RN z21 t b ((h + 1) + 1) := q_377.2.2.2.2.2.2
                    clear q_377
                    have s_385 : (gI z21 1).toInt = (gI z15 1).toInt := congrArg Int32.toInt (h_379 1 (by decide)).1
                    have s_386 : (gI z21 15).toInt = (gI z15 15).toInt := congrArg Int32.toInt (h_379 15 (by decide)).1
                    refine ok_ite (fun c_387 => ?_) (fun c_387 => ?_)
                    · skip
                      have r_388 := n_rng r20
                      have c_387i : r20.toInt = 0 := bI_eq rfl (show (0 : Int32).toInt = 0 by decide) c_387
                      have u_389 : (gI z21 13).toInt ≠ 0 := h_382 (by omega)
                      try have e_390 : (0 : Int32).toInt = 0 := (show (0 : Int32).toInt = 0 by decide)
                      exact ok_some ⟨Or.inl rfl, (fr_tr (fr_tr (fr_I (fr_tr (fr_tr fr_rf h_3 (by decide)) h_19 (by decide)) (by decide)) h_361 (by decide)) h_379 (by decide)), (show (gI z_t 12).toInt ≤ (gI z21 12).toInt ∧ (gI z21 12).toInt ≤ (gI z_t 1).toInt by first | omega | assumption | trivial), (kp_tr (kp_fr (kp_I (kp_fr (kp_tr kp_rf h_5) h_19 (by decide))) h_361 (by decide)) h_381), (show (0 : Int32).toInt = 0 → (gI z21 13).toInt ≠ 0 from fun _ => by first | omega | assumption), (show (0 : Int32).toInt = 1 → (gT z21 4 t).toInt + o ≤ (gI z21 12).toInt ∧ h + 1 ≤ (gI z21 16).toInt ∧ (gI z21 16).toInt ≤ 60 from fun q => absurd q (by decide)), (show (0 : Int32).toInt = 1 → RN z21 t b (h + 1) from fun q => absurd q (by decide))⟩
                    · skip
                      have r_391 := n_rng r20
                      have c_387i : r20.toInt ≠ 0 := bI_neq rfl (show (0 : Int32).toInt = 0 by decide) c_387
                      have u_392 : (gT z21 4 t).toInt + (o + 1) ≤ (gI z21 12).toInt ∧ (h + 1) + 1 ≤ (gI z21 16).toInt ∧ (gI z21 16).toInt ≤ 60 := h_383 (by omega)
                      have u_393 : RN z21 t b ((h + 1) + 1) := h_384 (by omega)
                      have e_395 : ((6 : Int32) + 0).toInt = (6 + 0) := (i32_add (show (6 : Int32).toInt = 6 by decide) (show (0 : Int32).toInt = 0 by decide) (by omega) (by omega))
                      have e_396 : (0 : Int32).toInt = 0 := (show (0 : Int32).toInt = 0 by decide)
                      refine ok_bd (t_fX9_puts (t := t) (by first | omega | assumption | decide | (show (gI z21 15).toInt = t ∧ t < 6; first | omega | assumption)) (by first | omega | assumption | decide | (show 0 ≤ (gT z21 4 t).toInt ∧ (gT z21 4 t).toInt < 400; first | omega | assumption))) (fun z24 q_394 => ?_)
                      have h_397 : FrL [3, 4] z21 z24 := q_394.1
                      have h_398 : PUT t z21 z24 (((6 : Int32) + 0) + (16 * (0 : Int32))) := q_394.2
                      clear q_394
                      have s_399 : (gI z24 1).toInt = (gI z21 1).toInt := congrArg Int32.toInt (h_397 1 (by decide)).1
                      have s_400 : (gI z24 12).toInt = (gI z21 12).toInt := congrArg Int32.toInt (h_397 12 (by decide)).1
                      have s_401 : (gI z24 13).toInt = (gI z21 13).toInt := congrArg Int32.toInt (h_397 13 (by decide)).1
                      have s_402 : (gI z24 15).toInt = (gI z21 15).toInt := congrArg Int32.toInt (h_397 15 (by decide)).1
                      have s_403 : (gI z24 16).toInt = (gI z21 16).toInt := congrArg Int32.toInt (h_397 16 (by decide)).1
                      have h_398a := h_398.1
                      have h_398k := h_398.2.1
                      have h_398r : RN z24 t b ((h + 1)) := rn_put (by omega) h_398 u_393 (stp_bin (by omega) (by decide) (by decide) (by decide))
                      try have e_404 : (1 : Int32).toInt = 1 := (show (1 : Int32).toInt = 1 by decide)
                      exact ok_some ⟨Or.inr rfl, (fr_tr (fr_tr (fr_tr (fr_I (fr_tr (fr_tr fr_rf h_3 (by decide)) h_19 (by decide)) (by decide)) h_361 (by decide)) h_379 (by decide)) h_397 (by decide)), (show (gI z_t 12).toInt ≤ (gI z24 12).toInt ∧ (gI z24 12).toInt ≤ (gI z_t 1).toInt by first | omega | assumption | trivial), (kp_tr (kp_tr (kp_fr (kp_I (kp_fr (kp_tr kp_rf h_5) h_19 (by decide))) h_361 (by decide)) h_381) h_398k), (show (1 : Int32).toInt = 0 → (gI z24 13).toInt ≠ 0 from fun q => absurd q (by decide)), (show (1 : Int32).toInt = 1 → (gT z24 4 t).toInt + o ≤ (gI z24 12).toInt ∧ h + 1 ≤ (gI z24 16).toInt ∧ (gI z24 16).toInt ≤ 60 from fun _ => by first | omega | assumption), (fun _ => h_398r)⟩
                  · skip
                    exact absurd (by decide) c_376
                · skip
                  have c_375i : r6.toInt ≠ 60 := bI_neq rfl (show (60 : Int32).toInt = 60 by decide) c_375
                  refine ok_ite (fun c_405 => ?_) (fun c_405 => ?_)
                  · skip
                    have c_405i : r6.toInt = 61 := bI_eq rfl (show (61 : Int32).toInt = 61 by decide) c_405
                    refine ok_bd2 (t_fX9_sum (t := t) (b := b) (h := h + 1) (o := o + 1) (by first | omega | assumption | decide | (show 0 ≤ (gI z15 12).toInt ∧ (gI z15 12).toInt ≤ (gI z15 1).toInt ∧ (gI z15 1).toInt ≤ 400; first | omega | assumption)) (by first | omega | assumption | decide | (show (gI z15 15).toInt = t ∧ t < 6; first | omega | assumption)) (by first | omega | assumption | decide | (show 0 ≤ (gT z15 4 t).toInt ∧ (gT z15 4 t).toInt + (o + 1) ≤ (gI z15 12).toInt; first | omega | assumption)) (by first | omega | assumption | decide | (show 0 ≤ (gI z15 16).toInt ∧ (gI z15 16).toInt ≤ 60 ∧ (h + 1) ≤ (gI z15 16).toInt; first | omega | assumption)) (rn_fr h_361 (by decide) (rn_I (rn_fr h_19 (by decide) u_17)))) (fun r20 z21 q_406 => ?_)
                    have h_407 : r20 = 0 ∨ r20 = 1 := q_406.1
                    have h_407i := bool_i h_407
                    have h_408 : FrL [3, 4, 12, 13, 14, 16] z15 z21 := q_406.2.1
                    have h_409 : (gI z15 12).toInt ≤ (gI z21 12).toInt ∧ (gI z21 12).toInt ≤ (gI z15 1).toInt := q_406.2.2.1
                    have h_410 : KP t z15 z21 := q_406.2.2.2.1
                    have h_410a : (gT z15 4 t).toInt ≤ (gT z21 4 t).toInt := h_410.1
                    have h_411 : r20.toInt = 0 → (gI z21 13).toInt ≠ 0 := q_406.2.2.2.2.1
                    have h_412 : r20.toInt = 1 → (gT z21 4 t).toInt + (o + 1) ≤ (gI z21 12).toInt ∧ (h + 1) + 1 ≤ (gI z21 16).toInt ∧ (gI z21 16).toInt ≤ 60 := q_406.2.2.2.2.2.1
                    have h_413 : r20.toInt = 1 → RN z21 t b ((h + 1) + 1) := q_406.2.2.2.2.2.2
                    clear q_406
                    have s_414 : (gI z21 1).toInt = (gI z15 1).toInt := congrArg Int32.toInt (h_408 1 (by decide)).1
                    have s_415 : (gI z21 15).toInt = (gI z15 15).toInt := congrArg Int32.toInt (h_408 15 (by decide)).1
                    refine ok_ite (fun c_416 => ?_) (fun c_416 => ?_)
                    · skip
                      have r_417 := n_rng r20
                      have c_416i : r20.toInt = 0 := bI_eq rfl (show (0 : Int32).toInt = 0 by decide) c_416
                      have u_418 : (gI z21 13).toInt ≠ 0 := h_411 (by omega)
                      try have e_419 : (0 : Int32).toInt = 0 := (show (0 : Int32).toInt = 0 by decide)
                      exact ok_some ⟨Or.inl rfl, (fr_tr (fr_tr (fr_I (fr_tr (fr_tr fr_rf h_3 (by decide)) h_19 (by decide)) (by decide)) h_361 (by decide)) h_408 (by decide)), (show (gI z_t 12).toInt ≤ (gI z21 12).toInt ∧ (gI z21 12).toInt ≤ (gI z_t 1).toInt by first | omega | assumption | trivial), (kp_tr (kp_fr (kp_I (kp_fr (kp_tr kp_rf h_5) h_19 (by decide))) h_361 (by decide)) h_410), (show (0 : Int32).toInt = 0 → (gI z21 13).toInt ≠ 0 from fun _ => by first | omega | assumption), (show (0 : Int32).toInt = 1 → (gT z21 4 t).toInt + o ≤ (gI z21 12).toInt ∧ h + 1 ≤ (gI z21 16).toInt ∧ (gI z21 16).toInt ≤ 60 from fun q => absurd q (by decide)), (show (0 : Int32).toInt = 1 → RN z21 t b (h + 1) from fun q => absurd q (by decide))⟩
                    · skip
                      have r_420 := n_rng r20
                      have c_416i : r20.toInt ≠ 0 := bI_neq rfl (show (0 : Int32).toInt = 0 by decide) c_416
                      have u_421 : (gT z21 4 t).toInt + (o + 1) ≤ (gI z21 12).toInt ∧ (h + 1) + 1 ≤ (gI z21 16).toInt ∧ (gI z21 16).toInt ≤ 60 := h_412 (by omega)
                      have u_422 : RN z21 t b ((h + 1) + 1) := h_413 (by omega)
                      have e_424 : ((6 : Int32) + 2).toInt = (6 + 2) := (i32_add (show (6 : Int32).toInt = 6 by decide) (show (2 : Int32).toInt = 2 by decide) (by omega) (by omega))
                      have e_425 : (0 : Int32).toInt = 0 := (show (0 : Int32).toInt = 0 by decide)
                      refine ok_bd (t_fX9_puts (t := t) (by first | omega | assumption | decide | (show (gI z21 15).toInt = t ∧ t < 6; first | omega | assumption)) (by first | omega | assumption | decide | (show 0 ≤ (gT z21 4 t).toInt ∧ (gT z21 4 t).toInt < 400; first | omega | assumption))) (fun z24 q_423 => ?_)
                      have h_426 : FrL [3, 4] z21 z24 := q_423.1
                      have h_427 : PUT t z21 z24 (((6 : Int32) + 2) + (16 * (0 : Int32))) := q_423.2
                      clear q_423
                      have s_428 : (gI z24 1).toInt = (gI z21 1).toInt := congrArg Int32.toInt (h_426 1 (by decide)).1
                      have s_429 : (gI z24 12).toInt = (gI z21 12).toInt := congrArg Int32.toInt (h_426 12 (by decide)).1
                      have s_430 : (gI z24 13).toInt = (gI z21 13).toInt := congrArg Int32.toInt (h_426 13 (by decide)).1
                      have s_431 : (gI z24 15).toInt = (gI z21 15).toInt := congrArg Int32.toInt (h_426 15 (by decide)).1
                      have s_432 : (gI z24 16).toInt = (gI z21 16).toInt := congrArg Int32.toInt (h_426 16 (by decide)).1
                      have h_427a := h_427.1
                      have h_427k := h_427.2.1
                      have h_427r : RN z24 t b ((h + 1)) := rn_put (by omega) h_427 u_422 (stp_bin (by omega) (by decide) (by decide) (by decide))
                      try have e_433 : (1 : Int32).toInt = 1 := (show (1 : Int32).toInt = 1 by decide)
                      exact ok_some ⟨Or.inr rfl, (fr_tr (fr_tr (fr_tr (fr_I (fr_tr (fr_tr fr_rf h_3 (by decide)) h_19 (by decide)) (by decide)) h_361 (by decide)) h_408 (by decide)) h_426 (by decide)), (show (gI z_t 12).toInt ≤ (gI z24 12).toInt ∧ (gI z24 12).toInt ≤ (gI z_t 1).toInt by first | omega | assumption | trivial), (kp_tr (kp_tr (kp_fr (kp_I (kp_fr (kp_tr kp_rf h_5) h_19 (by decide))) h_361 (by decide)) h_410) h_427k), (show (1 : Int32).toInt = 0 → (gI z24 13).toInt ≠ 0 from fun q => absurd q (by decide)), (show (1 : Int32).toInt = 1 → (gT z24 4 t).toInt + o ≤ (gI z24 12).toInt ∧ h + 1 ≤ (gI z24 16).toInt ∧ (gI z24 16).toInt ≤ 60 from fun _ => by first | omega | assumption), (fun _ => h_427r)⟩
                  · skip
                    have c_405i : r6.toInt ≠ 61 := bI_neq rfl (show (61 : Int32).toInt = 61 by decide) c_405
                    refine ok_ite (fun c_434 => ?_) (fun c_434 => ?_)
                    · skip
                      refine ok_bd2 (t_fX9_sum (t := t) (b := b) (h := h + 1) (o := o + 1) (by first | omega | assumption | decide | (show 0 ≤ (gI z15 12).toInt ∧ (gI z15 12).toInt ≤ (gI z15 1).toInt ∧ (gI z15 1).toInt ≤ 400; first | omega | assumption)) (by first | omega | assumption | decide | (show (gI z15 15).toInt = t ∧ t < 6; first | omega | assumption)) (by first | omega | assumption | decide | (show 0 ≤ (gT z15 4 t).toInt ∧ (gT z15 4 t).toInt + (o + 1) ≤ (gI z15 12).toInt; first | omega | assumption)) (by first | omega | assumption | decide | (show 0 ≤ (gI z15 16).toInt ∧ (gI z15 16).toInt ≤ 60 ∧ (h + 1) ≤ (gI z15 16).toInt; first | omega | assumption)) (rn_fr h_361 (by decide) (rn_I (rn_fr h_19 (by decide) u_17)))) (fun r20 z21 q_435 => ?_)
                      have h_436 : r20 = 0 ∨ r20 = 1 := q_435.1
                      have h_436i := bool_i h_436
                      have h_437 : FrL [3, 4, 12, 13, 14, 16] z15 z21 := q_435.2.1
                      have h_438 : (gI z15 12).toInt ≤ (gI z21 12).toInt ∧ (gI z21 12).toInt ≤ (gI z15 1).toInt := q_435.2.2.1
                      have h_439 : KP t z15 z21 := q_435.2.2.2.1
                      have h_439a : (gT z15 4 t).toInt ≤ (gT z21 4 t).toInt := h_439.1
                      have h_440 : r20.toInt = 0 → (gI z21 13).toInt ≠ 0 := q_435.2.2.2.2.1
                      have h_441 : r20.toInt = 1 → (gT z21 4 t).toInt + (o + 1) ≤ (gI z21 12).toInt ∧ (h + 1) + 1 ≤ (gI z21 16).toInt ∧ (gI z21 16).toInt ≤ 60 := q_435.2.2.2.2.2.1
                      have h_442 : r20.toInt = 1 → RN z21 t b ((h + 1) + 1) := q_435.2.2.2.2.2.2
                      clear q_435
                      have s_443 : (gI z21 1).toInt = (gI z15 1).toInt := congrArg Int32.toInt (h_437 1 (by decide)).1
                      have s_444 : (gI z21 15).toInt = (gI z15 15).toInt := congrArg Int32.toInt (h_437 15 (by decide)).1
                      refine ok_ite (fun c_445 => ?_) (fun c_445 => ?_)
                      · skip
                        have r_446 := n_rng r20
                        have c_445i : r20.toInt = 0 := bI_eq rfl (show (0 : Int32).toInt = 0 by decide) c_445
                        have u_447 : (gI z21 13).toInt ≠ 0 := h_440 (by omega)
                        try have e_448 : (0 : Int32).toInt = 0 := (show (0 : Int32).toInt = 0 by decide)
                        exact ok_some ⟨Or.inl rfl, (fr_tr (fr_tr (fr_I (fr_tr (fr_tr fr_rf h_3 (by decide)) h_19 (by decide)) (by decide)) h_361 (by decide)) h_437 (by decide)), (show (gI z_t 12).toInt ≤ (gI z21 12).toInt ∧ (gI z21 12).toInt ≤ (gI z_t 1).toInt by first | omega | assumption | trivial), (kp_tr (kp_fr (kp_I (kp_fr (kp_tr kp_rf h_5) h_19 (by decide))) h_361 (by decide)) h_439), (show (0 : Int32).toInt = 0 → (gI z21 13).toInt ≠ 0 from fun _ => by first | omega | assumption), (show (0 : Int32).toInt = 1 → (gT z21 4 t).toInt + o ≤ (gI z21 12).toInt ∧ h + 1 ≤ (gI z21 16).toInt ∧ (gI z21 16).toInt ≤ 60 from fun q => absurd q (by decide)), (show (0 : Int32).toInt = 1 → RN z21 t b (h + 1) from fun q => absurd q (by decide))⟩
                      · skip
                        have r_449 := n_rng r20
                        have c_445i : r20.toInt ≠ 0 := bI_neq rfl (show (0 : Int32).toInt = 0 by decide) c_445
                        have u_450 : (gT z21 4 t).toInt + (o + 1) ≤ (gI z21 12).toInt ∧ (h + 1) + 1 ≤ (gI z21 16).toInt ∧ (gI z21 16).toInt ≤ 60 := h_441 (by omega)
                        have u_451 : RN z21 t b ((h + 1) + 1) := h_442 (by omega)
                        have e_453 : ((6 : Int32) + 4).toInt = (6 + 4) := (i32_add (show (6 : Int32).toInt = 6 by decide) (show (4 : Int32).toInt = 4 by decide) (by omega) (by omega))
                        have e_454 : (0 : Int32).toInt = 0 := (show (0 : Int32).toInt = 0 by decide)
                        refine ok_bd (t_fX9_puts (t := t) (by first | omega | assumption | decide | (show (gI z21 15).toInt = t ∧ t < 6; first | omega | assumption)) (by first | omega | assumption | decide | (show 0 ≤ (gT z21 4 t).toInt ∧ (gT z21 4 t).toInt < 400; first | omega | assumption))) (fun z24 q_452 => ?_)
                        have h_455 : FrL [3, 4] z21 z24 := q_452.1
                        have h_456 : PUT t z21 z24 (((6 : Int32) + 4) + (16 * (0 : Int32))) := q_452.2
                        clear q_452
                        have s_457 : (gI z24 1).toInt = (gI z21 1).toInt := congrArg Int32.toInt (h_455 1 (by decide)).1
                        have s_458 : (gI z24 12).toInt = (gI z21 12).toInt := congrArg Int32.toInt (h_455 12 (by decide)).1
                        have s_459 : (gI z24 13).toInt = (gI z21 13).toInt := congrArg Int32.toInt (h_455 13 (by decide)).1
                        have s_460 : (gI z24 15).toInt = (gI z21 15).toInt := congrArg Int32.toInt (h_455 15 (by decide)).1
                        have s_461 : (gI z24 16).toInt = (gI z21 16).toInt := congrArg Int32.toInt (h_455 16 (by decide)).1
                        have h_456a := h_456.1
                        have h_456k := h_456.2.1
                        have h_456r : RN z24 t b ((h + 1)) := rn_put (by omega) h_456 u_451 (stp_bin (by omega) (by decide) (by decide) (by decide))
                        try have e_462 : (1 : Int32).toInt = 1 := (show (1 : Int32).toInt = 1 by decide)
                        exact ok_some ⟨Or.inr rfl, (fr_tr (fr_tr (fr_tr (fr_I (fr_tr (fr_tr fr_rf h_3 (by decide)) h_19 (by decide)) (by decide)) h_361 (by decide)) h_437 (by decide)) h_455 (by decide)), (show (gI z_t 12).toInt ≤ (gI z24 12).toInt ∧ (gI z24 12).toInt ≤ (gI z_t 1).toInt by first | omega | assumption | trivial), (kp_tr (kp_tr (kp_fr (kp_I (kp_fr (kp_tr kp_rf h_5) h_19 (by decide))) h_361 (by decide)) h_439) h_456k), (show (1 : Int32).toInt = 0 → (gI z24 13).toInt ≠ 0 from fun q => absurd q (by decide)), (show (1 : Int32).toInt = 1 → (gT z24 4 t).toInt + o ≤ (gI z24 12).toInt ∧ h + 1 ≤ (gI z24 16).toInt ∧ (gI z24 16).toInt ≤ 60 from fun _ => by first | omega | assumption), (fun _ => h_456r)⟩
                    · skip
                      exact absurd (by decide) c_434
            · skip
              exact absurd (by decide) c_358
    · skip
      have r_463 := n_rng r6
      have c_29i : r6.toInt ≠ 60 := bI_neq rfl (show (60 : Int32).toInt = 60 by decide) c_29
      refine ok_ite (fun c_464 => ?_) (fun c_464 => ?_)
      · skip
        have c_464i : r6.toInt = 61 := bI_eq rfl (show (61 : Int32).toInt = 61 by decide) c_464
        refine ok_jn ?_
        refine ok_jn ?_
        refine ok_ite (fun c_465 => ?_) (fun c_465 => ?_)
        · skip
          have c_465i : r6.toInt = 61 := bI_eq rfl (show (61 : Int32).toInt = 61 by decide) c_465
          refine ok_jn ?_
          refine ok_ite (fun c_466 => ?_) (fun c_466 => ?_)
          · skip
            refine ok_bd2 (t_fX9_makes (by first | omega | assumption | decide | (show 0 ≤ (gI z7 16).toInt ∧ (gI z7 16).toInt ≤ 60; first | omega | assumption)) (by first | omega | assumption | decide | (show 0 ≤ (gI z7 12).toInt ∧ (gI z7 12).toInt ≤ 400; first | omega | assumption))) (fun r14 z15 q_467 => ?_)
            have h_468 : r14 = 0 ∨ r14 = 1 := q_467.1
            have h_468i := bool_i h_468
            have h_469 : FrL [13, 16] (sI z7 12 ((gI z7 12) + 1)) z15 := q_467.2.1
            have h_470 : r14.toInt = 0 → (gI z15 13).toInt ≠ 0 := q_467.2.2.1
            have h_471 : r14.toInt = 1 → (gI z15 16).toInt = (gI z7 16).toInt + 1 ∧ (gI z15 16).toInt ≤ 60 := q_467.2.2.2
            clear q_467
            have s_472 : (gI z15 1).toInt = (gI z7 1).toInt := congrArg Int32.toInt (h_469 1 (by decide)).1
            have r_473 := n_rng (gI z7 12)
            try have e_474 : ((gI z7 12) + 1).toInt = ((gI z7 12).toInt + 1) := (i32_add rfl (show (1 : Int32).toInt = 1 by decide) (by omega) (by omega))
            have s_475 : (gI z15 12).toInt = ((gI z7 12) + 1).toInt := congrArg Int32.toInt (h_469 12 (by decide)).1
            have s_476 : (gI z15 15).toInt = (gI z7 15).toInt := congrArg Int32.toInt (h_469 15 (by decide)).1
            have s_477 : (gT z15 4 t).toInt = (gT z7 4 t).toInt := congrArg (fun f : Nat → Int32 => (f t).toInt) (h_469 4 (by decide)).2.1
            refine ok_ite (fun c_478 => ?_) (fun c_478 => ?_)
            · skip
              have r_479 := n_rng r14
              have c_478i : r14.toInt = 0 := bI_eq rfl (show (0 : Int32).toInt = 0 by decide) c_478
              have u_480 : (gI z15 13).toInt ≠ 0 := h_470 (by omega)
              try have e_481 : (0 : Int32).toInt = 0 := (show (0 : Int32).toInt = 0 by decide)
              exact ok_some ⟨Or.inl rfl, (fr_tr (fr_I (fr_tr (fr_tr fr_rf h_3 (by decide)) h_19 (by decide)) (by decide)) h_469 (by decide)), (show (gI z_t 12).toInt ≤ (gI z15 12).toInt ∧ (gI z15 12).toInt ≤ (gI z_t 1).toInt by first | omega | assumption | trivial), (kp_fr (kp_I (kp_fr (kp_tr kp_rf h_5) h_19 (by decide))) h_469 (by decide)), (show (0 : Int32).toInt = 0 → (gI z15 13).toInt ≠ 0 from fun _ => by first | omega | assumption), (show (0 : Int32).toInt = 1 → (gT z15 4 t).toInt + o ≤ (gI z15 12).toInt ∧ h + 1 ≤ (gI z15 16).toInt ∧ (gI z15 16).toInt ≤ 60 from fun q => absurd q (by decide)), (show (0 : Int32).toInt = 1 → RN z15 t b (h + 1) from fun q => absurd q (by decide))⟩
            · skip
              have r_482 := n_rng r14
              have c_478i : r14.toInt ≠ 0 := bI_neq rfl (show (0 : Int32).toInt = 0 by decide) c_478
              have u_483 : (gI z15 16).toInt = (gI z7 16).toInt + 1 ∧ (gI z15 16).toInt ≤ 60 := h_471 (by omega)
              refine ok_jn ?_
              refine ok_ite (fun c_484 => ?_) (fun c_484 => ?_)
              · skip
                have c_484i : r6.toInt = 60 := bI_eq rfl (show (60 : Int32).toInt = 60 by decide) c_484
                refine ok_ite (fun c_485 => ?_) (fun c_485 => ?_)
                · skip
                  refine ok_bd2 (t_fX9_sum (t := t) (b := b) (h := h + 1) (o := o + 1) (by first | omega | assumption | decide | (show 0 ≤ (gI z15 12).toInt ∧ (gI z15 12).toInt ≤ (gI z15 1).toInt ∧ (gI z15 1).toInt ≤ 400; first | omega | assumption)) (by first | omega | assumption | decide | (show (gI z15 15).toInt = t ∧ t < 6; first | omega | assumption)) (by first | omega | assumption | decide | (show 0 ≤ (gT z15 4 t).toInt ∧ (gT z15 4 t).toInt + (o + 1) ≤ (gI z15 12).toInt; first | omega | assumption)) (by first | omega | assumption | decide | (show 0 ≤ (gI z15 16).toInt ∧ (gI z15 16).toInt ≤ 60 ∧ (h + 1) ≤ (gI z15 16).toInt; first | omega | assumption)) (rn_fr h_469 (by decide) (rn_I (rn_fr h_19 (by decide) u_17)))) (fun r20 z21 q_486 => ?_)
                  have h_487 : r20 = 0 ∨ r20 = 1 := q_486.1
                  have h_487i := bool_i h_487
                  have h_488 : FrL [3, 4, 12, 13, 14, 16] z15 z21 := q_486.2.1
                  have h_489 : (gI z15 12).toInt ≤ (gI z21 12).toInt ∧ (gI z21 12).toInt ≤ (gI z15 1).toInt := q_486.2.2.1
                  have h_490 : KP t z15 z21 := q_486.2.2.2.1
                  have h_490a : (gT z15 4 t).toInt ≤ (gT z21 4 t).toInt := h_490.1
                  have h_491 : r20.toInt = 0 → (gI z21 13).toInt ≠ 0 := q_486.2.2.2.2.1
                  have h_492 : r20.toInt = 1 → (gT z21 4 t).toInt + (o + 1) ≤ (gI z21 12).toInt ∧ (h + 1) + 1 ≤ (gI z21 16).toInt ∧ (gI z21 16).toInt ≤ 60 := q_486.2.2.2.2.2.1
                  have h_493 : r20.toInt = 1 → RN z21 t b ((h + 1) + 1) := q_486.2.2.2.2.2.2
                  clear q_486
                  have s_494 : (gI z21 1).toInt = (gI z15 1).toInt := congrArg Int32.toInt (h_488 1 (by decide)).1
                  have s_495 : (gI z21 15).toInt = (gI z15 15).toInt := congrArg Int32.toInt (h_488 15 (by decide)).1
                  refine ok_ite (fun c_496 => ?_) (fun c_496 => ?_)
                  · skip
                    have r_497 := n_rng r20
                    have c_496i : r20.toInt = 0 := bI_eq rfl (show (0 : Int32).toInt = 0 by decide) c_496
                    have u_498 : (gI z21 13).toInt ≠ 0 := h_491 (by omega)
                    try have e_499 : (0 : Int32).toInt = 0 := (show (0 : Int32).toInt = 0 by decide)
                    exact ok_some ⟨Or.inl rfl, (fr_tr (fr_tr (fr_I (fr_tr (fr_tr fr_rf h_3 (by decide)) h_19 (by decide)) (by decide)) h_469 (by decide)) h_488 (by decide)), (show (gI z_t 12).toInt ≤ (gI z21 12).toInt ∧ (gI z21 12).toInt ≤ (gI z_t 1).toInt by first | omega | assumption | trivial), (kp_tr (kp_fr (kp_I (kp_fr (kp_tr kp_rf h_5) h_19 (by decide))) h_469 (by decide)) h_490), (show (0 : Int32).toInt = 0 → (gI z21 13).toInt ≠ 0 from fun _ => by first | omega | assumption), (show (0 : Int32).toInt = 1 → (gT z21 4 t).toInt + o ≤ (gI z21 12).toInt ∧ h + 1 ≤ (gI z21 16).toInt ∧ (gI z21 16).toInt ≤ 60 from fun q => absurd q (by decide)), (show (0 : Int32).toInt = 1 → RN z21 t b (h + 1) from fun q => absurd q (by decide))⟩
                  · skip
                    have r_500 := n_rng r20
                    have c_496i : r20.toInt ≠ 0 := bI_neq rfl (show (0 : Int32).toInt = 0 by decide) c_496
                    have u_501 : (gT z21 4 t).toInt + (o + 1) ≤ (gI z21 12).toInt ∧ (h + 1) + 1 ≤ (gI z21 16).toInt ∧ (gI z21 16).toInt ≤ 60 := h_492 (by omega)
                    have u_502 : RN z21 t b ((h + 1) + 1) := h_493 (by omega)
                    have e_504 : ((6 : Int32) + 0).toInt = (6 + 0) := (i32_add (show (6 : Int32).toInt = 6 by decide) (show (0 : Int32).toInt = 0 by decide) (by omega) (by omega))
                    have e_505 : (0 : Int32).toInt = 0 := (show (0 : Int32).toInt = 0 by decide)
                    refine ok_bd (t_fX9_puts (t := t) (by first | omega | assumption | decide | (show (gI z21 15).toInt = t ∧ t < 6; first | omega | assumption)) (by first | omega | assumption | decide | (show 0 ≤ (gT z21 4 t).toInt ∧ (gT z21 4 t).toInt < 400; first | omega | assumption))) (fun z24 q_503 => ?_)
                    have h_506 : FrL [3, 4] z21 z24 := q_503.1
                    have h_507 : PUT t z21 z24 (((6 : Int32) + 0) + (16 * (0 : Int32))) := q_503.2
                    clear q_503
                    have s_508 : (gI z24 1).toInt = (gI z21 1).toInt := congrArg Int32.toInt (h_506 1 (by decide)).1
                    have s_509 : (gI z24 12).toInt = (gI z21 12).toInt := congrArg Int32.toInt (h_506 12 (by decide)).1
                    have s_510 : (gI z24 13).toInt = (gI z21 13).toInt := congrArg Int32.toInt (h_506 13 (by decide)).1
                    have s_511 : (gI z24 15).toInt = (gI z21 15).toInt := congrArg Int32.toInt (h_506 15 (by decide)).1
                    have s_512 : (gI z24 16).toInt = (gI z21 16).toInt := congrArg Int32.toInt (h_506 16 (by decide)).1
                    have h_507a := h_507.1
                    have h_507k := h_507.2.1
                    have h_507r : RN z24 t b ((h + 1)) := rn_put (by omega) h_507 u_502 (stp_bin (by omega) (by decide) (by decide) (by decide))
                    try have e_513 : (1 : Int32).toInt = 1 := (show (1 : Int32).toInt = 1 by decide)
                    exact ok_some ⟨Or.inr rfl, (fr_tr (fr_tr (fr_tr (fr_I (fr_tr (fr_tr fr_rf h_3 (by decide)) h_19 (by decide)) (by decide)) h_469 (by decide)) h_488 (by decide)) h_506 (by decide)), (show (gI z_t 12).toInt ≤ (gI z24 12).toInt ∧ (gI z24 12).toInt ≤ (gI z_t 1).toInt by first | omega | assumption | trivial), (kp_tr (kp_tr (kp_fr (kp_I (kp_fr (kp_tr kp_rf h_5) h_19 (by decide))) h_469 (by decide)) h_490) h_507k), (show (1 : Int32).toInt = 0 → (gI z24 13).toInt ≠ 0 from fun q => absurd q (by decide)), (show (1 : Int32).toInt = 1 → (gT z24 4 t).toInt + o ≤ (gI z24 12).toInt ∧ h + 1 ≤ (gI z24 16).toInt ∧ (gI z24 16).toInt ≤ 60 from fun _ => by first | omega | assumption), (fun _ => h_507r)⟩
                · skip
                  exact absurd (by decide) c_485
              · skip
                have c_484i : r6.toInt ≠ 60 := bI_neq rfl (show (60 : Int32).toInt = 60 by decide) c_484
                refine ok_ite (fun c_514 => ?_) (fun c_514 => ?_)
                · skip
                  have c_514i : r6.toInt = 61 := bI_eq rfl (show (61 : Int32).toInt = 61 by decide) c_514
                  refine ok_bd2 (t_fX9_sum (t := t) (b := b) (h := h + 1) (o := o + 1) (by first | omega | assumption | decide | (show 0 ≤ (gI z15 12).toInt ∧ (gI z15 12).toInt ≤ (gI z15 1).toInt ∧ (gI z15 1).toInt ≤ 400; first | omega | assumption)) (by first | omega | assumption | decide | (show (gI z15 15).toInt = t ∧ t < 6; first | omega | assumption)) (by first | omega | assumption | decide | (show 0 ≤ (gT z15 4 t).toInt ∧ (gT z15 4 t).toInt + (o + 1) ≤ (gI z15 12).toInt; first | omega | assumption)) (by first | omega | assumption | decide | (show 0 ≤ (gI z15 16).toInt ∧ (gI z15 16).toInt ≤ 60 ∧ (h + 1) ≤ (gI z15 16).toInt; first | omega | assumption)) (rn_fr h_469 (by decide) (rn_I (rn_fr h_19 (by decide) u_17)))) (fun r20 z21 q_515 => ?_)
                  have h_516 : r20 = 0 ∨ r20 = 1 := q_515.1
                  have h_516i := bool_i h_516
                  have h_517 : FrL [3, 4, 12, 13, 14, 16] z15 z21 := q_515.2.1
                  have h_518 : (gI z15 12).toInt ≤ (gI z21 12).toInt ∧ (gI z21 12).toInt ≤ (gI z15 1).toInt := q_515.2.2.1
                  have h_519 : KP t z15 z21 := q_515.2.2.2.1
                  have h_519a : (gT z15 4 t).toInt ≤ (gT z21 4 t).toInt := h_519.1
                  have h_520 : r20.toInt = 0 → (gI z21 13).toInt ≠ 0 := q_515.2.2.2.2.1
                  have h_521 : r20.toInt = 1 → (gT z21 4 t).toInt + (o + 1) ≤ (gI z21 12).toInt ∧ (h + 1) + 1 ≤ (gI z21 16).toInt ∧ (gI z21 16).toInt ≤ 60 := q_515.2.2.2.2.2.1
                  have h_522 : r20.toInt = 1 → RN z21 t b ((h + 1) + 1) := q_515.2.2.2.2.2.2
                  clear q_515
                  have s_523 : (gI z21 1).toInt = (gI z15 1).toInt := congrArg Int32.toInt (h_517 1 (by decide)).1
                  have s_524 : (gI z21 15).toInt = (gI z15 15).toInt := congrArg Int32.toInt (h_517 15 (by decide)).1
                  refine ok_ite (fun c_525 => ?_) (fun c_525 => ?_)
                  · skip
                    have r_526 := n_rng r20
                    have c_525i : r20.toInt = 0 := bI_eq rfl (show (0 : Int32).toInt = 0 by decide) c_525
                    have u_527 : (gI z21 13).toInt ≠ 0 := h_520 (by omega)
                    try have e_528 : (0 : Int32).toInt = 0 := (show (0 : Int32).toInt = 0 by decide)
                    exact ok_some ⟨Or.inl rfl, (fr_tr (fr_tr (fr_I (fr_tr (fr_tr fr_rf h_3 (by decide)) h_19 (by decide)) (by decide)) h_469 (by decide)) h_517 (by decide)), (show (gI z_t 12).toInt ≤ (gI z21 12).toInt ∧ (gI z21 12).toInt ≤ (gI z_t 1).toInt by first | omega | assumption | trivial), (kp_tr (kp_fr (kp_I (kp_fr (kp_tr kp_rf h_5) h_19 (by decide))) h_469 (by decide)) h_519), (show (0 : Int32).toInt = 0 → (gI z21 13).toInt ≠ 0 from fun _ => by first | omega | assumption), (show (0 : Int32).toInt = 1 → (gT z21 4 t).toInt + o ≤ (gI z21 12).toInt ∧ h + 1 ≤ (gI z21 16).toInt ∧ (gI z21 16).toInt ≤ 60 from fun q => absurd q (by decide)), (show (0 : Int32).toInt = 1 → RN z21 t b (h + 1) from fun q => absurd q (by decide))⟩
                  · skip
                    have r_529 := n_rng r20
                    have c_525i : r20.toInt ≠ 0 := bI_neq rfl (show (0 : Int32).toInt = 0 by decide) c_525
                    have u_530 : (gT z21 4 t).toInt + (o + 1) ≤ (gI z21 12).toInt ∧ (h + 1) + 1 ≤ (gI z21 16).toInt ∧ (gI z21 16).toInt ≤ 60 := h_521 (by omega)
                    have u_531 : RN z21 t b ((h + 1) + 1) := h_522 (by omega)
                    have e_533 : ((6 : Int32) + 2).toInt = (6 + 2) := (i32_add (show (6 : Int32).toInt = 6 by decide) (show (2 : Int32).toInt = 2 by decide) (by omega) (by omega))
                    have e_534 : (0 : Int32).toInt = 0 := (show (0 : Int32).toInt = 0 by decide)
                    refine ok_bd (t_fX9_puts (t := t) (by first | omega | assumption | decide | (show (gI z21 15).toInt = t ∧ t < 6; first | omega | assumption)) (by first | omega | assumption | decide | (show 0 ≤ (gT z21 4 t).toInt ∧ (gT z21 4 t).toInt < 400; first | omega | assumption))) (fun z24 q_532 => ?_)
                    have h_535 : FrL [3, 4] z21 z24 := q_532.1
                    have h_536 : PUT t z21 z24 (((6 : Int32) + 2) + (16 * (0 : Int32))) := q_532.2
                    clear q_532
                    have s_537 : (gI z24 1).toInt = (gI z21 1).toInt := congrArg Int32.toInt (h_535 1 (by decide)).1
                    have s_538 : (gI z24 12).toInt = (gI z21 12).toInt := congrArg Int32.toInt (h_535 12 (by decide)).1
                    have s_539 : (gI z24 13).toInt = (gI z21 13).toInt := congrArg Int32.toInt (h_535 13 (by decide)).1
                    have s_540 : (gI z24 15).toInt = (gI z21 15).toInt := congrArg Int32.toInt (h_535 15 (by decide)).1
                    have s_541 : (gI z24 16).toInt = (gI z21 16).toInt := congrArg Int32.toInt (h_535 16 (by decide)).1
                    have h_536a := h_536.1
                    have h_536k := h_536.2.1
                    have h_536r : RN z24 t b ((h + 1)) := rn_put (by omega) h_536 u_531 (stp_bin (by omega) (by decide) (by decide) (by decide))
                    try have e_542 : (1 : Int32).toInt = 1 := (show (1 : Int32).toInt = 1 by decide)
                    exact ok_some ⟨Or.inr rfl, (fr_tr (fr_tr (fr_tr (fr_I (fr_tr (fr_tr fr_rf h_3 (by decide)) h_19 (by decide)) (by decide)) h_469 (by decide)) h_517 (by decide)) h_535 (by decide)), (show (gI z_t 12).toInt ≤ (gI z24 12).toInt ∧ (gI z24 12).toInt ≤ (gI z_t 1).toInt by first | omega | assumption | trivial), (kp_tr (kp_tr (kp_fr (kp_I (kp_fr (kp_tr kp_rf h_5) h_19 (by decide))) h_469 (by decide)) h_519) h_536k), (show (1 : Int32).toInt = 0 → (gI z24 13).toInt ≠ 0 from fun q => absurd q (by decide)), (show (1 : Int32).toInt = 1 → (gT z24 4 t).toInt + o ≤ (gI z24 12).toInt ∧ h + 1 ≤ (gI z24 16).toInt ∧ (gI z24 16).toInt ≤ 60 from fun _ => by first | omega | assumption), (fun _ => h_536r)⟩
                · skip
                  have c_514i : r6.toInt ≠ 61 := bI_neq rfl (show (61 : Int32).toInt = 61 by decide) c_514
                  refine ok_ite (fun c_543 => ?_) (fun c_543 => ?_)
                  · skip
                    refine ok_bd2 (t_fX9_sum (t := t) (b := b) (h := h + 1) (o := o + 1) (by first | omega | assumption | decide | (show 0 ≤ (gI z15 12).toInt ∧ (gI z15 12).toInt ≤ (gI z15 1).toInt ∧ (gI z15 1).toInt ≤ 400; first | omega | assumption)) (by first | omega | assumption | decide | (show (gI z15 15).toInt = t ∧ t < 6; first | omega | assumption)) (by first | omega | assumption | decide | (show 0 ≤ (gT z15 4 t).toInt ∧ (gT z15 4 t).toInt + (o + 1) ≤ (gI z15 12).toInt; first | omega | assumption)) (by first | omega | assumption | decide | (show 0 ≤ (gI z15 16).toInt ∧ (gI z15 16).toInt ≤ 60 ∧ (h + 1) ≤ (gI z15 16).toInt; first | omega | assumption)) (rn_fr h_469 (by decide) (rn_I (rn_fr h_19 (by decide) u_17)))) (fun r20 z21 q_544 => ?_)
                    have h_545 : r20 = 0 ∨ r20 = 1 := q_544.1
                    have h_545i := bool_i h_545
                    have h_546 : FrL [3, 4, 12, 13, 14, 16] z15 z21 := q_544.2.1
                    have h_547 : (gI z15 12).toInt ≤ (gI z21 12).toInt ∧ (gI z21 12).toInt ≤ (gI z15 1).toInt := q_544.2.2.1
                    have h_548 : KP t z15 z21 := q_544.2.2.2.1
                    have h_548a : (gT z15 4 t).toInt ≤ (gT z21 4 t).toInt := h_548.1
                    have h_549 : r20.toInt = 0 → (gI z21 13).toInt ≠ 0 := q_544.2.2.2.2.1
                    have h_550 : r20.toInt = 1 → (gT z21 4 t).toInt + (o + 1) ≤ (gI z21 12).toInt ∧ (h + 1) + 1 ≤ (gI z21 16).toInt ∧ (gI z21 16).toInt ≤ 60 := q_544.2.2.2.2.2.1
                    have h_551 : r20.toInt = 1 → RN z21 t b ((h + 1) + 1) := q_544.2.2.2.2.2.2
                    clear q_544
                    have s_552 : (gI z21 1).toInt = (gI z15 1).toInt := congrArg Int32.toInt (h_546 1 (by decide)).1
                    have s_553 : (gI z21 15).toInt = (gI z15 15).toInt := congrArg Int32.toInt (h_546 15 (by decide)).1
                    refine ok_ite (fun c_554 => ?_) (fun c_554 => ?_)
                    · skip
                      have r_555 := n_rng r20
                      have c_554i : r20.toInt = 0 := bI_eq rfl (show (0 : Int32).toInt = 0 by decide) c_554
                      have u_556 : (gI z21 13).toInt ≠ 0 := h_549 (by omega)
                      try have e_557 : (0 : Int32).toInt = 0 := (show (0 : Int32).toInt = 0 by decide)
                      exact ok_some ⟨Or.inl rfl, (fr_tr (fr_tr (fr_I (fr_tr (fr_tr fr_rf h_3 (by decide)) h_19 (by decide)) (by decide)) h_469 (by decide)) h_546 (by decide)), (show (gI z_t 12).toInt ≤ (gI z21 12).toInt ∧ (gI z21 12).toInt ≤ (gI z_t 1).toInt by first | omega | assumption | trivial), (kp_tr (kp_fr (kp_I (kp_fr (kp_tr kp_rf h_5) h_19 (by decide))) h_469 (by decide)) h_548), (show (0 : Int32).toInt = 0 → (gI z21 13).toInt ≠ 0 from fun _ => by first | omega | assumption), (show (0 : Int32).toInt = 1 → (gT z21 4 t).toInt + o ≤ (gI z21 12).toInt ∧ h + 1 ≤ (gI z21 16).toInt ∧ (gI z21 16).toInt ≤ 60 from fun q => absurd q (by decide)), (show (0 : Int32).toInt = 1 → RN z21 t b (h + 1) from fun q => absurd q (by decide))⟩
                    · skip
                      have r_558 := n_rng r20
                      have c_554i : r20.toInt ≠ 0 := bI_neq rfl (show (0 : Int32).toInt = 0 by decide) c_554
                      have u_559 : (gT z21 4 t).toInt + (o + 1) ≤ (gI z21 12).toInt ∧ (h + 1) + 1 ≤ (gI z21 16).toInt ∧ (gI z21 16).toInt ≤ 60 := h_550 (by omega)
                      have u_560 : RN z21 t b ((h + 1) + 1) := h_551 (by omega)
                      have e_562 : ((6 : Int32) + 4).toInt = (6 + 4) := (i32_add (show (6 : Int32).toInt = 6 by decide) (show (4 : Int32).toInt = 4 by decide) (by omega) (by omega))
                      have e_563 : (0 : Int32).toInt = 0 := (show (0 : Int32).toInt = 0 by decide)
                      refine ok_bd (t_fX9_puts (t := t) (by first | omega | assumption | decide | (show (gI z21 15).toInt = t ∧ t < 6; first | omega | assumption)) (by first | omega | assumption | decide | (show 0 ≤ (gT z21 4 t).toInt ∧ (gT z21 4 t).toInt < 400; first | omega | assumption))) (fun z24 q_561 => ?_)
                      have h_564 : FrL [3, 4] z21 z24 := q_561.1
                      have h_565 : PUT t z21 z24 (((6 : Int32) + 4) + (16 * (0 : Int32))) := q_561.2
                      clear q_561
                      have s_566 : (gI z24 1).toInt = (gI z21 1).toInt := congrArg Int32.toInt (h_564 1 (by decide)).1
                      have s_567 : (gI z24 12).toInt = (gI z21 12).toInt := congrArg Int32.toInt (h_564 12 (by decide)).1
                      have s_568 : (gI z24 13).toInt = (gI z21 13).toInt := congrArg Int32.toInt (h_564 13 (by decide)).1
                      have s_569 : (gI z24 15).toInt = (gI z21 15).toInt := congrArg Int32.toInt (h_564 15 (by decide)).1
                      have s_570 : (gI z24 16).toInt = (gI z21 16).toInt := congrArg Int32.toInt (h_564 16 (by decide)).1
                      have h_565a := h_565.1
                      have h_565k := h_565.2.1
                      have h_565r : RN z24 t b ((h + 1)) := rn_put (by omega) h_565 u_560 (stp_bin (by omega) (by decide) (by decide) (by decide))
                      try have e_571 : (1 : Int32).toInt = 1 := (show (1 : Int32).toInt = 1 by decide)
                      exact ok_some ⟨Or.inr rfl, (fr_tr (fr_tr (fr_tr (fr_I (fr_tr (fr_tr fr_rf h_3 (by decide)) h_19 (by decide)) (by decide)) h_469 (by decide)) h_546 (by decide)) h_564 (by decide)), (show (gI z_t 12).toInt ≤ (gI z24 12).toInt ∧ (gI z24 12).toInt ≤ (gI z_t 1).toInt by first | omega | assumption | trivial), (kp_tr (kp_tr (kp_fr (kp_I (kp_fr (kp_tr kp_rf h_5) h_19 (by decide))) h_469 (by decide)) h_548) h_565k), (show (1 : Int32).toInt = 0 → (gI z24 13).toInt ≠ 0 from fun q => absurd q (by decide)), (show (1 : Int32).toInt = 1 → (gT z24 4 t).toInt + o ≤ (gI z24 12).toInt ∧ h + 1 ≤ (gI z24 16).toInt ∧ (gI z24 16).toInt ≤ 60 from fun _ => by first | omega | assumption), (fun _ => h_565r)⟩
                  · skip
                    exact absurd (by decide) c_543
          · skip
            exact absurd (by decide) c_466
        · skip
          have c_465i : r6.toInt ≠ 61 := bI_neq rfl (show (61 : Int32).toInt = 61 by decide) c_465
          refine ok_ite (fun c_572 => ?_) (fun c_572 => ?_)
          · skip
            have r_573 := n_rng (gI z7 1)
            have r_574 := n_rng (gI z7 12)
            try have c_572i : (gI z7 1).toInt ≤ ((gI z7 12).toInt + 1) := bI_le rfl (i32_add rfl (show (1 : Int32).toInt = 1 by decide) (by omega) (by omega)) c_572
            refine ok_jn ?_
            refine ok_ite (fun c_575 => ?_) (fun c_575 => ?_)
            · skip
              refine ok_bd2 (t_fX9_makes (by first | omega | assumption | decide | (show 0 ≤ (gI z7 16).toInt ∧ (gI z7 16).toInt ≤ 60; first | omega | assumption)) (by first | omega | assumption | decide | (show 0 ≤ (gI z7 12).toInt ∧ (gI z7 12).toInt ≤ 400; first | omega | assumption))) (fun r14 z15 q_576 => ?_)
              have h_577 : r14 = 0 ∨ r14 = 1 := q_576.1
              have h_577i := bool_i h_577
              have h_578 : FrL [13, 16] (sI z7 12 ((gI z7 12) + 1)) z15 := q_576.2.1
              have h_579 : r14.toInt = 0 → (gI z15 13).toInt ≠ 0 := q_576.2.2.1
              have h_580 : r14.toInt = 1 → (gI z15 16).toInt = (gI z7 16).toInt + 1 ∧ (gI z15 16).toInt ≤ 60 := q_576.2.2.2
              clear q_576
              have s_581 : (gI z15 1).toInt = (gI z7 1).toInt := congrArg Int32.toInt (h_578 1 (by decide)).1
              try have e_582 : ((gI z7 12) + 1).toInt = ((gI z7 12).toInt + 1) := (i32_add rfl (show (1 : Int32).toInt = 1 by decide) (by omega) (by omega))
              have s_583 : (gI z15 12).toInt = ((gI z7 12) + 1).toInt := congrArg Int32.toInt (h_578 12 (by decide)).1
              have s_584 : (gI z15 15).toInt = (gI z7 15).toInt := congrArg Int32.toInt (h_578 15 (by decide)).1
              have s_585 : (gT z15 4 t).toInt = (gT z7 4 t).toInt := congrArg (fun f : Nat → Int32 => (f t).toInt) (h_578 4 (by decide)).2.1
              refine ok_ite (fun c_586 => ?_) (fun c_586 => ?_)
              · skip
                have r_587 := n_rng r14
                have c_586i : r14.toInt = 0 := bI_eq rfl (show (0 : Int32).toInt = 0 by decide) c_586
                have u_588 : (gI z15 13).toInt ≠ 0 := h_579 (by omega)
                try have e_589 : (0 : Int32).toInt = 0 := (show (0 : Int32).toInt = 0 by decide)
                exact ok_some ⟨Or.inl rfl, (fr_tr (fr_I (fr_tr (fr_tr fr_rf h_3 (by decide)) h_19 (by decide)) (by decide)) h_578 (by decide)), (show (gI z_t 12).toInt ≤ (gI z15 12).toInt ∧ (gI z15 12).toInt ≤ (gI z_t 1).toInt by first | omega | assumption | trivial), (kp_fr (kp_I (kp_fr (kp_tr kp_rf h_5) h_19 (by decide))) h_578 (by decide)), (show (0 : Int32).toInt = 0 → (gI z15 13).toInt ≠ 0 from fun _ => by first | omega | assumption), (show (0 : Int32).toInt = 1 → (gT z15 4 t).toInt + o ≤ (gI z15 12).toInt ∧ h + 1 ≤ (gI z15 16).toInt ∧ (gI z15 16).toInt ≤ 60 from fun q => absurd q (by decide)), (show (0 : Int32).toInt = 1 → RN z15 t b (h + 1) from fun q => absurd q (by decide))⟩
              · skip
                have r_590 := n_rng r14
                have c_586i : r14.toInt ≠ 0 := bI_neq rfl (show (0 : Int32).toInt = 0 by decide) c_586
                have u_591 : (gI z15 16).toInt = (gI z7 16).toInt + 1 ∧ (gI z15 16).toInt ≤ 60 := h_580 (by omega)
                refine ok_jn ?_
                refine ok_ite (fun c_592 => ?_) (fun c_592 => ?_)
                · skip
                  have c_592i : r6.toInt = 60 := bI_eq rfl (show (60 : Int32).toInt = 60 by decide) c_592
                  refine ok_ite (fun c_593 => ?_) (fun c_593 => ?_)
                  · skip
                    refine ok_bd2 (t_fX9_sum (t := t) (b := b) (h := h + 1) (o := o + 1) (by first | omega | assumption | decide | (show 0 ≤ (gI z15 12).toInt ∧ (gI z15 12).toInt ≤ (gI z15 1).toInt ∧ (gI z15 1).toInt ≤ 400; first | omega | assumption)) (by first | omega | assumption | decide | (show (gI z15 15).toInt = t ∧ t < 6; first | omega | assumption)) (by first | omega | assumption | decide | (show 0 ≤ (gT z15 4 t).toInt ∧ (gT z15 4 t).toInt + (o + 1) ≤ (gI z15 12).toInt; first | omega | assumption)) (by first | omega | assumption | decide | (show 0 ≤ (gI z15 16).toInt ∧ (gI z15 16).toInt ≤ 60 ∧ (h + 1) ≤ (gI z15 16).toInt; first | omega | assumption)) (rn_fr h_578 (by decide) (rn_I (rn_fr h_19 (by decide) u_17)))) (fun r20 z21 q_594 => ?_)
                    have h_595 : r20 = 0 ∨ r20 = 1 := q_594.1
                    have h_595i := bool_i h_595
                    have h_596 : FrL [3, 4, 12, 13, 14, 16] z15 z21 := q_594.2.1
                    have h_597 : (gI z15 12).toInt ≤ (gI z21 12).toInt ∧ (gI z21 12).toInt ≤ (gI z15 1).toInt := q_594.2.2.1
                    have h_598 : KP t z15 z21 := q_594.2.2.2.1
                    have h_598a : (gT z15 4 t).toInt ≤ (gT z21 4 t).toInt := h_598.1
                    have h_599 : r20.toInt = 0 → (gI z21 13).toInt ≠ 0 := q_594.2.2.2.2.1
                    have h_600 : r20.toInt = 1 → (gT z21 4 t).toInt + (o + 1) ≤ (gI z21 12).toInt ∧ (h + 1) + 1 ≤ (gI z21 16).toInt ∧ (gI z21 16).toInt ≤ 60 := q_594.2.2.2.2.2.1
                    have h_601 : r20.toInt = 1 → RN z21 t b ((h + 1) + 1) := q_594.2.2.2.2.2.2
                    clear q_594
                    have s_602 : (gI z21 1).toInt = (gI z15 1).toInt := congrArg Int32.toInt (h_596 1 (by decide)).1
                    have s_603 : (gI z21 15).toInt = (gI z15 15).toInt := congrArg Int32.toInt (h_596 15 (by decide)).1
                    refine ok_ite (fun c_604 => ?_) (fun c_604 => ?_)
                    · skip
                      have r_605 := n_rng r20
                      have c_604i : r20.toInt = 0 := bI_eq rfl (show (0 : Int32).toInt = 0 by decide) c_604
                      have u_606 : (gI z21 13).toInt ≠ 0 := h_599 (by omega)
                      try have e_607 : (0 : Int32).toInt = 0 := (show (0 : Int32).toInt = 0 by decide)
                      exact ok_some ⟨Or.inl rfl, (fr_tr (fr_tr (fr_I (fr_tr (fr_tr fr_rf h_3 (by decide)) h_19 (by decide)) (by decide)) h_578 (by decide)) h_596 (by decide)), (show (gI z_t 12).toInt ≤ (gI z21 12).toInt ∧ (gI z21 12).toInt ≤ (gI z_t 1).toInt by first | omega | assumption | trivial), (kp_tr (kp_fr (kp_I (kp_fr (kp_tr kp_rf h_5) h_19 (by decide))) h_578 (by decide)) h_598), (show (0 : Int32).toInt = 0 → (gI z21 13).toInt ≠ 0 from fun _ => by first | omega | assumption), (show (0 : Int32).toInt = 1 → (gT z21 4 t).toInt + o ≤ (gI z21 12).toInt ∧ h + 1 ≤ (gI z21 16).toInt ∧ (gI z21 16).toInt ≤ 60 from fun q => absurd q (by decide)), (show (0 : Int32).toInt = 1 → RN z21 t b (h + 1) from fun q => absurd q (by decide))⟩
                    · skip
                      have r_608 := n_rng r20
                      have c_604i : r20.toInt ≠ 0 := bI_neq rfl (show (0 : Int32).toInt = 0 by decide) c_604
                      have u_609 : (gT z21 4 t).toInt + (o + 1) ≤ (gI z21 12).toInt ∧ (h + 1) + 1 ≤ (gI z21 16).toInt ∧ (gI z21 16).toInt ≤ 60 := h_600 (by omega)
                      have u_610 : RN z21 t b ((h + 1) + 1) := h_601 (by omega)
                      have e_612 : ((6 : Int32) + 0).toInt = (6 + 0) := (i32_add (show (6 : Int32).toInt = 6 by decide) (show (0 : Int32).toInt = 0 by decide) (by omega) (by omega))
                      have e_613 : (0 : Int32).toInt = 0 := (show (0 : Int32).toInt = 0 by decide)
                      refine ok_bd (t_fX9_puts (t := t) (by first | omega | assumption | decide | (show (gI z21 15).toInt = t ∧ t < 6; first | omega | assumption)) (by first | omega | assumption | decide | (show 0 ≤ (gT z21 4 t).toInt ∧ (gT z21 4 t).toInt < 400; first | omega | assumption))) (fun z24 q_611 => ?_)
                      have h_614 : FrL [3, 4] z21 z24 := q_611.1
                      have h_615 : PUT t z21 z24 (((6 : Int32) + 0) + (16 * (0 : Int32))) := q_611.2
                      clear q_611
                      have s_616 : (gI z24 1).toInt = (gI z21 1).toInt := congrArg Int32.toInt (h_614 1 (by decide)).1
                      have s_617 : (gI z24 12).toInt = (gI z21 12).toInt := congrArg Int32.toInt (h_614 12 (by decide)).1
                      have s_618 : (gI z24 13).toInt = (gI z21 13).toInt := congrArg Int32.toInt (h_614 13 (by decide)).1
                      have s_619 : (gI z24 15).toInt = (gI z21 15).toInt := congrArg Int32.toInt (h_614 15 (by decide)).1
                      have s_620 : (gI z24 16).toInt = (gI z21 16).toInt := congrArg Int32.toInt (h_614 16 (by decide)).1
                      have h_615a := h_615.1
                      have h_615k := h_615.2.1
                      have h_615r : RN z24 t b ((h + 1)) := rn_put (by omega) h_615 u_610 (stp_bin (by omega) (by decide) (by decide) (by decide))
                      try have e_621 : (1 : Int32).toInt = 1 := (show (1 : Int32).toInt = 1 by decide)
                      exact ok_some ⟨Or.inr rfl, (fr_tr (fr_tr (fr_tr (fr_I (fr_tr (fr_tr fr_rf h_3 (by decide)) h_19 (by decide)) (by decide)) h_578 (by decide)) h_596 (by decide)) h_614 (by decide)), (show (gI z_t 12).toInt ≤ (gI z24 12).toInt ∧ (gI z24 12).toInt ≤ (gI z_t 1).toInt by first | omega | assumption | trivial), (kp_tr (kp_tr (kp_fr (kp_I (kp_fr (kp_tr kp_rf h_5) h_19 (by decide))) h_578 (by decide)) h_598) h_615k), (show (1 : Int32).toInt = 0 → (gI z24 13).toInt ≠ 0 from fun q => absurd q (by decide)), (show (1 : Int32).toInt = 1 → (gT z24 4 t).toInt + o ≤ (gI z24 12).toInt ∧ h + 1 ≤ (gI z24 16).toInt ∧ (gI z24 16).toInt ≤ 60 from fun _ => by first | omega | assumption), (fun _ => h_615r)⟩
                  · skip
                    exact absurd (by decide) c_593
                · skip
                  have c_592i : r6.toInt ≠ 60 := bI_neq rfl (show (60 : Int32).toInt = 60 by decide) c_592
                  refine ok_ite (fun c_622 => ?_) (fun c_622 => ?_)
                  · skip
                    have c_622i : r6.toInt = 61 := bI_eq rfl (show (61 : Int32).toInt = 61 by decide) c_622
                    refine ok_bd2 (t_fX9_sum (t := t) (b := b) (h := h + 1) (o := o + 1) (by first | omega | assumption | decide | (show 0 ≤ (gI z15 12).toInt ∧ (gI z15 12).toInt ≤ (gI z15 1).toInt ∧ (gI z15 1).toInt ≤ 400; first | omega | assumption)) (by first | omega | assumption | decide | (show (gI z15 15).toInt = t ∧ t < 6; first | omega | assumption)) (by first | omega | assumption | decide | (show 0 ≤ (gT z15 4 t).toInt ∧ (gT z15 4 t).toInt + (o + 1) ≤ (gI z15 12).toInt; first | omega | assumption)) (by first | omega | assumption | decide | (show 0 ≤ (gI z15 16).toInt ∧ (gI z15 16).toInt ≤ 60 ∧ (h + 1) ≤ (gI z15 16).toInt; first | omega | assumption)) (rn_fr h_578 (by decide) (rn_I (rn_fr h_19 (by decide) u_17)))) (fun r20 z21 q_623 => ?_)
                    have h_624 : r20 = 0 ∨ r20 = 1 := q_623.1
                    have h_624i := bool_i h_624
                    have h_625 : FrL [3, 4, 12, 13, 14, 16] z15 z21 := q_623.2.1
                    have h_626 : (gI z15 12).toInt ≤ (gI z21 12).toInt ∧ (gI z21 12).toInt ≤ (gI z15 1).toInt := q_623.2.2.1
                    have h_627 : KP t z15 z21 := q_623.2.2.2.1
                    have h_627a : (gT z15 4 t).toInt ≤ (gT z21 4 t).toInt := h_627.1
                    have h_628 : r20.toInt = 0 → (gI z21 13).toInt ≠ 0 := q_623.2.2.2.2.1
                    have h_629 : r20.toInt = 1 → (gT z21 4 t).toInt + (o + 1) ≤ (gI z21 12).toInt ∧ (h + 1) + 1 ≤ (gI z21 16).toInt ∧ (gI z21 16).toInt ≤ 60 := q_623.2.2.2.2.2.1
                    have h_630 : r20.toInt = 1 → RN z21 t b ((h + 1) + 1) := q_623.2.2.2.2.2.2
                    clear q_623
                    have s_631 : (gI z21 1).toInt = (gI z15 1).toInt := congrArg Int32.toInt (h_625 1 (by decide)).1
                    have s_632 : (gI z21 15).toInt = (gI z15 15).toInt := congrArg Int32.toInt (h_625 15 (by decide)).1
                    refine ok_ite (fun c_633 => ?_) (fun c_633 => ?_)
                    · skip
                      have r_634 := n_rng r20
                      have c_633i : r20.toInt = 0 := bI_eq rfl (show (0 : Int32).toInt = 0 by decide) c_633
                      have u_635 : (gI z21 13).toInt ≠ 0 := h_628 (by omega)
                      try have e_636 : (0 : Int32).toInt = 0 := (show (0 : Int32).toInt = 0 by decide)
                      exact ok_some ⟨Or.inl rfl, (fr_tr (fr_tr (fr_I (fr_tr (fr_tr fr_rf h_3 (by decide)) h_19 (by decide)) (by decide)) h_578 (by decide)) h_625 (by decide)), (show (gI z_t 12).toInt ≤ (gI z21 12).toInt ∧ (gI z21 12).toInt ≤ (gI z_t 1).toInt by first | omega | assumption | trivial), (kp_tr (kp_fr (kp_I (kp_fr (kp_tr kp_rf h_5) h_19 (by decide))) h_578 (by decide)) h_627), (show (0 : Int32).toInt = 0 → (gI z21 13).toInt ≠ 0 from fun _ => by first | omega | assumption), (show (0 : Int32).toInt = 1 → (gT z21 4 t).toInt + o ≤ (gI z21 12).toInt ∧ h + 1 ≤ (gI z21 16).toInt ∧ (gI z21 16).toInt ≤ 60 from fun q => absurd q (by decide)), (show (0 : Int32).toInt = 1 → RN z21 t b (h + 1) from fun q => absurd q (by decide))⟩
                    · skip
                      have r_637 := n_rng r20
                      have c_633i : r20.toInt ≠ 0 := bI_neq rfl (show (0 : Int32).toInt = 0 by decide) c_633
                      have u_638 : (gT z21 4 t).toInt + (o + 1) ≤ (gI z21 12).toInt ∧ (h + 1) + 1 ≤ (gI z21 16).toInt ∧ (gI z21 16).toInt ≤ 60 := h_629 (by omega)
                      have u_639 : RN z21 t b ((h + 1) + 1) := h_630 (by omega)
                      have e_641 : ((6 : Int32) + 2).toInt = (6 + 2) := (i32_add (show (6 : Int32).toInt = 6 by decide) (show (2 : Int32).toInt = 2 by decide) (by omega) (by omega))
                      have e_642 : (0 : Int32).toInt = 0 := (show (0 : Int32).toInt = 0 by decide)
                      refine ok_bd (t_fX9_puts (t := t) (by first | omega | assumption | decide | (show (gI z21 15).toInt = t ∧ t < 6; first | omega | assumption)) (by first | omega | assumption | decide | (show 0 ≤ (gT z21 4 t).toInt ∧ (gT z21 4 t).toInt < 400; first | omega | assumption))) (fun z24 q_640 => ?_)
                      have h_643 : FrL [3, 4] z21 z24 := q_640.1
                      have h_644 : PUT t z21 z24 (((6 : Int32) + 2) + (16 * (0 : Int32))) := q_640.2
                      clear q_640
                      have s_645 : (gI z24 1).toInt = (gI z21 1).toInt := congrArg Int32.toInt (h_643 1 (by decide)).1
                      have s_646 : (gI z24 12).toInt = (gI z21 12).toInt := congrArg Int32.toInt (h_643 12 (by decide)).1
                      have s_647 : (gI z24 13).toInt = (gI z21 13).toInt := congrArg Int32.toInt (h_643 13 (by decide)).1
                      have s_648 : (gI z24 15).toInt = (gI z21 15).toInt := congrArg Int32.toInt (h_643 15 (by decide)).1
                      have s_649 : (gI z24 16).toInt = (gI z21 16).toInt := congrArg Int32.toInt (h_643 16 (by decide)).1
                      have h_644a := h_644.1
                      have h_644k := h_644.2.1
                      have h_644r : RN z24 t b ((h + 1)) := rn_put (by omega) h_644 u_639 (stp_bin (by omega) (by decide) (by decide) (by decide))
                      try have e_650 : (1 : Int32).toInt = 1 := (show (1 : Int32).toInt = 1 by decide)
                      exact ok_some ⟨Or.inr rfl, (fr_tr (fr_tr (fr_tr (fr_I (fr_tr (fr_tr fr_rf h_3 (by decide)) h_19 (by decide)) (by decide)) h_578 (by decide)) h_625 (by decide)) h_643 (by decide)), (show (gI z_t 12).toInt ≤ (gI z24 12).toInt ∧ (gI z24 12).toInt ≤ (gI z_t 1).toInt by first | omega | assumption | trivial), (kp_tr (kp_tr (kp_fr (kp_I (kp_fr (kp_tr kp_rf h_5) h_19 (by decide))) h_578 (by decide)) h_627) h_644k), (show (1 : Int32).toInt = 0 → (gI z24 13).toInt ≠ 0 from fun q => absurd q (by decide)), (show (1 : Int32).toInt = 1 → (gT z24 4 t).toInt + o ≤ (gI z24 12).toInt ∧ h + 1 ≤ (gI z24 16).toInt ∧ (gI z24 16).toInt ≤ 60 from fun _ => by first | omega | assumption), (fun _ => h_644r)⟩
                  · skip
                    have c_622i : r6.toInt ≠ 61 := bI_neq rfl (show (61 : Int32).toInt = 61 by decide) c_622
                    refine ok_ite (fun c_651 => ?_) (fun c_651 => ?_)
                    · skip
                      refine ok_bd2 (t_fX9_sum (t := t) (b := b) (h := h + 1) (o := o + 1) (by first | omega | assumption | decide | (show 0 ≤ (gI z15 12).toInt ∧ (gI z15 12).toInt ≤ (gI z15 1).toInt ∧ (gI z15 1).toInt ≤ 400; first | omega | assumption)) (by first | omega | assumption | decide | (show (gI z15 15).toInt = t ∧ t < 6; first | omega | assumption)) (by first | omega | assumption | decide | (show 0 ≤ (gT z15 4 t).toInt ∧ (gT z15 4 t).toInt + (o + 1) ≤ (gI z15 12).toInt; first | omega | assumption)) (by first | omega | assumption | decide | (show 0 ≤ (gI z15 16).toInt ∧ (gI z15 16).toInt ≤ 60 ∧ (h + 1) ≤ (gI z15 16).toInt; first | omega | assumption)) (rn_fr h_578 (by decide) (rn_I (rn_fr h_19 (by decide) u_17)))) (fun r20 z21 q_652 => ?_)
                      have h_653 : r20 = 0 ∨ r20 = 1 := q_652.1
                      have h_653i := bool_i h_653
                      have h_654 : FrL [3, 4, 12, 13, 14, 16] z15 z21 := q_652.2.1
                      have h_655 : (gI z15 12).toInt ≤ (gI z21 12).toInt ∧ (gI z21 12).toInt ≤ (gI z15 1).toInt := q_652.2.2.1
                      have h_656 : KP t z15 z21 := q_652.2.2.2.1
                      have h_656a : (gT z15 4 t).toInt ≤ (gT z21 4 t).toInt := h_656.1
                      have h_657 : r20.toInt = 0 → (gI z21 13).toInt ≠ 0 := q_652.2.2.2.2.1
                      have h_658 : r20.toInt = 1 → (gT z21 4 t).toInt + (o + 1) ≤ (gI z21 12).toInt ∧ (h + 1) + 1 ≤ (gI z21 16).toInt ∧ (gI z21 16).toInt ≤ 60 := q_652.2.2.2.2.2.1
                      have h_659 : r20.toInt = 1 → RN z21 t b ((h + 1) + 1) := q_652.2.2.2.2.2.2
                      clear q_652
                      have s_660 : (gI z21 1).toInt = (gI z15 1).toInt := congrArg Int32.toInt (h_654 1 (by decide)).1
                      have s_661 : (gI z21 15).toInt = (gI z15 15).toInt := congrArg Int32.toInt (h_654 15 (by decide)).1
                      refine ok_ite (fun c_662 => ?_) (fun c_662 => ?_)
                      · skip
                        have r_663 := n_rng r20
                        have c_662i : r20.toInt = 0 := bI_eq rfl (show (0 : Int32).toInt = 0 by decide) c_662
                        have u_664 : (gI z21 13).toInt ≠ 0 := h_657 (by omega)
                        try have e_665 : (0 : Int32).toInt = 0 := (show (0 : Int32).toInt = 0 by decide)
                        exact ok_some ⟨Or.inl rfl, (fr_tr (fr_tr (fr_I (fr_tr (fr_tr fr_rf h_3 (by decide)) h_19 (by decide)) (by decide)) h_578 (by decide)) h_654 (by decide)), (show (gI z_t 12).toInt ≤ (gI z21 12).toInt ∧ (gI z21 12).toInt ≤ (gI z_t 1).toInt by first | omega | assumption | trivial), (kp_tr (kp_fr (kp_I (kp_fr (kp_tr kp_rf h_5) h_19 (by decide))) h_578 (by decide)) h_656), (show (0 : Int32).toInt = 0 → (gI z21 13).toInt ≠ 0 from fun _ => by first | omega | assumption), (show (0 : Int32).toInt = 1 → (gT z21 4 t).toInt + o ≤ (gI z21 12).toInt ∧ h + 1 ≤ (gI z21 16).toInt ∧ (gI z21 16).toInt ≤ 60 from fun q => absurd q (by decide)), (show (0 : Int32).toInt = 1 → RN z21 t b (h + 1) from fun q => absurd q (by decide))⟩
                      · skip
                        have r_666 := n_rng r20
                        have c_662i : r20.toInt ≠ 0 := bI_neq rfl (show (0 : Int32).toInt = 0 by decide) c_662
                        have u_667 : (gT z21 4 t).toInt + (o + 1) ≤ (gI z21 12).toInt ∧ (h + 1) + 1 ≤ (gI z21 16).toInt ∧ (gI z21 16).toInt ≤ 60 := h_658 (by omega)
                        have u_668 : RN z21 t b ((h + 1) + 1) := h_659 (by omega)
                        have e_670 : ((6 : Int32) + 4).toInt = (6 + 4) := (i32_add (show (6 : Int32).toInt = 6 by decide) (show (4 : Int32).toInt = 4 by decide) (by omega) (by omega))
                        have e_671 : (0 : Int32).toInt = 0 := (show (0 : Int32).toInt = 0 by decide)
                        refine ok_bd (t_fX9_puts (t := t) (by first | omega | assumption | decide | (show (gI z21 15).toInt = t ∧ t < 6; first | omega | assumption)) (by first | omega | assumption | decide | (show 0 ≤ (gT z21 4 t).toInt ∧ (gT z21 4 t).toInt < 400; first | omega | assumption))) (fun z24 q_669 => ?_)
                        have h_672 : FrL [3, 4] z21 z24 := q_669.1
                        have h_673 : PUT t z21 z24 (((6 : Int32) + 4) + (16 * (0 : Int32))) := q_669.2
                        clear q_669
                        have s_674 : (gI z24 1).toInt = (gI z21 1).toInt := congrArg Int32.toInt (h_672 1 (by decide)).1
                        have s_675 : (gI z24 12).toInt = (gI z21 12).toInt := congrArg Int32.toInt (h_672 12 (by decide)).1
                        have s_676 : (gI z24 13).toInt = (gI z21 13).toInt := congrArg Int32.toInt (h_672 13 (by decide)).1
                        have s_677 : (gI z24 15).toInt = (gI z21 15).toInt := congrArg Int32.toInt (h_672 15 (by decide)).1
                        have s_678 : (gI z24 16).toInt = (gI z21 16).toInt := congrArg Int32.toInt (h_672 16 (by decide)).1
                        have h_673a := h_673.1
                        have h_673k := h_673.2.1
                        have h_673r : RN z24 t b ((h + 1)) := rn_put (by omega) h_673 u_668 (stp_bin (by omega) (by decide) (by decide) (by decide))
                        try have e_679 : (1 : Int32).toInt = 1 := (show (1 : Int32).toInt = 1 by decide)
                        exact ok_some ⟨Or.inr rfl, (fr_tr (fr_tr (fr_tr (fr_I (fr_tr (fr_tr fr_rf h_3 (by decide)) h_19 (by decide)) (by decide)) h_578 (by decide)) h_654 (by decide)) h_672 (by decide)), (show (gI z_t 12).toInt ≤ (gI z24 12).toInt ∧ (gI z24 12).toInt ≤ (gI z_t 1).toInt by first | omega | assumption | trivial), (kp_tr (kp_tr (kp_fr (kp_I (kp_fr (kp_tr kp_rf h_5) h_19 (by decide))) h_578 (by decide)) h_656) h_673k), (show (1 : Int32).toInt = 0 → (gI z24 13).toInt ≠ 0 from fun q => absurd q (by decide)), (show (1 : Int32).toInt = 1 → (gT z24 4 t).toInt + o ≤ (gI z24 12).toInt ∧ h + 1 ≤ (gI z24 16).toInt ∧ (gI z24 16).toInt ≤ 60 from fun _ => by first | omega | assumption), (fun _ => h_673r)⟩
                    · skip
                      exact absurd (by decide) c_651
            · skip
              exact absurd (by decide) c_575
          · skip
            have r_680 := n_rng (gI z7 1)
            have r_681 := n_rng (gI z7 12)
            try have c_572i : (gI z7 1).toInt > ((gI z7 12).toInt + 1) := bI_nle rfl (i32_add rfl (show (1 : Int32).toInt = 1 by decide) (by omega) (by omega)) c_572
            have e_682 : ((gI z7 12) + 1).toInt = ((gI z7 12).toInt + 1) := (i32_add rfl (show (1 : Int32).toInt = 1 by decide) (by omega) (by omega))
            refine ok_gd (inb_of (by omega) (by omega)) ?_
            have i_683 : (((gI z7 12) + 1).toNatClampNeg : Int) = ((gI z7 12) + 1).toInt := clampI (by omega)
            refine ok_ite (fun c_684 => ?_) (fun c_684 => ?_)
            · skip
              have r_685 := n_rng (gT z7 0 ((gI z7 12) + 1).toNatClampNeg)
              have c_684i : (gT z7 0 ((gI z7 12) + 1).toNatClampNeg).toInt = 61 := bI_eq rfl (show (61 : Int32).toInt = 61 by decide) c_684
              refine ok_jn ?_
              refine ok_ite (fun c_686 => ?_) (fun c_686 => ?_)
              · skip
                exact absurd c_686 (by decide)
              · skip
                refine ok_bd2 (t_fX9_makes (by first | omega | assumption | decide | (show 0 ≤ (gI z7 16).toInt ∧ (gI z7 16).toInt ≤ 60; first | omega | assumption)) (by first | omega | assumption | decide | (show 0 ≤ (gI z7 12).toInt ∧ (gI z7 12).toInt ≤ 400; first | omega | assumption))) (fun r14 z15 q_687 => ?_)
                have h_688 : r14 = 0 ∨ r14 = 1 := q_687.1
                have h_688i := bool_i h_688
                have h_689 : FrL [13, 16] (sI (sI z7 12 ((gI z7 12) + 1)) 12 (((gI z7 12) + 1) + 1)) z15 := q_687.2.1
                have h_690 : r14.toInt = 0 → (gI z15 13).toInt ≠ 0 := q_687.2.2.1
                have h_691 : r14.toInt = 1 → (gI z15 16).toInt = (gI z7 16).toInt + 1 ∧ (gI z15 16).toInt ≤ 60 := q_687.2.2.2
                clear q_687
                have s_692 : (gI z15 1).toInt = (gI z7 1).toInt := congrArg Int32.toInt (h_689 1 (by decide)).1
                try have e_693 : (((gI z7 12) + 1) + 1).toInt = (((gI z7 12).toInt + 1) + 1) := (i32_add (i32_add rfl (show (1 : Int32).toInt = 1 by decide) (by omega) (by omega)) (show (1 : Int32).toInt = 1 by decide) (by omega) (by omega))
                have s_694 : (gI z15 12).toInt = (((gI z7 12) + 1) + 1).toInt := congrArg Int32.toInt (h_689 12 (by decide)).1
                have s_695 : (gI z15 15).toInt = (gI z7 15).toInt := congrArg Int32.toInt (h_689 15 (by decide)).1
                have s_696 : (gT z15 4 t).toInt = (gT z7 4 t).toInt := congrArg (fun f : Nat → Int32 => (f t).toInt) (h_689 4 (by decide)).2.1
                refine ok_ite (fun c_697 => ?_) (fun c_697 => ?_)
                · skip
                  have r_698 := n_rng r14
                  have c_697i : r14.toInt = 0 := bI_eq rfl (show (0 : Int32).toInt = 0 by decide) c_697
                  have u_699 : (gI z15 13).toInt ≠ 0 := h_690 (by omega)
                  try have e_700 : (0 : Int32).toInt = 0 := (show (0 : Int32).toInt = 0 by decide)
                  exact ok_some ⟨Or.inl rfl, (fr_tr (fr_I (fr_I (fr_tr (fr_tr fr_rf h_3 (by decide)) h_19 (by decide)) (by decide)) (by decide)) h_689 (by decide)), (show (gI z_t 12).toInt ≤ (gI z15 12).toInt ∧ (gI z15 12).toInt ≤ (gI z_t 1).toInt by first | omega | assumption | trivial), (kp_fr (kp_I (kp_I (kp_fr (kp_tr kp_rf h_5) h_19 (by decide)))) h_689 (by decide)), (show (0 : Int32).toInt = 0 → (gI z15 13).toInt ≠ 0 from fun _ => by first | omega | assumption), (show (0 : Int32).toInt = 1 → (gT z15 4 t).toInt + o ≤ (gI z15 12).toInt ∧ h + 1 ≤ (gI z15 16).toInt ∧ (gI z15 16).toInt ≤ 60 from fun q => absurd q (by decide)), (show (0 : Int32).toInt = 1 → RN z15 t b (h + 1) from fun q => absurd q (by decide))⟩
                · skip
                  have r_701 := n_rng r14
                  have c_697i : r14.toInt ≠ 0 := bI_neq rfl (show (0 : Int32).toInt = 0 by decide) c_697
                  have u_702 : (gI z15 16).toInt = (gI z7 16).toInt + 1 ∧ (gI z15 16).toInt ≤ 60 := h_691 (by omega)
                  refine ok_jn ?_
                  refine ok_ite (fun c_703 => ?_) (fun c_703 => ?_)
                  · skip
                    have c_703i : r6.toInt = 60 := bI_eq rfl (show (60 : Int32).toInt = 60 by decide) c_703
                    refine ok_ite (fun c_704 => ?_) (fun c_704 => ?_)
                    · skip
                      exact absurd c_704 (by decide)
                    · skip
                      refine ok_bd2 (t_fX9_sum (t := t) (b := b) (h := h + 1) (o := o + 1) (by first | omega | assumption | decide | (show 0 ≤ (gI z15 12).toInt ∧ (gI z15 12).toInt ≤ (gI z15 1).toInt ∧ (gI z15 1).toInt ≤ 400; first | omega | assumption)) (by first | omega | assumption | decide | (show (gI z15 15).toInt = t ∧ t < 6; first | omega | assumption)) (by first | omega | assumption | decide | (show 0 ≤ (gT z15 4 t).toInt ∧ (gT z15 4 t).toInt + (o + 1) ≤ (gI z15 12).toInt; first | omega | assumption)) (by first | omega | assumption | decide | (show 0 ≤ (gI z15 16).toInt ∧ (gI z15 16).toInt ≤ 60 ∧ (h + 1) ≤ (gI z15 16).toInt; first | omega | assumption)) (rn_fr h_689 (by decide) (rn_I (rn_I (rn_fr h_19 (by decide) u_17))))) (fun r20 z21 q_705 => ?_)
                      have h_706 : r20 = 0 ∨ r20 = 1 := q_705.1
                      have h_706i := bool_i h_706
                      have h_707 : FrL [3, 4, 12, 13, 14, 16] z15 z21 := q_705.2.1
                      have h_708 : (gI z15 12).toInt ≤ (gI z21 12).toInt ∧ (gI z21 12).toInt ≤ (gI z15 1).toInt := q_705.2.2.1
                      have h_709 : KP t z15 z21 := q_705.2.2.2.1
                      have h_709a : (gT z15 4 t).toInt ≤ (gT z21 4 t).toInt := h_709.1
                      have h_710 : r20.toInt = 0 → (gI z21 13).toInt ≠ 0 := q_705.2.2.2.2.1
                      have h_711 : r20.toInt = 1 → (gT z21 4 t).toInt + (o + 1) ≤ (gI z21 12).toInt ∧ (h + 1) + 1 ≤ (gI z21 16).toInt ∧ (gI z21 16).toInt ≤ 60 := q_705.2.2.2.2.2.1
                      have h_712 : r20.toInt = 1 → RN z21 t b ((h + 1) + 1) := q_705.2.2.2.2.2.2
                      clear q_705
                      have s_713 : (gI z21 1).toInt = (gI z15 1).toInt := congrArg Int32.toInt (h_707 1 (by decide)).1
                      have s_714 : (gI z21 15).toInt = (gI z15 15).toInt := congrArg Int32.toInt (h_707 15 (by decide)).1
                      refine ok_ite (fun c_715 => ?_) (fun c_715 => ?_)
                      · skip
                        have r_716 := n_rng r20
                        have c_715i : r20.toInt = 0 := bI_eq rfl (show (0 : Int32).toInt = 0 by decide) c_715
                        have u_717 : (gI z21 13).toInt ≠ 0 := h_710 (by omega)
                        try have e_718 : (0 : Int32).toInt = 0 := (show (0 : Int32).toInt = 0 by decide)
                        exact ok_some ⟨Or.inl rfl, (fr_tr (fr_tr (fr_I (fr_I (fr_tr (fr_tr fr_rf h_3 (by decide)) h_19 (by decide)) (by decide)) (by decide)) h_689 (by decide)) h_707 (by decide)), (show (gI z_t 12).toInt ≤ (gI z21 12).toInt ∧ (gI z21 12).toInt ≤ (gI z_t 1).toInt by first | omega | assumption | trivial), (kp_tr (kp_fr (kp_I (kp_I (kp_fr (kp_tr kp_rf h_5) h_19 (by decide)))) h_689 (by decide)) h_709), (show (0 : Int32).toInt = 0 → (gI z21 13).toInt ≠ 0 from fun _ => by first | omega | assumption), (show (0 : Int32).toInt = 1 → (gT z21 4 t).toInt + o ≤ (gI z21 12).toInt ∧ h + 1 ≤ (gI z21 16).toInt ∧ (gI z21 16).toInt ≤ 60 from fun q => absurd q (by decide)), (show (0 : Int32).toInt = 1 → RN z21 t b (h + 1) from fun q => absurd q (by decide))⟩
                      · skip
                        have r_719 := n_rng r20
                        have c_715i : r20.toInt ≠ 0 := bI_neq rfl (show (0 : Int32).toInt = 0 by decide) c_715
                        have u_720 : (gT z21 4 t).toInt + (o + 1) ≤ (gI z21 12).toInt ∧ (h + 1) + 1 ≤ (gI z21 16).toInt ∧ (gI z21 16).toInt ≤ 60 := h_711 (by omega)
                        have u_721 : RN z21 t b ((h + 1) + 1) := h_712 (by omega)
                        have e_723 : ((6 : Int32) + 1).toInt = (6 + 1) := (i32_add (show (6 : Int32).toInt = 6 by decide) (show (1 : Int32).toInt = 1 by decide) (by omega) (by omega))
                        have e_724 : (0 : Int32).toInt = 0 := (show (0 : Int32).toInt = 0 by decide)
                        refine ok_bd (t_fX9_puts (t := t) (by first | omega | assumption | decide | (show (gI z21 15).toInt = t ∧ t < 6; first | omega | assumption)) (by first | omega | assumption | decide | (show 0 ≤ (gT z21 4 t).toInt ∧ (gT z21 4 t).toInt < 400; first | omega | assumption))) (fun z24 q_722 => ?_)
                        have h_725 : FrL [3, 4] z21 z24 := q_722.1
                        have h_726 : PUT t z21 z24 (((6 : Int32) + 1) + (16 * (0 : Int32))) := q_722.2
                        clear q_722
                        have s_727 : (gI z24 1).toInt = (gI z21 1).toInt := congrArg Int32.toInt (h_725 1 (by decide)).1
                        have s_728 : (gI z24 12).toInt = (gI z21 12).toInt := congrArg Int32.toInt (h_725 12 (by decide)).1
                        have s_729 : (gI z24 13).toInt = (gI z21 13).toInt := congrArg Int32.toInt (h_725 13 (by decide)).1
                        have s_730 : (gI z24 15).toInt = (gI z21 15).toInt := congrArg Int32.toInt (h_725 15 (by decide)).1
                        have s_731 : (gI z24 16).toInt = (gI z21 16).toInt := congrArg Int32.toInt (h_725 16 (by decide)).1
                        have h_726a := h_726.1
                        have h_726k := h_726.2.1
                        have h_726r : RN z24 t b ((h + 1)) := rn_put (by omega) h_726 u_721 (stp_bin (by omega) (by decide) (by decide) (by decide))
                        try have e_732 : (1 : Int32).toInt = 1 := (show (1 : Int32).toInt = 1 by decide)
                        exact ok_some ⟨Or.inr rfl, (fr_tr (fr_tr (fr_tr (fr_I (fr_I (fr_tr (fr_tr fr_rf h_3 (by decide)) h_19 (by decide)) (by decide)) (by decide)) h_689 (by decide)) h_707 (by decide)) h_725 (by decide)), (show (gI z_t 12).toInt ≤ (gI z24 12).toInt ∧ (gI z24 12).toInt ≤ (gI z_t 1).toInt by first | omega | assumption | trivial), (kp_tr (kp_tr (kp_fr (kp_I (kp_I (kp_fr (kp_tr kp_rf h_5) h_19 (by decide)))) h_689 (by decide)) h_709) h_726k), (show (1 : Int32).toInt = 0 → (gI z24 13).toInt ≠ 0 from fun q => absurd q (by decide)), (show (1 : Int32).toInt = 1 → (gT z24 4 t).toInt + o ≤ (gI z24 12).toInt ∧ h + 1 ≤ (gI z24 16).toInt ∧ (gI z24 16).toInt ≤ 60 from fun _ => by first | omega | assumption), (fun _ => h_726r)⟩
                  · skip
                    have c_703i : r6.toInt ≠ 60 := bI_neq rfl (show (60 : Int32).toInt = 60 by decide) c_703
                    refine ok_ite (fun c_733 => ?_) (fun c_733 => ?_)
                    · skip
                      have c_733i : r6.toInt = 61 := bI_eq rfl (show (61 : Int32).toInt = 61 by decide) c_733
                      refine ok_bd2 (t_fX9_sum (t := t) (b := b) (h := h + 1) (o := o + 1) (by first | omega | assumption | decide | (show 0 ≤ (gI z15 12).toInt ∧ (gI z15 12).toInt ≤ (gI z15 1).toInt ∧ (gI z15 1).toInt ≤ 400; first | omega | assumption)) (by first | omega | assumption | decide | (show (gI z15 15).toInt = t ∧ t < 6; first | omega | assumption)) (by first | omega | assumption | decide | (show 0 ≤ (gT z15 4 t).toInt ∧ (gT z15 4 t).toInt + (o + 1) ≤ (gI z15 12).toInt; first | omega | assumption)) (by first | omega | assumption | decide | (show 0 ≤ (gI z15 16).toInt ∧ (gI z15 16).toInt ≤ 60 ∧ (h + 1) ≤ (gI z15 16).toInt; first | omega | assumption)) (rn_fr h_689 (by decide) (rn_I (rn_I (rn_fr h_19 (by decide) u_17))))) (fun r20 z21 q_734 => ?_)
                      have h_735 : r20 = 0 ∨ r20 = 1 := q_734.1
                      have h_735i := bool_i h_735
                      have h_736 : FrL [3, 4, 12, 13, 14, 16] z15 z21 := q_734.2.1
                      have h_737 : (gI z15 12).toInt ≤ (gI z21 12).toInt ∧ (gI z21 12).toInt ≤ (gI z15 1).toInt := q_734.2.2.1
                      have h_738 : KP t z15 z21 := q_734.2.2.2.1
                      have h_738a : (gT z15 4 t).toInt ≤ (gT z21 4 t).toInt := h_738.1
                      have h_739 : r20.toInt = 0 → (gI z21 13).toInt ≠ 0 := q_734.2.2.2.2.1
                      have h_740 : r20.toInt = 1 → (gT z21 4 t).toInt + (o + 1) ≤ (gI z21 12).toInt ∧ (h + 1) + 1 ≤ (gI z21 16).toInt ∧ (gI z21 16).toInt ≤ 60 := q_734.2.2.2.2.2.1
                      have h_741 : r20.toInt = 1 → RN z21 t b ((h + 1) + 1) := q_734.2.2.2.2.2.2
                      clear q_734
                      have s_742 : (gI z21 1).toInt = (gI z15 1).toInt := congrArg Int32.toInt (h_736 1 (by decide)).1
                      have s_743 : (gI z21 15).toInt = (gI z15 15).toInt := congrArg Int32.toInt (h_736 15 (by decide)).1
                      refine ok_ite (fun c_744 => ?_) (fun c_744 => ?_)
                      · skip
                        have r_745 := n_rng r20
                        have c_744i : r20.toInt = 0 := bI_eq rfl (show (0 : Int32).toInt = 0 by decide) c_744
                        have u_746 : (gI z21 13).toInt ≠ 0 := h_739 (by omega)
                        try have e_747 : (0 : Int32).toInt = 0 := (show (0 : Int32).toInt = 0 by decide)
                        exact ok_some ⟨Or.inl rfl, (fr_tr (fr_tr (fr_I (fr_I (fr_tr (fr_tr fr_rf h_3 (by decide)) h_19 (by decide)) (by decide)) (by decide)) h_689 (by decide)) h_736 (by decide)), (show (gI z_t 12).toInt ≤ (gI z21 12).toInt ∧ (gI z21 12).toInt ≤ (gI z_t 1).toInt by first | omega | assumption | trivial), (kp_tr (kp_fr (kp_I (kp_I (kp_fr (kp_tr kp_rf h_5) h_19 (by decide)))) h_689 (by decide)) h_738), (show (0 : Int32).toInt = 0 → (gI z21 13).toInt ≠ 0 from fun _ => by first | omega | assumption), (show (0 : Int32).toInt = 1 → (gT z21 4 t).toInt + o ≤ (gI z21 12).toInt ∧ h + 1 ≤ (gI z21 16).toInt ∧ (gI z21 16).toInt ≤ 60 from fun q => absurd q (by decide)), (show (0 : Int32).toInt = 1 → RN z21 t b (h + 1) from fun q => absurd q (by decide))⟩
                      · skip
                        have r_748 := n_rng r20
                        have c_744i : r20.toInt ≠ 0 := bI_neq rfl (show (0 : Int32).toInt = 0 by decide) c_744
                        have u_749 : (gT z21 4 t).toInt + (o + 1) ≤ (gI z21 12).toInt ∧ (h + 1) + 1 ≤ (gI z21 16).toInt ∧ (gI z21 16).toInt ≤ 60 := h_740 (by omega)
                        have u_750 : RN z21 t b ((h + 1) + 1) := h_741 (by omega)
                        have e_752 : ((6 : Int32) + 2).toInt = (6 + 2) := (i32_add (show (6 : Int32).toInt = 6 by decide) (show (2 : Int32).toInt = 2 by decide) (by omega) (by omega))
                        have e_753 : (0 : Int32).toInt = 0 := (show (0 : Int32).toInt = 0 by decide)
                        refine ok_bd (t_fX9_puts (t := t) (by first | omega | assumption | decide | (show (gI z21 15).toInt = t ∧ t < 6; first | omega | assumption)) (by first | omega | assumption | decide | (show 0 ≤ (gT z21 4 t).toInt ∧ (gT z21 4 t).toInt < 400; first | omega | assumption))) (fun z24 q_751 => ?_)
                        have h_754 : FrL [3, 4] z21 z24 := q_751.1
                        have h_755 : PUT t z21 z24 (((6 : Int32) + 2) + (16 * (0 : Int32))) := q_751.2
                        clear q_751
                        have s_756 : (gI z24 1).toInt = (gI z21 1).toInt := congrArg Int32.toInt (h_754 1 (by decide)).1
                        have s_757 : (gI z24 12).toInt = (gI z21 12).toInt := congrArg Int32.toInt (h_754 12 (by decide)).1
                        have s_758 : (gI z24 13).toInt = (gI z21 13).toInt := congrArg Int32.toInt (h_754 13 (by decide)).1
                        have s_759 : (gI z24 15).toInt = (gI z21 15).toInt := congrArg Int32.toInt (h_754 15 (by decide)).1
                        have s_760 : (gI z24 16).toInt = (gI z21 16).toInt := congrArg Int32.toInt (h_754 16 (by decide)).1
                        have h_755a := h_755.1
                        have h_755k := h_755.2.1
                        have h_755r : RN z24 t b ((h + 1)) := rn_put (by omega) h_755 u_750 (stp_bin (by omega) (by decide) (by decide) (by decide))
                        try have e_761 : (1 : Int32).toInt = 1 := (show (1 : Int32).toInt = 1 by decide)
                        exact ok_some ⟨Or.inr rfl, (fr_tr (fr_tr (fr_tr (fr_I (fr_I (fr_tr (fr_tr fr_rf h_3 (by decide)) h_19 (by decide)) (by decide)) (by decide)) h_689 (by decide)) h_736 (by decide)) h_754 (by decide)), (show (gI z_t 12).toInt ≤ (gI z24 12).toInt ∧ (gI z24 12).toInt ≤ (gI z_t 1).toInt by first | omega | assumption | trivial), (kp_tr (kp_tr (kp_fr (kp_I (kp_I (kp_fr (kp_tr kp_rf h_5) h_19 (by decide)))) h_689 (by decide)) h_738) h_755k), (show (1 : Int32).toInt = 0 → (gI z24 13).toInt ≠ 0 from fun q => absurd q (by decide)), (show (1 : Int32).toInt = 1 → (gT z24 4 t).toInt + o ≤ (gI z24 12).toInt ∧ h + 1 ≤ (gI z24 16).toInt ∧ (gI z24 16).toInt ≤ 60 from fun _ => by first | omega | assumption), (fun _ => h_755r)⟩
                    · skip
                      have c_733i : r6.toInt ≠ 61 := bI_neq rfl (show (61 : Int32).toInt = 61 by decide) c_733
                      refine ok_ite (fun c_762 => ?_) (fun c_762 => ?_)
                      · skip
                        exact absurd c_762 (by decide)
                      · skip
                        refine ok_bd2 (t_fX9_sum (t := t) (b := b) (h := h + 1) (o := o + 1) (by first | omega | assumption | decide | (show 0 ≤ (gI z15 12).toInt ∧ (gI z15 12).toInt ≤ (gI z15 1).toInt ∧ (gI z15 1).toInt ≤ 400; first | omega | assumption)) (by first | omega | assumption | decide | (show (gI z15 15).toInt = t ∧ t < 6; first | omega | assumption)) (by first | omega | assumption | decide | (show 0 ≤ (gT z15 4 t).toInt ∧ (gT z15 4 t).toInt + (o + 1) ≤ (gI z15 12).toInt; first | omega | assumption)) (by first | omega | assumption | decide | (show 0 ≤ (gI z15 16).toInt ∧ (gI z15 16).toInt ≤ 60 ∧ (h + 1) ≤ (gI z15 16).toInt; first | omega | assumption)) (rn_fr h_689 (by decide) (rn_I (rn_I (rn_fr h_19 (by decide) u_17))))) (fun r20 z21 q_763 => ?_)
                        have h_764 : r20 = 0 ∨ r20 = 1 := q_763.1
                        have h_764i := bool_i h_764
                        have h_765 : FrL [3, 4, 12, 13, 14, 16] z15 z21 := q_763.2.1
                        have h_766 : (gI z15 12).toInt ≤ (gI z21 12).toInt ∧ (gI z21 12).toInt ≤ (gI z15 1).toInt := q_763.2.2.1
                        have h_767 : KP t z15 z21 := q_763.2.2.2.1
                        have h_767a : (gT z15 4 t).toInt ≤ (gT z21 4 t).toInt := h_767.1
                        have h_768 : r20.toInt = 0 → (gI z21 13).toInt ≠ 0 := q_763.2.2.2.2.1
                        have h_769 : r20.toInt = 1 → (gT z21 4 t).toInt + (o + 1) ≤ (gI z21 12).toInt ∧ (h + 1) + 1 ≤ (gI z21 16).toInt ∧ (gI z21 16).toInt ≤ 60 := q_763.2.2.2.2.2.1
                        have h_770 : r20.toInt = 1 → RN z21 t b ((h + 1) + 1) := q_763.2.2.2.2.2.2
                        clear q_763
                        have s_771 : (gI z21 1).toInt = (gI z15 1).toInt := congrArg Int32.toInt (h_765 1 (by decide)).1
                        have s_772 : (gI z21 15).toInt = (gI z15 15).toInt := congrArg Int32.toInt (h_765 15 (by decide)).1
                        refine ok_ite (fun c_773 => ?_) (fun c_773 => ?_)
                        · skip
                          have r_774 := n_rng r20
                          have c_773i : r20.toInt = 0 := bI_eq rfl (show (0 : Int32).toInt = 0 by decide) c_773
                          have u_775 : (gI z21 13).toInt ≠ 0 := h_768 (by omega)
                          try have e_776 : (0 : Int32).toInt = 0 := (show (0 : Int32).toInt = 0 by decide)
                          exact ok_some ⟨Or.inl rfl, (fr_tr (fr_tr (fr_I (fr_I (fr_tr (fr_tr fr_rf h_3 (by decide)) h_19 (by decide)) (by decide)) (by decide)) h_689 (by decide)) h_765 (by decide)), (show (gI z_t 12).toInt ≤ (gI z21 12).toInt ∧ (gI z21 12).toInt ≤ (gI z_t 1).toInt by first | omega | assumption | trivial), (kp_tr (kp_fr (kp_I (kp_I (kp_fr (kp_tr kp_rf h_5) h_19 (by decide)))) h_689 (by decide)) h_767), (show (0 : Int32).toInt = 0 → (gI z21 13).toInt ≠ 0 from fun _ => by first | omega | assumption), (show (0 : Int32).toInt = 1 → (gT z21 4 t).toInt + o ≤ (gI z21 12).toInt ∧ h + 1 ≤ (gI z21 16).toInt ∧ (gI z21 16).toInt ≤ 60 from fun q => absurd q (by decide)), (show (0 : Int32).toInt = 1 → RN z21 t b (h + 1) from fun q => absurd q (by decide))⟩
                        · skip
                          have r_777 := n_rng r20
                          have c_773i : r20.toInt ≠ 0 := bI_neq rfl (show (0 : Int32).toInt = 0 by decide) c_773
                          have u_778 : (gT z21 4 t).toInt + (o + 1) ≤ (gI z21 12).toInt ∧ (h + 1) + 1 ≤ (gI z21 16).toInt ∧ (gI z21 16).toInt ≤ 60 := h_769 (by omega)
                          have u_779 : RN z21 t b ((h + 1) + 1) := h_770 (by omega)
                          have e_781 : ((6 : Int32) + 3).toInt = (6 + 3) := (i32_add (show (6 : Int32).toInt = 6 by decide) (show (3 : Int32).toInt = 3 by decide) (by omega) (by omega))
                          have e_782 : (0 : Int32).toInt = 0 := (show (0 : Int32).toInt = 0 by decide)
                          refine ok_bd (t_fX9_puts (t := t) (by first | omega | assumption | decide | (show (gI z21 15).toInt = t ∧ t < 6; first | omega | assumption)) (by first | omega | assumption | decide | (show 0 ≤ (gT z21 4 t).toInt ∧ (gT z21 4 t).toInt < 400; first | omega | assumption))) (fun z24 q_780 => ?_)
                          have h_783 : FrL [3, 4] z21 z24 := q_780.1
                          have h_784 : PUT t z21 z24 (((6 : Int32) + 3) + (16 * (0 : Int32))) := q_780.2
                          clear q_780
                          have s_785 : (gI z24 1).toInt = (gI z21 1).toInt := congrArg Int32.toInt (h_783 1 (by decide)).1
                          have s_786 : (gI z24 12).toInt = (gI z21 12).toInt := congrArg Int32.toInt (h_783 12 (by decide)).1
                          have s_787 : (gI z24 13).toInt = (gI z21 13).toInt := congrArg Int32.toInt (h_783 13 (by decide)).1
                          have s_788 : (gI z24 15).toInt = (gI z21 15).toInt := congrArg Int32.toInt (h_783 15 (by decide)).1
                          have s_789 : (gI z24 16).toInt = (gI z21 16).toInt := congrArg Int32.toInt (h_783 16 (by decide)).1
                          have h_784a := h_784.1
                          have h_784k := h_784.2.1
                          have h_784r : RN z24 t b ((h + 1)) := rn_put (by omega) h_784 u_779 (stp_bin (by omega) (by decide) (by decide) (by decide))
                          try have e_790 : (1 : Int32).toInt = 1 := (show (1 : Int32).toInt = 1 by decide)
                          exact ok_some ⟨Or.inr rfl, (fr_tr (fr_tr (fr_tr (fr_I (fr_I (fr_tr (fr_tr fr_rf h_3 (by decide)) h_19 (by decide)) (by decide)) (by decide)) h_689 (by decide)) h_765 (by decide)) h_783 (by decide)), (show (gI z_t 12).toInt ≤ (gI z24 12).toInt ∧ (gI z24 12).toInt ≤ (gI z_t 1).toInt by first | omega | assumption | trivial), (kp_tr (kp_tr (kp_fr (kp_I (kp_I (kp_fr (kp_tr kp_rf h_5) h_19 (by decide)))) h_689 (by decide)) h_767) h_784k), (show (1 : Int32).toInt = 0 → (gI z24 13).toInt ≠ 0 from fun q => absurd q (by decide)), (show (1 : Int32).toInt = 1 → (gT z24 4 t).toInt + o ≤ (gI z24 12).toInt ∧ h + 1 ≤ (gI z24 16).toInt ∧ (gI z24 16).toInt ≤ 60 from fun _ => by first | omega | assumption), (fun _ => h_784r)⟩
            · skip
              have r_791 := n_rng (gT z7 0 ((gI z7 12) + 1).toNatClampNeg)
              have c_684i : (gT z7 0 ((gI z7 12) + 1).toNatClampNeg).toInt ≠ 61 := bI_neq rfl (show (61 : Int32).toInt = 61 by decide) c_684
              refine ok_jn ?_
              refine ok_ite (fun c_792 => ?_) (fun c_792 => ?_)
              · skip
                refine ok_bd2 (t_fX9_makes (by first | omega | assumption | decide | (show 0 ≤ (gI z7 16).toInt ∧ (gI z7 16).toInt ≤ 60; first | omega | assumption)) (by first | omega | assumption | decide | (show 0 ≤ (gI z7 12).toInt ∧ (gI z7 12).toInt ≤ 400; first | omega | assumption))) (fun r14 z15 q_793 => ?_)
                have h_794 : r14 = 0 ∨ r14 = 1 := q_793.1
                have h_794i := bool_i h_794
                have h_795 : FrL [13, 16] (sI z7 12 ((gI z7 12) + 1)) z15 := q_793.2.1
                have h_796 : r14.toInt = 0 → (gI z15 13).toInt ≠ 0 := q_793.2.2.1
                have h_797 : r14.toInt = 1 → (gI z15 16).toInt = (gI z7 16).toInt + 1 ∧ (gI z15 16).toInt ≤ 60 := q_793.2.2.2
                clear q_793
                have s_798 : (gI z15 1).toInt = (gI z7 1).toInt := congrArg Int32.toInt (h_795 1 (by decide)).1
                try have e_799 : ((gI z7 12) + 1).toInt = ((gI z7 12).toInt + 1) := (i32_add rfl (show (1 : Int32).toInt = 1 by decide) (by omega) (by omega))
                have s_800 : (gI z15 12).toInt = ((gI z7 12) + 1).toInt := congrArg Int32.toInt (h_795 12 (by decide)).1
                have s_801 : (gI z15 15).toInt = (gI z7 15).toInt := congrArg Int32.toInt (h_795 15 (by decide)).1
                have s_802 : (gT z15 4 t).toInt = (gT z7 4 t).toInt := congrArg (fun f : Nat → Int32 => (f t).toInt) (h_795 4 (by decide)).2.1
                refine ok_ite (fun c_803 => ?_) (fun c_803 => ?_)
                · skip
                  have r_804 := n_rng r14
                  have c_803i : r14.toInt = 0 := bI_eq rfl (show (0 : Int32).toInt = 0 by decide) c_803
                  have u_805 : (gI z15 13).toInt ≠ 0 := h_796 (by omega)
                  try have e_806 : (0 : Int32).toInt = 0 := (show (0 : Int32).toInt = 0 by decide)
                  exact ok_some ⟨Or.inl rfl, (fr_tr (fr_I (fr_tr (fr_tr fr_rf h_3 (by decide)) h_19 (by decide)) (by decide)) h_795 (by decide)), (show (gI z_t 12).toInt ≤ (gI z15 12).toInt ∧ (gI z15 12).toInt ≤ (gI z_t 1).toInt by first | omega | assumption | trivial), (kp_fr (kp_I (kp_fr (kp_tr kp_rf h_5) h_19 (by decide))) h_795 (by decide)), (show (0 : Int32).toInt = 0 → (gI z15 13).toInt ≠ 0 from fun _ => by first | omega | assumption), (show (0 : Int32).toInt = 1 → (gT z15 4 t).toInt + o ≤ (gI z15 12).toInt ∧ h + 1 ≤ (gI z15 16).toInt ∧ (gI z15 16).toInt ≤ 60 from fun q => absurd q (by decide)), (show (0 : Int32).toInt = 1 → RN z15 t b (h + 1) from fun q => absurd q (by decide))⟩
                · skip
                  have r_807 := n_rng r14
                  have c_803i : r14.toInt ≠ 0 := bI_neq rfl (show (0 : Int32).toInt = 0 by decide) c_803
                  have u_808 : (gI z15 16).toInt = (gI z7 16).toInt + 1 ∧ (gI z15 16).toInt ≤ 60 := h_797 (by omega)
                  refine ok_jn ?_
                  refine ok_ite (fun c_809 => ?_) (fun c_809 => ?_)
                  · skip
                    have c_809i : r6.toInt = 60 := bI_eq rfl (show (60 : Int32).toInt = 60 by decide) c_809
                    refine ok_ite (fun c_810 => ?_) (fun c_810 => ?_)
                    · skip
                      refine ok_bd2 (t_fX9_sum (t := t) (b := b) (h := h + 1) (o := o + 1) (by first | omega | assumption | decide | (show 0 ≤ (gI z15 12).toInt ∧ (gI z15 12).toInt ≤ (gI z15 1).toInt ∧ (gI z15 1).toInt ≤ 400; first | omega | assumption)) (by first | omega | assumption | decide | (show (gI z15 15).toInt = t ∧ t < 6; first | omega | assumption)) (by first | omega | assumption | decide | (show 0 ≤ (gT z15 4 t).toInt ∧ (gT z15 4 t).toInt + (o + 1) ≤ (gI z15 12).toInt; first | omega | assumption)) (by first | omega | assumption | decide | (show 0 ≤ (gI z15 16).toInt ∧ (gI z15 16).toInt ≤ 60 ∧ (h + 1) ≤ (gI z15 16).toInt; first | omega | assumption)) (rn_fr h_795 (by decide) (rn_I (rn_fr h_19 (by decide) u_17)))) (fun r20 z21 q_811 => ?_)
                      have h_812 : r20 = 0 ∨ r20 = 1 := q_811.1
                      have h_812i := bool_i h_812
                      have h_813 : FrL [3, 4, 12, 13, 14, 16] z15 z21 := q_811.2.1
                      have h_814 : (gI z15 12).toInt ≤ (gI z21 12).toInt ∧ (gI z21 12).toInt ≤ (gI z15 1).toInt := q_811.2.2.1
                      have h_815 : KP t z15 z21 := q_811.2.2.2.1
                      have h_815a : (gT z15 4 t).toInt ≤ (gT z21 4 t).toInt := h_815.1
                      have h_816 : r20.toInt = 0 → (gI z21 13).toInt ≠ 0 := q_811.2.2.2.2.1
                      have h_817 : r20.toInt = 1 → (gT z21 4 t).toInt + (o + 1) ≤ (gI z21 12).toInt ∧ (h + 1) + 1 ≤ (gI z21 16).toInt ∧ (gI z21 16).toInt ≤ 60 := q_811.2.2.2.2.2.1
                      have h_818 : r20.toInt = 1 → RN z21 t b ((h + 1) + 1) := q_811.2.2.2.2.2.2
                      clear q_811
                      have s_819 : (gI z21 1).toInt = (gI z15 1).toInt := congrArg Int32.toInt (h_813 1 (by decide)).1
                      have s_820 : (gI z21 15).toInt = (gI z15 15).toInt := congrArg Int32.toInt (h_813 15 (by decide)).1
                      refine ok_ite (fun c_821 => ?_) (fun c_821 => ?_)
                      · skip
                        have r_822 := n_rng r20
                        have c_821i : r20.toInt = 0 := bI_eq rfl (show (0 : Int32).toInt = 0 by decide) c_821
                        have u_823 : (gI z21 13).toInt ≠ 0 := h_816 (by omega)
                        try have e_824 : (0 : Int32).toInt = 0 := (show (0 : Int32).toInt = 0 by decide)
                        exact ok_some ⟨Or.inl rfl, (fr_tr (fr_tr (fr_I (fr_tr (fr_tr fr_rf h_3 (by decide)) h_19 (by decide)) (by decide)) h_795 (by decide)) h_813 (by decide)), (show (gI z_t 12).toInt ≤ (gI z21 12).toInt ∧ (gI z21 12).toInt ≤ (gI z_t 1).toInt by first | omega | assumption | trivial), (kp_tr (kp_fr (kp_I (kp_fr (kp_tr kp_rf h_5) h_19 (by decide))) h_795 (by decide)) h_815), (show (0 : Int32).toInt = 0 → (gI z21 13).toInt ≠ 0 from fun _ => by first | omega | assumption), (show (0 : Int32).toInt = 1 → (gT z21 4 t).toInt + o ≤ (gI z21 12).toInt ∧ h + 1 ≤ (gI z21 16).toInt ∧ (gI z21 16).toInt ≤ 60 from fun q => absurd q (by decide)), (show (0 : Int32).toInt = 1 → RN z21 t b (h + 1) from fun q => absurd q (by decide))⟩
                      · skip
                        have r_825 := n_rng r20
                        have c_821i : r20.toInt ≠ 0 := bI_neq rfl (show (0 : Int32).toInt = 0 by decide) c_821
                        have u_826 : (gT z21 4 t).toInt + (o + 1) ≤ (gI z21 12).toInt ∧ (h + 1) + 1 ≤ (gI z21 16).toInt ∧ (gI z21 16).toInt ≤ 60 := h_817 (by omega)
                        have u_827 : RN z21 t b ((h + 1) + 1) := h_818 (by omega)
                        have e_829 : ((6 : Int32) + 0).toInt = (6 + 0) := (i32_add (show (6 : Int32).toInt = 6 by decide) (show (0 : Int32).toInt = 0 by decide) (by omega) (by omega))
                        have e_830 : (0 : Int32).toInt = 0 := (show (0 : Int32).toInt = 0 by decide)
                        refine ok_bd (t_fX9_puts (t := t) (by first | omega | assumption | decide | (show (gI z21 15).toInt = t ∧ t < 6; first | omega | assumption)) (by first | omega | assumption | decide | (show 0 ≤ (gT z21 4 t).toInt ∧ (gT z21 4 t).toInt < 400; first | omega | assumption))) (fun z24 q_828 => ?_)
                        have h_831 : FrL [3, 4] z21 z24 := q_828.1
                        have h_832 : PUT t z21 z24 (((6 : Int32) + 0) + (16 * (0 : Int32))) := q_828.2
                        clear q_828
                        have s_833 : (gI z24 1).toInt = (gI z21 1).toInt := congrArg Int32.toInt (h_831 1 (by decide)).1
                        have s_834 : (gI z24 12).toInt = (gI z21 12).toInt := congrArg Int32.toInt (h_831 12 (by decide)).1
                        have s_835 : (gI z24 13).toInt = (gI z21 13).toInt := congrArg Int32.toInt (h_831 13 (by decide)).1
                        have s_836 : (gI z24 15).toInt = (gI z21 15).toInt := congrArg Int32.toInt (h_831 15 (by decide)).1
                        have s_837 : (gI z24 16).toInt = (gI z21 16).toInt := congrArg Int32.toInt (h_831 16 (by decide)).1
                        have h_832a := h_832.1
                        have h_832k := h_832.2.1
                        have h_832r : RN z24 t b ((h + 1)) := rn_put (by omega) h_832 u_827 (stp_bin (by omega) (by decide) (by decide) (by decide))
                        try have e_838 : (1 : Int32).toInt = 1 := (show (1 : Int32).toInt = 1 by decide)
                        exact ok_some ⟨Or.inr rfl, (fr_tr (fr_tr (fr_tr (fr_I (fr_tr (fr_tr fr_rf h_3 (by decide)) h_19 (by decide)) (by decide)) h_795 (by decide)) h_813 (by decide)) h_831 (by decide)), (show (gI z_t 12).toInt ≤ (gI z24 12).toInt ∧ (gI z24 12).toInt ≤ (gI z_t 1).toInt by first | omega | assumption | trivial), (kp_tr (kp_tr (kp_fr (kp_I (kp_fr (kp_tr kp_rf h_5) h_19 (by decide))) h_795 (by decide)) h_815) h_832k), (show (1 : Int32).toInt = 0 → (gI z24 13).toInt ≠ 0 from fun q => absurd q (by decide)), (show (1 : Int32).toInt = 1 → (gT z24 4 t).toInt + o ≤ (gI z24 12).toInt ∧ h + 1 ≤ (gI z24 16).toInt ∧ (gI z24 16).toInt ≤ 60 from fun _ => by first | omega | assumption), (fun _ => h_832r)⟩
                    · skip
                      exact absurd (by decide) c_810
                  · skip
                    have c_809i : r6.toInt ≠ 60 := bI_neq rfl (show (60 : Int32).toInt = 60 by decide) c_809
                    refine ok_ite (fun c_839 => ?_) (fun c_839 => ?_)
                    · skip
                      have c_839i : r6.toInt = 61 := bI_eq rfl (show (61 : Int32).toInt = 61 by decide) c_839
                      refine ok_bd2 (t_fX9_sum (t := t) (b := b) (h := h + 1) (o := o + 1) (by first | omega | assumption | decide | (show 0 ≤ (gI z15 12).toInt ∧ (gI z15 12).toInt ≤ (gI z15 1).toInt ∧ (gI z15 1).toInt ≤ 400; first | omega | assumption)) (by first | omega | assumption | decide | (show (gI z15 15).toInt = t ∧ t < 6; first | omega | assumption)) (by first | omega | assumption | decide | (show 0 ≤ (gT z15 4 t).toInt ∧ (gT z15 4 t).toInt + (o + 1) ≤ (gI z15 12).toInt; first | omega | assumption)) (by first | omega | assumption | decide | (show 0 ≤ (gI z15 16).toInt ∧ (gI z15 16).toInt ≤ 60 ∧ (h + 1) ≤ (gI z15 16).toInt; first | omega | assumption)) (rn_fr h_795 (by decide) (rn_I (rn_fr h_19 (by decide) u_17)))) (fun r20 z21 q_840 => ?_)
                      have h_841 : r20 = 0 ∨ r20 = 1 := q_840.1
                      have h_841i := bool_i h_841
                      have h_842 : FrL [3, 4, 12, 13, 14, 16] z15 z21 := q_840.2.1
                      have h_843 : (gI z15 12).toInt ≤ (gI z21 12).toInt ∧ (gI z21 12).toInt ≤ (gI z15 1).toInt := q_840.2.2.1
                      have h_844 : KP t z15 z21 := q_840.2.2.2.1
                      have h_844a : (gT z15 4 t).toInt ≤ (gT z21 4 t).toInt := h_844.1
                      have h_845 : r20.toInt = 0 → (gI z21 13).toInt ≠ 0 := q_840.2.2.2.2.1
                      have h_846 : r20.toInt = 1 → (gT z21 4 t).toInt + (o + 1) ≤ (gI z21 12).toInt ∧ (h + 1) + 1 ≤ (gI z21 16).toInt ∧ (gI z21 16).toInt ≤ 60 := q_840.2.2.2.2.2.1
                      have h_847 : r20.toInt = 1 → RN z21 t b ((h + 1) + 1) := q_840.2.2.2.2.2.2
                      clear q_840
                      have s_848 : (gI z21 1).toInt = (gI z15 1).toInt := congrArg Int32.toInt (h_842 1 (by decide)).1
                      have s_849 : (gI z21 15).toInt = (gI z15 15).toInt := congrArg Int32.toInt (h_842 15 (by decide)).1
                      refine ok_ite (fun c_850 => ?_) (fun c_850 => ?_)
                      · skip
                        have r_851 := n_rng r20
                        have c_850i : r20.toInt = 0 := bI_eq rfl (show (0 : Int32).toInt = 0 by decide) c_850
                        have u_852 : (gI z21 13).toInt ≠ 0 := h_845 (by omega)
                        try have e_853 : (0 : Int32).toInt = 0 := (show (0 : Int32).toInt = 0 by decide)
                        exact ok_some ⟨Or.inl rfl, (fr_tr (fr_tr (fr_I (fr_tr (fr_tr fr_rf h_3 (by decide)) h_19 (by decide)) (by decide)) h_795 (by decide)) h_842 (by decide)), (show (gI z_t 12).toInt ≤ (gI z21 12).toInt ∧ (gI z21 12).toInt ≤ (gI z_t 1).toInt by first | omega | assumption | trivial), (kp_tr (kp_fr (kp_I (kp_fr (kp_tr kp_rf h_5) h_19 (by decide))) h_795 (by decide)) h_844), (show (0 : Int32).toInt = 0 → (gI z21 13).toInt ≠ 0 from fun _ => by first | omega | assumption), (show (0 : Int32).toInt = 1 → (gT z21 4 t).toInt + o ≤ (gI z21 12).toInt ∧ h + 1 ≤ (gI z21 16).toInt ∧ (gI z21 16).toInt ≤ 60 from fun q => absurd q (by decide)), (show (0 : Int32).toInt = 1 → RN z21 t b (h + 1) from fun q => absurd q (by decide))⟩
                      · skip
                        have r_854 := n_rng r20
                        have c_850i : r20.toInt ≠ 0 := bI_neq rfl (show (0 : Int32).toInt = 0 by decide) c_850
                        have u_855 : (gT z21 4 t).toInt + (o + 1) ≤ (gI z21 12).toInt ∧ (h + 1) + 1 ≤ (gI z21 16).toInt ∧ (gI z21 16).toInt ≤ 60 := h_846 (by omega)
                        have u_856 : RN z21 t b ((h + 1) + 1) := h_847 (by omega)
                        have e_858 : ((6 : Int32) + 2).toInt = (6 + 2) := (i32_add (show (6 : Int32).toInt = 6 by decide) (show (2 : Int32).toInt = 2 by decide) (by omega) (by omega))
                        have e_859 : (0 : Int32).toInt = 0 := (show (0 : Int32).toInt = 0 by decide)
                        refine ok_bd (t_fX9_puts (t := t) (by first | omega | assumption | decide | (show (gI z21 15).toInt = t ∧ t < 6; first | omega | assumption)) (by first | omega | assumption | decide | (show 0 ≤ (gT z21 4 t).toInt ∧ (gT z21 4 t).toInt < 400; first | omega | assumption))) (fun z24 q_857 => ?_)
                        have h_860 : FrL [3, 4] z21 z24 := q_857.1
                        have h_861 : PUT t z21 z24 (((6 : Int32) + 2) + (16 * (0 : Int32))) := q_857.2
                        clear q_857
                        have s_862 : (gI z24 1).toInt = (gI z21 1).toInt := congrArg Int32.toInt (h_860 1 (by decide)).1
                        have s_863 : (gI z24 12).toInt = (gI z21 12).toInt := congrArg Int32.toInt (h_860 12 (by decide)).1
                        have s_864 : (gI z24 13).toInt = (gI z21 13).toInt := congrArg Int32.toInt (h_860 13 (by decide)).1
                        have s_865 : (gI z24 15).toInt = (gI z21 15).toInt := congrArg Int32.toInt (h_860 15 (by decide)).1
                        have s_866 : (gI z24 16).toInt = (gI z21 16).toInt := congrArg Int32.toInt (h_860 16 (by decide)).1
                        have h_861a := h_861.1
                        have h_861k := h_861.2.1
                        have h_861r : RN z24 t b ((h + 1)) := rn_put (by omega) h_861 u_856 (stp_bin (by omega) (by decide) (by decide) (by decide))
                        try have e_867 : (1 : Int32).toInt = 1 := (show (1 : Int32).toInt = 1 by decide)
                        exact ok_some ⟨Or.inr rfl, (fr_tr (fr_tr (fr_tr (fr_I (fr_tr (fr_tr fr_rf h_3 (by decide)) h_19 (by decide)) (by decide)) h_795 (by decide)) h_842 (by decide)) h_860 (by decide)), (show (gI z_t 12).toInt ≤ (gI z24 12).toInt ∧ (gI z24 12).toInt ≤ (gI z_t 1).toInt by first | omega | assumption | trivial), (kp_tr (kp_tr (kp_fr (kp_I (kp_fr (kp_tr kp_rf h_5) h_19 (by decide))) h_795 (by decide)) h_844) h_861k), (show (1 : Int32).toInt = 0 → (gI z24 13).toInt ≠ 0 from fun q => absurd q (by decide)), (show (1 : Int32).toInt = 1 → (gT z24 4 t).toInt + o ≤ (gI z24 12).toInt ∧ h + 1 ≤ (gI z24 16).toInt ∧ (gI z24 16).toInt ≤ 60 from fun _ => by first | omega | assumption), (fun _ => h_861r)⟩
                    · skip
                      have c_839i : r6.toInt ≠ 61 := bI_neq rfl (show (61 : Int32).toInt = 61 by decide) c_839
                      refine ok_ite (fun c_868 => ?_) (fun c_868 => ?_)
                      · skip
                        refine ok_bd2 (t_fX9_sum (t := t) (b := b) (h := h + 1) (o := o + 1) (by first | omega | assumption | decide | (show 0 ≤ (gI z15 12).toInt ∧ (gI z15 12).toInt ≤ (gI z15 1).toInt ∧ (gI z15 1).toInt ≤ 400; first | omega | assumption)) (by first | omega | assumption | decide | (show (gI z15 15).toInt = t ∧ t < 6; first | omega | assumption)) (by first | omega | assumption | decide | (show 0 ≤ (gT z15 4 t).toInt ∧ (gT z15 4 t).toInt + (o + 1) ≤ (gI z15 12).toInt; first | omega | assumption)) (by first | omega | assumption | decide | (show 0 ≤ (gI z15 16).toInt ∧ (gI z15 16).toInt ≤ 60 ∧ (h + 1) ≤ (gI z15 16).toInt; first | omega | assumption)) (rn_fr h_795 (by decide) (rn_I (rn_fr h_19 (by decide) u_17)))) (fun r20 z21 q_869 => ?_)
                        have h_870 : r20 = 0 ∨ r20 = 1 := q_869.1
                        have h_870i := bool_i h_870
                        have h_871 : FrL [3, 4, 12, 13, 14, 16] z15 z21 := q_869.2.1
                        have h_872 : (gI z15 12).toInt ≤ (gI z21 12).toInt ∧ (gI z21 12).toInt ≤ (gI z15 1).toInt := q_869.2.2.1
                        have h_873 : KP t z15 z21 := q_869.2.2.2.1
                        have h_873a : (gT z15 4 t).toInt ≤ (gT z21 4 t).toInt := h_873.1
                        have h_874 : r20.toInt = 0 → (gI z21 13).toInt ≠ 0 := q_869.2.2.2.2.1
                        have h_875 : r20.toInt = 1 → (gT z21 4 t).toInt + (o + 1) ≤ (gI z21 12).toInt ∧ (h + 1) + 1 ≤ (gI z21 16).toInt ∧ (gI z21 16).toInt ≤ 60 := q_869.2.2.2.2.2.1
                        have h_876 : r20.toInt = 1 → RN z21 t b ((h + 1) + 1) := q_869.2.2.2.2.2.2
                        clear q_869
                        have s_877 : (gI z21 1).toInt = (gI z15 1).toInt := congrArg Int32.toInt (h_871 1 (by decide)).1
                        have s_878 : (gI z21 15).toInt = (gI z15 15).toInt := congrArg Int32.toInt (h_871 15 (by decide)).1
                        refine ok_ite (fun c_879 => ?_) (fun c_879 => ?_)
                        · skip
                          have r_880 := n_rng r20
                          have c_879i : r20.toInt = 0 := bI_eq rfl (show (0 : Int32).toInt = 0 by decide) c_879
                          have u_881 : (gI z21 13).toInt ≠ 0 := h_874 (by omega)
                          try have e_882 : (0 : Int32).toInt = 0 := (show (0 : Int32).toInt = 0 by decide)
                          exact ok_some ⟨Or.inl rfl, (fr_tr (fr_tr (fr_I (fr_tr (fr_tr fr_rf h_3 (by decide)) h_19 (by decide)) (by decide)) h_795 (by decide)) h_871 (by decide)), (show (gI z_t 12).toInt ≤ (gI z21 12).toInt ∧ (gI z21 12).toInt ≤ (gI z_t 1).toInt by first | omega | assumption | trivial), (kp_tr (kp_fr (kp_I (kp_fr (kp_tr kp_rf h_5) h_19 (by decide))) h_795 (by decide)) h_873), (show (0 : Int32).toInt = 0 → (gI z21 13).toInt ≠ 0 from fun _ => by first | omega | assumption), (show (0 : Int32).toInt = 1 → (gT z21 4 t).toInt + o ≤ (gI z21 12).toInt ∧ h + 1 ≤ (gI z21 16).toInt ∧ (gI z21 16).toInt ≤ 60 from fun q => absurd q (by decide)), (show (0 : Int32).toInt = 1 → RN z21 t b (h + 1) from fun q => absurd q (by decide))⟩
                        · skip
                          have r_883 := n_rng r20
                          have c_879i : r20.toInt ≠ 0 := bI_neq rfl (show (0 : Int32).toInt = 0 by decide) c_879
                          have u_884 : (gT z21 4 t).toInt + (o + 1) ≤ (gI z21 12).toInt ∧ (h + 1) + 1 ≤ (gI z21 16).toInt ∧ (gI z21 16).toInt ≤ 60 := h_875 (by omega)
                          have u_885 : RN z21 t b ((h + 1) + 1) := h_876 (by omega)
                          have e_887 : ((6 : Int32) + 4).toInt = (6 + 4) := (i32_add (show (6 : Int32).toInt = 6 by decide) (show (4 : Int32).toInt = 4 by decide) (by omega) (by omega))
                          have e_888 : (0 : Int32).toInt = 0 := (show (0 : Int32).toInt = 0 by decide)
                          refine ok_bd (t_fX9_puts (t := t) (by first | omega | assumption | decide | (show (gI z21 15).toInt = t ∧ t < 6; first | omega | assumption)) (by first | omega | assumption | decide | (show 0 ≤ (gT z21 4 t).toInt ∧ (gT z21 4 t).toInt < 400; first | omega | assumption))) (fun z24 q_886 => ?_)
                          have h_889 : FrL [3, 4] z21 z24 := q_886.1
                          have h_890 : PUT t z21 z24 (((6 : Int32) + 4) + (16 * (0 : Int32))) := q_886.2
                          clear q_886
                          have s_891 : (gI z24 1).toInt = (gI z21 1).toInt := congrArg Int32.toInt (h_889 1 (by decide)).1
                          have s_892 : (gI z24 12).toInt = (gI z21 12).toInt := congrArg Int32.toInt (h_889 12 (by decide)).1
                          have s_893 : (gI z24 13).toInt = (gI z21 13).toInt := congrArg Int32.toInt (h_889 13 (by decide)).1
                          have s_894 : (gI z24 15).toInt = (gI z21 15).toInt := congrArg Int32.toInt (h_889 15 (by decide)).1
                          have s_895 : (gI z24 16).toInt = (gI z21 16).toInt := congrArg Int32.toInt (h_889 16 (by decide)).1
                          have h_890a := h_890.1
                          have h_890k := h_890.2.1
                          have h_890r : RN z24 t b ((h + 1)) := rn_put (by omega) h_890 u_885 (stp_bin (by omega) (by decide) (by decide) (by decide))
                          try have e_896 : (1 : Int32).toInt = 1 := (show (1 : Int32).toInt = 1 by decide)
                          exact ok_some ⟨Or.inr rfl, (fr_tr (fr_tr (fr_tr (fr_I (fr_tr (fr_tr fr_rf h_3 (by decide)) h_19 (by decide)) (by decide)) h_795 (by decide)) h_871 (by decide)) h_889 (by decide)), (show (gI z_t 12).toInt ≤ (gI z24 12).toInt ∧ (gI z24 12).toInt ≤ (gI z_t 1).toInt by first | omega | assumption | trivial), (kp_tr (kp_tr (kp_fr (kp_I (kp_fr (kp_tr kp_rf h_5) h_19 (by decide))) h_795 (by decide)) h_873) h_890k), (show (1 : Int32).toInt = 0 → (gI z24 13).toInt ≠ 0 from fun q => absurd q (by decide)), (show (1 : Int32).toInt = 1 → (gT z24 4 t).toInt + o ≤ (gI z24 12).toInt ∧ h + 1 ≤ (gI z24 16).toInt ∧ (gI z24 16).toInt ≤ 60 from fun _ => by first | omega | assumption), (fun _ => h_890r)⟩
                      · skip
                        exact absurd (by decide) c_868
              · skip
                exact absurd (by decide) c_792
      · skip
        have c_464i : r6.toInt ≠ 61 := bI_neq rfl (show (61 : Int32).toInt = 61 by decide) c_464
        refine ok_ite (fun c_897 => ?_) (fun c_897 => ?_)
        · skip
          have c_897i : r6.toInt = 62 := bI_eq rfl (show (62 : Int32).toInt = 62 by decide) c_897
          refine ok_jn ?_
          refine ok_jn ?_
          refine ok_ite (fun c_898 => ?_) (fun c_898 => ?_)
          · skip
            have c_898i : r6.toInt = 61 := bI_eq rfl (show (61 : Int32).toInt = 61 by decide) c_898
            refine ok_jn ?_
            refine ok_ite (fun c_899 => ?_) (fun c_899 => ?_)
            · skip
              refine ok_bd2 (t_fX9_makes (by first | omega | assumption | decide | (show 0 ≤ (gI z7 16).toInt ∧ (gI z7 16).toInt ≤ 60; first | omega | assumption)) (by first | omega | assumption | decide | (show 0 ≤ (gI z7 12).toInt ∧ (gI z7 12).toInt ≤ 400; first | omega | assumption))) (fun r14 z15 q_900 => ?_)
              have h_901 : r14 = 0 ∨ r14 = 1 := q_900.1
              have h_901i := bool_i h_901
              have h_902 : FrL [13, 16] (sI z7 12 ((gI z7 12) + 1)) z15 := q_900.2.1
              have h_903 : r14.toInt = 0 → (gI z15 13).toInt ≠ 0 := q_900.2.2.1
              have h_904 : r14.toInt = 1 → (gI z15 16).toInt = (gI z7 16).toInt + 1 ∧ (gI z15 16).toInt ≤ 60 := q_900.2.2.2
              clear q_900
              have s_905 : (gI z15 1).toInt = (gI z7 1).toInt := congrArg Int32.toInt (h_902 1 (by decide)).1
              have r_906 := n_rng (gI z7 12)
              try have e_907 : ((gI z7 12) + 1).toInt = ((gI z7 12).toInt + 1) := (i32_add rfl (show (1 : Int32).toInt = 1 by decide) (by omega) (by omega))
              have s_908 : (gI z15 12).toInt = ((gI z7 12) + 1).toInt := congrArg Int32.toInt (h_902 12 (by decide)).1
              have s_909 : (gI z15 15).toInt = (gI z7 15).toInt := congrArg Int32.toInt (h_902 15 (by decide)).1
              have s_910 : (gT z15 4 t).toInt = (gT z7 4 t).toInt := congrArg (fun f : Nat → Int32 => (f t).toInt) (h_902 4 (by decide)).2.1
              refine ok_ite (fun c_911 => ?_) (fun c_911 => ?_)
              · skip
                have r_912 := n_rng r14
                have c_911i : r14.toInt = 0 := bI_eq rfl (show (0 : Int32).toInt = 0 by decide) c_911
                have u_913 : (gI z15 13).toInt ≠ 0 := h_903 (by omega)
                try have e_914 : (0 : Int32).toInt = 0 := (show (0 : Int32).toInt = 0 by decide)
                exact ok_some ⟨Or.inl rfl, (fr_tr (fr_I (fr_tr (fr_tr fr_rf h_3 (by decide)) h_19 (by decide)) (by decide)) h_902 (by decide)), (show (gI z_t 12).toInt ≤ (gI z15 12).toInt ∧ (gI z15 12).toInt ≤ (gI z_t 1).toInt by first | omega | assumption | trivial), (kp_fr (kp_I (kp_fr (kp_tr kp_rf h_5) h_19 (by decide))) h_902 (by decide)), (show (0 : Int32).toInt = 0 → (gI z15 13).toInt ≠ 0 from fun _ => by first | omega | assumption), (show (0 : Int32).toInt = 1 → (gT z15 4 t).toInt + o ≤ (gI z15 12).toInt ∧ h + 1 ≤ (gI z15 16).toInt ∧ (gI z15 16).toInt ≤ 60 from fun q => absurd q (by decide)), (show (0 : Int32).toInt = 1 → RN z15 t b (h + 1) from fun q => absurd q (by decide))⟩
              · skip
                have r_915 := n_rng r14
                have c_911i : r14.toInt ≠ 0 := bI_neq rfl (show (0 : Int32).toInt = 0 by decide) c_911
                have u_916 : (gI z15 16).toInt = (gI z7 16).toInt + 1 ∧ (gI z15 16).toInt ≤ 60 := h_904 (by omega)
                refine ok_jn ?_
                refine ok_ite (fun c_917 => ?_) (fun c_917 => ?_)
                · skip
                  have c_917i : r6.toInt = 60 := bI_eq rfl (show (60 : Int32).toInt = 60 by decide) c_917
                  refine ok_ite (fun c_918 => ?_) (fun c_918 => ?_)
                  · skip
                    refine ok_bd2 (t_fX9_sum (t := t) (b := b) (h := h + 1) (o := o + 1) (by first | omega | assumption | decide | (show 0 ≤ (gI z15 12).toInt ∧ (gI z15 12).toInt ≤ (gI z15 1).toInt ∧ (gI z15 1).toInt ≤ 400; first | omega | assumption)) (by first | omega | assumption | decide | (show (gI z15 15).toInt = t ∧ t < 6; first | omega | assumption)) (by first | omega | assumption | decide | (show 0 ≤ (gT z15 4 t).toInt ∧ (gT z15 4 t).toInt + (o + 1) ≤ (gI z15 12).toInt; first | omega | assumption)) (by first | omega | assumption | decide | (show 0 ≤ (gI z15 16).toInt ∧ (gI z15 16).toInt ≤ 60 ∧ (h + 1) ≤ (gI z15 16).toInt; first | omega | assumption)) (rn_fr h_902 (by decide) (rn_I (rn_fr h_19 (by decide) u_17)))) (fun r20 z21 q_919 => ?_)
                    have h_920 : r20 = 0 ∨ r20 = 1 := q_919.1
                    have h_920i := bool_i h_920
                    have h_921 : FrL [3, 4, 12, 13, 14, 16] z15 z21 := q_919.2.1
                    have h_922 : (gI z15 12).toInt ≤ (gI z21 12).toInt ∧ (gI z21 12).toInt ≤ (gI z15 1).toInt := q_919.2.2.1
                    have h_923 : KP t z15 z21 := q_919.2.2.2.1
                    have h_923a : (gT z15 4 t).toInt ≤ (gT z21 4 t).toInt := h_923.1
                    have h_924 : r20.toInt = 0 → (gI z21 13).toInt ≠ 0 := q_919.2.2.2.2.1
                    have h_925 : r20.toInt = 1 → (gT z21 4 t).toInt + (o + 1) ≤ (gI z21 12).toInt ∧ (h + 1) + 1 ≤ (gI z21 16).toInt ∧ (gI z21 16).toInt ≤ 60 := q_919.2.2.2.2.2.1
                    have h_926 : r20.toInt = 1 → RN z21 t b ((h + 1) + 1) := q_919.2.2.2.2.2.2
                    clear q_919
                    have s_927 : (gI z21 1).toInt = (gI z15 1).toInt := congrArg Int32.toInt (h_921 1 (by decide)).1
                    have s_928 : (gI z21 15).toInt = (gI z15 15).toInt := congrArg Int32.toInt (h_921 15 (by decide)).1
                    refine ok_ite (fun c_929 => ?_) (fun c_929 => ?_)
                    · skip
                      have r_930 := n_rng r20
                      have c_929i : r20.toInt = 0 := bI_eq rfl (show (0 : Int32).toInt = 0 by decide) c_929
                      have u_931 : (gI z21 13).toInt ≠ 0 := h_924 (by omega)
                      try have e_932 : (0 : Int32).toInt = 0 := (show (0 : Int32).toInt = 0 by decide)
                      exact ok_some ⟨Or.inl rfl, (fr_tr (fr_tr (fr_I (fr_tr (fr_tr fr_rf h_3 (by decide)) h_19 (by decide)) (by decide)) h_902 (by decide)) h_921 (by decide)), (show (gI z_t 12).toInt ≤ (gI z21 12).toInt ∧ (gI z21 12).toInt ≤ (gI z_t 1).toInt by first | omega | assumption | trivial), (kp_tr (kp_fr (kp_I (kp_fr (kp_tr kp_rf h_5) h_19 (by decide))) h_902 (by decide)) h_923), (show (0 : Int32).toInt = 0 → (gI z21 13).toInt ≠ 0 from fun _ => by first | omega | assumption), (show (0 : Int32).toInt = 1 → (gT z21 4 t).toInt + o ≤ (gI z21 12).toInt ∧ h + 1 ≤ (gI z21 16).toInt ∧ (gI z21 16).toInt ≤ 60 from fun q => absurd q (by decide)), (show (0 : Int32).toInt = 1 → RN z21 t b (h + 1) from fun q => absurd q (by decide))⟩
                    · skip
                      have r_933 := n_rng r20
                      have c_929i : r20.toInt ≠ 0 := bI_neq rfl (show (0 : Int32).toInt = 0 by decide) c_929
                      have u_934 : (gT z21 4 t).toInt + (o + 1) ≤ (gI z21 12).toInt ∧ (h + 1) + 1 ≤ (gI z21 16).toInt ∧ (gI z21 16).toInt ≤ 60 := h_925 (by omega)
                      have u_935 : RN z21 t b ((h + 1) + 1) := h_926 (by omega)
                      have e_937 : ((6 : Int32) + 0).toInt = (6 + 0) := (i32_add (show (6 : Int32).toInt = 6 by decide) (show (0 : Int32).toInt = 0 by decide) (by omega) (by omega))
                      have e_938 : (0 : Int32).toInt = 0 := (show (0 : Int32).toInt = 0 by decide)
                      refine ok_bd (t_fX9_puts (t := t) (by first | omega | assumption | decide | (show (gI z21 15).toInt = t ∧ t < 6; first | omega | assumption)) (by first | omega | assumption | decide | (show 0 ≤ (gT z21 4 t).toInt ∧ (gT z21 4 t).toInt < 400; first | omega | assumption))) (fun z24 q_936 => ?_)
                      have h_939 : FrL [3, 4] z21 z24 := q_936.1
                      have h_940 : PUT t z21 z24 (((6 : Int32) + 0) + (16 * (0 : Int32))) := q_936.2
                      clear q_936
                      have s_941 : (gI z24 1).toInt = (gI z21 1).toInt := congrArg Int32.toInt (h_939 1 (by decide)).1
                      have s_942 : (gI z24 12).toInt = (gI z21 12).toInt := congrArg Int32.toInt (h_939 12 (by decide)).1
                      have s_943 : (gI z24 13).toInt = (gI z21 13).toInt := congrArg Int32.toInt (h_939 13 (by decide)).1
                      have s_944 : (gI z24 15).toInt = (gI z21 15).toInt := congrArg Int32.toInt (h_939 15 (by decide)).1
                      have s_945 : (gI z24 16).toInt = (gI z21 16).toInt := congrArg Int32.toInt (h_939 16 (by decide)).1
                      have h_940a := h_940.1
                      have h_940k := h_940.2.1
                      have h_940r : RN z24 t b ((h + 1)) := rn_put (by omega) h_940 u_935 (stp_bin (by omega) (by decide) (by decide) (by decide))
                      try have e_946 : (1 : Int32).toInt = 1 := (show (1 : Int32).toInt = 1 by decide)
                      exact ok_some ⟨Or.inr rfl, (fr_tr (fr_tr (fr_tr (fr_I (fr_tr (fr_tr fr_rf h_3 (by decide)) h_19 (by decide)) (by decide)) h_902 (by decide)) h_921 (by decide)) h_939 (by decide)), (show (gI z_t 12).toInt ≤ (gI z24 12).toInt ∧ (gI z24 12).toInt ≤ (gI z_t 1).toInt by first | omega | assumption | trivial), (kp_tr (kp_tr (kp_fr (kp_I (kp_fr (kp_tr kp_rf h_5) h_19 (by decide))) h_902 (by decide)) h_923) h_940k), (show (1 : Int32).toInt = 0 → (gI z24 13).toInt ≠ 0 from fun q => absurd q (by decide)), (show (1 : Int32).toInt = 1 → (gT z24 4 t).toInt + o ≤ (gI z24 12).toInt ∧ h + 1 ≤ (gI z24 16).toInt ∧ (gI z24 16).toInt ≤ 60 from fun _ => by first | omega | assumption), (fun _ => h_940r)⟩
                  · skip
                    exact absurd (by decide) c_918
                · skip
                  have c_917i : r6.toInt ≠ 60 := bI_neq rfl (show (60 : Int32).toInt = 60 by decide) c_917
                  refine ok_ite (fun c_947 => ?_) (fun c_947 => ?_)
                  · skip
                    have c_947i : r6.toInt = 61 := bI_eq rfl (show (61 : Int32).toInt = 61 by decide) c_947
                    refine ok_bd2 (t_fX9_sum (t := t) (b := b) (h := h + 1) (o := o + 1) (by first | omega | assumption | decide | (show 0 ≤ (gI z15 12).toInt ∧ (gI z15 12).toInt ≤ (gI z15 1).toInt ∧ (gI z15 1).toInt ≤ 400; first | omega | assumption)) (by first | omega | assumption | decide | (show (gI z15 15).toInt = t ∧ t < 6; first | omega | assumption)) (by first | omega | assumption | decide | (show 0 ≤ (gT z15 4 t).toInt ∧ (gT z15 4 t).toInt + (o + 1) ≤ (gI z15 12).toInt; first | omega | assumption)) (by first | omega | assumption | decide | (show 0 ≤ (gI z15 16).toInt ∧ (gI z15 16).toInt ≤ 60 ∧ (h + 1) ≤ (gI z15 16).toInt; first | omega | assumption)) (rn_fr h_902 (by decide) (rn_I (rn_fr h_19 (by decide) u_17)))) (fun r20 z21 q_948 => ?_)
                    have h_949 : r20 = 0 ∨ r20 = 1 := q_948.1
                    have h_949i := bool_i h_949
                    have h_950 : FrL [3, 4, 12, 13, 14, 16] z15 z21 := q_948.2.1
                    have h_951 : (gI z15 12).toInt ≤ (gI z21 12).toInt ∧ (gI z21 12).toInt ≤ (gI z15 1).toInt := q_948.2.2.1
                    have h_952 : KP t z15 z21 := q_948.2.2.2.1
                    have h_952a : (gT z15 4 t).toInt ≤ (gT z21 4 t).toInt := h_952.1
                    have h_953 : r20.toInt = 0 → (gI z21 13).toInt ≠ 0 := q_948.2.2.2.2.1
                    have h_954 : r20.toInt = 1 → (gT z21 4 t).toInt + (o + 1) ≤ (gI z21 12).toInt ∧ (h + 1) + 1 ≤ (gI z21 16).toInt ∧ (gI z21 16).toInt ≤ 60 := q_948.2.2.2.2.2.1
                    have h_955 : r20.toInt = 1 → RN z21 t b ((h + 1) + 1) := q_948.2.2.2.2.2.2
                    clear q_948
                    have s_956 : (gI z21 1).toInt = (gI z15 1).toInt := congrArg Int32.toInt (h_950 1 (by decide)).1
                    have s_957 : (gI z21 15).toInt = (gI z15 15).toInt := congrArg Int32.toInt (h_950 15 (by decide)).1
                    refine ok_ite (fun c_958 => ?_) (fun c_958 => ?_)
                    · skip
                      have r_959 := n_rng r20
                      have c_958i : r20.toInt = 0 := bI_eq rfl (show (0 : Int32).toInt = 0 by decide) c_958
                      have u_960 : (gI z21 13).toInt ≠ 0 := h_953 (by omega)
                      try have e_961 : (0 : Int32).toInt = 0 := (show (0 : Int32).toInt = 0 by decide)
                      exact ok_some ⟨Or.inl rfl, (fr_tr (fr_tr (fr_I (fr_tr (fr_tr fr_rf h_3 (by decide)) h_19 (by decide)) (by decide)) h_902 (by decide)) h_950 (by decide)), (show (gI z_t 12).toInt ≤ (gI z21 12).toInt ∧ (gI z21 12).toInt ≤ (gI z_t 1).toInt by first | omega | assumption | trivial), (kp_tr (kp_fr (kp_I (kp_fr (kp_tr kp_rf h_5) h_19 (by decide))) h_902 (by decide)) h_952), (show (0 : Int32).toInt = 0 → (gI z21 13).toInt ≠ 0 from fun _ => by first | omega | assumption), (show (0 : Int32).toInt = 1 → (gT z21 4 t).toInt + o ≤ (gI z21 12).toInt ∧ h + 1 ≤ (gI z21 16).toInt ∧ (gI z21 16).toInt ≤ 60 from fun q => absurd q (by decide)), (show (0 : Int32).toInt = 1 → RN z21 t b (h + 1) from fun q => absurd q (by decide))⟩
                    · skip
                      have r_962 := n_rng r20
                      have c_958i : r20.toInt ≠ 0 := bI_neq rfl (show (0 : Int32).toInt = 0 by decide) c_958
                      have u_963 : (gT z21 4 t).toInt + (o + 1) ≤ (gI z21 12).toInt ∧ (h + 1) + 1 ≤ (gI z21 16).toInt ∧ (gI z21 16).toInt ≤ 60 := h_954 (by omega)
                      have u_964 : RN z21 t b ((h + 1) + 1) := h_955 (by omega)
                      have e_966 : ((6 : Int32) + 2).toInt = (6 + 2) := (i32_add (show (6 : Int32).toInt = 6 by decide) (show (2 : Int32).toInt = 2 by decide) (by omega) (by omega))
                      have e_967 : (0 : Int32).toInt = 0 := (show (0 : Int32).toInt = 0 by decide)
                      refine ok_bd (t_fX9_puts (t := t) (by first | omega | assumption | decide | (show (gI z21 15).toInt = t ∧ t < 6; first | omega | assumption)) (by first | omega | assumption | decide | (show 0 ≤ (gT z21 4 t).toInt ∧ (gT z21 4 t).toInt < 400; first | omega | assumption))) (fun z24 q_965 => ?_)
                      have h_968 : FrL [3, 4] z21 z24 := q_965.1
                      have h_969 : PUT t z21 z24 (((6 : Int32) + 2) + (16 * (0 : Int32))) := q_965.2
                      clear q_965
                      have s_970 : (gI z24 1).toInt = (gI z21 1).toInt := congrArg Int32.toInt (h_968 1 (by decide)).1
                      have s_971 : (gI z24 12).toInt = (gI z21 12).toInt := congrArg Int32.toInt (h_968 12 (by decide)).1
                      have s_972 : (gI z24 13).toInt = (gI z21 13).toInt := congrArg Int32.toInt (h_968 13 (by decide)).1
                      have s_973 : (gI z24 15).toInt = (gI z21 15).toInt := congrArg Int32.toInt (h_968 15 (by decide)).1
                      have s_974 : (gI z24 16).toInt = (gI z21 16).toInt := congrArg Int32.toInt (h_968 16 (by decide)).1
                      have h_969a := h_969.1
                      have h_969k := h_969.2.1
                      have h_969r : RN z24 t b ((h + 1)) := rn_put (by omega) h_969 u_964 (stp_bin (by omega) (by decide) (by decide) (by decide))
                      try have e_975 : (1 : Int32).toInt = 1 := (show (1 : Int32).toInt = 1 by decide)
                      exact ok_some ⟨Or.inr rfl, (fr_tr (fr_tr (fr_tr (fr_I (fr_tr (fr_tr fr_rf h_3 (by decide)) h_19 (by decide)) (by decide)) h_902 (by decide)) h_950 (by decide)) h_968 (by decide)), (show (gI z_t 12).toInt ≤ (gI z24 12).toInt ∧ (gI z24 12).toInt ≤ (gI z_t 1).toInt by first | omega | assumption | trivial), (kp_tr (kp_tr (kp_fr (kp_I (kp_fr (kp_tr kp_rf h_5) h_19 (by decide))) h_902 (by decide)) h_952) h_969k), (show (1 : Int32).toInt = 0 → (gI z24 13).toInt ≠ 0 from fun q => absurd q (by decide)), (show (1 : Int32).toInt = 1 → (gT z24 4 t).toInt + o ≤ (gI z24 12).toInt ∧ h + 1 ≤ (gI z24 16).toInt ∧ (gI z24 16).toInt ≤ 60 from fun _ => by first | omega | assumption), (fun _ => h_969r)⟩
                  · skip
                    have c_947i : r6.toInt ≠ 61 := bI_neq rfl (show (61 : Int32).toInt = 61 by decide) c_947
                    refine ok_ite (fun c_976 => ?_) (fun c_976 => ?_)
                    · skip
                      refine ok_bd2 (t_fX9_sum (t := t) (b := b) (h := h + 1) (o := o + 1) (by first | omega | assumption | decide | (show 0 ≤ (gI z15 12).toInt ∧ (gI z15 12).toInt ≤ (gI z15 1).toInt ∧ (gI z15 1).toInt ≤ 400; first | omega | assumption)) (by first | omega | assumption | decide | (show (gI z15 15).toInt = t ∧ t < 6; first | omega | assumption)) (by first | omega | assumption | decide | (show 0 ≤ (gT z15 4 t).toInt ∧ (gT z15 4 t).toInt + (o + 1) ≤ (gI z15 12).toInt; first | omega | assumption)) (by first | omega | assumption | decide | (show 0 ≤ (gI z15 16).toInt ∧ (gI z15 16).toInt ≤ 60 ∧ (h + 1) ≤ (gI z15 16).toInt; first | omega | assumption)) (rn_fr h_902 (by decide) (rn_I (rn_fr h_19 (by decide) u_17)))) (fun r20 z21 q_977 => ?_)
                      have h_978 : r20 = 0 ∨ r20 = 1 := q_977.1
                      have h_978i := bool_i h_978
                      have h_979 : FrL [3, 4, 12, 13, 14, 16] z15 z21 := q_977.2.1
                      have h_980 : (gI z15 12).toInt ≤ (gI z21 12).toInt ∧ (gI z21 12).toInt ≤ (gI z15 1).toInt := q_977.2.2.1
                      have h_981 : KP t z15 z21 := q_977.2.2.2.1
                      have h_981a : (gT z15 4 t).toInt ≤ (gT z21 4 t).toInt := h_981.1
                      have h_982 : r20.toInt = 0 → (gI z21 13).toInt ≠ 0 := q_977.2.2.2.2.1
                      have h_983 : r20.toInt = 1 → (gT z21 4 t).toInt + (o + 1) ≤ (gI z21 12).toInt ∧ (h + 1) + 1 ≤ (gI z21 16).toInt ∧ (gI z21 16).toInt ≤ 60 := q_977.2.2.2.2.2.1
                      have h_984 : r20.toInt = 1 → RN z21 t b ((h + 1) + 1) := q_977.2.2.2.2.2.2
                      clear q_977
                      have s_985 : (gI z21 1).toInt = (gI z15 1).toInt := congrArg Int32.toInt (h_979 1 (by decide)).1
                      have s_986 : (gI z21 15).toInt = (gI z15 15).toInt := congrArg Int32.toInt (h_979 15 (by decide)).1
                      refine ok_ite (fun c_987 => ?_) (fun c_987 => ?_)
                      · skip
                        have r_988 := n_rng r20
                        have c_987i : r20.toInt = 0 := bI_eq rfl (show (0 : Int32).toInt = 0 by decide) c_987
                        have u_989 : (gI z21 13).toInt ≠ 0 := h_982 (by omega)
                        try have e_990 : (0 : Int32).toInt = 0 := (show (0 : Int32).toInt = 0 by decide)
                        exact ok_some ⟨Or.inl rfl, (fr_tr (fr_tr (fr_I (fr_tr (fr_tr fr_rf h_3 (by decide)) h_19 (by decide)) (by decide)) h_902 (by decide)) h_979 (by decide)), (show (gI z_t 12).toInt ≤ (gI z21 12).toInt ∧ (gI z21 12).toInt ≤ (gI z_t 1).toInt by first | omega | assumption | trivial), (kp_tr (kp_fr (kp_I (kp_fr (kp_tr kp_rf h_5) h_19 (by decide))) h_902 (by decide)) h_981), (show (0 : Int32).toInt = 0 → (gI z21 13).toInt ≠ 0 from fun _ => by first | omega | assumption), (show (0 : Int32).toInt = 1 → (gT z21 4 t).toInt + o ≤ (gI z21 12).toInt ∧ h + 1 ≤ (gI z21 16).toInt ∧ (gI z21 16).toInt ≤ 60 from fun q => absurd q (by decide)), (show (0 : Int32).toInt = 1 → RN z21 t b (h + 1) from fun q => absurd q (by decide))⟩
                      · skip
                        have r_991 := n_rng r20
                        have c_987i : r20.toInt ≠ 0 := bI_neq rfl (show (0 : Int32).toInt = 0 by decide) c_987
                        have u_992 : (gT z21 4 t).toInt + (o + 1) ≤ (gI z21 12).toInt ∧ (h + 1) + 1 ≤ (gI z21 16).toInt ∧ (gI z21 16).toInt ≤ 60 := h_983 (by omega)
                        have u_993 : RN z21 t b ((h + 1) + 1) := h_984 (by omega)
                        have e_995 : ((6 : Int32) + 4).toInt = (6 + 4) := (i32_add (show (6 : Int32).toInt = 6 by decide) (show (4 : Int32).toInt = 4 by decide) (by omega) (by omega))
                        have e_996 : (0 : Int32).toInt = 0 := (show (0 : Int32).toInt = 0 by decide)
                        refine ok_bd (t_fX9_puts (t := t) (by first | omega | assumption | decide | (show (gI z21 15).toInt = t ∧ t < 6; first | omega | assumption)) (by first | omega | assumption | decide | (show 0 ≤ (gT z21 4 t).toInt ∧ (gT z21 4 t).toInt < 400; first | omega | assumption))) (fun z24 q_994 => ?_)
                        have h_997 : FrL [3, 4] z21 z24 := q_994.1
                        have h_998 : PUT t z21 z24 (((6 : Int32) + 4) + (16 * (0 : Int32))) := q_994.2
                        clear q_994
                        have s_999 : (gI z24 1).toInt = (gI z21 1).toInt := congrArg Int32.toInt (h_997 1 (by decide)).1
                        have s_1000 : (gI z24 12).toInt = (gI z21 12).toInt := congrArg Int32.toInt (h_997 12 (by decide)).1
                        have s_1001 : (gI z24 13).toInt = (gI z21 13).toInt := congrArg Int32.toInt (h_997 13 (by decide)).1
                        have s_1002 : (gI z24 15).toInt = (gI z21 15).toInt := congrArg Int32.toInt (h_997 15 (by decide)).1
                        have s_1003 : (gI z24 16).toInt = (gI z21 16).toInt := congrArg Int32.toInt (h_997 16 (by decide)).1
                        have h_998a := h_998.1
                        have h_998k := h_998.2.1
                        have h_998r : RN z24 t b ((h + 1)) := rn_put (by omega) h_998 u_993 (stp_bin (by omega) (by decide) (by decide) (by decide))
                        try have e_1004 : (1 : Int32).toInt = 1 := (show (1 : Int32).toInt = 1 by decide)
                        exact ok_some ⟨Or.inr rfl, (fr_tr (fr_tr (fr_tr (fr_I (fr_tr (fr_tr fr_rf h_3 (by decide)) h_19 (by decide)) (by decide)) h_902 (by decide)) h_979 (by decide)) h_997 (by decide)), (show (gI z_t 12).toInt ≤ (gI z24 12).toInt ∧ (gI z24 12).toInt ≤ (gI z_t 1).toInt by first | omega | assumption | trivial), (kp_tr (kp_tr (kp_fr (kp_I (kp_fr (kp_tr kp_rf h_5) h_19 (by decide))) h_902 (by decide)) h_981) h_998k), (show (1 : Int32).toInt = 0 → (gI z24 13).toInt ≠ 0 from fun q => absurd q (by decide)), (show (1 : Int32).toInt = 1 → (gT z24 4 t).toInt + o ≤ (gI z24 12).toInt ∧ h + 1 ≤ (gI z24 16).toInt ∧ (gI z24 16).toInt ≤ 60 from fun _ => by first | omega | assumption), (fun _ => h_998r)⟩
                    · skip
                      exact absurd (by decide) c_976
            · skip
              exact absurd (by decide) c_899
          · skip
            have c_898i : r6.toInt ≠ 61 := bI_neq rfl (show (61 : Int32).toInt = 61 by decide) c_898
            refine ok_ite (fun c_1005 => ?_) (fun c_1005 => ?_)
            · skip
              have r_1006 := n_rng (gI z7 1)
              have r_1007 := n_rng (gI z7 12)
              try have c_1005i : (gI z7 1).toInt ≤ ((gI z7 12).toInt + 1) := bI_le rfl (i32_add rfl (show (1 : Int32).toInt = 1 by decide) (by omega) (by omega)) c_1005
              refine ok_jn ?_
              refine ok_ite (fun c_1008 => ?_) (fun c_1008 => ?_)
              · skip
                refine ok_bd2 (t_fX9_makes (by first | omega | assumption | decide | (show 0 ≤ (gI z7 16).toInt ∧ (gI z7 16).toInt ≤ 60; first | omega | assumption)) (by first | omega | assumption | decide | (show 0 ≤ (gI z7 12).toInt ∧ (gI z7 12).toInt ≤ 400; first | omega | assumption))) (fun r14 z15 q_1009 => ?_)
                have h_1010 : r14 = 0 ∨ r14 = 1 := q_1009.1
                have h_1010i := bool_i h_1010
                have h_1011 : FrL [13, 16] (sI z7 12 ((gI z7 12) + 1)) z15 := q_1009.2.1
                have h_1012 : r14.toInt = 0 → (gI z15 13).toInt ≠ 0 := q_1009.2.2.1
                have h_1013 : r14.toInt = 1 → (gI z15 16).toInt = (gI z7 16).toInt + 1 ∧ (gI z15 16).toInt ≤ 60 := q_1009.2.2.2
                clear q_1009
                have s_1014 : (gI z15 1).toInt = (gI z7 1).toInt := congrArg Int32.toInt (h_1011 1 (by decide)).1
                try have e_1015 : ((gI z7 12) + 1).toInt = ((gI z7 12).toInt + 1) := (i32_add rfl (show (1 : Int32).toInt = 1 by decide) (by omega) (by omega))
                have s_1016 : (gI z15 12).toInt = ((gI z7 12) + 1).toInt := congrArg Int32.toInt (h_1011 12 (by decide)).1
                have s_1017 : (gI z15 15).toInt = (gI z7 15).toInt := congrArg Int32.toInt (h_1011 15 (by decide)).1
                have s_1018 : (gT z15 4 t).toInt = (gT z7 4 t).toInt := congrArg (fun f : Nat → Int32 => (f t).toInt) (h_1011 4 (by decide)).2.1
                refine ok_ite (fun c_1019 => ?_) (fun c_1019 => ?_)
                · skip
                  have r_1020 := n_rng r14
                  have c_1019i : r14.toInt = 0 := bI_eq rfl (show (0 : Int32).toInt = 0 by decide) c_1019
                  have u_1021 : (gI z15 13).toInt ≠ 0 := h_1012 (by omega)
                  try have e_1022 : (0 : Int32).toInt = 0 := (show (0 : Int32).toInt = 0 by decide)
                  exact ok_some ⟨Or.inl rfl, (fr_tr (fr_I (fr_tr (fr_tr fr_rf h_3 (by decide)) h_19 (by decide)) (by decide)) h_1011 (by decide)), (show (gI z_t 12).toInt ≤ (gI z15 12).toInt ∧ (gI z15 12).toInt ≤ (gI z_t 1).toInt by first | omega | assumption | trivial), (kp_fr (kp_I (kp_fr (kp_tr kp_rf h_5) h_19 (by decide))) h_1011 (by decide)), (show (0 : Int32).toInt = 0 → (gI z15 13).toInt ≠ 0 from fun _ => by first | omega | assumption), (show (0 : Int32).toInt = 1 → (gT z15 4 t).toInt + o ≤ (gI z15 12).toInt ∧ h + 1 ≤ (gI z15 16).toInt ∧ (gI z15 16).toInt ≤ 60 from fun q => absurd q (by decide)), (show (0 : Int32).toInt = 1 → RN z15 t b (h + 1) from fun q => absurd q (by decide))⟩
                · skip
                  have r_1023 := n_rng r14
                  have c_1019i : r14.toInt ≠ 0 := bI_neq rfl (show (0 : Int32).toInt = 0 by decide) c_1019
                  have u_1024 : (gI z15 16).toInt = (gI z7 16).toInt + 1 ∧ (gI z15 16).toInt ≤ 60 := h_1013 (by omega)
                  refine ok_jn ?_
                  refine ok_ite (fun c_1025 => ?_) (fun c_1025 => ?_)
                  · skip
                    have c_1025i : r6.toInt = 60 := bI_eq rfl (show (60 : Int32).toInt = 60 by decide) c_1025
                    refine ok_ite (fun c_1026 => ?_) (fun c_1026 => ?_)
                    · skip
                      refine ok_bd2 (t_fX9_sum (t := t) (b := b) (h := h + 1) (o := o + 1) (by first | omega | assumption | decide | (show 0 ≤ (gI z15 12).toInt ∧ (gI z15 12).toInt ≤ (gI z15 1).toInt ∧ (gI z15 1).toInt ≤ 400; first | omega | assumption)) (by first | omega | assumption | decide | (show (gI z15 15).toInt = t ∧ t < 6; first | omega | assumption)) (by first | omega | assumption | decide | (show 0 ≤ (gT z15 4 t).toInt ∧ (gT z15 4 t).toInt + (o + 1) ≤ (gI z15 12).toInt; first | omega | assumption)) (by first | omega | assumption | decide | (show 0 ≤ (gI z15 16).toInt ∧ (gI z15 16).toInt ≤ 60 ∧ (h + 1) ≤ (gI z15 16).toInt; first | omega | assumption)) (rn_fr h_1011 (by decide) (rn_I (rn_fr h_19 (by decide) u_17)))) (fun r20 z21 q_1027 => ?_)
                      have h_1028 : r20 = 0 ∨ r20 = 1 := q_1027.1
                      have h_1028i := bool_i h_1028
                      have h_1029 : FrL [3, 4, 12, 13, 14, 16] z15 z21 := q_1027.2.1
                      have h_1030 : (gI z15 12).toInt ≤ (gI z21 12).toInt ∧ (gI z21 12).toInt ≤ (gI z15 1).toInt := q_1027.2.2.1
                      have h_1031 : KP t z15 z21 := q_1027.2.2.2.1
                      have h_1031a : (gT z15 4 t).toInt ≤ (gT z21 4 t).toInt := h_1031.1
                      have h_1032 : r20.toInt = 0 → (gI z21 13).toInt ≠ 0 := q_1027.2.2.2.2.1
                      have h_1033 : r20.toInt = 1 → (gT z21 4 t).toInt + (o + 1) ≤ (gI z21 12).toInt ∧ (h + 1) + 1 ≤ (gI z21 16).toInt ∧ (gI z21 16).toInt ≤ 60 := q_1027.2.2.2.2.2.1
                      have h_1034 : r20.toInt = 1 → RN z21 t b ((h + 1) + 1) := q_1027.2.2.2.2.2.2
                      clear q_1027
                      have s_1035 : (gI z21 1).toInt = (gI z15 1).toInt := congrArg Int32.toInt (h_1029 1 (by decide)).1
                      have s_1036 : (gI z21 15).toInt = (gI z15 15).toInt := congrArg Int32.toInt (h_1029 15 (by decide)).1
                      refine ok_ite (fun c_1037 => ?_) (fun c_1037 => ?_)
                      · skip
                        have r_1038 := n_rng r20
                        have c_1037i : r20.toInt = 0 := bI_eq rfl (show (0 : Int32).toInt = 0 by decide) c_1037
                        have u_1039 : (gI z21 13).toInt ≠ 0 := h_1032 (by omega)
                        try have e_1040 : (0 : Int32).toInt = 0 := (show (0 : Int32).toInt = 0 by decide)
                        exact ok_some ⟨Or.inl rfl, (fr_tr (fr_tr (fr_I (fr_tr (fr_tr fr_rf h_3 (by decide)) h_19 (by decide)) (by decide)) h_1011 (by decide)) h_1029 (by decide)), (show (gI z_t 12).toInt ≤ (gI z21 12).toInt ∧ (gI z21 12).toInt ≤ (gI z_t 1).toInt by first | omega | assumption | trivial), (kp_tr (kp_fr (kp_I (kp_fr (kp_tr kp_rf h_5) h_19 (by decide))) h_1011 (by decide)) h_1031), (show (0 : Int32).toInt = 0 → (gI z21 13).toInt ≠ 0 from fun _ => by first | omega | assumption), (show (0 : Int32).toInt = 1 → (gT z21 4 t).toInt + o ≤ (gI z21 12).toInt ∧ h + 1 ≤ (gI z21 16).toInt ∧ (gI z21 16).toInt ≤ 60 from fun q => absurd q (by decide)), (show (0 : Int32).toInt = 1 → RN z21 t b (h + 1) from fun q => absurd q (by decide))⟩
                      · skip
                        have r_1041 := n_rng r20
                        have c_1037i : r20.toInt ≠ 0 := bI_neq rfl (show (0 : Int32).toInt = 0 by decide) c_1037
                        have u_1042 : (gT z21 4 t).toInt + (o + 1) ≤ (gI z21 12).toInt ∧ (h + 1) + 1 ≤ (gI z21 16).toInt ∧ (gI z21 16).toInt ≤ 60 := h_1033 (by omega)
                        have u_1043 : RN z21 t b ((h + 1) + 1) := h_1034 (by omega)
                        have e_1045 : ((6 : Int32) + 0).toInt = (6 + 0) := (i32_add (show (6 : Int32).toInt = 6 by decide) (show (0 : Int32).toInt = 0 by decide) (by omega) (by omega))
                        have e_1046 : (0 : Int32).toInt = 0 := (show (0 : Int32).toInt = 0 by decide)
                        refine ok_bd (t_fX9_puts (t := t) (by first | omega | assumption | decide | (show (gI z21 15).toInt = t ∧ t < 6; first | omega | assumption)) (by first | omega | assumption | decide | (show 0 ≤ (gT z21 4 t).toInt ∧ (gT z21 4 t).toInt < 400; first | omega | assumption))) (fun z24 q_1044 => ?_)
                        have h_1047 : FrL [3, 4] z21 z24 := q_1044.1
                        have h_1048 : PUT t z21 z24 (((6 : Int32) + 0) + (16 * (0 : Int32))) := q_1044.2
                        clear q_1044
                        have s_1049 : (gI z24 1).toInt = (gI z21 1).toInt := congrArg Int32.toInt (h_1047 1 (by decide)).1
                        have s_1050 : (gI z24 12).toInt = (gI z21 12).toInt := congrArg Int32.toInt (h_1047 12 (by decide)).1
                        have s_1051 : (gI z24 13).toInt = (gI z21 13).toInt := congrArg Int32.toInt (h_1047 13 (by decide)).1
                        have s_1052 : (gI z24 15).toInt = (gI z21 15).toInt := congrArg Int32.toInt (h_1047 15 (by decide)).1
                        have s_1053 : (gI z24 16).toInt = (gI z21 16).toInt := congrArg Int32.toInt (h_1047 16 (by decide)).1
                        have h_1048a := h_1048.1
                        have h_1048k := h_1048.2.1
                        have h_1048r : RN z24 t b ((h + 1)) := rn_put (by omega) h_1048 u_1043 (stp_bin (by omega) (by decide) (by decide) (by decide))
                        try have e_1054 : (1 : Int32).toInt = 1 := (show (1 : Int32).toInt = 1 by decide)
                        exact ok_some ⟨Or.inr rfl, (fr_tr (fr_tr (fr_tr (fr_I (fr_tr (fr_tr fr_rf h_3 (by decide)) h_19 (by decide)) (by decide)) h_1011 (by decide)) h_1029 (by decide)) h_1047 (by decide)), (show (gI z_t 12).toInt ≤ (gI z24 12).toInt ∧ (gI z24 12).toInt ≤ (gI z_t 1).toInt by first | omega | assumption | trivial), (kp_tr (kp_tr (kp_fr (kp_I (kp_fr (kp_tr kp_rf h_5) h_19 (by decide))) h_1011 (by decide)) h_1031) h_1048k), (show (1 : Int32).toInt = 0 → (gI z24 13).toInt ≠ 0 from fun q => absurd q (by decide)), (show (1 : Int32).toInt = 1 → (gT z24 4 t).toInt + o ≤ (gI z24 12).toInt ∧ h + 1 ≤ (gI z24 16).toInt ∧ (gI z24 16).toInt ≤ 60 from fun _ => by first | omega | assumption), (fun _ => h_1048r)⟩
                    · skip
                      exact absurd (by decide) c_1026
                  · skip
                    have c_1025i : r6.toInt ≠ 60 := bI_neq rfl (show (60 : Int32).toInt = 60 by decide) c_1025
                    refine ok_ite (fun c_1055 => ?_) (fun c_1055 => ?_)
                    · skip
                      have c_1055i : r6.toInt = 61 := bI_eq rfl (show (61 : Int32).toInt = 61 by decide) c_1055
                      refine ok_bd2 (t_fX9_sum (t := t) (b := b) (h := h + 1) (o := o + 1) (by first | omega | assumption | decide | (show 0 ≤ (gI z15 12).toInt ∧ (gI z15 12).toInt ≤ (gI z15 1).toInt ∧ (gI z15 1).toInt ≤ 400; first | omega | assumption)) (by first | omega | assumption | decide | (show (gI z15 15).toInt = t ∧ t < 6; first | omega | assumption)) (by first | omega | assumption | decide | (show 0 ≤ (gT z15 4 t).toInt ∧ (gT z15 4 t).toInt + (o + 1) ≤ (gI z15 12).toInt; first | omega | assumption)) (by first | omega | assumption | decide | (show 0 ≤ (gI z15 16).toInt ∧ (gI z15 16).toInt ≤ 60 ∧ (h + 1) ≤ (gI z15 16).toInt; first | omega | assumption)) (rn_fr h_1011 (by decide) (rn_I (rn_fr h_19 (by decide) u_17)))) (fun r20 z21 q_1056 => ?_)
                      have h_1057 : r20 = 0 ∨ r20 = 1 := q_1056.1
                      have h_1057i := bool_i h_1057
                      have h_1058 : FrL [3, 4, 12, 13, 14, 16] z15 z21 := q_1056.2.1
                      have h_1059 : (gI z15 12).toInt ≤ (gI z21 12).toInt ∧ (gI z21 12).toInt ≤ (gI z15 1).toInt := q_1056.2.2.1
                      have h_1060 : KP t z15 z21 := q_1056.2.2.2.1
                      have h_1060a : (gT z15 4 t).toInt ≤ (gT z21 4 t).toInt := h_1060.1
                      have h_1061 : r20.toInt = 0 → (gI z21 13).toInt ≠ 0 := q_1056.2.2.2.2.1
                      have h_1062 : r20.toInt = 1 → (gT z21 4 t).toInt + (o + 1) ≤ (gI z21 12).toInt ∧ (h + 1) + 1 ≤ (gI z21 16).toInt ∧ (gI z21 16).toInt ≤ 60 := q_1056.2.2.2.2.2.1
                      have h_1063 : r20.toInt = 1 → RN z21 t b ((h + 1) + 1) := q_1056.2.2.2.2.2.2
                      clear q_1056
                      have s_1064 : (gI z21 1).toInt = (gI z15 1).toInt := congrArg Int32.toInt (h_1058 1 (by decide)).1
                      have s_1065 : (gI z21 15).toInt = (gI z15 15).toInt := congrArg Int32.toInt (h_1058 15 (by decide)).1
                      refine ok_ite (fun c_1066 => ?_) (fun c_1066 => ?_)
                      · skip
                        have r_1067 := n_rng r20
                        have c_1066i : r20.toInt = 0 := bI_eq rfl (show (0 : Int32).toInt = 0 by decide) c_1066
                        have u_1068 : (gI z21 13).toInt ≠ 0 := h_1061 (by omega)
                        try have e_1069 : (0 : Int32).toInt = 0 := (show (0 : Int32).toInt = 0 by decide)
                        exact ok_some ⟨Or.inl rfl, (fr_tr (fr_tr (fr_I (fr_tr (fr_tr fr_rf h_3 (by decide)) h_19 (by decide)) (by decide)) h_1011 (by decide)) h_1058 (by decide)), (show (gI z_t 12).toInt ≤ (gI z21 12).toInt ∧ (gI z21 12).toInt ≤ (gI z_t 1).toInt by first | omega | assumption | trivial), (kp_tr (kp_fr (kp_I (kp_fr (kp_tr kp_rf h_5) h_19 (by decide))) h_1011 (by decide)) h_1060), (show (0 : Int32).toInt = 0 → (gI z21 13).toInt ≠ 0 from fun _ => by first | omega | assumption), (show (0 : Int32).toInt = 1 → (gT z21 4 t).toInt + o ≤ (gI z21 12).toInt ∧ h + 1 ≤ (gI z21 16).toInt ∧ (gI z21 16).toInt ≤ 60 from fun q => absurd q (by decide)), (show (0 : Int32).toInt = 1 → RN z21 t b (h + 1) from fun q => absurd q (by decide))⟩
                      · skip
                        have r_1070 := n_rng r20
                        have c_1066i : r20.toInt ≠ 0 := bI_neq rfl (show (0 : Int32).toInt = 0 by decide) c_1066
                        have u_1071 : (gT z21 4 t).toInt + (o + 1) ≤ (gI z21 12).toInt ∧ (h + 1) + 1 ≤ (gI z21 16).toInt ∧ (gI z21 16).toInt ≤ 60 := h_1062 (by omega)
                        have u_1072 : RN z21 t b ((h + 1) + 1) := h_1063 (by omega)
                        have e_1074 : ((6 : Int32) + 2).toInt = (6 + 2) := (i32_add (show (6 : Int32).toInt = 6 by decide) (show (2 : Int32).toInt = 2 by decide) (by omega) (by omega))
                        have e_1075 : (0 : Int32).toInt = 0 := (show (0 : Int32).toInt = 0 by decide)
                        refine ok_bd (t_fX9_puts (t := t) (by first | omega | assumption | decide | (show (gI z21 15).toInt = t ∧ t < 6; first | omega | assumption)) (by first | omega | assumption | decide | (show 0 ≤ (gT z21 4 t).toInt ∧ (gT z21 4 t).toInt < 400; first | omega | assumption))) (fun z24 q_1073 => ?_)
                        have h_1076 : FrL [3, 4] z21 z24 := q_1073.1
                        have h_1077 : PUT t z21 z24 (((6 : Int32) + 2) + (16 * (0 : Int32))) := q_1073.2
                        clear q_1073
                        have s_1078 : (gI z24 1).toInt = (gI z21 1).toInt := congrArg Int32.toInt (h_1076 1 (by decide)).1
                        have s_1079 : (gI z24 12).toInt = (gI z21 12).toInt := congrArg Int32.toInt (h_1076 12 (by decide)).1
                        have s_1080 : (gI z24 13).toInt = (gI z21 13).toInt := congrArg Int32.toInt (h_1076 13 (by decide)).1
                        have s_1081 : (gI z24 15).toInt = (gI z21 15).toInt := congrArg Int32.toInt (h_1076 15 (by decide)).1
                        have s_1082 : (gI z24 16).toInt = (gI z21 16).toInt := congrArg Int32.toInt (h_1076 16 (by decide)).1
                        have h_1077a := h_1077.1
                        have h_1077k := h_1077.2.1
                        have h_1077r : RN z24 t b ((h + 1)) := rn_put (by omega) h_1077 u_1072 (stp_bin (by omega) (by decide) (by decide) (by decide))
                        try have e_1083 : (1 : Int32).toInt = 1 := (show (1 : Int32).toInt = 1 by decide)
                        exact ok_some ⟨Or.inr rfl, (fr_tr (fr_tr (fr_tr (fr_I (fr_tr (fr_tr fr_rf h_3 (by decide)) h_19 (by decide)) (by decide)) h_1011 (by decide)) h_1058 (by decide)) h_1076 (by decide)), (show (gI z_t 12).toInt ≤ (gI z24 12).toInt ∧ (gI z24 12).toInt ≤ (gI z_t 1).toInt by first | omega | assumption | trivial), (kp_tr (kp_tr (kp_fr (kp_I (kp_fr (kp_tr kp_rf h_5) h_19 (by decide))) h_1011 (by decide)) h_1060) h_1077k), (show (1 : Int32).toInt = 0 → (gI z24 13).toInt ≠ 0 from fun q => absurd q (by decide)), (show (1 : Int32).toInt = 1 → (gT z24 4 t).toInt + o ≤ (gI z24 12).toInt ∧ h + 1 ≤ (gI z24 16).toInt ∧ (gI z24 16).toInt ≤ 60 from fun _ => by first | omega | assumption), (fun _ => h_1077r)⟩
                    · skip
                      have c_1055i : r6.toInt ≠ 61 := bI_neq rfl (show (61 : Int32).toInt = 61 by decide) c_1055
                      refine ok_ite (fun c_1084 => ?_) (fun c_1084 => ?_)
                      · skip
                        refine ok_bd2 (t_fX9_sum (t := t) (b := b) (h := h + 1) (o := o + 1) (by first | omega | assumption | decide | (show 0 ≤ (gI z15 12).toInt ∧ (gI z15 12).toInt ≤ (gI z15 1).toInt ∧ (gI z15 1).toInt ≤ 400; first | omega | assumption)) (by first | omega | assumption | decide | (show (gI z15 15).toInt = t ∧ t < 6; first | omega | assumption)) (by first | omega | assumption | decide | (show 0 ≤ (gT z15 4 t).toInt ∧ (gT z15 4 t).toInt + (o + 1) ≤ (gI z15 12).toInt; first | omega | assumption)) (by first | omega | assumption | decide | (show 0 ≤ (gI z15 16).toInt ∧ (gI z15 16).toInt ≤ 60 ∧ (h + 1) ≤ (gI z15 16).toInt; first | omega | assumption)) (rn_fr h_1011 (by decide) (rn_I (rn_fr h_19 (by decide) u_17)))) (fun r20 z21 q_1085 => ?_)
                        have h_1086 : r20 = 0 ∨ r20 = 1 := q_1085.1
                        have h_1086i := bool_i h_1086
                        have h_1087 : FrL [3, 4, 12, 13, 14, 16] z15 z21 := q_1085.2.1
                        have h_1088 : (gI z15 12).toInt ≤ (gI z21 12).toInt ∧ (gI z21 12).toInt ≤ (gI z15 1).toInt := q_1085.2.2.1
                        have h_1089 : KP t z15 z21 := q_1085.2.2.2.1
                        have h_1089a : (gT z15 4 t).toInt ≤ (gT z21 4 t).toInt := h_1089.1
                        have h_1090 : r20.toInt = 0 → (gI z21 13).toInt ≠ 0 := q_1085.2.2.2.2.1
                        have h_1091 : r20.toInt = 1 → (gT z21 4 t).toInt + (o + 1) ≤ (gI z21 12).toInt ∧ (h + 1) + 1 ≤ (gI z21 16).toInt ∧ (gI z21 16).toInt ≤ 60 := q_1085.2.2.2.2.2.1
                        have h_1092 : r20.toInt = 1 → RN z21 t b ((h + 1) + 1) := q_1085.2.2.2.2.2.2
                        clear q_1085
                        have s_1093 : (gI z21 1).toInt = (gI z15 1).toInt := congrArg Int32.toInt (h_1087 1 (by decide)).1
                        have s_1094 : (gI z21 15).toInt = (gI z15 15).toInt := congrArg Int32.toInt (h_1087 15 (by decide)).1
                        refine ok_ite (fun c_1095 => ?_) (fun c_1095 => ?_)
                        · skip
                          have r_1096 := n_rng r20
                          have c_1095i : r20.toInt = 0 := bI_eq rfl (show (0 : Int32).toInt = 0 by decide) c_1095
                          have u_1097 : (gI z21 13).toInt ≠ 0 := h_1090 (by omega)
                          try have e_1098 : (0 : Int32).toInt = 0 := (show (0 : Int32).toInt = 0 by decide)
                          exact ok_some ⟨Or.inl rfl, (fr_tr (fr_tr (fr_I (fr_tr (fr_tr fr_rf h_3 (by decide)) h_19 (by decide)) (by decide)) h_1011 (by decide)) h_1087 (by decide)), (show (gI z_t 12).toInt ≤ (gI z21 12).toInt ∧ (gI z21 12).toInt ≤ (gI z_t 1).toInt by first | omega | assumption | trivial), (kp_tr (kp_fr (kp_I (kp_fr (kp_tr kp_rf h_5) h_19 (by decide))) h_1011 (by decide)) h_1089), (show (0 : Int32).toInt = 0 → (gI z21 13).toInt ≠ 0 from fun _ => by first | omega | assumption), (show (0 : Int32).toInt = 1 → (gT z21 4 t).toInt + o ≤ (gI z21 12).toInt ∧ h + 1 ≤ (gI z21 16).toInt ∧ (gI z21 16).toInt ≤ 60 from fun q => absurd q (by decide)), (show (0 : Int32).toInt = 1 → RN z21 t b (h + 1) from fun q => absurd q (by decide))⟩
                        · skip
                          have r_1099 := n_rng r20
                          have c_1095i : r20.toInt ≠ 0 := bI_neq rfl (show (0 : Int32).toInt = 0 by decide) c_1095
                          have u_1100 : (gT z21 4 t).toInt + (o + 1) ≤ (gI z21 12).toInt ∧ (h + 1) + 1 ≤ (gI z21 16).toInt ∧ (gI z21 16).toInt ≤ 60 := h_1091 (by omega)
                          have u_1101 : RN z21 t b ((h + 1) + 1) := h_1092 (by omega)
                          have e_1103 : ((6 : Int32) + 4).toInt = (6 + 4) := (i32_add (show (6 : Int32).toInt = 6 by decide) (show (4 : Int32).toInt = 4 by decide) (by omega) (by omega))
                          have e_1104 : (0 : Int32).toInt = 0 := (show (0 : Int32).toInt = 0 by decide)
                          refine ok_bd (t_fX9_puts (t := t) (by first | omega | assumption | decide | (show (gI z21 15).toInt = t ∧ t < 6; first | omega | assumption)) (by first | omega | assumption | decide | (show 0 ≤ (gT z21 4 t).toInt ∧ (gT z21 4 t).toInt < 400; first | omega | assumption))) (fun z24 q_1102 => ?_)
                          have h_1105 : FrL [3, 4] z21 z24 := q_1102.1
                          have h_1106 : PUT t z21 z24 (((6 : Int32) + 4) + (16 * (0 : Int32))) := q_1102.2
                          clear q_1102
                          have s_1107 : (gI z24 1).toInt = (gI z21 1).toInt := congrArg Int32.toInt (h_1105 1 (by decide)).1
                          have s_1108 : (gI z24 12).toInt = (gI z21 12).toInt := congrArg Int32.toInt (h_1105 12 (by decide)).1
                          have s_1109 : (gI z24 13).toInt = (gI z21 13).toInt := congrArg Int32.toInt (h_1105 13 (by decide)).1
                          have s_1110 : (gI z24 15).toInt = (gI z21 15).toInt := congrArg Int32.toInt (h_1105 15 (by decide)).1
                          have s_1111 : (gI z24 16).toInt = (gI z21 16).toInt := congrArg Int32.toInt (h_1105 16 (by decide)).1
                          have h_1106a := h_1106.1
                          have h_1106k := h_1106.2.1
                          have h_1106r : RN z24 t b ((h + 1)) := rn_put (by omega) h_1106 u_1101 (stp_bin (by omega) (by decide) (by decide) (by decide))
                          try have e_1112 : (1 : Int32).toInt = 1 := (show (1 : Int32).toInt = 1 by decide)
                          exact ok_some ⟨Or.inr rfl, (fr_tr (fr_tr (fr_tr (fr_I (fr_tr (fr_tr fr_rf h_3 (by decide)) h_19 (by decide)) (by decide)) h_1011 (by decide)) h_1087 (by decide)) h_1105 (by decide)), (show (gI z_t 12).toInt ≤ (gI z24 12).toInt ∧ (gI z24 12).toInt ≤ (gI z_t 1).toInt by first | omega | assumption | trivial), (kp_tr (kp_tr (kp_fr (kp_I (kp_fr (kp_tr kp_rf h_5) h_19 (by decide))) h_1011 (by decide)) h_1089) h_1106k), (show (1 : Int32).toInt = 0 → (gI z24 13).toInt ≠ 0 from fun q => absurd q (by decide)), (show (1 : Int32).toInt = 1 → (gT z24 4 t).toInt + o ≤ (gI z24 12).toInt ∧ h + 1 ≤ (gI z24 16).toInt ∧ (gI z24 16).toInt ≤ 60 from fun _ => by first | omega | assumption), (fun _ => h_1106r)⟩
                      · skip
                        exact absurd (by decide) c_1084
              · skip
                exact absurd (by decide) c_1008
            · skip
              have r_1113 := n_rng (gI z7 1)
              have r_1114 := n_rng (gI z7 12)
              try have c_1005i : (gI z7 1).toInt > ((gI z7 12).toInt + 1) := bI_nle rfl (i32_add rfl (show (1 : Int32).toInt = 1 by decide) (by omega) (by omega)) c_1005
              have e_1115 : ((gI z7 12) + 1).toInt = ((gI z7 12).toInt + 1) := (i32_add rfl (show (1 : Int32).toInt = 1 by decide) (by omega) (by omega))
              refine ok_gd (inb_of (by omega) (by omega)) ?_
              have i_1116 : (((gI z7 12) + 1).toNatClampNeg : Int) = ((gI z7 12) + 1).toInt := clampI (by omega)
              refine ok_ite (fun c_1117 => ?_) (fun c_1117 => ?_)
              · skip
                have r_1118 := n_rng (gT z7 0 ((gI z7 12) + 1).toNatClampNeg)
                have c_1117i : (gT z7 0 ((gI z7 12) + 1).toNatClampNeg).toInt = 61 := bI_eq rfl (show (61 : Int32).toInt = 61 by decide) c_1117
                refine ok_jn ?_
                refine ok_ite (fun c_1119 => ?_) (fun c_1119 => ?_)
                · skip
                  exact absurd c_1119 (by decide)
                · skip
                  refine ok_bd2 (t_fX9_makes (by first | omega | assumption | decide | (show 0 ≤ (gI z7 16).toInt ∧ (gI z7 16).toInt ≤ 60; first | omega | assumption)) (by first | omega | assumption | decide | (show 0 ≤ (gI z7 12).toInt ∧ (gI z7 12).toInt ≤ 400; first | omega | assumption))) (fun r14 z15 q_1120 => ?_)
                  have h_1121 : r14 = 0 ∨ r14 = 1 := q_1120.1
                  have h_1121i := bool_i h_1121
                  have h_1122 : FrL [13, 16] (sI (sI z7 12 ((gI z7 12) + 1)) 12 (((gI z7 12) + 1) + 1)) z15 := q_1120.2.1
                  have h_1123 : r14.toInt = 0 → (gI z15 13).toInt ≠ 0 := q_1120.2.2.1
                  have h_1124 : r14.toInt = 1 → (gI z15 16).toInt = (gI z7 16).toInt + 1 ∧ (gI z15 16).toInt ≤ 60 := q_1120.2.2.2
                  clear q_1120
                  have s_1125 : (gI z15 1).toInt = (gI z7 1).toInt := congrArg Int32.toInt (h_1122 1 (by decide)).1
                  try have e_1126 : (((gI z7 12) + 1) + 1).toInt = (((gI z7 12).toInt + 1) + 1) := (i32_add (i32_add rfl (show (1 : Int32).toInt = 1 by decide) (by omega) (by omega)) (show (1 : Int32).toInt = 1 by decide) (by omega) (by omega))
                  have s_1127 : (gI z15 12).toInt = (((gI z7 12) + 1) + 1).toInt := congrArg Int32.toInt (h_1122 12 (by decide)).1
                  have s_1128 : (gI z15 15).toInt = (gI z7 15).toInt := congrArg Int32.toInt (h_1122 15 (by decide)).1
                  have s_1129 : (gT z15 4 t).toInt = (gT z7 4 t).toInt := congrArg (fun f : Nat → Int32 => (f t).toInt) (h_1122 4 (by decide)).2.1
                  refine ok_ite (fun c_1130 => ?_) (fun c_1130 => ?_)
                  · skip
                    have r_1131 := n_rng r14
                    have c_1130i : r14.toInt = 0 := bI_eq rfl (show (0 : Int32).toInt = 0 by decide) c_1130
                    have u_1132 : (gI z15 13).toInt ≠ 0 := h_1123 (by omega)
                    try have e_1133 : (0 : Int32).toInt = 0 := (show (0 : Int32).toInt = 0 by decide)
                    exact ok_some ⟨Or.inl rfl, (fr_tr (fr_I (fr_I (fr_tr (fr_tr fr_rf h_3 (by decide)) h_19 (by decide)) (by decide)) (by decide)) h_1122 (by decide)), (show (gI z_t 12).toInt ≤ (gI z15 12).toInt ∧ (gI z15 12).toInt ≤ (gI z_t 1).toInt by first | omega | assumption | trivial), (kp_fr (kp_I (kp_I (kp_fr (kp_tr kp_rf h_5) h_19 (by decide)))) h_1122 (by decide)), (show (0 : Int32).toInt = 0 → (gI z15 13).toInt ≠ 0 from fun _ => by first | omega | assumption), (show (0 : Int32).toInt = 1 → (gT z15 4 t).toInt + o ≤ (gI z15 12).toInt ∧ h + 1 ≤ (gI z15 16).toInt ∧ (gI z15 16).toInt ≤ 60 from fun q => absurd q (by decide)), (show (0 : Int32).toInt = 1 → RN z15 t b (h + 1) from fun q => absurd q (by decide))⟩
                  · skip
                    have r_1134 := n_rng r14
                    have c_1130i : r14.toInt ≠ 0 := bI_neq rfl (show (0 : Int32).toInt = 0 by decide) c_1130
                    have u_1135 : (gI z15 16).toInt = (gI z7 16).toInt + 1 ∧ (gI z15 16).toInt ≤ 60 := h_1124 (by omega)
                    refine ok_jn ?_
                    refine ok_ite (fun c_1136 => ?_) (fun c_1136 => ?_)
                    · skip
                      have c_1136i : r6.toInt = 60 := bI_eq rfl (show (60 : Int32).toInt = 60 by decide) c_1136
                      refine ok_ite (fun c_1137 => ?_) (fun c_1137 => ?_)
                      · skip
                        exact absurd c_1137 (by decide)
                      · skip
                        refine ok_bd2 (t_fX9_sum (t := t) (b := b) (h := h + 1) (o := o + 1) (by first | omega | assumption | decide | (show 0 ≤ (gI z15 12).toInt ∧ (gI z15 12).toInt ≤ (gI z15 1).toInt ∧ (gI z15 1).toInt ≤ 400; first | omega | assumption)) (by first | omega | assumption | decide | (show (gI z15 15).toInt = t ∧ t < 6; first | omega | assumption)) (by first | omega | assumption | decide | (show 0 ≤ (gT z15 4 t).toInt ∧ (gT z15 4 t).toInt + (o + 1) ≤ (gI z15 12).toInt; first | omega | assumption)) (by first | omega | assumption | decide | (show 0 ≤ (gI z15 16).toInt ∧ (gI z15 16).toInt ≤ 60 ∧ (h + 1) ≤ (gI z15 16).toInt; first | omega | assumption)) (rn_fr h_1122 (by decide) (rn_I (rn_I (rn_fr h_19 (by decide) u_17))))) (fun r20 z21 q_1138 => ?_)
                        have h_1139 : r20 = 0 ∨ r20 = 1 := q_1138.1
                        have h_1139i := bool_i h_1139
                        have h_1140 : FrL [3, 4, 12, 13, 14, 16] z15 z21 := q_1138.2.1
                        have h_1141 : (gI z15 12).toInt ≤ (gI z21 12).toInt ∧ (gI z21 12).toInt ≤ (gI z15 1).toInt := q_1138.2.2.1
                        have h_1142 : KP t z15 z21 := q_1138.2.2.2.1
                        have h_1142a : (gT z15 4 t).toInt ≤ (gT z21 4 t).toInt := h_1142.1
                        have h_1143 : r20.toInt = 0 → (gI z21 13).toInt ≠ 0 := q_1138.2.2.2.2.1
                        have h_1144 : r20.toInt = 1 → (gT z21 4 t).toInt + (o + 1) ≤ (gI z21 12).toInt ∧ (h + 1) + 1 ≤ (gI z21 16).toInt ∧ (gI z21 16).toInt ≤ 60 := q_1138.2.2.2.2.2.1
                        have h_1145 : r20.toInt = 1 → RN z21 t b ((h + 1) + 1) := q_1138.2.2.2.2.2.2
                        clear q_1138
                        have s_1146 : (gI z21 1).toInt = (gI z15 1).toInt := congrArg Int32.toInt (h_1140 1 (by decide)).1
                        have s_1147 : (gI z21 15).toInt = (gI z15 15).toInt := congrArg Int32.toInt (h_1140 15 (by decide)).1
                        refine ok_ite (fun c_1148 => ?_) (fun c_1148 => ?_)
                        · skip
                          have r_1149 := n_rng r20
                          have c_1148i : r20.toInt = 0 := bI_eq rfl (show (0 : Int32).toInt = 0 by decide) c_1148
                          have u_1150 : (gI z21 13).toInt ≠ 0 := h_1143 (by omega)
                          try have e_1151 : (0 : Int32).toInt = 0 := (show (0 : Int32).toInt = 0 by decide)
                          exact ok_some ⟨Or.inl rfl, (fr_tr (fr_tr (fr_I (fr_I (fr_tr (fr_tr fr_rf h_3 (by decide)) h_19 (by decide)) (by decide)) (by decide)) h_1122 (by decide)) h_1140 (by decide)), (show (gI z_t 12).toInt ≤ (gI z21 12).toInt ∧ (gI z21 12).toInt ≤ (gI z_t 1).toInt by first | omega | assumption | trivial), (kp_tr (kp_fr (kp_I (kp_I (kp_fr (kp_tr kp_rf h_5) h_19 (by decide)))) h_1122 (by decide)) h_1142), (show (0 : Int32).toInt = 0 → (gI z21 13).toInt ≠ 0 from fun _ => by first | omega | assumption), (show (0 : Int32).toInt = 1 → (gT z21 4 t).toInt + o ≤ (gI z21 12).toInt ∧ h + 1 ≤ (gI z21 16).toInt ∧ (gI z21 16).toInt ≤ 60 from fun q => absurd q (by decide)), (show (0 : Int32).toInt = 1 → RN z21 t b (h + 1) from fun q => absurd q (by decide))⟩
                        · skip
                          have r_1152 := n_rng r20
                          have c_1148i : r20.toInt ≠ 0 := bI_neq rfl (show (0 : Int32).toInt = 0 by decide) c_1148
                          have u_1153 : (gT z21 4 t).toInt + (o + 1) ≤ (gI z21 12).toInt ∧ (h + 1) + 1 ≤ (gI z21 16).toInt ∧ (gI z21 16).toInt ≤ 60 := h_1144 (by omega)
                          have u_1154 : RN z21 t b ((h + 1) + 1) := h_1145 (by omega)
                          have e_1156 : ((6 : Int32) + 1).toInt = (6 + 1) := (i32_add (show (6 : Int32).toInt = 6 by decide) (show (1 : Int32).toInt = 1 by decide) (by omega) (by omega))
                          have e_1157 : (0 : Int32).toInt = 0 := (show (0 : Int32).toInt = 0 by decide)
                          refine ok_bd (t_fX9_puts (t := t) (by first | omega | assumption | decide | (show (gI z21 15).toInt = t ∧ t < 6; first | omega | assumption)) (by first | omega | assumption | decide | (show 0 ≤ (gT z21 4 t).toInt ∧ (gT z21 4 t).toInt < 400; first | omega | assumption))) (fun z24 q_1155 => ?_)
                          have h_1158 : FrL [3, 4] z21 z24 := q_1155.1
                          have h_1159 : PUT t z21 z24 (((6 : Int32) + 1) + (16 * (0 : Int32))) := q_1155.2
                          clear q_1155
                          have s_1160 : (gI z24 1).toInt = (gI z21 1).toInt := congrArg Int32.toInt (h_1158 1 (by decide)).1
                          have s_1161 : (gI z24 12).toInt = (gI z21 12).toInt := congrArg Int32.toInt (h_1158 12 (by decide)).1
                          have s_1162 : (gI z24 13).toInt = (gI z21 13).toInt := congrArg Int32.toInt (h_1158 13 (by decide)).1
                          have s_1163 : (gI z24 15).toInt = (gI z21 15).toInt := congrArg Int32.toInt (h_1158 15 (by decide)).1
                          have s_1164 : (gI z24 16).toInt = (gI z21 16).toInt := congrArg Int32.toInt (h_1158 16 (by decide)).1
                          have h_1159a := h_1159.1
                          have h_1159k := h_1159.2.1
                          have h_1159r : RN z24 t b ((h + 1)) := rn_put (by omega) h_1159 u_1154 (stp_bin (by omega) (by decide) (by decide) (by decide))
                          try have e_1165 : (1 : Int32).toInt = 1 := (show (1 : Int32).toInt = 1 by decide)
                          exact ok_some ⟨Or.inr rfl, (fr_tr (fr_tr (fr_tr (fr_I (fr_I (fr_tr (fr_tr fr_rf h_3 (by decide)) h_19 (by decide)) (by decide)) (by decide)) h_1122 (by decide)) h_1140 (by decide)) h_1158 (by decide)), (show (gI z_t 12).toInt ≤ (gI z24 12).toInt ∧ (gI z24 12).toInt ≤ (gI z_t 1).toInt by first | omega | assumption | trivial), (kp_tr (kp_tr (kp_fr (kp_I (kp_I (kp_fr (kp_tr kp_rf h_5) h_19 (by decide)))) h_1122 (by decide)) h_1142) h_1159k), (show (1 : Int32).toInt = 0 → (gI z24 13).toInt ≠ 0 from fun q => absurd q (by decide)), (show (1 : Int32).toInt = 1 → (gT z24 4 t).toInt + o ≤ (gI z24 12).toInt ∧ h + 1 ≤ (gI z24 16).toInt ∧ (gI z24 16).toInt ≤ 60 from fun _ => by first | omega | assumption), (fun _ => h_1159r)⟩
                    · skip
                      have c_1136i : r6.toInt ≠ 60 := bI_neq rfl (show (60 : Int32).toInt = 60 by decide) c_1136
                      refine ok_ite (fun c_1166 => ?_) (fun c_1166 => ?_)
                      · skip
                        have c_1166i : r6.toInt = 61 := bI_eq rfl (show (61 : Int32).toInt = 61 by decide) c_1166
                        refine ok_bd2 (t_fX9_sum (t := t) (b := b) (h := h + 1) (o := o + 1) (by first | omega | assumption | decide | (show 0 ≤ (gI z15 12).toInt ∧ (gI z15 12).toInt ≤ (gI z15 1).toInt ∧ (gI z15 1).toInt ≤ 400; first | omega | assumption)) (by first | omega | assumption | decide | (show (gI z15 15).toInt = t ∧ t < 6; first | omega | assumption)) (by first | omega | assumption | decide | (show 0 ≤ (gT z15 4 t).toInt ∧ (gT z15 4 t).toInt + (o + 1) ≤ (gI z15 12).toInt; first | omega | assumption)) (by first | omega | assumption | decide | (show 0 ≤ (gI z15 16).toInt ∧ (gI z15 16).toInt ≤ 60 ∧ (h + 1) ≤ (gI z15 16).toInt; first | omega | assumption)) (rn_fr h_1122 (by decide) (rn_I (rn_I (rn_fr h_19 (by decide) u_17))))) (fun r20 z21 q_1167 => ?_)
                        have h_1168 : r20 = 0 ∨ r20 = 1 := q_1167.1
                        have h_1168i := bool_i h_1168
                        have h_1169 : FrL [3, 4, 12, 13, 14, 16] z15 z21 := q_1167.2.1
                        have h_1170 : (gI z15 12).toInt ≤ (gI z21 12).toInt ∧ (gI z21 12).toInt ≤ (gI z15 1).toInt := q_1167.2.2.1
                        have h_1171 : KP t z15 z21 := q_1167.2.2.2.1
                        have h_1171a : (gT z15 4 t).toInt ≤ (gT z21 4 t).toInt := h_1171.1
                        have h_1172 : r20.toInt = 0 → (gI z21 13).toInt ≠ 0 := q_1167.2.2.2.2.1
                        have h_1173 : r20.toInt = 1 → (gT z21 4 t).toInt + (o + 1) ≤ (gI z21 12).toInt ∧ (h + 1) + 1 ≤ (gI z21 16).toInt ∧ (gI z21 16).toInt ≤ 60 := q_1167.2.2.2.2.2.1
                        have h_1174 : r20.toInt = 1 → RN z21 t b ((h + 1) + 1) := q_1167.2.2.2.2.2.2
                        clear q_1167
                        have s_1175 : (gI z21 1).toInt = (gI z15 1).toInt := congrArg Int32.toInt (h_1169 1 (by decide)).1
                        have s_1176 : (gI z21 15).toInt = (gI z15 15).toInt := congrArg Int32.toInt (h_1169 15 (by decide)).1
                        refine ok_ite (fun c_1177 => ?_) (fun c_1177 => ?_)
                        · skip
                          have r_1178 := n_rng r20
                          have c_1177i : r20.toInt = 0 := bI_eq rfl (show (0 : Int32).toInt = 0 by decide) c_1177
                          have u_1179 : (gI z21 13).toInt ≠ 0 := h_1172 (by omega)
                          try have e_1180 : (0 : Int32).toInt = 0 := (show (0 : Int32).toInt = 0 by decide)
                          exact ok_some ⟨Or.inl rfl, (fr_tr (fr_tr (fr_I (fr_I (fr_tr (fr_tr fr_rf h_3 (by decide)) h_19 (by decide)) (by decide)) (by decide)) h_1122 (by decide)) h_1169 (by decide)), (show (gI z_t 12).toInt ≤ (gI z21 12).toInt ∧ (gI z21 12).toInt ≤ (gI z_t 1).toInt by first | omega | assumption | trivial), (kp_tr (kp_fr (kp_I (kp_I (kp_fr (kp_tr kp_rf h_5) h_19 (by decide)))) h_1122 (by decide)) h_1171), (show (0 : Int32).toInt = 0 → (gI z21 13).toInt ≠ 0 from fun _ => by first | omega | assumption), (show (0 : Int32).toInt = 1 → (gT z21 4 t).toInt + o ≤ (gI z21 12).toInt ∧ h + 1 ≤ (gI z21 16).toInt ∧ (gI z21 16).toInt ≤ 60 from fun q => absurd q (by decide)), (show (0 : Int32).toInt = 1 → RN z21 t b (h + 1) from fun q => absurd q (by decide))⟩
                        · skip
                          have r_1181 := n_rng r20
                          have c_1177i : r20.toInt ≠ 0 := bI_neq rfl (show (0 : Int32).toInt = 0 by decide) c_1177
                          have u_1182 : (gT z21 4 t).toInt + (o + 1) ≤ (gI z21 12).toInt ∧ (h + 1) + 1 ≤ (gI z21 16).toInt ∧ (gI z21 16).toInt ≤ 60 := h_1173 (by omega)
                          have u_1183 : RN z21 t b ((h + 1) + 1) := h_1174 (by omega)
                          have e_1185 : ((6 : Int32) + 2).toInt = (6 + 2) := (i32_add (show (6 : Int32).toInt = 6 by decide) (show (2 : Int32).toInt = 2 by decide) (by omega) (by omega))
                          have e_1186 : (0 : Int32).toInt = 0 := (show (0 : Int32).toInt = 0 by decide)
                          refine ok_bd (t_fX9_puts (t := t) (by first | omega | assumption | decide | (show (gI z21 15).toInt = t ∧ t < 6; first | omega | assumption)) (by first | omega | assumption | decide | (show 0 ≤ (gT z21 4 t).toInt ∧ (gT z21 4 t).toInt < 400; first | omega | assumption))) (fun z24 q_1184 => ?_)
                          have h_1187 : FrL [3, 4] z21 z24 := q_1184.1
                          have h_1188 : PUT t z21 z24 (((6 : Int32) + 2) + (16 * (0 : Int32))) := q_1184.2
                          clear q_1184
                          have s_1189 : (gI z24 1).toInt = (gI z21 1).toInt := congrArg Int32.toInt (h_1187 1 (by decide)).1
                          have s_1190 : (gI z24 12).toInt = (gI z21 12).toInt := congrArg Int32.toInt (h_1187 12 (by decide)).1
                          have s_1191 : (gI z24 13).toInt = (gI z21 13).toInt := congrArg Int32.toInt (h_1187 13 (by decide)).1
                          have s_1192 : (gI z24 15).toInt = (gI z21 15).toInt := congrArg Int32.toInt (h_1187 15 (by decide)).1
                          have s_1193 : (gI z24 16).toInt = (gI z21 16).toInt := congrArg Int32.toInt (h_1187 16 (by decide)).1
                          have h_1188a := h_1188.1
                          have h_1188k := h_1188.2.1
                          have h_1188r : RN z24 t b ((h + 1)) := rn_put (by omega) h_1188 u_1183 (stp_bin (by omega) (by decide) (by decide) (by decide))
                          try have e_1194 : (1 : Int32).toInt = 1 := (show (1 : Int32).toInt = 1 by decide)
                          exact ok_some ⟨Or.inr rfl, (fr_tr (fr_tr (fr_tr (fr_I (fr_I (fr_tr (fr_tr fr_rf h_3 (by decide)) h_19 (by decide)) (by decide)) (by decide)) h_1122 (by decide)) h_1169 (by decide)) h_1187 (by decide)), (show (gI z_t 12).toInt ≤ (gI z24 12).toInt ∧ (gI z24 12).toInt ≤ (gI z_t 1).toInt by first | omega | assumption | trivial), (kp_tr (kp_tr (kp_fr (kp_I (kp_I (kp_fr (kp_tr kp_rf h_5) h_19 (by decide)))) h_1122 (by decide)) h_1171) h_1188k), (show (1 : Int32).toInt = 0 → (gI z24 13).toInt ≠ 0 from fun q => absurd q (by decide)), (show (1 : Int32).toInt = 1 → (gT z24 4 t).toInt + o ≤ (gI z24 12).toInt ∧ h + 1 ≤ (gI z24 16).toInt ∧ (gI z24 16).toInt ≤ 60 from fun _ => by first | omega | assumption), (fun _ => h_1188r)⟩
                      · skip
                        have c_1166i : r6.toInt ≠ 61 := bI_neq rfl (show (61 : Int32).toInt = 61 by decide) c_1166
                        refine ok_ite (fun c_1195 => ?_) (fun c_1195 => ?_)
                        · skip
                          exact absurd c_1195 (by decide)
                        · skip
                          refine ok_bd2 (t_fX9_sum (t := t) (b := b) (h := h + 1) (o := o + 1) (by first | omega | assumption | decide | (show 0 ≤ (gI z15 12).toInt ∧ (gI z15 12).toInt ≤ (gI z15 1).toInt ∧ (gI z15 1).toInt ≤ 400; first | omega | assumption)) (by first | omega | assumption | decide | (show (gI z15 15).toInt = t ∧ t < 6; first | omega | assumption)) (by first | omega | assumption | decide | (show 0 ≤ (gT z15 4 t).toInt ∧ (gT z15 4 t).toInt + (o + 1) ≤ (gI z15 12).toInt; first | omega | assumption)) (by first | omega | assumption | decide | (show 0 ≤ (gI z15 16).toInt ∧ (gI z15 16).toInt ≤ 60 ∧ (h + 1) ≤ (gI z15 16).toInt; first | omega | assumption)) (rn_fr h_1122 (by decide) (rn_I (rn_I (rn_fr h_19 (by decide) u_17))))) (fun r20 z21 q_1196 => ?_)
                          have h_1197 : r20 = 0 ∨ r20 = 1 := q_1196.1
                          have h_1197i := bool_i h_1197
                          have h_1198 : FrL [3, 4, 12, 13, 14, 16] z15 z21 := q_1196.2.1
                          have h_1199 : (gI z15 12).toInt ≤ (gI z21 12).toInt ∧ (gI z21 12).toInt ≤ (gI z15 1).toInt := q_1196.2.2.1
                          have h_1200 : KP t z15 z21 := q_1196.2.2.2.1
                          have h_1200a : (gT z15 4 t).toInt ≤ (gT z21 4 t).toInt := h_1200.1
                          have h_1201 : r20.toInt = 0 → (gI z21 13).toInt ≠ 0 := q_1196.2.2.2.2.1
                          have h_1202 : r20.toInt = 1 → (gT z21 4 t).toInt + (o + 1) ≤ (gI z21 12).toInt ∧ (h + 1) + 1 ≤ (gI z21 16).toInt ∧ (gI z21 16).toInt ≤ 60 := q_1196.2.2.2.2.2.1
                          have h_1203 : r20.toInt = 1 → RN z21 t b ((h + 1) + 1) := q_1196.2.2.2.2.2.2
                          clear q_1196
                          have s_1204 : (gI z21 1).toInt = (gI z15 1).toInt := congrArg Int32.toInt (h_1198 1 (by decide)).1
                          have s_1205 : (gI z21 15).toInt = (gI z15 15).toInt := congrArg Int32.toInt (h_1198 15 (by decide)).1
                          refine ok_ite (fun c_1206 => ?_) (fun c_1206 => ?_)
                          · skip
                            have r_1207 := n_rng r20
                            have c_1206i : r20.toInt = 0 := bI_eq rfl (show (0 : Int32).toInt = 0 by decide) c_1206
                            have u_1208 : (gI z21 13).toInt ≠ 0 := h_1201 (by omega)
                            try have e_1209 : (0 : Int32).toInt = 0 := (show (0 : Int32).toInt = 0 by decide)
                            exact ok_some ⟨Or.inl rfl, (fr_tr (fr_tr (fr_I (fr_I (fr_tr (fr_tr fr_rf h_3 (by decide)) h_19 (by decide)) (by decide)) (by decide)) h_1122 (by decide)) h_1198 (by decide)), (show (gI z_t 12).toInt ≤ (gI z21 12).toInt ∧ (gI z21 12).toInt ≤ (gI z_t 1).toInt by first | omega | assumption | trivial), (kp_tr (kp_fr (kp_I (kp_I (kp_fr (kp_tr kp_rf h_5) h_19 (by decide)))) h_1122 (by decide)) h_1200), (show (0 : Int32).toInt = 0 → (gI z21 13).toInt ≠ 0 from fun _ => by first | omega | assumption), (show (0 : Int32).toInt = 1 → (gT z21 4 t).toInt + o ≤ (gI z21 12).toInt ∧ h + 1 ≤ (gI z21 16).toInt ∧ (gI z21 16).toInt ≤ 60 from fun q => absurd q (by decide)), (show (0 : Int32).toInt = 1 → RN z21 t b (h + 1) from fun q => absurd q (by decide))⟩
                          · skip
                            have r_1210 := n_rng r20
                            have c_1206i : r20.toInt ≠ 0 := bI_neq rfl (show (0 : Int32).toInt = 0 by decide) c_1206
                            have u_1211 : (gT z21 4 t).toInt + (o + 1) ≤ (gI z21 12).toInt ∧ (h + 1) + 1 ≤ (gI z21 16).toInt ∧ (gI z21 16).toInt ≤ 60 := h_1202 (by omega)
                            have u_1212 : RN z21 t b ((h + 1) + 1) := h_1203 (by omega)
                            have e_1214 : ((6 : Int32) + 3).toInt = (6 + 3) := (i32_add (show (6 : Int32).toInt = 6 by decide) (show (3 : Int32).toInt = 3 by decide) (by omega) (by omega))
                            have e_1215 : (0 : Int32).toInt = 0 := (show (0 : Int32).toInt = 0 by decide)
                            refine ok_bd (t_fX9_puts (t := t) (by first | omega | assumption | decide | (show (gI z21 15).toInt = t ∧ t < 6; first | omega | assumption)) (by first | omega | assumption | decide | (show 0 ≤ (gT z21 4 t).toInt ∧ (gT z21 4 t).toInt < 400; first | omega | assumption))) (fun z24 q_1213 => ?_)
                            have h_1216 : FrL [3, 4] z21 z24 := q_1213.1
                            have h_1217 : PUT t z21 z24 (((6 : Int32) + 3) + (16 * (0 : Int32))) := q_1213.2
                            clear q_1213
                            have s_1218 : (gI z24 1).toInt = (gI z21 1).toInt := congrArg Int32.toInt (h_1216 1 (by decide)).1
                            have s_1219 : (gI z24 12).toInt = (gI z21 12).toInt := congrArg Int32.toInt (h_1216 12 (by decide)).1
                            have s_1220 : (gI z24 13).toInt = (gI z21 13).toInt := congrArg Int32.toInt (h_1216 13 (by decide)).1
                            have s_1221 : (gI z24 15).toInt = (gI z21 15).toInt := congrArg Int32.toInt (h_1216 15 (by decide)).1
                            have s_1222 : (gI z24 16).toInt = (gI z21 16).toInt := congrArg Int32.toInt (h_1216 16 (by decide)).1
                            have h_1217a := h_1217.1
                            have h_1217k := h_1217.2.1
                            have h_1217r : RN z24 t b ((h + 1)) := rn_put (by omega) h_1217 u_1212 (stp_bin (by omega) (by decide) (by decide) (by decide))
                            try have e_1223 : (1 : Int32).toInt = 1 := (show (1 : Int32).toInt = 1 by decide)
                            exact ok_some ⟨Or.inr rfl, (fr_tr (fr_tr (fr_tr (fr_I (fr_I (fr_tr (fr_tr fr_rf h_3 (by decide)) h_19 (by decide)) (by decide)) (by decide)) h_1122 (by decide)) h_1198 (by decide)) h_1216 (by decide)), (show (gI z_t 12).toInt ≤ (gI z24 12).toInt ∧ (gI z24 12).toInt ≤ (gI z_t 1).toInt by first | omega | assumption | trivial), (kp_tr (kp_tr (kp_fr (kp_I (kp_I (kp_fr (kp_tr kp_rf h_5) h_19 (by decide)))) h_1122 (by decide)) h_1200) h_1217k), (show (1 : Int32).toInt = 0 → (gI z24 13).toInt ≠ 0 from fun q => absurd q (by decide)), (show (1 : Int32).toInt = 1 → (gT z24 4 t).toInt + o ≤ (gI z24 12).toInt ∧ h + 1 ≤ (gI z24 16).toInt ∧ (gI z24 16).toInt ≤ 60 from fun _ => by first | omega | assumption), (fun _ => h_1217r)⟩
              · skip
                have r_1224 := n_rng (gT z7 0 ((gI z7 12) + 1).toNatClampNeg)
                have c_1117i : (gT z7 0 ((gI z7 12) + 1).toNatClampNeg).toInt ≠ 61 := bI_neq rfl (show (61 : Int32).toInt = 61 by decide) c_1117
                refine ok_jn ?_
                refine ok_ite (fun c_1225 => ?_) (fun c_1225 => ?_)
                · skip
                  refine ok_bd2 (t_fX9_makes (by first | omega | assumption | decide | (show 0 ≤ (gI z7 16).toInt ∧ (gI z7 16).toInt ≤ 60; first | omega | assumption)) (by first | omega | assumption | decide | (show 0 ≤ (gI z7 12).toInt ∧ (gI z7 12).toInt ≤ 400; first | omega | assumption))) (fun r14 z15 q_1226 => ?_)
                  have h_1227 : r14 = 0 ∨ r14 = 1 := q_1226.1
                  have h_1227i := bool_i h_1227
                  have h_1228 : FrL [13, 16] (sI z7 12 ((gI z7 12) + 1)) z15 := q_1226.2.1
                  have h_1229 : r14.toInt = 0 → (gI z15 13).toInt ≠ 0 := q_1226.2.2.1
                  have h_1230 : r14.toInt = 1 → (gI z15 16).toInt = (gI z7 16).toInt + 1 ∧ (gI z15 16).toInt ≤ 60 := q_1226.2.2.2
                  clear q_1226
                  have s_1231 : (gI z15 1).toInt = (gI z7 1).toInt := congrArg Int32.toInt (h_1228 1 (by decide)).1
                  try have e_1232 : ((gI z7 12) + 1).toInt = ((gI z7 12).toInt + 1) := (i32_add rfl (show (1 : Int32).toInt = 1 by decide) (by omega) (by omega))
                  have s_1233 : (gI z15 12).toInt = ((gI z7 12) + 1).toInt := congrArg Int32.toInt (h_1228 12 (by decide)).1
                  have s_1234 : (gI z15 15).toInt = (gI z7 15).toInt := congrArg Int32.toInt (h_1228 15 (by decide)).1
                  have s_1235 : (gT z15 4 t).toInt = (gT z7 4 t).toInt := congrArg (fun f : Nat → Int32 => (f t).toInt) (h_1228 4 (by decide)).2.1
                  refine ok_ite (fun c_1236 => ?_) (fun c_1236 => ?_)
                  · skip
                    have r_1237 := n_rng r14
                    have c_1236i : r14.toInt = 0 := bI_eq rfl (show (0 : Int32).toInt = 0 by decide) c_1236
                    have u_1238 : (gI z15 13).toInt ≠ 0 := h_1229 (by omega)
                    try have e_1239 : (0 : Int32).toInt = 0 := (show (0 : Int32).toInt = 0 by decide)
                    exact ok_some ⟨Or.inl rfl, (fr_tr (fr_I (fr_tr (fr_tr fr_rf h_3 (by decide)) h_19 (by decide)) (by decide)) h_1228 (by decide)), (show (gI z_t 12).toInt ≤ (gI z15 12).toInt ∧ (gI z15 12).toInt ≤ (gI z_t 1).toInt by first | omega | assumption | trivial), (kp_fr (kp_I (kp_fr (kp_tr kp_rf h_5) h_19 (by decide))) h_1228 (by decide)), (show (0 : Int32).toInt = 0 → (gI z15 13).toInt ≠ 0 from fun _ => by first | omega | assumption), (show (0 : Int32).toInt = 1 → (gT z15 4 t).toInt + o ≤ (gI z15 12).toInt ∧ h + 1 ≤ (gI z15 16).toInt ∧ (gI z15 16).toInt ≤ 60 from fun q => absurd q (by decide)), (show (0 : Int32).toInt = 1 → RN z15 t b (h + 1) from fun q => absurd q (by decide))⟩
                  · skip
                    have r_1240 := n_rng r14
                    have c_1236i : r14.toInt ≠ 0 := bI_neq rfl (show (0 : Int32).toInt = 0 by decide) c_1236
                    have u_1241 : (gI z15 16).toInt = (gI z7 16).toInt + 1 ∧ (gI z15 16).toInt ≤ 60 := h_1230 (by omega)
                    refine ok_jn ?_
                    refine ok_ite (fun c_1242 => ?_) (fun c_1242 => ?_)
                    · skip
                      have c_1242i : r6.toInt = 60 := bI_eq rfl (show (60 : Int32).toInt = 60 by decide) c_1242
                      refine ok_ite (fun c_1243 => ?_) (fun c_1243 => ?_)
                      · skip
                        refine ok_bd2 (t_fX9_sum (t := t) (b := b) (h := h + 1) (o := o + 1) (by first | omega | assumption | decide | (show 0 ≤ (gI z15 12).toInt ∧ (gI z15 12).toInt ≤ (gI z15 1).toInt ∧ (gI z15 1).toInt ≤ 400; first | omega | assumption)) (by first | omega | assumption | decide | (show (gI z15 15).toInt = t ∧ t < 6; first | omega | assumption)) (by first | omega | assumption | decide | (show 0 ≤ (gT z15 4 t).toInt ∧ (gT z15 4 t).toInt + (o + 1) ≤ (gI z15 12).toInt; first | omega | assumption)) (by first | omega | assumption | decide | (show 0 ≤ (gI z15 16).toInt ∧ (gI z15 16).toInt ≤ 60 ∧ (h + 1) ≤ (gI z15 16).toInt; first | omega | assumption)) (rn_fr h_1228 (by decide) (rn_I (rn_fr h_19 (by decide) u_17)))) (fun r20 z21 q_1244 => ?_)
                        have h_1245 : r20 = 0 ∨ r20 = 1 := q_1244.1
                        have h_1245i := bool_i h_1245
                        have h_1246 : FrL [3, 4, 12, 13, 14, 16] z15 z21 := q_1244.2.1
                        have h_1247 : (gI z15 12).toInt ≤ (gI z21 12).toInt ∧ (gI z21 12).toInt ≤ (gI z15 1).toInt := q_1244.2.2.1
                        have h_1248 : KP t z15 z21 := q_1244.2.2.2.1
                        have h_1248a : (gT z15 4 t).toInt ≤ (gT z21 4 t).toInt := h_1248.1
                        have h_1249 : r20.toInt = 0 → (gI z21 13).toInt ≠ 0 := q_1244.2.2.2.2.1
                        have h_1250 : r20.toInt = 1 → (gT z21 4 t).toInt + (o + 1) ≤ (gI z21 12).toInt ∧ (h + 1) + 1 ≤ (gI z21 16).toInt ∧ (gI z21 16).toInt ≤ 60 := q_1244.2.2.2.2.2.1
                        have h_1251 : r20.toInt = 1 → RN z21 t b ((h + 1) + 1) := q_1244.2.2.2.2.2.2
                        clear q_1244
                        have s_1252 : (gI z21 1).toInt = (gI z15 1).toInt := congrArg Int32.toInt (h_1246 1 (by decide)).1
                        have s_1253 : (gI z21 15).toInt = (gI z15 15).toInt := congrArg Int32.toInt (h_1246 15 (by decide)).1
                        refine ok_ite (fun c_1254 => ?_) (fun c_1254 => ?_)
                        · skip
                          have r_1255 := n_rng r20
                          have c_1254i : r20.toInt = 0 := bI_eq rfl (show (0 : Int32).toInt = 0 by decide) c_1254
                          have u_1256 : (gI z21 13).toInt ≠ 0 := h_1249 (by omega)
                          try have e_1257 : (0 : Int32).toInt = 0 := (show (0 : Int32).toInt = 0 by decide)
                          exact ok_some ⟨Or.inl rfl, (fr_tr (fr_tr (fr_I (fr_tr (fr_tr fr_rf h_3 (by decide)) h_19 (by decide)) (by decide)) h_1228 (by decide)) h_1246 (by decide)), (show (gI z_t 12).toInt ≤ (gI z21 12).toInt ∧ (gI z21 12).toInt ≤ (gI z_t 1).toInt by first | omega | assumption | trivial), (kp_tr (kp_fr (kp_I (kp_fr (kp_tr kp_rf h_5) h_19 (by decide))) h_1228 (by decide)) h_1248), (show (0 : Int32).toInt = 0 → (gI z21 13).toInt ≠ 0 from fun _ => by first | omega | assumption), (show (0 : Int32).toInt = 1 → (gT z21 4 t).toInt + o ≤ (gI z21 12).toInt ∧ h + 1 ≤ (gI z21 16).toInt ∧ (gI z21 16).toInt ≤ 60 from fun q => absurd q (by decide)), (show (0 : Int32).toInt = 1 → RN z21 t b (h + 1) from fun q => absurd q (by decide))⟩
                        · skip
                          have r_1258 := n_rng r20
                          have c_1254i : r20.toInt ≠ 0 := bI_neq rfl (show (0 : Int32).toInt = 0 by decide) c_1254
                          have u_1259 : (gT z21 4 t).toInt + (o + 1) ≤ (gI z21 12).toInt ∧ (h + 1) + 1 ≤ (gI z21 16).toInt ∧ (gI z21 16).toInt ≤ 60 := h_1250 (by omega)
                          have u_1260 : RN z21 t b ((h + 1) + 1) := h_1251 (by omega)
                          have e_1262 : ((6 : Int32) + 0).toInt = (6 + 0) := (i32_add (show (6 : Int32).toInt = 6 by decide) (show (0 : Int32).toInt = 0 by decide) (by omega) (by omega))
                          have e_1263 : (0 : Int32).toInt = 0 := (show (0 : Int32).toInt = 0 by decide)
                          refine ok_bd (t_fX9_puts (t := t) (by first | omega | assumption | decide | (show (gI z21 15).toInt = t ∧ t < 6; first | omega | assumption)) (by first | omega | assumption | decide | (show 0 ≤ (gT z21 4 t).toInt ∧ (gT z21 4 t).toInt < 400; first | omega | assumption))) (fun z24 q_1261 => ?_)
                          have h_1264 : FrL [3, 4] z21 z24 := q_1261.1
                          have h_1265 : PUT t z21 z24 (((6 : Int32) + 0) + (16 * (0 : Int32))) := q_1261.2
                          clear q_1261
                          have s_1266 : (gI z24 1).toInt = (gI z21 1).toInt := congrArg Int32.toInt (h_1264 1 (by decide)).1
                          have s_1267 : (gI z24 12).toInt = (gI z21 12).toInt := congrArg Int32.toInt (h_1264 12 (by decide)).1
                          have s_1268 : (gI z24 13).toInt = (gI z21 13).toInt := congrArg Int32.toInt (h_1264 13 (by decide)).1
                          have s_1269 : (gI z24 15).toInt = (gI z21 15).toInt := congrArg Int32.toInt (h_1264 15 (by decide)).1
                          have s_1270 : (gI z24 16).toInt = (gI z21 16).toInt := congrArg Int32.toInt (h_1264 16 (by decide)).1
                          have h_1265a := h_1265.1
                          have h_1265k := h_1265.2.1
                          have h_1265r : RN z24 t b ((h + 1)) := rn_put (by omega) h_1265 u_1260 (stp_bin (by omega) (by decide) (by decide) (by decide))
                          try have e_1271 : (1 : Int32).toInt = 1 := (show (1 : Int32).toInt = 1 by decide)
                          exact ok_some ⟨Or.inr rfl, (fr_tr (fr_tr (fr_tr (fr_I (fr_tr (fr_tr fr_rf h_3 (by decide)) h_19 (by decide)) (by decide)) h_1228 (by decide)) h_1246 (by decide)) h_1264 (by decide)), (show (gI z_t 12).toInt ≤ (gI z24 12).toInt ∧ (gI z24 12).toInt ≤ (gI z_t 1).toInt by first | omega | assumption | trivial), (kp_tr (kp_tr (kp_fr (kp_I (kp_fr (kp_tr kp_rf h_5) h_19 (by decide))) h_1228 (by decide)) h_1248) h_1265k), (show (1 : Int32).toInt = 0 → (gI z24 13).toInt ≠ 0 from fun q => absurd q (by decide)), (show (1 : Int32).toInt = 1 → (gT z24 4 t).toInt + o ≤ (gI z24 12).toInt ∧ h + 1 ≤ (gI z24 16).toInt ∧ (gI z24 16).toInt ≤ 60 from fun _ => by first | omega | assumption), (fun _ => h_1265r)⟩
                      · skip
                        exact absurd (by decide) c_1243
                    · skip
                      have c_1242i : r6.toInt ≠ 60 := bI_neq rfl (show (60 : Int32).toInt = 60 by decide) c_1242
                      refine ok_ite (fun c_1272 => ?_) (fun c_1272 => ?_)
                      · skip
                        have c_1272i : r6.toInt = 61 := bI_eq rfl (show (61 : Int32).toInt = 61 by decide) c_1272
                        refine ok_bd2 (t_fX9_sum (t := t) (b := b) (h := h + 1) (o := o + 1) (by first | omega | assumption | decide | (show 0 ≤ (gI z15 12).toInt ∧ (gI z15 12).toInt ≤ (gI z15 1).toInt ∧ (gI z15 1).toInt ≤ 400; first | omega | assumption)) (by first | omega | assumption | decide | (show (gI z15 15).toInt = t ∧ t < 6; first | omega | assumption)) (by first | omega | assumption | decide | (show 0 ≤ (gT z15 4 t).toInt ∧ (gT z15 4 t).toInt + (o + 1) ≤ (gI z15 12).toInt; first | omega | assumption)) (by first | omega | assumption | decide | (show 0 ≤ (gI z15 16).toInt ∧ (gI z15 16).toInt ≤ 60 ∧ (h + 1) ≤ (gI z15 16).toInt; first | omega | assumption)) (rn_fr h_1228 (by decide) (rn_I (rn_fr h_19 (by decide) u_17)))) (fun r20 z21 q_1273 => ?_)
                        have h_1274 : r20 = 0 ∨ r20 = 1 := q_1273.1
                        have h_1274i := bool_i h_1274
                        have h_1275 : FrL [3, 4, 12, 13, 14, 16] z15 z21 := q_1273.2.1
                        have h_1276 : (gI z15 12).toInt ≤ (gI z21 12).toInt ∧ (gI z21 12).toInt ≤ (gI z15 1).toInt := q_1273.2.2.1
                        have h_1277 : KP t z15 z21 := q_1273.2.2.2.1
                        have h_1277a : (gT z15 4 t).toInt ≤ (gT z21 4 t).toInt := h_1277.1
                        have h_1278 : r20.toInt = 0 → (gI z21 13).toInt ≠ 0 := q_1273.2.2.2.2.1
                        have h_1279 : r20.toInt = 1 → (gT z21 4 t).toInt + (o + 1) ≤ (gI z21 12).toInt ∧ (h + 1) + 1 ≤ (gI z21 16).toInt ∧ (gI z21 16).toInt ≤ 60 := q_1273.2.2.2.2.2.1
                        have h_1280 : r20.toInt = 1 → RN z21 t b ((h + 1) + 1) := q_1273.2.2.2.2.2.2
                        clear q_1273
                        have s_1281 : (gI z21 1).toInt = (gI z15 1).toInt := congrArg Int32.toInt (h_1275 1 (by decide)).1
                        have s_1282 : (gI z21 15).toInt = (gI z15 15).toInt := congrArg Int32.toInt (h_1275 15 (by decide)).1
                        refine ok_ite (fun c_1283 => ?_) (fun c_1283 => ?_)
                        · skip
                          have r_1284 := n_rng r20
                          have c_1283i : r20.toInt = 0 := bI_eq rfl (show (0 : Int32).toInt = 0 by decide) c_1283
                          have u_1285 : (gI z21 13).toInt ≠ 0 := h_1278 (by omega)
                          try have e_1286 : (0 : Int32).toInt = 0 := (show (0 : Int32).toInt = 0 by decide)
                          exact ok_some ⟨Or.inl rfl, (fr_tr (fr_tr (fr_I (fr_tr (fr_tr fr_rf h_3 (by decide)) h_19 (by decide)) (by decide)) h_1228 (by decide)) h_1275 (by decide)), (show (gI z_t 12).toInt ≤ (gI z21 12).toInt ∧ (gI z21 12).toInt ≤ (gI z_t 1).toInt by first | omega | assumption | trivial), (kp_tr (kp_fr (kp_I (kp_fr (kp_tr kp_rf h_5) h_19 (by decide))) h_1228 (by decide)) h_1277), (show (0 : Int32).toInt = 0 → (gI z21 13).toInt ≠ 0 from fun _ => by first | omega | assumption), (show (0 : Int32).toInt = 1 → (gT z21 4 t).toInt + o ≤ (gI z21 12).toInt ∧ h + 1 ≤ (gI z21 16).toInt ∧ (gI z21 16).toInt ≤ 60 from fun q => absurd q (by decide)), (show (0 : Int32).toInt = 1 → RN z21 t b (h + 1) from fun q => absurd q (by decide))⟩
                        · skip
                          have r_1287 := n_rng r20
                          have c_1283i : r20.toInt ≠ 0 := bI_neq rfl (show (0 : Int32).toInt = 0 by decide) c_1283
                          have u_1288 : (gT z21 4 t).toInt + (o + 1) ≤ (gI z21 12).toInt ∧ (h + 1) + 1 ≤ (gI z21 16).toInt ∧ (gI z21 16).toInt ≤ 60 := h_1279 (by omega)
                          have u_1289 : RN z21 t b ((h + 1) + 1) := h_1280 (by omega)
                          have e_1291 : ((6 : Int32) + 2).toInt = (6 + 2) := (i32_add (show (6 : Int32).toInt = 6 by decide) (show (2 : Int32).toInt = 2 by decide) (by omega) (by omega))
                          have e_1292 : (0 : Int32).toInt = 0 := (show (0 : Int32).toInt = 0 by decide)
                          refine ok_bd (t_fX9_puts (t := t) (by first | omega | assumption | decide | (show (gI z21 15).toInt = t ∧ t < 6; first | omega | assumption)) (by first | omega | assumption | decide | (show 0 ≤ (gT z21 4 t).toInt ∧ (gT z21 4 t).toInt < 400; first | omega | assumption))) (fun z24 q_1290 => ?_)
                          have h_1293 : FrL [3, 4] z21 z24 := q_1290.1
                          have h_1294 : PUT t z21 z24 (((6 : Int32) + 2) + (16 * (0 : Int32))) := q_1290.2
                          clear q_1290
                          have s_1295 : (gI z24 1).toInt = (gI z21 1).toInt := congrArg Int32.toInt (h_1293 1 (by decide)).1
                          have s_1296 : (gI z24 12).toInt = (gI z21 12).toInt := congrArg Int32.toInt (h_1293 12 (by decide)).1
                          have s_1297 : (gI z24 13).toInt = (gI z21 13).toInt := congrArg Int32.toInt (h_1293 13 (by decide)).1
                          have s_1298 : (gI z24 15).toInt = (gI z21 15).toInt := congrArg Int32.toInt (h_1293 15 (by decide)).1
                          have s_1299 : (gI z24 16).toInt = (gI z21 16).toInt := congrArg Int32.toInt (h_1293 16 (by decide)).1
                          have h_1294a := h_1294.1
                          have h_1294k := h_1294.2.1
                          have h_1294r : RN z24 t b ((h + 1)) := rn_put (by omega) h_1294 u_1289 (stp_bin (by omega) (by decide) (by decide) (by decide))
                          try have e_1300 : (1 : Int32).toInt = 1 := (show (1 : Int32).toInt = 1 by decide)
                          exact ok_some ⟨Or.inr rfl, (fr_tr (fr_tr (fr_tr (fr_I (fr_tr (fr_tr fr_rf h_3 (by decide)) h_19 (by decide)) (by decide)) h_1228 (by decide)) h_1275 (by decide)) h_1293 (by decide)), (show (gI z_t 12).toInt ≤ (gI z24 12).toInt ∧ (gI z24 12).toInt ≤ (gI z_t 1).toInt by first | omega | assumption | trivial), (kp_tr (kp_tr (kp_fr (kp_I (kp_fr (kp_tr kp_rf h_5) h_19 (by decide))) h_1228 (by decide)) h_1277) h_1294k), (show (1 : Int32).toInt = 0 → (gI z24 13).toInt ≠ 0 from fun q => absurd q (by decide)), (show (1 : Int32).toInt = 1 → (gT z24 4 t).toInt + o ≤ (gI z24 12).toInt ∧ h + 1 ≤ (gI z24 16).toInt ∧ (gI z24 16).toInt ≤ 60 from fun _ => by first | omega | assumption), (fun _ => h_1294r)⟩
                      · skip
                        have c_1272i : r6.toInt ≠ 61 := bI_neq rfl (show (61 : Int32).toInt = 61 by decide) c_1272
                        refine ok_ite (fun c_1301 => ?_) (fun c_1301 => ?_)
                        · skip
                          refine ok_bd2 (t_fX9_sum (t := t) (b := b) (h := h + 1) (o := o + 1) (by first | omega | assumption | decide | (show 0 ≤ (gI z15 12).toInt ∧ (gI z15 12).toInt ≤ (gI z15 1).toInt ∧ (gI z15 1).toInt ≤ 400; first | omega | assumption)) (by first | omega | assumption | decide | (show (gI z15 15).toInt = t ∧ t < 6; first | omega | assumption)) (by first | omega | assumption | decide | (show 0 ≤ (gT z15 4 t).toInt ∧ (gT z15 4 t).toInt + (o + 1) ≤ (gI z15 12).toInt; first | omega | assumption)) (by first | omega | assumption | decide | (show 0 ≤ (gI z15 16).toInt ∧ (gI z15 16).toInt ≤ 60 ∧ (h + 1) ≤ (gI z15 16).toInt; first | omega | assumption)) (rn_fr h_1228 (by decide) (rn_I (rn_fr h_19 (by decide) u_17)))) (fun r20 z21 q_1302 => ?_)
                          have h_1303 : r20 = 0 ∨ r20 = 1 := q_1302.1
                          have h_1303i := bool_i h_1303
                          have h_1304 : FrL [3, 4, 12, 13, 14, 16] z15 z21 := q_1302.2.1
                          have h_1305 : (gI z15 12).toInt ≤ (gI z21 12).toInt ∧ (gI z21 12).toInt ≤ (gI z15 1).toInt := q_1302.2.2.1
                          have h_1306 : KP t z15 z21 := q_1302.2.2.2.1
                          have h_1306a : (gT z15 4 t).toInt ≤ (gT z21 4 t).toInt := h_1306.1
                          have h_1307 : r20.toInt = 0 → (gI z21 13).toInt ≠ 0 := q_1302.2.2.2.2.1
                          have h_1308 : r20.toInt = 1 → (gT z21 4 t).toInt + (o + 1) ≤ (gI z21 12).toInt ∧ (h + 1) + 1 ≤ (gI z21 16).toInt ∧ (gI z21 16).toInt ≤ 60 := q_1302.2.2.2.2.2.1
                          have h_1309 : r20.toInt = 1 → RN z21 t b ((h + 1) + 1) := q_1302.2.2.2.2.2.2
                          clear q_1302
                          have s_1310 : (gI z21 1).toInt = (gI z15 1).toInt := congrArg Int32.toInt (h_1304 1 (by decide)).1
                          have s_1311 : (gI z21 15).toInt = (gI z15 15).toInt := congrArg Int32.toInt (h_1304 15 (by decide)).1
                          refine ok_ite (fun c_1312 => ?_) (fun c_1312 => ?_)
                          · skip
                            have r_1313 := n_rng r20
                            have c_1312i : r20.toInt = 0 := bI_eq rfl (show (0 : Int32).toInt = 0 by decide) c_1312
                            have u_1314 : (gI z21 13).toInt ≠ 0 := h_1307 (by omega)
                            try have e_1315 : (0 : Int32).toInt = 0 := (show (0 : Int32).toInt = 0 by decide)
                            exact ok_some ⟨Or.inl rfl, (fr_tr (fr_tr (fr_I (fr_tr (fr_tr fr_rf h_3 (by decide)) h_19 (by decide)) (by decide)) h_1228 (by decide)) h_1304 (by decide)), (show (gI z_t 12).toInt ≤ (gI z21 12).toInt ∧ (gI z21 12).toInt ≤ (gI z_t 1).toInt by first | omega | assumption | trivial), (kp_tr (kp_fr (kp_I (kp_fr (kp_tr kp_rf h_5) h_19 (by decide))) h_1228 (by decide)) h_1306), (show (0 : Int32).toInt = 0 → (gI z21 13).toInt ≠ 0 from fun _ => by first | omega | assumption), (show (0 : Int32).toInt = 1 → (gT z21 4 t).toInt + o ≤ (gI z21 12).toInt ∧ h + 1 ≤ (gI z21 16).toInt ∧ (gI z21 16).toInt ≤ 60 from fun q => absurd q (by decide)), (show (0 : Int32).toInt = 1 → RN z21 t b (h + 1) from fun q => absurd q (by decide))⟩
                          · skip
                            have r_1316 := n_rng r20
                            have c_1312i : r20.toInt ≠ 0 := bI_neq rfl (show (0 : Int32).toInt = 0 by decide) c_1312
                            have u_1317 : (gT z21 4 t).toInt + (o + 1) ≤ (gI z21 12).toInt ∧ (h + 1) + 1 ≤ (gI z21 16).toInt ∧ (gI z21 16).toInt ≤ 60 := h_1308 (by omega)
                            have u_1318 : RN z21 t b ((h + 1) + 1) := h_1309 (by omega)
                            have e_1320 : ((6 : Int32) + 4).toInt = (6 + 4) := (i32_add (show (6 : Int32).toInt = 6 by decide) (show (4 : Int32).toInt = 4 by decide) (by omega) (by omega))
                            have e_1321 : (0 : Int32).toInt = 0 := (show (0 : Int32).toInt = 0 by decide)
                            refine ok_bd (t_fX9_puts (t := t) (by first | omega | assumption | decide | (show (gI z21 15).toInt = t ∧ t < 6; first | omega | assumption)) (by first | omega | assumption | decide | (show 0 ≤ (gT z21 4 t).toInt ∧ (gT z21 4 t).toInt < 400; first | omega | assumption))) (fun z24 q_1319 => ?_)
                            have h_1322 : FrL [3, 4] z21 z24 := q_1319.1
                            have h_1323 : PUT t z21 z24 (((6 : Int32) + 4) + (16 * (0 : Int32))) := q_1319.2
                            clear q_1319
                            have s_1324 : (gI z24 1).toInt = (gI z21 1).toInt := congrArg Int32.toInt (h_1322 1 (by decide)).1
                            have s_1325 : (gI z24 12).toInt = (gI z21 12).toInt := congrArg Int32.toInt (h_1322 12 (by decide)).1
                            have s_1326 : (gI z24 13).toInt = (gI z21 13).toInt := congrArg Int32.toInt (h_1322 13 (by decide)).1
                            have s_1327 : (gI z24 15).toInt = (gI z21 15).toInt := congrArg Int32.toInt (h_1322 15 (by decide)).1
                            have s_1328 : (gI z24 16).toInt = (gI z21 16).toInt := congrArg Int32.toInt (h_1322 16 (by decide)).1
                            have h_1323a := h_1323.1
                            have h_1323k := h_1323.2.1
                            have h_1323r : RN z24 t b ((h + 1)) := rn_put (by omega) h_1323 u_1318 (stp_bin (by omega) (by decide) (by decide) (by decide))
                            try have e_1329 : (1 : Int32).toInt = 1 := (show (1 : Int32).toInt = 1 by decide)
                            exact ok_some ⟨Or.inr rfl, (fr_tr (fr_tr (fr_tr (fr_I (fr_tr (fr_tr fr_rf h_3 (by decide)) h_19 (by decide)) (by decide)) h_1228 (by decide)) h_1304 (by decide)) h_1322 (by decide)), (show (gI z_t 12).toInt ≤ (gI z24 12).toInt ∧ (gI z24 12).toInt ≤ (gI z_t 1).toInt by first | omega | assumption | trivial), (kp_tr (kp_tr (kp_fr (kp_I (kp_fr (kp_tr kp_rf h_5) h_19 (by decide))) h_1228 (by decide)) h_1306) h_1323k), (show (1 : Int32).toInt = 0 → (gI z24 13).toInt ≠ 0 from fun q => absurd q (by decide)), (show (1 : Int32).toInt = 1 → (gT z24 4 t).toInt + o ≤ (gI z24 12).toInt ∧ h + 1 ≤ (gI z24 16).toInt ∧ (gI z24 16).toInt ≤ 60 from fun _ => by first | omega | assumption), (fun _ => h_1323r)⟩
                        · skip
                          exact absurd (by decide) c_1301
                · skip
                  exact absurd (by decide) c_1225
        · skip
          have c_897i : r6.toInt ≠ 62 := bI_neq rfl (show (62 : Int32).toInt = 62 by decide) c_897
          have e_1331 : (0 : Int32).toInt = 0 := (show (0 : Int32).toInt = 0 by decide)
          refine ok_bd2 (t_fX9_fails (by first | omega | assumption | decide | (show 0 ≤ (gI z7 12).toInt ∧ (gI z7 12).toInt ≤ 400 ∧ 0 ≤ (0 : Int32).toInt ∧ (0 : Int32).toInt ≤ 4; first | omega | assumption))) (fun r39 z40 q_1330 => ?_)
          have h_1332 : r39 = 0 ∨ r39 = 1 := q_1330.1
          have h_1332i := bool_i h_1332
          have h_1333 : FrL [13] z7 z40 := q_1330.2.1
          have h_1334 : r39.toInt = 0 := q_1330.2.2.1
          have h_1335 : (gI z40 13).toInt ≠ 0 := q_1330.2.2.2
          clear q_1330
          have s_1336 : (gI z40 1).toInt = (gI z7 1).toInt := congrArg Int32.toInt (h_1333 1 (by decide)).1
          have s_1337 : (gI z40 12).toInt = (gI z7 12).toInt := congrArg Int32.toInt (h_1333 12 (by decide)).1
          have s_1338 : (gI z40 15).toInt = (gI z7 15).toInt := congrArg Int32.toInt (h_1333 15 (by decide)).1
          have s_1339 : (gI z40 16).toInt = (gI z7 16).toInt := congrArg Int32.toInt (h_1333 16 (by decide)).1
          have s_1340 : (gT z40 4 t).toInt = (gT z7 4 t).toInt := congrArg (fun f : Nat → Int32 => (f t).toInt) (h_1333 4 (by decide)).2.1
          refine ok_gd h_1332 ?_
          exact ok_some ⟨h_1332, (fr_tr (fr_tr (fr_tr fr_rf h_3 (by decide)) h_19 (by decide)) h_1333 (by decide)), (show (gI z_t 12).toInt ≤ (gI z40 12).toInt ∧ (gI z40 12).toInt ≤ (gI z_t 1).toInt by first | omega | assumption | trivial), (kp_fr (kp_fr (kp_tr kp_rf h_5) h_19 (by decide)) h_1333 (by decide)), (show r39.toInt = 0 → (gI z40 13).toInt ≠ 0 by first | omega | assumption | trivial), (show r39.toInt = 1 → (gT z40 4 t).toInt + o ≤ (gI z40 12).toInt ∧ h + 1 ≤ (gI z40 16).toInt ∧ (gI z40 16).toInt ≤ 60 by first | omega | assumption | trivial), (show r39.toInt = 1 → RN z40 t b (h + 1) by first | assumption | (intro q; omega))⟩

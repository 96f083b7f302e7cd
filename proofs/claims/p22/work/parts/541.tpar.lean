set_option maxHeartbeats 400000 in
set_option maxRecDepth 20000 in
theorem t_fX9_value {z_t : Sx} {t : Nat} {b : Nat} {h : Nat} {o : Nat} (p1 : 0 ≤ (gI z_t 12).toInt ∧ (gI z_t 12).toInt ≤ (gI z_t 1).toInt ∧ (gI z_t 1).toInt ≤ 400) (pt : (gI z_t 15).toInt = t ∧ t < 6) (pL : 0 ≤ (gT z_t 4 t).toInt ∧ (gT z_t 4 t).toInt + o ≤ (gI z_t 12).toInt) (pm : 0 ≤ (gI z_t 16).toInt ∧ (gI z_t 16).toInt ≤ 60 ∧ h ≤ (gI z_t 16).toInt) (pR : RN z_t t b h) : okP (fX9_value z_t) (fun y => (y.1 = 0 ∨ y.1 = 1) ∧ (FrL [3, 4, 12, 13, 14, 16] z_t y.2) ∧ ((gI z_t 12).toInt ≤ (gI y.2 12).toInt ∧ (gI y.2 12).toInt ≤ (gI z_t 1).toInt) ∧ (KP t z_t y.2) ∧ (y.1.toInt = 0 → (gI y.2 13).toInt ≠ 0) ∧ (y.1.toInt = 1 → (gT y.2 4 t).toInt + o ≤ (gI y.2 12).toInt ∧ h + 1 ≤ (gI y.2 16).toInt ∧ (gI y.2 16).toInt ≤ 60) ∧ (y.1.toInt = 1 → RN y.2 t b (h + 1))) := by
  unfold fX9_value
  refine ok_bd2 (t_fX9_see (by first | omega | assumption | decide | (show 0 ≤ (gI z_t 12).toInt ∧ (gI z_t 12).toInt ≤ (gI z_t 1).toInt ∧ (gI z_t 1).toInt ≤ 400; first | omega | assumption))) (fun r2 z3 q_1 => ?_)
  have h_2 : FrL [12] z_t z3 := q_1.1
  have h_3 : (gI z_t 12).toInt ≤ (gI z3 12).toInt ∧ (gI z3 12).toInt ≤ (gI z_t 1).toInt := q_1.2.1
  have h_4 : r2.toInt = -1 ∨ (0 ≤ r2.toInt ∧ (gI z3 12).toInt < (gI z_t 1).toInt) := q_1.2.2.1
  have h_5 : NB z_t → (gI z3 12).toInt = (gI z_t 12).toInt := q_1.2.2.2.1
  have h_6 : 0 ≤ r2.toInt → NB z3 := q_1.2.2.2.2
  clear q_1
  have s_7 : (gI z3 1).toInt = (gI z_t 1).toInt := congrArg Int32.toInt (h_2 1 (by decide)).1
  have s_8 : (gI z3 13).toInt = (gI z_t 13).toInt := congrArg Int32.toInt (h_2 13 (by decide)).1
  have s_9 : (gI z3 15).toInt = (gI z_t 15).toInt := congrArg Int32.toInt (h_2 15 (by decide)).1
  have s_10 : (gI z3 16).toInt = (gI z_t 16).toInt := congrArg Int32.toInt (h_2 16 (by decide)).1
  have s_11 : (gT z3 4 t).toInt = (gT z_t 4 t).toInt := congrArg (fun f : Nat → Int32 => (f t).toInt) (h_2 4 (by decide)).2.1
  refine ok_bd (t_fX9_isDigit (by first | omega | assumption | decide | (show 0 ≤ (gI z3 12).toInt ∧ (gI z3 1).toInt ≤ 400; first | omega | assumption))) (fun r5 q_12 => ?_)
  have h_13 : r5 = 0 ∨ r5 = 1 := q_12.1
  have h_13i := bool_i h_13
  have h_14 : r5.toInt = 0 ∨ (r5.toInt = 1 ∧ (gI z3 12).toInt < (gI z3 1).toInt) := q_12.2.1
  have h_15 : r5.toInt = 1 → DGT z3 (gI z3 12) := q_12.2.2.1
  have h_16 : DGT z3 (gI z3 12) → r5.toInt = 1 := q_12.2.2.2
  clear q_12
  refine ok_ite (fun c_17 => ?_) (fun c_17 => ?_)
  · skip
    have r_18 := n_rng r5
    have c_17i : r5.toInt = 0 := bI_eq rfl (show (0 : Int32).toInt = 0 by decide) c_17
    refine ok_bd2 (t_fX9_wordHere (by first | omega | assumption | decide | (show 0 ≤ (gI z3 12).toInt ∧ (gI z3 12).toInt ≤ (gI z3 1).toInt ∧ (gI z3 1).toInt ≤ 400; first | omega | assumption))) (fun r8 z9 q_19 => ?_)
    have h_20 : FrL [12] z3 z9 := q_19.1
    have h_21 : (gI z3 12).toInt ≤ (gI z9 12).toInt ∧ (gI z9 12).toInt ≤ (gI z3 1).toInt := q_19.2.1
    have h_22 : -1 ≤ r8.toInt ∧ r8.toInt ≤ 8 := q_19.2.2.1
    have h_23 : 0 ≤ r8.toInt → LTR z9 (gI z9 12) := q_19.2.2.2
    clear q_19
    have s_24 : (gI z9 1).toInt = (gI z3 1).toInt := congrArg Int32.toInt (h_20 1 (by decide)).1
    have s_25 : (gI z9 13).toInt = (gI z3 13).toInt := congrArg Int32.toInt (h_20 13 (by decide)).1
    have s_26 : (gI z9 15).toInt = (gI z3 15).toInt := congrArg Int32.toInt (h_20 15 (by decide)).1
    have s_27 : (gI z9 16).toInt = (gI z3 16).toInt := congrArg Int32.toInt (h_20 16 (by decide)).1
    have s_28 : (gT z9 4 t).toInt = (gT z3 4 t).toInt := congrArg (fun f : Nat → Int32 => (f t).toInt) (h_20 4 (by decide)).2.1
    refine ok_ite (fun c_29 => ?_) (fun c_29 => ?_)
    · skip
      have r_30 := n_rng r8
      have c_29i : 0 ≤ r8.toInt := bI_le (show (0 : Int32).toInt = 0 by decide) rfl c_29
      refine ok_bd2 (t_fX9_makes (by first | omega | assumption | decide | (show 0 ≤ (gI z9 16).toInt ∧ (gI z9 16).toInt ≤ 60; first | omega | assumption)) (by first | omega | assumption | decide | (show 0 ≤ (gI z3 12).toInt ∧ (gI z3 12).toInt ≤ 400; first | omega | assumption))) (fun r12 z13 q_31 => ?_)
      have h_32 : r12 = 0 ∨ r12 = 1 := q_31.1
      have h_32i := bool_i h_32
      have h_33 : FrL [13, 16] z9 z13 := q_31.2.1
      have h_34 : r12.toInt = 0 → (gI z13 13).toInt ≠ 0 := q_31.2.2.1
      have h_35 : r12.toInt = 1 → (gI z13 16).toInt = (gI z9 16).toInt + 1 ∧ (gI z13 16).toInt ≤ 60 := q_31.2.2.2
      clear q_31
      have s_36 : (gI z13 1).toInt = (gI z9 1).toInt := congrArg Int32.toInt (h_33 1 (by decide)).1
      have s_37 : (gI z13 12).toInt = (gI z9 12).toInt := congrArg Int32.toInt (h_33 12 (by decide)).1
      have s_38 : (gI z13 15).toInt = (gI z9 15).toInt := congrArg Int32.toInt (h_33 15 (by decide)).1
      have s_39 : (gT z13 4 t).toInt = (gT z9 4 t).toInt := congrArg (fun f : Nat → Int32 => (f t).toInt) (h_33 4 (by decide)).2.1
      refine ok_ite (fun c_40 => ?_) (fun c_40 => ?_)
      · skip
        have r_41 := n_rng r12
        have c_40i : r12.toInt = 0 := bI_eq rfl (show (0 : Int32).toInt = 0 by decide) c_40
        have u_42 : (gI z13 13).toInt ≠ 0 := h_34 (by omega)
        try have e_43 : (0 : Int32).toInt = 0 := (show (0 : Int32).toInt = 0 by decide)
        exact ok_some ⟨Or.inl rfl, (fr_tr (fr_tr (fr_tr fr_rf h_2 (by decide)) h_20 (by decide)) h_33 (by decide)), (show (gI z_t 12).toInt ≤ (gI z13 12).toInt ∧ (gI z13 12).toInt ≤ (gI z_t 1).toInt by first | omega | assumption | trivial), (kp_fr (kp_fr (kp_fr kp_rf h_2 (by decide)) h_20 (by decide)) h_33 (by decide)), (show (0 : Int32).toInt = 0 → (gI z13 13).toInt ≠ 0 from fun _ => by first | omega | assumption), (show (0 : Int32).toInt = 1 → (gT z13 4 t).toInt + o ≤ (gI z13 12).toInt ∧ h + 1 ≤ (gI z13 16).toInt ∧ (gI z13 16).toInt ≤ 60 from fun q => absurd q (by decide)), (show (0 : Int32).toInt = 1 → RN z13 t b (h + 1) from fun q => absurd q (by decide))⟩
      · skip
        have r_44 := n_rng r12
        have c_40i : r12.toInt ≠ 0 := bI_neq rfl (show (0 : Int32).toInt = 0 by decide) c_40
        have u_45 : (gI z13 16).toInt = (gI z9 16).toInt + 1 ∧ (gI z13 16).toInt ≤ 60 := h_35 (by omega)
        refine ok_bd (t_fX9_passWord (by first | omega | assumption | decide | (show 0 ≤ (gI z13 12).toInt ∧ (gI z13 12).toInt ≤ (gI z13 1).toInt ∧ (gI z13 1).toInt ≤ 400; first | omega | assumption))) (fun z16 q_46 => ?_)
        have h_47 : FrL [12] z13 z16 := q_46.1
        have h_48 : (gI z13 12).toInt ≤ (gI z16 12).toInt ∧ (gI z16 12).toInt ≤ (gI z13 1).toInt := q_46.2.1
        have h_49 : LTR z13 (gI z13 12) → (gI z13 12).toInt < (gI z16 12).toInt := q_46.2.2
        clear q_46
        have s_50 : (gI z16 1).toInt = (gI z13 1).toInt := congrArg Int32.toInt (h_47 1 (by decide)).1
        have s_51 : (gI z16 13).toInt = (gI z13 13).toInt := congrArg Int32.toInt (h_47 13 (by decide)).1
        have s_52 : (gI z16 15).toInt = (gI z13 15).toInt := congrArg Int32.toInt (h_47 15 (by decide)).1
        have s_53 : (gI z16 16).toInt = (gI z13 16).toInt := congrArg Int32.toInt (h_47 16 (by decide)).1
        have s_54 : (gT z16 4 t).toInt = (gT z13 4 t).toInt := congrArg (fun f : Nat → Int32 => (f t).toInt) (h_47 4 (by decide)).2.1
        have pg := h_49 (ltr_same (show FrL [13, 16] z9 z13 by assumption) (by omega) ((show 0 ≤ r8.toInt → LTR z9 (gI z9 12) by assumption) (by omega)))
        have e_56 : (1 : Int32).toInt = 1 := (show (1 : Int32).toInt = 1 by decide)
        refine ok_bd (t_fX9_puts (t := t) (by first | omega | assumption | decide | (show (gI z16 15).toInt = t ∧ t < 6; first | omega | assumption)) (by first | omega | assumption | decide | (show 0 ≤ (gT z16 4 t).toInt ∧ (gT z16 4 t).toInt < 400; first | omega | assumption))) (fun z18 q_55 => ?_)
        have h_57 : FrL [3, 4] z16 z18 := q_55.1
        have h_58 : PUT t z16 z18 ((1 : Int32) + (16 * r8)) := q_55.2
        clear q_55
        have s_59 : (gI z18 1).toInt = (gI z16 1).toInt := congrArg Int32.toInt (h_57 1 (by decide)).1
        have s_60 : (gI z18 12).toInt = (gI z16 12).toInt := congrArg Int32.toInt (h_57 12 (by decide)).1
        have s_61 : (gI z18 13).toInt = (gI z16 13).toInt := congrArg Int32.toInt (h_57 13 (by decide)).1
        have s_62 : (gI z18 15).toInt = (gI z16 15).toInt := congrArg Int32.toInt (h_57 15 (by decide)).1
        have s_63 : (gI z18 16).toInt = (gI z16 16).toInt := congrArg Int32.toInt (h_57 16 (by decide)).1
        have h_58a := h_58.1
        have h_58k := h_58.2.1
        have h_58r : RN z18 t b (h + 1) := rn_put (by omega) h_58 (rn_fr h_47 (by decide) (rn_fr h_33 (by decide) (rn_fr h_20 (by decide) (rn_fr h_2 (by decide) (by assumption))))) (stp_word (by omega) (by omega) (by omega))
        exact ok_some ⟨Or.inr rfl, (fr_tr (fr_tr (fr_tr (fr_tr (fr_tr fr_rf h_2 (by decide)) h_20 (by decide)) h_33 (by decide)) h_47 (by decide)) h_57 (by decide)), (show (gI z_t 12).toInt ≤ (gI z18 12).toInt ∧ (gI z18 12).toInt ≤ (gI z_t 1).toInt by first | omega | assumption | trivial), (kp_tr (kp_fr (kp_fr (kp_fr (kp_fr kp_rf h_2 (by decide)) h_20 (by decide)) h_33 (by decide)) h_47 (by decide)) h_58k), (show (1 : Int32).toInt = 0 → (gI z18 13).toInt ≠ 0 from fun q => absurd q (by decide)), (show (1 : Int32).toInt = 1 → (gT z18 4 t).toInt + o ≤ (gI z18 12).toInt ∧ h + 1 ≤ (gI z18 16).toInt ∧ (gI z18 16).toInt ≤ 60 from fun _ => by first | omega | assumption), (fun _ => h_58r)⟩
    · skip
      have r_64 := n_rng r8
      have c_29i : 0 > r8.toInt := bI_nle (show (0 : Int32).toInt = 0 by decide) rfl c_29
      have e_66 : (0 : Int32).toInt = 0 := (show (0 : Int32).toInt = 0 by decide)
      refine ok_bd2 (t_fX9_fails (by first | omega | assumption | decide | (show 0 ≤ (gI z3 12).toInt ∧ (gI z3 12).toInt ≤ 400 ∧ 0 ≤ (0 : Int32).toInt ∧ (0 : Int32).toInt ≤ 4; first | omega | assumption))) (fun r20 z21 q_65 => ?_)
      have h_67 : r20 = 0 ∨ r20 = 1 := q_65.1
      have h_67i := bool_i h_67
      have h_68 : FrL [13] z9 z21 := q_65.2.1
      have h_69 : r20.toInt = 0 := q_65.2.2.1
      have h_70 : (gI z21 13).toInt ≠ 0 := q_65.2.2.2
      clear q_65
      have s_71 : (gI z21 1).toInt = (gI z9 1).toInt := congrArg Int32.toInt (h_68 1 (by decide)).1
      have s_72 : (gI z21 12).toInt = (gI z9 12).toInt := congrArg Int32.toInt (h_68 12 (by decide)).1
      have s_73 : (gI z21 15).toInt = (gI z9 15).toInt := congrArg Int32.toInt (h_68 15 (by decide)).1
      have s_74 : (gI z21 16).toInt = (gI z9 16).toInt := congrArg Int32.toInt (h_68 16 (by decide)).1
      have s_75 : (gT z21 4 t).toInt = (gT z9 4 t).toInt := congrArg (fun f : Nat → Int32 => (f t).toInt) (h_68 4 (by decide)).2.1
      refine ok_gd h_67 ?_
      exact ok_some ⟨h_67, (fr_tr (fr_tr (fr_tr fr_rf h_2 (by decide)) h_20 (by decide)) h_68 (by decide)), (show (gI z_t 12).toInt ≤ (gI z21 12).toInt ∧ (gI z21 12).toInt ≤ (gI z_t 1).toInt by first | omega | assumption | trivial), (kp_fr (kp_fr (kp_fr kp_rf h_2 (by decide)) h_20 (by decide)) h_68 (by decide)), (show r20.toInt = 0 → (gI z21 13).toInt ≠ 0 by first | omega | assumption | trivial), (show r20.toInt = 1 → (gT z21 4 t).toInt + o ≤ (gI z21 12).toInt ∧ h + 1 ≤ (gI z21 16).toInt ∧ (gI z21 16).toInt ≤ 60 by first | omega | assumption | trivial), (show r20.toInt = 1 → RN z21 t b (h + 1) by first | assumption | (intro q; omega))⟩
  · skip
    have r_76 := n_rng r5
    have c_17i : r5.toInt ≠ 0 := bI_neq rfl (show (0 : Int32).toInt = 0 by decide) c_17
    have u_77 : DGT z3 (gI z3 12) := h_15 (by omega)
    have e_79 : (0 : Int32).toInt = 0 := (show (0 : Int32).toInt = 0 by decide)
    have e_80 : (99999 : Int32).toInt = 99999 := (show (99999 : Int32).toInt = 99999 by decide)
    refine ok_bd2 (t_fX9_numberHere (by first | omega | assumption | decide | (show 0 ≤ (gI z3 12).toInt ∧ (gI z3 12).toInt ≤ (gI z3 1).toInt ∧ (gI z3 1).toInt ≤ 400; first | omega | assumption))) (fun r24 z25 q_78 => ?_)
    have h_81 : r24 = 0 ∨ r24 = 1 := q_78.1
    have h_81i := bool_i h_81
    have h_82 : FrL [12, 13, 14] z3 z25 := q_78.2.1
    have h_83 : (gI z3 12).toInt ≤ (gI z25 12).toInt ∧ (gI z25 12).toInt ≤ (gI z3 1).toInt := q_78.2.2.1
    have h_84 : r24.toInt = 0 → (gI z25 13).toInt ≠ 0 := q_78.2.2.2.1
    have h_85 : r24.toInt = 1 → (gI z3 12).toInt < (gI z25 12).toInt := q_78.2.2.2.2.1
    have h_86 : r24.toInt = 1 → (0 : Int32).toInt ≤ (gI z25 14).toInt ∧ (gI z25 14).toInt ≤ (99999 : Int32).toInt := q_78.2.2.2.2.2
    clear q_78
    have s_87 : (gI z25 1).toInt = (gI z3 1).toInt := congrArg Int32.toInt (h_82 1 (by decide)).1
    have s_88 : (gI z25 15).toInt = (gI z3 15).toInt := congrArg Int32.toInt (h_82 15 (by decide)).1
    have s_89 : (gI z25 16).toInt = (gI z3 16).toInt := congrArg Int32.toInt (h_82 16 (by decide)).1
    have s_90 : (gT z25 4 t).toInt = (gT z3 4 t).toInt := congrArg (fun f : Nat → Int32 => (f t).toInt) (h_82 4 (by decide)).2.1
    refine ok_ite (fun c_91 => ?_) (fun c_91 => ?_)
    · skip
      have r_92 := n_rng r24
      have c_91i : r24.toInt = 0 := bI_eq rfl (show (0 : Int32).toInt = 0 by decide) c_91
      have u_93 : (gI z25 13).toInt ≠ 0 := h_84 (by omega)
      exact ok_some ⟨Or.inl rfl, (fr_tr (fr_tr fr_rf h_2 (by decide)) h_82 (by decide)), (show (gI z_t 12).toInt ≤ (gI z25 12).toInt ∧ (gI z25 12).toInt ≤ (gI z_t 1).toInt by first | omega | assumption | trivial), (kp_fr (kp_fr kp_rf h_2 (by decide)) h_82 (by decide)), (show (0 : Int32).toInt = 0 → (gI z25 13).toInt ≠ 0 from fun _ => by first | omega | assumption), (show (0 : Int32).toInt = 1 → (gT z25 4 t).toInt + o ≤ (gI z25 12).toInt ∧ h + 1 ≤ (gI z25 16).toInt ∧ (gI z25 16).toInt ≤ 60 from fun q => absurd q (by decide)), (show (0 : Int32).toInt = 1 → RN z25 t b (h + 1) from fun q => absurd q (by decide))⟩
    · skip
      have r_94 := n_rng r24
      have c_91i : r24.toInt ≠ 0 := bI_neq rfl (show (0 : Int32).toInt = 0 by decide) c_91
      have u_95 : (gI z3 12).toInt < (gI z25 12).toInt := h_85 (by omega)
      have u_96 : (0 : Int32).toInt ≤ (gI z25 14).toInt ∧ (gI z25 14).toInt ≤ (99999 : Int32).toInt := h_86 (by omega)
      refine ok_bd2 (t_fX9_makes (by first | omega | assumption | decide | (show 0 ≤ (gI z25 16).toInt ∧ (gI z25 16).toInt ≤ 60; first | omega | assumption)) (by first | omega | assumption | decide | (show 0 ≤ (gI z3 12).toInt ∧ (gI z3 12).toInt ≤ 400; first | omega | assumption))) (fun r28 z29 q_97 => ?_)
      have h_98 : r28 = 0 ∨ r28 = 1 := q_97.1
      have h_98i := bool_i h_98
      have h_99 : FrL [13, 16] z25 z29 := q_97.2.1
      have h_100 : r28.toInt = 0 → (gI z29 13).toInt ≠ 0 := q_97.2.2.1
      have h_101 : r28.toInt = 1 → (gI z29 16).toInt = (gI z25 16).toInt + 1 ∧ (gI z29 16).toInt ≤ 60 := q_97.2.2.2
      clear q_97
      have s_102 : (gI z29 1).toInt = (gI z25 1).toInt := congrArg Int32.toInt (h_99 1 (by decide)).1
      have s_103 : (gI z29 12).toInt = (gI z25 12).toInt := congrArg Int32.toInt (h_99 12 (by decide)).1
      have s_104 : (gI z29 15).toInt = (gI z25 15).toInt := congrArg Int32.toInt (h_99 15 (by decide)).1
      have s_105 : (gT z29 4 t).toInt = (gT z25 4 t).toInt := congrArg (fun f : Nat → Int32 => (f t).toInt) (h_99 4 (by decide)).2.1
      refine ok_ite (fun c_106 => ?_) (fun c_106 => ?_)
      · skip
        have r_107 := n_rng r28
        have c_106i : r28.toInt = 0 := bI_eq rfl (show (0 : Int32).toInt = 0 by decide) c_106
        have u_108 : (gI z29 13).toInt ≠ 0 := h_100 (by omega)
        exact ok_some ⟨Or.inl rfl, (fr_tr (fr_tr (fr_tr fr_rf h_2 (by decide)) h_82 (by decide)) h_99 (by decide)), (show (gI z_t 12).toInt ≤ (gI z29 12).toInt ∧ (gI z29 12).toInt ≤ (gI z_t 1).toInt by first | omega | assumption | trivial), (kp_fr (kp_fr (kp_fr kp_rf h_2 (by decide)) h_82 (by decide)) h_99 (by decide)), (show (0 : Int32).toInt = 0 → (gI z29 13).toInt ≠ 0 from fun _ => by first | omega | assumption), (show (0 : Int32).toInt = 1 → (gT z29 4 t).toInt + o ≤ (gI z29 12).toInt ∧ h + 1 ≤ (gI z29 16).toInt ∧ (gI z29 16).toInt ≤ 60 from fun q => absurd q (by decide)), (show (0 : Int32).toInt = 1 → RN z29 t b (h + 1) from fun q => absurd q (by decide))⟩
      · skip
        have r_109 := n_rng r28
        have c_106i : r28.toInt ≠ 0 := bI_neq rfl (show (0 : Int32).toInt = 0 by decide) c_106
        have u_110 : (gI z29 16).toInt = (gI z25 16).toInt + 1 ∧ (gI z29 16).toInt ≤ 60 := h_101 (by omega)
        refine ok_bd (t_fX9_puts (t := t) (by first | omega | assumption | decide | (show (gI z29 15).toInt = t ∧ t < 6; first | omega | assumption)) (by first | omega | assumption | decide | (show 0 ≤ (gT z29 4 t).toInt ∧ (gT z29 4 t).toInt < 400; first | omega | assumption))) (fun z32 q_111 => ?_)
        have h_112 : FrL [3, 4] z29 z32 := q_111.1
        have h_113 : PUT t z29 z32 ((0 : Int32) + (16 * (gI z29 14))) := q_111.2
        clear q_111
        have s_114 : (gI z32 1).toInt = (gI z29 1).toInt := congrArg Int32.toInt (h_112 1 (by decide)).1
        have s_115 : (gI z32 12).toInt = (gI z29 12).toInt := congrArg Int32.toInt (h_112 12 (by decide)).1
        have s_116 : (gI z32 13).toInt = (gI z29 13).toInt := congrArg Int32.toInt (h_112 13 (by decide)).1
        have s_117 : (gI z32 15).toInt = (gI z29 15).toInt := congrArg Int32.toInt (h_112 15 (by decide)).1
        have s_118 : (gI z32 16).toInt = (gI z29 16).toInt := congrArg Int32.toInt (h_112 16 (by decide)).1
        have h_113a := h_113.1
        have h_113k := h_113.2.1
        have h_113r : RN z32 t b (h + 1) := rn_put (by omega) h_113 (rn_fr h_99 (by decide) (rn_fr h_82 (by decide) (rn_fr h_2 (by decide) (by assumption)))) (stp_num (by omega))
        try have e_119 : (1 : Int32).toInt = 1 := (show (1 : Int32).toInt = 1 by decide)
        exact ok_some ⟨Or.inr rfl, (fr_tr (fr_tr (fr_tr (fr_tr fr_rf h_2 (by decide)) h_82 (by decide)) h_99 (by decide)) h_112 (by decide)), (show (gI z_t 12).toInt ≤ (gI z32 12).toInt ∧ (gI z32 12).toInt ≤ (gI z_t 1).toInt by first | omega | assumption | trivial), (kp_tr (kp_fr (kp_fr (kp_fr kp_rf h_2 (by decide)) h_82 (by decide)) h_99 (by decide)) h_113k), (show (1 : Int32).toInt = 0 → (gI z32 13).toInt ≠ 0 from fun q => absurd q (by decide)), (show (1 : Int32).toInt = 1 → (gT z32 4 t).toInt + o ≤ (gI z32 12).toInt ∧ h + 1 ≤ (gI z32 16).toInt ∧ (gI z32 16).toInt ≤ 60 from fun _ => by first | omega | assumption), (fun _ => h_113r)⟩

set_option maxHeartbeats 400000 in
set_option maxRecDepth 20000 in
theorem tl_lX9_term_9 {t : Nat} {b : Nat} {h : Nat} {o : Nat} {o_z_t : Sx} (p1 : 0 ≤ (gI o_z_t 12).toInt ∧ (gI o_z_t 12).toInt ≤ (gI o_z_t 1).toInt ∧ (gI o_z_t 1).toInt ≤ 400) (pt : (gI o_z_t 15).toInt = t ∧ t < 6) (pL : 0 ≤ (gT o_z_t 4 t).toInt) : ∀ (n : Nat) (z_t : Sx), (FrL [3, 4, 12, 13, 14, 16] o_z_t z_t) → ((gI o_z_t 12).toInt ≤ (gI z_t 12).toInt ∧ (gI z_t 12).toInt ≤ (gI o_z_t 1).toInt) → ((gT z_t 4 t).toInt + o ≤ (gI z_t 12).toInt) → (h + 1 ≤ (gI z_t 16).toInt ∧ (gI z_t 16).toInt ≤ 60) → (KP t o_z_t z_t) → (RN z_t t b (h + 1)) → ((gI o_z_t 1).toInt - (gI z_t 12).toInt).toNat < n → okP (lX9_term_9 n z_t) (fun y => (y.1 = 0 ∨ y.1 = 1) ∧ (FrL [3, 4, 12, 13, 14, 16] o_z_t y.2) ∧ ((gI o_z_t 12).toInt ≤ (gI y.2 12).toInt ∧ (gI y.2 12).toInt ≤ (gI o_z_t 1).toInt) ∧ (KP t o_z_t y.2) ∧ (y.1.toInt = 0 → (gI y.2 13).toInt ≠ 0) ∧ (y.1.toInt = 1 → (gT y.2 4 t).toInt + o ≤ (gI y.2 12).toInt ∧ h + 1 ≤ (gI y.2 16).toInt ∧ (gI y.2 16).toInt ≤ 60) ∧ (y.1.toInt = 1 → RN y.2 t b (h + 1))) := by
  intro n
  induction n with
  | zero => intro _ _ _ _ _ _ _ hm; omega
  | succ n ih =>
    intro z_t frz_t i0 iL im iP iR hm
    rw [lX9_term_9]
    have iPa := iP.1
    have tk1 : (gI z_t 1).toInt = (gI o_z_t 1).toInt := congrArg Int32.toInt (frz_t 1 (by decide)).1
    have tk15 : (gI z_t 15).toInt = (gI o_z_t 15).toInt := congrArg Int32.toInt (frz_t 15 (by decide)).1
    refine ok_bd2 (t_fX9_see (by first | omega | assumption | decide | (show 0 ≤ (gI z_t 12).toInt ∧ (gI z_t 12).toInt ≤ (gI z_t 1).toInt ∧ (gI z_t 1).toInt ≤ 400; first | omega | assumption))) (fun r6 z7 q_1 => ?_)
    have h_2 : FrL [12] z_t z7 := q_1.1
    have h_3 : (gI z_t 12).toInt ≤ (gI z7 12).toInt ∧ (gI z7 12).toInt ≤ (gI z_t 1).toInt := q_1.2.1
    have h_4 : r6.toInt = -1 ∨ (0 ≤ r6.toInt ∧ (gI z7 12).toInt < (gI z_t 1).toInt) := q_1.2.2.1
    have h_5 : NB z_t → (gI z7 12).toInt = (gI z_t 12).toInt := q_1.2.2.2.1
    have h_6 : 0 ≤ r6.toInt → NB z7 := q_1.2.2.2.2
    clear q_1
    have s_7 : (gI z7 1).toInt = (gI z_t 1).toInt := congrArg Int32.toInt (h_2 1 (by decide)).1
    have s_8 : (gI z7 13).toInt = (gI z_t 13).toInt := congrArg Int32.toInt (h_2 13 (by decide)).1
    have s_9 : (gI z7 15).toInt = (gI z_t 15).toInt := congrArg Int32.toInt (h_2 15 (by decide)).1
    have s_10 : (gI z7 16).toInt = (gI z_t 16).toInt := congrArg Int32.toInt (h_2 16 (by decide)).1
    have s_11 : (gT z7 4 t).toInt = (gT z_t 4 t).toInt := congrArg (fun f : Nat → Int32 => (f t).toInt) (h_2 4 (by decide)).2.1
    refine ok_jn ?_
    refine ok_ite (fun c_12 => ?_) (fun c_12 => ?_)
    · skip
      have r_13 := n_rng r6
      have c_12i : r6.toInt = 42 := bI_eq rfl (show (42 : Int32).toInt = 42 by decide) c_12
      refine ok_gd (inb_of (by omega) (by omega)) ?_
      have i_14 : ((gI z7 12).toNatClampNeg : Int) = (gI z7 12).toInt := clampI (by omega)
      refine ok_jn ?_
      refine ok_ite (fun c_15 => ?_) (fun c_15 => ?_)
      · skip
        have r_16 := n_rng (gT z7 0 (gI z7 12).toNatClampNeg)
        have c_15i : (gT z7 0 (gI z7 12).toNatClampNeg).toInt = 42 := bI_eq rfl (show (42 : Int32).toInt = 42 by decide) c_15
        have r_18 := n_rng (gI z7 12)
        try have e_19 : ((gI z7 12) + 1).toInt = ((gI z7 12).toInt + 1) := (i32_add rfl (show (1 : Int32).toInt = 1 by decide) (by omega) (by omega))
        refine ok_bd2 (t_fX9_value (t := t) (b := b) (h := h + 1) (o := o + 1) (by first | omega | assumption | decide | (show 0 ≤ ((gI z7 12) + 1).toInt ∧ ((gI z7 12) + 1).toInt ≤ (gI z7 1).toInt ∧ (gI z7 1).toInt ≤ 400; first | omega | assumption)) (by first | omega | assumption | decide | (show (gI z7 15).toInt = t ∧ t < 6; first | omega | assumption)) (by first | omega | assumption | decide | (show 0 ≤ (gT z7 4 t).toInt ∧ (gT z7 4 t).toInt + (o + 1) ≤ ((gI z7 12) + 1).toInt; first | omega | assumption)) (by first | omega | assumption | decide | (show 0 ≤ (gI z7 16).toInt ∧ (gI z7 16).toInt ≤ 60 ∧ (h + 1) ≤ (gI z7 16).toInt; first | omega | assumption)) (rn_I (rn_fr h_2 (by decide) iR))) (fun r14 z15 q_17 => ?_)
        have h_20 : r14 = 0 ∨ r14 = 1 := q_17.1
        have h_20i := bool_i h_20
        have h_21 : FrL [3, 4, 12, 13, 14, 16] (sI z7 12 ((gI z7 12) + 1)) z15 := q_17.2.1
        have h_22 : ((gI z7 12) + 1).toInt ≤ (gI z15 12).toInt ∧ (gI z15 12).toInt ≤ (gI z7 1).toInt := q_17.2.2.1
        have h_23 : KP t (sI z7 12 ((gI z7 12) + 1)) z15 := q_17.2.2.2.1
        have h_23a : (gT z7 4 t).toInt ≤ (gT z15 4 t).toInt := h_23.1
        have h_24 : r14.toInt = 0 → (gI z15 13).toInt ≠ 0 := q_17.2.2.2.2.1
        have h_25 : r14.toInt = 1 → (gT z15 4 t).toInt + (o + 1) ≤ (gI z15 12).toInt ∧ (h + 1) + 1 ≤ (gI z15 16).toInt ∧ (gI z15 16).toInt ≤ 60 := q_17.2.2.2.2.2.1
        have h_26 : r14.toInt = 1 → RN z15 t b ((h + 1) + 1) := q_17.2.2.2.2.2.2
        clear q_17
        have s_27 : (gI z15 1).toInt = (gI z7 1).toInt := congrArg Int32.toInt (h_21 1 (by decide)).1
        have s_28 : (gI z15 15).toInt = (gI z7 15).toInt := congrArg Int32.toInt (h_21 15 (by decide)).1
        refine ok_ite (fun c_29 => ?_) (fun c_29 => ?_)
        · skip
          have r_30 := n_rng r14
          have c_29i : r14.toInt = 0 := bI_eq rfl (show (0 : Int32).toInt = 0 by decide) c_29
          have u_31 : (gI z15 13).toInt ≠ 0 := h_24 (by omega)
          try have e_32 : (0 : Int32).toInt = 0 := (show (0 : Int32).toInt = 0 by decide)
          exact ok_some ⟨Or.inl rfl, (fr_tr (fr_I (fr_tr frz_t h_2 (by decide)) (by decide)) h_21 (by decide)), (show (gI o_z_t 12).toInt ≤ (gI z15 12).toInt ∧ (gI z15 12).toInt ≤ (gI o_z_t 1).toInt by first | omega | assumption | trivial), (kp_tr (kp_I (kp_fr iP h_2 (by decide))) h_23), (show (0 : Int32).toInt = 0 → (gI z15 13).toInt ≠ 0 from fun _ => by first | omega | assumption), (show (0 : Int32).toInt = 1 → (gT z15 4 t).toInt + o ≤ (gI z15 12).toInt ∧ h + 1 ≤ (gI z15 16).toInt ∧ (gI z15 16).toInt ≤ 60 from fun q => absurd q (by decide)), (show (0 : Int32).toInt = 1 → RN z15 t b (h + 1) from fun q => absurd q (by decide))⟩
        · skip
          have r_33 := n_rng r14
          have c_29i : r14.toInt ≠ 0 := bI_neq rfl (show (0 : Int32).toInt = 0 by decide) c_29
          have u_34 : (gT z15 4 t).toInt + (o + 1) ≤ (gI z15 12).toInt ∧ (h + 1) + 1 ≤ (gI z15 16).toInt ∧ (gI z15 16).toInt ≤ 60 := h_25 (by omega)
          have u_35 : RN z15 t b ((h + 1) + 1) := h_26 (by omega)
          have e_37 : (4 : Int32).toInt = 4 := (show (4 : Int32).toInt = 4 by decide)
          have e_38 : (0 : Int32).toInt = 0 := (show (0 : Int32).toInt = 0 by decide)
          refine ok_bd (t_fX9_puts (t := t) (by first | omega | assumption | decide | (show (gI z15 15).toInt = t ∧ t < 6; first | omega | assumption)) (by first | omega | assumption | decide | (show 0 ≤ (gT z15 4 t).toInt ∧ (gT z15 4 t).toInt < 400; first | omega | assumption))) (fun z18 q_36 => ?_)
          have h_39 : FrL [3, 4] z15 z18 := q_36.1
          have h_40 : PUT t z15 z18 ((4 : Int32) + (16 * (0 : Int32))) := q_36.2
          clear q_36
          have s_41 : (gI z18 1).toInt = (gI z15 1).toInt := congrArg Int32.toInt (h_39 1 (by decide)).1
          have s_42 : (gI z18 12).toInt = (gI z15 12).toInt := congrArg Int32.toInt (h_39 12 (by decide)).1
          have s_43 : (gI z18 13).toInt = (gI z15 13).toInt := congrArg Int32.toInt (h_39 13 (by decide)).1
          have s_44 : (gI z18 15).toInt = (gI z15 15).toInt := congrArg Int32.toInt (h_39 15 (by decide)).1
          have s_45 : (gI z18 16).toInt = (gI z15 16).toInt := congrArg Int32.toInt (h_39 16 (by decide)).1
          have h_40a := h_40.1
          have h_40k := h_40.2.1
          have h_40r : RN z18 t b ((h + 1)) := rn_put (by omega) h_40 u_35 (stp_bin (by omega) (by decide) (by decide) (by decide))
          exact ih z18 (fr_tr (fr_tr (fr_I (fr_tr frz_t h_2 (by decide)) (by decide)) h_21 (by decide)) h_39 (by decide)) (show (gI o_z_t 12).toInt ≤ (gI z18 12).toInt ∧ (gI z18 12).toInt ≤ (gI o_z_t 1).toInt by first | omega | assumption | decide) (show (gT z18 4 t).toInt + o ≤ (gI z18 12).toInt by first | omega | assumption | decide) (show h + 1 ≤ (gI z18 16).toInt ∧ (gI z18 16).toInt ≤ 60 by first | omega | assumption | decide) (kp_tr (kp_tr (kp_I (kp_fr iP h_2 (by decide))) h_23) h_40k) h_40r (by omega)
      · skip
        have r_46 := n_rng (gT z7 0 (gI z7 12).toNatClampNeg)
        have c_15i : (gT z7 0 (gI z7 12).toNatClampNeg).toInt ≠ 42 := bI_neq rfl (show (42 : Int32).toInt = 42 by decide) c_15
        have r_48 := n_rng (gI z7 12)
        try have e_49 : ((gI z7 12) + 1).toInt = ((gI z7 12).toInt + 1) := (i32_add rfl (show (1 : Int32).toInt = 1 by decide) (by omega) (by omega))
        refine ok_bd2 (t_fX9_value (t := t) (b := b) (h := h + 1) (o := o + 1) (by first | omega | assumption | decide | (show 0 ≤ ((gI z7 12) + 1).toInt ∧ ((gI z7 12) + 1).toInt ≤ (gI z7 1).toInt ∧ (gI z7 1).toInt ≤ 400; first | omega | assumption)) (by first | omega | assumption | decide | (show (gI z7 15).toInt = t ∧ t < 6; first | omega | assumption)) (by first | omega | assumption | decide | (show 0 ≤ (gT z7 4 t).toInt ∧ (gT z7 4 t).toInt + (o + 1) ≤ ((gI z7 12) + 1).toInt; first | omega | assumption)) (by first | omega | assumption | decide | (show 0 ≤ (gI z7 16).toInt ∧ (gI z7 16).toInt ≤ 60 ∧ (h + 1) ≤ (gI z7 16).toInt; first | omega | assumption)) (rn_I (rn_fr h_2 (by decide) iR))) (fun r14 z15 q_47 => ?_)
        have h_50 : r14 = 0 ∨ r14 = 1 := q_47.1
        have h_50i := bool_i h_50
        have h_51 : FrL [3, 4, 12, 13, 14, 16] (sI z7 12 ((gI z7 12) + 1)) z15 := q_47.2.1
        have h_52 : ((gI z7 12) + 1).toInt ≤ (gI z15 12).toInt ∧ (gI z15 12).toInt ≤ (gI z7 1).toInt := q_47.2.2.1
        have h_53 : KP t (sI z7 12 ((gI z7 12) + 1)) z15 := q_47.2.2.2.1
        have h_53a : (gT z7 4 t).toInt ≤ (gT z15 4 t).toInt := h_53.1
        have h_54 : r14.toInt = 0 → (gI z15 13).toInt ≠ 0 := q_47.2.2.2.2.1
        have h_55 : r14.toInt = 1 → (gT z15 4 t).toInt + (o + 1) ≤ (gI z15 12).toInt ∧ (h + 1) + 1 ≤ (gI z15 16).toInt ∧ (gI z15 16).toInt ≤ 60 := q_47.2.2.2.2.2.1
        have h_56 : r14.toInt = 1 → RN z15 t b ((h + 1) + 1) := q_47.2.2.2.2.2.2
        clear q_47
        have s_57 : (gI z15 1).toInt = (gI z7 1).toInt := congrArg Int32.toInt (h_51 1 (by decide)).1
        have s_58 : (gI z15 15).toInt = (gI z7 15).toInt := congrArg Int32.toInt (h_51 15 (by decide)).1
        refine ok_ite (fun c_59 => ?_) (fun c_59 => ?_)
        · skip
          have r_60 := n_rng r14
          have c_59i : r14.toInt = 0 := bI_eq rfl (show (0 : Int32).toInt = 0 by decide) c_59
          have u_61 : (gI z15 13).toInt ≠ 0 := h_54 (by omega)
          try have e_62 : (0 : Int32).toInt = 0 := (show (0 : Int32).toInt = 0 by decide)
          exact ok_some ⟨Or.inl rfl, (fr_tr (fr_I (fr_tr frz_t h_2 (by decide)) (by decide)) h_51 (by decide)), (show (gI o_z_t 12).toInt ≤ (gI z15 12).toInt ∧ (gI z15 12).toInt ≤ (gI o_z_t 1).toInt by first | omega | assumption | trivial), (kp_tr (kp_I (kp_fr iP h_2 (by decide))) h_53), (show (0 : Int32).toInt = 0 → (gI z15 13).toInt ≠ 0 from fun _ => by first | omega | assumption), (show (0 : Int32).toInt = 1 → (gT z15 4 t).toInt + o ≤ (gI z15 12).toInt ∧ h + 1 ≤ (gI z15 16).toInt ∧ (gI z15 16).toInt ≤ 60 from fun q => absurd q (by decide)), (show (0 : Int32).toInt = 1 → RN z15 t b (h + 1) from fun q => absurd q (by decide))⟩
        · skip
          have r_63 := n_rng r14
          have c_59i : r14.toInt ≠ 0 := bI_neq rfl (show (0 : Int32).toInt = 0 by decide) c_59
          have u_64 : (gT z15 4 t).toInt + (o + 1) ≤ (gI z15 12).toInt ∧ (h + 1) + 1 ≤ (gI z15 16).toInt ∧ (gI z15 16).toInt ≤ 60 := h_55 (by omega)
          have u_65 : RN z15 t b ((h + 1) + 1) := h_56 (by omega)
          have e_67 : (5 : Int32).toInt = 5 := (show (5 : Int32).toInt = 5 by decide)
          have e_68 : (0 : Int32).toInt = 0 := (show (0 : Int32).toInt = 0 by decide)
          refine ok_bd (t_fX9_puts (t := t) (by first | omega | assumption | decide | (show (gI z15 15).toInt = t ∧ t < 6; first | omega | assumption)) (by first | omega | assumption | decide | (show 0 ≤ (gT z15 4 t).toInt ∧ (gT z15 4 t).toInt < 400; first | omega | assumption))) (fun z18 q_66 => ?_)
          have h_69 : FrL [3, 4] z15 z18 := q_66.1
          have h_70 : PUT t z15 z18 ((5 : Int32) + (16 * (0 : Int32))) := q_66.2
          clear q_66
          have s_71 : (gI z18 1).toInt = (gI z15 1).toInt := congrArg Int32.toInt (h_69 1 (by decide)).1
          have s_72 : (gI z18 12).toInt = (gI z15 12).toInt := congrArg Int32.toInt (h_69 12 (by decide)).1
          have s_73 : (gI z18 13).toInt = (gI z15 13).toInt := congrArg Int32.toInt (h_69 13 (by decide)).1
          have s_74 : (gI z18 15).toInt = (gI z15 15).toInt := congrArg Int32.toInt (h_69 15 (by decide)).1
          have s_75 : (gI z18 16).toInt = (gI z15 16).toInt := congrArg Int32.toInt (h_69 16 (by decide)).1
          have h_70a := h_70.1
          have h_70k := h_70.2.1
          have h_70r : RN z18 t b ((h + 1)) := rn_put (by omega) h_70 u_65 (stp_bin (by omega) (by decide) (by decide) (by decide))
          exact ih z18 (fr_tr (fr_tr (fr_I (fr_tr frz_t h_2 (by decide)) (by decide)) h_51 (by decide)) h_69 (by decide)) (show (gI o_z_t 12).toInt ≤ (gI z18 12).toInt ∧ (gI z18 12).toInt ≤ (gI o_z_t 1).toInt by first | omega | assumption | decide) (show (gT z18 4 t).toInt + o ≤ (gI z18 12).toInt by first | omega | assumption | decide) (show h + 1 ≤ (gI z18 16).toInt ∧ (gI z18 16).toInt ≤ 60 by first | omega | assumption | decide) (kp_tr (kp_tr (kp_I (kp_fr iP h_2 (by decide))) h_53) h_70k) h_70r (by omega)
    · skip
      have r_76 := n_rng r6
      have c_12i : r6.toInt ≠ 42 := bI_neq rfl (show (42 : Int32).toInt = 42 by decide) c_12
      refine ok_bd2 (t_fX9_see (by first | omega | assumption | decide | (show 0 ≤ (gI z7 12).toInt ∧ (gI z7 12).toInt ≤ (gI z7 1).toInt ∧ (gI z7 1).toInt ≤ 400; first | omega | assumption))) (fun r22 z23 q_77 => ?_)
      have h_78 : FrL [12] z7 z23 := q_77.1
      have h_79 : (gI z7 12).toInt ≤ (gI z23 12).toInt ∧ (gI z23 12).toInt ≤ (gI z7 1).toInt := q_77.2.1
      have h_80 : r22.toInt = -1 ∨ (0 ≤ r22.toInt ∧ (gI z23 12).toInt < (gI z7 1).toInt) := q_77.2.2.1
      have h_81 : NB z7 → (gI z23 12).toInt = (gI z7 12).toInt := q_77.2.2.2.1
      have h_82 : 0 ≤ r22.toInt → NB z23 := q_77.2.2.2.2
      clear q_77
      have s_83 : (gI z23 1).toInt = (gI z7 1).toInt := congrArg Int32.toInt (h_78 1 (by decide)).1
      have s_84 : (gI z23 13).toInt = (gI z7 13).toInt := congrArg Int32.toInt (h_78 13 (by decide)).1
      have s_85 : (gI z23 15).toInt = (gI z7 15).toInt := congrArg Int32.toInt (h_78 15 (by decide)).1
      have s_86 : (gI z23 16).toInt = (gI z7 16).toInt := congrArg Int32.toInt (h_78 16 (by decide)).1
      have s_87 : (gT z23 4 t).toInt = (gT z7 4 t).toInt := congrArg (fun f : Nat → Int32 => (f t).toInt) (h_78 4 (by decide)).2.1
      refine ok_ite (fun c_88 => ?_) (fun c_88 => ?_)
      · skip
        have r_89 := n_rng r22
        have c_88i : r22.toInt = 47 := bI_eq rfl (show (47 : Int32).toInt = 47 by decide) c_88
        refine ok_gd (inb_of (by omega) (by omega)) ?_
        have i_90 : ((gI z23 12).toNatClampNeg : Int) = (gI z23 12).toInt := clampI (by omega)
        refine ok_jn ?_
        refine ok_ite (fun c_91 => ?_) (fun c_91 => ?_)
        · skip
          have r_92 := n_rng (gT z23 0 (gI z23 12).toNatClampNeg)
          have c_91i : (gT z23 0 (gI z23 12).toNatClampNeg).toInt = 42 := bI_eq rfl (show (42 : Int32).toInt = 42 by decide) c_91
          have r_94 := n_rng (gI z23 12)
          try have e_95 : ((gI z23 12) + 1).toInt = ((gI z23 12).toInt + 1) := (i32_add rfl (show (1 : Int32).toInt = 1 by decide) (by omega) (by omega))
          refine ok_bd2 (t_fX9_value (t := t) (b := b) (h := h + 1) (o := o + 1) (by first | omega | assumption | decide | (show 0 ≤ ((gI z23 12) + 1).toInt ∧ ((gI z23 12) + 1).toInt ≤ (gI z23 1).toInt ∧ (gI z23 1).toInt ≤ 400; first | omega | assumption)) (by first | omega | assumption | decide | (show (gI z23 15).toInt = t ∧ t < 6; first | omega | assumption)) (by first | omega | assumption | decide | (show 0 ≤ (gT z23 4 t).toInt ∧ (gT z23 4 t).toInt + (o + 1) ≤ ((gI z23 12) + 1).toInt; first | omega | assumption)) (by first | omega | assumption | decide | (show 0 ≤ (gI z23 16).toInt ∧ (gI z23 16).toInt ≤ 60 ∧ (h + 1) ≤ (gI z23 16).toInt; first | omega | assumption)) (rn_I (rn_fr h_78 (by decide) (rn_fr h_2 (by decide) iR)))) (fun r14 z15 q_93 => ?_)
          have h_96 : r14 = 0 ∨ r14 = 1 := q_93.1
          have h_96i := bool_i h_96
          have h_97 : FrL [3, 4, 12, 13, 14, 16] (sI z23 12 ((gI z23 12) + 1)) z15 := q_93.2.1
          have h_98 : ((gI z23 12) + 1).toInt ≤ (gI z15 12).toInt ∧ (gI z15 12).toInt ≤ (gI z23 1).toInt := q_93.2.2.1
          have h_99 : KP t (sI z23 12 ((gI z23 12) + 1)) z15 := q_93.2.2.2.1
          have h_99a : (gT z23 4 t).toInt ≤ (gT z15 4 t).toInt := h_99.1
          have h_100 : r14.toInt = 0 → (gI z15 13).toInt ≠ 0 := q_93.2.2.2.2.1
          have h_101 : r14.toInt = 1 → (gT z15 4 t).toInt + (o + 1) ≤ (gI z15 12).toInt ∧ (h + 1) + 1 ≤ (gI z15 16).toInt ∧ (gI z15 16).toInt ≤ 60 := q_93.2.2.2.2.2.1
          have h_102 : r14.toInt = 1 → RN z15 t b ((h + 1) + 1) := q_93.2.2.2.2.2.2
          clear q_93
          have s_103 : (gI z15 1).toInt = (gI z23 1).toInt := congrArg Int32.toInt (h_97 1 (by decide)).1
          have s_104 : (gI z15 15).toInt = (gI z23 15).toInt := congrArg Int32.toInt (h_97 15 (by decide)).1
          refine ok_ite (fun c_105 => ?_) (fun c_105 => ?_)
          · skip
            have r_106 := n_rng r14
            have c_105i : r14.toInt = 0 := bI_eq rfl (show (0 : Int32).toInt = 0 by decide) c_105
            have u_107 : (gI z15 13).toInt ≠ 0 := h_100 (by omega)
            try have e_108 : (0 : Int32).toInt = 0 := (show (0 : Int32).toInt = 0 by decide)
            exact ok_some ⟨Or.inl rfl, (fr_tr (fr_I (fr_tr (fr_tr frz_t h_2 (by decide)) h_78 (by decide)) (by decide)) h_97 (by decide)), (show (gI o_z_t 12).toInt ≤ (gI z15 12).toInt ∧ (gI z15 12).toInt ≤ (gI o_z_t 1).toInt by first | omega | assumption | trivial), (kp_tr (kp_I (kp_fr (kp_fr iP h_2 (by decide)) h_78 (by decide))) h_99), (show (0 : Int32).toInt = 0 → (gI z15 13).toInt ≠ 0 from fun _ => by first | omega | assumption), (show (0 : Int32).toInt = 1 → (gT z15 4 t).toInt + o ≤ (gI z15 12).toInt ∧ h + 1 ≤ (gI z15 16).toInt ∧ (gI z15 16).toInt ≤ 60 from fun q => absurd q (by decide)), (show (0 : Int32).toInt = 1 → RN z15 t b (h + 1) from fun q => absurd q (by decide))⟩
          · skip
            have r_109 := n_rng r14
            have c_105i : r14.toInt ≠ 0 := bI_neq rfl (show (0 : Int32).toInt = 0 by decide) c_105
            have u_110 : (gT z15 4 t).toInt + (o + 1) ≤ (gI z15 12).toInt ∧ (h + 1) + 1 ≤ (gI z15 16).toInt ∧ (gI z15 16).toInt ≤ 60 := h_101 (by omega)
            have u_111 : RN z15 t b ((h + 1) + 1) := h_102 (by omega)
            have e_113 : (4 : Int32).toInt = 4 := (show (4 : Int32).toInt = 4 by decide)
            have e_114 : (0 : Int32).toInt = 0 := (show (0 : Int32).toInt = 0 by decide)
            refine ok_bd (t_fX9_puts (t := t) (by first | omega | assumption | decide | (show (gI z15 15).toInt = t ∧ t < 6; first | omega | assumption)) (by first | omega | assumption | decide | (show 0 ≤ (gT z15 4 t).toInt ∧ (gT z15 4 t).toInt < 400; first | omega | assumption))) (fun z18 q_112 => ?_)
            have h_115 : FrL [3, 4] z15 z18 := q_112.1
            have h_116 : PUT t z15 z18 ((4 : Int32) + (16 * (0 : Int32))) := q_112.2
            clear q_112
            have s_117 : (gI z18 1).toInt = (gI z15 1).toInt := congrArg Int32.toInt (h_115 1 (by decide)).1
            have s_118 : (gI z18 12).toInt = (gI z15 12).toInt := congrArg Int32.toInt (h_115 12 (by decide)).1
            have s_119 : (gI z18 13).toInt = (gI z15 13).toInt := congrArg Int32.toInt (h_115 13 (by decide)).1
            have s_120 : (gI z18 15).toInt = (gI z15 15).toInt := congrArg Int32.toInt (h_115 15 (by decide)).1
            have s_121 : (gI z18 16).toInt = (gI z15 16).toInt := congrArg Int32.toInt (h_115 16 (by decide)).1
            have h_116a := h_116.1
            have h_116k := h_116.2.1
            have h_116r : RN z18 t b ((h + 1)) := rn_put (by omega) h_116 u_111 (stp_bin (by omega) (by decide) (by decide) (by decide))
            exact ih z18 (fr_tr (fr_tr (fr_I (fr_tr (fr_tr frz_t h_2 (by decide)) h_78 (by decide)) (by decide)) h_97 (by decide)) h_115 (by decide)) (show (gI o_z_t 12).toInt ≤ (gI z18 12).toInt ∧ (gI z18 12).toInt ≤ (gI o_z_t 1).toInt by first | omega | assumption | decide) (show (gT z18 4 t).toInt + o ≤ (gI z18 12).toInt by first | omega | assumption | decide) (show h + 1 ≤ (gI z18 16).toInt ∧ (gI z18 16).toInt ≤ 60 by first | omega | assumption | decide) (kp_tr (kp_tr (kp_I (kp_fr (kp_fr iP h_2 (by decide)) h_78 (by decide))) h_99) h_116k) h_116r (by omega)
        · skip
          have r_122 := n_rng (gT z23 0 (gI z23 12).toNatClampNeg)
          have c_91i : (gT z23 0 (gI z23 12).toNatClampNeg).toInt ≠ 42 := bI_neq rfl (show (42 : Int32).toInt = 42 by decide) c_91
          have r_124 := n_rng (gI z23 12)
          try have e_125 : ((gI z23 12) + 1).toInt = ((gI z23 12).toInt + 1) := (i32_add rfl (show (1 : Int32).toInt = 1 by decide) (by omega) (by omega))
          refine ok_bd2 (t_fX9_value (t := t) (b := b) (h := h + 1) (o := o + 1) (by first | omega | assumption | decide | (show 0 ≤ ((gI z23 12) + 1).toInt ∧ ((gI z23 12) + 1).toInt ≤ (gI z23 1).toInt ∧ (gI z23 1).toInt ≤ 400; first | omega | assumption)) (by first | omega | assumption | decide | (show (gI z23 15).toInt = t ∧ t < 6; first | omega | assumption)) (by first | omega | assumption | decide | (show 0 ≤ (gT z23 4 t).toInt ∧ (gT z23 4 t).toInt + (o + 1) ≤ ((gI z23 12) + 1).toInt; first | omega | assumption)) (by first | omega | assumption | decide | (show 0 ≤ (gI z23 16).toInt ∧ (gI z23 16).toInt ≤ 60 ∧ (h + 1) ≤ (gI z23 16).toInt; first | omega | assumption)) (rn_I (rn_fr h_78 (by decide) (rn_fr h_2 (by decide) iR)))) (fun r14 z15 q_123 => ?_)
          have h_126 : r14 = 0 ∨ r14 = 1 := q_123.1
          have h_126i := bool_i h_126
          have h_127 : FrL [3, 4, 12, 13, 14, 16] (sI z23 12 ((gI z23 12) + 1)) z15 := q_123.2.1
          have h_128 : ((gI z23 12) + 1).toInt ≤ (gI z15 12).toInt ∧ (gI z15 12).toInt ≤ (gI z23 1).toInt := q_123.2.2.1
          have h_129 : KP t (sI z23 12 ((gI z23 12) + 1)) z15 := q_123.2.2.2.1
          have h_129a : (gT z23 4 t).toInt ≤ (gT z15 4 t).toInt := h_129.1
          have h_130 : r14.toInt = 0 → (gI z15 13).toInt ≠ 0 := q_123.2.2.2.2.1
          have h_131 : r14.toInt = 1 → (gT z15 4 t).toInt + (o + 1) ≤ (gI z15 12).toInt ∧ (h + 1) + 1 ≤ (gI z15 16).toInt ∧ (gI z15 16).toInt ≤ 60 := q_123.2.2.2.2.2.1
          have h_132 : r14.toInt = 1 → RN z15 t b ((h + 1) + 1) := q_123.2.2.2.2.2.2
          clear q_123
          have s_133 : (gI z15 1).toInt = (gI z23 1).toInt := congrArg Int32.toInt (h_127 1 (by decide)).1
          have s_134 : (gI z15 15).toInt = (gI z23 15).toInt := congrArg Int32.toInt (h_127 15 (by decide)).1
          refine ok_ite (fun c_135 => ?_) (fun c_135 => ?_)
          · skip
            have r_136 := n_rng r14
            have c_135i : r14.toInt = 0 := bI_eq rfl (show (0 : Int32).toInt = 0 by decide) c_135
            have u_137 : (gI z15 13).toInt ≠ 0 := h_130 (by omega)
            try have e_138 : (0 : Int32).toInt = 0 := (show (0 : Int32).toInt = 0 by decide)
            exact ok_some ⟨Or.inl rfl, (fr_tr (fr_I (fr_tr (fr_tr frz_t h_2 (by decide)) h_78 (by decide)) (by decide)) h_127 (by decide)), (show (gI o_z_t 12).toInt ≤ (gI z15 12).toInt ∧ (gI z15 12).toInt ≤ (gI o_z_t 1).toInt by first | omega | assumption | trivial), (kp_tr (kp_I (kp_fr (kp_fr iP h_2 (by decide)) h_78 (by decide))) h_129), (show (0 : Int32).toInt = 0 → (gI z15 13).toInt ≠ 0 from fun _ => by first | omega | assumption), (show (0 : Int32).toInt = 1 → (gT z15 4 t).toInt + o ≤ (gI z15 12).toInt ∧ h + 1 ≤ (gI z15 16).toInt ∧ (gI z15 16).toInt ≤ 60 from fun q => absurd q (by decide)), (show (0 : Int32).toInt = 1 → RN z15 t b (h + 1) from fun q => absurd q (by decide))⟩
          · skip
            have r_139 := n_rng r14
            have c_135i : r14.toInt ≠ 0 := bI_neq rfl (show (0 : Int32).toInt = 0 by decide) c_135
            have u_140 : (gT z15 4 t).toInt + (o + 1) ≤ (gI z15 12).toInt ∧ (h + 1) + 1 ≤ (gI z15 16).toInt ∧ (gI z15 16).toInt ≤ 60 := h_131 (by omega)
            have u_141 : RN z15 t b ((h + 1) + 1) := h_132 (by omega)
            have e_143 : (5 : Int32).toInt = 5 := (show (5 : Int32).toInt = 5 by decide)
            have e_144 : (0 : Int32).toInt = 0 := (show (0 : Int32).toInt = 0 by decide)
            refine ok_bd (t_fX9_puts (t := t) (by first | omega | assumption | decide | (show (gI z15 15).toInt = t ∧ t < 6; first | omega | assumption)) (by first | omega | assumption | decide | (show 0 ≤ (gT z15 4 t).toInt ∧ (gT z15 4 t).toInt < 400; first | omega | assumption))) (fun z18 q_142 => ?_)
            have h_145 : FrL [3, 4] z15 z18 := q_142.1
            have h_146 : PUT t z15 z18 ((5 : Int32) + (16 * (0 : Int32))) := q_142.2
            clear q_142
            have s_147 : (gI z18 1).toInt = (gI z15 1).toInt := congrArg Int32.toInt (h_145 1 (by decide)).1
            have s_148 : (gI z18 12).toInt = (gI z15 12).toInt := congrArg Int32.toInt (h_145 12 (by decide)).1
            have s_149 : (gI z18 13).toInt = (gI z15 13).toInt := congrArg Int32.toInt (h_145 13 (by decide)).1
            have s_150 : (gI z18 15).toInt = (gI z15 15).toInt := congrArg Int32.toInt (h_145 15 (by decide)).1
            have s_151 : (gI z18 16).toInt = (gI z15 16).toInt := congrArg Int32.toInt (h_145 16 (by decide)).1
            have h_146a := h_146.1
            have h_146k := h_146.2.1
            have h_146r : RN z18 t b ((h + 1)) := rn_put (by omega) h_146 u_141 (stp_bin (by omega) (by decide) (by decide) (by decide))
            exact ih z18 (fr_tr (fr_tr (fr_I (fr_tr (fr_tr frz_t h_2 (by decide)) h_78 (by decide)) (by decide)) h_127 (by decide)) h_145 (by decide)) (show (gI o_z_t 12).toInt ≤ (gI z18 12).toInt ∧ (gI z18 12).toInt ≤ (gI o_z_t 1).toInt by first | omega | assumption | decide) (show (gT z18 4 t).toInt + o ≤ (gI z18 12).toInt by first | omega | assumption | decide) (show h + 1 ≤ (gI z18 16).toInt ∧ (gI z18 16).toInt ≤ 60 by first | omega | assumption | decide) (kp_tr (kp_tr (kp_I (kp_fr (kp_fr iP h_2 (by decide)) h_78 (by decide))) h_129) h_146k) h_146r (by omega)
      · skip
        have r_152 := n_rng r22
        have c_88i : r22.toInt ≠ 47 := bI_neq rfl (show (47 : Int32).toInt = 47 by decide) c_88
        try have e_153 : (1 : Int32).toInt = 1 := (show (1 : Int32).toInt = 1 by decide)
        exact ok_some ⟨Or.inr rfl, (fr_tr (fr_tr frz_t h_2 (by decide)) h_78 (by decide)), (show (gI o_z_t 12).toInt ≤ (gI z23 12).toInt ∧ (gI z23 12).toInt ≤ (gI o_z_t 1).toInt by first | omega | assumption | trivial), (kp_fr (kp_fr iP h_2 (by decide)) h_78 (by decide)), (show (1 : Int32).toInt = 0 → (gI z23 13).toInt ≠ 0 from fun q => absurd q (by decide)), (show (1 : Int32).toInt = 1 → (gT z23 4 t).toInt + o ≤ (gI z23 12).toInt ∧ h + 1 ≤ (gI z23 16).toInt ∧ (gI z23 16).toInt ≤ 60 from fun _ => by first | omega | assumption), (fun _ => (rn_fr h_78 (by decide) (rn_fr h_2 (by decide) iR)))⟩
set_option maxHeartbeats 400000 in
set_option maxRecDepth 20000 in
theorem t_fX9_term {z_t : Sx} {t : Nat} {b : Nat} {h : Nat} {o : Nat} (p1 : 0 ≤ (gI z_t 12).toInt ∧ (gI z_t 12).toInt ≤ (gI z_t 1).toInt ∧ (gI z_t 1).toInt ≤ 400) (pt : (gI z_t 15).toInt = t ∧ t < 6) (pL : 0 ≤ (gT z_t 4 t).toInt ∧ (gT z_t 4 t).toInt + o ≤ (gI z_t 12).toInt) (pm : 0 ≤ (gI z_t 16).toInt ∧ (gI z_t 16).toInt ≤ 60 ∧ h ≤ (gI z_t 16).toInt) (pR : RN z_t t b h) : okP (fX9_term z_t) (fun y => (y.1 = 0 ∨ y.1 = 1) ∧ (FrL [3, 4, 12, 13, 14, 16] z_t y.2) ∧ ((gI z_t 12).toInt ≤ (gI y.2 12).toInt ∧ (gI y.2 12).toInt ≤ (gI z_t 1).toInt) ∧ (KP t z_t y.2) ∧ (y.1.toInt = 0 → (gI y.2 13).toInt ≠ 0) ∧ (y.1.toInt = 1 → (gT y.2 4 t).toInt + o ≤ (gI y.2 12).toInt ∧ h + 1 ≤ (gI y.2 16).toInt ∧ (gI y.2 16).toInt ≤ 60) ∧ (y.1.toInt = 1 → RN y.2 t b (h + 1))) := by
  unfold fX9_term
  refine ok_bd2 (t_fX9_value (t := t) (b := b) (h := h) (o := o) (by first | omega | assumption | decide | (show 0 ≤ (gI z_t 12).toInt ∧ (gI z_t 12).toInt ≤ (gI z_t 1).toInt ∧ (gI z_t 1).toInt ≤ 400; first | omega | assumption)) (by first | omega | assumption | decide | (show (gI z_t 15).toInt = t ∧ t < 6; first | omega | assumption)) (by first | omega | assumption | decide | (show 0 ≤ (gT z_t 4 t).toInt ∧ (gT z_t 4 t).toInt + o ≤ (gI z_t 12).toInt; first | omega | assumption)) (by first | omega | assumption | decide | (show 0 ≤ (gI z_t 16).toInt ∧ (gI z_t 16).toInt ≤ 60 ∧ h ≤ (gI z_t 16).toInt; first | omega | assumption)) (by assumption)) (fun r2 z3 q_1 => ?_)
  have h_2 : r2 = 0 ∨ r2 = 1 := q_1.1
  have h_2i := bool_i h_2
  have h_3 : FrL [3, 4, 12, 13, 14, 16] z_t z3 := q_1.2.1
  have h_4 : (gI z_t 12).toInt ≤ (gI z3 12).toInt ∧ (gI z3 12).toInt ≤ (gI z_t 1).toInt := q_1.2.2.1
  have h_5 : KP t z_t z3 := q_1.2.2.2.1
  have h_5a : (gT z_t 4 t).toInt ≤ (gT z3 4 t).toInt := h_5.1
  have h_6 : r2.toInt = 0 → (gI z3 13).toInt ≠ 0 := q_1.2.2.2.2.1
  have h_7 : r2.toInt = 1 → (gT z3 4 t).toInt + o ≤ (gI z3 12).toInt ∧ h + 1 ≤ (gI z3 16).toInt ∧ (gI z3 16).toInt ≤ 60 := q_1.2.2.2.2.2.1
  have h_8 : r2.toInt = 1 → RN z3 t b (h + 1) := q_1.2.2.2.2.2.2
  clear q_1
  have s_9 : (gI z3 1).toInt = (gI z_t 1).toInt := congrArg Int32.toInt (h_3 1 (by decide)).1
  have s_10 : (gI z3 15).toInt = (gI z_t 15).toInt := congrArg Int32.toInt (h_3 15 (by decide)).1
  refine ok_ite (fun c_11 => ?_) (fun c_11 => ?_)
  · skip
    have r_12 := n_rng r2
    have c_11i : r2.toInt = 0 := bI_eq rfl (show (0 : Int32).toInt = 0 by decide) c_11
    have u_13 : (gI z3 13).toInt ≠ 0 := h_6 (by omega)
    try have e_14 : (0 : Int32).toInt = 0 := (show (0 : Int32).toInt = 0 by decide)
    exact ok_some ⟨Or.inl rfl, (fr_tr fr_rf h_3 (by decide)), (show (gI z_t 12).toInt ≤ (gI z3 12).toInt ∧ (gI z3 12).toInt ≤ (gI z_t 1).toInt by first | omega | assumption | trivial), (kp_tr kp_rf h_5), (show (0 : Int32).toInt = 0 → (gI z3 13).toInt ≠ 0 from fun _ => by first | omega | assumption), (show (0 : Int32).toInt = 1 → (gT z3 4 t).toInt + o ≤ (gI z3 12).toInt ∧ h + 1 ≤ (gI z3 16).toInt ∧ (gI z3 16).toInt ≤ 60 from fun q => absurd q (by decide)), (show (0 : Int32).toInt = 1 → RN z3 t b (h + 1) from fun q => absurd q (by decide))⟩
  · skip
    have r_15 := n_rng r2
    have c_11i : r2.toInt ≠ 0 := bI_neq rfl (show (0 : Int32).toInt = 0 by decide) c_11
    have u_16 : (gT z3 4 t).toInt + o ≤ (gI z3 12).toInt ∧ h + 1 ≤ (gI z3 16).toInt ∧ (gI z3 16).toInt ≤ 60 := h_7 (by omega)
    have u_17 : RN z3 t b (h + 1) := h_8 (by omega)
    refine tl_lX9_term_9 (t := t) (b := b) (h := h) (o := o) (by first | omega | assumption | decide) (by first | omega | assumption | decide) (by first | omega | assumption | decide) FU z3 (fr_tr fr_rf h_3 (by decide)) (show (gI z_t 12).toInt ≤ (gI z3 12).toInt ∧ (gI z3 12).toInt ≤ (gI z_t 1).toInt by first | omega | assumption | decide) (show (gT z3 4 t).toInt + o ≤ (gI z3 12).toInt by first | omega | assumption | decide) (show h + 1 ≤ (gI z3 16).toInt ∧ (gI z3 16).toInt ≤ 60 by first | omega | assumption | decide) (kp_tr kp_rf h_5) u_17 (FU_lt (by omega))

set_option maxHeartbeats 400000 in
set_option maxRecDepth 20000 in
theorem tl_lX9_sum_9 {t : Nat} {b : Nat} {h : Nat} {o : Nat} {o_z_t : Sx} (p1 : 0 ≤ (gI o_z_t 12).toInt ∧ (gI o_z_t 12).toInt ≤ (gI o_z_t 1).toInt ∧ (gI o_z_t 1).toInt ≤ 400) (pt : (gI o_z_t 15).toInt = t ∧ t < 6) (pL : 0 ≤ (gT o_z_t 4 t).toInt) : ∀ (n : Nat) (z_t : Sx), (FrL [3, 4, 12, 13, 14, 16] o_z_t z_t) → ((gI o_z_t 12).toInt ≤ (gI z_t 12).toInt ∧ (gI z_t 12).toInt ≤ (gI o_z_t 1).toInt) → ((gT z_t 4 t).toInt + o ≤ (gI z_t 12).toInt) → (h + 1 ≤ (gI z_t 16).toInt ∧ (gI z_t 16).toInt ≤ 60) → (KP t o_z_t z_t) → (RN z_t t b (h + 1)) → ((gI o_z_t 1).toInt - (gI z_t 12).toInt).toNat < n → okP (lX9_sum_9 n z_t) (fun y => (y.1 = 0 ∨ y.1 = 1) ∧ (FrL [3, 4, 12, 13, 14, 16] o_z_t y.2) ∧ ((gI o_z_t 12).toInt ≤ (gI y.2 12).toInt ∧ (gI y.2 12).toInt ≤ (gI o_z_t 1).toInt) ∧ (KP t o_z_t y.2) ∧ (y.1.toInt = 0 → (gI y.2 13).toInt ≠ 0) ∧ (y.1.toInt = 1 → (gT y.2 4 t).toInt + o ≤ (gI y.2 12).toInt ∧ h + 1 ≤ (gI y.2 16).toInt ∧ (gI y.2 16).toInt ≤ 60) ∧ (y.1.toInt = 1 → RN y.2 t b (h + 1))) := by
  intro n
  induction n with
  | zero => intro _ _ _ _ _ _ _ hm; omega
  | succ n ih =>
    intro z_t frz_t i0 iL im iP iR hm
    rw [lX9_sum_9]
    have iPa := iP.1
    have tk1 : (gI z_t 1).toInt = (gI o_z_t 1).toInt := congrArg Int32.toInt (frz_t 1 (by decide)).1
    have tk15 : (gI z_t 15).toInt = (gI o_z_t 15).toInt := congrArg Int32.toInt (frz_t 15 (by decide)).1
    refine ok_bd2 (t_fX9_see (by first | omega | assumption | decide | (show 0 ≤ (gI z_t 12).toInt ∧ (gI z_t 12).toInt ≤ (gI z_t 1).toInt ∧ (gI z_t 1).toInt ≤ 400; first | omega | assumption))) (fun r6 z7 q_1 => ?_)
    have h_2 : FrL [12] z_t z7 := q_1.1
    have h_3 : (gI z_t 12).toInt ≤ (gI z7 12).toInt ∧ (gI z7 12).toInt ≤ (gI z_t 1).toInt := q_1.2.1
    have h_4 : r6.toInt = -1 ∨ (0 ≤ r6.toInt ∧ (gI z7 12).toInt < (gI z_t 1).toInt) := q_1.2.2.1
    have h_5 : NB z_t → (gI z7 12).toInt = (gI z_t 12).toInt := q_1.2.2.2.1
    have h_6 : 0 ≤ r6.toInt → NB z7 := q_1.2.2.2.2
    clear q_1
    have s_7 : (gI z7 1).toInt = (gI z_t 1).toInt := congrArg Int32.toInt (h_2 1 (by decide)).1
    have s_8 : (gI z7 13).toInt = (gI z_t 13).toInt := congrArg Int32.toInt (h_2 13 (by decide)).1
    have s_9 : (gI z7 15).toInt = (gI z_t 15).toInt := congrArg Int32.toInt (h_2 15 (by decide)).1
    have s_10 : (gI z7 16).toInt = (gI z_t 16).toInt := congrArg Int32.toInt (h_2 16 (by decide)).1
    have s_11 : (gT z7 4 t).toInt = (gT z_t 4 t).toInt := congrArg (fun f : Nat → Int32 => (f t).toInt) (h_2 4 (by decide)).2.1
    refine ok_jn ?_
    refine ok_ite (fun c_12 => ?_) (fun c_12 => ?_)
    · skip
      have r_13 := n_rng r6
      have c_12i : r6.toInt = 43 := bI_eq rfl (show (43 : Int32).toInt = 43 by decide) c_12
      refine ok_gd (inb_of (by omega) (by omega)) ?_
      have i_14 : ((gI z7 12).toNatClampNeg : Int) = (gI z7 12).toInt := clampI (by omega)
      refine ok_jn ?_
      refine ok_ite (fun c_15 => ?_) (fun c_15 => ?_)
      · skip
        have r_16 := n_rng (gT z7 0 (gI z7 12).toNatClampNeg)
        have c_15i : (gT z7 0 (gI z7 12).toNatClampNeg).toInt = 43 := bI_eq rfl (show (43 : Int32).toInt = 43 by decide) c_15
        have r_18 := n_rng (gI z7 12)
        try have e_19 : ((gI z7 12) + 1).toInt = ((gI z7 12).toInt + 1) := (i32_add rfl (show (1 : Int32).toInt = 1 by decide) (by omega) (by omega))
        refine ok_bd2 (t_fX9_term (t := t) (b := b) (h := h + 1) (o := o + 1) (by first | omega | assumption | decide | (show 0 ≤ ((gI z7 12) + 1).toInt ∧ ((gI z7 12) + 1).toInt ≤ (gI z7 1).toInt ∧ (gI z7 1).toInt ≤ 400; first | omega | assumption)) (by first | omega | assumption | decide | (show (gI z7 15).toInt = t ∧ t < 6; first | omega | assumption)) (by first | omega | assumption | decide | (show 0 ≤ (gT z7 4 t).toInt ∧ (gT z7 4 t).toInt + (o + 1) ≤ ((gI z7 12) + 1).toInt; first | omega | assumption)) (by first | omega | assumption | decide | (show 0 ≤ (gI z7 16).toInt ∧ (gI z7 16).toInt ≤ 60 ∧ (h + 1) ≤ (gI z7 16).toInt; first | omega | assumption)) (rn_I (rn_fr h_2 (by decide) iR))) (fun r14 z15 q_17 => ?_)
        have h_20 : r14 = 0 ∨ r14 = 1 := q_17.1
        have h_20i := bool_i h_20
        have h_21 : FrL [3, 4, 12, 13, 14, 16] (sI z7 12 ((gI z7 12) + 1)) z15 := q_17.2.1
        have h_22 : ((gI z7 12) + 1).toInt ≤ (gI z15 12).toInt ∧ (gI z15 12).toInt ≤ (gI z7 1).toInt := q_17.2.2.1
        have h_23 : KP t (sI z7 12 ((gI z7 12) + 1)) z15 := q_17.2.2.2.1
        have h_23a : (gT z7 4 t).toInt ≤ (gT z15 4 t).toInt := h_23.1
        have h_24 : r14.toInt = 0 → (gI z15 13).toInt ≠ 0 := q_17.2.2.2.2.1
        have h_25 : r14.toInt = 1 → (gT z15 4 t).toInt + (o + 1) ≤ (gI z15 12).toInt ∧ (h + 1) + 1 ≤ (gI z15 16).toInt ∧ (gI z15 16).toInt ≤ 60 := q_17.2.2.2.2.2.1
        have h_26 : r14.toInt = 1 → RN z15 t b ((h + 1) + 1) := q_17.2.2.2.2.2.2
        clear q_17
        have s_27 : (gI z15 1).toInt = (gI z7 1).toInt := congrArg Int32.toInt (h_21 1 (by decide)).1
        have s_28 : (gI z15 15).toInt = (gI z7 15).toInt := congrArg Int32.toInt (h_21 15 (by decide)).1
        refine ok_ite (fun c_29 => ?_) (fun c_29 => ?_)
        · skip
          have r_30 := n_rng r14
          have c_29i : r14.toInt = 0 := bI_eq rfl (show (0 : Int32).toInt = 0 by decide) c_29
          have u_31 : (gI z15 13).toInt ≠ 0 := h_24 (by omega)
          try have e_32 : (0 : Int32).toInt = 0 := (show (0 : Int32).toInt = 0 by decide)
          exact ok_some ⟨Or.inl rfl, (fr_tr (fr_I (fr_tr frz_t h_2 (by decide)) (by decide)) h_21 (by decide)), (show (gI o_z_t 12).toInt ≤ (gI z15 12).toInt ∧ (gI z15 12).toInt ≤ (gI o_z_t 1).toInt by first | omega | assumption | trivial), (kp_tr (kp_I (kp_fr iP h_2 (by decide))) h_23), (show (0 : Int32).toInt = 0 → (gI z15 13).toInt ≠ 0 from fun _ => by first | omega | assumption), (show (0 : Int32).toInt = 1 → (gT z15 4 t).toInt + o ≤ (gI z15 12).toInt ∧ h + 1 ≤ (gI z15 16).toInt ∧ (gI z15 16).toInt ≤ 60 from fun q => absurd q (by decide)), (show (0 : Int32).toInt = 1 → RN z15 t b (h + 1) from fun q => absurd q (by decide))⟩
        · skip
          have r_33 := n_rng r14
          have c_29i : r14.toInt ≠ 0 := bI_neq rfl (show (0 : Int32).toInt = 0 by decide) c_29
          have u_34 : (gT z15 4 t).toInt + (o + 1) ≤ (gI z15 12).toInt ∧ (h + 1) + 1 ≤ (gI z15 16).toInt ∧ (gI z15 16).toInt ≤ 60 := h_25 (by omega)
          have u_35 : RN z15 t b ((h + 1) + 1) := h_26 (by omega)
          have e_37 : (2 : Int32).toInt = 2 := (show (2 : Int32).toInt = 2 by decide)
          have e_38 : (0 : Int32).toInt = 0 := (show (0 : Int32).toInt = 0 by decide)
          refine ok_bd (t_fX9_puts (t := t) (by first | omega | assumption | decide | (show (gI z15 15).toInt = t ∧ t < 6; first | omega | assumption)) (by first | omega | assumption | decide | (show 0 ≤ (gT z15 4 t).toInt ∧ (gT z15 4 t).toInt < 400; first | omega | assumption))) (fun z18 q_36 => ?_)
          have h_39 : FrL [3, 4] z15 z18 := q_36.1
          have h_40 : PUT t z15 z18 ((2 : Int32) + (16 * (0 : Int32))) := q_36.2
          clear q_36
          have s_41 : (gI z18 1).toInt = (gI z15 1).toInt := congrArg Int32.toInt (h_39 1 (by decide)).1
          have s_42 : (gI z18 12).toInt = (gI z15 12).toInt := congrArg Int32.toInt (h_39 12 (by decide)).1
          have s_43 : (gI z18 13).toInt = (gI z15 13).toInt := congrArg Int32.toInt (h_39 13 (by decide)).1
          have s_44 : (gI z18 15).toInt = (gI z15 15).toInt := congrArg Int32.toInt (h_39 15 (by decide)).1
          have s_45 : (gI z18 16).toInt = (gI z15 16).toInt := congrArg Int32.toInt (h_39 16 (by decide)).1
          have h_40a := h_40.1
          have h_40k := h_40.2.1
          have h_40r : RN z18 t b ((h + 1)) := rn_put (by omega) h_40 u_35 (stp_bin (by omega) (by decide) (by decide) (by decide))
          exact ih z18 (fr_tr (fr_tr (fr_I (fr_tr frz_t h_2 (by decide)) (by decide)) h_21 (by decide)) h_39 (by decide)) (show (gI o_z_t 12).toInt ≤ (gI z18 12).toInt ∧ (gI z18 12).toInt ≤ (gI o_z_t 1).toInt by first | omega | assumption | decide) (show (gT z18 4 t).toInt + o ≤ (gI z18 12).toInt by first | omega | assumption | decide) (show h + 1 ≤ (gI z18 16).toInt ∧ (gI z18 16).toInt ≤ 60 by first | omega | assumption | decide) (kp_tr (kp_tr (kp_I (kp_fr iP h_2 (by decide))) h_23) h_40k) h_40r (by omega)
      · skip
        have r_46 := n_rng (gT z7 0 (gI z7 12).toNatClampNeg)
        have c_15i : (gT z7 0 (gI z7 12).toNatClampNeg).toInt ≠ 43 := bI_neq rfl (show (43 : Int32).toInt = 43 by decide) c_15
        have r_48 := n_rng (gI z7 12)
        try have e_49 : ((gI z7 12) + 1).toInt = ((gI z7 12).toInt + 1) := (i32_add rfl (show (1 : Int32).toInt = 1 by decide) (by omega) (by omega))
        refine ok_bd2 (t_fX9_term (t := t) (b := b) (h := h + 1) (o := o + 1) (by first | omega | assumption | decide | (show 0 ≤ ((gI z7 12) + 1).toInt ∧ ((gI z7 12) + 1).toInt ≤ (gI z7 1).toInt ∧ (gI z7 1).toInt ≤ 400; first | omega | assumption)) (by first | omega | assumption | decide | (show (gI z7 15).toInt = t ∧ t < 6; first | omega | assumption)) (by first | omega | assumption | decide | (show 0 ≤ (gT z7 4 t).toInt ∧ (gT z7 4 t).toInt + (o + 1) ≤ ((gI z7 12) + 1).toInt; first | omega | assumption)) (by first | omega | assumption | decide | (show 0 ≤ (gI z7 16).toInt ∧ (gI z7 16).toInt ≤ 60 ∧ (h + 1) ≤ (gI z7 16).toInt; first | omega | assumption)) (rn_I (rn_fr h_2 (by decide) iR))) (fun r14 z15 q_47 => ?_)
        have h_50 : r14 = 0 ∨ r14 = 1 := q_47.1
        have h_50i := bool_i h_50
        have h_51 : FrL [3, 4, 12, 13, 14, 16] (sI z7 12 ((gI z7 12) + 1)) z15 := q_47.2.1
        have h_52 : ((gI z7 12) + 1).toInt ≤ (gI z15 12).toInt ∧ (gI z15 12).toInt ≤ (gI z7 1).toInt := q_47.2.2.1
        have h_53 : KP t (sI z7 12 ((gI z7 12) + 1)) z15 := q_47.2.2.2.1
        have h_53a : (gT z7 4 t).toInt ≤ (gT z15 4 t).toInt := h_53.1
        have h_54 : r14.toInt = 0 → (gI z15 13).toInt ≠ 0 := q_47.2.2.2.2.1
        have h_55 : r14.toInt = 1 → (gT z15 4 t).toInt + (o + 1) ≤ (gI z15 12).toInt ∧ (h + 1) + 1 ≤ (gI z15 16).toInt ∧ (gI z15 16).toInt ≤ 60 := q_47.2.2.2.2.2.1
        have h_56 : r14.toInt = 1 → RN z15 t b ((h + 1) + 1) := q_47.2.2.2.2.2.2
        clear q_47
        have s_57 : (gI z15 1).toInt = (gI z7 1).toInt := congrArg Int32.toInt (h_51 1 (by decide)).1
        have s_58 : (gI z15 15).toInt = (gI z7 15).toInt := congrArg Int32.toInt (h_51 15 (by decide)).1
        refine ok_ite (fun c_59 => ?_) (fun c_59 => ?_)
        · skip
          have r_60 := n_rng r14
          have c_59i : r14.toInt = 0 := bI_eq rfl (show (0 : Int32).toInt = 0 by decide) c_59
          have u_61 : (gI z15 13).toInt ≠ 0 := h_54 (by omega)
          try have e_62 : (0 : Int32).toInt = 0 := (show (0 : Int32).toInt = 0 by decide)
          exact ok_some ⟨Or.inl rfl, (fr_tr (fr_I (fr_tr frz_t h_2 (by decide)) (by decide)) h_51 (by decide)), (show (gI o_z_t 12).toInt ≤ (gI z15 12).toInt ∧ (gI z15 12).toInt ≤ (gI o_z_t 1).toInt by first | omega | assumption | trivial), (kp_tr (kp_I (kp_fr iP h_2 (by decide))) h_53), (show (0 : Int32).toInt = 0 → (gI z15 13).toInt ≠ 0 from fun _ => by first | omega | assumption), (show (0 : Int32).toInt = 1 → (gT z15 4 t).toInt + o ≤ (gI z15 12).toInt ∧ h + 1 ≤ (gI z15 16).toInt ∧ (gI z15 16).toInt ≤ 60 from fun q => absurd q (by decide)), (show (0 : Int32).toInt = 1 → RN z15 t b (h + 1) from fun q => absurd q (by decide))⟩
        · skip
          have r_63 := n_rng r14
          have c_59i : r14.toInt ≠ 0 := bI_neq rfl (show (0 : Int32).toInt = 0 by decide) c_59
          have u_64 : (gT z15 4 t).toInt + (o + 1) ≤ (gI z15 12).toInt ∧ (h + 1) + 1 ≤ (gI z15 16).toInt ∧ (gI z15 16).toInt ≤ 60 := h_55 (by omega)
          have u_65 : RN z15 t b ((h + 1) + 1) := h_56 (by omega)
          have e_67 : (3 : Int32).toInt = 3 := (show (3 : Int32).toInt = 3 by decide)
          have e_68 : (0 : Int32).toInt = 0 := (show (0 : Int32).toInt = 0 by decide)
          refine ok_bd (t_fX9_puts (t := t) (by first | omega | assumption | decide | (show (gI z15 15).toInt = t ∧ t < 6; first | omega | assumption)) (by first | omega | assumption | decide | (show 0 ≤ (gT z15 4 t).toInt ∧ (gT z15 4 t).toInt < 400; first | omega | assumption))) (fun z18 q_66 => ?_)
          have h_69 : FrL [3, 4] z15 z18 := q_66.1
          have h_70 : PUT t z15 z18 ((3 : Int32) + (16 * (0 : Int32))) := q_66.2
          clear q_66
          have s_71 : (gI z18 1).toInt = (gI z15 1).toInt := congrArg Int32.toInt (h_69 1 (by decide)).1
          have s_72 : (gI z18 12).toInt = (gI z15 12).toInt := congrArg Int32.toInt (h_69 12 (by decide)).1
          have s_73 : (gI z18 13).toInt = (gI z15 13).toInt := congrArg Int32.toInt (h_69 13 (by decide)).1
          have s_74 : (gI z18 15).toInt = (gI z15 15).toInt := congrArg Int32.toInt (h_69 15 (by decide)).1
          have s_75 : (gI z18 16).toInt = (gI z15 16).toInt := congrArg Int32.toInt (h_69 16 (by decide)).1
          have h_70a := h_70.1
          have h_70k := h_70.2.1
          have h_70r : RN z18 t b ((h + 1)) := rn_put (by omega) h_70 u_65 (stp_bin (by omega) (by decide) (by decide) (by decide))
          exact ih z18 (fr_tr (fr_tr (fr_I (fr_tr frz_t h_2 (by decide)) (by decide)) h_51 (by decide)) h_69 (by decide)) (show (gI o_z_t 12).toInt ≤ (gI z18 12).toInt ∧ (gI z18 12).toInt ≤ (gI o_z_t 1).toInt by first | omega | assumption | decide) (show (gT z18 4 t).toInt + o ≤ (gI z18 12).toInt by first | omega | assumption | decide) (show h + 1 ≤ (gI z18 16).toInt ∧ (gI z18 16).toInt ≤ 60 by first | omega | assumption | decide) (kp_tr (kp_tr (kp_I (kp_fr iP h_2 (by decide))) h_53) h_70k) h_70r (by omega)
    · skip
      have r_76 := n_rng r6
      have c_12i : r6.toInt ≠ 43 := bI_neq rfl (show (43 : Int32).toInt = 43 by decide) c_12
      refine ok_bd2 (t_fX9_see (by first | omega | assumption | decide | (show 0 ≤ (gI z7 12).toInt ∧ (gI z7 12).toInt ≤ (gI z7 1).toInt ∧ (gI z7 1).toInt ≤ 400; first | omega | assumption))) (fun r22 z23 q_77 => ?_)
      have h_78 : FrL [12] z7 z23 := q_77.1
      have h_79 : (gI z7 12).toInt ≤ (gI z23 12).toInt ∧ (gI z23 12).toInt ≤ (gI z7 1).toInt := q_77.2.1
      have h_80 : r22.toInt = -1 ∨ (0 ≤ r22.toInt ∧ (gI z23 12).toInt < (gI z7 1).toInt) := q_77.2.2.1
      have h_81 : NB z7 → (gI z23 12).toInt = (gI z7 12).toInt := q_77.2.2.2.1
      have h_82 : 0 ≤ r22.toInt → NB z23 := q_77.2.2.2.2
      clear q_77
      have s_83 : (gI z23 1).toInt = (gI z7 1).toInt := congrArg Int32.toInt (h_78 1 (by decide)).1
      have s_84 : (gI z23 13).toInt = (gI z7 13).toInt := congrArg Int32.toInt (h_78 13 (by decide)).1
      have s_85 : (gI z23 15).toInt = (gI z7 15).toInt := congrArg Int32.toInt (h_78 15 (by decide)).1
      have s_86 : (gI z23 16).toInt = (gI z7 16).toInt := congrArg Int32.toInt (h_78 16 (by decide)).1
      have s_87 : (gT z23 4 t).toInt = (gT z7 4 t).toInt := congrArg (fun f : Nat → Int32 => (f t).toInt) (h_78 4 (by decide)).2.1
      refine ok_ite (fun c_88 => ?_) (fun c_88 => ?_)
      · skip
        have r_89 := n_rng r22
        have c_88i : r22.toInt = 45 := bI_eq rfl (show (45 : Int32).toInt = 45 by decide) c_88
        refine ok_gd (inb_of (by omega) (by omega)) ?_
        have i_90 : ((gI z23 12).toNatClampNeg : Int) = (gI z23 12).toInt := clampI (by omega)
        refine ok_jn ?_
        refine ok_ite (fun c_91 => ?_) (fun c_91 => ?_)
        · skip
          have r_92 := n_rng (gT z23 0 (gI z23 12).toNatClampNeg)
          have c_91i : (gT z23 0 (gI z23 12).toNatClampNeg).toInt = 43 := bI_eq rfl (show (43 : Int32).toInt = 43 by decide) c_91
          have r_94 := n_rng (gI z23 12)
          try have e_95 : ((gI z23 12) + 1).toInt = ((gI z23 12).toInt + 1) := (i32_add rfl (show (1 : Int32).toInt = 1 by decide) (by omega) (by omega))
          refine ok_bd2 (t_fX9_term (t := t) (b := b) (h := h + 1) (o := o + 1) (by first | omega | assumption | decide | (show 0 ≤ ((gI z23 12) + 1).toInt ∧ ((gI z23 12) + 1).toInt ≤ (gI z23 1).toInt ∧ (gI z23 1).toInt ≤ 400; first | omega | assumption)) (by first | omega | assumption | decide | (show (gI z23 15).toInt = t ∧ t < 6; first | omega | assumption)) (by first | omega | assumption | decide | (show 0 ≤ (gT z23 4 t).toInt ∧ (gT z23 4 t).toInt + (o + 1) ≤ ((gI z23 12) + 1).toInt; first | omega | assumption)) (by first | omega | assumption | decide | (show 0 ≤ (gI z23 16).toInt ∧ (gI z23 16).toInt ≤ 60 ∧ (h + 1) ≤ (gI z23 16).toInt; first | omega | assumption)) (rn_I (rn_fr h_78 (by decide) (rn_fr h_2 (by decide) iR)))) (fun r14 z15 q_93 => ?_)
          have h_96 : r14 = 0 ∨ r14 = 1 := q_93.1
          have h_96i := bool_i h_96
          have h_97 : FrL [3, 4, 12, 13, 14, 16] (sI z23 12 ((gI z23 12) + 1)) z15 := q_93.2.1
          have h_98 : ((gI z23 12) + 1).toInt ≤ (gI z15 12).toInt ∧ (gI z15 12).toInt ≤ (gI z23 1).toInt := q_93.2.2.1
          have h_99 : KP t (sI z23 12 ((gI z23 12) + 1)) z15 := q_93.2.2.2.1
          have h_99a : (gT z23 4 t).toInt ≤ (gT z15 4 t).toInt := h_99.1
          have h_100 : r14.toInt = 0 → (gI z15 13).toInt ≠ 0 := q_93.2.2.2.2.1
          have h_101 : r14.toInt = 1 → (gT z15 4 t).toInt + (o + 1) ≤ (gI z15 12).toInt ∧ (h + 1) + 1 ≤ (gI z15 16).toInt ∧ (gI z15 16).toInt ≤ 60 := q_93.2.2.2.2.2.1
          have h_102 : r14.toInt = 1 → RN z15 t b ((h + 1) + 1) := q_93.2.2.2.2.2.2
          clear q_93
          have s_103 : (gI z15 1).toInt = (gI z23 1).toInt := congrArg Int32.toInt (h_97 1 (by decide)).1
          have s_104 : (gI z15 15).toInt = (gI z23 15).toInt := congrArg Int32.toInt (h_97 15 (by decide)).1
          refine ok_ite (fun c_105 => ?_) (fun c_105 => ?_)
          · skip
            have r_106 := n_rng r14
            have c_105i : r14.toInt = 0 := bI_eq rfl (show (0 : Int32).toInt = 0 by decide) c_105
            have u_107 : (gI z15 13).toInt ≠ 0 := h_100 (by omega)
            try have e_108 : (0 : Int32).toInt = 0 := (show (0 : Int32).toInt = 0 by decide)
            exact ok_some ⟨Or.inl rfl, (fr_tr (fr_I (fr_tr (fr_tr frz_t h_2 (by decide)) h_78 (by decide)) (by decide)) h_97 (by decide)), (show (gI o_z_t 12).toInt ≤ (gI z15 12).toInt ∧ (gI z15 12).toInt ≤ (gI o_z_t 1).toInt by first | omega | assumption | trivial), (kp_tr (kp_I (kp_fr (kp_fr iP h_2 (by decide)) h_78 (by decide))) h_99), (show (0 : Int32).toInt = 0 → (gI z15 13).toInt ≠ 0 from fun _ => by first | omega | assumption), (show (0 : Int32).toInt = 1 → (gT z15 4 t).toInt + o ≤ (gI z15 12).toInt ∧ h + 1 ≤ (gI z15 16).toInt ∧ (gI z15 16).toInt ≤ 60 from fun q => absurd q (by decide)), (show (0 : Int32).toInt = 1 → RN z15 t b (h + 1) from fun q => absurd q (by decide))⟩
          · skip
            have r_109 := n_rng r14
            have c_105i : r14.toInt ≠ 0 := bI_neq rfl (show (0 : Int32).toInt = 0 by decide) c_105
            have u_110 : (gT z15 4 t).toInt + (o + 1) ≤ (gI z15 12).toInt ∧ (h + 1) + 1 ≤ (gI z15 16).toInt ∧ (gI z15 16).toInt ≤ 60 := h_101 (by omega)
            have u_111 : RN z15 t b ((h + 1) + 1) := h_102 (by omega)
            have e_113 : (2 : Int32).toInt = 2 := (show (2 : Int32).toInt = 2 by decide)
            have e_114 : (0 : Int32).toInt = 0 := (show (0 : Int32).toInt = 0 by decide)
            refine ok_bd (t_fX9_puts (t := t) (by first | omega | assumption | decide | (show (gI z15 15).toInt = t ∧ t < 6; first | omega | assumption)) (by first | omega | assumption | decide | (show 0 ≤ (gT z15 4 t).toInt ∧ (gT z15 4 t).toInt < 400; first | omega | assumption))) (fun z18 q_112 => ?_)
            have h_115 : FrL [3, 4] z15 z18 := q_112.1
            have h_116 : PUT t z15 z18 ((2 : Int32) + (16 * (0 : Int32))) := q_112.2
            clear q_112
            have s_117 : (gI z18 1).toInt = (gI z15 1).toInt := congrArg Int32.toInt (h_115 1 (by decide)).1
            have s_118 : (gI z18 12).toInt = (gI z15 12).toInt := congrArg Int32.toInt (h_115 12 (by decide)).1
            have s_119 : (gI z18 13).toInt = (gI z15 13).toInt := congrArg Int32.toInt (h_115 13 (by decide)).1
            have s_120 : (gI z18 15).toInt = (gI z15 15).toInt := congrArg Int32.toInt (h_115 15 (by decide)).1
            have s_121 : (gI z18 16).toInt = (gI z15 16).toInt := congrArg Int32.toInt (h_115 16 (by decide)).1
            have h_116a := h_116.1
            have h_116k := h_116.2.1
            have h_116r : RN z18 t b ((h + 1)) := rn_put (by omega) h_116 u_111 (stp_bin (by omega) (by decide) (by decide) (by decide))
            exact ih z18 (fr_tr (fr_tr (fr_I (fr_tr (fr_tr frz_t h_2 (by decide)) h_78 (by decide)) (by decide)) h_97 (by decide)) h_115 (by decide)) (show (gI o_z_t 12).toInt ≤ (gI z18 12).toInt ∧ (gI z18 12).toInt ≤ (gI o_z_t 1).toInt by first | omega | assumption | decide) (show (gT z18 4 t).toInt + o ≤ (gI z18 12).toInt by first | omega | assumption | decide) (show h + 1 ≤ (gI z18 16).toInt ∧ (gI z18 16).toInt ≤ 60 by first | omega | assumption | decide) (kp_tr (kp_tr (kp_I (kp_fr (kp_fr iP h_2 (by decide)) h_78 (by decide))) h_99) h_116k) h_116r (by omega)
        · skip
          have r_122 := n_rng (gT z23 0 (gI z23 12).toNatClampNeg)
          have c_91i : (gT z23 0 (gI z23 12).toNatClampNeg).toInt ≠ 43 := bI_neq rfl (show (43 : Int32).toInt = 43 by decide) c_91
          have r_124 := n_rng (gI z23 12)
          try have e_125 : ((gI z23 12) + 1).toInt = ((gI z23 12).toInt + 1) := (i32_add rfl (show (1 : Int32).toInt = 1 by decide) (by omega) (by omega))
          refine ok_bd2 (t_fX9_term (t := t) (b := b) (h := h + 1) (o := o + 1) (by first | omega | assumption | decide | (show 0 ≤ ((gI z23 12) + 1).toInt ∧ ((gI z23 12) + 1).toInt ≤ (gI z23 1).toInt ∧ (gI z23 1).toInt ≤ 400; first | omega | assumption)) (by first | omega | assumption | decide | (show (gI z23 15).toInt = t ∧ t < 6; first | omega | assumption)) (by first | omega | assumption | decide | (show 0 ≤ (gT z23 4 t).toInt ∧ (gT z23 4 t).toInt + (o + 1) ≤ ((gI z23 12) + 1).toInt; first | omega | assumption)) (by first | omega | assumption | decide | (show 0 ≤ (gI z23 16).toInt ∧ (gI z23 16).toInt ≤ 60 ∧ (h + 1) ≤ (gI z23 16).toInt; first | omega | assumption)) (rn_I (rn_fr h_78 (by decide) (rn_fr h_2 (by decide) iR)))) (fun r14 z15 q_123 => ?_)
          have h_126 : r14 = 0 ∨ r14 = 1 := q_123.1
          have h_126i := bool_i h_126
          have h_127 : FrL [3, 4, 12, 13, 14, 16] (sI z23 12 ((gI z23 12) + 1)) z15 := q_123.2.1
          have h_128 : ((gI z23 12) + 1).toInt ≤ (gI z15 12).toInt ∧ (gI z15 12).toInt ≤ (gI z23 1).toInt := q_123.2.2.1
          have h_129 : KP t (sI z23 12 ((gI z23 12) + 1)) z15 := q_123.2.2.2.1
          have h_129a : (gT z23 4 t).toInt ≤ (gT z15 4 t).toInt := h_129.1
          have h_130 : r14.toInt = 0 → (gI z15 13).toInt ≠ 0 := q_123.2.2.2.2.1
          have h_131 : r14.toInt = 1 → (gT z15 4 t).toInt + (o + 1) ≤ (gI z15 12).toInt ∧ (h + 1) + 1 ≤ (gI z15 16).toInt ∧ (gI z15 16).toInt ≤ 60 := q_123.2.2.2.2.2.1
          have h_132 : r14.toInt = 1 → RN z15 t b ((h + 1) + 1) := q_123.2.2.2.2.2.2
          clear q_123
          have s_133 : (gI z15 1).toInt = (gI z23 1).toInt := congrArg Int32.toInt (h_127 1 (by decide)).1
          have s_134 : (gI z15 15).toInt = (gI z23 15).toInt := congrArg Int32.toInt (h_127 15 (by decide)).1
          refine ok_ite (fun c_135 => ?_) (fun c_135 => ?_)
          · skip
            have r_136 := n_rng r14
            have c_135i : r14.toInt = 0 := bI_eq rfl (show (0 : Int32).toInt = 0 by decide) c_135
            have u_137 : (gI z15 13).toInt ≠ 0 := h_130 (by omega)
            try have e_138 : (0 : Int32).toInt = 0 := (show (0 : Int32).toInt = 0 by decide)
            exact ok_some ⟨Or.inl rfl, (fr_tr (fr_I (fr_tr (fr_tr frz_t h_2 (by decide)) h_78 (by decide)) (by decide)) h_127 (by decide)), (show (gI o_z_t 12).toInt ≤ (gI z15 12).toInt ∧ (gI z15 12).toInt ≤ (gI o_z_t 1).toInt by first | omega | assumption | trivial), (kp_tr (kp_I (kp_fr (kp_fr iP h_2 (by decide)) h_78 (by decide))) h_129), (show (0 : Int32).toInt = 0 → (gI z15 13).toInt ≠ 0 from fun _ => by first | omega | assumption), (show (0 : Int32).toInt = 1 → (gT z15 4 t).toInt + o ≤ (gI z15 12).toInt ∧ h + 1 ≤ (gI z15 16).toInt ∧ (gI z15 16).toInt ≤ 60 from fun q => absurd q (by decide)), (show (0 : Int32).toInt = 1 → RN z15 t b (h + 1) from fun q => absurd q (by decide))⟩
          · skip
            have r_139 := n_rng r14
            have c_135i : r14.toInt ≠ 0 := bI_neq rfl (show (0 : Int32).toInt = 0 by decide) c_135
            have u_140 : (gT z15 4 t).toInt + (o + 1) ≤ (gI z15 12).toInt ∧ (h + 1) + 1 ≤ (gI z15 16).toInt ∧ (gI z15 16).toInt ≤ 60 := h_131 (by omega)
            have u_141 : RN z15 t b ((h + 1) + 1) := h_132 (by omega)
            have e_143 : (3 : Int32).toInt = 3 := (show (3 : Int32).toInt = 3 by decide)
            have e_144 : (0 : Int32).toInt = 0 := (show (0 : Int32).toInt = 0 by decide)
            refine ok_bd (t_fX9_puts (t := t) (by first | omega | assumption | decide | (show (gI z15 15).toInt = t ∧ t < 6; first | omega | assumption)) (by first | omega | assumption | decide | (show 0 ≤ (gT z15 4 t).toInt ∧ (gT z15 4 t).toInt < 400; first | omega | assumption))) (fun z18 q_142 => ?_)
            have h_145 : FrL [3, 4] z15 z18 := q_142.1
            have h_146 : PUT t z15 z18 ((3 : Int32) + (16 * (0 : Int32))) := q_142.2
            clear q_142
            have s_147 : (gI z18 1).toInt = (gI z15 1).toInt := congrArg Int32.toInt (h_145 1 (by decide)).1
            have s_148 : (gI z18 12).toInt = (gI z15 12).toInt := congrArg Int32.toInt (h_145 12 (by decide)).1
            have s_149 : (gI z18 13).toInt = (gI z15 13).toInt := congrArg Int32.toInt (h_145 13 (by decide)).1
            have s_150 : (gI z18 15).toInt = (gI z15 15).toInt := congrArg Int32.toInt (h_145 15 (by decide)).1
            have s_151 : (gI z18 16).toInt = (gI z15 16).toInt := congrArg Int32.toInt (h_145 16 (by decide)).1
            have h_146a := h_146.1
            have h_146k := h_146.2.1
            have h_146r : RN z18 t b ((h + 1)) := rn_put (by omega) h_146 u_141 (stp_bin (by omega) (by decide) (by decide) (by decide))
            exact ih z18 (fr_tr (fr_tr (fr_I (fr_tr (fr_tr frz_t h_2 (by decide)) h_78 (by decide)) (by decide)) h_127 (by decide)) h_145 (by decide)) (show (gI o_z_t 12).toInt ≤ (gI z18 12).toInt ∧ (gI z18 12).toInt ≤ (gI o_z_t 1).toInt by first | omega | assumption | decide) (show (gT z18 4 t).toInt + o ≤ (gI z18 12).toInt by first | omega | assumption | decide) (show h + 1 ≤ (gI z18 16).toInt ∧ (gI z18 16).toInt ≤ 60 by first | omega | assumption | decide) (kp_tr (kp_tr (kp_I (kp_fr (kp_fr iP h_2 (by decide)) h_78 (by decide))) h_129) h_146k) h_146r (by omega)
      · skip
        have r_152 := n_rng r22
        have c_88i : r22.toInt ≠ 45 := bI_neq rfl (show (45 : Int32).toInt = 45 by decide) c_88
        try have e_153 : (1 : Int32).toInt = 1 := (show (1 : Int32).toInt = 1 by decide)
        exact ok_some ⟨Or.inr rfl, (fr_tr (fr_tr frz_t h_2 (by decide)) h_78 (by decide)), (show (gI o_z_t 12).toInt ≤ (gI z23 12).toInt ∧ (gI z23 12).toInt ≤ (gI o_z_t 1).toInt by first | omega | assumption | trivial), (kp_fr (kp_fr iP h_2 (by decide)) h_78 (by decide)), (show (1 : Int32).toInt = 0 → (gI z23 13).toInt ≠ 0 from fun q => absurd q (by decide)), (show (1 : Int32).toInt = 1 → (gT z23 4 t).toInt + o ≤ (gI z23 12).toInt ∧ h + 1 ≤ (gI z23 16).toInt ∧ (gI z23 16).toInt ≤ 60 from fun _ => by first | omega | assumption), (fun _ => (rn_fr h_78 (by decide) (rn_fr h_2 (by decide) iR)))⟩
set_option maxHeartbeats 400000 in
set_option maxRecDepth 20000 in
theorem t_fX9_sum {z_t : Sx} {t : Nat} {b : Nat} {h : Nat} {o : Nat} (p1 : 0 ≤ (gI z_t 12).toInt ∧ (gI z_t 12).toInt ≤ (gI z_t 1).toInt ∧ (gI z_t 1).toInt ≤ 400) (pt : (gI z_t 15).toInt = t ∧ t < 6) (pL : 0 ≤ (gT z_t 4 t).toInt ∧ (gT z_t 4 t).toInt + o ≤ (gI z_t 12).toInt) (pm : 0 ≤ (gI z_t 16).toInt ∧ (gI z_t 16).toInt ≤ 60 ∧ h ≤ (gI z_t 16).toInt) (pR : RN z_t t b h) : okP (fX9_sum z_t) (fun y => (y.1 = 0 ∨ y.1 = 1) ∧ (FrL [3, 4, 12, 13, 14, 16] z_t y.2) ∧ ((gI z_t 12).toInt ≤ (gI y.2 12).toInt ∧ (gI y.2 12).toInt ≤ (gI z_t 1).toInt) ∧ (KP t z_t y.2) ∧ (y.1.toInt = 0 → (gI y.2 13).toInt ≠ 0) ∧ (y.1.toInt = 1 → (gT y.2 4 t).toInt + o ≤ (gI y.2 12).toInt ∧ h + 1 ≤ (gI y.2 16).toInt ∧ (gI y.2 16).toInt ≤ 60) ∧ (y.1.toInt = 1 → RN y.2 t b (h + 1))) := by
  unfold fX9_sum
  refine ok_bd2 (t_fX9_term (t := t) (b := b) (h := h) (o := o) (by first | omega | assumption | decide | (show 0 ≤ (gI z_t 12).toInt ∧ (gI z_t 12).toInt ≤ (gI z_t 1).toInt ∧ (gI z_t 1).toInt ≤ 400; first | omega | assumption)) (by first | omega | assumption | decide | (show (gI z_t 15).toInt = t ∧ t < 6; first | omega | assumption)) (by first | omega | assumption | decide | (show 0 ≤ (gT z_t 4 t).toInt ∧ (gT z_t 4 t).toInt + o ≤ (gI z_t 12).toInt; first | omega | assumption)) (by first | omega | assumption | decide | (show 0 ≤ (gI z_t 16).toInt ∧ (gI z_t 16).toInt ≤ 60 ∧ h ≤ (gI z_t 16).toInt; first | omega | assumption)) (by assumption)) (fun r2 z3 q_1 => ?_)
  have h_2 : r2 = 0 ∨ r2 = 1 := q_1.1
  have h_2i := bool_i h_2
  have h_3 : FrL [3, 4, 12, 13, 14, 16] z_t z3 := q_1.2.1
  have h_4 : (gI z_t 12).toInt ≤ (gI z3 12).toInt ∧ (gI z3 12).toInt ≤ (gI z_t 1).toInt := q_1.2.2.1
  have h_5 : KP t z_t z3 := q_1.2.2.2.1
  have h_5a : (gT z_t 4 t).toInt ≤ (gT z3 4 t).toInt := h_5.1
  have h_6 : r2.toInt = 0 → (gI z3 13).toInt ≠ 0 := q_1.2.2.2.2.1
  have h_7 : r2.toInt = 1 → (gT z3 4 t).toInt + o ≤ (gI z3 12).toInt ∧ h + 1 ≤ (gI z3 16).toInt ∧ (gI z3 16).toInt ≤ 60 := q_1.2.2.2.2.2.1
  have h_8 : r2.toInt = 1 → RN z3 t b (h + 1) := q_1.2.2.2.2.2.2
  clear q_1
  have s_9 : (gI z3 1).toInt = (gI z_t 1).toInt := congrArg Int32.toInt (h_3 1 (by decide)).1
  have s_10 : (gI z3 15).toInt = (gI z_t 15).toInt := congrArg Int32.toInt (h_3 15 (by decide)).1
  refine ok_ite (fun c_11 => ?_) (fun c_11 => ?_)
  · skip
    have r_12 := n_rng r2
    have c_11i : r2.toInt = 0 := bI_eq rfl (show (0 : Int32).toInt = 0 by decide) c_11
    have u_13 : (gI z3 13).toInt ≠ 0 := h_6 (by omega)
    try have e_14 : (0 : Int32).toInt = 0 := (show (0 : Int32).toInt = 0 by decide)
    exact ok_some ⟨Or.inl rfl, (fr_tr fr_rf h_3 (by decide)), (show (gI z_t 12).toInt ≤ (gI z3 12).toInt ∧ (gI z3 12).toInt ≤ (gI z_t 1).toInt by first | omega | assumption | trivial), (kp_tr kp_rf h_5), (show (0 : Int32).toInt = 0 → (gI z3 13).toInt ≠ 0 from fun _ => by first | omega | assumption), (show (0 : Int32).toInt = 1 → (gT z3 4 t).toInt + o ≤ (gI z3 12).toInt ∧ h + 1 ≤ (gI z3 16).toInt ∧ (gI z3 16).toInt ≤ 60 from fun q => absurd q (by decide)), (show (0 : Int32).toInt = 1 → RN z3 t b (h + 1) from fun q => absurd q (by decide))⟩
  · skip
    have r_15 := n_rng r2
    have c_11i : r2.toInt ≠ 0 := bI_neq rfl (show (0 : Int32).toInt = 0 by decide) c_11
    have u_16 : (gT z3 4 t).toInt + o ≤ (gI z3 12).toInt ∧ h + 1 ≤ (gI z3 16).toInt ∧ (gI z3 16).toInt ≤ 60 := h_7 (by omega)
    have u_17 : RN z3 t b (h + 1) := h_8 (by omega)
    refine tl_lX9_sum_9 (t := t) (b := b) (h := h) (o := o) (by first | omega | assumption | decide) (by first | omega | assumption | decide) (by first | omega | assumption | decide) FU z3 (fr_tr fr_rf h_3 (by decide)) (show (gI z_t 12).toInt ≤ (gI z3 12).toInt ∧ (gI z3 12).toInt ≤ (gI z_t 1).toInt by first | omega | assumption | decide) (show (gT z3 4 t).toInt + o ≤ (gI z3 12).toInt by first | omega | assumption | decide) (show h + 1 ≤ (gI z3 16).toInt ∧ (gI z3 16).toInt ≤ 60 by first | omega | assumption | decide) (kp_tr kp_rf h_5) u_17 (FU_lt (by omega))

set_option maxHeartbeats 400000 in
set_option maxRecDepth 20000 in
theorem t_fX9_compare {z_t : Sx} {t : Nat} {b : Nat} {h : Nat} {o : Nat} (p1 : 0 ≤ (gI z_t 12).toInt ∧ (gI z_t 12).toInt ≤ (gI z_t 1).toInt ∧ (gI z_t 1).toInt ≤ 400) (pt : (gI z_t 15).toInt = t ∧ t < 6) (pL : 0 ≤ (gT z_t 4 t).toInt ∧ (gT z_t 4 t).toInt + o ≤ (gI z_t 12).toInt) (pm : 0 ≤ (gI z_t 16).toInt ∧ (gI z_t 16).toInt ≤ 60 ∧ h ≤ (gI z_t 16).toInt) (pR : RN z_t t b h) : okP (fX9_compare z_t) (fun y => (y.1 = 0 ∨ y.1 = 1) ∧ (FrL [3, 4, 12, 13, 14, 16] z_t y.2) ∧ ((gI z_t 12).toInt ≤ (gI y.2 12).toInt ∧ (gI y.2 12).toInt ≤ (gI z_t 1).toInt) ∧ (KP t z_t y.2) ∧ (y.1.toInt = 0 → (gI y.2 13).toInt ≠ 0) ∧ (y.1.toInt = 1 → (gT y.2 4 t).toInt + o ≤ (gI y.2 12).toInt ∧ h + 1 ≤ (gI y.2 16).toInt ∧ (gI y.2 16).toInt ≤ 60) ∧ (y.1.toInt = 1 → RN y.2 t b (h + 1))) := by
  unfold fX9_compare
  refine ok_bd2 (t_fX9_sum (t := t) (b := b) (h := h) (o := o) (by first | omega | assumption | decide | (show 0 ≤ (gI z_t 12).toInt ∧ (gI z_t 12).toInt ≤ (gI z_t 1).toInt ∧ (gI z_t 1).toInt ≤ 400; first | omega | assumption)) (by first | omega | assumption | decide | (show (gI z_t 15).toInt = t ∧ t < 6; first | omega | assumption)) (by first | omega | assumption | decide | (show 0 ≤ (gT z_t 4 t).toInt ∧ (gT z_t 4 t).toInt + o ≤ (gI z_t 12).toInt; first | omega | assumption)) (by first | omega | assumption | decide | (show 0 ≤ (gI z_t 16).toInt ∧ (gI z_t 16).toInt ≤ 60 ∧ h ≤ (gI z_t 16).toInt; first | omega | assumption)) (by assumption)) (fun r2 z3 q_1 => ?_)
  have h_2 : r2 = 0 ∨ r2 = 1 := q_1.1
  have h_2i := bool_i h_2
  have h_3 : FrL [3, 4, 12, 13, 14, 16] z_t z3 := q_1.2.1
  have h_4 : (gI z_t 12).toInt ≤ (gI z3 12).toInt ∧ (gI z3 12).toInt ≤ (gI z_t 1).toInt := q_1.2.2.1
  have h_5 : KP t z_t z3 := q_1.2.2.2.1
  have h_5a : (gT z_t 4 t).toInt ≤ (gT z3 4 t).toInt := h_5.1
  have h_6 : r2.toInt = 0 → (gI z3 13).toInt ≠ 0 := q_1.2.2.2.2.1
  have h_7 : r2.toInt = 1 → (gT z3 4 t).toInt + o ≤ (gI z3 12).toInt ∧ h + 1 ≤ (gI z3 16).toInt ∧ (gI z3 16).toInt ≤ 60 := q_1.2.2.2.2.2.1
  have h_8 : r2.toInt = 1 → RN z3 t b (h + 1) := q_1.2.2.2.2.2.2
  clear q_1
  have s_9 : (gI z3 1).toInt = (gI z_t 1).toInt := congrArg Int32.toInt (h_3 1 (by decide)).1
  have s_10 : (gI z3 15).toInt = (gI z_t 15).toInt := congrArg Int32.toInt (h_3 15 (by decide)).1
  refine ok_ite (fun c_11 => ?_) (fun c_11 => ?_)
  · skip
    have r_12 := n_rng r2
    have c_11i : r2.toInt = 0 := bI_eq rfl (show (0 : Int32).toInt = 0 by decide) c_11
    have u_13 : (gI z3 13).toInt ≠ 0 := h_6 (by omega)
    try have e_14 : (0 : Int32).toInt = 0 := (show (0 : Int32).toInt = 0 by decide)
    exact ok_some ⟨Or.inl rfl, (fr_tr fr_rf h_3 (by decide)), (show (gI z_t 12).toInt ≤ (gI z3 12).toInt ∧ (gI z3 12).toInt ≤ (gI z_t 1).toInt by first | omega | assumption | trivial), (kp_tr kp_rf h_5), (show (0 : Int32).toInt = 0 → (gI z3 13).toInt ≠ 0 from fun _ => by first | omega | assumption), (show (0 : Int32).toInt = 1 → (gT z3 4 t).toInt + o ≤ (gI z3 12).toInt ∧ h + 1 ≤ (gI z3 16).toInt ∧ (gI z3 16).toInt ≤ 60 from fun q => absurd q (by decide)), (show (0 : Int32).toInt = 1 → RN z3 t b (h + 1) from fun q => absurd q (by decide))⟩
  · skip
    have r_15 := n_rng r2
    have c_11i : r2.toInt ≠ 0 := bI_neq rfl (show (0 : Int32).toInt = 0 by decide) c_11
    have u_16 : (gT z3 4 t).toInt + o ≤ (gI z3 12).toInt ∧ h + 1 ≤ (gI z3 16).toInt ∧ (gI z3 16).toInt ≤ 60 := h_7 (by omega)
    have u_17 : RN z3 t b (h + 1) := h_8 (by omega)
    refine ok_bd2 (t_fX9_see (by first | omega | assumption | decide | (show 0 ≤ (gI z3 12).toInt ∧ (gI z3 12).toInt ≤ (gI z3 1).toInt ∧ (gI z3 1).toInt ≤ 400; first | omega | assumption))) (fun r6 z7 q_18 => ?_)
    have h_19 : FrL [12] z3 z7 := q_18.1
    have h_20 : (gI z3 12).toInt ≤ (gI z7 12).toInt ∧ (gI z7 12).toInt ≤ (gI z3 1).toInt := q_18.2.1
    have h_21 : r6.toInt = -1 ∨ (0 ≤ r6.toInt ∧ (gI z7 12).toInt < (gI z3 1).toInt) := q_18.2.2.1
    have h_22 : NB z3 → (gI z7 12).toInt = (gI z3 12).toInt := q_18.2.2.2.1
    have h_23 : 0 ≤ r6.toInt → NB z7 := q_18.2.2.2.2
    clear q_18
    have s_24 : (gI z7 1).toInt = (gI z3 1).toInt := congrArg Int32.toInt (h_19 1 (by decide)).1
    have s_25 : (gI z7 13).toInt = (gI z3 13).toInt := congrArg Int32.toInt (h_19 13 (by decide)).1
    have s_26 : (gI z7 15).toInt = (gI z3 15).toInt := congrArg Int32.toInt (h_19 15 (by decide)).1
    have s_27 : (gI z7 16).toInt = (gI z3 16).toInt := congrArg Int32.toInt (h_19 16 (by decide)).1
    have s_28 : (gT z7 4 t).toInt = (gT z3 4 t).toInt := congrArg (fun f : Nat → Int32 => (f t).toInt) (h_19 4 (by decide)).2.1
    refine ok_jn ?_
    refine ok_ite (fun c_29 => ?_) (fun c_29 => ?_)
    · skip
      have r_30 := n_rng r6
      have c_29i : r6.toInt = 60 := bI_eq rfl (show (60 : Int32).toInt = 60 by decide) c_29
      refine ok_jn ?_
      refine ok_jn ?_
      refine ok_ite (fun c_31 => ?_) (fun c_31 => ?_)
      · skip
        have c_31i : r6.toInt = 61 := bI_eq rfl (show (61 : Int32).toInt = 61 by decide) c_31
        refine ok_jn ?_
        refine ok_ite (fun c_32 => ?_) (fun c_32 => ?_)
        · skip
          refine ok_bd2 (t_fX9_makes (by first | omega | assumption | decide | (show 0 ≤ (gI z7 16).toInt ∧ (gI z7 16).toInt ≤ 60; first | omega | assumption)) (by first | omega | assumption | decide | (show 0 ≤ (gI z7 12).toInt ∧ (gI z7 12).toInt ≤ 400; first | omega | assumption))) (fun r14 z15 q_33 => ?_)
          have h_34 : r14 = 0 ∨ r14 = 1 := q_33.1
          have h_34i := bool_i h_34
          have h_35 : FrL [13, 16] (sI z7 12 ((gI z7 12) + 1)) z15 := q_33.2.1
          have h_36 : r14.toInt = 0 → (gI z15 13).toInt ≠ 0 := q_33.2.2.1
          have h_37 : r14.toInt = 1 → (gI z15 16).toInt = (gI z7 16).toInt + 1 ∧ (gI z15 16).toInt ≤ 60 := q_33.2.2.2
          clear q_33
          have s_38 : (gI z15 1).toInt = (gI z7 1).toInt := congrArg Int32.toInt (h_35 1 (by decide)).1
          have s_39 : (gI z15 12).toInt = ((gI z7 12) + 1).toInt := congrArg Int32.toInt (h_35 12 (by decide)).1
          have s_40 : (gI z15 15).toInt = (gI z7 15).toInt := congrArg Int32.toInt (h_35 15 (by decide)).1
          have s_41 : (gT z15 4 t).toInt = (gT z7 4 t).toInt := congrArg (fun f : Nat → Int32 => (f t).toInt) (h_35 4 (by decide)).2.1
          refine ok_ite (fun c_42 => ?_) (fun c_42 => ?_)
          · skip
            have r_43 := n_rng r14
            have c_42i : r14.toInt = 0 := bI_eq rfl (show (0 : Int32).toInt = 0 by decide) c_42
            have u_44 : (gI z15 13).toInt ≠ 0 := h_36 (by omega)
            try have e_45 : (0 : Int32).toInt = 0 := (show (0 : Int32).toInt = 0 by decide)
            exact ok_some ⟨Or.inl rfl, (fr_tr (fr_I (fr_tr (fr_tr fr_rf h_3 (by decide)) h_19 (by decide)) (by decide)) h_35 (by decide)), (show (gI z_t 12).toInt ≤ (gI z15 12).toInt ∧ (gI z15 12).toInt ≤ (gI z_t 1).toInt by first | omega | assumption | trivial), (kp_fr (kp_I (kp_fr (kp_tr kp_rf h_5) h_19 (by decide))) h_35 (by decide)), (show (0 : Int32).toInt = 0 → (gI z15 13).toInt ≠ 0 from fun _ => by first | omega | assumption), (show (0 : Int32).toInt = 1 → (gT z15 4 t).toInt + o ≤ (gI z15 12).toInt ∧ h + 1 ≤ (gI z15 16).toInt ∧ (gI z15 16).toInt ≤ 60 from fun q => absurd q (by decide)), (show (0 : Int32).toInt = 1 → RN z15 t b (h + 1) from fun q => absurd q (by decide))⟩
          · skip
            have r_46 := n_rng r14
            have c_42i : r14.toInt ≠ 0 := bI_neq rfl (show (0 : Int32).toInt = 0 by decide) c_42
            have u_47 : (gI z15 16).toInt = (gI z7 16).toInt + 1 ∧ (gI z15 16).toInt ≤ 60 := h_37 (by omega)
            refine ok_jn ?_
            refine ok_ite (fun c_48 => ?_) (fun c_48 => ?_)
            · skip
              have c_48i : r6.toInt = 60 := bI_eq rfl (show (60 : Int32).toInt = 60 by decide) c_48
              refine ok_ite (fun c_49 => ?_) (fun c_49 => ?_)
              · skip
                refine ok_bd2 (t_fX9_sum (t := t) (b := b) (h := h + 1) (o := o + 1) (by first | omega | assumption | decide | (show 0 ≤ (gI z15 12).toInt ∧ (gI z15 12).toInt ≤ (gI z15 1).toInt ∧ (gI z15 1).toInt ≤ 400; first | omega | assumption)) (by first | omega | assumption | decide | (show (gI z15 15).toInt = t ∧ t < 6; first | omega | assumption)) (by first | omega | assumption | decide | (show 0 ≤ (gT z15 4 t).toInt ∧ (gT z15 4 t).toInt + (o + 1) ≤ (gI z15 12).toInt; first | omega | assumption)) (by first | omega | assumption | decide | (show 0 ≤ (gI z15 16).toInt ∧ (gI z15 16).toInt ≤ 60 ∧ (h + 1) ≤ (gI z15 16).toInt; first | omega | assumption)) (rn_fr h_35 (by decide) (rn_I (rn_fr h_19 (by decide) u_17)))) (fun r20 z21 q_50 => ?_)
                have h_51 : r20 = 0 ∨ r20 = 1 := q_50.1
                have h_51i := bool_i h_51
                have h_52 : FrL [3, 4, 12, 13, 14, 16] z15 z21 := q_50.2.1
                have h_53 : (gI z15 12).toInt ≤ (gI z21 12).toInt ∧ (gI z21 12).toInt ≤ (gI z15 1).toInt := q_50.2.2.1
                have h_54 : KP t z15 z21 := q_50.2.2.2.1
                have h_54a : (gT z15 4 t).toInt ≤ (gT z21 4 t).toInt := h_54.1
                have h_55 : r20.toInt = 0 → (gI z21 13).toInt ≠ 0 := q_50.2.2.2.2.1
                have h_56 : r20.toInt = 1 → (gT z21 4 t).toInt + (o + 1) ≤ (gI z21 12).toInt ∧ (h + 1) + 1 ≤ (gI z21 16).toInt ∧ (gI z21 16).toInt ≤ 60 := q_50.2.2.2.2.2.1
                have h_57 : r20.toInt = 1 → RN z21 t b ((h + 1) + 1) := q_50.2.2.2.2.2.2
                clear q_50
                have s_58 : (gI z21 1).toInt = (gI z15 1).toInt := congrArg Int32.toInt (h_52 1 (by decide)).1
                have s_59 : (gI z21 15).toInt = (gI z15 15).toInt := congrArg Int32.toInt (h_52 15 (by decide)).1
                refine ok_ite (fun c_60 => ?_) (fun c_60 => ?_)
                · skip
                  have r_61 := n_rng r20
                  have c_60i : r20.toInt = 0 := bI_eq rfl (show (0 : Int32).toInt = 0 by decide) c_60
                  have u_62 : (gI z21 13).toInt ≠ 0 := h_55 (by omega)
                  try have e_63 : (0 : Int32).toInt = 0 := (show (0 : Int32).toInt = 0 by decide)
                  exact ok_some ⟨Or.inl rfl, (fr_tr (fr_tr (fr_I (fr_tr (fr_tr fr_rf h_3 (by decide)) h_19 (by decide)) (by decide)) h_35 (by decide)) h_52 (by decide)), (show (gI z_t 12).toInt ≤ (gI z21 12).toInt ∧ (gI z21 12).toInt ≤ (gI z_t 1).toInt by first | omega | assumption | trivial), (kp_tr (kp_fr (kp_I (kp_fr (kp_tr kp_rf h_5) h_19 (by decide))) h_35 (by decide)) h_54), (show (0 : Int32).toInt = 0 → (gI z21 13).toInt ≠ 0 from fun _ => by first | omega | assumption), (show (0 : Int32).toInt = 1 → (gT z21 4 t).toInt + o ≤ (gI z21 12).toInt ∧ h + 1 ≤ (gI z21 16).toInt ∧ (gI z21 16).toInt ≤ 60 from fun q => absurd q (by decide)), (show (0 : Int32).toInt = 1 → RN z21 t b (h + 1) from fun q => absurd q (by decide))⟩
                · skip
                  have r_64 := n_rng r20
                  have c_60i : r20.toInt ≠ 0 := bI_neq rfl (show (0 : Int32).toInt = 0 by decide) c_60
                  have u_65 : (gT z21 4 t).toInt + (o + 1) ≤ (gI z21 12).toInt ∧ (h + 1) + 1 ≤ (gI z21 16).toInt ∧ (gI z21 16).toInt ≤ 60 := h_56 (by omega)
                  have u_66 : RN z21 t b ((h + 1) + 1) := h_57 (by omega)
                  have e_68 : (6 + 0).toInt = (6 + 0) := (i32_add (show (6 : Int32).toInt = 6 by decide) (show (0 : Int32).toInt = 0 by decide) (by omega) (by omega))
                  have e_69 : (0 : Int32).toInt = 0 := (show (0 : Int32).toInt = 0 by decide)
                  refine ok_bd (t_fX9_puts (t := t) (by first | omega | assumption | decide | (show (gI z21 15).toInt = t ∧ t < 6; first | omega | assumption)) (by first | omega | assumption | decide | (show 0 ≤ (gT z21 4 t).toInt ∧ (gT z21 4 t).toInt < 400; first | omega | assumption))) (fun z24 q_67 => ?_)
                  have h_70 : FrL [3, 4] z21 z24 := q_67.1
                  have h_71 : PUT t z21 z24 (((6 : Int32) + 0) + (16 * (0 : Int32))) := q_67.2
                  clear q_67
                  have s_72 : (gI z24 1).toInt = (gI z21 1).toInt := congrArg Int32.toInt (h_70 1 (by decide)).1
                  have s_73 : (gI z24 12).toInt = (gI z21 12).toInt := congrArg Int32.toInt (h_70 12 (by decide)).1
                  have s_74 : (gI z24 13).toInt = (gI z21 13).toInt := congrArg Int32.toInt (h_70 13 (by decide)).1
                  have s_75 : (gI z24 15).toInt = (gI z21 15).toInt := congrArg Int32.toInt (h_70 15 (by decide)).1
                  have s_76 : (gI z24 16).toInt = (gI z21 16).toInt := congrArg Int32.toInt (h_70 16 (by decide)).1
                  have h_71a := h_71.1
                  have h_71k := h_71.2.1
                  have h_71r : RN z24 t b ((h + 1)) := rn_put (by omega) h_71 u_66 (stp_bin (by omega) (by decide) (by decide) (by decide))
                  try have e_77 : (1 : Int32).toInt = 1 := (show (1 : Int32).toInt = 1 by decide)
                  exact ok_some ⟨Or.inr rfl, (fr_tr (fr_tr (fr_tr (fr_I (fr_tr (fr_tr fr_rf h_3 (by decide)) h_19 (by decide)) (by decide)) h_35 (by decide)) h_52 (by decide)) h_70 (by decide)), (show (gI z_t 12).toInt ≤ (gI z24 12).toInt ∧ (gI z24 12).toInt ≤ (gI z_t 1).toInt by first | omega | assumption | trivial), (kp_tr (kp_tr (kp_fr (kp_I (kp_fr (kp_tr kp_rf h_5) h_19 (by decide))) h_35 (by decide)) h_54) h_71k), (show (1 : Int32).toInt = 0 → (gI z24 13).toInt ≠ 0 from fun q => absurd q (by decide)), (show (1 : Int32).toInt = 1 → (gT z24 4 t).toInt + o ≤ (gI z24 12).toInt ∧ h + 1 ≤ (gI z24 16).toInt ∧ (gI z24 16).toInt ≤ 60 from fun _ => by first | omega | assumption), (fun _ => h_71r)⟩
              · skip
                exact absurd (by decide) c_49
            · skip
              have c_48i : r6.toInt ≠ 60 := bI_neq rfl (show (60 : Int32).toInt = 60 by decide) c_48
              refine ok_ite (fun c_78 => ?_) (fun c_78 => ?_)
              · skip
                have c_78i : r6.toInt = 61 := bI_eq rfl (show (61 : Int32).toInt = 61 by decide) c_78
                refine ok_bd2 (t_fX9_sum (t := t) (b := b) (h := h + 1) (o := o + 1) (by first | omega | assumption | decide | (show 0 ≤ (gI z15 12).toInt ∧ (gI z15 12).toInt ≤ (gI z15 1).toInt ∧ (gI z15 1).toInt ≤ 400; first | omega | assumption)) (by first | omega | assumption | decide | (show (gI z15 15).toInt = t ∧ t < 6; first | omega | assumption)) (by first | omega | assumption | decide | (show 0 ≤ (gT z15 4 t).toInt ∧ (gT z15 4 t).toInt + (o + 1) ≤ (gI z15 12).toInt; first | omega | assumption)) (by first | omega | assumption | decide | (show 0 ≤ (gI z15 16).toInt ∧ (gI z15 16).toInt ≤ 60 ∧ (h + 1) ≤ (gI z15 16).toInt; first | omega | assumption)) (rn_fr h_35 (by decide) (rn_I (rn_fr h_19 (by decide) u_17)))) (fun r20 z21 q_79 => ?_)
                have h_80 : r20 = 0 ∨ r20 = 1 := q_79.1
                have h_80i := bool_i h_80
                have h_81 : FrL [3, 4, 12, 13, 14, 16] z15 z21 := q_79.2.1
                have h_82 : (gI z15 12).toInt ≤ (gI z21 12).toInt ∧ (gI z21 12).toInt ≤ (gI z15 1).toInt := q_79.2.2.1
                have h_83 : KP t z15 z21 := q_79.2.2.2.1
                have h_83a : (gT z15 4 t).toInt ≤ (gT z21 4 t).toInt := h_83.1
                have h_84 : r20.toInt = 0 → (gI z21 13).toInt ≠ 0 := q_79.2.2.2.2.1
                have h_85 : r20.toInt = 1 → (gT z21 4 t).toInt + (o + 1) ≤ (gI z21 12).toInt ∧ (h + 1) + 1 ≤ (gI z21 16).toInt ∧ (gI z21 16).toInt ≤ 60 := q_79.2.2.2.2.2.1
                have h_86 : r20.toInt = 1 → RN z21 t b ((h + 1) + 1) := q_79.2.2.2.2.2.2
                clear q_79
                have s_87 : (gI z21 1).toInt = (gI z15 1).toInt := congrArg Int32.toInt (h_81 1 (by decide)).1
                have s_88 : (gI z21 15).toInt = (gI z15 15).toInt := congrArg Int32.toInt (h_81 15 (by decide)).1
                refine ok_ite (fun c_89 => ?_) (fun c_89 => ?_)
                · skip
                  have r_90 := n_rng r20
                  have c_89i : r20.toInt = 0 := bI_eq rfl (show (0 : Int32).toInt = 0 by decide) c_89
                  have u_91 : (gI z21 13).toInt ≠ 0 := h_84 (by omega)
                  try have e_92 : (0 : Int32).toInt = 0 := (show (0 : Int32).toInt = 0 by decide)
                  exact ok_some ⟨Or.inl rfl, (fr_tr (fr_tr (fr_I (fr_tr (fr_tr fr_rf h_3 (by decide)) h_19 (by decide)) (by decide)) h_35 (by decide)) h_81 (by decide)), (show (gI z_t 12).toInt ≤ (gI z21 12).toInt ∧ (gI z21 12).toInt ≤ (gI z_t 1).toInt by first | omega | assumption | trivial), (kp_tr (kp_fr (kp_I (kp_fr (kp_tr kp_rf h_5) h_19 (by decide))) h_35 (by decide)) h_83), (show (0 : Int32).toInt = 0 → (gI z21 13).toInt ≠ 0 from fun _ => by first | omega | assumption), (show (0 : Int32).toInt = 1 → (gT z21 4 t).toInt + o ≤ (gI z21 12).toInt ∧ h + 1 ≤ (gI z21 16).toInt ∧ (gI z21 16).toInt ≤ 60 from fun q => absurd q (by decide)), (show (0 : Int32).toInt = 1 → RN z21 t b (h + 1) from fun q => absurd q (by decide))⟩
                · skip
                  have r_93 := n_rng r20
                  have c_89i : r20.toInt ≠ 0 := bI_neq rfl (show (0 : Int32).toInt = 0 by decide) c_89
                  have u_94 : (gT z21 4 t).toInt + (o + 1) ≤ (gI z21 12).toInt ∧ (h + 1) + 1 ≤ (gI z21 16).toInt ∧ (gI z21 16).toInt ≤ 60 := h_85 (by omega)
                  have u_95 : RN z21 t b ((h + 1) + 1) := h_86 (by omega)
                  have e_97 : (6 + 2).toInt = (6 + 2) := (i32_add (show (6 : Int32).toInt = 6 by decide) (show (2 : Int32).toInt = 2 by decide) (by omega) (by omega))
                  have e_98 : (0 : Int32).toInt = 0 := (show (0 : Int32).toInt = 0 by decide)
                  refine ok_bd (t_fX9_puts (t := t) (by first | omega | assumption | decide | (show (gI z21 15).toInt = t ∧ t < 6; first | omega | assumption)) (by first | omega | assumption | decide | (show 0 ≤ (gT z21 4 t).toInt ∧ (gT z21 4 t).toInt < 400; first | omega | assumption))) (fun z24 q_96 => ?_)
                  have h_99 : FrL [3, 4] z21 z24 := q_96.1
                  have h_100 : PUT t z21 z24 (((6 : Int32) + 2) + (16 * (0 : Int32))) := q_96.2
                  clear q_96
                  have s_101 : (gI z24 1).toInt = (gI z21 1).toInt := congrArg Int32.toInt (h_99 1 (by decide)).1
                  have s_102 : (gI z24 12).toInt = (gI z21 12).toInt := congrArg Int32.toInt (h_99 12 (by decide)).1
                  have s_103 : (gI z24 13).toInt = (gI z21 13).toInt := congrArg Int32.toInt (h_99 13 (by decide)).1
                  have s_104 : (gI z24 15).toInt = (gI z21 15).toInt := congrArg Int32.toInt (h_99 15 (by decide)).1
                  have s_105 : (gI z24 16).toInt = (gI z21 16).toInt := congrArg Int32.toInt (h_99 16 (by decide)).1
                  have h_100a := h_100.1
                  have h_100k := h_100.2.1
                  have h_100r : RN z24 t b ((h + 1)) := rn_put (by omega) h_100 u_95 (stp_bin (by omega) (by decide) (by decide) (by decide))
                  try have e_106 : (1 : Int32).toInt = 1 := (show (1 : Int32).toInt = 1 by decide)
                  exact ok_some ⟨Or.inr rfl, (fr_tr (fr_tr (fr_tr (fr_I (fr_tr (fr_tr fr_rf h_3 (by decide)) h_19 (by decide)) (by decide)) h_35 (by decide)) h_81 (by decide)) h_99 (by decide)), (show (gI z_t 12).toInt ≤ (gI z24 12).toInt ∧ (gI z24 12).toInt ≤ (gI z_t 1).toInt by first | omega | assumption | trivial), (kp_tr (kp_tr (kp_fr (kp_I (kp_fr (kp_tr kp_rf h_5) h_19 (by decide))) h_35 (by decide)) h_83) h_100k), (show (1 : Int32).toInt = 0 → (gI z24 13).toInt ≠ 0 from fun q => absurd q (by decide)), (show (1 : Int32).toInt = 1 → (gT z24 4 t).toInt + o ≤ (gI z24 12).toInt ∧ h + 1 ≤ (gI z24 16).toInt ∧ (gI z24 16).toInt ≤ 60 from fun _ => by first | omega | assumption), (fun _ => h_100r)⟩
              · skip
                have c_78i : r6.toInt ≠ 61 := bI_neq rfl (show (61 : Int32).toInt = 61 by decide) c_78
                refine ok_ite (fun c_107 => ?_) (fun c_107 => ?_)
                · skip
                  refine ok_bd2 (t_fX9_sum (t := t) (b := b) (h := h + 1) (o := o + 1) (by first | omega | assumption | decide | (show 0 ≤ (gI z15 12).toInt ∧ (gI z15 12).toInt ≤ (gI z15 1).toInt ∧ (gI z15 1).toInt ≤ 400; first | omega | assumption)) (by first | omega | assumption | decide | (show (gI z15 15).toInt = t ∧ t < 6; first | omega | assumption)) (by first | omega | assumption | decide | (show 0 ≤ (gT z15 4 t).toInt ∧ (gT z15 4 t).toInt + (o + 1) ≤ (gI z15 12).toInt; first | omega | assumption)) (by first | omega | assumption | decide | (show 0 ≤ (gI z15 16).toInt ∧ (gI z15 16).toInt ≤ 60 ∧ (h + 1) ≤ (gI z15 16).toInt; first | omega | assumption)) (rn_fr h_35 (by decide) (rn_I (rn_fr h_19 (by decide) u_17)))) (fun r20 z21 q_108 => ?_)
                  have h_109 : r20 = 0 ∨ r20 = 1 := q_108.1
                  have h_109i := bool_i h_109
                  have h_110 : FrL [3, 4, 12, 13, 14, 16] z15 z21 := q_108.2.1
                  have h_111 : (gI z15 12).toInt ≤ (gI z21 12).toInt ∧ (gI z21 12).toInt ≤ (gI z15 1).toInt := q_108.2.2.1
                  have h_112 : KP t z15 z21 := q_108.2.2.2.1
                  have h_112a : (gT z15 4 t).toInt ≤ (gT z21 4 t).toInt := h_112.1
                  have h_113 : r20.toInt = 0 → (gI z21 13).toInt ≠ 0 := q_108.2.2.2.2.1
                  have h_114 : r20.toInt = 1 → (gT z21 4 t).toInt + (o + 1) ≤ (gI z21 12).toInt ∧ (h + 1) + 1 ≤ (gI z21 16).toInt ∧ (gI z21 16).toInt ≤ 60 := q_108.2.2.2.2.2.1
                  have h_115 : r20.toInt = 1 → RN z21 t b ((h + 1) + 1) := q_108.2.2.2.2.2.2
                  clear q_108
                  have s_116 : (gI z21 1).toInt = (gI z15 1).toInt := congrArg Int32.toInt (h_110 1 (by decide)).1
                  have s_117 : (gI z21 15).toInt = (gI z15 15).toInt := congrArg Int32.toInt (h_110 15 (by decide)).1
                  refine ok_ite (fun c_118 => ?_) (fun c_118 => ?_)
                  · skip
                    have r_119 := n_rng r20
                    have c_118i : r20.toInt = 0 := bI_eq rfl (show (0 : Int32).toInt = 0 by decide) c_118
                    have u_120 : (gI z21 13).toInt ≠ 0 := h_113 (by omega)
                    try have e_121 : (0 : Int32).toInt = 0 := (show (0 : Int32).toInt = 0 by decide)
                    exact ok_some ⟨Or.inl rfl, (fr_tr (fr_tr (fr_I (fr_tr (fr_tr fr_rf h_3 (by decide)) h_19 (by decide)) (by decide)) h_35 (by decide)) h_110 (by decide)), (show (gI z_t 12).toInt ≤ (gI z21 12).toInt ∧ (gI z21 12).toInt ≤ (gI z_t 1).toInt by first | omega | assumption | trivial), (kp_tr (kp_fr (kp_I (kp_fr (kp_tr kp_rf h_5) h_19 (by decide))) h_35 (by decide)) h_112), (show (0 : Int32).toInt = 0 → (gI z21 13).toInt ≠ 0 from fun _ => by first | omega | assumption), (show (0 : Int32).toInt = 1 → (gT z21 4 t).toInt + o ≤ (gI z21 12).toInt ∧ h + 1 ≤ (gI z21 16).toInt ∧ (gI z21 16).toInt ≤ 60 from fun q => absurd q (by decide)), (show (0 : Int32).toInt = 1 → RN z21 t b (h + 1) from fun q => absurd q (by decide))⟩
                  · skip
                    have r_122 := n_rng r20
                    have c_118i : r20.toInt ≠ 0 := bI_neq rfl (show (0 : Int32).toInt = 0 by decide) c_118
                    have u_123 : (gT z21 4 t).toInt + (o + 1) ≤ (gI z21 12).toInt ∧ (h + 1) + 1 ≤ (gI z21 16).toInt ∧ (gI z21 16).toInt ≤ 60 := h_114 (by omega)
                    have u_124 : RN z21 t b ((h + 1) + 1) := h_115 (by omega)
                    have e_126 : (6 + 4).toInt = (6 + 4) := (i32_add (show (6 : Int32).toInt = 6 by decide) (show (4 : Int32).toInt = 4 by decide) (by omega) (by omega))
                    have e_127 : (0 : Int32).toInt = 0 := (show (0 : Int32).toInt = 0 by decide)
                    refine ok_bd (t_fX9_puts (t := t) (by first | omega | assumption | decide | (show (gI z21 15).toInt = t ∧ t < 6; first | omega | assumption)) (by first | omega | assumption | decide | (show 0 ≤ (gT z21 4 t).toInt ∧ (gT z21 4 t).toInt < 400; first | omega | assumption))) (fun z24 q_125 => ?_)
                    have h_128 : FrL [3, 4] z21 z24 := q_125.1
                    have h_129 : PUT t z21 z24 (((6 : Int32) + 4) + (16 * (0 : Int32))) := q_125.2
                    clear q_125
                    have s_130 : (gI z24 1).toInt = (gI z21 1).toInt := congrArg Int32.toInt (h_128 1 (by decide)).1
                    have s_131 : (gI z24 12).toInt = (gI z21 12).toInt := congrArg Int32.toInt (h_128 12 (by decide)).1
                    have s_132 : (gI z24 13).toInt = (gI z21 13).toInt := congrArg Int32.toInt (h_128 13 (by decide)).1
                    have s_133 : (gI z24 15).toInt = (gI z21 15).toInt := congrArg Int32.toInt (h_128 15 (by decide)).1
                    have s_134 : (gI z24 16).toInt = (gI z21 16).toInt := congrArg Int32.toInt (h_128 16 (by decide)).1
                    have h_129a := h_129.1
                    have h_129k := h_129.2.1
                    have h_129r : RN z24 t b ((h + 1)) := rn_put (by omega) h_129 u_124 (stp_bin (by omega) (by decide) (by decide) (by decide))
                    try have e_135 : (1 : Int32).toInt = 1 := (show (1 : Int32).toInt = 1 by decide)
                    exact ok_some ⟨Or.inr rfl, (fr_tr (fr_tr (fr_tr (fr_I (fr_tr (fr_tr fr_rf h_3 (by decide)) h_19 (by decide)) (by decide)) h_35 (by decide)) h_110 (by decide)) h_128 (by decide)), (show (gI z_t 12).toInt ≤ (gI z24 12).toInt ∧ (gI z24 12).toInt ≤ (gI z_t 1).toInt by first | omega | assumption | trivial), (kp_tr (kp_tr (kp_fr (kp_I (kp_fr (kp_tr kp_rf h_5) h_19 (by decide))) h_35 (by decide)) h_112) h_129k), (show (1 : Int32).toInt = 0 → (gI z24 13).toInt ≠ 0 from fun q => absurd q (by decide)), (show (1 : Int32).toInt = 1 → (gT z24 4 t).toInt + o ≤ (gI z24 12).toInt ∧ h + 1 ≤ (gI z24 16).toInt ∧ (gI z24 16).toInt ≤ 60 from fun _ => by first | omega | assumption), (fun _ => h_129r)⟩
                · skip
                  exact absurd (by decide) c_107
        · skip
          exact absurd (by decide) c_32
      · skip
        have c_31i : r6.toInt ≠ 61 := bI_neq rfl (show (61 : Int32).toInt = 61 by decide) c_31
        refine ok_ite (fun c_136 => ?_) (fun c_136 => ?_)
        · skip
          have r_137 := n_rng (gI z7 1)
          have r_138 := n_rng (gI z7 12)
          try have c_136i : (gI z7 1).toInt ≤ ((gI z7 12).toInt + 1) := bI_le rfl (i32_add rfl (show (1 : Int32).toInt = 1 by decide) (by omega) (by omega)) c_136
          refine ok_jn ?_
          refine ok_ite (fun c_139 => ?_) (fun c_139 => ?_)
          · skip
            refine ok_bd2 (t_fX9_makes (by first | omega | assumption | decide | (show 0 ≤ (gI z7 16).toInt ∧ (gI z7 16).toInt ≤ 60; first | omega | assumption)) (by first | omega | assumption | decide | (show 0 ≤ (gI z7 12).toInt ∧ (gI z7 12).toInt ≤ 400; first | omega | assumption))) (fun r14 z15 q_140 => ?_)
            have h_141 : r14 = 0 ∨ r14 = 1 := q_140.1
            have h_141i := bool_i h_141
            have h_142 : FrL [13, 16] (sI z7 12 ((gI z7 12) + 1)) z15 := q_140.2.1
            have h_143 : r14.toInt = 0 → (gI z15 13).toInt ≠ 0 := q_140.2.2.1
            have h_144 : r14.toInt = 1 → (gI z15 16).toInt = (gI z7 16).toInt + 1 ∧ (gI z15 16).toInt ≤ 60 := q_140.2.2.2
            clear q_140
            have s_145 : (gI z15 1).toInt = (gI z7 1).toInt := congrArg Int32.toInt (h_142 1 (by decide)).1
            have s_146 : (gI z15 12).toInt = ((gI z7 12) + 1).toInt := congrArg Int32.toInt (h_142 12 (by decide)).1
            have s_147 : (gI z15 15).toInt = (gI z7 15).toInt := congrArg Int32.toInt (h_142 15 (by decide)).1
            have s_148 : (gT z15 4 t).toInt = (gT z7 4 t).toInt := congrArg (fun f : Nat → Int32 => (f t).toInt) (h_142 4 (by decide)).2.1
            refine ok_ite (fun c_149 => ?_) (fun c_149 => ?_)
            · skip
              have r_150 := n_rng r14
              have c_149i : r14.toInt = 0 := bI_eq rfl (show (0 : Int32).toInt = 0 by decide) c_149
              have u_151 : (gI z15 13).toInt ≠ 0 := h_143 (by omega)
              try have e_152 : (0 : Int32).toInt = 0 := (show (0 : Int32).toInt = 0 by decide)
              exact ok_some ⟨Or.inl rfl, (fr_tr (fr_I (fr_tr (fr_tr fr_rf h_3 (by decide)) h_19 (by decide)) (by decide)) h_142 (by decide)), (show (gI z_t 12).toInt ≤ (gI z15 12).toInt ∧ (gI z15 12).toInt ≤ (gI z_t 1).toInt by first | omega | assumption | trivial), (kp_fr (kp_I (kp_fr (kp_tr kp_rf h_5) h_19 (by decide))) h_142 (by decide)), (show (0 : Int32).toInt = 0 → (gI z15 13).toInt ≠ 0 from fun _ => by first | omega | assumption), (show (0 : Int32).toInt = 1 → (gT z15 4 t).toInt + o ≤ (gI z15 12).toInt ∧ h + 1 ≤ (gI z15 16).toInt ∧ (gI z15 16).toInt ≤ 60 from fun q => absurd q (by decide)), (show (0 : Int32).toInt = 1 → RN z15 t b (h + 1) from fun q => absurd q (by decide))⟩
            · skip
              have r_153 := n_rng r14
              have c_149i : r14.toInt ≠ 0 := bI_neq rfl (show (0 : Int32).toInt = 0 by decide) c_149
              have u_154 : (gI z15 16).toInt = (gI z7 16).toInt + 1 ∧ (gI z15 16).toInt ≤ 60 := h_144 (by omega)
              refine ok_jn ?_
              refine ok_ite (fun c_155 => ?_) (fun c_155 => ?_)
              · skip
                have c_155i : r6.toInt = 60 := bI_eq rfl (show (60 : Int32).toInt = 60 by decide) c_155
                refine ok_ite (fun c_156 => ?_) (fun c_156 => ?_)
                · skip
                  refine ok_bd2 (t_fX9_sum (t := t) (b := b) (h := h + 1) (o := o + 1) (by first | omega | assumption | decide | (show 0 ≤ (gI z15 12).toInt ∧ (gI z15 12).toInt ≤ (gI z15 1).toInt ∧ (gI z15 1).toInt ≤ 400; first | omega | assumption)) (by first | omega | assumption | decide | (show (gI z15 15).toInt = t ∧ t < 6; first | omega | assumption)) (by first | omega | assumption | decide | (show 0 ≤ (gT z15 4 t).toInt ∧ (gT z15 4 t).toInt + (o + 1) ≤ (gI z15 12).toInt; first | omega | assumption)) (by first | omega | assumption | decide | (show 0 ≤ (gI z15 16).toInt ∧ (gI z15 16).toInt ≤ 60 ∧ (h + 1) ≤ (gI z15 16).toInt; first | omega | assumption)) (rn_fr h_142 (by decide) (rn_I (rn_fr h_19 (by decide) u_17)))) (fun r20 z21 q_157 => ?_)
                  have h_158 : r20 = 0 ∨ r20 = 1 := q_157.1
                  have h_158i := bool_i h_158
                  have h_159 : FrL [3, 4, 12, 13, 14, 16] z15 z21 := q_157.2.1
                  have h_160 : (gI z15 12).toInt ≤ (gI z21 12).toInt ∧ (gI z21 12).toInt ≤ (gI z15 1).toInt := q_157.2.2.1
                  have h_161 : KP t z15 z21 := q_157.2.2.2.1
                  have h_161a : (gT z15 4 t).toInt ≤ (gT z21 4 t).toInt := h_161.1
                  have h_162 : r20.toInt = 0 → (gI z21 13).toInt ≠ 0 := q_157.2.2.2.2.1
                  have h_163 : r20.toInt = 1 → (gT z21 4 t).toInt + (o + 1) ≤ (gI z21 12).toInt ∧ (h + 1) + 1 ≤ (gI z21 16).toInt ∧ (gI z21 16).toInt ≤ 60 := q_157.2.2.2.2.2.1
                  have h_164 : r20.toInt = 1 → RN z21 t b ((h + 1) + 1) := q_157.2.2.2.2.2.2
                  clear q_157
                  have s_165 : (gI z21 1).toInt = (gI z15 1).toInt := congrArg Int32.toInt (h_159 1 (by decide)).1
                  have s_166 : (gI z21 15).toInt = (gI z15 15).toInt := congrArg Int32.toInt (h_159 15 (by decide)).1
                  refine ok_ite (fun c_167 => ?_) (fun c_167 => ?_)
                  · skip
                    have r_168 := n_rng r20
                    have c_167i : r20.toInt = 0 := bI_eq rfl (show (0 : Int32).toInt = 0 by decide) c_167
                    have u_169 : (gI z21 13).toInt ≠ 0 := h_162 (by omega)
                    try have e_170 : (0 : Int32).toInt = 0 := (show (0 : Int32).toInt = 0 by decide)
                    exact ok_some ⟨Or.inl rfl, (fr_tr (fr_tr (fr_I (fr_tr (fr_tr fr_rf h_3 (by decide)) h_19 (by decide)) (by decide)) h_142 (by decide)) h_159 (by decide)), (show (gI z_t 12).toInt ≤ (gI z21 12).toInt ∧ (gI z21 12).toInt ≤ (gI z_t 1).toInt by first | omega | assumption | trivial), (kp_tr (kp_fr (kp_I (kp_fr (kp_tr kp_rf h_5) h_19 (by decide))) h_142 (by decide)) h_161), (show (0 : Int32).toInt = 0 → (gI z21 13).toInt ≠ 0 from fun _ => by first | omega | assumption), (show (0 : Int32).toInt = 1 → (gT z21 4 t).toInt + o ≤ (gI z21 12).toInt ∧ h + 1 ≤ (gI z21 16).toInt ∧ (gI z21 16).toInt ≤ 60 from fun q => absurd q (by decide)), (show (0 : Int32).toInt = 1 → RN z21 t b (h + 1) from fun q => absurd q (by decide))⟩
                  · skip
                    have r_171 := n_rng r20
                    have c_167i : r20.toInt ≠ 0 := bI_neq rfl (show (0 : Int32).toInt = 0 by decide) c_167
                    have u_172 : (gT z21 4 t).toInt + (o + 1) ≤ (gI z21 12).toInt ∧ (h + 1) + 1 ≤ (gI z21 16).toInt ∧ (gI z21 16).toInt ≤ 60 := h_163 (by omega)
                    have u_173 : RN z21 t b ((h + 1) + 1) := h_164 (by omega)
                    have e_175 : (6 + 0).toInt = (6 + 0) := (i32_add (show (6 : Int32).toInt = 6 by decide) (show (0 : Int32).toInt = 0 by decide) (by omega) (by omega))
                    have e_176 : (0 : Int32).toInt = 0 := (show (0 : Int32).toInt = 0 by decide)
                    refine ok_bd (t_fX9_puts (t := t) (by first | omega | assumption | decide | (show (gI z21 15).toInt = t ∧ t < 6; first | omega | assumption)) (by first | omega | assumption | decide | (show 0 ≤ (gT z21 4 t).toInt ∧ (gT z21 4 t).toInt < 400; first | omega | assumption))) (fun z24 q_174 => ?_)
                    have h_177 : FrL [3, 4] z21 z24 := q_174.1
                    have h_178 : PUT t z21 z24 (((6 : Int32) + 0) + (16 * (0 : Int32))) := q_174.2
                    clear q_174
                    have s_179 : (gI z24 1).toInt = (gI z21 1).toInt := congrArg Int32.toInt (h_177 1 (by decide)).1
                    have s_180 : (gI z24 12).toInt = (gI z21 12).toInt := congrArg Int32.toInt (h_177 12 (by decide)).1
                    have s_181 : (gI z24 13).toInt = (gI z21 13).toInt := congrArg Int32.toInt (h_177 13 (by decide)).1
                    have s_182 : (gI z24 15).toInt = (gI z21 15).toInt := congrArg Int32.toInt (h_177 15 (by decide)).1
                    have s_183 : (gI z24 16).toInt = (gI z21 16).toInt := congrArg Int32.toInt (h_177 16 (by decide)).1
                    have h_178a := h_178.1
                    have h_178k := h_178.2.1
                    have h_178r : RN z24 t b ((h + 1)) := rn_put (by omega) h_178 u_173 (stp_bin (by omega) (by decide) (by decide) (by decide))
                    try have e_184 : (1 : Int32).toInt = 1 := (show (1 : Int32).toInt = 1 by decide)
                    exact ok_some ⟨Or.inr rfl, (fr_tr (fr_tr (fr_tr (fr_I (fr_tr (fr_tr fr_rf h_3 (by decide)) h_19 (by decide)) (by decide)) h_142 (by decide)) h_159 (by decide)) h_177 (by decide)), (show (gI z_t 12).toInt ≤ (gI z24 12).toInt ∧ (gI z24 12).toInt ≤ (gI z_t 1).toInt by first | omega | assumption | trivial), (kp_tr (kp_tr (kp_fr (kp_I (kp_fr (kp_tr kp_rf h_5) h_19 (by decide))) h_142 (by decide)) h_161) h_178k), (show (1 : Int32).toInt = 0 → (gI z24 13).toInt ≠ 0 from fun q => absurd q (by decide)), (show (1 : Int32).toInt = 1 → (gT z24 4 t).toInt + o ≤ (gI z24 12).toInt ∧ h + 1 ≤ (gI z24 16).toInt ∧ (gI z24 16).toInt ≤ 60 from fun _ => by first | omega | assumption), (fun _ => h_178r)⟩
                · skip
                  exact absurd (by decide) c_156
              · skip
                have c_155i : r6.toInt ≠ 60 := bI_neq rfl (show (60 : Int32).toInt = 60 by decide) c_155
                refine ok_ite (fun c_185 => ?_) (fun c_185 => ?_)
                · skip
                  have c_185i : r6.toInt = 61 := bI_eq rfl (show (61 : Int32).toInt = 61 by decide) c_185
                  refine ok_bd2 (t_fX9_sum (t := t) (b := b) (h := h + 1) (o := o + 1) (by first | omega | assumption | decide | (show 0 ≤ (gI z15 12).toInt ∧ (gI z15 12).toInt ≤ (gI z15 1).toInt ∧ (gI z15 1).toInt ≤ 400; first | omega | assumption)) (by first | omega | assumption | decide | (show (gI z15 15).toInt = t ∧ t < 6; first | omega | assumption)) (by first | omega | assumption | decide | (show 0 ≤ (gT z15 4 t).toInt ∧ (gT z15 4 t).toInt + (o + 1) ≤ (gI z15 12).toInt; first | omega | assumption)) (by first | omega | assumption | decide | (show 0 ≤ (gI z15 16).toInt ∧ (gI z15 16).toInt ≤ 60 ∧ (h + 1) ≤ (gI z15 16).toInt; first | omega | assumption)) (rn_fr h_142 (by decide) (rn_I (rn_fr h_19 (by decide) u_17)))) (fun r20 z21 q_186 => ?_)
                  have h_187 : r20 = 0 ∨ r20 = 1 := q_186.1
                  have h_187i := bool_i h_187
                  have h_188 : FrL [3, 4, 12, 13, 14, 16] z15 z21 := q_186.2.1
                  have h_189 : (gI z15 12).toInt ≤ (gI z21 12).toInt ∧ (gI z21 12).toInt ≤ (gI z15 1).toInt := q_186.2.2.1
                  have h_190 : KP t z15 z21 := q_186.2.2.2.1
                  have h_190a : (gT z15 4 t).toInt ≤ (gT z21 4 t).toInt := h_190.1
                  have h_191 : r20.toInt = 0 → (gI z21 13).toInt ≠ 0 := q_186.2.2.2.2.1
                  have h_192 : r20.toInt = 1 → (gT z21 4 t).toInt + (o + 1) ≤ (gI z21 12).toInt ∧ (h + 1) + 1 ≤ (gI z21 16).toInt ∧ (gI z21 16).toInt ≤ 60 := q_186.2.2.2.2.2.1
                  have h_193 : r20.toInt = 1 → RN z21 t b ((h + 1) + 1) := q_186.2.2.2.2.2.2
                  clear q_186
                  have s_194 : (gI z21 1).toInt = (gI z15 1).toInt := congrArg Int32.toInt (h_188 1 (by decide)).1
                  have s_195 : (gI z21 15).toInt = (gI z15 15).toInt := congrArg Int32.toInt (h_188 15 (by decide)).1
                  refine ok_ite (fun c_196 => ?_) (fun c_196 => ?_)
                  · skip
                    have r_197 := n_rng r20
                    have c_196i : r20.toInt = 0 := bI_eq rfl (show (0 : Int32).toInt = 0 by decide) c_196
                    have u_198 : (gI z21 13).toInt ≠ 0 := h_191 (by omega)
                    try have e_199 : (0 : Int32).toInt = 0 := (show (0 : Int32).toInt = 0 by decide)
                    exact ok_some ⟨Or.inl rfl, (fr_tr (fr_tr (fr_I (fr_tr (fr_tr fr_rf h_3 (by decide)) h_19 (by decide)) (by decide)) h_142 (by decide)) h_188 (by decide)), (show (gI z_t 12).toInt ≤ (gI z21 12).toInt ∧ (gI z21 12).toInt ≤ (gI z_t 1).toInt by first | omega | assumption | trivial), (kp_tr (kp_fr (kp_I (kp_fr (kp_tr kp_rf h_5) h_19 (by decide))) h_142 (by decide)) h_190), (show (0 : Int32).toInt = 0 → (gI z21 13).toInt ≠ 0 from fun _ => by first | omega | assumption), (show (0 : Int32).toInt = 1 → (gT z21 4 t).toInt + o ≤ (gI z21 12).toInt ∧ h + 1 ≤ (gI z21 16).toInt ∧ (gI z21 16).toInt ≤ 60 from fun q => absurd q (by decide)), (show (0 : Int32).toInt = 1 → RN z21 t b (h + 1) from fun q => absurd q (by decide))⟩
                  · skip
                    have r_200 := n_rng r20
                    have c_196i : r20.toInt ≠ 0 := bI_neq rfl (show (0 : Int32).toInt = 0 by decide) c_196
                    have u_201 : (gT z21 4 t).toInt + (o + 1) ≤ (gI z21 12).toInt ∧ (h + 1) + 1 ≤ (gI z21 16).toInt ∧ (gI z21 16).toInt ≤ 60 := h_192 (by omega)
                    have u_202 : RN z21 t b ((h + 1) + 1) := h_193 (by omega)
                    have e_204 : (6 + 2).toInt = (6 + 2) := (i32_add (show (6 : Int32).toInt = 6 by decide) (show (2 : Int32).toInt = 2 by decide) (by omega) (by omega))
                    have e_205 : (0 : Int32).toInt = 0 := (show (0 : Int32).toInt = 0 by decide)
                    refine ok_bd (t_fX9_puts (t := t) (by first | omega | assumption | decide | (show (gI z21 15).toInt = t ∧ t < 6; first | omega | assumption)) (by first | omega | assumption | decide | (show 0 ≤ (gT z21 4 t).toInt ∧ (gT z21 4 t).toInt < 400; first | omega | assumption))) (fun z24 q_203 => ?_)
                    have h_206 : FrL [3, 4] z21 z24 := q_203.1
                    have h_207 : PUT t z21 z24 (((6 : Int32) + 2) + (16 * (0 : Int32))) := q_203.2
                    clear q_203
                    have s_208 : (gI z24 1).toInt = (gI z21 1).toInt := congrArg Int32.toInt (h_206 1 (by decide)).1
                    have s_209 : (gI z24 12).toInt = (gI z21 12).toInt := congrArg Int32.toInt (h_206 12 (by decide)).1
                    have s_210 : (gI z24 13).toInt = (gI z21 13).toInt := congrArg Int32.toInt (h_206 13 (by decide)).1
                    have s_211 : (gI z24 15).toInt = (gI z21 15).toInt := congrArg Int32.toInt (h_206 15 (by decide)).1
                    have s_212 : (gI z24 16).toInt = (gI z21 16).toInt := congrArg Int32.toInt (h_206 16 (by decide)).1
                    have h_207a := h_207.1
                    have h_207k := h_207.2.1
                    have h_207r : RN z24 t b ((h + 1)) := rn_put (by omega) h_207 u_202 (stp_bin (by omega) (by decide) (by decide) (by decide))
                    try have e_213 : (1 : Int32).toInt = 1 := (show (1 : Int32).toInt = 1 by decide)
                    exact ok_some ⟨Or.inr rfl, (fr_tr (fr_tr (fr_tr (fr_I (fr_tr (fr_tr fr_rf h_3 (by decide)) h_19 (by decide)) (by decide)) h_142 (by decide)) h_188 (by decide)) h_206 (by decide)), (show (gI z_t 12).toInt ≤ (gI z24 12).toInt ∧ (gI z24 12).toInt ≤ (gI z_t 1).toInt by first | omega | assumption | trivial), (kp_tr (kp_tr (kp_fr (kp_I (kp_fr (kp_tr kp_rf h_5) h_19 (by decide))) h_142 (by decide)) h_190) h_207k), (show (1 : Int32).toInt = 0 → (gI z24 13).toInt ≠ 0 from fun q => absurd q (by decide)), (show (1 : Int32).toInt = 1 → (gT z24 4 t).toInt + o ≤ (gI z24 12).toInt ∧ h + 1 ≤ (gI z24 16).toInt ∧ (gI z24 16).toInt ≤ 60 from fun _ => by first | omega | assumption), (fun _ => h_207r)⟩
                · skip
                  have c_185i : r6.toInt ≠ 61 := bI_neq rfl (show (61 : Int32).toInt = 61 by decide) c_185
                  refine ok_ite (fun c_214 => ?_) (fun c_214 => ?_)
                  · skip
                    refine ok_bd2 (t_fX9_sum (t := t) (b := b) (h := h + 1) (o := o + 1) (by first | omega | assumption | decide | (show 0 ≤ (gI z15 12).toInt ∧ (gI z15 12).toInt ≤ (gI z15 1).toInt ∧ (gI z15 1).toInt ≤ 400; first | omega | assumption)) (by first | omega | assumption | decide | (show (gI z15 15).toInt = t ∧ t < 6; first | omega | assumption)) (by first | omega | assumption | decide | (show 0 ≤ (gT z15 4 t).toInt ∧ (gT z15 4 t).toInt + (o + 1) ≤ (gI z15 12).toInt; first | omega | assumption)) (by first | omega | assumption | decide | (show 0 ≤ (gI z15 16).toInt ∧ (gI z15 16).toInt ≤ 60 ∧ (h + 1) ≤ (gI z15 16).toInt; first | omega | assumption)) (rn_fr h_142 (by decide) (rn_I (rn_fr h_19 (by decide) u_17)))) (fun r20 z21 q_215 => ?_)
                    have h_216 : r20 = 0 ∨ r20 = 1 := q_215.1
                    have h_216i := bool_i h_216
                    have h_217 : FrL [3, 4, 12, 13, 14, 16] z15 z21 := q_215.2.1
                    have h_218 : (gI z15 12).toInt ≤ (gI z21 12).toInt ∧ (gI z21 12).toInt ≤ (gI z15 1).toInt := q_215.2.2.1
                    have h_219 : KP t z15 z21 := q_215.2.2.2.1
                    have h_219a : (gT z15 4 t).toInt ≤ (gT z21 4 t).toInt := h_219.1
                    have h_220 : r20.toInt = 0 → (gI z21 13).toInt ≠ 0 := q_215.2.2.2.2.1
                    have h_221 : r20.toInt = 1 → (gT z21 4 t).toInt + (o + 1) ≤ (gI z21 12).toInt ∧ (h + 1) + 1 ≤ (gI z21 16).toInt ∧ (gI z21 16).toInt ≤ 60 := q_215.2.2.2.2.2.1
                    have h_222 : r20.toInt = 1 → RN z21 t b ((h + 1) + 1) := q_215.2.2.2.2.2.2
                    clear q_215
                    have s_223 : (gI z21 1).toInt = (gI z15 1).toInt := congrArg Int32.toInt (h_217 1 (by decide)).1
                    have s_224 : (gI z21 15).toInt = (gI z15 15).toInt := congrArg Int32.toInt (h_217 15 (by decide)).1
                    refine ok_ite (fun c_225 => ?_) (fun c_225 => ?_)
                    · skip
                      have r_226 := n_rng r20
                      have c_225i : r20.toInt = 0 := bI_eq rfl (show (0 : Int32).toInt = 0 by decide) c_225
                      have u_227 : (gI z21 13).toInt ≠ 0 := h_220 (by omega)
                      try have e_228 : (0 : Int32).toInt = 0 := (show (0 : Int32).toInt = 0 by decide)
                      exact ok_some ⟨Or.inl rfl, (fr_tr (fr_tr (fr_I (fr_tr (fr_tr fr_rf h_3 (by decide)) h_19 (by decide)) (by decide)) h_142 (by decide)) h_217 (by decide)), (show (gI z_t 12).toInt ≤ (gI z21 12).toInt ∧ (gI z21 12).toInt ≤ (gI z_t 1).toInt by first | omega | assumption | trivial), (kp_tr (kp_fr (kp_I (kp_fr (kp_tr kp_rf h_5) h_19 (by decide))) h_142 (by decide)) h_219), (show (0 : Int32).toInt = 0 → (gI z21 13).toInt ≠ 0 from fun _ => by first | omega | assumption), (show (0 : Int32).toInt = 1 → (gT z21 4 t).toInt + o ≤ (gI z21 12).toInt ∧ h + 1 ≤ (gI z21 16).toInt ∧ (gI z21 16).toInt ≤ 60 from fun q => absurd q (by decide)), (show (0 : Int32).toInt = 1 → RN z21 t b (h + 1) from fun q => absurd q (by decide))⟩
                    · skip
                      have r_229 := n_rng r20
                      have c_225i : r20.toInt ≠ 0 := bI_neq rfl (show (0 : Int32).toInt = 0 by decide) c_225
                      have u_230 : (gT z21 4 t).toInt + (o + 1) ≤ (gI z21 12).toInt ∧ (h + 1) + 1 ≤ (gI z21 16).toInt ∧ (gI z21 16).toInt ≤ 60 := h_221 (by omega)
                      have u_231 : RN z21 t b ((h + 1) + 1) := h_222 (by omega)
                      have e_233 : (6 + 4).toInt = (6 + 4) := (i32_add (show (6 : Int32).toInt = 6 by decide) (show (4 : Int32).toInt = 4 by decide) (by omega) (by omega))
                      have e_234 : (0 : Int32).toInt = 0 := (show (0 : Int32).toInt = 0 by decide)
                      refine ok_bd (t_fX9_puts (t := t) (by first | omega | assumption | decide | (show (gI z21 15).toInt = t ∧ t < 6; first | omega | assumption)) (by first | omega | assumption | decide | (show 0 ≤ (gT z21 4 t).toInt ∧ (gT z21 4 t).toInt < 400; first | omega | assumption))) (fun z24 q_232 => ?_)
                      have h_235 : FrL [3, 4] z21 z24 := q_232.1
                      have h_236 : PUT t z21 z24 (((6 : Int32) + 4) + (16 * (0 : Int32))) := q_232.2
                      clear q_232
                      have s_237 : (gI z24 1).toInt = (gI z21 1).toInt := congrArg Int32.toInt (h_235 1 (by decide)).1
                      have s_238 : (gI z24 12).toInt = (gI z21 12).toInt := congrArg Int32.toInt (h_235 12 (by decide)).1
                      have s_239 : (gI z24 13).toInt = (gI z21 13).toInt := congrArg Int32.toInt (h_235 13 (by decide)).1
                      have s_240 : (gI z24 15).toInt = (gI z21 15).toInt := congrArg Int32.toInt (h_235 15 (by decide)).1
                      have s_241 : (gI z24 16).toInt = (gI z21 16).toInt := congrArg Int32.toInt (h_235 16 (by decide)).1
                      have h_236a := h_236.1
                      have h_236k := h_236.2.1
                      have h_236r : RN z24 t b ((h + 1)) := rn_put (by omega) h_236 u_231 (stp_bin (by omega) (by decide) (by decide) (by decide))
                      try have e_242 : (1 : Int32).toInt = 1 := (show (1 : Int32).toInt = 1 by decide)
                      exact ok_some ⟨Or.inr rfl, (fr_tr (fr_tr (fr_tr (fr_I (fr_tr (fr_tr fr_rf h_3 (by decide)) h_19 (by decide)) (by decide)) h_142 (by decide)) h_217 (by decide)) h_235 (by decide)), (show (gI z_t 12).toInt ≤ (gI z24 12).toInt ∧ (gI z24 12).toInt ≤ (gI z_t 1).toInt by first | omega | assumption | trivial), (kp_tr (kp_tr (kp_fr (kp_I (kp_fr (kp_tr kp_rf h_5) h_19 (by decide))) h_142 (by decide)) h_219) h_236k), (show (1 : Int32).toInt = 0 → (gI z24 13).toInt ≠ 0 from fun q => absurd q (by decide)), (show (1 : Int32).toInt = 1 → (gT z24 4 t).toInt + o ≤ (gI z24 12).toInt ∧ h + 1 ≤ (gI z24 16).toInt ∧ (gI z24 16).toInt ≤ 60 from fun _ => by first | omega | assumption), (fun _ => h_236r)⟩
                  · skip
                    exact absurd (by decide) c_214
          · skip
            exact absurd (by decide) c_139
        · skip
          have r_243 := n_rng (gI z7 1)
          have r_244 := n_rng (gI z7 12)
          try have c_136i : (gI z7 1).toInt > ((gI z7 12).toInt + 1) := bI_nle rfl (i32_add rfl (show (1 : Int32).toInt = 1 by decide) (by omega) (by omega)) c_136
          have e_245 : ((gI z7 12) + 1).toInt = ((gI z7 12).toInt + 1) := (i32_add rfl (show (1 : Int32).toInt = 1 by decide) (by omega) (by omega))
          refine ok_gd (inb_of (by omega) (by omega)) ?_
          have i_246 : (((gI z7 12) + 1).toNatClampNeg : Int) = ((gI z7 12) + 1).toInt := clampI (by omega)
          refine ok_ite (fun c_247 => ?_) (fun c_247 => ?_)
          · skip
            have r_248 := n_rng (gT z7 0 ((gI z7 12) + 1).toNatClampNeg)
            have c_247i : (gT z7 0 ((gI z7 12) + 1).toNatClampNeg).toInt = 61 := bI_eq rfl (show (61 : Int32).toInt = 61 by decide) c_247
            refine ok_jn ?_
            refine ok_ite (fun c_249 => ?_) (fun c_249 => ?_)
            · skip
              exact absurd c_249 (by decide)
            · skip
              refine ok_bd2 (t_fX9_makes (by first | omega | assumption | decide | (show 0 ≤ (gI z7 16).toInt ∧ (gI z7 16).toInt ≤ 60; first | omega | assumption)) (by first | omega | assumption | decide | (show 0 ≤ (gI z7 12).toInt ∧ (gI z7 12).toInt ≤ 400; first | omega | assumption))) (fun r14 z15 q_250 => ?_)
              have h_251 : r14 = 0 ∨ r14 = 1 := q_250.1
              have h_251i := bool_i h_251
              have h_252 : FrL [13, 16] (sI (sI z7 12 ((gI z7 12) + 1)) 12 (((gI z7 12) + 1) + 1)) z15 := q_250.2.1
              have h_253 : r14.toInt = 0 → (gI z15 13).toInt ≠ 0 := q_250.2.2.1
              have h_254 : r14.toInt = 1 → (gI z15 16).toInt = (gI z7 16).toInt + 1 ∧ (gI z15 16).toInt ≤ 60 := q_250.2.2.2
              clear q_250
              have s_255 : (gI z15 1).toInt = (gI z7 1).toInt := congrArg Int32.toInt (h_252 1 (by decide)).1
              have s_256 : (gI z15 12).toInt = (((gI z7 12) + 1) + 1).toInt := congrArg Int32.toInt (h_252 12 (by decide)).1
              have s_257 : (gI z15 15).toInt = (gI z7 15).toInt := congrArg Int32.toInt (h_252 15 (by decide)).1
              have s_258 : (gT z15 4 t).toInt = (gT z7 4 t).toInt := congrArg (fun f : Nat → Int32 => (f t).toInt) (h_252 4 (by decide)).2.1
              refine ok_ite (fun c_259 => ?_) (fun c_259 => ?_)
              · skip
                have r_260 := n_rng r14
                have c_259i : r14.toInt = 0 := bI_eq rfl (show (0 : Int32).toInt = 0 by decide) c_259
                have u_261 : (gI z15 13).toInt ≠ 0 := h_253 (by omega)
                try have e_262 : (0 : Int32).toInt = 0 := (show (0 : Int32).toInt = 0 by decide)
                exact ok_some ⟨Or.inl rfl, (fr_tr (fr_I (fr_I (fr_tr (fr_tr fr_rf h_3 (by decide)) h_19 (by decide)) (by decide)) (by decide)) h_252 (by decide)), (show (gI z_t 12).toInt ≤ (gI z15 12).toInt ∧ (gI z15 12).toInt ≤ (gI z_t 1).toInt by first | omega | assumption | trivial), (kp_fr (kp_I (kp_I (kp_fr (kp_tr kp_rf h_5) h_19 (by decide)))) h_252 (by decide)), (show (0 : Int32).toInt = 0 → (gI z15 13).toInt ≠ 0 from fun _ => by first | omega | assumption), (show (0 : Int32).toInt = 1 → (gT z15 4 t).toInt + o ≤ (gI z15 12).toInt ∧ h + 1 ≤ (gI z15 16).toInt ∧ (gI z15 16).toInt ≤ 60 from fun q => absurd q (by decide)), (show (0 : Int32).toInt = 1 → RN z15 t b (h + 1) from fun q => absurd q (by decide))⟩
              · skip
                have r_263 := n_rng r14
                have c_259i : r14.toInt ≠ 0 := bI_neq rfl (show (0 : Int32).toInt = 0 by decide) c_259
                have u_264 : (gI z15 16).toInt = (gI z7 16).toInt + 1 ∧ (gI z15 16).toInt ≤ 60 := h_254 (by omega)
                refine ok_jn ?_
                refine ok_ite (fun c_265 => ?_) (fun c_265 => ?_)
                · skip
                  have c_265i : r6.toInt = 60 := bI_eq rfl (show (60 : Int32).toInt = 60 by decide) c_265
                  refine ok_ite (fun c_266 => ?_) (fun c_266 => ?_)
                  · skip
                    exact absurd c_266 (by decide)
                  · skip
                    refine ok_bd2 (t_fX9_sum (t := t) (b := b) (h := h + 1) (o := o + 1) (by first | omega | assumption | decide | (show 0 ≤ (gI z15 12).toInt ∧ (gI z15 12).toInt ≤ (gI z15 1).toInt ∧ (gI z15 1).toInt ≤ 400; first | omega | assumption)) (by first | omega | assumption | decide | (show (gI z15 15).toInt = t ∧ t < 6; first | omega | assumption)) (by first | omega | assumption | decide | (show 0 ≤ (gT z15 4 t).toInt ∧ (gT z15 4 t).toInt + (o + 1) ≤ (gI z15 12).toInt; first | omega | assumption)) (by first | omega | assumption | decide | (show 0 ≤ (gI z15 16).toInt ∧ (gI z15 16).toInt ≤ 60 ∧ (h + 1) ≤ (gI z15 16).toInt; first | omega | assumption)) (rn_fr h_252 (by decide) (rn_I (rn_I (rn_fr h_19 (by decide) u_17))))) (fun r20 z21 q_267 => ?_)
                    have h_268 : r20 = 0 ∨ r20 = 1 := q_267.1
                    have h_268i := bool_i h_268
                    have h_269 : FrL [3, 4, 12, 13, 14, 16] z15 z21 := q_267.2.1
                    have h_270 : (gI z15 12).toInt ≤ (gI z21 12).toInt ∧ (gI z21 12).toInt ≤ (gI z15 1).toInt := q_267.2.2.1
                    have h_271 : KP t z15 z21 := q_267.2.2.2.1
                    have h_271a : (gT z15 4 t).toInt ≤ (gT z21 4 t).toInt := h_271.1
                    have h_272 : r20.toInt = 0 → (gI z21 13).toInt ≠ 0 := q_267.2.2.2.2.1
                    have h_273 : r20.toInt = 1 → (gT z21 4 t).toInt + (o + 1) ≤ (gI z21 12).toInt ∧ (h + 1) + 1 ≤ (gI z21 16).toInt ∧ (gI z21 16).toInt ≤ 60 := q_267.2.2.2.2.2.1
                    have h_274 : r20.toInt = 1 → RN z21 t b ((h + 1) + 1) := q_267.2.2.2.2.2.2
                    clear q_267
                    have s_275 : (gI z21 1).toInt = (gI z15 1).toInt := congrArg Int32.toInt (h_269 1 (by decide)).1
                    have s_276 : (gI z21 15).toInt = (gI z15 15).toInt := congrArg Int32.toInt (h_269 15 (by decide)).1
                    refine ok_ite (fun c_277 => ?_) (fun c_277 => ?_)
                    · skip
                      have r_278 := n_rng r20
                      have c_277i : r20.toInt = 0 := bI_eq rfl (show (0 : Int32).toInt = 0 by decide) c_277
                      have u_279 : (gI z21 13).toInt ≠ 0 := h_272 (by omega)
                      try have e_280 : (0 : Int32).toInt = 0 := (show (0 : Int32).toInt = 0 by decide)
                      exact ok_some ⟨Or.inl rfl, (fr_tr (fr_tr (fr_I (fr_I (fr_tr (fr_tr fr_rf h_3 (by decide)) h_19 (by decide)) (by decide)) (by decide)) h_252 (by decide)) h_269 (by decide)), (show (gI z_t 12).toInt ≤ (gI z21 12).toInt ∧ (gI z21 12).toInt ≤ (gI z_t 1).toInt by first | omega | assumption | trivial), (kp_tr (kp_fr (kp_I (kp_I (kp_fr (kp_tr kp_rf h_5) h_19 (by decide)))) h_252 (by decide)) h_271), (show (0 : Int32).toInt = 0 → (gI z21 13).toInt ≠ 0 from fun _ => by first | omega | assumption), (show (0 : Int32).toInt = 1 → (gT z21 4 t).toInt + o ≤ (gI z21 12).toInt ∧ h + 1 ≤ (gI z21 16).toInt ∧ (gI z21 16).toInt ≤ 60 from fun q => absurd q (by decide)), (show (0 : Int32).toInt = 1 → RN z21 t b (h + 1) from fun q => absurd q (by decide))⟩
                    · skip
                      have r_281 := n_rng r20
                      have c_277i : r20.toInt ≠ 0 := bI_neq rfl (show (0 : Int32).toInt = 0 by decide) c_277
                      have u_282 : (gT z21 4 t).toInt + (o + 1) ≤ (gI z21 12).toInt ∧ (h + 1) + 1 ≤ (gI z21 16).toInt ∧ (gI z21 16).toInt ≤ 60 := h_273 (by omega)
                      have u_283 : RN z21 t b ((h + 1) + 1) := h_274 (by omega)
                      have e_285 : (6 + 1).toInt = (6 + 1) := (i32_add (show (6 : Int32).toInt = 6 by decide) (show (1 : Int32).toInt = 1 by decide) (by omega) (by omega))
                      have e_286 : (0 : Int32).toInt = 0 := (show (0 : Int32).toInt = 0 by decide)
                      refine ok_bd (t_fX9_puts (t := t) (by first | omega | assumption | decide | (show (gI z21 15).toInt = t ∧ t < 6; first | omega | assumption)) (by first | omega | assumption | decide | (show 0 ≤ (gT z21 4 t).toInt ∧ (gT z21 4 t).toInt < 400; first | omega | assumption))) (fun z24 q_284 => ?_)
                      have h_287 : FrL [3, 4] z21 z24 := q_284.1
                      have h_288 : PUT t z21 z24 (((6 : Int32) + 1) + (16 * (0 : Int32))) := q_284.2
                      clear q_284
                      have s_289 : (gI z24 1).toInt = (gI z21 1).toInt := congrArg Int32.toInt (h_287 1 (by decide)).1
                      have s_290 : (gI z24 12).toInt = (gI z21 12).toInt := congrArg Int32.toInt (h_287 12 (by decide)).1
                      have s_291 : (gI z24 13).toInt = (gI z21 13).toInt := congrArg Int32.toInt (h_287 13 (by decide)).1
                      have s_292 : (gI z24 15).toInt = (gI z21 15).toInt := congrArg Int32.toInt (h_287 15 (by decide)).1
                      have s_293 : (gI z24 16).toInt = (gI z21 16).toInt := congrArg Int32.toInt (h_287 16 (by decide)).1
                      have h_288a := h_288.1
                      have h_288k := h_288.2.1
                      have h_288r : RN z24 t b ((h + 1)) := rn_put (by omega) h_288 u_283 (stp_bin (by omega) (by decide) (by decide) (by decide))
                      try have e_294 : (1 : Int32).toInt = 1 := (show (1 : Int32).toInt = 1 by decide)
                      exact ok_some ⟨Or.inr rfl, (fr_tr (fr_tr (fr_tr (fr_I (fr_I (fr_tr (fr_tr fr_rf h_3 (by decide)) h_19 (by decide)) (by decide)) (by decide)) h_252 (by decide)) h_269 (by decide)) h_287 (by decide)), (show (gI z_t 12).toInt ≤ (gI z24 12).toInt ∧ (gI z24 12).toInt ≤ (gI z_t 1).toInt by first | omega | assumption | trivial), (kp_tr (kp_tr (kp_fr (kp_I (kp_I (kp_fr (kp_tr kp_rf h_5) h_19 (by decide)))) h_252 (by decide)) h_271) h_288k), (show (1 : Int32).toInt = 0 → (gI z24 13).toInt ≠ 0 from fun q => absurd q (by decide)), (show (1 : Int32).toInt = 1 → (gT z24 4 t).toInt + o ≤ (gI z24 12).toInt ∧ h + 1 ≤ (gI z24 16).toInt ∧ (gI z24 16).toInt ≤ 60 from fun _ => by first | omega | assumption), (fun _ => h_288r)⟩
                · skip
                  have c_265i : r6.toInt ≠ 60 := bI_neq rfl (show (60 : Int32).toInt = 60 by decide) c_265
                  refine ok_ite (fun c_295 => ?_) (fun c_295 => ?_)
                  · skip
                    have c_295i : r6.toInt = 61 := bI_eq rfl (show (61 : Int32).toInt = 61 by decide) c_295
                    refine ok_bd2 (t_fX9_sum (t := t) (b := b) (h := h + 1) (o := o + 1) (by first | omega | assumption | decide | (show 0 ≤ (gI z15 12).toInt ∧ (gI z15 12).toInt ≤ (gI z15 1).toInt ∧ (gI z15 1).toInt ≤ 400; first | omega | assumption)) (by first | omega | assumption | decide | (show (gI z15 15).toInt = t ∧ t < 6; first | omega | assumption)) (by first | omega | assumption | decide | (show 0 ≤ (gT z15 4 t).toInt ∧ (gT z15 4 t).toInt + (o + 1) ≤ (gI z15 12).toInt; first | omega | assumption)) (by first | omega | assumption | decide | (show 0 ≤ (gI z15 16).toInt ∧ (gI z15 16).toInt ≤ 60 ∧ (h + 1) ≤ (gI z15 16).toInt; first | omega | assumption)) (rn_fr h_252 (by decide) (rn_I (rn_I (rn_fr h_19 (by decide) u_17))))) (fun r20 z21 q_296 => ?_)
                    have h_297 : r20 = 0 ∨ r20 = 1 := q_296.1
                    have h_297i := bool_i h_297
                    have h_298 : FrL [3, 4, 12, 13, 14, 16] z15 z21 := q_296.2.1
                    have h_299 : (gI z15 12).toInt ≤ (gI z21 12).toInt ∧ (gI z21 12).toInt ≤ (gI z15 1).toInt := q_296.2.2.1
                    have h_300 : KP t z15 z21 := q_296.2.2.2.1
                    have h_300a : (gT z15 4 t).toInt ≤ (gT z21 4 t).toInt := h_300.1
                    have h_301 : r20.toInt = 0 → (gI z21 13).toInt ≠ 0 := q_296.2.2.2.2.1
                    have h_302 : r20.toInt = 1 → (gT z21 4 t).toInt + (o + 1) ≤ (gI z21 12).toInt ∧ (h + 1) + 1 ≤ (gI z21 16).toInt ∧ (gI z21 16).toInt ≤ 60 := q_296.2.2.2.2.2.1
                    have h_303 : r20.toInt = 1 → RN z21 t b ((h + 1) + 1) := q_296.2.2.2.2.2.2
                    clear q_296
                    have s_304 : (gI z21 1).toInt = (gI z15 1).toInt := congrArg Int32.toInt (h_298 1 (by decide)).1
                    have s_305 : (gI z21 15).toInt = (gI z15 15).toInt := congrArg Int32.toInt (h_298 15 (by decide)).1
                    refine ok_ite (fun c_306 => ?_) (fun c_306 => ?_)
                    · skip
                      have r_307 := n_rng r20
                      have c_306i : r20.toInt = 0 := bI_eq rfl (show (0 : Int32).toInt = 0 by decide) c_306
                      have u_308 : (gI z21 13).toInt ≠ 0 := h_301 (by omega)
                      try have e_309 : (0 : Int32).toInt = 0 := (show (0 : Int32).toInt = 0 by decide)
                      exact ok_some ⟨Or.inl rfl, (fr_tr (fr_tr (fr_I (fr_I (fr_tr (fr_tr fr_rf h_3 (by decide)) h_19 (by decide)) (by decide)) (by decide)) h_252 (by decide)) h_298 (by decide)), (show (gI z_t 12).toInt ≤ (gI z21 12).toInt ∧ (gI z21 12).toInt ≤ (gI z_t 1).toInt by first | omega | assumption | trivial), (kp_tr (kp_fr (kp_I (kp_I (kp_fr (kp_tr kp_rf h_5) h_19 (by decide)))) h_252 (by decide)) h_300), (show (0 : Int32).toInt = 0 → (gI z21 13).toInt ≠ 0 from fun _ => by first | omega | assumption), (show (0 : Int32).toInt = 1 → (gT z21 4 t).toInt + o ≤ (gI z21 12).toInt ∧ h + 1 ≤ (gI z21 16).toInt ∧ (gI z21 16).toInt ≤ 60 from fun q => absurd q (by decide)), (show (0 : Int32).toInt = 1 → RN z21 t b (h + 1) from fun q => absurd q (by decide))⟩
                    · skip
                      have r_310 := n_rng r20
                      have c_306i : r20.toInt ≠ 0 := bI_neq rfl (show (0 : Int32).toInt = 0 by decide) c_306
                      have u_311 : (gT z21 4 t).toInt + (o + 1) ≤ (gI z21 12).toInt ∧ (h + 1) + 1 ≤ (gI z21 16).toInt ∧ (gI z21 16).toInt ≤ 60 := h_302 (by omega)
                      have u_312 : RN z21 t b ((h + 1) + 1) := h_303 (by omega)
                      have e_314 : (6 + 2).toInt = (6 + 2) := (i32_add (show (6 : Int32).toInt = 6 by decide) (show (2 : Int32).toInt = 2 by decide) (by omega) (by omega))
                      have e_315 : (0 : Int32).toInt = 0 := (show (0 : Int32).toInt = 0 by decide)
                      refine ok_bd (t_fX9_puts (t := t) (by first | omega | assumption | decide | (show (gI z21 15).toInt = t ∧ t < 6; first | omega | assumption)) (by first | omega | assumption | decide | (show 0 ≤ (gT z21 4 t).toInt ∧ (gT z21 4 t).toInt < 400; first | omega | assumption))) (fun z24 q_313 => ?_)
                      have h_316 : FrL [3, 4] z21 z24 := q_313.1
                      have h_317 : PUT t z21 z24 (((6 : Int32) + 2) + (16 * (0 : Int32))) := q_313.2
                      clear q_313
                      have s_318 : (gI z24 1).toInt = (gI z21 1).toInt := congrArg Int32.toInt (h_316 1 (by decide)).1
                      have s_319 : (gI z24 12).toInt = (gI z21 12).toInt := congrArg Int32.toInt (h_316 12 (by decide)).1
                      have s_320 : (gI z24 13).toInt = (gI z21 13).toInt := congrArg Int32.toInt (h_316 13 (by decide)).1
                      have s_321 : (gI z24 15).toInt = (gI z21 15).toInt := congrArg Int32.toInt (h_316 15 (by decide)).1
                      have s_322 : (gI z24 16).toInt = (gI z21 16).toInt := congrArg Int32.toInt (h_316 16 (by decide)).1
                      have h_317a := h_317.1
                      have h_317k := h_317.2.1
                      have h_317r : RN z24 t b ((h + 1)) := rn_put (by omega) h_317 u_312 (stp_bin (by omega) (by decide) (by decide) (by decide))
                      try have e_323 : (1 : Int32).toInt = 1 := (show (1 : Int32).toInt = 1 by decide)
                      exact ok_some ⟨Or.inr rfl, (fr_tr (fr_tr (fr_tr (fr_I (fr_I (fr_tr (fr_tr fr_rf h_3 (by decide)) h_19 (by decide)) (by decide)) (by decide)) h_252 (by decide)) h_298 (by decide)) h_316 (by decide)), (show (gI z_t 12).toInt ≤ (gI z24 12).toInt ∧ (gI z24 12).toInt ≤ (gI z_t 1).toInt by first | omega | assumption | trivial), (kp_tr (kp_tr (kp_fr (kp_I (kp_I (kp_fr (kp_tr kp_rf h_5) h_19 (by decide)))) h_252 (by decide)) h_300) h_317k), (show (1 : Int32).toInt = 0 → (gI z24 13).toInt ≠ 0 from fun q => absurd q (by decide)), (show (1 : Int32).toInt = 1 → (gT z24 4 t).toInt + o ≤ (gI z24 12).toInt ∧ h + 1 ≤ (gI z24 16).toInt ∧ (gI z24 16).toInt ≤ 60 from fun _ => by first | omega | assumption), (fun _ => h_317r)⟩
                  · skip
                    have c_295i : r6.toInt ≠ 61 := bI_neq rfl (show (61 : Int32).toInt = 61 by decide) c_295
                    refine ok_ite (fun c_324 => ?_) (fun c_324 => ?_)
                    · skip
                      exact absurd c_324 (by decide)
                    · skip
                      refine ok_bd2 (t_fX9_sum (t := t) (b := b) (h := h + 1) (o := o + 1) (by first | omega | assumption | decide | (show 0 ≤ (gI z15 12).toInt ∧ (gI z15 12).toInt ≤ (gI z15 1).toInt ∧ (gI z15 1).toInt ≤ 400; first | omega | assumption)) (by first | omega | assumption | decide | (show (gI z15 15).toInt = t ∧ t < 6; first | omega | assumption)) (by first | omega | assumption | decide | (show 0 ≤ (gT z15 4 t).toInt ∧ (gT z15 4 t).toInt + (o + 1) ≤ (gI z15 12).toInt; first | omega | assumption)) (by first | omega | assumption | decide | (show 0 ≤ (gI z15 16).toInt ∧ (gI z15 16).toInt ≤ 60 ∧ (h + 1) ≤ (gI z15 16).toInt; first | omega | assumption)) (rn_fr h_252 (by decide) (rn_I (rn_I (rn_fr h_19 (by decide) u_17))))) (fun r20 z21 q_325 => ?_)
                      have h_326 : r20 = 0 ∨ r20 = 1 := q_325.1
                      have h_326i := bool_i h_326
                      have h_327 : FrL [3, 4, 12, 13, 14, 16] z15 z21 := q_325.2.1
                      have h_328 : (gI z15 12).toInt ≤ (gI z21 12).toInt ∧ (gI z21 12).toInt ≤ (gI z15 1).toInt := q_325.2.2.1
                      have h_329 : KP t z15 z21 := q_325.2.2.2.1
                      have h_329a : (gT z15 4 t).toInt ≤ (gT z21 4 t).toInt := h_329.1
                      have h_330 : r20.toInt = 0 → (gI z21 13).toInt ≠ 0 := q_325.2.2.2.2.1
                      have h_331 : r20.toInt = 1 → (gT z21 4 t).toInt + (o + 1) ≤ (gI z21 12).toInt ∧ (h + 1) + 1 ≤ (gI z21 16).toInt ∧ (gI z21 16).toInt ≤ 60 := q_325.2.2.2.2.2.1
                      have h_332 : r20.toInt = 1 → RN z21 t b ((h + 1) + 1) := q_325.2.2.2.2.2.2
                      clear q_325
                      have s_333 : (gI z21 1).toInt = (gI z15 1).toInt := congrArg Int32.toInt (h_327 1 (by decide)).1
                      have s_334 : (gI z21 15).toInt = (gI z15 15).toInt := congrArg Int32.toInt (h_327 15 (by decide)).1
                      refine ok_ite (fun c_335 => ?_) (fun c_335 => ?_)
                      · skip
                        have r_336 := n_rng r20
                        have c_335i : r20.toInt = 0 := bI_eq rfl (show (0 : Int32).toInt = 0 by decide) c_335
                        have u_337 : (gI z21 13).toInt ≠ 0 := h_330 (by omega)
                        try have e_338 : (0 : Int32).toInt = 0 := (show (0 : Int32).toInt = 0 by decide)
                        exact ok_some ⟨Or.inl rfl, (fr_tr (fr_tr (fr_I (fr_I (fr_tr (fr_tr fr_rf h_3 (by decide)) h_19 (by decide)) (by decide)) (by decide)) h_252 (by decide)) h_327 (by decide)), (show (gI z_t 12).toInt ≤ (gI z21 12).toInt ∧ (gI z21 12).toInt ≤ (gI z_t 1).toInt by first | omega | assumption | trivial), (kp_tr (kp_fr (kp_I (kp_I (kp_fr (kp_tr kp_rf h_5) h_19 (by decide)))) h_252 (by decide)) h_329), (show (0 : Int32).toInt = 0 → (gI z21 13).toInt ≠ 0 from fun _ => by first | omega | assumption), (show (0 : Int32).toInt = 1 → (gT z21 4 t).toInt + o ≤ (gI z21 12).toInt ∧ h + 1 ≤ (gI z21 16).toInt ∧ (gI z21 16).toInt ≤ 60 from fun q => absurd q (by decide)), (show (0 : Int32).toInt = 1 → RN z21 t b (h + 1) from fun q => absurd q (by decide))⟩
                      · skip
                        have r_339 := n_rng r20
                        have c_335i : r20.toInt ≠ 0 := bI_neq rfl (show (0 : Int32).toInt = 0 by decide) c_335
                        have u_340 : (gT z21 4 t).toInt + (o + 1) ≤ (gI z21 12).toInt ∧ (h + 1) + 1 ≤ (gI z21 16).toInt ∧ (gI z21 16).toInt ≤ 60 := h_331 (by omega)
                        have u_341 : RN z21 t b ((h + 1) + 1) := h_332 (by omega)
                        have e_343 : (6 + 3).toInt = (6 + 3) := (i32_add (show (6 : Int32).toInt = 6 by decide) (show (3 : Int32).toInt = 3 by decide) (by omega) (by omega))
                        have e_344 : (0 : Int32).toInt = 0 := (show (0 : Int32).toInt = 0 by decide)
                        refine ok_bd (t_fX9_puts (t := t) (by first | omega | assumption | decide | (show (gI z21 15).toInt = t ∧ t < 6; first | omega | assumption)) (by first | omega | assumption | decide | (show 0 ≤ (gT z21 4 t).toInt ∧ (gT z21 4 t).toInt < 400; first | omega | assumption))) (fun z24 q_342 => ?_)
                        have h_345 : FrL [3, 4] z21 z24 := q_342.1
                        have h_346 : PUT t z21 z24 (((6 : Int32) + 3) + (16 * (0 : Int32))) := q_342.2
                        clear q_342
                        have s_347 : (gI z24 1).toInt = (gI z21 1).toInt := congrArg Int32.toInt (h_345 1 (by decide)).1
                        have s_348 : (gI z24 12).toInt = (gI z21 12).toInt := congrArg Int32.toInt (h_345 12 (by decide)).1
                        have s_349 : (gI z24 13).toInt = (gI z21 13).toInt := congrArg Int32.toInt (h_345 13 (by decide)).1
                        have s_350 : (gI z24 15).toInt = (gI z21 15).toInt := congrArg Int32.toInt (h_345 15 (by decide)).1
                        have s_351 : (gI z24 16).toInt = (gI z21 16).toInt := congrArg Int32.toInt (h_345 16 (by decide)).1
                        have h_346a := h_346.1
                        have h_346k := h_346.2.1
                        have h_346r : RN z24 t b ((h + 1)) := rn_put (by omega) h_346 u_341 (stp_bin (by omega) (by decide) (by decide) (by decide))
                        try have e_352 : (1 : Int32).toInt = 1 := (show (1 : Int32).toInt = 1 by decide)
                        exact ok_some ⟨Or.inr rfl, (fr_tr (fr_tr (fr_tr (fr_I (fr_I (fr_tr (fr_tr fr_rf h_3 (by decide)) h_19 (by decide)) (by decide)) (by decide)) h_252 (by decide)) h_327 (by decide)) h_345 (by decide)), (show (gI z_t 12).toInt ≤ (gI z24 12).toInt ∧ (gI z24 12).toInt ≤ (gI z_t 1).toInt by first | omega | assumption | trivial), (kp_tr (kp_tr (kp_fr (kp_I (kp_I (kp_fr (kp_tr kp_rf h_5) h_19 (by decide)))) h_252 (by decide)) h_329) h_346k), (show (1 : Int32).toInt = 0 → (gI z24 13).toInt ≠ 0 from fun q => absurd q (by decide)), (show (1 : Int32).toInt = 1 → (gT z24 4 t).toInt + o ≤ (gI z24 12).toInt ∧ h + 1 ≤ (gI z24 16).toInt ∧ (gI z24 16).toInt ≤ 60 from fun _ => by first | omega | assumption), (fun _ => h_346r)⟩
          · skip
            have r_353 := n_rng (gT z7 0 ((gI z7 12) + 1).toNatClampNeg)
            have c_247i : (gT z7 0 ((gI z7 12) + 1).toNatClampNeg).toInt ≠ 61 := bI_neq rfl (show (61 : Int32).toInt = 61 by decide) c_247
            refine ok_jn ?_
            refine ok_ite (fun c_354 => ?_) (fun c_354 => ?_)
            · skip
              refine ok_bd2 (t_fX9_makes (by first | omega | assumption | decide | (show 0 ≤ (gI z7 16).toInt ∧ (gI z7 16).toInt ≤ 60; first | omega | assumption)) (by first | omega | assumption | decide | (show 0 ≤ (gI z7 12).toInt ∧ (gI z7 12).toInt ≤ 400; first | omega | assumption))) (fun r14 z15 q_355 => ?_)
              have h_356 : r14 = 0 ∨ r14 = 1 := q_355.1
              have h_356i := bool_i h_356
              have h_357 : FrL [13, 16] (sI z7 12 ((gI z7 12) + 1)) z15 := q_355.2.1
              have h_358 : r14.toInt = 0 → (gI z15 13).toInt ≠ 0 := q_355.2.2.1
              have h_359 : r14.toInt = 1 → (gI z15 16).toInt = (gI z7 16).toInt + 1 ∧ (gI z15 16).toInt ≤ 60 := q_355.2.2.2
              clear q_355
              have s_360 : (gI z15 1).toInt = (gI z7 1).toInt := congrArg Int32.toInt (h_357 1 (by decide)).1
              have s_361 : (gI z15 12).toInt = ((gI z7 12) + 1).toInt := congrArg Int32.toInt (h_357 12 (by decide)).1
              have s_362 : (gI z15 15).toInt = (gI z7 15).toInt := congrArg Int32.toInt (h_357 15 (by decide)).1
              have s_363 : (gT z15 4 t).toInt = (gT z7 4 t).toInt := congrArg (fun f : Nat → Int32 => (f t).toInt) (h_357 4 (by decide)).2.1
              refine ok_ite (fun c_364 => ?_) (fun c_364 => ?_)
              · skip
                have r_365 := n_rng r14
                have c_364i : r14.toInt = 0 := bI_eq rfl (show (0 : Int32).toInt = 0 by decide) c_364
                have u_366 : (gI z15 13).toInt ≠ 0 := h_358 (by omega)
                try have e_367 : (0 : Int32).toInt = 0 := (show (0 : Int32).toInt = 0 by decide)
                exact ok_some ⟨Or.inl rfl, (fr_tr (fr_I (fr_tr (fr_tr fr_rf h_3 (by decide)) h_19 (by decide)) (by decide)) h_357 (by decide)), (show (gI z_t 12).toInt ≤ (gI z15 12).toInt ∧ (gI z15 12).toInt ≤ (gI z_t 1).toInt by first | omega | assumption | trivial), (kp_fr (kp_I (kp_fr (kp_tr kp_rf h_5) h_19 (by decide))) h_357 (by decide)), (show (0 : Int32).toInt = 0 → (gI z15 13).toInt ≠ 0 from fun _ => by first | omega | assumption), (show (0 : Int32).toInt = 1 → (gT z15 4 t).toInt + o ≤ (gI z15 12).toInt ∧ h + 1 ≤ (gI z15 16).toInt ∧ (gI z15 16).toInt ≤ 60 from fun q => absurd q (by decide)), (show (0 : Int32).toInt = 1 → RN z15 t b (h + 1) from fun q => absurd q (by decide))⟩
              · skip
                have r_368 := n_rng r14
                have c_364i : r14.toInt ≠ 0 := bI_neq rfl (show (0 : Int32).toInt = 0 by decide) c_364
                have u_369 : (gI z15 16).toInt = (gI z7 16).toInt + 1 ∧ (gI z15 16).toInt ≤ 60 := h_359 (by omega)
                refine ok_jn ?_
                refine ok_ite (fun c_370 => ?_) (fun c_370 => ?_)
                · skip
                  have c_370i : r6.toInt = 60 := bI_eq rfl (show (60 : Int32).toInt = 60 by decide) c_370
                  refine ok_ite (fun c_371 => ?_) (fun c_371 => ?_)
                  · skip
                    refine ok_bd2 (t_fX9_sum (t := t) (b := b) (h := h + 1) (o := o + 1) (by first | omega | assumption | decide | (show 0 ≤ (gI z15 12).toInt ∧ (gI z15 12).toInt ≤ (gI z15 1).toInt ∧ (gI z15 1).toInt ≤ 400; first | omega | assumption)) (by first | omega | assumption | decide | (show (gI z15 15).toInt = t ∧ t < 6; first | omega | assumption)) (by first | omega | assumption | decide | (show 0 ≤ (gT z15 4 t).toInt ∧ (gT z15 4 t).toInt + (o + 1) ≤ (gI z15 12).toInt; first | omega | assumption)) (by first | omega | assumption | decide | (show 0 ≤ (gI z15 16).toInt ∧ (gI z15 16).toInt ≤ 60 ∧ (h + 1) ≤ (gI z15 16).toInt; first | omega | assumption)) (rn_fr h_357 (by decide) (rn_I (rn_fr h_19 (by decide) u_17)))) (fun r20 z21 q_372 => ?_)
                    have h_373 : r20 = 0 ∨ r20 = 1 := q_372.1
                    have h_373i := bool_i h_373
                    have h_374 : FrL [3, 4, 12, 13, 14, 16] z15 z21 := q_372.2.1
                    have h_375 : (gI z15 12).toInt ≤ (gI z21 12).toInt ∧ (gI z21 12).toInt ≤ (gI z15 1).toInt := q_372.2.2.1
                    have h_376 : KP t z15 z21 := q_372.2.2.2.1
                    have h_376a : (gT z15 4 t).toInt ≤ (gT z21 4 t).toInt := h_376.1
                    have h_377 : r20.toInt = 0 → (gI z21 13).toInt ≠ 0 := q_372.2.2.2.2.1
                    have h_378 : r20.toInt = 1 → (gT z21 4 t).toInt + (o + 1) ≤ (gI z21 12).toInt ∧ (h + 1) + 1 ≤ (gI z21 16).toInt ∧ (gI z21 16).toInt ≤ 60 := q_372.2.2.2.2.2.1
                    have h_379 : r20.toInt = 1 → RN z21 t b ((h + 1) + 1) := q_372.2.2.2.2.2.2
                    clear q_372
                    have s_380 : (gI z21 1).toInt = (gI z15 1).toInt := congrArg Int32.toInt (h_374 1 (by decide)).1
                    have s_381 : (gI z21 15).toInt = (gI z15 15).toInt := congrArg Int32.toInt (h_374 15 (by decide)).1
                    refine ok_ite (fun c_382 => ?_) (fun c_382 => ?_)
                    · skip
                      have r_383 := n_rng r20
                      have c_382i : r20.toInt = 0 := bI_eq rfl (show (0 : Int32).toInt = 0 by decide) c_382
                      have u_384 : (gI z21 13).toInt ≠ 0 := h_377 (by omega)
                      try have e_385 : (0 : Int32).toInt = 0 := (show (0 : Int32).toInt = 0 by decide)
                      exact ok_some ⟨Or.inl rfl, (fr_tr (fr_tr (fr_I (fr_tr (fr_tr fr_rf h_3 (by decide)) h_19 (by decide)) (by decide)) h_357 (by decide)) h_374 (by decide)), (show (gI z_t 12).toInt ≤ (gI z21 12).toInt ∧ (gI z21 12).toInt ≤ (gI z_t 1).toInt by first | omega | assumption | trivial), (kp_tr (kp_fr (kp_I (kp_fr (kp_tr kp_rf h_5) h_19 (by decide))) h_357 (by decide)) h_376), (show (0 : Int32).toInt = 0 → (gI z21 13).toInt ≠ 0 from fun _ => by first | omega | assumption), (show (0 : Int32).toInt = 1 → (gT z21 4 t).toInt + o ≤ (gI z21 12).toInt ∧ h + 1 ≤ (gI z21 16).toInt ∧ (gI z21 16).toInt ≤ 60 from fun q => absurd q (by decide)), (show (0 : Int32).toInt = 1 → RN z21 t b (h + 1) from fun q => absurd q (by decide))⟩
                    · skip
                      have r_386 := n_rng r20
                      have c_382i : r20.toInt ≠ 0 := bI_neq rfl (show (0 : Int32).toInt = 0 by decide) c_382
                      have u_387 : (gT z21 4 t).toInt + (o + 1) ≤ (gI z21 12).toInt ∧ (h + 1) + 1 ≤ (gI z21 16).toInt ∧ (gI z21 16).toInt ≤ 60 := h_378 (by omega)
                      have u_388 : RN z21 t b ((h + 1) + 1) := h_379 (by omega)
                      have e_390 : (6 + 0).toInt = (6 + 0) := (i32_add (show (6 : Int32).toInt = 6 by decide) (show (0 : Int32).toInt = 0 by decide) (by omega) (by omega))
                      have e_391 : (0 : Int32).toInt = 0 := (show (0 : Int32).toInt = 0 by decide)
                      refine ok_bd (t_fX9_puts (t := t) (by first | omega | assumption | decide | (show (gI z21 15).toInt = t ∧ t < 6; first | omega | assumption)) (by first | omega | assumption | decide | (show 0 ≤ (gT z21 4 t).toInt ∧ (gT z21 4 t).toInt < 400; first | omega | assumption))) (fun z24 q_389 => ?_)
                      have h_392 : FrL [3, 4] z21 z24 := q_389.1
                      have h_393 : PUT t z21 z24 (((6 : Int32) + 0) + (16 * (0 : Int32))) := q_389.2
                      clear q_389
                      have s_394 : (gI z24 1).toInt = (gI z21 1).toInt := congrArg Int32.toInt (h_392 1 (by decide)).1
                      have s_395 : (gI z24 12).toInt = (gI z21 12).toInt := congrArg Int32.toInt (h_392 12 (by decide)).1
                      have s_396 : (gI z24 13).toInt = (gI z21 13).toInt := congrArg Int32.toInt (h_392 13 (by decide)).1
                      have s_397 : (gI z24 15).toInt = (gI z21 15).toInt := congrArg Int32.toInt (h_392 15 (by decide)).1
                      have s_398 : (gI z24 16).toInt = (gI z21 16).toInt := congrArg Int32.toInt (h_392 16 (by decide)).1
                      have h_393a := h_393.1
                      have h_393k := h_393.2.1
                      have h_393r : RN z24 t b ((h + 1)) := rn_put (by omega) h_393 u_388 (stp_bin (by omega) (by decide) (by decide) (by decide))
                      try have e_399 : (1 : Int32).toInt = 1 := (show (1 : Int32).toInt = 1 by decide)
                      exact ok_some ⟨Or.inr rfl, (fr_tr (fr_tr (fr_tr (fr_I (fr_tr (fr_tr fr_rf h_3 (by decide)) h_19 (by decide)) (by decide)) h_357 (by decide)) h_374 (by decide)) h_392 (by decide)), (show (gI z_t 12).toInt ≤ (gI z24 12).toInt ∧ (gI z24 12).toInt ≤ (gI z_t 1).toInt by first | omega | assumption | trivial), (kp_tr (kp_tr (kp_fr (kp_I (kp_fr (kp_tr kp_rf h_5) h_19 (by decide))) h_357 (by decide)) h_376) h_393k), (show (1 : Int32).toInt = 0 → (gI z24 13).toInt ≠ 0 from fun q => absurd q (by decide)), (show (1 : Int32).toInt = 1 → (gT z24 4 t).toInt + o ≤ (gI z24 12).toInt ∧ h + 1 ≤ (gI z24 16).toInt ∧ (gI z24 16).toInt ≤ 60 from fun _ => by first | omega | assumption), (fun _ => h_393r)⟩
                  · skip
                    exact absurd (by decide) c_371
                · skip
                  have c_370i : r6.toInt ≠ 60 := bI_neq rfl (show (60 : Int32).toInt = 60 by decide) c_370
                  refine ok_ite (fun c_400 => ?_) (fun c_400 => ?_)
                  · skip
                    have c_400i : r6.toInt = 61 := bI_eq rfl (show (61 : Int32).toInt = 61 by decide) c_400
                    refine ok_bd2 (t_fX9_sum (t := t) (b := b) (h := h + 1) (o := o + 1) (by first | omega | assumption | decide | (show 0 ≤ (gI z15 12).toInt ∧ (gI z15 12).toInt ≤ (gI z15 1).toInt ∧ (gI z15 1).toInt ≤ 400; first | omega | assumption)) (by first | omega | assumption | decide | (show (gI z15 15).toInt = t ∧ t < 6; first | omega | assumption)) (by first | omega | assumption | decide | (show 0 ≤ (gT z15 4 t).toInt ∧ (gT z15 4 t).toInt + (o + 1) ≤ (gI z15 12).toInt; first | omega | assumption)) (by first | omega | assumption | decide | (show 0 ≤ (gI z15 16).toInt ∧ (gI z15 16).toInt ≤ 60 ∧ (h + 1) ≤ (gI z15 16).toInt; first | omega | assumption)) (rn_fr h_357 (by decide) (rn_I (rn_fr h_19 (by decide) u_17)))) (fun r20 z21 q_401 => ?_)
                    have h_402 : r20 = 0 ∨ r20 = 1 := q_401.1
                    have h_402i := bool_i h_402
                    have h_403 : FrL [3, 4, 12, 13, 14, 16] z15 z21 := q_401.2.1
                    have h_404 : (gI z15 12).toInt ≤ (gI z21 12).toInt ∧ (gI z21 12).toInt ≤ (gI z15 1).toInt := q_401.2.2.1
                    have h_405 : KP t z15 z21 := q_401.2.2.2.1
                    have h_405a : (gT z15 4 t).toInt ≤ (gT z21 4 t).toInt := h_405.1
                    have h_406 : r20.toInt = 0 → (gI z21 13).toInt ≠ 0 := q_401.2.2.2.2.1
                    have h_407 : r20.toInt = 1 → (gT z21 4 t).toInt + (o + 1) ≤ (gI z21 12).toInt ∧ (h + 1) + 1 ≤ (gI z21 16).toInt ∧ (gI z21 16).toInt ≤ 60 := q_401.2.2.2.2.2.1
                    have h_408 : r20.toInt = 1 → RN z21 t b ((h + 1) + 1) := q_401.2.2.2.2.2.2
                    clear q_401
                    have s_409 : (gI z21 1).toInt = (gI z15 1).toInt := congrArg Int32.toInt (h_403 1 (by decide)).1
                    have s_410 : (gI z21 15).toInt = (gI z15 15).toInt := congrArg Int32.toInt (h_403 15 (by decide)).1
                    refine ok_ite (fun c_411 => ?_) (fun c_411 => ?_)
                    · skip
                      have r_412 := n_rng r20
                      have c_411i : r20.toInt = 0 := bI_eq rfl (show (0 : Int32).toInt = 0 by decide) c_411
                      have u_413 : (gI z21 13).toInt ≠ 0 := h_406 (by omega)
                      try have e_414 : (0 : Int32).toInt = 0 := (show (0 : Int32).toInt = 0 by decide)
                      exact ok_some ⟨Or.inl rfl, (fr_tr (fr_tr (fr_I (fr_tr (fr_tr fr_rf h_3 (by decide)) h_19 (by decide)) (by decide)) h_357 (by decide)) h_403 (by decide)), (show (gI z_t 12).toInt ≤ (gI z21 12).toInt ∧ (gI z21 12).toInt ≤ (gI z_t 1).toInt by first | omega | assumption | trivial), (kp_tr (kp_fr (kp_I (kp_fr (kp_tr kp_rf h_5) h_19 (by decide))) h_357 (by decide)) h_405), (show (0 : Int32).toInt = 0 → (gI z21 13).toInt ≠ 0 from fun _ => by first | omega | assumption), (show (0 : Int32).toInt = 1 → (gT z21 4 t).toInt + o ≤ (gI z21 12).toInt ∧ h + 1 ≤ (gI z21 16).toInt ∧ (gI z21 16).toInt ≤ 60 from fun q => absurd q (by decide)), (show (0 : Int32).toInt = 1 → RN z21 t b (h + 1) from fun q => absurd q (by decide))⟩
                    · skip
                      have r_415 := n_rng r20
                      have c_411i : r20.toInt ≠ 0 := bI_neq rfl (show (0 : Int32).toInt = 0 by decide) c_411
                      have u_416 : (gT z21 4 t).toInt + (o + 1) ≤ (gI z21 12).toInt ∧ (h + 1) + 1 ≤ (gI z21 16).toInt ∧ (gI z21 16).toInt ≤ 60 := h_407 (by omega)
                      have u_417 : RN z21 t b ((h + 1) + 1) := h_408 (by omega)
                      have e_419 : (6 + 2).toInt = (6 + 2) := (i32_add (show (6 : Int32).toInt = 6 by decide) (show (2 : Int32).toInt = 2 by decide) (by omega) (by omega))
                      have e_420 : (0 : Int32).toInt = 0 := (show (0 : Int32).toInt = 0 by decide)
                      refine ok_bd (t_fX9_puts (t := t) (by first | omega | assumption | decide | (show (gI z21 15).toInt = t ∧ t < 6; first | omega | assumption)) (by first | omega | assumption | decide | (show 0 ≤ (gT z21 4 t).toInt ∧ (gT z21 4 t).toInt < 400; first | omega | assumption))) (fun z24 q_418 => ?_)
                      have h_421 : FrL [3, 4] z21 z24 := q_418.1
                      have h_422 : PUT t z21 z24 (((6 : Int32) + 2) + (16 * (0 : Int32))) := q_418.2
                      clear q_418
                      have s_423 : (gI z24 1).toInt = (gI z21 1).toInt := congrArg Int32.toInt (h_421 1 (by decide)).1
                      have s_424 : (gI z24 12).toInt = (gI z21 12).toInt := congrArg Int32.toInt (h_421 12 (by decide)).1
                      have s_425 : (gI z24 13).toInt = (gI z21 13).toInt := congrArg Int32.toInt (h_421 13 (by decide)).1
                      have s_426 : (gI z24 15).toInt = (gI z21 15).toInt := congrArg Int32.toInt (h_421 15 (by decide)).1
                      have s_427 : (gI z24 16).toInt = (gI z21 16).toInt := congrArg Int32.toInt (h_421 16 (by decide)).1
                      have h_422a := h_422.1
                      have h_422k := h_422.2.1
                      have h_422r : RN z24 t b ((h + 1)) := rn_put (by omega) h_422 u_417 (stp_bin (by omega) (by decide) (by decide) (by decide))
                      try have e_428 : (1 : Int32).toInt = 1 := (show (1 : Int32).toInt = 1 by decide)
                      exact ok_some ⟨Or.inr rfl, (fr_tr (fr_tr (fr_tr (fr_I (fr_tr (fr_tr fr_rf h_3 (by decide)) h_19 (by decide)) (by decide)) h_357 (by decide)) h_403 (by decide)) h_421 (by decide)), (show (gI z_t 12).toInt ≤ (gI z24 12).toInt ∧ (gI z24 12).toInt ≤ (gI z_t 1).toInt by first | omega | assumption | trivial), (kp_tr (kp_tr (kp_fr (kp_I (kp_fr (kp_tr kp_rf h_5) h_19 (by decide))) h_357 (by decide)) h_405) h_422k), (show (1 : Int32).toInt = 0 → (gI z24 13).toInt ≠ 0 from fun q => absurd q (by decide)), (show (1 : Int32).toInt = 1 → (gT z24 4 t).toInt + o ≤ (gI z24 12).toInt ∧ h + 1 ≤ (gI z24 16).toInt ∧ (gI z24 16).toInt ≤ 60 from fun _ => by first | omega | assumption), (fun _ => h_422r)⟩
                  · skip
                    have c_400i : r6.toInt ≠ 61 := bI_neq rfl (show (61 : Int32).toInt = 61 by decide) c_400
                    refine ok_ite (fun c_429 => ?_) (fun c_429 => ?_)
                    · skip
                      refine ok_bd2 (t_fX9_sum (t := t) (b := b) (h := h + 1) (o := o + 1) (by first | omega | assumption | decide | (show 0 ≤ (gI z15 12).toInt ∧ (gI z15 12).toInt ≤ (gI z15 1).toInt ∧ (gI z15 1).toInt ≤ 400; first | omega | assumption)) (by first | omega | assumption | decide | (show (gI z15 15).toInt = t ∧ t < 6; first | omega | assumption)) (by first | omega | assumption | decide | (show 0 ≤ (gT z15 4 t).toInt ∧ (gT z15 4 t).toInt + (o + 1) ≤ (gI z15 12).toInt; first | omega | assumption)) (by first | omega | assumption | decide | (show 0 ≤ (gI z15 16).toInt ∧ (gI z15 16).toInt ≤ 60 ∧ (h + 1) ≤ (gI z15 16).toInt; first | omega | assumption)) (rn_fr h_357 (by decide) (rn_I (rn_fr h_19 (by decide) u_17)))) (fun r20 z21 q_430 => ?_)
                      have h_431 : r20 = 0 ∨ r20 = 1 := q_430.1
                      have h_431i := bool_i h_431
                      have h_432 : FrL [3, 4, 12, 13, 14, 16] z15 z21 := q_430.2.1
                      have h_433 : (gI z15 12).toInt ≤ (gI z21 12).toInt ∧ (gI z21 12).toInt ≤ (gI z15 1).toInt := q_430.2.2.1
                      have h_434 : KP t z15 z21 := q_430.2.2.2.1
                      have h_434a : (gT z15 4 t).toInt ≤ (gT z21 4 t).toInt := h_434.1
                      have h_435 : r20.toInt = 0 → (gI z21 13).toInt ≠ 0 := q_430.2.2.2.2.1
                      have h_436 : r20.toInt = 1 → (gT z21 4 t).toInt + (o + 1) ≤ (gI z21 12).toInt ∧ (h + 1) + 1 ≤ (gI z21 16).toInt ∧ (gI z21 16).toInt ≤ 60 := q_430.2.2.2.2.2.1
                      have h_437 : r20.toInt = 1 → RN z21 t b ((h + 1) + 1) := q_430.2.2.2.2.2.2
                      clear q_430
                      have s_438 : (gI z21 1).toInt = (gI z15 1).toInt := congrArg Int32.toInt (h_432 1 (by decide)).1
                      have s_439 : (gI z21 15).toInt = (gI z15 15).toInt := congrArg Int32.toInt (h_432 15 (by decide)).1
                      refine ok_ite (fun c_440 => ?_) (fun c_440 => ?_)
                      · skip
                        have r_441 := n_rng r20
                        have c_440i : r20.toInt = 0 := bI_eq rfl (show (0 : Int32).toInt = 0 by decide) c_440
                        have u_442 : (gI z21 13).toInt ≠ 0 := h_435 (by omega)
                        try have e_443 : (0 : Int32).toInt = 0 := (show (0 : Int32).toInt = 0 by decide)
                        exact ok_some ⟨Or.inl rfl, (fr_tr (fr_tr (fr_I (fr_tr (fr_tr fr_rf h_3 (by decide)) h_19 (by decide)) (by decide)) h_357 (by decide)) h_432 (by decide)), (show (gI z_t 12).toInt ≤ (gI z21 12).toInt ∧ (gI z21 12).toInt ≤ (gI z_t 1).toInt by first | omega | assumption | trivial), (kp_tr (kp_fr (kp_I (kp_fr (kp_tr kp_rf h_5) h_19 (by decide))) h_357 (by decide)) h_434), (show (0 : Int32).toInt = 0 → (gI z21 13).toInt ≠ 0 from fun _ => by first | omega | assumption), (show (0 : Int32).toInt = 1 → (gT z21 4 t).toInt + o ≤ (gI z21 12).toInt ∧ h + 1 ≤ (gI z21 16).toInt ∧ (gI z21 16).toInt ≤ 60 from fun q => absurd q (by decide)), (show (0 : Int32).toInt = 1 → RN z21 t b (h + 1) from fun q => absurd q (by decide))⟩
                      · skip
                        have r_444 := n_rng r20
                        have c_440i : r20.toInt ≠ 0 := bI_neq rfl (show (0 : Int32).toInt = 0 by decide) c_440
                        have u_445 : (gT z21 4 t).toInt + (o + 1) ≤ (gI z21 12).toInt ∧ (h + 1) + 1 ≤ (gI z21 16).toInt ∧ (gI z21 16).toInt ≤ 60 := h_436 (by omega)
                        have u_446 : RN z21 t b ((h + 1) + 1) := h_437 (by omega)
                        have e_448 : (6 + 4).toInt = (6 + 4) := (i32_add (show (6 : Int32).toInt = 6 by decide) (show (4 : Int32).toInt = 4 by decide) (by omega) (by omega))
                        have e_449 : (0 : Int32).toInt = 0 := (show (0 : Int32).toInt = 0 by decide)
                        refine ok_bd (t_fX9_puts (t := t) (by first | omega | assumption | decide | (show (gI z21 15).toInt = t ∧ t < 6; first | omega | assumption)) (by first | omega | assumption | decide | (show 0 ≤ (gT z21 4 t).toInt ∧ (gT z21 4 t).toInt < 400; first | omega | assumption))) (fun z24 q_447 => ?_)
                        have h_450 : FrL [3, 4] z21 z24 := q_447.1
                        have h_451 : PUT t z21 z24 (((6 : Int32) + 4) + (16 * (0 : Int32))) := q_447.2
                        clear q_447
                        have s_452 : (gI z24 1).toInt = (gI z21 1).toInt := congrArg Int32.toInt (h_450 1 (by decide)).1
                        have s_453 : (gI z24 12).toInt = (gI z21 12).toInt := congrArg Int32.toInt (h_450 12 (by decide)).1
                        have s_454 : (gI z24 13).toInt = (gI z21 13).toInt := congrArg Int32.toInt (h_450 13 (by decide)).1
                        have s_455 : (gI z24 15).toInt = (gI z21 15).toInt := congrArg Int32.toInt (h_450 15 (by decide)).1
                        have s_456 : (gI z24 16).toInt = (gI z21 16).toInt := congrArg Int32.toInt (h_450 16 (by decide)).1
                        have h_451a := h_451.1
                        have h_451k := h_451.2.1
                        have h_451r : RN z24 t b ((h + 1)) := rn_put (by omega) h_451 u_446 (stp_bin (by omega) (by decide) (by decide) (by decide))
                        try have e_457 : (1 : Int32).toInt = 1 := (show (1 : Int32).toInt = 1 by decide)
                        exact ok_some ⟨Or.inr rfl, (fr_tr (fr_tr (fr_tr (fr_I (fr_tr (fr_tr fr_rf h_3 (by decide)) h_19 (by decide)) (by decide)) h_357 (by decide)) h_432 (by decide)) h_450 (by decide)), (show (gI z_t 12).toInt ≤ (gI z24 12).toInt ∧ (gI z24 12).toInt ≤ (gI z_t 1).toInt by first | omega | assumption | trivial), (kp_tr (kp_tr (kp_fr (kp_I (kp_fr (kp_tr kp_rf h_5) h_19 (by decide))) h_357 (by decide)) h_434) h_451k), (show (1 : Int32).toInt = 0 → (gI z24 13).toInt ≠ 0 from fun q => absurd q (by decide)), (show (1 : Int32).toInt = 1 → (gT z24 4 t).toInt + o ≤ (gI z24 12).toInt ∧ h + 1 ≤ (gI z24 16).toInt ∧ (gI z24 16).toInt ≤ 60 from fun _ => by first | omega | assumption), (fun _ => h_451r)⟩
                    · skip
                      exact absurd (by decide) c_429
            · skip
              exact absurd (by decide) c_354
    · skip
      have r_458 := n_rng r6
      have c_29i : r6.toInt ≠ 60 := bI_neq rfl (show (60 : Int32).toInt = 60 by decide) c_29
      refine ok_ite (fun c_459 => ?_) (fun c_459 => ?_)
      · skip
        have c_459i : r6.toInt = 61 := bI_eq rfl (show (61 : Int32).toInt = 61 by decide) c_459
        refine ok_jn ?_
        refine ok_jn ?_
        refine ok_ite (fun c_460 => ?_) (fun c_460 => ?_)
        · skip
          have c_460i : r6.toInt = 61 := bI_eq rfl (show (61 : Int32).toInt = 61 by decide) c_460
          refine ok_jn ?_
          refine ok_ite (fun c_461 => ?_) (fun c_461 => ?_)
          · skip
            refine ok_bd2 (t_fX9_makes (by first | omega | assumption | decide | (show 0 ≤ (gI z7 16).toInt ∧ (gI z7 16).toInt ≤ 60; first | omega | assumption)) (by first | omega | assumption | decide | (show 0 ≤ (gI z7 12).toInt ∧ (gI z7 12).toInt ≤ 400; first | omega | assumption))) (fun r14 z15 q_462 => ?_)
            have h_463 : r14 = 0 ∨ r14 = 1 := q_462.1
            have h_463i := bool_i h_463
            have h_464 : FrL [13, 16] (sI z7 12 ((gI z7 12) + 1)) z15 := q_462.2.1
            have h_465 : r14.toInt = 0 → (gI z15 13).toInt ≠ 0 := q_462.2.2.1
            have h_466 : r14.toInt = 1 → (gI z15 16).toInt = (gI z7 16).toInt + 1 ∧ (gI z15 16).toInt ≤ 60 := q_462.2.2.2
            clear q_462
            have s_467 : (gI z15 1).toInt = (gI z7 1).toInt := congrArg Int32.toInt (h_464 1 (by decide)).1
            have s_468 : (gI z15 12).toInt = ((gI z7 12) + 1).toInt := congrArg Int32.toInt (h_464 12 (by decide)).1
            have s_469 : (gI z15 15).toInt = (gI z7 15).toInt := congrArg Int32.toInt (h_464 15 (by decide)).1
            have s_470 : (gT z15 4 t).toInt = (gT z7 4 t).toInt := congrArg (fun f : Nat → Int32 => (f t).toInt) (h_464 4 (by decide)).2.1
            refine ok_ite (fun c_471 => ?_) (fun c_471 => ?_)
            · skip
              have r_472 := n_rng r14
              have c_471i : r14.toInt = 0 := bI_eq rfl (show (0 : Int32).toInt = 0 by decide) c_471
              have u_473 : (gI z15 13).toInt ≠ 0 := h_465 (by omega)
              try have e_474 : (0 : Int32).toInt = 0 := (show (0 : Int32).toInt = 0 by decide)
              exact ok_some ⟨Or.inl rfl, (fr_tr (fr_I (fr_tr (fr_tr fr_rf h_3 (by decide)) h_19 (by decide)) (by decide)) h_464 (by decide)), (show (gI z_t 12).toInt ≤ (gI z15 12).toInt ∧ (gI z15 12).toInt ≤ (gI z_t 1).toInt by first | omega | assumption | trivial), (kp_fr (kp_I (kp_fr (kp_tr kp_rf h_5) h_19 (by decide))) h_464 (by decide)), (show (0 : Int32).toInt = 0 → (gI z15 13).toInt ≠ 0 from fun _ => by first | omega | assumption), (show (0 : Int32).toInt = 1 → (gT z15 4 t).toInt + o ≤ (gI z15 12).toInt ∧ h + 1 ≤ (gI z15 16).toInt ∧ (gI z15 16).toInt ≤ 60 from fun q => absurd q (by decide)), (show (0 : Int32).toInt = 1 → RN z15 t b (h + 1) from fun q => absurd q (by decide))⟩
            · skip
              have r_475 := n_rng r14
              have c_471i : r14.toInt ≠ 0 := bI_neq rfl (show (0 : Int32).toInt = 0 by decide) c_471
              have u_476 : (gI z15 16).toInt = (gI z7 16).toInt + 1 ∧ (gI z15 16).toInt ≤ 60 := h_466 (by omega)
              refine ok_jn ?_
              refine ok_ite (fun c_477 => ?_) (fun c_477 => ?_)
              · skip
                have c_477i : r6.toInt = 60 := bI_eq rfl (show (60 : Int32).toInt = 60 by decide) c_477
                refine ok_ite (fun c_478 => ?_) (fun c_478 => ?_)
                · skip
                  refine ok_bd2 (t_fX9_sum (t := t) (b := b) (h := h + 1) (o := o + 1) (by first | omega | assumption | decide | (show 0 ≤ (gI z15 12).toInt ∧ (gI z15 12).toInt ≤ (gI z15 1).toInt ∧ (gI z15 1).toInt ≤ 400; first | omega | assumption)) (by first | omega | assumption | decide | (show (gI z15 15).toInt = t ∧ t < 6; first | omega | assumption)) (by first | omega | assumption | decide | (show 0 ≤ (gT z15 4 t).toInt ∧ (gT z15 4 t).toInt + (o + 1) ≤ (gI z15 12).toInt; first | omega | assumption)) (by first | omega | assumption | decide | (show 0 ≤ (gI z15 16).toInt ∧ (gI z15 16).toInt ≤ 60 ∧ (h + 1) ≤ (gI z15 16).toInt; first | omega | assumption)) (rn_fr h_464 (by decide) (rn_I (rn_fr h_19 (by decide) u_17)))) (fun r20 z21 q_479 => ?_)
                  have h_480 : r20 = 0 ∨ r20 = 1 := q_479.1
                  have h_480i := bool_i h_480
                  have h_481 : FrL [3, 4, 12, 13, 14, 16] z15 z21 := q_479.2.1
                  have h_482 : (gI z15 12).toInt ≤ (gI z21 12).toInt ∧ (gI z21 12).toInt ≤ (gI z15 1).toInt := q_479.2.2.1
                  have h_483 : KP t z15 z21 := q_479.2.2.2.1
                  have h_483a : (gT z15 4 t).toInt ≤ (gT z21 4 t).toInt := h_483.1
                  have h_484 : r20.toInt = 0 → (gI z21 13).toInt ≠ 0 := q_479.2.2.2.2.1
                  have h_485 : r20.toInt = 1 → (gT z21 4 t).toInt + (o + 1) ≤ (gI z21 12).toInt ∧ (h + 1) + 1 ≤ (gI z21 16).toInt ∧ (gI z21 16).toInt ≤ 60 := q_479.2.2.2.2.2.1
                  have h_486 : r20.toInt = 1 → RN z21 t b ((h + 1) + 1) := q_479.2.2.2.2.2.2
                  clear q_479
                  have s_487 : (gI z21 1).toInt = (gI z15 1).toInt := congrArg Int32.toInt (h_481 1 (by decide)).1
                  have s_488 : (gI z21 15).toInt = (gI z15 15).toInt := congrArg Int32.toInt (h_481 15 (by decide)).1
                  refine ok_ite (fun c_489 => ?_) (fun c_489 => ?_)
                  · skip
                    have r_490 := n_rng r20
                    have c_489i : r20.toInt = 0 := bI_eq rfl (show (0 : Int32).toInt = 0 by decide) c_489
                    have u_491 : (gI z21 13).toInt ≠ 0 := h_484 (by omega)
                    try have e_492 : (0 : Int32).toInt = 0 := (show (0 : Int32).toInt = 0 by decide)
                    exact ok_some ⟨Or.inl rfl, (fr_tr (fr_tr (fr_I (fr_tr (fr_tr fr_rf h_3 (by decide)) h_19 (by decide)) (by decide)) h_464 (by decide)) h_481 (by decide)), (show (gI z_t 12).toInt ≤ (gI z21 12).toInt ∧ (gI z21 12).toInt ≤ (gI z_t 1).toInt by first | omega | assumption | trivial), (kp_tr (kp_fr (kp_I (kp_fr (kp_tr kp_rf h_5) h_19 (by decide))) h_464 (by decide)) h_483), (show (0 : Int32).toInt = 0 → (gI z21 13).toInt ≠ 0 from fun _ => by first | omega | assumption), (show (0 : Int32).toInt = 1 → (gT z21 4 t).toInt + o ≤ (gI z21 12).toInt ∧ h + 1 ≤ (gI z21 16).toInt ∧ (gI z21 16).toInt ≤ 60 from fun q => absurd q (by decide)), (show (0 : Int32).toInt = 1 → RN z21 t b (h + 1) from fun q => absurd q (by decide))⟩
                  · skip
                    have r_493 := n_rng r20
                    have c_489i : r20.toInt ≠ 0 := bI_neq rfl (show (0 : Int32).toInt = 0 by decide) c_489
                    have u_494 : (gT z21 4 t).toInt + (o + 1) ≤ (gI z21 12).toInt ∧ (h + 1) + 1 ≤ (gI z21 16).toInt ∧ (gI z21 16).toInt ≤ 60 := h_485 (by omega)
                    have u_495 : RN z21 t b ((h + 1) + 1) := h_486 (by omega)
                    have e_497 : (6 + 0).toInt = (6 + 0) := (i32_add (show (6 : Int32).toInt = 6 by decide) (show (0 : Int32).toInt = 0 by decide) (by omega) (by omega))
                    have e_498 : (0 : Int32).toInt = 0 := (show (0 : Int32).toInt = 0 by decide)
                    refine ok_bd (t_fX9_puts (t := t) (by first | omega | assumption | decide | (show (gI z21 15).toInt = t ∧ t < 6; first | omega | assumption)) (by first | omega | assumption | decide | (show 0 ≤ (gT z21 4 t).toInt ∧ (gT z21 4 t).toInt < 400; first | omega | assumption))) (fun z24 q_496 => ?_)
                    have h_499 : FrL [3, 4] z21 z24 := q_496.1
                    have h_500 : PUT t z21 z24 (((6 : Int32) + 0) + (16 * (0 : Int32))) := q_496.2
                    clear q_496
                    have s_501 : (gI z24 1).toInt = (gI z21 1).toInt := congrArg Int32.toInt (h_499 1 (by decide)).1
                    have s_502 : (gI z24 12).toInt = (gI z21 12).toInt := congrArg Int32.toInt (h_499 12 (by decide)).1
                    have s_503 : (gI z24 13).toInt = (gI z21 13).toInt := congrArg Int32.toInt (h_499 13 (by decide)).1
                    have s_504 : (gI z24 15).toInt = (gI z21 15).toInt := congrArg Int32.toInt (h_499 15 (by decide)).1
                    have s_505 : (gI z24 16).toInt = (gI z21 16).toInt := congrArg Int32.toInt (h_499 16 (by decide)).1
                    have h_500a := h_500.1
                    have h_500k := h_500.2.1
                    have h_500r : RN z24 t b ((h + 1)) := rn_put (by omega) h_500 u_495 (stp_bin (by omega) (by decide) (by decide) (by decide))
                    try have e_506 : (1 : Int32).toInt = 1 := (show (1 : Int32).toInt = 1 by decide)
                    exact ok_some ⟨Or.inr rfl, (fr_tr (fr_tr (fr_tr (fr_I (fr_tr (fr_tr fr_rf h_3 (by decide)) h_19 (by decide)) (by decide)) h_464 (by decide)) h_481 (by decide)) h_499 (by decide)), (show (gI z_t 12).toInt ≤ (gI z24 12).toInt ∧ (gI z24 12).toInt ≤ (gI z_t 1).toInt by first | omega | assumption | trivial), (kp_tr (kp_tr (kp_fr (kp_I (kp_fr (kp_tr kp_rf h_5) h_19 (by decide))) h_464 (by decide)) h_483) h_500k), (show (1 : Int32).toInt = 0 → (gI z24 13).toInt ≠ 0 from fun q => absurd q (by decide)), (show (1 : Int32).toInt = 1 → (gT z24 4 t).toInt + o ≤ (gI z24 12).toInt ∧ h + 1 ≤ (gI z24 16).toInt ∧ (gI z24 16).toInt ≤ 60 from fun _ => by first | omega | assumption), (fun _ => h_500r)⟩
                · skip
                  exact absurd (by decide) c_478
              · skip
                have c_477i : r6.toInt ≠ 60 := bI_neq rfl (show (60 : Int32).toInt = 60 by decide) c_477
                refine ok_ite (fun c_507 => ?_) (fun c_507 => ?_)
                · skip
                  have c_507i : r6.toInt = 61 := bI_eq rfl (show (61 : Int32).toInt = 61 by decide) c_507
                  refine ok_bd2 (t_fX9_sum (t := t) (b := b) (h := h + 1) (o := o + 1) (by first | omega | assumption | decide | (show 0 ≤ (gI z15 12).toInt ∧ (gI z15 12).toInt ≤ (gI z15 1).toInt ∧ (gI z15 1).toInt ≤ 400; first | omega | assumption)) (by first | omega | assumption | decide | (show (gI z15 15).toInt = t ∧ t < 6; first | omega | assumption)) (by first | omega | assumption | decide | (show 0 ≤ (gT z15 4 t).toInt ∧ (gT z15 4 t).toInt + (o + 1) ≤ (gI z15 12).toInt; first | omega | assumption)) (by first | omega | assumption | decide | (show 0 ≤ (gI z15 16).toInt ∧ (gI z15 16).toInt ≤ 60 ∧ (h + 1) ≤ (gI z15 16).toInt; first | omega | assumption)) (rn_fr h_464 (by decide) (rn_I (rn_fr h_19 (by decide) u_17)))) (fun r20 z21 q_508 => ?_)
                  have h_509 : r20 = 0 ∨ r20 = 1 := q_508.1
                  have h_509i := bool_i h_509
                  have h_510 : FrL [3, 4, 12, 13, 14, 16] z15 z21 := q_508.2.1
                  have h_511 : (gI z15 12).toInt ≤ (gI z21 12).toInt ∧ (gI z21 12).toInt ≤ (gI z15 1).toInt := q_508.2.2.1
                  have h_512 : KP t z15 z21 := q_508.2.2.2.1
                  have h_512a : (gT z15 4 t).toInt ≤ (gT z21 4 t).toInt := h_512.1
                  have h_513 : r20.toInt = 0 → (gI z21 13).toInt ≠ 0 := q_508.2.2.2.2.1
                  have h_514 : r20.toInt = 1 → (gT z21 4 t).toInt + (o + 1) ≤ (gI z21 12).toInt ∧ (h + 1) + 1 ≤ (gI z21 16).toInt ∧ (gI z21 16).toInt ≤ 60 := q_508.2.2.2.2.2.1
                  have h_515 : r20.toInt = 1 → RN z21 t b ((h + 1) + 1) := q_508.2.2.2.2.2.2
                  clear q_508
                  have s_516 : (gI z21 1).toInt = (gI z15 1).toInt := congrArg Int32.toInt (h_510 1 (by decide)).1
                  have s_517 : (gI z21 15).toInt = (gI z15 15).toInt := congrArg Int32.toInt (h_510 15 (by decide)).1
                  refine ok_ite (fun c_518 => ?_) (fun c_518 => ?_)
                  · skip
                    have r_519 := n_rng r20
                    have c_518i : r20.toInt = 0 := bI_eq rfl (show (0 : Int32).toInt = 0 by decide) c_518
                    have u_520 : (gI z21 13).toInt ≠ 0 := h_513 (by omega)
                    try have e_521 : (0 : Int32).toInt = 0 := (show (0 : Int32).toInt = 0 by decide)
                    exact ok_some ⟨Or.inl rfl, (fr_tr (fr_tr (fr_I (fr_tr (fr_tr fr_rf h_3 (by decide)) h_19 (by decide)) (by decide)) h_464 (by decide)) h_510 (by decide)), (show (gI z_t 12).toInt ≤ (gI z21 12).toInt ∧ (gI z21 12).toInt ≤ (gI z_t 1).toInt by first | omega | assumption | trivial), (kp_tr (kp_fr (kp_I (kp_fr (kp_tr kp_rf h_5) h_19 (by decide))) h_464 (by decide)) h_512), (show (0 : Int32).toInt = 0 → (gI z21 13).toInt ≠ 0 from fun _ => by first | omega | assumption), (show (0 : Int32).toInt = 1 → (gT z21 4 t).toInt + o ≤ (gI z21 12).toInt ∧ h + 1 ≤ (gI z21 16).toInt ∧ (gI z21 16).toInt ≤ 60 from fun q => absurd q (by decide)), (show (0 : Int32).toInt = 1 → RN z21 t b (h + 1) from fun q => absurd q (by decide))⟩
                  · skip
                    have r_522 := n_rng r20
                    have c_518i : r20.toInt ≠ 0 := bI_neq rfl (show (0 : Int32).toInt = 0 by decide) c_518
                    have u_523 : (gT z21 4 t).toInt + (o + 1) ≤ (gI z21 12).toInt ∧ (h + 1) + 1 ≤ (gI z21 16).toInt ∧ (gI z21 16).toInt ≤ 60 := h_514 (by omega)
                    have u_524 : RN z21 t b ((h + 1) + 1) := h_515 (by omega)
                    have e_526 : (6 + 2).toInt = (6 + 2) := (i32_add (show (6 : Int32).toInt = 6 by decide) (show (2 : Int32).toInt = 2 by decide) (by omega) (by omega))
                    have e_527 : (0 : Int32).toInt = 0 := (show (0 : Int32).toInt = 0 by decide)
                    refine ok_bd (t_fX9_puts (t := t) (by first | omega | assumption | decide | (show (gI z21 15).toInt = t ∧ t < 6; first | omega | assumption)) (by first | omega | assumption | decide | (show 0 ≤ (gT z21 4 t).toInt ∧ (gT z21 4 t).toInt < 400; first | omega | assumption))) (fun z24 q_525 => ?_)
                    have h_528 : FrL [3, 4] z21 z24 := q_525.1
                    have h_529 : PUT t z21 z24 (((6 : Int32) + 2) + (16 * (0 : Int32))) := q_525.2
                    clear q_525
                    have s_530 : (gI z24 1).toInt = (gI z21 1).toInt := congrArg Int32.toInt (h_528 1 (by decide)).1
                    have s_531 : (gI z24 12).toInt = (gI z21 12).toInt := congrArg Int32.toInt (h_528 12 (by decide)).1
                    have s_532 : (gI z24 13).toInt = (gI z21 13).toInt := congrArg Int32.toInt (h_528 13 (by decide)).1
                    have s_533 : (gI z24 15).toInt = (gI z21 15).toInt := congrArg Int32.toInt (h_528 15 (by decide)).1
                    have s_534 : (gI z24 16).toInt = (gI z21 16).toInt := congrArg Int32.toInt (h_528 16 (by decide)).1
                    have h_529a := h_529.1
                    have h_529k := h_529.2.1
                    have h_529r : RN z24 t b ((h + 1)) := rn_put (by omega) h_529 u_524 (stp_bin (by omega) (by decide) (by decide) (by decide))
                    try have e_535 : (1 : Int32).toInt = 1 := (show (1 : Int32).toInt = 1 by decide)
                    exact ok_some ⟨Or.inr rfl, (fr_tr (fr_tr (fr_tr (fr_I (fr_tr (fr_tr fr_rf h_3 (by decide)) h_19 (by decide)) (by decide)) h_464 (by decide)) h_510 (by decide)) h_528 (by decide)), (show (gI z_t 12).toInt ≤ (gI z24 12).toInt ∧ (gI z24 12).toInt ≤ (gI z_t 1).toInt by first | omega | assumption | trivial), (kp_tr (kp_tr (kp_fr (kp_I (kp_fr (kp_tr kp_rf h_5) h_19 (by decide))) h_464 (by decide)) h_512) h_529k), (show (1 : Int32).toInt = 0 → (gI z24 13).toInt ≠ 0 from fun q => absurd q (by decide)), (show (1 : Int32).toInt = 1 → (gT z24 4 t).toInt + o ≤ (gI z24 12).toInt ∧ h + 1 ≤ (gI z24 16).toInt ∧ (gI z24 16).toInt ≤ 60 from fun _ => by first | omega | assumption), (fun _ => h_529r)⟩
                · skip
                  have c_507i : r6.toInt ≠ 61 := bI_neq rfl (show (61 : Int32).toInt = 61 by decide) c_507
                  refine ok_ite (fun c_536 => ?_) (fun c_536 => ?_)
                  · skip
                    refine ok_bd2 (t_fX9_sum (t := t) (b := b) (h := h + 1) (o := o + 1) (by first | omega | assumption | decide | (show 0 ≤ (gI z15 12).toInt ∧ (gI z15 12).toInt ≤ (gI z15 1).toInt ∧ (gI z15 1).toInt ≤ 400; first | omega | assumption)) (by first | omega | assumption | decide | (show (gI z15 15).toInt = t ∧ t < 6; first | omega | assumption)) (by first | omega | assumption | decide | (show 0 ≤ (gT z15 4 t).toInt ∧ (gT z15 4 t).toInt + (o + 1) ≤ (gI z15 12).toInt; first | omega | assumption)) (by first | omega | assumption | decide | (show 0 ≤ (gI z15 16).toInt ∧ (gI z15 16).toInt ≤ 60 ∧ (h + 1) ≤ (gI z15 16).toInt; first | omega | assumption)) (rn_fr h_464 (by decide) (rn_I (rn_fr h_19 (by decide) u_17)))) (fun r20 z21 q_537 => ?_)
                    have h_538 : r20 = 0 ∨ r20 = 1 := q_537.1
                    have h_538i := bool_i h_538
                    have h_539 : FrL [3, 4, 12, 13, 14, 16] z15 z21 := q_537.2.1
                    have h_540 : (gI z15 12).toInt ≤ (gI z21 12).toInt ∧ (gI z21 12).toInt ≤ (gI z15 1).toInt := q_537.2.2.1
                    have h_541 : KP t z15 z21 := q_537.2.2.2.1
                    have h_541a : (gT z15 4 t).toInt ≤ (gT z21 4 t).toInt := h_541.1
                    have h_542 : r20.toInt = 0 → (gI z21 13).toInt ≠ 0 := q_537.2.2.2.2.1
                    have h_543 : r20.toInt = 1 → (gT z21 4 t).toInt + (o + 1) ≤ (gI z21 12).toInt ∧ (h + 1) + 1 ≤ (gI z21 16).toInt ∧ (gI z21 16).toInt ≤ 60 := q_537.2.2.2.2.2.1
                    have h_544 : r20.toInt = 1 → RN z21 t b ((h + 1) + 1) := q_537.2.2.2.2.2.2
                    clear q_537
                    have s_545 : (gI z21 1).toInt = (gI z15 1).toInt := congrArg Int32.toInt (h_539 1 (by decide)).1
                    have s_546 : (gI z21 15).toInt = (gI z15 15).toInt := congrArg Int32.toInt (h_539 15 (by decide)).1
                    refine ok_ite (fun c_547 => ?_) (fun c_547 => ?_)
                    · skip
                      have r_548 := n_rng r20
                      have c_547i : r20.toInt = 0 := bI_eq rfl (show (0 : Int32).toInt = 0 by decide) c_547
                      have u_549 : (gI z21 13).toInt ≠ 0 := h_542 (by omega)
                      try have e_550 : (0 : Int32).toInt = 0 := (show (0 : Int32).toInt = 0 by decide)
                      exact ok_some ⟨Or.inl rfl, (fr_tr (fr_tr (fr_I (fr_tr (fr_tr fr_rf h_3 (by decide)) h_19 (by decide)) (by decide)) h_464 (by decide)) h_539 (by decide)), (show (gI z_t 12).toInt ≤ (gI z21 12).toInt ∧ (gI z21 12).toInt ≤ (gI z_t 1).toInt by first | omega | assumption | trivial), (kp_tr (kp_fr (kp_I (kp_fr (kp_tr kp_rf h_5) h_19 (by decide))) h_464 (by decide)) h_541), (show (0 : Int32).toInt = 0 → (gI z21 13).toInt ≠ 0 from fun _ => by first | omega | assumption), (show (0 : Int32).toInt = 1 → (gT z21 4 t).toInt + o ≤ (gI z21 12).toInt ∧ h + 1 ≤ (gI z21 16).toInt ∧ (gI z21 16).toInt ≤ 60 from fun q => absurd q (by decide)), (show (0 : Int32).toInt = 1 → RN z21 t b (h + 1) from fun q => absurd q (by decide))⟩
                    · skip
                      have r_551 := n_rng r20
                      have c_547i : r20.toInt ≠ 0 := bI_neq rfl (show (0 : Int32).toInt = 0 by decide) c_547
                      have u_552 : (gT z21 4 t).toInt + (o + 1) ≤ (gI z21 12).toInt ∧ (h + 1) + 1 ≤ (gI z21 16).toInt ∧ (gI z21 16).toInt ≤ 60 := h_543 (by omega)
                      have u_553 : RN z21 t b ((h + 1) + 1) := h_544 (by omega)
                      have e_555 : (6 + 4).toInt = (6 + 4) := (i32_add (show (6 : Int32).toInt = 6 by decide) (show (4 : Int32).toInt = 4 by decide) (by omega) (by omega))
                      have e_556 : (0 : Int32).toInt = 0 := (show (0 : Int32).toInt = 0 by decide)
                      refine ok_bd (t_fX9_puts (t := t) (by first | omega | assumption | decide | (show (gI z21 15).toInt = t ∧ t < 6; first | omega | assumption)) (by first | omega | assumption | decide | (show 0 ≤ (gT z21 4 t).toInt ∧ (gT z21 4 t).toInt < 400; first | omega | assumption))) (fun z24 q_554 => ?_)
                      have h_557 : FrL [3, 4] z21 z24 := q_554.1
                      have h_558 : PUT t z21 z24 (((6 : Int32) + 4) + (16 * (0 : Int32))) := q_554.2
                      clear q_554
                      have s_559 : (gI z24 1).toInt = (gI z21 1).toInt := congrArg Int32.toInt (h_557 1 (by decide)).1
                      have s_560 : (gI z24 12).toInt = (gI z21 12).toInt := congrArg Int32.toInt (h_557 12 (by decide)).1
                      have s_561 : (gI z24 13).toInt = (gI z21 13).toInt := congrArg Int32.toInt (h_557 13 (by decide)).1
                      have s_562 : (gI z24 15).toInt = (gI z21 15).toInt := congrArg Int32.toInt (h_557 15 (by decide)).1
                      have s_563 : (gI z24 16).toInt = (gI z21 16).toInt := congrArg Int32.toInt (h_557 16 (by decide)).1
                      have h_558a := h_558.1
                      have h_558k := h_558.2.1
                      have h_558r : RN z24 t b ((h + 1)) := rn_put (by omega) h_558 u_553 (stp_bin (by omega) (by decide) (by decide) (by decide))
                      try have e_564 : (1 : Int32).toInt = 1 := (show (1 : Int32).toInt = 1 by decide)
                      exact ok_some ⟨Or.inr rfl, (fr_tr (fr_tr (fr_tr (fr_I (fr_tr (fr_tr fr_rf h_3 (by decide)) h_19 (by decide)) (by decide)) h_464 (by decide)) h_539 (by decide)) h_557 (by decide)), (show (gI z_t 12).toInt ≤ (gI z24 12).toInt ∧ (gI z24 12).toInt ≤ (gI z_t 1).toInt by first | omega | assumption | trivial), (kp_tr (kp_tr (kp_fr (kp_I (kp_fr (kp_tr kp_rf h_5) h_19 (by decide))) h_464 (by decide)) h_541) h_558k), (show (1 : Int32).toInt = 0 → (gI z24 13).toInt ≠ 0 from fun q => absurd q (by decide)), (show (1 : Int32).toInt = 1 → (gT z24 4 t).toInt + o ≤ (gI z24 12).toInt ∧ h + 1 ≤ (gI z24 16).toInt ∧ (gI z24 16).toInt ≤ 60 from fun _ => by first | omega | assumption), (fun _ => h_558r)⟩
                  · skip
                    exact absurd (by decide) c_536
          · skip
            exact absurd (by decide) c_461
        · skip
          have c_460i : r6.toInt ≠ 61 := bI_neq rfl (show (61 : Int32).toInt = 61 by decide) c_460
          refine ok_ite (fun c_565 => ?_) (fun c_565 => ?_)
          · skip
            have r_566 := n_rng (gI z7 1)
            have r_567 := n_rng (gI z7 12)
            try have c_565i : (gI z7 1).toInt ≤ ((gI z7 12).toInt + 1) := bI_le rfl (i32_add rfl (show (1 : Int32).toInt = 1 by decide) (by omega) (by omega)) c_565
            refine ok_jn ?_
            refine ok_ite (fun c_568 => ?_) (fun c_568 => ?_)
            · skip
              refine ok_bd2 (t_fX9_makes (by first | omega | assumption | decide | (show 0 ≤ (gI z7 16).toInt ∧ (gI z7 16).toInt ≤ 60; first | omega | assumption)) (by first | omega | assumption | decide | (show 0 ≤ (gI z7 12).toInt ∧ (gI z7 12).toInt ≤ 400; first | omega | assumption))) (fun r14 z15 q_569 => ?_)
              have h_570 : r14 = 0 ∨ r14 = 1 := q_569.1
              have h_570i := bool_i h_570
              have h_571 : FrL [13, 16] (sI z7 12 ((gI z7 12) + 1)) z15 := q_569.2.1
              have h_572 : r14.toInt = 0 → (gI z15 13).toInt ≠ 0 := q_569.2.2.1
              have h_573 : r14.toInt = 1 → (gI z15 16).toInt = (gI z7 16).toInt + 1 ∧ (gI z15 16).toInt ≤ 60 := q_569.2.2.2
              clear q_569
              have s_574 : (gI z15 1).toInt = (gI z7 1).toInt := congrArg Int32.toInt (h_571 1 (by decide)).1
              have s_575 : (gI z15 12).toInt = ((gI z7 12) + 1).toInt := congrArg Int32.toInt (h_571 12 (by decide)).1
              have s_576 : (gI z15 15).toInt = (gI z7 15).toInt := congrArg Int32.toInt (h_571 15 (by decide)).1
              have s_577 : (gT z15 4 t).toInt = (gT z7 4 t).toInt := congrArg (fun f : Nat → Int32 => (f t).toInt) (h_571 4 (by decide)).2.1
              refine ok_ite (fun c_578 => ?_) (fun c_578 => ?_)
              · skip
                have r_579 := n_rng r14
                have c_578i : r14.toInt = 0 := bI_eq rfl (show (0 : Int32).toInt = 0 by decide) c_578
                have u_580 : (gI z15 13).toInt ≠ 0 := h_572 (by omega)
                try have e_581 : (0 : Int32).toInt = 0 := (show (0 : Int32).toInt = 0 by decide)
                exact ok_some ⟨Or.inl rfl, (fr_tr (fr_I (fr_tr (fr_tr fr_rf h_3 (by decide)) h_19 (by decide)) (by decide)) h_571 (by decide)), (show (gI z_t 12).toInt ≤ (gI z15 12).toInt ∧ (gI z15 12).toInt ≤ (gI z_t 1).toInt by first | omega | assumption | trivial), (kp_fr (kp_I (kp_fr (kp_tr kp_rf h_5) h_19 (by decide))) h_571 (by decide)), (show (0 : Int32).toInt = 0 → (gI z15 13).toInt ≠ 0 from fun _ => by first | omega | assumption), (show (0 : Int32).toInt = 1 → (gT z15 4 t).toInt + o ≤ (gI z15 12).toInt ∧ h + 1 ≤ (gI z15 16).toInt ∧ (gI z15 16).toInt ≤ 60 from fun q => absurd q (by decide)), (show (0 : Int32).toInt = 1 → RN z15 t b (h + 1) from fun q => absurd q (by decide))⟩
              · skip
                have r_582 := n_rng r14
                have c_578i : r14.toInt ≠ 0 := bI_neq rfl (show (0 : Int32).toInt = 0 by decide) c_578
                have u_583 : (gI z15 16).toInt = (gI z7 16).toInt + 1 ∧ (gI z15 16).toInt ≤ 60 := h_573 (by omega)
                refine ok_jn ?_
                refine ok_ite (fun c_584 => ?_) (fun c_584 => ?_)
                · skip
                  have c_584i : r6.toInt = 60 := bI_eq rfl (show (60 : Int32).toInt = 60 by decide) c_584
                  refine ok_ite (fun c_585 => ?_) (fun c_585 => ?_)
                  · skip
                    refine ok_bd2 (t_fX9_sum (t := t) (b := b) (h := h + 1) (o := o + 1) (by first | omega | assumption | decide | (show 0 ≤ (gI z15 12).toInt ∧ (gI z15 12).toInt ≤ (gI z15 1).toInt ∧ (gI z15 1).toInt ≤ 400; first | omega | assumption)) (by first | omega | assumption | decide | (show (gI z15 15).toInt = t ∧ t < 6; first | omega | assumption)) (by first | omega | assumption | decide | (show 0 ≤ (gT z15 4 t).toInt ∧ (gT z15 4 t).toInt + (o + 1) ≤ (gI z15 12).toInt; first | omega | assumption)) (by first | omega | assumption | decide | (show 0 ≤ (gI z15 16).toInt ∧ (gI z15 16).toInt ≤ 60 ∧ (h + 1) ≤ (gI z15 16).toInt; first | omega | assumption)) (rn_fr h_571 (by decide) (rn_I (rn_fr h_19 (by decide) u_17)))) (fun r20 z21 q_586 => ?_)
                    have h_587 : r20 = 0 ∨ r20 = 1 := q_586.1
                    have h_587i := bool_i h_587
                    have h_588 : FrL [3, 4, 12, 13, 14, 16] z15 z21 := q_586.2.1
                    have h_589 : (gI z15 12).toInt ≤ (gI z21 12).toInt ∧ (gI z21 12).toInt ≤ (gI z15 1).toInt := q_586.2.2.1
                    have h_590 : KP t z15 z21 := q_586.2.2.2.1
                    have h_590a : (gT z15 4 t).toInt ≤ (gT z21 4 t).toInt := h_590.1
                    have h_591 : r20.toInt = 0 → (gI z21 13).toInt ≠ 0 := q_586.2.2.2.2.1
                    have h_592 : r20.toInt = 1 → (gT z21 4 t).toInt + (o + 1) ≤ (gI z21 12).toInt ∧ (h + 1) + 1 ≤ (gI z21 16).toInt ∧ (gI z21 16).toInt ≤ 60 := q_586.2.2.2.2.2.1
                    have h_593 : r20.toInt = 1 → RN z21 t b ((h + 1) + 1) := q_586.2.2.2.2.2.2
                    clear q_586
                    have s_594 : (gI z21 1).toInt = (gI z15 1).toInt := congrArg Int32.toInt (h_588 1 (by decide)).1
                    have s_595 : (gI z21 15).toInt = (gI z15 15).toInt := congrArg Int32.toInt (h_588 15 (by decide)).1
                    refine ok_ite (fun c_596 => ?_) (fun c_596 => ?_)
                    · skip
                      have r_597 := n_rng r20
                      have c_596i : r20.toInt = 0 := bI_eq rfl (show (0 : Int32).toInt = 0 by decide) c_596
                      have u_598 : (gI z21 13).toInt ≠ 0 := h_591 (by omega)
                      try have e_599 : (0 : Int32).toInt = 0 := (show (0 : Int32).toInt = 0 by decide)
                      exact ok_some ⟨Or.inl rfl, (fr_tr (fr_tr (fr_I (fr_tr (fr_tr fr_rf h_3 (by decide)) h_19 (by decide)) (by decide)) h_571 (by decide)) h_588 (by decide)), (show (gI z_t 12).toInt ≤ (gI z21 12).toInt ∧ (gI z21 12).toInt ≤ (gI z_t 1).toInt by first | omega | assumption | trivial), (kp_tr (kp_fr (kp_I (kp_fr (kp_tr kp_rf h_5) h_19 (by decide))) h_571 (by decide)) h_590), (show (0 : Int32).toInt = 0 → (gI z21 13).toInt ≠ 0 from fun _ => by first | omega | assumption), (show (0 : Int32).toInt = 1 → (gT z21 4 t).toInt + o ≤ (gI z21 12).toInt ∧ h + 1 ≤ (gI z21 16).toInt ∧ (gI z21 16).toInt ≤ 60 from fun q => absurd q (by decide)), (show (0 : Int32).toInt = 1 → RN z21 t b (h + 1) from fun q => absurd q (by decide))⟩
                    · skip
                      have r_600 := n_rng r20
                      have c_596i : r20.toInt ≠ 0 := bI_neq rfl (show (0 : Int32).toInt = 0 by decide) c_596
                      have u_601 : (gT z21 4 t).toInt + (o + 1) ≤ (gI z21 12).toInt ∧ (h + 1) + 1 ≤ (gI z21 16).toInt ∧ (gI z21 16).toInt ≤ 60 := h_592 (by omega)
                      have u_602 : RN z21 t b ((h + 1) + 1) := h_593 (by omega)
                      have e_604 : (6 + 0).toInt = (6 + 0) := (i32_add (show (6 : Int32).toInt = 6 by decide) (show (0 : Int32).toInt = 0 by decide) (by omega) (by omega))
                      have e_605 : (0 : Int32).toInt = 0 := (show (0 : Int32).toInt = 0 by decide)
                      refine ok_bd (t_fX9_puts (t := t) (by first | omega | assumption | decide | (show (gI z21 15).toInt = t ∧ t < 6; first | omega | assumption)) (by first | omega | assumption | decide | (show 0 ≤ (gT z21 4 t).toInt ∧ (gT z21 4 t).toInt < 400; first | omega | assumption))) (fun z24 q_603 => ?_)
                      have h_606 : FrL [3, 4] z21 z24 := q_603.1
                      have h_607 : PUT t z21 z24 (((6 : Int32) + 0) + (16 * (0 : Int32))) := q_603.2
                      clear q_603
                      have s_608 : (gI z24 1).toInt = (gI z21 1).toInt := congrArg Int32.toInt (h_606 1 (by decide)).1
                      have s_609 : (gI z24 12).toInt = (gI z21 12).toInt := congrArg Int32.toInt (h_606 12 (by decide)).1
                      have s_610 : (gI z24 13).toInt = (gI z21 13).toInt := congrArg Int32.toInt (h_606 13 (by decide)).1
                      have s_611 : (gI z24 15).toInt = (gI z21 15).toInt := congrArg Int32.toInt (h_606 15 (by decide)).1
                      have s_612 : (gI z24 16).toInt = (gI z21 16).toInt := congrArg Int32.toInt (h_606 16 (by decide)).1
                      have h_607a := h_607.1
                      have h_607k := h_607.2.1
                      have h_607r : RN z24 t b ((h + 1)) := rn_put (by omega) h_607 u_602 (stp_bin (by omega) (by decide) (by decide) (by decide))
                      try have e_613 : (1 : Int32).toInt = 1 := (show (1 : Int32).toInt = 1 by decide)
                      exact ok_some ⟨Or.inr rfl, (fr_tr (fr_tr (fr_tr (fr_I (fr_tr (fr_tr fr_rf h_3 (by decide)) h_19 (by decide)) (by decide)) h_571 (by decide)) h_588 (by decide)) h_606 (by decide)), (show (gI z_t 12).toInt ≤ (gI z24 12).toInt ∧ (gI z24 12).toInt ≤ (gI z_t 1).toInt by first | omega | assumption | trivial), (kp_tr (kp_tr (kp_fr (kp_I (kp_fr (kp_tr kp_rf h_5) h_19 (by decide))) h_571 (by decide)) h_590) h_607k), (show (1 : Int32).toInt = 0 → (gI z24 13).toInt ≠ 0 from fun q => absurd q (by decide)), (show (1 : Int32).toInt = 1 → (gT z24 4 t).toInt + o ≤ (gI z24 12).toInt ∧ h + 1 ≤ (gI z24 16).toInt ∧ (gI z24 16).toInt ≤ 60 from fun _ => by first | omega | assumption), (fun _ => h_607r)⟩
                  · skip
                    exact absurd (by decide) c_585
                · skip
                  have c_584i : r6.toInt ≠ 60 := bI_neq rfl (show (60 : Int32).toInt = 60 by decide) c_584
                  refine ok_ite (fun c_614 => ?_) (fun c_614 => ?_)
                  · skip
                    have c_614i : r6.toInt = 61 := bI_eq rfl (show (61 : Int32).toInt = 61 by decide) c_614
                    refine ok_bd2 (t_fX9_sum (t := t) (b := b) (h := h + 1) (o := o + 1) (by first | omega | assumption | decide | (show 0 ≤ (gI z15 12).toInt ∧ (gI z15 12).toInt ≤ (gI z15 1).toInt ∧ (gI z15 1).toInt ≤ 400; first | omega | assumption)) (by first | omega | assumption | decide | (show (gI z15 15).toInt = t ∧ t < 6; first | omega | assumption)) (by first | omega | assumption | decide | (show 0 ≤ (gT z15 4 t).toInt ∧ (gT z15 4 t).toInt + (o + 1) ≤ (gI z15 12).toInt; first | omega | assumption)) (by first | omega | assumption | decide | (show 0 ≤ (gI z15 16).toInt ∧ (gI z15 16).toInt ≤ 60 ∧ (h + 1) ≤ (gI z15 16).toInt; first | omega | assumption)) (rn_fr h_571 (by decide) (rn_I (rn_fr h_19 (by decide) u_17)))) (fun r20 z21 q_615 => ?_)
                    have h_616 : r20 = 0 ∨ r20 = 1 := q_615.1
                    have h_616i := bool_i h_616
                    have h_617 : FrL [3, 4, 12, 13, 14, 16] z15 z21 := q_615.2.1
                    have h_618 : (gI z15 12).toInt ≤ (gI z21 12).toInt ∧ (gI z21 12).toInt ≤ (gI z15 1).toInt := q_615.2.2.1
                    have h_619 : KP t z15 z21 := q_615.2.2.2.1
                    have h_619a : (gT z15 4 t).toInt ≤ (gT z21 4 t).toInt := h_619.1
                    have h_620 : r20.toInt = 0 → (gI z21 13).toInt ≠ 0 := q_615.2.2.2.2.1
                    have h_621 : r20.toInt = 1 → (gT z21 4 t).toInt + (o + 1) ≤ (gI z21 12).toInt ∧ (h + 1) + 1 ≤ (gI z21 16).toInt ∧ (gI z21 16).toInt ≤ 60 := q_615.2.2.2.2.2.1
                    have h_622 : r20.toInt = 1 → RN z21 t b ((h + 1) + 1) := q_615.2.2.2.2.2.2
                    clear q_615
                    have s_623 : (gI z21 1).toInt = (gI z15 1).toInt := congrArg Int32.toInt (h_617 1 (by decide)).1
                    have s_624 : (gI z21 15).toInt = (gI z15 15).toInt := congrArg Int32.toInt (h_617 15 (by decide)).1
                    refine ok_ite (fun c_625 => ?_) (fun c_625 => ?_)
                    · skip
                      have r_626 := n_rng r20
                      have c_625i : r20.toInt = 0 := bI_eq rfl (show (0 : Int32).toInt = 0 by decide) c_625
                      have u_627 : (gI z21 13).toInt ≠ 0 := h_620 (by omega)
                      try have e_628 : (0 : Int32).toInt = 0 := (show (0 : Int32).toInt = 0 by decide)
                      exact ok_some ⟨Or.inl rfl, (fr_tr (fr_tr (fr_I (fr_tr (fr_tr fr_rf h_3 (by decide)) h_19 (by decide)) (by decide)) h_571 (by decide)) h_617 (by decide)), (show (gI z_t 12).toInt ≤ (gI z21 12).toInt ∧ (gI z21 12).toInt ≤ (gI z_t 1).toInt by first | omega | assumption | trivial), (kp_tr (kp_fr (kp_I (kp_fr (kp_tr kp_rf h_5) h_19 (by decide))) h_571 (by decide)) h_619), (show (0 : Int32).toInt = 0 → (gI z21 13).toInt ≠ 0 from fun _ => by first | omega | assumption), (show (0 : Int32).toInt = 1 → (gT z21 4 t).toInt + o ≤ (gI z21 12).toInt ∧ h + 1 ≤ (gI z21 16).toInt ∧ (gI z21 16).toInt ≤ 60 from fun q => absurd q (by decide)), (show (0 : Int32).toInt = 1 → RN z21 t b (h + 1) from fun q => absurd q (by decide))⟩
                    · skip
                      have r_629 := n_rng r20
                      have c_625i : r20.toInt ≠ 0 := bI_neq rfl (show (0 : Int32).toInt = 0 by decide) c_625
                      have u_630 : (gT z21 4 t).toInt + (o + 1) ≤ (gI z21 12).toInt ∧ (h + 1) + 1 ≤ (gI z21 16).toInt ∧ (gI z21 16).toInt ≤ 60 := h_621 (by omega)
                      have u_631 : RN z21 t b ((h + 1) + 1) := h_622 (by omega)
                      have e_633 : (6 + 2).toInt = (6 + 2) := (i32_add (show (6 : Int32).toInt = 6 by decide) (show (2 : Int32).toInt = 2 by decide) (by omega) (by omega))
                      have e_634 : (0 : Int32).toInt = 0 := (show (0 : Int32).toInt = 0 by decide)
                      refine ok_bd (t_fX9_puts (t := t) (by first | omega | assumption | decide | (show (gI z21 15).toInt = t ∧ t < 6; first | omega | assumption)) (by first | omega | assumption | decide | (show 0 ≤ (gT z21 4 t).toInt ∧ (gT z21 4 t).toInt < 400; first | omega | assumption))) (fun z24 q_632 => ?_)
                      have h_635 : FrL [3, 4] z21 z24 := q_632.1
                      have h_636 : PUT t z21 z24 (((6 : Int32) + 2) + (16 * (0 : Int32))) := q_632.2
                      clear q_632
                      have s_637 : (gI z24 1).toInt = (gI z21 1).toInt := congrArg Int32.toInt (h_635 1 (by decide)).1
                      have s_638 : (gI z24 12).toInt = (gI z21 12).toInt := congrArg Int32.toInt (h_635 12 (by decide)).1
                      have s_639 : (gI z24 13).toInt = (gI z21 13).toInt := congrArg Int32.toInt (h_635 13 (by decide)).1
                      have s_640 : (gI z24 15).toInt = (gI z21 15).toInt := congrArg Int32.toInt (h_635 15 (by decide)).1
                      have s_641 : (gI z24 16).toInt = (gI z21 16).toInt := congrArg Int32.toInt (h_635 16 (by decide)).1
                      have h_636a := h_636.1
                      have h_636k := h_636.2.1
                      have h_636r : RN z24 t b ((h + 1)) := rn_put (by omega) h_636 u_631 (stp_bin (by omega) (by decide) (by decide) (by decide))
                      try have e_642 : (1 : Int32).toInt = 1 := (show (1 : Int32).toInt = 1 by decide)
                      exact ok_some ⟨Or.inr rfl, (fr_tr (fr_tr (fr_tr (fr_I (fr_tr (fr_tr fr_rf h_3 (by decide)) h_19 (by decide)) (by decide)) h_571 (by decide)) h_617 (by decide)) h_635 (by decide)), (show (gI z_t 12).toInt ≤ (gI z24 12).toInt ∧ (gI z24 12).toInt ≤ (gI z_t 1).toInt by first | omega | assumption | trivial), (kp_tr (kp_tr (kp_fr (kp_I (kp_fr (kp_tr kp_rf h_5) h_19 (by decide))) h_571 (by decide)) h_619) h_636k), (show (1 : Int32).toInt = 0 → (gI z24 13).toInt ≠ 0 from fun q => absurd q (by decide)), (show (1 : Int32).toInt = 1 → (gT z24 4 t).toInt + o ≤ (gI z24 12).toInt ∧ h + 1 ≤ (gI z24 16).toInt ∧ (gI z24 16).toInt ≤ 60 from fun _ => by first | omega | assumption), (fun _ => h_636r)⟩
                  · skip
                    have c_614i : r6.toInt ≠ 61 := bI_neq rfl (show (61 : Int32).toInt = 61 by decide) c_614
                    refine ok_ite (fun c_643 => ?_) (fun c_643 => ?_)
                    · skip
                      refine ok_bd2 (t_fX9_sum (t := t) (b := b) (h := h + 1) (o := o + 1) (by first | omega | assumption | decide | (show 0 ≤ (gI z15 12).toInt ∧ (gI z15 12).toInt ≤ (gI z15 1).toInt ∧ (gI z15 1).toInt ≤ 400; first | omega | assumption)) (by first | omega | assumption | decide | (show (gI z15 15).toInt = t ∧ t < 6; first | omega | assumption)) (by first | omega | assumption | decide | (show 0 ≤ (gT z15 4 t).toInt ∧ (gT z15 4 t).toInt + (o + 1) ≤ (gI z15 12).toInt; first | omega | assumption)) (by first | omega | assumption | decide | (show 0 ≤ (gI z15 16).toInt ∧ (gI z15 16).toInt ≤ 60 ∧ (h + 1) ≤ (gI z15 16).toInt; first | omega | assumption)) (rn_fr h_571 (by decide) (rn_I (rn_fr h_19 (by decide) u_17)))) (fun r20 z21 q_644 => ?_)
                      have h_645 : r20 = 0 ∨ r20 = 1 := q_644.1
                      have h_645i := bool_i h_645
                      have h_646 : FrL [3, 4, 12, 13, 14, 16] z15 z21 := q_644.2.1
                      have h_647 : (gI z15 12).toInt ≤ (gI z21 12).toInt ∧ (gI z21 12).toInt ≤ (gI z15 1).toInt := q_644.2.2.1
                      have h_648 : KP t z15 z21 := q_644.2.2.2.1
                      have h_648a : (gT z15 4 t).toInt ≤ (gT z21 4 t).toInt := h_648.1
                      have h_649 : r20.toInt = 0 → (gI z21 13).toInt ≠ 0 := q_644.2.2.2.2.1
                      have h_650 : r20.toInt = 1 → (gT z21 4 t).toInt + (o + 1) ≤ (gI z21 12).toInt ∧ (h + 1) + 1 ≤ (gI z21 16).toInt ∧ (gI z21 16).toInt ≤ 60 := q_644.2.2.2.2.2.1
                      have h_651 : r20.toInt = 1 → RN z21 t b ((h + 1) + 1) := q_644.2.2.2.2.2.2
                      clear q_644
                      have s_652 : (gI z21 1).toInt = (gI z15 1).toInt := congrArg Int32.toInt (h_646 1 (by decide)).1
                      have s_653 : (gI z21 15).toInt = (gI z15 15).toInt := congrArg Int32.toInt (h_646 15 (by decide)).1
                      refine ok_ite (fun c_654 => ?_) (fun c_654 => ?_)
                      · skip
                        have r_655 := n_rng r20
                        have c_654i : r20.toInt = 0 := bI_eq rfl (show (0 : Int32).toInt = 0 by decide) c_654
                        have u_656 : (gI z21 13).toInt ≠ 0 := h_649 (by omega)
                        try have e_657 : (0 : Int32).toInt = 0 := (show (0 : Int32).toInt = 0 by decide)
                        exact ok_some ⟨Or.inl rfl, (fr_tr (fr_tr (fr_I (fr_tr (fr_tr fr_rf h_3 (by decide)) h_19 (by decide)) (by decide)) h_571 (by decide)) h_646 (by decide)), (show (gI z_t 12).toInt ≤ (gI z21 12).toInt ∧ (gI z21 12).toInt ≤ (gI z_t 1).toInt by first | omega | assumption | trivial), (kp_tr (kp_fr (kp_I (kp_fr (kp_tr kp_rf h_5) h_19 (by decide))) h_571 (by decide)) h_648), (show (0 : Int32).toInt = 0 → (gI z21 13).toInt ≠ 0 from fun _ => by first | omega | assumption), (show (0 : Int32).toInt = 1 → (gT z21 4 t).toInt + o ≤ (gI z21 12).toInt ∧ h + 1 ≤ (gI z21 16).toInt ∧ (gI z21 16).toInt ≤ 60 from fun q => absurd q (by decide)), (show (0 : Int32).toInt = 1 → RN z21 t b (h + 1) from fun q => absurd q (by decide))⟩
                      · skip
                        have r_658 := n_rng r20
                        have c_654i : r20.toInt ≠ 0 := bI_neq rfl (show (0 : Int32).toInt = 0 by decide) c_654
                        have u_659 : (gT z21 4 t).toInt + (o + 1) ≤ (gI z21 12).toInt ∧ (h + 1) + 1 ≤ (gI z21 16).toInt ∧ (gI z21 16).toInt ≤ 60 := h_650 (by omega)
                        have u_660 : RN z21 t b ((h + 1) + 1) := h_651 (by omega)
                        have e_662 : (6 + 4).toInt = (6 + 4) := (i32_add (show (6 : Int32).toInt = 6 by decide) (show (4 : Int32).toInt = 4 by decide) (by omega) (by omega))
                        have e_663 : (0 : Int32).toInt = 0 := (show (0 : Int32).toInt = 0 by decide)
                        refine ok_bd (t_fX9_puts (t := t) (by first | omega | assumption | decide | (show (gI z21 15).toInt = t ∧ t < 6; first | omega | assumption)) (by first | omega | assumption | decide | (show 0 ≤ (gT z21 4 t).toInt ∧ (gT z21 4 t).toInt < 400; first | omega | assumption))) (fun z24 q_661 => ?_)
                        have h_664 : FrL [3, 4] z21 z24 := q_661.1
                        have h_665 : PUT t z21 z24 (((6 : Int32) + 4) + (16 * (0 : Int32))) := q_661.2
                        clear q_661
                        have s_666 : (gI z24 1).toInt = (gI z21 1).toInt := congrArg Int32.toInt (h_664 1 (by decide)).1
                        have s_667 : (gI z24 12).toInt = (gI z21 12).toInt := congrArg Int32.toInt (h_664 12 (by decide)).1
                        have s_668 : (gI z24 13).toInt = (gI z21 13).toInt := congrArg Int32.toInt (h_664 13 (by decide)).1
                        have s_669 : (gI z24 15).toInt = (gI z21 15).toInt := congrArg Int32.toInt (h_664 15 (by decide)).1
                        have s_670 : (gI z24 16).toInt = (gI z21 16).toInt := congrArg Int32.toInt (h_664 16 (by decide)).1
                        have h_665a := h_665.1
                        have h_665k := h_665.2.1
                        have h_665r : RN z24 t b ((h + 1)) := rn_put (by omega) h_665 u_660 (stp_bin (by omega) (by decide) (by decide) (by decide))
                        try have e_671 : (1 : Int32).toInt = 1 := (show (1 : Int32).toInt = 1 by decide)
                        exact ok_some ⟨Or.inr rfl, (fr_tr (fr_tr (fr_tr (fr_I (fr_tr (fr_tr fr_rf h_3 (by decide)) h_19 (by decide)) (by decide)) h_571 (by decide)) h_646 (by decide)) h_664 (by decide)), (show (gI z_t 12).toInt ≤ (gI z24 12).toInt ∧ (gI z24 12).toInt ≤ (gI z_t 1).toInt by first | omega | assumption | trivial), (kp_tr (kp_tr (kp_fr (kp_I (kp_fr (kp_tr kp_rf h_5) h_19 (by decide))) h_571 (by decide)) h_648) h_665k), (show (1 : Int32).toInt = 0 → (gI z24 13).toInt ≠ 0 from fun q => absurd q (by decide)), (show (1 : Int32).toInt = 1 → (gT z24 4 t).toInt + o ≤ (gI z24 12).toInt ∧ h + 1 ≤ (gI z24 16).toInt ∧ (gI z24 16).toInt ≤ 60 from fun _ => by first | omega | assumption), (fun _ => h_665r)⟩
                    · skip
                      exact absurd (by decide) c_643
            · skip
              exact absurd (by decide) c_568
          · skip
            have r_672 := n_rng (gI z7 1)
            have r_673 := n_rng (gI z7 12)
            try have c_565i : (gI z7 1).toInt > ((gI z7 12).toInt + 1) := bI_nle rfl (i32_add rfl (show (1 : Int32).toInt = 1 by decide) (by omega) (by omega)) c_565
            have e_674 : ((gI z7 12) + 1).toInt = ((gI z7 12).toInt + 1) := (i32_add rfl (show (1 : Int32).toInt = 1 by decide) (by omega) (by omega))
            refine ok_gd (inb_of (by omega) (by omega)) ?_
            have i_675 : (((gI z7 12) + 1).toNatClampNeg : Int) = ((gI z7 12) + 1).toInt := clampI (by omega)
            refine ok_ite (fun c_676 => ?_) (fun c_676 => ?_)
            · skip
              have r_677 := n_rng (gT z7 0 ((gI z7 12) + 1).toNatClampNeg)
              have c_676i : (gT z7 0 ((gI z7 12) + 1).toNatClampNeg).toInt = 61 := bI_eq rfl (show (61 : Int32).toInt = 61 by decide) c_676
              refine ok_jn ?_
              refine ok_ite (fun c_678 => ?_) (fun c_678 => ?_)
              · skip
                exact absurd c_678 (by decide)
              · skip
                refine ok_bd2 (t_fX9_makes (by first | omega | assumption | decide | (show 0 ≤ (gI z7 16).toInt ∧ (gI z7 16).toInt ≤ 60; first | omega | assumption)) (by first | omega | assumption | decide | (show 0 ≤ (gI z7 12).toInt ∧ (gI z7 12).toInt ≤ 400; first | omega | assumption))) (fun r14 z15 q_679 => ?_)
                have h_680 : r14 = 0 ∨ r14 = 1 := q_679.1
                have h_680i := bool_i h_680
                have h_681 : FrL [13, 16] (sI (sI z7 12 ((gI z7 12) + 1)) 12 (((gI z7 12) + 1) + 1)) z15 := q_679.2.1
                have h_682 : r14.toInt = 0 → (gI z15 13).toInt ≠ 0 := q_679.2.2.1
                have h_683 : r14.toInt = 1 → (gI z15 16).toInt = (gI z7 16).toInt + 1 ∧ (gI z15 16).toInt ≤ 60 := q_679.2.2.2
                clear q_679
                have s_684 : (gI z15 1).toInt = (gI z7 1).toInt := congrArg Int32.toInt (h_681 1 (by decide)).1
                have s_685 : (gI z15 12).toInt = (((gI z7 12) + 1) + 1).toInt := congrArg Int32.toInt (h_681 12 (by decide)).1
                have s_686 : (gI z15 15).toInt = (gI z7 15).toInt := congrArg Int32.toInt (h_681 15 (by decide)).1
                have s_687 : (gT z15 4 t).toInt = (gT z7 4 t).toInt := congrArg (fun f : Nat → Int32 => (f t).toInt) (h_681 4 (by decide)).2.1
                refine ok_ite (fun c_688 => ?_) (fun c_688 => ?_)
                · skip
                  have r_689 := n_rng r14
                  have c_688i : r14.toInt = 0 := bI_eq rfl (show (0 : Int32).toInt = 0 by decide) c_688
                  have u_690 : (gI z15 13).toInt ≠ 0 := h_682 (by omega)
                  try have e_691 : (0 : Int32).toInt = 0 := (show (0 : Int32).toInt = 0 by decide)
                  exact ok_some ⟨Or.inl rfl, (fr_tr (fr_I (fr_I (fr_tr (fr_tr fr_rf h_3 (by decide)) h_19 (by decide)) (by decide)) (by decide)) h_681 (by decide)), (show (gI z_t 12).toInt ≤ (gI z15 12).toInt ∧ (gI z15 12).toInt ≤ (gI z_t 1).toInt by first | omega | assumption | trivial), (kp_fr (kp_I (kp_I (kp_fr (kp_tr kp_rf h_5) h_19 (by decide)))) h_681 (by decide)), (show (0 : Int32).toInt = 0 → (gI z15 13).toInt ≠ 0 from fun _ => by first | omega | assumption), (show (0 : Int32).toInt = 1 → (gT z15 4 t).toInt + o ≤ (gI z15 12).toInt ∧ h + 1 ≤ (gI z15 16).toInt ∧ (gI z15 16).toInt ≤ 60 from fun q => absurd q (by decide)), (show (0 : Int32).toInt = 1 → RN z15 t b (h + 1) from fun q => absurd q (by decide))⟩
                · skip
                  have r_692 := n_rng r14
                  have c_688i : r14.toInt ≠ 0 := bI_neq rfl (show (0 : Int32).toInt = 0 by decide) c_688
                  have u_693 : (gI z15 16).toInt = (gI z7 16).toInt + 1 ∧ (gI z15 16).toInt ≤ 60 := h_683 (by omega)
                  refine ok_jn ?_
                  refine ok_ite (fun c_694 => ?_) (fun c_694 => ?_)
                  · skip
                    have c_694i : r6.toInt = 60 := bI_eq rfl (show (60 : Int32).toInt = 60 by decide) c_694
                    refine ok_ite (fun c_695 => ?_) (fun c_695 => ?_)
                    · skip
                      exact absurd c_695 (by decide)
                    · skip
                      refine ok_bd2 (t_fX9_sum (t := t) (b := b) (h := h + 1) (o := o + 1) (by first | omega | assumption | decide | (show 0 ≤ (gI z15 12).toInt ∧ (gI z15 12).toInt ≤ (gI z15 1).toInt ∧ (gI z15 1).toInt ≤ 400; first | omega | assumption)) (by first | omega | assumption | decide | (show (gI z15 15).toInt = t ∧ t < 6; first | omega | assumption)) (by first | omega | assumption | decide | (show 0 ≤ (gT z15 4 t).toInt ∧ (gT z15 4 t).toInt + (o + 1) ≤ (gI z15 12).toInt; first | omega | assumption)) (by first | omega | assumption | decide | (show 0 ≤ (gI z15 16).toInt ∧ (gI z15 16).toInt ≤ 60 ∧ (h + 1) ≤ (gI z15 16).toInt; first | omega | assumption)) (rn_fr h_681 (by decide) (rn_I (rn_I (rn_fr h_19 (by decide) u_17))))) (fun r20 z21 q_696 => ?_)
                      have h_697 : r20 = 0 ∨ r20 = 1 := q_696.1
                      have h_697i := bool_i h_697
                      have h_698 : FrL [3, 4, 12, 13, 14, 16] z15 z21 := q_696.2.1
                      have h_699 : (gI z15 12).toInt ≤ (gI z21 12).toInt ∧ (gI z21 12).toInt ≤ (gI z15 1).toInt := q_696.2.2.1
                      have h_700 : KP t z15 z21 := q_696.2.2.2.1
                      have h_700a : (gT z15 4 t).toInt ≤ (gT z21 4 t).toInt := h_700.1
                      have h_701 : r20.toInt = 0 → (gI z21 13).toInt ≠ 0 := q_696.2.2.2.2.1
                      have h_702 : r20.toInt = 1 → (gT z21 4 t).toInt + (o + 1) ≤ (gI z21 12).toInt ∧ (h + 1) + 1 ≤ (gI z21 16).toInt ∧ (gI z21 16).toInt ≤ 60 := q_696.2.2.2.2.2.1
                      have h_703 : r20.toInt = 1 → RN z21 t b ((h + 1) + 1) := q_696.2.2.2.2.2.2
                      clear q_696
                      have s_704 : (gI z21 1).toInt = (gI z15 1).toInt := congrArg Int32.toInt (h_698 1 (by decide)).1
                      have s_705 : (gI z21 15).toInt = (gI z15 15).toInt := congrArg Int32.toInt (h_698 15 (by decide)).1
                      refine ok_ite (fun c_706 => ?_) (fun c_706 => ?_)
                      · skip
                        have r_707 := n_rng r20
                        have c_706i : r20.toInt = 0 := bI_eq rfl (show (0 : Int32).toInt = 0 by decide) c_706
                        have u_708 : (gI z21 13).toInt ≠ 0 := h_701 (by omega)
                        try have e_709 : (0 : Int32).toInt = 0 := (show (0 : Int32).toInt = 0 by decide)
                        exact ok_some ⟨Or.inl rfl, (fr_tr (fr_tr (fr_I (fr_I (fr_tr (fr_tr fr_rf h_3 (by decide)) h_19 (by decide)) (by decide)) (by decide)) h_681 (by decide)) h_698 (by decide)), (show (gI z_t 12).toInt ≤ (gI z21 12).toInt ∧ (gI z21 12).toInt ≤ (gI z_t 1).toInt by first | omega | assumption | trivial), (kp_tr (kp_fr (kp_I (kp_I (kp_fr (kp_tr kp_rf h_5) h_19 (by decide)))) h_681 (by decide)) h_700), (show (0 : Int32).toInt = 0 → (gI z21 13).toInt ≠ 0 from fun _ => by first | omega | assumption), (show (0 : Int32).toInt = 1 → (gT z21 4 t).toInt + o ≤ (gI z21 12).toInt ∧ h + 1 ≤ (gI z21 16).toInt ∧ (gI z21 16).toInt ≤ 60 from fun q => absurd q (by decide)), (show (0 : Int32).toInt = 1 → RN z21 t b (h + 1) from fun q => absurd q (by decide))⟩
                      · skip
                        have r_710 := n_rng r20
                        have c_706i : r20.toInt ≠ 0 := bI_neq rfl (show (0 : Int32).toInt = 0 by decide) c_706
                        have u_711 : (gT z21 4 t).toInt + (o + 1) ≤ (gI z21 12).toInt ∧ (h + 1) + 1 ≤ (gI z21 16).toInt ∧ (gI z21 16).toInt ≤ 60 := h_702 (by omega)
                        have u_712 : RN z21 t b ((h + 1) + 1) := h_703 (by omega)
                        have e_714 : (6 + 1).toInt = (6 + 1) := (i32_add (show (6 : Int32).toInt = 6 by decide) (show (1 : Int32).toInt = 1 by decide) (by omega) (by omega))
                        have e_715 : (0 : Int32).toInt = 0 := (show (0 : Int32).toInt = 0 by decide)
                        refine ok_bd (t_fX9_puts (t := t) (by first | omega | assumption | decide | (show (gI z21 15).toInt = t ∧ t < 6; first | omega | assumption)) (by first | omega | assumption | decide | (show 0 ≤ (gT z21 4 t).toInt ∧ (gT z21 4 t).toInt < 400; first | omega | assumption))) (fun z24 q_713 => ?_)
                        have h_716 : FrL [3, 4] z21 z24 := q_713.1
                        have h_717 : PUT t z21 z24 (((6 : Int32) + 1) + (16 * (0 : Int32))) := q_713.2
                        clear q_713
                        have s_718 : (gI z24 1).toInt = (gI z21 1).toInt := congrArg Int32.toInt (h_716 1 (by decide)).1
                        have s_719 : (gI z24 12).toInt = (gI z21 12).toInt := congrArg Int32.toInt (h_716 12 (by decide)).1
                        have s_720 : (gI z24 13).toInt = (gI z21 13).toInt := congrArg Int32.toInt (h_716 13 (by decide)).1
                        have s_721 : (gI z24 15).toInt = (gI z21 15).toInt := congrArg Int32.toInt (h_716 15 (by decide)).1
                        have s_722 : (gI z24 16).toInt = (gI z21 16).toInt := congrArg Int32.toInt (h_716 16 (by decide)).1
                        have h_717a := h_717.1
                        have h_717k := h_717.2.1
                        have h_717r : RN z24 t b ((h + 1)) := rn_put (by omega) h_717 u_712 (stp_bin (by omega) (by decide) (by decide) (by decide))
                        try have e_723 : (1 : Int32).toInt = 1 := (show (1 : Int32).toInt = 1 by decide)
                        exact ok_some ⟨Or.inr rfl, (fr_tr (fr_tr (fr_tr (fr_I (fr_I (fr_tr (fr_tr fr_rf h_3 (by decide)) h_19 (by decide)) (by decide)) (by decide)) h_681 (by decide)) h_698 (by decide)) h_716 (by decide)), (show (gI z_t 12).toInt ≤ (gI z24 12).toInt ∧ (gI z24 12).toInt ≤ (gI z_t 1).toInt by first | omega | assumption | trivial), (kp_tr (kp_tr (kp_fr (kp_I (kp_I (kp_fr (kp_tr kp_rf h_5) h_19 (by decide)))) h_681 (by decide)) h_700) h_717k), (show (1 : Int32).toInt = 0 → (gI z24 13).toInt ≠ 0 from fun q => absurd q (by decide)), (show (1 : Int32).toInt = 1 → (gT z24 4 t).toInt + o ≤ (gI z24 12).toInt ∧ h + 1 ≤ (gI z24 16).toInt ∧ (gI z24 16).toInt ≤ 60 from fun _ => by first | omega | assumption), (fun _ => h_717r)⟩
                  · skip
                    have c_694i : r6.toInt ≠ 60 := bI_neq rfl (show (60 : Int32).toInt = 60 by decide) c_694
                    refine ok_ite (fun c_724 => ?_) (fun c_724 => ?_)
                    · skip
                      have c_724i : r6.toInt = 61 := bI_eq rfl (show (61 : Int32).toInt = 61 by decide) c_724
                      refine ok_bd2 (t_fX9_sum (t := t) (b := b) (h := h + 1) (o := o + 1) (by first | omega | assumption | decide | (show 0 ≤ (gI z15 12).toInt ∧ (gI z15 12).toInt ≤ (gI z15 1).toInt ∧ (gI z15 1).toInt ≤ 400; first | omega | assumption)) (by first | omega | assumption | decide | (show (gI z15 15).toInt = t ∧ t < 6; first | omega | assumption)) (by first | omega | assumption | decide | (show 0 ≤ (gT z15 4 t).toInt ∧ (gT z15 4 t).toInt + (o + 1) ≤ (gI z15 12).toInt; first | omega | assumption)) (by first | omega | assumption | decide | (show 0 ≤ (gI z15 16).toInt ∧ (gI z15 16).toInt ≤ 60 ∧ (h + 1) ≤ (gI z15 16).toInt; first | omega | assumption)) (rn_fr h_681 (by decide) (rn_I (rn_I (rn_fr h_19 (by decide) u_17))))) (fun r20 z21 q_725 => ?_)
                      have h_726 : r20 = 0 ∨ r20 = 1 := q_725.1
                      have h_726i := bool_i h_726
                      have h_727 : FrL [3, 4, 12, 13, 14, 16] z15 z21 := q_725.2.1
                      have h_728 : (gI z15 12).toInt ≤ (gI z21 12).toInt ∧ (gI z21 12).toInt ≤ (gI z15 1).toInt := q_725.2.2.1
                      have h_729 : KP t z15 z21 := q_725.2.2.2.1
                      have h_729a : (gT z15 4 t).toInt ≤ (gT z21 4 t).toInt := h_729.1
                      have h_730 : r20.toInt = 0 → (gI z21 13).toInt ≠ 0 := q_725.2.2.2.2.1
                      have h_731 : r20.toInt = 1 → (gT z21 4 t).toInt + (o + 1) ≤ (gI z21 12).toInt ∧ (h + 1) + 1 ≤ (gI z21 16).toInt ∧ (gI z21 16).toInt ≤ 60 := q_725.2.2.2.2.2.1
                      have h_732 : r20.toInt = 1 → RN z21 t b ((h + 1) + 1) := q_725.2.2.2.2.2.2
                      clear q_725
                      have s_733 : (gI z21 1).toInt = (gI z15 1).toInt := congrArg Int32.toInt (h_727 1 (by decide)).1
                      have s_734 : (gI z21 15).toInt = (gI z15 15).toInt := congrArg Int32.toInt (h_727 15 (by decide)).1
                      refine ok_ite (fun c_735 => ?_) (fun c_735 => ?_)
                      · skip
                        have r_736 := n_rng r20
                        have c_735i : r20.toInt = 0 := bI_eq rfl (show (0 : Int32).toInt = 0 by decide) c_735
                        have u_737 : (gI z21 13).toInt ≠ 0 := h_730 (by omega)
                        try have e_738 : (0 : Int32).toInt = 0 := (show (0 : Int32).toInt = 0 by decide)
                        exact ok_some ⟨Or.inl rfl, (fr_tr (fr_tr (fr_I (fr_I (fr_tr (fr_tr fr_rf h_3 (by decide)) h_19 (by decide)) (by decide)) (by decide)) h_681 (by decide)) h_727 (by decide)), (show (gI z_t 12).toInt ≤ (gI z21 12).toInt ∧ (gI z21 12).toInt ≤ (gI z_t 1).toInt by first | omega | assumption | trivial), (kp_tr (kp_fr (kp_I (kp_I (kp_fr (kp_tr kp_rf h_5) h_19 (by decide)))) h_681 (by decide)) h_729), (show (0 : Int32).toInt = 0 → (gI z21 13).toInt ≠ 0 from fun _ => by first | omega | assumption), (show (0 : Int32).toInt = 1 → (gT z21 4 t).toInt + o ≤ (gI z21 12).toInt ∧ h + 1 ≤ (gI z21 16).toInt ∧ (gI z21 16).toInt ≤ 60 from fun q => absurd q (by decide)), (show (0 : Int32).toInt = 1 → RN z21 t b (h + 1) from fun q => absurd q (by decide))⟩
                      · skip
                        have r_739 := n_rng r20
                        have c_735i : r20.toInt ≠ 0 := bI_neq rfl (show (0 : Int32).toInt = 0 by decide) c_735
                        have u_740 : (gT z21 4 t).toInt + (o + 1) ≤ (gI z21 12).toInt ∧ (h + 1) + 1 ≤ (gI z21 16).toInt ∧ (gI z21 16).toInt ≤ 60 := h_731 (by omega)
                        have u_741 : RN z21 t b ((h + 1) + 1) := h_732 (by omega)
                        have e_743 : (6 + 2).toInt = (6 + 2) := (i32_add (show (6 : Int32).toInt = 6 by decide) (show (2 : Int32).toInt = 2 by decide) (by omega) (by omega))
                        have e_744 : (0 : Int32).toInt = 0 := (show (0 : Int32).toInt = 0 by decide)
                        refine ok_bd (t_fX9_puts (t := t) (by first | omega | assumption | decide | (show (gI z21 15).toInt = t ∧ t < 6; first | omega | assumption)) (by first | omega | assumption | decide | (show 0 ≤ (gT z21 4 t).toInt ∧ (gT z21 4 t).toInt < 400; first | omega | assumption))) (fun z24 q_742 => ?_)
                        have h_745 : FrL [3, 4] z21 z24 := q_742.1
                        have h_746 : PUT t z21 z24 (((6 : Int32) + 2) + (16 * (0 : Int32))) := q_742.2
                        clear q_742
                        have s_747 : (gI z24 1).toInt = (gI z21 1).toInt := congrArg Int32.toInt (h_745 1 (by decide)).1
                        have s_748 : (gI z24 12).toInt = (gI z21 12).toInt := congrArg Int32.toInt (h_745 12 (by decide)).1
                        have s_749 : (gI z24 13).toInt = (gI z21 13).toInt := congrArg Int32.toInt (h_745 13 (by decide)).1
                        have s_750 : (gI z24 15).toInt = (gI z21 15).toInt := congrArg Int32.toInt (h_745 15 (by decide)).1
                        have s_751 : (gI z24 16).toInt = (gI z21 16).toInt := congrArg Int32.toInt (h_745 16 (by decide)).1
                        have h_746a := h_746.1
                        have h_746k := h_746.2.1
                        have h_746r : RN z24 t b ((h + 1)) := rn_put (by omega) h_746 u_741 (stp_bin (by omega) (by decide) (by decide) (by decide))
                        try have e_752 : (1 : Int32).toInt = 1 := (show (1 : Int32).toInt = 1 by decide)
                        exact ok_some ⟨Or.inr rfl, (fr_tr (fr_tr (fr_tr (fr_I (fr_I (fr_tr (fr_tr fr_rf h_3 (by decide)) h_19 (by decide)) (by decide)) (by decide)) h_681 (by decide)) h_727 (by decide)) h_745 (by decide)), (show (gI z_t 12).toInt ≤ (gI z24 12).toInt ∧ (gI z24 12).toInt ≤ (gI z_t 1).toInt by first | omega | assumption | trivial), (kp_tr (kp_tr (kp_fr (kp_I (kp_I (kp_fr (kp_tr kp_rf h_5) h_19 (by decide)))) h_681 (by decide)) h_729) h_746k), (show (1 : Int32).toInt = 0 → (gI z24 13).toInt ≠ 0 from fun q => absurd q (by decide)), (show (1 : Int32).toInt = 1 → (gT z24 4 t).toInt + o ≤ (gI z24 12).toInt ∧ h + 1 ≤ (gI z24 16).toInt ∧ (gI z24 16).toInt ≤ 60 from fun _ => by first | omega | assumption), (fun _ => h_746r)⟩
                    · skip
                      have c_724i : r6.toInt ≠ 61 := bI_neq rfl (show (61 : Int32).toInt = 61 by decide) c_724
                      refine ok_ite (fun c_753 => ?_) (fun c_753 => ?_)
                      · skip
                        exact absurd c_753 (by decide)
                      · skip
                        refine ok_bd2 (t_fX9_sum (t := t) (b := b) (h := h + 1) (o := o + 1) (by first | omega | assumption | decide | (show 0 ≤ (gI z15 12).toInt ∧ (gI z15 12).toInt ≤ (gI z15 1).toInt ∧ (gI z15 1).toInt ≤ 400; first | omega | assumption)) (by first | omega | assumption | decide | (show (gI z15 15).toInt = t ∧ t < 6; first | omega | assumption)) (by first | omega | assumption | decide | (show 0 ≤ (gT z15 4 t).toInt ∧ (gT z15 4 t).toInt + (o + 1) ≤ (gI z15 12).toInt; first | omega | assumption)) (by first | omega | assumption | decide | (show 0 ≤ (gI z15 16).toInt ∧ (gI z15 16).toInt ≤ 60 ∧ (h + 1) ≤ (gI z15 16).toInt; first | omega | assumption)) (rn_fr h_681 (by decide) (rn_I (rn_I (rn_fr h_19 (by decide) u_17))))) (fun r20 z21 q_754 => ?_)
                        have h_755 : r20 = 0 ∨ r20 = 1 := q_754.1
                        have h_755i := bool_i h_755
                        have h_756 : FrL [3, 4, 12, 13, 14, 16] z15 z21 := q_754.2.1
                        have h_757 : (gI z15 12).toInt ≤ (gI z21 12).toInt ∧ (gI z21 12).toInt ≤ (gI z15 1).toInt := q_754.2.2.1
                        have h_758 : KP t z15 z21 := q_754.2.2.2.1
                        have h_758a : (gT z15 4 t).toInt ≤ (gT z21 4 t).toInt := h_758.1
                        have h_759 : r20.toInt = 0 → (gI z21 13).toInt ≠ 0 := q_754.2.2.2.2.1
                        have h_760 : r20.toInt = 1 → (gT z21 4 t).toInt + (o + 1) ≤ (gI z21 12).toInt ∧ (h + 1) + 1 ≤ (gI z21 16).toInt ∧ (gI z21 16).toInt ≤ 60 := q_754.2.2.2.2.2.1
                        have h_761 : r20.toInt = 1 → RN z21 t b ((h + 1) + 1) := q_754.2.2.2.2.2.2
                        clear q_754
                        have s_762 : (gI z21 1).toInt = (gI z15 1).toInt := congrArg Int32.toInt (h_756 1 (by decide)).1
                        have s_763 : (gI z21 15).toInt = (gI z15 15).toInt := congrArg Int32.toInt (h_756 15 (by decide)).1
                        refine ok_ite (fun c_764 => ?_) (fun c_764 => ?_)
                        · skip
                          have r_765 := n_rng r20
                          have c_764i : r20.toInt = 0 := bI_eq rfl (show (0 : Int32).toInt = 0 by decide) c_764
                          have u_766 : (gI z21 13).toInt ≠ 0 := h_759 (by omega)
                          try have e_767 : (0 : Int32).toInt = 0 := (show (0 : Int32).toInt = 0 by decide)
                          exact ok_some ⟨Or.inl rfl, (fr_tr (fr_tr (fr_I (fr_I (fr_tr (fr_tr fr_rf h_3 (by decide)) h_19 (by decide)) (by decide)) (by decide)) h_681 (by decide)) h_756 (by decide)), (show (gI z_t 12).toInt ≤ (gI z21 12).toInt ∧ (gI z21 12).toInt ≤ (gI z_t 1).toInt by first | omega | assumption | trivial), (kp_tr (kp_fr (kp_I (kp_I (kp_fr (kp_tr kp_rf h_5) h_19 (by decide)))) h_681 (by decide)) h_758), (show (0 : Int32).toInt = 0 → (gI z21 13).toInt ≠ 0 from fun _ => by first | omega | assumption), (show (0 : Int32).toInt = 1 → (gT z21 4 t).toInt + o ≤ (gI z21 12).toInt ∧ h + 1 ≤ (gI z21 16).toInt ∧ (gI z21 16).toInt ≤ 60 from fun q => absurd q (by decide)), (show (0 : Int32).toInt = 1 → RN z21 t b (h + 1) from fun q => absurd q (by decide))⟩
                        · skip
                          have r_768 := n_rng r20
                          have c_764i : r20.toInt ≠ 0 := bI_neq rfl (show (0 : Int32).toInt = 0 by decide) c_764
                          have u_769 : (gT z21 4 t).toInt + (o + 1) ≤ (gI z21 12).toInt ∧ (h + 1) + 1 ≤ (gI z21 16).toInt ∧ (gI z21 16).toInt ≤ 60 := h_760 (by omega)
                          have u_770 : RN z21 t b ((h + 1) + 1) := h_761 (by omega)
                          have e_772 : (6 + 3).toInt = (6 + 3) := (i32_add (show (6 : Int32).toInt = 6 by decide) (show (3 : Int32).toInt = 3 by decide) (by omega) (by omega))
                          have e_773 : (0 : Int32).toInt = 0 := (show (0 : Int32).toInt = 0 by decide)
                          refine ok_bd (t_fX9_puts (t := t) (by first | omega | assumption | decide | (show (gI z21 15).toInt = t ∧ t < 6; first | omega | assumption)) (by first | omega | assumption | decide | (show 0 ≤ (gT z21 4 t).toInt ∧ (gT z21 4 t).toInt < 400; first | omega | assumption))) (fun z24 q_771 => ?_)
                          have h_774 : FrL [3, 4] z21 z24 := q_771.1
                          have h_775 : PUT t z21 z24 (((6 : Int32) + 3) + (16 * (0 : Int32))) := q_771.2
                          clear q_771
                          have s_776 : (gI z24 1).toInt = (gI z21 1).toInt := congrArg Int32.toInt (h_774 1 (by decide)).1
                          have s_777 : (gI z24 12).toInt = (gI z21 12).toInt := congrArg Int32.toInt (h_774 12 (by decide)).1
                          have s_778 : (gI z24 13).toInt = (gI z21 13).toInt := congrArg Int32.toInt (h_774 13 (by decide)).1
                          have s_779 : (gI z24 15).toInt = (gI z21 15).toInt := congrArg Int32.toInt (h_774 15 (by decide)).1
                          have s_780 : (gI z24 16).toInt = (gI z21 16).toInt := congrArg Int32.toInt (h_774 16 (by decide)).1
                          have h_775a := h_775.1
                          have h_775k := h_775.2.1
                          have h_775r : RN z24 t b ((h + 1)) := rn_put (by omega) h_775 u_770 (stp_bin (by omega) (by decide) (by decide) (by decide))
                          try have e_781 : (1 : Int32).toInt = 1 := (show (1 : Int32).toInt = 1 by decide)
                          exact ok_some ⟨Or.inr rfl, (fr_tr (fr_tr (fr_tr (fr_I (fr_I (fr_tr (fr_tr fr_rf h_3 (by decide)) h_19 (by decide)) (by decide)) (by decide)) h_681 (by decide)) h_756 (by decide)) h_774 (by decide)), (show (gI z_t 12).toInt ≤ (gI z24 12).toInt ∧ (gI z24 12).toInt ≤ (gI z_t 1).toInt by first | omega | assumption | trivial), (kp_tr (kp_tr (kp_fr (kp_I (kp_I (kp_fr (kp_tr kp_rf h_5) h_19 (by decide)))) h_681 (by decide)) h_758) h_775k), (show (1 : Int32).toInt = 0 → (gI z24 13).toInt ≠ 0 from fun q => absurd q (by decide)), (show (1 : Int32).toInt = 1 → (gT z24 4 t).toInt + o ≤ (gI z24 12).toInt ∧ h + 1 ≤ (gI z24 16).toInt ∧ (gI z24 16).toInt ≤ 60 from fun _ => by first | omega | assumption), (fun _ => h_775r)⟩
            · skip
              have r_782 := n_rng (gT z7 0 ((gI z7 12) + 1).toNatClampNeg)
              have c_676i : (gT z7 0 ((gI z7 12) + 1).toNatClampNeg).toInt ≠ 61 := bI_neq rfl (show (61 : Int32).toInt = 61 by decide) c_676
              refine ok_jn ?_
              refine ok_ite (fun c_783 => ?_) (fun c_783 => ?_)
              · skip
                refine ok_bd2 (t_fX9_makes (by first | omega | assumption | decide | (show 0 ≤ (gI z7 16).toInt ∧ (gI z7 16).toInt ≤ 60; first | omega | assumption)) (by first | omega | assumption | decide | (show 0 ≤ (gI z7 12).toInt ∧ (gI z7 12).toInt ≤ 400; first | omega | assumption))) (fun r14 z15 q_784 => ?_)
                have h_785 : r14 = 0 ∨ r14 = 1 := q_784.1
                have h_785i := bool_i h_785
                have h_786 : FrL [13, 16] (sI z7 12 ((gI z7 12) + 1)) z15 := q_784.2.1
                have h_787 : r14.toInt = 0 → (gI z15 13).toInt ≠ 0 := q_784.2.2.1
                have h_788 : r14.toInt = 1 → (gI z15 16).toInt = (gI z7 16).toInt + 1 ∧ (gI z15 16).toInt ≤ 60 := q_784.2.2.2
                clear q_784
                have s_789 : (gI z15 1).toInt = (gI z7 1).toInt := congrArg Int32.toInt (h_786 1 (by decide)).1
                have s_790 : (gI z15 12).toInt = ((gI z7 12) + 1).toInt := congrArg Int32.toInt (h_786 12 (by decide)).1
                have s_791 : (gI z15 15).toInt = (gI z7 15).toInt := congrArg Int32.toInt (h_786 15 (by decide)).1
                have s_792 : (gT z15 4 t).toInt = (gT z7 4 t).toInt := congrArg (fun f : Nat → Int32 => (f t).toInt) (h_786 4 (by decide)).2.1
                refine ok_ite (fun c_793 => ?_) (fun c_793 => ?_)
                · skip
                  have r_794 := n_rng r14
                  have c_793i : r14.toInt = 0 := bI_eq rfl (show (0 : Int32).toInt = 0 by decide) c_793
                  have u_795 : (gI z15 13).toInt ≠ 0 := h_787 (by omega)
                  try have e_796 : (0 : Int32).toInt = 0 := (show (0 : Int32).toInt = 0 by decide)
                  exact ok_some ⟨Or.inl rfl, (fr_tr (fr_I (fr_tr (fr_tr fr_rf h_3 (by decide)) h_19 (by decide)) (by decide)) h_786 (by decide)), (show (gI z_t 12).toInt ≤ (gI z15 12).toInt ∧ (gI z15 12).toInt ≤ (gI z_t 1).toInt by first | omega | assumption | trivial), (kp_fr (kp_I (kp_fr (kp_tr kp_rf h_5) h_19 (by decide))) h_786 (by decide)), (show (0 : Int32).toInt = 0 → (gI z15 13).toInt ≠ 0 from fun _ => by first | omega | assumption), (show (0 : Int32).toInt = 1 → (gT z15 4 t).toInt + o ≤ (gI z15 12).toInt ∧ h + 1 ≤ (gI z15 16).toInt ∧ (gI z15 16).toInt ≤ 60 from fun q => absurd q (by decide)), (show (0 : Int32).toInt = 1 → RN z15 t b (h + 1) from fun q => absurd q (by decide))⟩
                · skip
                  have r_797 := n_rng r14
                  have c_793i : r14.toInt ≠ 0 := bI_neq rfl (show (0 : Int32).toInt = 0 by decide) c_793
                  have u_798 : (gI z15 16).toInt = (gI z7 16).toInt + 1 ∧ (gI z15 16).toInt ≤ 60 := h_788 (by omega)
                  refine ok_jn ?_
                  refine ok_ite (fun c_799 => ?_) (fun c_799 => ?_)
                  · skip
                    have c_799i : r6.toInt = 60 := bI_eq rfl (show (60 : Int32).toInt = 60 by decide) c_799
                    refine ok_ite (fun c_800 => ?_) (fun c_800 => ?_)
                    · skip
                      refine ok_bd2 (t_fX9_sum (t := t) (b := b) (h := h + 1) (o := o + 1) (by first | omega | assumption | decide | (show 0 ≤ (gI z15 12).toInt ∧ (gI z15 12).toInt ≤ (gI z15 1).toInt ∧ (gI z15 1).toInt ≤ 400; first | omega | assumption)) (by first | omega | assumption | decide | (show (gI z15 15).toInt = t ∧ t < 6; first | omega | assumption)) (by first | omega | assumption | decide | (show 0 ≤ (gT z15 4 t).toInt ∧ (gT z15 4 t).toInt + (o + 1) ≤ (gI z15 12).toInt; first | omega | assumption)) (by first | omega | assumption | decide | (show 0 ≤ (gI z15 16).toInt ∧ (gI z15 16).toInt ≤ 60 ∧ (h + 1) ≤ (gI z15 16).toInt; first | omega | assumption)) (rn_fr h_786 (by decide) (rn_I (rn_fr h_19 (by decide) u_17)))) (fun r20 z21 q_801 => ?_)
                      have h_802 : r20 = 0 ∨ r20 = 1 := q_801.1
                      have h_802i := bool_i h_802
                      have h_803 : FrL [3, 4, 12, 13, 14, 16] z15 z21 := q_801.2.1
                      have h_804 : (gI z15 12).toInt ≤ (gI z21 12).toInt ∧ (gI z21 12).toInt ≤ (gI z15 1).toInt := q_801.2.2.1
                      have h_805 : KP t z15 z21 := q_801.2.2.2.1
                      have h_805a : (gT z15 4 t).toInt ≤ (gT z21 4 t).toInt := h_805.1
                      have h_806 : r20.toInt = 0 → (gI z21 13).toInt ≠ 0 := q_801.2.2.2.2.1
                      have h_807 : r20.toInt = 1 → (gT z21 4 t).toInt + (o + 1) ≤ (gI z21 12).toInt ∧ (h + 1) + 1 ≤ (gI z21 16).toInt ∧ (gI z21 16).toInt ≤ 60 := q_801.2.2.2.2.2.1
                      have h_808 : r20.toInt = 1 → RN z21 t b ((h + 1) + 1) := q_801.2.2.2.2.2.2
                      clear q_801
                      have s_809 : (gI z21 1).toInt = (gI z15 1).toInt := congrArg Int32.toInt (h_803 1 (by decide)).1
                      have s_810 : (gI z21 15).toInt = (gI z15 15).toInt := congrArg Int32.toInt (h_803 15 (by decide)).1
                      refine ok_ite (fun c_811 => ?_) (fun c_811 => ?_)
                      · skip
                        have r_812 := n_rng r20
                        have c_811i : r20.toInt = 0 := bI_eq rfl (show (0 : Int32).toInt = 0 by decide) c_811
                        have u_813 : (gI z21 13).toInt ≠ 0 := h_806 (by omega)
                        try have e_814 : (0 : Int32).toInt = 0 := (show (0 : Int32).toInt = 0 by decide)
                        exact ok_some ⟨Or.inl rfl, (fr_tr (fr_tr (fr_I (fr_tr (fr_tr fr_rf h_3 (by decide)) h_19 (by decide)) (by decide)) h_786 (by decide)) h_803 (by decide)), (show (gI z_t 12).toInt ≤ (gI z21 12).toInt ∧ (gI z21 12).toInt ≤ (gI z_t 1).toInt by first | omega | assumption | trivial), (kp_tr (kp_fr (kp_I (kp_fr (kp_tr kp_rf h_5) h_19 (by decide))) h_786 (by decide)) h_805), (show (0 : Int32).toInt = 0 → (gI z21 13).toInt ≠ 0 from fun _ => by first | omega | assumption), (show (0 : Int32).toInt = 1 → (gT z21 4 t).toInt + o ≤ (gI z21 12).toInt ∧ h + 1 ≤ (gI z21 16).toInt ∧ (gI z21 16).toInt ≤ 60 from fun q => absurd q (by decide)), (show (0 : Int32).toInt = 1 → RN z21 t b (h + 1) from fun q => absurd q (by decide))⟩
                      · skip
                        have r_815 := n_rng r20
                        have c_811i : r20.toInt ≠ 0 := bI_neq rfl (show (0 : Int32).toInt = 0 by decide) c_811
                        have u_816 : (gT z21 4 t).toInt + (o + 1) ≤ (gI z21 12).toInt ∧ (h + 1) + 1 ≤ (gI z21 16).toInt ∧ (gI z21 16).toInt ≤ 60 := h_807 (by omega)
                        have u_817 : RN z21 t b ((h + 1) + 1) := h_808 (by omega)
                        have e_819 : (6 + 0).toInt = (6 + 0) := (i32_add (show (6 : Int32).toInt = 6 by decide) (show (0 : Int32).toInt = 0 by decide) (by omega) (by omega))
                        have e_820 : (0 : Int32).toInt = 0 := (show (0 : Int32).toInt = 0 by decide)
                        refine ok_bd (t_fX9_puts (t := t) (by first | omega | assumption | decide | (show (gI z21 15).toInt = t ∧ t < 6; first | omega | assumption)) (by first | omega | assumption | decide | (show 0 ≤ (gT z21 4 t).toInt ∧ (gT z21 4 t).toInt < 400; first | omega | assumption))) (fun z24 q_818 => ?_)
                        have h_821 : FrL [3, 4] z21 z24 := q_818.1
                        have h_822 : PUT t z21 z24 (((6 : Int32) + 0) + (16 * (0 : Int32))) := q_818.2
                        clear q_818
                        have s_823 : (gI z24 1).toInt = (gI z21 1).toInt := congrArg Int32.toInt (h_821 1 (by decide)).1
                        have s_824 : (gI z24 12).toInt = (gI z21 12).toInt := congrArg Int32.toInt (h_821 12 (by decide)).1
                        have s_825 : (gI z24 13).toInt = (gI z21 13).toInt := congrArg Int32.toInt (h_821 13 (by decide)).1
                        have s_826 : (gI z24 15).toInt = (gI z21 15).toInt := congrArg Int32.toInt (h_821 15 (by decide)).1
                        have s_827 : (gI z24 16).toInt = (gI z21 16).toInt := congrArg Int32.toInt (h_821 16 (by decide)).1
                        have h_822a := h_822.1
                        have h_822k := h_822.2.1
                        have h_822r : RN z24 t b ((h + 1)) := rn_put (by omega) h_822 u_817 (stp_bin (by omega) (by decide) (by decide) (by decide))
                        try have e_828 : (1 : Int32).toInt = 1 := (show (1 : Int32).toInt = 1 by decide)
                        exact ok_some ⟨Or.inr rfl, (fr_tr (fr_tr (fr_tr (fr_I (fr_tr (fr_tr fr_rf h_3 (by decide)) h_19 (by decide)) (by decide)) h_786 (by decide)) h_803 (by decide)) h_821 (by decide)), (show (gI z_t 12).toInt ≤ (gI z24 12).toInt ∧ (gI z24 12).toInt ≤ (gI z_t 1).toInt by first | omega | assumption | trivial), (kp_tr (kp_tr (kp_fr (kp_I (kp_fr (kp_tr kp_rf h_5) h_19 (by decide))) h_786 (by decide)) h_805) h_822k), (show (1 : Int32).toInt = 0 → (gI z24 13).toInt ≠ 0 from fun q => absurd q (by decide)), (show (1 : Int32).toInt = 1 → (gT z24 4 t).toInt + o ≤ (gI z24 12).toInt ∧ h + 1 ≤ (gI z24 16).toInt ∧ (gI z24 16).toInt ≤ 60 from fun _ => by first | omega | assumption), (fun _ => h_822r)⟩
                    · skip
                      exact absurd (by decide) c_800
                  · skip
                    have c_799i : r6.toInt ≠ 60 := bI_neq rfl (show (60 : Int32).toInt = 60 by decide) c_799
                    refine ok_ite (fun c_829 => ?_) (fun c_829 => ?_)
                    · skip
                      have c_829i : r6.toInt = 61 := bI_eq rfl (show (61 : Int32).toInt = 61 by decide) c_829
                      refine ok_bd2 (t_fX9_sum (t := t) (b := b) (h := h + 1) (o := o + 1) (by first | omega | assumption | decide | (show 0 ≤ (gI z15 12).toInt ∧ (gI z15 12).toInt ≤ (gI z15 1).toInt ∧ (gI z15 1).toInt ≤ 400; first | omega | assumption)) (by first | omega | assumption | decide | (show (gI z15 15).toInt = t ∧ t < 6; first | omega | assumption)) (by first | omega | assumption | decide | (show 0 ≤ (gT z15 4 t).toInt ∧ (gT z15 4 t).toInt + (o + 1) ≤ (gI z15 12).toInt; first | omega | assumption)) (by first | omega | assumption | decide | (show 0 ≤ (gI z15 16).toInt ∧ (gI z15 16).toInt ≤ 60 ∧ (h + 1) ≤ (gI z15 16).toInt; first | omega | assumption)) (rn_fr h_786 (by decide) (rn_I (rn_fr h_19 (by decide) u_17)))) (fun r20 z21 q_830 => ?_)
                      have h_831 : r20 = 0 ∨ r20 = 1 := q_830.1
                      have h_831i := bool_i h_831
                      have h_832 : FrL [3, 4, 12, 13, 14, 16] z15 z21 := q_830.2.1
                      have h_833 : (gI z15 12).toInt ≤ (gI z21 12).toInt ∧ (gI z21 12).toInt ≤ (gI z15 1).toInt := q_830.2.2.1
                      have h_834 : KP t z15 z21 := q_830.2.2.2.1
                      have h_834a : (gT z15 4 t).toInt ≤ (gT z21 4 t).toInt := h_834.1
                      have h_835 : r20.toInt = 0 → (gI z21 13).toInt ≠ 0 := q_830.2.2.2.2.1
                      have h_836 : r20.toInt = 1 → (gT z21 4 t).toInt + (o + 1) ≤ (gI z21 12).toInt ∧ (h + 1) + 1 ≤ (gI z21 16).toInt ∧ (gI z21 16).toInt ≤ 60 := q_830.2.2.2.2.2.1
                      have h_837 : r20.toInt = 1 → RN z21 t b ((h + 1) + 1) := q_830.2.2.2.2.2.2
                      clear q_830
                      have s_838 : (gI z21 1).toInt = (gI z15 1).toInt := congrArg Int32.toInt (h_832 1 (by decide)).1
                      have s_839 : (gI z21 15).toInt = (gI z15 15).toInt := congrArg Int32.toInt (h_832 15 (by decide)).1
                      refine ok_ite (fun c_840 => ?_) (fun c_840 => ?_)
                      · skip
                        have r_841 := n_rng r20
                        have c_840i : r20.toInt = 0 := bI_eq rfl (show (0 : Int32).toInt = 0 by decide) c_840
                        have u_842 : (gI z21 13).toInt ≠ 0 := h_835 (by omega)
                        try have e_843 : (0 : Int32).toInt = 0 := (show (0 : Int32).toInt = 0 by decide)
                        exact ok_some ⟨Or.inl rfl, (fr_tr (fr_tr (fr_I (fr_tr (fr_tr fr_rf h_3 (by decide)) h_19 (by decide)) (by decide)) h_786 (by decide)) h_832 (by decide)), (show (gI z_t 12).toInt ≤ (gI z21 12).toInt ∧ (gI z21 12).toInt ≤ (gI z_t 1).toInt by first | omega | assumption | trivial), (kp_tr (kp_fr (kp_I (kp_fr (kp_tr kp_rf h_5) h_19 (by decide))) h_786 (by decide)) h_834), (show (0 : Int32).toInt = 0 → (gI z21 13).toInt ≠ 0 from fun _ => by first | omega | assumption), (show (0 : Int32).toInt = 1 → (gT z21 4 t).toInt + o ≤ (gI z21 12).toInt ∧ h + 1 ≤ (gI z21 16).toInt ∧ (gI z21 16).toInt ≤ 60 from fun q => absurd q (by decide)), (show (0 : Int32).toInt = 1 → RN z21 t b (h + 1) from fun q => absurd q (by decide))⟩
                      · skip
                        have r_844 := n_rng r20
                        have c_840i : r20.toInt ≠ 0 := bI_neq rfl (show (0 : Int32).toInt = 0 by decide) c_840
                        have u_845 : (gT z21 4 t).toInt + (o + 1) ≤ (gI z21 12).toInt ∧ (h + 1) + 1 ≤ (gI z21 16).toInt ∧ (gI z21 16).toInt ≤ 60 := h_836 (by omega)
                        have u_846 : RN z21 t b ((h + 1) + 1) := h_837 (by omega)
                        have e_848 : (6 + 2).toInt = (6 + 2) := (i32_add (show (6 : Int32).toInt = 6 by decide) (show (2 : Int32).toInt = 2 by decide) (by omega) (by omega))
                        have e_849 : (0 : Int32).toInt = 0 := (show (0 : Int32).toInt = 0 by decide)
                        refine ok_bd (t_fX9_puts (t := t) (by first | omega | assumption | decide | (show (gI z21 15).toInt = t ∧ t < 6; first | omega | assumption)) (by first | omega | assumption | decide | (show 0 ≤ (gT z21 4 t).toInt ∧ (gT z21 4 t).toInt < 400; first | omega | assumption))) (fun z24 q_847 => ?_)
                        have h_850 : FrL [3, 4] z21 z24 := q_847.1
                        have h_851 : PUT t z21 z24 (((6 : Int32) + 2) + (16 * (0 : Int32))) := q_847.2
                        clear q_847
                        have s_852 : (gI z24 1).toInt = (gI z21 1).toInt := congrArg Int32.toInt (h_850 1 (by decide)).1
                        have s_853 : (gI z24 12).toInt = (gI z21 12).toInt := congrArg Int32.toInt (h_850 12 (by decide)).1
                        have s_854 : (gI z24 13).toInt = (gI z21 13).toInt := congrArg Int32.toInt (h_850 13 (by decide)).1
                        have s_855 : (gI z24 15).toInt = (gI z21 15).toInt := congrArg Int32.toInt (h_850 15 (by decide)).1
                        have s_856 : (gI z24 16).toInt = (gI z21 16).toInt := congrArg Int32.toInt (h_850 16 (by decide)).1
                        have h_851a := h_851.1
                        have h_851k := h_851.2.1
                        have h_851r : RN z24 t b ((h + 1)) := rn_put (by omega) h_851 u_846 (stp_bin (by omega) (by decide) (by decide) (by decide))
                        try have e_857 : (1 : Int32).toInt = 1 := (show (1 : Int32).toInt = 1 by decide)
                        exact ok_some ⟨Or.inr rfl, (fr_tr (fr_tr (fr_tr (fr_I (fr_tr (fr_tr fr_rf h_3 (by decide)) h_19 (by decide)) (by decide)) h_786 (by decide)) h_832 (by decide)) h_850 (by decide)), (show (gI z_t 12).toInt ≤ (gI z24 12).toInt ∧ (gI z24 12).toInt ≤ (gI z_t 1).toInt by first | omega | assumption | trivial), (kp_tr (kp_tr (kp_fr (kp_I (kp_fr (kp_tr kp_rf h_5) h_19 (by decide))) h_786 (by decide)) h_834) h_851k), (show (1 : Int32).toInt = 0 → (gI z24 13).toInt ≠ 0 from fun q => absurd q (by decide)), (show (1 : Int32).toInt = 1 → (gT z24 4 t).toInt + o ≤ (gI z24 12).toInt ∧ h + 1 ≤ (gI z24 16).toInt ∧ (gI z24 16).toInt ≤ 60 from fun _ => by first | omega | assumption), (fun _ => h_851r)⟩
                    · skip
                      have c_829i : r6.toInt ≠ 61 := bI_neq rfl (show (61 : Int32).toInt = 61 by decide) c_829
                      refine ok_ite (fun c_858 => ?_) (fun c_858 => ?_)
                      · skip
                        refine ok_bd2 (t_fX9_sum (t := t) (b := b) (h := h + 1) (o := o + 1) (by first | omega | assumption | decide | (show 0 ≤ (gI z15 12).toInt ∧ (gI z15 12).toInt ≤ (gI z15 1).toInt ∧ (gI z15 1).toInt ≤ 400; first | omega | assumption)) (by first | omega | assumption | decide | (show (gI z15 15).toInt = t ∧ t < 6; first | omega | assumption)) (by first | omega | assumption | decide | (show 0 ≤ (gT z15 4 t).toInt ∧ (gT z15 4 t).toInt + (o + 1) ≤ (gI z15 12).toInt; first | omega | assumption)) (by first | omega | assumption | decide | (show 0 ≤ (gI z15 16).toInt ∧ (gI z15 16).toInt ≤ 60 ∧ (h + 1) ≤ (gI z15 16).toInt; first | omega | assumption)) (rn_fr h_786 (by decide) (rn_I (rn_fr h_19 (by decide) u_17)))) (fun r20 z21 q_859 => ?_)
                        have h_860 : r20 = 0 ∨ r20 = 1 := q_859.1
                        have h_860i := bool_i h_860
                        have h_861 : FrL [3, 4, 12, 13, 14, 16] z15 z21 := q_859.2.1
                        have h_862 : (gI z15 12).toInt ≤ (gI z21 12).toInt ∧ (gI z21 12).toInt ≤ (gI z15 1).toInt := q_859.2.2.1
                        have h_863 : KP t z15 z21 := q_859.2.2.2.1
                        have h_863a : (gT z15 4 t).toInt ≤ (gT z21 4 t).toInt := h_863.1
                        have h_864 : r20.toInt = 0 → (gI z21 13).toInt ≠ 0 := q_859.2.2.2.2.1
                        have h_865 : r20.toInt = 1 → (gT z21 4 t).toInt + (o + 1) ≤ (gI z21 12).toInt ∧ (h + 1) + 1 ≤ (gI z21 16).toInt ∧ (gI z21 16).toInt ≤ 60 := q_859.2.2.2.2.2.1
                        have h_866 : r20.toInt = 1 → RN z21 t b ((h + 1) + 1) := q_859.2.2.2.2.2.2
                        clear q_859
                        have s_867 : (gI z21 1).toInt = (gI z15 1).toInt := congrArg Int32.toInt (h_861 1 (by decide)).1
                        have s_868 : (gI z21 15).toInt = (gI z15 15).toInt := congrArg Int32.toInt (h_861 15 (by decide)).1
                        refine ok_ite (fun c_869 => ?_) (fun c_869 => ?_)
                        · skip
                          have r_870 := n_rng r20
                          have c_869i : r20.toInt = 0 := bI_eq rfl (show (0 : Int32).toInt = 0 by decide) c_869
                          have u_871 : (gI z21 13).toInt ≠ 0 := h_864 (by omega)
                          try have e_872 : (0 : Int32).toInt = 0 := (show (0 : Int32).toInt = 0 by decide)
                          exact ok_some ⟨Or.inl rfl, (fr_tr (fr_tr (fr_I (fr_tr (fr_tr fr_rf h_3 (by decide)) h_19 (by decide)) (by decide)) h_786 (by decide)) h_861 (by decide)), (show (gI z_t 12).toInt ≤ (gI z21 12).toInt ∧ (gI z21 12).toInt ≤ (gI z_t 1).toInt by first | omega | assumption | trivial), (kp_tr (kp_fr (kp_I (kp_fr (kp_tr kp_rf h_5) h_19 (by decide))) h_786 (by decide)) h_863), (show (0 : Int32).toInt = 0 → (gI z21 13).toInt ≠ 0 from fun _ => by first | omega | assumption), (show (0 : Int32).toInt = 1 → (gT z21 4 t).toInt + o ≤ (gI z21 12).toInt ∧ h + 1 ≤ (gI z21 16).toInt ∧ (gI z21 16).toInt ≤ 60 from fun q => absurd q (by decide)), (show (0 : Int32).toInt = 1 → RN z21 t b (h + 1) from fun q => absurd q (by decide))⟩
                        · skip
                          have r_873 := n_rng r20
                          have c_869i : r20.toInt ≠ 0 := bI_neq rfl (show (0 : Int32).toInt = 0 by decide) c_869
                          have u_874 : (gT z21 4 t).toInt + (o + 1) ≤ (gI z21 12).toInt ∧ (h + 1) + 1 ≤ (gI z21 16).toInt ∧ (gI z21 16).toInt ≤ 60 := h_865 (by omega)
                          have u_875 : RN z21 t b ((h + 1) + 1) := h_866 (by omega)
                          have e_877 : (6 + 4).toInt = (6 + 4) := (i32_add (show (6 : Int32).toInt = 6 by decide) (show (4 : Int32).toInt = 4 by decide) (by omega) (by omega))
                          have e_878 : (0 : Int32).toInt = 0 := (show (0 : Int32).toInt = 0 by decide)
                          refine ok_bd (t_fX9_puts (t := t) (by first | omega | assumption | decide | (show (gI z21 15).toInt = t ∧ t < 6; first | omega | assumption)) (by first | omega | assumption | decide | (show 0 ≤ (gT z21 4 t).toInt ∧ (gT z21 4 t).toInt < 400; first | omega | assumption))) (fun z24 q_876 => ?_)
                          have h_879 : FrL [3, 4] z21 z24 := q_876.1
                          have h_880 : PUT t z21 z24 (((6 : Int32) + 4) + (16 * (0 : Int32))) := q_876.2
                          clear q_876
                          have s_881 : (gI z24 1).toInt = (gI z21 1).toInt := congrArg Int32.toInt (h_879 1 (by decide)).1
                          have s_882 : (gI z24 12).toInt = (gI z21 12).toInt := congrArg Int32.toInt (h_879 12 (by decide)).1
                          have s_883 : (gI z24 13).toInt = (gI z21 13).toInt := congrArg Int32.toInt (h_879 13 (by decide)).1
                          have s_884 : (gI z24 15).toInt = (gI z21 15).toInt := congrArg Int32.toInt (h_879 15 (by decide)).1
                          have s_885 : (gI z24 16).toInt = (gI z21 16).toInt := congrArg Int32.toInt (h_879 16 (by decide)).1
                          have h_880a := h_880.1
                          have h_880k := h_880.2.1
                          have h_880r : RN z24 t b ((h + 1)) := rn_put (by omega) h_880 u_875 (stp_bin (by omega) (by decide) (by decide) (by decide))
                          try have e_886 : (1 : Int32).toInt = 1 := (show (1 : Int32).toInt = 1 by decide)
                          exact ok_some ⟨Or.inr rfl, (fr_tr (fr_tr (fr_tr (fr_I (fr_tr (fr_tr fr_rf h_3 (by decide)) h_19 (by decide)) (by decide)) h_786 (by decide)) h_861 (by decide)) h_879 (by decide)), (show (gI z_t 12).toInt ≤ (gI z24 12).toInt ∧ (gI z24 12).toInt ≤ (gI z_t 1).toInt by first | omega | assumption | trivial), (kp_tr (kp_tr (kp_fr (kp_I (kp_fr (kp_tr kp_rf h_5) h_19 (by decide))) h_786 (by decide)) h_863) h_880k), (show (1 : Int32).toInt = 0 → (gI z24 13).toInt ≠ 0 from fun q => absurd q (by decide)), (show (1 : Int32).toInt = 1 → (gT z24 4 t).toInt + o ≤ (gI z24 12).toInt ∧ h + 1 ≤ (gI z24 16).toInt ∧ (gI z24 16).toInt ≤ 60 from fun _ => by first | omega | assumption), (fun _ => h_880r)⟩
                      · skip
                        exact absurd (by decide) c_858
              · skip
                exact absurd (by decide) c_783
      · skip
        have c_459i : r6.toInt ≠ 61 := bI_neq rfl (show (61 : Int32).toInt = 61 by decide) c_459
        refine ok_ite (fun c_887 => ?_) (fun c_887 => ?_)
        · skip
          have c_887i : r6.toInt = 62 := bI_eq rfl (show (62 : Int32).toInt = 62 by decide) c_887
          refine ok_jn ?_
          refine ok_jn ?_
          refine ok_ite (fun c_888 => ?_) (fun c_888 => ?_)
          · skip
            have c_888i : r6.toInt = 61 := bI_eq rfl (show (61 : Int32).toInt = 61 by decide) c_888
            refine ok_jn ?_
            refine ok_ite (fun c_889 => ?_) (fun c_889 => ?_)
            · skip
              refine ok_bd2 (t_fX9_makes (by first | omega | assumption | decide | (show 0 ≤ (gI z7 16).toInt ∧ (gI z7 16).toInt ≤ 60; first | omega | assumption)) (by first | omega | assumption | decide | (show 0 ≤ (gI z7 12).toInt ∧ (gI z7 12).toInt ≤ 400; first | omega | assumption))) (fun r14 z15 q_890 => ?_)
              have h_891 : r14 = 0 ∨ r14 = 1 := q_890.1
              have h_891i := bool_i h_891
              have h_892 : FrL [13, 16] (sI z7 12 ((gI z7 12) + 1)) z15 := q_890.2.1
              have h_893 : r14.toInt = 0 → (gI z15 13).toInt ≠ 0 := q_890.2.2.1
              have h_894 : r14.toInt = 1 → (gI z15 16).toInt = (gI z7 16).toInt + 1 ∧ (gI z15 16).toInt ≤ 60 := q_890.2.2.2
              clear q_890
              have s_895 : (gI z15 1).toInt = (gI z7 1).toInt := congrArg Int32.toInt (h_892 1 (by decide)).1
              have s_896 : (gI z15 12).toInt = ((gI z7 12) + 1).toInt := congrArg Int32.toInt (h_892 12 (by decide)).1
              have s_897 : (gI z15 15).toInt = (gI z7 15).toInt := congrArg Int32.toInt (h_892 15 (by decide)).1
              have s_898 : (gT z15 4 t).toInt = (gT z7 4 t).toInt := congrArg (fun f : Nat → Int32 => (f t).toInt) (h_892 4 (by decide)).2.1
              refine ok_ite (fun c_899 => ?_) (fun c_899 => ?_)
              · skip
                have r_900 := n_rng r14
                have c_899i : r14.toInt = 0 := bI_eq rfl (show (0 : Int32).toInt = 0 by decide) c_899
                have u_901 : (gI z15 13).toInt ≠ 0 := h_893 (by omega)
                try have e_902 : (0 : Int32).toInt = 0 := (show (0 : Int32).toInt = 0 by decide)
                exact ok_some ⟨Or.inl rfl, (fr_tr (fr_I (fr_tr (fr_tr fr_rf h_3 (by decide)) h_19 (by decide)) (by decide)) h_892 (by decide)), (show (gI z_t 12).toInt ≤ (gI z15 12).toInt ∧ (gI z15 12).toInt ≤ (gI z_t 1).toInt by first | omega | assumption | trivial), (kp_fr (kp_I (kp_fr (kp_tr kp_rf h_5) h_19 (by decide))) h_892 (by decide)), (show (0 : Int32).toInt = 0 → (gI z15 13).toInt ≠ 0 from fun _ => by first | omega | assumption), (show (0 : Int32).toInt = 1 → (gT z15 4 t).toInt + o ≤ (gI z15 12).toInt ∧ h + 1 ≤ (gI z15 16).toInt ∧ (gI z15 16).toInt ≤ 60 from fun q => absurd q (by decide)), (show (0 : Int32).toInt = 1 → RN z15 t b (h + 1) from fun q => absurd q (by decide))⟩
              · skip
                have r_903 := n_rng r14
                have c_899i : r14.toInt ≠ 0 := bI_neq rfl (show (0 : Int32).toInt = 0 by decide) c_899
                have u_904 : (gI z15 16).toInt = (gI z7 16).toInt + 1 ∧ (gI z15 16).toInt ≤ 60 := h_894 (by omega)
                refine ok_jn ?_
                refine ok_ite (fun c_905 => ?_) (fun c_905 => ?_)
                · skip
                  have c_905i : r6.toInt = 60 := bI_eq rfl (show (60 : Int32).toInt = 60 by decide) c_905
                  refine ok_ite (fun c_906 => ?_) (fun c_906 => ?_)
                  · skip
                    refine ok_bd2 (t_fX9_sum (t := t) (b := b) (h := h + 1) (o := o + 1) (by first | omega | assumption | decide | (show 0 ≤ (gI z15 12).toInt ∧ (gI z15 12).toInt ≤ (gI z15 1).toInt ∧ (gI z15 1).toInt ≤ 400; first | omega | assumption)) (by first | omega | assumption | decide | (show (gI z15 15).toInt = t ∧ t < 6; first | omega | assumption)) (by first | omega | assumption | decide | (show 0 ≤ (gT z15 4 t).toInt ∧ (gT z15 4 t).toInt + (o + 1) ≤ (gI z15 12).toInt; first | omega | assumption)) (by first | omega | assumption | decide | (show 0 ≤ (gI z15 16).toInt ∧ (gI z15 16).toInt ≤ 60 ∧ (h + 1) ≤ (gI z15 16).toInt; first | omega | assumption)) (rn_fr h_892 (by decide) (rn_I (rn_fr h_19 (by decide) u_17)))) (fun r20 z21 q_907 => ?_)
                    have h_908 : r20 = 0 ∨ r20 = 1 := q_907.1
                    have h_908i := bool_i h_908
                    have h_909 : FrL [3, 4, 12, 13, 14, 16] z15 z21 := q_907.2.1
                    have h_910 : (gI z15 12).toInt ≤ (gI z21 12).toInt ∧ (gI z21 12).toInt ≤ (gI z15 1).toInt := q_907.2.2.1
                    have h_911 : KP t z15 z21 := q_907.2.2.2.1
                    have h_911a : (gT z15 4 t).toInt ≤ (gT z21 4 t).toInt := h_911.1
                    have h_912 : r20.toInt = 0 → (gI z21 13).toInt ≠ 0 := q_907.2.2.2.2.1
                    have h_913 : r20.toInt = 1 → (gT z21 4 t).toInt + (o + 1) ≤ (gI z21 12).toInt ∧ (h + 1) + 1 ≤ (gI z21 16).toInt ∧ (gI z21 16).toInt ≤ 60 := q_907.2.2.2.2.2.1
                    have h_914 : r20.toInt = 1 → RN z21 t b ((h + 1) + 1) := q_907.2.2.2.2.2.2
                    clear q_907
                    have s_915 : (gI z21 1).toInt = (gI z15 1).toInt := congrArg Int32.toInt (h_909 1 (by decide)).1
                    have s_916 : (gI z21 15).toInt = (gI z15 15).toInt := congrArg Int32.toInt (h_909 15 (by decide)).1
                    refine ok_ite (fun c_917 => ?_) (fun c_917 => ?_)
                    · skip
                      have r_918 := n_rng r20
                      have c_917i : r20.toInt = 0 := bI_eq rfl (show (0 : Int32).toInt = 0 by decide) c_917
                      have u_919 : (gI z21 13).toInt ≠ 0 := h_912 (by omega)
                      try have e_920 : (0 : Int32).toInt = 0 := (show (0 : Int32).toInt = 0 by decide)
                      exact ok_some ⟨Or.inl rfl, (fr_tr (fr_tr (fr_I (fr_tr (fr_tr fr_rf h_3 (by decide)) h_19 (by decide)) (by decide)) h_892 (by decide)) h_909 (by decide)), (show (gI z_t 12).toInt ≤ (gI z21 12).toInt ∧ (gI z21 12).toInt ≤ (gI z_t 1).toInt by first | omega | assumption | trivial), (kp_tr (kp_fr (kp_I (kp_fr (kp_tr kp_rf h_5) h_19 (by decide))) h_892 (by decide)) h_911), (show (0 : Int32).toInt = 0 → (gI z21 13).toInt ≠ 0 from fun _ => by first | omega | assumption), (show (0 : Int32).toInt = 1 → (gT z21 4 t).toInt + o ≤ (gI z21 12).toInt ∧ h + 1 ≤ (gI z21 16).toInt ∧ (gI z21 16).toInt ≤ 60 from fun q => absurd q (by decide)), (show (0 : Int32).toInt = 1 → RN z21 t b (h + 1) from fun q => absurd q (by decide))⟩
                    · skip
                      have r_921 := n_rng r20
                      have c_917i : r20.toInt ≠ 0 := bI_neq rfl (show (0 : Int32).toInt = 0 by decide) c_917
                      have u_922 : (gT z21 4 t).toInt + (o + 1) ≤ (gI z21 12).toInt ∧ (h + 1) + 1 ≤ (gI z21 16).toInt ∧ (gI z21 16).toInt ≤ 60 := h_913 (by omega)
                      have u_923 : RN z21 t b ((h + 1) + 1) := h_914 (by omega)
                      have e_925 : (6 + 0).toInt = (6 + 0) := (i32_add (show (6 : Int32).toInt = 6 by decide) (show (0 : Int32).toInt = 0 by decide) (by omega) (by omega))
                      have e_926 : (0 : Int32).toInt = 0 := (show (0 : Int32).toInt = 0 by decide)
                      refine ok_bd (t_fX9_puts (t := t) (by first | omega | assumption | decide | (show (gI z21 15).toInt = t ∧ t < 6; first | omega | assumption)) (by first | omega | assumption | decide | (show 0 ≤ (gT z21 4 t).toInt ∧ (gT z21 4 t).toInt < 400; first | omega | assumption))) (fun z24 q_924 => ?_)
                      have h_927 : FrL [3, 4] z21 z24 := q_924.1
                      have h_928 : PUT t z21 z24 (((6 : Int32) + 0) + (16 * (0 : Int32))) := q_924.2
                      clear q_924
                      have s_929 : (gI z24 1).toInt = (gI z21 1).toInt := congrArg Int32.toInt (h_927 1 (by decide)).1
                      have s_930 : (gI z24 12).toInt = (gI z21 12).toInt := congrArg Int32.toInt (h_927 12 (by decide)).1
                      have s_931 : (gI z24 13).toInt = (gI z21 13).toInt := congrArg Int32.toInt (h_927 13 (by decide)).1
                      have s_932 : (gI z24 15).toInt = (gI z21 15).toInt := congrArg Int32.toInt (h_927 15 (by decide)).1
                      have s_933 : (gI z24 16).toInt = (gI z21 16).toInt := congrArg Int32.toInt (h_927 16 (by decide)).1
                      have h_928a := h_928.1
                      have h_928k := h_928.2.1
                      have h_928r : RN z24 t b ((h + 1)) := rn_put (by omega) h_928 u_923 (stp_bin (by omega) (by decide) (by decide) (by decide))
                      try have e_934 : (1 : Int32).toInt = 1 := (show (1 : Int32).toInt = 1 by decide)
                      exact ok_some ⟨Or.inr rfl, (fr_tr (fr_tr (fr_tr (fr_I (fr_tr (fr_tr fr_rf h_3 (by decide)) h_19 (by decide)) (by decide)) h_892 (by decide)) h_909 (by decide)) h_927 (by decide)), (show (gI z_t 12).toInt ≤ (gI z24 12).toInt ∧ (gI z24 12).toInt ≤ (gI z_t 1).toInt by first | omega | assumption | trivial), (kp_tr (kp_tr (kp_fr (kp_I (kp_fr (kp_tr kp_rf h_5) h_19 (by decide))) h_892 (by decide)) h_911) h_928k), (show (1 : Int32).toInt = 0 → (gI z24 13).toInt ≠ 0 from fun q => absurd q (by decide)), (show (1 : Int32).toInt = 1 → (gT z24 4 t).toInt + o ≤ (gI z24 12).toInt ∧ h + 1 ≤ (gI z24 16).toInt ∧ (gI z24 16).toInt ≤ 60 from fun _ => by first | omega | assumption), (fun _ => h_928r)⟩
                  · skip
                    exact absurd (by decide) c_906
                · skip
                  have c_905i : r6.toInt ≠ 60 := bI_neq rfl (show (60 : Int32).toInt = 60 by decide) c_905
                  refine ok_ite (fun c_935 => ?_) (fun c_935 => ?_)
                  · skip
                    have c_935i : r6.toInt = 61 := bI_eq rfl (show (61 : Int32).toInt = 61 by decide) c_935
                    refine ok_bd2 (t_fX9_sum (t := t) (b := b) (h := h + 1) (o := o + 1) (by first | omega | assumption | decide | (show 0 ≤ (gI z15 12).toInt ∧ (gI z15 12).toInt ≤ (gI z15 1).toInt ∧ (gI z15 1).toInt ≤ 400; first | omega | assumption)) (by first | omega | assumption | decide | (show (gI z15 15).toInt = t ∧ t < 6; first | omega | assumption)) (by first | omega | assumption | decide | (show 0 ≤ (gT z15 4 t).toInt ∧ (gT z15 4 t).toInt + (o + 1) ≤ (gI z15 12).toInt; first | omega | assumption)) (by first | omega | assumption | decide | (show 0 ≤ (gI z15 16).toInt ∧ (gI z15 16).toInt ≤ 60 ∧ (h + 1) ≤ (gI z15 16).toInt; first | omega | assumption)) (rn_fr h_892 (by decide) (rn_I (rn_fr h_19 (by decide) u_17)))) (fun r20 z21 q_936 => ?_)
                    have h_937 : r20 = 0 ∨ r20 = 1 := q_936.1
                    have h_937i := bool_i h_937
                    have h_938 : FrL [3, 4, 12, 13, 14, 16] z15 z21 := q_936.2.1
                    have h_939 : (gI z15 12).toInt ≤ (gI z21 12).toInt ∧ (gI z21 12).toInt ≤ (gI z15 1).toInt := q_936.2.2.1
                    have h_940 : KP t z15 z21 := q_936.2.2.2.1
                    have h_940a : (gT z15 4 t).toInt ≤ (gT z21 4 t).toInt := h_940.1
                    have h_941 : r20.toInt = 0 → (gI z21 13).toInt ≠ 0 := q_936.2.2.2.2.1
                    have h_942 : r20.toInt = 1 → (gT z21 4 t).toInt + (o + 1) ≤ (gI z21 12).toInt ∧ (h + 1) + 1 ≤ (gI z21 16).toInt ∧ (gI z21 16).toInt ≤ 60 := q_936.2.2.2.2.2.1
                    have h_943 : r20.toInt = 1 → RN z21 t b ((h + 1) + 1) := q_936.2.2.2.2.2.2
                    clear q_936
                    have s_944 : (gI z21 1).toInt = (gI z15 1).toInt := congrArg Int32.toInt (h_938 1 (by decide)).1
                    have s_945 : (gI z21 15).toInt = (gI z15 15).toInt := congrArg Int32.toInt (h_938 15 (by decide)).1
                    refine ok_ite (fun c_946 => ?_) (fun c_946 => ?_)
                    · skip
                      have r_947 := n_rng r20
                      have c_946i : r20.toInt = 0 := bI_eq rfl (show (0 : Int32).toInt = 0 by decide) c_946
                      have u_948 : (gI z21 13).toInt ≠ 0 := h_941 (by omega)
                      try have e_949 : (0 : Int32).toInt = 0 := (show (0 : Int32).toInt = 0 by decide)
                      exact ok_some ⟨Or.inl rfl, (fr_tr (fr_tr (fr_I (fr_tr (fr_tr fr_rf h_3 (by decide)) h_19 (by decide)) (by decide)) h_892 (by decide)) h_938 (by decide)), (show (gI z_t 12).toInt ≤ (gI z21 12).toInt ∧ (gI z21 12).toInt ≤ (gI z_t 1).toInt by first | omega | assumption | trivial), (kp_tr (kp_fr (kp_I (kp_fr (kp_tr kp_rf h_5) h_19 (by decide))) h_892 (by decide)) h_940), (show (0 : Int32).toInt = 0 → (gI z21 13).toInt ≠ 0 from fun _ => by first | omega | assumption), (show (0 : Int32).toInt = 1 → (gT z21 4 t).toInt + o ≤ (gI z21 12).toInt ∧ h + 1 ≤ (gI z21 16).toInt ∧ (gI z21 16).toInt ≤ 60 from fun q => absurd q (by decide)), (show (0 : Int32).toInt = 1 → RN z21 t b (h + 1) from fun q => absurd q (by decide))⟩
                    · skip
                      have r_950 := n_rng r20
                      have c_946i : r20.toInt ≠ 0 := bI_neq rfl (show (0 : Int32).toInt = 0 by decide) c_946
                      have u_951 : (gT z21 4 t).toInt + (o + 1) ≤ (gI z21 12).toInt ∧ (h + 1) + 1 ≤ (gI z21 16).toInt ∧ (gI z21 16).toInt ≤ 60 := h_942 (by omega)
                      have u_952 : RN z21 t b ((h + 1) + 1) := h_943 (by omega)
                      have e_954 : (6 + 2).toInt = (6 + 2) := (i32_add (show (6 : Int32).toInt = 6 by decide) (show (2 : Int32).toInt = 2 by decide) (by omega) (by omega))
                      have e_955 : (0 : Int32).toInt = 0 := (show (0 : Int32).toInt = 0 by decide)
                      refine ok_bd (t_fX9_puts (t := t) (by first | omega | assumption | decide | (show (gI z21 15).toInt = t ∧ t < 6; first | omega | assumption)) (by first | omega | assumption | decide | (show 0 ≤ (gT z21 4 t).toInt ∧ (gT z21 4 t).toInt < 400; first | omega | assumption))) (fun z24 q_953 => ?_)
                      have h_956 : FrL [3, 4] z21 z24 := q_953.1
                      have h_957 : PUT t z21 z24 (((6 : Int32) + 2) + (16 * (0 : Int32))) := q_953.2
                      clear q_953
                      have s_958 : (gI z24 1).toInt = (gI z21 1).toInt := congrArg Int32.toInt (h_956 1 (by decide)).1
                      have s_959 : (gI z24 12).toInt = (gI z21 12).toInt := congrArg Int32.toInt (h_956 12 (by decide)).1
                      have s_960 : (gI z24 13).toInt = (gI z21 13).toInt := congrArg Int32.toInt (h_956 13 (by decide)).1
                      have s_961 : (gI z24 15).toInt = (gI z21 15).toInt := congrArg Int32.toInt (h_956 15 (by decide)).1
                      have s_962 : (gI z24 16).toInt = (gI z21 16).toInt := congrArg Int32.toInt (h_956 16 (by decide)).1
                      have h_957a := h_957.1
                      have h_957k := h_957.2.1
                      have h_957r : RN z24 t b ((h + 1)) := rn_put (by omega) h_957 u_952 (stp_bin (by omega) (by decide) (by decide) (by decide))
                      try have e_963 : (1 : Int32).toInt = 1 := (show (1 : Int32).toInt = 1 by decide)
                      exact ok_some ⟨Or.inr rfl, (fr_tr (fr_tr (fr_tr (fr_I (fr_tr (fr_tr fr_rf h_3 (by decide)) h_19 (by decide)) (by decide)) h_892 (by decide)) h_938 (by decide)) h_956 (by decide)), (show (gI z_t 12).toInt ≤ (gI z24 12).toInt ∧ (gI z24 12).toInt ≤ (gI z_t 1).toInt by first | omega | assumption | trivial), (kp_tr (kp_tr (kp_fr (kp_I (kp_fr (kp_tr kp_rf h_5) h_19 (by decide))) h_892 (by decide)) h_940) h_957k), (show (1 : Int32).toInt = 0 → (gI z24 13).toInt ≠ 0 from fun q => absurd q (by decide)), (show (1 : Int32).toInt = 1 → (gT z24 4 t).toInt + o ≤ (gI z24 12).toInt ∧ h + 1 ≤ (gI z24 16).toInt ∧ (gI z24 16).toInt ≤ 60 from fun _ => by first | omega | assumption), (fun _ => h_957r)⟩
                  · skip
                    have c_935i : r6.toInt ≠ 61 := bI_neq rfl (show (61 : Int32).toInt = 61 by decide) c_935
                    refine ok_ite (fun c_964 => ?_) (fun c_964 => ?_)
                    · skip
                      refine ok_bd2 (t_fX9_sum (t := t) (b := b) (h := h + 1) (o := o + 1) (by first | omega | assumption | decide | (show 0 ≤ (gI z15 12).toInt ∧ (gI z15 12).toInt ≤ (gI z15 1).toInt ∧ (gI z15 1).toInt ≤ 400; first | omega | assumption)) (by first | omega | assumption | decide | (show (gI z15 15).toInt = t ∧ t < 6; first | omega | assumption)) (by first | omega | assumption | decide | (show 0 ≤ (gT z15 4 t).toInt ∧ (gT z15 4 t).toInt + (o + 1) ≤ (gI z15 12).toInt; first | omega | assumption)) (by first | omega | assumption | decide | (show 0 ≤ (gI z15 16).toInt ∧ (gI z15 16).toInt ≤ 60 ∧ (h + 1) ≤ (gI z15 16).toInt; first | omega | assumption)) (rn_fr h_892 (by decide) (rn_I (rn_fr h_19 (by decide) u_17)))) (fun r20 z21 q_965 => ?_)
                      have h_966 : r20 = 0 ∨ r20 = 1 := q_965.1
                      have h_966i := bool_i h_966
                      have h_967 : FrL [3, 4, 12, 13, 14, 16] z15 z21 := q_965.2.1
                      have h_968 : (gI z15 12).toInt ≤ (gI z21 12).toInt ∧ (gI z21 12).toInt ≤ (gI z15 1).toInt := q_965.2.2.1
                      have h_969 : KP t z15 z21 := q_965.2.2.2.1
                      have h_969a : (gT z15 4 t).toInt ≤ (gT z21 4 t).toInt := h_969.1
                      have h_970 : r20.toInt = 0 → (gI z21 13).toInt ≠ 0 := q_965.2.2.2.2.1
                      have h_971 : r20.toInt = 1 → (gT z21 4 t).toInt + (o + 1) ≤ (gI z21 12).toInt ∧ (h + 1) + 1 ≤ (gI z21 16).toInt ∧ (gI z21 16).toInt ≤ 60 := q_965.2.2.2.2.2.1
                      have h_972 : r20.toInt = 1 → RN z21 t b ((h + 1) + 1) := q_965.2.2.2.2.2.2
                      clear q_965
                      have s_973 : (gI z21 1).toInt = (gI z15 1).toInt := congrArg Int32.toInt (h_967 1 (by decide)).1
                      have s_974 : (gI z21 15).toInt = (gI z15 15).toInt := congrArg Int32.toInt (h_967 15 (by decide)).1
                      refine ok_ite (fun c_975 => ?_) (fun c_975 => ?_)
                      · skip
                        have r_976 := n_rng r20
                        have c_975i : r20.toInt = 0 := bI_eq rfl (show (0 : Int32).toInt = 0 by decide) c_975
                        have u_977 : (gI z21 13).toInt ≠ 0 := h_970 (by omega)
                        try have e_978 : (0 : Int32).toInt = 0 := (show (0 : Int32).toInt = 0 by decide)
                        exact ok_some ⟨Or.inl rfl, (fr_tr (fr_tr (fr_I (fr_tr (fr_tr fr_rf h_3 (by decide)) h_19 (by decide)) (by decide)) h_892 (by decide)) h_967 (by decide)), (show (gI z_t 12).toInt ≤ (gI z21 12).toInt ∧ (gI z21 12).toInt ≤ (gI z_t 1).toInt by first | omega | assumption | trivial), (kp_tr (kp_fr (kp_I (kp_fr (kp_tr kp_rf h_5) h_19 (by decide))) h_892 (by decide)) h_969), (show (0 : Int32).toInt = 0 → (gI z21 13).toInt ≠ 0 from fun _ => by first | omega | assumption), (show (0 : Int32).toInt = 1 → (gT z21 4 t).toInt + o ≤ (gI z21 12).toInt ∧ h + 1 ≤ (gI z21 16).toInt ∧ (gI z21 16).toInt ≤ 60 from fun q => absurd q (by decide)), (show (0 : Int32).toInt = 1 → RN z21 t b (h + 1) from fun q => absurd q (by decide))⟩
                      · skip
                        have r_979 := n_rng r20
                        have c_975i : r20.toInt ≠ 0 := bI_neq rfl (show (0 : Int32).toInt = 0 by decide) c_975
                        have u_980 : (gT z21 4 t).toInt + (o + 1) ≤ (gI z21 12).toInt ∧ (h + 1) + 1 ≤ (gI z21 16).toInt ∧ (gI z21 16).toInt ≤ 60 := h_971 (by omega)
                        have u_981 : RN z21 t b ((h + 1) + 1) := h_972 (by omega)
                        have e_983 : (6 + 4).toInt = (6 + 4) := (i32_add (show (6 : Int32).toInt = 6 by decide) (show (4 : Int32).toInt = 4 by decide) (by omega) (by omega))
                        have e_984 : (0 : Int32).toInt = 0 := (show (0 : Int32).toInt = 0 by decide)
                        refine ok_bd (t_fX9_puts (t := t) (by first | omega | assumption | decide | (show (gI z21 15).toInt = t ∧ t < 6; first | omega | assumption)) (by first | omega | assumption | decide | (show 0 ≤ (gT z21 4 t).toInt ∧ (gT z21 4 t).toInt < 400; first | omega | assumption))) (fun z24 q_982 => ?_)
                        have h_985 : FrL [3, 4] z21 z24 := q_982.1
                        have h_986 : PUT t z21 z24 (((6 : Int32) + 4) + (16 * (0 : Int32))) := q_982.2
                        clear q_982
                        have s_987 : (gI z24 1).toInt = (gI z21 1).toInt := congrArg Int32.toInt (h_985 1 (by decide)).1
                        have s_988 : (gI z24 12).toInt = (gI z21 12).toInt := congrArg Int32.toInt (h_985 12 (by decide)).1
                        have s_989 : (gI z24 13).toInt = (gI z21 13).toInt := congrArg Int32.toInt (h_985 13 (by decide)).1
                        have s_990 : (gI z24 15).toInt = (gI z21 15).toInt := congrArg Int32.toInt (h_985 15 (by decide)).1
                        have s_991 : (gI z24 16).toInt = (gI z21 16).toInt := congrArg Int32.toInt (h_985 16 (by decide)).1
                        have h_986a := h_986.1
                        have h_986k := h_986.2.1
                        have h_986r : RN z24 t b ((h + 1)) := rn_put (by omega) h_986 u_981 (stp_bin (by omega) (by decide) (by decide) (by decide))
                        try have e_992 : (1 : Int32).toInt = 1 := (show (1 : Int32).toInt = 1 by decide)
                        exact ok_some ⟨Or.inr rfl, (fr_tr (fr_tr (fr_tr (fr_I (fr_tr (fr_tr fr_rf h_3 (by decide)) h_19 (by decide)) (by decide)) h_892 (by decide)) h_967 (by decide)) h_985 (by decide)), (show (gI z_t 12).toInt ≤ (gI z24 12).toInt ∧ (gI z24 12).toInt ≤ (gI z_t 1).toInt by first | omega | assumption | trivial), (kp_tr (kp_tr (kp_fr (kp_I (kp_fr (kp_tr kp_rf h_5) h_19 (by decide))) h_892 (by decide)) h_969) h_986k), (show (1 : Int32).toInt = 0 → (gI z24 13).toInt ≠ 0 from fun q => absurd q (by decide)), (show (1 : Int32).toInt = 1 → (gT z24 4 t).toInt + o ≤ (gI z24 12).toInt ∧ h + 1 ≤ (gI z24 16).toInt ∧ (gI z24 16).toInt ≤ 60 from fun _ => by first | omega | assumption), (fun _ => h_986r)⟩
                    · skip
                      exact absurd (by decide) c_964
            · skip
              exact absurd (by decide) c_889
          · skip
            have c_888i : r6.toInt ≠ 61 := bI_neq rfl (show (61 : Int32).toInt = 61 by decide) c_888
            refine ok_ite (fun c_993 => ?_) (fun c_993 => ?_)
            · skip
              have r_994 := n_rng (gI z7 1)
              have r_995 := n_rng (gI z7 12)
              try have c_993i : (gI z7 1).toInt ≤ ((gI z7 12).toInt + 1) := bI_le rfl (i32_add rfl (show (1 : Int32).toInt = 1 by decide) (by omega) (by omega)) c_993
              refine ok_jn ?_
              refine ok_ite (fun c_996 => ?_) (fun c_996 => ?_)
              · skip
                refine ok_bd2 (t_fX9_makes (by first | omega | assumption | decide | (show 0 ≤ (gI z7 16).toInt ∧ (gI z7 16).toInt ≤ 60; first | omega | assumption)) (by first | omega | assumption | decide | (show 0 ≤ (gI z7 12).toInt ∧ (gI z7 12).toInt ≤ 400; first | omega | assumption))) (fun r14 z15 q_997 => ?_)
                have h_998 : r14 = 0 ∨ r14 = 1 := q_997.1
                have h_998i := bool_i h_998
                have h_999 : FrL [13, 16] (sI z7 12 ((gI z7 12) + 1)) z15 := q_997.2.1
                have h_1000 : r14.toInt = 0 → (gI z15 13).toInt ≠ 0 := q_997.2.2.1
                have h_1001 : r14.toInt = 1 → (gI z15 16).toInt = (gI z7 16).toInt + 1 ∧ (gI z15 16).toInt ≤ 60 := q_997.2.2.2
                clear q_997
                have s_1002 : (gI z15 1).toInt = (gI z7 1).toInt := congrArg Int32.toInt (h_999 1 (by decide)).1
                have s_1003 : (gI z15 12).toInt = ((gI z7 12) + 1).toInt := congrArg Int32.toInt (h_999 12 (by decide)).1
                have s_1004 : (gI z15 15).toInt = (gI z7 15).toInt := congrArg Int32.toInt (h_999 15 (by decide)).1
                have s_1005 : (gT z15 4 t).toInt = (gT z7 4 t).toInt := congrArg (fun f : Nat → Int32 => (f t).toInt) (h_999 4 (by decide)).2.1
                refine ok_ite (fun c_1006 => ?_) (fun c_1006 => ?_)
                · skip
                  have r_1007 := n_rng r14
                  have c_1006i : r14.toInt = 0 := bI_eq rfl (show (0 : Int32).toInt = 0 by decide) c_1006
                  have u_1008 : (gI z15 13).toInt ≠ 0 := h_1000 (by omega)
                  try have e_1009 : (0 : Int32).toInt = 0 := (show (0 : Int32).toInt = 0 by decide)
                  exact ok_some ⟨Or.inl rfl, (fr_tr (fr_I (fr_tr (fr_tr fr_rf h_3 (by decide)) h_19 (by decide)) (by decide)) h_999 (by decide)), (show (gI z_t 12).toInt ≤ (gI z15 12).toInt ∧ (gI z15 12).toInt ≤ (gI z_t 1).toInt by first | omega | assumption | trivial), (kp_fr (kp_I (kp_fr (kp_tr kp_rf h_5) h_19 (by decide))) h_999 (by decide)), (show (0 : Int32).toInt = 0 → (gI z15 13).toInt ≠ 0 from fun _ => by first | omega | assumption), (show (0 : Int32).toInt = 1 → (gT z15 4 t).toInt + o ≤ (gI z15 12).toInt ∧ h + 1 ≤ (gI z15 16).toInt ∧ (gI z15 16).toInt ≤ 60 from fun q => absurd q (by decide)), (show (0 : Int32).toInt = 1 → RN z15 t b (h + 1) from fun q => absurd q (by decide))⟩
                · skip
                  have r_1010 := n_rng r14
                  have c_1006i : r14.toInt ≠ 0 := bI_neq rfl (show (0 : Int32).toInt = 0 by decide) c_1006
                  have u_1011 : (gI z15 16).toInt = (gI z7 16).toInt + 1 ∧ (gI z15 16).toInt ≤ 60 := h_1001 (by omega)
                  refine ok_jn ?_
                  refine ok_ite (fun c_1012 => ?_) (fun c_1012 => ?_)
                  · skip
                    have c_1012i : r6.toInt = 60 := bI_eq rfl (show (60 : Int32).toInt = 60 by decide) c_1012
                    refine ok_ite (fun c_1013 => ?_) (fun c_1013 => ?_)
                    · skip
                      refine ok_bd2 (t_fX9_sum (t := t) (b := b) (h := h + 1) (o := o + 1) (by first | omega | assumption | decide | (show 0 ≤ (gI z15 12).toInt ∧ (gI z15 12).toInt ≤ (gI z15 1).toInt ∧ (gI z15 1).toInt ≤ 400; first | omega | assumption)) (by first | omega | assumption | decide | (show (gI z15 15).toInt = t ∧ t < 6; first | omega | assumption)) (by first | omega | assumption | decide | (show 0 ≤ (gT z15 4 t).toInt ∧ (gT z15 4 t).toInt + (o + 1) ≤ (gI z15 12).toInt; first | omega | assumption)) (by first | omega | assumption | decide | (show 0 ≤ (gI z15 16).toInt ∧ (gI z15 16).toInt ≤ 60 ∧ (h + 1) ≤ (gI z15 16).toInt; first | omega | assumption)) (rn_fr h_999 (by decide) (rn_I (rn_fr h_19 (by decide) u_17)))) (fun r20 z21 q_1014 => ?_)
                      have h_1015 : r20 = 0 ∨ r20 = 1 := q_1014.1
                      have h_1015i := bool_i h_1015
                      have h_1016 : FrL [3, 4, 12, 13, 14, 16] z15 z21 := q_1014.2.1
                      have h_1017 : (gI z15 12).toInt ≤ (gI z21 12).toInt ∧ (gI z21 12).toInt ≤ (gI z15 1).toInt := q_1014.2.2.1
                      have h_1018 : KP t z15 z21 := q_1014.2.2.2.1
                      have h_1018a : (gT z15 4 t).toInt ≤ (gT z21 4 t).toInt := h_1018.1
                      have h_1019 : r20.toInt = 0 → (gI z21 13).toInt ≠ 0 := q_1014.2.2.2.2.1
                      have h_1020 : r20.toInt = 1 → (gT z21 4 t).toInt + (o + 1) ≤ (gI z21 12).toInt ∧ (h + 1) + 1 ≤ (gI z21 16).toInt ∧ (gI z21 16).toInt ≤ 60 := q_1014.2.2.2.2.2.1
                      have h_1021 : r20.toInt = 1 → RN z21 t b ((h + 1) + 1) := q_1014.2.2.2.2.2.2
                      clear q_1014
                      have s_1022 : (gI z21 1).toInt = (gI z15 1).toInt := congrArg Int32.toInt (h_1016 1 (by decide)).1
                      have s_1023 : (gI z21 15).toInt = (gI z15 15).toInt := congrArg Int32.toInt (h_1016 15 (by decide)).1
                      refine ok_ite (fun c_1024 => ?_) (fun c_1024 => ?_)
                      · skip
                        have r_1025 := n_rng r20
                        have c_1024i : r20.toInt = 0 := bI_eq rfl (show (0 : Int32).toInt = 0 by decide) c_1024
                        have u_1026 : (gI z21 13).toInt ≠ 0 := h_1019 (by omega)
                        try have e_1027 : (0 : Int32).toInt = 0 := (show (0 : Int32).toInt = 0 by decide)
                        exact ok_some ⟨Or.inl rfl, (fr_tr (fr_tr (fr_I (fr_tr (fr_tr fr_rf h_3 (by decide)) h_19 (by decide)) (by decide)) h_999 (by decide)) h_1016 (by decide)), (show (gI z_t 12).toInt ≤ (gI z21 12).toInt ∧ (gI z21 12).toInt ≤ (gI z_t 1).toInt by first | omega | assumption | trivial), (kp_tr (kp_fr (kp_I (kp_fr (kp_tr kp_rf h_5) h_19 (by decide))) h_999 (by decide)) h_1018), (show (0 : Int32).toInt = 0 → (gI z21 13).toInt ≠ 0 from fun _ => by first | omega | assumption), (show (0 : Int32).toInt = 1 → (gT z21 4 t).toInt + o ≤ (gI z21 12).toInt ∧ h + 1 ≤ (gI z21 16).toInt ∧ (gI z21 16).toInt ≤ 60 from fun q => absurd q (by decide)), (show (0 : Int32).toInt = 1 → RN z21 t b (h + 1) from fun q => absurd q (by decide))⟩
                      · skip
                        have r_1028 := n_rng r20
                        have c_1024i : r20.toInt ≠ 0 := bI_neq rfl (show (0 : Int32).toInt = 0 by decide) c_1024
                        have u_1029 : (gT z21 4 t).toInt + (o + 1) ≤ (gI z21 12).toInt ∧ (h + 1) + 1 ≤ (gI z21 16).toInt ∧ (gI z21 16).toInt ≤ 60 := h_1020 (by omega)
                        have u_1030 : RN z21 t b ((h + 1) + 1) := h_1021 (by omega)
                        have e_1032 : (6 + 0).toInt = (6 + 0) := (i32_add (show (6 : Int32).toInt = 6 by decide) (show (0 : Int32).toInt = 0 by decide) (by omega) (by omega))
                        have e_1033 : (0 : Int32).toInt = 0 := (show (0 : Int32).toInt = 0 by decide)
                        refine ok_bd (t_fX9_puts (t := t) (by first | omega | assumption | decide | (show (gI z21 15).toInt = t ∧ t < 6; first | omega | assumption)) (by first | omega | assumption | decide | (show 0 ≤ (gT z21 4 t).toInt ∧ (gT z21 4 t).toInt < 400; first | omega | assumption))) (fun z24 q_1031 => ?_)
                        have h_1034 : FrL [3, 4] z21 z24 := q_1031.1
                        have h_1035 : PUT t z21 z24 (((6 : Int32) + 0) + (16 * (0 : Int32))) := q_1031.2
                        clear q_1031
                        have s_1036 : (gI z24 1).toInt = (gI z21 1).toInt := congrArg Int32.toInt (h_1034 1 (by decide)).1
                        have s_1037 : (gI z24 12).toInt = (gI z21 12).toInt := congrArg Int32.toInt (h_1034 12 (by decide)).1
                        have s_1038 : (gI z24 13).toInt = (gI z21 13).toInt := congrArg Int32.toInt (h_1034 13 (by decide)).1
                        have s_1039 : (gI z24 15).toInt = (gI z21 15).toInt := congrArg Int32.toInt (h_1034 15 (by decide)).1
                        have s_1040 : (gI z24 16).toInt = (gI z21 16).toInt := congrArg Int32.toInt (h_1034 16 (by decide)).1
                        have h_1035a := h_1035.1
                        have h_1035k := h_1035.2.1
                        have h_1035r : RN z24 t b ((h + 1)) := rn_put (by omega) h_1035 u_1030 (stp_bin (by omega) (by decide) (by decide) (by decide))
                        try have e_1041 : (1 : Int32).toInt = 1 := (show (1 : Int32).toInt = 1 by decide)
                        exact ok_some ⟨Or.inr rfl, (fr_tr (fr_tr (fr_tr (fr_I (fr_tr (fr_tr fr_rf h_3 (by decide)) h_19 (by decide)) (by decide)) h_999 (by decide)) h_1016 (by decide)) h_1034 (by decide)), (show (gI z_t 12).toInt ≤ (gI z24 12).toInt ∧ (gI z24 12).toInt ≤ (gI z_t 1).toInt by first | omega | assumption | trivial), (kp_tr (kp_tr (kp_fr (kp_I (kp_fr (kp_tr kp_rf h_5) h_19 (by decide))) h_999 (by decide)) h_1018) h_1035k), (show (1 : Int32).toInt = 0 → (gI z24 13).toInt ≠ 0 from fun q => absurd q (by decide)), (show (1 : Int32).toInt = 1 → (gT z24 4 t).toInt + o ≤ (gI z24 12).toInt ∧ h + 1 ≤ (gI z24 16).toInt ∧ (gI z24 16).toInt ≤ 60 from fun _ => by first | omega | assumption), (fun _ => h_1035r)⟩
                    · skip
                      exact absurd (by decide) c_1013
                  · skip
                    have c_1012i : r6.toInt ≠ 60 := bI_neq rfl (show (60 : Int32).toInt = 60 by decide) c_1012
                    refine ok_ite (fun c_1042 => ?_) (fun c_1042 => ?_)
                    · skip
                      have c_1042i : r6.toInt = 61 := bI_eq rfl (show (61 : Int32).toInt = 61 by decide) c_1042
                      refine ok_bd2 (t_fX9_sum (t := t) (b := b) (h := h + 1) (o := o + 1) (by first | omega | assumption | decide | (show 0 ≤ (gI z15 12).toInt ∧ (gI z15 12).toInt ≤ (gI z15 1).toInt ∧ (gI z15 1).toInt ≤ 400; first | omega | assumption)) (by first | omega | assumption | decide | (show (gI z15 15).toInt = t ∧ t < 6; first | omega | assumption)) (by first | omega | assumption | decide | (show 0 ≤ (gT z15 4 t).toInt ∧ (gT z15 4 t).toInt + (o + 1) ≤ (gI z15 12).toInt; first | omega | assumption)) (by first | omega | assumption | decide | (show 0 ≤ (gI z15 16).toInt ∧ (gI z15 16).toInt ≤ 60 ∧ (h + 1) ≤ (gI z15 16).toInt; first | omega | assumption)) (rn_fr h_999 (by decide) (rn_I (rn_fr h_19 (by decide) u_17)))) (fun r20 z21 q_1043 => ?_)
                      have h_1044 : r20 = 0 ∨ r20 = 1 := q_1043.1
                      have h_1044i := bool_i h_1044
                      have h_1045 : FrL [3, 4, 12, 13, 14, 16] z15 z21 := q_1043.2.1
                      have h_1046 : (gI z15 12).toInt ≤ (gI z21 12).toInt ∧ (gI z21 12).toInt ≤ (gI z15 1).toInt := q_1043.2.2.1
                      have h_1047 : KP t z15 z21 := q_1043.2.2.2.1
                      have h_1047a : (gT z15 4 t).toInt ≤ (gT z21 4 t).toInt := h_1047.1
                      have h_1048 : r20.toInt = 0 → (gI z21 13).toInt ≠ 0 := q_1043.2.2.2.2.1
                      have h_1049 : r20.toInt = 1 → (gT z21 4 t).toInt + (o + 1) ≤ (gI z21 12).toInt ∧ (h + 1) + 1 ≤ (gI z21 16).toInt ∧ (gI z21 16).toInt ≤ 60 := q_1043.2.2.2.2.2.1
                      have h_1050 : r20.toInt = 1 → RN z21 t b ((h + 1) + 1) := q_1043.2.2.2.2.2.2
                      clear q_1043
                      have s_1051 : (gI z21 1).toInt = (gI z15 1).toInt := congrArg Int32.toInt (h_1045 1 (by decide)).1
                      have s_1052 : (gI z21 15).toInt = (gI z15 15).toInt := congrArg Int32.toInt (h_1045 15 (by decide)).1
                      refine ok_ite (fun c_1053 => ?_) (fun c_1053 => ?_)
                      · skip
                        have r_1054 := n_rng r20
                        have c_1053i : r20.toInt = 0 := bI_eq rfl (show (0 : Int32).toInt = 0 by decide) c_1053
                        have u_1055 : (gI z21 13).toInt ≠ 0 := h_1048 (by omega)
                        try have e_1056 : (0 : Int32).toInt = 0 := (show (0 : Int32).toInt = 0 by decide)
                        exact ok_some ⟨Or.inl rfl, (fr_tr (fr_tr (fr_I (fr_tr (fr_tr fr_rf h_3 (by decide)) h_19 (by decide)) (by decide)) h_999 (by decide)) h_1045 (by decide)), (show (gI z_t 12).toInt ≤ (gI z21 12).toInt ∧ (gI z21 12).toInt ≤ (gI z_t 1).toInt by first | omega | assumption | trivial), (kp_tr (kp_fr (kp_I (kp_fr (kp_tr kp_rf h_5) h_19 (by decide))) h_999 (by decide)) h_1047), (show (0 : Int32).toInt = 0 → (gI z21 13).toInt ≠ 0 from fun _ => by first | omega | assumption), (show (0 : Int32).toInt = 1 → (gT z21 4 t).toInt + o ≤ (gI z21 12).toInt ∧ h + 1 ≤ (gI z21 16).toInt ∧ (gI z21 16).toInt ≤ 60 from fun q => absurd q (by decide)), (show (0 : Int32).toInt = 1 → RN z21 t b (h + 1) from fun q => absurd q (by decide))⟩
                      · skip
                        have r_1057 := n_rng r20
                        have c_1053i : r20.toInt ≠ 0 := bI_neq rfl (show (0 : Int32).toInt = 0 by decide) c_1053
                        have u_1058 : (gT z21 4 t).toInt + (o + 1) ≤ (gI z21 12).toInt ∧ (h + 1) + 1 ≤ (gI z21 16).toInt ∧ (gI z21 16).toInt ≤ 60 := h_1049 (by omega)
                        have u_1059 : RN z21 t b ((h + 1) + 1) := h_1050 (by omega)
                        have e_1061 : (6 + 2).toInt = (6 + 2) := (i32_add (show (6 : Int32).toInt = 6 by decide) (show (2 : Int32).toInt = 2 by decide) (by omega) (by omega))
                        have e_1062 : (0 : Int32).toInt = 0 := (show (0 : Int32).toInt = 0 by decide)
                        refine ok_bd (t_fX9_puts (t := t) (by first | omega | assumption | decide | (show (gI z21 15).toInt = t ∧ t < 6; first | omega | assumption)) (by first | omega | assumption | decide | (show 0 ≤ (gT z21 4 t).toInt ∧ (gT z21 4 t).toInt < 400; first | omega | assumption))) (fun z24 q_1060 => ?_)
                        have h_1063 : FrL [3, 4] z21 z24 := q_1060.1
                        have h_1064 : PUT t z21 z24 (((6 : Int32) + 2) + (16 * (0 : Int32))) := q_1060.2
                        clear q_1060
                        have s_1065 : (gI z24 1).toInt = (gI z21 1).toInt := congrArg Int32.toInt (h_1063 1 (by decide)).1
                        have s_1066 : (gI z24 12).toInt = (gI z21 12).toInt := congrArg Int32.toInt (h_1063 12 (by decide)).1
                        have s_1067 : (gI z24 13).toInt = (gI z21 13).toInt := congrArg Int32.toInt (h_1063 13 (by decide)).1
                        have s_1068 : (gI z24 15).toInt = (gI z21 15).toInt := congrArg Int32.toInt (h_1063 15 (by decide)).1
                        have s_1069 : (gI z24 16).toInt = (gI z21 16).toInt := congrArg Int32.toInt (h_1063 16 (by decide)).1
                        have h_1064a := h_1064.1
                        have h_1064k := h_1064.2.1
                        have h_1064r : RN z24 t b ((h + 1)) := rn_put (by omega) h_1064 u_1059 (stp_bin (by omega) (by decide) (by decide) (by decide))
                        try have e_1070 : (1 : Int32).toInt = 1 := (show (1 : Int32).toInt = 1 by decide)
                        exact ok_some ⟨Or.inr rfl, (fr_tr (fr_tr (fr_tr (fr_I (fr_tr (fr_tr fr_rf h_3 (by decide)) h_19 (by decide)) (by decide)) h_999 (by decide)) h_1045 (by decide)) h_1063 (by decide)), (show (gI z_t 12).toInt ≤ (gI z24 12).toInt ∧ (gI z24 12).toInt ≤ (gI z_t 1).toInt by first | omega | assumption | trivial), (kp_tr (kp_tr (kp_fr (kp_I (kp_fr (kp_tr kp_rf h_5) h_19 (by decide))) h_999 (by decide)) h_1047) h_1064k), (show (1 : Int32).toInt = 0 → (gI z24 13).toInt ≠ 0 from fun q => absurd q (by decide)), (show (1 : Int32).toInt = 1 → (gT z24 4 t).toInt + o ≤ (gI z24 12).toInt ∧ h + 1 ≤ (gI z24 16).toInt ∧ (gI z24 16).toInt ≤ 60 from fun _ => by first | omega | assumption), (fun _ => h_1064r)⟩
                    · skip
                      have c_1042i : r6.toInt ≠ 61 := bI_neq rfl (show (61 : Int32).toInt = 61 by decide) c_1042
                      refine ok_ite (fun c_1071 => ?_) (fun c_1071 => ?_)
                      · skip
                        refine ok_bd2 (t_fX9_sum (t := t) (b := b) (h := h + 1) (o := o + 1) (by first | omega | assumption | decide | (show 0 ≤ (gI z15 12).toInt ∧ (gI z15 12).toInt ≤ (gI z15 1).toInt ∧ (gI z15 1).toInt ≤ 400; first | omega | assumption)) (by first | omega | assumption | decide | (show (gI z15 15).toInt = t ∧ t < 6; first | omega | assumption)) (by first | omega | assumption | decide | (show 0 ≤ (gT z15 4 t).toInt ∧ (gT z15 4 t).toInt + (o + 1) ≤ (gI z15 12).toInt; first | omega | assumption)) (by first | omega | assumption | decide | (show 0 ≤ (gI z15 16).toInt ∧ (gI z15 16).toInt ≤ 60 ∧ (h + 1) ≤ (gI z15 16).toInt; first | omega | assumption)) (rn_fr h_999 (by decide) (rn_I (rn_fr h_19 (by decide) u_17)))) (fun r20 z21 q_1072 => ?_)
                        have h_1073 : r20 = 0 ∨ r20 = 1 := q_1072.1
                        have h_1073i := bool_i h_1073
                        have h_1074 : FrL [3, 4, 12, 13, 14, 16] z15 z21 := q_1072.2.1
                        have h_1075 : (gI z15 12).toInt ≤ (gI z21 12).toInt ∧ (gI z21 12).toInt ≤ (gI z15 1).toInt := q_1072.2.2.1
                        have h_1076 : KP t z15 z21 := q_1072.2.2.2.1
                        have h_1076a : (gT z15 4 t).toInt ≤ (gT z21 4 t).toInt := h_1076.1
                        have h_1077 : r20.toInt = 0 → (gI z21 13).toInt ≠ 0 := q_1072.2.2.2.2.1
                        have h_1078 : r20.toInt = 1 → (gT z21 4 t).toInt + (o + 1) ≤ (gI z21 12).toInt ∧ (h + 1) + 1 ≤ (gI z21 16).toInt ∧ (gI z21 16).toInt ≤ 60 := q_1072.2.2.2.2.2.1
                        have h_1079 : r20.toInt = 1 → RN z21 t b ((h + 1) + 1) := q_1072.2.2.2.2.2.2
                        clear q_1072
                        have s_1080 : (gI z21 1).toInt = (gI z15 1).toInt := congrArg Int32.toInt (h_1074 1 (by decide)).1
                        have s_1081 : (gI z21 15).toInt = (gI z15 15).toInt := congrArg Int32.toInt (h_1074 15 (by decide)).1
                        refine ok_ite (fun c_1082 => ?_) (fun c_1082 => ?_)
                        · skip
                          have r_1083 := n_rng r20
                          have c_1082i : r20.toInt = 0 := bI_eq rfl (show (0 : Int32).toInt = 0 by decide) c_1082
                          have u_1084 : (gI z21 13).toInt ≠ 0 := h_1077 (by omega)
                          try have e_1085 : (0 : Int32).toInt = 0 := (show (0 : Int32).toInt = 0 by decide)
                          exact ok_some ⟨Or.inl rfl, (fr_tr (fr_tr (fr_I (fr_tr (fr_tr fr_rf h_3 (by decide)) h_19 (by decide)) (by decide)) h_999 (by decide)) h_1074 (by decide)), (show (gI z_t 12).toInt ≤ (gI z21 12).toInt ∧ (gI z21 12).toInt ≤ (gI z_t 1).toInt by first | omega | assumption | trivial), (kp_tr (kp_fr (kp_I (kp_fr (kp_tr kp_rf h_5) h_19 (by decide))) h_999 (by decide)) h_1076), (show (0 : Int32).toInt = 0 → (gI z21 13).toInt ≠ 0 from fun _ => by first | omega | assumption), (show (0 : Int32).toInt = 1 → (gT z21 4 t).toInt + o ≤ (gI z21 12).toInt ∧ h + 1 ≤ (gI z21 16).toInt ∧ (gI z21 16).toInt ≤ 60 from fun q => absurd q (by decide)), (show (0 : Int32).toInt = 1 → RN z21 t b (h + 1) from fun q => absurd q (by decide))⟩
                        · skip
                          have r_1086 := n_rng r20
                          have c_1082i : r20.toInt ≠ 0 := bI_neq rfl (show (0 : Int32).toInt = 0 by decide) c_1082
                          have u_1087 : (gT z21 4 t).toInt + (o + 1) ≤ (gI z21 12).toInt ∧ (h + 1) + 1 ≤ (gI z21 16).toInt ∧ (gI z21 16).toInt ≤ 60 := h_1078 (by omega)
                          have u_1088 : RN z21 t b ((h + 1) + 1) := h_1079 (by omega)
                          have e_1090 : (6 + 4).toInt = (6 + 4) := (i32_add (show (6 : Int32).toInt = 6 by decide) (show (4 : Int32).toInt = 4 by decide) (by omega) (by omega))
                          have e_1091 : (0 : Int32).toInt = 0 := (show (0 : Int32).toInt = 0 by decide)
                          refine ok_bd (t_fX9_puts (t := t) (by first | omega | assumption | decide | (show (gI z21 15).toInt = t ∧ t < 6; first | omega | assumption)) (by first | omega | assumption | decide | (show 0 ≤ (gT z21 4 t).toInt ∧ (gT z21 4 t).toInt < 400; first | omega | assumption))) (fun z24 q_1089 => ?_)
                          have h_1092 : FrL [3, 4] z21 z24 := q_1089.1
                          have h_1093 : PUT t z21 z24 (((6 : Int32) + 4) + (16 * (0 : Int32))) := q_1089.2
                          clear q_1089
                          have s_1094 : (gI z24 1).toInt = (gI z21 1).toInt := congrArg Int32.toInt (h_1092 1 (by decide)).1
                          have s_1095 : (gI z24 12).toInt = (gI z21 12).toInt := congrArg Int32.toInt (h_1092 12 (by decide)).1
                          have s_1096 : (gI z24 13).toInt = (gI z21 13).toInt := congrArg Int32.toInt (h_1092 13 (by decide)).1
                          have s_1097 : (gI z24 15).toInt = (gI z21 15).toInt := congrArg Int32.toInt (h_1092 15 (by decide)).1
                          have s_1098 : (gI z24 16).toInt = (gI z21 16).toInt := congrArg Int32.toInt (h_1092 16 (by decide)).1
                          have h_1093a := h_1093.1
                          have h_1093k := h_1093.2.1
                          have h_1093r : RN z24 t b ((h + 1)) := rn_put (by omega) h_1093 u_1088 (stp_bin (by omega) (by decide) (by decide) (by decide))
                          try have e_1099 : (1 : Int32).toInt = 1 := (show (1 : Int32).toInt = 1 by decide)
                          exact ok_some ⟨Or.inr rfl, (fr_tr (fr_tr (fr_tr (fr_I (fr_tr (fr_tr fr_rf h_3 (by decide)) h_19 (by decide)) (by decide)) h_999 (by decide)) h_1074 (by decide)) h_1092 (by decide)), (show (gI z_t 12).toInt ≤ (gI z24 12).toInt ∧ (gI z24 12).toInt ≤ (gI z_t 1).toInt by first | omega | assumption | trivial), (kp_tr (kp_tr (kp_fr (kp_I (kp_fr (kp_tr kp_rf h_5) h_19 (by decide))) h_999 (by decide)) h_1076) h_1093k), (show (1 : Int32).toInt = 0 → (gI z24 13).toInt ≠ 0 from fun q => absurd q (by decide)), (show (1 : Int32).toInt = 1 → (gT z24 4 t).toInt + o ≤ (gI z24 12).toInt ∧ h + 1 ≤ (gI z24 16).toInt ∧ (gI z24 16).toInt ≤ 60 from fun _ => by first | omega | assumption), (fun _ => h_1093r)⟩
                      · skip
                        exact absurd (by decide) c_1071
              · skip
                exact absurd (by decide) c_996
            · skip
              have r_1100 := n_rng (gI z7 1)
              have r_1101 := n_rng (gI z7 12)
              try have c_993i : (gI z7 1).toInt > ((gI z7 12).toInt + 1) := bI_nle rfl (i32_add rfl (show (1 : Int32).toInt = 1 by decide) (by omega) (by omega)) c_993
              have e_1102 : ((gI z7 12) + 1).toInt = ((gI z7 12).toInt + 1) := (i32_add rfl (show (1 : Int32).toInt = 1 by decide) (by omega) (by omega))
              refine ok_gd (inb_of (by omega) (by omega)) ?_
              have i_1103 : (((gI z7 12) + 1).toNatClampNeg : Int) = ((gI z7 12) + 1).toInt := clampI (by omega)
              refine ok_ite (fun c_1104 => ?_) (fun c_1104 => ?_)
              · skip
                have r_1105 := n_rng (gT z7 0 ((gI z7 12) + 1).toNatClampNeg)
                have c_1104i : (gT z7 0 ((gI z7 12) + 1).toNatClampNeg).toInt = 61 := bI_eq rfl (show (61 : Int32).toInt = 61 by decide) c_1104
                refine ok_jn ?_
                refine ok_ite (fun c_1106 => ?_) (fun c_1106 => ?_)
                · skip
                  exact absurd c_1106 (by decide)
                · skip
                  refine ok_bd2 (t_fX9_makes (by first | omega | assumption | decide | (show 0 ≤ (gI z7 16).toInt ∧ (gI z7 16).toInt ≤ 60; first | omega | assumption)) (by first | omega | assumption | decide | (show 0 ≤ (gI z7 12).toInt ∧ (gI z7 12).toInt ≤ 400; first | omega | assumption))) (fun r14 z15 q_1107 => ?_)
                  have h_1108 : r14 = 0 ∨ r14 = 1 := q_1107.1
                  have h_1108i := bool_i h_1108
                  have h_1109 : FrL [13, 16] (sI (sI z7 12 ((gI z7 12) + 1)) 12 (((gI z7 12) + 1) + 1)) z15 := q_1107.2.1
                  have h_1110 : r14.toInt = 0 → (gI z15 13).toInt ≠ 0 := q_1107.2.2.1
                  have h_1111 : r14.toInt = 1 → (gI z15 16).toInt = (gI z7 16).toInt + 1 ∧ (gI z15 16).toInt ≤ 60 := q_1107.2.2.2
                  clear q_1107
                  have s_1112 : (gI z15 1).toInt = (gI z7 1).toInt := congrArg Int32.toInt (h_1109 1 (by decide)).1
                  have s_1113 : (gI z15 12).toInt = (((gI z7 12) + 1) + 1).toInt := congrArg Int32.toInt (h_1109 12 (by decide)).1
                  have s_1114 : (gI z15 15).toInt = (gI z7 15).toInt := congrArg Int32.toInt (h_1109 15 (by decide)).1
                  have s_1115 : (gT z15 4 t).toInt = (gT z7 4 t).toInt := congrArg (fun f : Nat → Int32 => (f t).toInt) (h_1109 4 (by decide)).2.1
                  refine ok_ite (fun c_1116 => ?_) (fun c_1116 => ?_)
                  · skip
                    have r_1117 := n_rng r14
                    have c_1116i : r14.toInt = 0 := bI_eq rfl (show (0 : Int32).toInt = 0 by decide) c_1116
                    have u_1118 : (gI z15 13).toInt ≠ 0 := h_1110 (by omega)
                    try have e_1119 : (0 : Int32).toInt = 0 := (show (0 : Int32).toInt = 0 by decide)
                    exact ok_some ⟨Or.inl rfl, (fr_tr (fr_I (fr_I (fr_tr (fr_tr fr_rf h_3 (by decide)) h_19 (by decide)) (by decide)) (by decide)) h_1109 (by decide)), (show (gI z_t 12).toInt ≤ (gI z15 12).toInt ∧ (gI z15 12).toInt ≤ (gI z_t 1).toInt by first | omega | assumption | trivial), (kp_fr (kp_I (kp_I (kp_fr (kp_tr kp_rf h_5) h_19 (by decide)))) h_1109 (by decide)), (show (0 : Int32).toInt = 0 → (gI z15 13).toInt ≠ 0 from fun _ => by first | omega | assumption), (show (0 : Int32).toInt = 1 → (gT z15 4 t).toInt + o ≤ (gI z15 12).toInt ∧ h + 1 ≤ (gI z15 16).toInt ∧ (gI z15 16).toInt ≤ 60 from fun q => absurd q (by decide)), (show (0 : Int32).toInt = 1 → RN z15 t b (h + 1) from fun q => absurd q (by decide))⟩
                  · skip
                    have r_1120 := n_rng r14
                    have c_1116i : r14.toInt ≠ 0 := bI_neq rfl (show (0 : Int32).toInt = 0 by decide) c_1116
                    have u_1121 : (gI z15 16).toInt = (gI z7 16).toInt + 1 ∧ (gI z15 16).toInt ≤ 60 := h_1111 (by omega)
                    refine ok_jn ?_
                    refine ok_ite (fun c_1122 => ?_) (fun c_1122 => ?_)
                    · skip
                      have c_1122i : r6.toInt = 60 := bI_eq rfl (show (60 : Int32).toInt = 60 by decide) c_1122
                      refine ok_ite (fun c_1123 => ?_) (fun c_1123 => ?_)
                      · skip
                        exact absurd c_1123 (by decide)
                      · skip
                        refine ok_bd2 (t_fX9_sum (t := t) (b := b) (h := h + 1) (o := o + 1) (by first | omega | assumption | decide | (show 0 ≤ (gI z15 12).toInt ∧ (gI z15 12).toInt ≤ (gI z15 1).toInt ∧ (gI z15 1).toInt ≤ 400; first | omega | assumption)) (by first | omega | assumption | decide | (show (gI z15 15).toInt = t ∧ t < 6; first | omega | assumption)) (by first | omega | assumption | decide | (show 0 ≤ (gT z15 4 t).toInt ∧ (gT z15 4 t).toInt + (o + 1) ≤ (gI z15 12).toInt; first | omega | assumption)) (by first | omega | assumption | decide | (show 0 ≤ (gI z15 16).toInt ∧ (gI z15 16).toInt ≤ 60 ∧ (h + 1) ≤ (gI z15 16).toInt; first | omega | assumption)) (rn_fr h_1109 (by decide) (rn_I (rn_I (rn_fr h_19 (by decide) u_17))))) (fun r20 z21 q_1124 => ?_)
                        have h_1125 : r20 = 0 ∨ r20 = 1 := q_1124.1
                        have h_1125i := bool_i h_1125
                        have h_1126 : FrL [3, 4, 12, 13, 14, 16] z15 z21 := q_1124.2.1
                        have h_1127 : (gI z15 12).toInt ≤ (gI z21 12).toInt ∧ (gI z21 12).toInt ≤ (gI z15 1).toInt := q_1124.2.2.1
                        have h_1128 : KP t z15 z21 := q_1124.2.2.2.1
                        have h_1128a : (gT z15 4 t).toInt ≤ (gT z21 4 t).toInt := h_1128.1
                        have h_1129 : r20.toInt = 0 → (gI z21 13).toInt ≠ 0 := q_1124.2.2.2.2.1
                        have h_1130 : r20.toInt = 1 → (gT z21 4 t).toInt + (o + 1) ≤ (gI z21 12).toInt ∧ (h + 1) + 1 ≤ (gI z21 16).toInt ∧ (gI z21 16).toInt ≤ 60 := q_1124.2.2.2.2.2.1
                        have h_1131 : r20.toInt = 1 → RN z21 t b ((h + 1) + 1) := q_1124.2.2.2.2.2.2
                        clear q_1124
                        have s_1132 : (gI z21 1).toInt = (gI z15 1).toInt := congrArg Int32.toInt (h_1126 1 (by decide)).1
                        have s_1133 : (gI z21 15).toInt = (gI z15 15).toInt := congrArg Int32.toInt (h_1126 15 (by decide)).1
                        refine ok_ite (fun c_1134 => ?_) (fun c_1134 => ?_)
                        · skip
                          have r_1135 := n_rng r20
                          have c_1134i : r20.toInt = 0 := bI_eq rfl (show (0 : Int32).toInt = 0 by decide) c_1134
                          have u_1136 : (gI z21 13).toInt ≠ 0 := h_1129 (by omega)
                          try have e_1137 : (0 : Int32).toInt = 0 := (show (0 : Int32).toInt = 0 by decide)
                          exact ok_some ⟨Or.inl rfl, (fr_tr (fr_tr (fr_I (fr_I (fr_tr (fr_tr fr_rf h_3 (by decide)) h_19 (by decide)) (by decide)) (by decide)) h_1109 (by decide)) h_1126 (by decide)), (show (gI z_t 12).toInt ≤ (gI z21 12).toInt ∧ (gI z21 12).toInt ≤ (gI z_t 1).toInt by first | omega | assumption | trivial), (kp_tr (kp_fr (kp_I (kp_I (kp_fr (kp_tr kp_rf h_5) h_19 (by decide)))) h_1109 (by decide)) h_1128), (show (0 : Int32).toInt = 0 → (gI z21 13).toInt ≠ 0 from fun _ => by first | omega | assumption), (show (0 : Int32).toInt = 1 → (gT z21 4 t).toInt + o ≤ (gI z21 12).toInt ∧ h + 1 ≤ (gI z21 16).toInt ∧ (gI z21 16).toInt ≤ 60 from fun q => absurd q (by decide)), (show (0 : Int32).toInt = 1 → RN z21 t b (h + 1) from fun q => absurd q (by decide))⟩
                        · skip
                          have r_1138 := n_rng r20
                          have c_1134i : r20.toInt ≠ 0 := bI_neq rfl (show (0 : Int32).toInt = 0 by decide) c_1134
                          have u_1139 : (gT z21 4 t).toInt + (o + 1) ≤ (gI z21 12).toInt ∧ (h + 1) + 1 ≤ (gI z21 16).toInt ∧ (gI z21 16).toInt ≤ 60 := h_1130 (by omega)
                          have u_1140 : RN z21 t b ((h + 1) + 1) := h_1131 (by omega)
                          have e_1142 : (6 + 1).toInt = (6 + 1) := (i32_add (show (6 : Int32).toInt = 6 by decide) (show (1 : Int32).toInt = 1 by decide) (by omega) (by omega))
                          have e_1143 : (0 : Int32).toInt = 0 := (show (0 : Int32).toInt = 0 by decide)
                          refine ok_bd (t_fX9_puts (t := t) (by first | omega | assumption | decide | (show (gI z21 15).toInt = t ∧ t < 6; first | omega | assumption)) (by first | omega | assumption | decide | (show 0 ≤ (gT z21 4 t).toInt ∧ (gT z21 4 t).toInt < 400; first | omega | assumption))) (fun z24 q_1141 => ?_)
                          have h_1144 : FrL [3, 4] z21 z24 := q_1141.1
                          have h_1145 : PUT t z21 z24 (((6 : Int32) + 1) + (16 * (0 : Int32))) := q_1141.2
                          clear q_1141
                          have s_1146 : (gI z24 1).toInt = (gI z21 1).toInt := congrArg Int32.toInt (h_1144 1 (by decide)).1
                          have s_1147 : (gI z24 12).toInt = (gI z21 12).toInt := congrArg Int32.toInt (h_1144 12 (by decide)).1
                          have s_1148 : (gI z24 13).toInt = (gI z21 13).toInt := congrArg Int32.toInt (h_1144 13 (by decide)).1
                          have s_1149 : (gI z24 15).toInt = (gI z21 15).toInt := congrArg Int32.toInt (h_1144 15 (by decide)).1
                          have s_1150 : (gI z24 16).toInt = (gI z21 16).toInt := congrArg Int32.toInt (h_1144 16 (by decide)).1
                          have h_1145a := h_1145.1
                          have h_1145k := h_1145.2.1
                          have h_1145r : RN z24 t b ((h + 1)) := rn_put (by omega) h_1145 u_1140 (stp_bin (by omega) (by decide) (by decide) (by decide))
                          try have e_1151 : (1 : Int32).toInt = 1 := (show (1 : Int32).toInt = 1 by decide)
                          exact ok_some ⟨Or.inr rfl, (fr_tr (fr_tr (fr_tr (fr_I (fr_I (fr_tr (fr_tr fr_rf h_3 (by decide)) h_19 (by decide)) (by decide)) (by decide)) h_1109 (by decide)) h_1126 (by decide)) h_1144 (by decide)), (show (gI z_t 12).toInt ≤ (gI z24 12).toInt ∧ (gI z24 12).toInt ≤ (gI z_t 1).toInt by first | omega | assumption | trivial), (kp_tr (kp_tr (kp_fr (kp_I (kp_I (kp_fr (kp_tr kp_rf h_5) h_19 (by decide)))) h_1109 (by decide)) h_1128) h_1145k), (show (1 : Int32).toInt = 0 → (gI z24 13).toInt ≠ 0 from fun q => absurd q (by decide)), (show (1 : Int32).toInt = 1 → (gT z24 4 t).toInt + o ≤ (gI z24 12).toInt ∧ h + 1 ≤ (gI z24 16).toInt ∧ (gI z24 16).toInt ≤ 60 from fun _ => by first | omega | assumption), (fun _ => h_1145r)⟩
                    · skip
                      have c_1122i : r6.toInt ≠ 60 := bI_neq rfl (show (60 : Int32).toInt = 60 by decide) c_1122
                      refine ok_ite (fun c_1152 => ?_) (fun c_1152 => ?_)
                      · skip
                        have c_1152i : r6.toInt = 61 := bI_eq rfl (show (61 : Int32).toInt = 61 by decide) c_1152
                        refine ok_bd2 (t_fX9_sum (t := t) (b := b) (h := h + 1) (o := o + 1) (by first | omega | assumption | decide | (show 0 ≤ (gI z15 12).toInt ∧ (gI z15 12).toInt ≤ (gI z15 1).toInt ∧ (gI z15 1).toInt ≤ 400; first | omega | assumption)) (by first | omega | assumption | decide | (show (gI z15 15).toInt = t ∧ t < 6; first | omega | assumption)) (by first | omega | assumption | decide | (show 0 ≤ (gT z15 4 t).toInt ∧ (gT z15 4 t).toInt + (o + 1) ≤ (gI z15 12).toInt; first | omega | assumption)) (by first | omega | assumption | decide | (show 0 ≤ (gI z15 16).toInt ∧ (gI z15 16).toInt ≤ 60 ∧ (h + 1) ≤ (gI z15 16).toInt; first | omega | assumption)) (rn_fr h_1109 (by decide) (rn_I (rn_I (rn_fr h_19 (by decide) u_17))))) (fun r20 z21 q_1153 => ?_)
                        have h_1154 : r20 = 0 ∨ r20 = 1 := q_1153.1
                        have h_1154i := bool_i h_1154
                        have h_1155 : FrL [3, 4, 12, 13, 14, 16] z15 z21 := q_1153.2.1
                        have h_1156 : (gI z15 12).toInt ≤ (gI z21 12).toInt ∧ (gI z21 12).toInt ≤ (gI z15 1).toInt := q_1153.2.2.1
                        have h_1157 : KP t z15 z21 := q_1153.2.2.2.1
                        have h_1157a : (gT z15 4 t).toInt ≤ (gT z21 4 t).toInt := h_1157.1
                        have h_1158 : r20.toInt = 0 → (gI z21 13).toInt ≠ 0 := q_1153.2.2.2.2.1
                        have h_1159 : r20.toInt = 1 → (gT z21 4 t).toInt + (o + 1) ≤ (gI z21 12).toInt ∧ (h + 1) + 1 ≤ (gI z21 16).toInt ∧ (gI z21 16).toInt ≤ 60 := q_1153.2.2.2.2.2.1
                        have h_1160 : r20.toInt = 1 → RN z21 t b ((h + 1) + 1) := q_1153.2.2.2.2.2.2
                        clear q_1153
                        have s_1161 : (gI z21 1).toInt = (gI z15 1).toInt := congrArg Int32.toInt (h_1155 1 (by decide)).1
                        have s_1162 : (gI z21 15).toInt = (gI z15 15).toInt := congrArg Int32.toInt (h_1155 15 (by decide)).1
                        refine ok_ite (fun c_1163 => ?_) (fun c_1163 => ?_)
                        · skip
                          have r_1164 := n_rng r20
                          have c_1163i : r20.toInt = 0 := bI_eq rfl (show (0 : Int32).toInt = 0 by decide) c_1163
                          have u_1165 : (gI z21 13).toInt ≠ 0 := h_1158 (by omega)
                          try have e_1166 : (0 : Int32).toInt = 0 := (show (0 : Int32).toInt = 0 by decide)
                          exact ok_some ⟨Or.inl rfl, (fr_tr (fr_tr (fr_I (fr_I (fr_tr (fr_tr fr_rf h_3 (by decide)) h_19 (by decide)) (by decide)) (by decide)) h_1109 (by decide)) h_1155 (by decide)), (show (gI z_t 12).toInt ≤ (gI z21 12).toInt ∧ (gI z21 12).toInt ≤ (gI z_t 1).toInt by first | omega | assumption | trivial), (kp_tr (kp_fr (kp_I (kp_I (kp_fr (kp_tr kp_rf h_5) h_19 (by decide)))) h_1109 (by decide)) h_1157), (show (0 : Int32).toInt = 0 → (gI z21 13).toInt ≠ 0 from fun _ => by first | omega | assumption), (show (0 : Int32).toInt = 1 → (gT z21 4 t).toInt + o ≤ (gI z21 12).toInt ∧ h + 1 ≤ (gI z21 16).toInt ∧ (gI z21 16).toInt ≤ 60 from fun q => absurd q (by decide)), (show (0 : Int32).toInt = 1 → RN z21 t b (h + 1) from fun q => absurd q (by decide))⟩
                        · skip
                          have r_1167 := n_rng r20
                          have c_1163i : r20.toInt ≠ 0 := bI_neq rfl (show (0 : Int32).toInt = 0 by decide) c_1163
                          have u_1168 : (gT z21 4 t).toInt + (o + 1) ≤ (gI z21 12).toInt ∧ (h + 1) + 1 ≤ (gI z21 16).toInt ∧ (gI z21 16).toInt ≤ 60 := h_1159 (by omega)
                          have u_1169 : RN z21 t b ((h + 1) + 1) := h_1160 (by omega)
                          have e_1171 : (6 + 2).toInt = (6 + 2) := (i32_add (show (6 : Int32).toInt = 6 by decide) (show (2 : Int32).toInt = 2 by decide) (by omega) (by omega))
                          have e_1172 : (0 : Int32).toInt = 0 := (show (0 : Int32).toInt = 0 by decide)
                          refine ok_bd (t_fX9_puts (t := t) (by first | omega | assumption | decide | (show (gI z21 15).toInt = t ∧ t < 6; first | omega | assumption)) (by first | omega | assumption | decide | (show 0 ≤ (gT z21 4 t).toInt ∧ (gT z21 4 t).toInt < 400; first | omega | assumption))) (fun z24 q_1170 => ?_)
                          have h_1173 : FrL [3, 4] z21 z24 := q_1170.1
                          have h_1174 : PUT t z21 z24 (((6 : Int32) + 2) + (16 * (0 : Int32))) := q_1170.2
                          clear q_1170
                          have s_1175 : (gI z24 1).toInt = (gI z21 1).toInt := congrArg Int32.toInt (h_1173 1 (by decide)).1
                          have s_1176 : (gI z24 12).toInt = (gI z21 12).toInt := congrArg Int32.toInt (h_1173 12 (by decide)).1
                          have s_1177 : (gI z24 13).toInt = (gI z21 13).toInt := congrArg Int32.toInt (h_1173 13 (by decide)).1
                          have s_1178 : (gI z24 15).toInt = (gI z21 15).toInt := congrArg Int32.toInt (h_1173 15 (by decide)).1
                          have s_1179 : (gI z24 16).toInt = (gI z21 16).toInt := congrArg Int32.toInt (h_1173 16 (by decide)).1
                          have h_1174a := h_1174.1
                          have h_1174k := h_1174.2.1
                          have h_1174r : RN z24 t b ((h + 1)) := rn_put (by omega) h_1174 u_1169 (stp_bin (by omega) (by decide) (by decide) (by decide))
                          try have e_1180 : (1 : Int32).toInt = 1 := (show (1 : Int32).toInt = 1 by decide)
                          exact ok_some ⟨Or.inr rfl, (fr_tr (fr_tr (fr_tr (fr_I (fr_I (fr_tr (fr_tr fr_rf h_3 (by decide)) h_19 (by decide)) (by decide)) (by decide)) h_1109 (by decide)) h_1155 (by decide)) h_1173 (by decide)), (show (gI z_t 12).toInt ≤ (gI z24 12).toInt ∧ (gI z24 12).toInt ≤ (gI z_t 1).toInt by first | omega | assumption | trivial), (kp_tr (kp_tr (kp_fr (kp_I (kp_I (kp_fr (kp_tr kp_rf h_5) h_19 (by decide)))) h_1109 (by decide)) h_1157) h_1174k), (show (1 : Int32).toInt = 0 → (gI z24 13).toInt ≠ 0 from fun q => absurd q (by decide)), (show (1 : Int32).toInt = 1 → (gT z24 4 t).toInt + o ≤ (gI z24 12).toInt ∧ h + 1 ≤ (gI z24 16).toInt ∧ (gI z24 16).toInt ≤ 60 from fun _ => by first | omega | assumption), (fun _ => h_1174r)⟩
                      · skip
                        have c_1152i : r6.toInt ≠ 61 := bI_neq rfl (show (61 : Int32).toInt = 61 by decide) c_1152
                        refine ok_ite (fun c_1181 => ?_) (fun c_1181 => ?_)
                        · skip
                          exact absurd c_1181 (by decide)
                        · skip
                          refine ok_bd2 (t_fX9_sum (t := t) (b := b) (h := h + 1) (o := o + 1) (by first | omega | assumption | decide | (show 0 ≤ (gI z15 12).toInt ∧ (gI z15 12).toInt ≤ (gI z15 1).toInt ∧ (gI z15 1).toInt ≤ 400; first | omega | assumption)) (by first | omega | assumption | decide | (show (gI z15 15).toInt = t ∧ t < 6; first | omega | assumption)) (by first | omega | assumption | decide | (show 0 ≤ (gT z15 4 t).toInt ∧ (gT z15 4 t).toInt + (o + 1) ≤ (gI z15 12).toInt; first | omega | assumption)) (by first | omega | assumption | decide | (show 0 ≤ (gI z15 16).toInt ∧ (gI z15 16).toInt ≤ 60 ∧ (h + 1) ≤ (gI z15 16).toInt; first | omega | assumption)) (rn_fr h_1109 (by decide) (rn_I (rn_I (rn_fr h_19 (by decide) u_17))))) (fun r20 z21 q_1182 => ?_)
                          have h_1183 : r20 = 0 ∨ r20 = 1 := q_1182.1
                          have h_1183i := bool_i h_1183
                          have h_1184 : FrL [3, 4, 12, 13, 14, 16] z15 z21 := q_1182.2.1
                          have h_1185 : (gI z15 12).toInt ≤ (gI z21 12).toInt ∧ (gI z21 12).toInt ≤ (gI z15 1).toInt := q_1182.2.2.1
                          have h_1186 : KP t z15 z21 := q_1182.2.2.2.1
                          have h_1186a : (gT z15 4 t).toInt ≤ (gT z21 4 t).toInt := h_1186.1
                          have h_1187 : r20.toInt = 0 → (gI z21 13).toInt ≠ 0 := q_1182.2.2.2.2.1
                          have h_1188 : r20.toInt = 1 → (gT z21 4 t).toInt + (o + 1) ≤ (gI z21 12).toInt ∧ (h + 1) + 1 ≤ (gI z21 16).toInt ∧ (gI z21 16).toInt ≤ 60 := q_1182.2.2.2.2.2.1
                          have h_1189 : r20.toInt = 1 → RN z21 t b ((h + 1) + 1) := q_1182.2.2.2.2.2.2
                          clear q_1182
                          have s_1190 : (gI z21 1).toInt = (gI z15 1).toInt := congrArg Int32.toInt (h_1184 1 (by decide)).1
                          have s_1191 : (gI z21 15).toInt = (gI z15 15).toInt := congrArg Int32.toInt (h_1184 15 (by decide)).1
                          refine ok_ite (fun c_1192 => ?_) (fun c_1192 => ?_)
                          · skip
                            have r_1193 := n_rng r20
                            have c_1192i : r20.toInt = 0 := bI_eq rfl (show (0 : Int32).toInt = 0 by decide) c_1192
                            have u_1194 : (gI z21 13).toInt ≠ 0 := h_1187 (by omega)
                            try have e_1195 : (0 : Int32).toInt = 0 := (show (0 : Int32).toInt = 0 by decide)
                            exact ok_some ⟨Or.inl rfl, (fr_tr (fr_tr (fr_I (fr_I (fr_tr (fr_tr fr_rf h_3 (by decide)) h_19 (by decide)) (by decide)) (by decide)) h_1109 (by decide)) h_1184 (by decide)), (show (gI z_t 12).toInt ≤ (gI z21 12).toInt ∧ (gI z21 12).toInt ≤ (gI z_t 1).toInt by first | omega | assumption | trivial), (kp_tr (kp_fr (kp_I (kp_I (kp_fr (kp_tr kp_rf h_5) h_19 (by decide)))) h_1109 (by decide)) h_1186), (show (0 : Int32).toInt = 0 → (gI z21 13).toInt ≠ 0 from fun _ => by first | omega | assumption), (show (0 : Int32).toInt = 1 → (gT z21 4 t).toInt + o ≤ (gI z21 12).toInt ∧ h + 1 ≤ (gI z21 16).toInt ∧ (gI z21 16).toInt ≤ 60 from fun q => absurd q (by decide)), (show (0 : Int32).toInt = 1 → RN z21 t b (h + 1) from fun q => absurd q (by decide))⟩
                          · skip
                            have r_1196 := n_rng r20
                            have c_1192i : r20.toInt ≠ 0 := bI_neq rfl (show (0 : Int32).toInt = 0 by decide) c_1192
                            have u_1197 : (gT z21 4 t).toInt + (o + 1) ≤ (gI z21 12).toInt ∧ (h + 1) + 1 ≤ (gI z21 16).toInt ∧ (gI z21 16).toInt ≤ 60 := h_1188 (by omega)
                            have u_1198 : RN z21 t b ((h + 1) + 1) := h_1189 (by omega)
                            have e_1200 : (6 + 3).toInt = (6 + 3) := (i32_add (show (6 : Int32).toInt = 6 by decide) (show (3 : Int32).toInt = 3 by decide) (by omega) (by omega))
                            have e_1201 : (0 : Int32).toInt = 0 := (show (0 : Int32).toInt = 0 by decide)
                            refine ok_bd (t_fX9_puts (t := t) (by first | omega | assumption | decide | (show (gI z21 15).toInt = t ∧ t < 6; first | omega | assumption)) (by first | omega | assumption | decide | (show 0 ≤ (gT z21 4 t).toInt ∧ (gT z21 4 t).toInt < 400; first | omega | assumption))) (fun z24 q_1199 => ?_)
                            have h_1202 : FrL [3, 4] z21 z24 := q_1199.1
                            have h_1203 : PUT t z21 z24 (((6 : Int32) + 3) + (16 * (0 : Int32))) := q_1199.2
                            clear q_1199
                            have s_1204 : (gI z24 1).toInt = (gI z21 1).toInt := congrArg Int32.toInt (h_1202 1 (by decide)).1
                            have s_1205 : (gI z24 12).toInt = (gI z21 12).toInt := congrArg Int32.toInt (h_1202 12 (by decide)).1
                            have s_1206 : (gI z24 13).toInt = (gI z21 13).toInt := congrArg Int32.toInt (h_1202 13 (by decide)).1
                            have s_1207 : (gI z24 15).toInt = (gI z21 15).toInt := congrArg Int32.toInt (h_1202 15 (by decide)).1
                            have s_1208 : (gI z24 16).toInt = (gI z21 16).toInt := congrArg Int32.toInt (h_1202 16 (by decide)).1
                            have h_1203a := h_1203.1
                            have h_1203k := h_1203.2.1
                            have h_1203r : RN z24 t b ((h + 1)) := rn_put (by omega) h_1203 u_1198 (stp_bin (by omega) (by decide) (by decide) (by decide))
                            try have e_1209 : (1 : Int32).toInt = 1 := (show (1 : Int32).toInt = 1 by decide)
                            exact ok_some ⟨Or.inr rfl, (fr_tr (fr_tr (fr_tr (fr_I (fr_I (fr_tr (fr_tr fr_rf h_3 (by decide)) h_19 (by decide)) (by decide)) (by decide)) h_1109 (by decide)) h_1184 (by decide)) h_1202 (by decide)), (show (gI z_t 12).toInt ≤ (gI z24 12).toInt ∧ (gI z24 12).toInt ≤ (gI z_t 1).toInt by first | omega | assumption | trivial), (kp_tr (kp_tr (kp_fr (kp_I (kp_I (kp_fr (kp_tr kp_rf h_5) h_19 (by decide)))) h_1109 (by decide)) h_1186) h_1203k), (show (1 : Int32).toInt = 0 → (gI z24 13).toInt ≠ 0 from fun q => absurd q (by decide)), (show (1 : Int32).toInt = 1 → (gT z24 4 t).toInt + o ≤ (gI z24 12).toInt ∧ h + 1 ≤ (gI z24 16).toInt ∧ (gI z24 16).toInt ≤ 60 from fun _ => by first | omega | assumption), (fun _ => h_1203r)⟩
              · skip
                have r_1210 := n_rng (gT z7 0 ((gI z7 12) + 1).toNatClampNeg)
                have c_1104i : (gT z7 0 ((gI z7 12) + 1).toNatClampNeg).toInt ≠ 61 := bI_neq rfl (show (61 : Int32).toInt = 61 by decide) c_1104
                refine ok_jn ?_
                refine ok_ite (fun c_1211 => ?_) (fun c_1211 => ?_)
                · skip
                  refine ok_bd2 (t_fX9_makes (by first | omega | assumption | decide | (show 0 ≤ (gI z7 16).toInt ∧ (gI z7 16).toInt ≤ 60; first | omega | assumption)) (by first | omega | assumption | decide | (show 0 ≤ (gI z7 12).toInt ∧ (gI z7 12).toInt ≤ 400; first | omega | assumption))) (fun r14 z15 q_1212 => ?_)
                  have h_1213 : r14 = 0 ∨ r14 = 1 := q_1212.1
                  have h_1213i := bool_i h_1213
                  have h_1214 : FrL [13, 16] (sI z7 12 ((gI z7 12) + 1)) z15 := q_1212.2.1
                  have h_1215 : r14.toInt = 0 → (gI z15 13).toInt ≠ 0 := q_1212.2.2.1
                  have h_1216 : r14.toInt = 1 → (gI z15 16).toInt = (gI z7 16).toInt + 1 ∧ (gI z15 16).toInt ≤ 60 := q_1212.2.2.2
                  clear q_1212
                  have s_1217 : (gI z15 1).toInt = (gI z7 1).toInt := congrArg Int32.toInt (h_1214 1 (by decide)).1
                  have s_1218 : (gI z15 12).toInt = ((gI z7 12) + 1).toInt := congrArg Int32.toInt (h_1214 12 (by decide)).1
                  have s_1219 : (gI z15 15).toInt = (gI z7 15).toInt := congrArg Int32.toInt (h_1214 15 (by decide)).1
                  have s_1220 : (gT z15 4 t).toInt = (gT z7 4 t).toInt := congrArg (fun f : Nat → Int32 => (f t).toInt) (h_1214 4 (by decide)).2.1
                  refine ok_ite (fun c_1221 => ?_) (fun c_1221 => ?_)
                  · skip
                    have r_1222 := n_rng r14
                    have c_1221i : r14.toInt = 0 := bI_eq rfl (show (0 : Int32).toInt = 0 by decide) c_1221
                    have u_1223 : (gI z15 13).toInt ≠ 0 := h_1215 (by omega)
                    try have e_1224 : (0 : Int32).toInt = 0 := (show (0 : Int32).toInt = 0 by decide)
                    exact ok_some ⟨Or.inl rfl, (fr_tr (fr_I (fr_tr (fr_tr fr_rf h_3 (by decide)) h_19 (by decide)) (by decide)) h_1214 (by decide)), (show (gI z_t 12).toInt ≤ (gI z15 12).toInt ∧ (gI z15 12).toInt ≤ (gI z_t 1).toInt by first | omega | assumption | trivial), (kp_fr (kp_I (kp_fr (kp_tr kp_rf h_5) h_19 (by decide))) h_1214 (by decide)), (show (0 : Int32).toInt = 0 → (gI z15 13).toInt ≠ 0 from fun _ => by first | omega | assumption), (show (0 : Int32).toInt = 1 → (gT z15 4 t).toInt + o ≤ (gI z15 12).toInt ∧ h + 1 ≤ (gI z15 16).toInt ∧ (gI z15 16).toInt ≤ 60 from fun q => absurd q (by decide)), (show (0 : Int32).toInt = 1 → RN z15 t b (h + 1) from fun q => absurd q (by decide))⟩
                  · skip
                    have r_1225 := n_rng r14
                    have c_1221i : r14.toInt ≠ 0 := bI_neq rfl (show (0 : Int32).toInt = 0 by decide) c_1221
                    have u_1226 : (gI z15 16).toInt = (gI z7 16).toInt + 1 ∧ (gI z15 16).toInt ≤ 60 := h_1216 (by omega)
                    refine ok_jn ?_
                    refine ok_ite (fun c_1227 => ?_) (fun c_1227 => ?_)
                    · skip
                      have c_1227i : r6.toInt = 60 := bI_eq rfl (show (60 : Int32).toInt = 60 by decide) c_1227
                      refine ok_ite (fun c_1228 => ?_) (fun c_1228 => ?_)
                      · skip
                        refine ok_bd2 (t_fX9_sum (t := t) (b := b) (h := h + 1) (o := o + 1) (by first | omega | assumption | decide | (show 0 ≤ (gI z15 12).toInt ∧ (gI z15 12).toInt ≤ (gI z15 1).toInt ∧ (gI z15 1).toInt ≤ 400; first | omega | assumption)) (by first | omega | assumption | decide | (show (gI z15 15).toInt = t ∧ t < 6; first | omega | assumption)) (by first | omega | assumption | decide | (show 0 ≤ (gT z15 4 t).toInt ∧ (gT z15 4 t).toInt + (o + 1) ≤ (gI z15 12).toInt; first | omega | assumption)) (by first | omega | assumption | decide | (show 0 ≤ (gI z15 16).toInt ∧ (gI z15 16).toInt ≤ 60 ∧ (h + 1) ≤ (gI z15 16).toInt; first | omega | assumption)) (rn_fr h_1214 (by decide) (rn_I (rn_fr h_19 (by decide) u_17)))) (fun r20 z21 q_1229 => ?_)
                        have h_1230 : r20 = 0 ∨ r20 = 1 := q_1229.1
                        have h_1230i := bool_i h_1230
                        have h_1231 : FrL [3, 4, 12, 13, 14, 16] z15 z21 := q_1229.2.1
                        have h_1232 : (gI z15 12).toInt ≤ (gI z21 12).toInt ∧ (gI z21 12).toInt ≤ (gI z15 1).toInt := q_1229.2.2.1
                        have h_1233 : KP t z15 z21 := q_1229.2.2.2.1
                        have h_1233a : (gT z15 4 t).toInt ≤ (gT z21 4 t).toInt := h_1233.1
                        have h_1234 : r20.toInt = 0 → (gI z21 13).toInt ≠ 0 := q_1229.2.2.2.2.1
                        have h_1235 : r20.toInt = 1 → (gT z21 4 t).toInt + (o + 1) ≤ (gI z21 12).toInt ∧ (h + 1) + 1 ≤ (gI z21 16).toInt ∧ (gI z21 16).toInt ≤ 60 := q_1229.2.2.2.2.2.1
                        have h_1236 : r20.toInt = 1 → RN z21 t b ((h + 1) + 1) := q_1229.2.2.2.2.2.2
                        clear q_1229
                        have s_1237 : (gI z21 1).toInt = (gI z15 1).toInt := congrArg Int32.toInt (h_1231 1 (by decide)).1
                        have s_1238 : (gI z21 15).toInt = (gI z15 15).toInt := congrArg Int32.toInt (h_1231 15 (by decide)).1
                        refine ok_ite (fun c_1239 => ?_) (fun c_1239 => ?_)
                        · skip
                          have r_1240 := n_rng r20
                          have c_1239i : r20.toInt = 0 := bI_eq rfl (show (0 : Int32).toInt = 0 by decide) c_1239
                          have u_1241 : (gI z21 13).toInt ≠ 0 := h_1234 (by omega)
                          try have e_1242 : (0 : Int32).toInt = 0 := (show (0 : Int32).toInt = 0 by decide)
                          exact ok_some ⟨Or.inl rfl, (fr_tr (fr_tr (fr_I (fr_tr (fr_tr fr_rf h_3 (by decide)) h_19 (by decide)) (by decide)) h_1214 (by decide)) h_1231 (by decide)), (show (gI z_t 12).toInt ≤ (gI z21 12).toInt ∧ (gI z21 12).toInt ≤ (gI z_t 1).toInt by first | omega | assumption | trivial), (kp_tr (kp_fr (kp_I (kp_fr (kp_tr kp_rf h_5) h_19 (by decide))) h_1214 (by decide)) h_1233), (show (0 : Int32).toInt = 0 → (gI z21 13).toInt ≠ 0 from fun _ => by first | omega | assumption), (show (0 : Int32).toInt = 1 → (gT z21 4 t).toInt + o ≤ (gI z21 12).toInt ∧ h + 1 ≤ (gI z21 16).toInt ∧ (gI z21 16).toInt ≤ 60 from fun q => absurd q (by decide)), (show (0 : Int32).toInt = 1 → RN z21 t b (h + 1) from fun q => absurd q (by decide))⟩
                        · skip
                          have r_1243 := n_rng r20
                          have c_1239i : r20.toInt ≠ 0 := bI_neq rfl (show (0 : Int32).toInt = 0 by decide) c_1239
                          have u_1244 : (gT z21 4 t).toInt + (o + 1) ≤ (gI z21 12).toInt ∧ (h + 1) + 1 ≤ (gI z21 16).toInt ∧ (gI z21 16).toInt ≤ 60 := h_1235 (by omega)
                          have u_1245 : RN z21 t b ((h + 1) + 1) := h_1236 (by omega)
                          have e_1247 : (6 + 0).toInt = (6 + 0) := (i32_add (show (6 : Int32).toInt = 6 by decide) (show (0 : Int32).toInt = 0 by decide) (by omega) (by omega))
                          have e_1248 : (0 : Int32).toInt = 0 := (show (0 : Int32).toInt = 0 by decide)
                          refine ok_bd (t_fX9_puts (t := t) (by first | omega | assumption | decide | (show (gI z21 15).toInt = t ∧ t < 6; first | omega | assumption)) (by first | omega | assumption | decide | (show 0 ≤ (gT z21 4 t).toInt ∧ (gT z21 4 t).toInt < 400; first | omega | assumption))) (fun z24 q_1246 => ?_)
                          have h_1249 : FrL [3, 4] z21 z24 := q_1246.1
                          have h_1250 : PUT t z21 z24 (((6 : Int32) + 0) + (16 * (0 : Int32))) := q_1246.2
                          clear q_1246
                          have s_1251 : (gI z24 1).toInt = (gI z21 1).toInt := congrArg Int32.toInt (h_1249 1 (by decide)).1
                          have s_1252 : (gI z24 12).toInt = (gI z21 12).toInt := congrArg Int32.toInt (h_1249 12 (by decide)).1
                          have s_1253 : (gI z24 13).toInt = (gI z21 13).toInt := congrArg Int32.toInt (h_1249 13 (by decide)).1
                          have s_1254 : (gI z24 15).toInt = (gI z21 15).toInt := congrArg Int32.toInt (h_1249 15 (by decide)).1
                          have s_1255 : (gI z24 16).toInt = (gI z21 16).toInt := congrArg Int32.toInt (h_1249 16 (by decide)).1
                          have h_1250a := h_1250.1
                          have h_1250k := h_1250.2.1
                          have h_1250r : RN z24 t b ((h + 1)) := rn_put (by omega) h_1250 u_1245 (stp_bin (by omega) (by decide) (by decide) (by decide))
                          try have e_1256 : (1 : Int32).toInt = 1 := (show (1 : Int32).toInt = 1 by decide)
                          exact ok_some ⟨Or.inr rfl, (fr_tr (fr_tr (fr_tr (fr_I (fr_tr (fr_tr fr_rf h_3 (by decide)) h_19 (by decide)) (by decide)) h_1214 (by decide)) h_1231 (by decide)) h_1249 (by decide)), (show (gI z_t 12).toInt ≤ (gI z24 12).toInt ∧ (gI z24 12).toInt ≤ (gI z_t 1).toInt by first | omega | assumption | trivial), (kp_tr (kp_tr (kp_fr (kp_I (kp_fr (kp_tr kp_rf h_5) h_19 (by decide))) h_1214 (by decide)) h_1233) h_1250k), (show (1 : Int32).toInt = 0 → (gI z24 13).toInt ≠ 0 from fun q => absurd q (by decide)), (show (1 : Int32).toInt = 1 → (gT z24 4 t).toInt + o ≤ (gI z24 12).toInt ∧ h + 1 ≤ (gI z24 16).toInt ∧ (gI z24 16).toInt ≤ 60 from fun _ => by first | omega | assumption), (fun _ => h_1250r)⟩
                      · skip
                        exact absurd (by decide) c_1228
                    · skip
                      have c_1227i : r6.toInt ≠ 60 := bI_neq rfl (show (60 : Int32).toInt = 60 by decide) c_1227
                      refine ok_ite (fun c_1257 => ?_) (fun c_1257 => ?_)
                      · skip
                        have c_1257i : r6.toInt = 61 := bI_eq rfl (show (61 : Int32).toInt = 61 by decide) c_1257
                        refine ok_bd2 (t_fX9_sum (t := t) (b := b) (h := h + 1) (o := o + 1) (by first | omega | assumption | decide | (show 0 ≤ (gI z15 12).toInt ∧ (gI z15 12).toInt ≤ (gI z15 1).toInt ∧ (gI z15 1).toInt ≤ 400; first | omega | assumption)) (by first | omega | assumption | decide | (show (gI z15 15).toInt = t ∧ t < 6; first | omega | assumption)) (by first | omega | assumption | decide | (show 0 ≤ (gT z15 4 t).toInt ∧ (gT z15 4 t).toInt + (o + 1) ≤ (gI z15 12).toInt; first | omega | assumption)) (by first | omega | assumption | decide | (show 0 ≤ (gI z15 16).toInt ∧ (gI z15 16).toInt ≤ 60 ∧ (h + 1) ≤ (gI z15 16).toInt; first | omega | assumption)) (rn_fr h_1214 (by decide) (rn_I (rn_fr h_19 (by decide) u_17)))) (fun r20 z21 q_1258 => ?_)
                        have h_1259 : r20 = 0 ∨ r20 = 1 := q_1258.1
                        have h_1259i := bool_i h_1259
                        have h_1260 : FrL [3, 4, 12, 13, 14, 16] z15 z21 := q_1258.2.1
                        have h_1261 : (gI z15 12).toInt ≤ (gI z21 12).toInt ∧ (gI z21 12).toInt ≤ (gI z15 1).toInt := q_1258.2.2.1
                        have h_1262 : KP t z15 z21 := q_1258.2.2.2.1
                        have h_1262a : (gT z15 4 t).toInt ≤ (gT z21 4 t).toInt := h_1262.1
                        have h_1263 : r20.toInt = 0 → (gI z21 13).toInt ≠ 0 := q_1258.2.2.2.2.1
                        have h_1264 : r20.toInt = 1 → (gT z21 4 t).toInt + (o + 1) ≤ (gI z21 12).toInt ∧ (h + 1) + 1 ≤ (gI z21 16).toInt ∧ (gI z21 16).toInt ≤ 60 := q_1258.2.2.2.2.2.1
                        have h_1265 : r20.toInt = 1 → RN z21 t b ((h + 1) + 1) := q_1258.2.2.2.2.2.2
                        clear q_1258
                        have s_1266 : (gI z21 1).toInt = (gI z15 1).toInt := congrArg Int32.toInt (h_1260 1 (by decide)).1
                        have s_1267 : (gI z21 15).toInt = (gI z15 15).toInt := congrArg Int32.toInt (h_1260 15 (by decide)).1
                        refine ok_ite (fun c_1268 => ?_) (fun c_1268 => ?_)
                        · skip
                          have r_1269 := n_rng r20
                          have c_1268i : r20.toInt = 0 := bI_eq rfl (show (0 : Int32).toInt = 0 by decide) c_1268
                          have u_1270 : (gI z21 13).toInt ≠ 0 := h_1263 (by omega)
                          try have e_1271 : (0 : Int32).toInt = 0 := (show (0 : Int32).toInt = 0 by decide)
                          exact ok_some ⟨Or.inl rfl, (fr_tr (fr_tr (fr_I (fr_tr (fr_tr fr_rf h_3 (by decide)) h_19 (by decide)) (by decide)) h_1214 (by decide)) h_1260 (by decide)), (show (gI z_t 12).toInt ≤ (gI z21 12).toInt ∧ (gI z21 12).toInt ≤ (gI z_t 1).toInt by first | omega | assumption | trivial), (kp_tr (kp_fr (kp_I (kp_fr (kp_tr kp_rf h_5) h_19 (by decide))) h_1214 (by decide)) h_1262), (show (0 : Int32).toInt = 0 → (gI z21 13).toInt ≠ 0 from fun _ => by first | omega | assumption), (show (0 : Int32).toInt = 1 → (gT z21 4 t).toInt + o ≤ (gI z21 12).toInt ∧ h + 1 ≤ (gI z21 16).toInt ∧ (gI z21 16).toInt ≤ 60 from fun q => absurd q (by decide)), (show (0 : Int32).toInt = 1 → RN z21 t b (h + 1) from fun q => absurd q (by decide))⟩
                        · skip
                          have r_1272 := n_rng r20
                          have c_1268i : r20.toInt ≠ 0 := bI_neq rfl (show (0 : Int32).toInt = 0 by decide) c_1268
                          have u_1273 : (gT z21 4 t).toInt + (o + 1) ≤ (gI z21 12).toInt ∧ (h + 1) + 1 ≤ (gI z21 16).toInt ∧ (gI z21 16).toInt ≤ 60 := h_1264 (by omega)
                          have u_1274 : RN z21 t b ((h + 1) + 1) := h_1265 (by omega)
                          have e_1276 : (6 + 2).toInt = (6 + 2) := (i32_add (show (6 : Int32).toInt = 6 by decide) (show (2 : Int32).toInt = 2 by decide) (by omega) (by omega))
                          have e_1277 : (0 : Int32).toInt = 0 := (show (0 : Int32).toInt = 0 by decide)
                          refine ok_bd (t_fX9_puts (t := t) (by first | omega | assumption | decide | (show (gI z21 15).toInt = t ∧ t < 6; first | omega | assumption)) (by first | omega | assumption | decide | (show 0 ≤ (gT z21 4 t).toInt ∧ (gT z21 4 t).toInt < 400; first | omega | assumption))) (fun z24 q_1275 => ?_)
                          have h_1278 : FrL [3, 4] z21 z24 := q_1275.1
                          have h_1279 : PUT t z21 z24 (((6 : Int32) + 2) + (16 * (0 : Int32))) := q_1275.2
                          clear q_1275
                          have s_1280 : (gI z24 1).toInt = (gI z21 1).toInt := congrArg Int32.toInt (h_1278 1 (by decide)).1
                          have s_1281 : (gI z24 12).toInt = (gI z21 12).toInt := congrArg Int32.toInt (h_1278 12 (by decide)).1
                          have s_1282 : (gI z24 13).toInt = (gI z21 13).toInt := congrArg Int32.toInt (h_1278 13 (by decide)).1
                          have s_1283 : (gI z24 15).toInt = (gI z21 15).toInt := congrArg Int32.toInt (h_1278 15 (by decide)).1
                          have s_1284 : (gI z24 16).toInt = (gI z21 16).toInt := congrArg Int32.toInt (h_1278 16 (by decide)).1
                          have h_1279a := h_1279.1
                          have h_1279k := h_1279.2.1
                          have h_1279r : RN z24 t b ((h + 1)) := rn_put (by omega) h_1279 u_1274 (stp_bin (by omega) (by decide) (by decide) (by decide))
                          try have e_1285 : (1 : Int32).toInt = 1 := (show (1 : Int32).toInt = 1 by decide)
                          exact ok_some ⟨Or.inr rfl, (fr_tr (fr_tr (fr_tr (fr_I (fr_tr (fr_tr fr_rf h_3 (by decide)) h_19 (by decide)) (by decide)) h_1214 (by decide)) h_1260 (by decide)) h_1278 (by decide)), (show (gI z_t 12).toInt ≤ (gI z24 12).toInt ∧ (gI z24 12).toInt ≤ (gI z_t 1).toInt by first | omega | assumption | trivial), (kp_tr (kp_tr (kp_fr (kp_I (kp_fr (kp_tr kp_rf h_5) h_19 (by decide))) h_1214 (by decide)) h_1262) h_1279k), (show (1 : Int32).toInt = 0 → (gI z24 13).toInt ≠ 0 from fun q => absurd q (by decide)), (show (1 : Int32).toInt = 1 → (gT z24 4 t).toInt + o ≤ (gI z24 12).toInt ∧ h + 1 ≤ (gI z24 16).toInt ∧ (gI z24 16).toInt ≤ 60 from fun _ => by first | omega | assumption), (fun _ => h_1279r)⟩
                      · skip
                        have c_1257i : r6.toInt ≠ 61 := bI_neq rfl (show (61 : Int32).toInt = 61 by decide) c_1257
                        refine ok_ite (fun c_1286 => ?_) (fun c_1286 => ?_)
                        · skip
                          refine ok_bd2 (t_fX9_sum (t := t) (b := b) (h := h + 1) (o := o + 1) (by first | omega | assumption | decide | (show 0 ≤ (gI z15 12).toInt ∧ (gI z15 12).toInt ≤ (gI z15 1).toInt ∧ (gI z15 1).toInt ≤ 400; first | omega | assumption)) (by first | omega | assumption | decide | (show (gI z15 15).toInt = t ∧ t < 6; first | omega | assumption)) (by first | omega | assumption | decide | (show 0 ≤ (gT z15 4 t).toInt ∧ (gT z15 4 t).toInt + (o + 1) ≤ (gI z15 12).toInt; first | omega | assumption)) (by first | omega | assumption | decide | (show 0 ≤ (gI z15 16).toInt ∧ (gI z15 16).toInt ≤ 60 ∧ (h + 1) ≤ (gI z15 16).toInt; first | omega | assumption)) (rn_fr h_1214 (by decide) (rn_I (rn_fr h_19 (by decide) u_17)))) (fun r20 z21 q_1287 => ?_)
                          have h_1288 : r20 = 0 ∨ r20 = 1 := q_1287.1
                          have h_1288i := bool_i h_1288
                          have h_1289 : FrL [3, 4, 12, 13, 14, 16] z15 z21 := q_1287.2.1
                          have h_1290 : (gI z15 12).toInt ≤ (gI z21 12).toInt ∧ (gI z21 12).toInt ≤ (gI z15 1).toInt := q_1287.2.2.1
                          have h_1291 : KP t z15 z21 := q_1287.2.2.2.1
                          have h_1291a : (gT z15 4 t).toInt ≤ (gT z21 4 t).toInt := h_1291.1
                          have h_1292 : r20.toInt = 0 → (gI z21 13).toInt ≠ 0 := q_1287.2.2.2.2.1
                          have h_1293 : r20.toInt = 1 → (gT z21 4 t).toInt + (o + 1) ≤ (gI z21 12).toInt ∧ (h + 1) + 1 ≤ (gI z21 16).toInt ∧ (gI z21 16).toInt ≤ 60 := q_1287.2.2.2.2.2.1
                          have h_1294 : r20.toInt = 1 → RN z21 t b ((h + 1) + 1) := q_1287.2.2.2.2.2.2
                          clear q_1287
                          have s_1295 : (gI z21 1).toInt = (gI z15 1).toInt := congrArg Int32.toInt (h_1289 1 (by decide)).1
                          have s_1296 : (gI z21 15).toInt = (gI z15 15).toInt := congrArg Int32.toInt (h_1289 15 (by decide)).1
                          refine ok_ite (fun c_1297 => ?_) (fun c_1297 => ?_)
                          · skip
                            have r_1298 := n_rng r20
                            have c_1297i : r20.toInt = 0 := bI_eq rfl (show (0 : Int32).toInt = 0 by decide) c_1297
                            have u_1299 : (gI z21 13).toInt ≠ 0 := h_1292 (by omega)
                            try have e_1300 : (0 : Int32).toInt = 0 := (show (0 : Int32).toInt = 0 by decide)
                            exact ok_some ⟨Or.inl rfl, (fr_tr (fr_tr (fr_I (fr_tr (fr_tr fr_rf h_3 (by decide)) h_19 (by decide)) (by decide)) h_1214 (by decide)) h_1289 (by decide)), (show (gI z_t 12).toInt ≤ (gI z21 12).toInt ∧ (gI z21 12).toInt ≤ (gI z_t 1).toInt by first | omega | assumption | trivial), (kp_tr (kp_fr (kp_I (kp_fr (kp_tr kp_rf h_5) h_19 (by decide))) h_1214 (by decide)) h_1291), (show (0 : Int32).toInt = 0 → (gI z21 13).toInt ≠ 0 from fun _ => by first | omega | assumption), (show (0 : Int32).toInt = 1 → (gT z21 4 t).toInt + o ≤ (gI z21 12).toInt ∧ h + 1 ≤ (gI z21 16).toInt ∧ (gI z21 16).toInt ≤ 60 from fun q => absurd q (by decide)), (show (0 : Int32).toInt = 1 → RN z21 t b (h + 1) from fun q => absurd q (by decide))⟩
                          · skip
                            have r_1301 := n_rng r20
                            have c_1297i : r20.toInt ≠ 0 := bI_neq rfl (show (0 : Int32).toInt = 0 by decide) c_1297
                            have u_1302 : (gT z21 4 t).toInt + (o + 1) ≤ (gI z21 12).toInt ∧ (h + 1) + 1 ≤ (gI z21 16).toInt ∧ (gI z21 16).toInt ≤ 60 := h_1293 (by omega)
                            have u_1303 : RN z21 t b ((h + 1) + 1) := h_1294 (by omega)
                            have e_1305 : (6 + 4).toInt = (6 + 4) := (i32_add (show (6 : Int32).toInt = 6 by decide) (show (4 : Int32).toInt = 4 by decide) (by omega) (by omega))
                            have e_1306 : (0 : Int32).toInt = 0 := (show (0 : Int32).toInt = 0 by decide)
                            refine ok_bd (t_fX9_puts (t := t) (by first | omega | assumption | decide | (show (gI z21 15).toInt = t ∧ t < 6; first | omega | assumption)) (by first | omega | assumption | decide | (show 0 ≤ (gT z21 4 t).toInt ∧ (gT z21 4 t).toInt < 400; first | omega | assumption))) (fun z24 q_1304 => ?_)
                            have h_1307 : FrL [3, 4] z21 z24 := q_1304.1
                            have h_1308 : PUT t z21 z24 (((6 : Int32) + 4) + (16 * (0 : Int32))) := q_1304.2
                            clear q_1304
                            have s_1309 : (gI z24 1).toInt = (gI z21 1).toInt := congrArg Int32.toInt (h_1307 1 (by decide)).1
                            have s_1310 : (gI z24 12).toInt = (gI z21 12).toInt := congrArg Int32.toInt (h_1307 12 (by decide)).1
                            have s_1311 : (gI z24 13).toInt = (gI z21 13).toInt := congrArg Int32.toInt (h_1307 13 (by decide)).1
                            have s_1312 : (gI z24 15).toInt = (gI z21 15).toInt := congrArg Int32.toInt (h_1307 15 (by decide)).1
                            have s_1313 : (gI z24 16).toInt = (gI z21 16).toInt := congrArg Int32.toInt (h_1307 16 (by decide)).1
                            have h_1308a := h_1308.1
                            have h_1308k := h_1308.2.1
                            have h_1308r : RN z24 t b ((h + 1)) := rn_put (by omega) h_1308 u_1303 (stp_bin (by omega) (by decide) (by decide) (by decide))
                            try have e_1314 : (1 : Int32).toInt = 1 := (show (1 : Int32).toInt = 1 by decide)
                            exact ok_some ⟨Or.inr rfl, (fr_tr (fr_tr (fr_tr (fr_I (fr_tr (fr_tr fr_rf h_3 (by decide)) h_19 (by decide)) (by decide)) h_1214 (by decide)) h_1289 (by decide)) h_1307 (by decide)), (show (gI z_t 12).toInt ≤ (gI z24 12).toInt ∧ (gI z24 12).toInt ≤ (gI z_t 1).toInt by first | omega | assumption | trivial), (kp_tr (kp_tr (kp_fr (kp_I (kp_fr (kp_tr kp_rf h_5) h_19 (by decide))) h_1214 (by decide)) h_1291) h_1308k), (show (1 : Int32).toInt = 0 → (gI z24 13).toInt ≠ 0 from fun q => absurd q (by decide)), (show (1 : Int32).toInt = 1 → (gT z24 4 t).toInt + o ≤ (gI z24 12).toInt ∧ h + 1 ≤ (gI z24 16).toInt ∧ (gI z24 16).toInt ≤ 60 from fun _ => by first | omega | assumption), (fun _ => h_1308r)⟩
                        · skip
                          exact absurd (by decide) c_1286
                · skip
                  exact absurd (by decide) c_1211
        · skip
          have c_887i : r6.toInt ≠ 62 := bI_neq rfl (show (62 : Int32).toInt = 62 by decide) c_887
          have e_1316 : (0 : Int32).toInt = 0 := (show (0 : Int32).toInt = 0 by decide)
          refine ok_bd2 (t_fX9_fails (by first | omega | assumption | decide | (show 0 ≤ (gI z7 12).toInt ∧ (gI z7 12).toInt ≤ 400 ∧ 0 ≤ (0 : Int32).toInt ∧ (0 : Int32).toInt ≤ 4; first | omega | assumption))) (fun r39 z40 q_1315 => ?_)
          have h_1317 : r39 = 0 ∨ r39 = 1 := q_1315.1
          have h_1317i := bool_i h_1317
          have h_1318 : FrL [13] z7 z40 := q_1315.2.1
          have h_1319 : r39.toInt = 0 := q_1315.2.2.1
          have h_1320 : (gI z40 13).toInt ≠ 0 := q_1315.2.2.2
          clear q_1315
          have s_1321 : (gI z40 1).toInt = (gI z7 1).toInt := congrArg Int32.toInt (h_1318 1 (by decide)).1
          have s_1322 : (gI z40 12).toInt = (gI z7 12).toInt := congrArg Int32.toInt (h_1318 12 (by decide)).1
          have s_1323 : (gI z40 15).toInt = (gI z7 15).toInt := congrArg Int32.toInt (h_1318 15 (by decide)).1
          have s_1324 : (gI z40 16).toInt = (gI z7 16).toInt := congrArg Int32.toInt (h_1318 16 (by decide)).1
          have s_1325 : (gT z40 4 t).toInt = (gT z7 4 t).toInt := congrArg (fun f : Nat → Int32 => (f t).toInt) (h_1318 4 (by decide)).2.1
          refine ok_gd h_1317 ?_
          exact ok_some ⟨h_1317, (fr_tr (fr_tr (fr_tr fr_rf h_3 (by decide)) h_19 (by decide)) h_1318 (by decide)), (show (gI z_t 12).toInt ≤ (gI z40 12).toInt ∧ (gI z40 12).toInt ≤ (gI z_t 1).toInt by first | omega | assumption | trivial), (kp_fr (kp_fr (kp_tr kp_rf h_5) h_19 (by decide)) h_1318 (by decide)), (show r39.toInt = 0 → (gI z40 13).toInt ≠ 0 by first | omega | assumption | trivial), (show r39.toInt = 1 → (gT z40 4 t).toInt + o ≤ (gI z40 12).toInt ∧ h + 1 ≤ (gI z40 16).toInt ∧ (gI z40 16).toInt ≤ 60 by first | omega | assumption | trivial), (show r39.toInt = 1 → RN z40 t b (h + 1) by first | assumption | (intro q; omega))⟩

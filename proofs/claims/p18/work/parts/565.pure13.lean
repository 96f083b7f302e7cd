def WKI (z : Sx) : Prop := 0 ≤ (gI z 8).toInt ∧ (gI z 8).toInt ≤ 6 ∧ 0 ≤ (gI z 9).toInt ∧ (gI z 9).toInt ≤ 10 ∧ ∀ f : Nat, (f : Int) < (gI z 9).toInt → 0 ≤ (gT z 11 (4 * f)).toInt ∧ (gT z 11 (4 * f)).toInt ≤ 5 ∧ -1 ≤ (gT z 11 (4 * f + 3)).toInt ∧ (gT z 11 (4 * f + 3)).toInt ≤ 9
theorem wki_eq {z z' : Sx} (h8 : gI z' 8 = gI z 8) (h9 : gI z' 9 = gI z 9) (h11 : gT z' 11 = gT z 11) (h : WKI z) : WKI z' := by
  unfold WKI; rw [h8, h9, h11]; exact h
def FHP (o : Sx) (y : Int32 × Sx) : Prop := FrL [9, 11, 12, 13, 14] o y.2 ∧ (gI o 12).toInt ≤ (gI y.2 12).toInt ∧ (gI y.2 12).toInt ≤ (gI o 1).toInt ∧ ((y.1 = 0 ∧ (gI y.2 13).toInt ≠ 0) ∨ (y.1 = 1 ∧ WKI y.2))
def FH (f0 : Nat) (o z : Sx) : Prop := FrL [9, 11, 12, 13, 14] o z ∧ gI z 9 = gI o 9 ∧ (∀ i : Nat, i < 4 * f0 → gT z 11 i = gT o 11 i) ∧ (gI o 12).toInt ≤ (gI z 12).toInt ∧ (gI z 12).toInt ≤ (gI o 1).toInt
theorem fh_fr {L : List Nat} {f0 : Nat} {o z z' : Sx} (h : FH f0 o z) (hf : FrL L z z') (hL : L.all (fun k => [9, 11, 12, 13, 14].contains k) = true) (h9 : L.contains 9 = false) (h11 : L.contains 11 = false) (h12 : (gI z 12).toInt ≤ (gI z' 12).toInt) (h1 : (gI z' 12).toInt ≤ (gI o 1).toInt) : FH f0 o z' := by
  obtain ⟨a1, a2, a3, a4, a5⟩ := h
  exact ⟨fr_tr a1 hf hL, (hf 9 h9).1.trans a2, fun i hi => by rw [(hf 11 h11).2.1]; exact a3 i hi, by omega, h1⟩
theorem fh_T {f0 i : Nat} {o z : Sx} {v : Int32} (h : FH f0 o z) (hi : 4 * f0 ≤ i) : FH f0 o (sT z 11 i v) := by
  obtain ⟨a1, a2, a3, a4, a5⟩ := h
  exact ⟨fr_T a1 (by decide), a2, fun j hj => (show upd (gT z 11) i v j = gT z 11 j from if_neg (by omega)).trans (a3 j hj), a4, a5⟩
theorem fhp_0 {f0 : Nat} {o z : Sx} (h : FH f0 o z) (hw : (gI z 13).toInt ≠ 0) : FHP o (0, z) := ⟨h.1, h.2.2.2.1, h.2.2.2.2, Or.inl ⟨rfl, hw⟩⟩
theorem fhp_1 {f0 : Nat} {o z : Sx} (hw : WKI o) (h0 : (gI o 9).toInt = f0) (h9 : f0 < 10) (h : FH f0 o z) (hk : 0 ≤ (gT z 11 (4 * f0)).toInt ∧ (gT z 11 (4 * f0)).toInt ≤ 5) (hu : -1 ≤ (gT z 11 (4 * f0 + 3)).toInt ∧ (gT z 11 (4 * f0 + 3)).toInt ≤ 9) : FHP o (1, sI z 9 ((gI z 9) + 1)) := by
  obtain ⟨a1, a2, a3, a4, a5⟩ := h
  obtain ⟨w1, w2, w3, w4, w5⟩ := hw
  have ev : (gI z 9 + 1).toInt = (f0 : Int) + 1 := by rw [a2]; exact i32_add h0 (show (1 : Int32).toInt = 1 by decide) (by omega) (by omega)
  have e8 : gI z 8 = gI o 8 := (a1 8 (by decide)).1
  refine ⟨fr_I a1 (by decide), a4, a5, Or.inr ⟨rfl, show 0 ≤ (gI z 8).toInt by rw [e8]; exact w1, show (gI z 8).toInt ≤ 6 by rw [e8]; exact w2, show 0 ≤ (gI z 9 + 1).toInt by omega, show (gI z 9 + 1).toInt ≤ 10 by omega, fun f hf => ?_⟩⟩
  have hf2 : (f : Int) < (gI z 9 + 1).toInt := hf
  by_cases q : f = f0
  · subst q; exact ⟨hk.1, hk.2, hu.1, hu.2⟩
  · have := w5 f (by omega)
    show 0 ≤ (gT z 11 (4 * f)).toInt ∧ (gT z 11 (4 * f)).toInt ≤ 5 ∧ -1 ≤ (gT z 11 (4 * f + 3)).toInt ∧ (gT z 11 (4 * f + 3)).toInt ≤ 9
    rw [a3 (4 * f) (by omega), a3 (4 * f + 3) (by omega)]
    exact this
set_option maxHeartbeats 2000000 in
theorem t_fX9_isFaultHere {z_t : Sx} {x1 : Int32} (p1 : 0 ≤ (gI z_t 12).toInt ∧ (gI z_t 12).toInt ≤ (gI z_t 1).toInt ∧ (gI z_t 1).toInt ≤ 400) (pa : 0 ≤ x1.toInt ∧ x1.toInt ≤ 400) (hw : WKI z_t) : okP (fX9_isFaultHere z_t x1) (FHP z_t) := by
  unfold fX9_isFaultHere
  obtain ⟨w1, w2, w3, w4, w5⟩ := id hw
  refine ok_ite (fun c => ?_) (fun c => ?_)
  · refine ok_bd2 (t_fX9_fails (by have : (4 : Int32).toInt = 4 := by decide
                                   omega)) (fun r31 z32 q => ?_)
    have q1 : r31 = 0 ∨ r31 = 1 := q.1
    have q2 : FrL [13] z_t z32 := q.2.1
    have q3 : r31.toInt = 0 := q.2.2.1
    have e12 : (gI z32 12).toInt = (gI z_t 12).toInt := congrArg Int32.toInt (q2 12 (by decide)).1
    refine ok_gd q1 ?_
    exact ok_some ⟨fr_tr fr_rf q2 (by decide), show (gI z_t 12).toInt ≤ (gI z32 12).toInt by omega, show (gI z32 12).toInt ≤ (gI z_t 1).toInt by omega, Or.inl ⟨show r31 = 0 from Int32.toInt.inj (by rw [q3]; decide), q.2.2.2⟩⟩
  have ci := bI_neq rfl (show (10 : Int32).toInt = 10 by decide) c
  obtain ⟨f0, hf0⟩ : ∃ f0 : Nat, (gI z_t 9).toInt = f0 := ⟨(gI z_t 9).toInt.toNat, by omega⟩
  refine ok_bd (t_fX9_passWord (by omega)) (fun z3 q => ?_)
  have f3 : FrL [12] z_t z3 := q.1
  have n3 : (gI z_t 12).toInt ≤ (gI z3 12).toInt ∧ (gI z3 12).toInt ≤ (gI z_t 1).toInt := q.2.1
  clear q
  have h3 : FH f0 z_t z3 := ⟨fr_tr fr_rf f3 (by decide), (f3 9 (by decide)).1, fun i _ => by rw [(f3 11 (by decide)).2.1], by omega, by omega⟩
  have e9 : gI z3 9 = gI z_t 9 := h3.2.1
  have e8 : (gI z3 8).toInt = (gI z_t 8).toInt := congrArg Int32.toInt (f3 8 (by decide)).1
  have i9 : (gI z3 9).toInt = f0 := by rw [e9]; exact hf0
  have k0 : (4 * gI z3 9).toInt = 4 * (f0 : Int) := by rw [i32_mul (show (4 : Int32).toInt = 4 by decide) i9 (by omega) (by omega)]
  have k1 : ((4 * gI z3 9) + 1).toInt = 4 * (f0 : Int) + 1 := i32_add k0 (show (1 : Int32).toInt = 1 by decide) (by omega) (by omega)
  have k2 : ((4 * gI z3 9) + 2).toInt = 4 * (f0 : Int) + 2 := i32_add k0 (show (2 : Int32).toInt = 2 by decide) (by omega) (by omega)
  have k3 : ((4 * gI z3 9) + 3).toInt = 4 * (f0 : Int) + 3 := i32_add k0 (show (3 : Int32).toInt = 3 by decide) (by omega) (by omega)
  have j0 : (4 * gI z3 9).toNatClampNeg = 4 * f0 := n_cl (by rw [k0]; omega)
  have j1 : ((4 * gI z3 9) + 1).toNatClampNeg = 4 * f0 + 1 := n_cl (by rw [k1]; omega)
  have j2 : ((4 * gI z3 9) + 2).toNatClampNeg = 4 * f0 + 2 := n_cl (by rw [k2]; omega)
  have j3 : ((4 * gI z3 9) + 3).toNatClampNeg = 4 * f0 + 3 := n_cl (by rw [k3]; omega)
  have t1 : ∀ z, FH f0 z_t z → (gI z 1).toInt = (gI z_t 1).toInt := fun z h => congrArg Int32.toInt (h.1 1 (by decide)).1
  have z0 : (0 : Int32).toInt = 0 := by decide
  have e3 := t1 z3 h3
  refine ok_bd2 (t_fX9_numberHere (by omega)) (fun r5 z6 q => ?_)
  have f6 : FrL [12, 13, 14] z3 z6 := q.2.1
  have n6 : (gI z3 12).toInt ≤ (gI z6 12).toInt ∧ (gI z6 12).toInt ≤ (gI z3 1).toInt := q.2.2.1
  have b6 := bool_i (show r5 = 0 ∨ r5 = 1 from q.1)
  have w6 : r5.toInt = 0 → (gI z6 13).toInt ≠ 0 := q.2.2.2.1
  have v6 : r5.toInt = 1 → (0 : Int32).toInt ≤ (gI z6 14).toInt ∧ (gI z6 14).toInt ≤ (gI z3 8 - 1).toInt := q.2.2.2.2.2
  clear q
  have h6 : FH f0 z_t z6 := fh_fr h3 f6 (by decide) (by decide) (by decide) (by omega) (by omega)
  have e6 := t1 z6 h6
  refine ok_ite (fun c2 => ok_some (fhp_0 h6 (w6 (by rw [c2]; decide)))) (fun c2 => ?_)
  have c2i := bI_neq rfl (show (0 : Int32).toInt = 0 by decide) c2
  have v6' := v6 (by omega)
  have e81 : (gI z3 8 - 1).toInt = (gI z3 8).toInt - 1 := i32_sub rfl (show (1 : Int32).toInt = 1 by decide) (by omega) (by omega)
  refine ok_gd (inb_of (by omega) (by omega)) ?_
  simp only [j0, j1, j2, j3]
  have h6b : FH f0 z_t (sT z6 11 (4 * f0) (gI z6 14)) := fh_T h6 (Nat.le_refl _)
  refine ok_bd2 (t_fX9_numberHere (z_t := sT z6 11 (4 * f0) (gI z6 14)) (show 0 ≤ (gI z6 12).toInt ∧ (gI z6 12).toInt ≤ (gI z6 1).toInt ∧ (gI z6 1).toInt ≤ 400 by omega)) (fun r10 z11 q => ?_)
  have f11 : FrL [12, 13, 14] (sT z6 11 (4 * f0) (gI z6 14)) z11 := q.2.1
  have n11 : (gI z6 12).toInt ≤ (gI z11 12).toInt ∧ (gI z11 12).toInt ≤ (gI z6 1).toInt := q.2.2.1
  have w11 : r10.toInt = 0 → (gI z11 13).toInt ≠ 0 := q.2.2.2.1
  clear q
  have h11 : FH f0 z_t z11 := fh_fr h6b f11 (by decide) (by decide) (by decide) n11.1 (by omega)
  have a11 : gT z11 11 = upd (gT z6 11) (4 * f0) (gI z6 14) := (f11 11 (by decide)).2.1
  have e11 := t1 z11 h11
  refine ok_ite (fun c3 => ok_some (fhp_0 h11 (w11 (by rw [c3]; decide)))) (fun c3 => ?_)
  refine ok_gd (inb_of (by omega) (by omega)) ?_
  have h11b : FH f0 z_t (sT z11 11 (4 * f0 + 1) (gI z11 14)) := fh_T h11 (by omega)
  refine ok_bd2 (t_fX9_numberHere (z_t := sT z11 11 (4 * f0 + 1) (gI z11 14)) (show 0 ≤ (gI z11 12).toInt ∧ (gI z11 12).toInt ≤ (gI z11 1).toInt ∧ (gI z11 1).toInt ≤ 400 by omega)) (fun r15 z16 q => ?_)
  have f16 : FrL [12, 13, 14] (sT z11 11 (4 * f0 + 1) (gI z11 14)) z16 := q.2.1
  have n16 : (gI z11 12).toInt ≤ (gI z16 12).toInt ∧ (gI z16 12).toInt ≤ (gI z11 1).toInt := q.2.2.1
  have w16 : r15.toInt = 0 → (gI z16 13).toInt ≠ 0 := q.2.2.2.1
  clear q
  have h16 : FH f0 z_t z16 := fh_fr h11b f16 (by decide) (by decide) (by decide) n16.1 (by omega)
  have a16 : gT z16 11 = upd (gT z11 11) (4 * f0 + 1) (gI z11 14) := (f16 11 (by decide)).2.1
  have e16 := t1 z16 h16
  refine ok_ite (fun c4 => ok_some (fhp_0 h16 (w16 (by rw [c4]; decide)))) (fun c4 => ?_)
  refine ok_gd (inb_of (by omega) (by omega)) ?_
  refine ok_gd (inb_of (by omega) (by omega)) ?_
  have h16b : FH f0 z_t (sT (sT z16 11 (4 * f0 + 2) (gI z16 14)) 11 (4 * f0 + 3) (-1)) := fh_T (fh_T h16 (by omega)) (by omega)
  refine ok_bd2 (t_fX9_takesWord (z_t := sT (sT z16 11 (4 * f0 + 2) (gI z16 14)) 11 (4 * f0 + 3) (-1)) (show 0 ≤ (gI z16 12).toInt ∧ (gI z16 12).toInt ≤ (gI z16 1).toInt ∧ (gI z16 1).toInt ≤ 400 by omega)) (fun r21 z22 q => ?_)
  have f22 : FrL [12] (sT (sT z16 11 (4 * f0 + 2) (gI z16 14)) 11 (4 * f0 + 3) (-1)) z22 := q.2.1
  have n22 : (gI z16 12).toInt ≤ (gI z22 12).toInt ∧ (gI z22 12).toInt ≤ (gI z16 1).toInt := q.2.2
  clear q
  have h22 : FH f0 z_t z22 := fh_fr h16b f22 (by decide) (by decide) (by decide) n22.1 (by omega)
  have a22 : gT z22 11 = upd (upd (gT z16 11) (4 * f0 + 2) (gI z16 14)) (4 * f0 + 3) (-1) := (f22 11 (by decide)).2.1
  have e22 := t1 z22 h22
  have kd22 : gT z22 11 (4 * f0) = gI z6 14 := by
    rw [a22]
    refine (if_neg (by omega)).trans ((if_neg (by omega)).trans ?_)
    rw [a16]
    refine (if_neg (by omega)).trans ?_
    rw [a11]; exact if_pos rfl
  have un22 : gT z22 11 (4 * f0 + 3) = -1 := by rw [a22]; exact if_pos rfl
  refine ok_jn ?_
  refine ok_ite (fun c5 => ?_) (fun c5 => ?_)
  · exact ok_some (fhp_1 hw hf0 (by omega) h22 (by rw [kd22]; omega) (by rw [un22]; decide))
  · refine ok_bd2 (t_fX9_numberHere (by omega)) (fun r27 z28 q => ?_)
    have f28 : FrL [12, 13, 14] z22 z28 := q.2.1
    have n28 : (gI z22 12).toInt ≤ (gI z28 12).toInt ∧ (gI z28 12).toInt ≤ (gI z22 1).toInt := q.2.2.1
    have b28 := bool_i (show r27 = 0 ∨ r27 = 1 from q.1)
    have w28 : r27.toInt = 0 → (gI z28 13).toInt ≠ 0 := q.2.2.2.1
    have v28 : r27.toInt = 1 → (0 : Int32).toInt ≤ (gI z28 14).toInt ∧ (gI z28 14).toInt ≤ (gI z22 9 - 1).toInt := q.2.2.2.2.2
    clear q
    have h28 : FH f0 z_t z28 := fh_fr h22 f28 (by decide) (by decide) (by decide) (by omega) (by omega)
    refine ok_ite (fun c6 => ok_some (fhp_0 h28 (w28 (by rw [c6]; decide)))) (fun c6 => ?_)
    have c6i := bI_neq rfl (show (0 : Int32).toInt = 0 by decide) c6
    have v28' := v28 (by omega)
    have e229 : (gI z22 9).toInt = f0 := by rw [h22.2.1]; exact hf0
    have e91 : (gI z22 9 - 1).toInt = (gI z22 9).toInt - 1 := i32_sub rfl (show (1 : Int32).toInt = 1 by decide) (by omega) (by omega)
    have a28 : gT z28 11 = gT z22 11 := (f28 11 (by decide)).2.1
    have kd : gT (sT z28 11 (4 * f0 + 3) (gI z28 14)) 11 (4 * f0) = gI z6 14 := (show upd (gT z28 11) (4 * f0 + 3) (gI z28 14) (4 * f0) = gT z28 11 (4 * f0) from if_neg (by omega)).trans (by rw [a28]; exact kd22)
    have un : gT (sT z28 11 (4 * f0 + 3) (gI z28 14)) 11 (4 * f0 + 3) = gI z28 14 := if_pos rfl
    exact ok_some (fhp_1 hw hf0 (by omega) (fh_T h28 (by omega)) (by rw [kd]; omega) (by rw [un]; omega))
def CHW (o : Sx) (y : Int32 × Sx) : Prop := FrL [7, 8, 9, 10, 11, 12, 13, 14, 18] o y.2 ∧ (gI o 12).toInt ≤ (gI y.2 12).toInt ∧ (gI y.2 12).toInt ≤ (gI o 1).toInt ∧ ((y.1 = 0 ∧ (gI y.2 13).toInt ≠ 0) ∨ (y.1 = 1 ∧ WKI y.2))
theorem chw_fail {o z z' : Sx} {r : Int32} (hf : FrL [12] o z) (hq : FrL [13] z z') (h12 : (gI o 12).toInt ≤ (gI z 12).toInt) (h1 : (gI z 12).toInt ≤ (gI o 1).toInt) (hr : r.toInt = 0) (hw : (gI z' 13).toInt ≠ 0) : CHW o (r, z') := by
  have e12 : (gI z' 12).toInt = (gI z 12).toInt := congrArg Int32.toInt (hq 12 (by decide)).1
  exact ⟨fr_tr (fr_tr fr_rf hf (by decide)) hq (by decide), show (gI o 12).toInt ≤ (gI z' 12).toInt by omega, show (gI z' 12).toInt ≤ (gI o 1).toInt by omega, Or.inl ⟨show r = 0 from Int32.toInt.inj (by rw [hr]; decide), hw⟩⟩
set_option maxHeartbeats 2000000 in
theorem t_clauseW {z_t : Sx} (pt : (gI z_t 15).toInt = 6) (p1 : 0 ≤ (gI z_t 12).toInt ∧ (gI z_t 12).toInt ≤ (gI z_t 1).toInt ∧ (gI z_t 1).toInt ≤ 400) (hw : WKI z_t) : okP (fX9_clauseHere z_t) (CHW z_t) := by
  unfold fX9_clauseHere
  refine ok_bd2 (t_fX9_see (by omega)) (fun r2 z3 q => ?_)
  have f3 : FrL [12] z_t z3 := q.1
  have n3 : (gI z_t 12).toInt ≤ (gI z3 12).toInt ∧ (gI z3 12).toInt ≤ (gI z_t 1).toInt := q.2.1
  clear q
  have e1 : (gI z3 1).toInt = (gI z_t 1).toInt := congrArg Int32.toInt (f3 1 (by decide)).1
  have e15 : (gI z3 15).toInt = 6 := (congrArg Int32.toInt (f3 15 (by decide)).1).trans pt
  refine ok_jn ?_
  refine ok_ite (fun _ => ?_) (fun c => ?_)
  case refine_2 =>
    have ci := bI_neq rfl (show (6 : Int32).toInt = 6 by decide) c
    exact absurd e15 ci
  refine ok_jn2 (Q := fun J => ∀ z7, FrL [12] z_t z7 → (gI z_t 12).toInt ≤ (gI z7 12).toInt → (gI z7 12).toInt ≤ (gI z_t 1).toInt → okP (J z7 0) (CHW z_t) ∧ okP (J z7 1) (CHW z_t)) ?_ (fun J6 HJ => ?_)
  · intro z7 f7 h12 h1
    refine ⟨?_, ?_⟩
    · refine ok_ite (fun _ => ?_) (fun c => absurd rfl c)
      refine ok_bd2 (t_fX9_fails (by have : (0 : Int32).toInt = 0 := by decide
                                     omega)) (fun r51 z52 q => ?_)
      have q1 : r51 = 0 ∨ r51 = 1 := q.1
      refine ok_gd q1 ?_
      exact ok_some (chw_fail f7 q.2.1 h12 h1 q.2.2.1 q.2.2.2)
    refine ok_ite (fun c => absurd c (by decide)) (fun _ => ?_)
    refine ok_jn ?_
    refine ok_ite (fun c => absurd c (by decide)) (fun _ => ?_)
    refine ok_ite (fun c2 => ?_) (fun c2 => ?_)
    · refine ok_bd2 (t_fX9_fails (by have : (4 : Int32).toInt = 4 := by decide
                                     omega)) (fun r51 z52 q => ?_)
      have q1 : r51 = 0 ∨ r51 = 1 := q.1
      refine ok_gd q1 ?_
      exact ok_some (chw_fail f7 q.2.1 h12 h1 q.2.2.1 q.2.2.2)
    refine ok_ite (fun c => absurd c (by decide)) (fun _ => ?_)
    have g1 : (gI z7 1).toInt = (gI z_t 1).toInt := congrArg Int32.toInt (f7 1 (by decide)).1
    refine ok_bd2 (t_fX9_isWord (z_t := sI z7 18 (gI z7 18 + 1)) (show 0 ≤ (gI z7 12).toInt ∧ (gI z7 12).toInt ≤ (gI z7 1).toInt ∧ (gI z7 1).toInt ≤ 400 by omega)) (fun r16 z17 q => ?_)
    have f17 : FrL [12] (sI z7 18 (gI z7 18 + 1)) z17 := q.2.1
    have n17 : (gI z7 12).toInt ≤ (gI z17 12).toInt ∧ (gI z17 12).toInt ≤ (gI z7 1).toInt := q.2.2.1
    clear q
    have fr17 : FrL [12, 18] z_t z17 := fr_tr (fr_I (fr_tr fr_rf f7 (by decide)) (by decide)) f17 (by decide)
    have k1 : (gI z17 1).toInt = (gI z_t 1).toInt := congrArg Int32.toInt (fr17 1 (by decide)).1
    have w17 : WKI z17 := wki_eq (fr17 8 (by decide)).1 (fr17 9 (by decide)).1 (fr17 11 (by decide)).2.1 hw
    refine ok_ite (fun c3 => ?_) (fun c3 => ?_)
    · refine ok_bd2 (t_fX9_isWord (by omega)) (fun r20 z21 q => ?_)
      have f21 : FrL [12] z17 z21 := q.2.1
      have n21 : (gI z17 12).toInt ≤ (gI z21 12).toInt ∧ (gI z21 12).toInt ≤ (gI z17 1).toInt := q.2.2.1
      clear q
      have fr21 : FrL [12, 18] z_t z21 := fr_tr fr17 f21 (by decide)
      have k21 : (gI z21 1).toInt = (gI z_t 1).toInt := congrArg Int32.toInt (fr21 1 (by decide)).1
      have w21 : WKI z21 := wki_eq (f21 8 (by decide)).1 (f21 9 (by decide)).1 (f21 11 (by decide)).2.1 w17
      refine ok_ite (fun c4 => ?_) (fun c4 => ?_)
      · refine ok_bd2 (t_fX9_isFaultHere (by omega) (by omega) w21) (fun r24 z25 q => ?_)
        obtain ⟨a1, a2, a3, a4⟩ := q
        have a1 : FrL [9, 11, 12, 13, 14] z21 z25 := a1
        have a2 : (gI z21 12).toInt ≤ (gI z25 12).toInt := a2
        have a3 : (gI z25 12).toInt ≤ (gI z21 1).toInt := a3
        refine ok_gd (a4.imp (fun q => q.1) (fun q => q.1)) ?_
        exact ok_some ⟨fr_tr (fr_tr fr_rf fr21 (by decide)) a1 (by decide), show (gI z_t 12).toInt ≤ (gI z25 12).toInt by omega, show (gI z25 12).toInt ≤ (gI z_t 1).toInt by omega, a4⟩
      · refine ok_bd2 (t_fX9_isKindHere (by omega) (by omega) ⟨w21.1, w21.2.1⟩) (fun r28 z29 q => ?_)
        have b29 : r28 = 0 ∨ r28 = 1 := q.1
        have f29 : FrL [8, 10, 12, 13, 14] z21 z29 := q.2.1
        have n29 : (gI z21 12).toInt ≤ (gI z29 12).toInt ∧ (gI z29 12).toInt ≤ (gI z21 1).toInt := q.2.2.1
        have v0 : r28.toInt = 0 → (gI z29 13).toInt ≠ 0 := q.2.2.2.1
        have v1 : r28.toInt = 1 → 0 ≤ (gI z29 8).toInt ∧ (gI z29 8).toInt ≤ 6 := q.2.2.2.2
        clear q
        refine ok_gd b29 ?_
        refine ok_some ⟨fr_tr (fr_tr fr_rf fr21 (by decide)) f29 (by decide), show (gI z_t 12).toInt ≤ (gI z29 12).toInt by omega, show (gI z29 12).toInt ≤ (gI z_t 1).toInt by omega, ?_⟩
        rcases b29 with e | e
        · exact Or.inl ⟨e, v0 (by rw [e]; decide)⟩
        · have := v1 (by rw [e]; decide)
          refine Or.inr ⟨e, this.1, this.2, ?_⟩
          have h9 : gI z29 9 = gI z21 9 := (f29 9 (by decide)).1
          have h11 : gT z29 11 = gT z21 11 := (f29 11 (by decide)).2.1
          show 0 ≤ (gI z29 9).toInt ∧ (gI z29 9).toInt ≤ 10 ∧ ∀ f : Nat, (f : Int) < (gI z29 9).toInt → 0 ≤ (gT z29 11 (4 * f)).toInt ∧ (gT z29 11 (4 * f)).toInt ≤ 5 ∧ -1 ≤ (gT z29 11 (4 * f + 3)).toInt ∧ (gT z29 11 (4 * f + 3)).toInt ≤ 9
          rw [h9, h11]; exact w21.2.2
    · refine ok_bd2 (t_fX9_isTimeHere (by omega) (by omega)) (fun r32 z33 q => ?_)
      have b33 : r32 = 0 ∨ r32 = 1 := q.1
      have f33 : FrL [7, 12, 13, 14] z17 z33 := q.2.1
      have n33 : (gI z17 12).toInt ≤ (gI z33 12).toInt ∧ (gI z33 12).toInt ≤ (gI z17 1).toInt := q.2.2.1
      have v0 : r32.toInt = 0 → (gI z33 13).toInt ≠ 0 := q.2.2.2
      clear q
      refine ok_gd b33 ?_
      refine ok_some ⟨fr_tr (fr_tr fr_rf fr17 (by decide)) f33 (by decide), show (gI z_t 12).toInt ≤ (gI z33 12).toInt by omega, show (gI z33 12).toInt ≤ (gI z_t 1).toInt by omega, ?_⟩
      rcases b33 with e | e
      · exact Or.inl ⟨e, v0 (by rw [e]; decide)⟩
      · exact Or.inr ⟨e, wki_eq (f33 8 (by decide)).1 (f33 9 (by decide)).1 (f33 11 (by decide)).2.1 w17⟩
  refine ok_ite (fun c => absurd c (by decide)) (fun _ => ?_)
  refine ok_bd2 (t_fX9_isWord (by omega)) (fun r66 z67 q => ?_)
  have f67 : FrL [12] z3 z67 := q.2.1
  have n67 : (gI z3 12).toInt ≤ (gI z67 12).toInt ∧ (gI z67 12).toInt ≤ (gI z3 1).toInt := q.2.2.1
  clear q
  have e67 : (gI z67 1).toInt = (gI z3 1).toInt := congrArg Int32.toInt (f67 1 (by decide)).1
  have fr67 : FrL [12] z_t z67 := fr_tr (fr_tr fr_rf f3 (by decide)) f67 (by decide)
  refine ok_jn ?_
  refine ok_ite (fun _ => ?_) (fun _ => (HJ z67 fr67 (by omega) (by omega)).2)
  refine ok_bd2 (t_fX9_isWord (by omega)) (fun r72 z73 q => ?_)
  have f73 : FrL [12] z67 z73 := q.2.1
  have n73 : (gI z67 12).toInt ≤ (gI z73 12).toInt ∧ (gI z73 12).toInt ≤ (gI z67 1).toInt := q.2.2.1
  clear q
  have e73 : (gI z73 1).toInt = (gI z67 1).toInt := congrArg Int32.toInt (f73 1 (by decide)).1
  have fr73 : FrL [12] z_t z73 := fr_tr fr67 f73 (by decide)
  refine ok_ite (fun _ => ?_) (fun _ => (HJ z73 fr73 (by omega) (by omega)).2)
  refine ok_bd2 (t_fX9_isWord (by omega)) (fun r76 z77 q => ?_)
  have f77 : FrL [12] z73 z77 := q.2.1
  have n77 : (gI z73 12).toInt ≤ (gI z77 12).toInt ∧ (gI z77 12).toInt ≤ (gI z73 1).toInt := q.2.2.1
  clear q
  have fr77 : FrL [12] z_t z77 := fr_tr fr73 f77 (by decide)
  exact ok_ite (fun _ => (HJ z77 fr77 (by omega) (by omega)).1) (fun _ => (HJ z77 fr77 (by omega) (by omega)).2)

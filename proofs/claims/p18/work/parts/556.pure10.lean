def TSP (t b : Nat) (o : Sx) (y : Int32 × Sx) : Prop := FrL [3, 4, 12, 13, 14, 16, 17, 19, 20] o y.2 ∧ KP t o y.2 ∧ (gI o 12).toInt ≤ (gI y.2 12).toInt ∧ (gI y.2 12).toInt ≤ (gI o 1).toInt ∧ ((y.1 = 0 ∧ (gI y.2 13).toInt ≠ 0) ∨ (y.1 = 1 ∧ RN y.2 t b 1 ∧ (gT y.2 4 t).toInt ≤ (gI y.2 12).toInt ∧ 0 ≤ (gI y.2 16).toInt ∧ (gI y.2 16).toInt ≤ 60))
theorem tsp_fcp {t b h : Nat} {o z : Sx} {y : Int32 × Sx} (hf : FrL [3, 4, 12, 13, 14, 16, 17, 19, 20] o z) (hk : KP t o z) (h12 : (gI o 12).toInt ≤ (gI z 12).toInt) (h1 : (gI z 1).toInt = (gI o 1).toInt) (hq : FCP t b h z y) (h0 : y.1 = 0) : TSP t b o y := by
  obtain ⟨a1, a2, a3, a4, a5⟩ := hq
  refine ⟨fr_tr hf a1 (by decide), kp_tr hk a2, by omega, by omega, Or.inl ⟨h0, ?_⟩⟩
  rcases a5 with q | q
  · exact q.2
  · rw [q.1] at h0; exact absurd h0 (by decide)
set_option maxHeartbeats 2000000 in
theorem tl_tested {t b : Nat} {o : Sx} {k : Sx → Option (Int32 × Sx)} (pt : (gI o 15).toInt = t ∧ t < 6) (p1 : 0 ≤ (gI o 12).toInt ∧ (gI o 12).toInt ≤ (gI o 1).toInt ∧ (gI o 1).toInt ≤ 400) (pL : 0 ≤ (gT o 4 t).toInt) (hk : ∀ z h, FI t b h 1 o z → okP (k z) (TSP t b o)) : ∀ (n : Nat) (z : Sx) (x1 : Int32) (h e : Nat), FI t b h e o z → (x1 = 0 ∧ e = 1 ∨ ¬ x1 = 0 ∧ e = 0) → 2 * ((gI o 1).toInt - (gI z 12).toInt).toNat + (if x1 = 0 then 0 else 1) < n → okP (lX9_tested_12 k n z x1) (TSP t b o) := by
  intro n
  induction n with
  | zero => intro _ _ _ _ _ _ hm; omega
  | succ n ih =>
    intro z x1 h e hi hx hm
    rw [lX9_tested_12]
    rcases hx with ⟨c1, he⟩ | ⟨c1, he⟩
    · subst he
      rw [if_pos c1]
      exact hk z h hi
    subst he
    rw [if_neg c1] at hm ⊢
    obtain ⟨a1, a2, a3, a4, a5, a6, a7, a8, a9⟩ := id hi
    have a2a := a2.1
    have a3a := a3.1
    have e1 : (gI z 1).toInt = (gI o 1).toInt := congrArg Int32.toInt (a1 1 (by decide)).1
    have e15 : (gI z 15).toInt = t := (congrArg Int32.toInt (a1 15 (by decide)).1).trans pt.1
    refine ok_bd2 (t_fX9_fact (t := t) (b := b) (h := h) ⟨e15, pt.2⟩ (by omega) (by omega) a3 a4 a5 (by omega)) (fun r3 z4 q => ?_)
    refine ok_ite (fun c2 => ?_) (fun c2 => ?_)
    · rw [c2] at q
      exact ok_some (tsp_fcp a1 a2 a6 e1 q rfl)
    obtain ⟨f1, f2, f3, f4, f5⟩ := q
    have f1 : FrL [3, 4, 12, 13, 14, 16, 17, 19, 20] z z4 := f1
    have f2 : KP t z z4 := f2
    have f2a := f2.1
    have f3 : (gI z 12).toInt ≤ (gI z4 12).toInt := f3
    have f4 : (gI z4 12).toInt ≤ (gI z 1).toInt := f4
    have f6 : OPS z4 h ∧ RN z4 t b (h + 1) ∧ (gT z4 4 t).toInt + (gI z4 20).toInt ≤ (gI z4 12).toInt ∧ (h : Int) + 1 ≤ (gI z4 16).toInt ∧ (gI z4 16).toInt ≤ 60 := by
      rcases f5 with q | q
      · exact absurd q.1 c2
      · exact q.2
    clear f5
    obtain ⟨g1, g2, g3, g4, g5⟩ := f6
    have i1 : (gI z4 1).toInt = (gI z 1).toInt := congrArg Int32.toInt (f1 1 (by decide)).1
    have i15 : (gI z4 15).toInt = (gI z 15).toInt := congrArg Int32.toInt (f1 15 (by decide)).1
    refine ok_bd (t_fX9_closes (t := t) (b := b) (h := h) ⟨by omega, pt.2⟩ (by omega) (by omega) g1 g2 g3) (fun z7 q => ?_)
    obtain ⟨j1, j2, ⟨h', j3, j4, j5⟩, j6, j7, j8⟩ := q
    have j2a := j2.1
    have k1 : (gI z7 1).toInt = (gI z4 1).toInt := congrArg Int32.toInt (j1 1 (by decide)).1
    have k16 : (gI z7 16).toInt = (gI z4 16).toInt := congrArg Int32.toInt (j1 16 (by decide)).1
    have hi7 : FI t b h' 1 o z7 := ⟨fr_tr (fr_tr a1 f1 (by decide)) j1 (by decide), kp_tr (kp_tr a2 f2) j2, j4, j5, j6, by omega, by omega, by omega, by omega⟩
    refine ok_bd2 (t_fX9_isWord (by omega)) (fun r9 z10 q => ?_)
    have rb9 : r9 = 0 ∨ r9 = 1 := q.1
    have f10 : FrL [12] z7 z10 := q.2.1
    have n10 : (gI z7 12).toInt ≤ (gI z10 12).toInt ∧ (gI z10 12).toInt ≤ (gI z7 1).toInt := q.2.2.1
    have l10 : r9.toInt = 1 → LTR z10 (gI z10 12) := q.2.2.2.1
    clear q
    have rb9i := bool_i rb9
    have m1 : (gI z10 1).toInt = (gI z7 1).toInt := congrArg Int32.toInt (f10 1 (by decide)).1
    have hi10 : FI t b h' 1 o z10 := fi_fr hi7 f10 (by decide) (by omega) (by omega) (by decide) (by decide) (by decide) (by decide)
    have more : ∀ z12 : Sx, FI t b h' 1 o z12 → (gI z 12).toInt ≤ (gI z12 12).toInt → LTR z12 (gI z12 12) → okP (bd2 (fX9_isWord z12 6385252) (fun r16 z17 => jn (fun (i19 : Int32) => bd (fX9_passWord z17) (fun z21 => bd (fX9_strength i19) (fun r23 => bd (fX9_settles z21 r23) (fun z25 => gd (inb (gI z25 20) 400) (lX9_tested_12 k n (sI (sT z25 19 ((gI z25 20).toNatClampNeg) i19) 20 ((gI z25 20) + 1)) 1))))) (fun J18 => if r16 = 0 then J18 13 else J18 12))) (TSP t b o) := by
      intro z12 hi12 hge hl
      obtain ⟨b1, b2, b3, b4, b5, b6, b7, b8, b9⟩ := id hi12
      have b2a := b2.1
      have b3a := b3.1
      have e121 : (gI z12 1).toInt = (gI o 1).toInt := congrArg Int32.toInt (b1 1 (by decide)).1
      have e1215 : (gI z12 15).toInt = t := (congrArg Int32.toInt (b1 15 (by decide)).1).trans pt.1
      refine ok_bd2 (t_fX9_isWord (by omega)) (fun r16 z17 q => ?_)
      have f17 : FrL [12] z12 z17 := q.2.1
      have n17 : (gI z17 12).toInt = (gI z12 12).toInt := q.2.2.2.2 (nb_ltr hl)
      clear q
      have hl17 : LTR z17 (gI z17 12) := ltr_same f17 n17 hl
      have e171 : (gI z17 1).toInt = (gI z12 1).toInt := congrArg Int32.toInt (f17 1 (by decide)).1
      have hi17 : FI t b h' 1 o z17 := fi_fr hi12 f17 (by decide) (by omega) (by omega) (by decide) (by decide) (by decide) (by decide)
      have push : ∀ s : Int32, (s = 12 ∨ s = 13) → okP (bd (fX9_passWord z17) (fun z21 => bd (fX9_strength s) (fun r23 => bd (fX9_settles z21 r23) (fun z25 => gd (inb (gI z25 20) 400) (lX9_tested_12 k n (sI (sT z25 19 ((gI z25 20).toNatClampNeg) s) 20 ((gI z25 20) + 1)) 1))))) (TSP t b o) := by
        intro s hs
        refine ok_bd (t_fX9_passWord (by omega)) (fun z21 q => ?_)
        have f21 : FrL [12] z17 z21 := q.1
        have n21 : (gI z17 12).toInt ≤ (gI z21 12).toInt ∧ (gI z21 12).toInt ≤ (gI z17 1).toInt := q.2.1
        have p21 : (gI z17 12).toInt < (gI z21 12).toInt := q.2.2 hl17
        clear q
        have hi21 : FI t b h' 1 o z21 := fi_fr hi17 f21 (by decide) (by omega) (by omega) (by decide) (by decide) (by decide) (by decide)
        obtain ⟨v1, v2, v3, v4, v5, v6, v7, v8, v9⟩ := id hi21
        have v2a := v2.1
        have v3a := v3.1
        have s17 : (gT z17 4 t).toInt + (gI z17 20).toInt ≤ (gI z17 12).toInt := hi17.2.2.2.2.1
        have w20 : (gI z21 20).toInt = (gI z17 20).toInt := congrArg Int32.toInt (f21 20 (by decide)).1
        have w4 : (gT z21 4 t).toInt = (gT z17 4 t).toInt := congrArg (fun f : Nat → Int32 => (f t).toInt) (f21 4 (by decide)).2.1
        have w15 : (gI z21 15).toInt = t := (congrArg Int32.toInt (v1 15 (by decide)).1).trans pt.1
        refine ok_bd t_fX9_strength' (fun r23 q23 => ?_)
        have q23 : r23.toInt = str s := q23
        have hs1 : 1 ≤ str s := by rcases hs with e | e <;> (rw [e]; decide)
        refine ok_bd (t_fX9_settles (t := t) (b := b) (h := h') ⟨w15, pt.2⟩ (by omega) ⟨by omega, by omega⟩ v3 v4) (fun z25 q => ?_)
        obtain ⟨u1, u2, ⟨h2, u3, u4, u5⟩, u6, u7, u8, u9⟩ := q
        have u2a := u2.1
        have u4a := u4.1
        have x12 : (gI z25 12).toInt = (gI z21 12).toInt := congrArg Int32.toInt (u1 12 (by decide)).1
        have x16 : (gI z25 16).toInt = (gI z21 16).toInt := congrArg Int32.toInt (u1 16 (by decide)).1
        refine ok_gd (inb_of (by omega) (by omega)) ?_
        have ev : (gI z25 20 + 1).toInt = (gI z25 20).toInt + 1 := i32_add rfl (show (1 : Int32).toInt = 1 by decide) (by omega) (by omega)
        have hop := ops_push (w := 0) u4 (show opw s by rcases hs with e | e <;> (rw [e]; unfold opw; decide)) ev
        have ez : (if s = 12 ∨ s = 13 then 1 else 0) = 1 := if_pos hs
        rw [ez] at hop
        have hop2 : OPS (sI (sT z25 19 ((gI z25 20).toNatClampNeg) s) 20 (gI z25 20 + 1)) (h2 + 1) := ops_eq rfl rfl hop
        refine ih _ 1 (h2 + 1) 0 ⟨fr_I (fr_T (fr_tr v1 u1 (by decide)) (by decide)) (by decide), kp_I (kp_T (kp_tr v2 u2) (by decide)), hop2, rn_I (rn_T u5 (by decide)), show (gT z25 4 t).toInt + (gI z25 20 + 1).toInt ≤ (gI z25 12).toInt by omega, show (gI o 12).toInt ≤ (gI z25 12).toInt by omega, show (gI z25 12).toInt ≤ (gI o 1).toInt by omega, show ((h2 + 1 : Nat) : Int) + (0 : Nat) ≤ (gI z25 16).toInt by omega, show (gI z25 16).toInt ≤ 60 by omega⟩ (Or.inr ⟨by decide, rfl⟩) ?_
        show 2 * ((gI o 1).toInt - (gI z25 12).toInt).toNat + (if (1 : Int32) = 0 then 0 else 1) < n
        rw [if_neg (by decide)]; omega
      refine ok_jn ?_
      exact ok_ite (fun _ => push 13 (Or.inr rfl)) (fun _ => push 12 (Or.inl rfl))
    refine ok_jn ?_
    refine ok_jn ?_
    refine ok_ite (fun c3 => ?_) (fun c3 => ?_)
    · refine ok_bd2 (t_fX9_isWord (by omega)) (fun r32 z33 q => ?_)
      have rb33 : r32 = 0 ∨ r32 = 1 := q.1
      have f33 : FrL [12] z10 z33 := q.2.1
      have n33 : (gI z10 12).toInt ≤ (gI z33 12).toInt ∧ (gI z33 12).toInt ≤ (gI z10 1).toInt := q.2.2.1
      have l33 : r32.toInt = 1 → LTR z33 (gI z33 12) := q.2.2.2.1
      clear q
      have rb33i := bool_i rb33
      have hi33 : FI t b h' 1 o z33 := fi_fr hi10 f33 (by decide) (by omega) (by omega) (by decide) (by decide) (by decide) (by decide)
      refine ok_ite (fun c4 => ?_) (fun c4 => ?_)
      · refine ok_ite (fun _ => ?_) (fun c => absurd rfl c)
        refine ih z33 0 h' 1 hi33 (Or.inl ⟨rfl, rfl⟩) ?_
        rw [if_pos rfl]; omega
      · have c4i := bI_neq rfl (show (0 : Int32).toInt = 0 by decide) c4
        refine ok_ite (fun c => absurd c (by decide)) (fun _ => ?_)
        exact more z33 hi33 (by omega) (l33 (by omega))
    · have c3i := bI_neq rfl (show (0 : Int32).toInt = 0 by decide) c3
      refine ok_ite (fun c => absurd c (by decide)) (fun _ => ?_)
      exact more z10 hi10 (by omega) (l10 (by omega))
set_option maxHeartbeats 1000000 in
theorem t_fX9_tested {z_t : Sx} {t : Nat} (pt : (gI z_t 15).toInt = t ∧ t < 6) (p1 : 0 ≤ (gI z_t 12).toInt ∧ (gI z_t 12).toInt ≤ (gI z_t 1).toInt ∧ (gI z_t 1).toInt ≤ 400) (pL : 0 ≤ (gT z_t 4 t).toInt ∧ (gT z_t 4 t).toInt ≤ (gI z_t 12).toInt) (hm : 0 ≤ (gI z_t 16).toInt ∧ (gI z_t 16).toInt ≤ 60) : okP (fX9_tested z_t) (TSP t ((gT z_t 4 t).toNatClampNeg) z_t) := by
  unfold fX9_tested
  have hc := clampI pL.1
  have z0 : (0 : Int32).toInt = 0 := by decide
  have hops : OPS (sI (sI z_t 20 0) 17 0) 0 := by
    refine ⟨show 0 ≤ (0 : Int32).toInt by omega, ?_, rfl⟩
    intro k hk
    have hk2 : (k : Int) < (0 : Int32).toInt := hk
    omega
  have hrn : RN (sI (sI z_t 20 0) 17 0) t ((gT z_t 4 t).toNatClampNeg) 0 := by
    refine ⟨show (((gT z_t 4 t).toNatClampNeg : Nat) : Int) ≤ (gT z_t 4 t).toInt by omega, ?_⟩
    show rn (fun i => gT z_t 3 (400 * t + i)) ((gT z_t 4 t).toNatClampNeg) ((gT z_t 4 t).toNatClampNeg - (gT z_t 4 t).toNatClampNeg) = some 0
    rw [Nat.sub_self]; rfl
  refine tl_tested (o := z_t) pt p1 pL.1 (fun z h hi => ?_) FU (sI (sI z_t 20 0) 17 0) 1 0 0 ⟨fr_I (fr_I fr_rf (by decide)) (by decide), kp_I (kp_I kp_rf), hops, hrn, show (gT z_t 4 t).toInt + (0 : Int32).toInt ≤ (gI z_t 12).toInt by omega, Int.le_refl _, p1.2.1, show ((0 : Nat) : Int) + (0 : Nat) ≤ (gI z_t 16).toInt by omega, hm.2⟩ (Or.inr ⟨by decide, rfl⟩) (FU_lt (by show 2 * ((gI z_t 1).toInt - (gI z_t 12).toInt).toNat + (if (1 : Int32) = 0 then 0 else 1) < _; rw [if_neg (by decide)]; omega))
  obtain ⟨a1, a2, a3, a4, a5, a6, a7, a8, a9⟩ := id hi
  have a2a := a2.1
  have a3a := a3.1
  have e1 : (gI z 1).toInt = (gI z_t 1).toInt := congrArg Int32.toInt (a1 1 (by decide)).1
  have e15 : (gI z 15).toInt = t := (congrArg Int32.toInt (a1 15 (by decide)).1).trans pt.1
  refine ok_bd (t_fX9_isInside (by omega)) (fun r37 q37 => ?_)
  refine ok_ite (fun c1 => ?_) (fun c1 => ?_)
  · have hno : ∀ k : Nat, (k : Int) < (gI z 20).toInt → ¬ gT z 19 k = 91 := by
      rcases q37 with q | q
      · exact q.2
      · rw [q.1] at c1; exact absurd c1 (by decide)
    refine ok_bd (t_fX9_settles (t := t) (b := (gT z_t 4 t).toNatClampNeg) (h := h) ⟨e15, pt.2⟩ (by decide) ⟨by omega, by omega⟩ a3 a4) (fun z40 q => ?_)
    obtain ⟨u1, u2, ⟨h2, u3, u4, u5⟩, u6, u7, u8, u9⟩ := q
    have u2a := u2.1
    have u4a := u4.1
    have x12 : (gI z40 12).toInt = (gI z 12).toInt := congrArg Int32.toInt (u1 12 (by decide)).1
    have x16 : (gI z40 16).toInt = (gI z 16).toInt := congrArg Int32.toInt (u1 16 (by decide)).1
    have x19 : gT z40 19 = gT z 19 := (u1 19 (by decide)).2.1
    have hz : (gI z40 20).toInt = 0 := by
      rcases u9 with q | q
      · exact q
      · rcases Decidable.em ((gI z40 20).toInt = 0) with q0 | q0
        · exact q0
        · have h91 : gT z 19 ((gI z40 20).toInt - 1).toNat = 91 := str91 (by rw [← x19]; exact u4.2.1 _ (by omega)) (by have : (1 : Int32).toInt = 1 := by decide
                                                                                                                        omega)
          exact absurd h91 (hno _ (by omega))
    have h20 : h2 = 0 := by
      have h3 := u4.2.2
      have hc0 : (gI z40 20).toNatClampNeg = 0 := n_cl (by rw [hz]; rfl)
      rw [hc0] at h3
      exact h3.symm
    subst h20
    exact ok_some ⟨fr_tr a1 u1 (by decide), kp_tr a2 u2, show (gI z_t 12).toInt ≤ (gI z40 12).toInt by omega, show (gI z40 12).toInt ≤ (gI z_t 1).toInt by omega, Or.inr ⟨rfl, u5, show (gT z40 4 t).toInt ≤ (gI z40 12).toInt by omega, show 0 ≤ (gI z40 16).toInt by omega, show (gI z40 16).toInt ≤ 60 by omega⟩⟩
  · refine ok_bd2 (t_fX9_see (by omega)) (fun r42 z43 q => ?_)
    have f4 : FrL [12] z z43 := q.1
    have n4 : (gI z 12).toInt ≤ (gI z43 12).toInt ∧ (gI z43 12).toInt ≤ (gI z 1).toInt := q.2.1
    clear q
    refine ok_bd2 (t_fX9_fails (by omega)) (fun r45 z46 q => ?_)
    have q1 : r45 = 0 ∨ r45 = 1 := q.1
    have q2 : FrL [13] z43 z46 := q.2.1
    have q3 : r45.toInt = 0 := q.2.2.1
    have q4 : (gI z46 13).toInt ≠ 0 := q.2.2.2
    clear q
    have y12 : (gI z46 12).toInt = (gI z43 12).toInt := congrArg Int32.toInt (q2 12 (by decide)).1
    refine ok_gd q1 ?_
    exact ok_some ⟨fr_tr (fr_tr a1 f4 (by decide)) q2 (by decide), kp_fr (kp_fr a2 f4 (by decide)) q2 (by decide), show (gI z_t 12).toInt ≤ (gI z46 12).toInt by omega, show (gI z46 12).toInt ≤ (gI z_t 1).toInt by omega, Or.inl ⟨show r45 = 0 from Int32.toInt.inj (by rw [q3]; decide), q4⟩⟩

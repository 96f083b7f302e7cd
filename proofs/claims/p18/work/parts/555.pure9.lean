def FCP (t b h : Nat) (o : Sx) (y : Int32 × Sx) : Prop := FrL [3, 4, 12, 13, 14, 16, 17, 19, 20] o y.2 ∧ KP t o y.2 ∧ (gI o 12).toInt ≤ (gI y.2 12).toInt ∧ (gI y.2 12).toInt ≤ (gI o 1).toInt ∧ ((y.1 = 0 ∧ (gI y.2 13).toInt ≠ 0) ∨ (y.1 = 1 ∧ OPS y.2 h ∧ RN y.2 t b (h + 1) ∧ (gT y.2 4 t).toInt + (gI y.2 20).toInt ≤ (gI y.2 12).toInt ∧ (h : Int) + 1 ≤ (gI y.2 16).toInt ∧ (gI y.2 16).toInt ≤ 60))
def FI (t b h e : Nat) (o z : Sx) : Prop := FrL [3, 4, 12, 13, 14, 16, 17, 19, 20] o z ∧ KP t o z ∧ OPS z h ∧ RN z t b (h + e) ∧ (gT z 4 t).toInt + (gI z 20).toInt ≤ (gI z 12).toInt ∧ (gI o 12).toInt ≤ (gI z 12).toInt ∧ (gI z 12).toInt ≤ (gI o 1).toInt ∧ (h : Int) + e ≤ (gI z 16).toInt ∧ (gI z 16).toInt ≤ 60
/-- what a frame without code and stack keeps of FI -/
theorem fi_fr {L : List Nat} {t b h e : Nat} {o z z' : Sx} (hi : FI t b h e o z) (hf : FrL L z z') (hL : L.all (fun k => [3, 4, 12, 13, 14, 16, 17, 19, 20].contains k) = true) (h12 : (gI z 12).toInt ≤ (gI z' 12).toInt) (h1 : (gI z' 12).toInt ≤ (gI o 1).toInt) (h34 : (L.contains 3 || L.contains 4) = false) (h16 : L.contains 16 = false) (h19 : L.contains 19 = false) (h20 : L.contains 20 = false) : FI t b h e o z' := by
  obtain ⟨a1, a2, a3, a4, a5, a6, a7, a8, a9⟩ := hi
  have h4 : L.contains 4 = false := by revert h34; cases L.contains 3 <;> cases L.contains 4 <;> simp
  have e20 : (gI z' 20).toInt = (gI z 20).toInt := congrArg Int32.toInt (hf 20 h20).1
  have e16 : (gI z' 16).toInt = (gI z 16).toInt := congrArg Int32.toInt (hf 16 h16).1
  have e4 : (gT z' 4 t).toInt = (gT z 4 t).toInt := congrArg (fun f : Nat → Int32 => (f t).toInt) (hf 4 h4).2.1
  exact ⟨fr_tr a1 hf hL, kp_fr a2 hf h34, ops_fr hf a3 h19 h20, rn_fr hf h34 a4, by omega, by omega, by omega, by omega, by omega⟩
set_option maxHeartbeats 1000000 in
theorem tl_fact {t b h : Nat} {o : Sx} {k : Sx → Option (Int32 × Sx)} (p1 : 0 ≤ (gI o 12).toInt ∧ (gI o 12).toInt ≤ (gI o 1).toInt ∧ (gI o 1).toInt ≤ 400) (pL : 0 ≤ (gT o 4 t).toInt) (hk : ∀ z, FI t b h 0 o z → okP (k z) (FCP t b h o)) : ∀ (n : Nat) (z : Sx) (x1 : Int32), FI t b h 0 o z → 2 * ((gI o 1).toInt - (gI z 12).toInt).toNat + (if x1 = 0 then 0 else 1) < n → okP (lX9_fact_2 k n z x1) (FCP t b h o) := by
  intro n
  induction n with
  | zero => intro _ _ _ hm; omega
  | succ n ih =>
    intro z x1 hi hm
    rw [lX9_fact_2]
    refine ok_ite (fun c1 => hk z hi) (fun c1 => ?_)
    rw [if_neg c1] at hm
    obtain ⟨a1, a2, a3, a4, a5, a6, a7, a8, a9⟩ := id hi
    have a2a := a2.1
    have a3a := a3.1
    have e1 : (gI z 1).toInt = (gI o 1).toInt := congrArg Int32.toInt (a1 1 (by decide)).1
    refine ok_bd2 (t_fX9_see (by omega)) (fun r3 z4 q => ?_)
    have f4 : FrL [12] z z4 := q.1
    have n4 : (gI z 12).toInt ≤ (gI z4 12).toInt ∧ (gI z4 12).toInt ≤ (gI z 1).toInt := q.2.1
    have r4 : r3.toInt = -1 ∨ (0 ≤ r3.toInt ∧ (gI z4 12).toInt < (gI z 1).toInt) := q.2.2.1
    have nb4 : 0 ≤ r3.toInt → NB z4 := q.2.2.2.2
    clear q
    have b1 : (gI z4 1).toInt = (gI z 1).toInt := congrArg Int32.toInt (f4 1 (by decide)).1
    refine ok_bd2 (t_fX9_isWord (by omega)) (fun r6 z7 q => ?_)
    have rb : r6 = 0 ∨ r6 = 1 := q.1
    have f7 : FrL [12] z4 z7 := q.2.1
    have n7 : (gI z4 12).toInt ≤ (gI z7 12).toInt ∧ (gI z7 12).toInt ≤ (gI z4 1).toInt := q.2.2.1
    have l7 : r6.toInt = 1 → LTR z7 (gI z7 12) := q.2.2.2.1
    have nb7 : NB z4 → (gI z7 12).toInt = (gI z4 12).toInt := q.2.2.2.2
    clear q
    have rbi := bool_i rb
    have c1' : (gI z7 1).toInt = (gI z4 1).toInt := congrArg Int32.toInt (f7 1 (by decide)).1
    have hi4 : FI t b h 0 o z4 := fi_fr hi f4 (by decide) (by omega) (by omega) (by decide) (by decide) (by decide) (by decide)
    have hi7 : FI t b h 0 o z7 := fi_fr hi4 f7 (by decide) (by omega) (by omega) (by decide) (by decide) (by decide) (by decide)
    obtain ⟨d1, d2, d3, d4, d5, d6, d7, d8, d9⟩ := id hi7
    have d2a := d2.1
    have d3a := d3.1
    refine ok_jn ?_
    refine ok_ite (fun c2 => ?_) (fun c2 => ?_)
    · refine ok_ite (fun c3 => ?_) (fun c3 => ?_)
      · have c3i := bI_eq rfl (show (91 : Int32).toInt = 91 by decide) c3
        have hsame := nb7 (nb4 (by omega))
        refine ok_bd2 (t_fX9_opens (h := h) (by omega) d3 (by omega) (Or.inr rfl)) (fun r14 z15 q => ?_)
        rcases q with ⟨q1, q2, q3⟩ | ⟨q1, q2, q3, q4⟩
        · have q1 : r14 = 0 := q1
          rw [q1]
          refine ok_ite (fun _ => ?_) (fun c => absurd rfl c)
          have g12 : (gI z15 12).toInt = (gI z7 12).toInt := congrArg Int32.toInt (q3 12 (by decide)).1
          exact ok_some ⟨fr_tr d1 q3 (by decide), kp_fr d2 q3 (by decide), show (gI o 12).toInt ≤ (gI z15 12).toInt by omega, show (gI z15 12).toInt ≤ (gI o 1).toInt by omega, Or.inl ⟨rfl, q2⟩⟩
        · have q1 : r14 = 1 := q1
          rw [q1]
          refine ok_ite (fun c => absurd c (by decide)) (fun _ => ?_)
          have q4 : (gI z15 20).toInt = (gI z7 20).toInt + 1 := q4
          have g12 : (gI z15 12).toInt = (gI z7 12).toInt := congrArg Int32.toInt (q2 12 (by decide)).1
          have g16 : (gI z15 16).toInt = (gI z7 16).toInt := congrArg Int32.toInt (q2 16 (by decide)).1
          have g4 : (gT z15 4 t).toInt = (gT z7 4 t).toInt := congrArg (fun f : Nat → Int32 => (f t).toInt) (q2 4 (by decide)).2.1
          have en : (gI z15 12 + 1).toInt = (gI z15 12).toInt + 1 := i32_add rfl (show (1 : Int32).toInt = 1 by decide) (by omega) (by omega)
          refine ih (sI z15 12 (gI z15 12 + 1)) 1 ⟨fr_I (fr_tr d1 q2 (by decide)) (by decide), kp_I (kp_fr d2 q2 (by decide)), ops_eq (z := z15) rfl rfl q3, rn_I (rn_fr q2 (by decide) d4), show (gT z15 4 t).toInt + (gI z15 20).toInt ≤ (gI z15 12 + 1).toInt by omega, show (gI o 12).toInt ≤ (gI z15 12 + 1).toInt by omega, show (gI z15 12 + 1).toInt ≤ (gI o 1).toInt by omega, show (h : Int) + (0 : Nat) ≤ (gI z15 16).toInt by omega, show (gI z15 16).toInt ≤ 60 by omega⟩ ?_
          show 2 * ((gI o 1).toInt - (gI z15 12 + 1).toInt).toNat + (if (1 : Int32) = 0 then 0 else 1) < n
          rw [if_neg (by decide)]; omega
      · refine ih z7 0 hi7 ?_
        rw [if_pos rfl]; omega
    · have c2i := bI_neq rfl (show (0 : Int32).toInt = 0 by decide) c2
      have hl := l7 (by omega)
      have hlt := bI_nle rfl rfl hl.1
      refine ok_bd2 (t_fX9_opens (h := h) (by omega) d3 (by omega) (Or.inl rfl)) (fun r18 z19 q => ?_)
      rcases q with ⟨q1, q2, q3⟩ | ⟨q1, q2, q3, q4⟩
      · have q1 : r18 = 0 := q1
        rw [q1]
        refine ok_ite (fun _ => ?_) (fun c => absurd rfl c)
        have g12 : (gI z19 12).toInt = (gI z7 12).toInt := congrArg Int32.toInt (q3 12 (by decide)).1
        exact ok_some ⟨fr_tr d1 q3 (by decide), kp_fr d2 q3 (by decide), show (gI o 12).toInt ≤ (gI z19 12).toInt by omega, show (gI z19 12).toInt ≤ (gI o 1).toInt by omega, Or.inl ⟨rfl, q2⟩⟩
      · have q1 : r18 = 1 := q1
        rw [q1]
        refine ok_ite (fun c => absurd c (by decide)) (fun _ => ?_)
        have q4 : (gI z19 20).toInt = (gI z7 20).toInt + 1 := q4
        have g12 : (gI z19 12).toInt = (gI z7 12).toInt := congrArg Int32.toInt (q2 12 (by decide)).1
        have g1 : (gI z19 1).toInt = (gI z7 1).toInt := congrArg Int32.toInt (q2 1 (by decide)).1
        have g16 : (gI z19 16).toInt = (gI z7 16).toInt := congrArg Int32.toInt (q2 16 (by decide)).1
        have g4 : (gT z19 4 t).toInt = (gT z7 4 t).toInt := congrArg (fun f : Nat → Int32 => (f t).toInt) (q2 4 (by decide)).2.1
        refine ok_bd (t_fX9_passWord (by omega)) (fun z22 q => ?_)
        have f22 : FrL [12] z19 z22 := q.1
        have n22 : (gI z19 12).toInt ≤ (gI z22 12).toInt ∧ (gI z22 12).toInt ≤ (gI z19 1).toInt := q.2.1
        have p22 : (gI z19 12).toInt < (gI z22 12).toInt := q.2.2 (ltr_same q2 (by omega) hl)
        clear q
        have k16 : (gI z22 16).toInt = (gI z19 16).toInt := congrArg Int32.toInt (f22 16 (by decide)).1
        have k20 : (gI z22 20).toInt = (gI z19 20).toInt := congrArg Int32.toInt (f22 20 (by decide)).1
        have k4 : (gT z22 4 t).toInt = (gT z19 4 t).toInt := congrArg (fun f : Nat → Int32 => (f t).toInt) (f22 4 (by decide)).2.1
        refine ih z22 1 ⟨fr_tr (fr_tr d1 q2 (by decide)) f22 (by decide), kp_fr (kp_fr d2 q2 (by decide)) f22 (by decide), ops_fr f22 q3, rn_fr f22 (by decide) (rn_fr q2 (by decide) d4), by omega, by omega, by omega, by omega, by omega⟩ ?_
        rw [if_neg (by decide)]; omega
set_option maxHeartbeats 1000000 in
theorem t_fX9_fact {z_t : Sx} {t b h : Nat} (pt : (gI z_t 15).toInt = t ∧ t < 6) (p1 : 0 ≤ (gI z_t 12).toInt ∧ (gI z_t 12).toInt ≤ (gI z_t 1).toInt ∧ (gI z_t 1).toInt ≤ 400) (pL : 0 ≤ (gT z_t 4 t).toInt) (ho : OPS z_t h) (hr : RN z_t t b h) (hs : (gT z_t 4 t).toInt + (gI z_t 20).toInt ≤ (gI z_t 12).toInt) (hm : (h : Int) ≤ (gI z_t 16).toInt ∧ (gI z_t 16).toInt ≤ 60) : okP (fX9_fact z_t) (FCP t b h z_t) := by
  unfold fX9_fact
  refine tl_fact (b := b) (h := h) p1 pL (fun z hi => ?_) FU z_t 1 ⟨fr_rf, kp_rf, ho, hr, hs, Int.le_refl _, p1.2.1, by omega, hm.2⟩ (FU_lt (by rw [if_neg (by decide)]; omega))
  obtain ⟨a1, a2, a3, a4, a5, a6, a7, a8, a9⟩ := hi
  have a2a := a2.1
  have a3a := a3.1
  have hc := clampI a3a
  have e1 : (gI z 1).toInt = (gI z_t 1).toInt := congrArg Int32.toInt (a1 1 (by decide)).1
  have e15 : (gI z 15).toInt = t := (congrArg Int32.toInt (a1 15 (by decide)).1).trans pt.1
  refine ok_bd2 (t_fX9_compare (t := t) (b := b) (h := h) (o := (gI z 20).toNatClampNeg) (by omega) ⟨e15, pt.2⟩ (by omega) (by omega) a4) (fun r25 z26 q => ?_)
  have rb : r25 = 0 ∨ r25 = 1 := q.1
  have f : FrL [3, 4, 12, 13, 14, 16] z z26 := q.2.1
  have n2 : (gI z 12).toInt ≤ (gI z26 12).toInt ∧ (gI z26 12).toInt ≤ (gI z 1).toInt := q.2.2.1
  have kp2 : KP t z z26 := q.2.2.2.1
  have q0 : r25.toInt = 0 → (gI z26 13).toInt ≠ 0 := q.2.2.2.2.1
  have q1 : r25.toInt = 1 → (gT z26 4 t).toInt + ((gI z 20).toNatClampNeg : Int) ≤ (gI z26 12).toInt ∧ (h : Int) + 1 ≤ (gI z26 16).toInt ∧ (gI z26 16).toInt ≤ 60 := q.2.2.2.2.2.1
  have q2 : r25.toInt = 1 → RN z26 t b (h + 1) := q.2.2.2.2.2.2
  clear q
  have e20 : (gI z26 20).toInt = (gI z 20).toInt := congrArg Int32.toInt (f 20 (by decide)).1
  refine ok_gd rb ?_
  refine ok_some ⟨fr_tr a1 f (by decide), kp_tr a2 kp2, show (gI z_t 12).toInt ≤ (gI z26 12).toInt by omega, show (gI z26 12).toInt ≤ (gI z_t 1).toInt by omega, ?_⟩
  rcases rb with e | e
  · exact Or.inl ⟨e, q0 (by rw [e]; decide)⟩
  · have hone : r25.toInt = 1 := by rw [e]; decide
    obtain ⟨w1, w2, w3⟩ := q1 hone
    exact Or.inr ⟨e, ops_fr f a3, q2 hone, show (gT z26 4 t).toInt + (gI z26 20).toInt ≤ (gI z26 12).toInt by omega, w2, w3⟩

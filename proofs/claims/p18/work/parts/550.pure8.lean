theorem cntB_upd {a : Nat → Int32} {n : Nat} {x : Int32} : ∀ m : Nat, m ≤ n → cntB (upd a n x) m = cntB a m := by
  intro m
  induction m with
  | zero => intro _; rfl
  | succ m ih =>
    intro h
    show cntB (upd a n x) m + (if upd a n x m = 12 ∨ upd a n x m = 13 then 1 else 0) = cntB a m + (if a m = 12 ∨ a m = 13 then 1 else 0)
    have e : upd a n x m = a m := if_neg (by omega)
    rw [ih (by omega), e]
theorem ops_push {z : Sx} {h : Nat} {x v : Int32} {w : Int32} (ho : OPS z h) (hx : opw x) (hv : v.toInt = (gI z 20).toInt + 1) : OPS (sI (sT (sI z 17 w) 19 ((gI z 20).toNatClampNeg) x) 20 v) (h + (if x = 12 ∨ x = 13 then 1 else 0)) := by
  obtain ⟨h0, h1, h2⟩ := ho
  have hc := clampI h0
  have e20 : gI (sI (sT (sI z 17 w) 19 ((gI z 20).toNatClampNeg) x) 20 v) 20 = v := rfl
  have e19 : gT (sI (sT (sI z 17 w) 19 ((gI z 20).toNatClampNeg) x) 20 v) 19 = upd (gT z 19) ((gI z 20).toNatClampNeg) x := rfl
  unfold OPS
  rw [e20, e19]
  have ec : v.toNatClampNeg = (gI z 20).toNatClampNeg + 1 := n_cl (by rw [hv]; omega)
  refine ⟨by omega, ?_, ?_⟩
  · intro k hk
    by_cases q : k = (gI z 20).toNatClampNeg
    · have e : upd (gT z 19) ((gI z 20).toNatClampNeg) x k = x := if_pos q
      rw [e]; exact hx
    · have e : upd (gT z 19) ((gI z 20).toNatClampNeg) x k = gT z 19 k := if_neg q
      rw [e]; exact h1 k (by omega)
  · rw [ec]
    show cntB (upd (gT z 19) ((gI z 20).toNatClampNeg) x) ((gI z 20).toNatClampNeg) + (if upd (gT z 19) ((gI z 20).toNatClampNeg) x ((gI z 20).toNatClampNeg) = 12 ∨ upd (gT z 19) ((gI z 20).toNatClampNeg) x ((gI z 20).toNatClampNeg) = 13 then 1 else 0) = _
    have e : upd (gT z 19) ((gI z 20).toNatClampNeg) x ((gI z 20).toNatClampNeg) = x := if_pos rfl
    rw [cntB_upd _ (Nat.le_refl _), h2, e]
theorem t_fX9_opens {z_t : Sx} {x1 : Int32} {h : Nat} (p12 : 0 ≤ (gI z_t 12).toInt ∧ (gI z_t 12).toInt ≤ 400) (ho : OPS z_t h) (h400 : (gI z_t 20).toInt < 400) (hx : x1 = 11 ∨ x1 = 91) : okP (fX9_opens z_t x1) (fun y => (y.1 = 0 ∧ (gI y.2 13).toInt ≠ 0 ∧ FrL [13, 17, 19, 20] z_t y.2) ∨ (y.1 = 1 ∧ FrL [17, 19, 20] z_t y.2 ∧ OPS y.2 h ∧ (gI y.2 20).toInt = (gI z_t 20).toInt + 1)) := by
  unfold fX9_opens
  have h0 := ho.1
  refine ok_ite (fun c1 => ?_) (fun c1 => ?_)
  · refine ok_bd2 (t_fX9_fails (by have : (2 : Int32).toInt = 2 := by decide
                                   omega)) (fun r4 z5 q => ?_)
    have q1 : r4 = 0 ∨ r4 = 1 := q.1
    have q2 : FrL [13] z_t z5 := q.2.1
    have q3 : r4.toInt = 0 := q.2.2.1
    have q4 : (gI z5 13).toInt ≠ 0 := q.2.2.2
    refine ok_gd q1 ?_
    exact ok_some (Or.inl ⟨Int32.toInt.inj (by rw [q3]; decide), q4, fr_tr fr_rf q2 (by decide)⟩)
  · refine ok_gd (inb_of (by omega) (by omega)) ?_
    have ev : (gI z_t 20 + 1).toInt = (gI z_t 20).toInt + 1 := i32_add rfl (show (1 : Int32).toInt = 1 by decide) (by omega) (by omega)
    have hop := ops_push (w := gI z_t 17 + 1) ho (show opw x1 by rcases hx with e | e <;> (rw [e]; unfold opw; decide)) ev
    have ez : (if x1 = 12 ∨ x1 = 13 then 1 else 0) = 0 := by rcases hx with e | e <;> (rw [e]; decide)
    rw [ez] at hop
    exact ok_some (Or.inr ⟨rfl, fr_I (fr_T (fr_I fr_rf (by decide)) (by decide)) (by decide), hop, ev⟩)
def CLP (t b HH : Nat) (o y : Sx) : Prop := FrL [3, 4, 12, 17, 20] o y ∧ KP t o y ∧ (∃ h' : Nat, h' ≤ HH ∧ OPS y h' ∧ RN y t b (h' + 1)) ∧ (gT y 4 t).toInt + (gI y 20).toInt ≤ (gI y 12).toInt ∧ (gI o 12).toInt ≤ (gI y 12).toInt ∧ (gI y 12).toInt ≤ (gI o 1).toInt
theorem ops_pop {z : Sx} {h : Nat} {v w u : Int32} (ho : OPS z h) (hv : v.toInt = (gI z 20).toInt - 1) (h1 : 1 ≤ (gI z 20).toInt) (h91 : gT z 19 ((gI z 20).toInt - 1).toNat = 91) : OPS (sI (sI (sI z 20 v) 17 w) 12 u) h := by
  obtain ⟨h0, h2, h3⟩ := ho
  obtain ⟨p, hp⟩ : ∃ p : Nat, (gI z 20).toInt = p + 1 := ⟨((gI z 20).toInt - 1).toNat, by omega⟩
  have ep : ((gI z 20).toInt - 1).toNat = p := by omega
  rw [ep] at h91
  have ec : (gI z 20).toNatClampNeg = p + 1 := n_cl (by rw [hp]; omega)
  have ev : v.toNatClampNeg = p := n_cl (by rw [hv]; omega)
  have e20 : gI (sI (sI (sI z 20 v) 17 w) 12 u) 20 = v := rfl
  have e19 : gT (sI (sI (sI z 20 v) 17 w) 12 u) 19 = gT z 19 := rfl
  unfold OPS
  rw [e20, e19, ev]
  refine ⟨by omega, fun k hk => h2 k (by omega), ?_⟩
  rw [ec] at h3
  have h4 : cntB (gT z 19) p + (if gT z 19 p = 12 ∨ gT z 19 p = 13 then 1 else 0) = h := h3
  rw [h91, if_neg (by decide)] at h4
  exact h4
theorem str91 {x : Int32} (hx : opw x) (h : str x < 1) : x = 91 := by
  rcases hx with e | e | e | e
  · rw [e] at h; exact absurd h (by decide)
  · rw [e] at h; exact absurd h (by decide)
  · rw [e] at h; exact absurd h (by decide)
  · exact e
set_option maxHeartbeats 1000000 in
theorem tl_closes {t b HH : Nat} {o : Sx} (pt : (gI o 15).toInt = t ∧ t < 6) (p1 : 0 ≤ (gI o 12).toInt ∧ (gI o 12).toInt ≤ (gI o 1).toInt ∧ (gI o 1).toInt ≤ 400) (pL : 0 ≤ (gT o 4 t).toInt) : ∀ (n : Nat) (z : Sx) (h : Nat), h ≤ HH → FrL [3, 4, 12, 17, 20] o z → KP t o z → OPS z h → RN z t b (h + 1) → (gT z 4 t).toInt + (gI z 20).toInt ≤ (gI z 12).toInt → (gI o 12).toInt ≤ (gI z 12).toInt → (gI z 12).toInt ≤ (gI o 1).toInt → ((gI o 1).toInt - (gI z 12).toInt).toNat < n → okP (lX9_closes_5 n z) (CLP t b HH o) := by
  intro n
  induction n with
  | zero => intro _ _ _ _ _ _ _ _ _ _ hm; omega
  | succ n ih =>
    intro z h hH fr kp ops hr hsum h12 h1 hm
    have hkp := kp.1
    have hop := ops.1
    have e1 : (gI z 1).toInt = (gI o 1).toInt := congrArg Int32.toInt (fr 1 (by decide)).1
    have e15 : (gI z 15).toInt = t := (congrArg Int32.toInt (fr 15 (by decide)).1).trans pt.1
    rw [lX9_closes_5]
    refine ok_bd2 (t_fX9_see (by omega)) (fun r4 z5 q => ?_)
    have f5 : FrL [12] z z5 := q.1
    have n5 : (gI z 12).toInt ≤ (gI z5 12).toInt ∧ (gI z5 12).toInt ≤ (gI z 1).toInt := q.2.1
    have r5 : r4.toInt = -1 ∨ (0 ≤ r4.toInt ∧ (gI z5 12).toInt < (gI z 1).toInt) := q.2.2.1
    clear q
    have a20 : (gI z5 20).toInt = (gI z 20).toInt := congrArg Int32.toInt (f5 20 (by decide)).1
    have a15 : (gI z5 15).toInt = (gI z 15).toInt := congrArg Int32.toInt (f5 15 (by decide)).1
    have a1 : (gI z5 1).toInt = (gI z 1).toInt := congrArg Int32.toInt (f5 1 (by decide)).1
    have a4 : (gT z5 4 t).toInt = (gT z 4 t).toInt := congrArg (fun f : Nat → Int32 => (f t).toInt) (f5 4 (by decide)).2.1
    have fr5 : FrL [3, 4, 12, 17, 20] o z5 := fr_tr fr f5 (by decide)
    have kp5 : KP t o z5 := kp_fr kp f5 (by decide)
    have ops5 : OPS z5 h := ops_fr f5 ops
    have rn5 : RN z5 t b (h + 1) := rn_fr f5 (by decide) hr
    refine ok_ite (fun c1 => ?_) (fun c1 => ?_)
    · have c1i := bI_eq rfl (show (93 : Int32).toInt = 93 by decide) c1
      refine ok_bd (t_fX9_isInside (by omega)) (fun r8 q8 => ?_)
      refine ok_ite (fun c2 => ?_) (fun c2 => ?_)
      · exact ok_some ⟨fr5, kp5, ⟨h, hH, ops5, rn5⟩, by omega, by omega, by omega⟩
      · have q9 : ∃ k : Nat, (k : Int) < (gI z5 20).toInt ∧ gT z5 19 k = 91 := by
          rcases q8 with q | q
          · exact absurd q.1 c2
          · exact q.2
        obtain ⟨k9, hk9, hk91⟩ := q9
        refine ok_bd (t_fX9_settles (t := t) (b := b) (h := h) ⟨by omega, pt.2⟩ (by decide) ⟨by omega, by omega⟩ ops5 rn5) (fun z11 q11 => ?_)
        obtain ⟨g1, g2, ⟨h', g3, g4, g5⟩, g6, g7, g8, g9⟩ := q11
        have g2a := g2.1
        have g4a := g4.1
        have b19 : gT z11 19 = gT z5 19 := (g1 19 (by decide)).2.1
        have b12 : (gI z11 12).toInt = (gI z5 12).toInt := congrArg Int32.toInt (g1 12 (by decide)).1
        have b1 : (gI z11 1).toInt = (gI z5 1).toInt := congrArg Int32.toInt (g1 1 (by decide)).1
        have b15 : (gI z11 15).toInt = (gI z5 15).toInt := congrArg Int32.toInt (g1 15 (by decide)).1
        have hk11 : (k9 : Int) < (gI z11 20).toInt := by
          rcases Decidable.em ((k9 : Int) < (gI z11 20).toInt) with q | q
          · exact q
          · exact absurd hk91 (g8 k9 (by omega) hk9)
        have htop : gT z11 19 ((gI z11 20).toInt - 1).toNat = 91 := by
          rcases g9 with q | q
          · omega
          · rw [b19]
            exact str91 (by rw [← b19]; exact g4.2.1 _ (by omega)) (by have : (1 : Int32).toInt = 1 := by decide
                                                                       omega)
        have hrg := n_rng (gI z11 20)
        have ev : (gI z11 20 - 1).toInt = (gI z11 20).toInt - 1 := i32_sub rfl (show (1 : Int32).toInt = 1 by decide) (by omega) (by omega)
        have en : (gI z11 12 + 1).toInt = (gI z11 12).toInt + 1 := i32_add rfl (show (1 : Int32).toInt = 1 by decide) (by omega) (by omega)
        have ops12 := ops_pop (w := gI z11 17 - 1) (u := gI z11 12 + 1) g4 ev (by omega) htop
        refine ok_bd (t_fX9_settles (t := t) (b := b) (h := h') ⟨show (gI z11 15).toInt = t by omega, pt.2⟩ (by decide) ⟨show 0 ≤ (gT z11 4 t).toInt by omega, show (gT z11 4 t).toInt + (gI z11 20 - 1).toInt ≤ 400 by omega⟩ ops12 (rn_I (rn_I (rn_I g5)))) (fun z13 q13 => ?_)
        obtain ⟨k1, k2, ⟨h2, k3, k4, k5⟩, k6, k7, k8, k9'⟩ := q13
        have k2a := k2.1
        have k6 : (gT z13 4 t).toInt + (gI z13 20).toInt = (gT z11 4 t).toInt + (gI z11 20 - 1).toInt := k6
        have d12 : (gI z13 12).toInt = (gI z11 12 + 1).toInt := congrArg Int32.toInt (k1 12 (by decide)).1
        exact ih z13 h2 (by omega) (fr_tr (fr_I (fr_I (fr_I (fr_tr fr5 g1 (by decide)) (by decide)) (by decide)) (by decide)) k1 (by decide)) (kp_tr (kp_tr kp5 (kp_I (kp_I (kp_I g2)))) k2) k4 k5 (by omega) (by omega) (by omega) (by omega)
    · exact ok_some ⟨fr5, kp5, ⟨h, hH, ops5, rn5⟩, by omega, by omega, by omega⟩
theorem t_fX9_closes {z_t : Sx} {t b h : Nat} (pt : (gI z_t 15).toInt = t ∧ t < 6) (p1 : 0 ≤ (gI z_t 12).toInt ∧ (gI z_t 12).toInt ≤ (gI z_t 1).toInt ∧ (gI z_t 1).toInt ≤ 400) (pL : 0 ≤ (gT z_t 4 t).toInt) (ho : OPS z_t h) (hr : RN z_t t b (h + 1)) (hs : (gT z_t 4 t).toInt + (gI z_t 20).toInt ≤ (gI z_t 12).toInt) : okP (fX9_closes z_t) (CLP t b h z_t) := by
  unfold fX9_closes
  refine ok_bd (t_fX9_settles (t := t) (b := b) (h := h) pt (by decide) ⟨pL, by omega⟩ ho hr) (fun z2 q => ?_)
  obtain ⟨g1, g2, ⟨h', g3, g4, g5⟩, g6, g7, g8, g9⟩ := q
  have g2a := g2.1
  have b12 : (gI z2 12).toInt = (gI z_t 12).toInt := congrArg Int32.toInt (g1 12 (by decide)).1
  exact tl_closes pt p1 pL FU z2 h' g3 (fr_tr fr_rf g1 (by decide)) g2 g4 g5 (by omega) (by omega) (by omega) (FU_lt (by omega))

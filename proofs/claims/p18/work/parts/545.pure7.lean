/-! The reference's stack of opened signs. -/
def cntB (a : Nat → Int32) : Nat → Nat
  | 0 => 0
  | n + 1 => cntB a n + (if a n = 12 ∨ a n = 13 then 1 else 0)
def opw (x : Int32) : Prop := x = 11 ∨ x = 12 ∨ x = 13 ∨ x = 91
def str (x : Int32) : Int := if x = 13 then 1 else if x = 12 then 2 else if x = 11 then 3 else 0
theorem t_fX9_strength' {x0 : Int32} : okP (fX9_strength x0) (fun y => y.toInt = str x0) := by
  unfold fX9_strength str
  refine ok_ite (fun c => ?_) (fun c => ?_)
  · rw [if_pos c]; exact ok_some (show (1 : Int32).toInt = 1 by decide)
  · rw [if_neg c]
    refine ok_ite (fun c => ?_) (fun c => ?_)
    · rw [if_pos c]; exact ok_some (show (2 : Int32).toInt = 2 by decide)
    · rw [if_neg c]
      refine ok_ite (fun c => ?_) (fun c => ?_)
      · rw [if_pos c]; exact ok_some (show (3 : Int32).toInt = 3 by decide)
      · rw [if_neg c]; exact ok_some (show (0 : Int32).toInt = 0 by decide)
def OPS (z : Sx) (h : Nat) : Prop := 0 ≤ (gI z 20).toInt ∧ (∀ k : Nat, (k : Int) < (gI z 20).toInt → opw (gT z 19 k)) ∧ cntB (gT z 19) (gI z 20).toNatClampNeg = h
theorem ops_eq {z z' : Sx} {h : Nat} (h19 : gT z' 19 = gT z 19) (h20 : gI z' 20 = gI z 20) (ho : OPS z h) : OPS z' h := by
  unfold OPS; rw [h19, h20]; exact ho
theorem ops_fr {L : List Nat} {z z' : Sx} {h : Nat} (hf : FrL L z z') (ho : OPS z h) (h19 : L.contains 19 = false := by decide) (h20 : L.contains 20 = false := by decide) : OPS z' h := ops_eq (hf 19 h19).2.1 (hf 20 h20).1 ho
def SETP (t b HH : Nat) (o : Sx) (x1 : Int32) (y : Sx) : Prop := FrL [3, 4, 17, 20] o y ∧ KP t o y ∧ (∃ h' : Nat, h' ≤ HH ∧ OPS y h' ∧ RN y t b (h' + 1)) ∧ (gT y 4 t).toInt + (gI y 20).toInt = (gT o 4 t).toInt + (gI o 20).toInt ∧ (gI y 20).toInt ≤ (gI o 20).toInt ∧ (∀ k : Nat, (gI y 20).toInt ≤ k → (k : Int) < (gI o 20).toInt → ¬ gT o 19 k = 91) ∧ ((gI y 20).toInt = 0 ∨ str (gT o 19 ((gI y 20).toInt - 1).toNat) < x1.toInt)
set_option maxHeartbeats 1000000 in
theorem tl_settles {t b HH : Nat} {o : Sx} {x1 : Int32} (pt : (gI o 15).toInt = t ∧ t < 6) (px : 1 ≤ x1.toInt) (pL : 0 ≤ (gT o 4 t).toInt ∧ (gT o 4 t).toInt + (gI o 20).toInt ≤ 400) : ∀ (n : Nat) (z : Sx) (h : Nat), h ≤ HH → FrL [3, 4, 17, 20] o z → KP t o z → OPS z h → RN z t b (h + 1) → (gT z 4 t).toInt + (gI z 20).toInt = (gT o 4 t).toInt + (gI o 20).toInt → (gI z 20).toInt ≤ (gI o 20).toInt → (∀ k : Nat, (gI z 20).toInt ≤ k → (k : Int) < (gI o 20).toInt → ¬ gT o 19 k = 91) → (gI z 20).toInt.toNat < n → okP (lX9_settles_0 x1 n z) (SETP t b HH o x1) := by
  intro n
  induction n with
  | zero => intro _ _ _ _ _ _ _ _ _ _ hm; omega
  | succ n ih =>
    intro z h hH fr kp ops hr hsum hle h91 hm
    have hop := ops.1
    have hkp := kp.1
    have e19 : gT z 19 = gT o 19 := (fr 19 (by decide)).2.1
    rw [lX9_settles_0]
    refine ok_ite (fun c1 => ?_) (fun c1 => ?_)
    · have c1i := bI_le rfl (show (0 : Int32).toInt = 0 by decide) c1
      exact ok_some ⟨fr, kp, ⟨h, hH, ops, hr⟩, hsum, hle, h91, Or.inl (by omega)⟩
    · have c1i := bI_nle rfl (show (0 : Int32).toInt = 0 by decide) c1
      obtain ⟨pN, hpN⟩ : ∃ p : Nat, (gI z 20).toInt = p + 1 := ⟨((gI z 20).toInt - 1).toNat, by omega⟩
      have e1 : (gI z 20 - 1).toInt = pN := by rw [i32_sub rfl (show (1 : Int32).toInt = 1 by decide) (by omega) (by omega)]; omega
      have ei : (gI z 20 - 1).toNatClampNeg = pN := n_cl e1
      refine ok_gd (inb_of (by omega) (by omega)) ?_
      rw [ei]
      obtain ⟨w, hw⟩ : ∃ w, w = gT z 19 pN := ⟨_, rfl⟩
      have hw2 : gT (sI z 20 (gI z 20 - 1)) 19 pN = w := by rw [hw]; rfl
      have hopw : opw w := by rw [hw]; exact ops.2.1 pN (by omega)
      have hwo : gT o 19 pN = w := by rw [hw, e19]
      rw [hw2, ← hw]
      refine ok_bd t_fX9_strength' (fun r4 q4 => ?_)
      have q4 : r4.toInt = str w := q4
      refine ok_ite (fun c2 => ?_) (fun c2 => ?_)
      · have c2i := bI_lt rfl rfl c2
        refine ok_some ⟨fr, kp, ⟨h, hH, ops, hr⟩, hsum, hle, h91, Or.inr ?_⟩
        have e : ((gI z 20).toInt - 1).toNat = pN := by omega
        rw [e, hwo, ← q4]; exact c2i
      · have c2i := bI_nlt rfl rfl c2
        have hn91 : ¬ w = 91 := fun e => by
          rw [e] at q4
          have : str 91 = 0 := by decide
          omega
        have et : (gI (sI z 20 (gI z 20 - 1)) 15).toInt = t := by
          show (gI z 15).toInt = t
          rw [(fr 15 (by decide)).1]; exact pt.1
        refine ok_bd (t_fX9_puts (t := t) ⟨et, pt.2⟩ ⟨show 0 ≤ (gT z 4 t).toInt by omega, show (gT z 4 t).toInt < 400 by omega⟩) (fun z7 q7 => ?_)
        have f7 : FrL [3, 4] (sI z 20 (gI z 20 - 1)) z7 := q7.1
        have p7 : PUT t (sI z 20 (gI z 20 - 1)) z7 (w + (16 * 0)) := q7.2
        have p7a : (gT z7 4 t).toInt = (gT z 4 t).toInt + 1 := p7.1
        have e20 : gI z7 20 = gI z 20 - 1 := (f7 20 (by decide)).1
        have e719 : gT z7 19 = gT z 19 := (f7 19 (by decide)).2.1
        have i20 : (gI z7 20).toInt = pN := by rw [e20]; exact e1
        have c20 : (gI z7 20).toNatClampNeg = pN := n_cl i20
        have hcz : (gI z 20).toNatClampNeg = pN + 1 := n_cl (by rw [hpN]; omega)
        have hcnt : cntB (gT z 19) (pN + 1) = h := by rw [← hcz]; exact ops.2.2
        have hcnt2 : cntB (gT z 19) pN + (if gT z 19 pN = 12 ∨ gT z 19 pN = 13 then 1 else 0) = h := hcnt
        rw [← hw] at hcnt2
        have fr7 : FrL [3, 4, 17, 20] o z7 := fr_tr (fr_I fr (by decide)) f7 (by decide)
        have kp7 : KP t o z7 := kp_tr (kp_I kp) p7.2.1
        have hr1 : RN (sI z 20 (gI z 20 - 1)) t b (h + 1) := hr
        have key : OPS z7 (cntB (gT z 19) pN) ∧ RN z7 t b (cntB (gT z 19) pN + 1) := by
          refine ⟨⟨by omega, ?_, ?_⟩, ?_⟩
          · intro k hk
            rw [e719]; exact ops.2.1 k (by omega)
          · rw [e719, c20]
          · rcases hopw with e | e | e | e
            · rw [e] at hcnt2 p7
              rw [if_neg (by decide)] at hcnt2
              have eh : cntB (gT z 19) pN + 1 = h + 1 := by omega
              rw [eh]
              exact rn_put (show 0 ≤ (gT z 4 t).toInt by omega) p7 hr1 (stp_not (by omega) (by decide) (by decide) (by decide))
            · rw [e] at hcnt2 p7
              rw [if_pos (by decide)] at hcnt2
              have eh : cntB (gT z 19) pN + 1 = h + 1 - 1 := by omega
              rw [eh]
              exact rn_put (show 0 ≤ (gT z 4 t).toInt by omega) p7 hr1 (stp_bin (by omega) (by decide) (by decide) (by decide))
            · rw [e] at hcnt2 p7
              rw [if_pos (by decide)] at hcnt2
              have eh : cntB (gT z 19) pN + 1 = h + 1 - 1 := by omega
              rw [eh]
              exact rn_put (show 0 ≤ (gT z 4 t).toInt by omega) p7 hr1 (stp_bin (by omega) (by decide) (by decide) (by decide))
            · exact absurd e hn91
        have h917 : ∀ k : Nat, (gI z7 20).toInt ≤ k → (k : Int) < (gI o 20).toInt → ¬ gT o 19 k = 91 := by
          intro k hk1 hk2
          by_cases qk : k = pN
          · subst qk; rw [hwo]; exact hn91
          · exact h91 k (by omega) hk2
        refine ok_gd (inb_of (by omega) (by omega)) ?_
        refine ok_ite (fun c3 => ?_) (fun c3 => ?_)
        · exact ih (sI z7 17 (gI z7 17 - 1)) _ (by omega) (fr_I fr7 (by decide)) (kp_I kp7) (ops_eq (z := z7) rfl rfl key.1) (rn_I key.2) (show (gT z7 4 t).toInt + (gI z7 20).toInt = _ by omega) (show (gI z7 20).toInt ≤ _ by omega) h917 (show (gI z7 20).toInt.toNat < n by omega)
        · exact ih z7 _ (by omega) fr7 kp7 key.1 key.2 (by omega) (by omega) h917 (by omega)
theorem t_fX9_settles {z_t : Sx} {x1 : Int32} {t b h : Nat} (pt : (gI z_t 15).toInt = t ∧ t < 6) (px : 1 ≤ x1.toInt) (pL : 0 ≤ (gT z_t 4 t).toInt ∧ (gT z_t 4 t).toInt + (gI z_t 20).toInt ≤ 400) (ho : OPS z_t h) (hr : RN z_t t b (h + 1)) : okP (fX9_settles z_t x1) (SETP t b h z_t x1) := by
  unfold fX9_settles
  exact tl_settles pt px pL FU z_t h (Nat.le_refl h) fr_rf kp_rf ho hr rfl (Int.le_refl _) (fun k h1 h2 => by omega) (FU_lt (by have := n_rng (gI z_t 20); omega))
theorem tl_isInside {z : Sx} (p : (gI z 20).toInt ≤ 400) : ∀ (n : Nat) (x1 : Int32), 0 ≤ x1.toInt → (∀ k : Nat, (k : Int) < x1.toInt → ¬ gT z 19 k = 91) → ((gI z 20).toInt - x1.toInt).toNat < n → okP (lX9_isInside_2 z n x1) (fun y => (y = 0 ∧ ∀ k : Nat, (k : Int) < (gI z 20).toInt → ¬ gT z 19 k = 91) ∨ (y = 1 ∧ ∃ k : Nat, (k : Int) < (gI z 20).toInt ∧ gT z 19 k = 91)) := by
  intro n
  induction n with
  | zero => intro _ _ _ hm; omega
  | succ n ih =>
    intro x1 h0 hk hm
    have hc := clampI h0
    have hrg := n_rng (gI z 20)
    rw [lX9_isInside_2]
    refine ok_ite (fun c1 => ?_) (fun c1 => ?_)
    · have c1i := bI_le rfl rfl c1
      exact ok_some (Or.inl ⟨rfl, fun k h => hk k (by omega)⟩)
    · have c1i := bI_nle rfl rfl c1
      refine ok_gd (inb_of (by omega) (by omega)) ?_
      refine ok_ite (fun c2 => ?_) (fun c2 => ?_)
      · exact ok_some (Or.inr ⟨rfl, x1.toNatClampNeg, by omega, c2⟩)
      · have e3 : (x1 + 1).toInt = x1.toInt + 1 := i32_add rfl (show (1 : Int32).toInt = 1 by decide) (by omega) (by omega)
        refine ih (x1 + 1) (by omega) (fun k h => ?_) (by omega)
        by_cases q : k = x1.toNatClampNeg
        · rw [q]; exact c2
        · exact hk k (by omega)
theorem t_fX9_isInside {z_t : Sx} (p : (gI z_t 20).toInt ≤ 400) : okP (fX9_isInside z_t) (fun y => (y = 0 ∧ ∀ k : Nat, (k : Int) < (gI z_t 20).toInt → ¬ gT z_t 19 k = 91) ∨ (y = 1 ∧ ∃ k : Nat, (k : Int) < (gI z_t 20).toInt ∧ gT z_t 19 k = 91)) := by
  unfold fX9_isInside
  exact tl_isInside p FU 0 (by decide) (fun k h => by have : (0 : Int32).toInt = 0 := by decide
                                                      omega) (FU_lt (by have := n_rng (gI z_t 20); have : (0 : Int32).toInt = 0 := by decide
                                                                        omega))

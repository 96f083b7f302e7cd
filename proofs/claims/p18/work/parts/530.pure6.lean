/-! The reference's parser: letters, digits, code that grows. -/
def LTR (z : Sx) (x : Int32) : Prop := ¬ (gI z 1) ≤ x ∧ ¬ gT z 0 x.toNatClampNeg < 97 ∧ ¬ 122 < gT z 0 x.toNatClampNeg
def DGT (z : Sx) (x : Int32) : Prop := ¬ (gI z 1) ≤ x ∧ ¬ gT z 0 x.toNatClampNeg < 48 ∧ ¬ 57 < gT z 0 x.toNatClampNeg
theorem ltr_fr {L : List Nat} {z z' : Sx} {x : Int32} (hf : FrL L z z') (h0 : L.contains 0 = false) (h1 : L.contains 1 = false) (h : LTR z x) : LTR z' x := by
  unfold LTR; rw [(hf 1 h1).1, (hf 0 h0).2.1]; exact h
theorem dgt_fr {L : List Nat} {z z' : Sx} {x : Int32} (hf : FrL L z z') (h0 : L.contains 0 = false) (h1 : L.contains 1 = false) (h : DGT z x) : DGT z' x := by
  unfold DGT; rw [(hf 1 h1).1, (hf 0 h0).2.1]; exact h
theorem ltr_step {z : Sx} {n x : Int32} (h0 : 0 ≤ x.toInt) (h : x.toInt > 0 → LTR z n) (h2 : LTR z (n + x)) : LTR z n := by
  by_cases q : x.toInt > 0
  · exact h q
  · have e : x = 0 := Int32.toInt.inj (by rw [show (0 : Int32).toInt = 0 by decide]; omega)
    rw [e, Int32.add_zero] at h2; exact h2
theorem ltr_pass {L : List Nat} {o z : Sx} {r : Int32} (hf : FrL L o z) (hge : (gI o 12).toInt ≤ (gI z 12).toInt) (hr : LTR z (gI z 12) → r.toInt = 1) (hr0 : r.toInt = 0) (h0 : L.contains 0 = false := by decide) (h1 : L.contains 1 = false := by decide) : LTR o (gI o 12) → (gI o 12).toInt < (gI z 12).toInt := by
  intro h
  rcases Decidable.em ((gI o 12).toInt < (gI z 12).toInt) with q | q
  · exact q
  · have e : gI z 12 = gI o 12 := Int32.toInt.inj (by omega)
    have := hr (by rw [e]; exact ltr_fr hf h0 h1 h)
    omega
theorem dgt_pass {L : List Nat} {o z : Sx} {x r : Int32} (hf : FrL L o z) (hge : x.toInt ≤ (gI z 12).toInt) (hd : DGT o x) (hr : DGT z (gI z 12) → r.toInt = 1) (hr0 : r.toInt = 0) (h0 : L.contains 0 = false := by decide) (h1 : L.contains 1 = false := by decide) : x.toInt < (gI z 12).toInt := by
  rcases Decidable.em (x.toInt < (gI z 12).toInt) with q | q
  · exact q
  · have e : gI z 12 = x := Int32.toInt.inj (by omega)
    have := hr (by rw [e]; exact dgt_fr hf h0 h1 hd)
    omega
def NB (z : Sx) : Prop := ¬ (gI z 1) ≤ (gI z 12) ∧ ¬ gT z 0 ((gI z 12).toNatClampNeg) = 32
theorem nb_ltr {z : Sx} (h : LTR z (gI z 12)) : NB z := ⟨h.1, fun e => h.2.1 (by rw [e]; decide)⟩
theorem nb_32 {o z : Sx} {L : List Nat} (hf : FrL L o z) (h0 : L.contains 0 = false) (hi : NB o → (gI z 12).toInt = (gI o 12).toInt) (h32 : gT z 0 ((gI z 12).toNatClampNeg) = 32) : ¬ NB o := fun q => by
  have e : gI z 12 = gI o 12 := Int32.toInt.inj (hi q)
  rw [e, (hf 0 h0).2.1] at h32
  exact q.2 h32
theorem ltr_same {L : List Nat} {z z' : Sx} (hf : FrL L z z') (he : (gI z' 12).toInt = (gI z 12).toInt) (h : LTR z (gI z 12)) (h0 : L.contains 0 = false := by decide) (h1 : L.contains 1 = false := by decide) : LTR z' (gI z' 12) := by
  have e : gI z' 12 = gI z 12 := Int32.toInt.inj he
  rw [e]; exact ltr_fr hf h0 h1 h
def RN (z : Sx) (t b h : Nat) : Prop := (b : Int) ≤ (gT z 4 t).toInt ∧ rn (fun i => gT z 3 (400 * t + i)) b ((gT z 4 t).toNatClampNeg - b) = some h
theorem rn_eq {z z' : Sx} {t b h : Nat} (h3 : gT z' 3 = gT z 3) (h4 : gT z' 4 = gT z 4) (hr : RN z t b h) : RN z' t b h := by
  unfold RN; rw [h3, h4]; exact hr
theorem rn_fr {L : List Nat} {z z' : Sx} {t b h : Nat} (hf : FrL L z z') (hL : (L.contains 3 || L.contains 4) = false) (hr : RN z t b h) : RN z' t b h := by
  have h3 : L.contains 3 = false := by revert hL; cases L.contains 3 <;> simp
  have h4 : L.contains 4 = false := by revert hL; cases L.contains 3 <;> cases L.contains 4 <;> simp
  exact rn_eq (hf 3 h3).2.1 (hf 4 h4).2.1 hr
theorem rn_I {z : Sx} {t b h k : Nat} {v : Int32} (hr : RN z t b h) : RN (sI z k v) t b h := hr
theorem rn_J {z : Sx} {t b h k i : Nat} {v : Int64} (hr : RN z t b h) : RN (sJ z k i v) t b h := hr
theorem rn_T {z : Sx} {t b h k i : Nat} {v : Int32} (hr : RN z t b h) (hk : ¬ (k = 3 ∨ k = 4)) : RN (sT z k i v) t b h :=
  rn_eq (if_neg (fun e => hk (Or.inl e.symm))) (if_neg (fun e => hk (Or.inr e.symm))) hr
def KP (t : Nat) (z z' : Sx) : Prop := (gT z 4 t).toInt ≤ (gT z' 4 t).toInt ∧ ∀ i : Nat, (i : Int) < 400 * t + (gT z 4 t).toInt → gT z' 3 i = gT z 3 i
theorem kp_rf {t : Nat} {z : Sx} : KP t z z := ⟨Int.le_refl _, fun _ _ => rfl⟩
theorem kp_tr {t : Nat} {z z1 z2 : Sx} (h1 : KP t z z1) (h2 : KP t z1 z2) : KP t z z2 := ⟨Int.le_trans h1.1 h2.1, fun i hi => (h2.2 i (by have := h1.1; omega)).trans (h1.2 i hi)⟩
theorem kp_eq {t : Nat} {z z1 z2 : Sx} (h : KP t z z1) (h3 : gT z2 3 = gT z1 3) (h4 : gT z2 4 = gT z1 4) : KP t z z2 := by
  unfold KP; rw [h3, h4]; exact h
theorem kp_fr {L : List Nat} {t : Nat} {z z1 z' : Sx} (h : KP t z z1) (hf : FrL L z1 z') (hL : (L.contains 3 || L.contains 4) = false) : KP t z z' := by
  have h3 : L.contains 3 = false := by revert hL; cases L.contains 3 <;> simp
  have h4 : L.contains 4 = false := by revert hL; cases L.contains 3 <;> cases L.contains 4 <;> simp
  exact kp_eq h (hf 3 h3).2.1 (hf 4 h4).2.1
theorem kp_I {t k : Nat} {z z1 : Sx} {v : Int32} (h : KP t z z1) : KP t z (sI z1 k v) := h
theorem kp_J {t k i : Nat} {z z1 : Sx} {v : Int64} (h : KP t z z1) : KP t z (sJ z1 k i v) := h
theorem kp_T {t k i : Nat} {z z1 : Sx} {v : Int32} (h : KP t z z1) (hk : ¬ (k = 3 ∨ k = 4)) : KP t z (sT z1 k i v) :=
  kp_eq h (if_neg (fun e => hk (Or.inl e.symm))) (if_neg (fun e => hk (Or.inr e.symm)))
theorem rn_congr {c c' : Nat → Int32} {b : Nat} : ∀ n : Nat, (∀ i, i < b + n → c' i = c i) → rn c' b n = rn c b n := by
  intro n
  induction n with
  | zero => intro _; rfl
  | succ n ih =>
    intro h
    show bd (rn c' b n) (stp (c' (b + n))) = bd (rn c b n) (stp (c (b + n)))
    rw [ih (fun i hi => h i (by omega)), h (b + n) (by omega)]
/-- a word comes behind the code of text t -/
def PUT (t : Nat) (z z' : Sx) (w : Int32) : Prop := (gT z' 4 t).toInt = (gT z 4 t).toInt + 1 ∧ KP t z z' ∧ gT z' 3 (400 * t + (gT z 4 t).toNatClampNeg) = w
theorem rn_put {t b h h' : Nat} {z z' : Sx} {w : Int32} (hL : 0 ≤ (gT z 4 t).toInt) (hp : PUT t z z' w) (hr : RN z t b h) (hs : stp w h = some h') : RN z' t b h' := by
  obtain ⟨h1, h2, h3⟩ := hp
  have hc := clampI hL
  have hc' := clampI (x := gT z' 4 t) (by omega)
  have hb := hr.1
  refine ⟨by omega, ?_⟩
  have e : (gT z' 4 t).toNatClampNeg - b = ((gT z 4 t).toNatClampNeg - b) + 1 := by omega
  rw [e]
  show bd (rn (fun i => gT z' 3 (400 * t + i)) b ((gT z 4 t).toNatClampNeg - b)) (stp (gT z' 3 (400 * t + (b + ((gT z 4 t).toNatClampNeg - b))))) = some h'
  have e2 : b + ((gT z 4 t).toNatClampNeg - b) = (gT z 4 t).toNatClampNeg := by omega
  rw [e2, h3, rn_congr (c := fun i => gT z 3 (400 * t + i)) _ (fun i hi => h2.2 (400 * t + i) (by omega)), hr.2]
  exact hs
theorem stp_num {v : Int32} {h : Nat} (hh : h < 60) : stp (0 + 16 * v) h = some (h + 1) := by
  have e : (0 + 16 * v) &&& 15 = 0 := by
    rw [Int32.zero_add]
    apply Int32.toBitVec_inj.1
    apply BitVec.eq_of_toNat_eq
    rw [Int32.toBitVec_and, BitVec.toNat_and, Int32.toBitVec_mul, BitVec.toNat_mul]
    show 16 * v.toBitVec.toNat % 2 ^ 32 &&& (2 ^ 4 - 1) = 0
    rw [Nat.and_two_pow_sub_one_eq_mod]
    omega
  unfold stp
  rw [if_pos e, if_pos hh]
theorem stp_word {v : Int32} {h : Nat} (hh : h < 60) (h0 : 0 ≤ v.toInt) (h8 : v.toInt ≤ 8) : stp (1 + 16 * v) h = some (h + 1) := by
  obtain ⟨k, hk, rfl⟩ := i32_cases (n := 9) (by decide) h0 (by omega)
  have : ∀ k : Fin 9, ¬ (1 + 16 * nI k.val) &&& 15 = 0 ∧ (1 + 16 * nI k.val) &&& 15 = 1 ∧ inb ((1 + 16 * nI k.val) >>> (4 &&& 31)) 9 := by decide
  obtain ⟨a, b, c⟩ := this ⟨k, hk⟩
  unfold stp
  rw [if_neg a, if_pos b, if_pos ⟨c, hh⟩]
theorem stp_bin {w : Int32} {h : Nat} (hh : 2 ≤ h) (c0 : ¬ w &&& 15 = 0) (c1 : ¬ w &&& 15 = 1) (c2 : ¬ w &&& 15 = 11) : stp w h = some (h - 1) := by
  unfold stp
  rw [if_neg c0, if_neg c1, if_neg c2, if_pos hh]
theorem stp_not {w : Int32} {h : Nat} (hh : 1 ≤ h) (c0 : ¬ w &&& 15 = 0) (c1 : ¬ w &&& 15 = 1) (c2 : w &&& 15 = 11) : stp w h = some h := by
  unfold stp
  rw [if_neg c0, if_neg c1, if_pos c2, if_pos hh]
theorem t_fX9_puts {z_t : Sx} {x1 x2 : Int32} {t : Nat} (pt : (gI z_t 15).toInt = t ∧ t < 6) (pL : 0 ≤ (gT z_t 4 t).toInt ∧ (gT z_t 4 t).toInt < 400) : okP (fX9_puts z_t x1 x2) (fun y => FrL [3, 4] z_t y ∧ PUT t z_t y (x1 + (16 * x2))) := by
  unfold fX9_puts
  have et : (gI z_t 15).toNatClampNeg = t := n_cl pt.1
  refine ok_gd (inb_of (by omega) (by omega)) ?_
  rw [et]
  have hc := clampI pL.1
  have e1 : (400 * gI z_t 15).toInt = 400 * (t : Int) := by rw [i32_mul (show (400 : Int32).toInt = 400 by decide) pt.1 (by omega) (by omega)]
  have e2 : (400 * gI z_t 15 + gT z_t 4 t).toInt = 400 * (t : Int) + (gT z_t 4 t).toInt := i32_add e1 rfl (by omega) (by omega)
  have ei : (400 * gI z_t 15 + gT z_t 4 t).toNatClampNeg = 400 * t + (gT z_t 4 t).toNatClampNeg := n_cl (by rw [e2]; omega)
  refine ok_gd (inb_of (by omega) (by omega)) ?_
  rw [ei]
  refine ok_nm2 (fun v ev => ?_)
  have ev2 : v = gT z_t 4 t + 1 := ev
  have ev3 : v.toInt = (gT z_t 4 t).toInt + 1 := by rw [ev2]; exact i32_add rfl (show (1 : Int32).toInt = 1 by decide) (by omega) (by omega)
  refine ok_some ⟨fr_T (fr_T fr_rf (by decide)) (by decide), ?_, ⟨?_, ?_⟩, ?_⟩
  · have e : gT (sT (sT z_t 3 (400 * t + (gT z_t 4 t).toNatClampNeg) (x1 + 16 * x2)) 4 t v) 4 t = v := if_pos rfl
    rw [e, ev3]
  · have e : gT (sT (sT z_t 3 (400 * t + (gT z_t 4 t).toNatClampNeg) (x1 + 16 * x2)) 4 t v) 4 t = v := if_pos rfl
    rw [e, ev3]; omega
  · intro i hi
    have e : gT (sT (sT z_t 3 (400 * t + (gT z_t 4 t).toNatClampNeg) (x1 + 16 * x2)) 4 t v) 3 i = gT z_t 3 i := if_neg (by omega)
    rw [e]
  · have e : gT (sT (sT z_t 3 (400 * t + (gT z_t 4 t).toNatClampNeg) (x1 + 16 * x2)) 4 t v) 3 (400 * t + (gT z_t 4 t).toNatClampNeg) = x1 + 16 * x2 := if_pos rfl
    rw [e]

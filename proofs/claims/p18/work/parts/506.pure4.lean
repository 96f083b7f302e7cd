/-! RULES of the reference: their code keeps a stack of at most 60. -/
def stp (w : Int32) (h : Nat) : Option Nat :=
  if w &&& 15 = 0 then (if h < 60 then some (h + 1) else none)
  else if w &&& 15 = 1 then (if inb (w >>> (4 &&& 31)) 9 ∧ h < 60 then some (h + 1) else none)
  else if w &&& 15 = 11 then (if 1 ≤ h then some h else none)
  else (if 2 ≤ h then some (h - 1) else none)
def rn (c : Nat → Int32) (b : Nat) : Nat → Option Nat
  | 0 => some 0
  | n + 1 => bd (rn c b n) (stp (c (b + n)))
theorem rn_mono {c : Nat → Int32} {b n : Nat} : ∀ (m h : Nat), rn c b (n + m) = some h → ∃ h', rn c b n = some h' := by
  intro m
  induction m with
  | zero => intro h e; exact ⟨h, e⟩
  | succ m ih =>
    intro h e
    obtain ⟨h1, e1, -⟩ := bd_some (show bd (rn c b (n + m)) (stp (c (b + (n + m)))) = some h from e)
    exact ih h1 e1
def SEG (g : Nat → Int32) (t b e : Nat) : Prop := b ≤ e ∧ e ≤ 400 ∧ rn (fun i => g (400 * t + i)) b (e - b) = some 1
def SGI (g : Nat → Int32) (t : Nat) (x y : Int32) : Prop := 0 ≤ x.toInt ∧ 0 ≤ y.toInt ∧ SEG g t x.toNatClampNeg y.toNatClampNeg
def CLK (g cl : Nat → Int32) (t a : Nat) : Prop :=
  (cl a = 0 → SGI g t (cl (a + 1)) (cl (a + 2)) ∧ ((cl (a + 3)).toInt < 0 ∨ SGI g t (cl (a + 3)) (cl (a + 4)))) ∧ (cl a = 1 → SGI g t (cl (a + 3)) (cl (a + 4)))
def RK (z : Sx) (t : Nat) : Prop := t < 6 ∧ 0 ≤ (gT z 6 t).toInt ∧ (gT z 6 t).toInt ≤ 12 ∧ ∀ c : Nat, (c : Int) < (gT z 6 t).toInt → CLK (gT z 3) (gT z 5) t (60 * t + 5 * c)
theorem rk_eq {z z' : Sx} {t : Nat} (h3 : gT z' 3 = gT z 3) (h5 : gT z' 5 = gT z 5) (h6 : gT z' 6 = gT z 6) (h : RK z t) : RK z' t := by
  unfold RK; rw [h3, h5, h6]; exact h
theorem rk_fr {L : List Nat} {z z' : Sx} {t : Nat} (hf : FrL L z z') (hL : (L.contains 3 || L.contains 5 || L.contains 6) = false) (h : RK z t) : RK z' t := by
  have h3 : L.contains 3 = false := by revert hL; cases L.contains 3 <;> simp
  have h5 : L.contains 5 = false := by revert hL; cases L.contains 3 <;> cases L.contains 5 <;> simp
  have h6 : L.contains 6 = false := by revert hL; cases L.contains 3 <;> cases L.contains 5 <;> cases L.contains 6 <;> simp
  exact rk_eq (hf 3 h3).2.1 (hf 5 h5).2.1 (hf 6 h6).2.1 h
theorem rk_I {z : Sx} {t k : Nat} {v : Int32} (h : RK z t) : RK (sI z k v) t := h
theorem rk_J {z : Sx} {t k i : Nat} {v : Int64} (h : RK z t) : RK (sJ z k i v) t := h
theorem rk_T {z : Sx} {t k i : Nat} {v : Int32} (h : RK z t) (hk : ¬ (k = 3 ∨ k = 5 ∨ k = 6)) : RK (sT z k i v) t :=
  rk_eq (if_neg (fun e => hk (Or.inl e.symm))) (if_neg (fun e => hk (Or.inr (Or.inl e.symm)))) (if_neg (fun e => hk (Or.inr (Or.inr e.symm)))) h
def RU (z : Sx) : Prop := 0 ≤ (gI z 2).toInt ∧ (gI z 2).toInt ≤ 6 ∧ ∀ t : Nat, (t : Int) < (gI z 2).toInt → RK z t
theorem rn_next {g : Nat → Int32} {t b e k h : Nat} (hs : SEG g t b e) (hb : b ≤ k) (hk : k < e) (hr : rn (fun i => g (400 * t + i)) b (k - b) = some h) : ∃ h', stp (g (400 * t + k)) h = some h' ∧ rn (fun i => g (400 * t + i)) b (k + 1 - b) = some h' := by
  have e1 : e - b = (k - b + 1) + (e - k - 1) := by have := hs.1; omega
  have h1 := hs.2.2
  rw [e1] at h1
  obtain ⟨h', e2⟩ := rn_mono _ _ h1
  obtain ⟨h2, e3, e4⟩ := bd_some (show bd (rn (fun i => g (400 * t + i)) b (k - b)) (stp ((fun i => g (400 * t + i)) (b + (k - b)))) = some h' from e2)
  rw [hr] at e3
  cases e3
  have e5 : b + (k - b) = k := by omega
  rw [e5] at e4
  have e6 : k + 1 - b = k - b + 1 := by omega
  rw [e6]
  exact ⟨h', e4, e2⟩
theorem stp0 {w : Int32} {h h' : Nat} (c : w &&& 15 = 0) (hs : stp w h = some h') : h < 60 ∧ h' = h + 1 := by
  unfold stp at hs
  rw [if_pos c] at hs
  by_cases q : h < 60
  · rw [if_pos q] at hs; cases hs; exact ⟨q, rfl⟩
  · rw [if_neg q] at hs; cases hs
theorem stp1 {w : Int32} {h h' : Nat} (c0 : ¬ w &&& 15 = 0) (c : w &&& 15 = 1) (hs : stp w h = some h') : inb (w >>> (4 &&& 31)) 9 ∧ h < 60 ∧ h' = h + 1 := by
  unfold stp at hs
  rw [if_neg c0, if_pos c] at hs
  by_cases q : inb (w >>> (4 &&& 31)) 9 ∧ h < 60
  · rw [if_pos q] at hs; cases hs; exact ⟨q.1, q.2, rfl⟩
  · rw [if_neg q] at hs; cases hs
theorem stpN {w : Int32} {h h' : Nat} (c0 : ¬ w &&& 15 = 0) (c1 : ¬ w &&& 15 = 1) (c : w &&& 15 = 11) (hs : stp w h = some h') : 1 ≤ h ∧ h' = h := by
  unfold stp at hs
  rw [if_neg c0, if_neg c1, if_pos c] at hs
  by_cases q : 1 ≤ h
  · rw [if_pos q] at hs; cases hs; exact ⟨q, rfl⟩
  · rw [if_neg q] at hs; cases hs
theorem stpB {w : Int32} {h h' : Nat} (c0 : ¬ w &&& 15 = 0) (c1 : ¬ w &&& 15 = 1) (c : ¬ w &&& 15 = 11) (hs : stp w h = some h') : 2 ≤ h ∧ h' + 1 = h := by
  unfold stp at hs
  rw [if_neg c0, if_neg c1, if_neg c] at hs
  by_cases q : 2 ≤ h
  · rw [if_pos q] at hs; cases hs; exact ⟨q, by omega⟩
  · rw [if_neg q] at hs; cases hs
theorem rn_le {c : Nat → Int32} {b : Nat} : ∀ (n h : Nat), rn c b n = some h → h ≤ 60 := by
  intro n
  induction n with
  | zero => intro h e; cases e; decide
  | succ n ih =>
    intro h e
    obtain ⟨h1, e1, e2⟩ := bd_some (show bd (rn c b n) (stp (c (b + n))) = some h from e)
    have := ih h1 e1
    by_cases c0 : c (b + n) &&& 15 = 0
    · have := stp0 c0 e2; omega
    · by_cases c1 : c (b + n) &&& 15 = 1
      · have := stp1 c0 c1 e2; omega
      · by_cases c2 : c (b + n) &&& 15 = 11
        · have := stpN c0 c1 c2 e2; omega
        · have := stpB c0 c1 c2 e2; omega

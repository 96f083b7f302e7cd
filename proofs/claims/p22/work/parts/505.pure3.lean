/-! What holds of the reference's state. -/
def SOK (s : Nat → Int32) : Prop :=
  (0 ≤ (s 0).toInt ∧ (s 0).toInt ≤ 10) ∧ (0 ≤ (s 1).toInt ∧ (s 1).toInt ≤ 6) ∧ (0 ≤ (s 8).toInt ∧ (s 8).toInt ≤ 8) ∧
  (∀ f : Nat, (f : Int) < (s 0).toInt → 0 ≤ (s (44 + 6 * f)).toInt ∧ (s (44 + 6 * f)).toInt ≤ 5 ∧ -1 ≤ (s (47 + 6 * f)).toInt ∧ (s (47 + 6 * f)).toInt ≤ 9) ∧
  (∀ k : Nat, (k : Int) < (s 8).toInt → 0 ≤ (s (10 + k)).toInt ∧ (s (10 + k)).toInt < (s 0).toInt) ∧
  (∀ k : Nat, k < 8 → -99 ≤ (s (18 + k)).toInt ∧ (s (18 + k)).toInt ≤ 99)
def freeix (i : Nat) : Prop := (2 ≤ i ∧ i ≤ 7) ∨ i = 9 ∨ (26 ≤ i ∧ i < 44) ∨ (44 ≤ i ∧ (i - 44) % 6 ≠ 0 ∧ (i - 44) % 6 ≠ 3)
theorem sok_upd {s : Nat → Int32} {i : Nat} {v : Int32} (h : SOK s) (hi : freeix i) : SOK (upd s i v) := by
  unfold freeix at hi
  have e : ∀ j, j ≠ i → upd s i v j = s j := fun j hj => if_neg hj
  obtain ⟨h0, h1, h8, hf, hr, hg⟩ := h
  unfold SOK
  rw [e 0 (by omega), e 1 (by omega), e 8 (by omega)]
  refine ⟨h0, h1, h8, ?_, ?_, ?_⟩
  · intro f hf0
    rw [e (44 + 6 * f) (by omega), e (47 + 6 * f) (by omega)]
    exact hf f hf0
  · intro k hk
    rw [e (10 + k) (by omega)]
    exact hr k hk
  · intro k hk
    rw [e (18 + k) (by omega)]
    exact hg k hk
theorem so_I {z : Sx} {k : Nat} {v : Int32} (h : SOK (gT z 24)) : SOK (gT (sI z k v) 24) := h
theorem so_J {z : Sx} {k i : Nat} {v : Int64} (h : SOK (gT z 24)) : SOK (gT (sJ z k i v) 24) := h
theorem so_Tn {z : Sx} {k i : Nat} {v : Int32} (h : SOK (gT z 24)) (hk : ¬ 24 = k) : SOK (gT (sT z k i v) 24) := by
  have e : gT (sT z k i v) 24 = gT z 24 := if_neg hk
  rw [e]; exact h
theorem so_T {z : Sx} {i : Nat} {v : Int32} (h : SOK (gT z 24)) (hi : freeix i) : SOK (gT (sT z 24 i v) 24) := sok_upd h hi
theorem so_fr {L : List Nat} {z z' : Sx} (hf : FrL L z z') (hL : L.contains 24 = false) (h : SOK (gT z 24)) : SOK (gT z' 24) := by
  rw [(hf 24 hL).2.1]; exact h
theorem ix6 {x : Int32} {c : Nat} (hc : c < 1000) (h0 : 0 ≤ x.toInt) (h1 : x.toInt ≤ 10) : ((44 + 6 * x) + nI c).toNatClampNeg = 44 + 6 * x.toNatClampNeg + c := by
  have e1 : (6 * x).toInt = 6 * x.toInt := i32_mul (show (6 : Int32).toInt = 6 by decide) rfl (by omega) (by omega)
  have e2 : (44 + 6 * x).toInt = 44 + 6 * x.toInt := i32_add (show (44 : Int32).toInt = 44 by decide) e1 (by omega) (by omega)
  have e3 : ((44 + 6 * x) + nI c).toInt = 44 + 6 * x.toInt + c := i32_add e2 (nI_toInt (by omega)) (by omega) (by omega)
  have := clampI h0
  exact n_cl (by rw [e3]; omega)
theorem so_kd {s : Nat → Int32} {x : Int32} (h : SOK s) (h0 : 0 ≤ x.toInt) (h1 : x.toInt < (s 0).toInt) : 0 ≤ (s (((44 + (6 * x)) + 0).toNatClampNeg)).toInt ∧ (s (((44 + (6 * x)) + 0).toNatClampNeg)).toInt ≤ 5 := by
  have := h.1
  have e : ((44 + (6 * x)) + 0).toNatClampNeg = 44 + 6 * x.toNatClampNeg + 0 := ix6 (c := 0) (by decide) h0 (by omega)
  rw [e]
  have := clampI h0
  have hh := h.2.2.2.1 x.toNatClampNeg (by omega)
  exact ⟨hh.1, hh.2.1⟩
theorem so_un {s : Nat → Int32} {x : Int32} (h : SOK s) (h0 : 0 ≤ x.toInt) (h1 : x.toInt < (s 0).toInt) : -1 ≤ (s (((44 + (6 * x)) + 3).toNatClampNeg)).toInt ∧ (s (((44 + (6 * x)) + 3).toNatClampNeg)).toInt ≤ 9 := by
  have := h.1
  have e : ((44 + (6 * x)) + 3).toNatClampNeg = 44 + 6 * x.toNatClampNeg + 3 := ix6 (c := 3) (by decide) h0 (by omega)
  rw [e]
  have := clampI h0
  have hh := h.2.2.2.1 x.toNatClampNeg (by omega)
  have e2 : 44 + 6 * x.toNatClampNeg + 3 = 47 + 6 * x.toNatClampNeg := by omega
  rw [e2]
  exact ⟨hh.2.2.1, hh.2.2.2⟩
theorem so_row {s : Nat → Int32} {x : Int32} (h : SOK s) (h0 : 0 ≤ x.toInt) (h1 : x.toInt < (s 8).toInt) : 0 ≤ (s ((10 + x).toNatClampNeg)).toInt ∧ (s ((10 + x).toNatClampNeg)).toInt < (s 0).toInt := by
  have := h.2.2.1
  have e1 : (10 + x).toInt = 10 + x.toInt := i32_add (show (10 : Int32).toInt = 10 by decide) rfl (by omega) (by omega)
  have := clampI h0
  have e : (10 + x).toNatClampNeg = 10 + x.toNatClampNeg := n_cl (by rw [e1]; omega)
  rw [e]
  exact h.2.2.2.2.1 x.toNatClampNeg (by omega)
theorem so_game {s : Nat → Int32} (h : SOK s) (k : Nat) (hk : k < 8) : -99 ≤ (s (18 + k)).toInt ∧ (s (18 + k)).toInt ≤ 99 := h.2.2.2.2.2 k hk
/-- the numbers of FAULTS and of the ROW stay -/
def KC (z z' : Sx) : Prop := (gT z' 24 0).toInt = (gT z 24 0).toInt ∧ (gT z' 24 8).toInt = (gT z 24 8).toInt
theorem kc_rf {z : Sx} : KC z z := ⟨rfl, rfl⟩
theorem kc_I {z z' : Sx} {k : Nat} {v : Int32} (h : KC z z') : KC z (sI z' k v) := h
theorem kc_J {z z' : Sx} {k i : Nat} {v : Int64} (h : KC z z') : KC z (sJ z' k i v) := h
theorem kc_Tn {z z' : Sx} {k i : Nat} {v : Int32} (h : KC z z') (hk : ¬ 24 = k) : KC z (sT z' k i v) := by
  have e : gT (sT z' k i v) 24 = gT z' 24 := if_neg hk
  unfold KC; rw [e]; exact h
theorem kc_T {z z' : Sx} {i : Nat} {v : Int32} (h : KC z z') (h0 : ¬ 0 = i) (h8 : ¬ 8 = i) : KC z (sT z' 24 i v) := by
  have e0 : gT (sT z' 24 i v) 24 0 = gT z' 24 0 := if_neg h0
  have e8 : gT (sT z' 24 i v) 24 8 = gT z' 24 8 := if_neg h8
  unfold KC; rw [e0, e8]; exact h
theorem kc_fr {L : List Nat} {z z1 z' : Sx} (h : KC z z1) (hf : FrL L z1 z') (hL : L.contains 24 = false) : KC z z' := by
  unfold KC; rw [(hf 24 hL).2.1]; exact h
theorem kc_tr {z z1 z2 : Sx} (h : KC z z1) (h2 : KC z1 z2) : KC z z2 := ⟨h2.1.trans h.1, h2.2.trans h.2⟩
def E104 (f g : Nat → Int32) : Prop := ∀ i, i < 104 → f i = g i
theorem sok_eq {f g : Nat → Int32} (h : E104 f g) (hs : SOK g) : SOK f := by
  obtain ⟨h0, h1, h8, hf, hr, hg⟩ := hs
  unfold SOK
  rw [h 0 (by decide), h 1 (by decide), h 8 (by decide)]
  refine ⟨h0, h1, h8, ?_, ?_, ?_⟩
  · intro f hf0
    rw [h (44 + 6 * f) (by omega), h (47 + 6 * f) (by omega)]
    exact hf f hf0
  · intro k hk
    rw [h (10 + k) (by omega)]
    exact hr k hk
  · intro k hk
    rw [h (18 + k) (by omega)]
    exact hg k hk
theorem bits_lt {x : Int32} (h : ¬ x = 0) : (x &&& (x - 1)).toUInt32.toNat < x.toUInt32.toNat := by
  have hx : x.toBitVec ≠ 0#32 := fun e => h (Int32.toBitVec_inj.1 e)
  have hpos : 0 < x.toBitVec.toNat := by
    rcases Nat.eq_zero_or_pos x.toBitVec.toNat with h0 | h0
    · exact absurd (BitVec.eq_of_toNat_eq h0) hx
    · exact h0
  have e1 : (x &&& (x - 1)).toUInt32.toNat = x.toBitVec.toNat &&& (x.toBitVec - 1#32).toNat := rfl
  have e2 : x.toUInt32.toNat = x.toBitVec.toNat := rfl
  rw [e1, e2]
  have hl : x.toBitVec.toNat &&& (x.toBitVec - 1#32).toNat ≤ (x.toBitVec - 1#32).toNat := Nat.and_le_right
  have hs : (x.toBitVec - 1#32).toNat = x.toBitVec.toNat - 1 := BitVec.toNat_sub_of_le (by rw [BitVec.le_def]; exact hpos)
  omega
theorem keep_step {z : Sx} {f : Nat → Int32} {x : Int32} (e : gT z 24 = f) (h0 : 0 ≤ x.toInt) (h1 : (x + 1).toInt = x.toInt + 1) (ih : ∀ i : Nat, (i : Int) < x.toInt → gT z 25 i = f i) : ∀ i : Nat, (i : Int) < (x + 1).toInt → gT (sT z 25 x.toNatClampNeg (gT z 24 x.toNatClampNeg)) 25 i = f i := by
  intro i hi
  have hc := clampI h0
  by_cases q : i = x.toNatClampNeg
  · subst q
    rw [← e]; exact if_pos rfl
  · have e2 : gT (sT z 25 x.toNatClampNeg (gT z 24 x.toNatClampNeg)) 25 i = gT z 25 i := if_neg q
    rw [e2]; exact ih i (by omega)
theorem back_step {z : Sx} {f : Nat → Int32} {x : Int32} (e : gT z 25 = f) (h0 : 0 ≤ x.toInt) (h1 : (x + 1).toInt = x.toInt + 1) (ih : ∀ i : Nat, (i : Int) < x.toInt → gT z 24 i = f i) : ∀ i : Nat, (i : Int) < (x + 1).toInt → gT (sT z 24 x.toNatClampNeg (gT z 25 x.toNatClampNeg)) 24 i = f i := by
  intro i hi
  have hc := clampI h0
  by_cases q : i = x.toNatClampNeg
  · subst q
    rw [← e]; exact if_pos rfl
  · have e2 : gT (sT z 24 x.toNatClampNeg (gT z 25 x.toNatClampNeg)) 24 i = gT z 24 i := if_neg q
    rw [e2]; exact ih i (by omega)

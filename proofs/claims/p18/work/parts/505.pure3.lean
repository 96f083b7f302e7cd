/-! What holds of the reference's state. -/
def SOK (s : Nat → Int32) : Prop :=
  (0 ≤ (s 0).toInt ∧ (s 0).toInt ≤ 10) ∧ (0 ≤ (s 1).toInt ∧ (s 1).toInt ≤ 6) ∧ (0 ≤ (s 8).toInt ∧ (s 8).toInt ≤ 8) ∧
  (∀ f : Nat, (f : Int) < (s 0).toInt → 0 ≤ (s (44 + 6 * f)).toInt ∧ (s (44 + 6 * f)).toInt ≤ 5 ∧ -1 ≤ (s (47 + 6 * f)).toInt ∧ (s (47 + 6 * f)).toInt ≤ 9) ∧
  (∀ k : Nat, (k : Int) < (s 8).toInt → 0 ≤ (s (10 + k)).toInt ∧ (s (10 + k)).toInt < (s 0).toInt) ∧
  (∀ k : Nat, k < 8 → -99 ≤ (s (18 + k)).toInt ∧ (s (18 + k)).toInt ≤ 99)
def freeix (i : Nat) : Prop := (2 ≤ i ∧ i ≤ 7) ∨ i = 9 ∨ (26 ≤ i ∧ i < 44) ∨ (44 ≤ i ∧ (i - 44) % 6 ≠ 0 ∧ (i - 44) % 6 ≠ 3)
theorem sok_upd {s : Nat → Int32} {i : Nat} {v : Int32} (h : SOK s) (hi : freeix i) : SOK (upd s i v) := by
  unfold freeix at hi
  have e : ∀ j, j ≠ i → upd s i v j = s j := fun j hj => if_neg hj
  obtain ⟨h0, h1, h8, hf, hr, hg⟩ := h
  unfold SOK
  rw [e 0 (by omega), e 1 (by omega), e 8 (by omega)]
  refine ⟨h0, h1, h8, ?_, ?_, ?_⟩
  · intro f hf0
    rw [e (44 + 6 * f) (by omega), e (47 + 6 * f) (by omega)]
    exact hf f hf0
  · intro k hk
    rw [e (10 + k) (by omega)]
    exact hr k hk
  · intro k hk
    rw [e (18 + k) (by omega)]
    exact hg k hk
theorem so_I {z : Sx} {k : Nat} {v : Int32} (h : SOK (gT z 24)) : SOK (gT (sI z k v) 24) := h
theorem so_J {z : Sx} {k i : Nat} {v : Int64} (h : SOK (gT z 24)) : SOK (gT (sJ z k i v) 24) := h
theorem so_Tn {z : Sx} {k i : Nat} {v : Int32} (h : SOK (gT z 24)) (hk : ¬ 24 = k) : SOK (gT (sT z k i v) 24) := by
  have e : gT (sT z k i v) 24 = gT z 24 := if_neg hk
  rw [e]; exact h
theorem so_T {z : Sx} {i : Nat} {v : Int32} (h : SOK (gT z 24)) (hi : freeix i) : SOK (gT (sT z 24 i v) 24) := sok_upd h hi
theorem so_fr {L : List Nat} {z z' : Sx} (hf : FrL L z z') (hL : L.contains 24 = false) (h : SOK (gT z 24)) : SOK (gT z' 24) := by
  rw [(hf 24 hL).2.1]; exact h
theorem ix6 {x : Int32} {c : Nat} (hc : c < 1000) (h0 : 0 ≤ x.toInt) (h1 : x.toInt ≤ 10) : ((44 + 6 * x) + nI c).toNatClampNeg = 44 + 6 * x.toNatClampNeg + c := by
  have e1 : (6 * x).toInt = 6 * x.toInt := i32_mul (show (6 : Int32).toInt = 6 by decide) rfl (by omega) (by omega)
  have e2 : (44 + 6 * x).toInt = 44 + 6 * x.toInt := i32_add (show (44 : Int32).toInt = 44 by decide) e1 (by omega) (by omega)
  have e3 : ((44 + 6 * x) + nI c).toInt = 44 + 6 * x.toInt + c := i32_add e2 (nI_toInt (by omega)) (by omega) (by omega)
  have := clampI h0
  exact n_cl (by rw [e3]; omega)
theorem so_kd {s : Nat → Int32} {x : Int32} (h : SOK s) (h0 : 0 ≤ x.toInt) (h1 : x.toInt < (s 0).toInt) : 0 ≤ (s (((44 + (6 * x)) + 0).toNatClampNeg)).toInt ∧ (s (((44 + (6 * x)) + 0).toNatClampNeg)).toInt ≤ 5 := by
  have := h.1
  have e : ((44 + (6 * x)) + 0).toNatClampNeg = 44 + 6 * x.toNatClampNeg + 0 := ix6 (c := 0) (by decide) h0 (by omega)
  rw [e]
  have := clampI h0
  have hh := h.2.2.2.1 x.toNatClampNeg (by omega)
  exact ⟨hh.1, hh.2.1⟩
theorem so_un {s : Nat → Int32} {x : Int32} (h : SOK s) (h0 : 0 ≤ x.toInt) (h1 : x.toInt < (s 0).toInt) : -1 ≤ (s (((44 + (6 * x)) + 3).toNatClampNeg)).toInt ∧ (s (((44 + (6 * x)) + 3).toNatClampNeg)).toInt ≤ 9 := by
  have := h.1
  have e : ((44 + (6 * x)) + 3).toNatClampNeg = 44 + 6 * x.toNatClampNeg + 3 := ix6 (c := 3) (by decide) h0 (by omega)
  rw [e]
  have := clampI h0
  have hh := h.2.2.2.1 x.toNatClampNeg (by omega)
  have e2 : 44 + 6 * x.toNatClampNeg + 3 = 47 + 6 * x.toNatClampNeg := by omega
  rw [e2]
  exact ⟨hh.2.2.1, hh.2.2.2⟩
theorem so_row {s : Nat → Int32} {x : Int32} (h : SOK s) (h0 : 0 ≤ x.toInt) (h1 : x.toInt < (s 8).toInt) : 0 ≤ (s ((10 + x).toNatClampNeg)).toInt ∧ (s ((10 + x).toNatClampNeg)).toInt < (s 0).toInt := by
  have := h.2.2.1
  have e1 : (10 + x).toInt = 10 + x.toInt := i32_add (show (10 : Int32).toInt = 10 by decide) rfl (by omega) (by omega)
  have := clampI h0
  have e : (10 + x).toNatClampNeg = 10 + x.toNatClampNeg := n_cl (by rw [e1]; omega)
  rw [e]
  exact h.2.2.2.2.1 x.toNatClampNeg (by omega)
theorem so_game {s : Nat → Int32} (h : SOK s) (k : Nat) (hk : k < 8) : -99 ≤ (s (18 + k)).toInt ∧ (s (18 + k)).toInt ≤ 99 := h.2.2.2.2.2 k hk
/-- the numbers of FAULTS and of the ROW stay -/
def KC (z z' : Sx) : Prop := (gT z' 24 0).toInt = (gT z 24 0).toInt ∧ (gT z' 24 8).toInt = (gT z 24 8).toInt
theorem kc_rf {z : Sx} : KC z z := ⟨rfl, rfl⟩
theorem kc_I {z z' : Sx} {k : Nat} {v : Int32} (h : KC z z') : KC z (sI z' k v) := h
theorem kc_J {z z' : Sx} {k i : Nat} {v : Int64} (h : KC z z') : KC z (sJ z' k i v) := h
theorem kc_Tn {z z' : Sx} {k i : Nat} {v : Int32} (h : KC z z') (hk : ¬ 24 = k) : KC z (sT z' k i v) := by
  have e : gT (sT z' k i v) 24 = gT z' 24 := if_neg hk
  unfold KC; rw [e]; exact h
theorem kc_T {z z' : Sx} {i : Nat} {v : Int32} (h : KC z z') (h0 : ¬ 0 = i) (h8 : ¬ 8 = i) : KC z (sT z' 24 i v) := by
  have e0 : gT (sT z' 24 i v) 24 0 = gT z' 24 0 := if_neg h0
  have e8 : gT (sT z' 24 i v) 24 8 = gT z' 24 8 := if_neg h8
  unfold KC; rw [e0, e8]; exact h
theorem kc_fr {L : List Nat} {z z1 z' : Sx} (h : KC z z1) (hf : FrL L z1 z') (hL : L.contains 24 = false) : KC z z' := by
  unfold KC; rw [(hf 24 hL).2.1]; exact h
theorem kc_tr {z z1 z2 : Sx} (h : KC z z1) (h2 : KC z1 z2) : KC z z2 := ⟨h2.1.trans h.1, h2.2.trans h.2⟩
def E104 (f g : Nat → Int32) : Prop := ∀ i, i < 104 → f i = g i
theorem sok_eq {f g : Nat → Int32} (h : E104 f g) (hs : SOK g) : SOK f := by
  obtain ⟨h0, h1, h8, hf, hr, hg⟩ := hs
  unfold SOK
  rw [h 0 (by decide), h 1 (by decide), h 8 (by decide)]
  refine ⟨h0, h1, h8, ?_, ?_, ?_⟩
  · intro f hf0
    rw [h (44 + 6 * f) (by omega), h (47 + 6 * f) (by omega)]
    exact hf f hf0
  · intro k hk
    rw [h (10 + k) (by omega)]
    exact hr k hk
  · intro k hk
    rw [h (18 + k) (by omega)]
    exact hg k hk
theorem bits_lt {x : Int32} (h : ¬ x = 0) : (x &&& (x - 1)).toUInt32.toNat < x.toUInt32.toNat := by
  have hx : x.toBitVec ≠ 0#32 := fun e => h (Int32.toBitVec_inj.1 e)
  have hpos : 0 < x.toBitVec.toNat := by
    rcases Nat.eq_zero_or_pos x.toBitVec.toNat with h0 | h0
    · exact absurd (BitVec.eq_of_toNat_eq h0) hx
    · exact h0
  have e1 : (x &&& (x - 1)).toUInt32.toNat = x.toBitVec.toNat &&& (x.toBitVec - 1#32).toNat := rfl
  have e2 : x.toUInt32.toNat = x.toBitVec.toNat := rfl
  rw [e1, e2]
  have hl : x.toBitVec.toNat &&& (x.toBitVec - 1#32).toNat ≤ (x.toBitVec - 1#32).toNat := Nat.and_le_right
  have hs : (x.toBitVec - 1#32).toNat = x.toBitVec.toNat - 1 := BitVec.toNat_sub_of_le (by rw [BitVec.le_def]; exact hpos)
  omega
theorem keep_step {z : Sx} {f : Nat → Int32} {x : Int32} (e : gT z 24 = f) (h0 : 0 ≤ x.toInt) (h1 : (x + 1).toInt = x.toInt + 1) (ih : ∀ i : Nat, (i : Int) < x.toInt → gT z 25 i = f i) : ∀ i : Nat, (i : Int) < (x + 1).toInt → gT (sT z 25 x.toNatClampNeg (gT z 24 x.toNatClampNeg)) 25 i = f i := by
  intro i hi
  have hc := clampI h0
  by_cases q : i = x.toNatClampNeg
  · subst q
    rw [← e]; exact if_pos rfl
  · have e2 : gT (sT z 25 x.toNatClampNeg (gT z 24 x.toNatClampNeg)) 25 i = gT z 25 i := if_neg q
    rw [e2]; exact ih i (by omega)
theorem back_step {z : Sx} {f : Nat → Int32} {x : Int32} (e : gT z 25 = f) (h0 : 0 ≤ x.toInt) (h1 : (x + 1).toInt = x.toInt + 1) (ih : ∀ i : Nat, (i : Int) < x.toInt → gT z 24 i = f i) : ∀ i : Nat, (i : Int) < (x + 1).toInt → gT (sT z 24 x.toNatClampNeg (gT z 25 x.toNatClampNeg)) 24 i = f i := by
  intro i hi
  have hc := clampI h0
  by_cases q : i = x.toNatClampNeg
  · subst q
    rw [← e]; exact if_pos rfl
  · have e2 : gT (sT z 24 x.toNatClampNeg (gT z 25 x.toNatClampNeg)) 24 i = gT z 24 i := if_neg q
    rw [e2]; exact ih i (by omega)
theorem so_row0 {z : Sx} {v : Int32} (h : SOK (gT z 24)) (hv : v.toInt = 0 := by decide) : SOK (gT (sT z 24 8 v) 24) := by
  obtain ⟨h0, h1, h8, hf, hr, hg⟩ := h
  have e : ∀ j, j ≠ 8 → gT (sT z 24 8 v) 24 j = gT z 24 j := fun j hj => if_neg hj
  have e8 : gT (sT z 24 8 v) 24 8 = v := rfl
  unfold SOK
  rw [e 0 (by decide), e 1 (by decide), e8, hv]
  refine ⟨h0, h1, ⟨by decide, by decide⟩, ?_, ?_, ?_⟩
  · intro f hf0
    rw [e (44 + 6 * f) (by omega), e (47 + 6 * f) (by omega)]
    exact hf f hf0
  · intro k hk; omega
  · intro k hk
    rw [e (18 + k) (by omega)]
    exact hg k hk
theorem so_rowp {z : Sx} {x : Int32} (h : SOK (gT z 24)) (h8 : (gT z 24 8).toInt < 8) (hx0 : 0 ≤ x.toInt) (hx1 : x.toInt < (gT z 24 0).toInt) : SOK (gT (sT (sT z 24 ((10 + gT z 24 8).toNatClampNeg) x) 24 8 ((gT (sT z 24 ((10 + gT z 24 8).toNatClampNeg) x) 24 8) + 1)) 24) := by
  obtain ⟨h0, h1, hr8, hf, hr, hg⟩ := h
  have ei1 : (10 + gT z 24 8).toInt = 10 + (gT z 24 8).toInt := i32_add (show (10 : Int32).toInt = 10 by decide) rfl (by omega) (by omega)
  have hc := clampI hr8.1
  obtain ⟨k8, ek8⟩ : ∃ k : Nat, (gT z 24 8).toNatClampNeg = k := ⟨_, rfl⟩
  rw [ek8] at hc
  have ei : (10 + gT z 24 8).toNatClampNeg = 10 + k8 := n_cl (by rw [ei1]; omega)
  rw [ei]
  have e8 : gT (sT z 24 (10 + k8) x) 24 8 = gT z 24 8 := if_neg (by omega)
  rw [e8]
  have ev : (gT z 24 8 + 1).toInt = (gT z 24 8).toInt + 1 := i32_add rfl (show (1 : Int32).toInt = 1 by decide) (by omega) (by omega)
  have f8 : gT (sT (sT z 24 (10 + k8) x) 24 8 (gT z 24 8 + 1)) 24 8 = gT z 24 8 + 1 := rfl
  have fk : gT (sT (sT z 24 (10 + k8) x) 24 8 (gT z 24 8 + 1)) 24 (10 + k8) = x := (if_neg (by omega)).trans (if_pos rfl)
  have e : ∀ j, j ≠ 8 → j ≠ 10 + k8 → gT (sT (sT z 24 (10 + k8) x) 24 8 (gT z 24 8 + 1)) 24 j = gT z 24 j := fun j hj hk => (if_neg hj).trans (if_neg hk)
  unfold SOK
  rw [e 0 (by omega) (by omega), e 1 (by omega) (by omega), f8, ev]
  refine ⟨h0, h1, ⟨by omega, by omega⟩, ?_, ?_, ?_⟩
  · intro f hf0
    rw [e (44 + 6 * f) (by omega) (by omega), e (47 + 6 * f) (by omega) (by omega)]
    exact hf f hf0
  · intro k hk
    by_cases q : k = k8
    · subst q; rw [fk]; exact ⟨hx0, hx1⟩
    · rw [e (10 + k) (by omega) (by omega)]
      exact hr k (by omega)
  · intro k hk
    rw [e (18 + k) (by omega) (by omega)]
    exact hg k hk
theorem rem64 (x y : Int64) (hy : y.toInt ≠ 0) : (x - x / y * y).toInt = x.toInt.tmod y.toInt := by
  have hl := Int64.toInt_lt y
  have hg := Int64.le_toInt y
  have h1 : (x - x / y * y).toInt = (x.toInt - x.toInt.tdiv y.toInt * y.toInt).bmod (2 ^ 64) := by
    rw [Int64.toInt_sub, Int64.toInt_mul, Int64.toInt_div, Int.bmod_mul_bmod, Int.sub_bmod_bmod]
  have h2 : x.toInt - x.toInt.tdiv y.toInt * y.toInt = x.toInt.tmod y.toInt := by rw [Int.tmod_def, Int.mul_comm]
  have h3 := Int.natAbs_tmod x.toInt y.toInt
  have h4 : x.toInt.natAbs % y.toInt.natAbs < y.toInt.natAbs := Nat.mod_lt _ (by omega)
  rw [h1, h2]
  refine Int.bmod_eq_of_le ?_ ?_
  · simp at hg ⊢; omega
  · simp at hl ⊢; omega
theorem rem_lt {x y : Int64} (hy : ¬ y = 0) : (x - x / y * y).toInt.natAbs < y.toInt.natAbs := by
  have h0 : y.toInt ≠ 0 := fun e => hy (Int64.toInt.inj (by rw [e]; decide))
  rw [rem64 x y h0, Int.natAbs_tmod]
  exact Nat.mod_lt _ (by omega)
theorem so_gm {s : Nat → Int32} {x v : Int32} (h : SOK s) (hx0 : 0 ≤ x.toInt) (hx1 : x.toInt ≤ 7) (hv0 : -99 ≤ v.toInt) (hv1 : v.toInt ≤ 99) : SOK (upd s ((18 + x).toNatClampNeg) v) := by
  have e1 : (18 + x).toInt = 18 + x.toInt := i32_add (show (18 : Int32).toInt = 18 by decide) rfl (by omega) (by omega)
  have hc := clampI hx0
  have ei : (18 + x).toNatClampNeg = 18 + x.toNatClampNeg := n_cl (by rw [e1]; omega)
  rw [ei]
  obtain ⟨h0, h1, h8, hf, hr, hg⟩ := h
  have e : ∀ j, j ≠ 18 + x.toNatClampNeg → upd s (18 + x.toNatClampNeg) v j = s j := fun j hj => if_neg hj
  unfold SOK
  rw [e 0 (by omega), e 1 (by omega), e 8 (by omega)]
  refine ⟨h0, h1, h8, ?_, ?_, ?_⟩
  · intro f hf0
    rw [e (44 + 6 * f) (by omega), e (47 + 6 * f) (by omega)]
    exact hf f hf0
  · intro k hk
    rw [e (10 + k) (by omega)]
    exact hr k hk
  · intro k hk
    by_cases q : k = x.toNatClampNeg
    · subst q
      have : upd s (18 + x.toNatClampNeg) v (18 + x.toNatClampNeg) = v := if_pos rfl
      rw [this]; exact ⟨hv0, hv1⟩
    · rw [e (18 + k) (by omega)]
      exact hg k hk
def IMG (z : Sx) : Prop := ∀ k : Nat, k < 4 → ¬ gT z 35 k = 0 → SOK (fun i => gT z 34 (104 * k + i))
theorem neg64 {x : Int64} (h : x.toInt ≠ 0) : (-x).toInt ≠ 0 := fun e => by
  have e1 : -x = 0 := Int64.toInt.inj (by rw [e]; decide)
  have e2 : x = 0 := by rw [← Int64.neg_neg (a := x), e1]; decide
  exact h (by rw [e2]; decide)
theorem natAbs64 (x : Int64) : x.toInt.natAbs < 18446744073709551616 := by
  have h1 := Int64.toInt_lt x
  have h2 := Int64.le_toInt x
  simp at h1 h2
  omega
theorem ck_lt {x1 x2 x3 : Int32} (p : 0 ≤ x1.toInt ∧ x1.toInt ≤ 9999 ∧ 0 ≤ x2.toInt ∧ x2.toInt ≤ 9999) (h : 0 ≤ x3.toInt ∧ x3.toInt ≤ 100) (hc : ¬ x1 * (100 - x3) ≤ x2 * x3) : x3.toInt ≤ 99 := by
  rcases Decidable.em (x3.toInt < 100) with q | q
  · omega
  · exfalso
    have e3 : x3.toInt = 100 := by omega
    have e1 : (100 - x3).toInt = 0 := by rw [i32_sub (show (100 : Int32).toInt = 100 by decide) e3 (by decide) (by decide)]; decide
    have e2 : (x1 * (100 - x3)).toInt = x1.toInt * 0 := i32_mul rfl e1 (by omega) (by omega)
    have e4 : (x2 * x3).toInt = x2.toInt * 100 := i32_mul rfl e3 (by omega) (by omega)
    exact hc ((i32_le _ _).mpr (by rw [e2, e4]; omega))

theorem h100k : ∀ k : Fin 8, (100 : Int) ^ k.val * 100 = 100 ^ (k.val + 1) ∧ (100 : Int) ^ k.val * 100 < 9223372036854775808 ∧ 0 ≤ (100 : Int) ^ k.val := by decide
theorem h100 {x2 : Int64} {x4 : Int32} (h : ∃ k : Nat, k ≤ 8 ∧ x4.toInt = k ∧ x2.toInt = (100 : Int) ^ k) (h8 : x4.toInt < 8) : ∃ k : Nat, k ≤ 8 ∧ (x4 + 1).toInt = k ∧ (x2 * 100).toInt = (100 : Int) ^ k := by
  obtain ⟨k, h1, h2, h3⟩ := h
  have hk : (100 : Int) ^ k * 100 = 100 ^ (k + 1) ∧ (100 : Int) ^ k * 100 < 9223372036854775808 ∧ 0 ≤ (100 : Int) ^ k := h100k ⟨k, by omega⟩
  obtain ⟨a, b, c⟩ := hk
  refine ⟨k + 1, by omega, ?_, ?_⟩
  · rw [i32_add h2 (show (1 : Int32).toInt = 1 by decide) (by omega) (by omega)]; omega
  · rw [i64_mul h3 (show (100 : Int64).toInt = 100 by decide) (by omega) (by omega)]; exact a
theorem h100c : ∀ k : Fin 9, 1 ≤ (100 : Int) ^ k.val ∧ (100 : Int) ^ k.val ≤ 10000000000000000 := by decide
theorem h100b {x2 : Int64} {x4 : Int32} (h : ∃ k : Nat, k ≤ 8 ∧ x4.toInt = k ∧ x2.toInt = (100 : Int) ^ k) : 1 ≤ x2.toInt ∧ x2.toInt ≤ 10000000000000000 := by
  obtain ⟨k, h1, h2, h3⟩ := h
  rw [h3]; exact h100c ⟨k, by omega⟩

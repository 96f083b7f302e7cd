/-! Pure side: frames of states, numbers of Int64, joins. -/
def FrL (L : List Nat) (z z' : Sx) : Prop := ∀ j, L.contains j = false → gI z' j = gI z j ∧ gT z' j = gT z j ∧ gJ z' j = gJ z j
theorem fr_rf {L : List Nat} {z : Sx} : FrL L z z := fun _ _ => ⟨rfl, rfl, rfl⟩
theorem ne_of_c {L : List Nat} {j k : Nat} (hj : L.contains j = false) (hk : L.contains k = true) : ¬ j = k := fun e => by rw [e, hk] at hj; cases hj
theorem fr_I {L : List Nat} {z z' : Sx} {k : Nat} {v : Int32} (h : FrL L z z') (hk : L.contains k = true) : FrL L z (sI z' k v) := fun j hj => by
  obtain ⟨h1, h2, h3⟩ := h j hj
  exact ⟨(if_neg (ne_of_c hj hk)).trans h1, h2, h3⟩
theorem fr_Tf {L : List Nat} {z z' : Sx} {k : Nat} {f : Nat → Int32} (h : FrL L z z') (hk : L.contains k = true) : FrL L z (sTf z' k f) := fun j hj => by
  obtain ⟨h1, h2, h3⟩ := h j hj
  exact ⟨h1, (if_neg (ne_of_c hj hk)).trans h2, h3⟩
theorem fr_Jf {L : List Nat} {z z' : Sx} {k : Nat} {f : Nat → Int64} (h : FrL L z z') (hk : L.contains k = true) : FrL L z (sJf z' k f) := fun j hj => by
  obtain ⟨h1, h2, h3⟩ := h j hj
  exact ⟨h1, h2, (if_neg (ne_of_c hj hk)).trans h3⟩
theorem fr_T {L : List Nat} {z z' : Sx} {k i : Nat} {v : Int32} (h : FrL L z z') (hk : L.contains k = true) : FrL L z (sT z' k i v) := fr_Tf h hk
theorem fr_J {L : List Nat} {z z' : Sx} {k i : Nat} {v : Int64} (h : FrL L z z') (hk : L.contains k = true) : FrL L z (sJ z' k i v) := fr_Jf h hk
theorem fr_tr {L L2 : List Nat} {z z1 z2 : Sx} (h1 : FrL L z z1) (h2 : FrL L2 z1 z2) (hs : L2.all (fun k => L.contains k) = true) : FrL L z z2 := fun j hj => by
  have hj2 : L2.contains j = false := by
    cases h : L2.contains j with
    | false => rfl
    | true =>
      have hm : j ∈ L2 := by simpa using h
      have := List.all_eq_true.mp hs j hm
      rw [this] at hj; cases hj
  obtain ⟨a1, a2, a3⟩ := h1 j hj
  obtain ⟨b1, b2, b3⟩ := h2 j hj2
  exact ⟨b1.trans a1, b2.trans a2, b3.trans a3⟩
theorem ok_jn2 {κ α : Type} {K : κ} {b : κ → Option α} {P : α → Prop} {Q : κ → Prop} (hK : Q K) (h : ∀ J, Q J → okP (b J) P) : okP (jn K b) P := h K hK
theorem ok_nm2 {κ α : Type} {v : κ} {b : κ → Option α} {P : α → Prop} (h : ∀ x, x = v → okP (b x) P) : okP (nm v b) P := h v rfl
section NUMQ
variable {x y : Int64} {a b : Int}
theorem lI_eq (ha : x.toInt = a) (hb : y.toInt = b) (h : x = y) : a = b := by rw [← ha, ← hb, h]
theorem lI_neq (ha : x.toInt = a) (hb : y.toInt = b) (h : ¬ x = y) : a ≠ b := fun e => h (Int64.toInt.inj (by rw [ha, hb, e]))
theorem lI_lt (ha : x.toInt = a) (hb : y.toInt = b) (h : x < y) : a < b := by rw [← ha, ← hb]; exact (i64_lt x y).mp h
theorem lI_nlt (ha : x.toInt = a) (hb : y.toInt = b) (h : ¬ x < y) : a ≥ b := by rw [← ha, ← hb]; exact Int.not_lt.mp (fun q => h ((i64_lt x y).mpr q))
theorem lI_le (ha : x.toInt = a) (hb : y.toInt = b) (h : x ≤ y) : a ≤ b := by rw [← ha, ← hb]; exact (i64_le x y).mp h
theorem lI_nle (ha : x.toInt = a) (hb : y.toInt = b) (h : ¬ x ≤ y) : a > b := by rw [← ha, ← hb]; exact Int.not_le.mp (fun q => h ((i64_le x y).mpr q))
theorem i64_add (ha : x.toInt = a) (hb : y.toInt = b) (h0 : -9223372036854775808 ≤ a + b) (h1 : a + b < 9223372036854775808) : (x + y).toInt = a + b := by
  rw [Int64.toInt_add, ha, hb]; exact Int.bmod_eq_of_le (by simpa using h0) (by simpa using h1)
theorem i64_sub (ha : x.toInt = a) (hb : y.toInt = b) (h0 : -9223372036854775808 ≤ a - b) (h1 : a - b < 9223372036854775808) : (x - y).toInt = a - b := by
  rw [Int64.toInt_sub, ha, hb]; exact Int.bmod_eq_of_le (by simpa using h0) (by simpa using h1)
theorem i64_mul (ha : x.toInt = a) (hb : y.toInt = b) (h0 : -9223372036854775808 ≤ a * b) (h1 : a * b < 9223372036854775808) : (x * y).toInt = a * b := by
  rw [Int64.toInt_mul, ha, hb]; exact Int.bmod_eq_of_le (by simpa using h0) (by simpa using h1)
theorem l64_of {x : Int32} (ha : x.toInt = a) : x.toInt64.toInt = a := by rw [Int32.toInt_toInt64]; exact ha
end NUMQ
section NUMP
variable {x y : Int32} {a b : Int}
theorem i32_sub (ha : x.toInt = a) (hb : y.toInt = b) (h0 : -2147483648 ≤ a - b) (h1 : a - b < 2147483648) : (x - y).toInt = a - b := by
  rw [Int32.toInt_sub, ha, hb]; exact Int.bmod_eq_of_le (by simpa using h0) (by simpa using h1)
theorem i32_mul (ha : x.toInt = a) (hb : y.toInt = b) (h0 : -2147483648 ≤ a * b) (h1 : a * b < 2147483648) : (x * y).toInt = a * b := by
  rw [Int32.toInt_mul, ha, hb]; exact Int.bmod_eq_of_le (by simpa using h0) (by simpa using h1)
theorem i32_neg (ha : x.toInt = a) (h0 : -2147483648 < a) : (-x).toInt = -a := by
  have h1 := Int32.toInt_lt x
  rw [Int32.toInt_neg, ha]; exact Int.bmod_eq_of_le (by rw [ha] at h1; simp; omega) (by simp; omega)
theorem mxI_toInt (ha : x.toInt = a) (hb : y.toInt = b) : (mxI x y).toInt = max a b := by
  unfold mxI
  by_cases h : x < y
  · rw [if_pos h, hb]; have := bI_lt ha hb h; omega
  · rw [if_neg h, ha]; have := bI_nlt ha hb h; omega
theorem mnI_toInt (ha : x.toInt = a) (hb : y.toInt = b) : (mnI x y).toInt = min a b := by
  unfold mnI
  by_cases h : y < x
  · rw [if_pos h, hb]; have := bI_lt hb ha h; omega
  · rw [if_neg h, ha]; have := bI_nlt hb ha h; omega
end NUMP
theorem toInt_bv (x : Int32) : x.toInt = x.toBitVec.toInt := rfl
theorem bv_nn {b : BitVec 32} (h : 0 ≤ b.toInt) : b.toInt = b.toNat ∧ b.toNat < 2147483648 := by
  have := BitVec.toInt_eq_toNat_cond b
  have hlt := b.isLt
  by_cases h2 : 2 * b.toNat < 2 ^ 32
  · rw [if_pos h2] at this; exact ⟨this, by omega⟩
  · rw [if_neg h2] at this; omega
theorem bv_small {b : BitVec 32} (h : b.toNat < 2147483648) : b.toInt = b.toNat := by
  rw [BitVec.toInt_eq_toNat_cond, if_pos (by omega)]
theorem and_rng (y : Int32) {m : Int32} (hm : 0 ≤ m.toInt) : 0 ≤ (y &&& m).toInt ∧ (y &&& m).toInt ≤ m.toInt := by
  rw [toInt_bv] at hm
  obtain ⟨h1, h2⟩ := bv_nn hm
  have e : (y &&& m).toBitVec.toNat = y.toBitVec.toNat &&& m.toBitVec.toNat := by rw [Int32.toBitVec_and, BitVec.toNat_and]
  have hle : y.toBitVec.toNat &&& m.toBitVec.toNat ≤ m.toBitVec.toNat := Nat.and_le_right
  have hs := bv_small (b := (y &&& m).toBitVec) (by omega)
  rw [toInt_bv, toInt_bv m, hs, h1, e]
  omega
theorem or_rng {a b : Int32} {n : Nat} (hn : n ≤ 30) (ha0 : 0 ≤ a.toInt) (ha1 : a.toInt < 2 ^ n) (hb0 : 0 ≤ b.toInt) (hb1 : b.toInt < 2 ^ n) : 0 ≤ (a ||| b).toInt ∧ (a ||| b).toInt < 2 ^ n := by
  rw [toInt_bv] at ha0 ha1 hb0 hb1
  obtain ⟨h1, h2⟩ := bv_nn ha0
  obtain ⟨h3, h4⟩ := bv_nn hb0
  have e : (a ||| b).toBitVec.toNat = a.toBitVec.toNat ||| b.toBitVec.toNat := by rw [Int32.toBitVec_or, BitVec.toNat_or]
  rw [h1] at ha1
  rw [h3] at hb1
  have ha2 : a.toBitVec.toNat < 2 ^ n := by exact_mod_cast ha1
  have hb2 : b.toBitVec.toNat < 2 ^ n := by exact_mod_cast hb1
  have hle : a.toBitVec.toNat ||| b.toBitVec.toNat < 2 ^ n := Nat.or_lt_two_pow ha2 hb2
  have hp : 2 ^ n ≤ 2 ^ 30 := Nat.pow_le_pow_right (by decide) hn
  have hs := bv_small (b := (a ||| b).toBitVec) (by omega)
  rw [toInt_bv, hs, e]
  refine ⟨by omega, ?_⟩
  exact_mod_cast hle
theorem inb_and {x y : Int32} (h : x = y &&& 2047) : inb x 2048 := by
  have h1 := and_rng y (m := 2047) (by decide)
  have e : (2047 : Int32).toInt = 2047 := by decide
  rw [← h] at h1
  exact inb_of (by omega) (by omega)
theorem i32_cases {x : Int32} {n : Nat} (hn : n < 2147483648) (h0 : 0 ≤ x.toInt) (h1 : x.toInt < n) : ∃ k : Nat, k < n ∧ x = nI k := by
  refine ⟨x.toInt.toNat, by omega, ?_⟩
  exact Int32.toInt.inj (by rw [nI_toInt (by omega)]; omega)
theorem shl_rng {x : Int32} (h0 : 0 ≤ x.toInt) (h1 : x.toInt ≤ 10) : 1 ≤ ((1 : Int32) <<< (x &&& 31)).toInt ∧ ((1 : Int32) <<< (x &&& 31)).toInt ≤ 1024 ∧ (x.toInt < 10 → ((1 : Int32) <<< (x &&& 31)).toInt < 1024) := by
  obtain ⟨k, hk, rfl⟩ := i32_cases (n := 11) (by decide) h0 (by omega)
  rw [nI_toInt (by omega)]
  have : ∀ k : Fin 11, 1 ≤ ((1 : Int32) <<< (nI k.val &&& 31)).toInt ∧ ((1 : Int32) <<< (nI k.val &&& 31)).toInt ≤ 1024 ∧ ((k.val : Int) < 10 → ((1 : Int32) <<< (nI k.val &&& 31)).toInt < 1024) := by decide
  exact this ⟨k, hk⟩
theorem bool_i {x : Int32} (h : x = 0 ∨ x = 1) : x.toInt = 0 ∨ x.toInt = 1 := by
  rcases h with h | h
  · rw [h]; exact Or.inl (by decide)
  · rw [h]; exact Or.inr (by decide)

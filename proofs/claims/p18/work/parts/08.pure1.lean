/-! Pure side: answers and what holds of them; numbers of Int32 as Int. -/
def okP {α : Type} (x : Option α) (P : α → Prop) : Prop := ∃ y, x = some y ∧ P y
section OK
variable {α β γ δ κ : Type}
theorem ok_some {P : α → Prop} {y : α} (h : P y) : okP (some y) P := ⟨y, rfl, h⟩
theorem ok_gd {c : Prop} [Decidable c] {x : Option α} {P : α → Prop} (hc : c) (h : okP x P) : okP (gd c x) P := by rw [gd_pos hc]; exact h
theorem ok_bd {x : Option α} {f : α → Option β} {P : β → Prop} {Q : α → Prop} (hx : okP x Q) (h : ∀ a, Q a → okP (f a) P) : okP (bd x f) P := by
  obtain ⟨a, e, q⟩ := hx
  rw [bd_eq e]; exact h a q
theorem ok_bd2 {x : Option (α × β)} {f : α → β → Option γ} {P : γ → Prop} {Q : α × β → Prop} (hx : okP x Q) (h : ∀ a b, Q (a, b) → okP (f a b) P) : okP (bd2 x f) P := by
  obtain ⟨⟨a, b⟩, e, q⟩ := hx
  rw [bd2_eq e]; exact h a b q
theorem ok_bd3 {x : Option (α × β × γ)} {f : α → β → γ → Option δ} {P : δ → Prop} {Q : α × β × γ → Prop} (hx : okP x Q) (h : ∀ a b c, Q (a, b, c) → okP (f a b c) P) : okP (bd3 x f) P := by
  obtain ⟨⟨a, b, c⟩, e, q⟩ := hx
  rw [bd3_eq e]; exact h a b c q
theorem ok_ite {c : Prop} [Decidable c] {x y : Option α} {P : α → Prop} (ht : c → okP x P) (hf : ¬ c → okP y P) : okP (if c then x else y) P := by
  by_cases hc : c
  · rw [if_pos hc]; exact ht hc
  · rw [if_neg hc]; exact hf hc
theorem ok_jn {K : κ} {b : κ → Option α} {P : α → Prop} (h : okP (b K) P) : okP (jn K b) P := h
theorem ok_nm {v : κ} {b : κ → Option α} {P : α → Prop} (h : okP (b v) P) : okP (nm v b) P := h
theorem ok_imp {x : Option α} {P Q : α → Prop} (h : okP x P) (h2 : ∀ y, P y → Q y) : okP x Q := by
  obtain ⟨y, e, p⟩ := h
  exact ⟨y, e, h2 y p⟩
theorem ok_some' {x : Option α} {P : α → Prop} (h : okP x P) : ∃ y, x = some y := by
  obtain ⟨y, e, -⟩ := h; exact ⟨y, e⟩
end OK
theorem FU_lt {k : Nat} (h : k < 18446744073709551616) : k < FU := h
/-! numbers -/
theorem n_lt (x y : Int32) : (x < y) = (x.toInt < y.toInt) := propext (i32_lt x y)
theorem n_le (x y : Int32) : (x ≤ y) = (x.toInt ≤ y.toInt) := propext (i32_le x y)
theorem n_eq (x y : Int32) : (x = y) = (x.toInt = y.toInt) := propext ⟨fun h => by rw [h], fun h => Int32.toInt.inj h⟩
theorem n_add {x y : Int32} (h0 : -2147483648 ≤ x.toInt + y.toInt) (h1 : x.toInt + y.toInt < 2147483648) : (x + y).toInt = x.toInt + y.toInt := i32_add rfl rfl h0 h1
theorem n_sub {x y : Int32} (h0 : -2147483648 ≤ x.toInt - y.toInt) (h1 : x.toInt - y.toInt < 2147483648) : (x - y).toInt = x.toInt - y.toInt := by
  rw [Int32.toInt_sub]; exact Int.bmod_eq_of_le (by simpa using h0) (by simpa using h1)
theorem n_mul {x y : Int32} (h0 : -2147483648 ≤ x.toInt * y.toInt) (h1 : x.toInt * y.toInt < 2147483648) : (x * y).toInt = x.toInt * y.toInt := by
  rw [Int32.toInt_mul]; exact Int.bmod_eq_of_le (by simpa using h0) (by simpa using h1)
theorem n_rng (x : Int32) : -2147483648 ≤ x.toInt ∧ x.toInt < 2147483648 := ⟨Int32.le_toInt x, Int32.toInt_lt x⟩
theorem inb_of {x : Int32} {n : Nat} (h0 : 0 ≤ x.toInt) (h1 : x.toInt < n) : inb x n := by
  have h := ix_of h0 h1
  exact ⟨h.2.1, h.2.2⟩
theorem clampI {x : Int32} (h0 : 0 ≤ x.toInt) : (x.toNatClampNeg : Int) = x.toInt := by
  rw [Int32.toNatClampNeg]; exact Int.toNat_of_nonneg h0
theorem n_cl {x : Int32} {n : Nat} (h : x.toInt = n) : x.toNatClampNeg = n := by
  have := clampI (x := x) (by omega)
  omega
theorem n_l2 (n : Nat) (h : n < 2147483648) : (OfNat.ofNat n : Int32).toInt = n := by
  show (Int32.ofNat n).toInt = n
  exact nI_toInt (by omega)
/-! states -/
theorem g_sI (z : Sx) (k j : Nat) (v : Int32) : gI (sI z k v) j = if j = k then v else gI z j := rfl
theorem g_sI_T (z : Sx) (k j : Nat) (v : Int32) : gT (sI z k v) j = gT z j := rfl
theorem g_sI_J (z : Sx) (k j : Nat) (v : Int32) : gJ (sI z k v) j = gJ z j := rfl
theorem g_sTf (z : Sx) (k j : Nat) (f : Nat → Int32) : gT (sTf z k f) j = if j = k then f else gT z j := rfl
theorem g_sTf_I (z : Sx) (k j : Nat) (f : Nat → Int32) : gI (sTf z k f) j = gI z j := rfl
theorem g_sTf_J (z : Sx) (k j : Nat) (f : Nat → Int32) : gJ (sTf z k f) j = gJ z j := rfl
theorem g_sJf (z : Sx) (k j : Nat) (f : Nat → Int64) : gJ (sJf z k f) j = if j = k then f else gJ z j := rfl
theorem g_sJf_I (z : Sx) (k j : Nat) (f : Nat → Int64) : gI (sJf z k f) j = gI z j := rfl
theorem g_sJf_T (z : Sx) (k j : Nat) (f : Nat → Int64) : gT (sJf z k f) j = gT z j := rfl
theorem g_sT (z : Sx) (k j i : Nat) (v : Int32) : gT (sT z k i v) j = if j = k then upd (gT z k) i v else gT z j := rfl
theorem g_sT_I (z : Sx) (k j i : Nat) (v : Int32) : gI (sT z k i v) j = gI z j := rfl
theorem g_sT_J (z : Sx) (k j i : Nat) (v : Int32) : gJ (sT z k i v) j = gJ z j := rfl
theorem g_sJ (z : Sx) (k j i : Nat) (v : Int64) : gJ (sJ z k i v) j = if j = k then vp_updL (gJ z k) i v else gJ z j := rfl
theorem g_sJ_I (z : Sx) (k j i : Nat) (v : Int64) : gI (sJ z k i v) j = gI z j := rfl
theorem g_sJ_T (z : Sx) (k j i : Nat) (v : Int64) : gT (sJ z k i v) j = gT z j := rfl
theorem g_upd (f : Nat → Int32) (k j : Nat) (v : Int32) : upd f k v j = if j = k then v else f j := rfl
theorem g_updL (f : Nat → Int64) (k j : Nat) (v : Int64) : vp_updL f k v j = if j = k then v else f j := rfl

/-! What a stretch of a RULE's code comes to. -/
theorem in_n {a b : Nat} (h : a < b) (hb : a < 2147483648) : inb (nI a) b := ⟨nI_pos hb, by rw [nI_clamp hb]; exact h⟩
def cmpv (x0 : Int32) (a b : Int64) : Int64 := if x0 = 60 then (if b ≤ a then 0 else 1) else if x0 = 61 then (if a = b then 1 else 0) else if x0 = 256 then (if b < a then 0 else 1) else if x0 = 257 then (if a < b then 0 else 1) else (if a ≤ b then 0 else 1)
def jo (x0 : Int32) (a b : Int64) : Int64 := if x0 = 42 then a * b else if x0 = 43 then a + b else if x0 = 45 then a - b else if x0 = 47 then (if b = 0 then 0 else a / b) else if x0 = 309 then a ||| b else if x0 = 310 then a &&& b else cmpv x0 a b
theorem cmpv_01 {x0 : Int32} {a b : Int64} : cmpv x0 a b = 0 ∨ cmpv x0 a b = 1 := by
  unfold cmpv
  by_cases c1 : x0 = 60
  · rw [if_pos c1]
    by_cases d : b ≤ a
    · rw [if_pos d]; exact Or.inl rfl
    · rw [if_neg d]; exact Or.inr rfl
  rw [if_neg c1]
  by_cases c2 : x0 = 61
  · rw [if_pos c2]
    by_cases d : a = b
    · rw [if_pos d]; exact Or.inr rfl
    · rw [if_neg d]; exact Or.inl rfl
  rw [if_neg c2]
  by_cases c3 : x0 = 256
  · rw [if_pos c3]
    by_cases d : b < a
    · rw [if_pos d]; exact Or.inl rfl
    · rw [if_neg d]; exact Or.inr rfl
  rw [if_neg c3]
  by_cases c4 : x0 = 257
  · rw [if_pos c4]
    by_cases d : a < b
    · rw [if_pos d]; exact Or.inl rfl
    · rw [if_neg d]; exact Or.inr rfl
  rw [if_neg c4]
  by_cases d : a ≤ b
  · rw [if_pos d]; exact Or.inl rfl
  · rw [if_neg d]; exact Or.inr rfl
theorem comp_eq {x0 : Int32} {a b : Int64} : bd (fX2_compares x0 a b) (fun r5 => if r5 = 0 then some (0 : Int64) else some 1) = some (cmpv x0 a b) := by
  unfold fX2_compares cmpv
  by_cases c1 : x0 = 60
  · rw [if_pos c1, if_pos c1]
    by_cases d : b ≤ a
    · rw [if_pos d, if_pos d]; rfl
    · rw [if_neg d, if_neg d]; rfl
  rw [if_neg c1, if_neg c1]
  by_cases c2 : x0 = 61
  · rw [if_pos c2, if_pos c2]
    by_cases d : a = b
    · rw [if_pos d, if_pos d]; rfl
    · rw [if_neg d, if_neg d]; rfl
  rw [if_neg c2, if_neg c2]
  by_cases c3 : x0 = 256
  · rw [if_pos c3, if_pos c3]
    by_cases d : b < a
    · rw [if_pos d, if_pos d]; rfl
    · rw [if_neg d, if_neg d]; rfl
  rw [if_neg c3, if_neg c3]
  by_cases c4 : x0 = 257
  · rw [if_pos c4, if_pos c4]
    by_cases d : a < b
    · rw [if_pos d, if_pos d]; rfl
    · rw [if_neg d, if_neg d]; rfl
  rw [if_neg c4, if_neg c4]
  by_cases d : a ≤ b
  · rw [if_pos d, if_pos d]; rfl
  · rw [if_neg d, if_neg d]; rfl
theorem join_eq {x0 : Int32} {a b : Int64} : fX2_join x0 a b = some (jo x0 a b) := by
  unfold fX2_join jo
  by_cases c1 : x0 = 42
  · rw [if_pos c1, if_pos c1]
  rw [if_neg c1, if_neg c1]
  by_cases c2 : x0 = 43
  · rw [if_pos c2, if_pos c2]
  rw [if_neg c2, if_neg c2]
  by_cases c3 : x0 = 45
  · rw [if_pos c3, if_pos c3]
  rw [if_neg c3, if_neg c3]
  by_cases c4 : x0 = 47
  · rw [if_pos c4, if_pos c4]
    by_cases d : b = 0
    · rw [if_pos d, if_pos d]
    · rw [if_neg d, if_neg d, gd_pos d]
  rw [if_neg c4, if_neg c4]
  by_cases c5 : x0 = 309
  · rw [if_pos c5, if_pos c5]
  rw [if_neg c5, if_neg c5]
  by_cases c6 : x0 = 310
  · rw [if_pos c6, if_pos c6]
  rw [if_neg c6, if_neg c6]
  exact comp_eq
/-- one code -/
def cst (W : Int32 → Int64) (c : Int32) : List Int64 → Option (List Int64)
  | [] => if 0 ≤ c then some [c.toInt64] else if (-312) < c then none else some [W (-c)]
  | x :: s => if 0 ≤ c then (if s.length < 31 then some (c.toInt64 :: x :: s) else none) else if (-312) < c then (if c = (-311) then some ((1 - x) :: s) else match s with
    | [] => none
    | y :: s2 => some (jo (-c) y x :: s2)) else (if s.length < 31 then some (W (-c) :: x :: s) else none)
def crun (W : Int32 → Int64) (c : Nat → Int32) (b : Nat) : Nat → List Int64 → Option (List Int64)
  | 0, st => some st
  | n + 1, st => bd (crun W c b n st) (cst W (c (b + n)))
section CR
variable {W : Int32 → Int64} {c d : Nat → Int32} {b e n m : Nat} {st : List Int64}
theorem crun_cg : ∀ n : Nat, (∀ i : Nat, b ≤ i → i < b + n → d i = c i) → crun W d b n st = crun W c b n st := by
  intro n
  induction n with
  | zero => intro _; rfl
  | succ n ih =>
    intro h
    show bd (crun W d b n st) (cst W (d (b + n))) = bd (crun W c b n st) (cst W (c (b + n)))
    rw [ih (fun i h1 h2 => h i h1 (by omega)), h (b + n) (by omega) (by omega)]
theorem crun_add : ∀ m : Nat, crun W c b (n + m) st = bd (crun W c b n st) (fun s => crun W c (b + n) m s) := by
  intro m
  induction m with
  | zero =>
    show crun W c b n st = bd (crun W c b n st) (fun s => some s)
    cases crun W c b n st with
    | none => rfl
    | some s => rfl
  | succ m ih =>
    show bd (crun W c b (n + m) st) (cst W (c (b + (n + m)))) = _
    rw [ih, bd_as, ← Nat.add_assoc]
    rfl
theorem cst_1 {v : Int32} {x : Int64} : cst W v [x] = if 0 ≤ v then (if ([] : List Int64).length < 31 then some [v.toInt64, x] else none) else if (-312) < v then (if v = (-311) then some [1 - x] else none) else (if ([] : List Int64).length < 31 then some [W (-v), x] else none) := rfl
theorem cst_2 {v : Int32} {x y : Int64} : cst W v (x :: y :: st) = if 0 ≤ v then (if (y :: st).length < 31 then some (v.toInt64 :: x :: y :: st) else none) else if (-312) < v then (if v = (-311) then some ((1 - x) :: y :: st) else some (jo (-v) y x :: st)) else (if (y :: st).length < 31 then some (W (-v) :: x :: y :: st) else none) := rfl
theorem cst_c {v : Int32} {x : Int64} {s : List Int64} : cst W v (x :: s) = if 0 ≤ v then (if s.length < 31 then some (v.toInt64 :: x :: s) else none) else if (-312) < v then (if v = (-311) then some ((1 - x) :: s) else match s with
    | [] => none
    | y :: s2 => some (jo (-v) y x :: s2)) else (if s.length < 31 then some (W (-v) :: x :: s) else none) := rfl
theorem cst_push {v : Int32} (hv : 0 ≤ v) (hs : st.length < 32) : cst W v st = some (v.toInt64 :: st) := by
  cases st with
  | nil => exact if_pos hv
  | cons x s =>
    rw [List.length_cons] at hs
    rw [cst_c, if_pos hv, if_pos (by omega)]
theorem cst_word {v : Int32} (h0 : ¬ 0 ≤ v) (hv : ¬ (-312) < v) (hs : st.length < 32) : cst W v st = some (W (-v) :: st) := by
  cases st with
  | nil =>
    show (if 0 ≤ v then some [v.toInt64] else if (-312) < v then none else some [W (-v)]) = _
    rw [if_neg h0, if_neg hv]
  | cons x s =>
    rw [List.length_cons] at hs
    rw [cst_c, if_neg h0, if_neg hv, if_pos (by omega)]
theorem cst_not {x : Int64} : cst W (-311) (x :: st) = some ((1 - x) :: st) := rfl
theorem cst_op {v : Int32} {x y : Int64} (h0 : ¬ 0 ≤ v) (h1 : (-312) < v) (h2 : ¬ v = (-311)) : cst W v (x :: y :: st) = some (jo (-v) y x :: st) := by
  rw [cst_2, if_neg h0, if_pos h1, if_neg h2]
end CR
/-- a stretch that leaves one more; one that leaves 0 or 1 -/
def SGV (c : Nat → Int32) (b e m : Nat) : Prop := b ≤ e ∧ ∀ (W : Int32 → Int64) (st : List Int64), st.length + m ≤ 32 → ∃ v, crun W c b (e - b) st = some (v :: st)
def SGB (c : Nat → Int32) (b e m : Nat) : Prop := b ≤ e ∧ ∀ (W : Int32 → Int64) (st : List Int64), st.length + m ≤ 32 → ∃ v, (v = 0 ∨ v = 1) ∧ crun W c b (e - b) st = some (v :: st)

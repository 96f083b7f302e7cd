/-! Tokens of a text: what the class cuts, and what the reference sees, of the same signs. -/
def isB (x : Int32) : Bool := x == 32
def isD (x : Int32) : Bool := decide (48 ≤ x ∧ x ≤ 57)
def isL (x : Int32) : Bool := decide (97 ≤ x ∧ x ≤ 122)
def runP (P : Int32 → Bool) (b : Nat → Int32) (N : Nat) : Nat → Nat → Nat
  | 0, p => p
  | f + 1, p => if p < N ∧ P (b p) = true then runP P b N f (p + 1) else p
def rnP (P : Int32 → Bool) (b : Nat → Int32) (N p : Nat) : Nat := runP P b N (N - p) p
section RNP
variable {P : Int32 → Bool} {b : Nat → Int32} {N p : Nat}
theorem rq_stop (h : ¬ (p < N ∧ P (b p) = true)) : rnP P b N p = p := by
  unfold rnP
  cases N - p with
  | zero => rfl
  | succ f => rw [runP, if_neg h]
theorem rq_step (h : p < N ∧ P (b p) = true) : rnP P b N p = rnP P b N (p + 1) := by
  unfold rnP
  have e : N - p = (N - (p + 1)) + 1 := by omega
  rw [e, runP, if_pos h]
theorem rq_spec : ∀ (f p : Nat), N - p = f → p ≤ rnP P b N p ∧ (p ≤ N → rnP P b N p ≤ N) ∧ (∀ i : Nat, p ≤ i → i < rnP P b N p → i < N ∧ P (b i) = true) ∧ (rnP P b N p < N → P (b (rnP P b N p)) = false) := by
  intro f
  induction f with
  | zero =>
    intro p hp
    have e : rnP P b N p = p := rq_stop (fun h => by omega)
    rw [e]
    exact ⟨Nat.le_refl p, fun h => h, fun i h1 h2 => by omega, fun h => by omega⟩
  | succ f ih =>
    intro p hp
    by_cases h : p < N ∧ P (b p) = true
    · rw [rq_step h]
      obtain ⟨h1, h2, h3, h4⟩ := ih (p + 1) (by omega)
      refine ⟨by omega, fun _ => h2 (by omega), fun i hi hj => ?_, h4⟩
      by_cases e : i = p
      · subst e; exact h
      · exact h3 i (by omega) hj
    · rw [rq_stop h]
      refine ⟨Nat.le_refl p, fun h => h, fun i h1 h2 => by omega, fun hN => ?_⟩
      cases hb : P (b p) with
      | false => rfl
      | true => exact absurd ⟨hN, hb⟩ h
theorem rq_ge : p ≤ rnP P b N p := (rq_spec (N - p) p rfl).1
theorem rq_le (h : p ≤ N) : rnP P b N p ≤ N := (rq_spec (N - p) p rfl).2.1 h
theorem rq_in {i : Nat} (h1 : p ≤ i) (h2 : i < rnP P b N p) : i < N ∧ P (b i) = true := (rq_spec (N - p) p rfl).2.2.1 i h1 h2
theorem rq_end (h : rnP P b N p < N) : P (b (rnP P b N p)) = false := (rq_spec (N - p) p rfl).2.2.2 h
theorem rq_idem : rnP P b N (rnP P b N p) = rnP P b N p := rq_stop (fun h => by rw [rq_end h.1] at h; cases h.2)
end RNP
/-- a number's first five figures -/
def nvl (b : Nat → Int32) (p : Nat) : Nat → Int32
  | 0 => 0
  | k + 1 => nvl b p k * 10 + b (p + k) - 48
/-- a word of the language stands from p to e -/
def SPW (b : Nat → Int32) (p e w : Nat) : Prop := e - p = slen.getD w 0 ∧ ∀ i : Nat, i < slen.getD w 0 → b (p + i) = sch w i
noncomputable def wco (b : Nat → Int32) (p e : Nat) : Int32 := by
  classical
  exact if SPW b p e 0 then 304 else if SPW b p e 1 then 305 else if SPW b p e 2 then 306 else if SPW b p e 3 then 307 else if SPW b p e 4 then 308 else if SPW b p e 5 then 309 else if SPW b p e 6 then 310 else if SPW b p e 7 then 311 else if SPW b p e 8 then 312 else if SPW b p e 9 then 313 else if SPW b p e 10 then 314 else if SPW b p e 11 then 315 else if SPW b p e 12 then 316 else if SPW b p e 13 then 317 else if SPW b p e 14 then 318 else if SPW b p e 15 then 319 else if SPW b p e 16 then 320 else 303
/-- a sign of two: less or equal, more or equal -/
def wid (b : Nat → Int32) (N q : Nat) : Prop := (b q = 60 ∨ b q = 62) ∧ q + 1 < N ∧ b (q + 1) = 61
noncomputable def tkc (b : Nat → Int32) (N q : Nat) : Int32 := by
  classical
  exact if isD (b q) = true then (if rnP isD b N q - q ≤ 5 then 301 else 302) else if isL (b q) = true then wco b q (rnP isL b N q) else if wid b N q then (if b q = 60 then 256 else 257) else b q
noncomputable def tkn (b : Nat → Int32) (N q : Nat) : Int32 := if isD (b q) = true then nvl b q (min 5 (rnP isD b N q - q)) else 0
noncomputable def tkx (b : Nat → Int32) (N q : Nat) : Nat := by
  classical
  exact if isD (b q) = true then rnP isD b N q else if isL (b q) = true then rnP isL b N q else if wid b N q then q + 2 else q + 1

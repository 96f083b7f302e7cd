/-! Sets of faults as bits, on both sides. -/
def bmf (T : Nat → Int32) (s : Int32) : Nat → Nat
  | 0 => 0
  | g + 1 => if T (44 + 6 * g + 4) = s then bmf T s g ||| 2 ^ g else bmf T s g
section BM
variable {T T2 : Nat → Int32} {s : Int32}
theorem bm_lt : ∀ F : Nat, bmf T s F < 2 ^ F := by
  intro F
  induction F with
  | zero => exact Nat.one_pos
  | succ g ih =>
    have hp : 2 ^ g < 2 ^ (g + 1) := Nat.pow_lt_pow_right (by decide) (by omega)
    unfold bmf
    by_cases c : T (44 + 6 * g + 4) = s
    · rw [if_pos c]; exact Nat.or_lt_two_pow (Nat.lt_trans ih hp) hp
    · rw [if_neg c]; exact Nat.lt_trans ih hp
theorem bm_bit : ∀ (F g : Nat), (bmf T s F).testBit g = decide (g < F ∧ T (44 + 6 * g + 4) = s) := by
  intro F
  induction F with
  | zero => intro g; show (0 : Nat).testBit g = _; rw [Nat.zero_testBit, decide_eq_false (by omega)]
  | succ F ih =>
    intro g
    unfold bmf
    by_cases c : T (44 + 6 * F + 4) = s
    · rw [if_pos c, Nat.testBit_or, ih, Nat.testBit_two_pow]
      by_cases d : F = g
      · subst d
        rw [decide_eq_true (show F = F from rfl), Bool.or_true, decide_eq_true ⟨by omega, c⟩]
      · rw [decide_eq_false d, Bool.or_false]
        by_cases q : g < F ∧ T (44 + 6 * g + 4) = s
        · rw [decide_eq_true q, decide_eq_true ⟨by omega, q.2⟩]
        · rw [decide_eq_false q, decide_eq_false (fun k => q ⟨by omega, k.2⟩)]
    · rw [if_neg c, ih]
      by_cases q : g < F ∧ T (44 + 6 * g + 4) = s
      · rw [decide_eq_true q, decide_eq_true ⟨by omega, q.2⟩]
      · rw [decide_eq_false q, decide_eq_false (fun k => q ⟨by
          by_cases d : g = F
          · exfalso; rw [d] at k; exact c k.2
          · omega, k.2⟩)]
theorem bm_cg : ∀ F : Nat, (∀ g : Nat, g < F → (T2 (44 + 6 * g + 4) = s ↔ T (44 + 6 * g + 4) = s)) → bmf T2 s F = bmf T s F := by
  intro F
  induction F with
  | zero => intro _; rfl
  | succ F ih =>
    intro h
    unfold bmf
    rw [ih (fun g hg => h g (by omega))]
    by_cases c : T (44 + 6 * F + 4) = s
    · rw [if_pos c, if_pos ((h F (by omega)).2 c)]
    · rw [if_neg c, if_neg (fun k => c ((h F (by omega)).1 k))]
theorem bm_set {F g : Nat} (hg : g < F) (h : ∀ j : Nat, j < F → (T2 (44 + 6 * j + 4) = s ↔ j = g ∨ T (44 + 6 * j + 4) = s)) : bmf T2 s F = bmf T s F ||| 2 ^ g := by
  refine Nat.eq_of_testBit_eq (fun j => ?_)
  rw [Nat.testBit_or, bm_bit, bm_bit, Nat.testBit_two_pow]
  by_cases q : j < F
  · by_cases d : g = j
    · rw [decide_eq_true d, Bool.or_true, decide_eq_true ⟨q, (h j q).2 (Or.inl d.symm)⟩]
    · rw [decide_eq_false d, Bool.or_false]
      by_cases e : T (44 + 6 * j + 4) = s
      · rw [decide_eq_true (show j < F ∧ T2 (44 + 6 * j + 4) = s from ⟨q, (h j q).2 (Or.inr e)⟩), decide_eq_true (show j < F ∧ T (44 + 6 * j + 4) = s from ⟨q, e⟩)]
      · rw [decide_eq_false (fun k : j < F ∧ T (44 + 6 * j + 4) = s => e k.2), decide_eq_false (fun k : j < F ∧ T2 (44 + 6 * j + 4) = s => by
          rcases (h j q).1 k.2 with r | r
          · exact d r.symm
          · exact e r)]
  · rw [decide_eq_false (fun k : j < F ∧ T (44 + 6 * j + 4) = s => q k.1), decide_eq_false (fun k : j < F ∧ T2 (44 + 6 * j + 4) = s => q k.1), decide_eq_false (fun k : g = j => q (by omega))]
    rfl
end BM
def f10 (P : Nat → Nat → Bool) : Bool := (List.range 1024).all (fun a => (List.range 10).all (fun g => P a g))
theorem f10_of {P : Nat → Nat → Bool} (h : f10 P = true) {a g : Nat} (ha : a < 1024) (hg : g < 10) : P a g = true := by
  unfold f10 at h
  have h1 := List.all_eq_true.1 h a (List.mem_range.2 ha)
  exact List.all_eq_true.1 h1 g (List.mem_range.2 hg)
theorem has_f {a g : Nat} (ha : a < 1024) (hg : g < 10) : decide ((nI a &&& ((1 : Int32) <<< (nI g &&& 31))) = 0) = !(a.testBit g) := by
  have h := f10_of (P := fun a g => decide ((nI a &&& ((1 : Int32) <<< (nI g &&& 31))) = 0) == !(a.testBit g)) (by decide +kernel) ha hg
  exact eq_of_beq h
theorem shr_f {a g : Nat} (ha : a < 1024) (hg : g < 10) : decide (((nI a >>> (nI g &&& 31)) &&& 1) = 0) = !(a.testBit g) := by
  have h := f10_of (P := fun a g => decide (((nI a >>> (nI g &&& 31)) &&& 1) = 0) == !(a.testBit g)) (by decide +kernel) ha hg
  exact eq_of_beq h
theorem bit_f : ∀ g : Fin 10, ((1 : Int32) <<< (nI g.val &&& 31)) = nI (2 ^ g.val) := by decide +kernel
theorem cpl_f {a g : Nat} (ha : a < 1024) (hg : g < 10) : decide (((nI a ^^^ (-1)) &&& ((1 : Int32) <<< (nI g &&& 31))) = 0) = a.testBit g := by
  have h := f10_of (P := fun a g => decide (((nI a ^^^ (-1)) &&& ((1 : Int32) <<< (nI g &&& 31))) = 0) == a.testBit g) (by decide +kernel) ha hg
  exact eq_of_beq h
theorem or_n {a b : Nat} : nI a ||| nI b = nI (a ||| b) := by
  refine Int32.toBitVec_inj.1 ?_
  show BitVec.ofNat 32 a ||| BitVec.ofNat 32 b = BitVec.ofNat 32 (a ||| b)
  exact (BitVec.ofNat_or).symm
theorem cnt_f {a : Nat} (ha : a < 1024) : fJ6_bitCount_0f7a4 (nI a) = lX9_bits_4 12 0 (nI a) ∧ (lX9_bits_4 12 0 (nI a)).isSome = true := by
  have h : (List.range 1024).all (fun a => decide (fJ6_bitCount_0f7a4 (nI a) = lX9_bits_4 12 0 (nI a)) && (lX9_bits_4 12 0 (nI a)).isSome) = true := by decide +kernel
  have h1 := List.all_eq_true.1 h a (List.mem_range.2 ha)
  rw [Bool.and_eq_true] at h1
  exact ⟨of_decide_eq_true h1.1, h1.2⟩
theorem bits_more : ∀ (n m : Nat) (x y r : Int32), lX9_bits_4 n x y = some r → lX9_bits_4 (n + m) x y = some r := by
  intro n
  induction n with
  | zero => intro m x y r h; cases h
  | succ n ih =>
    intro m x y r h
    rw [Nat.add_right_comm, lX9_bits_4]
    rw [lX9_bits_4] at h
    by_cases c : y = 0
    · rw [if_pos c] at h ⊢; exact h
    · rw [if_neg c] at h ⊢
      exact ih m _ _ r h
theorem cnt_both {a : Nat} (h : a < 1024) : ∃ r, fJ6_bitCount_0f7a4 (nI a) = some r ∧ fX9_bits (nI a) = some r := by
  obtain ⟨h1, h2⟩ := cnt_f h
  obtain ⟨r, hr⟩ := Option.isSome_iff_exists.1 h2
  refine ⟨r, h1.trans hr, ?_⟩
  unfold fX9_bits
  have e : FU = 12 + 18446744073709551604 := rfl
  rw [e]
  exact bits_more 12 _ _ _ r hr
theorem that_run {z : Sx} {s : Int32} {F : Nat} (h0 : gT z 24 0 = nI F) (hF : F ≤ 10) : ∀ (n g : Nat), g ≤ F → F - g < n → lX9_thatAre_4 z s n (nI (bmf (gT z 24) s g)) (nI g) = some (nI (bmf (gT z 24) s F)) := by
  intro n
  induction n with
  | zero => intro g _ hm; omega
  | succ n ih =>
    intro g hg hm
    rw [lX9_thatAre_4, h0]
    by_cases c : g = F
    · rw [c, if_pos (nI_le (Nat.le_refl F) (by omega))]
    · have e6 : (6 * nI g : Int32) = nI (6 * g) := Int32.toInt_inj.1 (by rw [i32_mul (show (6 : Int32).toInt = 6 by decide) (nI_toInt (n := g) (by omega)) (by omega) (by omega), nI_toInt (by omega)]; omega)
      have e44 : (44 : Int32) + nI (6 * g) = nI (44 + 6 * g) := nI_add 44 (6 * g)
      have e48 : nI (44 + 6 * g) + 4 = nI (44 + 6 * g + 4) := nI_add (44 + 6 * g) 4
      have ef : fX9_faultOf z (nI g) 4 = some (gT z 24 (44 + 6 * g + 4)) := by
        unfold fX9_faultOf
        rw [e6, e44, e48, gd_pos (in_n (by omega) (by omega)), nI_clamp (by omega)]
      rw [if_neg (nI_ge (by omega) (by omega)), bd_eq ef, nI_1]
      simp only [jn]
      have st : bmf (gT z 24) s (g + 1) = if gT z 24 (44 + 6 * g + 4) = s then bmf (gT z 24) s g ||| 2 ^ g else bmf (gT z 24) s g := rfl
      by_cases d : gT z 24 (44 + 6 * g + 4) = s
      · rw [if_pos d, bit_f ⟨g, by omega⟩, or_n]
        rw [if_pos d] at st
        rw [← st]
        exact ih (g + 1) (by omega) (by omega)
      · rw [if_neg d, show (nI (bmf (gT z 24) s g) ||| 0) = nI (bmf (gT z 24) s g) from (or_n (b := 0)).trans (by rw [Nat.or_zero])]
        rw [if_neg d] at st
        rw [← st]
        exact ih (g + 1) (by omega) (by omega)
theorem that_eq {z : Sx} {s : Int32} {F : Nat} (h0 : gT z 24 0 = nI F) (hF : F ≤ 10) : fX9_thatAre z s = some (nI (bmf (gT z 24) s F)) := by
  unfold fX9_thatAre
  exact that_run h0 hF FU 0 (by omega) (FU_lt (by omega))

/-! The reference reckons a stretch as the class does. -/
theorem and15 (y : Int32) : (y &&& 15).toInt = y.toInt % 16 := by
  have h1 : (y &&& 15).toBitVec = y.toBitVec &&& 15#32 := rfl
  have h2 : (y.toBitVec &&& 15#32).toNat = y.toBitVec.toNat % 16 := by
    rw [BitVec.toNat_and]
    exact Nat.and_two_pow_sub_one_eq_mod y.toBitVec.toNat 4
  have h3 : (y &&& 15).toInt = (y.toBitVec &&& 15#32).toInt := rfl
  have h4 : y.toInt = y.toBitVec.toInt := rfl
  rw [h3, h4, BitVec.toInt_eq_toNat_cond, BitVec.toInt_eq_toNat_cond, h2]
  have h5 := y.toBitVec.isLt
  split <;> split <;> omega
theorem sh4 (y : Int32) : (y >>> ((4 : Int32) &&& 31)).toInt = y.toInt / 16 := by
  have e1 : (y >>> ((4 : Int32) &&& 31)).toBitVec = y.toBitVec.sshiftRight 4 := rfl
  have e2 : (y >>> ((4 : Int32) &&& 31)).toInt = (y >>> ((4 : Int32) &&& 31)).toBitVec.toInt := rfl
  have e3 : y.toInt = y.toBitVec.toInt := rfl
  rw [e2, e1, BitVec.toInt_sshiftRight, e3, Int.shiftRight_eq_div_pow]
  rfl
/-- what a code of the reference says -/
theorem cm_bits {c s : Int32} (h : CM c s) : (0 ≤ c ∧ s &&& 15 = 0 ∧ s >>> ((4 : Int32) &&& 31) = c) ∨ (∃ w : Nat, w < 9 ∧ c = -nI (312 + w) ∧ s &&& 15 = 1 ∧ s >>> ((4 : Int32) &&& 31) = nI w) ∨ ∃ v ∈ opc, c = v.1 ∧ s &&& 15 = v.2 := by
  rcases h with ⟨h0, h1, h2⟩ | ⟨w, w9, h1, h2⟩ | ⟨v, hv, h1, h2⟩
  · left
    have e : (16 * c).toInt = 16 * c.toInt := by rw [i32_mul (show (16 : Int32).toInt = 16 by decide) rfl (by omega) (by omega)]
    have es : s.toInt = 16 * c.toInt := by
      rw [h2]
      have := i32_add (show (0 : Int32).toInt = 0 by decide) e (by omega) (by omega)
      omega
    refine ⟨(i32_le _ _).2 (by rw [show (0 : Int32).toInt = 0 by decide]; exact h0), Int32.toInt_inj.1 ?_, Int32.toInt_inj.1 ?_⟩
    · rw [and15, es, show (0 : Int32).toInt = 0 by decide]; omega
    · rw [sh4, es]; omega
  · right; left
    have e : (16 * nI w).toInt = 16 * (w : Int) := by rw [i32_mul (show (16 : Int32).toInt = 16 by decide) (nI_toInt (n := w) (by omega)) (by omega) (by omega)]
    have es : s.toInt = 1 + 16 * (w : Int) := by
      rw [h2]
      exact i32_add (show (1 : Int32).toInt = 1 by decide) e (by omega) (by omega)
    refine ⟨w, w9, h1, Int32.toInt_inj.1 ?_, Int32.toInt_inj.1 ?_⟩
    · rw [and15, es, show (1 : Int32).toInt = 1 by decide]; omega
    · rw [sh4, es, nI_toInt (by omega)]; omega
  · right; right
    refine ⟨v, hv, h1, ?_⟩
    rw [h2]
    unfold opc at hv
    simp only [List.mem_cons, List.not_mem_nil, or_false] at hv
    rcases hv with rfl | rfl | rfl | rfl | rfl | rfl | rfl | rfl | rfl | rfl | rfl | rfl <;> decide
theorem som {α : Type} {p : Prop} [Decidable p] {a b : α} : (if p then some a else some b) = some (if p then a else b) := by
  by_cases c : p
  · rw [if_pos c, if_pos c]
  · rw [if_neg c, if_neg c]
theorem one_eq {v : Int32 × Int32} (hv : v ∈ opc) (h11 : ¬ v.2 = 11) (a b : Int64) : fX9_one v.2 a b = some (jo (-v.1) a b) ∧ (¬ v.2 = 0 ∧ ¬ v.2 = 1) ∧ isOp v.1 := by
  unfold opc at hv
  simp only [List.mem_cons, List.not_mem_nil, or_false] at hv
  rcases hv with rfl | rfl | rfl | rfl | rfl | rfl | rfl | rfl | rfl | rfl | rfl | rfl
  · exact ⟨rfl, by decide, by unfold isOp; decide⟩
  · exact ⟨rfl, by decide, by unfold isOp; decide⟩
  · exact ⟨rfl, by decide, by unfold isOp; decide⟩
  · refine ⟨?_, by decide, by unfold isOp; decide⟩
    show (if b = 0 then some 0 else gd (¬ b = 0) (some (a / b))) = some (if b = 0 then 0 else a / b)
    by_cases c : b = 0
    · rw [if_pos c, if_pos c]
    · rw [if_neg c, if_neg c, gd_pos c]
  · exact ⟨(show (if b ≤ a then some (0 : Int64) else some 1) = some (if b ≤ a then 0 else 1) from som), by decide, by unfold isOp; decide⟩
  · exact ⟨(show (if b < a then some (0 : Int64) else some 1) = some (if b < a then 0 else 1) from som), by decide, by unfold isOp; decide⟩
  · exact ⟨(show (if a = b then some (1 : Int64) else some 0) = some (if a = b then 1 else 0) from som), by decide, by unfold isOp; decide⟩
  · exact ⟨(show (if a < b then some (0 : Int64) else some 1) = some (if a < b then 0 else 1) from som), by decide, by unfold isOp; decide⟩
  · exact ⟨(show (if a ≤ b then some (0 : Int64) else some 1) = some (if a ≤ b then 0 else 1) from som), by decide, by unfold isOp; decide⟩
  · exact absurd rfl h11
  · exact ⟨rfl, by decide, by unfold isOp; decide⟩
  · exact ⟨rfl, by decide, by unfold isOp; decide⟩
def RFS (z : Sx) (st : List Int64) : Prop := gI z 22 = nI st.length ∧ STL (gJ z 21) st
section RF
variable {W : Int32 → Int64} {c : Nat → Int32} {e n t : Nat} {st s2 : List Int64} {z : Sx} {x v : Int64}
theorem push_ok (h : RFS z st) (hl : st.length < 64) : ∃ y, fX9_push z v = some y ∧ RFS y (v :: st) ∧ FrL [21, 22] z y := by
  obtain ⟨h1, h2⟩ := h
  refine ⟨sI (sJ z 21 st.length v) 22 (nI st.length + 1), ?_, ⟨nI_1 _, stl_put h2⟩, fr_I (fr_J fr_rf (by decide)) (by decide)⟩
  unfold fX9_push
  rw [h1, gd_pos (in_n hl (by omega)), nI_clamp (by omega)]
theorem pop_ok (h : RFS z (x :: st)) (hl : st.length < 64) : ∃ y, fX9_pop z = some (x, y) ∧ RFS y st ∧ FrL [21, 22] z y := by
  obtain ⟨h1, h2⟩ := h
  rw [List.length_cons] at h1
  have e1 : gI z 22 - 1 = nI st.length := by rw [h1]; exact nI_sub (b := 1) (by omega)
  refine ⟨sI z 22 (nI st.length), ?_, ⟨rfl, h2.2⟩, fr_I fr_rf (by decide)⟩
  unfold fX9_pop
  rw [e1, gd_pos (in_n hl (by omega)), nI_clamp (by omega)]
  have : gJ (sI z 22 (nI st.length)) 21 st.length = x := h2.1
  rw [this]
def k9 : Sx → Option (Int64 × Sx) := fun (z28 : Sx) => bd2 (fX9_pop z28) (fun r30 z31 => some (r30, z31))
theorem ref_step {i : Nat} (hi : i < e) (he : e ≤ 400) (ht : t < 6) (hW : ∀ w : Nat, w < 9 → gJ z 23 w = W (nI (312 + w))) (hcm : CM (c i) (gT z 3 (400 * t + i))) (hs : RFS z st) (hl : st.length ≤ 32) (h : cst W (c i) st = some s2) : ∃ y, RFS y s2 ∧ s2.length ≤ 32 ∧ FrL [21, 22] z y ∧ ∀ m, lX9_reckons_8 k9 (nI t) (nI e) (m + 1) z (nI i) = lX9_reckons_8 k9 (nI t) (nI e) m y (nI (i + 1)) := by
  have e4 : (400 * nI t : Int32) = nI (400 * t) := Int32.toInt_inj.1 (by rw [i32_mul (show (400 : Int32).toInt = 400 by decide) (nI_toInt (n := t) (by omega)) (by omega) (by omega), nI_toInt (by omega)]; omega)
  have ei : (400 * nI t : Int32) + nI i = nI (400 * t + i) := by rw [e4, nI_add]
  have cl : (nI (400 * t + i)).toNatClampNeg = 400 * t + i := nI_clamp (by omega)
  have go : ∀ m, lX9_reckons_8 k9 (nI t) (nI e) (m + 1) z (nI i) = (if ((gT z 3 (400 * t + i)) &&& 15) = 0 then bd (fX9_push z (((gT z 3 (400 * t + i)) >>> ((4 : Int32) &&& 31)).toInt64)) (fun z27 => lX9_reckons_8 k9 (nI t) (nI e) m z27 (nI (i + 1))) else if ((gT z 3 (400 * t + i)) &&& 15) = 1 then gd (inb ((gT z 3 (400 * t + i)) >>> ((4 : Int32) &&& 31)) 9) (bd (fX9_push z (gJ z 23 (((gT z 3 (400 * t + i)) >>> ((4 : Int32) &&& 31)).toNatClampNeg))) (fun z25 => lX9_reckons_8 k9 (nI t) (nI e) m z25 (nI (i + 1)))) else if ((gT z 3 (400 * t + i)) &&& 15) = 11 then bd2 (fX9_pop z) (fun r19 z20 => bd (fX9_push z20 (1 - r19)) (fun z22 => lX9_reckons_8 k9 (nI t) (nI e) m z22 (nI (i + 1)))) else bd2 (fX9_pop z) (fun r9 z10 => bd2 (fX9_pop z10) (fun r12 z13 => bd (fX9_one ((gT z 3 (400 * t + i)) &&& 15) r12 r9) (fun r15 => bd (fX9_push z13 r15) (fun z17 => lX9_reckons_8 k9 (nI t) (nI e) m z17 (nI (i + 1))))))) := by
    intro m
    rw [lX9_reckons_8, if_neg (nI_ge hi (by omega)), ei, gd_pos (in_n (by omega) (by omega)), cl, nI_1]
    rfl
  rcases cm_bits hcm with ⟨q0, q1, q2⟩ | ⟨w, w9, q0, q1, q2⟩ | ⟨u, hu, q0, q1⟩
  · have hc := cst_push (W := W) (st := st) q0
    have hl2 : st.length < 32 := by
      by_cases k : st.length < 32
      · exact k
      · exfalso
        cases st with
        | nil => rw [List.length_nil] at k; omega
        | cons a s =>
          rw [List.length_cons] at k hl
          rw [cst_c] at h
          rw [if_pos q0, if_neg (by omega)] at h
          cases h
    obtain rfl := Option.some.inj ((hc hl2).symm.trans h)
    obtain ⟨y, a1, a2, a3⟩ := push_ok (v := (c i).toInt64) hs (by omega)
    refine ⟨y, a2, by rw [List.length_cons]; omega, a3, fun m => ?_⟩
    rw [go, if_pos q1, q2, bd_eq a1]
  · have n0 : ¬ 0 ≤ c i := by
      rw [q0]
      intro k
      have e1 : (-nI (312 + w)).toInt = -((312 + w : Nat) : Int) := by
        have := i32_sub (show (0 : Int32).toInt = 0 by decide) (nI_toInt (n := 312 + w) (by omega)) (by omega) (by omega)
        rw [show (0 : Int32) - nI (312 + w) = -(nI (312 + w)) from Int32.zero_sub _] at this
        omega
      have := bI_le (show (0 : Int32).toInt = 0 by decide) e1 k
      omega
    have n1 : ¬ (-312) < c i := by
      rw [q0]
      intro k
      have e1 : (-nI (312 + w)).toInt = -((312 + w : Nat) : Int) := by
        have := i32_sub (show (0 : Int32).toInt = 0 by decide) (nI_toInt (n := 312 + w) (by omega)) (by omega) (by omega)
        rw [show (0 : Int32) - nI (312 + w) = -(nI (312 + w)) from Int32.zero_sub _] at this
        omega
      have := bI_lt (show (-312 : Int32).toInt = -312 by decide) e1 k
      omega
    have hl2 : st.length < 32 := by
      by_cases k : st.length < 32
      · exact k
      · exfalso
        cases st with
        | nil => rw [List.length_nil] at k; omega
        | cons a s =>
          rw [List.length_cons] at k hl
          rw [cst_c] at h
          rw [if_neg n0, if_neg n1, if_neg (by omega)] at h
          cases h
    obtain rfl := Option.some.inj ((cst_word (W := W) n0 n1 hl2).symm.trans h)
    obtain ⟨y, a1, a2, a3⟩ := push_ok (v := W (-(c i))) hs (by omega)
    refine ⟨y, a2, by rw [List.length_cons]; omega, a3, fun m => ?_⟩
    have eW : gJ z 23 w = W (-(c i)) := by rw [q0, Int32.neg_neg]; exact hW w w9
    rw [go, if_neg (by rw [q1]; decide), if_pos q1, q2, gd_pos (in_n w9 (by omega)), nI_clamp (by omega), eW, bd_eq a1]
  · by_cases u11 : u.2 = 11
    · have c11 : c i = (-311) := by
        rw [q0]
        unfold opc at hu
        simp only [List.mem_cons, List.not_mem_nil, or_false] at hu
        rcases hu with rfl | rfl | rfl | rfl | rfl | rfl | rfl | rfl | rfl | rfl | rfl | rfl <;> first | rfl | (exfalso; revert u11; decide)
      rw [c11] at h
      cases st with
      | nil => cases h
      | cons a s =>
        obtain rfl := Option.some.inj h
        rw [List.length_cons] at hl
        obtain ⟨y, a1, a2, a3⟩ := pop_ok hs (by omega)
        obtain ⟨y2, b1, b2, b3⟩ := push_ok (v := 1 - a) a2 (by omega)
        refine ⟨y2, b2, by rw [List.length_cons]; omega, fr_tr a3 b3 (by decide), fun m => ?_⟩
        rw [go, if_neg (by rw [q1, u11]; decide), if_neg (by rw [q1, u11]; decide), if_pos (by rw [q1, u11]), bd2_eq a1, bd_eq b1]
    · obtain ⟨-, ⟨u0, u1⟩, hop⟩ := one_eq hu u11 0 0
      rw [← q0] at hop
      cases st with
      | nil =>
        exfalso
        have : (if 0 ≤ c i then some [(c i).toInt64] else if (-312) < c i then none else some [W (-(c i))]) = some s2 := h
        rw [if_neg hop.1, if_pos hop.2.1] at this
        cases this
      | cons a s =>
        cases s with
        | nil =>
          exfalso
          rw [cst_1, if_neg hop.1, if_pos hop.2.1, if_neg hop.2.2] at h
          cases h
        | cons b s =>
          obtain rfl := Option.some.inj ((cst_op (W := W) (st := s) hop.1 hop.2.1 hop.2.2).symm.trans h)
          rw [List.length_cons, List.length_cons] at hl
          obtain ⟨y, a1, a2, a3⟩ := pop_ok hs (by rw [List.length_cons]; omega)
          obtain ⟨y2, b1, b2, b3⟩ := pop_ok a2 (by omega)
          obtain ⟨y3, d1, d2, d3⟩ := push_ok (v := jo (-(c i)) b a) b2 (by omega)
          refine ⟨y3, d2, by rw [List.length_cons]; omega, fr_tr (fr_tr a3 b3 (by decide)) d3 (by decide), fun m => ?_⟩
          have eo : fX9_one ((gT z 3 (400 * t + i)) &&& 15) b a = some (jo (-(c i)) b a) := by rw [q1, q0]; exact (one_eq hu u11 b a).1
          rw [go, if_neg (by rw [q1]; exact u0), if_neg (by rw [q1]; exact u1), if_neg (by rw [q1]; exact u11), bd2_eq a1, bd2_eq b1, bd_eq eo, bd_eq d1]
theorem ref_run (he : e ≤ 400) (ht : t < 6) : ∀ (g i m : Nat) (z : Sx) (st : List Int64), e - i = g → i ≤ e → g < m → (∀ w : Nat, w < 9 → gJ z 23 w = W (nI (312 + w))) → (∀ j : Nat, j < e → CM (c j) (gT z 3 (400 * t + j))) → RFS z st → st.length ≤ 32 → crun W c i g st = some [v] → ∃ y, lX9_reckons_8 k9 (nI t) (nI e) m z (nI i) = some (v, y) ∧ FrL [21, 22] z y := by
  intro g
  induction g with
  | zero =>
    intro i m z st hg hi hm hW hcm hs hl h
    obtain ⟨m, rfl⟩ : ∃ k, m = k + 1 := ⟨m - 1, by omega⟩
    have e2 : st = [v] := Option.some.inj h
    subst e2
    obtain ⟨y, a1, a2, a3⟩ := pop_ok hs (by rw [List.length_nil]; omega)
    refine ⟨y, ?_, a3⟩
    rw [lX9_reckons_8, if_pos (nI_le (by omega) (by omega))]
    show bd2 (fX9_pop z) (fun r30 z31 => some (r30, z31)) = _
    rw [bd2_eq a1]
  | succ g ih =>
    intro i m z st hg hi hm hW hcm hs hl h
    obtain ⟨m, rfl⟩ : ∃ k, m = k + 1 := ⟨m - 1, by omega⟩
    rw [crun_cons] at h
    obtain ⟨s2, e1, e2⟩ := bd_some h
    obtain ⟨y, a1, a2, a3, a4⟩ := ref_step (e := e) (t := t) (by omega) he ht hW (hcm i (by omega)) hs hl e1
    rw [a4]
    obtain ⟨y2, b1, b2⟩ := ih (i + 1) m y s2 (by omega) (by omega) (by omega) (fun w hw => by rw [(a3 23 (by decide)).2.2]; exact hW w hw) (fun j hj => by rw [(a3 3 (by decide)).2.1]; exact hcm j hj) a1 a2 e2
    exact ⟨y2, b1, fr_tr a3 b2 (by decide)⟩
theorem reckon_ref {b : Nat} (hb : b ≤ e) (he : e ≤ 400) (ht : t < 6) (hW : ∀ w : Nat, w < 9 → gJ z 23 w = W (nI (312 + w))) (hcm : ∀ j : Nat, j < e → CM (c j) (gT z 3 (400 * t + j))) (h : crun W c b (e - b) [] = some [v]) : ∃ y, fX9_reckons z (nI t) (nI b) (nI e) = some (v, y) ∧ FrL [21, 22] z y := by
  obtain ⟨y, e1, e2⟩ := ref_run (W := W) (c := c) (v := v) he ht (e - b) b FU (sI z 22 0) [] rfl hb (FU_lt (by omega)) hW hcm ⟨rfl, trivial⟩ (by rw [List.length_nil]; omega) h
  exact ⟨y, e1, fr_tr (fr_I fr_rf (by decide)) e2 (by decide)⟩
end RF

/-! Both sides reckon a stretch alike. -/
def STL (A : Nat → Int64) : List Int64 → Prop
  | [] => True
  | v :: s => A s.length = v ∧ STL A s
def tp : List Int64 → Int32
  | [] => -1
  | _ :: s => nI s.length
theorem stl_upd {A : Nat → Int64} {v : Int64} {j : Nat} : ∀ s : List Int64, STL A s → s.length ≤ j → STL (vp_updL A j v) s := by
  intro s
  induction s with
  | nil => intro _ _; trivial
  | cons c s ih =>
    intro h hj
    rw [List.length_cons] at hj
    exact ⟨(show vp_updL A j v s.length = A s.length from if_neg (by omega)).trans h.1, ih h.2 (by omega)⟩
theorem stl_put {A : Nat → Int64} {v : Int64} {s : List Int64} (h : STL A s) : STL (vp_updL A s.length v) (v :: s) := ⟨(show vp_updL A s.length v s.length = v from if_pos rfl), stl_upd s h (Nat.le_refl _)⟩
theorem tp1 {st : List Int64} : tp st + 1 = nI st.length := by
  cases st with
  | nil => decide
  | cons x s => exact nI_1 _
section RE
variable {W : Int32 → Int64} {c : Nat → Int32} {b e n nc : Nat} {st s2 : List Int64} {z zw zd : Sx} {x6 : Int32}
theorem crun_cons : crun W c b (n + 1) st = bd (cst W (c b) st) (fun s => crun W c (b + 1) n s) := by
  rw [Nat.add_comm, crun_add]
  show bd (bd (some st) (cst W (c (b + 0)))) _ = _
  rw [bd_eq rfl, Nat.add_zero]
def kk2 : Sx → Int32 → Option (Int64 × Sx) := fun (z26 : Sx) (i27 : Int32) => if 0 ≤ i27 then gd (inb i27 32) (some (gJ z26 0 i27.toNatClampNeg, z26)) else some (0, z26)
theorem nI_ge0 {n : Nat} (h : n < 2147483648) : (0 : Int32) ≤ nI n := nI_le (a := 0) (by omega) h
theorem class_push {v : Int64} {i m : Nat} (hi : i < e) (hc : i < nc) (hn : nc < 2147483648) (he : e < 2147483648) (hs : STL (gJ z 0) st) (hl : st.length < 32) (hv : (0 ≤ c i ∧ v = (c i).toInt64) ∨ (¬ 0 ≤ c i ∧ ¬ (-312) < c i ∧ fX2_wordOf zw zd (-(c i)) x6 = some v)) : lX2_reckon_10 kk2 nc c zw zd (nI e) x6 (m + 1) z (tp st) (nI i) = lX2_reckon_10 kk2 nc c zw zd (nI e) x6 m (sJ z 0 st.length v) (tp (v :: st)) (nI (i + 1)) := by
  have t2 : tp (v :: st) = nI st.length := rfl
  rw [lX2_reckon_10, if_neg (nI_ge hi he), if_neg (nI_ge hc hn), gd_pos (in_n hc (by omega)), nI_clamp (by omega), tp1, nI_1, t2]
  simp only [jn]
  have l32 : nI st.length < 32 := nI_lt (b := 32) hl (by decide)
  rcases hv with ⟨h0, h1⟩ | ⟨h0, h1, h2⟩
  · have n0 : ¬ c i < 0 := fun k => by
      have a := bI_le (show (0 : Int32).toInt = 0 by decide) rfl h0
      have b := bI_lt rfl (show (0 : Int32).toInt = 0 by decide) k
      omega
    rw [if_pos h0, if_pos l32, if_neg n0, gd_pos (in_n hl (by omega)), nI_clamp (by omega), h1]
  · have n0 : c i < 0 := (i32_lt _ _).2 (by
      have a := bI_nle (show (0 : Int32).toInt = 0 by decide) rfl h0
      rw [show (0 : Int32).toInt = 0 by decide]; omega)
    rw [if_neg h0, if_neg h1, if_pos l32, if_pos n0, bd_eq h2, gd_pos (in_n hl (by omega)), nI_clamp (by omega)]
theorem class_step {i : Nat} (hi : i < e) (hc : i < nc) (hn : nc < 2147483648) (he : e < 2147483648) (hW : ∀ w : Nat, w < 9 → fX2_wordOf zw zd (nI (312 + w)) x6 = some (W (nI (312 + w)))) (hcm : ∃ s, CM (c i) s) (hs : STL (gJ z 0) st) (hl : st.length ≤ 32) (h : cst W (c i) st = some s2) : ∃ z2, STL (gJ z2 0) s2 ∧ s2.length ≤ 32 ∧ ∀ m, lX2_reckon_10 kk2 nc c zw zd (nI e) x6 (m + 1) z (tp st) (nI i) = lX2_reckon_10 kk2 nc c zw zd (nI e) x6 m z2 (tp s2) (nI (i + 1)) := by
  have i0 : (0 : Int32).toInt = 0 := by decide
  have m312 : (-312 : Int32).toInt = -312 := by decide
  obtain ⟨s, hcm⟩ := hcm
  have hw : ¬ 0 ≤ c i → ¬ (-312) < c i → fX2_wordOf zw zd (-(c i)) x6 = some (W (-(c i))) := by
    intro h0 h1
    rcases hcm with ⟨q, -, -⟩ | ⟨w, w9, q, -⟩ | ⟨v, hv, q, -⟩
    · exact absurd ((i32_le _ _).2 (by rw [i0]; exact q)) h0
    · rw [q, Int32.neg_neg]
      exact hW w w9
    · exfalso
      rw [q] at h1
      revert h1
      unfold opc at hv
      simp only [List.mem_cons, List.not_mem_nil, or_false] at hv
      rcases hv with rfl | rfl | rfl | rfl | rfl | rfl | rfl | rfl | rfl | rfl | rfl | rfl <;> decide
  by_cases h0 : 0 ≤ c i
  · have hl2 : st.length < 32 ∧ s2 = (c i).toInt64 :: st := by
      cases st with
      | nil =>
        have : (if 0 ≤ c i then some [(c i).toInt64] else if (-312) < c i then none else some [W (-(c i))]) = some s2 := h
        rw [if_pos h0] at this
        exact ⟨by rw [List.length_nil]; omega, (Option.some.inj this).symm⟩
      | cons x s =>
        rw [cst_c] at h
        rw [if_pos h0] at h
        by_cases q : s.length < 31
        · rw [if_pos q] at h
          exact ⟨by rw [List.length_cons]; omega, (Option.some.inj h).symm⟩
        · rw [if_neg q] at h; cases h
    obtain ⟨hl2, rfl⟩ := hl2
    exact ⟨sJ z 0 st.length (c i).toInt64, stl_put hs, by rw [List.length_cons]; omega, fun m => class_push hi hc hn he hs hl2 (Or.inl ⟨h0, rfl⟩)⟩
  by_cases h1 : (-312) < c i
  · cases st with
    | nil =>
      have : (if 0 ≤ c i then some [(c i).toInt64] else if (-312) < c i then none else some [W (-(c i))]) = some s2 := h
      rw [if_neg h0, if_pos h1] at this
      cases this
    | cons x s =>
      rw [List.length_cons] at hl
      have tpx : tp (x :: s) = nI s.length := rfl
      by_cases h11 : c i = (-311)
      · rw [h11] at h
        have e2 : s2 = (1 - x) :: s := (Option.some.inj h).symm
        subst e2
        refine ⟨sJ z 0 s.length (1 - x), stl_put hs.2, by rw [List.length_cons]; omega, fun m => ?_⟩
        have gx : gJ z 0 s.length = x := hs.1
        rw [lX2_reckon_10, if_neg (nI_ge hi he), if_neg (nI_ge hc hn), gd_pos (in_n hc (by omega)), nI_clamp (by omega), nI_1, tpx]
        simp only [jn]
        rw [if_neg h0, if_pos h1, if_pos h11, if_pos (nI_ge0 (by omega)), gd_pos (in_n (by omega) (by omega)), nI_clamp (by omega), gx]
        rfl
      · cases s with
        | nil =>
          exfalso
          rw [cst_1, if_neg h0, if_pos h1, if_neg h11] at h
          cases h
        | cons y s =>
          have h := (cst_op (st := s) h0 h1 h11).symm.trans h
          have e2 : s2 = jo (-(c i)) y x :: s := (Option.some.inj h).symm
          subst e2
          rw [List.length_cons] at hl
          refine ⟨sJ z 0 s.length (jo (-(c i)) y x), stl_put hs.2.2, by rw [List.length_cons]; omega, fun m => ?_⟩
          have gx : gJ z 0 (s.length + 1) = x := hs.1
          have gy : gJ z 0 s.length = y := hs.2.1
          have em : nI (s.length + 1) + (-1) = nI s.length := by
            rw [← nI_1, Int32.add_assoc, show (1 : Int32) + (-1) = 0 by decide, Int32.add_zero]
          rw [lX2_reckon_10, if_neg (nI_ge hi he), if_neg (nI_ge hc hn), gd_pos (in_n hc (by omega)), nI_clamp (by omega), nI_1, tpx, List.length_cons]
          simp only [jn]
          rw [if_neg h0, if_pos h1, if_neg h11, if_pos (show (1 : Int32) ≤ nI (s.length + 1) from nI_le (a := 1) (by omega) (by omega)), em, nI_1, gd_pos (in_n (by omega) (by omega)), gd_pos (in_n (by omega) (by omega)), nI_clamp (by omega), nI_clamp (by omega), gx, gy, bd_eq join_eq]
          rfl
  · have hl2 : st.length < 32 ∧ s2 = W (-(c i)) :: st := by
      cases st with
      | nil =>
        have : (if 0 ≤ c i then some [(c i).toInt64] else if (-312) < c i then none else some [W (-(c i))]) = some s2 := h
        rw [if_neg h0, if_neg h1] at this
        exact ⟨by rw [List.length_nil]; omega, (Option.some.inj this).symm⟩
      | cons x s =>
        rw [cst_c] at h
        rw [if_neg h0, if_neg h1] at h
        by_cases q : s.length < 31
        · rw [if_pos q] at h
          exact ⟨by rw [List.length_cons]; omega, (Option.some.inj h).symm⟩
        · rw [if_neg q] at h; cases h
    obtain ⟨hl2, rfl⟩ := hl2
    exact ⟨sJ z 0 st.length (W (-(c i))), stl_put hs, by rw [List.length_cons]; omega, fun m => class_push hi hc hn he hs hl2 (Or.inr ⟨h0, h1, hw h0 h1⟩)⟩
theorem class_run {v : Int64} (hec : e ≤ nc) (hn : nc < 2147483648) (hW : ∀ w : Nat, w < 9 → fX2_wordOf zw zd (nI (312 + w)) x6 = some (W (nI (312 + w)))) (hcm : ∀ i : Nat, i < e → ∃ s, CM (c i) s) : ∀ (g i m : Nat) (z : Sx) (st : List Int64), e - i = g → i ≤ e → g < m → STL (gJ z 0) st → st.length ≤ 32 → crun W c i g st = some [v] → ∃ w, lX2_reckon_10 kk2 nc c zw zd (nI e) x6 m z (tp st) (nI i) = some (v, w) := by
  intro g
  induction g with
  | zero =>
    intro i m z st hg hi hm hs hl h
    obtain ⟨m, rfl⟩ : ∃ k, m = k + 1 := ⟨m - 1, by omega⟩
    have e2 : st = [v] := Option.some.inj h
    subst e2
    refine ⟨z, ?_⟩
    rw [lX2_reckon_10, if_pos (nI_le (by omega) (by omega))]
    show (if (0 : Int32) ≤ nI 0 then gd (inb (nI 0) 32) (some (gJ z 0 (nI 0).toNatClampNeg, z)) else some (0, z)) = _
    rw [if_pos (nI_ge0 (by omega)), gd_pos (in_n (by omega) (by omega)), nI_clamp (by omega)]
    have : gJ z 0 0 = v := hs.1
    rw [this]
  | succ g ih =>
    intro i m z st hg hi hm hs hl h
    obtain ⟨m, rfl⟩ : ∃ k, m = k + 1 := ⟨m - 1, by omega⟩
    rw [crun_cons] at h
    obtain ⟨s2, e1, e2⟩ := bd_some h
    obtain ⟨z2, a1, a2, a3⟩ := class_step (i := i) (e := e) (nc := nc) (zw := zw) (zd := zd) (x6 := x6) (by omega) (by omega) hn (by omega) hW (hcm i (by omega)) hs hl e1
    rw [a3]
    exact ih (i + 1) m z2 s2 (by omega) (by omega) (by omega) a1 a2 e2
theorem reckon_class {v : Int64} {b : Nat} (hb : b ≤ e) (hec : e ≤ nc) (hn : nc < 2147483648) (hW : ∀ w : Nat, w < 9 → fX2_wordOf zw zd (nI (312 + w)) x6 = some (W (nI (312 + w)))) (hcm : ∀ i : Nat, i < e → ∃ s, CM (c i) s) (h : crun W c b (e - b) [] = some [v]) : ∃ w, fX2_reckon z nc c zw zd (nI b) (nI e) x6 = some (v, w) := by
  have em : mxI (nI b) 0 = nI b := by
    unfold mxI
    rw [if_neg (nI_pos (by omega))]
  obtain ⟨w, e1⟩ := class_run (zw := zw) (zd := zd) (x6 := x6) hec hn hW hcm (e - b) b FU z [] rfl hb (FU_lt (by omega)) trivial (by rw [List.length_nil]; omega) h
  refine ⟨w, ?_⟩
  unfold fX2_reckon
  rw [em]
  exact e1
end RE

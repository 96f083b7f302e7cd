/-! The class opens a text: its tokens in a row, and the END behind them. -/
abbrev Tk : Type := Int32 × Int32 × Int32
noncomputable def TL (f : Nat → Int32) (N : Nat) : Nat → Nat → List Tk
  | 0, _ => []
  | g + 1, p => if p < N then (if f p = 32 then TL f N g (p + 1) else (tkc f N p, nI p, tkn f N p) :: TL f N g (tkx f N p)) else []
noncomputable def TK (f : Nat → Int32) (N p : Nat) : List Tk := TL f N (N - p) p
section TKS
variable {f : Nat → Int32} {N : Nat}
theorem tkx_gt {p : Nat} (hp : p < N) : p < tkx f N p ∧ tkx f N p ≤ N := by
  unfold tkx
  by_cases c1 : isD (f p) = true
  · rw [if_pos c1, rq_step ⟨hp, c1⟩]
    have h1 := rq_ge (P := isD) (b := f) (N := N) (p := p + 1)
    have h2 := rq_le (P := isD) (b := f) (N := N) (p := p + 1) (by omega)
    omega
  rw [if_neg c1]
  by_cases c2 : isL (f p) = true
  · rw [if_pos c2, rq_step ⟨hp, c2⟩]
    have h1 := rq_ge (P := isL) (b := f) (N := N) (p := p + 1)
    have h2 := rq_le (P := isL) (b := f) (N := N) (p := p + 1) (by omega)
    omega
  rw [if_neg c2]
  by_cases c3 : wid f N p
  · rw [if_pos c3]; have := c3.2.1; omega
  · rw [if_neg c3]; omega
theorem tl_fuel : ∀ (g g2 p : Nat), N - p ≤ g → N - p ≤ g2 → TL f N g p = TL f N g2 p := by
  intro g
  induction g with
  | zero =>
    intro g2 p h1 h2
    cases g2 with
    | zero => rfl
    | succ g2 => rw [TL, TL, if_neg (by omega)]
  | succ g ih =>
    intro g2 p h1 h2
    cases g2 with
    | zero => rw [TL, TL, if_neg (by omega)]
    | succ g2 =>
      rw [TL, TL]
      by_cases c : p < N
      · rw [if_pos c, if_pos c]
        have hx := tkx_gt (f := f) c
        by_cases d : f p = 32
        · rw [if_pos d, if_pos d]; exact ih g2 (p + 1) (by omega) (by omega)
        · rw [if_neg d, if_neg d, ih g2 (tkx f N p) (by omega) (by omega)]
      · rw [if_neg c, if_neg c]
theorem tk_end {p : Nat} (h : N ≤ p) : TK f N p = [] := by
  unfold TK
  rw [show N - p = 0 by omega]; rfl
theorem tk_blank {p : Nat} (h : p < N) (hb : f p = 32) : TK f N p = TK f N (p + 1) := by
  unfold TK
  rw [show N - p = (N - (p + 1)) + 1 by omega, TL, if_pos h, if_pos hb]
theorem tk_tok {p : Nat} (h : p < N) (hb : ¬ f p = 32) : TK f N p = (tkc f N p, nI p, tkn f N p) :: TK f N (tkx f N p) := by
  have hx := tkx_gt (f := f) h
  unfold TK
  rw [show N - p = (N - (p + 1)) + 1 by omega, TL, if_pos h, if_neg hb, tl_fuel (N - (p + 1)) (N - tkx f N p) (tkx f N p) (by omega) (by omega)]
theorem isB_iff {x : Int32} : isB x = true ↔ x = 32 := by
  unfold isB; exact beq_iff_eq
theorem tk_skip : ∀ (g p : Nat), N - p = g → TK f N p = TK f N (rnP isB f N p) := by
  intro g
  induction g with
  | zero => intro p hp; rw [rq_stop (fun h => by omega)]
  | succ g ih =>
    intro p hp
    by_cases c : p < N ∧ isB (f p) = true
    · rw [rq_step c, tk_blank c.1 (isB_iff.1 c.2)]; exact ih (p + 1) (by omega)
    · rw [rq_stop c]
end TKS
/-- a row of tokens stands in the Text -/
def HOLD (z : Sx) (L : List Tk) : Prop := gI z 3 = nI L.length ∧ ∀ (i : Nat) (t : Tk), L[i]? = some t → gT z 0 i = t.1 ∧ gT z 1 i = t.2.1 ∧ gT z 2 i = t.2.2
theorem add_hold {z : Sx} {L : List Tk} {c p n : Int32} (h : HOLD z L) (hl : L.length ≤ 400) : ∃ z1, fX6_addToken z c p n = some z1 ∧ HOLD z1 (L ++ [(c, p, n)]) := by
  unfold fX6_addToken
  obtain ⟨h3, ha⟩ := h
  have e1 : (nI L.length).toNatClampNeg = L.length := nI_clamp (by omega)
  refine ⟨_, by rw [h3, if_neg (nI_pos (by omega)), if_neg (show ¬ (401 : Int32) ≤ nI L.length from nI_ge (a := L.length) (b := 401) (by omega) (by decide)), gd_pos ⟨nI_pos (by omega), by rw [e1]; omega⟩], ?_, ?_⟩
  · rw [List.length_append]
    exact nI_1 L.length
  · intro i t ht
    rw [e1]
    have s0 : ∀ j, gT (sI (sT (sT (sT z 0 L.length c) 1 L.length p) 2 L.length n) 3 (nI L.length + 1)) 0 j = upd (gT z 0) L.length c j := fun _ => rfl
    have s1 : ∀ j, gT (sI (sT (sT (sT z 0 L.length c) 1 L.length p) 2 L.length n) 3 (nI L.length + 1)) 1 j = upd (gT z 1) L.length p j := fun _ => rfl
    have s2 : ∀ j, gT (sI (sT (sT (sT z 0 L.length c) 1 L.length p) 2 L.length n) 3 (nI L.length + 1)) 2 j = upd (gT z 2) L.length n j := fun _ => rfl
    rw [s0, s1, s2]
    by_cases q : i = L.length
    · subst q
      rw [List.getElem?_append_right (Nat.le_refl _), Nat.sub_self] at ht
      obtain rfl := Option.some.inj ht
      exact ⟨if_pos rfl, if_pos rfl, if_pos rfl⟩
    · have hi : i < L.length := by
        have := (List.getElem?_eq_some_iff.1 ht).1
        rw [List.length_append, List.length_singleton] at this
        omega
      rw [List.getElem?_append_left hi] at ht
      obtain ⟨a, b, d⟩ := ha i t ht
      exact ⟨(if_neg q).trans a, (if_neg q).trans b, (if_neg q).trans d⟩
theorem op_run {k : Sx → Option Sx} {f : Nat → Int32} {N : Nat} (hN : N ≤ 400) : ∀ (n p t : Nat) (z : Sx) (L : List Tk), HOLD z L → L.length ≤ t → t ≤ p → p ≤ N → N - p < n → ∃ z1, HOLD z1 (L ++ TK f N p) ∧ (L ++ TK f N p).length ≤ 400 ∧ lX6_open_10 k 400 f (nI N) n z (nI p) (nI t) = k z1 := by
  intro n
  induction n with
  | zero => intro p _ _ _ _ _ _ _ hm; omega
  | succ n ih =>
    intro p t z L hH hL ht hp hm
    rw [lX6_open_10]
    by_cases c : p < N
    · rw [if_neg (show ¬ (400 : Int32) ≤ nI t from nI_ge (a := t) (b := 400) (by omega) (by decide)), if_neg (nI_ge c (by omega)), ct_token c hN]
      have hx := tkx_gt (f := f) c
      by_cases d : f p = 32
      · rw [if_pos d, bd2_eq rfl, nI_1, tk_blank c d]
        exact ih (p + 1) (t + 1) z L hH (by omega) (by omega) (by omega) (by omega)
      · rw [if_neg d]
        obtain ⟨z1, e1, h1⟩ := add_hold (c := tkc f N p) (p := nI p) (n := tkn f N p) hH (by omega)
        rw [bd_eq e1, bd2_eq rfl, nI_1, tk_tok c d]
        obtain ⟨z2, a1, a2, a3⟩ := ih (tkx f N p) (t + 1) z1 (L ++ [(tkc f N p, nI p, tkn f N p)]) h1 (by rw [List.length_append, List.length_singleton]; omega) (by omega) (by omega) (by omega)
        rw [List.append_assoc] at a1 a2
        exact ⟨z2, a1, a2, a3⟩
    · rw [tk_end (by omega), List.append_nil]
      refine ⟨z, hH, by omega, ?_⟩
      by_cases g : (400 : Int32) ≤ nI t
      · rw [if_pos g]
      · rw [if_neg g, if_pos (nI_le (by omega) (by omega))]
/-- the Text stands at its token k -/
def CUR (z : Sx) (L : List Tk) (k : Nat) : Prop := HOLD z L ∧ L.length ≤ 401 ∧ gI z 4 = nI (k + 1) ∧ ∃ t, L[k]? = some t ∧ gI z 5 = t.1 ∧ gI z 6 = t.2.1 ∧ gI z 7 = t.2.2
theorem step_go {z : Sx} {L : List Tk} {j : Nat} {t : Tk} (h : HOLD z L) (hl : L.length ≤ 401) (h4 : gI z 4 = nI j) (ht : L[j]? = some t) : ∃ z1, fX6_step z = some z1 ∧ CUR z1 L j ∧ gI z1 8 = gI z 8 := by
  have hj : j < L.length := (List.getElem?_eq_some_iff.1 ht).1
  obtain ⟨h3, ha⟩ := id h
  obtain ⟨a, b, d⟩ := ha j t ht
  have e1 : (nI j).toNatClampNeg = j := nI_clamp (by omega)
  unfold fX6_step
  refine ⟨sI (sI (sI (sI z 5 (gT z 0 j)) 6 (gT z 1 j)) 7 (gT z 2 j)) 4 (nI (j + 1)), ?_, ⟨⟨h3, ha⟩, hl, rfl, t, ht, a, b, d⟩, rfl⟩
  rw [h4, h3, if_neg (nI_pos (by omega)), if_neg (nI_ge hj (by omega)), if_neg (show ¬ (401 : Int32) ≤ nI j from nI_ge (a := j) (b := 401) (by omega) (by decide)), gd_pos ⟨nI_pos (by omega), by rw [e1]; omega⟩, e1, nI_1]
  rfl
theorem open_cur {f : Nat → Int32} {N : Nat} {z : Sx} (hN : N ≤ 400) : ∃ z1, fX6_open z 400 f (nI N) = some z1 ∧ CUR z1 (TK f N 0 ++ [(300, nI N, 0)]) 0 ∧ gI z1 8 = 0 := by
  unfold fX6_open
  obtain ⟨z1, a1, a2, a3⟩ := op_run (k := fun (z6 : Sx) => bd (fX6_addToken z6 300 (nI N) 0) (fun z8 => bd (fX6_step (sI (sI z8 8 0) 4 0)) (fun z10 => some z10))) (f := f) hN FU 0 0 (sI z 3 0) [] ⟨nI_0.symm, fun i t h => by cases h⟩ (Nat.le_refl 0) (Nat.le_refl 0) (by omega) (FU_lt (by omega))
  rw [List.nil_append] at a1 a2
  rw [nI_0] at a3
  obtain ⟨z2, b1, b2⟩ := add_hold (c := 300) (p := nI N) (n := 0) a1 a2
  have hlen : (TK f N 0 ++ [((300 : Int32), nI N, (0 : Int32))]).length ≤ 401 := by rw [List.length_append, List.length_singleton]; omega
  obtain ⟨t, ht⟩ : ∃ t, (TK f N 0 ++ [((300 : Int32), nI N, (0 : Int32))])[0]? = some t := by
    cases hT : TK f N 0 with
    | nil => exact ⟨_, rfl⟩
    | cons x l => exact ⟨_, rfl⟩
  obtain ⟨z3, c1, c2, c3⟩ := step_go (z := sI (sI z2 8 0) 4 0) (j := 0) b2 hlen nI_0.symm ht
  refine ⟨z3, ?_, c2, c3⟩
  refine Eq.trans a3 ?_
  show bd (fX6_addToken z1 300 (nI N) 0) (fun z8 => bd (fX6_step (sI (sI z8 8 0) 4 0)) (fun z10 => some z10)) = some z3
  rw [bd_eq b1, bd_eq c1]
/-- the Text stands before the signs from p on -/
def AT (f : Nat → Int32) (N : Nat) (z : Sx) (p : Nat) : Prop := ∃ (L : List Tk) (k : Nat), CUR z L k ∧ L.drop k = TK f N p ++ [(300, nI N, 0)]
section ATS
variable {f : Nat → Int32} {N p : Nat} {z : Sx}
theorem at_open (hN : N ≤ 400) : ∃ z1, fX6_open z 400 f (nI N) = some z1 ∧ AT f N z1 0 ∧ gI z1 8 = 0 := by
  obtain ⟨z1, a, b, c⟩ := open_cur (f := f) (z := z) hN
  exact ⟨z1, a, ⟨_, 0, b, rfl⟩, c⟩
theorem drop_at {L : List Tk} {k : Nat} {t : Tk} {l : List Tk} (h : L.drop k = t :: l) : L[k]? = some t ∧ L.drop (k + 1) = l := by
  have h1 : (L.drop k)[0]? = some t := by rw [h]; rfl
  rw [List.getElem?_drop] at h1
  refine ⟨h1, ?_⟩
  have h2 : (L.drop k).drop 1 = l := by rw [h]; rfl
  rw [List.drop_drop] at h2
  first | exact h2 | (rw [Nat.add_comm] at h2; exact h2)
theorem at_tok (h : AT f N z p) (hq : rnP isB f N p < N) : gI z 5 = tkc f N (rnP isB f N p) ∧ gI z 6 = nI (rnP isB f N p) ∧ gI z 7 = tkn f N (rnP isB f N p) ∧ ∃ z1, fX6_step z = some z1 ∧ AT f N z1 (tkx f N (rnP isB f N p)) ∧ gI z1 8 = gI z 8 := by
  obtain ⟨L, k, ⟨h1, hl, h4, t, ht, e5, e6, e7⟩, hd⟩ := h
  have nb : ¬ f (rnP isB f N p) = 32 := fun e => by have := rq_end hq; rw [isB_iff.2 e] at this; cases this
  rw [tk_skip (N - p) p rfl, tk_tok hq nb, List.cons_append] at hd
  obtain ⟨d1, d2⟩ := drop_at hd
  rw [ht] at d1
  obtain rfl := Option.some.inj d1
  obtain ⟨t2, l2, hc⟩ : ∃ t2 l2, TK f N (tkx f N (rnP isB f N p)) ++ [((300 : Int32), nI N, (0 : Int32))] = t2 :: l2 := by
    cases TK f N (tkx f N (rnP isB f N p)) with
    | nil => exact ⟨_, _, rfl⟩
    | cons x l => exact ⟨_, _, rfl⟩
  obtain ⟨g1, g2⟩ := drop_at (d2.trans hc)
  obtain ⟨z1, s1, s2, s3⟩ := step_go h1 hl h4 g1
  exact ⟨e5, e6, e7, z1, s1, ⟨L, k + 1, s2, d2⟩, s3⟩
theorem at_end (h : AT f N z p) (hq : N ≤ rnP isB f N p) : gI z 5 = 300 ∧ gI z 6 = nI N ∧ gI z 7 = 0 := by
  obtain ⟨L, k, ⟨h1, hl, h4, t, ht, e5, e6, e7⟩, hd⟩ := h
  rw [tk_skip (N - p) p rfl, tk_end hq, List.nil_append] at hd
  obtain ⟨d1, d2⟩ := drop_at hd
  rw [ht] at d1
  obtain rfl := Option.some.inj d1
  exact ⟨e5, e6, e7⟩
theorem at_8 {v : Int32} (h : AT f N z p) : AT f N (sI z 8 v) p := h
theorem at_sk (h : AT f N z p) : AT f N z (rnP isB f N p) := by
  obtain ⟨L, k, c, hd⟩ := h
  exact ⟨L, k, c, by rw [hd, tk_skip (N - p) p rfl]⟩
end ATS

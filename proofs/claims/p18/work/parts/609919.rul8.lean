/-! What stands open: the reference's row of signs that wait. -/
def STK (T : Nat → Int32) : List Int32 → Prop
  | [] => True
  | c :: s => T s.length = c ∧ STK T s
def dpt : List Int32 → Nat
  | [] => 0
  | c :: s => dpt s + (if c = 11 ∨ c = 91 then 1 else 0)
def SK (z : Sx) (s : List Int32) : Prop := gI z 20 = nI s.length ∧ STK (gT z 19) s ∧ gI z 17 = nI (dpt s)
def ec (c : Int32) : Int32 := if c = 11 then -311 else if c = 12 then -310 else -309
def sth (c : Int32) : Int32 := if c = 13 then 1 else if c = 12 then 2 else if c = 11 then 3 else 0
theorem stk_upd {T : Nat → Int32} {v : Int32} {j : Nat} : ∀ s : List Int32, STK T s → s.length ≤ j → STK (upd T j v) s := by
  intro s
  induction s with
  | nil => intro _ _; trivial
  | cons c s ih =>
    intro h hj
    rw [List.length_cons] at hj
    exact ⟨(show upd T j v s.length = T s.length from if_neg (by omega)).trans h.1, ih h.2 (by omega)⟩
theorem stk_get {T : Nat → Int32} : ∀ s : List Int32, STK T s → ∀ i : Nat, i < s.length → T i ∈ s := by
  intro s
  induction s with
  | nil => intro _ i hi; cases hi
  | cons c s ih =>
    intro h i hi
    rw [List.length_cons] at hi
    by_cases k : i = s.length
    · rw [k, h.1]; exact List.mem_cons_self
    · exact List.mem_cons_of_mem _ (ih h.2 i (by omega))
theorem stk_mem {T : Nat → Int32} {c : Int32} : ∀ s : List Int32, STK T s → c ∈ s → ∃ i : Nat, i < s.length ∧ T i = c := by
  intro s
  induction s with
  | nil => intro _ h; cases h
  | cons d s ih =>
    intro h hm
    rw [List.length_cons]
    rcases List.mem_cons.1 hm with k | k
    · exact ⟨s.length, by omega, by rw [k]; exact h.1⟩
    · obtain ⟨i, h1, h2⟩ := ih h.2 k
      exact ⟨i, by omega, h2⟩
theorem sth_eq {c : Int32} : fX9_strength c = some (sth c) := by
  unfold fX9_strength sth
  by_cases a : c = 13
  · rw [if_pos a, if_pos a]
  rw [if_neg a, if_neg a]
  by_cases b : c = 12
  · rw [if_pos b, if_pos b]
  rw [if_neg b, if_neg b]
  by_cases d : c = 11
  · rw [if_pos d, if_pos d]
  rw [if_neg d, if_neg d]
section SKS
variable {f : Nat → Int32} {N t l p : Nat} {z4 z6 z9 : Sx} {s : List Int32}
theorem sk_fr {w9 : Sx} {L : List Nat} (h : SK z9 s) (hf : FrL L z9 w9) (hL : (L.contains 17 || L.contains 19 || L.contains 20) = false) : SK w9 s := by
  simp only [Bool.or_eq_false_iff] at hL
  unfold SK
  rw [(hf 17 hL.1.1).1, (hf 20 hL.2).1, (hf 19 hL.1.2).2.1]
  exact h
theorem rs_fr {w9 : Sx} {L : List Nat} (h : RS f N z4 z6 z9 t l p) (hf : FrL L z9 w9) (hL : (L.contains 0 || L.contains 1 || L.contains 12 || (L.contains 13 || L.contains 16) || (L.contains 3 || L.contains 4 || L.contains 15)) = false) : RS f N z4 z6 w9 t l p := by
  obtain ⟨hA, h8, h9, h13, hE, h3, hm⟩ := h
  obtain ⟨q1, q3⟩ := Bool.or_eq_false_iff.1 hL
  obtain ⟨q1, q2⟩ := Bool.or_eq_false_iff.1 q1
  obtain ⟨q4, q5⟩ := Bool.or_eq_false_iff.1 q2
  refine ⟨hA, h8, t9_fr h9 hf q1, (hf 13 q4).1.trans h13, em_9 hE hf q3, ?_, ?_⟩
  · rw [(hf 16 q5).1]; exact h3
  · rw [(hf 16 q5).1]; exact hm
theorem ins_run : ∀ (n i : Nat), SK z9 s → s.length ≤ 400 → i ≤ s.length → s.length - i < n → ((∃ j : Nat, i ≤ j ∧ j < s.length ∧ gT z9 19 j = 91) → lX9_isInside_2 z9 n (nI i) = some 1) ∧ ((∀ j : Nat, i ≤ j → j < s.length → ¬ gT z9 19 j = 91) → lX9_isInside_2 z9 n (nI i) = some 0) := by
  intro n
  induction n with
  | zero => intro i _ _ _ hm; omega
  | succ n ih =>
    intro i h hl hi hm
    rw [lX9_isInside_2, h.1]
    by_cases c : i < s.length
    · rw [if_neg (nI_ge c (by omega)), gd_pos ⟨nI_pos (by omega), by rw [nI_clamp (by omega)]; omega⟩, nI_clamp (by omega), nI_1]
      obtain ⟨a, b⟩ := ih (i + 1) h hl (by omega) (by omega)
      by_cases k : gT z9 19 i = 91
      · rw [if_pos k]
        exact ⟨fun _ => rfl, fun q => absurd k (q i (Nat.le_refl i) c)⟩
      · rw [if_neg k]
        refine ⟨fun ⟨j, j1, j2, j3⟩ => a ⟨j, ?_, j2, j3⟩, fun q => b (fun j j1 j2 => q j (by omega) j2)⟩
        by_cases e : j = i
        · rw [e] at j3; exact absurd j3 k
        · omega
    · rw [if_pos (nI_le (by omega) (by omega))]
      exact ⟨fun ⟨j, j1, j2, _⟩ => by omega, fun _ => rfl⟩
theorem ins_yes (h : SK z9 s) (hl : s.length ≤ 400) (hm : 91 ∈ s) : fX9_isInside z9 = some 1 := by
  obtain ⟨i, h1, h2⟩ := stk_mem s h.2.1 hm
  exact (ins_run FU 0 h hl (by omega) (FU_lt (by omega))).1 ⟨i, by omega, h1, h2⟩
theorem ins_no (h : SK z9 s) (hl : s.length ≤ 400) (hm : ∀ c ∈ s, ¬ c = 91) : fX9_isInside z9 = some 0 :=
  (ins_run FU 0 h hl (by omega) (FU_lt (by omega))).2 (fun j _ j2 => hm _ (stk_get s h.2.1 j j2))
theorem set_stop {m : Nat} {x : Int32} (h : SK z9 s) (hl : s.length ≤ 400) (hs : s = [] ∨ ∃ c s0, s = c :: s0 ∧ sth c < x) : lX9_settles_0 x (m + 1) z9 = some z9 := by
  rw [lX9_settles_0, h.1]
  rcases hs with rfl | ⟨c, s0, rfl, hc⟩
  · rw [if_pos (by decide)]
  · rw [List.length_cons] at hl ⊢
    have e1 : nI (s0.length + 1) - 1 = nI s0.length := nI_sub (b := 1) (by omega)
    have ev : gT z9 19 s0.length = c := h.2.1.1
    rw [if_neg (nI_nle (by omega) (by omega)), e1, gd_pos ⟨nI_pos (by omega), by rw [nI_clamp (by omega)]; omega⟩, nI_clamp (by omega), ev, bd_eq sth_eq, if_pos hc]
theorem pop1 {c : Int32} (h : RS f N z4 z6 z9 t l p) (hk : SK z9 (c :: s)) (hc : c = 11 ∨ c = 12 ∨ c = 13) (hl : l < p) (hs : s.length < 400) : ∃ u4 u9, fX4_emit z4 (ec c) = some u4 ∧ (∀ (m : Nat) (x : Int32), ¬ sth c < x → lX9_settles_0 x (m + 1) z9 = lX9_settles_0 x m u9) ∧ RS f N u4 z6 u9 t (l + 1) p ∧ SK u9 s ∧ FrL [1, 2] z4 u4 ∧ FrL [3, 4, 17, 20] z9 u9 := by
  obtain ⟨k1, k2, k3⟩ := hk
  rw [List.length_cons] at k1
  have e1 : nI (s.length + 1) - 1 = nI s.length := nI_sub (b := 1) (by omega)
  have ev : gT z9 19 s.length = c := k2.1
  have hr : RS f N z4 z6 (sI z9 20 (nI s.length)) t l p := rs_fr (L := [20]) h (fr_I fr_rf (by decide)) (by decide)
  have ho : CM (ec c) (c + 16 * 0) := by
    rcases hc with rfl | rfl | rfl
    · exact opc_cm (by decide)
    · exact opc_cm (by decide)
    · exact opc_cm (by decide)
  obtain ⟨w4, w9, a1, a2, a3, a4, a5⟩ := rs_emit (c := ec c) (x1 := c) (x2 := 0) hr hl ho
  have g20 : gI w9 20 = nI s.length := (a5 20 (by decide)).1
  have g19 : gT w9 19 = gT z9 19 := (a5 19 (by decide)).2.1
  have g17 : gI w9 17 = gI z9 17 := (a5 17 (by decide)).1
  have go : ∀ (m : Nat) (x : Int32), ¬ sth c < x → lX9_settles_0 x (m + 1) z9 = if c = 11 then lX9_settles_0 x m (sI w9 17 ((gI w9 17) - 1)) else lX9_settles_0 x m w9 := by
    intro m x hx
    have ev2 : gT (sI z9 20 (nI s.length)) 19 s.length = c := ev
    have ev3 : gT w9 19 s.length = c := by rw [g19]; exact ev
    have tl : (nI s.length).toNatClampNeg = s.length := nI_clamp (by omega)
    rw [lX9_settles_0, k1, if_neg (nI_nle (by omega) (by omega)), e1, gd_pos ⟨nI_pos (by omega), by rw [tl]; omega⟩, tl, ev, bd_eq sth_eq, if_neg hx, ev2, bd_eq a2, g20, gd_pos ⟨nI_pos (by omega), by rw [tl]; omega⟩, tl, ev3]
  by_cases c11 : c = 11
  · refine ⟨w4, sI w9 17 ((gI w9 17) - 1), a1, fun m x hx => (go m x hx).trans (if_pos c11), rs_fr (L := [17]) a3 (fr_I fr_rf (by decide)) (by decide), ⟨g20, by rw [show gT (sI w9 17 ((gI w9 17) - 1)) 19 = gT z9 19 from g19]; exact k2.2, ?_⟩, a4, fr_I (fr_tr (fr_I fr_rf (by decide)) a5 (by decide)) (by decide)⟩
    show gI w9 17 - 1 = nI (dpt s)
    have ed : dpt (c :: s) = dpt s + 1 := by
      show dpt s + (if c = 11 ∨ c = 91 then 1 else 0) = _
      rw [if_pos (Or.inl c11)]
    rw [g17, k3, ed]
    exact nI_sub (b := 1) (by omega)
  · refine ⟨w4, w9, a1, fun m x hx => (go m x hx).trans (if_neg c11), a3, ⟨g20, by rw [g19]; exact k2.2, ?_⟩, a4, fr_tr (fr_I fr_rf (by decide)) a5 (by decide)⟩
    have ed : dpt (c :: s) = dpt s := by
      show dpt s + (if c = 11 ∨ c = 91 then 1 else 0) = _
      have n91 : ¬ c = 91 := by rcases hc with k | k | k <;> (rw [k]; decide)
      rw [if_neg (fun k => k.elim c11 n91)]
      exact Nat.add_zero _
    rw [g17, k3, ed]
/-- codes that the class wrote ahead -/
def EMS (v : Sx) : List Int32 → Sx → Prop
  | [], w => v = w
  | c :: s, w => ∃ u, fX4_emit v (ec c) = some u ∧ EMS u s w
theorem ems_app {c : Int32} {w u : Sx} (h2 : fX4_emit w (ec c) = some u) : ∀ (a : List Int32) (v : Sx), EMS v a w → EMS v (a ++ [c]) u := by
  intro a
  induction a with
  | nil => intro v h; exact ⟨u, by rw [show v = w from h]; exact h2, rfl⟩
  | cons d a ih =>
    intro v h
    obtain ⟨x, x1, x2⟩ := h
    exact ⟨x, x1, ih x x2⟩
theorem set_all {w4 : Sx} {x : Int32} : ∀ (a : List Int32) (l : Nat) (v4 z9 : Sx), RS f N v4 z6 z9 t l p → SK z9 (a ++ s) → (∀ c ∈ a, (c = 12 ∨ c = 13) ∧ ¬ sth c < x) → EMS v4 a w4 → l + a.length ≤ p → (a ++ s).length ≤ 400 → ∃ u9, RS f N w4 z6 u9 t (l + a.length) p ∧ SK u9 s ∧ (∀ m : Nat, lX9_settles_0 x (m + a.length) z9 = lX9_settles_0 x m u9) ∧ FrL [1, 2] v4 w4 ∧ FrL [3, 4, 17, 20] z9 u9 := by
  intro a
  induction a with
  | nil =>
    intro l v4 z9 h hk _ he _ _
    have he : v4 = w4 := he
    rw [← he]
    exact ⟨z9, h, hk, fun m => rfl, fr_rf, fr_rf⟩
  | cons c a ih =>
    intro l v4 z9 h hk hc he hl hs
    obtain ⟨u, e1, e2⟩ := he
    rw [List.length_cons] at hl ⊢
    rw [List.cons_append, List.length_cons] at hs
    have hcc := hc c List.mem_cons_self
    have hk : SK z9 (c :: (a ++ s)) := hk
    obtain ⟨u4, u9, b1, b2, b3, b4, b5, b6⟩ := pop1 (s := a ++ s) h hk (Or.inr hcc.1) (by omega) (by omega)
    rw [e1] at b1
    obtain rfl := Option.some.inj b1
    obtain ⟨y9, d1, d2, d3, d4, d5⟩ := ih (l + 1) u u9 b3 b4 (fun d hd => hc d (List.mem_cons_of_mem _ hd)) e2 (by omega) (by omega)
    refine ⟨y9, by rw [show l + (a.length + 1) = l + 1 + a.length by omega]; exact d1, d2, fun m => ?_, fr_tr b5 d4 (by decide), fr_tr b6 d5 (by decide)⟩
    rw [← Nat.add_assoc, b2 _ _ hcc.2, d3]
/-- a sign is laid on -/
theorem sk_push {c : Int32} (hk : SK z9 s) (hs : s.length < 400) (hc : c = 12 ∨ c = 13) : inb (gI z9 20) 400 ∧ SK (sI (sT z9 19 ((gI z9 20).toNatClampNeg) c) 20 ((gI z9 20) + 1)) (c :: s) := by
  obtain ⟨k1, k2, k3⟩ := hk
  have tl : (nI s.length).toNatClampNeg = s.length := nI_clamp (by omega)
  rw [k1]
  refine ⟨⟨nI_pos (by omega), by rw [tl]; omega⟩, nI_1 _, ?_, ?_⟩
  · rw [tl]
    show STK (upd (gT z9 19) s.length c) (c :: s)
    exact ⟨if_pos rfl, stk_upd s k2 (Nat.le_refl _)⟩
  · show gI z9 17 = nI (dpt s + (if c = 11 ∨ c = 91 then 1 else 0))
    have : ¬ (c = 11 ∨ c = 91) := by rcases hc with k | k <;> (rw [k]; decide)
    rw [if_neg this]
    exact k3
theorem opens_ok {c : Int32} (hk : SK z9 s) (hs : s.length < 400) (hd : dpt s < 10) (hc : c = 11 ∨ c = 91) : ∃ w9, fX9_opens z9 c = some (1, w9) ∧ SK w9 (c :: s) ∧ FrL [17, 19, 20] z9 w9 := by
  obtain ⟨k1, k2, k3⟩ := hk
  have tl : (nI s.length).toNatClampNeg = s.length := nI_clamp (by omega)
  refine ⟨sI (sT (sI z9 17 ((gI z9 17) + 1)) 19 s.length c) 20 (nI s.length + 1), ?_, ⟨nI_1 _, ?_, ?_⟩, fr_I (fr_T (fr_I fr_rf (by decide)) (by decide)) (by decide)⟩
  · unfold fX9_opens
    rw [k3, if_neg (fun k => by have := (nI_eq (b := 10) (by omega) (by decide)).1 k; omega), k1, gd_pos ⟨nI_pos (by omega), by rw [tl]; omega⟩, tl]
  · show STK (upd (gT z9 19) s.length c) (c :: s)
    exact ⟨if_pos rfl, stk_upd s k2 (Nat.le_refl _)⟩
  · show gI z9 17 + 1 = nI (dpt s + (if c = 11 ∨ c = 91 then 1 else 0))
    rw [if_pos hc, k3, nI_1]
theorem opens_no {c : Int32} {q : Nat} (hk : SK z9 s) (hd : dpt s = 10) (h12 : gI z9 12 = nI q) (h13 : gI z9 13 = 0) : fX9_opens z9 c = some (0, sI z9 13 (flt q 2)) := by
  unfold fX9_opens
  rw [hk.2.2, hd, if_pos (show nI 10 = 10 from rfl), h12, bd2_eq fails9, gd_pos (Or.inl rfl), failz_e h13]
/-- both pass a word -/
theorem wd_step {w : Nat} (hw : w < 17) (h : RS f N z4 z6 z9 t l p) (hd : WD f N (rnP isB f N p) w) : ∃ w6, fX6_step z6 = some w6 ∧ RS f N z4 w6 (sI z9 12 (nI (rnP isL f N (rnP isB f N p)))) t l (rnP isL f N (rnP isB f N p)) ∧ p < rnP isL f N (rnP isB f N p) ∧ rnP isL f N (rnP isB f N p) ≤ N ∧ gI z6 5 = nI (304 + w) := by
  obtain ⟨hA, h8, h9, -⟩ := id h
  have hl := wd_l hw hd
  obtain ⟨-, -, -, w6, s1, s2, s3⟩ := at_tok hA hl.1
  have hx := tkx_gt (f := f) hl.1
  have hqg := rq_ge (P := isB) (b := f) (N := N) (p := p)
  rw [tkx_wd hw hd] at s2 hx
  exact ⟨w6, s1, rs_go h s2 s3 hx.2, by omega, hx.2, (code_wd hw hA h9.2.2.1 (fun i hi => ⟨(h9.2.2.2.2 i hi).1, (h9.2.2.2.2 i hi).2.1⟩)).2 hd⟩
theorem rs_wd {w : Nat} (hw : w < 17) (h : RS f N z4 z6 z9 t l p) : gI z6 5 = nI (304 + w) ↔ WD f N (rnP isB f N p) w := code_wd hw h.1 h.2.2.1.2.2.1 (fun i hi => ⟨(h.2.2.1.2.2.2.2 i hi).1, (h.2.2.1.2.2.2.2 i hi).2.1⟩)
end SKS

/-! The class's parser writes stretches that come to one value. -/
/-- a stretch that leaves k more, each with P, on a stack that bears m more -/
def SGL (c : Nat → Int32) (b e m k : Nat) (P : Int64 → Prop) : Prop := b ≤ e ∧ ∀ (W : Int32 → Int64) (st : List Int64), st.length + m ≤ 32 → ∃ L : List Int64, L.length = k ∧ (∀ v ∈ L, P v) ∧ crun W c b (e - b) st = some (L ++ st)
def isV (v : Int32) : Prop := 0 ≤ v ∨ (¬ 0 ≤ v ∧ ¬ (-312) < v)
def isOp (v : Int32) : Prop := ¬ 0 ≤ v ∧ (-312) < v ∧ ¬ v = (-311)
abbrev TR : Int64 → Prop := fun _ => True
abbrev P01 : Int64 → Prop := fun v => v = 0 ∨ v = 1
section SG
variable {c d : Nat → Int32} {b e e2 m m2 k : Nat} {P : Int64 → Prop}
theorem sgl_0 : SGL c b b m 0 P := ⟨Nat.le_refl _, fun W st _ => ⟨[], rfl, fun v hv => (by cases hv), by rw [Nat.sub_self]; rfl⟩⟩
theorem sgl_cg (h : SGL c b e m k P) (hc : ∀ i : Nat, i < e → d i = c i) : SGL d b e m k P := ⟨h.1, fun W st hs => by
  obtain ⟨L, h1, h2, h3⟩ := h.2 W st hs
  exact ⟨L, h1, h2, by rw [crun_cg (c := c) (e - b) (fun i _ hi => hc i (by omega))]; exact h3⟩⟩
theorem sgl_m (h : SGL c b e m k P) (hm : m ≤ m2) : SGL c b e m2 k P := ⟨h.1, fun W st hs => h.2 W st (by omega)⟩
theorem sgl_P {Q : Int64 → Prop} (h : SGL c b e m k P) (hq : ∀ v, P v → Q v) : SGL c b e m k Q := ⟨h.1, fun W st hs => by
  obtain ⟨L, h1, h2, h3⟩ := h.2 W st hs
  exact ⟨L, h1, fun v hv => hq v (h2 v hv), h3⟩⟩
theorem sgl_s (h : SGL c b e m k P) {W : Int32 → Int64} {st : List Int64} {s2 : List Int64} {L : List Int64} (h3 : crun W c b (e - b) st = some (L ++ st)) (hs : cst W (c e) (L ++ st) = some s2) : crun W c b (e + 1 - b) st = some s2 := by
  have hb := h.1
  rw [show e + 1 - b = e - b + 1 by omega]
  show bd (crun W c b (e - b) st) (cst W (c (b + (e - b)))) = _
  rw [h3, show b + (e - b) = e by omega]
  exact hs
theorem sgl_val (h : SGL c b e m k TR) (hv : isV (c e)) (hk : k < m) : SGL c b (e + 1) m (k + 1) TR := ⟨by have := h.1; omega, fun W st hs => by
  obtain ⟨L, h1, h2, h3⟩ := h.2 W st hs
  have hl : (L ++ st).length < 32 := by rw [List.length_append]; omega
  rcases hv with q | ⟨q1, q2⟩
  · exact ⟨(c e).toInt64 :: L, by rw [List.length_cons, h1], fun _ _ => trivial, sgl_s h h3 (cst_push q hl)⟩
  · exact ⟨W (-(c e)) :: L, by rw [List.length_cons, h1], fun _ _ => trivial, sgl_s h h3 (cst_word q1 q2 hl)⟩⟩
theorem sgl_op (h : SGL c b e m (k + 2) P) (hv : isOp (c e)) (hp : ∀ x y, P x → P y → P (jo (-(c e)) y x)) : SGL c b (e + 1) m (k + 1) P := ⟨by have := h.1; omega, fun W st hs => by
  obtain ⟨L, h1, h2, h3⟩ := h.2 W st hs
  match L, h1, h2, h3 with
  | x :: y :: L2, h1, h2, h3 =>
    rw [List.length_cons, List.length_cons] at h1
    refine ⟨jo (-(c e)) y x :: L2, by rw [List.length_cons]; omega, fun v hv2 => ?_, sgl_s h h3 (cst_op (st := L2 ++ st) hv.1 hv.2.1 hv.2.2)⟩
    rcases List.mem_cons.1 hv2 with q | q
    · rw [q]; exact hp x y (h2 x List.mem_cons_self) (h2 y (List.mem_cons_of_mem _ List.mem_cons_self))
    · exact h2 v (List.mem_cons_of_mem _ (List.mem_cons_of_mem _ q))
  | [x], h1, _, _ => rw [List.length_singleton] at h1; omega
  | [], h1, _, _ => rw [List.length_nil] at h1; omega⟩
theorem not01 {x : Int64} (h : P01 x) : P01 (1 - x) := by
  rcases h with rfl | rfl
  · exact Or.inr (by decide)
  · exact Or.inl (by decide)
theorem sgl_not (h : SGL c b e m (k + 1) P01) (hv : c e = (-311)) : SGL c b (e + 1) m (k + 1) P01 := ⟨by have := h.1; omega, fun W st hs => by
  obtain ⟨L, h1, h2, h3⟩ := h.2 W st hs
  match L, h1, h2, h3 with
  | x :: L2, h1, h2, h3 =>
    refine ⟨(1 - x) :: L2, by rw [List.length_cons] at h1 ⊢; exact h1, fun v hv2 => ?_, sgl_s h h3 (by rw [hv]; exact cst_not (st := L2 ++ st))⟩
    rcases List.mem_cons.1 hv2 with q | q
    · rw [q]; exact not01 (h2 x List.mem_cons_self)
    · exact h2 v (List.mem_cons_of_mem _ q)
  | [], h1, _, _ => rw [List.length_nil] at h1; omega⟩
theorem sgl_app (h : SGL c b e m k P) (h2 : SGL c e e2 m2 1 P) (hm : k + m2 ≤ m) : SGL c b e2 m (k + 1) P := ⟨by have := h.1; have := h2.1; omega, fun W st hs => by
  obtain ⟨L, a1, a2, a3⟩ := h.2 W st hs
  obtain ⟨L2, b1, b2, b3⟩ := h2.2 W (L ++ st) (by rw [List.length_append]; omega)
  have hb := h.1
  have he := h2.1
  refine ⟨L2 ++ L, by rw [List.length_append]; omega, fun v hv => ?_, ?_⟩
  · rcases List.mem_append.1 hv with q | q
    · exact b2 v q
    · exact a2 v q
  · rw [show e2 - b = e - b + (e2 - e) by omega, crun_add, a3, show b + (e - b) = e by omega, List.append_assoc]
    exact b3⟩
end SG
theorem and01 {x y : Int64} (hx : P01 x) (hy : P01 y) : P01 (jo (-(-310)) y x) := by
  rcases hx with rfl | rfl <;> rcases hy with rfl | rfl
  · exact Or.inl (by decide)
  · exact Or.inl (by decide)
  · exact Or.inl (by decide)
  · exact Or.inr (by decide)
theorem or01s {x y : Int64} (hx : P01 x) (hy : P01 y) : P01 (jo (-(-309)) y x) := by
  rcases hx with rfl | rfl <;> rcases hy with rfl | rfl
  · exact Or.inl (by decide)
  · exact Or.inr (by decide)
  · exact Or.inr (by decide)
  · exact Or.inr (by decide)
/-- places and numbers of the class's Text -/
def NN (z : Sx) : Prop := (0 ≤ (gI z 6).toInt ∧ (gI z 6).toInt ≤ 400) ∧ 0 ≤ (gI z 7).toInt ∧ ∀ i : Nat, (i : Int) < (gI z 3).toInt → (0 ≤ (gT z 1 i).toInt ∧ (gT z 1 i).toInt ≤ 400) ∧ 0 ≤ (gT z 2 i).toInt
/-- how many codes the class has written -/
def LNs (z : Sx) (l : Nat) : Prop := gI z 2 = nI l ∧ l ≤ 400
def GXs (S : (Nat → Int32) → Nat → Nat → Prop) (z4 w4 : Sx) (l : Nat) : Prop := ∃ l1 : Nat, LNs w4 l1 ∧ l ≤ l1 ∧ (∀ i : Nat, i < l → gT w4 1 i = gT z4 1 i) ∧ (l1 < 400 → S (gT w4 1) l l1)
def CQR (S : (Nat → Int32) → Nat → Nat → Prop) (z4 : Sx) (l : Nat) (A : Option (Sx × Sx)) : Prop := ∃ w4 w6 : Sx, A = some (w4, w6) ∧ (¬ gI w6 8 = 0 ∨ (gI w6 8 = 0 ∧ NN w6 ∧ GXs S z4 w4 l))
section PX
variable {z4 z6 w6 : Sx} {l : Nat} {x : Int32}
theorem nn_step (h : NN z6) : ∃ w6, fX6_step z6 = some w6 ∧ NN w6 ∧ gI w6 8 = gI z6 8 := by
  unfold fX6_step
  by_cases c1 : gI z6 4 < 0
  · exact ⟨z6, if_pos c1, h, rfl⟩
  by_cases c2 : gI z6 3 ≤ gI z6 4
  · exact ⟨z6, by rw [if_neg c1, if_pos c2], h, rfl⟩
  by_cases c3 : 401 ≤ gI z6 4
  · exact ⟨z6, by rw [if_neg c1, if_neg c2, if_pos c3], h, rfl⟩
  have a := bI_nlt rfl (show (0 : Int32).toInt = 0 by decide) c1
  have b := bI_nle rfl rfl c2
  have d := bI_nle (show (401 : Int32).toInt = 401 by decide) rfl c3
  have hc := clampI a
  have q := h.2.2 (gI z6 4).toNatClampNeg (by omega)
  refine ⟨sI (sI (sI (sI z6 5 (gT z6 0 ((gI z6 4).toNatClampNeg))) 6 (gT z6 1 ((gI z6 4).toNatClampNeg))) 7 (gT z6 2 ((gI z6 4).toNatClampNeg))) 4 ((gI z6 4) + 1), ?_, ⟨q.1, q.2, h.2.2⟩, rfl⟩
  rw [if_neg c1, if_neg c2, if_neg c3, gd_pos (inb_of (by omega) (by omega))]
  rfl
theorem nn_fail {a : Nat} (h : NN z6) (h8 : gI z6 8 = 0) (hx : x.toInt = a) (ha : a ≤ 4) : ∃ w6, fX6_fail z6 x = some w6 ∧ ¬ gI w6 8 = 0 := by
  unfold fX6_fail
  rw [if_pos h8]
  refine ⟨_, rfl, fun e => ?_⟩
  have e : (1 + 8 * gI z6 6) + x = 0 := e
  obtain ⟨⟨p0, p1⟩, -⟩ := h
  have e1 : (8 * gI z6 6).toInt = 8 * (gI z6 6).toInt := by rw [i32_mul (show (8 : Int32).toInt = 8 by decide) rfl (by omega) (by omega)]
  have e2 := i32_add (show (1 : Int32).toInt = 1 by decide) e1 (by omega) (by omega)
  have e3 := i32_add e2 hx (by omega) (by omega)
  rw [e, show (0 : Int32).toInt = 0 by decide] at e3
  omega
theorem emit_x (h : LNs z4 l) : ∃ w4, fX4_emit z4 x = some w4 ∧ GXs (fun c l l1 => l1 = l + 1 ∧ c l = x) z4 w4 l := by
  obtain ⟨h2, hl⟩ := h
  unfold fX4_emit
  rw [h2, if_neg (nI_pos (by omega))]
  by_cases c : l < 400
  · rw [if_neg (show ¬ (400 : Int32) ≤ nI l from nI_ge (b := 400) c (by decide)), gd_pos (in_n c (by omega)), nI_clamp (by omega), nI_1]
    exact ⟨_, rfl, l + 1, ⟨rfl, by omega⟩, by omega, fun i hi => if_neg (by omega), fun _ => ⟨rfl, (show upd (gT z4 1) l x l = x from if_pos rfl)⟩⟩
  · rw [if_pos (show (400 : Int32) ≤ nI l from nI_le (a := 400) (by omega) (by omega))]
    exact ⟨z4, rfl, l, ⟨h2, hl⟩, Nat.le_refl _, fun _ _ => rfl, fun k => by omega⟩
def VALS (c : Nat → Int32) (l l1 : Nat) : Prop := l1 = l + 1 ∧ isV (c l)
theorem vm_x (h8 : gI z6 8 = 0) (hn : NN z6) (hl : LNs z4 l) (hx : isV x) : CQR VALS z4 l (VM z4 z6 x) := by
  unfold VM
  by_cases c : gI z4 3 < 60
  · rw [if_pos c]
    obtain ⟨w4, e1, l1, q1, q2, q3, q4⟩ := emit_x (x := x) (z4 := sI z4 3 (gI z4 3 + 1)) (l := l) hl
    obtain ⟨w6, e2, q5, q6⟩ := nn_step hn
    rw [bd_eq e1, bd_eq e2]
    exact ⟨w4, w6, rfl, Or.inr ⟨q6.trans h8, q5, l1, q1, q2, q3, fun k => ⟨(q4 k).1, by rw [(q4 k).2]; exact hx⟩⟩⟩
  · rw [if_neg c]
    obtain ⟨w6, e, q⟩ := nn_fail (x := 3) (a := 3) hn h8 (by decide) (by decide)
    rw [bd_eq e]
    exact ⟨z4, w6, rfl, Or.inl q⟩
theorem val_x (h8 : gI z6 8 = 0) (hn : NN z6) (hl : LNs z4 l) : CQR VALS z4 l (fX4_readValue z4 z6) := by
  have i312 : (312 : Int32).toInt = 312 := by decide
  have i320 : (320 : Int32).toInt = 320 := by decide
  have m312 : (-312 : Int32).toInt = -312 := by decide
  have i0 : (0 : Int32).toInt = 0 := by decide
  by_cases c1 : gI z6 5 = 301
  · rw [rv_num c1]
    exact vm_x h8 hn hl (Or.inl ((i32_le _ _).2 (by rw [i0]; exact hn.2.1)))
  by_cases c2 : gI z6 5 < 312
  · rw [rv_no c1 (Or.inl c2)]
    by_cases c3 : gI z6 5 = 302
    · rw [if_pos c3]
      obtain ⟨w6, e, q⟩ := nn_fail (x := 1) (a := 1) hn h8 (by decide) (by decide)
      rw [bd_eq e]
      exact ⟨z4, w6, rfl, Or.inl q⟩
    · rw [if_neg c3]
      obtain ⟨w6, e, q⟩ := nn_fail (x := 0) (a := 0) hn h8 (by decide) (by decide)
      rw [bd_eq e]
      exact ⟨z4, w6, rfl, Or.inl q⟩
  by_cases c4 : 320 < gI z6 5
  · rw [rv_no c1 (Or.inr c4)]
    by_cases c3 : gI z6 5 = 302
    · rw [if_pos c3]
      obtain ⟨w6, e, q⟩ := nn_fail (x := 1) (a := 1) hn h8 (by decide) (by decide)
      rw [bd_eq e]
      exact ⟨z4, w6, rfl, Or.inl q⟩
    · rw [if_neg c3]
      obtain ⟨w6, e, q⟩ := nn_fail (x := 0) (a := 0) hn h8 (by decide) (by decide)
      rw [bd_eq e]
      exact ⟨z4, w6, rfl, Or.inl q⟩
  rw [rv_word c1 c2 c4]
  have a := bI_nlt rfl i312 c2
  have b := bI_nlt i320 rfl c4
  have en : (-(gI z6 5)).toInt = -(gI z6 5).toInt := by
    have := i32_sub i0 (show (gI z6 5).toInt = _ from rfl) (by omega) (by omega)
    rw [show (0 : Int32) - gI z6 5 = -(gI z6 5) from Int32.zero_sub _] at this
    omega
  exact vm_x h8 hn hl (Or.inr ⟨fun k => by have := bI_le i0 rfl k; omega, fun k => by have := bI_lt m312 rfl k; omega⟩)
/-- a SUM -/
def WK2 (w : Int32) (a : Nat) : Prop := (w = 0 ∧ a = 0) ∨ ((w = 43 ∨ w = 45) ∧ a = 1)
theorem op_sgl {c : Nat → Int32} {b e : Nat} (h : SGL c b e 3 2 TR) (hv : isOp (c e)) : SGL c b (e + 1) 3 1 TR := sgl_op (k := 0) h hv (fun _ _ _ _ => trivial)
theorem isop {v : Int32} (h : v = 42 ∨ v = 47 ∨ v = 43 ∨ v = 45 ∨ v = 60 ∨ v = 256 ∨ v = 61 ∨ v = 257 ∨ v = 62 ∨ v = 309 ∨ v = 310) : isOp (-v) := by
  rcases h with rfl | rfl | rfl | rfl | rfl | rfl | rfl | rfl | rfl | rfl | rfl <;> (unfold isOp; decide)
theorem kc_x {z40 : Sx} {l0 a : Nat} {w : Int32} (hw : WK2 w a) (h8 : gI z6 8 = 0) (hn : NN z6) (hl : LNs z4 l) (h0 : l0 ≤ l) (hp : ∀ i : Nat, i < l0 → gT z4 1 i = gT z40 1 i) (hs : l < 400 → SGL (gT z4 1) l0 l 3 (a + 1) TR) : CQR (fun c l l1 => SGL c l l1 3 1 TR) z40 l0 (kc z4 z6 w) := by
  unfold kc
  rcases hw with ⟨rfl, rfl⟩ | ⟨hw, rfl⟩
  · rw [if_pos rfl]
    exact ⟨z4, z6, rfl, Or.inr ⟨h8, hn, l, hl, h0, hp, hs⟩⟩
  · obtain ⟨w4, e1, l1, q1, q2, q3, q4⟩ := emit_x (x := -w) hl
    rw [if_neg (by rcases hw with rfl | rfl <;> decide), bd_eq e1]
    refine ⟨w4, z6, rfl, Or.inr ⟨h8, hn, l1, q1, by omega, fun i hi => (q3 i (by omega)).trans (hp i hi), fun k => ?_⟩⟩
    obtain ⟨rfl, r⟩ := q4 k
    refine op_sgl (sgl_cg (hs (by omega)) q3) ?_
    rw [r]
    exact isop (by rcases hw with k | k; exact Or.inr (Or.inr (Or.inl k)); exact Or.inr (Or.inr (Or.inr (Or.inl k))))
theorem sum_loops {z40 : Sx} {l0 : Nat} : ∀ (n j a l : Nat) (z4 z6 : Sx) (w : Int32), j ≤ 400 → 400 - j < n → WK2 w a → gI z6 8 = 0 → NN z6 → LNs z4 l → l0 ≤ l → (∀ i : Nat, i < l0 → gT z4 1 i = gT z40 1 i) → (l < 400 → SGL (gT z4 1) l0 l 3 (a + 1) TR) → CQR (fun c l l1 => SGL c l l1 3 1 TR) z40 l0 (lX4_readSum_8 kc kc n z4 z6 w (nI j)) := by
  intro n
  induction n with
  | zero => intro j a l z4 z6 w _ hm; omega
  | succ n ih =>
    intro j a l z4 z6 w hj hm hw h8 hn hl h0 hp hs
    by_cases j4 : j = 400
    · rw [lX4_readSum_8, if_pos (show (400 : Int32) ≤ nI j from nI_le (a := 400) (by omega) (by omega))]
      exact kc_x hw h8 hn hl h0 hp hs
    have hx : ¬ (400 : Int32) ≤ nI j := nI_ge (b := 400) (by omega) (by decide)
    obtain ⟨u6, s1, s2, s3⟩ := nn_step hn
    have bad : ∀ (y4 y6 : Sx) (w : Int32), ¬ gI y6 8 = 0 → CQR (fun c l l1 => SGL c l l1 3 1 TR) z40 l0 (lX4_readSum_8 kc kc n y4 y6 w (nI j + 1)) := by
      intro y4 y6 w hb
      obtain ⟨n, rfl⟩ : ∃ k, n = k + 1 := ⟨n - 1, by omega⟩
      obtain ⟨v4, e⟩ := kc_tot (z4 := y4) (z6 := y6) (w := w)
      exact ⟨v4, y6, (cs_bad hb).trans e, Or.inl hb⟩
    by_cases cb : gI z6 5 = 42 ∨ gI z6 5 = 47
    · rw [cs_binds h8 hx cb, bd_eq s1]
      obtain ⟨y4, y6, e1, q⟩ := val_x (s3.trans h8) s2 hl
      obtain ⟨v4, e2, hg⟩ : ∃ v4, fX4_emit y4 (-(gI z6 5)) = some v4 ∧ (∀ l1, LNs y4 l1 → GXs (fun c l l1 => l1 = l + 1 ∧ c l = -(gI z6 5)) y4 v4 l1) := by
        obtain ⟨v4, e⟩ := emit_tot (z := y4) (c := -(gI z6 5))
        refine ⟨v4, e, fun l1 hl1 => ?_⟩
        obtain ⟨v, e3, g⟩ := emit_x (x := -(gI z6 5)) hl1
        rw [e] at e3
        rw [Option.some.inj e3]; exact g
      rw [bd2_eq e1, bd_eq e2]
      rcases q with q | ⟨q8, qn, l1, g1, g2, g3, g4⟩
      · exact bad v4 y6 w q
      · obtain ⟨l2, k1, k2, k3, k4⟩ := hg l1 g1
        rw [nI_1]
        refine ih (j + 1) a l2 v4 y6 w (by omega) (by omega) hw q8 qn k1 (by omega) (fun i hi => (k3 i (by omega)).trans ((g3 i (by omega)).trans (hp i hi))) (fun k => ?_)
        obtain ⟨rfl, r⟩ := k4 k
        obtain ⟨rfl, v⟩ := g4 (by omega)
        have a3 : a + 1 < 3 := by rcases hw with q | q <;> omega
        have t1 := sgl_val (sgl_cg (hs (by omega)) g3) v a3
        exact sgl_op (sgl_cg t1 k3) (by rw [r]; exact isop (by rcases cb with q | q; exact Or.inl q; exact Or.inr (Or.inl q))) (fun _ _ _ _ => trivial)
    by_cases ca : gI z6 5 = 43 ∨ gI z6 5 = 45
    · have fl : ∃ (x4 : Sx) (lx : Nat), (∀ G : Sx → Option (Sx × Sx), (if w = 0 then G z4 else bd (fX4_emit z4 (-w)) G) = G x4) ∧ LNs x4 lx ∧ l0 ≤ lx ∧ (∀ i : Nat, i < l0 → gT x4 1 i = gT z40 1 i) ∧ (lx < 400 → SGL (gT x4 1) l0 lx 3 1 TR) := by
        rcases hw with ⟨rfl, rfl⟩ | ⟨hw, rfl⟩
        · exact ⟨z4, l, fun G => if_pos rfl, hl, h0, hp, hs⟩
        · obtain ⟨w4, e1, l1, q1, q2, q3, q4⟩ := emit_x (x := -w) hl
          refine ⟨w4, l1, fun G => by rw [if_neg (by rcases hw with rfl | rfl <;> decide), bd_eq e1], q1, by omega, fun i hi => (q3 i (by omega)).trans (hp i hi), fun k => ?_⟩
          obtain ⟨rfl, r⟩ := q4 k
          exact op_sgl (sgl_cg (hs (by omega)) q3) (by rw [r]; exact isop (by rcases hw with k | k; exact Or.inr (Or.inr (Or.inl k)); exact Or.inr (Or.inr (Or.inr (Or.inl k)))))
      obtain ⟨x4, lx, f1, f2, f3, f4, f5⟩ := fl
      have eA := (cs_adds (k := kc) (n := n) (w := w) h8 hx ca).trans (f1 (fun z10 => bd (fX6_step z6) (fun z15 => bd2 (fX4_readValue z10 z15) (fun z17 z18 => lX4_readSum_8 kc kc n z17 z18 (gI z6 5) (nI j + 1)))))
      rw [eA]
      show CQR _ z40 l0 (bd (fX6_step z6) _)
      rw [bd_eq s1]
      obtain ⟨y4, y6, e1, q⟩ := val_x (s3.trans h8) s2 f2
      rw [bd2_eq e1]
      rcases q with q | ⟨q8, qn, l1, g1, g2, g3, g4⟩
      · exact bad y4 y6 (gI z6 5) q
      · rw [nI_1]
        refine ih (j + 1) 1 l1 y4 y6 (gI z6 5) (by omega) (by omega) (Or.inr ⟨ca, rfl⟩) q8 qn g1 (by omega) (fun i hi => (g3 i (by omega)).trans (f4 i hi)) (fun k => ?_)
        obtain ⟨rfl, v⟩ := g4 k
        exact sgl_val (sgl_cg (f5 (by omega)) g3) v (by omega)
    · rw [cs_stop (fun k => cb (Or.inl k)) (fun k => cb (Or.inr k)) (fun k => ca (Or.inl k)) (fun k => ca (Or.inr k))]
      exact kc_x hw h8 hn hl h0 hp hs
theorem sum_x (h8 : gI z6 8 = 0) (hn : NN z6) (hl : LNs z4 l) : CQR (fun c l l1 => SGL c l l1 3 1 TR) z4 l (fX4_readSum z4 z6) := by
  obtain ⟨y4, y6, e1, q⟩ := val_x h8 hn hl
  have eS : fX4_readSum z4 z6 = lX4_readSum_8 kc kc FU y4 y6 0 0 := by
    unfold fX4_readSum
    rw [bd2_eq e1]
    rfl
  rw [eS]
  rcases q with q | ⟨q8, qn, l1, g1, g2, g3, g4⟩
  · obtain ⟨v4, e⟩ := kc_tot (z4 := y4) (z6 := y6) (w := 0)
    have eF : FU = 18446744073709551615 + 1 := rfl
    rw [eF]
    exact ⟨v4, y6, (cs_bad q).trans e, Or.inl q⟩
  · refine sum_loops (z40 := z4) (l0 := l) FU 0 0 l1 y4 y6 0 (by omega) (FU_lt (by omega)) (Or.inl ⟨rfl, rfl⟩) q8 qn g1 g2 g3 (fun k => ?_)
    obtain ⟨rfl, v⟩ := g4 k
    exact sgl_val (k := 0) sgl_0 v (by omega)
end PX

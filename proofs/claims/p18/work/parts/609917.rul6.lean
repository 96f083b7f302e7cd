/-! A SUM, on both sides. -/
def KW (o : Option Int32) (m2 : Nat) : Int32 → Sx → Option (Int32 × Sx) := match o with
  | none => fun r2 z3 => if r2 = 0 then some (0, z3) else lX9_sum_9 m2 z3
  | some i => fun r14 z15 => if r14 = 0 then some (0, z15) else bd (fX9_puts z15 i 0) (fun z18 => lX9_sum_9 m2 z18)
def WK (w : Int32) (o : Option Int32) (a : Nat) : Prop := (w = 0 ∧ o = none ∧ a = 0) ∨ (w = 43 ∧ o = some 2 ∧ a = 1) ∨ (w = 45 ∧ o = some 3 ∧ a = 1)
def kc : Sx → Sx → Int32 → Option (Sx × Sx) := fun z36 z37 i38 => if i38 = 0 then some (z36, z37) else bd (fX4_emit z36 (-i38)) (fun z41 => some (z41, z37))
theorem kc_tot {z4 z6 : Sx} {w : Int32} : ∃ w4, kc z4 z6 w = some (w4, z6) := by
  unfold kc
  by_cases h : w = 0
  · exact ⟨_, if_pos h⟩
  · obtain ⟨w4, e⟩ := emit_tot (z := z4) (c := -w)
    exact ⟨w4, by rw [if_neg h, bd_eq e]⟩
theorem kw_0 {o : Option Int32} {m2 : Nat} {z : Sx} : KW o m2 0 z = some (0, z) := by
  cases o with
  | none => rfl
  | some i => rfl
theorem opc_cm {c s : Int32} (h : (c, s) ∈ opc) : CM c (s + (16 * 0)) := Or.inr (Or.inr ⟨(c, s), h, rfl, rfl⟩)
section SUM2
variable {f : Nat → Int32} {N t : Nat}
theorem t9_fr {z9 w9 : Sx} {p : Nat} {L : List Nat} (h : T9 f N z9 p) (hf : FrL L z9 w9) (hL : (L.contains 0 || L.contains 1 || L.contains 12) = false) : T9 f N w9 p := by
  simp only [Bool.or_eq_false_iff] at hL
  unfold T9
  rw [(hf 1 hL.1.2).1, (hf 12 hL.2).1, (hf 0 hL.1.1).2.1]
  exact h
theorem rs_emit {z4 z6 z9 : Sx} {l p : Nat} {c x1 x2 : Int32} (h : RS f N z4 z6 z9 t l p) (hl : l < p) (hc : CM c (x1 + (16 * x2))) : ∃ w4 w9, fX4_emit z4 c = some w4 ∧ fX9_puts z9 x1 x2 = some w9 ∧ RS f N w4 z6 w9 t (l + 1) p ∧ FrL [1, 2] z4 w4 ∧ FrL [3, 4] z9 w9 := by
  obtain ⟨hA, h8, h9, h13, hE, h3, hm⟩ := h
  have hp := h9.2.2.1
  have hN := h9.2.2.2.1
  obtain ⟨w4, w9, a1, a2, a3, a4, a5⟩ := emit_both hE (by omega) hc
  refine ⟨w4, w9, a1, a2, ⟨hA, h8, t9_fr h9 a5 (by decide), (a5 13 (by decide)).1.trans h13, a3, ?_, ?_⟩, a4, a5⟩
  · rw [(a4 3 (by decide)).1, (a5 16 (by decide)).1]; exact h3
  · rw [(a5 16 (by decide)).1]; exact hm
theorem flush {z4 z6 z9 : Sx} {l p a : Nat} {w : Int32} {o : Option Int32} (h : RS f N z4 z6 z9 t l p) (hw : WK w o a) (hl : l + a ≤ p) : ∃ w4 w9, RS f N w4 z6 w9 t (l + a) p ∧ (∀ G : Sx → Option (Sx × Sx), (if w = 0 then G z4 else bd (fX4_emit z4 (-w)) G) = G w4) ∧ (∀ m2, KW o m2 1 z9 = lX9_sum_9 m2 w9) ∧ FrL [1, 2] z4 w4 ∧ FrL [3, 4] z9 w9 := by
  rcases hw with ⟨rfl, rfl, rfl⟩ | ⟨rfl, rfl, rfl⟩ | ⟨rfl, rfl, rfl⟩
  · exact ⟨z4, z9, h, fun G => if_pos rfl, fun m2 => rfl, fr_rf, fr_rf⟩
  · obtain ⟨w4, w9, a1, a2, a3, a4, a5⟩ := rs_emit (c := -43) (x1 := 2) (x2 := 0) h (by omega) (opc_cm (by decide))
    refine ⟨w4, w9, a3, fun G => ?_, fun m2 => ?_, a4, a5⟩
    · rw [if_neg (by decide), bd_eq a1]
    · show bd (fX9_puts z9 2 0) (fun z18 => lX9_sum_9 m2 z18) = _
      rw [bd_eq a2]
  · obtain ⟨w4, w9, a1, a2, a3, a4, a5⟩ := rs_emit (c := -45) (x1 := 3) (x2 := 0) h (by omega) (opc_cm (by decide))
    refine ⟨w4, w9, a3, fun G => ?_, fun m2 => ?_, a4, a5⟩
    · rw [if_neg (by decide), bd_eq a1]
    · show bd (fX9_puts z9 3 0) (fun z18 => lX9_sum_9 m2 z18) = _
      rw [bd_eq a2]
theorem kc_fl {z4 z6 w4 : Sx} {w : Int32} (h : ∀ G : Sx → Option (Sx × Sx), (if w = 0 then G z4 else bd (fX4_emit z4 (-w)) G) = G w4) : kc z4 z6 w = some (w4, z6) := h (fun z => some (z, z6))
theorem okb_fr {z4 z9 u4 u9 : Sx} {A : Option (Sx × Sx)} {B : Option (Int32 × Sx)} {r p p0 : Nat} (h : OKB f N u4 u9 A B t r p) (hp : p0 ≤ p) (h4 : FrL [1, 2, 3] z4 u4) (h9 : FrL [3, 4, 12, 14, 16] z9 u9) : OKB f N z4 z9 A B t r p0 := by
  obtain ⟨w4, w6, w9, p1, l1, a, b, c, d, e, g, i, j⟩ := h
  exact ⟨w4, w6, w9, p1, l1, a, b, c, by omega, e, g, fr_tr h4 i (by decide), fr_tr h9 j (by decide)⟩
set_option maxHeartbeats 1000000 in
theorem sum_run {r : Nat} : ∀ (g p l a x2 n m m2 : Nat) (z4 z6 z9 : Sx) (w : Int32) (o : Option Int32), N - p ≤ g → RS f N z4 z6 z9 t l p → WK w o a → l + a + r ≤ p → x2 ≤ p → N - p < n → N - p < m → N - p < m2 → OKB f N z4 z9 (lX4_readSum_8 kc kc n z4 z6 w (nI x2)) (bd2 (lX9_term_9 m z9) (KW o m2)) t r p ∨ BDD (lX4_readSum_8 kc kc n z4 z6 w (nI x2)) (bd2 (lX9_term_9 m z9) (KW o m2)) := by
  intro g
  induction g with
  | zero =>
    intro p l a x2 n m m2 z4 z6 z9 w o hg h hw hl hx hn hm hm2
    have h9 := h.2.2.1
    have hp := h9.2.2.1
    have hq := rq_le (P := isB) (b := f) (N := N) hp
    have hqg := rq_ge (P := isB) (b := f) (N := N) (p := p)
    have sv : SV f N p = -1 := if_neg (by omega)
    have ne : ∀ c : Int32, SG c → ¬ SV f N p = c := fun c hc e => by
      rw [sv] at e
      have := hc.1.1
      rw [← e, show (-1 : Int32).toInt = -1 by decide] at this
      omega
    obtain ⟨n, rfl⟩ : ∃ k, n = k + 1 := ⟨n - 1, by omega⟩
    obtain ⟨m, rfl⟩ : ∃ k, m = k + 1 := ⟨m - 1, by omega⟩
    obtain ⟨m2, rfl⟩ : ∃ k, m2 = k + 1 := ⟨m2 - 1, by omega⟩
    have nc : ∀ c : Int32, SG c → ¬ gI z6 5 = c := fun c hc e => ne c hc ((sg_code hc h.1).1 e)
    left
    obtain ⟨w4, w9, b1, b2, b3, b4, b5⟩ := flush (rs_sk h) hw (by omega)
    rw [cs_stop (nc 42 (by decide)) (nc 47 (by decide)) (nc 43 (by decide)) (nc 45 (by decide)), kc_fl b2, rt_stop h9 (ne 42 (by decide)) (ne 47 (by decide)), bd2_eq rfl, b3]
    have T9w := b1.2.2.1
    have svi : SV f N (rnP isB f N p) = SV f N p := sv_idem
    rw [rs_stop T9w (by rw [svi]; exact ne 43 (by decide)) (by rw [svi]; exact ne 45 (by decide))]
    exact ⟨w4, z6, _, rnP isB f N p, l + a, rfl, rfl, by have := rs_sk b1; rw [rq_idem] at this ⊢; exact this, hqg, hq, by omega, fr_tr fr_rf b4 (by decide), fr_I (fr_tr (fr_I fr_rf (by decide)) b5 (by decide)) (by decide)⟩
  | succ g ih =>
    intro p l a x2 n m m2 z4 z6 z9 w o hg h hw hl hx hn hm hm2
    have h9 := h.2.2.1
    have hp := h9.2.2.1
    have hN := h9.2.2.2.1
    have hq := rq_le (P := isB) (b := f) (N := N) hp
    have hqg := rq_ge (P := isB) (b := f) (N := N) (p := p)
    obtain ⟨n, rfl⟩ : ∃ k, n = k + 1 := ⟨n - 1, by omega⟩
    obtain ⟨m, rfl⟩ : ∃ k, m = k + 1 := ⟨m - 1, by omega⟩
    obtain ⟨m2, rfl⟩ : ∃ k, m2 = k + 1 := ⟨m2 - 1, by omega⟩
    have binds : ∀ c i : Int32, SG c → (c = 42 ∧ i = 4) ∨ (c = 47 ∧ i = 5) → (-c, i) ∈ opc → SV f N p = c → OKB f N z4 z9 (lX4_readSum_8 kc kc (n + 1) z4 z6 w (nI x2)) (bd2 (lX9_term_9 (m + 1) z9) (KW o (m2 + 1))) t r p ∨ BDD (lX4_readSum_8 kc kc (n + 1) z4 z6 w (nI x2)) (bd2 (lX9_term_9 (m + 1) z9) (KW o (m2 + 1))) := by
      intro c i hc hci ho hs
      have ec : gI z6 5 = c := (sg_code hc h.1).2 hs
      obtain ⟨w6, s1, s2, s3, s4, -, -⟩ := sg_step hc h hs
      rw [cs_binds h.2.1 (show ¬ (400 : Int32) ≤ nI x2 from nI_ge (b := 400) (by omega) (by decide)) (by rw [ec]; rcases hci with k | k; exact Or.inl k.1; exact Or.inr k.1), rt_binds h9 hs hci, bd_eq s1, ec]
      rcases value_both s2 (by omega) with ⟨v4, v6, v9, p1, b1, b2, b3, b4, b5, b6, b7⟩ | ⟨v4, v6, v9, b1, b2, b3, b4⟩
      · obtain ⟨x4, x9, c1, c2, c3, c4, c5⟩ := rs_emit (c := -c) (x1 := i) (x2 := 0) b3 (by omega) (opc_cm ho)
        rw [bd2_eq b1, bd2_eq b2, if_neg one0, bd_eq c1, bd_eq c2, nI_1]
        rcases ih p1 (l + 1 + 1) a (x2 + 1) n m (m2 + 1) x4 v6 x9 w o (by omega) c3 hw (by omega) (by omega) (by omega) (by omega) (by omega) with k | k
        · left
          exact okb_fr k (by omega) (fr_tr b6 c4 (by decide)) (fr_tr (fr_tr (fr_I fr_rf (by decide)) b7 (by decide)) c5 (by decide))
        · exact Or.inr k
      · right
        rw [bd2_eq b1, b2]
        obtain ⟨x4, e4⟩ := emit_tot (z := v4) (c := -c)
        obtain ⟨n, rfl⟩ : ∃ k, n = k + 1 := ⟨n - 1, by omega⟩
        rw [bd_eq e4, cs_bad b3]
        obtain ⟨y4, e5⟩ := kc_tot (z4 := x4) (z6 := v6) (w := w)
        exact ⟨y4, v6, v9, e5, kw_0, b3, b4⟩
    have adds : ∀ c i : Int32, SG c → (c = 43 ∧ i = 2) ∨ (c = 45 ∧ i = 3) → ¬ c = 42 → ¬ c = 47 → WK c (some i) 1 → SV f N p = c → OKB f N z4 z9 (lX4_readSum_8 kc kc (n + 1) z4 z6 w (nI x2)) (bd2 (lX9_term_9 (m + 1) z9) (KW o (m2 + 1))) t r p ∨ BDD (lX4_readSum_8 kc kc (n + 1) z4 z6 w (nI x2)) (bd2 (lX9_term_9 (m + 1) z9) (KW o (m2 + 1))) := by
      intro c i hc hci n42 n47 hwk hs
      have ec : gI z6 5 = c := (sg_code hc h.1).2 hs
      obtain ⟨w4, w9, b1, b2, b3, b4, b5⟩ := flush (rs_sk h) hw (by omega)
      have hs2 : SV f N (rnP isB f N p) = c := sv_idem.trans hs
      obtain ⟨w6, s1, s2, s3, s4, -, -⟩ := sg_step hc b1 hs2
      rw [rq_idem] at s2 s3 s4
      have eA : lX4_readSum_8 kc kc (n + 1) z4 z6 w (nI x2) = bd (fX6_step z6) (fun z15 => bd2 (fX4_readValue w4 z15) (fun z17 z18 => lX4_readSum_8 kc kc n z17 z18 (gI z6 5) (nI x2 + 1))) := (cs_adds h.2.1 (show ¬ (400 : Int32) ≤ nI x2 from nI_ge (b := 400) (by omega) (by decide)) (by rw [ec]; rcases hci with k | k; exact Or.inl k.1; exact Or.inr k.1)).trans (b2 (fun z10 => bd (fX6_step z6) (fun z15 => bd2 (fX4_readValue z10 z15) (fun z17 z18 => lX4_readSum_8 kc kc n z17 z18 (gI z6 5) (nI x2 + 1)))))
      rw [eA, rt_stop h9 (by rw [hs]; exact n42) (by rw [hs]; exact n47), bd2_eq rfl, b3, rs_adds b1.2.2.1 hs2 hci, rq_idem, ec]
      unfold fX9_term
      rw [bd_eq s1]
      rcases value_both s2 (by omega) with ⟨v4, v6, v9, p1, c1, c2, c3, c4, c5, c6, c7⟩ | ⟨v4, v6, v9, c1, c2, c3, c4⟩
      · rw [bd2_eq c1, bd2_eq c2, if_neg one0, nI_1]
        rcases ih p1 (l + a + 1) 1 (x2 + 1) n FU m2 v4 v6 v9 c (some i) (by omega) c3 hwk (by omega) (by omega) (by omega) (FU_lt (by omega)) (by omega) with k | k
        · left
          exact okb_fr k (by omega) (fr_tr (fr_tr fr_rf b4 (by decide)) c6 (by decide)) (fr_tr (fr_I (fr_tr (fr_I fr_rf (by decide)) b5 (by decide)) (by decide)) c7 (by decide))
        · exact Or.inr k
      · right
        rw [bd2_eq c1, c2]
        obtain ⟨n, rfl⟩ : ∃ k, n = k + 1 := ⟨n - 1, by omega⟩
        rw [cs_bad c3]
        obtain ⟨y4, e5⟩ := kc_tot (z4 := v4) (z6 := v6) (w := c)
        exact ⟨y4, v6, v9, e5, rfl, c3, c4⟩
    by_cases k42 : SV f N p = 42
    · exact binds 42 4 (by decide) (Or.inl ⟨rfl, rfl⟩) (by decide) k42
    by_cases k47 : SV f N p = 47
    · exact binds 47 5 (by decide) (Or.inr ⟨rfl, rfl⟩) (by decide) k47
    by_cases k43 : SV f N p = 43
    · exact adds 43 2 (by decide) (Or.inl ⟨rfl, rfl⟩) (by decide) (by decide) (Or.inr (Or.inl ⟨rfl, rfl, rfl⟩)) k43
    by_cases k45 : SV f N p = 45
    · exact adds 45 3 (by decide) (Or.inr ⟨rfl, rfl⟩) (by decide) (by decide) (Or.inr (Or.inr ⟨rfl, rfl, rfl⟩)) k45
    left
    have nc : ∀ c : Int32, SG c → ¬ SV f N p = c → ¬ gI z6 5 = c := fun c hc hn e => hn ((sg_code hc h.1).1 e)
    obtain ⟨w4, w9, b1, b2, b3, b4, b5⟩ := flush (rs_sk h) hw (by omega)
    rw [cs_stop (nc 42 (by decide) k42) (nc 47 (by decide) k47) (nc 43 (by decide) k43) (nc 45 (by decide) k45), kc_fl b2, rt_stop h9 k42 k47, bd2_eq rfl, b3]
    have svi : SV f N (rnP isB f N p) = SV f N p := sv_idem
    rw [rs_stop b1.2.2.1 (by rw [svi]; exact k43) (by rw [svi]; exact k45)]
    exact ⟨w4, z6, _, rnP isB f N p, l + a, rfl, rfl, by have := rs_sk b1; rw [rq_idem] at this ⊢; exact this, hqg, hq, by omega, fr_tr fr_rf b4 (by decide), fr_I (fr_tr (fr_I fr_rf (by decide)) b5 (by decide)) (by decide)⟩
theorem sum_both {r p l : Nat} {z4 z6 z9 : Sx} (h : RS f N z4 z6 z9 t l p) (hl : l + r ≤ p) : OKB f N z4 z9 (fX4_readSum z4 z6) (fX9_sum z9) t r (p + 1) ∨ BDD (fX4_readSum z4 z6) (fX9_sum z9) := by
  have hN := h.2.2.1.2.2.2.1
  unfold fX4_readSum fX9_sum fX9_term
  rcases value_both h (by omega) with ⟨v4, v6, v9, p1, c1, c2, c3, c4, c5, c6, c7⟩ | ⟨v4, v6, v9, c1, c2, c3, c4⟩
  · rw [bd2_eq c1, bd2_eq c2, if_neg one0]
    rcases sum_run (N - p1) p1 (l + 1) 0 0 FU FU FU v4 v6 v9 0 none (Nat.le_refl _) c3 (Or.inl ⟨rfl, rfl, rfl⟩) (show l + 1 + 0 + r ≤ p1 by omega) (by omega) (FU_lt (by omega)) (FU_lt (by omega)) (FU_lt (by omega)) with k | k
    · left
      exact okb_fr k (by omega) c6 c7
    · exact Or.inr k
  · right
    rw [bd2_eq c1, c2]
    obtain ⟨y4, e5⟩ := kc_tot (z4 := v4) (z6 := v6) (w := 0)
    refine ⟨y4, v6, v9, Eq.trans (show _ = lX4_readSum_8 kc kc (18446744073709551615 + 1) v4 v6 0 0 from rfl) ((cs_bad c3).trans e5), rfl, c3, c4⟩
end SUM2

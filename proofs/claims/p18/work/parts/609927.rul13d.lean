/-! A RULE, on both sides, with what is kept of it. -/
/-- a RULE that both took -/
def RFIN (z4 z9 : Sx) (t : Nat) : Prop := ∃ l c : Nat, EM z4 z9 t l ∧ gI z4 4 = nI c ∧ c ≤ 12 ∧ gT z9 6 t = nI c ∧ CLQ z4 z9 t c l
theorem tkn_0 {f : Nat → Int32} {N q : Nat} : 0 ≤ (tkn f N q).toInt := by
  unfold tkn
  by_cases d : isD (f q) = true
  · rw [if_pos d]
    refine (nvl_rng _ (by omega) (fun i hi => ?_)).1
    exact (rq_in (P := isD) (b := f) (N := N) (p := q) (i := q + i) (by omega) (by omega)).2
  · rw [if_neg d]; decide
theorem tk_ok {f : Nat → Int32} {N : Nat} (hN : N ≤ 400) : ∀ (g p : Nat), N - p ≤ g → ∀ t ∈ TK f N p, (0 ≤ t.2.1.toInt ∧ t.2.1.toInt ≤ 400) ∧ 0 ≤ t.2.2.toInt := by
  intro g
  induction g with
  | zero => intro p hp t ht; rw [tk_end (by omega)] at ht; cases ht
  | succ g ih =>
    intro p hp t ht
    by_cases c : N ≤ p
    · rw [tk_end c] at ht; cases ht
    · by_cases b : f p = 32
      · rw [tk_blank (by omega) b] at ht
        exact ih (p + 1) (by omega) t ht
      · rw [tk_tok (by omega) b] at ht
        have hx := tkx_gt (f := f) (N := N) (p := p) (by omega)
        rcases List.mem_cons.1 ht with q | q
        · rw [q]
          have e : (nI p).toInt = p := nI_toInt (by omega)
          refine ⟨⟨?_, ?_⟩, tkn_0⟩
          · show 0 ≤ (nI p).toInt; omega
          · show (nI p).toInt ≤ 400; omega
        · exact ih (tkx f N p) (by omega) t q
theorem nn_open {f : Nat → Int32} {N : Nat} {z z1 : Sx} (hN : N ≤ 400) (h : fX6_open z 400 f (nI N) = some z1) : NN z1 := by
  obtain ⟨z2, e, ⟨⟨h3, hh⟩, hl, h4, tt, ht, c5, c6, c7⟩, -⟩ := open_cur (f := f) (z := z) hN
  rw [h] at e
  obtain rfl := Option.some.inj e
  have all : ∀ t ∈ TK f N 0 ++ [((300 : Int32), nI N, (0 : Int32))], (0 ≤ t.2.1.toInt ∧ t.2.1.toInt ≤ 400) ∧ 0 ≤ t.2.2.toInt := fun t ht => by
    rcases List.mem_append.1 ht with q | q
    · exact tk_ok hN N 0 (by omega) t q
    · rw [List.mem_singleton.1 q]
      have e : (nI N).toInt = N := nI_toInt (by omega)
      refine ⟨⟨?_, ?_⟩, by show 0 ≤ (0 : Int32).toInt; decide⟩
      · show 0 ≤ (nI N).toInt; omega
      · show (nI N).toInt ≤ 400; omega
  have q := all tt (List.mem_of_getElem? ht)
  refine ⟨by rw [c6]; exact q.1, by rw [c7]; exact q.2, fun i hi => ?_⟩
  rw [h3, nI_toInt (by omega)] at hi
  obtain ⟨t, et⟩ : ∃ t, (TK f N 0 ++ [((300 : Int32), nI N, (0 : Int32))])[i]? = some t := ⟨_, List.getElem?_eq_getElem (by omega)⟩
  obtain ⟨-, g1, g2⟩ := hh i t et
  rw [g1, g2]
  exact all t (List.mem_of_getElem? et)
def KR : Sx → Int32 → Option (Int32 × Sx) := fun (z13 : Sx) (i14 : Int32) => jn (fun (z16 : Sx) (i17 : Int32) => jn (fun (z19 : Sx) => if (gI z19 13) = 0 then some (1, sI z19 1 0) else some (0, sI z19 1 0)) (fun J18 => if i17 = 0 then J18 z16 else if (gI z16 15) = 6 then if (gI z16 9) = 0 then bd2 (fX9_fails z16 0 (gI z16 12)) (fun r25 z26 => J18 z26) else J18 z16 else J18 z16)) (fun J15 => if i14 = 0 then J15 z13 i14 else bd2 (fX9_see z13) (fun r29 z30 => if r29 = (-1) then J15 z30 i14 else bd2 (fX9_fails z30 0 (gI z30 12)) (fun r33 z34 => J15 z34 r33)))
section RUB
variable {f : Nat → Int32} {N t p : Nat} {z4 z6 z8 z9 : Sx}
theorem kr_bad (h : ¬ gI z9 13 = 0) : KR z9 0 = some (0, sI z9 1 0) := by
  unfold KR
  simp only [jn, if_true]
  rw [if_neg h]
theorem kr_end (h9 : T9 f N z9 p) (h13 : gI z9 13 = 0) (h15 : gI z9 15 = nI t) (ht : t < 6) (hs : SV f N p = -1) : KR z9 1 = some (1, sI (sI z9 12 (nI (rnP isB f N p))) 1 0) := by
  have n6 : ¬ gI (sI z9 12 (nI (rnP isB f N p))) 15 = 6 := fun k => by
    have k : gI z9 15 = 6 := k
    rw [h15] at k
    have := (nI_eq (b := 6) (by omega) (by decide)).1 k
    omega
  unfold KR
  simp only [jn, if_true]
  rw [if_neg one0, bd2_eq (see_v h9), if_pos hs, if_neg one0, if_neg n6, if_pos (show gI (sI z9 12 (nI (rnP isB f N p))) 13 = 0 from h13)]
theorem kr_no (h9 : T9 f N z9 p) (h13 : gI z9 13 = 0) (hs : ¬ SV f N p = -1) : KR z9 1 = some (0, sI (sI (sI z9 12 (nI (rnP isB f N p))) 13 (flt (rnP isB f N p) 0)) 1 0) := by
  have hq := rq_le (P := isB) (b := f) (N := N) h9.2.2.1
  have hN := h9.2.2.2.1
  have e12 : gI (sI z9 12 (nI (rnP isB f N p))) 12 = nI (rnP isB f N p) := rfl
  unfold KR
  simp only [jn, if_true]
  rw [if_neg one0, bd2_eq (see_v h9), if_neg hs, e12, bd2_eq fails9, if_pos rfl, failz_e (show gI (sI z9 12 (nI (rnP isB f N p))) 13 = 0 from h13)]
  exact if_neg (flt_n0 (a := 0) (by decide) (by decide) (by omega))
theorem an_bad (h : ¬ gI z6 8 = 0) : fX6_anotherClause z6 = some (0, z6) := by
  unfold fX6_anotherClause
  rw [if_neg h]
theorem tkc_300 {q : Nat} (hb : 0 ≤ (f q).toInt ∧ (f q).toInt ≤ 255) : ¬ tkc f N q = 300 := fun e => by
  have e := congrArg Int32.toInt e
  rw [show (300 : Int32).toInt = 300 by decide] at e
  by_cases d : isD (f q) = true
  · unfold tkc at e
    rw [if_pos d] at e
    by_cases g : rnP isD f N q - q ≤ 5
    · rw [if_pos g, show (301 : Int32).toInt = 301 by decide] at e; omega
    · rw [if_neg g, show (302 : Int32).toInt = 302 by decide] at e; omega
  · exact (tkc_nd d hb).2.2 e
/-- what the class's loop ends with -/
def QLL (B : Nat → Option Nat) (n : Nat) (z8 z4 z6 : Sx) (x2 x3 : Int32) (w4 w6 : Sx) : Prop := (∀ k, lX8_rule_ok_57 k B n z8 z4 z6 x2 x3 = k z8 w4 w6) ∧ (∀ k, lX8_rule_fail_57 k B n z8 z4 z6 x2 x3 = k z8 w4 w6)
theorem rl_0 {B : Nat → Option Nat} {n : Nat} {x3 : Int32} : QLL B (n + 1) z8 z4 z6 0 x3 z4 z6 := ⟨fun k => by rw [lX8_rule_ok_57, if_pos rfl], fun k => by rw [lX8_rule_fail_57, if_pos rfl]⟩
theorem rl_1 {B : Nat → Option Nat} {n : Nat} {x3 r : Int32} {y4 y6 v6 w4 w6 : Sx} (hx : ¬ 12 < x3) (e1 : fX4_readClause z4 z6 = some (y4, y6)) (e2 : fX6_anotherClause y6 = some (r, v6)) (h : QLL B n z8 y4 v6 r (x3 + 1) w4 w6) : QLL B (n + 1) z8 z4 z6 1 x3 w4 w6 :=
  ⟨fun k => by rw [lX8_rule_ok_57, if_neg one0, if_neg hx, bd2_eq e1, bd2_eq e2]; exact h.1 k, fun k => by rw [lX8_rule_fail_57, if_neg one0, if_neg hx, bd2_eq e1, bd2_eq e2]; exact h.2 k⟩
theorem rule_run {B : Nat → Option Nat} : ∀ (g p l c n m : Nat) (z4 z6 z9 : Sx), N - p ≤ g → CB f N z4 z6 z9 t l p c → N - p + 1 < n → N - p < m → ∃ w4 w6 w9, QLL B n z8 z4 z6 1 (nI c) w4 w6 ∧ ((gI w6 8 = 0 ∧ bd2 (fX9_clauseHere z9) (fun r11 z12 => lX9_readsAll_35 KR m z12 r11) = some (1, w9) ∧ RFIN w4 w9 t) ∨ (¬ gI w6 8 = 0 ∧ bd2 (fX9_clauseHere z9) (fun r11 z12 => lX9_readsAll_35 KR m z12 r11) = some (0, w9) ∧ gI w9 13 = gI w6 8)) := by
  intro g
  induction g with
  | zero =>
    intro p l c n m z4 z6 z9 hg h hn hm
    obtain ⟨n, rfl⟩ : ∃ k, n = k + 1 + 1 := ⟨n - 2, by omega⟩
    obtain ⟨m, rfl⟩ : ∃ k, m = k + 1 := ⟨m - 1, by omega⟩
    have hc := h.2.2.2.2.2.1
    have x12 : ¬ (12 : Int32) < nI c := nI_nlt (a := 12) hc (by decide)
    rcases clause_both h with ⟨y4, y6, y9, p1, l1, a1, a2, a3, a4⟩ | ⟨y4, y6, y9, a1, a2, a3, a4⟩
    · have := a3.1.2.2.1.2.2.1
      omega
    · refine ⟨y4, y6, sI y9 1 0, rl_1 x12 a1 (an_bad a3) rl_0, Or.inr ⟨a3, ?_, a4⟩⟩
      rw [bd2_eq a2, lX9_readsAll_35, if_pos rfl, kr_bad (by rw [a4]; exact a3)]
  | succ g ih =>
    intro p l c n m z4 z6 z9 hg h hn hm
    obtain ⟨n, rfl⟩ : ∃ k, n = k + 1 + 1 := ⟨n - 2, by omega⟩
    obtain ⟨m, rfl⟩ : ∃ k, m = k + 1 := ⟨m - 1, by omega⟩
    have hc := h.2.2.2.2.2.1
    have x12 : ¬ (12 : Int32) < nI c := nI_nlt (a := 12) hc (by decide)
    rcases clause_both h with ⟨y4, y6, y9, p1, l1, a1, a2, a3, a4⟩ | ⟨y4, y6, y9, a1, a2, a3, a4⟩
    · obtain ⟨hR, hl, h4, h6, h18, hc1, hnn, hclq⟩ := a3
      obtain ⟨hA, h8, h9, h13, hE, -⟩ := id hR
      have hp := h9.2.2.1
      have hN := h9.2.2.2.1
      have hq := rq_le (P := isB) (b := f) (N := N) hp
      have hqg := rq_ge (P := isB) (b := f) (N := N) (p := p1)
      have hsk := rs_sk hR
      by_cases k59 : SV f N p1 = 59
      · have c59 : gI y6 5 = 59 := (sg_code (by decide) hA).2 k59
        obtain ⟨u6, s1, s2, s3, s4, -, -⟩ := sg_step (c := 59) (by decide) hR k59
        obtain ⟨u6', n1, n2, -⟩ := nn_step hnn
        have eu : u6' = u6 := Option.some.inj (n1.symm.trans s1)
        rw [eu] at n2
        have eA : fX6_anotherClause y6 = some (1, u6) := by
          unfold fX6_anotherClause
          rw [if_pos h8, if_neg (by rw [c59]; decide), if_pos c59, bd_eq s1]
        have eB : lX9_readsAll_35 KR (m + 1) y9 1 = bd2 (fX9_clauseHere (sI y9 12 (nI (rnP isB f N p1 + 1)))) (fun r11 z12 => lX9_readsAll_35 KR m z12 r11) := by
          rw [lX9_readsAll_35, if_neg one0, bd2_eq (see_v h9), if_pos k59, sI_sI]
          show bd2 (fX9_clauseHere (sI y9 12 (nI (rnP isB f N p1) + 1))) _ = _
          rw [nI_1]
        obtain ⟨w4, w6, w9, b1, b2⟩ := ih (rnP isB f N p1 + 1) l1 (c + 1) (n + 1) m y4 u6 (sI y9 12 (nI (rnP isB f N p1 + 1))) (by omega) ⟨s2, by omega, h4, h6, h18, hc1, n2, hclq⟩ (by omega) (by omega)
        refine ⟨w4, w6, w9, rl_1 x12 a1 eA (by rw [nI_1]; exact b1), ?_⟩
        rw [bd2_eq a2, eB]
        exact b2
      · have c59 : ¬ gI y6 5 = 59 := fun k => k59 ((sg_code (by decide) hA).1 k)
        have T3 := hsk.2.2.1
        have sv2 : SV f N (rnP isB f N p1) = SV f N p1 := sv_idem
        have eB : lX9_readsAll_35 KR (m + 1) y9 1 = KR (sI y9 12 (nI (rnP isB f N p1))) 1 := by
          rw [lX9_readsAll_35, if_neg one0, bd2_eq (see_v h9), if_neg k59]
        by_cases hend : rnP isB f N p1 < N
        · have sv : SV f N p1 = f (rnP isB f N p1) := if_pos hend
          have bb := h9.2.2.2.2 _ hend
          have n1 : ¬ SV f N p1 = -1 := fun k => by
            rw [sv] at k
            have := bb.1
            rw [k, show (-1 : Int32).toInt = -1 by decide] at this
            omega
          have c300 : ¬ gI y6 5 = 300 := by
            rw [(at_tok hA hend).1]
            exact tkc_300 ⟨bb.1, bb.2.1⟩
          have eA : fX6_anotherClause y6 = some (0, sI y6 8 (flt (rnP isB f N p1) 0)) := by
            unfold fX6_anotherClause
            rw [if_pos h8, if_neg c300, if_neg c59, bd_eq (fail6 h8 (at_6 hA hp))]
          refine ⟨y4, sI y6 8 (flt (rnP isB f N p1) 0), sI (sI (sI (sI y9 12 (nI (rnP isB f N p1))) 12 (nI (rnP isB f N (rnP isB f N p1)))) 13 (flt (rnP isB f N (rnP isB f N p1)) 0)) 1 0, rl_1 x12 a1 eA rl_0, Or.inr ⟨flt_n0 (a := 0) (by decide) (by decide) (by omega), ?_, ?_⟩⟩
          · rw [bd2_eq a2, eB, kr_no T3 hsk.2.2.2.1 (by rw [sv2]; exact n1)]
          · show flt (rnP isB f N (rnP isB f N p1)) 0 = flt (rnP isB f N p1) 0
            rw [rq_idem]
        · have sv : SV f N p1 = -1 := if_neg hend
          have c300 : gI y6 5 = 300 := (at_end hA (by omega)).1
          have eA : fX6_anotherClause y6 = some (0, y6) := by
            unfold fX6_anotherClause
            rw [if_pos h8, if_pos c300]
          refine ⟨y4, y6, sI (sI (sI y9 12 (nI (rnP isB f N p1))) 12 (nI (rnP isB f N (rnP isB f N p1)))) 1 0, rl_1 x12 a1 eA rl_0, Or.inl ⟨h8, ?_, l1, c + 1, hE, h4, hc1, h6, hclq⟩⟩
          rw [bd2_eq a2, eB, kr_end T3 hsk.2.2.2.1 hsk.2.2.2.2.1.2.1 hsk.2.2.2.2.1.2.2.1 (by rw [sv2]; exact sv)]
    · refine ⟨y4, y6, sI y9 1 0, rl_1 x12 a1 (an_bad a3) rl_0, Or.inr ⟨a3, ?_, a4⟩⟩
      rw [bd2_eq a2, lX9_readsAll_35, if_pos rfl, kr_bad (by rw [a4]; exact a3)]
end RUB
/-- the text that waits, on both sides -/
def TX (z8 z9 : Sx) (N : Nat) : Prop := gI z8 1 = nI N ∧ gI z9 1 = nI N ∧ N ≤ 400 ∧ ∀ i : Nat, i < N → SB (gT z8 0 i) (gT z9 0 i)
section RUW
variable {N t : Nat} {z4 z6 z8 z9 : Sx} {B : Nat → Option Nat}
/-- a RULE is taken, or refused, by both -/
theorem rule_whole (hT : TX z8 z9 N) (h3 : gI z8 3 = nI t) (h2 : gI z9 2 = nI t) (ht : t < 6) : ∃ w4 w6 w9, (fX8_rule_ok z8 B z4 z6 = some (nI t, sI (sI z8 1 0) 3 (nI (t + 1)), w4, w6) ∧ fX8_rule_fail z8 B z4 z6 = none ∧ fX9_readsAll (sT (sI z9 15 (nI t)) 6 t 0) = some (1, w9) ∧ RFIN w4 w9 t) ∨ (fX8_rule_ok z8 B z4 z6 = none ∧ fX8_rule_fail z8 B z4 z6 = some (-2 - gI w9 13, sI z8 1 0, w4, w6) ∧ fX9_readsAll (sT (sI z9 15 (nI t)) 6 t 0) = some (0, w9)) := by
  obtain ⟨h81, h91, hN, hb⟩ := hT
  obtain ⟨u6, a1, a2, a3⟩ := at_open (f := gT z8 0) (N := N) (z := z6) hN
  have cl : (nI t).toNatClampNeg = t := nI_clamp (by omega)
  have eR : fX9_readsAll (sT (sI z9 15 (nI t)) 6 t 0) = bd2 (fX9_clauseHere (sI (sI (sI (sI (sT (sT (sI z9 15 (nI t)) 6 t 0) 4 t 0) 18 0) 12 0) 13 0) 16 0)) (fun r11 z12 => lX9_readsAll_35 KR FU z12 r11) := by
    unfold fX9_readsAll
    rw [gd_pos (show inb (gI (sT (sI z9 15 (nI t)) 6 t 0) 15) 7 from ⟨nI_pos (by omega), by show (nI t).toNatClampNeg < 7; rw [cl]; omega⟩)]
    show bd2 (fX9_clauseHere (sI (sI (sI (sI (sT (sT (sI z9 15 (nI t)) 6 t 0) 4 ((nI t).toNatClampNeg) 0) 18 0) 12 0) 13 0) 16 0)) _ = _
    rw [cl]
    rfl
  have hE : EM (sI (sI (sI z4 2 0) 3 0) 4 0) (sI (sI (sI (sI (sT (sT (sI z9 15 (nI t)) 6 t 0) 4 t 0) 18 0) 12 0) 13 0) 16 0) t 0 := ⟨rfl, rfl, ht, if_pos rfl, by omega, fun i hi => by omega⟩
  have hR : RS (gT z8 0) N (sI (sI (sI z4 2 0) 3 0) 4 0) u6 (sI (sI (sI (sI (sT (sT (sI z9 15 (nI t)) 6 t 0) 4 t 0) 18 0) 12 0) 13 0) 16 0) t 0 0 := ⟨a2, a3, ⟨h91, rfl, by omega, hN, hb⟩, rfl, hE, rfl, show 0 ≤ (0 : Int32).toInt ∧ (0 : Int32).toInt ≤ 60 by decide⟩
  obtain ⟨w4, w6, w9, b1, b2⟩ := rule_run (B := B) (z8 := sI z8 1 0) N 0 0 0 FU FU _ u6 _ (by omega) ⟨hR, by omega, rfl, if_pos rfl, rfl, by omega, nn_open hN a1, fun d hd => by omega⟩ (FU_lt (by omega)) (FU_lt (by omega))
  have n0 : ¬ nI t < 0 := nI_pos (by omega)
  have l6 : nI t < 6 := nI_lt (b := 6) ht (by decide)
  have es : fX4_start z4 = some (sI (sI (sI z4 2 0) 3 0) 4 0) := rfl
  have i3 : inb (gI (sI z8 1 0) 3) 6 := by
    show inb (gI z8 3) 6
    rw [h3]; exact in_n ht (by omega)
  have e3 : gI (sI z8 1 0) 3 = nI t := h3
  refine ⟨w4, w6, w9, ?_⟩
  rw [eR]
  rcases b2 with ⟨c1, c2, c4⟩ | ⟨c1, c2, c3⟩
  · left
    refine ⟨?_, ?_, c2, c4⟩
    · unfold fX8_rule_ok
      rw [h3, h81, if_neg n0, if_pos l6, bd_eq a1, bd_eq es]
      refine (b1.1 _).trans ?_
      rw [if_pos c1, gd_pos i3, e3, nI_1, show nI (t + 1) - 1 = nI t from nI_sub (b := 1) (by omega)]
    · unfold fX8_rule_fail
      rw [h3, h81, if_neg n0, if_pos l6, bd_eq a1, bd_eq es]
      refine (b1.2 _).trans ?_
      rw [if_pos c1]
  · right
    refine ⟨?_, ?_, c2⟩
    · unfold fX8_rule_ok
      rw [h3, h81, if_neg n0, if_pos l6, bd_eq a1, bd_eq es]
      refine (b1.1 _).trans ?_
      rw [if_neg c1]
    · unfold fX8_rule_fail
      rw [h3, h81, if_neg n0, if_pos l6, bd_eq a1, bd_eq es]
      refine (b1.2 _).trans ?_
      rw [if_neg c1, c3]
end RUW

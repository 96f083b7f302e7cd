/-! A new WORK and a new RULE, on both sides: what stands behind them. -/
section S15
variable {z4 z5 z6 z8 z9 zd : Sx} {B : Nat → Option Nat}
theorem work_d {y : Int32 × Sx × Sx × Sx × Sx × Sx} {y9 : Int32 × Sx} (h : JT z8 z9) (hR : RI z9) (hx : gI zd 4 = gT z9 24 9) (hx0 : 0 ≤ (gT z9 24 9).toInt) (hy : fX8_work_ok z8 z5 zd z4 z6 = some y) (hy9 : fX9_work z9 = some y9) : S6 y.2.2.1 (gT y9.2 24) ∧ DR y.2.2.2.1 (gT y9.2 24) := by
  obtain ⟨N, t, hT, -⟩ := h
  obtain ⟨u6, w7, w6, w9, a1, a2, a3⟩ := work_whole (z6 := z6) (s := gI z8 4 + 1) hT
  have z0 : (0 : Int32).toInt = 0 := by decide
  have hq := t_readsW (z_t := sI (sI (sI (sI z9 15 6) 7 (-1)) 8 0) 9 0) rfl hR.1 z0 z0
  unfold fX8_work_ok at hy
  rw [bd_eq a1, bd2_eq a2] at hy
  rcases a3 with ⟨c1, c2, c3⟩ | ⟨c1, c2, c3⟩
  · rw [if_pos c1] at hy
    have r8 := c3.1
    have r9 := c3.2.1
    obtain ⟨K, hK⟩ : ∃ K : Nat, (gI w9 8).toInt = K := ⟨(gI w9 8).toInt.toNat, by omega⟩
    obtain ⟨F, hF⟩ : ∃ F : Nat, (gI w9 9).toInt = F := ⟨(gI w9 9).toInt.toNat, by omega⟩
    have h8 : gI w9 8 = nI K := Int32.toInt_inj.1 (by rw [hK, nI_toInt (by omega)])
    have h9 : gI w9 9 = nI F := Int32.toInt_inj.1 (by rw [hF, nI_toInt (by omega)])
    obtain ⟨v9, e1, e2, e3⟩ := work_T c2 h8 (by omega) h9 (by omega)
    rw [e1] at hy9
    obtain rfl := Option.some.inj hy9
    have hw := wkt_of c3 e3 h8 (by omega) h9 (by omega)
    obtain ⟨yd, g1, g2, g3, g4, g5, g6, g7⟩ := begin_class (zd := zd) (v := gI w7 1)
    have eb : fX5_beginWork z5 zd w7 = some (sI (sI (sI (sI z5 2 0) 3 0) 4 0) 6 0, sI yd 3 0) := by
      unfold fX5_beginWork
      rw [bd_eq g1]
    rw [bd2_eq eb] at hy
    obtain rfl := Option.some.inj hy
    have hf := ok_get hq c2
    have t24 : gT w9 24 = gT z9 24 := (hf.1 24 (by decide)).2.1
    obtain ⟨q0, q1, q2, q3, q4, q5, q6, q7⟩ := e3
    have q9 : gT v9 24 9 = gT z9 24 9 := by rw [q5 9 (by omega) (by omega), t24]
    have bz : ∀ s : Int32, ¬ s = 0 → bmf (gT v9 24) s F = 0 := fun s hs => Nat.eq_of_testBit_eq (fun j => by
      rw [bm_bit, Nat.zero_testBit]
      refine decide_eq_false (fun q => hs ?_)
      rw [← q.2]
      exact (q7 j q.1).2.1)
    refine ⟨⟨(q4 5 (by omega) (by omega)).symm, (q4 6 (by omega) (by omega)).symm⟩, F, q0.trans h9, by omega, ?_, ?_, ?_, ?_, ?_, ?_, fun g hg => Or.inl (q7 g hg).2.1, fun g hg => ?_⟩
    · show gI yd 0 = gT v9 24 3
      rw [g2, q3]; exact hw.2.2.1
    · show gI yd 1 = gT v9 24 4
      rw [g3]; exact (q4 4 (by omega) (by omega)).symm
    · show gI yd 2 = nI (bmf (gT v9 24) 1 F)
      rw [bz 1 (by decide), g4]; rfl
    · show (0 : Int32) = nI (bmf (gT v9 24) 2 F)
      rw [bz 2 (by decide)]; rfl
    · show gI yd 4 = gT v9 24 9
      rw [g6, q9]; exact hx
    · rw [q9]; exact hx0
    · show gT yd 5 g = gT v9 24 (44 + 6 * g + 5)
      rw [g7 g (by omega)]; exact (q7 g hg).2.2.symm
  · rw [if_neg c1] at hy; cases hy
/-- a RULE that both took, as it is kept -/
theorem rrel_new {z4 z9 : Sx} {t : Nat} (h : RFIN z4 z9 t) : RREL (ruleN z4) (ruleZ z4) z9 t := by
  obtain ⟨l, c, hE, h4, hc, h6, hq⟩ := h
  obtain ⟨e2, e15, ht, e4, hl, hcm⟩ := hE
  have en : ruleN z4 = l := by
    unfold ruleN
    rw [e2]
    have m1 : mnI (nI l) 400 = nI l := by
      unfold mnI
      rw [if_neg (show ¬ (400 : Int32) < nI l from nI_nlt (a := 400) hl (by decide))]
    have m2 : mxI 0 (nI l) = nI l := by
      unfold mxI
      by_cases q : (0 : Int32) < nI l
      · rw [if_pos q]
      · rw [if_neg q]
        have := bI_nlt (show (0 : Int32).toInt = 0 by decide) (nI_toInt (n := l) (by omega)) q
        have : l = 0 := by omega
        rw [this]; rfl
    rw [m1, m2, nI_clamp (by omega)]
  rw [en]
  exact ⟨ht, hl, hcm, c, hc, h4, h6, fun d hd => hq d hd⟩
theorem rrel_old {nR k t : Nat} {zR w9 : Sx} (h : RREL nR zR z9 k) (ho : OLD t z9 w9) (hk : k < t) : RREL nR zR w9 k := by
  obtain ⟨hk6, hn, hcm, C, hC, c1, c2, hcl⟩ := h
  refine ⟨hk6, hn, fun i hi => by rw [ho.1 (400 * k + i) (by omega)]; exact hcm i hi, C, hC, c1, by rw [ho.2.2 k hk]; exact c2, fun c hc => ?_⟩
  have e : ∀ j : Nat, j < 5 → gT w9 5 (60 * k + 5 * c + j) = gT z9 5 (60 * k + 5 * c + j) := fun j hj => ho.2.1 _ (by omega)
  have e0 := e 0 (by omega)
  rw [Nat.add_zero (60 * k + 5 * c)] at e0
  rw [e0, e 1 (by omega), e 2 (by omega), e 3 (by omega), e 4 (by omega)]
  exact hcl c hc
theorem rule_new {y : Int32 × Sx × Sx × Sx} {y9 : Int32 × Sx} (h : JT z8 z9) (hR : RI z9) (hy : fX8_rule_ok z8 B z4 z6 = some y) (hy9 : fX9_rule z9 = some y9) : ∃ t : Nat, t < 6 ∧ y.1 = nI t ∧ gI z9 2 = nI t ∧ gI y9.2 2 = nI (t + 1) ∧ RFIN y.2.2.1 y9.2 t ∧ (∀ (nR k : Nat) (zR : Sx), k < t → RREL nR zR z9 k → RREL nR zR y9.2 k) := by
  obtain ⟨N, t, hT, ht, e, e2⟩ := id h
  by_cases c : t < 6
  · have cl : (nI t).toNatClampNeg = t := nI_clamp (by omega)
    have n6 : ¬ nI t = 6 := fun k => by have := (nI_eq (b := 6) (by omega) (by decide)).1 k; omega
    have hr := t_readsR (t := t) (z_t := sT (sI z9 15 (nI t)) 6 t 0) ⟨nI_toInt (by omega), c⟩ hR.1 (by
      have e : gT (sT (sI z9 15 (nI t)) 6 t 0) 6 t = 0 := if_pos rfl
      rw [e]; decide)
    unfold fX9_rule at hy9
    rw [e2, if_neg n6, gd_pos (in_n c (by omega)), cl] at hy9
    obtain ⟨w4, w6, w9, k | k⟩ := rule_whole (B := B) (z4 := z4) (z6 := z6) hT e e2 c
    · obtain ⟨k1, k2, k3, k4⟩ := k
      have hq := ok_get hr k3
      have q2 : gI w9 2 = nI t := (hq.1 2 (by decide)).1.trans e2
      rw [bd2_eq k3, if_neg one0, q2, nI_1] at hy9
      rw [k1] at hy
      obtain rfl := Option.some.inj hy
      obtain rfl := Option.some.inj hy9
      refine ⟨t, c, rfl, e2, rfl, k4, fun nR k zR hk hrel => ?_⟩
      have ho : OLD t (sT (sI z9 15 (nI t)) 6 t 0) w9 := hq.2.1
      have h0 : RREL nR zR (sT (sI z9 15 (nI t)) 6 t 0) k := by
        unfold RREL
        rw [show gT (sT (sI z9 15 (nI t)) 6 t 0) 6 k = gT z9 6 k from if_neg (by omega)]
        exact hrel
      exact rrel_old h0 ho hk
    · rw [k.1] at hy; cases hy
  · exfalso
    obtain rfl : t = 6 := by omega
    have e : gI z8 3 = 6 := e
    unfold fX8_rule_ok at hy
    rw [e, if_neg (by decide), if_neg (by decide)] at hy
    cases hy
theorem rule_old {y : Int32 × Sx × Sx × Sx} {y9 : Int32 × Sx} (h : JT z8 z9) (hR : RI z9) (hy : fX8_rule_fail z8 B z4 z6 = some y) (hy9 : fX9_rule z9 = some y9) : gI y9.2 2 = gI z9 2 ∧ ∀ (nR k : Nat) (zR : Sx), (k : Int) < (gI z9 2).toInt → RREL nR zR z9 k → RREL nR zR y9.2 k := by
  obtain ⟨N, t, hT, ht, e, e2⟩ := id h
  by_cases c : t < 6
  · have cl : (nI t).toNatClampNeg = t := nI_clamp (by omega)
    have n6 : ¬ nI t = 6 := fun k => by have := (nI_eq (b := 6) (by omega) (by decide)).1 k; omega
    have hr := t_readsR (t := t) (z_t := sT (sI z9 15 (nI t)) 6 t 0) ⟨nI_toInt (by omega), c⟩ hR.1 (by
      have e : gT (sT (sI z9 15 (nI t)) 6 t 0) 6 t = 0 := if_pos rfl
      rw [e]; decide)
    unfold fX9_rule at hy9
    rw [e2, if_neg n6, gd_pos (in_n c (by omega)), cl] at hy9
    obtain ⟨w4, w6, w9, k | k⟩ := rule_whole (B := B) (z4 := z4) (z6 := z6) hT e e2 c
    · rw [k.2.1] at hy; cases hy
    · obtain ⟨k1, k2, k3⟩ := k
      have hq := ok_get hr k3
      have q2 : gI w9 2 = nI t := (hq.1 2 (by decide)).1.trans e2
      rw [bd2_eq k3, if_pos rfl] at hy9
      obtain rfl := Option.some.inj hy9
      refine ⟨q2.trans e2.symm, fun nR k zR hk hrel => ?_⟩
      rw [e2, nI_toInt (by omega)] at hk
      have ho : OLD t (sT (sI z9 15 (nI t)) 6 t 0) w9 := hq.2.1
      have h0 : RREL nR zR (sT (sI z9 15 (nI t)) 6 t 0) k := by
        unfold RREL
        rw [show gT (sT (sI z9 15 (nI t)) 6 t 0) 6 k = gT z9 6 k from if_neg (by omega)]
        exact hrel
      exact rrel_old h0 ho (by omega)
  · obtain rfl : t = 6 := by omega
    unfold fX9_rule at hy9
    have e2 : gI z9 2 = 6 := e2
    rw [if_pos e2] at hy9
    obtain rfl := Option.some.inj hy9
    exact ⟨rfl, fun _ _ _ _ h => h⟩
theorem copyD {z_t z_t_1 z_p1 z_p1_1 : Sx} : okP (fX5_copyFrom z_t z_t_1 z_p1 z_p1_1) (fun y => (∀ T, S5 z_p1 T → S5 y.1 T) ∧ (∀ T, S6 z_p1 T → S6 y.1 T) ∧ ∀ T, DR z_p1_1 T → DR y.2 T) := by
  unfold fX5_copyFrom fX0_copyFrom
  rw [bd_eq rfl]
  refine ok_some ⟨fun T h => ?_, fun T h => h, fun T h => ?_⟩
  · obtain ⟨a, b, c, d⟩ := h
    refine ⟨a, b, c, fun i hi => ?_⟩
    exact ((pk_cpy_in (Nat.zero_le i) (by omega)).trans (by rw [Nat.sub_zero, Nat.zero_add])).trans (d i hi)
  · obtain ⟨F, d0, dF, d1, d2, d3, d4, d5, d6, d7, d8⟩ := h
    refine ⟨F, d0, dF, d1, d2, d3, d4, d5, d6, d7, fun g hg => ?_⟩
    exact ((pk_cpy_in (Nat.zero_le g) (by omega)).trans (by rw [Nat.sub_zero, Nat.zero_add])).trans (d8 g hg)
theorem work_f24 {y : Int32 × Sx × Sx × Sx × Sx} {y9 : Int32 × Sx} (h : JT z8 z9) (hR : RI z9) (hy : fX8_work_fail z8 z5 zd z4 z6 = some y) (hy9 : fX9_work z9 = some y9) : y.2.2.2.1 = zd ∧ gT y9.2 24 = gT z9 24 := by
  obtain ⟨N, t, hT, -⟩ := h
  obtain ⟨u6, w7, w6, w9, a1, a2, a3⟩ := work_whole (z6 := z6) (s := gI z8 4 + 1) hT
  have z0 : (0 : Int32).toInt = 0 := by decide
  have hq := t_readsW (z_t := sI (sI (sI (sI z9 15 6) 7 (-1)) 8 0) 9 0) rfl hR.1 z0 z0
  unfold fX8_work_fail at hy
  rw [bd_eq a1, bd2_eq a2] at hy
  rcases a3 with ⟨c1, c2, c3⟩ | ⟨c1, c2, c3⟩
  · rw [if_pos c1] at hy; cases hy
  · rw [if_neg c1] at hy
    obtain rfl := Option.some.inj hy
    have hf := ok_get hq c2
    unfold fX9_work at hy9
    rw [bd2_eq c2, if_pos rfl] at hy9
    obtain rfl := Option.some.inj hy9
    exact ⟨rfl, (hf.1 24 (by decide)).2.1⟩
theorem rule_f24 (h : RI z9) : okP (fX9_rule z9) (fun y => gT y.2 24 = gT z9 24) := by
  unfold fX9_rule
  obtain ⟨h1, h2, ⟨h3, h4, h5⟩, h6⟩ := id h
  refine ok_ite (fun c => ok_some rfl) (fun c => ?_)
  have ci := bI_neq rfl (show (6 : Int32).toInt = 6 by decide) c
  refine ok_gd (inb_of (by omega) (by omega)) ?_
  obtain ⟨t, ht⟩ : ∃ t : Nat, (gI z9 2).toInt = t := ⟨(gI z9 2).toInt.toNat, by omega⟩
  have htn : (gI z9 2).toNatClampNeg = t := n_cl ht
  simp only [htn]
  refine ok_bd2 (t_readsR (t := t) (z_t := sT (sI z9 15 (gI z9 2)) 6 t 0) ⟨ht, by omega⟩ h1 (by
    have e : gT (sT (sI z9 15 (gI z9 2)) 6 t 0) 6 t = 0 := if_pos rfl
    rw [e]; decide)) (fun r4 z5 q => ?_)
  have e24 : gT z5 24 = gT z9 24 := (q.1 24 (by decide)).2.1
  exact ok_ite (fun _ => ok_some e24) (fun _ => ok_some e24)
end S15

/-! The text that waits, and the number of RULES: feed, end, work and rule on both sides. -/
def JT (z8 z9 : Sx) : Prop := ∃ N t : Nat, TX z8 z9 N ∧ t ≤ 6 ∧ gI z8 3 = nI t ∧ gI z9 2 = nI t
def W9 (o z : Sx) : Prop := gI z 1 = 0 ∧ gI z 2 = gI o 2
section JTS
variable {z_t z8 z9 z5 zd z4 z6 : Sx} {x1 x2 x3 x4 x5 : Int32} {B : Nat → Option Nat}
set_option maxHeartbeats 1000000 in
theorem work9 (h : RI z_t) : okP (fX9_work z_t) (fun y => W9 z_t y.2) := by
  unfold fX9_work
  obtain ⟨h1, h2, h3, h6⟩ := id h
  have z0 : (0 : Int32).toInt = 0 := by decide
  refine ok_bd2 (t_readsW (z_t := sI (sI (sI (sI z_t 15 6) 7 (-1)) 8 0) 9 0) rfl h1 z0 z0) (fun r2 z3 q => ?_)
  obtain ⟨a1, a3, a4⟩ := q
  have a1 : FrL [1, 4, 7, 8, 9, 10, 11, 12, 13, 14, 16, 18] (sI (sI (sI (sI z_t 15 6) 7 (-1)) 8 0) 9 0) z3 := a1
  have fr3 : FrL [1, 4, 7, 8, 9, 10, 11, 12, 13, 14, 15, 16, 18] z_t z3 := fr_tr (fr_I (fr_I (fr_I (fr_I fr_rf (by decide)) (by decide)) (by decide)) (by decide)) a1 (by decide)
  have g3 : W9 z_t z3 := ⟨Int32.toInt_inj.1 (Eq.trans a3 (show (0 : Int) = (0 : Int32).toInt by decide)), (fr3 2 (by decide)).1⟩
  refine ok_ite (fun c => ok_some g3) (fun c => ?_)
  have hw : WKI z3 := by
    rcases a4 with q | q
    · exact absurd q c
    · exact q.2
  obtain ⟨w1, w2, w3, w4, w5⟩ := id hw
  have two : (2 : Int32).toInt = 2 := by decide
  have tn : (2 : Int32).toNatClampNeg = 2 := by decide
  have go : ∀ (v6 : Int32), okP (gd (inb 2 104) (nm (gT (sT (sT (sT z3 24 0 (gI z3 9)) 24 1 (gI z3 8)) 24 ((2 : Int32).toNatClampNeg) v6) 24 2 : Int32) (fun v9 => lX9_work_92 (fun (z12 : Sx) => lX9_work_113 (fun (z16 : Sx) => lX9_work_146 (fun (z24 : Sx) => some (gI z24 9, z24)) FU z16 0) FU z12 0) FU (sT (sT (sT (sT z3 24 0 (gI z3 9)) 24 1 (gI z3 8)) 24 ((2 : Int32).toNatClampNeg) v6) 24 3 v9) 4))) (fun y => W9 z_t y.2) := by
    intro v6
    refine ok_gd (inb_of (by omega) (by omega)) ?_
    rw [tn]
    refine ok_nm2 (fun v9 _ => ?_)
    have ws0 : WSD z3 (gI z3 9) (gI z3 8) (sT (sT (sT (sT z3 24 0 (gI z3 9)) 24 1 (gI z3 8)) 24 2 v6) 24 3 v9) := by
      refine wsd_T (wsd_T ⟨fr_T (fr_T fr_rf (by decide)) (by decide), rfl, rfl, fun j hj => ?_⟩ (by omega)) (by omega)
      exact (show upd (upd (gT z3 24) 0 (gI z3 9)) 1 (gI z3 8) (18 + j) = upd (gT z3 24) 0 (gI z3 9) (18 + j) from if_neg (by omega)).trans (if_neg (by omega))
    have four : (4 : Int32).toInt = 4 := by decide
    refine tl_work92 (o := z3) (n := gI z3 9) (k := gI z3 8) (fun z12 ws12 e12 => ?_) FU _ 4 ws0 (by omega) (by omega) (fun q => by omega) (FU_lt (by omega))
    refine tl_work113 (o := z3) (n := gI z3 9) (k := gI z3 8) ⟨w1, w2⟩ (fun z16 ws16 e16 => ?_) FU z12 0 ws12 e12 (by omega) (FU_lt (by omega))
    have n0 : (0 : Int32).toNatClampNeg = 0 := by decide
    have wf0 : WF z3 (0 : Int32).toNatClampNeg z16 := fun g hg => by rw [n0] at hg; omega
    refine tl_work146 (o := z3) (n := gI z3 9) (k := gI z3 8) ⟨w3, w4⟩ (fun z24 ws24 e24 wf24 => ?_) FU z16 0 ws16 e16 (by omega) (by omega) wf0 (FU_lt (by omega))
    obtain ⟨f24, s0, s1, sg⟩ := ws24
    exact ok_some ⟨(f24 1 (by decide)).1.trans g3.1, (f24 2 (by decide)).1.trans g3.2⟩
  refine ok_jn ?_
  exact ok_ite (fun _ => go _) (fun _ => go _)
theorem jt_9 {z : Sx} (h : JT z8 z9) (g : U9 z9 z) : JT z8 z := by
  obtain ⟨N, t, ⟨a, b, c, d⟩, ht, e, e2⟩ := h
  exact ⟨N, t, ⟨a, g.1.trans b, c, by rw [g.2.2]; exact d⟩, ht, e, g.2.1.trans e2⟩
theorem feed_st {y : Int32 × Sx} {y9 : Int32 × Sx} (h : JT z8 z9) (hR : RI z9) (hy : fX8_feed z8 x1 x2 x3 x4 x5 = some y) (hy9 : fX9_feed z9 x1 x2 x3 x4 x5 = some y9) : y.1 = y9.1 ∧ JT y.2 y9.2 := by
  obtain ⟨N, t, hT, ht, e, e2⟩ := h
  obtain ⟨r, w8, w9, M, a1, a2, a3⟩ := feed_whole (x1 := x1) (x2 := x2) (x3 := x3) (x4 := x4) (x5 := x5) hT
  have f8 := ok_get t_fX8_feed a1
  have f9 := ok_get (t_fX9_feed hR.1) a2
  rw [a1] at hy
  rw [a2] at hy9
  obtain rfl := Option.some.inj hy
  obtain rfl := Option.some.inj hy9
  exact ⟨rfl, M, t, a3, ht, (f8 3 (by decide)).1.trans e, (f9.1 2 (by decide)).1.trans e2⟩
theorem end_st {y : Int32 × Sx} {y9 : Int32 × Sx} (h : JT z8 z9) (hR : RI z9) (hy : fX8_end z8 x1 = some y) (hy9 : fX9_end z9 x1 = some y9) : y.1 = y9.1 ∧ JT y.2 y9.2 := by
  obtain ⟨N, t, hT, ht, e, e2⟩ := h
  obtain ⟨r, w8, w9, M, a1, a2, a3⟩ := end_whole (x1 := x1) hT
  have f8 := ok_get t_fX8_end a1
  have f9 := ok_get (t_fX9_end hR.1) a2
  rw [a1] at hy
  rw [a2] at hy9
  obtain rfl := Option.some.inj hy
  obtain rfl := Option.some.inj hy9
  exact ⟨rfl, M, t, a3, ht, (f8 3 (by decide)).1.trans e, (f9.1 2 (by decide)).1.trans e2⟩
theorem jt_0 {w8 w9 : Sx} (h : JT z8 z9) (a1 : gI w8 1 = 0) (a3 : gI w8 3 = gI z8 3) (g : W9 z9 w9) : JT w8 w9 := by
  obtain ⟨N, t, hT, ht, e, e2⟩ := h
  exact ⟨0, t, ⟨a1, g.1, by omega, fun i hi => by omega⟩, ht, a3.trans e, g.2.trans e2⟩
theorem work_ok_st {y : Int32 × Sx × Sx × Sx × Sx × Sx} {y9 : Int32 × Sx} (h : JT z8 z9) (hR : RI z9) (hy : fX8_work_ok z8 z5 zd z4 z6 = some y) (hy9 : fX9_work z9 = some y9) : JT y.2.1 y9.2 := by
  have g := ok_get (work9 hR) hy9
  unfold fX8_work_ok at hy
  obtain ⟨a2, -, hy⟩ := bd_some hy
  obtain ⟨a4, a5, -, hy⟩ := bd2_some hy
  by_cases c : gI a5 8 = 0
  · rw [if_pos c] at hy
    obtain ⟨a8, a9, -, hy⟩ := bd2_some hy
    obtain rfl := Option.some.inj hy
    exact jt_0 h rfl rfl g
  · rw [if_neg c] at hy; cases hy
theorem work_fail_st {y : Int32 × Sx × Sx × Sx × Sx} {y9 : Int32 × Sx} (h : JT z8 z9) (hR : RI z9) (hy : fX8_work_fail z8 z5 zd z4 z6 = some y) (hy9 : fX9_work z9 = some y9) : JT y.2.1 y9.2 := by
  have g := ok_get (work9 hR) hy9
  unfold fX8_work_fail at hy
  obtain ⟨a2, -, hy⟩ := bd_some hy
  obtain ⟨a4, a5, -, hy⟩ := bd2_some hy
  by_cases c : gI a5 8 = 0
  · rw [if_pos c] at hy; cases hy
  · rw [if_neg c] at hy
    obtain rfl := Option.some.inj hy
    exact jt_0 h rfl rfl g
theorem rule_st {y : Int32 × Sx × Sx × Sx} {y9 : Int32 × Sx} (h : JT z8 z9) (hR : RI z9) (hy : fX8_rule_ok z8 B z4 z6 = some y ∨ fX8_rule_fail z8 B z4 z6 = some y) (hy9 : fX9_rule z9 = some y9) : y.1 = y9.1 ∧ JT y.2.1 y9.2 := by
  obtain ⟨N, t, hT, ht, e, e2⟩ := id h
  by_cases c : t < 6
  · have cl : (nI t).toNatClampNeg = t := nI_clamp (by omega)
    have n6 : ¬ nI t = 6 := fun k => by have := (nI_eq (b := 6) (by omega) (by decide)).1 k; omega
    have hr := t_readsR (t := t) (z_t := sT (sI z9 15 (nI t)) 6 t 0) ⟨nI_toInt (by omega), c⟩ hR.1 (by
      have e : gT (sT (sI z9 15 (nI t)) 6 t 0) 6 t = 0 := if_pos rfl
      rw [e]; decide)
    unfold fX9_rule at hy9
    rw [e2, if_neg n6, gd_pos (in_n c (by omega)), cl] at hy9
    obtain ⟨w4, w6, w9, k | k⟩ := rule_whole (B := B) (z4 := z4) (z6 := z6) hT e e2 c
    · obtain ⟨k1, k2, k3, -⟩ := k
      have hq := ok_get hr k3
      have q2 : gI w9 2 = nI t := (hq.1 2 (by decide)).1.trans e2
      have q1 : gI w9 1 = 0 := Int32.toInt_inj.1 (Eq.trans hq.2.2.1 (show (0 : Int) = (0 : Int32).toInt by decide))
      rw [bd2_eq k3, if_neg one0, q2, nI_1, show nI (t + 1) - 1 = nI t from nI_sub (b := 1) (by omega)] at hy9
      rw [k1, k2] at hy
      have hy := hy.resolve_right (fun q => by cases q)
      obtain rfl := Option.some.inj hy
      obtain rfl := Option.some.inj hy9
      exact ⟨rfl, 0, t + 1, ⟨rfl, q1, by omega, fun i hi => by omega⟩, by omega, rfl, rfl⟩
    · obtain ⟨k1, k2, k3⟩ := k
      have hq := ok_get hr k3
      have q2 : gI w9 2 = nI t := (hq.1 2 (by decide)).1.trans e2
      have q1 : gI w9 1 = 0 := Int32.toInt_inj.1 (Eq.trans hq.2.2.1 (show (0 : Int) = (0 : Int32).toInt by decide))
      rw [bd2_eq k3, if_pos rfl] at hy9
      rw [k1, k2] at hy
      have hy := hy.resolve_left (fun q => by cases q)
      obtain rfl := Option.some.inj hy
      obtain rfl := Option.some.inj hy9
      exact ⟨rfl, 0, t, ⟨rfl, q1, by omega, fun i hi => by omega⟩, by omega, e, q2⟩
  · obtain rfl : t = 6 := by omega
    have e : gI z8 3 = 6 := e
    have e2 : gI z9 2 = 6 := e2
    unfold fX9_rule at hy9
    rw [if_pos e2] at hy9
    obtain rfl := Option.some.inj hy9
    unfold fX8_rule_ok fX8_rule_fail at hy
    rw [e, if_neg (by decide), if_neg (by decide), if_neg (by decide), if_neg (by decide)] at hy
    have hy := hy.resolve_left (fun q => by cases q)
    obtain rfl := Option.some.inj hy
    exact ⟨rfl, h⟩
end JTS

/-! A WORK: numbers and a KIND, on both sides. -/
/-- both stand at p of a WORK's text -/
def WSQ (f : Nat → Int32) (N : Nat) (z6 z9 : Sx) (p : Nat) : Prop := AT f N z6 p ∧ gI z6 8 = 0 ∧ T9 f N z9 p ∧ gI z9 13 = 0
section WN
variable {f : Nat → Int32} {N p : Nat} {z6 z7 z9 : Sx} {lo hi : Int32}
theorem ws_fr {w9 : Sx} {L : List Nat} (h : WSQ f N z6 z9 p) (hf : FrL L z9 w9) (hL : (L.contains 0 || L.contains 1 || L.contains 12) = false) (h13 : L.contains 13 = false) : WSQ f N z6 w9 p := ⟨h.1, h.2.1, t9_fr h.2.2.1 hf hL, (hf 13 h13).1.trans h.2.2.2⟩
theorem num2 (h : WSQ f N z6 z9 p) : (∃ (v : Int32) (w6 w9 : Sx) (p1 : Nat), fX6_takeNumber z6 lo hi = some (v, w6) ∧ fX9_numberHere z9 lo hi = some (1, w9) ∧ WSQ f N w6 w9 p1 ∧ p < p1 ∧ lo ≤ v ∧ v ≤ hi ∧ gI w9 14 = v ∧ FrL [12, 14] z9 w9) ∨ (∃ (v : Int32) (w6 w9 : Sx), fX6_takeNumber z6 lo hi = some (v, w6) ∧ fX9_numberHere z9 lo hi = some (0, w9) ∧ ¬ gI w6 8 = 0 ∧ gI w9 13 = gI w6 8) := by
  obtain ⟨hA, h8, h9, h13⟩ := h
  rcases num_both (lo := lo) (hi := hi) hA h8 h9 h13 with ⟨v, w6, p1, a1, a2, a3, a4, a5, a6, a7, a8⟩ | ⟨v, e, w9, a1, a2, a3, a4, a5⟩
  · exact Or.inl ⟨v, w6, _, p1, a1, a8, ⟨a2, a3, nb_t9 h9 a4, h13⟩, a5, a6, a7, rfl, fr_I (fr_I fr_rf (by decide)) (by decide)⟩
  · exact Or.inr ⟨v, sI z6 8 e, w9, a1, a3, a2, a4⟩
end WN
section KH
variable {K : Sx → Option (Int32 × Sx)} {n : Nat} {z w : Sx} {x2 : Int32} {j k : Nat}
theorem kh_step (hn : fX9_numberHere z 0 99 = some (1, w)) (hx : x2.toInt = j) (hj : j < 3) (hk : (gI w 8).toInt = k) (hk6 : k < 6) {v : Int32} (hv : gI w 14 = v) : lX9_isKindHere_22 K (n + 1) z x2 = lX9_isKindHere_22 K n (sT w 10 (3 * k + j) v) (x2 + 1) := by
  have e3 : (3 : Int32).toInt = 3 := by decide
  have e1 : (3 * gI w 8).toInt = 3 * (k : Int) := by rw [i32_mul e3 hk (by omega) (by omega)]
  have e2 : ((3 * gI w 8) + x2).toInt = 3 * (k : Int) + j := i32_add e1 hx (by omega) (by omega)
  have n2 : ((3 * gI w 8) + x2).toNatClampNeg = 3 * k + j := n_cl (by rw [e2]; omega)
  rw [lX9_isKindHere_22, if_neg (fun h => by have := bI_le e3 hx h; omega), bd2_eq hn, if_neg one0, gd_pos (inb_of (by omega) (by omega)), n2, hv]
theorem kh_fail (hx : x2.toInt = j) (hj : j < 3) (hn : fX9_numberHere z 0 99 = some (0, w)) : lX9_isKindHere_22 K (n + 1) z x2 = some (0, w) := by
  have e3 : (3 : Int32).toInt = 3 := by decide
  rw [lX9_isKindHere_22, if_neg (fun h => by have := bI_le e3 hx h; omega), bd2_eq hn, if_pos rfl]
theorem kh_end : lX9_isKindHere_22 K (n + 1) z 3 = K z := by
  rw [lX9_isKindHere_22, if_pos (by decide)]
theorem kh_go {f : Nat → Int32} {N p1 : Nat} {a6 : Sx} {v : Int32} (h : WSQ f N a6 w p1) (hn : fX9_numberHere z 0 99 = some (1, w)) (fr : FrL [12, 14] z w) (hx : x2.toInt = j) (hj : j < 3) (hk : (gI z 8).toInt = k) (hk6 : k < 6) (hv : gI w 14 = v) : ∃ y, (∀ n, lX9_isKindHere_22 K (n + 1) z x2 = lX9_isKindHere_22 K n y (x2 + 1)) ∧ gT y 10 = upd (gT z 10) (3 * k + j) v ∧ FrL [10, 12, 14] z y ∧ WSQ f N a6 y p1 := by
  refine ⟨sT w 10 (3 * k + j) v, fun n => kh_step hn hx hj (by rw [(fr 8 (by decide)).1]; exact hk) hk6 hv, ?_, fr_T (fr_tr fr_rf fr (by decide)) (by decide), ws_fr (L := [10]) h (fr_T fr_rf (by decide)) (by decide) (by decide)⟩
  show upd (gT w 10) (3 * k + j) v = _
  rw [(fr 10 (by decide)).2.1]
end KH
def KHK : Sx → Option (Int32 × Sx) := fun (z10 : Sx) => some (1, sI z10 8 ((gI z10 8) + 1))
theorem wr_kind {z7 z9 w7 w9 : Sx} {k : Nat} {v1 v2 v3 : Int32} (hw : WR z7 z9) (hk : (gI z9 8).toInt = k) (hk6 : k < 6) (h1 : 0 ≤ v1.toInt ∧ v1.toInt ≤ 99) (h2 : 0 ≤ v2.toInt ∧ v2.toInt ≤ 99) (h3 : 0 ≤ v3.toInt ∧ v3.toInt ≤ 99)
    (e1 : gI w7 1 = gI z7 1) (e2 : gI w7 2 = gI z7 2 + 1) (e3 : gI w7 3 = gI z7 3) (e4 : gI w7 4 = gI z7 4)
    (t5 : gT w7 5 = upd (gT z7 5) k v1) (t6 : gT w7 6 = upd (gT z7 6) k v2) (t7 : gT w7 7 = upd (gT z7 7) k v3) (t8 : gT w7 8 = gT z7 8) (t9 : gT w7 9 = gT z7 9) (t10 : gT w7 10 = gT z7 10) (t11 : gT w7 11 = gT z7 11) (t12 : gT w7 12 = gT z7 12) (t13 : gT w7 13 = gT z7 13) (t14 : gT w7 14 = gT z7 14)
    (f7 : gI w9 7 = gI z9 7) (f8 : gI w9 8 = gI z9 8 + 1) (f9 : gI w9 9 = gI z9 9) (s10 : gT w9 10 = upd (upd (upd (gT z9 10) (3 * k + 0) v1) (3 * k + 1) v2) (3 * k + 2) v3) (s11 : gT w9 11 = gT z9 11) : WR w7 w9 := by
  obtain ⟨⟨w2, w8a, w8b⟩, ⟨w3, w9a, w9b⟩, wt, wk, wf⟩ := hw
  have ek : (gI z9 8 + 1).toInt = (k : Int) + 1 := i32_add hk (show (1 : Int32).toInt = 1 by decide) (by omega) (by omega)
  refine ⟨⟨by rw [e2, f8, w2], by rw [f8]; omega, by rw [f8]; omega⟩, ⟨by rw [e3, f9]; exact w3, by rw [f9]; exact w9a, by rw [f9]; exact w9b⟩, by rw [e4, e1, f7]; exact wt, fun j hj => ?_, fun g hg => ?_⟩
  · rw [f8] at hj
    rw [t5, t6, t7, s10]
    by_cases c : j = k
    · subst c
      rw [show upd (gT z7 5) j v1 j = v1 from if_pos rfl, show upd (gT z7 6) j v2 j = v2 from if_pos rfl, show upd (gT z7 7) j v3 j = v3 from if_pos rfl]
      refine ⟨?_, ?_, ?_, h1, h2, h3⟩
      · exact ((if_neg (by omega)).trans ((if_neg (by omega)).trans (if_pos rfl))).symm
      · exact ((if_neg (by omega)).trans (if_pos rfl)).symm
      · exact (if_pos rfl).symm
    · obtain ⟨b1, b2, b3, b4, b5, b6⟩ := wk j (by omega)
      rw [show upd (gT z7 5) k v1 j = gT z7 5 j from if_neg c, show upd (gT z7 6) k v2 j = gT z7 6 j from if_neg c, show upd (gT z7 7) k v3 j = gT z7 7 j from if_neg c]
      have un : ∀ i : Nat, i < 3 → upd (upd (upd (gT z9 10) (3 * k + 0) v1) (3 * k + 1) v2) (3 * k + 2) v3 (3 * j + i) = gT z9 10 (3 * j + i) := fun i hi => (if_neg (by omega)).trans ((if_neg (by omega)).trans (if_neg (by omega)))
      exact ⟨b1.trans (un 0 (by decide)).symm, b2.trans (un 1 (by decide)).symm, b3.trans (un 2 (by decide)).symm, b4, b5, b6⟩
  · rw [f9] at hg
    obtain ⟨b1, b2, b3, b4, b5, b6, b7, b8, b9, b10, b11⟩ := wf g hg
    have hc := clampI b5.1
    have nk : ¬ (gT z7 8 g).toNatClampNeg = k := by omega
    rw [t8, t9, t10, t11, t12, t13, t14, t5, t6, t7, f8, s11]
    refine ⟨b1, b2, b3, b4, ⟨b5.1, by omega⟩, b6, b7, b8, ?_, ?_, ?_⟩
    · exact b9.trans (show upd (gT z7 5) k v1 (gT z7 8 g).toNatClampNeg = gT z7 5 (gT z7 8 g).toNatClampNeg from if_neg nk).symm
    · exact b10.trans (show upd (gT z7 6) k v2 (gT z7 8 g).toNatClampNeg = gT z7 6 (gT z7 8 g).toNatClampNeg from if_neg nk).symm
    · exact b11.trans (show upd (gT z7 7) k v3 (gT z7 8 g).toNatClampNeg = gT z7 7 (gT z7 8 g).toNatClampNeg from if_neg nk).symm
section KB2
variable {f : Nat → Int32} {N p : Nat} {z6 z7 z9 : Sx}
/-- the class's KIND in pieces -/
def RK3 (z7 z6 : Sx) : Option (Sx × Sx) := bd2 (fX6_takeNumber z6 0 99) (fun r12 z13 => bd (fX8_put 6 (gT z7 7) (gI z7 2) r12) (fun z15 => some (sI (sTf z7 7 z15) 2 ((gI z7 2) + 1), z13)))
def RK2 (z7 z6 : Sx) : Option (Sx × Sx) := bd2 (fX6_takeNumber z6 0 99) (fun r7 z8 => bd (fX8_put 6 (gT z7 6) (gI z7 2) r7) (fun z10 => RK3 (sTf z7 6 z10) z8))
theorem rkc_eq : fX7_readKind z7 z6 = bd2 (fX6_takeNumber z6 0 99) (fun r2 z3 => bd (fX8_put 6 (gT z7 5) (gI z7 2) r2) (fun z5 => RK2 (sTf z7 5 z5) z3)) := rfl
theorem rk3_bad (h : ¬ gI z6 8 = 0) : ∃ w7, RK3 z7 z6 = some (w7, z6) := by
  unfold RK3
  obtain ⟨g, e⟩ := put_tot (n := 6) (f := gT z7 7) (x := gI z7 2) (v := 0)
  rw [bd2_eq (take_bad h), bd_eq e]
  exact ⟨_, rfl⟩
theorem rk2_bad (h : ¬ gI z6 8 = 0) : ∃ w7, RK2 z7 z6 = some (w7, z6) := by
  unfold RK2
  obtain ⟨g, e⟩ := put_tot (n := 6) (f := gT z7 6) (x := gI z7 2) (v := 0)
  rw [bd2_eq (take_bad h), bd_eq e]
  exact rk3_bad h
theorem kind_b (h : WSQ f N z6 z9 p) (hw : WR z7 z9) (h6 : (gI z9 8).toInt < 6) :
    (∃ (w7 w6 w9 : Sx) (p1 : Nat), fX7_readKind z7 z6 = some (w7, w6) ∧ lX9_isKindHere_22 KHK FU z9 0 = some (1, w9) ∧ WSQ f N w6 w9 p1 ∧ WR w7 w9 ∧ p < p1 ∧ FrL [8, 10, 12, 14] z9 w9) ∨ BDD (fX7_readKind z7 z6) (lX9_isKindHere_22 KHK FU z9 0) := by
  have w2 := hw.1.1
  have w8a := hw.1.2.1
  obtain ⟨k, hk⟩ : ∃ k : Nat, (gI z9 8).toInt = k := ⟨(gI z9 8).toInt.toNat, by omega⟩
  have hk6 : k < 6 := by omega
  have hk7 : (gI z7 2).toInt = k := by rw [w2]; exact hk
  have i0 : (0 : Int32).toInt = (0 : Nat) := by decide
  have i1 : (1 : Int32).toInt = (1 : Nat) := by decide
  have i2 : (2 : Int32).toInt = (2 : Nat) := by decide
  have z0 : (0 : Int32).toInt = 0 := by decide
  have z99 : (99 : Int32).toInt = 99 := by decide
  have eF : FU = 18446744073709551612 + 1 + 1 + 1 + 1 := rfl
  rw [eF, rkc_eq]
  rcases num2 (lo := 0) (hi := 99) h with ⟨v1, a6, a9, p1, t1, n1, W1, g1, lo1, hi1, q1, fr1⟩ | ⟨v1, a6, a9, t1, n1, ne1, x1⟩
  case inr =>
    right
    obtain ⟨g5, e5⟩ := put_tot (n := 6) (f := gT z7 5) (x := gI z7 2) (v := v1)
    obtain ⟨w7, ew⟩ := rk2_bad (z7 := sTf z7 5 g5) ne1
    rw [bd2_eq t1, bd_eq e5]
    exact ⟨w7, a6, a9, ew, kh_fail i0 (by decide) n1, ne1, x1⟩
  obtain ⟨y1, c1, c2, c3, c4⟩ := kh_go (K := KHK) W1 n1 fr1 i0 (by decide) hk hk6 q1
  rw [bd2_eq t1, bd_eq (put_k hk7 hk6 (by decide)), c1, show (0 : Int32) + 1 = 1 by decide]
  unfold RK2
  rcases num2 (lo := 0) (hi := 99) c4 with ⟨v2, b6, b9, p2, t2, n2, W2, g2, lo2, hi2, q2, fr2⟩ | ⟨v2, b6, b9, t2, n2, ne2, x2⟩
  case inr =>
    right
    obtain ⟨g5, e5⟩ := put_tot (n := 6) (f := gT (sTf z7 5 (upd (gT z7 5) k v1)) 6) (x := gI (sTf z7 5 (upd (gT z7 5) k v1)) 2) (v := v2)
    obtain ⟨w7, ew⟩ := rk3_bad (z7 := sTf (sTf z7 5 (upd (gT z7 5) k v1)) 6 g5) ne2
    rw [bd2_eq t2, bd_eq e5]
    exact ⟨w7, b6, b9, ew, kh_fail i1 (by decide) n2, ne2, x2⟩
  obtain ⟨y2, d1, d2, d3, d4⟩ := kh_go (K := KHK) W2 n2 fr2 i1 (by decide) (by rw [(c3 8 (by decide)).1]; exact hk) hk6 q2
  rw [bd2_eq t2, bd_eq (put_k (show (gI (sTf z7 5 (upd (gT z7 5) k v1)) 2).toInt = k from hk7) hk6 (by decide)), d1, show (1 : Int32) + 1 = 2 by decide]
  unfold RK3
  rcases num2 (lo := 0) (hi := 99) d4 with ⟨v3, l6, l9, p3, t3, n3, W3, g3, lo3, hi3, q3, fr3⟩ | ⟨v3, l6, l9, t3, n3, ne3, x3⟩
  case inr =>
    right
    obtain ⟨g5, e5⟩ := put_tot (n := 6) (f := gT (sTf (sTf z7 5 (upd (gT z7 5) k v1)) 6 (upd (gT (sTf z7 5 (upd (gT z7 5) k v1)) 6) k v2)) 7) (x := gI (sTf (sTf z7 5 (upd (gT z7 5) k v1)) 6 (upd (gT (sTf z7 5 (upd (gT z7 5) k v1)) 6) k v2)) 2) (v := v3)
    rw [bd2_eq t3, bd_eq e5]
    exact ⟨_, l6, l9, rfl, kh_fail i2 (by decide) n3, ne3, x3⟩
  obtain ⟨y3, m1, m2, m3, m4⟩ := kh_go (K := KHK) W3 n3 fr3 i2 (by decide) (by rw [(d3 8 (by decide)).1, (c3 8 (by decide)).1]; exact hk) hk6 q3
  rw [bd2_eq t3, bd_eq (put_k (show (gI (sTf (sTf z7 5 (upd (gT z7 5) k v1)) 6 (upd (gT (sTf z7 5 (upd (gT z7 5) k v1)) 6) k v2)) 2).toInt = k from hk7) hk6 (by decide)), m1, show (2 : Int32) + 1 = 3 by decide, kh_end]
  left
  have fr : FrL [8, 10, 12, 14] z9 y3 := fr_tr (fr_tr (fr_tr fr_rf c3 (by decide)) d3 (by decide)) m3 (by decide)
  have fra : FrL [10, 12, 14] z9 y3 := fr_tr (fr_tr c3 d3 (by decide)) m3 (by decide)
  have r1a := bI_le z0 rfl lo1
  have r1b := bI_le rfl z99 hi1
  have r2a := bI_le z0 rfl lo2
  have r2b := bI_le rfl z99 hi2
  have r3a := bI_le z0 rfl lo3
  have r3b := bI_le rfl z99 hi3
  have q10 : gT y3 10 = upd (upd (upd (gT z9 10) (3 * k + 0) v1) (3 * k + 1) v2) (3 * k + 2) v3 := by rw [m2, d2, c2]
  have q11 : gT y3 11 = gT z9 11 := (fra 11 (by decide)).2.1
  have q7 : gI y3 7 = gI z9 7 := (fra 7 (by decide)).1
  have q8 : gI y3 8 = gI z9 8 := (fra 8 (by decide)).1
  have q9 : gI y3 9 = gI z9 9 := (fra 9 (by decide)).1
  refine ⟨_, l6, sI y3 8 (gI y3 8 + 1), p3, rfl, rfl, ws_fr (L := [8]) m4 (fr_I fr_rf (by decide)) (by decide) (by decide), ?_, by omega, fr_I fr (by decide)⟩
  exact wr_kind (v1 := v1) (v2 := v2) (v3 := v3) hw hk hk6 ⟨r1a, r1b⟩ ⟨r2a, r2b⟩ ⟨r3a, r3b⟩ rfl rfl rfl rfl rfl rfl rfl rfl rfl rfl rfl rfl rfl rfl q7 (show gI y3 8 + 1 = _ by rw [q8]) q9 q10 q11
end KB2

/-! A WORK: a FAULT, on both sides. -/
theorem wr_fault {z7 z9 w7 w9 : Sx} {g k : Nat} {v1 v2 v3 u : Int32} (hw : WR z7 z9) (hg : (gI z9 9).toInt = g) (hg10 : g < 10) (hk : v1.toInt = k) (hk8 : (k : Int) < (gI z9 8).toInt) (h2 : 1 ≤ v2.toInt ∧ v2.toInt ≤ 99) (h3 : 0 ≤ v3.toInt ∧ v3.toInt ≤ 100) (hu : -1 ≤ u.toInt ∧ u.toInt < g)
    (e1 : gI w7 1 = gI z7 1) (e2 : gI w7 2 = gI z7 2) (e4 : gI w7 4 = gI z7 4) (e3 : gI w7 3 = gI z7 3 + 1) (t5 : gT w7 5 = gT z7 5) (t6 : gT w7 6 = gT z7 6) (t7 : gT w7 7 = gT z7 7)
    (t8 : ∀ i, gT w7 8 i = if i = g then v1 else gT z7 8 i) (t9 : ∀ i, gT w7 9 i = if i = g then v2 else gT z7 9 i) (t10 : ∀ i, gT w7 10 i = if i = g then v3 else gT z7 10 i) (t11 : ∀ i, gT w7 11 i = if i = g then u else gT z7 11 i)
    (t12 : ∀ i, gT w7 12 i = if i = g then gT z7 5 k else gT z7 12 i) (t13 : ∀ i, gT w7 13 i = if i = g then gT z7 6 k else gT z7 13 i) (t14 : ∀ i, gT w7 14 i = if i = g then gT z7 7 k else gT z7 14 i)
    (f7 : gI w9 7 = gI z9 7) (f8 : gI w9 8 = gI z9 8) (f9 : gI w9 9 = gI z9 9 + 1) (s10 : gT w9 10 = gT z9 10) (s0 : gT w9 11 (4 * g) = v1) (s1 : gT w9 11 (4 * g + 1) = v2) (s2 : gT w9 11 (4 * g + 2) = v3) (s3 : gT w9 11 (4 * g + 3) = u) (so : ∀ i : Nat, i < 4 * g → gT w9 11 i = gT z9 11 i) : WR w7 w9 := by
  obtain ⟨⟨w2, w8a, w8b⟩, ⟨w3, w9a, w9b⟩, wt, wk, wf⟩ := hw
  have eg : (gI z9 9 + 1).toInt = (g : Int) + 1 := i32_add hg (show (1 : Int32).toInt = 1 by decide) (by omega) (by omega)
  have kc : v1.toNatClampNeg = k := n_cl hk
  refine ⟨⟨by rw [e2, f8]; exact w2, by rw [f8]; exact w8a, by rw [f8]; exact w8b⟩, ⟨by rw [e3, f9, w3], by rw [f9]; omega, by rw [f9]; omega⟩, by rw [e4, e1, f7]; exact wt, fun j hj => ?_, fun j hj => ?_⟩
  · rw [t5, t6, t7, s10]; exact wk j (by rw [f8] at hj; exact hj)
  · rw [f9] at hj
    rw [t5, t6, t7, f8]
    by_cases c : j = g
    · subst c
      rw [t8, t9, t10, t11, t12, t13, t14, if_pos rfl, if_pos rfl, if_pos rfl, if_pos rfl, if_pos rfl, if_pos rfl, if_pos rfl, s0, s1, s2, s3, kc]
      exact ⟨rfl, rfl, rfl, rfl, ⟨by omega, by omega⟩, h2, h3, hu, rfl, rfl, rfl⟩
    · rw [t8, t9, t10, t11, t12, t13, t14, if_neg c, if_neg c, if_neg c, if_neg c, if_neg c, if_neg c, if_neg c, so (4 * j) (by omega), so (4 * j + 1) (by omega), so (4 * j + 2) (by omega), so (4 * j + 3) (by omega)]
      exact wf j (by omega)
section FAB
variable {f : Nat → Int32} {N p : Nat} {z6 z7 z9 z : Sx} {r2 : Int32}
theorem tw_yes (h : T9 f N z p) (hd : WD f N (rnP isB f N p) 1) : fX9_takesWord z 504363246962 = some (1, sI z 12 (nI (rnP isL f N (rnP isB f N p)))) := by
  have hq := rq_le (P := isB) (b := f) (N := N) h.2.2.1
  unfold fX9_takesWord
  have e := (isw9 (w := 1) (by decide) h).1 hd
  have e : fX9_isWord z 504363246962 = some (1, sI z 12 (nI (rnP isB f N p))) := e
  rw [bd2_eq e, if_neg one0, bd_eq (pass9 (t9_p h hq)), sI_sI]
theorem tw_no (h : T9 f N z p) (hd : ¬ WD f N (rnP isB f N p) 1) : fX9_takesWord z 504363246962 = some (0, sI z 12 (nI (rnP isB f N p))) := by
  unfold fX9_takesWord
  have e := (isw9 (w := 1) (by decide) h).2 hd
  have e : fX9_isWord z 504363246962 = some (0, sI z 12 (nI (rnP isB f N p))) := e
  rw [bd2_eq e, if_pos rfl]
/-- the class's FAULT in pieces -/
def FC4 (z7 : Sx) (r2 : Int32) (z13 : Sx) : Option (Sx × Sx) := if (gI z13 8) = 0 then if (gI z13 5) = 305 then bd (fX6_step z13) (fun z36 => bd2 (fX6_takeNumber z36 0 ((gI z7 3) - 1)) (fun r38 z39 => bd (fX8_put 10 (gT z7 11) (gI z7 3) r38) (fun z41 => FTK r2 (sTf z7 11 z41) z39))) else FTK r2 z7 z13 else FTK r2 z7 z13
def FC3 (z7 : Sx) (r2 : Int32) (z8 : Sx) : Option (Sx × Sx) := bd2 (fX6_takeNumber z8 0 100) (fun r12 z13 => bd (fX8_put 10 (gT z7 10) (gI z7 3) r12) (fun z15 => bd (fX8_put 10 (gT (sTf z7 10 z15) 11) (gI z7 3) (-1)) (fun z17 => FC4 (sTf (sTf z7 10 z15) 11 z17) r2 z13)))
def FC2 (z7 : Sx) (r2 : Int32) (z3 : Sx) : Option (Sx × Sx) := bd2 (fX6_takeNumber z3 1 99) (fun r7 z8 => bd (fX8_put 10 (gT z7 9) (gI z7 3) r7) (fun z10 => FC3 (sTf z7 9 z10) r2 z8))
theorem fc_eq : fX7_readFault z7 z6 = bd2 (fX6_takeNumber z6 0 ((gI z7 2) - 1)) (fun r2 z3 => bd (fX8_put 10 (gT z7 8) (gI z7 3) r2) (fun z5 => FC2 (sTf z7 8 z5) r2 z3)) := rfl
theorem fc4_bad (h : ¬ gI z6 8 = 0) : ∃ w7, FC4 z7 r2 z6 = some (w7, z6) := by
  unfold FC4
  rw [if_neg h]
  exact ftk_tot
theorem fc3_bad (h : ¬ gI z6 8 = 0) : ∃ w7, FC3 z7 r2 z6 = some (w7, z6) := by
  unfold FC3
  obtain ⟨g, e⟩ := put_tot (n := 10) (f := gT z7 10) (x := gI z7 3) (v := 0)
  obtain ⟨g2, e2⟩ := put_tot (n := 10) (f := gT (sTf z7 10 g) 11) (x := gI z7 3) (v := -1)
  rw [bd2_eq (take_bad h), bd_eq e, bd_eq e2]
  exact fc4_bad h
theorem fc2_bad (h : ¬ gI z6 8 = 0) : ∃ w7, FC2 z7 r2 z6 = some (w7, z6) := by
  unfold FC2
  obtain ⟨g, e⟩ := put_tot (n := 10) (f := gT z7 9) (x := gI z7 3) (v := 0)
  rw [bd2_eq (take_bad h), bd_eq e]
  exact fc3_bad h
/-- the reference's -/
def FD3 (G : Int32) (z16 : Sx) : Option (Int32 × Sx) := gd (inb ((4 * G) + 2) 40) (gd (inb ((4 * G) + 3) 40) (bd2 (fX9_takesWord (sT (sT z16 11 (((4 * G) + 2).toNatClampNeg) (gI z16 14)) 11 (((4 * G) + 3).toNatClampNeg) (-1)) 504363246962) (fun r21 z22 => if r21 = 0 then some (1, sI z22 9 ((gI z22 9) + 1)) else bd2 (fX9_numberHere z22 0 ((gI z22 9) - 1)) (fun r27 z28 => if r27 = 0 then some (0, z28) else some (1, sI (sT z28 11 (((4 * G) + 3).toNatClampNeg) (gI z28 14)) 9 ((gI (sT z28 11 (((4 * G) + 3).toNatClampNeg) (gI z28 14)) 9) + 1))))))
def FD2 (G : Int32) (z11 : Sx) : Option (Int32 × Sx) := gd (inb ((4 * G) + 1) 40) (bd2 (fX9_numberHere (sT z11 11 (((4 * G) + 1).toNatClampNeg) (gI z11 14)) 0 100) (fun r15 z16 => if r15 = 0 then some (0, z16) else FD3 G z16))
def FD1 (G : Int32) (z6 : Sx) : Option (Int32 × Sx) := gd (inb (4 * G) 40) (bd2 (fX9_numberHere (sT z6 11 ((4 * G).toNatClampNeg) (gI z6 14)) 1 99) (fun r10 z11 => if r10 = 0 then some (0, z11) else FD2 G z11))
theorem fd_eq : FH9 z9 = bd2 (fX9_numberHere z9 0 ((gI z9 8) - 1)) (fun r5 z6 => if r5 = 0 then some (0, z6) else FD1 (gI z9 9) z6) := rfl
theorem g4 {G : Int32} {g : Nat} (hg : G.toInt = g) (hg10 : g < 10) : ((4 * G).toInt = 4 * (g : Int) ∧ (4 * G).toNatClampNeg = 4 * g) ∧ ((4 * G + 1).toInt = 4 * (g : Int) + 1 ∧ (4 * G + 1).toNatClampNeg = 4 * g + 1) ∧ ((4 * G + 2).toInt = 4 * (g : Int) + 2 ∧ (4 * G + 2).toNatClampNeg = 4 * g + 2) ∧ ((4 * G + 3).toInt = 4 * (g : Int) + 3 ∧ (4 * G + 3).toNatClampNeg = 4 * g + 3) := by
  have e4 : (4 * G).toInt = 4 * (g : Int) := by rw [i32_mul (show (4 : Int32).toInt = 4 by decide) hg (by omega) (by omega)]
  have e41 : (4 * G + 1).toInt = 4 * (g : Int) + 1 := i32_add e4 (show (1 : Int32).toInt = 1 by decide) (by omega) (by omega)
  have e42 : (4 * G + 2).toInt = 4 * (g : Int) + 2 := i32_add e4 (show (2 : Int32).toInt = 2 by decide) (by omega) (by omega)
  have e43 : (4 * G + 3).toInt = 4 * (g : Int) + 3 := i32_add e4 (show (3 : Int32).toInt = 3 by decide) (by omega) (by omega)
  exact ⟨⟨e4, n_cl (by rw [e4]; omega)⟩, ⟨e41, n_cl (by rw [e41]; omega)⟩, ⟨e42, n_cl (by rw [e42]; omega)⟩, e43, n_cl (by rw [e43]; omega)⟩
set_option maxHeartbeats 1000000 in
theorem fault_b (h : WSQ f N z6 z9 p) (hw : WR z7 z9) (h10 : (gI z9 9).toInt < 10) :
    (∃ (w7 w6 w9 : Sx) (p1 : Nat), fX7_readFault z7 z6 = some (w7, w6) ∧ FH9 z9 = some (1, w9) ∧ WSQ f N w6 w9 p1 ∧ WR w7 w9 ∧ p < p1 ∧ FrL [9, 11, 12, 14] z9 w9) ∨ BDD (fX7_readFault z7 z6) (FH9 z9) := by
  obtain ⟨⟨w2, w8a, w8b⟩, ⟨w3, w9a, w9b⟩, wt, wk, wf⟩ := id hw
  obtain ⟨g, hg⟩ : ∃ g : Nat, (gI z9 9).toInt = g := ⟨(gI z9 9).toInt.toNat, by omega⟩
  have hg10 : g < 10 := by omega
  have hg7 : (gI z7 3).toInt = g := by rw [w3]; exact hg
  obtain ⟨⟨e4, n4⟩, ⟨e41, n41⟩, ⟨e42, n42⟩, e43, n43⟩ := g4 hg hg10
  have z0 : (0 : Int32).toInt = 0 := by decide
  have z1 : (1 : Int32).toInt = 1 := by decide
  have z99 : (99 : Int32).toInt = 99 := by decide
  have z100 : (100 : Int32).toInt = 100 := by decide
  rw [fc_eq, fd_eq, w2]
  rcases num2 (lo := 0) (hi := gI z9 8 - 1) h with ⟨v1, a6, a9, p1, t1, n1, W1, g1, lo1, hi1, q1, fr1⟩ | ⟨v1, a6, a9, t1, n1, ne1, x1⟩
  case inr =>
    right
    obtain ⟨g5, e5⟩ := put_tot (n := 10) (f := gT z7 8) (x := gI z7 3) (v := v1)
    obtain ⟨w7, ew⟩ := fc2_bad (z7 := sTf z7 8 g5) (r2 := v1) ne1
    rw [bd2_eq t1, bd_eq e5, bd2_eq n1, if_pos rfl]
    exact ⟨w7, a6, a9, ew, rfl, ne1, x1⟩
  have e8m : (gI z9 8 - 1).toInt = (gI z9 8).toInt - 1 := i32_sub rfl z1 (by omega) (by omega)
  have r1a := bI_le z0 rfl lo1
  have r1b := bI_le rfl e8m hi1
  obtain ⟨k, hk⟩ : ∃ k : Nat, v1.toInt = k := ⟨v1.toInt.toNat, by omega⟩
  have hk6 : k < 6 := by omega
  rw [bd2_eq t1, bd_eq (put_k hg7 hg10 (by decide)), bd2_eq n1, if_neg one0]
  unfold FD1 FC2
  rw [gd_pos (inb_of (by omega) (by omega)), n4, q1]
  have W1' : WSQ f N a6 (sT a9 11 (4 * g) v1) p1 := ws_fr (L := [11]) W1 (fr_T fr_rf (by decide)) (by decide) (by decide)
  have T1 : gT (sT a9 11 (4 * g) v1) 11 = upd (gT z9 11) (4 * g) v1 := by
    show upd (gT a9 11) (4 * g) v1 = _
    rw [(fr1 11 (by decide)).2.1]
  have F1 : FrL [11, 12, 14] z9 (sT a9 11 (4 * g) v1) := fr_T (fr_tr fr_rf fr1 (by decide)) (by decide)
  generalize sT a9 11 (4 * g) v1 = y1 at W1' T1 F1
  rcases num2 (lo := 1) (hi := 99) W1' with ⟨v2, b6, b9, p2, t2, n2, W2, g2, lo2, hi2, q2, fr2⟩ | ⟨v2, b6, b9, t2, n2, ne2, x2⟩
  case inr =>
    right
    obtain ⟨g5, e5⟩ := put_tot (n := 10) (f := gT (sTf z7 8 (upd (gT z7 8) g v1)) 9) (x := gI (sTf z7 8 (upd (gT z7 8) g v1)) 3) (v := v2)
    obtain ⟨w7, ew⟩ := fc3_bad (z7 := sTf (sTf z7 8 (upd (gT z7 8) g v1)) 9 g5) (r2 := v1) ne2
    rw [bd2_eq t2, bd_eq e5, bd2_eq n2, if_pos rfl]
    exact ⟨w7, b6, b9, ew, rfl, ne2, x2⟩
  rw [bd2_eq t2, bd_eq (put_k (show (gI (sTf z7 8 (upd (gT z7 8) g v1)) 3).toInt = g from hg7) hg10 (by decide)), bd2_eq n2, if_neg one0]
  unfold FD2 FC3
  rw [gd_pos (inb_of (by omega) (by omega)), n41, q2]
  have W2' : WSQ f N b6 (sT b9 11 (4 * g + 1) v2) p2 := ws_fr (L := [11]) W2 (fr_T fr_rf (by decide)) (by decide) (by decide)
  have T2 : gT (sT b9 11 (4 * g + 1) v2) 11 = upd (upd (gT z9 11) (4 * g) v1) (4 * g + 1) v2 := by
    show upd (gT b9 11) (4 * g + 1) v2 = _
    rw [(fr2 11 (by decide)).2.1, T1]
  have F2 : FrL [11, 12, 14] z9 (sT b9 11 (4 * g + 1) v2) := fr_T (fr_tr F1 fr2 (by decide)) (by decide)
  generalize sT b9 11 (4 * g + 1) v2 = y2 at W2' T2 F2
  obtain ⟨x7, hx7⟩ : ∃ x7, x7 = sTf (sTf z7 8 (upd (gT z7 8) g v1)) 9 (upd (gT (sTf z7 8 (upd (gT z7 8) g v1)) 9) g v2) := ⟨_, rfl⟩
  have x3 : (gI x7 3).toInt = g := by rw [hx7]; exact hg7
  rw [← hx7]
  rcases num2 (lo := 0) (hi := 100) W2' with ⟨v3, c6, c9, p3, t3, n3, W3, g3, lo3, hi3, q3, fr3⟩ | ⟨v3, c6, c9, t3, n3, ne3, x4⟩
  case inr =>
    right
    obtain ⟨g5, e5⟩ := put_tot (n := 10) (f := gT x7 10) (x := gI x7 3) (v := v3)
    obtain ⟨g6, e6⟩ := put_tot (n := 10) (f := gT (sTf x7 10 g5) 11) (x := gI x7 3) (v := -1)
    obtain ⟨w7, ew⟩ := fc4_bad (z7 := sTf (sTf x7 10 g5) 11 g6) (r2 := v1) ne3
    rw [bd2_eq t3, bd_eq e5, bd_eq e6, bd2_eq n3, if_pos rfl]
    exact ⟨w7, c6, c9, ew, rfl, ne3, x4⟩
  rw [bd2_eq t3, bd_eq (put_k x3 hg10 (by decide)), bd_eq (put_k x3 hg10 (by decide)), bd2_eq n3, if_neg one0]
  unfold FD3 FC4
  rw [gd_pos (inb_of (by omega) (by omega)), gd_pos (inb_of (by omega) (by omega)), n42, n43, q3, if_pos W3.2.1]
  have W3' : WSQ f N c6 (sT (sT c9 11 (4 * g + 2) v3) 11 (4 * g + 3) (-1)) p3 := ws_fr (L := [11]) W3 (fr_T (fr_T fr_rf (by decide)) (by decide)) (by decide) (by decide)
  have T3 : gT (sT (sT c9 11 (4 * g + 2) v3) 11 (4 * g + 3) (-1)) 11 = upd (upd (upd (upd (gT z9 11) (4 * g) v1) (4 * g + 1) v2) (4 * g + 2) v3) (4 * g + 3) (-1) := by
    show upd (upd (gT c9 11) (4 * g + 2) v3) (4 * g + 3) (-1) = _
    rw [(fr3 11 (by decide)).2.1, T2]
  have F3 : FrL [11, 12, 14] z9 (sT (sT c9 11 (4 * g + 2) v3) 11 (4 * g + 3) (-1)) := fr_T (fr_T (fr_tr F2 fr3 (by decide)) (by decide)) (by decide)
  generalize sT (sT c9 11 (4 * g + 2) v3) 11 (4 * g + 3) (-1) = y3 at W3' T3 F3
  obtain ⟨u7, hu7⟩ : ∃ u7, u7 = sTf (sTf x7 10 (upd (gT x7 10) g v3)) 11 (upd (gT (sTf x7 10 (upd (gT x7 10) g v3)) 11) g (-1)) := ⟨_, rfl⟩
  have u3 : (gI u7 3).toInt = g := by rw [hu7]; exact x3
  rw [← hu7]
  have r2a := bI_le z1 rfl lo2
  have r2b := bI_le rfl z99 hi2
  have r3a := bI_le z0 rfl lo3
  have r3b := bI_le rfl z100 hi3
  have T9y := W3'.2.2.1
  have hp3 := T9y.2.2.1
  have hq3 := rq_le (P := isB) (b := f) (N := N) hp3
  have hqg := rq_ge (P := isB) (b := f) (N := N) (p := p3)
  have hb : ∀ i : Nat, i < N → 0 ≤ (f i).toInt ∧ (f i).toInt ≤ 255 := fun i hi => ⟨(T9y.2.2.2.2 i hi).1, (T9y.2.2.2.2 i hi).2.1⟩
  have c5 : gI c6 5 = 305 ↔ WD f N (rnP isB f N p3) 1 := code_wd (w := 1) (by decide) W3.1 hp3 hb
  have s9 : gI y3 9 = gI z9 9 := (F3 9 (by decide)).1
  by_cases hd : WD f N (rnP isB f N p3) 1
  · have hl := wd_l (by decide) hd
    obtain ⟨-, -, -, d6, s1, s2, s3⟩ := at_tok W3.1 hl.1
    have hx := tkx_gt (f := f) hl.1
    rw [tkx_wd (by decide) hd] at s2 hx
    have W4 : WSQ f N d6 (sI y3 12 (nI (rnP isL f N (rnP isB f N p3)))) (rnP isL f N (rnP isB f N p3)) := ⟨s2, s3.trans W3.2.1, t9_p T9y hx.2, W3'.2.2.2⟩
    have F4 : FrL [11, 12, 14] z9 (sI y3 12 (nI (rnP isL f N (rnP isB f N p3)))) := fr_I F3 (by decide)
    have T4 : gT (sI y3 12 (nI (rnP isL f N (rnP isB f N p3)))) 11 = gT y3 11 := rfl
    rw [if_pos (c5.2 hd), bd_eq s1, bd2_eq (tw_yes T9y hd), if_neg one0]
    generalize sI y3 12 (nI (rnP isL f N (rnP isB f N p3))) = y4 at W4 F4 T4
    have e94 : gI y4 9 - 1 = gI u7 3 - 1 := by rw [(F4 9 (by decide)).1, hu7, ← w3, hx7]; rfl
    rw [e94]
    rcases num2 (lo := 0) (hi := gI u7 3 - 1) W4 with ⟨v4, d7, d9, p4, t4, n4', W5, g4', lo4, hi4, q4, fr4⟩ | ⟨v4, d7, d9, t4, n4', ne4, x4⟩
    case inr =>
      right
      obtain ⟨g5, e5⟩ := put_tot (n := 10) (f := gT u7 11) (x := gI u7 3) (v := v4)
      obtain ⟨w7, ew⟩ := ftk_tot (r2 := v1) (z19 := sTf u7 11 g5) (z20 := d7)
      rw [bd2_eq t4, bd_eq e5, bd2_eq n4', if_pos rfl]
      exact ⟨w7, d7, d9, ew, rfl, ne4, x4⟩
    left
    have eu : (gI u7 3 - 1).toInt = (g : Int) - 1 := by rw [i32_sub u3 z1 (by omega) (by omega)]
    have r4a := bI_le z0 rfl lo4
    have r4b := bI_le rfl eu hi4
    rw [bd2_eq t4, bd_eq (put_k u3 hg10 (by decide)), bd2_eq n4', if_neg one0, ftk_k hk hk6 (show (gI (sTf u7 11 (upd (gT u7 11) g v4)) 3).toInt = g from u3) hg10, q4]
    have F5 : FrL [9, 11, 12, 14] z9 d9 := fr_tr (fr_tr fr_rf F4 (by decide)) fr4 (by decide)
    have F5a : FrL [11, 12, 14] z9 d9 := fr_tr F4 fr4 (by decide)
    refine ⟨_, d7, _, p4, rfl, rfl, ws_fr (L := [9, 11]) W5 (fr_I (fr_T fr_rf (by decide)) (by decide)) (by decide) (by decide), ?_, by omega, fr_I (fr_T F5 (by decide)) (by decide)⟩
    have t11 : gT d9 11 = upd (upd (upd (upd (gT z9 11) (4 * g) v1) (4 * g + 1) v2) (4 * g + 2) v3) (4 * g + 3) (-1) := by rw [(fr4 11 (by decide)).2.1, T4, T3]
    have ff9 : gI d9 9 = gI z9 9 := (F5a 9 (by decide)).1
    refine wr_fault (v1 := v1) (v2 := v2) (v3 := v3) (u := v4) hw hg hg10 hk (by omega) ⟨r2a, r2b⟩ ⟨r3a, r3b⟩ ⟨by omega, by omega⟩ ?_ ?_ ?_ ?_ ?_ ?_ ?_ (fun i => ?_) (fun i => ?_) (fun i => ?_) (fun i => ?_) (fun i => ?_) (fun i => ?_) (fun i => ?_) ((F5a 7 (by decide)).1) ((F5a 8 (by decide)).1) (show gI d9 9 + 1 = _ by rw [ff9]) ((F5a 10 (by decide)).2.1) ?_ ?_ ?_ ?_ (fun i hi => ?_)
    any_goals (rw [hu7, hx7]; rfl)
    · rw [hu7, hx7]
      show upd (upd (gT z7 11) g (-1)) g v4 i = _
      by_cases c : i = g
      · rw [if_pos c]; exact if_pos c
      · rw [if_neg c]; exact (if_neg c).trans (if_neg c)
    · show upd (gT d9 11) (4 * g + 3) v4 (4 * g) = v1
      rw [t11]
      exact (if_neg (by omega)).trans ((if_neg (by omega)).trans ((if_neg (by omega)).trans ((if_neg (by omega)).trans (if_pos rfl))))
    · show upd (gT d9 11) (4 * g + 3) v4 (4 * g + 1) = v2
      rw [t11]
      exact (if_neg (by omega)).trans ((if_neg (by omega)).trans ((if_neg (by omega)).trans (if_pos rfl)))
    · show upd (gT d9 11) (4 * g + 3) v4 (4 * g + 2) = v3
      rw [t11]
      exact (if_neg (by omega)).trans ((if_neg (by omega)).trans (if_pos rfl))
    · exact if_pos rfl
    · show upd (gT d9 11) (4 * g + 3) v4 i = gT z9 11 i
      rw [t11]
      exact (if_neg (by omega)).trans ((if_neg (by omega)).trans ((if_neg (by omega)).trans ((if_neg (by omega)).trans (if_neg (by omega)))))
  · left
    rw [if_neg (fun q => hd (c5.1 q)), bd2_eq (tw_no T9y hd), if_pos rfl, ftk_k hk hk6 u3 hg10]
    have ff9 : gI y3 9 = gI z9 9 := s9
    refine ⟨_, c6, _, rnP isB f N p3, rfl, rfl, ⟨at_sk W3.1, W3.2.1, t9_I (t9_p T9y hq3) (by decide) (by decide), W3'.2.2.2⟩, ?_, by omega, fr_I (fr_I (fr_tr fr_rf F3 (by decide)) (by decide)) (by decide)⟩
    refine wr_fault (v1 := v1) (v2 := v2) (v3 := v3) (u := -1) hw hg hg10 hk (by omega) ⟨r2a, r2b⟩ ⟨r3a, r3b⟩ ⟨by decide, by rw [show (-1 : Int32).toInt = -1 by decide]; omega⟩ ?_ ?_ ?_ ?_ ?_ ?_ ?_ (fun i => ?_) (fun i => ?_) (fun i => ?_) (fun i => ?_) (fun i => ?_) (fun i => ?_) (fun i => ?_) ((F3 7 (by decide)).1) ((F3 8 (by decide)).1) (show gI y3 9 + 1 = _ by rw [ff9]) ((F3 10 (by decide)).2.1) ?_ ?_ ?_ ?_ (fun i hi => ?_)
    any_goals (rw [hu7, hx7]; rfl)
    · show gT y3 11 (4 * g) = v1
      rw [T3]
      exact (if_neg (by omega)).trans ((if_neg (by omega)).trans ((if_neg (by omega)).trans (if_pos rfl)))
    · show gT y3 11 (4 * g + 1) = v2
      rw [T3]
      exact (if_neg (by omega)).trans ((if_neg (by omega)).trans (if_pos rfl))
    · show gT y3 11 (4 * g + 2) = v3
      rw [T3]
      exact (if_neg (by omega)).trans (if_pos rfl)
    · show gT y3 11 (4 * g + 3) = -1
      rw [T3]
      exact if_pos rfl
    · show gT y3 11 i = gT z9 11 i
      rw [T3]
      exact (if_neg (by omega)).trans ((if_neg (by omega)).trans ((if_neg (by omega)).trans (if_neg (by omega))))
end FAB

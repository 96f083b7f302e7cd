def SGX (g : Nat → Int32) (t : Nat) (L : Int) (x y : Int32) : Prop := SGI g t x y ∧ y.toInt ≤ L
def CLX (g cl : Nat → Int32) (t : Nat) (L : Int) (a : Nat) : Prop := (cl a = 0 → SGX g t L (cl (a + 1)) (cl (a + 2)) ∧ ((cl (a + 3)).toInt < 0 ∨ SGX g t L (cl (a + 3)) (cl (a + 4)))) ∧ (cl a = 1 → SGX g t L (cl (a + 3)) (cl (a + 4)))
theorem sgx_mono {g g' : Nat → Int32} {t : Nat} {L L' : Int} {x y : Int32} (hg : ∀ i : Nat, (i : Int) < 400 * t + L → g' i = g i) (hL : L ≤ L') (h : SGX g t L x y) : SGX g' t L' x y := by
  obtain ⟨⟨h0, h1, h2, h3, h4⟩, h5⟩ := h
  have hc := clampI h1
  refine ⟨⟨h0, h1, h2, h3, ?_⟩, by omega⟩
  rw [← h4]
  exact rn_congr _ (fun i hi => hg (400 * t + i) (by omega))
theorem clx_mono {g g' cl cl' : Nat → Int32} {t : Nat} {L L' : Int} {a : Nat} (hg : ∀ i : Nat, (i : Int) < 400 * t + L → g' i = g i) (hL : L ≤ L') (hc : ∀ j, j ≤ 4 → cl' (a + j) = cl (a + j)) (h : CLX g cl t L a) : CLX g' cl' t L' a := by
  have e0 : cl' a = cl a := hc 0 (by decide)
  unfold CLX
  rw [e0, hc 1 (by decide), hc 2 (by decide), hc 3 (by decide), hc 4 (by decide)]
  refine ⟨fun q => ?_, fun q => sgx_mono hg hL (h.2 q)⟩
  obtain ⟨h1, h2⟩ := h.1 q
  refine ⟨sgx_mono hg hL h1, ?_⟩
  rcases h2 with h2 | h2
  · exact Or.inl h2
  · exact Or.inr (sgx_mono hg hL h2)
def RPI (t : Nat) (z : Sx) : Prop := 0 ≤ (gT z 6 t).toInt ∧ ∀ c : Nat, (c : Int) < (gT z 6 t).toInt → CLX (gT z 3) (gT z 5) t (gT z 4 t).toInt (60 * t + 5 * c)
def OLD (t : Nat) (z z' : Sx) : Prop := (∀ i : Nat, i < 400 * t → gT z' 3 i = gT z 3 i) ∧ (∀ i : Nat, i < 60 * t → gT z' 5 i = gT z 5 i) ∧ (∀ i : Nat, i < t → gT z' 6 i = gT z 6 i)
theorem old_rf {t : Nat} {z : Sx} : OLD t z z := ⟨fun _ _ => rfl, fun _ _ => rfl, fun _ _ => rfl⟩
theorem old_tr {t : Nat} {z z1 z2 : Sx} (h1 : OLD t z z1) (h2 : OLD t z1 z2) : OLD t z z2 := ⟨fun i hi => (h2.1 i hi).trans (h1.1 i hi), fun i hi => (h2.2.1 i hi).trans (h1.2.1 i hi), fun i hi => (h2.2.2 i hi).trans (h1.2.2 i hi)⟩
theorem old_eq {t : Nat} {z z' : Sx} (h3 : gT z' 3 = gT z 3) (h5 : gT z' 5 = gT z 5) (h6 : gT z' 6 = gT z 6) : OLD t z z' := ⟨fun i _ => by rw [h3], fun i _ => by rw [h5], fun i _ => by rw [h6]⟩
theorem rk_old {t t' : Nat} {z z' : Sx} (h : OLD t z z') (ht : t' < t) (hr : RK z t') : RK z' t' := by
  obtain ⟨t6, h0, h1, hc⟩ := hr
  have e6 := h.2.2 t' ht
  unfold RK
  rw [e6]
  refine ⟨t6, h0, h1, fun c hc0 => ?_⟩
  have hh := hc c hc0
  have e5 : ∀ j, j ≤ 4 → gT z' 5 (60 * t' + 5 * c + j) = gT z 5 (60 * t' + 5 * c + j) := fun j hj => h.2.1 _ (by omega)
  have sg : ∀ x y : Int32, SGI (gT z 3) t' x y → SGI (gT z' 3) t' x y := fun x y q => by
    obtain ⟨q0, q1, q2, q3, q4⟩ := q
    refine ⟨q0, q1, q2, q3, ?_⟩
    rw [← q4]
    exact rn_congr _ (fun i hi => h.1 (400 * t' + i) (by omega))
  have e50 : gT z' 5 (60 * t' + 5 * c) = gT z 5 (60 * t' + 5 * c) := e5 0 (by decide)
  unfold CLK
  rw [e50, e5 1 (by decide), e5 2 (by decide), e5 3 (by decide), e5 4 (by decide)]
  refine ⟨fun q => ?_, fun q => sg _ _ (hh.2 q)⟩
  obtain ⟨w1, w2⟩ := hh.1 q
  exact ⟨sg _ _ w1, w2.imp id (sg _ _)⟩
/-- along a clause of text t: what was there stands, the clause's own places are from a on -/
def DI (t a : Nat) (o z : Sx) : Prop := FrL [3, 4, 5, 6, 12, 13, 14, 16, 17, 19, 20] o z ∧ KP t o z ∧ (∀ i : Nat, i < a → gT z 5 i = gT o 5 i) ∧ gT z 6 = gT o 6 ∧ (gI o 12).toInt ≤ (gI z 12).toInt ∧ (gI z 12).toInt ≤ (gI o 1).toInt ∧ (gT z 4 t).toInt ≤ (gI z 12).toInt ∧ 0 ≤ (gI z 16).toInt ∧ (gI z 16).toInt ≤ 60
def DHP (t : Nat) (o : Sx) (y : Int32 × Sx) : Prop := FrL [3, 4, 5, 6, 12, 13, 14, 16, 17, 19, 20] o y.2 ∧ OLD t o y.2 ∧ (gI o 12).toInt ≤ (gI y.2 12).toInt ∧ (gI y.2 12).toInt ≤ (gI o 1).toInt ∧ ((y.1 = 0 ∧ (gI y.2 13).toInt ≠ 0) ∨ (y.1 = 1 ∧ RPI t y.2 ∧ (gT y.2 6 t).toInt = (gT o 6 t).toInt + 1 ∧ 0 ≤ (gT y.2 4 t).toInt ∧ (gT y.2 4 t).toInt ≤ (gI y.2 12).toInt ∧ 0 ≤ (gI y.2 16).toInt ∧ (gI y.2 16).toInt ≤ 60))
theorem dhp_fail {t a : Nat} {o z : Sx} (ha : 60 * t ≤ a) (h1 : FrL [3, 4, 5, 6, 12, 13, 14, 16, 17, 19, 20] o z) (h2 : KP t o z) (hL : 0 ≤ (gT o 4 t).toInt) (h3 : ∀ i : Nat, i < a → gT z 5 i = gT o 5 i) (h4 : gT z 6 = gT o 6) (h5 : (gI o 12).toInt ≤ (gI z 12).toInt) (h6 : (gI z 12).toInt ≤ (gI o 1).toInt) (hw : (gI z 13).toInt ≠ 0) : DHP t o (0, z) :=
  ⟨h1, ⟨fun i hi => h2.2 i (by omega), fun i hi => h3 i (by omega), fun i _ => by rw [h4]⟩, h5, h6, Or.inl ⟨rfl, hw⟩⟩
/-- the end of a clause -/
theorem dhp_end {t a c0 : Nat} {o z : Sx} {x1 v : Int32} (t6 : t < 6) (ha : a = 60 * t + 5 * c0) (hc0 : (gT o 6 t).toInt = c0) (hc11 : c0 ≤ 11) (hL : 0 ≤ (gT o 4 t).toInt) (hrp : RPI t o) (hx : x1 = 0 ∨ x1 = 1) (hi : DI t a o z) (hz : gT z 5 a = x1)
    (hs0 : x1 = 0 → SGX (gT z 3) t (gT z 4 t).toInt (gT z 5 (a + 1)) (gT z 5 (a + 2)) ∧ ((gT z 5 (a + 3)).toInt < 0 ∨ SGX (gT z 3) t (gT z 4 t).toInt (gT z 5 (a + 3)) (gT z 4 t)))
    (hs1 : x1 = 1 → SGX (gT z 3) t (gT z 4 t).toInt (gT z 5 (a + 3)) (gT z 4 t)) (hv : v.toInt = (gT o 6 t).toInt + 1) : DHP t o (1, sT (sT z 5 (a + 4) (gT z 4 t)) 6 t v) := by
  obtain ⟨h1, h2, h3, h4, h5, h6, h7, h8, h9⟩ := hi
  have h2a := h2.1
  have g3 : gT (sT (sT z 5 (a + 4) (gT z 4 t)) 6 t v) 3 = gT z 3 := rfl
  have g4 : gT (sT (sT z 5 (a + 4) (gT z 4 t)) 6 t v) 4 = gT z 4 := rfl
  have g5 : gT (sT (sT z 5 (a + 4) (gT z 4 t)) 6 t v) 5 = upd (gT z 5) (a + 4) (gT z 4 t) := rfl
  have g6 : gT (sT (sT z 5 (a + 4) (gT z 4 t)) 6 t v) 6 = upd (gT z 6) t v := rfl
  have u6 : upd (gT z 6) t v t = v := if_pos rfl
  have u5 : ∀ j, j ≠ a + 4 → upd (gT z 5) (a + 4) (gT z 4 t) j = gT z 5 j := fun j hj => if_neg hj
  have u54 : upd (gT z 5) (a + 4) (gT z 4 t) (a + 4) = gT z 4 t := if_pos rfl
  refine ⟨fr_T (fr_T h1 (by decide)) (by decide), ⟨fun i hi => h2.2 i (by omega), fun i hi => ?_, fun i hi => ?_⟩, h5, h6, Or.inr ⟨rfl, ?_, ?_, show 0 ≤ (gT z 4 t).toInt by omega, h7, h8, h9⟩⟩
  · show upd (gT z 5) (a + 4) (gT z 4 t) i = gT o 5 i
    rw [u5 i (by omega)]; exact h3 i (by omega)
  · show upd (gT z 6) t v i = gT o 6 i
    have : upd (gT z 6) t v i = gT z 6 i := if_neg (by omega)
    rw [this, h4]
  · show RPI t (sT (sT z 5 (a + 4) (gT z 4 t)) 6 t v)
    unfold RPI
    rw [g3, g4, g5, g6, u6]
    refine ⟨by omega, fun c hc => ?_⟩
    by_cases q : c = c0
    · subst q
      rw [← ha]
      unfold CLX
      rw [u5 a (by omega), u5 (a + 1) (by omega), u5 (a + 2) (by omega), u5 (a + 3) (by omega), u54, hz]
      exact ⟨hs0, hs1⟩
    · refine clx_mono (L := (gT o 4 t).toInt) h2.2 h2a (fun j hj => ?_) (hrp.2 c (by omega))
      rw [u5 _ (by omega)]; exact h3 _ (by omega)
  · show (upd (gT z 6) t v t).toInt = (gT o 6 t).toInt + 1
    rw [u6]; exact hv
set_option maxHeartbeats 2000000 in
theorem t_fX9_isDoingHere {z_t : Sx} {x1 : Int32} {t : Nat} (pt : (gI z_t 15).toInt = t ∧ t < 6) (p1 : 0 ≤ (gI z_t 12).toInt ∧ (gI z_t 12).toInt ≤ (gI z_t 1).toInt ∧ (gI z_t 1).toInt ≤ 400) (pL : 0 ≤ (gT z_t 4 t).toInt ∧ (gT z_t 4 t).toInt ≤ (gI z_t 12).toInt) (hm : 0 ≤ (gI z_t 16).toInt ∧ (gI z_t 16).toInt ≤ 60) (hrp : RPI t z_t) (hc11 : (gT z_t 6 t).toInt ≤ 11) (hx : x1 = 0 ∨ x1 = 1) : okP (fX9_isDoingHere z_t x1) (DHP t z_t) := by
  unfold fX9_isDoingHere
  obtain ⟨c0, hc0⟩ : ∃ c0 : Nat, (gT z_t 6 t).toInt = c0 := ⟨(gT z_t 6 t).toInt.toNat, by have := hrp.1; omega⟩
  obtain ⟨a, ha⟩ : ∃ a : Nat, a = 60 * t + 5 * c0 := ⟨_, rfl⟩
  refine ok_bd (t_fX9_passWord (by omega)) (fun z2 q => ?_)
  have f2 : FrL [12] z_t z2 := q.1
  have n2 : (gI z_t 12).toInt ≤ (gI z2 12).toInt ∧ (gI z2 12).toInt ≤ (gI z_t 1).toInt := q.2.1
  clear q
  have e15 : (gI z2 15).toInt = t := (congrArg Int32.toInt (f2 15 (by decide)).1).trans pt.1
  have e15n : (gI z2 15).toNatClampNeg = t := n_cl e15
  have e4 : gT z2 4 = gT z_t 4 := (f2 4 (by decide)).2.1
  have e6 : gT z2 6 = gT z_t 6 := (f2 6 (by decide)).2.1
  have e5 : gT z2 5 = gT z_t 5 := (f2 5 (by decide)).2.1
  have e16 : (gI z2 16).toInt = (gI z_t 16).toInt := congrArg Int32.toInt (f2 16 (by decide)).1
  have e1 : (gI z2 1).toInt = (gI z_t 1).toInt := congrArg Int32.toInt (f2 1 (by decide)).1
  refine ok_gd (inb_of (by omega) (by omega)) ?_
  simp only [e15n]
  refine ok_nm2 (fun v4 ev4 => ?_)
  have ev : v4.toInt = a := by
    rw [ev4, e6]
    have w1 : (60 * gI z2 15).toInt = 60 * (t : Int) := by rw [i32_mul (show (60 : Int32).toInt = 60 by decide) e15 (by omega) (by omega)]
    have w2 : (5 * gT z_t 6 t).toInt = 5 * (c0 : Int) := by rw [i32_mul (show (5 : Int32).toInt = 5 by decide) hc0 (by omega) (by omega)]
    rw [i32_add w1 w2 (by omega) (by omega)]; omega
  have i0 : v4.toNatClampNeg = a := n_cl ev
  have w1 : (v4 + 1).toInt = a + 1 := i32_add ev (show (1 : Int32).toInt = 1 by decide) (by omega) (by omega)
  have w2 : (v4 + 2).toInt = a + 2 := i32_add ev (show (2 : Int32).toInt = 2 by decide) (by omega) (by omega)
  have w3 : (v4 + 3).toInt = a + 3 := i32_add ev (show (3 : Int32).toInt = 3 by decide) (by omega) (by omega)
  have w4 : (v4 + 4).toInt = a + 4 := i32_add ev (show (4 : Int32).toInt = 4 by decide) (by omega) (by omega)
  have i1 : (v4 + 1).toNatClampNeg = a + 1 := n_cl (by rw [w1]; omega)
  have i2 : (v4 + 2).toNatClampNeg = a + 2 := n_cl (by rw [w2]; omega)
  have i3 : (v4 + 3).toNatClampNeg = a + 3 := n_cl (by rw [w3]; omega)
  have i4 : (v4 + 4).toNatClampNeg = a + 4 := n_cl (by rw [w4]; omega)
  refine ok_gd (inb_of (by omega) (by omega)) ?_
  refine ok_gd (inb_of (by omega) (by omega)) ?_
  simp only [i0, i1, i2, i3, i4]
  have hi2 : DI t a z_t (sT (sT z2 5 a x1) 5 (a + 3) (-1)) := by
    refine ⟨fr_T (fr_T (fr_tr fr_rf f2 (by decide)) (by decide)) (by decide), kp_T (kp_T (kp_fr kp_rf f2 (by decide)) (by decide)) (by decide), fun i hi => ?_, e6, n2.1, n2.2, ?_, show 0 ≤ (gI z2 16).toInt by omega, show (gI z2 16).toInt ≤ 60 by omega⟩
    · show upd (upd (gT z2 5) a x1) (a + 3) (-1) i = gT z_t 5 i
      have q1 : upd (upd (gT z2 5) a x1) (a + 3) (-1) i = upd (gT z2 5) a x1 i := if_neg (by omega)
      have q2 : upd (gT z2 5) a x1 i = gT z2 5 i := if_neg (by omega)
      rw [q1, q2, e5]
    · show (gT z2 4 t).toInt ≤ (gI z2 12).toInt
      rw [e4]; omega
  -- the end of the clause
  have fin : ∀ z10 : Sx, DI t a z_t z10 → gT z10 5 a = x1 → (x1 = 0 → SGX (gT z10 3) t (gT z10 4 t).toInt (gT z10 5 (a + 1)) (gT z10 5 (a + 2)) ∧ ((gT z10 5 (a + 3)).toInt < 0 ∨ SGX (gT z10 3) t (gT z10 4 t).toInt (gT z10 5 (a + 3)) (gT z10 4 t))) → (x1 = 1 → SGX (gT z10 3) t (gT z10 4 t).toInt (gT z10 5 (a + 3)) (gT z10 4 t)) → okP (gd (inb (gI z10 15) 7) (gd (inb (v4 + 4) 360) (gd (inb (gI z10 15) 6) (nm ((gT (sT z10 5 (a + 4) (gT z10 4 ((gI z10 15).toNatClampNeg))) 6 ((gI z10 15).toNatClampNeg)) + 1 : Int32) (fun v14 => some ((1 : Int32), sT (sT z10 5 (a + 4) (gT z10 4 ((gI z10 15).toNatClampNeg))) 6 ((gI z10 15).toNatClampNeg) v14)))))) (DHP t z_t) := by
    intro z10 hi hz hs0 hs1
    have k15 : (gI z10 15).toInt = t := (congrArg Int32.toInt (hi.1 15 (by decide)).1).trans pt.1
    have k15n : (gI z10 15).toNatClampNeg = t := n_cl k15
    refine ok_gd (inb_of (by omega) (by omega)) ?_
    refine ok_gd (inb_of (by omega) (by omega)) ?_
    refine ok_gd (inb_of (by omega) (by omega)) ?_
    simp only [k15n]
    refine ok_nm2 (fun v14 ev14 => ?_)
    have ev2 : v14 = gT z_t 6 t + 1 := by
      rw [ev14]
      show gT z10 6 t + 1 = _
      rw [hi.2.2.2.1]
    have ev3 : v14.toInt = (gT z_t 6 t).toInt + 1 := by rw [ev2]; exact i32_add rfl (show (1 : Int32).toInt = 1 by decide) (by omega) (by omega)
    exact ok_some (dhp_end pt.2 ha hc0 (by omega) pL.1 hrp hx hi hz hs0 hs1 ev3)
  have tst : ∀ z16 : Sx, DI t a z_t z16 → gT z16 5 a = x1 → (x1 = 0 → SGX (gT z16 3) t (gT z16 4 t).toInt (gT z16 5 (a + 1)) (gT z16 5 (a + 2))) → okP (gd (inb (gI z16 15) 7) (bd2 (fX9_tested (sT z16 5 (a + 3) (gT z16 4 ((gI z16 15).toNatClampNeg)))) (fun r19 z20 => if r19 = 0 then some ((0 : Int32), z20) else gd (inb (gI z20 15) 7) (gd (inb (v4 + 4) 360) (gd (inb (gI z20 15) 6) (nm ((gT (sT z20 5 (a + 4) (gT z20 4 ((gI z20 15).toNatClampNeg))) 6 ((gI z20 15).toNatClampNeg)) + 1 : Int32) (fun v14 => some ((1 : Int32), sT (sT z20 5 (a + 4) (gT z20 4 ((gI z20 15).toNatClampNeg))) 6 ((gI z20 15).toNatClampNeg) v14)))))))) (DHP t z_t) := by
    intro z16 hi hz hs
    obtain ⟨h1, h2, h3, h4, h5, h6, h7, h8, h9⟩ := id hi
    have h2a := h2.1
    have k15 : (gI z16 15).toInt = t := (congrArg Int32.toInt (h1 15 (by decide)).1).trans pt.1
    have k1 : (gI z16 1).toInt = (gI z_t 1).toInt := congrArg Int32.toInt (h1 1 (by decide)).1
    have k15n : (gI z16 15).toNatClampNeg = t := n_cl k15
    refine ok_gd (inb_of (by omega) (by omega)) ?_
    simp only [k15n]
    refine ok_bd2 (t_fX9_tested (t := t) (z_t := sT z16 5 (a + 3) (gT z16 4 t)) ⟨k15, pt.2⟩ (show 0 ≤ (gI z16 12).toInt ∧ (gI z16 12).toInt ≤ (gI z16 1).toInt ∧ (gI z16 1).toInt ≤ 400 by omega) (show 0 ≤ (gT z16 4 t).toInt ∧ (gT z16 4 t).toInt ≤ (gI z16 12).toInt by omega) ⟨h8, h9⟩) (fun r19 z20 q => ?_)
    obtain ⟨q1, q2, q3, q4, q5⟩ := q
    have q1 : FrL [3, 4, 12, 13, 14, 16, 17, 19, 20] (sT z16 5 (a + 3) (gT z16 4 t)) z20 := q1
    have q2 : KP t (sT z16 5 (a + 3) (gT z16 4 t)) z20 := q2
    have q3 : (gI z16 12).toInt ≤ (gI z20 12).toInt := q3
    have q4 : (gI z20 12).toInt ≤ (gI z16 1).toInt := q4
    have q2a : (gT z16 4 t).toInt ≤ (gT z20 4 t).toInt := q2.1
    have g5 : gT z20 5 = upd (gT z16 5) (a + 3) (gT z16 4 t) := (q1 5 (by decide)).2.1
    have g6 : gT z20 6 = gT z16 6 := (q1 6 (by decide)).2.1
    have u5 : ∀ j, j ≠ a + 3 → gT z20 5 j = gT z16 5 j := fun j hj => by rw [g5]; exact if_neg hj
    have u53 : gT z20 5 (a + 3) = gT z16 4 t := by rw [g5]; exact if_pos rfl
    have fr20 : FrL [3, 4, 5, 6, 12, 13, 14, 16, 17, 19, 20] z_t z20 := fr_tr (fr_T h1 (by decide)) q1 (by decide)
    have kp20 : KP t z_t z20 := kp_tr (kp_T h2 (by decide)) q2
    have o5 : ∀ i : Nat, i < a → gT z20 5 i = gT z_t 5 i := fun i hi => (u5 i (by omega)).trans (h3 i hi)
    refine ok_ite (fun c1 => ?_) (fun c1 => ?_)
    · have hw : (gI z20 13).toInt ≠ 0 := by
        rcases q5 with q | q
        · exact q.2
        · have : r19 = 1 := q.1
          rw [this] at c1; exact absurd c1 (by decide)
      exact ok_some (dhp_fail (by omega) fr20 kp20 pL.1 o5 (g6.trans h4) (by omega) (by omega) hw)
    · have hq : RN z20 t ((gT z16 4 t).toNatClampNeg) 1 ∧ (gT z20 4 t).toInt ≤ (gI z20 12).toInt ∧ 0 ≤ (gI z20 16).toInt ∧ (gI z20 16).toInt ≤ 60 := by
        rcases q5 with q | q
        · exact absurd q.1 c1
        · exact q.2
      obtain ⟨y1, y2, y3, y4⟩ := hq
      have hsg : SGX (gT z20 3) t (gT z20 4 t).toInt (gT z20 5 (a + 3)) (gT z20 4 t) := by
        rw [u53]
        have cc := clampI (x := gT z20 4 t) (by omega)
        have cd := clampI (x := gT z16 4 t) (by omega)
        exact ⟨⟨by omega, by omega, by omega, by omega, y1.2⟩, Int.le_refl _⟩
      refine fin z20 ⟨fr20, kp20, o5, g6.trans h4, by omega, by omega, y2, y3, y4⟩ ((u5 a (by omega)).trans hz) (fun e => ⟨?_, Or.inr hsg⟩) (fun _ => hsg)
      rw [u5 (a + 1) (by omega), u5 (a + 2) (by omega)]
      exact sgx_mono q2.2 q2a (hs e)
  -- behind the SUM
  have aft : ∀ z8 : Sx, DI t a z_t z8 → gT z8 5 a = x1 → gT z8 5 (a + 3) = -1 → (x1 = 0 → SGX (gT z8 3) t (gT z8 4 t).toInt (gT z8 5 (a + 1)) (gT z8 5 (a + 2))) → okP (if x1 = 1 then gd (inb (gI z8 15) 7) (bd2 (fX9_tested (sT z8 5 (a + 3) (gT z8 4 ((gI z8 15).toNatClampNeg)))) (fun r19 z20 => if r19 = 0 then some ((0 : Int32), z20) else gd (inb (gI z20 15) 7) (gd (inb (v4 + 4) 360) (gd (inb (gI z20 15) 6) (nm ((gT (sT z20 5 (a + 4) (gT z20 4 ((gI z20 15).toNatClampNeg))) 6 ((gI z20 15).toNatClampNeg)) + 1 : Int32) (fun v14 => some ((1 : Int32), sT (sT z20 5 (a + 4) (gT z20 4 ((gI z20 15).toNatClampNeg))) 6 ((gI z20 15).toNatClampNeg) v14))))))) else bd2 (fX9_takesWord z8 26982) (fun r24 z25 => if r24 = 0 then gd (inb (gI z25 15) 7) (gd (inb (v4 + 4) 360) (gd (inb (gI z25 15) 6) (nm ((gT (sT z25 5 (a + 4) (gT z25 4 ((gI z25 15).toNatClampNeg))) 6 ((gI z25 15).toNatClampNeg)) + 1 : Int32) (fun v14 => some ((1 : Int32), sT (sT z25 5 (a + 4) (gT z25 4 ((gI z25 15).toNatClampNeg))) 6 ((gI z25 15).toNatClampNeg) v14))))) else gd (inb (gI z25 15) 7) (bd2 (fX9_tested (sT z25 5 (a + 3) (gT z25 4 ((gI z25 15).toNatClampNeg)))) (fun r19 z20 => if r19 = 0 then some ((0 : Int32), z20) else gd (inb (gI z20 15) 7) (gd (inb (v4 + 4) 360) (gd (inb (gI z20 15) 6) (nm ((gT (sT z20 5 (a + 4) (gT z20 4 ((gI z20 15).toNatClampNeg))) 6 ((gI z20 15).toNatClampNeg)) + 1 : Int32) (fun v14 => some ((1 : Int32), sT (sT z20 5 (a + 4) (gT z20 4 ((gI z20 15).toNatClampNeg))) 6 ((gI z20 15).toNatClampNeg) v14))))))))) (DHP t z_t) := by
    intro z8 hi hz hz3 hs
    refine ok_ite (fun c1 => tst z8 hi hz hs) (fun c1 => ?_)
    obtain ⟨h1, h2, h3, h4, h5, h6, h7, h8, h9⟩ := id hi
    have h2a := h2.1
    have k1 : (gI z8 1).toInt = (gI z_t 1).toInt := congrArg Int32.toInt (h1 1 (by decide)).1
    refine ok_bd2 (t_fX9_takesWord (by omega)) (fun r24 z25 q => ?_)
    have f : FrL [12] z8 z25 := q.2.1
    have n25 : (gI z8 12).toInt ≤ (gI z25 12).toInt ∧ (gI z25 12).toInt ≤ (gI z8 1).toInt := q.2.2
    clear q
    have g3 : gT z25 3 = gT z8 3 := (f 3 (by decide)).2.1
    have g4 : gT z25 4 = gT z8 4 := (f 4 (by decide)).2.1
    have g5 : gT z25 5 = gT z8 5 := (f 5 (by decide)).2.1
    have g6 : gT z25 6 = gT z8 6 := (f 6 (by decide)).2.1
    have g16 : (gI z25 16).toInt = (gI z8 16).toInt := congrArg Int32.toInt (f 16 (by decide)).1
    have hi25 : DI t a z_t z25 := ⟨fr_tr h1 f (by decide), kp_fr h2 f (by decide), fun i hi => by rw [g5]; exact h3 i hi, g6.trans h4, by omega, by omega, by rw [g4]; omega, by omega, by omega⟩
    have hz25 : gT z25 5 a = x1 := by rw [g5]; exact hz
    have hs25 : x1 = 0 → SGX (gT z25 3) t (gT z25 4 t).toInt (gT z25 5 (a + 1)) (gT z25 5 (a + 2)) := by rw [g3, g4, g5]; exact hs
    refine ok_ite (fun c2 => ?_) (fun c2 => tst z25 hi25 hz25 hs25)
    refine fin z25 hi25 hz25 (fun e => ⟨hs25 e, Or.inl ?_⟩) (fun e => absurd e c1)
    rw [g5, hz3]; decide
  refine ok_jn ?_
  refine ok_ite (fun c1 => ?_) (fun c1 => ?_)
  · refine ok_gd (inb_of (by omega) (by omega)) ?_
    refine ok_nm2 (fun v29 ev29 => ?_)
    have ev30 : v29 = gT z_t 4 t := ev29.trans (by show gT z2 4 t = _; rw [e4])
    refine ok_gd (inb_of (by omega) (by omega)) ?_
    have hcl := clampI pL.1
    have hrn : RN (sT (sT (sT z2 5 a x1) 5 (a + 3) (-1)) 5 (a + 1) v29) t ((gT z_t 4 t).toNatClampNeg) 0 := by
      refine ⟨show (((gT z_t 4 t).toNatClampNeg : Nat) : Int) ≤ (gT z2 4 t).toInt by rw [e4]; omega, ?_⟩
      show rn (fun i => gT z2 3 (400 * t + i)) ((gT z_t 4 t).toNatClampNeg) ((gT z2 4 t).toNatClampNeg - (gT z_t 4 t).toNatClampNeg) = some 0
      rw [e4, Nat.sub_self]; rfl
    refine ok_bd2 (t_fX9_sum (t := t) (b := (gT z_t 4 t).toNatClampNeg) (h := 0) (o := 0) (show 0 ≤ (gI z2 12).toInt ∧ (gI z2 12).toInt ≤ (gI z2 1).toInt ∧ (gI z2 1).toInt ≤ 400 by omega) ⟨e15, pt.2⟩ (show 0 ≤ (gT z2 4 t).toInt ∧ (gT z2 4 t).toInt + ((0 : Nat) : Int) ≤ (gI z2 12).toInt by rw [e4]; omega) (show 0 ≤ (gI z2 16).toInt ∧ (gI z2 16).toInt ≤ 60 ∧ ((0 : Nat) : Int) ≤ (gI z2 16).toInt by omega) hrn) (fun r32 z33 q => ?_)
    have rb : r32 = 0 ∨ r32 = 1 := q.1
    have f : FrL [3, 4, 12, 13, 14, 16] (sT (sT (sT z2 5 a x1) 5 (a + 3) (-1)) 5 (a + 1) v29) z33 := q.2.1
    have n33 : (gI z2 12).toInt ≤ (gI z33 12).toInt ∧ (gI z33 12).toInt ≤ (gI z2 1).toInt := q.2.2.1
    have kp33 : KP t (sT (sT (sT z2 5 a x1) 5 (a + 3) (-1)) 5 (a + 1) v29) z33 := q.2.2.2.1
    have q0 : r32.toInt = 0 → (gI z33 13).toInt ≠ 0 := q.2.2.2.2.1
    have q1 : r32.toInt = 1 → (gT z33 4 t).toInt + ((0 : Nat) : Int) ≤ (gI z33 12).toInt ∧ ((0 : Nat) : Int) + 1 ≤ (gI z33 16).toInt ∧ (gI z33 16).toInt ≤ 60 := q.2.2.2.2.2.1
    have q2 : r32.toInt = 1 → RN z33 t ((gT z_t 4 t).toNatClampNeg) (0 + 1) := q.2.2.2.2.2.2
    clear q
    have kpa : (gT z2 4 t).toInt ≤ (gT z33 4 t).toInt := kp33.1
    rw [e4] at kpa
    have g5 : gT z33 5 = upd (upd (upd (gT z2 5) a x1) (a + 3) (-1)) (a + 1) v29 := (f 5 (by decide)).2.1
    have g6 : gT z33 6 = gT z2 6 := (f 6 (by decide)).2.1
    have u0 : gT z33 5 a = x1 := by
      rw [g5]
      exact (if_neg (by omega)).trans ((if_neg (by omega)).trans (if_pos rfl))
    have u1 : gT z33 5 (a + 1) = v29 := by rw [g5]; exact if_pos rfl
    have u3 : gT z33 5 (a + 3) = -1 := by rw [g5]; exact (if_neg (by omega)).trans (if_pos rfl)
    have uo : ∀ i : Nat, i < a → gT z33 5 i = gT z_t 5 i := fun i hi => by
      rw [g5, ← e5]
      exact (if_neg (by omega)).trans ((if_neg (by omega)).trans (if_neg (by omega)))
    have fr33 : FrL [3, 4, 5, 6, 12, 13, 14, 16, 17, 19, 20] z_t z33 := fr_tr (fr_T hi2.1 (by decide)) f (by decide)
    have kpo : KP t z_t z33 := kp_tr (kp_T hi2.2.1 (by decide)) kp33
    refine ok_ite (fun c2 => ?_) (fun c2 => ?_)
    · exact ok_some (dhp_fail (by omega) fr33 kpo pL.1 uo (g6.trans e6) (by omega) (by omega) (q0 (by rw [c2]; decide)))
    · have hone : r32.toInt = 1 := by
        rcases rb with e | e
        · exact absurd e c2
        · rw [e]; decide
      obtain ⟨y1, y2, y3⟩ := q1 hone
      have y4 := q2 hone
      have k15 : (gI z33 15).toInt = t := (congrArg Int32.toInt (f 15 (by decide)).1).trans e15
      have k15n : (gI z33 15).toNatClampNeg = t := n_cl k15
      refine ok_gd (inb_of (by omega) (by omega)) ?_
      refine ok_gd (inb_of (by omega) (by omega)) ?_
      simp only [k15n]
      have cc := clampI (x := gT z33 4 t) (by omega)
      refine aft (sT z33 5 (a + 2) (gT z33 4 t)) ⟨fr_T fr33 (by decide), kp_T kpo (by decide), fun i hi => ?_, g6.trans e6, show (gI z_t 12).toInt ≤ (gI z33 12).toInt by omega, show (gI z33 12).toInt ≤ (gI z_t 1).toInt by omega, show (gT z33 4 t).toInt ≤ (gI z33 12).toInt by omega, show 0 ≤ (gI z33 16).toInt by omega, y3⟩ ?_ ?_ (fun _ => ?_)
      · exact (show upd (gT z33 5) (a + 2) (gT z33 4 t) i = gT z33 5 i from if_neg (by omega)).trans (uo i hi)
      · exact (show upd (gT z33 5) (a + 2) (gT z33 4 t) a = gT z33 5 a from if_neg (by omega)).trans u0
      · exact (show upd (gT z33 5) (a + 2) (gT z33 4 t) (a + 3) = gT z33 5 (a + 3) from if_neg (by omega)).trans u3
      · show SGX (gT z33 3) t (gT z33 4 t).toInt (upd (gT z33 5) (a + 2) (gT z33 4 t) (a + 1)) (upd (gT z33 5) (a + 2) (gT z33 4 t) (a + 2))
        have v1 : upd (gT z33 5) (a + 2) (gT z33 4 t) (a + 1) = gT z_t 4 t := (if_neg (by omega)).trans (u1.trans ev30)
        have v2 : upd (gT z33 5) (a + 2) (gT z33 4 t) (a + 2) = gT z33 4 t := if_pos rfl
        rw [v1, v2]
        exact ⟨⟨by omega, by omega, by omega, by omega, y4.2⟩, Int.le_refl _⟩
  · have hx1 : x1 = 1 := hx.resolve_left c1
    refine aft (sT (sT z2 5 a x1) 5 (a + 3) (-1)) hi2 ?_ ?_ (fun e => absurd e c1)
    · exact (show upd (upd (gT z2 5) a x1) (a + 3) (-1) a = upd (gT z2 5) a x1 a from if_neg (by omega)).trans (if_pos rfl)
    · exact (show upd (upd (gT z2 5) a x1) (a + 3) (-1) (a + 3) = -1 from if_pos rfl)

/-! A LOOK, on both sides: what it leaves. -/
theorem nx_eq {x : Int32} (h : 0 ≤ x.toInt) : (((x.toInt64 * 1103515245) + 12345) - ((x.toInt64 * 1103515245) + 12345) / 2147483648 * 2147483648).toInt32 = nx x ∧ 0 ≤ (nx x).toInt := by
  have hx := n_rng x
  have e0 : x.toInt64.toInt = x.toInt := Int32.toInt_toInt64 x
  have e1 : (x.toInt64 * 1103515245).toInt = x.toInt * 1103515245 := i64_mul e0 (show (1103515245 : Int64).toInt = 1103515245 by decide) (by omega) (by omega)
  have e2 : ((x.toInt64 * 1103515245) + 12345).toInt = x.toInt * 1103515245 + 12345 := i64_add e1 (show (12345 : Int64).toInt = 12345 by decide) (by omega) (by omega)
  have m : (2147483648 : Int64).toInt = 2147483648 := by decide
  have hr := rem64 ((x.toInt64 * 1103515245) + 12345) 2147483648 (by rw [m]; decide)
  have ha := and31 ((x.toInt64 * 1103515245) + 12345)
  have eq : ((x.toInt64 * 1103515245) + 12345) - ((x.toInt64 * 1103515245) + 12345) / 2147483648 * 2147483648 = ((x.toInt64 * 1103515245) + 12345) &&& 2147483647 := by
    refine Int64.toInt_inj.1 ?_
    rw [hr, ha, m]
    exact Int.tmod_eq_emod_of_nonneg (by omega)
  refine ⟨by rw [eq]; rfl, ?_⟩
  unfold nx
  rw [Int64.toInt_toInt32, ha]
  have : ((((x.toInt64 * 1103515245) + 12345).toInt) % 2147483648).bmod (2 ^ 32) = (((x.toInt64 * 1103515245) + 12345).toInt) % 2147483648 := Int.bmod_eq_of_le (by omega) (by omega)
  rw [this]
  omega
abbrev hitf (T : Nat → Int32) (g : Nat) : Prop := (nx (T 9) / 65536) - (nx (T 9) / 65536) / 100 * 100 < T (44 + 6 * g + 2)
/-- the table behind a LOOK -/
def LKT (T : Nat → Int32) (g : Nat) (b : Bool) (pay : Int32) (i : Nat) : Int32 := if b = true ∧ i = 4 then T 4 + pay else if b = true ∧ i = 44 + 6 * g + 4 then 1 else if i = 9 then nx (T 9) else if i = 3 then T 3 - T (44 + 6 * g + 1) else if i = 44 + 6 * g + 5 then T (44 + 6 * g + 5) + 1 else T i
section LK8
variable {zw zd z5 z8 z9 : Sx} {x1 : Int32}
theorem ko_eq {g k j : Nat} (hg : g < 10) (hk : gT z9 24 (44 + 6 * g) = nI k) (hk6 : k < 6) (hj : j < 3) : fX9_kindOf z9 (nI g) (nI j) = some (gT z9 24 (26 + 3 * k + j)) := by
  have e0 : fX9_faultOf z9 (nI g) 0 = some (gT z9 24 (44 + 6 * g)) := fo_eq (j := 0) hg (by omega)
  have e3 : (3 * nI k : Int32) = nI (3 * k) := Int32.toInt_inj.1 (by rw [i32_mul (show (3 : Int32).toInt = 3 by decide) (nI_toInt (n := k) (by omega)) (by omega) (by omega), nI_toInt (by omega)]; omega)
  have e26 : (26 : Int32) + nI (3 * k) = nI (26 + 3 * k) := nI_add 26 (3 * k)
  unfold fX9_kindOf
  rw [bd_eq e0, hk, e3, e26, nI_add, gd_pos (in_n (by omega) (by omega)), nI_clamp (by omega)]
theorem looks_eq {g k : Nat} (hg : g < 10) (hk : gT z9 24 (44 + 6 * g) = nI k) (hk6 : k < 6) (h9 : 0 ≤ (gT z9 24 9).toInt) : ∃ y, fX9_looks z9 (nI g) = some (if hitf (gT z9 24) g then 1 else 0, y) ∧ FrL [24] z9 y ∧ ∀ i : Nat, gT y 24 i = LKT (gT z9 24) g (decide (hitf (gT z9 24) g)) (gT z9 24 (26 + 3 * k)) i := by
  have e6 : (6 * nI g : Int32) = nI (6 * g) := Int32.toInt_inj.1 (by rw [i32_mul (show (6 : Int32).toInt = 6 by decide) (nI_toInt (n := g) (by omega)) (by omega) (by omega), nI_toInt (by omega)]; omega)
  have e44 : (44 : Int32) + nI (6 * g) = nI (44 + 6 * g) := nI_add 44 (6 * g)
  have a1 : nI (44 + 6 * g) + 1 = nI (44 + 6 * g + 1) := nI_add (44 + 6 * g) 1
  have a2 : nI (44 + 6 * g) + 2 = nI (44 + 6 * g + 2) := nI_add (44 + 6 * g) 2
  have a4 : nI (44 + 6 * g) + 4 = nI (44 + 6 * g + 4) := nI_add (44 + 6 * g) 4
  have a5 : nI (44 + 6 * g) + 5 = nI (44 + 6 * g + 5) := nI_add (44 + 6 * g) 5
  obtain ⟨nx1, nx2⟩ := nx_eq h9
  obtain ⟨y1, hy1⟩ : ∃ y1, y1 = sT z9 24 (44 + 6 * g + 5) (gT z9 24 (44 + 6 * g + 5) + 1) := ⟨_, rfl⟩
  have t1 : ∀ i : Nat, gT y1 24 i = if i = 44 + 6 * g + 5 then gT z9 24 (44 + 6 * g + 5) + 1 else gT z9 24 i := fun i => by rw [hy1]; rfl
  have f1 : FrL [24] z9 y1 := by rw [hy1]; exact fr_T fr_rf (by decide)
  obtain ⟨y2, hy2⟩ : ∃ y2, y2 = sT y1 24 3 (gT z9 24 3 - gT z9 24 (44 + 6 * g + 1)) := ⟨_, rfl⟩
  have t2 : ∀ i : Nat, gT y2 24 i = if i = 3 then gT z9 24 3 - gT z9 24 (44 + 6 * g + 1) else if i = 44 + 6 * g + 5 then gT z9 24 (44 + 6 * g + 5) + 1 else gT z9 24 i := fun i => by
    rw [hy2, ← t1]; rfl
  have f2 : FrL [24] z9 y2 := by rw [hy2]; exact fr_T f1 (by decide)
  obtain ⟨y3, hy3⟩ : ∃ y3, y3 = sT y2 24 9 (nx (gT z9 24 9)) := ⟨_, rfl⟩
  have t3 : ∀ i : Nat, gT y3 24 i = if i = 9 then nx (gT z9 24 9) else if i = 3 then gT z9 24 3 - gT z9 24 (44 + 6 * g + 1) else if i = 44 + 6 * g + 5 then gT z9 24 (44 + 6 * g + 5) + 1 else gT z9 24 i := fun i => by
    rw [hy3, ← t2]; rfl
  have f3 : FrL [24] z9 y3 := by rw [hy3]; exact fr_T f2 (by decide)
  have ed : fX9_draw y2 100 = some ((nx (gT z9 24 9) / 65536) - (nx (gT z9 24 9) / 65536) / 100 * 100, y3) := by
    have e9 : gT y2 24 9 = gT z9 24 9 := by rw [t2, if_neg (by omega), if_neg (by omega)]
    have e9b : gT (sT y2 24 9 (nx (gT z9 24 9))) 24 9 = nx (gT z9 24 9) := t24_eq
    unfold fX9_draw
    rw [e9, nx1]
    show gd (¬ (100 : Int32) = 0) (some ((gT (sT y2 24 9 (nx (gT z9 24 9))) 24 9 / 65536) - (gT (sT y2 24 9 (nx (gT z9 24 9))) 24 9 / 65536) / 100 * 100, sT y2 24 9 (nx (gT z9 24 9)))) = _
    rw [gd_pos (by decide), e9b, hy3]
  have eL : fX9_looks z9 (nI g) = gd (inb (nI (44 + 6 * g + 2)) 104) (if (nx (gT z9 24 9) / 65536) - (nx (gT z9 24 9) / 65536) / 100 * 100 < gT y3 24 (44 + 6 * g + 2) then gd (inb (nI (44 + 6 * g + 4)) 104) (bd (fX9_kindOf (sT y3 24 (44 + 6 * g + 4) 1) (nI g) 0) (fun r11 => nm ((gT (sT y3 24 (44 + 6 * g + 4) 1) 24 4) + r11 : Int32) (fun v12 => some (1, sT (sT y3 24 (44 + 6 * g + 4) 1) 24 4 v12)))) else some (0, y3)) := by
    unfold fX9_looks
    rw [e6, e44, a1, a2, a4, a5, gd_pos (in_n (by omega) (by omega)), gd_pos (in_n (by omega) (by omega)), nI_clamp (show 44 + 6 * g + 5 < 2147483648 by omega), nI_clamp (show 44 + 6 * g + 1 < 2147483648 by omega), ← hy1]
    have e3 : gT y1 24 3 = gT z9 24 3 := by rw [t1, if_neg (by omega)]
    have e1 : gT y1 24 (44 + 6 * g + 1) = gT z9 24 (44 + 6 * g + 1) := by rw [t1, if_neg (by omega)]
    simp only [nm, e3, e1]
    rw [← hy2, bd2_eq ed]
    have c2 : (nI (44 + 6 * g + 2)).toNatClampNeg = 44 + 6 * g + 2 := nI_clamp (by omega)
    have c4 : (nI (44 + 6 * g + 4)).toNatClampNeg = 44 + 6 * g + 4 := nI_clamp (by omega)
    rw [gd_pos (in_n (a := 44 + 6 * g + 2) (by omega) (by omega)), gd_pos (in_n (a := 44 + 6 * g + 2) (by omega) (by omega)), c2]
    by_cases q : (nx (gT z9 24 9) / 65536) - (nx (gT z9 24 9) / 65536) / 100 * 100 < gT y3 24 (44 + 6 * g + 2)
    · rw [if_pos q, if_pos q, gd_pos (in_n (by omega) (by omega)), gd_pos (in_n (by omega) (by omega)), c4]
    · rw [if_neg q, if_neg q]
  have e2 : gT y3 24 (44 + 6 * g + 2) = gT z9 24 (44 + 6 * g + 2) := by rw [t3, if_neg (by omega), if_neg (by omega), if_neg (by omega)]
  rw [eL, gd_pos (in_n (by omega) (by omega)), e2]
  by_cases q : hitf (gT z9 24) g
  · rw [if_pos (show _ from q), if_pos q, gd_pos (in_n (by omega) (by omega)), decide_eq_true q]
    obtain ⟨y4, hy4⟩ : ∃ y4, y4 = sT y3 24 (44 + 6 * g + 4) 1 := ⟨_, rfl⟩
    have t4 : ∀ i : Nat, gT y4 24 i = if i = 44 + 6 * g + 4 then 1 else gT y3 24 i := fun i => by rw [hy4]; rfl
    have ek : fX9_kindOf y4 (nI g) 0 = some (gT z9 24 (26 + 3 * k)) := by
      have h0 : gT y4 24 (44 + 6 * g) = nI k := by rw [t4, if_neg (by omega), t3, if_neg (by omega), if_neg (by omega), if_neg (by omega)]; exact hk
      have := ko_eq (z9 := y4) (j := 0) hg h0 hk6 (by omega)
      rw [Nat.add_zero (26 + 3 * k), t4, if_neg (by omega), t3, if_neg (by omega), if_neg (by omega), if_neg (by omega)] at this
      exact this
    have e4 : gT y4 24 4 = gT z9 24 4 := by rw [t4, if_neg (by omega), t3, if_neg (by omega), if_neg (by omega), if_neg (by omega)]
    rw [← hy4, bd_eq ek, e4]
    refine ⟨sT y4 24 4 (gT z9 24 4 + gT z9 24 (26 + 3 * k)), rfl, fr_T (by rw [hy4]; exact fr_T f3 (by decide)) (by decide), fun i => ?_⟩
    show upd (gT y4 24) 4 (gT z9 24 4 + gT z9 24 (26 + 3 * k)) i = _
    unfold LKT
    by_cases c4 : i = 4
    · rw [if_pos ⟨rfl, c4⟩]; exact if_pos c4
    · rw [if_neg (fun q => c4 q.2)]
      refine (if_neg c4).trans ?_
      rw [t4]
      by_cases d4 : i = 44 + 6 * g + 4
      · rw [if_pos d4, if_pos ⟨rfl, d4⟩]
      · rw [if_neg d4, if_neg (fun q => d4 q.2), t3]
  · rw [if_neg (show ¬ _ from q), if_neg q, decide_eq_false q]
    refine ⟨y3, rfl, f3, fun i => ?_⟩
    unfold LKT
    rw [if_neg (fun q => by cases q.1), if_neg (fun q => by cases q.1), t3]
end LK8

/-! What the reference keeps of a WORK that it took. -/
section W4
variable {k : Sx → Option (Int32 × Sx)}
theorem w92 : ∀ (m x : Nat) (z : Sx), x ≤ 9 → 9 - x < m → ∃ y, lX9_work_92 k m z (nI x) = k y ∧ FrL [24] z y ∧ (∀ i : Nat, x ≤ i → i < 9 → gT y 24 i = 0) ∧ ∀ i : Nat, (i < x ∨ 9 ≤ i) → gT y 24 i = gT z 24 i := by
  intro m
  induction m with
  | zero => intro x z _ hm; omega
  | succ m ih =>
    intro x z hx hm
    rw [lX9_work_92]
    by_cases c : x = 9
    · rw [if_pos (show (9 : Int32) ≤ nI x from nI_le (a := 9) (by omega) (by omega))]
      exact ⟨z, rfl, fr_rf, fun i h1 h2 => by omega, fun _ _ => rfl⟩
    · rw [if_neg (show ¬ (9 : Int32) ≤ nI x from nI_ge (b := 9) (by omega) (by decide)), gd_pos (in_n (by omega) (by omega)), nI_clamp (by omega), nI_1]
      obtain ⟨y, e, f, h1, h2⟩ := ih (x + 1) (sT z 24 x 0) (by omega) (by omega)
      refine ⟨y, e, fr_tr (fr_T fr_rf (by decide)) f (by decide), fun i a b => ?_, fun i a => ?_⟩
      · by_cases d : i = x
        · rw [h2 i (by omega), d]; exact if_pos rfl
        · exact h1 i (by omega) b
      · rw [h2 i (by omega)]
        exact if_neg (by omega)
theorem w113 {K : Nat} (hK : K ≤ 6) : ∀ (m x : Nat) (z : Sx), gI z 8 = nI K → x ≤ 3 * K → 3 * K - x < m → ∃ y, lX9_work_113 k m z (nI x) = k y ∧ FrL [24] z y ∧ (∀ j : Nat, x ≤ j → j < 3 * K → gT y 24 (26 + j) = gT z 10 j) ∧ ∀ i : Nat, (i < 26 + x ∨ 26 + 3 * K ≤ i) → gT y 24 i = gT z 24 i := by
  have e3 : (3 * nI K : Int32) = nI (3 * K) := Int32.toInt_inj.1 (by rw [i32_mul (show (3 : Int32).toInt = 3 by decide) (nI_toInt (n := K) (by omega)) (by omega) (by omega), nI_toInt (by omega)]; omega)
  intro m
  induction m with
  | zero => intro x z _ _ hm; omega
  | succ m ih =>
    intro x z h8 hx hm
    have e26 : (26 : Int32) + nI x = nI (26 + x) := nI_add 26 x
    rw [lX9_work_113, h8, e3]
    by_cases c : x = 3 * K
    · rw [if_pos (nI_le (by omega) (by omega))]
      exact ⟨z, rfl, fr_rf, fun i h1 h2 => by omega, fun _ _ => rfl⟩
    · rw [if_neg (nI_ge (by omega) (by omega)), e26, gd_pos (in_n (by omega) (by omega)), gd_pos (in_n (by omega) (by omega)), nI_clamp (by omega), nI_clamp (by omega), nI_1]
      obtain ⟨y, e, f, h1, h2⟩ := ih (x + 1) (sT z 24 (26 + x) (gT z 10 x)) h8 (by omega) (by omega)
      refine ⟨y, e, fr_tr (fr_T fr_rf (by decide)) f (by decide), fun i a b => ?_, fun i a => ?_⟩
      · by_cases d : i = x
        · rw [h2 (26 + i) (by omega), d]; exact if_pos rfl
        · exact h1 i (by omega) b
      · rw [h2 i (by omega)]
        exact if_neg (by omega)
theorem w156 {g : Nat} (hg : g < 10) : ∀ (m x : Nat) (z : Sx), x ≤ 4 → 4 - x < m → ∃ y, lX9_work_156 k (nI g) m z (nI x) = k y ∧ FrL [24] z y ∧ (∀ j : Nat, x ≤ j → j < 4 → gT y 24 (44 + 6 * g + j) = gT z 11 (4 * g + j)) ∧ ∀ i : Nat, (i < 44 + 6 * g + x ∨ 44 + 6 * g + 4 ≤ i) → gT y 24 i = gT z 24 i := by
  have e4 : (4 * nI g : Int32) = nI (4 * g) := Int32.toInt_inj.1 (by rw [i32_mul (show (4 : Int32).toInt = 4 by decide) (nI_toInt (n := g) (by omega)) (by omega) (by omega), nI_toInt (by omega)]; omega)
  have e6 : (6 * nI g : Int32) = nI (6 * g) := Int32.toInt_inj.1 (by rw [i32_mul (show (6 : Int32).toInt = 6 by decide) (nI_toInt (n := g) (by omega)) (by omega) (by omega), nI_toInt (by omega)]; omega)
  have e44 : (44 : Int32) + nI (6 * g) = nI (44 + 6 * g) := nI_add 44 (6 * g)
  intro m
  induction m with
  | zero => intro x z _ hm; omega
  | succ m ih =>
    intro x z hx hm
    rw [lX9_work_156, e4, e6, e44, nI_add, nI_add]
    by_cases c : x = 4
    · rw [if_pos (show (4 : Int32) ≤ nI x from nI_le (a := 4) (by omega) (by omega))]
      exact ⟨z, rfl, fr_rf, fun i h1 h2 => by omega, fun _ _ => rfl⟩
    · rw [if_neg (show ¬ (4 : Int32) ≤ nI x from nI_ge (b := 4) (by omega) (by decide)), gd_pos (in_n (by omega) (by omega)), gd_pos (in_n (by omega) (by omega)), nI_clamp (by omega), nI_clamp (by omega), nI_1]
      obtain ⟨y, e, f, h1, h2⟩ := ih (x + 1) (sT z 24 (44 + 6 * g + x) (gT z 11 (4 * g + x))) (by omega) (by omega)
      refine ⟨y, e, fr_tr (fr_T fr_rf (by decide)) f (by decide), fun i a b => ?_, fun i a => ?_⟩
      · by_cases d : i = x
        · rw [h2 (44 + 6 * g + i) (by omega), d]; exact if_pos rfl
        · exact h1 i (by omega) b
      · rw [h2 i (by omega)]
        exact if_neg (by omega)
theorem w146 {F : Nat} (hF : F ≤ 10) : ∀ (m x : Nat) (z : Sx), gI z 9 = nI F → x ≤ F → F - x < m → ∃ y, lX9_work_146 k m z (nI x) = k y ∧ FrL [24] z y ∧ (∀ g : Nat, x ≤ g → g < F → (∀ j : Nat, j < 4 → gT y 24 (44 + 6 * g + j) = gT z 11 (4 * g + j)) ∧ gT y 24 (44 + 6 * g + 4) = 0 ∧ gT y 24 (44 + 6 * g + 5) = 0) ∧ ∀ i : Nat, (i < 44 + 6 * x ∨ 44 + 6 * F ≤ i) → gT y 24 i = gT z 24 i := by
  intro m
  induction m with
  | zero => intro x z _ _ hm; omega
  | succ m ih =>
    intro x z h9 hx hm
    have e6 : (6 * nI x : Int32) = nI (6 * x) := Int32.toInt_inj.1 (by rw [i32_mul (show (6 : Int32).toInt = 6 by decide) (nI_toInt (n := x) (by omega)) (by omega) (by omega), nI_toInt (by omega)]; omega)
    have e44 : (44 : Int32) + nI (6 * x) = nI (44 + 6 * x) := nI_add 44 (6 * x)
    have e48 : nI (44 + 6 * x) + 4 = nI (44 + 6 * x + 4) := nI_add (44 + 6 * x) 4
    have e49 : nI (44 + 6 * x) + 5 = nI (44 + 6 * x + 5) := nI_add (44 + 6 * x) 5
    rw [lX9_work_146, h9]
    by_cases c : x = F
    · rw [if_pos (nI_le (by omega) (by omega))]
      exact ⟨z, rfl, fr_rf, fun i h1 h2 => by omega, fun _ _ => rfl⟩
    · rw [if_neg (nI_ge (by omega) (by omega))]
      obtain ⟨y, e, f, h1, h2⟩ := w156 (g := x) (by omega) (k := fun (z21 : Sx) => gd (inb ((44 + (6 * (nI x))) + 4) 104) (gd (inb ((44 + (6 * (nI x))) + 5) 104) (lX9_work_146 k m (sT (sT z21 24 (((44 + (6 * (nI x))) + 4).toNatClampNeg) 0) 24 (((44 + (6 * (nI x))) + 5).toNatClampNeg) 0) (nI x + 1)))) FU 0 z (by omega) (FU_lt (by omega))
      have e : lX9_work_156 (fun (z21 : Sx) => gd (inb ((44 + (6 * (nI x))) + 4) 104) (gd (inb ((44 + (6 * (nI x))) + 5) 104) (lX9_work_146 k m (sT (sT z21 24 (((44 + (6 * (nI x))) + 4).toNatClampNeg) 0) 24 (((44 + (6 * (nI x))) + 5).toNatClampNeg) 0) (nI x + 1)))) (nI x) FU z 0 = _ := e
      rw [e, e6, e44, e48, e49, gd_pos (in_n (by omega) (by omega)), gd_pos (in_n (by omega) (by omega)), nI_clamp (by omega), nI_clamp (by omega), nI_1]
      obtain ⟨v, ev, fv, v1, v2⟩ := ih (x + 1) (sT (sT y 24 (44 + 6 * x + 4) 0) 24 (44 + 6 * x + 5) 0) (show gI y 9 = nI F by rw [(f 9 (by decide)).1]; exact h9) (by omega) (by omega)
      have t11 : gT (sT (sT y 24 (44 + 6 * x + 4) 0) 24 (44 + 6 * x + 5) 0) 11 = gT z 11 := (f 11 (by decide)).2.1
      rw [t11] at v1
      have o1 : ∀ i : Nat, ¬ i = 44 + 6 * x + 4 → ¬ i = 44 + 6 * x + 5 → gT (sT (sT y 24 (44 + 6 * x + 4) 0) 24 (44 + 6 * x + 5) 0) 24 i = gT y 24 i := fun i a b => (show upd (upd (gT y 24) (44 + 6 * x + 4) 0) (44 + 6 * x + 5) 0 i = _ from if_neg b).trans (if_neg a)
      refine ⟨v, ev, fr_tr (fr_T (fr_T (fr_tr fr_rf f (by decide)) (by decide)) (by decide)) fv (by decide), fun g a b => ?_, fun i a => ?_⟩
      · by_cases d : g = x
        · subst d
          refine ⟨fun j hj => ?_, ?_, ?_⟩
          · rw [v2 _ (by omega), o1 _ (by omega) (by omega)]
            exact h1 j (by omega) hj
          · rw [v2 _ (by omega)]
            exact (show upd (upd (gT y 24) (44 + 6 * g + 4) 0) (44 + 6 * g + 5) 0 (44 + 6 * g + 4) = _ from if_neg (by omega)).trans (if_pos rfl)
          · rw [v2 _ (by omega)]
            exact if_pos rfl
        · exact v1 g (by omega) b
      · rw [v2 i (by omega), o1 i (by omega) (by omega)]
        exact h2 i (by omega)
end W4
/-- the table behind a WORK that was taken -/
def WTB (z3 : Sx) (K F : Nat) (T : Nat → Int32) : Prop := T 0 = gI z3 9 ∧ T 1 = gI z3 8 ∧ T 2 = (if 0 ≤ gI z3 7 then gI z3 7 else 60) ∧ T 3 = T 2 ∧ (∀ i : Nat, 4 ≤ i → i < 9 → T i = 0) ∧ (∀ i : Nat, 9 ≤ i → i < 26 → T i = gT z3 24 i) ∧ (∀ j : Nat, j < 3 * K → T (26 + j) = gT z3 10 j) ∧ ∀ g : Nat, g < F → (∀ j : Nat, j < 4 → T (44 + 6 * g + j) = gT z3 11 (4 * g + j)) ∧ T (44 + 6 * g + 4) = 0 ∧ T (44 + 6 * g + 5) = 0
theorem work_T {z9 z3 : Sx} {K F : Nat} (e : fX9_readsAll (sI (sI (sI (sI z9 15 6) 7 (-1)) 8 0) 9 0) = some (1, z3)) (h8 : gI z3 8 = nI K) (hK : K ≤ 6) (h9 : gI z3 9 = nI F) (hF : F ≤ 10) : ∃ y, fX9_work z9 = some (gI z3 9, y) ∧ FrL [24] z3 y ∧ WTB z3 K F (gT y 24) := by
  have tn : (2 : Int32).toNatClampNeg = 2 := by decide
  have go : ∀ (v6 : Int32), ∃ y, gd (inb 2 104) (nm (gT (sT (sT (sT z3 24 0 (gI z3 9)) 24 1 (gI z3 8)) 24 ((2 : Int32).toNatClampNeg) v6) 24 2 : Int32) (fun v9 => lX9_work_92 (fun (z12 : Sx) => lX9_work_113 (fun (z16 : Sx) => lX9_work_146 (fun (z24 : Sx) => some (gI z24 9, z24)) FU z16 0) FU z12 0) FU (sT (sT (sT (sT z3 24 0 (gI z3 9)) 24 1 (gI z3 8)) 24 ((2 : Int32).toNatClampNeg) v6) 24 3 v9) 4)) = some (gI z3 9, y) ∧ FrL [24] z3 y ∧ (gT y 24 0 = gI z3 9 ∧ gT y 24 1 = gI z3 8 ∧ gT y 24 2 = v6 ∧ gT y 24 3 = gT y 24 2 ∧ (∀ i : Nat, 4 ≤ i → i < 9 → gT y 24 i = 0) ∧ (∀ i : Nat, 9 ≤ i → i < 26 → gT y 24 i = gT z3 24 i) ∧ (∀ j : Nat, j < 3 * K → gT y 24 (26 + j) = gT z3 10 j) ∧ ∀ g : Nat, g < F → (∀ j : Nat, j < 4 → gT y 24 (44 + 6 * g + j) = gT z3 11 (4 * g + j)) ∧ gT y 24 (44 + 6 * g + 4) = 0 ∧ gT y 24 (44 + 6 * g + 5) = 0) := by
    intro v6
    rw [gd_pos (show inb 2 104 by decide), tn]
    obtain ⟨zb, hzb⟩ : ∃ zb, zb = sT (sT (sT (sT z3 24 0 (gI z3 9)) 24 1 (gI z3 8)) 24 2 v6) 24 3 (gT (sT (sT (sT z3 24 0 (gI z3 9)) 24 1 (gI z3 8)) 24 2 v6) 24 2) := ⟨_, rfl⟩
    have fb : FrL [24] z3 zb := by rw [hzb]; exact fr_T (fr_T (fr_T (fr_T fr_rf (by decide)) (by decide)) (by decide)) (by decide)
    have tb : ∀ i : Nat, gT zb 24 i = if i = 3 then v6 else if i = 2 then v6 else if i = 1 then gI z3 8 else if i = 0 then gI z3 9 else gT z3 24 i := fun i => by
      rw [hzb]
      have e2 : gT (sT (sT (sT z3 24 0 (gI z3 9)) 24 1 (gI z3 8)) 24 2 v6) 24 2 = v6 := (show upd (gT (sT (sT z3 24 0 (gI z3 9)) 24 1 (gI z3 8)) 24) 2 v6 2 = v6 from if_pos rfl)
      rw [e2]
      rfl
    show ∃ y, lX9_work_92 (fun (z12 : Sx) => lX9_work_113 (fun (z16 : Sx) => lX9_work_146 (fun (z24 : Sx) => some (gI z24 9, z24)) FU z16 0) FU z12 0) FU (sT (sT (sT (sT z3 24 0 (gI z3 9)) 24 1 (gI z3 8)) 24 2 v6) 24 3 (gT (sT (sT (sT z3 24 0 (gI z3 9)) 24 1 (gI z3 8)) 24 2 v6) 24 2)) 4 = some (gI z3 9, y) ∧ _
    rw [← hzb]
    obtain ⟨y1, a1, f1, b1, c1⟩ := w92 (k := fun (z12 : Sx) => lX9_work_113 (fun (z16 : Sx) => lX9_work_146 (fun (z24 : Sx) => some (gI z24 9, z24)) FU z16 0) FU z12 0) FU 4 zb (by omega) (FU_lt (by omega))
    have g1 : FrL [24] z3 y1 := fr_tr fb f1 (by decide)
    obtain ⟨y2, a2, f2, b2, c2⟩ := w113 (k := fun (z16 : Sx) => lX9_work_146 (fun (z24 : Sx) => some (gI z24 9, z24)) FU z16 0) hK FU 0 y1 (by rw [(g1 8 (by decide)).1]; exact h8) (by omega) (FU_lt (by omega))
    have g2 : FrL [24] z3 y2 := fr_tr g1 f2 (by decide)
    obtain ⟨y3, a3, f3, b3, c3⟩ := w146 (k := fun (z24 : Sx) => some (gI z24 9, z24)) hF FU 0 y2 (by rw [(g2 9 (by decide)).1]; exact h9) (by omega) (FU_lt (by omega))
    have g3 : FrL [24] z3 y3 := fr_tr g2 f3 (by decide)
    have t10 : gT y1 10 = gT z3 10 := (g1 10 (by decide)).2.1
    have t11 : gT y2 11 = gT z3 11 := (g2 11 (by decide)).2.1
    rw [t10] at b2
    rw [t11] at b3
    have lo : ∀ i : Nat, i < 26 → gT y3 24 i = gT y1 24 i := fun i hi => (c3 i (by omega)).trans (c2 i (by omega))
    refine ⟨y3, (a1.trans (a2.trans a3)).trans (by rw [(g3 9 (by decide)).1]), g3, ?_, ?_, ?_, ?_, fun i p q => ?_, fun i p q => ?_, fun j hj => ?_, fun g hg => b3 g (by omega) hg⟩
    · rw [lo 0 (by omega), c1 0 (by omega), tb]; rfl
    · rw [lo 1 (by omega), c1 1 (by omega), tb]; rfl
    · rw [lo 2 (by omega), c1 2 (by omega), tb]; rfl
    · rw [lo 3 (by omega), c1 3 (by omega), tb, lo 2 (by omega), c1 2 (by omega), tb]; rfl
    · rw [lo i (by omega)]; exact b1 i p q
    · rw [lo i (by omega), c1 i (by omega), tb, if_neg (by omega), if_neg (by omega), if_neg (by omega), if_neg (by omega)]
    · rw [c3 (26 + j) (by omega)]; exact b2 j (by omega) hj
  unfold fX9_work
  rw [bd2_eq e, if_neg one0]
  simp only [jn]
  by_cases c : 0 ≤ gI z3 7
  · obtain ⟨y, e1, e2, e3⟩ := go (gI z3 7)
    refine ⟨y, by rw [if_pos c]; exact e1, e2, ?_⟩
    unfold WTB
    rw [if_pos c]
    exact e3
  · obtain ⟨y, e1, e2, e3⟩ := go 60
    refine ⟨y, by rw [if_neg c]; exact e1, e2, ?_⟩
    unfold WTB
    rw [if_neg c]
    exact e3

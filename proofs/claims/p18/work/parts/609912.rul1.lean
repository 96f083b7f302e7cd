/-! A RULE's codes, on both sides. -/
def opc : List (Int32 × Int32) := [(-43, 2), (-45, 3), (-42, 4), (-47, 5), (-60, 6), (-256, 7), (-61, 8), (-257, 9), (-62, 10), (-311, 11), (-310, 12), (-309, 13)]
def CM (c s : Int32) : Prop := (0 ≤ c.toInt ∧ c.toInt ≤ 99999 ∧ s = 0 + 16 * c) ∨ (∃ w : Nat, w < 9 ∧ c = -nI (312 + w) ∧ s = 1 + 16 * nI w) ∨ ∃ v ∈ opc, c = v.1 ∧ s = v.2 + 16 * 0
def EM (z4 z9 : Sx) (t l : Nat) : Prop := gI z4 2 = nI l ∧ gI z9 15 = nI t ∧ t < 6 ∧ gT z9 4 t = nI l ∧ l ≤ 400 ∧ ∀ i : Nat, i < l → CM (gT z4 1 i) (gT z9 3 (400 * t + i))
theorem emit_both {z4 z9 : Sx} {t l : Nat} {c x1 x2 : Int32} (h : EM z4 z9 t l) (hl : l < 400) (hc : CM c (x1 + (16 * x2))) : ∃ w4 w9, fX4_emit z4 c = some w4 ∧ fX9_puts z9 x1 x2 = some w9 ∧ EM w4 w9 t (l + 1) ∧ FrL [1, 2] z4 w4 ∧ FrL [3, 4] z9 w9 := by
  obtain ⟨h2, h15, ht, h4, h400, hi⟩ := h
  have tl : (nI l).toNatClampNeg = l := nI_clamp (by omega)
  have tt : (nI t).toNatClampNeg = t := nI_clamp (by omega)
  have e0 : (400 * nI t : Int32).toInt = 400 * (t : Int) := by rw [i32_mul (show (400 : Int32).toInt = 400 by decide) (nI_toInt (n := t) (by omega)) (by omega) (by omega)]
  have e1 : (400 * nI t : Int32) = nI (400 * t) := Int32.toInt_inj.1 (by rw [e0, nI_toInt (by omega)]; omega)
  have e2 : (400 * nI t : Int32) + nI l = nI (400 * t + l) := by rw [e1, nI_add]
  refine ⟨sI (sT z4 1 l c) 2 (nI (l + 1)), sT (sT z9 3 (400 * t + l) (x1 + (16 * x2))) 4 t (nI (l + 1)), ?_, ?_, ⟨rfl, h15, ht, if_pos rfl, by omega, fun i hi2 => ?_⟩, fr_I (fr_T fr_rf (by decide)) (by decide), fr_T (fr_T fr_rf (by decide)) (by decide)⟩
  · unfold fX4_emit
    rw [h2, if_neg (nI_pos (by omega)), if_neg (show ¬ (400 : Int32) ≤ nI l from nI_ge (b := 400) hl (by decide)), gd_pos ⟨nI_pos (by omega), by rw [tl]; exact hl⟩, tl, nI_1]
  · unfold fX9_puts
    rw [h15]
    simp only [tt, h4, e2]
    rw [gd_pos ⟨nI_pos (by omega), by rw [tt]; omega⟩, gd_pos ⟨nI_pos (by omega), by rw [nI_clamp (by omega)]; omega⟩, nI_clamp (by omega)]
    show some (sT (sT z9 3 (400 * t + l) (x1 + (16 * x2))) 4 t (gT (sT z9 3 (400 * t + l) (x1 + (16 * x2))) 4 t + 1)) = _
    rw [show gT (sT z9 3 (400 * t + l) (x1 + (16 * x2))) 4 t = nI l from h4, nI_1]
  · show CM (upd (gT z4 1) l c i) (upd (gT z9 3) (400 * t + l) (x1 + (16 * x2)) (400 * t + i))
    by_cases q : i = l
    · subst q
      rw [show upd (gT z4 1) i c i = c from if_pos rfl, show upd (gT z9 3) (400 * t + i) (x1 + (16 * x2)) (400 * t + i) = x1 + (16 * x2) from if_pos rfl]
      exact hc
    · rw [show upd (gT z4 1) l c i = gT z4 1 i from if_neg q, show upd (gT z9 3) (400 * t + l) (x1 + (16 * x2)) (400 * t + i) = gT z9 3 (400 * t + i) from if_neg (by omega)]
      exact hi i (by omega)
theorem em_9 {z4 z9 w9 : Sx} {t l : Nat} {L : List Nat} (h : EM z4 z9 t l) (hf : FrL L z9 w9) (hL : (L.contains 3 || L.contains 4 || L.contains 15) = false) : EM z4 w9 t l := by
  simp only [Bool.or_eq_false_iff] at hL
  unfold EM
  rw [(hf 15 hL.2).1, (hf 4 hL.1.2).2.1, (hf 3 hL.1.1).2.1]
  exact h
theorem em_4 {z4 w4 z9 : Sx} {t l : Nat} {L : List Nat} (h : EM z4 z9 t l) (hf : FrL L z4 w4) (hL : (L.contains 1 || L.contains 2) = false) : EM w4 z9 t l := by
  simp only [Bool.or_eq_false_iff] at hL
  unfold EM
  rw [(hf 2 hL.2).1, (hf 1 hL.1).2.1]
  exact h
section WH
variable {f : Nat → Int32} {N q : Nat} {z : Sx}

theorem wh_yes {w : Nat} (h8 : 8 ≤ w) (hw : w < 17) (h : T9 f N z q) (hq : rnP isB f N q = q) (hd : WD f N q w) : fX9_wordHere z = some (nI (w - 8), z) := by
  have ne : ∀ v : Nat, v < 17 → ¬ v = w → ¬ WD f N q v := fun v hv hn k => hn (sp_one hv hw k hd)
  have no : ∀ v : Nat, v < 17 → ¬ v = w → fX9_isWord z (wcst.getD v 0) = some (0, z) := fun v hv hn => isw_no hv h hq (ne v hv hn)
  have ye : fX9_isWord z (wcst.getD w 0) = some (1, z) := isw_yes hw h hq hd
  unfold fX9_wordHere
  rcases (show w = 8 ∨ w = 9 ∨ w = 10 ∨ w = 11 ∨ w = 12 ∨ w = 13 ∨ w = 14 ∨ w = 15 ∨ w = 16 by omega) with rfl | rfl | rfl | rfl | rfl | rfl | rfl | rfl | rfl
  · have y8 : fX9_isWord z 439721749620 = some (1, z) := ye
    rw [bd2_eq y8, if_neg one0]
    rfl
  · have n8 : fX9_isWord z 439721749620 = some (0, z) := no 8 (by decide) (by decide)
    have y9 : fX9_isWord z 1802071652 = some (1, z) := ye
    rw [bd2_eq n8, if_pos rfl, bd2_eq y9, if_neg one0]
    rfl
  · have n8 : fX9_isWord z 439721749620 = some (0, z) := no 8 (by decide) (by decide)
    have n9 : fX9_isWord z 1802071652 = some (0, z) := no 9 (by decide) (by decide)
    have y10 : fX9_isWord z 7364985 = some (1, z) := ye
    rw [bd2_eq n8, if_pos rfl, bd2_eq n9, if_pos rfl, bd2_eq y10, if_neg one0]
    rfl
  · have n8 : fX9_isWord z 439721749620 = some (0, z) := no 8 (by decide) (by decide)
    have n9 : fX9_isWord z 1802071652 = some (0, z) := no 9 (by decide) (by decide)
    have n10 : fX9_isWord z 7364985 = some (0, z) := no 10 (by decide) (by decide)
    have y11 : fX9_isWord z 1868850291 = some (1, z) := ye
    rw [bd2_eq n8, if_pos rfl, bd2_eq n9, if_pos rfl, bd2_eq n10, if_pos rfl, bd2_eq y11, if_neg one0]
    rfl
  · have n8 : fX9_isWord z 439721749620 = some (0, z) := no 8 (by decide) (by decide)
    have n9 : fX9_isWord z 1802071652 = some (0, z) := no 9 (by decide) (by decide)
    have n10 : fX9_isWord z 7364985 = some (0, z) := no 10 (by decide) (by decide)
    have n11 : fX9_isWord z 1868850291 = some (0, z) := no 11 (by decide) (by decide)
    have y12 : fX9_isWord z 30796695599342963 = some (1, z) := ye
    rw [bd2_eq n8, if_pos rfl, bd2_eq n9, if_pos rfl, bd2_eq n10, if_pos rfl, bd2_eq n11, if_pos rfl, bd2_eq y12, if_neg one0]
    rfl
  · have n8 : fX9_isWord z 439721749620 = some (0, z) := no 8 (by decide) (by decide)
    have n9 : fX9_isWord z 1802071652 = some (0, z) := no 9 (by decide) (by decide)
    have n10 : fX9_isWord z 7364985 = some (0, z) := no 10 (by decide) (by decide)
    have n11 : fX9_isWord z 1868850291 = some (0, z) := no 11 (by decide) (by decide)
    have n12 : fX9_isWord z 30796695599342963 = some (0, z) := no 12 (by decide) (by decide)
    have y13 : fX9_isWord z 1818584692 = some (1, z) := ye
    rw [bd2_eq n8, if_pos rfl, bd2_eq n9, if_pos rfl, bd2_eq n10, if_pos rfl, bd2_eq n11, if_pos rfl, bd2_eq n12, if_pos rfl, bd2_eq y13, if_neg one0]
    rfl
  · have n8 : fX9_isWord z 439721749620 = some (0, z) := no 8 (by decide) (by decide)
    have n9 : fX9_isWord z 1802071652 = some (0, z) := no 9 (by decide) (by decide)
    have n10 : fX9_isWord z 7364985 = some (0, z) := no 10 (by decide) (by decide)
    have n11 : fX9_isWord z 1868850291 = some (0, z) := no 11 (by decide) (by decide)
    have n12 : fX9_isWord z 30796695599342963 = some (0, z) := no 12 (by decide) (by decide)
    have n13 : fX9_isWord z 1818584692 = some (0, z) := no 13 (by decide) (by decide)
    have y14 : fX9_isWord z 439956631140 = some (1, z) := ye
    rw [bd2_eq n8, if_pos rfl, bd2_eq n9, if_pos rfl, bd2_eq n10, if_pos rfl, bd2_eq n11, if_pos rfl, bd2_eq n12, if_pos rfl, bd2_eq n13, if_pos rfl, bd2_eq y14, if_neg one0]
    rfl
  · have n8 : fX9_isWord z 439721749620 = some (0, z) := no 8 (by decide) (by decide)
    have n9 : fX9_isWord z 1802071652 = some (0, z) := no 9 (by decide) (by decide)
    have n10 : fX9_isWord z 7364985 = some (0, z) := no 10 (by decide) (by decide)
    have n11 : fX9_isWord z 1868850291 = some (0, z) := no 11 (by decide) (by decide)
    have n12 : fX9_isWord z 30796695599342963 = some (0, z) := no 12 (by decide) (by decide)
    have n13 : fX9_isWord z 1818584692 = some (0, z) := no 13 (by decide) (by decide)
    have n14 : fX9_isWord z 439956631140 = some (0, z) := no 14 (by decide) (by decide)
    have y15 : fX9_isWord z 500135716211 = some (1, z) := ye
    rw [bd2_eq n8, if_pos rfl, bd2_eq n9, if_pos rfl, bd2_eq n10, if_pos rfl, bd2_eq n11, if_pos rfl, bd2_eq n12, if_pos rfl, bd2_eq n13, if_pos rfl, bd2_eq n14, if_pos rfl, bd2_eq y15, if_neg one0]
    rfl
  · have n8 : fX9_isWord z 439721749620 = some (0, z) := no 8 (by decide) (by decide)
    have n9 : fX9_isWord z 1802071652 = some (0, z) := no 9 (by decide) (by decide)
    have n10 : fX9_isWord z 7364985 = some (0, z) := no 10 (by decide) (by decide)
    have n11 : fX9_isWord z 1868850291 = some (0, z) := no 11 (by decide) (by decide)
    have n12 : fX9_isWord z 30796695599342963 = some (0, z) := no 12 (by decide) (by decide)
    have n13 : fX9_isWord z 1818584692 = some (0, z) := no 13 (by decide) (by decide)
    have n14 : fX9_isWord z 439956631140 = some (0, z) := no 14 (by decide) (by decide)
    have n15 : fX9_isWord z 500135716211 = some (0, z) := no 15 (by decide) (by decide)
    have y16 : fX9_isWord z 111469206070628 = some (1, z) := ye
    rw [bd2_eq n8, if_pos rfl, bd2_eq n9, if_pos rfl, bd2_eq n10, if_pos rfl, bd2_eq n11, if_pos rfl, bd2_eq n12, if_pos rfl, bd2_eq n13, if_pos rfl, bd2_eq n14, if_pos rfl, bd2_eq n15, if_pos rfl, bd2_eq y16, if_neg one0]
    rfl
theorem wh_no (h : T9 f N z q) (hq : rnP isB f N q = q) (hd : ∀ w : Nat, 8 ≤ w → w < 17 → ¬ WD f N q w) : fX9_wordHere z = some (-1, z) := by
  unfold fX9_wordHere
  have n8 : fX9_isWord z 439721749620 = some (0, z) := isw_no (w := 8) (by decide) h hq (hd 8 (by decide) (by decide))
  have n9 : fX9_isWord z 1802071652 = some (0, z) := isw_no (w := 9) (by decide) h hq (hd 9 (by decide) (by decide))
  have n10 : fX9_isWord z 7364985 = some (0, z) := isw_no (w := 10) (by decide) h hq (hd 10 (by decide) (by decide))
  have n11 : fX9_isWord z 1868850291 = some (0, z) := isw_no (w := 11) (by decide) h hq (hd 11 (by decide) (by decide))
  have n12 : fX9_isWord z 30796695599342963 = some (0, z) := isw_no (w := 12) (by decide) h hq (hd 12 (by decide) (by decide))
  have n13 : fX9_isWord z 1818584692 = some (0, z) := isw_no (w := 13) (by decide) h hq (hd 13 (by decide) (by decide))
  have n14 : fX9_isWord z 439956631140 = some (0, z) := isw_no (w := 14) (by decide) h hq (hd 14 (by decide) (by decide))
  have n15 : fX9_isWord z 500135716211 = some (0, z) := isw_no (w := 15) (by decide) h hq (hd 15 (by decide) (by decide))
  have n16 : fX9_isWord z 111469206070628 = some (0, z) := isw_no (w := 16) (by decide) h hq (hd 16 (by decide) (by decide))
  rw [bd2_eq n8, if_pos rfl, bd2_eq n9, if_pos rfl, bd2_eq n10, if_pos rfl, bd2_eq n11, if_pos rfl, bd2_eq n12, if_pos rfl, bd2_eq n13, if_pos rfl, bd2_eq n14, if_pos rfl, bd2_eq n15, if_pos rfl, bd2_eq n16, if_pos rfl]
end WH

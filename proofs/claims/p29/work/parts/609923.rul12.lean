/-! A clause of a RULE, on both sides. -/
section CLS
variable {z4 z6 z9 : Sx} {i12 : Int32}
def CJ15 (z16 z17 : Sx) : Option (Sx × Sx) := bd (fX8_put 12 (gT z16 7) (gI z16 4) (gI z16 2)) (fun z19 => some (sI (sTf z16 7 z19) 4 ((gI z16 4) + 1), z17))
def CJ9 (z10 z11 : Sx) (i12 : Int32) : Option (Sx × Sx) := bd (fX8_put 12 (gT z10 6) (gI z10 4) (gI z10 2)) (fun z14 => if i12 = 0 then CJ15 (sTf z10 6 z14) z11 else bd2 (fX4_readTest (fX4_readFact 16) (sTf z10 6 z14) z11 0) (fun z22 z23 => CJ15 z22 z23))
theorem cc_no (h1 : ¬ gI z6 5 = 306) (h2 : ¬ gI z6 5 = 308) : fX4_readClause z4 z6 = bd (fX6_fail z6 0) (fun z38 => some (z4, z38)) := by
  unfold fX4_readClause
  simp only [jn, if_neg h1, if_neg h2]
theorem cc_full (h1 : gI z6 5 = 306 ∨ gI z6 5 = 308) (h : ¬ gI z4 4 < 12) : fX4_readClause z4 z6 = bd (fX6_fail z6 4) (fun z34 => some (z4, z34)) := by
  unfold fX4_readClause
  simp only [jn]
  by_cases k : gI z6 5 = 306
  · rw [if_pos k, if_neg h]
  · rw [if_neg k, if_pos (h1.resolve_left k), if_neg h]
theorem cc_look (h1 : gI z6 5 = 306) (h : gI z4 4 < 12) : fX4_readClause z4 z6 = bd (fX6_step z6) (fun z5 => bd (fX8_put 12 (gT z4 5) (gI z4 4) (gI z4 2)) (fun z7 => bd2 (fX4_readSum (sTf z4 5 z7) z5) (fun z26 z27 => if (gI z27 8) = 0 then if (gI z27 5) = 307 then bd (fX6_step z27) (fun z31 => CJ9 z26 z31 1) else CJ9 z26 z27 0 else CJ9 z26 z27 0))) := by
  have h2 : ¬ gI z6 5 = 308 := by rw [h1]; decide
  unfold fX4_readClause
  simp only [jn, if_pos h1, if_pos h, if_neg h2]
  rfl
theorem cc_stop (h1 : gI z6 5 = 308) (h : gI z4 4 < 12) : fX4_readClause z4 z6 = bd (fX6_step z6) (fun z5 => bd (fX8_put 12 (gT z4 5) (gI z4 4) (gI z4 2)) (fun z7 => CJ9 (sTf z4 5 z7) z5 1)) := by
  have h2 : ¬ gI z6 5 = 306 := by rw [h1]; decide
  unfold fX4_readClause
  simp only [jn, if_neg h2, if_pos h, if_pos h1]
  rfl
theorem cj15_tot : ∃ w4, CJ15 z4 z6 = some (w4, z6) ∧ gI w4 4 = gI z4 4 + 1 ∧ FrL [4, 7] z4 w4 := by
  unfold CJ15
  obtain ⟨g, e⟩ := put_tot (n := 12) (f := gT z4 7) (x := gI z4 4) (v := gI z4 2)
  rw [bd_eq e]
  exact ⟨_, rfl, rfl, fr_I (fr_Tf fr_rf (by decide)) (by decide)⟩
theorem cj9_0 : ∃ w4, CJ9 z4 z6 0 = some (w4, z6) ∧ gI w4 4 = gI z4 4 + 1 ∧ FrL [4, 6, 7] z4 w4 := by
  unfold CJ9
  obtain ⟨g, e⟩ := put_tot (n := 12) (f := gT z4 6) (x := gI z4 4) (v := gI z4 2)
  rw [bd_eq e, if_pos rfl]
  obtain ⟨w4, a1, a2, a3⟩ := cj15_tot (z4 := sTf z4 6 g) (z6 := z6)
  exact ⟨w4, a1, a2, fr_tr (fr_Tf fr_rf (by decide)) a3 (by decide)⟩
def QJ9 (v4 : Int32) (z10 : Sx) : Option (Int32 × Sx) := gd (inb (gI z10 15) 7) (gd (inb (v4 + 4) 360) (gd (inb (gI z10 15) 6) (nm ((gT (sT z10 5 ((v4 + 4).toNatClampNeg) (gT z10 4 ((gI z10 15).toNatClampNeg))) 6 ((gI z10 15).toNatClampNeg)) + 1 : Int32) (fun v14 => some (1, sT (sT z10 5 ((v4 + 4).toNatClampNeg) (gT z10 4 ((gI z10 15).toNatClampNeg))) 6 ((gI z10 15).toNatClampNeg) v14)))))
def QJ15 (v4 : Int32) (z16 : Sx) : Option (Int32 × Sx) := gd (inb (gI z16 15) 7) (bd2 (fX9_tested (sT z16 5 ((v4 + 3).toNatClampNeg) (gT z16 4 ((gI z16 15).toNatClampNeg)))) (fun r19 z20 => if r19 = 0 then some (0, z20) else QJ9 v4 z20))
def QJ7 (x1 v4 : Int32) (z8 : Sx) : Option (Int32 × Sx) := if x1 = 1 then QJ15 v4 z8 else bd2 (fX9_takesWord z8 26982) (fun r24 z25 => if r24 = 0 then QJ9 v4 z25 else QJ15 v4 z25)
def RD (x1 v4 : Int32) (z2 : Sx) : Option (Int32 × Sx) := if x1 = 0 then gd (inb (gI z2 15) 7) (nm (gT (sT (sT z2 5 v4.toNatClampNeg x1) 5 ((v4 + 3).toNatClampNeg) (-1)) 4 ((gI z2 15).toNatClampNeg) : Int32) (fun v29 => gd (inb (v4 + 1) 360) (bd2 (fX9_sum (sT (sT (sT z2 5 v4.toNatClampNeg x1) 5 ((v4 + 3).toNatClampNeg) (-1)) 5 ((v4 + 1).toNatClampNeg) v29)) (fun r32 z33 => if r32 = 0 then some (0, z33) else gd (inb (gI z33 15) 7) (gd (inb (v4 + 2) 360) (QJ7 x1 v4 (sT z33 5 ((v4 + 2).toNatClampNeg) (gT z33 4 ((gI z33 15).toNatClampNeg))))))))) else QJ7 x1 v4 (sT (sT z2 5 v4.toNatClampNeg x1) 5 ((v4 + 3).toNatClampNeg) (-1))
end CLS
section CLB
variable {f : Nat → Int32} {N t l p c : Nat} {z4 z6 z9 : Sx}
theorem rs_f4 {w4 : Sx} {L : List Nat} (h : RS f N z4 z6 z9 t l p) (hf : FrL L z4 w4) (hL : (L.contains 1 || L.contains 2 || L.contains 3) = false) : RS f N w4 z6 z9 t l p := by
  obtain ⟨hA, h8, h9, h13, hE, h3, hm⟩ := h
  obtain ⟨q1, q2⟩ := Bool.or_eq_false_iff.1 hL
  exact ⟨hA, h8, h9, h13, em_4 hE hf q1, (hf 3 q2).1.trans h3, hm⟩
/-- both stand before a clause -/
def CB (f : Nat → Int32) (N : Nat) (z4 z6 z9 : Sx) (t l p c : Nat) : Prop := RS f N z4 z6 z9 t l p ∧ l ≤ p ∧ gI z4 4 = nI c ∧ gT z9 6 t = nI c ∧ gI z9 18 = nI c ∧ c ≤ 12
/-- both stand in one -/
def MB (f : Nat → Int32) (N : Nat) (z4 z6 z9 : Sx) (t l p c : Nat) : Prop := RS f N z4 z6 z9 t l p ∧ l ≤ p ∧ gI z4 4 = nI c ∧ gT z9 6 t = nI c ∧ gI z9 18 = nI (c + 1) ∧ c < 12
def COK (f : Nat → Int32) (N : Nat) (A : Option (Sx × Sx)) (B : Option (Int32 × Sx)) (t p c : Nat) : Prop := ∃ (w4 w6 w9 : Sx) (p1 l1 : Nat), A = some (w4, w6) ∧ B = some (1, w9) ∧ CB f N w4 w6 w9 t l1 p1 (c + 1) ∧ p ≤ p1
theorem cok_p {A : Option (Sx × Sx)} {B : Option (Int32 × Sx)} {p0 : Nat} (h : COK f N A B t p c) (hp : p0 ≤ p) : COK f N A B t p0 c := by
  obtain ⟨w4, w6, w9, p1, l1, a, b, d, e⟩ := h
  exact ⟨w4, w6, w9, p1, l1, a, b, d, by omega⟩
theorem mb_9 {w9 : Sx} {L : List Nat} (h : MB f N z4 z6 z9 t l p c) (hf : FrL L z9 w9) (hL : (L.contains 0 || L.contains 1 || L.contains 12 || (L.contains 13 || L.contains 16) || (L.contains 3 || L.contains 4 || L.contains 15)) = false) (h6 : (L.contains 6 || L.contains 18) = false) : MB f N z4 z6 w9 t l p c := by
  obtain ⟨h1, h2, h3, h4, h5, h7⟩ := h
  obtain ⟨q1, q2⟩ := Bool.or_eq_false_iff.1 h6
  exact ⟨rs_fr h1 hf hL, h2, h3, by rw [(hf 6 q1).2.1]; exact h4, (hf 18 q2).1.trans h5, h7⟩
theorem mb_4 {w4 : Sx} {L : List Nat} (h : MB f N z4 z6 z9 t l p c) (hf : FrL L z4 w4) (hL : (L.contains 1 || L.contains 2 || L.contains 3) = false) (h4 : L.contains 4 = false) : MB f N w4 z6 z9 t l p c := by
  obtain ⟨h1, h2, h3, h5, h6, h7⟩ := h
  exact ⟨rs_f4 h1 hf hL, h2, (hf 4 h4).1.trans h3, h5, h6, h7⟩
theorem mb_15 (h : MB f N z4 z6 z9 t l p c) : gI z9 15 = nI t ∧ t < 6 ∧ c < 12 ∧ gT z9 6 t = nI c := ⟨h.1.2.2.2.2.1.2.1, h.1.2.2.2.2.1.2.2.1, h.2.2.2.2.2, h.2.2.2.1⟩
theorem in_n {a b : Nat} (h : a < b) (hb : a < 2147483648) : inb (nI a) b := ⟨nI_pos hb, by rw [nI_clamp hb]; exact h⟩
theorem dh_eq {x1 : Int32} {z2 : Sx} (e : fX9_passWord z9 = some z2) (h15 : gI z2 15 = nI t) (ht : t < 6) (h6 : gT z2 6 t = nI c) (hc : c < 12) : fX9_isDoingHere z9 x1 = RD x1 (nI (60 * t + 5 * c)) z2 := by
  have e60 : (60 * nI t : Int32) = nI (60 * t) := Int32.toInt_inj.1 (by rw [i32_mul (show (60 : Int32).toInt = 60 by decide) (nI_toInt (n := t) (by omega)) (by omega) (by omega), nI_toInt (by omega)]; omega)
  have e5 : (5 * nI c : Int32) = nI (5 * c) := Int32.toInt_inj.1 (by rw [i32_mul (show (5 : Int32).toInt = 5 by decide) (nI_toInt (n := c) (by omega)) (by omega) (by omega), nI_toInt (by omega)]; omega)
  have e3 : nI (60 * t + 5 * c) + 3 = nI (60 * t + 5 * c + 3) := nI_add (60 * t + 5 * c) 3
  have key : ∀ v : Int32, v = nI (60 * t + 5 * c) → gd (inb v 360) (gd (inb (v + 3) 360) (RD x1 v z2)) = RD x1 (nI (60 * t + 5 * c)) z2 := by
    intro v hv
    rw [hv, gd_pos (in_n (by omega) (by omega)), gd_pos (show inb (nI (60 * t + 5 * c) + 3) 360 by rw [e3]; exact in_n (by omega) (by omega))]
  unfold fX9_isDoingHere
  rw [bd_eq e]
  refine Eq.trans (show _ = gd (inb (gI z2 15) 6) (gd (inb ((60 * (gI z2 15)) + (5 * (gT z2 6 ((gI z2 15).toNatClampNeg)))) 360) (gd (inb (((60 * (gI z2 15)) + (5 * (gT z2 6 ((gI z2 15).toNatClampNeg)))) + 3) 360) (RD x1 ((60 * (gI z2 15)) + (5 * (gT z2 6 ((gI z2 15).toNatClampNeg)))) z2))) from rfl) ?_
  rw [gd_pos (show inb (gI z2 15) 6 by rw [h15]; exact in_n ht (by omega))]
  refine key _ ?_
  rw [h15, nI_clamp (by omega), h6, e60, e5, nI_add]
theorem rj9_ok (h : MB f N z4 z6 z9 t l p c) : ∃ w9, QJ9 (nI (60 * t + 5 * c)) z9 = some (1, w9) ∧ gT w9 6 t = nI (c + 1) ∧ FrL [5, 6] z9 w9 := by
  obtain ⟨h15, ht, hc, h6⟩ := mb_15 h
  have e4 : nI (60 * t + 5 * c) + 4 = nI (60 * t + 5 * c + 4) := nI_add (60 * t + 5 * c) 4
  unfold QJ9
  rw [h15, e4, gd_pos (in_n (by omega) (by omega)), gd_pos (in_n (by omega) (by omega)), gd_pos (in_n ht (by omega)), nI_clamp (by omega), nI_clamp (by omega)]
  refine ⟨_, rfl, ?_, fr_T (fr_T fr_rf (by decide)) (by decide)⟩
  refine (show upd (gT (sT z9 5 (60 * t + 5 * c + 4) (gT z9 4 t)) 6) t (gT (sT z9 5 (60 * t + 5 * c + 4) (gT z9 4 t)) 6 t + 1) t = gT z9 6 t + 1 from if_pos rfl).trans ?_
  rw [h6, nI_1]
theorem end_part (h : MB f N z4 z6 z9 t l p c) : COK f N (CJ9 z4 z6 0) (QJ9 (nI (60 * t + 5 * c)) z9) t p c := by
  obtain ⟨w4, a1, a2, a3⟩ := cj9_0 (z4 := z4) (z6 := z6)
  obtain ⟨w9, b1, b2, b3⟩ := rj9_ok h
  obtain ⟨h1, h2, h3, h4, h5, h7⟩ := h
  exact ⟨w4, z6, w9, p, l, a1, b1, ⟨rs_fr (rs_f4 h1 a3 (by decide)) b3 (by decide), h2, by rw [a2, h3, nI_1], b2, (b3 18 (by decide)).1.trans h5, by omega⟩, Nat.le_refl _⟩
theorem test_part (h : MB f N z4 z6 z9 t l p c) : COK f N (CJ9 z4 z6 1) (QJ15 (nI (60 * t + 5 * c)) z9) t p c ∨ BDD (CJ9 z4 z6 1) (QJ15 (nI (60 * t + 5 * c)) z9) := by
  obtain ⟨h15, ht, hc, h6⟩ := mb_15 h
  obtain ⟨g, e⟩ := put_tot (n := 12) (f := gT z4 6) (x := gI z4 4) (v := gI z4 2)
  have e3 : nI (60 * t + 5 * c) + 3 = nI (60 * t + 5 * c + 3) := nI_add (60 * t + 5 * c) 3
  have h2 : MB f N (sTf z4 6 g) z6 (sT z9 5 (60 * t + 5 * c + 3) (gT z9 4 t)) t l p c := mb_9 (L := [5]) (mb_4 (L := [6]) h (fr_Tf fr_rf (by decide)) (by decide) (by decide)) (fr_T fr_rf (by decide)) (by decide) (by decide)
  unfold CJ9 QJ15
  rw [bd_eq e, if_neg one0, h15, e3, gd_pos (in_n (by omega) (by omega)), nI_clamp (by omega), nI_clamp (by omega)]
  rcases tested_both h2.1 h2.2.1 with ⟨w4, w6, w9, p1, l1, a1, a2, a3, a4, a5, a6, a7, a8⟩ | ⟨w4, w6, w9, a1, a2, a3, a4⟩
  · left
    have h3 : MB f N w4 w6 w9 t l1 p1 c := ⟨a3, a6, (a7 4 (by decide)).1.trans h2.2.2.1, by rw [(a8 6 (by decide)).2.1]; exact h2.2.2.2.1, (a8 18 (by decide)).1.trans h2.2.2.2.2.1, hc⟩
    rw [bd2_eq a1, bd2_eq a2, if_neg one0]
    obtain ⟨x4, b1, b2, b3⟩ := cj15_tot (z4 := w4) (z6 := w6)
    obtain ⟨x9, d1, d2, d3⟩ := rj9_ok h3
    obtain ⟨k1, k2, k3, k4, k5, k7⟩ := h3
    exact ⟨x4, w6, x9, p1, l1, b1, d1, ⟨rs_fr (rs_f4 k1 b3 (by decide)) d3 (by decide), k2, by rw [b2, k3, nI_1], d2, (d3 18 (by decide)).1.trans k5, by omega⟩, by omega⟩
  · right
    obtain ⟨x4, b1, b2, b3⟩ := cj15_tot (z4 := w4) (z6 := w6)
    rw [bd2_eq a1, bd2_eq a2, if_pos rfl]
    exact ⟨x4, w6, w9, b1, rfl, a3, a4⟩
/-- behind LOOK or STOP -/
theorem doing_both {x1 : Int32} (h : MB f N z4 z6 z9 t l p c) (hx : x1 = 0 ∨ x1 = 1) : COK f N (if x1 = 0 then bd2 (fX4_readSum z4 z6) (fun z26 z27 => if (gI z27 8) = 0 then if (gI z27 5) = 307 then bd (fX6_step z27) (fun z31 => CJ9 z26 z31 1) else CJ9 z26 z27 0 else CJ9 z26 z27 0) else CJ9 z4 z6 1) (RD x1 (nI (60 * t + 5 * c)) z9) t p c ∨ BDD (if x1 = 0 then bd2 (fX4_readSum z4 z6) (fun z26 z27 => if (gI z27 8) = 0 then if (gI z27 5) = 307 then bd (fX6_step z27) (fun z31 => CJ9 z26 z31 1) else CJ9 z26 z27 0 else CJ9 z26 z27 0) else CJ9 z4 z6 1) (RD x1 (nI (60 * t + 5 * c)) z9) := by
  obtain ⟨h15, ht, hc, h6⟩ := mb_15 h
  have e1 : nI (60 * t + 5 * c) + 1 = nI (60 * t + 5 * c + 1) := nI_add (60 * t + 5 * c) 1
  have e2 : nI (60 * t + 5 * c) + 2 = nI (60 * t + 5 * c + 2) := nI_add (60 * t + 5 * c) 2
  have e3 : nI (60 * t + 5 * c) + 3 = nI (60 * t + 5 * c + 3) := nI_add (60 * t + 5 * c) 3
  have hb : ∀ (v : Int32) (i j : Nat), MB f N z4 z6 (sT (sT z9 5 i v) 5 j (-1)) t l p c := fun v i j => mb_9 (L := [5]) h (fr_T (fr_T fr_rf (by decide)) (by decide)) (by decide) (by decide)
  rcases hx with rfl | rfl
  · have hs : ∀ (v : Int32), MB f N z4 z6 (sT (sT (sT z9 5 (60 * t + 5 * c) 0) 5 (60 * t + 5 * c + 3) (-1)) 5 (60 * t + 5 * c + 1) v) t l p c := fun v => mb_9 (L := [5]) (hb 0 _ _) (fr_T fr_rf (by decide)) (by decide) (by decide)
    unfold RD
    rw [if_pos rfl, if_pos rfl, h15, e1, e2, e3, gd_pos (in_n (by omega) (by omega))]
    simp only [nm]
    rw [gd_pos (in_n (by omega) (by omega)), nI_clamp (show 60 * t + 5 * c < 2147483648 by omega), nI_clamp (show 60 * t + 5 * c + 3 < 2147483648 by omega), nI_clamp (show 60 * t + 5 * c + 1 < 2147483648 by omega), nI_clamp (show t < 2147483648 by omega)]
    have hq := hs (gT (sT (sT z9 5 (60 * t + 5 * c) 0) 5 (60 * t + 5 * c + 3) (-1)) 4 t)
    rcases sum_both (r := 0) hq.1 hq.2.1 with ⟨v4, v6, v9, p1, l1, b1, b2, b3, b4, b5, b6, b7, b8⟩ | ⟨v4, v6, v9, b1, b2, b3, b4⟩
    · rw [bd2_eq b1, bd2_eq b2, if_neg one0, if_pos b3.2.1]
      have k15 : gI v9 15 = nI t := b3.2.2.2.2.1.2.1
      rw [k15, gd_pos (in_n (by omega) (by omega)), gd_pos (in_n (by omega) (by omega)), nI_clamp (show 60 * t + 5 * c + 2 < 2147483648 by omega), nI_clamp (show t < 2147483648 by omega)]
      have hv : MB f N v4 v6 (sT v9 5 (60 * t + 5 * c + 2) (gT v9 4 t)) t l1 p1 c := by
        refine mb_9 (L := [5]) (z9 := v9) ⟨b3, by omega, (b7 4 (by decide)).1.trans hq.2.2.1, ?_, (b8 18 (by decide)).1.trans hq.2.2.2.2.1, hc⟩ (fr_T fr_rf (by decide)) (by decide) (by decide)
        rw [(b8 6 (by decide)).2.1]; exact hq.2.2.2.1
      generalize sT v9 5 (60 * t + 5 * c + 2) (gT v9 4 t) = y9 at hv
      have h9 := hv.1.2.2.1
      have hsk := rs_sk hv.1
      have hmq : ∀ (u6 : Sx) (p2 : Nat), RS f N v4 u6 (sI (sI y9 12 (nI (rnP isB f N p1))) 12 (nI p2)) t l1 p2 → p1 ≤ p2 → MB f N v4 u6 (sI (sI y9 12 (nI (rnP isB f N p1))) 12 (nI p2)) t l1 p2 c := fun u6 p2 hr hp2 => ⟨hr, by have := hv.2.1; omega, hv.2.2.1, hv.2.2.2.1, hv.2.2.2.2.1, hc⟩
      unfold QJ7 fX9_takesWord
      rw [if_neg (show ¬ (0 : Int32) = 1 by decide)]
      by_cases w3 : WD f N (rnP isB f N p1) 3
      · have c3 : gI v6 5 = 307 := (rs_wd (w := 3) (by decide) hv.1).2 w3
        have y3 : fX9_isWord y9 26982 = some (1, sI y9 12 (nI (rnP isB f N p1))) := (isw9 (w := 3) (by decide) h9).1 w3
        obtain ⟨u6, s1, s2, s3, s4, -⟩ := wd_step (w := 3) (by decide) hsk (by rw [rq_idem]; exact w3)
        rw [rq_idem] at s2 s3 s4
        have hqg := rq_ge (P := isB) (b := f) (N := N) (p := p1)
        rw [if_pos c3, bd_eq s1, bd2_eq y3, if_neg one0, bd_eq (pass9 hsk.2.2.1), bd2_eq rfl, if_neg one0]
        rcases test_part (hmq u6 _ s2 (by omega)) with k | k
        · exact Or.inl (cok_p k (by omega))
        · exact Or.inr k
      · have c3 : ¬ gI v6 5 = 307 := fun k => w3 ((rs_wd (w := 3) (by decide) hv.1).1 k)
        have y3 : fX9_isWord y9 26982 = some (0, sI y9 12 (nI (rnP isB f N p1))) := (isw9 (w := 3) (by decide) h9).2 w3
        rw [if_neg c3, bd2_eq y3, if_pos rfl, bd2_eq rfl, if_pos rfl]
        left
        have hqg := rq_ge (P := isB) (b := f) (N := N) (p := p1)
        exact cok_p (end_part ⟨hsk, by have := hv.2.1; omega, hv.2.2.1, hv.2.2.2.1, hv.2.2.2.2.1, hc⟩) (by omega)
    · right
      obtain ⟨w4, a1, -, -⟩ := cj9_0 (z4 := v4) (z6 := v6)
      rw [bd2_eq b1, bd2_eq b2, if_pos rfl, if_neg b3]
      exact ⟨w4, v6, v9, a1, rfl, b3, b4⟩
  · unfold RD QJ7
    rw [if_neg one0, if_neg one0, if_pos rfl, e3, nI_clamp (by omega), nI_clamp (by omega)]
    exact test_part (hb 1 _ _)
/-- the reference's clause -/
theorem ch_no (h9 : T9 f N z9 p) (h15 : gI z9 15 = nI t) (ht : t < 6) (h13 : gI z9 13 = 0) (w2 : ¬ WD f N (rnP isB f N p) 2) (w4 : ¬ WD f N (rnP isB f N p) 4) : fX9_clauseHere z9 = some (0, sI (sI z9 12 (nI (rnP isB f N p))) 13 (flt (rnP isB f N p) 0)) := by
  have hq := rq_le (P := isB) (b := f) (N := N) h9.2.2.1
  have hT := t9_p h9 hq
  have y2 : fX9_isWord (sI z9 12 (nI (rnP isB f N p))) 1819242347 = some (0, sI z9 12 (nI (rnP isB f N p))) := isw_no (w := 2) (by decide) hT rq_idem w2
  have y4 : fX9_isWord (sI z9 12 (nI (rnP isB f N p))) 1937010544 = some (0, sI z9 12 (nI (rnP isB f N p))) := isw_no (w := 4) (by decide) hT rq_idem w4
  have n6 : ¬ gI (sI z9 12 (nI (rnP isB f N p))) 15 = 6 := fun k => by
    have k : gI z9 15 = 6 := k
    rw [h15] at k
    have := (nI_eq (b := 6) (by omega) (by decide)).1 k
    omega
  unfold fX9_clauseHere
  rw [bd2_eq (see_v h9)]
  simp only [jn, if_true]
  rw [if_neg n6, bd2_eq y2, if_pos rfl, bd2_eq y4, if_pos rfl]
  show bd2 (fX9_fails (sI z9 12 (nI (rnP isB f N p))) 0 (nI (rnP isB f N p))) _ = _
  rw [bd2_eq fails9, gd_pos (Or.inl rfl), failz_e (show gI (sI z9 12 (nI (rnP isB f N p))) 13 = 0 from h13)]
theorem ch_yes (h9 : T9 f N z9 p) (h15 : gI z9 15 = nI t) (ht : t < 6) {x1 : Int32} (hw : (WD f N (rnP isB f N p) 2 ∧ x1 = 0) ∨ (WD f N (rnP isB f N p) 4 ∧ x1 = 1)) : fX9_clauseHere z9 = if gI z9 18 = 12 then bd2 (fX9_fails (sI z9 12 (nI (rnP isB f N p))) 4 (nI (rnP isB f N p))) (fun r46 z47 => gd (r46 = 0 ∨ r46 = 1) (some (r46, z47))) else bd2 (fX9_isDoingHere (sI (sI z9 12 (nI (rnP isB f N p))) 18 ((gI z9 18) + 1)) x1) (fun r41 z42 => gd (r41 = 0 ∨ r41 = 1) (some (r41, z42))) := by
  have hq := rq_le (P := isB) (b := f) (N := N) h9.2.2.1
  have hT := t9_p h9 hq
  have n6 : ¬ gI (sI z9 12 (nI (rnP isB f N p))) 15 = 6 := fun k => by
    have k : gI z9 15 = 6 := k
    rw [h15] at k
    have := (nI_eq (b := 6) (by omega) (by decide)).1 k
    omega
  unfold fX9_clauseHere
  rw [bd2_eq (see_v h9)]
  simp only [jn, if_true]
  rw [if_neg n6]
  rcases hw with ⟨w2, rfl⟩ | ⟨w4, rfl⟩
  · have y2 : ∀ v : Int32, fX9_isWord (sI (sI z9 12 (nI (rnP isB f N p))) 18 v) 1819242347 = some (1, sI (sI z9 12 (nI (rnP isB f N p))) 18 v) := fun v => isw_yes (w := 2) (by decide) (t9_I hT (by decide) (by decide)) rq_idem w2
    have y2' : fX9_isWord (sI z9 12 (nI (rnP isB f N p))) 1819242347 = some (1, sI z9 12 (nI (rnP isB f N p))) := isw_yes (w := 2) (by decide) hT rq_idem w2
    rw [bd2_eq y2', if_neg one0, if_neg one0, bd2_eq (y2 _), if_neg one0]
    rfl
  · have w2 : ¬ WD f N (rnP isB f N p) 2 := fun k => by have := sp_one (v := 2) (w := 4) (by decide) (by decide) k w4; omega
    have y2 : ∀ v : Int32, fX9_isWord (sI (sI z9 12 (nI (rnP isB f N p))) 18 v) 1819242347 = some (0, sI (sI z9 12 (nI (rnP isB f N p))) 18 v) := fun v => isw_no (w := 2) (by decide) (t9_I hT (by decide) (by decide)) rq_idem w2
    have y2' : fX9_isWord (sI z9 12 (nI (rnP isB f N p))) 1819242347 = some (0, sI z9 12 (nI (rnP isB f N p))) := isw_no (w := 2) (by decide) hT rq_idem w2
    have y4' : fX9_isWord (sI z9 12 (nI (rnP isB f N p))) 1937010544 = some (1, sI z9 12 (nI (rnP isB f N p))) := isw_yes (w := 4) (by decide) hT rq_idem w4
    rw [bd2_eq y2', if_pos rfl, bd2_eq y4', if_neg one0, if_neg one0, bd2_eq (y2 _), if_pos rfl]
    rfl
theorem clause_both (h : CB f N z4 z6 z9 t l p c) : COK f N (fX4_readClause z4 z6) (fX9_clauseHere z9) t (p + 1) c ∨ BDD (fX4_readClause z4 z6) (fX9_clauseHere z9) := by
  obtain ⟨hR, hl, h4, h6, h18, hc⟩ := h
  obtain ⟨hA, h8, h9, h13, hE, -⟩ := id hR
  have h15 := hE.2.1
  have ht := hE.2.2.1
  have hN := h9.2.2.2.1
  have hp := h9.2.2.1
  have hq := rq_le (P := isB) (b := f) (N := N) hp
  have hqg := rq_ge (P := isB) (b := f) (N := N) (p := p)
  have hsk := rs_sk hR
  have go : ∀ (w : Nat) (x1 : Int32), w < 17 → WD f N (rnP isB f N p) w → ((WD f N (rnP isB f N p) 2 ∧ x1 = 0) ∨ (WD f N (rnP isB f N p) 4 ∧ x1 = 1)) → (gI z6 5 = 306 ∨ gI z6 5 = 308) → (∀ (w6 g : _), gI z4 4 < 12 → fX6_step z6 = some w6 → fX8_put 12 (gT z4 5) (gI z4 4) (gI z4 2) = some g → fX4_readClause z4 z6 = (if x1 = 0 then bd2 (fX4_readSum (sTf z4 5 g) w6) (fun z26 z27 => if (gI z27 8) = 0 then if (gI z27 5) = 307 then bd (fX6_step z27) (fun z31 => CJ9 z26 z31 1) else CJ9 z26 z27 0 else CJ9 z26 z27 0) else CJ9 (sTf z4 5 g) w6 1)) → COK f N (fX4_readClause z4 z6) (fX9_clauseHere z9) t (p + 1) c ∨ BDD (fX4_readClause z4 z6) (fX9_clauseHere z9) := by
    intro w x1 hw hwd hor hcw hA1
    rw [ch_yes h9 h15 ht hor, h18]
    by_cases c12 : c = 12
    · right
      rw [if_pos (show nI c = 12 by rw [c12]; rfl), cc_full hcw (show ¬ gI z4 4 < 12 by rw [h4]; exact nI_nlt (b := 12) (by omega) (by omega)), bd_eq (fail6 h8 (at_6 hA hp)), bd2_eq fails9, gd_pos (Or.inl rfl), failz_e (show gI (sI z9 12 (nI (rnP isB f N p))) 13 = 0 from h13)]
      exact ⟨z4, _, _, rfl, rfl, flt_n0 (a := 4) (by decide) (by decide) (by omega), rfl⟩
    · have n12 : ¬ nI c = 12 := fun k => by have := (nI_eq (b := 12) (by omega) (by decide)).1 k; omega
      rw [if_neg n12, nI_1]
      have h1 : RS f N z4 z6 (sI (sI z9 12 (nI (rnP isB f N p))) 18 (nI (c + 1))) t l (rnP isB f N p) := rs_fr (L := [18]) hsk (fr_I fr_rf (by decide)) (by decide)
      obtain ⟨w6, s1, s2, s3, s4, -⟩ := wd_step hw h1 (by rw [rq_idem]; exact hwd)
      rw [rq_idem] at s2 s3 s4
      obtain ⟨g, e⟩ := put_tot (n := 12) (f := gT z4 5) (x := gI z4 4) (v := gI z4 2)
      rw [hA1 w6 g (show gI z4 4 < 12 by rw [h4]; exact nI_lt (b := 12) (by omega) (by decide)) s1 e, dh_eq (pass9 h1.2.2.1) (show _ = nI t from h15) ht (show gT _ 6 t = nI c from h6) (by omega)]
      have hm : MB f N (sTf z4 5 g) w6 (sI (sI (sI z9 12 (nI (rnP isB f N p))) 18 (nI (c + 1))) 12 (nI (rnP isL f N (rnP isB f N p)))) t l (rnP isL f N (rnP isB f N p)) c := ⟨rs_f4 (L := [5]) s2 (fr_Tf fr_rf (by decide)) (by decide), by omega, h4, h6, rfl, by omega⟩
      have hx : x1 = 0 ∨ x1 = 1 := by rcases hor with k | k; exact Or.inl k.2; exact Or.inr k.2
      rcases doing_both hm hx with ⟨y4, y6, y9, p1, l1, a1, a2, a3, a4⟩ | ⟨y4, y6, y9, a1, a2, a3, a4⟩
      · left
        exact ⟨y4, y6, y9, p1, l1, a1, by rw [bd2_eq a2, gd_pos (Or.inr rfl)], a3, by omega⟩
      · right
        exact ⟨y4, y6, y9, a1, by rw [bd2_eq a2, gd_pos (Or.inl rfl)], a3, a4⟩
  by_cases w2 : WD f N (rnP isB f N p) 2
  · have c2 : gI z6 5 = 306 := (rs_wd (w := 2) (by decide) hR).2 w2
    exact go 2 0 (by decide) w2 (Or.inl ⟨w2, rfl⟩) (Or.inl c2) (fun w6 g hlt s1 e => by rw [cc_look c2 hlt, bd_eq s1, bd_eq e, if_pos rfl])
  by_cases w4 : WD f N (rnP isB f N p) 4
  · have c4 : gI z6 5 = 308 := (rs_wd (w := 4) (by decide) hR).2 w4
    exact go 4 1 (by decide) w4 (Or.inr ⟨w4, rfl⟩) (Or.inr c4) (fun w6 g hlt s1 e => by rw [cc_stop c4 hlt, bd_eq s1, bd_eq e, if_neg one0])
  · right
    rw [cc_no (fun k => w2 ((rs_wd (w := 2) (by decide) hR).1 k)) (fun k => w4 ((rs_wd (w := 4) (by decide) hR).1 k)), bd_eq (fail6 h8 (at_6 hA hp)), ch_no h9 h15 ht h13 w2 w4]
    exact ⟨z4, _, _, rfl, rfl, flt_n0 (a := 0) (by decide) (by decide) (by omega), rfl⟩
end CLB

/-! A clause of a RULE, on both sides, with what is kept of it. -/
section CLS
variable {z4 z6 z9 : Sx} {i12 : Int32}
def CJ15 (z16 z17 : Sx) : Option (Sx × Sx) := bd (fX8_put 12 (gT z16 7) (gI z16 4) (gI z16 2)) (fun z19 => some (sI (sTf z16 7 z19) 4 ((gI z16 4) + 1), z17))
def CJ9 (z10 z11 : Sx) (i12 : Int32) : Option (Sx × Sx) := bd (fX8_put 12 (gT z10 6) (gI z10 4) (gI z10 2)) (fun z14 => if i12 = 0 then CJ15 (sTf z10 6 z14) z11 else bd2 (fX4_readTest (fX4_readFact 16) (sTf z10 6 z14) z11 0) (fun z22 z23 => CJ15 z22 z23))
theorem cc_no (h1 : ¬ gI z6 5 = 306) (h2 : ¬ gI z6 5 = 308) : fX4_readClause z4 z6 = bd (fX6_fail z6 0) (fun z38 => some (z4, z38)) := by
  unfold fX4_readClause
  simp only [jn, if_neg h1, if_neg h2]
theorem cc_full (h1 : gI z6 5 = 306 ∨ gI z6 5 = 308) (h : ¬ gI z4 4 < 12) : fX4_readClause z4 z6 = bd (fX6_fail z6 4) (fun z34 => some (z4, z34)) := by
  unfold fX4_readClause
  simp only [jn]
  by_cases k : gI z6 5 = 306
  · rw [if_pos k, if_neg h]
  · rw [if_neg k, if_pos (h1.resolve_left k), if_neg h]
theorem cc_look (h1 : gI z6 5 = 306) (h : gI z4 4 < 12) : fX4_readClause z4 z6 = bd (fX6_step z6) (fun z5 => bd (fX8_put 12 (gT z4 5) (gI z4 4) (gI z4 2)) (fun z7 => bd2 (fX4_readSum (sTf z4 5 z7) z5) (fun z26 z27 => if (gI z27 8) = 0 then if (gI z27 5) = 307 then bd (fX6_step z27) (fun z31 => CJ9 z26 z31 1) else CJ9 z26 z27 0 else CJ9 z26 z27 0))) := by
  have h2 : ¬ gI z6 5 = 308 := by rw [h1]; decide
  unfold fX4_readClause
  simp only [jn, if_pos h1, if_pos h, if_neg h2]
  rfl
theorem cc_stop (h1 : gI z6 5 = 308) (h : gI z4 4 < 12) : fX4_readClause z4 z6 = bd (fX6_step z6) (fun z5 => bd (fX8_put 12 (gT z4 5) (gI z4 4) (gI z4 2)) (fun z7 => CJ9 (sTf z4 5 z7) z5 1)) := by
  have h2 : ¬ gI z6 5 = 306 := by rw [h1]; decide
  unfold fX4_readClause
  simp only [jn, if_neg h2, if_pos h, if_pos h1]
  rfl
theorem cj15_tot : ∃ w4, CJ15 z4 z6 = some (w4, z6) ∧ gI w4 4 = gI z4 4 + 1 ∧ FrL [4, 7] z4 w4 := by
  unfold CJ15
  obtain ⟨g, e⟩ := put_tot (n := 12) (f := gT z4 7) (x := gI z4 4) (v := gI z4 2)
  rw [bd_eq e]
  exact ⟨_, rfl, rfl, fr_I (fr_Tf fr_rf (by decide)) (by decide)⟩
theorem cj9_0 : ∃ w4, CJ9 z4 z6 0 = some (w4, z6) ∧ gI w4 4 = gI z4 4 + 1 ∧ FrL [4, 6, 7] z4 w4 := by
  unfold CJ9
  obtain ⟨g, e⟩ := put_tot (n := 12) (f := gT z4 6) (x := gI z4 4) (v := gI z4 2)
  rw [bd_eq e, if_pos rfl]
  obtain ⟨w4, a1, a2, a3⟩ := cj15_tot (z4 := sTf z4 6 g) (z6 := z6)
  exact ⟨w4, a1, a2, fr_tr (fr_Tf fr_rf (by decide)) a3 (by decide)⟩
def QJ9 (v4 : Int32) (z10 : Sx) : Option (Int32 × Sx) := gd (inb (gI z10 15) 7) (gd (inb (v4 + 4) 360) (gd (inb (gI z10 15) 6) (nm ((gT (sT z10 5 ((v4 + 4).toNatClampNeg) (gT z10 4 ((gI z10 15).toNatClampNeg))) 6 ((gI z10 15).toNatClampNeg)) + 1 : Int32) (fun v14 => some (1, sT (sT z10 5 ((v4 + 4).toNatClampNeg) (gT z10 4 ((gI z10 15).toNatClampNeg))) 6 ((gI z10 15).toNatClampNeg) v14)))))
def QJ15 (v4 : Int32) (z16 : Sx) : Option (Int32 × Sx) := gd (inb (gI z16 15) 7) (bd2 (fX9_tested (sT z16 5 ((v4 + 3).toNatClampNeg) (gT z16 4 ((gI z16 15).toNatClampNeg)))) (fun r19 z20 => if r19 = 0 then some (0, z20) else QJ9 v4 z20))
def QJ7 (x1 v4 : Int32) (z8 : Sx) : Option (Int32 × Sx) := if x1 = 1 then QJ15 v4 z8 else bd2 (fX9_takesWord z8 26982) (fun r24 z25 => if r24 = 0 then QJ9 v4 z25 else QJ15 v4 z25)
def RD (x1 v4 : Int32) (z2 : Sx) : Option (Int32 × Sx) := if x1 = 0 then gd (inb (gI z2 15) 7) (nm (gT (sT (sT z2 5 v4.toNatClampNeg x1) 5 ((v4 + 3).toNatClampNeg) (-1)) 4 ((gI z2 15).toNatClampNeg) : Int32) (fun v29 => gd (inb (v4 + 1) 360) (bd2 (fX9_sum (sT (sT (sT z2 5 v4.toNatClampNeg x1) 5 ((v4 + 3).toNatClampNeg) (-1)) 5 ((v4 + 1).toNatClampNeg) v29)) (fun r32 z33 => if r32 = 0 then some (0, z33) else gd (inb (gI z33 15) 7) (gd (inb (v4 + 2) 360) (QJ7 x1 v4 (sT z33 5 ((v4 + 2).toNatClampNeg) (gT z33 4 ((gI z33 15).toNatClampNeg))))))))) else QJ7 x1 v4 (sT (sT z2 5 v4.toNatClampNeg x1) 5 ((v4 + 3).toNatClampNeg) (-1))
end CLS
/-- a clause as both keep it -/
def CLC (z4 z9 : Sx) (t c L : Nat) : Prop := ∃ b m e : Nat, gT z4 5 c = nI b ∧ gT z4 6 c = nI m ∧ gT z4 7 c = nI e ∧ b ≤ m ∧ m ≤ e ∧ e ≤ L ∧ ((gT z9 5 (60 * t + 5 * c) = 0 ∧ b < m ∧ gT z9 5 (60 * t + 5 * c + 1) = nI b ∧ gT z9 5 (60 * t + 5 * c + 2) = nI m ∧ SGL (gT z4 1) b m 3 1 TR ∧ ((gT z9 5 (60 * t + 5 * c + 3) = -1 ∧ m = e) ∨ (gT z9 5 (60 * t + 5 * c + 3) = nI m ∧ gT z9 5 (60 * t + 5 * c + 4) = nI e ∧ m < e ∧ SGL (gT z4 1) m e 26 1 P01))) ∨ (gT z9 5 (60 * t + 5 * c) = 1 ∧ b = m ∧ gT z9 5 (60 * t + 5 * c + 3) = nI m ∧ gT z9 5 (60 * t + 5 * c + 4) = nI e ∧ m < e ∧ SGL (gT z4 1) m e 26 1 P01))
def CLQ (z4 z9 : Sx) (t c L : Nat) : Prop := ∀ d : Nat, d < c → CLC z4 z9 t d L
theorem clc_cg {z4 w4 z9 w9 : Sx} {t c L L2 : Nat} (h : CLC z4 z9 t c L) (h1 : ∀ i : Nat, i < L → gT w4 1 i = gT z4 1 i) (h5 : gT w4 5 c = gT z4 5 c) (h6 : gT w4 6 c = gT z4 6 c) (h7 : gT w4 7 c = gT z4 7 c) (h9 : ∀ j : Nat, j < 5 → gT w9 5 (60 * t + 5 * c + j) = gT z9 5 (60 * t + 5 * c + j)) (hL : L ≤ L2) : CLC w4 w9 t c L2 := by
  obtain ⟨b, m, e, a1, a2, a3, a4, a5, a6, a7⟩ := h
  have g0 : gT w9 5 (60 * t + 5 * c) = gT z9 5 (60 * t + 5 * c) := h9 0 (by omega)
  refine ⟨b, m, e, by rw [h5]; exact a1, by rw [h6]; exact a2, by rw [h7]; exact a3, a4, a5, by omega, ?_⟩
  rw [g0, h9 1 (by omega), h9 2 (by omega), h9 3 (by omega), h9 4 (by omega)]
  rcases a7 with ⟨k0, kb, k1, k2, ks, k3⟩ | ⟨k0, kb, k3, k4, kl, ks⟩
  · left
    refine ⟨k0, kb, k1, k2, sgl_cg ks (fun i hi => h1 i (by omega)), ?_⟩
    rcases k3 with q | ⟨q1, q2, q3, q4⟩
    · exact Or.inl q
    · exact Or.inr ⟨q1, q2, q3, sgl_cg q4 (fun i hi => h1 i (by omega))⟩
  · exact Or.inr ⟨k0, kb, k3, k4, kl, sgl_cg ks (fun i hi => h1 i (by omega))⟩
theorem clq_fr {z4 w4 z9 w9 : Sx} {t c L L2 : Nat} {A B : List Nat} (h : CLQ z4 z9 t c L) (h1 : ∀ i : Nat, i < L → gT w4 1 i = gT z4 1 i) (hA : FrL A z4 w4) (hB : FrL B z9 w9) (hA2 : (A.contains 5 || A.contains 6 || A.contains 7) = false) (hB2 : B.contains 5 = false) (hL : L ≤ L2) : CLQ w4 w9 t c L2 := fun d hd => by
  simp only [Bool.or_eq_false_iff] at hA2
  exact clc_cg (h d hd) h1 (by rw [(hA 5 hA2.1.1).2.1]) (by rw [(hA 6 hA2.1.2).2.1]) (by rw [(hA 7 hA2.2).2.1]) (fun j hj => by rw [(hB 5 hB2).2.1]) hL
theorem sgl_lt {c : Nat → Int32} {b e m : Nat} {P : Int64 → Prop} (h : SGL c b e m 1 P) (hm : m ≤ 32) : b < e := by
  have hb := h.1
  by_cases q : b < e
  · exact q
  · exfalso
    obtain ⟨L, h1, -, h3⟩ := h.2 (fun _ => 0) [] (by rw [List.length_nil]; omega)
    rw [show e - b = 0 by omega, List.append_nil] at h3
    have h3 : some ([] : List Int64) = some L := h3
    rw [← Option.some.inj h3] at h1
    cases h1
section CLB
variable {f : Nat → Int32} {N t l p c : Nat} {z4 z6 z9 : Sx}
theorem rs_f4 {w4 : Sx} {L : List Nat} (h : RS f N z4 z6 z9 t l p) (hf : FrL L z4 w4) (hL : (L.contains 1 || L.contains 2 || L.contains 3) = false) : RS f N w4 z6 z9 t l p := by
  obtain ⟨hA, h8, h9, h13, hE, h3, hm⟩ := h
  obtain ⟨q1, q2⟩ := Bool.or_eq_false_iff.1 hL
  exact ⟨hA, h8, h9, h13, em_4 hE hf q1, (hf 3 q2).1.trans h3, hm⟩
/-- both stand before a clause -/
def CB (f : Nat → Int32) (N : Nat) (z4 z6 z9 : Sx) (t l p c : Nat) : Prop := RS f N z4 z6 z9 t l p ∧ l ≤ p ∧ gI z4 4 = nI c ∧ gT z9 6 t = nI c ∧ gI z9 18 = nI c ∧ c ≤ 12 ∧ NN z6 ∧ CLQ z4 z9 t c l
/-- both stand in one -/
def MB (f : Nat → Int32) (N : Nat) (z4 z6 z9 : Sx) (t l p c : Nat) : Prop := RS f N z4 z6 z9 t l p ∧ l + 1 ≤ p ∧ gI z4 4 = nI c ∧ gT z9 6 t = nI c ∧ gI z9 18 = nI (c + 1) ∧ c < 12 ∧ NN z6 ∧ CLQ z4 z9 t c l
/-- what is kept of it so far -/
def PQ (z4 z9 : Sx) (t c l : Nat) : Prop := ∃ b : Nat, gT z4 5 c = nI b ∧ b ≤ l ∧ ((gT z9 5 (60 * t + 5 * c) = 0 ∧ b < l ∧ gT z9 5 (60 * t + 5 * c + 1) = nI b ∧ gT z9 5 (60 * t + 5 * c + 2) = nI l ∧ SGL (gT z4 1) b l 3 1 TR) ∨ (gT z9 5 (60 * t + 5 * c) = 1 ∧ b = l))
def COK (f : Nat → Int32) (N : Nat) (A : Option (Sx × Sx)) (B : Option (Int32 × Sx)) (t p c : Nat) : Prop := ∃ (w4 w6 w9 : Sx) (p1 l1 : Nat), A = some (w4, w6) ∧ B = some (1, w9) ∧ CB f N w4 w6 w9 t l1 p1 (c + 1) ∧ p ≤ p1
theorem cok_p {A : Option (Sx × Sx)} {B : Option (Int32 × Sx)} {p0 : Nat} (h : COK f N A B t p c) (hp : p0 ≤ p) : COK f N A B t p0 c := by
  obtain ⟨w4, w6, w9, p1, l1, a, b, d, e⟩ := h
  exact ⟨w4, w6, w9, p1, l1, a, b, d, by omega⟩
theorem mb_15 (h : MB f N z4 z6 z9 t l p c) : gI z9 15 = nI t ∧ t < 6 ∧ c < 12 ∧ gT z9 6 t = nI c ∧ gI z4 2 = nI l ∧ gT z9 4 t = nI l ∧ l < 400 := ⟨h.1.2.2.2.2.1.2.1, h.1.2.2.2.2.1.2.2.1, h.2.2.2.2.2.1, h.2.2.2.1, h.1.2.2.2.2.1.1, h.1.2.2.2.2.1.2.2.2.1, by have a := h.2.1; have b := h.1.2.2.1.2.2.1; have d := h.1.2.2.1.2.2.2.1; omega⟩
theorem dh_eq {x1 : Int32} {z2 : Sx} (e : fX9_passWord z9 = some z2) (h15 : gI z2 15 = nI t) (ht : t < 6) (h6 : gT z2 6 t = nI c) (hc : c < 12) : fX9_isDoingHere z9 x1 = RD x1 (nI (60 * t + 5 * c)) z2 := by
  have e60 : (60 * nI t : Int32) = nI (60 * t) := Int32.toInt_inj.1 (by rw [i32_mul (show (60 : Int32).toInt = 60 by decide) (nI_toInt (n := t) (by omega)) (by omega) (by omega), nI_toInt (by omega)]; omega)
  have e5 : (5 * nI c : Int32) = nI (5 * c) := Int32.toInt_inj.1 (by rw [i32_mul (show (5 : Int32).toInt = 5 by decide) (nI_toInt (n := c) (by omega)) (by omega) (by omega), nI_toInt (by omega)]; omega)
  have e3 : nI (60 * t + 5 * c) + 3 = nI (60 * t + 5 * c + 3) := nI_add (60 * t + 5 * c) 3
  have key : ∀ v : Int32, v = nI (60 * t + 5 * c) → gd (inb v 360) (gd (inb (v + 3) 360) (RD x1 v z2)) = RD x1 (nI (60 * t + 5 * c)) z2 := by
    intro v hv
    rw [hv, gd_pos (in_n (by omega) (by omega)), gd_pos (show inb (nI (60 * t + 5 * c) + 3) 360 by rw [e3]; exact in_n (by omega) (by omega))]
  unfold fX9_isDoingHere
  rw [bd_eq e]
  refine Eq.trans (show _ = gd (inb (gI z2 15) 6) (gd (inb ((60 * (gI z2 15)) + (5 * (gT z2 6 ((gI z2 15).toNatClampNeg)))) 360) (gd (inb (((60 * (gI z2 15)) + (5 * (gT z2 6 ((gI z2 15).toNatClampNeg)))) + 3) 360) (RD x1 ((60 * (gI z2 15)) + (5 * (gT z2 6 ((gI z2 15).toNatClampNeg)))) z2))) from rfl) ?_
  rw [gd_pos (show inb (gI z2 15) 6 by rw [h15]; exact in_n ht (by omega))]
  refine key _ ?_
  rw [h15, nI_clamp (by omega), h6, e60, e5, nI_add]
/-- the reference ends a clause -/
theorem rj9_ok (h15 : gI z9 15 = nI t) (ht : t < 6) (hc : c < 12) (h6 : gT z9 6 t = nI c) : QJ9 (nI (60 * t + 5 * c)) z9 = some (1, sT (sT z9 5 (60 * t + 5 * c + 4) (gT z9 4 t)) 6 t (nI (c + 1))) := by
  have e4 : nI (60 * t + 5 * c) + 4 = nI (60 * t + 5 * c + 4) := nI_add (60 * t + 5 * c) 4
  unfold QJ9
  rw [h15, e4, gd_pos (in_n (by omega) (by omega)), gd_pos (in_n (by omega) (by omega)), gd_pos (in_n ht (by omega)), nI_clamp (show 60 * t + 5 * c + 4 < 2147483648 by omega), nI_clamp (show t < 2147483648 by omega)]
  show some ((1 : Int32), sT (sT z9 5 (60 * t + 5 * c + 4) (gT z9 4 t)) 6 t (gT z9 6 t + 1)) = _
  rw [h6, nI_1]
theorem cj15_k (h4 : gI z4 4 = nI c) (hc : c < 12) : CJ15 z4 z6 = some (sI (sTf z4 7 (upd (gT z4 7) c (gI z4 2))) 4 (nI (c + 1)), z6) := by
  unfold CJ15
  rw [h4, bd_eq (put_k (nI_toInt (n := c) (by omega)) hc (by decide)), nI_1]
theorem u5 {z : Sx} {i j : Nat} {v : Int32} (h : ¬ j = i) : gT (sT z 5 i v) 5 j = gT z 5 j := if_neg h
theorem u5e {z : Sx} {i : Nat} {v : Int32} : gT (sT z 5 i v) 5 i = v := (show upd (gT z 5) i v i = v from if_pos rfl)
theorem updn {g : Nat → Int32} {i j : Nat} {v : Int32} (h : ¬ j = i) : upd g i v j = g j := if_neg h
theorem upde {g : Nat → Int32} {i : Nat} {v : Int32} : upd g i v i = v := if_pos rfl
theorem end_part (h : MB f N z4 z6 z9 t l p c) (hp : PQ z4 z9 t c l) (h3 : gT z9 5 (60 * t + 5 * c + 3) = -1) (h0 : gT z9 5 (60 * t + 5 * c) = 0) : COK f N (CJ9 z4 z6 0) (QJ9 (nI (60 * t + 5 * c)) z9) t p c := by
  obtain ⟨h15, ht, hc, h6, h2, h42, hl⟩ := mb_15 h
  obtain ⟨k1, k2, k3, k4, k5, k6, k7, k8⟩ := h
  have eA : CJ9 z4 z6 0 = some (sI (sTf (sTf z4 6 (upd (gT z4 6) c (nI l))) 7 (upd (gT z4 7) c (nI l))) 4 (nI (c + 1)), z6) := by
    unfold CJ9
    rw [k3, h2, bd_eq (put_k (nI_toInt (n := c) (by omega)) hc (by decide)), if_pos rfl, cj15_k (z4 := sTf z4 6 (upd (gT z4 6) c (nI l))) k3 hc]
    show some (sI (sTf (sTf z4 6 (upd (gT z4 6) c (nI l))) 7 (upd (gT z4 7) c (gI z4 2))) 4 (nI (c + 1)), z6) = _
    rw [h2]
  refine ⟨_, z6, _, p, l, eA, rj9_ok h15 ht hc h6, ⟨rs_fr (L := [5, 6]) (rs_f4 (L := [4, 6, 7]) k1 (fr_I (fr_Tf (fr_Tf fr_rf (by decide)) (by decide)) (by decide)) (by decide)) (fr_T (fr_T fr_rf (by decide)) (by decide)) (by decide), by omega, rfl, (show upd (gT z9 6) t (nI (c + 1)) t = _ from if_pos rfl), k5, by omega, k7, fun d hd => ?_⟩, Nat.le_refl _⟩
  by_cases q : d = c
  · subst q
    obtain ⟨b, p1, p2, p3⟩ := hp
    have g4 : ∀ j : Nat, j < 4 → gT (sT (sT z9 5 (60 * t + 5 * d + 4) (gT z9 4 t)) 6 t (nI (d + 1))) 5 (60 * t + 5 * d + j) = gT z9 5 (60 * t + 5 * d + j) := fun j hj => (show gT (sT z9 5 (60 * t + 5 * d + 4) (gT z9 4 t)) 5 (60 * t + 5 * d + j) = _ from u5 (by omega))
    have g0 := g4 0 (by omega)
    rw [Nat.add_zero (60 * t + 5 * d)] at g0
    refine ⟨b, l, l, p1, upde, upde, p2, Nat.le_refl _, Nat.le_refl _, Or.inl ?_⟩
    rw [g0, g4 1 (by omega), g4 2 (by omega), g4 3 (by omega)]
    rcases p3 with ⟨r0, r1, r2, r3, r4⟩ | ⟨r0, -⟩
    · exact ⟨r0, r1, r2, r3, r4, Or.inl ⟨h3, rfl⟩⟩
    · exfalso
      rw [h0] at r0
      revert r0; decide
  · exact clc_cg (k8 d (by omega)) (fun _ _ => rfl) rfl (updn q) (updn q) (fun j hj => (show gT (sT z9 5 (60 * t + 5 * c + 4) (gT z9 4 t)) 5 (60 * t + 5 * d + j) = _ from u5 (by omega))) (Nat.le_refl _)
theorem test_part (h : MB f N z4 z6 z9 t l p c) (hp : PQ z4 z9 t c l) : COK f N (CJ9 z4 z6 1) (QJ15 (nI (60 * t + 5 * c)) z9) t p c ∨ BDD (CJ9 z4 z6 1) (QJ15 (nI (60 * t + 5 * c)) z9) := by
  obtain ⟨h15, ht, hc, h6, h2, h42, hl⟩ := mb_15 h
  obtain ⟨k1, k2, k3, k4, k5, k6, k7, k8⟩ := h
  have e3 : nI (60 * t + 5 * c) + 3 = nI (60 * t + 5 * c + 3) := nI_add (60 * t + 5 * c) 3
  obtain ⟨x4, hx4⟩ : ∃ x4, x4 = sTf z4 6 (upd (gT z4 6) c (nI l)) := ⟨_, rfl⟩
  obtain ⟨x9, hx9⟩ : ∃ x9, x9 = sT z9 5 (60 * t + 5 * c + 3) (nI l) := ⟨_, rfl⟩
  have eA : CJ9 z4 z6 1 = bd2 (fX4_readTest (fX4_readFact 16) x4 z6 0) (fun z22 z23 => CJ15 z22 z23) := by
    unfold CJ9
    rw [k3, h2, bd_eq (put_k (nI_toInt (n := c) (by omega)) hc (by decide)), if_neg one0, ← hx4]
  have eB : QJ15 (nI (60 * t + 5 * c)) z9 = bd2 (fX9_tested x9) (fun r19 z20 => if r19 = 0 then some (0, z20) else QJ9 (nI (60 * t + 5 * c)) z20) := by
    unfold QJ15
    rw [h15, e3, gd_pos (in_n (by omega) (by omega)), nI_clamp (show 60 * t + 5 * c + 3 < 2147483648 by omega), nI_clamp (show t < 2147483648 by omega), h42, ← hx9]
  have fx4 : FrL [6] z4 x4 := by rw [hx4]; exact fr_Tf fr_rf (by decide)
  have fx9 : FrL [5] z9 x9 := by rw [hx9]; exact fr_T fr_rf (by decide)
  have rx : RS f N x4 z6 x9 t l p := rs_fr (rs_f4 k1 fx4 (by decide)) fx9 (by decide)
  have lx : LNs x4 l := ⟨by rw [(fx4 2 (by decide)).1]; exact h2, by omega⟩
  rw [eA, eB]
  obtain ⟨q4, q6, u1, u2⟩ := test_x (z4 := x4) (l := l) (dp := 16) (d := 0) (by omega) (fact_x 16 0 (by omega) (by omega)) k1.2.1 k7 lx
  have u1 : fX4_readTest (fX4_readFact 16) x4 z6 0 = some (q4, q6) := u1
  rcases tested_both rx k2 with ⟨w4, w6, w9, p1, l1, a1, a2, a3, a4, a5, a6, a7, a8⟩ | ⟨w4, w6, w9, a1, a2, a3, a4⟩
  · left
    rw [u1] at a1
    have a1 := Option.some.inj a1
    rw [Prod.mk.injEq] at a1
    obtain ⟨rfl, rfl⟩ := a1
    have hN := a3.2.2.1.2.2.2.1
    obtain ⟨-, nnq, l2, v1, v2, v3, v4⟩ := u2.resolve_left (fun q => q a3.2.1)
    have el : l2 = l1 := (nI_eq (by have := v1.2; omega) (by omega)).1 (v1.1.symm.trans a3.2.2.2.2.1.1)
    subst el
    have sg : SGL (gT q4 1) l l2 26 1 P01 := v4 (by omega)
    have c4 : gI q4 4 = nI c := (a7 4 (by decide)).1.trans ((fx4 4 (by decide)).1.trans k3)
    have d15 : gI w9 15 = nI t := a3.2.2.2.2.1.2.1
    have d6 : gT w9 6 t = nI c := by rw [(a8 6 (by decide)).2.1, (fx9 6 (by decide)).2.1]; exact h6
    have d4 : gT w9 4 t = nI l2 := a3.2.2.2.2.1.2.2.2.1
    rw [bd2_eq u1, bd2_eq a2, if_neg one0, cj15_k c4 hc, rj9_ok d15 ht hc d6]
    refine ⟨_, q6, _, p1, l2, rfl, rfl, ⟨rs_fr (L := [5, 6]) (rs_f4 (L := [4, 7]) a3 (fr_I (fr_Tf fr_rf (by decide)) (by decide)) (by decide)) (fr_T (fr_T fr_rf (by decide)) (by decide)) (by decide), by omega, rfl, (show upd (gT w9 6) t (nI (c + 1)) t = _ from if_pos rfl), (a8 18 (by decide)).1.trans ((fx9 18 (by decide)).1.trans k5), by omega, nnq, fun d hd => ?_⟩, by omega⟩
    have t5 : gT w9 5 = gT x9 5 := (a8 5 (by decide)).2.1
    have q5 : gT q4 5 = gT z4 5 := (a7 5 (by decide)).2.1.trans (fx4 5 (by decide)).2.1
    have q66 : gT q4 6 = upd (gT z4 6) c (nI l) := (a7 6 (by decide)).2.1.trans (by rw [hx4]; rfl)
    have q7 : gT q4 7 = gT z4 7 := (a7 7 (by decide)).2.1.trans (fx4 7 (by decide)).2.1
    have pre : ∀ i : Nat, i < l → gT q4 1 i = gT z4 1 i := fun i hi => (v3 i hi).trans (by rw [(fx4 1 (by decide)).2.1])
    by_cases q : d = c
    · subst q
      obtain ⟨b, p1', p2, p3⟩ := hp
      have g4 : ∀ j : Nat, ¬ j = 4 → j < 5 → gT (sT (sT w9 5 (60 * t + 5 * d + 4) (gT w9 4 t)) 6 t (nI (d + 1))) 5 (60 * t + 5 * d + j) = gT x9 5 (60 * t + 5 * d + j) := fun j h4 hj => (show gT (sT w9 5 (60 * t + 5 * d + 4) (gT w9 4 t)) 5 (60 * t + 5 * d + j) = _ from (u5 (by omega)).trans (by rw [t5]))
      have g3 : ∀ j : Nat, j < 3 → gT x9 5 (60 * t + 5 * d + j) = gT z9 5 (60 * t + 5 * d + j) := fun j hj => by rw [hx9]; exact u5 (by omega)
      have s0 := (g4 0 (by omega) (by omega)).trans (g3 0 (by omega))
      rw [Nat.add_zero (60 * t + 5 * d)] at s0
      have s1 := (g4 1 (by omega) (by omega)).trans (g3 1 (by omega))
      have s2 := (g4 2 (by omega) (by omega)).trans (g3 2 (by omega))
      have s3 : gT (sT (sT w9 5 (60 * t + 5 * d + 4) (gT w9 4 t)) 6 t (nI (d + 1))) 5 (60 * t + 5 * d + 3) = nI l := (g4 3 (by omega) (by omega)).trans (by rw [hx9]; exact u5e)
      have s4 : gT (sT (sT w9 5 (60 * t + 5 * d + 4) (gT w9 4 t)) 6 t (nI (d + 1))) 5 (60 * t + 5 * d + 4) = nI l2 := (show gT (sT w9 5 (60 * t + 5 * d + 4) (gT w9 4 t)) 5 (60 * t + 5 * d + 4) = _ from u5e.trans d4)
      have e5 : gT (sI (sTf q4 7 (upd (gT q4 7) d (gI q4 2))) 4 (nI (d + 1))) 5 d = nI b := (show gT q4 5 d = nI b by rw [q5]; exact p1')
      have e6 : gT (sI (sTf q4 7 (upd (gT q4 7) d (gI q4 2))) 4 (nI (d + 1))) 6 d = nI l := (show gT q4 6 d = nI l by rw [q66]; exact upde)
      have e7 : gT (sI (sTf q4 7 (upd (gT q4 7) d (gI q4 2))) 4 (nI (d + 1))) 7 d = nI l2 := (show upd (gT q4 7) d (gI q4 2) d = nI l2 from upde.trans v1.1)
      refine ⟨b, l, l2, e5, e6, e7, p2, by omega, Nat.le_refl _, ?_⟩
      rw [s0, s1, s2, s3, s4]
      have sl := sgl_lt sg (by omega)
      rcases p3 with ⟨r0, r1, r2, r3, r4⟩ | ⟨r0, r1⟩
      · exact Or.inl ⟨r0, r1, r2, r3, sgl_cg r4 pre, Or.inr ⟨rfl, rfl, sl, sg⟩⟩
      · exact Or.inr ⟨r0, r1, rfl, rfl, sl, sg⟩
    · refine clc_cg (k8 d (by omega)) pre (by show gT q4 5 d = _; rw [q5]) (by show gT q4 6 d = _; rw [q66]; exact updn q) (by show upd (gT q4 7) c (gI q4 2) d = _; rw [q7]; exact updn q) (fun j hj => ?_) (by omega)
      show gT (sT w9 5 (60 * t + 5 * c + 4) (gT w9 4 t)) 5 (60 * t + 5 * d + j) = _
      refine (u5 (by omega)).trans ?_
      rw [t5, hx9]
      exact u5 (by omega)
  · right
    obtain ⟨y4, b1, b2, b3⟩ := cj15_tot (z4 := w4) (z6 := w6)
    rw [bd2_eq a1, bd2_eq a2, if_pos rfl]
    exact ⟨y4, w6, w9, b1, rfl, a3, a4⟩
theorem mb_w {w9 : Sx} (h : MB f N z4 z6 z9 t l p c) (hf : FrL [5] z9 w9) (h5 : ∀ i : Nat, i < 60 * t + 5 * c → gT w9 5 i = gT z9 5 i) : MB f N z4 z6 w9 t l p c := by
  obtain ⟨k1, k2, k3, k4, k5, k6, k7, k8⟩ := h
  exact ⟨rs_fr k1 hf (by decide), k2, k3, by rw [(hf 6 (by decide)).2.1]; exact k4, (hf 18 (by decide)).1.trans k5, k6, k7, fun d hd => clc_cg (k8 d hd) (fun _ _ => rfl) rfl rfl rfl (fun j hj => h5 _ (by omega)) (Nat.le_refl _)⟩
/-- behind LOOK or STOP -/
theorem doing_both {x1 : Int32} (h : MB f N z4 z6 z9 t l p c) (hb : gT z4 5 c = nI l) (hx : x1 = 0 ∨ x1 = 1) : COK f N (if x1 = 0 then bd2 (fX4_readSum z4 z6) (fun z26 z27 => if (gI z27 8) = 0 then if (gI z27 5) = 307 then bd (fX6_step z27) (fun z31 => CJ9 z26 z31 1) else CJ9 z26 z27 0 else CJ9 z26 z27 0) else CJ9 z4 z6 1) (RD x1 (nI (60 * t + 5 * c)) z9) t p c ∨ BDD (if x1 = 0 then bd2 (fX4_readSum z4 z6) (fun z26 z27 => if (gI z27 8) = 0 then if (gI z27 5) = 307 then bd (fX6_step z27) (fun z31 => CJ9 z26 z31 1) else CJ9 z26 z27 0 else CJ9 z26 z27 0) else CJ9 z4 z6 1) (RD x1 (nI (60 * t + 5 * c)) z9) := by
  obtain ⟨h15, ht, hc, h6, h2, h42, hl⟩ := mb_15 h
  have e1 : nI (60 * t + 5 * c) + 1 = nI (60 * t + 5 * c + 1) := nI_add (60 * t + 5 * c) 1
  have e2 : nI (60 * t + 5 * c) + 2 = nI (60 * t + 5 * c + 2) := nI_add (60 * t + 5 * c) 2
  have e3 : nI (60 * t + 5 * c) + 3 = nI (60 * t + 5 * c + 3) := nI_add (60 * t + 5 * c) 3
  rcases hx with rfl | rfl
  · obtain ⟨zs, hzs⟩ : ∃ zs, zs = sT (sT (sT z9 5 (60 * t + 5 * c) 0) 5 (60 * t + 5 * c + 3) (-1)) 5 (60 * t + 5 * c + 1) (nI l) := ⟨_, rfl⟩
    have ts : ∀ i : Nat, gT zs 5 i = if i = 60 * t + 5 * c + 1 then nI l else if i = 60 * t + 5 * c + 3 then -1 else if i = 60 * t + 5 * c then 0 else gT z9 5 i := fun i => by rw [hzs]; rfl
    have fs : FrL [5] z9 zs := by rw [hzs]; exact fr_T (fr_T (fr_T fr_rf (by decide)) (by decide)) (by decide)
    have hq := mb_w h fs (fun i hi => by rw [ts, if_neg (by omega), if_neg (by omega), if_neg (by omega)])
    have eR : RD 0 (nI (60 * t + 5 * c)) z9 = bd2 (fX9_sum zs) (fun r32 z33 => if r32 = 0 then some (0, z33) else gd (inb (gI z33 15) 7) (gd (inb (nI (60 * t + 5 * c + 2)) 360) (QJ7 0 (nI (60 * t + 5 * c)) (sT z33 5 ((nI (60 * t + 5 * c + 2)).toNatClampNeg) (gT z33 4 ((gI z33 15).toNatClampNeg)))))) := by
      unfold RD
      rw [if_pos rfl, h15, e1, e2, e3, gd_pos (in_n (by omega) (by omega))]
      simp only [nm]
      rw [gd_pos (in_n (by omega) (by omega)), nI_clamp (show 60 * t + 5 * c < 2147483648 by omega), nI_clamp (show 60 * t + 5 * c + 3 < 2147483648 by omega), nI_clamp (show 60 * t + 5 * c + 1 < 2147483648 by omega), nI_clamp (show t < 2147483648 by omega)]
      have e42 : gT (sT (sT z9 5 (60 * t + 5 * c) 0) 5 (60 * t + 5 * c + 3) (-1)) 4 t = nI l := h42
      rw [e42, ← hzs]
    rw [if_pos rfl, eR]
    obtain ⟨q4, q6, u1, u2⟩ := sum_x (z4 := z4) (l := l) hq.1.2.1 hq.2.2.2.2.2.2.1 ⟨h2, by omega⟩
    rcases sum_both (r := 1) hq.1 hq.2.1 with ⟨v4, v6, v9, p1, l1, b1, b2, b3, b4, b5, b6, b7, b8⟩ | ⟨v4, v6, v9, b1, b2, b3, b4⟩
    · rw [bd2_eq b1, bd2_eq b2, if_neg one0, if_pos b3.2.1]
      rw [u1] at b1
      have b1 := Option.some.inj b1
      rw [Prod.mk.injEq] at b1
      obtain ⟨rfl, rfl⟩ := b1
      have hN := b3.2.2.1.2.2.2.1
      obtain ⟨-, nnq, l2, w1, w2, w3, w4⟩ := u2.resolve_left (fun q => q b3.2.1)
      have el : l2 = l1 := (nI_eq (by have := w1.2; omega) (by omega)).1 (w1.1.symm.trans b3.2.2.2.2.1.1)
      subst el
      have sg : SGL (gT q4 1) l l2 3 1 TR := w4 (by omega)
      have k15 : gI v9 15 = nI t := b3.2.2.2.2.1.2.1
      have k42 : gT v9 4 t = nI l2 := b3.2.2.2.2.1.2.2.2.1
      rw [k15, gd_pos (in_n (by omega) (by omega)), gd_pos (in_n (by omega) (by omega)), nI_clamp (show 60 * t + 5 * c + 2 < 2147483648 by omega), nI_clamp (show t < 2147483648 by omega), k42]
      have v5 : gT v9 5 = gT zs 5 := (b8 5 (by decide)).2.1
      have hv0 : MB f N q4 q6 v9 t l2 p1 c := ⟨b3, b6, (b7 4 (by decide)).1.trans hq.2.2.1, by rw [(b8 6 (by decide)).2.1]; exact hq.2.2.2.1, (b8 18 (by decide)).1.trans hq.2.2.2.2.1, hc, nnq, clq_fr hq.2.2.2.2.2.2.2 w3 b7 b8 (by decide) (by decide) w2⟩
      obtain ⟨y9, hy9⟩ : ∃ y9, y9 = sT v9 5 (60 * t + 5 * c + 2) (nI l2) := ⟨_, rfl⟩
      have ty : ∀ i : Nat, gT y9 5 i = if i = 60 * t + 5 * c + 2 then nI l2 else gT zs 5 i := fun i => by rw [hy9, ← v5]; rfl
      have fy : FrL [5] v9 y9 := by rw [hy9]; exact fr_T fr_rf (by decide)
      rw [← hy9]
      have hv : MB f N q4 q6 y9 t l2 p1 c := mb_w hv0 fy (fun i hi => by rw [ty, if_neg (by omega), v5])
      have y0 : gT y9 5 (60 * t + 5 * c) = 0 := by rw [ty, if_neg (by omega), ts, if_neg (by omega), if_neg (by omega), if_pos rfl]
      have y1 : gT y9 5 (60 * t + 5 * c + 1) = nI l := by rw [ty, if_neg (by omega), ts, if_pos rfl]
      have y2 : gT y9 5 (60 * t + 5 * c + 2) = nI l2 := by rw [ty, if_pos rfl]
      have y3 : gT y9 5 (60 * t + 5 * c + 3) = -1 := by rw [ty, if_neg (by omega), ts, if_neg (by omega), if_pos rfl]
      have hpq : PQ q4 y9 t c l2 := ⟨l, by rw [(b7 5 (by decide)).2.1]; exact hb, w2, Or.inl ⟨y0, sgl_lt sg (by omega), y1, y2, sg⟩⟩
      have h9 := hv.1.2.2.1
      have hsk := rs_sk hv.1
      have hqg := rq_ge (P := isB) (b := f) (N := N) (p := p1)
      have hmq : ∀ (u6 : Sx) (p2 : Nat), RS f N q4 u6 (sI (sI y9 12 (nI (rnP isB f N p1))) 12 (nI p2)) t l2 p2 → p1 ≤ p2 → NN u6 → MB f N q4 u6 (sI (sI y9 12 (nI (rnP isB f N p1))) 12 (nI p2)) t l2 p2 c := fun u6 p2 hr hp2 hn => ⟨hr, by have := hv.2.1; omega, hv.2.2.1, hv.2.2.2.1, hv.2.2.2.2.1, hc, hn, hv.2.2.2.2.2.2.2⟩
      unfold QJ7 fX9_takesWord
      rw [if_neg (show ¬ (0 : Int32) = 1 by decide)]
      by_cases w3' : WD f N (rnP isB f N p1) 3
      · have c3 : gI q6 5 = 307 := (rs_wd (w := 3) (by decide) hv.1).2 w3'
        have i3 : fX9_isWord y9 26982 = some (1, sI y9 12 (nI (rnP isB f N p1))) := (isw9 (w := 3) (by decide) h9).1 w3'
        obtain ⟨u6, s1, s2, s3, s4, -⟩ := wd_step (w := 3) (by decide) hsk (by rw [rq_idem]; exact w3')
        rw [rq_idem] at s2 s3 s4
        obtain ⟨u6', n1, n2, -⟩ := nn_step nnq
        have eu : u6' = u6 := Option.some.inj (n1.symm.trans s1)
        rw [eu] at n2
        rw [if_pos c3, bd_eq s1, bd2_eq i3, if_neg one0, bd_eq (pass9 hsk.2.2.1), bd2_eq rfl, if_neg one0]
        rcases test_part (hmq u6 _ s2 (by omega) n2) hpq with k | k
        · exact Or.inl (cok_p k (by omega))
        · exact Or.inr k
      · have c3 : ¬ gI q6 5 = 307 := fun k => w3' ((rs_wd (w := 3) (by decide) hv.1).1 k)
        have i3 : fX9_isWord y9 26982 = some (0, sI y9 12 (nI (rnP isB f N p1))) := (isw9 (w := 3) (by decide) h9).2 w3'
        rw [if_neg c3, bd2_eq i3, if_pos rfl, bd2_eq rfl, if_pos rfl]
        left
        exact cok_p (end_part (z9 := sI y9 12 (nI (rnP isB f N p1))) ⟨hsk, by have := hv.2.1; omega, hv.2.2.1, hv.2.2.2.1, hv.2.2.2.2.1, hc, nnq, hv.2.2.2.2.2.2.2⟩ hpq y3 y0) (by omega)
    · right
      obtain ⟨w4, a1, -, -⟩ := cj9_0 (z4 := v4) (z6 := v6)
      rw [bd2_eq b1, bd2_eq b2, if_pos rfl, if_neg b3]
      exact ⟨w4, v6, v9, a1, rfl, b3, b4⟩
  · obtain ⟨zs, hzs⟩ : ∃ zs, zs = sT (sT z9 5 (60 * t + 5 * c) 1) 5 (60 * t + 5 * c + 3) (-1) := ⟨_, rfl⟩
    have ts : ∀ i : Nat, gT zs 5 i = if i = 60 * t + 5 * c + 3 then -1 else if i = 60 * t + 5 * c then 1 else gT z9 5 i := fun i => by rw [hzs]; rfl
    have fs : FrL [5] z9 zs := by rw [hzs]; exact fr_T (fr_T fr_rf (by decide)) (by decide)
    unfold RD QJ7
    rw [if_neg one0, if_neg one0, if_pos rfl, e3, nI_clamp (show 60 * t + 5 * c < 2147483648 by omega), nI_clamp (show 60 * t + 5 * c + 3 < 2147483648 by omega), ← hzs]
    exact test_part (mb_w h fs (fun i hi => by rw [ts, if_neg (by omega), if_neg (by omega)])) ⟨l, hb, Nat.le_refl _, Or.inr ⟨by rw [ts, if_neg (by omega), if_pos rfl], rfl⟩⟩
/-- the reference's clause -/
theorem ch_no (h9 : T9 f N z9 p) (h15 : gI z9 15 = nI t) (ht : t < 6) (h13 : gI z9 13 = 0) (w2 : ¬ WD f N (rnP isB f N p) 2) (w4 : ¬ WD f N (rnP isB f N p) 4) : fX9_clauseHere z9 = some (0, sI (sI z9 12 (nI (rnP isB f N p))) 13 (flt (rnP isB f N p) 0)) := by
  have hq := rq_le (P := isB) (b := f) (N := N) h9.2.2.1
  have hT := t9_p h9 hq
  have y2 : fX9_isWord (sI z9 12 (nI (rnP isB f N p))) 1819242347 = some (0, sI z9 12 (nI (rnP isB f N p))) := isw_no (w := 2) (by decide) hT rq_idem w2
  have y4 : fX9_isWord (sI z9 12 (nI (rnP isB f N p))) 1937010544 = some (0, sI z9 12 (nI (rnP isB f N p))) := isw_no (w := 4) (by decide) hT rq_idem w4
  have n6 : ¬ gI (sI z9 12 (nI (rnP isB f N p))) 15 = 6 := fun k => by
    have k : gI z9 15 = 6 := k
    rw [h15] at k
    have := (nI_eq (b := 6) (by omega) (by decide)).1 k
    omega
  unfold fX9_clauseHere
  rw [bd2_eq (see_v h9)]
  simp only [jn, if_true]
  rw [if_neg n6, bd2_eq y2, if_pos rfl, bd2_eq y4, if_pos rfl]
  show bd2 (fX9_fails (sI z9 12 (nI (rnP isB f N p))) 0 (nI (rnP isB f N p))) _ = _
  rw [bd2_eq fails9, gd_pos (Or.inl rfl), failz_e (show gI (sI z9 12 (nI (rnP isB f N p))) 13 = 0 from h13)]
theorem ch_yes (h9 : T9 f N z9 p) (h15 : gI z9 15 = nI t) (ht : t < 6) {x1 : Int32} (hw : (WD f N (rnP isB f N p) 2 ∧ x1 = 0) ∨ (WD f N (rnP isB f N p) 4 ∧ x1 = 1)) : fX9_clauseHere z9 = if gI z9 18 = 12 then bd2 (fX9_fails (sI z9 12 (nI (rnP isB f N p))) 4 (nI (rnP isB f N p))) (fun r46 z47 => gd (r46 = 0 ∨ r46 = 1) (some (r46, z47))) else bd2 (fX9_isDoingHere (sI (sI z9 12 (nI (rnP isB f N p))) 18 ((gI z9 18) + 1)) x1) (fun r41 z42 => gd (r41 = 0 ∨ r41 = 1) (some (r41, z42))) := by
  have hq := rq_le (P := isB) (b := f) (N := N) h9.2.2.1
  have hT := t9_p h9 hq
  have n6 : ¬ gI (sI z9 12 (nI (rnP isB f N p))) 15 = 6 := fun k => by
    have k : gI z9 15 = 6 := k
    rw [h15] at k
    have := (nI_eq (b := 6) (by omega) (by decide)).1 k
    omega
  unfold fX9_clauseHere
  rw [bd2_eq (see_v h9)]
  simp only [jn, if_true]
  rw [if_neg n6]
  rcases hw with ⟨w2, rfl⟩ | ⟨w4, rfl⟩
  · have y2 : ∀ v : Int32, fX9_isWord (sI (sI z9 12 (nI (rnP isB f N p))) 18 v) 1819242347 = some (1, sI (sI z9 12 (nI (rnP isB f N p))) 18 v) := fun v => isw_yes (w := 2) (by decide) (t9_I hT (by decide) (by decide)) rq_idem w2
    have y2' : fX9_isWord (sI z9 12 (nI (rnP isB f N p))) 1819242347 = some (1, sI z9 12 (nI (rnP isB f N p))) := isw_yes (w := 2) (by decide) hT rq_idem w2
    rw [bd2_eq y2', if_neg one0, if_neg one0, bd2_eq (y2 _), if_neg one0]
    rfl
  · have w2 : ¬ WD f N (rnP isB f N p) 2 := fun k => by have := sp_one (v := 2) (w := 4) (by decide) (by decide) k w4; omega
    have y2 : ∀ v : Int32, fX9_isWord (sI (sI z9 12 (nI (rnP isB f N p))) 18 v) 1819242347 = some (0, sI (sI z9 12 (nI (rnP isB f N p))) 18 v) := fun v => isw_no (w := 2) (by decide) (t9_I hT (by decide) (by decide)) rq_idem w2
    have y2' : fX9_isWord (sI z9 12 (nI (rnP isB f N p))) 1819242347 = some (0, sI z9 12 (nI (rnP isB f N p))) := isw_no (w := 2) (by decide) hT rq_idem w2
    have y4' : fX9_isWord (sI z9 12 (nI (rnP isB f N p))) 1937010544 = some (1, sI z9 12 (nI (rnP isB f N p))) := isw_yes (w := 4) (by decide) hT rq_idem w4
    rw [bd2_eq y2', if_pos rfl, bd2_eq y4', if_neg one0, if_neg one0, bd2_eq (y2 _), if_pos rfl]
    rfl
theorem clause_both (h : CB f N z4 z6 z9 t l p c) : COK f N (fX4_readClause z4 z6) (fX9_clauseHere z9) t (p + 1) c ∨ BDD (fX4_readClause z4 z6) (fX9_clauseHere z9) := by
  obtain ⟨hR, hl, h4, h6, h18, hc, hnn, hclq⟩ := h
  obtain ⟨hA, h8, h9, h13, hE, -⟩ := id hR
  have h15 := hE.2.1
  have ht := hE.2.2.1
  have hN := h9.2.2.2.1
  have hp := h9.2.2.1
  have hq := rq_le (P := isB) (b := f) (N := N) hp
  have hqg := rq_ge (P := isB) (b := f) (N := N) (p := p)
  have hsk := rs_sk hR
  have go : ∀ (w : Nat) (x1 : Int32), w < 17 → WD f N (rnP isB f N p) w → ((WD f N (rnP isB f N p) 2 ∧ x1 = 0) ∨ (WD f N (rnP isB f N p) 4 ∧ x1 = 1)) → (gI z6 5 = 306 ∨ gI z6 5 = 308) → (∀ (w6 g : _), gI z4 4 < 12 → fX6_step z6 = some w6 → fX8_put 12 (gT z4 5) (gI z4 4) (gI z4 2) = some g → fX4_readClause z4 z6 = (if x1 = 0 then bd2 (fX4_readSum (sTf z4 5 g) w6) (fun z26 z27 => if (gI z27 8) = 0 then if (gI z27 5) = 307 then bd (fX6_step z27) (fun z31 => CJ9 z26 z31 1) else CJ9 z26 z27 0 else CJ9 z26 z27 0) else CJ9 (sTf z4 5 g) w6 1)) → COK f N (fX4_readClause z4 z6) (fX9_clauseHere z9) t (p + 1) c ∨ BDD (fX4_readClause z4 z6) (fX9_clauseHere z9) := by
    intro w x1 hw hwd hor hcw hA1
    rw [ch_yes h9 h15 ht hor, h18]
    by_cases c12 : c = 12
    · right
      rw [if_pos (show nI c = 12 by rw [c12]; rfl), cc_full hcw (show ¬ gI z4 4 < 12 by rw [h4]; exact nI_nlt (b := 12) (by omega) (by omega)), bd_eq (fail6 h8 (at_6 hA hp)), bd2_eq fails9, gd_pos (Or.inl rfl), failz_e (show gI (sI z9 12 (nI (rnP isB f N p))) 13 = 0 from h13)]
      exact ⟨z4, _, _, rfl, rfl, flt_n0 (a := 4) (by decide) (by decide) (by omega), rfl⟩
    · have n12 : ¬ nI c = 12 := fun k => by have := (nI_eq (b := 12) (by omega) (by decide)).1 k; omega
      rw [if_neg n12, nI_1]
      have h1 : RS f N z4 z6 (sI (sI z9 12 (nI (rnP isB f N p))) 18 (nI (c + 1))) t l (rnP isB f N p) := rs_fr (L := [18]) hsk (fr_I fr_rf (by decide)) (by decide)
      obtain ⟨w6, s1, s2, s3, s4, -⟩ := wd_step hw h1 (by rw [rq_idem]; exact hwd)
      rw [rq_idem] at s2 s3 s4
      have h2 : gI z4 2 = nI l := hE.1
      obtain ⟨g, hg⟩ : ∃ g, g = upd (gT z4 5) c (nI l) := ⟨_, rfl⟩
      have e : fX8_put 12 (gT z4 5) (gI z4 4) (gI z4 2) = some g := by rw [h4, h2, put_k (nI_toInt (n := c) (by omega)) (by omega) (by decide), hg]
      obtain ⟨w6', n1, n2, -⟩ := nn_step hnn
      have eu : w6' = w6 := Option.some.inj (n1.symm.trans s1)
      rw [eu] at n2
      rw [hA1 w6 g (show gI z4 4 < 12 by rw [h4]; exact nI_lt (b := 12) (by omega) (by decide)) s1 e, dh_eq (pass9 h1.2.2.1) (show _ = nI t from h15) ht (show gT _ 6 t = nI c from h6) (by omega)]
      have hm : MB f N (sTf z4 5 g) w6 (sI (sI (sI z9 12 (nI (rnP isB f N p))) 18 (nI (c + 1))) 12 (nI (rnP isL f N (rnP isB f N p)))) t l (rnP isL f N (rnP isB f N p)) c := ⟨rs_f4 (L := [5]) s2 (fr_Tf fr_rf (by decide)) (by decide), by omega, h4, h6, rfl, by omega, n2, fun d hd => clc_cg (hclq d hd) (fun _ _ => rfl) (by show g d = _; rw [hg]; exact updn (by omega)) rfl rfl (fun _ _ => rfl) (Nat.le_refl _)⟩
      have hx : x1 = 0 ∨ x1 = 1 := by rcases hor with k | k; exact Or.inl k.2; exact Or.inr k.2
      rcases doing_both hm (by show g c = _; rw [hg]; exact upde) hx with ⟨y4, y6, y9, p1, l1, a1, a2, a3, a4⟩ | ⟨y4, y6, y9, a1, a2, a3, a4⟩
      · left
        exact ⟨y4, y6, y9, p1, l1, a1, by rw [bd2_eq a2, gd_pos (Or.inr rfl)], a3, by omega⟩
      · right
        exact ⟨y4, y6, y9, a1, by rw [bd2_eq a2, gd_pos (Or.inl rfl)], a3, a4⟩
  by_cases w2 : WD f N (rnP isB f N p) 2
  · have c2 : gI z6 5 = 306 := (rs_wd (w := 2) (by decide) hR).2 w2
    exact go 2 0 (by decide) w2 (Or.inl ⟨w2, rfl⟩) (Or.inl c2) (fun w6 g hlt s1 e => by rw [cc_look c2 hlt, bd_eq s1, bd_eq e, if_pos rfl])
  by_cases w4 : WD f N (rnP isB f N p) 4
  · have c4 : gI z6 5 = 308 := (rs_wd (w := 4) (by decide) hR).2 w4
    exact go 4 1 (by decide) w4 (Or.inr ⟨w4, rfl⟩) (Or.inr c4) (fun w6 g hlt s1 e => by rw [cc_stop c4 hlt, bd_eq s1, bd_eq e, if_neg one0])
  · right
    rw [cc_no (fun k => w2 ((rs_wd (w := 2) (by decide) hR).1 k)) (fun k => w4 ((rs_wd (w := 4) (by decide) hR).1 k)), bd_eq (fail6 h8 (at_6 hA hp)), ch_no h9 h15 ht h13 w2 w4]
    exact ⟨z4, _, _, rfl, rfl, flt_n0 (a := 0) (by decide) (by decide) (by omega), rfl⟩
end CLB

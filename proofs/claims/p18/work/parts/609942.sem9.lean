/-! LOOK, on both sides. -/
section LK9
variable {zw zd z5 z8 z9 : Sx} {x1 : Int32} {T T2 : Nat → Int32}
theorem lkt_eq {g i : Nat} {b : Bool} {pay : Int32} (h3 : ¬ i = 3) (h4 : ¬ i = 4) (h9 : ¬ i = 9) (h5 : ¬ i = 44 + 6 * g + 5) (h48 : ¬ i = 44 + 6 * g + 4) : LKT T g b pay i = T i := by
  unfold LKT
  rw [if_neg (fun q => h4 q.2), if_neg (fun q => h48 q.2), if_neg h9, if_neg h3, if_neg h5]
theorem lkt_st {g j : Nat} {b : Bool} {pay : Int32} : LKT T g b pay (44 + 6 * j + 4) = if b = true ∧ j = g then 1 else T (44 + 6 * j + 4) := by
  unfold LKT
  by_cases c : b = true ∧ j = g
  · obtain ⟨c1, rfl⟩ := c
    rw [if_neg (by omega), if_pos ⟨c1, rfl⟩, if_pos ⟨c1, rfl⟩]
  · rw [if_neg (by omega), if_neg (fun q => c ⟨q.1, by omega⟩), if_neg (by omega), if_neg (by omega), if_neg (by omega), if_neg c]
/-- the class's LOOK for a fault that is open -/
theorem lookfor_k {F g k : Nat} (hw : WKT zw T) (h0 : T 0 = nI F) (hF : F ≤ 10) (hg : g < F) (hki : (gT zw 8 g).toInt = k) (hd : DR zd T) (ho : T (44 + 6 * g + 4) = 0) (hT2 : ∀ i : Nat, T2 i = LKT T g (decide (hitf T g)) (T (26 + 3 * k)) i) : ∃ yd, fX0_lookFor zd zw (nI g) = some (if hitf T g then 1 else 0, yd) ∧ DR yd T2 := by
  obtain ⟨F2, d0, dF, d1, d2, d3, d4, d5, d6, d7, d8⟩ := hd
  have eF : F2 = F := (nI_eq (by omega) (by omega)).1 (d0.symm.trans h0)
  subst eF
  have hFi : (T 0).toInt = F2 := by rw [h0, nI_toInt (by omega)]
  obtain ⟨b1, b2, b3, b4, b5, b6, b7, b8, b9, -⟩ := hw.2.2.2.2 g (by omega)
  have hk1 := hw.1.2.2
  have epay : gT zw 12 g = T (26 + 3 * k) := by
    rw [b9, n_cl hki]
    exact (hw.2.2.2.1 k (by omega)).1
  have eg : (nI g).toInt = g := nI_toInt (by omega)
  have bad1 : (bmf T2 1 F2 = if hitf T g then bmf T 1 F2 ||| 2 ^ g else bmf T 1 F2) ∧ bmf T2 2 F2 = bmf T 2 F2 := by
    constructor
    · by_cases q : hitf T g
      · rw [if_pos q]
        refine bm_set hg (fun j hj => ?_)
        rw [hT2, lkt_st, decide_eq_true q]
        by_cases r : j = g
        · rw [if_pos ⟨rfl, r⟩]; exact ⟨fun _ => Or.inl r, fun _ => rfl⟩
        · rw [if_neg (fun k => r k.2)]; exact ⟨fun k => Or.inr k, fun k => k.resolve_left r⟩
      · rw [if_neg q]
        refine bm_cg F2 (fun j hj => ?_)
        rw [hT2, lkt_st, decide_eq_false q, if_neg (fun k => by cases k.1)]
    · refine bm_cg F2 (fun j hj => ?_)
      rw [hT2, lkt_st]
      by_cases r : decide (hitf T g) = true ∧ j = g
      · rw [if_pos r]
        obtain ⟨-, rfl⟩ := r
        rw [ho]
        exact ⟨fun k => by revert k; decide, fun k => by revert k; decide⟩
      · rw [if_neg r]
  have s0 : T2 0 = T 0 := (hT2 0).trans (lkt_eq (by omega) (by omega) (by omega) (by omega) (by omega))
  have s3 : T2 3 = T 3 - T (44 + 6 * g + 1) := by
    rw [hT2]; unfold LKT
    rw [if_neg (by omega), if_neg (by omega), if_neg (by omega), if_pos rfl]
  have s9 : T2 9 = nx (T 9) := by
    rw [hT2]; unfold LKT
    rw [if_neg (by omega), if_neg (by omega), if_pos rfl]
  have s5 : ∀ j : Nat, T2 (44 + 6 * j + 5) = if j = g then T (44 + 6 * g + 5) + 1 else T (44 + 6 * j + 5) := fun j => by
    rw [hT2]; unfold LKT
    rw [if_neg (by omega), if_neg (by omega), if_neg (by omega), if_neg (by omega)]
    by_cases r : j = g
    · rw [if_pos r, if_pos (by omega)]
    · rw [if_neg r, if_neg (by omega)]
  have st : ∀ j : Nat, j < F2 → T2 (44 + 6 * j + 4) = 0 ∨ T2 (44 + 6 * j + 4) = 1 ∨ T2 (44 + 6 * j + 4) = 2 := fun j hj => by
    rw [hT2, lkt_st]
    by_cases r : decide (hitf T g) = true ∧ j = g
    · rw [if_pos r]; exact Or.inr (Or.inl rfl)
    · rw [if_neg r]; exact d7 j hj
  have hn9 := (nx_eq d6).2
  unfold fX0_lookFor
  rw [bd_eq (at_k eg (by omega) (by decide)), bd_eq (at_k eg (by omega) (by decide)), bd_eq (put_k eg (by omega) (by decide))]
  simp only [nm]
  rw [bd_eq (at_k eg (by omega) (by decide)), d5]
  show ∃ yd, (if (nx (T 9) / 65536 - nx (T 9) / 65536 / 100 * 100) < gT zw 10 g then _ else _) = _ ∧ _
  rw [b3]
  by_cases q : hitf T g
  · have eb : fX8_bit (nI g) = some (nI (2 ^ g)) := by unfold fX8_bit; rw [bit_f ⟨g, by omega⟩]
    rw [if_pos q] at bad1
    rw [if_pos (show _ from q), if_pos q, bd_eq eb, bd_eq (at_k eg (by omega) (by decide))]
    refine ⟨_, rfl, F2, s0.trans h0, dF, ?_, ?_, ?_, ?_, ?_, ?_, st, fun j hj => ?_⟩
    · show gI zd 0 - gT zw 9 g = T2 3
      rw [s3, d1, b2]
    · show gI zd 1 + gT zw 12 g = T2 4
      rw [hT2, d2, epay]
      unfold LKT
      rw [if_pos ⟨decide_eq_true q, rfl⟩]
    · show gI zd 2 ||| nI (2 ^ g) = nI (bmf T2 1 F2)
      rw [bad1.1, d3, or_n]
    · show gI zd 3 = nI (bmf T2 2 F2)
      rw [bad1.2]; exact d4
    · show nx (T 9) = T2 9
      rw [s9]
    · rw [s9]; exact hn9
    · show upd (gT zd 5) g (gT zd 5 g + 1) j = _
      rw [s5]
      by_cases r : j = g
      · rw [if_pos r, ← d8 g hg]; exact if_pos r
      · rw [if_neg r, ← d8 j hj]; exact if_neg r
  · rw [if_neg q] at bad1
    rw [if_neg (show ¬ _ from q), if_neg q]
    refine ⟨_, rfl, F2, s0.trans h0, dF, ?_, ?_, ?_, ?_, ?_, ?_, st, fun j hj => ?_⟩
    · show gI zd 0 - gT zw 9 g = T2 3
      rw [s3, d1, b2]
    · show gI zd 1 = T2 4
      rw [hT2, d2]
      unfold LKT
      rw [if_neg (fun k => q (of_decide_eq_true k.1)), if_neg (fun k => q (of_decide_eq_true k.1)), if_neg (by omega), if_neg (by omega), if_neg (by omega)]
    · show gI zd 2 = nI (bmf T2 1 F2)
      rw [bad1.1]; exact d3
    · show gI zd 3 = nI (bmf T2 2 F2)
      rw [bad1.2]; exact d4
    · show nx (T 9) = T2 9
      rw [s9]
    · rw [s9]; exact hn9
    · show upd (gT zd 5) g (gT zd 5 g + 1) j = _
      rw [s5]
      by_cases r : j = g
      · rw [if_pos r, ← d8 g hg]; exact if_pos r
      · rw [if_neg r, ← d8 j hj]; exact if_neg r
/-- LOOK -/
theorem lookd_k {y y9 : Int32 × Sx} (hw : WKT zw (gT z9 24)) (hd : DR zd (gT z9 24)) (hy : fX8_look z8 z5 zw zd x1 = some y) (hy9 : fX9_look z9 x1 = some y9) : y.1 = y9.1 ∧ DR y.2 (gT y9.2 24) ∧ ∀ i : Nat, ¬ DZ i → gT y9.2 24 i = gT z9 24 i := by
  obtain ⟨F, d0, dF, d1, d2, d3, d4, d5, d6, d7, d8⟩ := id hd
  have hFi : (gT z9 24 0).toInt = F := by rw [d0, nI_toInt (by omega)]
  have i0 : (0 : Int32).toInt = 0 := by decide
  unfold fX8_look fX8_isFault at hy
  unfold fX9_look fX9_isFault at hy9
  rw [hw.2.1.1] at hy
  have out : ∀ (r : Int32) {u u9 : Int32 × Sx}, u = (r, zd) → u9 = (r, z9) → u.1 = u9.1 ∧ DR u.2 (gT u9.2 24) ∧ ∀ i : Nat, ¬ DZ i → gT u9.2 24 i = gT z9 24 i := fun r u u9 e e9 => by rw [e, e9]; exact ⟨rfl, hd, fun _ _ => rfl⟩
  by_cases c2 : x1 < 0
  · rw [if_pos c2, bd_eq rfl, if_pos rfl] at hy hy9
    exact out (-1) (Option.some.inj hy).symm (Option.some.inj hy9).symm
  rw [if_neg c2] at hy hy9
  by_cases c3 : gT z9 24 0 ≤ x1
  · rw [if_pos c3, bd_eq rfl, if_pos rfl] at hy hy9
    exact out (-1) (Option.some.inj hy).symm (Option.some.inj hy9).symm
  rw [if_neg c3, bd_eq rfl, if_neg one0] at hy hy9
  have c2i := bI_nlt rfl i0 c2
  have c3i := bI_nle hFi rfl c3
  obtain ⟨g, hg⟩ : ∃ g : Nat, x1.toInt = g := ⟨x1.toInt.toNat, by omega⟩
  have ex : x1 = nI g := Int32.toInt_inj.1 (by rw [hg, nI_toInt (by omega)])
  subst ex
  obtain ⟨b1, b2, b3, b4, b5, b6, b7, b8, b9, -⟩ := hw.2.2.2.2 g (by omega)
  obtain ⟨k, hki⟩ : ∃ k : Nat, (gT zw 8 g).toInt = k := ⟨(gT zw 8 g).toInt.toNat, by omega⟩
  have hk1 := hw.1.2.2
  have hk : gT z9 24 (44 + 6 * g) = nI k := by rw [← b1]; exact Int32.toInt_inj.1 (by rw [hki, nI_toInt (by omega)])
  obtain ⟨r, o1, o2, o3⟩ := open_eq hw d0 dF d7 (show g < F by omega)
  have eg : fX0_gone zd = some (nI (bmf (gT z9 24) 1 F ||| bmf (gT z9 24) 2 F)) := by unfold fX0_gone; rw [d3, d4, or_n]
  have egi : (nI g).toInt = g := nI_toInt (by omega)
  rw [bd_eq eg, bd_eq o1] at hy
  rw [bd_eq o2] at hy9
  rcases o3 with rfl | rfl
  · rw [if_pos rfl] at hy hy9
    exact out (-2) (Option.some.inj hy).symm (Option.some.inj hy9).symm
  rw [if_neg one0, bd_eq (at_k egi (by omega) (by decide)), d1, b2] at hy
  rw [if_neg one0] at hy9
  have ef1 : fX9_faultOf z9 (nI g) 1 = some (gT z9 24 (44 + 6 * g + 1)) := fo_eq (j := 1) (by omega) (by omega)
  unfold fX9_canLook at hy9
  rw [bd_eq o2, if_neg one0, bd_eq ef1] at hy9
  by_cases c4 : gT z9 24 3 < gT z9 24 (44 + 6 * g + 1)
  · rw [if_pos c4, bd_eq rfl, if_pos rfl] at hy9
    rw [if_neg (fun q => by have a := bI_lt rfl rfl c4; have b := bI_le rfl rfl q; omega)] at hy
    exact out (-3) (Option.some.inj hy).symm (Option.some.inj hy9).symm
  · rw [if_neg c4, bd_eq rfl, if_neg one0] at hy9
    rw [if_pos (dl_le c4)] at hy
    obtain ⟨y2, l1, l2, l3⟩ := looks_eq (z9 := z9) (g := g) (k := k) (by omega) hk (by omega) d6
    have ho : gT z9 24 (44 + 6 * g + 4) = 0 := by
      unfold fX9_isOpen at o2
      have ef4 : fX9_faultOf z9 (nI g) 4 = some (gT z9 24 (44 + 6 * g + 4)) := fo_eq (j := 4) (by omega) (by omega)
      rw [bd_eq ef4] at o2
      by_cases q : gT z9 24 (44 + 6 * g + 4) = 0
      · exact q
      · rw [if_neg q] at o2
        exact absurd (Option.some.inj o2) (by decide)
    obtain ⟨yd, m1, m2⟩ := lookfor_k (T2 := gT y2 24) hw d0 dF (show g < F by omega) hki hd ho l3
    have un : ∀ i : Nat, ¬ DZ i → gT y2 24 i = gT z9 24 i := fun i hi => by
      rw [l3]
      exact lkt_eq (fun u => hi (by unfold DZ; omega)) (fun u => hi (by unfold DZ; omega)) (fun u => hi (by unfold DZ; omega)) (fun u => hi (by unfold DZ; omega)) (fun u => hi (by unfold DZ; omega))
    rw [bd2_eq m1] at hy
    rw [bd2_eq l1] at hy9
    by_cases q : hitf (gT z9 24) g
    · rw [if_pos q, if_neg one0] at hy hy9
      obtain rfl := Option.some.inj hy
      obtain rfl := Option.some.inj hy9
      exact ⟨rfl, m2, un⟩
    · rw [if_neg q, if_pos rfl] at hy hy9
      obtain rfl := Option.some.inj hy
      obtain rfl := Option.some.inj hy9
      exact ⟨rfl, m2, un⟩
end LK9

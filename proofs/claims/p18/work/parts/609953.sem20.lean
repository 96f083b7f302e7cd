/-! WORTH and SEEN, on both sides. -/
theorem jn_e {κ : Type} {α : Type} (K : κ) (b : κ → Option α) : jn K b = b K := rfl
def pyv (zw : Sx) (x4 : Int32) (g : Nat) : Int32 := if x4 = -1 then gT zw 12 g else if nI g = x4 then 1 else 0
section S20
variable {zw zd z5 z8 z9 z : Sx} {F L : Nat} {x1 x2 x4 : Int32}
theorem jn_py {g : Nat} (hg : g < 10) (K : Int32 → Option Int64) : jn K (fun J16 => if x4 = (-1) then bd (fX8_at 10 (gT zw 12) (nI g)) (fun r29 => J16 r29) else if nI g = x4 then J16 1 else J16 0) = K (pyv zw x4 g) := by
  rw [jn_e, bd_eq (at_k (nI_toInt (n := g) (by omega)) (by omega) (by decide))]
  unfold pyv
  by_cases c : x4 = -1
  · rw [if_pos c, if_pos c]
  · rw [if_neg c, if_neg c]
    by_cases d : nI g = x4
    · rw [if_pos d, if_pos d]
    · rw [if_neg d, if_neg d]
theorem gone_1 {f : Nat} {s : Int32} : bmf (gT (cst1 z f) 24) s F = bmf (gT z 24) s F := bm_cg F (fun g _ => by rw [c1_T, if_neg (by omega)])
theorem gone_2 {f : Nat} (hf : f < F) (h0 : gT z 24 (44 + 6 * f + 4) = 0) : bmf (gT (cst2 z f) 24) 1 F ||| bmf (gT (cst2 z f) 24) 2 F = (bmf (gT z 24) 1 F ||| bmf (gT z 24) 2 F) ||| 2 ^ f := by
  have e1 : bmf (gT (cst2 z f) 24) 1 F = bmf (gT z 24) 1 F ||| 2 ^ f := bm_set hf (fun j hj => by
    by_cases c : j = f
    · rw [c2_T, if_neg (by omega), if_pos (by omega)]
      exact ⟨fun _ => Or.inl c, fun _ => rfl⟩
    · rw [c2_T, if_neg (by omega), if_neg (by omega), if_neg (by omega)]
      exact ⟨fun q => Or.inr q, fun q => q.elim (fun k => absurd k c) id⟩)
  have e2 : bmf (gT (cst2 z f) 24) 2 F = bmf (gT z 24) 2 F := bm_cg F (fun j hj => by
    by_cases c : j = f
    · subst c
      rw [c2_T, if_neg (by omega), if_pos rfl, h0]
      exact ⟨fun q => by revert q; decide, fun q => by revert q; decide⟩
    · rw [c2_T, if_neg (by omega), if_neg (by omega), if_neg (by omega)])
  rw [e1, e2, Nat.or_assoc, Nat.or_comm (2 ^ f), ← Nat.or_assoc]
theorem row_run {p : Sx → Int64} {H : Nat → Sx → Prop} (hz5 : gI z5 6 = nI L)
    (hp0 : ∀ (n : Nat) (z : Sx) (g : Nat), H (n + 1) z → p (cst1 z g) = p z ∧ H n (cst1 z g))
    (hpn : ∀ (n : Nat) (z : Sx), H (n + 1) z → H n z)
    (hp1 : ∀ (n : Nat) (z : Sx) (g : Nat), GZr zw F L z → g < F → gT z 24 (44 + 6 * g + 4) = 0 → H (n + 1) z → p (cst2 z g) = p z + (pyv zw x4 g).toInt64 ∧ H n (cst2 z g)) :
    ∀ (n j dp : Nat) (z : Sx), j + n = L → n < dp → GZr zw F L z → (∀ i : Nat, i < L → gT z5 5 i = gT z 24 (10 + i)) → H n z → ∃ R, fX8_rowMean dp z8 z5 zw (nI j) (nI (bmf (gT z 24) 1 F ||| bmf (gT z 24) 2 F)) (gT z 24 3) x4 = some R ∧ MSv p n j z = R + p z * hh100 n := by
  intro n
  induction n with
  | zero =>
    intro j dp z hj hdp hz hrow hH
    obtain ⟨dp, rfl⟩ : ∃ k, dp = k + 1 := ⟨dp - 1, by omega⟩
    obtain ⟨hw, d0, dF, d8, dL, d7, dr⟩ := id hz
    refine ⟨0, ?_, ?_⟩
    · show gX8_rowMean (fX8_rowMean dp) z8 z5 zw (nI j) _ _ x4 = some 0
      unfold gX8_rowMean
      rw [hz5, if_pos (nI_le (by omega) (by omega))]
    · rw [ms_0]
      show p z = 0 + p z * 1
      rw [Int64.mul_one, Int64.zero_add]
  | succ n ih =>
    intro j dp z hj hdp hz hrow hH
    obtain ⟨dp, rfl⟩ : ∃ k, dp = k + 1 := ⟨dp - 1, by omega⟩
    obtain ⟨hw, d0, dF, d8, dL, d7, dr⟩ := id hz
    obtain ⟨g, hg, hr⟩ := dr j (by omega)
    have hFi : (gT z 24 0).toInt = F := by rw [d0, nI_toInt (by omega)]
    have er := rwf_eq hr (by omega)
    obtain ⟨r, o1, r01, o2, o3⟩ := can_k hz hg
    obtain ⟨b1, b2, b3, b4, b5, b6, b7, b8, b9, b10, b11⟩ := hw.2.2.2.2 g (by omega)
    have gi : (nI g).toInt = g := nI_toInt (by omega)
    have ea : fX8_at 8 (gT z5 5) (nI j) = some (nI g) := by rw [at_k (nI_toInt (n := j) (by omega)) (by omega) (by decide), hrow j (by omega), hr]
    have em : fX8_at 10 (gT zw 9) (nI g) = some (gT zw 9 g) := at_k gi (by omega) (by decide)
    have eo : fX8_at 10 (gT zw 10) (nI g) = some (gT zw 10 g) := at_k gi (by omega) (by decide)
    have j8 : nI j < 8 := (i32_lt _ _).2 (by rw [nI_toInt (by omega), show (8 : Int32).toInt = 8 by decide]; omega)
    have e1 : fX8_rowMean (dp + 1) z8 z5 zw (nI j) (nI (bmf (gT z 24) 1 F ||| bmf (gT z 24) 2 F)) (gT z 24 3) x4 = gX8_rowMean (fX8_rowMean dp) z8 z5 zw (nI j) (nI (bmf (gT z 24) 1 F ||| bmf (gT z 24) 2 F)) (gT z 24 3) x4 := rfl
    rw [e1]
    unfold gX8_rowMean
    rw [hz5, if_neg (nI_ge (by omega) (by omega)), if_pos j8, bd_eq ea, bd_eq em, bd_eq o1, nI_1, jn_e]
    by_cases cl : fX9_canLook z (nI (rwf z j)) = some 1
    · have cl2 := cl
      rw [er, o2] at cl2
      have cl2 := Option.some.inj cl2
      have c : ¬ r = 0 := fun u => by rw [if_pos u] at cl2; revert cl2; decide
      rw [if_neg c] at cl2
      have d : gT zw 9 g ≤ gT z 24 3 := by
        by_cases u : gT zw 9 g ≤ gT z 24 3
        · exact u
        · rw [if_neg u] at cl2; exact absurd cl2 (by decide)
      have h0 := o3 c
      have eL : (nI L - nI j) - 1 = nI n := Int32.toInt_inj.1 (by rw [i32_sub (i32_sub (nI_toInt (n := L) (by omega)) (nI_toInt (n := j) (by omega)) (by omega) (by omega)) (show (1 : Int32).toInt = 1 by decide) (by omega) (by omega), nI_toInt (by omega)]; omega)
      have eb : fX8_bit (nI g) = some (nI (2 ^ g)) := by
        unfold fX8_bit
        rw [bit_f ⟨g, by omega⟩]
      obtain ⟨a1, a2⟩ := hp0 n z g hH
      obtain ⟨a3, a4⟩ := hp1 n z g hz hg h0 hH
      obtain ⟨R2, q1, q2⟩ := ih (j + 1) dp (cst2 z g) (by omega) (by omega) (gzr_2 hz) (fun i hi => by rw [c2_T, if_neg (by omega), if_neg (by omega), if_neg (by omega)]; exact hrow i hi) a4
      obtain ⟨R1, q3, q4⟩ := ih (j + 1) dp (cst1 z g) (by omega) (by omega) (gzr_1 hz) (fun i hi => by rw [c1_T, if_neg (by omega)]; exact hrow i hi) a2
      have l2 : gT (cst2 z g) 24 3 = gT z 24 3 - gT zw 9 g := by rw [c2_T, if_neg (by omega), if_neg (by omega), if_pos rfl, b2]
      have l1 : gT (cst1 z g) 24 3 = gT z 24 3 - gT zw 9 g := by rw [c1_T, if_pos rfl, b2]
      rw [l2, gone_2 hg h0, ← or_n] at q1
      rw [l1, gone_1, gone_1] at q3
      refine ⟨(gT zw 10 g).toInt64 * ((pyv zw x4 g).toInt64 * hh100 n + R2) + (100 - gT zw 10 g).toInt64 * R1, ?_, ?_⟩
      · rw [if_neg c, if_pos d, bd_eq eo, jn_py (by omega), eL, bd_eq (hun8_eq (by omega)), bd_eq eb, bd_eq q1, bd_eq q3]
      · rw [ms_can cl, er, ← b3, q4, q2, a1, a3]
        exact l_row (l_c100 b7.1 b7.2) R1 R2 (p z) _ (hh100 n)
    · obtain ⟨R, q1, q2⟩ := ih (j + 1) dp z (by omega) (by omega) hz hrow (hpn n z hH)
      refine ⟨100 * R, ?_, ?_⟩
      · by_cases c : r = 0
        · rw [if_pos c, bd_eq q1]
        · have d : ¬ gT zw 9 g ≤ gT z 24 3 := fun u => cl (by rw [er, o2, if_neg c, if_pos u])
          rw [if_neg c, if_neg d, bd_eq q1]
      · rw [ms_not cl, q2]
        exact l_100 R (p z) (hh100 n) 100
/-- a fault that was found before: all ways together -/
theorem ms_found {f : Nat} (hf : f < 10) : ∀ (n j : Nat) (z : Sx), j + n = L → GZr zw F L z → gT z 24 (44 + 6 * f + 4) = 1 → MSv (fun z => (wv (nI f) z).toInt64) n j z = hh100 n := by
  intro n
  induction n with
  | zero =>
    intro j z _ hz h1
    rw [ms_0]
    have e : wv (nI f) z = 1 := by
      unfold wv
      rw [if_pos (nI_ge0 (by omega)), nI_clamp (by omega), if_pos h1]
    show (wv (nI f) z).toInt64 = 1
    rw [e]; rfl
  | succ n ih =>
    intro j z hj hz h1
    obtain ⟨hw, d0, dF, d8, dL, d7, dr⟩ := id hz
    obtain ⟨g, hg, hr⟩ := dr j (by omega)
    have hFi : (gT z 24 0).toInt = F := by rw [d0, nI_toInt (by omega)]
    have er := rwf_eq hr (by omega)
    obtain ⟨b1, b2, b3, b4, b5, b6, b7, -⟩ := hw.2.2.2.2 g (by omega)
    by_cases cl : fX9_canLook z (nI (rwf z j)) = some 1
    · have e1 := ih (j + 1) (cst1 z g) (by omega) (gzr_1 hz) (by rw [c1_T, if_neg (by omega)]; exact h1)
      have e2 := ih (j + 1) (cst2 z g) (by omega) (gzr_2 hz) (by
        rw [c2_T, if_neg (by omega)]
        by_cases c : 44 + 6 * f + 4 = 44 + 6 * g + 4
        · rw [if_pos c]
        · rw [if_neg c, if_neg (by omega)]; exact h1)
      rw [ms_can cl, er, e1, e2, ← b3]
      exact l_fnd (l_c100 b7.1 b7.2) (hh100 n)
    · rw [ms_not cl, ih (j + 1) z (by omega) hz h1, Int64.mul_comm]
      rfl
theorem part_one {h : Int64} (hp : 0 < h.toInt) : fX9_partOf h h x2 = some 1 := by
  have e0 : (0 : Int64).toInt = 0 := by decide
  have n0 : ¬ h = 0 := fun k => by rw [k, e0] at hp; omega
  have p0 : (0 : Int64) ≤ h := (i64_le _ _).2 (by rw [e0]; omega)
  have dv : h / h = 1 := by rw [Int64.div_self, if_neg n0]
  have ed : fX9_divisor h h = some h := by
    unfold fX9_divisor
    simp only [jn]
    rw [if_pos p0, if_pos p0, show FU = 18446744073709551614 + 1 + 1 from rfl, lX9_divisor_28, if_neg n0, gd_pos n0, dv, Int64.one_mul, Int64.sub_self, lX9_divisor_28, if_pos rfl]
  unfold fX9_partOf
  simp only [jn]
  rw [bd_eq ed, gd_pos n0, dv]
  by_cases c : x2 = 0
  · rw [if_pos c]
  · rw [if_neg c]
/-- the start of a ROW's reckoning -/
theorem gzr_start {z2 : Sx} (hw : WKT zw (gT z9 24)) (hd : DR zd (gT z9 24)) (hs : S5 z5 (gT z9 24)) (hI : RI z9) (e24 : gT z2 24 = gT z9 24) : ∃ F L : Nat, GZr zw F L z2 ∧ gI z5 6 = nI L ∧ L ≤ 8 ∧ (∀ i : Nat, i < L → gT z5 5 i = gT z2 24 (10 + i)) ∧ fX0_gone zd = some (nI (bmf (gT z2 24) 1 F ||| bmf (gT z2 24) 2 F)) ∧ gI zd 0 = gT z2 24 3 ∧ gI zd 2 = nI (bmf (gT z2 24) 1 F) ∧ gT z2 24 0 = nI F ∧ F ≤ 10 := by
  obtain ⟨F, d0, dF, d1, d2, d3, d4, d5, d6, d7, d8⟩ := id hd
  obtain ⟨s1, s2, s3, s4⟩ := hs
  have hFi : (gT z9 24 0).toInt = F := by rw [d0, nI_toInt (by omega)]
  obtain ⟨L, hL⟩ : ∃ L : Nat, (gT z9 24 8).toInt = L := ⟨(gT z9 24 8).toInt.toNat, by omega⟩
  have eL : gT z9 24 8 = nI L := Int32.toInt_inj.1 (by rw [hL, nI_toInt (by omega)])
  have so := hI.2.1.2.2.2.2.1
  refine ⟨F, L, ⟨by rw [e24]; exact hw, by rw [e24]; exact d0, dF, by rw [e24]; exact eL, by omega, by rw [e24]; exact d7, fun i hi => ?_⟩, s2.trans eL, by omega, fun i hi => by rw [e24]; exact s4 i (by omega), ?_, by rw [e24]; exact d1, by rw [e24]; exact d3, by rw [e24]; exact d0, dF⟩
  · obtain ⟨a, b⟩ := so i (by omega)
    refine ⟨(gT z9 24 (10 + i)).toInt.toNat, by omega, ?_⟩
    rw [e24]
    exact Int32.toInt_inj.1 (by rw [nI_toInt (by omega)]; omega)
  · unfold fX0_gone
    rw [d3, d4, or_n, e24]
theorem worth_k {y : Int64} {y9 : Int64 × Sx} (hw : WKT zw (gT z9 24)) (hd : DR zd (gT z9 24)) (hs : S5 z5 (gT z9 24)) (hI : RI z9) (hy : fX8_worth z8 z5 zw zd x1 = some y) (hy9 : fX9_worth z9 x1 = some y9) : y = y9.1 := by
  have i0 : (0 : Int32).toInt = 0 := by decide
  have i1 : (1 : Int32).toInt = 1 := by decide
  have b2 : fX9_in x1.toInt64 0 1 = some (if x1 < 0 then 0 else if 1 < x1 then 0 else 1) := in32t (l := 0) (h := 1) (by decide) (by decide)
  unfold fX8_worth fX8_hasWork at hy
  unfold fX9_worth fX9_isWork at hy9
  rw [hw.2.1.1] at hy
  have fin : some (-1 : Int64) = some y → some ((-1 : Int64), z9) = some y9 → y = y9.1 := fun a b => by rw [← Option.some.inj a, ← Option.some.inj b]
  by_cases c4 : gT z9 24 0 ≤ 0
  · rw [if_pos c4, bd_eq rfl, if_pos rfl] at hy hy9
    exact fin hy hy9
  rw [if_neg c4, bd_eq rfl, if_neg one0] at hy hy9
  rw [bd_eq b2] at hy9
  by_cases e3 : x1 < 0
  · rw [if_pos e3] at hy
    rw [if_pos e3, if_pos rfl] at hy9
    exact fin hy hy9
  rw [if_neg e3] at hy hy9
  by_cases e4 : x1 ≤ 1
  · rw [if_pos e4] at hy
    rw [if_neg (show ¬ 1 < x1 from fun q => by have a := bI_lt i1 rfl q; have b := bI_le rfl i1 e4; omega), if_neg one0] at hy9
    obtain ⟨z2, g1, g2, g3⟩ := t_fX9_keeps (z_t := z9) hI.2.1
    have e24 : gT z2 24 = gT z9 24 := (g2 24 (by decide)).2.1
    obtain ⟨F, L, hz, hz5, hL, hrow, eg, eleft, -, -, -⟩ := gzr_start hw hd hs hI e24
    have hk : ∀ i : Nat, i < 104 → gT z2 25 i = gT z2 24 i := fun i hi => by rw [e24]; exact g3 i hi
    have ep : ∀ z : Sx, wv (-1) z = gT z 24 4 - gT z 25 4 := fun z => by unfold wv; rw [if_neg (by decide)]
    obtain ⟨R, q1, q2⟩ := row_run (z8 := z8) (z5 := z5) (zw := zw) (F := F) (L := L) (x4 := -1) (p := fun z => (wv (-1) z).toInt64) (H := fun n z => ∃ q : Nat, gT z 24 4 - gT z 25 4 = nI q ∧ q + 99 * n ≤ 1000) hz5
      (fun n z g hH => by
        have e4 : gT (cst1 z g) 24 4 = gT z 24 4 := by rw [c1_T, if_neg (by omega)]
        have e25 : gT (cst1 z g) 25 = gT z 25 := tbz_25 (tbz_set tbz_rf (by omega))
        refine ⟨?_, ?_⟩
        · show (wv (-1) (cst1 z g)).toInt64 = (wv (-1) z).toInt64
          rw [ep, ep, e4, e25]
        · obtain ⟨q, h1, h2⟩ := hH
          exact ⟨q, by rw [e4, e25]; exact h1, by omega⟩)
      (fun n z hH => by
        obtain ⟨q, h1, h2⟩ := hH
        exact ⟨q, h1, by omega⟩)
      (fun n z g hz hg h0 hH => by
        obtain ⟨hw, d0, dF, d8, dL, d7, dr⟩ := id hz
        have hFi : (gT z 24 0).toInt = F := by rw [d0, nI_toInt (by omega)]
        obtain ⟨b1, b2, b3, b4, b5, b6, b7, b8, b9, -⟩ := hw.2.2.2.2 g (by omega)
        have ck := clampI (x := gT zw 8 g) b5.1
        obtain ⟨p1, p2, p3, p4, -⟩ := hw.2.2.2.1 (gT zw 8 g).toNatClampNeg (by omega)
        have e4 : gT (cst2 z g) 24 4 = gT z 24 4 + gT zw 12 g := by
          rw [c2_T, if_pos rfl, b9, p1]
          unfold kdx
          rw [b1]
        have e25 : gT (cst2 z g) 25 = gT z 25 := tbz_25 (tbz_set (tbz_set (tbz_set tbz_rf (by omega)) (by omega)) (by omega))
        obtain ⟨q, h1, h2⟩ := hH
        obtain ⟨t, ht⟩ : ∃ t : Nat, (gT zw 12 g).toInt = t := ⟨(gT zw 12 g).toInt.toNat, by rw [b9]; omega⟩
        have ht2 : t ≤ 99 := by rw [b9] at ht; omega
        have et : gT zw 12 g = nI t := Int32.toInt_inj.1 (by rw [ht, nI_toInt (by omega)])
        have es : gT (cst2 z g) 24 4 - gT (cst2 z g) 25 4 = nI (q + t) := by
          rw [e4, e25, ← nI_add, ← h1, ← et, Int32.sub_eq_add_neg, Int32.sub_eq_add_neg]
          ac_rfl
        refine ⟨?_, q + t, es, by omega⟩
        show (wv (-1) (cst2 z g)).toInt64 = (wv (-1) z).toInt64 + (pyv zw (-1) g).toInt64
        have ey : pyv zw (-1) g = nI t := by unfold pyv; rw [if_pos rfl]; exact et
        rw [ep, ep, es, h1, ey]
        have f1 : (nI q).toInt64.toInt = q := (Int32.toInt_toInt64 _).trans (nI_toInt (by omega))
        have f2 : (nI t).toInt64.toInt = t := (Int32.toInt_toInt64 _).trans (nI_toInt (by omega))
        refine Int64.toInt_inj.1 ?_
        rw [i64_add f1 f2 (by omega) (by omega), Int32.toInt_toInt64, nI_toInt (by omega)]
        omega)
      L 0 16 z2 (by omega) (by omega) hz hrow ⟨0, by rw [hk 4 (by omega), Int32.sub_self]; rfl, by omega⟩
    have p0 : (wv (-1) z2).toInt64 = 0 := by rw [ep, hk 4 (by omega), Int32.sub_self]; rfl
    have q2 : MSv (fun z => (wv (-1) z).toInt64) L 0 z2 = R := by
      rw [q2]
      show R + (wv (-1) z2).toInt64 * hh100 L = R
      rw [p0, Int64.zero_mul, Int64.add_zero]
    have em : fX9_meanOf z9 (-1) = some (R, z2) := by
      unfold fX9_meanOf
      rw [bd_eq g1, ← q2]
      exact mean_run (x1 := -1) (Or.inl rfl) hz hk (2 ^ L) 0 FU (Nat.sub_zero _) (Nat.zero_le _) (FU_lt (Nat.lt_of_le_of_lt (Nat.pow_le_pow_right (by decide) hL : 2 ^ L ≤ 2 ^ 8) (by decide)))
    have e8 : gT z2 24 8 = nI L := hz.2.2.2.1
    rw [bd2_eq em, e8, bd_eq (hun9_eq hL)] at hy9
    rw [show nI 0 = (0 : Int32) from rfl] at q1
    rw [bd_eq eg, eleft, bd_eq q1, hz5, bd_eq (hun8_eq hL)] at hy
    obtain ⟨w, ew, hy9⟩ := bd_some hy9
    have := h100_pos hL
    rw [bd_eq (partOf_eq (by omega) ew)] at hy
    rw [← Option.some.inj hy, ← Option.some.inj hy9]
  · rw [if_neg e4] at hy
    rw [if_pos (show 1 < x1 from (i32_lt _ _).2 (by have := bI_nle rfl i1 e4; rw [i1]; omega)), if_pos rfl] at hy9
    exact fin hy hy9
theorem seen_k {y : Int64} {y9 : Int64 × Sx} (hw : WKT zw (gT z9 24)) (hd : DR zd (gT z9 24)) (hs : S5 z5 (gT z9 24)) (hI : RI z9) (hy : fX8_seen z8 z5 zw zd x1 x2 = some y) (hy9 : fX9_seen z9 x1 x2 = some y9) : y = y9.1 := by
  have i0 : (0 : Int32).toInt = 0 := by decide
  have i1 : (1 : Int32).toInt = 1 := by decide
  have b2 : fX9_in x2.toInt64 0 1 = some (if x2 < 0 then 0 else if 1 < x2 then 0 else 1) := in32t (l := 0) (h := 1) (by decide) (by decide)
  obtain ⟨F0, d00, dF0, -⟩ := id hd
  have hFi0 : (gT z9 24 0).toInt = F0 := by rw [d00, nI_toInt (by omega)]
  unfold fX8_seen fX8_isFault at hy
  unfold fX9_seen fX9_isFault at hy9
  rw [hw.2.1.1] at hy
  have fin : some (-1 : Int64) = some y → some ((-1 : Int64), z9) = some y9 → y = y9.1 := fun a b => by rw [← Option.some.inj a, ← Option.some.inj b]
  by_cases c1 : x1 < 0
  · rw [if_pos c1, bd_eq rfl, if_pos rfl] at hy hy9
    exact fin hy hy9
  rw [if_neg c1] at hy hy9
  by_cases c2 : gT z9 24 0 ≤ x1
  · rw [if_pos c2, bd_eq rfl, if_pos rfl] at hy hy9
    exact fin hy hy9
  rw [if_neg c2, bd_eq rfl, if_neg one0] at hy hy9
  rw [bd_eq b2] at hy9
  by_cases e3 : x2 < 0
  · rw [if_pos e3] at hy
    rw [if_pos e3, if_pos rfl] at hy9
    exact fin hy hy9
  rw [if_neg e3] at hy hy9
  by_cases e4 : x2 ≤ 1
  · rw [if_pos e4] at hy
    rw [if_neg (show ¬ 1 < x2 from fun q => by have a := bI_lt i1 rfl q; have b := bI_le rfl i1 e4; omega), if_neg one0] at hy9
    have c1i := bI_nlt rfl i0 c1
    have c2i := bI_nle hFi0 rfl c2
    obtain ⟨f, hf⟩ : ∃ f : Nat, x1.toInt = f := ⟨x1.toInt.toNat, by omega⟩
    have ex : x1 = nI f := Int32.toInt_inj.1 (by rw [hf, nI_toInt (by omega)])
    subst ex
    obtain ⟨z2, g1, g2, g3⟩ := t_fX9_keeps (z_t := z9) hI.2.1
    have e24 : gT z2 24 = gT z9 24 := (g2 24 (by decide)).2.1
    obtain ⟨F, L, hz, hz5, hL, hrow, eg, eleft, ef, e0F, dF⟩ := gzr_start hw hd hs hI e24
    have eF : F = F0 := (nI_eq (by omega) (by omega)).1 (e0F.symm.trans (by rw [e24]; exact d00))
    have hfF : f < F := by omega
    have hk : ∀ i : Nat, i < 104 → gT z2 25 i = gT z2 24 i := fun i hi => by rw [e24]; exact g3 i hi
    have hb1 : bmf (gT z2 24) 1 F < 1024 := bm_1024 dF
    have e8 : gT z2 24 8 = nI L := hz.2.2.2.1
    have hh : fX8_has (gI zd 2) (nI f) = some (if gT z2 24 (44 + 6 * f + 4) = 1 then 1 else 0) := by
      rw [ef, has_n hb1 (by omega), bm_bit]
      by_cases u : gT z2 24 (44 + 6 * f + 4) = 1
      · rw [decide_eq_true ⟨hfF, u⟩, if_pos rfl, if_pos u]
      · rw [decide_eq_false (fun v => u v.2), if_neg (by decide), if_neg u]
    have em : fX9_meanOf z9 (nI f) = some (MSv (fun z => (wv (nI f) z).toInt64) L 0 z2, z2) := by
      unfold fX9_meanOf
      rw [bd_eq g1]
      exact mean_run (x1 := nI f) (Or.inr ⟨f, by omega, rfl⟩) hz hk (2 ^ L) 0 FU (Nat.sub_zero _) (Nat.zero_le _) (FU_lt (Nat.lt_of_le_of_lt (Nat.pow_le_pow_right (by decide) hL : 2 ^ L ≤ 2 ^ 8) (by decide)))
    have hp := h100_pos hL
    rw [bd2_eq em, e8, bd_eq (hun9_eq hL)] at hy9
    rw [bd_eq hh] at hy
    have ep : ∀ z : Sx, wv (nI f) z = if gT z 24 (44 + 6 * f + 4) = 1 then 1 else 0 := fun z => by unfold wv; rw [if_pos (nI_ge0 (by omega)), nI_clamp (by omega)]
    by_cases u : gT z2 24 (44 + 6 * f + 4) = 1
    · rw [if_pos u, if_neg one0] at hy
      rw [ms_found (zw := zw) (F := F) (L := L) (show f < 10 by omega) L 0 z2 (by omega) hz u, bd_eq (part_one hp)] at hy9
      rw [← Option.some.inj hy, ← Option.some.inj hy9]
    · rw [if_neg u, if_pos rfl] at hy
      have nm1 : ¬ nI f = -1 := fun k => by
        have := congrArg Int32.toInt k
        rw [nI_toInt (by omega), show (-1 : Int32).toInt = -1 by decide] at this
        omega
      obtain ⟨R, q1, q2⟩ := row_run (z8 := z8) (z5 := z5) (zw := zw) (F := F) (L := L) (x4 := nI f) (p := fun z => (wv (nI f) z).toInt64) (H := fun _ _ => True) hz5
        (fun n z g _ => by
          refine ⟨?_, trivial⟩
          show (wv (nI f) (cst1 z g)).toInt64 = (wv (nI f) z).toInt64
          have e : gT (cst1 z g) 24 (44 + 6 * f + 4) = gT z 24 (44 + 6 * f + 4) := by rw [c1_T, if_neg (by omega)]
          rw [ep, ep, e])
        (fun n z _ => trivial)
        (fun n z g hz hg h0 _ => by
          refine ⟨?_, trivial⟩
          show (wv (nI f) (cst2 z g)).toInt64 = (wv (nI f) z).toInt64 + (pyv zw (nI f) g).toInt64
          unfold pyv
          rw [ep, ep, c2_T, if_neg nm1, if_neg (show ¬ 44 + 6 * f + 4 = 4 by omega)]
          by_cases c : g = f
          · subst c
            rw [if_pos rfl, if_pos rfl, if_pos rfl, h0]
            rfl
          · rw [if_neg (show ¬ 44 + 6 * f + 4 = 44 + 6 * g + 4 by omega), if_neg (show ¬ 44 + 6 * f + 4 = 3 by omega), if_neg (show ¬ nI g = nI f from fun k => c ((nI_eq (by omega) (by omega)).1 k))]
            show _ = _ + 0
            rw [Int64.add_zero])
        L 0 16 z2 (by omega) (by omega) hz hrow trivial
      have p0 : (wv (nI f) z2).toInt64 = 0 := by rw [ep, if_neg u]; rfl
      have q2 : MSv (fun z => (wv (nI f) z).toInt64) L 0 z2 = R := by
        rw [q2]
        show R + (wv (nI f) z2).toInt64 * hh100 L = R
        rw [p0, Int64.zero_mul, Int64.add_zero]
      rw [q2] at hy9
      rw [show nI 0 = (0 : Int32) from rfl] at q1
      rw [bd_eq eg, eleft, bd_eq q1, hz5, bd_eq (hun8_eq hL)] at hy
      obtain ⟨w, ew, hy9⟩ := bd_some hy9
      rw [bd_eq (partOf_eq (by omega) ew)] at hy
      rw [← Option.some.inj hy, ← Option.some.inj hy9]
  · rw [if_neg e4] at hy
    rw [if_pos (show 1 < x2 from (i32_lt _ _).2 (by have := bI_nle rfl i1 e4; rw [i1]; omega)), if_pos rfl] at hy9
    exact fin hy hy9
end S20

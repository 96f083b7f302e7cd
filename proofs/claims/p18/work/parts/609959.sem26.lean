/-! BEST and MASTER, on both sides. -/
theorem bit_g : ∀ g : Fin 11, ((1 : Int32) <<< (nI g.val &&& 31)) = nI (2 ^ g.val) := by decide +kernel
theorem bit_G {F : Nat} (h : F ≤ 10) : ((1 : Int32) <<< (nI F &&& 31)) = nI (2 ^ F) := bit_g ⟨F, by omega⟩
theorem p2_1024 {F : Nat} (h : F ≤ 10) : 2 ^ F ≤ 1024 := show 2 ^ F ≤ 2 ^ 10 from Nat.pow_le_pow_right (by decide) h
theorem gn_mk {T T2 : Nat → Int32} {F s : Nat} (hs0 : ∀ j : Nat, s.testBit j = true → j < F ∧ T (44 + 6 * j + 4) = 0) (hst : ∀ j : Nat, T2 (44 + 6 * j + 4) = if j < F ∧ s.testBit j = true then 2 else T (44 + 6 * j + 4)) : bs_gn T2 F = bs_gn T F ||| s := by
  refine Nat.eq_of_testBit_eq (fun j => ?_)
  unfold bs_gn
  rw [Nat.testBit_or, Nat.testBit_or, Nat.testBit_or, bm_bit, bm_bit, bm_bit, bm_bit, hst j]
  by_cases c : j < F ∧ s.testBit j = true
  · rw [if_pos c, c.2, Bool.or_true, decide_eq_true (show j < F ∧ (2 : Int32) = 2 from ⟨c.1, rfl⟩), Bool.or_true]
  · rw [if_neg c]
    have q : s.testBit j = false := by
      cases w : s.testBit j with
      | false => rfl
      | true => exact absurd ⟨(hs0 j w).1, w⟩ c
    rw [q, Bool.or_false]
section S26
variable {zw zd z5 z8 z9 z z2 : Sx} {F L m : Nat} {K : Sx → Prop} {x1 x2 : Int32}
theorem pb_all {y : Sx} : ∃ z2, fX9_putsBack y = some z2 ∧ (∀ i : Nat, gT z2 24 i = if i < 104 then gT y 25 i else gT y 24 i) ∧ gT z2 25 = gT y 25 ∧ gT z2 32 = gT y 32 ∧ gJ z2 30 = gJ y 30 ∧ gJ z2 31 = gJ y 31 := by
  refine ⟨_, pb_run 104 0 FU y (by omega) (by omega) (FU_lt (by omega)), fun i => ?_, rfl, rfl, rfl, rfl⟩
  rw [gT_sTf]
  by_cases c : i < 104
  · rw [if_pos ⟨by omega, c⟩, if_pos c]
  · rw [if_neg (fun u => c u.2), if_neg c]
/-- what the reference reckons for one set -/
theorem set_ref {k9 : Sx → Int64 → Option (Int64 × Sx)} {s : Nat} {x4 x5 : Int32} {x6 : Int64} {T : Nat → Int32} (hm : m ≤ 5) (hb : BW zw F) (hz : GZr zw F L z) (hT : gT z 24 = T) (h25 : ∀ i : Nat, i < 104 → gT z 25 i = T i) (h0 : 0 ≤ (T 3).toInt) (h1 : (T 3).toInt ≤ 480) (hs : s < 1024) (hs0 : ∀ j : Nat, s.testBit j = true → j < F ∧ T (44 + 6 * j + 4) = 0) : ∃ z43 z46 z48, lX9_master_141 k9 (nI m) x2 x4 x5 x6 (nI s) FU z 0 0 = k9 z43 (bs_md zw s F).toInt64 ∧ fX9_goesThrough z43 (nI m) = some z46 ∧ fX9_putsBack z46 = some z48 ∧ gT z48 24 = T ∧ gT z48 25 = gT z 25 ∧ gJ z48 31 0 = bs_HM zw F m (bs_gn T F ||| s) (T 3).toInt := by
  obtain ⟨hw, d0, dF, d8, dL, d7, dr⟩ := id hz
  have d0T : T 0 = nI F := by rw [← hT]; exact d0
  obtain ⟨y, r1, r2, r3, r4⟩ := mk_run (k9 := k9) (x1 := nI m) (x2 := x2) (x4 := x4) (x5 := x5) (x6 := x6) hz hT hs hs0 F 0 FU z (by omega) (by omega) (FU_lt (by omega)) rfl (fun j => by rw [hT, if_neg (fun u => by omega)]) (fun i _ => by rw [hT])
  have yG : GZr zw F L y := by
    refine ⟨wkt_eq hw (fun i hi _ _ _ => ?_), ?_, dF, ?_, dL, fun j hj => ?_, fun i hi => ?_⟩
    · rw [r4 i (fun j _ u => hi.2.1 (by unfold DY; omega)), ← hT]
    · rw [r4 0 (fun j _ => by omega)]; exact d0T
    · rw [r4 8 (fun j _ => by omega), ← hT]; exact d8
    · rw [r3]
      by_cases v : j < F ∧ s.testBit j = true
      · rw [if_pos v]; exact Or.inr (Or.inr rfl)
      · rw [if_neg v, ← hT]; exact d7 j hj
    · rw [r4 (10 + i) (fun j _ => by omega), ← hT]; exact dr i hi
  have e3 : gT y 24 3 = T 3 := r4 3 (fun j _ => by omega)
  obtain ⟨z46, g1, g2, g3, -, g5, -⟩ := go_eq hm hb yG (by rw [e3]; exact h0) (by rw [e3]; exact h1)
  rw [gn_mk hs0 r3, e3] at g5
  obtain ⟨z48, p1, p2, p3, -, -, p6⟩ := pb_all (y := z46)
  refine ⟨y, z46, z48, r1, g1, p1, funext (fun i => ?_), p3.trans (g3.trans r2), by rw [p6]; exact g5⟩
  rw [p2]
  by_cases c : i < 104
  · rw [if_pos c, g3, r2]; exact h25 i c
  · rw [if_neg c, g2]; exact r4 i (fun j _ => by omega)
/-- sets beyond the least faults are passed over -/
theorem rs_run {k9 : Sx → Int32 → Int64 → Option (Int64 × Sx)} {C : Nat} {x5 : Int32} {x6 : Int64} (hF : F ≤ 10) (hC : C < 1024) (h0 : gT z 24 0 = nI F) : ∀ (q s n : Nat), 2 ^ F - s = q → C < s → s ≤ 2 ^ F → q < n → lX9_master_109 k9 x1 x2 (nI C) n z x5 x6 (nI s) = k9 z x5 x6 := by
  have hp := p2_1024 hF
  intro q
  induction q with
  | zero =>
    intro s n hq hs h2 hn
    obtain ⟨n, rfl⟩ : ∃ k, n = k + 1 := ⟨n - 1, by omega⟩
    rw [lX9_master_109, h0, bit_G hF, if_pos (nI_le (by omega) (by omega))]
  | succ q ih =>
    intro s n hq hs h2 hn
    obtain ⟨n, rfl⟩ : ∃ k, n = k + 1 := ⟨n - 1, by omega⟩
    have c : ¬ (nI s &&& (nI C ^^^ (-1))) = 0 := fun u => by
      have := sub_n (by omega) hC u
      have h3 : s &&& C ≤ C := Nat.and_le_right
      omega
    rw [lX9_master_109, h0, bit_G hF, if_neg (nI_ge (by omega) (by omega)), jn_e, if_neg c, nI_1]
    exact ih (s + 1) n (by omega) (by omega) (by omega) (by omega)
theorem wg_run {S : Nat} {T : Nat → Int32} {k9 : Sx → Int32 → Int64 → Option (Int64 × Sx)} (hk : K zw) (huq : ∀ v w : Sx, K v → K w → gI v 0 = gI w 0 → v = w) (hb : BW zw F) (hS : gI zw 0 = nI S) (hS5 : S ≤ 513) (hm : m ≤ 5) (h0 : 0 ≤ (T 3).toInt) (h1 : (T 3).toInt ≤ 480) (d7 : ∀ g : Nat, g < F → T (44 + 6 * g + 4) = 0 ∨ T (44 + 6 * g + 4) = 1 ∨ T (44 + 6 * g + 4) = 2) : ∀ (q s n8 n9 : Nat) (zc zr : Sx) (b : Nat) (w : Int64), bs_lf (bs_gn T F) F + 1 - s = q → 1 ≤ s → s ≤ bs_lf (bs_gn T F) F + 1 → q < n8 → 2 ^ F - s < n9 → b < 1024 → gI zc 2 = nI b → gJ zc 3 0 = w → BT K zc → GZr zw F L zr → gT zr 24 = T → (∀ i : Nat, i < 104 → gT zr 25 i = T i) → ∃ (zc2 zr2 : Sx) (b2 : Nat) (w2 : Int64), lX1_weighSets_29 zw (nI m) (nI (bs_gn T F)) (T 3) (nI (bs_lf (bs_gn T F) F)) n8 zc (nI s) = some zc2 ∧ gI zc2 2 = nI b2 ∧ gJ zc2 3 0 = w2 ∧ BT K zc2 ∧ lX9_master_109 k9 (nI m) x2 (nI (bs_lf (bs_gn T F) F)) n9 zr (nI b) w (nI s) = k9 zr2 (nI b2) w2 := by
  have hF := hb.2.1
  have hp := p2_1024 hF
  have ha : bs_gn T F < 1024 := gn_1024 hF
  have hC : bs_lf (bs_gn T F) F < 1024 := lf_1024 hF
  have hC2 : bs_lf (bs_gn T F) F < 2 ^ F := lf_lt _ F
  intro q
  induction q with
  | zero =>
    intro s n8 n9 zc zr b w hq hs1 hs hn8 hn9 hb10 hc2 hc3 hBT hz hT h25
    obtain ⟨n8, rfl⟩ : ∃ k, n8 = k + 1 := ⟨n8 - 1, by omega⟩
    refine ⟨zc, zr, b, w, ?_, hc2, hc3, hBT, ?_⟩
    · rw [lX1_weighSets_29, if_pos (nI_lt (by omega) (by omega))]
    · exact rs_run hF hC (by rw [hz.2.1]) (2 ^ F - s) s n9 rfl (by omega) (by omega) hn9
  | succ q ih =>
    intro s n8 n9 zc zr b w hq hs1 hs hn8 hn9 hb10 hc2 hc3 hBT hz hT h25
    obtain ⟨n8, rfl⟩ : ∃ k, n8 = k + 1 := ⟨n8 - 1, by omega⟩
    obtain ⟨n9, rfl⟩ : ∃ k, n9 = k + 1 := ⟨n9 - 1, by omega⟩
    rw [lX1_weighSets_29, if_neg (nI_nlt (by omega) (by omega)), jn_e, lX9_master_109, hz.2.1, bit_G hF, if_neg (nI_ge (by omega) (by omega)), jn_e, nI_1]
    by_cases c : (nI s &&& (nI (bs_lf (bs_gn T F) F) ^^^ (-1))) = 0
    · have hsC := sub_n (by omega) hC c
      have hs0 : ∀ j : Nat, s.testBit j = true → j < F ∧ T (44 + 6 * j + 4) = 0 := fun j hj => by
        have h2 : (bs_lf (bs_gn T F) F).testBit j = true := by
          have := congrArg (fun v => Nat.testBit v j) hsC
          simp only [Nat.testBit_and] at this
          rw [hj, Bool.true_and] at this
          exact this
        obtain ⟨h3, h4⟩ := lf_bit F h2
        refine ⟨h3, ?_⟩
        have e3 : (bs_gn T F).testBit j = decide (¬ T (44 + 6 * j + 4) = 0) := gone_bit h3 (d7 j h3)
        rw [e3] at h4
        by_cases w : T (44 + 6 * j + 4) = 0
        · exact w
        · exact absurd w (of_decide_eq_false h4)
      have has : bs_gn T F ||| s < 1024 := Nat.or_lt_two_pow (n := 10) ha (show s < 2 ^ 10 by omega)
      obtain ⟨z12, r1, r2⟩ := hm_run hk huq hb hS hS5 m 16 (bs_gn T F ||| s) zc (T 3) (by omega) hm has h0 h1 hBT
      have f12q := ok_get (t_fX1_hiddenMean 16 zc zw (nI m) (nI (bs_gn T F ||| s)) (T 3) ⟨by rw [nI_toInt (by omega)]; omega, by rw [nI_toInt (by omega)]; omega, by rw [nI_toInt (by omega)]; omega⟩) r1
      have f12 : FrL [0, 1] zc z12 := f12q
      have e2 : gI z12 2 = nI b := (f12 2 (by decide)).1.trans hc2
      have e3 : gJ z12 3 0 = w := by rw [(f12 3 (by decide)).2.2]; exact hc3
      obtain ⟨z43, z46, z48, s1, s2, s3, s4, s5, s6⟩ := set_ref (k9 := fun (z43 : Sx) (i44 : Int64) => bd (fX9_goesThrough z43 (nI m)) (fun z46 => bd (fX9_putsBack z46) (fun z48 => bd (fX9_hundreds (nI m)) (fun r50 => jn (lX9_master_109 k9 (nI m) x2 (nI (bs_lf (bs_gn T F) F)) n9 z48 (nI s) ((gJ z48 31 0) - (i44 * r50)) (nI (s + 1))) (fun J51 => if nI b < 0 then J51 else if ((gJ z48 31 0) - (i44 * r50)) < w then lX9_master_109 k9 (nI m) x2 (nI (bs_lf (bs_gn T F) F)) n9 z48 (nI b) w (nI (s + 1)) else if ((gJ z48 31 0) - (i44 * r50)) = w then bd (fX9_bits (nI s)) (fun r56 => bd (fX9_bits (nI b)) (fun r58 => if r56 < r58 then J51 else lX9_master_109 k9 (nI m) x2 (nI (bs_lf (bs_gn T F) F)) n9 z48 (nI b) w (nI (s + 1)))) else J51))))) (x2 := x2) (x4 := nI (bs_lf (bs_gn T F) F)) (x5 := nI b) (x6 := w) (s := s) hm hb hz hT h25 h0 h1 (by omega) hs0
      rw [if_pos c, if_pos c, or_n, bd2_eq r1, bd_eq (md_eq (by omega) hb), bd_eq (hun8_eq (by omega)), bd_eq (bcn_eq (show s < 1024 by omega)).1, e2, bd_eq (bcn_eq hb10).1, e3, s1, bd_eq s2, bd_eq s3, bd_eq (hun9_eq (by omega)), s6, jn_e, jn_e, if_neg (nI_pos (by omega))]
      have hz48 : GZr zw F L z48 := gzr_24 hz (s4.trans hT.symm)
      have h48 : ∀ i : Nat, i < 104 → gT z48 25 i = T i := fun i hi => by rw [s5]; exact h25 i hi
      have new := ih (s + 1) n8 n9 (sJ (sI z12 2 (nI s)) 3 0 (bs_HM zw F m (bs_gn T F ||| s) (T 3).toInt - (bs_md zw s F).toInt64 * hh100 m)) z48 s (bs_HM zw F m (bs_gn T F ||| s) (T 3).toInt - (bs_md zw s F).toInt64 * hh100 m) (by omega) (by omega) (by omega) (by omega) (by omega) (by omega) rfl rfl (bt_3 (bt_2 r2)) hz48 s4 h48
      have old := ih (s + 1) n8 n9 z12 z48 b w (by omega) (by omega) (by omega) (by omega) (by omega) hb10 e2 e3 r2 hz48 s4 h48
      by_cases q1 : w < bs_HM zw F m (bs_gn T F ||| s) (T 3).toInt - (bs_md zw s F).toInt64 * hh100 m
      · have q1i := (i64_lt _ _).1 q1
        have n1 : ¬ bs_HM zw F m (bs_gn T F ||| s) (T 3).toInt - (bs_md zw s F).toInt64 * hh100 m < w := fun u => by have := (i64_lt _ _).1 u; omega
        have n2 : ¬ bs_HM zw F m (bs_gn T F ||| s) (T 3).toInt - (bs_md zw s F).toInt64 * hh100 m = w := fun u => by rw [u] at q1i; omega
        rw [if_neg n1, if_neg n2]
        by_cases q3 : bcn b ≤ bcn s
        · rw [if_pos q3]; dsimp only [jn]; rw [if_pos q1]; exact new
        · rw [if_neg q3]; dsimp only [jn]; rw [if_pos q1]; exact new
      · by_cases q2 : bs_HM zw F m (bs_gn T F ||| s) (T 3).toInt - (bs_md zw s F).toInt64 * hh100 m = w
        · have n1 : ¬ bs_HM zw F m (bs_gn T F ||| s) (T 3).toInt - (bs_md zw s F).toInt64 * hh100 m < w := fun u => by rw [q2] at u; have := (i64_lt _ _).1 u; omega
          rw [if_neg n1, if_pos q2, bd_eq (bcn_eq (show s < 1024 by omega)).2, bd_eq (bcn_eq hb10).2]
          by_cases q3 : bcn b ≤ bcn s
          · rw [if_pos q3]; dsimp only [jn]; rw [if_neg q1, if_pos q2, if_pos rfl, if_neg (fun u => by have a := bI_lt rfl rfl u; have b := bI_le rfl rfl q3; omega)]
            exact old
          · rw [if_neg q3]; dsimp only [jn]; rw [if_neg q1, if_pos q2, if_neg one0, if_pos ((i32_lt _ _).2 (bI_nle rfl rfl q3))]
            exact new
        · have n1 : bs_HM zw F m (bs_gn T F ||| s) (T 3).toInt - (bs_md zw s F).toInt64 * hh100 m < w := (i64_lt _ _).2 (by
            have a : ¬ w.toInt < (bs_HM zw F m (bs_gn T F ||| s) (T 3).toInt - (bs_md zw s F).toInt64 * hh100 m).toInt := fun u => q1 ((i64_lt _ _).2 u)
            have b : ¬ (bs_HM zw F m (bs_gn T F ||| s) (T 3).toInt - (bs_md zw s F).toInt64 * hh100 m).toInt = w.toInt := fun u => q2 (Int64.toInt_inj.1 u)
            omega)
          rw [if_pos n1]
          by_cases q3 : bcn b ≤ bcn s
          · rw [if_pos q3]; dsimp only [jn]; rw [if_neg q1, if_neg q2]; exact old
          · rw [if_neg q3]; dsimp only [jn]; rw [if_neg q1, if_neg q2]; exact old
    · rw [if_neg c, if_neg c]
      exact ih (s + 1) n8 n9 zc zr b w (by omega) (by omega) (by omega) (by omega) (by omega) hb10 hc2 hc3 hBT hz hT h25
/-- both reckon BEST alike -/
theorem best_k {S : Nat} {z1 : Sx} {y y9 : Int64 × Sx} (hw : WKT zw (gT z9 24)) (hd : DR zd (gT z9 24)) (hs : S5 z5 (gT z9 24)) (hI : RI z9) (h0 : 0 ≤ (gT z9 24 3).toInt) (h1 : (gT z9 24 3).toInt ≤ 480) (hk : K zw) (huq : ∀ v w : Sx, K v → K w → gI v 0 = gI w 0 → v = w) (hb : BW zw F) (hS : gI zw 0 = nI S) (hS5 : S ≤ 513) (hBT : BT K z1) (hy : fX8_best z8 z5 zw zd z1 x1 x2 = some y) (hy9 : fX9_best z9 x1 x2 = some y9) : y.1 = y9.1 ∧ BT K y.2 := by
  have i0 : (0 : Int32).toInt = 0 := by decide
  have i2 : (2 : Int32).toInt = 2 := by decide
  have i5 : (5 : Int32).toInt = 5 := by decide
  have b1 : fX9_in x1.toInt64 0 5 = some (if x1 < 0 then 0 else if 5 < x1 then 0 else 1) := in32t (l := 0) (h := 5) (by decide) (by decide)
  have b2 : fX9_in x2.toInt64 0 2 = some (if x2 < 0 then 0 else if 2 < x2 then 0 else 1) := in32t (l := 0) (h := 2) (by decide) (by decide)
  unfold fX8_best fX8_hasWork at hy
  unfold fX9_best fX9_isWork at hy9
  rw [hw.2.1.1] at hy
  have fin : some ((-1 : Int64), z1) = some y → some ((-1 : Int64), z9) = some y9 → y.1 = y9.1 ∧ BT K y.2 := fun a b => by rw [← Option.some.inj a, ← Option.some.inj b]; exact ⟨rfl, hBT⟩
  by_cases c4 : gT z9 24 0 ≤ 0
  · rw [if_pos c4, bd_eq rfl, if_pos rfl] at hy hy9
    exact fin hy hy9
  rw [if_neg c4, bd_eq rfl, if_neg one0] at hy hy9
  rw [bd_eq b1] at hy9
  by_cases e1 : x1 < 0
  · rw [if_pos e1] at hy
    rw [if_pos e1, if_pos rfl] at hy9
    exact fin hy hy9
  rw [if_neg e1] at hy hy9
  by_cases e2 : 5 < x1
  · rw [if_pos e2] at hy
    rw [if_pos e2, if_pos rfl] at hy9
    exact fin hy hy9
  rw [if_neg e2] at hy
  rw [if_neg e2, if_neg one0, bd_eq b2] at hy9
  by_cases e3 : x2 < 0
  · rw [if_pos e3] at hy
    rw [if_pos e3, if_pos rfl] at hy9
    exact fin hy hy9
  rw [if_neg e3] at hy hy9
  by_cases e4 : x2 ≤ 2
  · rw [if_pos e4] at hy
    rw [if_neg (show ¬ 2 < x2 from fun q => by have a := bI_lt i2 rfl q; have b := bI_le rfl i2 e4; omega), if_neg one0] at hy9
    have c1i := bI_nlt rfl i0 e1
    have c2i := bI_nlt i5 rfl e2
    obtain ⟨n, hn⟩ : ∃ n : Nat, x1.toInt = n := ⟨x1.toInt.toNat, by omega⟩
    have ex : x1 = nI n := Int32.toInt_inj.1 (by rw [hn, nI_toInt (by omega)])
    subst ex
    have hn5 : n ≤ 5 := by omega
    obtain ⟨zk, g1, g2, g3⟩ := t_fX9_keeps (z_t := z9) hI.2.1
    have e24 : gT zk 24 = gT z9 24 := (g2 24 (by decide)).2.1
    obtain ⟨G, L, hz, hz5, hL, hrow, eg, eleft, ef, e0F, dF⟩ := gzr_start hw hd hs hI e24
    have eG : F = G := (nI_eq (by have := hb.2.1; omega) (by omega)).1 (hb.1.symm.trans (hw.2.1.1.trans (by rw [← e24]; exact e0F)))
    subst eG
    have l0 : 0 ≤ (gT zk 24 3).toInt := by rw [e24]; exact h0
    have l1 : (gT zk 24 3).toInt ≤ 480 := by rw [e24]; exact h1
    have ha : bs_gn (gT zk 24) F < 1024 := gn_1024 dF
    have eg : fX0_gone zd = some (nI (bs_gn (gT zk 24) F)) := eg
    obtain ⟨z13, r1, r2, r3, r4, r5, r6⟩ := go_eq hn5 hb hz l0 l1
    obtain ⟨z15, p1, p2, p3, p4, p5, p6⟩ := pb_all (y := z13)
    rw [bd_eq g1, bd_eq r1, bd_eq p1, p4, p5, r6, r4] at hy9
    rw [bd_eq eg, eleft] at hy
    by_cases e5 : x2 = 2
    · rw [if_pos e5] at hy hy9
      obtain ⟨z20, q1, q2⟩ := ch_run hk huq hb hS hS5 hn5 ha l0 l1 hBT
      rw [bd2_eq q1] at hy
      rw [← Option.some.inj hy, ← Option.some.inj hy9]
      exact ⟨rfl, q2⟩
    · rw [if_neg e5] at hy hy9
      obtain ⟨z20, q1, q2⟩ := me_run hk huq hb hS hS5 n 16 _ z1 _ (by omega) hn5 ha l0 l1 hBT
      rw [bd2_eq q1, bd_eq (hun8_eq (by omega))] at hy
      rw [bd_eq (hun9_eq (by omega))] at hy9
      obtain ⟨w, ew, hy9⟩ := bd_some hy9
      have := h100_pos (show n ≤ 8 by omega)
      rw [bd_eq (partOf_eq (by omega) ew)] at hy
      rw [← Option.some.inj hy, ← Option.some.inj hy9]
      exact ⟨rfl, q2⟩
  · rw [if_neg e4] at hy
    rw [if_pos (show 2 < x2 from (i32_lt _ _).2 (by have := bI_nle rfl i2 e4; rw [i2]; omega)), if_pos rfl] at hy9
    exact fin hy hy9
/-- both reckon MASTER alike -/
theorem master_k {S : Nat} {z1 : Sx} {y y9 : Int64 × Sx} (hw : WKT zw (gT z9 24)) (hd : DR zd (gT z9 24)) (hs : S5 z5 (gT z9 24)) (hI : RI z9) (h0 : 0 ≤ (gT z9 24 3).toInt) (h1 : (gT z9 24 3).toInt ≤ 480) (hk : K zw) (huq : ∀ v w : Sx, K v → K w → gI v 0 = gI w 0 → v = w) (hb : BW zw F) (hS : gI zw 0 = nI S) (hS5 : S ≤ 513) (hBT : BT K z1) (hy : fX8_master z8 z5 zw zd z1 x1 x2 = some y) (hy9 : fX9_master z9 x1 x2 = some y9) : y.1 = y9.1 ∧ BT K y.2 := by
  have i0 : (0 : Int32).toInt = 0 := by decide
  have i2 : (2 : Int32).toInt = 2 := by decide
  have i4 : (4 : Int32).toInt = 4 := by decide
  have b1 : fX9_in x1.toInt64 0 4 = some (if x1 < 0 then 0 else if 4 < x1 then 0 else 1) := in32t (l := 0) (h := 4) (by decide) (by decide)
  have b2 : fX9_in x2.toInt64 0 2 = some (if x2 < 0 then 0 else if 2 < x2 then 0 else 1) := in32t (l := 0) (h := 2) (by decide) (by decide)
  unfold fX8_master fX8_hasWork at hy
  unfold fX9_master fX9_isWork at hy9
  rw [hw.2.1.1] at hy
  have fin : some ((-1000000000000 : Int64), z1) = some y → some ((-1000000000000 : Int64), z9) = some y9 → y.1 = y9.1 ∧ BT K y.2 := fun a b => by rw [← Option.some.inj a, ← Option.some.inj b]; exact ⟨rfl, hBT⟩
  by_cases c4 : gT z9 24 0 ≤ 0
  · rw [if_pos c4, bd_eq rfl, if_pos rfl] at hy hy9
    exact fin hy hy9
  rw [if_neg c4, bd_eq rfl, if_neg one0] at hy hy9
  rw [bd_eq b1] at hy9
  by_cases e1 : x1 < 0
  · rw [if_pos e1] at hy
    rw [if_pos e1, if_pos rfl] at hy9
    exact fin hy hy9
  rw [if_neg e1] at hy hy9
  by_cases e2 : 4 < x1
  · rw [if_pos e2] at hy
    rw [if_pos e2, if_pos rfl] at hy9
    exact fin hy hy9
  rw [if_neg e2] at hy
  rw [if_neg e2, if_neg one0, bd_eq b2] at hy9
  by_cases e3 : x2 < 0
  · rw [if_pos e3] at hy
    rw [if_pos e3, if_pos rfl] at hy9
    exact fin hy hy9
  rw [if_neg e3] at hy hy9
  by_cases e4 : x2 ≤ 2
  · rw [if_pos e4] at hy
    rw [if_neg (show ¬ 2 < x2 from fun q => by have a := bI_lt i2 rfl q; have b := bI_le rfl i2 e4; omega), if_neg one0] at hy9
    have c1i := bI_nlt rfl i0 e1
    have c2i := bI_nlt i4 rfl e2
    obtain ⟨n, hn⟩ : ∃ n : Nat, x1.toInt = n := ⟨x1.toInt.toNat, by omega⟩
    have ex : x1 = nI n := Int32.toInt_inj.1 (by rw [hn, nI_toInt (by omega)])
    subst ex
    have hn5 : n ≤ 5 := by omega
    obtain ⟨zk, g1, g2, g3⟩ := t_fX9_keeps (z_t := z9) hI.2.1
    have e24 : gT zk 24 = gT z9 24 := (g2 24 (by decide)).2.1
    obtain ⟨G, L, hz, hz5, hL, hrow, eg, eleft, ef, e0F, dF⟩ := gzr_start hw hd hs hI e24
    have eG : F = G := (nI_eq (by have := hb.2.1; omega) (by omega)).1 (hb.1.symm.trans (hw.2.1.1.trans (by rw [← e24]; exact e0F)))
    subst eG
    have e09 : gT z9 24 0 = nI F := by rw [← e24]; exact e0F
    have d7 : ∀ g : Nat, g < F → gT z9 24 (44 + 6 * g + 4) = 0 ∨ gT z9 24 (44 + 6 * g + 4) = 1 ∨ gT z9 24 (44 + 6 * g + 4) = 2 := by rw [← e24]; exact hz.2.2.2.2.2.1
    have ha : bs_gn (gT z9 24) F < 1024 := gn_1024 dF
    have eg : fX0_gone zd = some (nI (bs_gn (gT z9 24) F)) := by rw [← e24]; exact eg
    rw [e24] at eleft
    have hk25 : ∀ i : Nat, i < 104 → gT zk 25 i = gT z9 24 i := fun i hi => g3 i hi
    have hp := p2_1024 dF
    have hC2 : bs_lf (bs_gn (gT z9 24) F) F < 2 ^ F := lf_lt _ F
    rw [bd_eq (that_eq e09 dF)] at hy9
    have lf9 := lf9_run (z := z9) (k9 := fun (i24 : Int32) => bd (fX9_keeps z9) (fun z26 => lX9_master_109 (fun (z60 : Sx) (i61 : Int32) (i62 : Int64) => if x2 = 2 then some (i61.toInt64, z60) else bd (fX9_hundreds (nI n)) (fun r65 => bd (fX9_partOf i62 r65 x2) (fun r67 => some (r67, z60)))) (nI n) x2 i24 FU z26 (-1) 0 0)) (x1 := nI n) (x2 := x2) (T := gT z9 24) rfl e09 dF d7 F 0 FU (by omega) (by omega) (FU_lt (by omega))
    have hy9 := lf9.symm.trans hy9
    rw [bd_eq g1] at hy9
    -- the empty set
    have lu : FU = (FU - 1) + 1 := rfl
    obtain ⟨z43, z46, z48, s1, s2, s3, s4, s5, s6⟩ := set_ref (k9 := fun (z43 : Sx) (i44 : Int64) => bd (fX9_goesThrough z43 (nI n)) (fun z46 => bd (fX9_putsBack z46) (fun z48 => bd (fX9_hundreds (nI n)) (fun r50 => jn (lX9_master_109 (fun (z60 : Sx) (i61 : Int32) (i62 : Int64) => if x2 = 2 then some (i61.toInt64, z60) else bd (fX9_hundreds (nI n)) (fun r65 => bd (fX9_partOf i62 r65 x2) (fun r67 => some (r67, z60)))) (nI n) x2 (nI (bs_lf (bs_gn (gT z9 24) F) F)) (FU - 1) z48 0 ((gJ z48 31 0) - (i44 * r50)) (0 + 1)) (fun J51 => if (-1 : Int32) < 0 then J51 else if ((gJ z48 31 0) - (i44 * r50)) < 0 then lX9_master_109 (fun (z60 : Sx) (i61 : Int32) (i62 : Int64) => if x2 = 2 then some (i61.toInt64, z60) else bd (fX9_hundreds (nI n)) (fun r65 => bd (fX9_partOf i62 r65 x2) (fun r67 => some (r67, z60)))) (nI n) x2 (nI (bs_lf (bs_gn (gT z9 24) F) F)) (FU - 1) z48 (-1) 0 (0 + 1) else if ((gJ z48 31 0) - (i44 * r50)) = 0 then bd (fX9_bits 0) (fun r56 => bd (fX9_bits (-1)) (fun r58 => if r56 < r58 then J51 else lX9_master_109 (fun (z60 : Sx) (i61 : Int32) (i62 : Int64) => if x2 = 2 then some (i61.toInt64, z60) else bd (fX9_hundreds (nI n)) (fun r65 => bd (fX9_partOf i62 r65 x2) (fun r67 => some (r67, z60)))) (nI n) x2 (nI (bs_lf (bs_gn (gT z9 24) F) F)) (FU - 1) z48 (-1) 0 (0 + 1))) else J51))))) (x2 := x2) (x4 := nI (bs_lf (bs_gn (gT z9 24) F) F)) (x5 := -1) (x6 := 0) (s := 0) hn5 hb hz e24 hk25 h0 h1 (by omega) (fun j hj => by rw [Nat.zero_testBit] at hj; cases hj)
    have e00 : ∀ x : Int32, (0 &&& x) = 0 := fun x => Int32.zero_and
    have s1 : lX9_master_141 _ (nI n) x2 (nI (bs_lf (bs_gn (gT z9 24) F) F)) (-1) 0 0 FU zk 0 0 = _ := s1
    rw [lu, lX9_master_109, hz.2.1, bit_G dF, if_neg (show ¬ nI (2 ^ F) ≤ 0 from nI_nle (Nat.two_pow_pos F) (by omega)), jn_e, e00, if_pos rfl, s1, bd_eq s2, bd_eq s3, bd_eq (hun9_eq (by omega)), s6, jn_e, if_pos (by decide), Nat.or_zero] at hy9
    have em : (bs_md zw 0 F).toInt64 * hh100 n = 0 := by
      have : ∀ g : Nat, bs_md zw 0 g = 0 := by
        intro g
        induction g with
        | zero => rfl
        | succ g ih =>
          have st : bs_md zw 0 (g + 1) = if (0 : Nat).testBit g = true then bs_md zw 0 g + gT zw 14 g else bs_md zw 0 g := rfl
          rw [st, Nat.zero_testBit, if_neg (by decide), ih]
      rw [this F]
      show (0 : Int64) * hh100 n = 0
      rw [Int64.zero_mul]
    rw [em, Int64.sub_zero] at hy9
    -- the class
    obtain ⟨zc, r1, r2⟩ := hm_run hk huq hb hS hS5 n 16 (bs_gn (gT z9 24) F) (sI z1 2 0) (gT z9 24 3) (by omega) hn5 ha h0 h1 (bt_2 hBT)
    have fcq := ok_get (t_fX1_hiddenMean 16 (sI z1 2 0) zw (nI n) (nI (bs_gn (gT z9 24) F)) (gT z9 24 3) ⟨by rw [nI_toInt (by omega)]; omega, by rw [nI_toInt (by omega)]; omega, by rw [nI_toInt (by omega)]; omega⟩) r1
    have fc : FrL [0, 1] (sI z1 2 0) zc := fcq
    have c2 : gI (sJ zc 3 0 (bs_HM zw F n (bs_gn (gT z9 24) F) (gT z9 24 3).toInt)) 2 = nI 0 := (fc 2 (by decide)).1
    obtain ⟨zc2, zr2, bb, ww, v1, v2, v3, v4, v5⟩ := wg_run (T := gT z9 24) (L := L) (x2 := x2) (k9 := fun (z60 : Sx) (i61 : Int32) (i62 : Int64) => if x2 = 2 then some (i61.toInt64, z60) else bd (fX9_hundreds (nI n)) (fun r65 => bd (fX9_partOf i62 r65 x2) (fun r67 => some (r67, z60)))) hk huq hb hS hS5 hn5 h0 h1 d7 (bs_lf (bs_gn (gT z9 24) F) F) 1 FU (FU - 1) (sJ zc 3 0 (bs_HM zw F n (bs_gn (gT z9 24) F) (gT z9 24 3).toInt)) z48 0 (bs_HM zw F n (bs_gn (gT z9 24) F) (gT z9 24 3).toInt) (by omega) (by omega) (by omega) (FU_lt (by omega)) (by have : FU = 18446744073709551616 := rfl; omega) (by omega) c2 rfl (bt_3 r2) (gzr_24 hz (s4.trans e24.symm)) s4 (fun i hi => by rw [s5]; exact hk25 i hi)
    have hy9 := v5.symm.trans hy9
    have ew8 : fX1_weighSets z1 zw (nI n) (nI (bs_gn (gT z9 24) F)) (gT z9 24 3) = some zc2 := by
      unfold fX1_weighSets
      rw [bd_eq (lf8_eq ha hb), bd2_eq r1]
      exact v1
    rw [bd_eq eg, eleft, bd_eq ew8] at hy
    by_cases e5 : x2 = 2
    · rw [if_pos e5] at hy
      have hy9 : some ((nI bb).toInt64, zr2) = some y9 := by rw [← hy9]; exact (if_pos e5).symm
      rw [v2] at hy
      rw [← Option.some.inj hy, ← Option.some.inj hy9]
      exact ⟨rfl, v4⟩
    · rw [if_neg e5, bd_eq (hun8_eq (by omega)), v3] at hy
      have hy9 : bd (fX9_hundreds (nI n)) (fun r65 => bd (fX9_partOf ww r65 x2) (fun r67 => some (r67, zr2))) = some y9 := by rw [← hy9]; exact (if_neg e5).symm
      rw [bd_eq (hun9_eq (by omega))] at hy9
      obtain ⟨w, ew, hy9⟩ := bd_some hy9
      have := h100_pos (show n ≤ 8 by omega)
      rw [bd_eq (partOf_eq (by omega) ew)] at hy
      rw [← Option.some.inj hy, ← Option.some.inj hy9]
      exact ⟨rfl, v4⟩
  · rw [if_neg e4] at hy
    rw [if_pos (show 2 < x2 from (i32_lt _ _).2 (by have := bI_nle rfl i2 e4; rw [i2]; omega)), if_pos rfl] at hy9
    exact fin hy hy9
end S26

/-! MASTER: sets to mend, on both sides. -/
theorem bv_sub {c : BitVec 32} (hc : ∀ i : Nat, i < 32 → c.getLsbD i = true) {x y : BitVec 32} (h : x &&& (y ^^^ c) = 0#32) : x &&& y = x := by
  refine BitVec.eq_of_getLsbD_eq (fun i hi => ?_)
  have h1 := congrArg (fun v => BitVec.getLsbD v i) h
  simp only [BitVec.getLsbD_and, BitVec.getLsbD_xor, hc i hi, BitVec.getLsbD_zero] at h1
  rw [BitVec.getLsbD_and]
  revert h1
  cases x.getLsbD i <;> cases y.getLsbD i <;> decide
theorem sub_n {s c : Nat} (hs : s < 1024) (hc : c < 1024) (h : (nI s &&& (nI c ^^^ (-1))) = 0) : s &&& c = s := by
  have h2 := bv_sub neg1_bits (x := (nI s).toBitVec) (y := (nI c).toBitVec) (congrArg Int32.toBitVec h)
  have h3 := congrArg BitVec.toNat h2
  have e1 : (nI s).toBitVec = BitVec.ofNat 32 s := rfl
  have e2 : (nI c).toBitVec = BitVec.ofNat 32 c := rfl
  rw [e1, e2, BitVec.toNat_and, BitVec.toNat_ofNat, BitVec.toNat_ofNat, Nat.mod_eq_of_lt (by omega), Nat.mod_eq_of_lt (by omega)] at h3
  exact h3
def bcn (a : Nat) : Int32 := (fX9_bits (nI a)).getD 0
theorem bcn_eq {a : Nat} (h : a < 1024) : fJ6_bitCount_0f7a4 (nI a) = some (bcn a) ∧ fX9_bits (nI a) = some (bcn a) := by
  obtain ⟨r, h1, h2⟩ := cnt_both h
  have e : bcn a = r := by
    unfold bcn
    rw [h2]
    rfl
  rw [e]
  exact ⟨h1, h2⟩
/-- the least faults that may be mended -/
def bs_lf (a : Nat) : Nat → Nat
  | 0 => 0
  | g + 1 => if a.testBit g = true then bs_lf a g else if 6 ≤ bcn (bs_lf a g) then bs_lf a g else bs_lf a g ||| 2 ^ g
theorem lf_s (a g : Nat) : bs_lf a (g + 1) = if a.testBit g = true then bs_lf a g else if 6 ≤ bcn (bs_lf a g) then bs_lf a g else bs_lf a g ||| 2 ^ g := rfl
theorem lf_lt (a : Nat) : ∀ g : Nat, bs_lf a g < 2 ^ g := by
  intro g
  induction g with
  | zero => exact Nat.one_pos
  | succ g ih =>
    have hp : 2 ^ g < 2 ^ (g + 1) := Nat.pow_lt_pow_right (by decide) (by omega)
    rw [lf_s]
    by_cases c : a.testBit g = true
    · rw [if_pos c]; omega
    · rw [if_neg c]
      by_cases d : 6 ≤ bcn (bs_lf a g)
      · rw [if_pos d]; omega
      · rw [if_neg d]; exact Nat.or_lt_two_pow (Nat.lt_trans ih hp) hp
theorem lf_1024 {a g : Nat} (h : g ≤ 10) : bs_lf a g < 1024 := Nat.lt_of_lt_of_le (lf_lt a g) (show 2 ^ g ≤ 2 ^ 10 from Nat.pow_le_pow_right (by decide) h)
theorem lf_stay {a g : Nat} (h : 6 ≤ bcn (bs_lf a g)) : ∀ m : Nat, bs_lf a (g + m) = bs_lf a g := by
  intro m
  induction m with
  | zero => rfl
  | succ m ih =>
    show bs_lf a (g + m + 1) = _
    rw [lf_s, ih]
    by_cases c : a.testBit (g + m) = true
    · rw [if_pos c]
    · rw [if_neg c, if_pos h]
/-- only faults that are not gone -/
theorem lf_bit {a j : Nat} : ∀ g : Nat, (bs_lf a g).testBit j = true → j < g ∧ a.testBit j = false := by
  intro g
  induction g with
  | zero => intro h; exact absurd h (by show ¬ (0 : Nat).testBit j = true; rw [Nat.zero_testBit]; decide)
  | succ g ih =>
    intro h
    rw [lf_s] at h
    by_cases c : a.testBit g = true
    · rw [if_pos c] at h
      have := ih h
      exact ⟨by omega, this.2⟩
    · rw [if_neg c] at h
      by_cases d : 6 ≤ bcn (bs_lf a g)
      · rw [if_pos d] at h
        have := ih h
        exact ⟨by omega, this.2⟩
      · rw [if_neg d, Nat.testBit_or, Nat.testBit_two_pow] at h
        by_cases q : (bs_lf a g).testBit j = true
        · have := ih q
          exact ⟨by omega, this.2⟩
        · have q2 : (bs_lf a g).testBit j = false := by
            cases w : (bs_lf a g).testBit j with
            | false => rfl
            | true => exact absurd w q
          rw [q2, Bool.false_or] at h
          have e : g = j := of_decide_eq_true h
          subst e
          refine ⟨by omega, ?_⟩
          cases w : a.testBit g with
          | false => rfl
          | true => exact absurd w c
/-- what it costs to mend a set -/
def bs_md (zw : Sx) (a : Nat) : Nat → Int32
  | 0 => 0
  | g + 1 => if a.testBit g = true then bs_md zw a g + gT zw 14 g else bs_md zw a g
section S25
variable {zw z z2 : Sx} {F L m : Nat} {K : Sx → Prop}
theorem md_run {a : Nat} (ha : a < 1024) (h3 : gI zw 3 = nI F) (dF : F ≤ 10) : ∀ (n g : Nat), g ≤ F → F - g < n → lX7_together_5 zw 10 (gT zw 14) (nI a) n (bs_md zw a g) (nI g) = some (bs_md zw a F) := by
  intro n
  induction n with
  | zero => intro g _ hm; omega
  | succ n ih =>
    intro g hg hm
    rw [lX7_together_5, h3]
    by_cases c : g = F
    · rw [c, if_pos (nI_le (Nat.le_refl F) (by omega))]
    · have st : bs_md zw a (g + 1) = if a.testBit g = true then bs_md zw a g + gT zw 14 g else bs_md zw a g := rfl
      rw [if_neg (nI_ge (by omega) (by omega)), bd_eq (has_n ha (by omega)), nI_1]
      simp only [jn]
      by_cases q : a.testBit g = true
      · rw [if_pos q, if_neg one0, bd_eq (at_k (nI_toInt (n := g) (by omega)) (by omega) (by decide))]
        rw [if_pos q] at st
        rw [← st]
        exact ih (g + 1) (by omega) (by omega)
      · rw [if_neg q, if_pos rfl]
        rw [if_neg q] at st
        rw [← st]
        exact ih (g + 1) (by omega) (by omega)
theorem md_eq {a : Nat} (ha : a < 1024) (hb : BW zw F) : fX7_mendingOf zw (nI a) = some (bs_md zw a F) := by
  unfold fX7_mendingOf fX7_together
  have e : lX7_together_5 zw 10 (gT zw 14) (nI a) FU 0 0 = some (bs_md zw a F) := md_run ha hb.1 hb.2.1 FU 0 (by omega) (FU_lt (by have := hb.2.1; omega))
  rw [bd_eq e]
theorem md_le {a : Nat} (h : ∀ g : Nat, g < F → 0 ≤ (gT zw 14 g).toInt ∧ (gT zw 14 g).toInt ≤ 99) (dF : F ≤ 10) : ∀ g : Nat, g ≤ F → 0 ≤ (bs_md zw a g).toInt ∧ (bs_md zw a g).toInt ≤ 99 * g := by
  intro g
  induction g with
  | zero => intro _; show 0 ≤ (0 : Int32).toInt ∧ (0 : Int32).toInt ≤ _; rw [show (0 : Int32).toInt = 0 by decide]; omega
  | succ g ih =>
    intro hg
    have i := ih (by omega)
    have st : bs_md zw a (g + 1) = if a.testBit g = true then bs_md zw a g + gT zw 14 g else bs_md zw a g := rfl
    rw [st]
    by_cases q : a.testBit g = true
    · have := h g (by omega)
      rw [if_pos q, i32_add rfl rfl (by omega) (by omega)]
      omega
    · rw [if_neg q]; omega
theorem md_14 (hw : WKT zw (gT z 24)) (d0 : gT z 24 0 = nI F) (dF : F ≤ 10) : ∀ g : Nat, g < F → 0 ≤ (gT zw 14 g).toInt ∧ (gT zw 14 g).toInt ≤ 99 := by
  intro g hg
  have hFi : (gT z 24 0).toInt = F := by rw [d0, nI_toInt (by omega)]
  obtain ⟨b1, b2, b3, b4, b5, b6, b7, b8, b9, b10, b11⟩ := hw.2.2.2.2 g (by omega)
  have ck := clampI (x := gT zw 8 g) b5.1
  obtain ⟨p1, p2, p3, p4, p5, p6⟩ := hw.2.2.2.1 (gT zw 8 g).toNatClampNeg (by omega)
  rw [b11]
  exact p6
/-- the class's least faults -/
theorem lf8_run {a : Nat} (ha : a < 1024) (hb : BW zw F) : ∀ (q g n : Nat), F - g = q → g ≤ F → q < n → lX1_leastFree_5 zw (nI a) n (nI (bs_lf a g)) (nI g) = some (nI (bs_lf a F)) := by
  have h3 := hb.1
  have hF := hb.2.1
  intro q
  induction q with
  | zero =>
    intro g n hq hg hn
    obtain ⟨n, rfl⟩ : ∃ k, n = k + 1 := ⟨n - 1, by omega⟩
    obtain rfl : g = F := by omega
    rw [lX1_leastFree_5, h3, if_pos (nI_le (Nat.le_refl _) (by omega))]
  | succ q ih =>
    intro g n hq hg hn
    obtain ⟨n, rfl⟩ : ∃ k, n = k + 1 := ⟨n - 1, by omega⟩
    have eb : fX8_bit (nI g) = some (nI (2 ^ g)) := by
      unfold fX8_bit
      rw [bit_f ⟨g, by omega⟩]
    rw [lX1_leastFree_5, h3, if_neg (nI_ge (by omega) (by omega)), bd_eq (bcn_eq (lf_1024 (a := a) (g := g) (by omega))).1]
    by_cases d : 6 ≤ bcn (bs_lf a g)
    · have := lf_stay d (F - g)
      rw [show g + (F - g) = F by omega] at this
      rw [if_pos d, this]
    · rw [if_neg d, bd_eq (has_n ha (by omega)), nI_1]
      simp only [jn]
      have st := lf_s a g
      by_cases c : a.testBit g = true
      · rw [if_pos c] at st
        rw [if_pos c, if_neg one0, ← st]
        exact ih (g + 1) n (by omega) (by omega) (by omega)
      · rw [if_neg c, if_neg d] at st
        rw [if_neg c, if_pos rfl, bd_eq eb, or_n, ← st]
        exact ih (g + 1) n (by omega) (by omega) (by omega)
theorem lf8_eq {a : Nat} (ha : a < 1024) (hb : BW zw F) : fX1_leastFree zw (nI a) = some (nI (bs_lf a F)) := lf8_run ha hb F 0 FU (by omega) (by omega) (FU_lt (by have := hb.2.1; omega))
/-- the reference's -/
theorem lf9_run {k9 : Int32 → Option (Int64 × Sx)} {x1 x2 : Int32} {T : Nat → Int32} (hT : gT z 24 = T) (d0 : T 0 = nI F) (dF : F ≤ 10) (d7 : ∀ g : Nat, g < F → T (44 + 6 * g + 4) = 0 ∨ T (44 + 6 * g + 4) = 1 ∨ T (44 + 6 * g + 4) = 2) : ∀ (q g n : Nat), F - g = q → g ≤ F → q < n → lX9_master_47 k9 z x1 x2 (nI (bmf T 0 F)) n (nI (bs_lf (bs_gn T F) g)) (nI g) = k9 (nI (bs_lf (bs_gn T F) F)) := by
  intro q
  induction q with
  | zero =>
    intro g n hq hg hn
    obtain ⟨n, rfl⟩ : ∃ k, n = k + 1 := ⟨n - 1, by omega⟩
    obtain rfl : g = F := by omega
    rw [lX9_master_47, hT, d0, if_pos (nI_le (Nat.le_refl _) (by omega))]
  | succ q ih =>
    intro g n hq hg hn
    obtain ⟨n, rfl⟩ : ∃ k, n = k + 1 := ⟨n - 1, by omega⟩
    have e3 : (bs_gn T F).testBit g = decide (¬ T (44 + 6 * g + 4) = 0) := gone_bit (by omega) (d7 g (by omega))
    have e0 : (bmf T 0 F).testBit g = decide (T (44 + 6 * g + 4) = 0) := by
      rw [bm_bit]
      by_cases c : T (44 + 6 * g + 4) = 0
      · rw [decide_eq_true c, decide_eq_true ⟨by omega, c⟩]
      · rw [decide_eq_false c, decide_eq_false (fun u => c u.2)]
    have z0 : ∀ v : Nat, (nI v ||| 0) = nI v := fun v => (or_n (b := 0)).trans (by rw [Nat.or_zero])
    have st := lf_s (bs_gn T F) g
    rw [lX9_master_47, hT, d0, if_neg (nI_ge (by omega) (by omega)), bd_eq (iso_n (bm_1024 dF) (by omega)), e0, nI_1]
    simp only [jn]
    by_cases c : T (44 + 6 * g + 4) = 0
    · rw [e3, decide_eq_false (fun u => u c), if_neg (by decide)] at st
      rw [decide_eq_true c, if_pos rfl, if_neg one0, bd_eq (bcn_eq (lf_1024 (a := bs_gn T F) (g := g) (by omega))).2]
      by_cases d : 6 ≤ bcn (bs_lf (bs_gn T F) g)
      · rw [if_pos d] at st
        rw [if_pos d, z0, ← st]
        exact ih (g + 1) n (by omega) (by omega) (by omega)
      · rw [if_neg d] at st
        rw [if_neg d, bit_f ⟨g, by omega⟩, or_n, ← st]
        exact ih (g + 1) n (by omega) (by omega) (by omega)
    · rw [e3, decide_eq_true c, if_pos rfl] at st
      rw [decide_eq_false c, if_pos (by decide), z0, ← st]
      exact ih (g + 1) n (by omega) (by omega) (by omega)
/-- the reference mends a set for a trial -/
theorem mk_run {k9 : Sx → Int64 → Option (Int64 × Sx)} {s : Nat} {x1 x2 x4 x5 : Int32} {x6 : Int64} {T : Nat → Int32} {z0 : Sx} (hz0 : GZr zw F L z0) (hT : gT z0 24 = T) (hs : s < 1024) (hs0 : ∀ j : Nat, s.testBit j = true → j < F ∧ T (44 + 6 * j + 4) = 0) : ∀ (q g n : Nat) (z : Sx), F - g = q → g ≤ F → q < n → gT z 25 = gT z0 25 → (∀ j : Nat, gT z 24 (44 + 6 * j + 4) = if j < g ∧ s.testBit j = true then 2 else T (44 + 6 * j + 4)) → (∀ i : Nat, (∀ j : Nat, j < F → ¬ i = 44 + 6 * j + 4) → gT z 24 i = T i) → ∃ z2, lX9_master_141 k9 x1 x2 x4 x5 x6 (nI s) n z (bs_md zw s g).toInt64 (nI g) = k9 z2 (bs_md zw s F).toInt64 ∧ gT z2 25 = gT z0 25 ∧ (∀ j : Nat, gT z2 24 (44 + 6 * j + 4) = if j < F ∧ s.testBit j = true then 2 else T (44 + 6 * j + 4)) ∧ (∀ i : Nat, (∀ j : Nat, j < F → ¬ i = 44 + 6 * j + 4) → gT z2 24 i = T i) := by
  obtain ⟨hw, d0, dF, d8, dL, d7, dr⟩ := id hz0
  have h14 := md_14 hw d0 dF
  have d0T : T 0 = nI F := by rw [← hT]; exact d0
  intro q
  induction q with
  | zero =>
    intro g n z hq hg hn h25 hst hot
    obtain ⟨n, rfl⟩ : ∃ k, n = k + 1 := ⟨n - 1, by omega⟩
    obtain rfl : g = F := by omega
    have e0 : gT z 24 0 = nI g := by rw [hot 0 (fun j _ => by omega)]; exact d0T
    exact ⟨z, by rw [lX9_master_141, e0, if_pos (nI_le (Nat.le_refl _) (by omega))], h25, hst, hot⟩
  | succ q ih =>
    intro g n z hq hg hn h25 hst hot
    obtain ⟨n, rfl⟩ : ∃ k, n = k + 1 := ⟨n - 1, by omega⟩
    have e0 : gT z 24 0 = nI F := by rw [hot 0 (fun j _ => by omega)]; exact d0T
    have e6 : (6 * nI g : Int32) = nI (6 * g) := Int32.toInt_inj.1 (by rw [i32_mul (show (6 : Int32).toInt = 6 by decide) (nI_toInt (n := g) (by omega)) (by omega) (by omega), nI_toInt (by omega)]; omega)
    have e44 : (44 : Int32) + nI (6 * g) = nI (44 + 6 * g) := nI_add 44 (6 * g)
    have a4 : nI (44 + 6 * g) + 4 = nI (44 + 6 * g + 4) := nI_add (44 + 6 * g) 4
    have c4 : (nI (44 + 6 * g + 4)).toNatClampNeg = 44 + 6 * g + 4 := nI_clamp (by omega)
    have st : bs_md zw s (g + 1) = if s.testBit g = true then bs_md zw s g + gT zw 14 g else bs_md zw s g := rfl
    rw [lX9_master_141, e0, if_neg (nI_ge (by omega) (by omega)), bd_eq (iso_n hs (by omega)), nI_1]
    simp only [jn]
    by_cases c : s.testBit g = true
    · rw [if_pos c] at st
      obtain ⟨y, ey⟩ : ∃ y : Sx, y = sT z 24 (44 + 6 * g + 4) 2 := ⟨_, rfl⟩
      have ty : ∀ i : Nat, gT y 24 i = if i = 44 + 6 * g + 4 then 2 else gT z 24 i := fun i => by rw [ey]; rfl
      have hsty : ∀ j : Nat, gT y 24 (44 + 6 * j + 4) = if j < g + 1 ∧ s.testBit j = true then 2 else T (44 + 6 * j + 4) := fun j => by
        rw [ty]
        by_cases w : j = g
        · rw [w, if_pos rfl, if_pos ⟨by omega, c⟩]
        · rw [if_neg (by omega), hst j]
          by_cases v : j < g ∧ s.testBit j = true
          · rw [if_pos v, if_pos ⟨by omega, v.2⟩]
          · rw [if_neg v, if_neg (fun u => v ⟨by omega, u.2⟩)]
      have hoty : ∀ i : Nat, (∀ j : Nat, j < F → ¬ i = 44 + 6 * j + 4) → gT y 24 i = T i := fun i hi => by rw [ty, if_neg (hi g (by omega)), hot i hi]
      have zG : GZr zw F L y := by
        refine ⟨wkt_eq hw (fun i hi _ _ _ => ?_), ?_, dF, ?_, dL, fun j hj => ?_, fun i hi => ?_⟩
        · rw [hoty i (fun j _ u => hi.2.1 (by unfold DY; omega)), ← hT]
        · rw [hoty 0 (fun j _ => by omega)]; exact d0T
        · rw [hoty 8 (fun j _ => by omega), ← hT]; exact d8
        · rw [hsty]
          by_cases v : j < g + 1 ∧ s.testBit j = true
          · rw [if_pos v]; exact Or.inr (Or.inr rfl)
          · rw [if_neg v, ← hT]; exact d7 j hj
        · rw [hoty (10 + i) (fun j _ => by omega), ← hT]; exact dr i hi
      have ek := (kd_eq zG (show g < F by omega)).2
      rw [ey] at ek
      have b := md_le (a := s) h14 dF g (by omega)
      have b14 := h14 g (by omega)
      have ec : (bs_md zw s g).toInt64 + (gT zw 14 g).toInt64 = (bs_md zw s (g + 1)).toInt64 := by
        rw [st]
        refine Int64.toInt_inj.1 ?_
        rw [i64_add (l64_of rfl) (l64_of rfl) (by omega) (by omega), l64_of (i32_add rfl rfl (by omega) (by omega))]
      rw [if_pos c, if_neg one0, e6, e44, a4, gd_pos (in_n (by omega) (by omega)), c4, bd_eq ek, ec, ← ey]
      exact ih (g + 1) n y (by omega) (by omega) (by omega) (by rw [ey]; exact h25) hsty hoty
    · rw [if_neg c] at st
      rw [if_neg c, if_pos rfl, ← st]
      refine ih (g + 1) n z (by omega) (by omega) (by omega) h25 (fun j => ?_) hot
      rw [hst j]
      by_cases v : j < g ∧ s.testBit j = true
      · rw [if_pos v, if_pos ⟨by omega, v.2⟩]
      · rw [if_neg v, if_neg (fun u => v ⟨by
          by_cases w : j = g
          · rw [w] at u; exact absurd u.2 c
          · omega, u.2⟩)]
end S25

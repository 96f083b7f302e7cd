/-! FITS, all sets. -/
theorem bv_nor {c : BitVec 32} (hc : ∀ i : Nat, i < 32 → c.getLsbD i = true) (m a b : BitVec 32) : m &&& ((a ||| b) ^^^ c) = (m &&& (a ^^^ c)) &&& (b ^^^ c) := by
  apply BitVec.eq_of_getLsbD_eq
  intro i hi
  simp only [BitVec.getLsbD_and, BitVec.getLsbD_xor, BitVec.getLsbD_or]
  rw [hc i hi]
  cases m.getLsbD i <;> cases a.getLsbD i <;> cases b.getLsbD i <;> rfl
theorem bv_nor0 {c : BitVec 32} (hc : ∀ i : Nat, i < 32 → c.getLsbD i = true) (m : BitVec 32) : m &&& (0#32 ^^^ c) = m := by
  apply BitVec.eq_of_getLsbD_eq
  intro i hi
  simp only [BitVec.getLsbD_and, BitVec.getLsbD_xor, BitVec.getLsbD_zero]
  rw [hc i hi]
  cases m.getLsbD i <;> rfl
theorem neg1_bits : ∀ i : Nat, i < 32 → ((-1 : Int32).toBitVec).getLsbD i = true := by decide
theorem nor_n (m a b : Int32) : m &&& ((a ||| b) ^^^ (-1)) = (m &&& (a ^^^ (-1))) &&& (b ^^^ (-1)) := Int32.toBitVec_inj.1 (bv_nor neg1_bits m.toBitVec a.toBitVec b.toBitVec)
theorem nor_0 (m : Int32) : m &&& (0 ^^^ (-1)) = m := Int32.toBitVec_inj.1 (bv_nor0 neg1_bits m.toBitVec)
theorem full_f : ∀ F : Fin 11, (((1 : Int32) <<< (nI F.val &&& 31)) - 1 = nI (2 ^ F.val - 1) ∧ 2 ^ F.val ≤ 1024) := by decide +kernel
theorem full_n {F : Nat} (h : F ≤ 10) : ((1 : Int32) <<< (nI F &&& 31)) - 1 = nI (2 ^ F - 1) ∧ 2 ^ F ≤ 1024 := full_f ⟨F, by omega⟩
section S18
variable {zw zd z5 z8 z9 : Sx} {x1 x2 : Int32} {F : Nat}
theorem fits_one {a : Nat} (ha : a < 1024) (hw : WKT zw (gT z9 24)) (hd : DR zd (gT z9 24)) (d0 : gT z9 24 0 = nI F) (dF : F ≤ 10) : ∃ r : Int32, (r = 0 ∨ r = 1) ∧ fX9_couldBe z9 (nI a) x1 = some r ∧ fX7_payOf zw (nI a) = some (psum zw a F) ∧ ((psum zw a F = x1 ∧ fX7_couldBeFound zw (nI a) (gI zd 3) = some r) ∨ (¬ psum zw a F = x1 ∧ r = 0)) := by
  have h3 : gI zw 3 = nI F := hw.2.1.1.trans d0
  have ep : fX7_payOf zw (nI a) = some (psum zw a F) := by
    unfold fX7_payOf fX7_together
    exact bd_eq (pay_run ha h3 dF FU 0 (by omega) (FU_lt (by omega)))
  have h := could_run (z9 := z9) (zw := zw) (zd := zd) (F := F) (a := a) (xx := x1) (k1 := fun (i25 : Int32) => if (gI zw 1) < i25 then some 0 else some 1) (k2 := fun (i28 : Int32) (i29 : Int32) => if (gT z9 24 2) < i28 then some 0 else if i29 = x1 then some 1 else some 0) ha hw hd d0 dF FU FU 0 (by omega) (FU_lt (by omega)) (FU_lt (by omega))
  have e8 : fX7_couldBeFound zw (nI a) (gI zd 3) = lX7_couldBeFound_5 (fun (i25 : Int32) => if (gI zw 1) < i25 then some 0 else some 1) zw (nI a) (gI zd 3) FU (msum zw a 0) (nI 0) := rfl
  have e9 : fX9_couldBe z9 (nI a) x1 = lX9_couldBe_8 (fun (i28 : Int32) (i29 : Int32) => if (gT z9 24 2) < i28 then some 0 else if i29 = x1 then some 1 else some 0) z9 (nI a) x1 FU (msum zw a 0) (psum zw a 0) (nI 0) := rfl
  rw [← e8, ← e9, hw.2.2.1] at h
  rcases h with ⟨a1, a2⟩ | ⟨a1, a2⟩
  · by_cases c : psum zw a F = x1
    · by_cases t : gT z9 24 2 < msum zw a F
      · rw [if_pos t] at a1 a2
        exact ⟨0, Or.inl rfl, a2, ep, Or.inl ⟨c, a1⟩⟩
      · rw [if_neg t] at a1 a2
        rw [if_pos c] at a2
        exact ⟨1, Or.inr rfl, a2, ep, Or.inl ⟨c, a1⟩⟩
    · refine ⟨0, Or.inl rfl, ?_, ep, Or.inr ⟨c, rfl⟩⟩
      rw [a2]
      by_cases t : gT z9 24 2 < msum zw a F
      · rw [if_pos t]
      · rw [if_neg t, if_neg c]
  · by_cases c : psum zw a F = x1
    · exact ⟨0, Or.inl rfl, a2, ep, Or.inl ⟨c, a1⟩⟩
    · exact ⟨0, Or.inl rfl, a2, ep, Or.inr ⟨c, rfl⟩⟩
theorem fits_run {k8 k9 : Int32 → Int32 → Int32 → Option Int32} {M : Nat} (hM : M < 1024) (hw : WKT zw (gT z9 24)) (hd : DR zd (gT z9 24)) (d0 : gT z9 24 0 = nI F) (dF : F ≤ 10) : ∀ (q x n m : Nat) (i4 i5 i6 : Int32), M + 1 - x = q → x ≤ M + 1 → q < n → q < m → ∃ j4 j5 j6, lX8_fits_57 k8 z8 z5 zw zd x1 x2 (nI M) n i4 i5 i6 (nI x) = k8 j4 j5 j6 ∧ lX9_fits_56 k9 z9 x1 x2 (nI M) m i4 i5 (nI M &&& (i6 ^^^ (-1))) (nI x) = k9 j4 j5 (nI M &&& (j6 ^^^ (-1))) := by
  intro q
  induction q with
  | zero =>
    intro x n m i4 i5 i6 hq hx hn hm
    obtain ⟨n, rfl⟩ : ∃ j, n = j + 1 := ⟨n - 1, by omega⟩
    obtain ⟨m, rfl⟩ : ∃ j, m = j + 1 := ⟨m - 1, by omega⟩
    have c : nI M < nI x := (i32_lt _ _).2 (by rw [nI_toInt (by omega), nI_toInt (by omega)]; omega)
    refine ⟨i4, i5, i6, ?_, ?_⟩
    · rw [lX8_fits_57, if_pos c]
    · rw [lX9_fits_56, if_pos c]
  | succ q ih =>
    intro x n m i4 i5 i6 hq hx hn hm
    obtain ⟨n, rfl⟩ : ∃ j, n = j + 1 := ⟨n - 1, by omega⟩
    obtain ⟨m, rfl⟩ : ∃ j, m = j + 1 := ⟨m - 1, by omega⟩
    have c : ¬ nI M < nI x := fun k => by
      have := (i32_lt _ _).1 k
      rw [nI_toInt (by omega), nI_toInt (by omega)] at this
      omega
    obtain ⟨r, r01, b1, b2, b3⟩ := fits_one (x1 := x1) (a := x) (by omega) hw hd d0 dF
    rw [lX8_fits_57, if_neg c, bd_eq b2, lX9_fits_56, if_neg c, bd_eq b1, nI_1]
    simp only [jn]
    have go := ih (x + 1) n m i4 i5 i6 (by omega) (by omega) (by omega) (by omega)
    rcases b3 with ⟨p, f⟩ | ⟨p, f⟩
    · rw [if_pos p, bd_eq f]
      rcases r01 with rfl | rfl
      · rw [if_pos rfl, if_pos rfl]
        exact go
      · rw [if_neg one0, if_neg one0, ← nor_n]
        exact ih (x + 1) n m (i4 + 1) (i5 &&& nI x) (i6 ||| nI x) (by omega) (by omega) (by omega) (by omega)
    · rw [if_neg p, f, if_pos rfl]
      exact go
theorem fits_k {y y9 : Int32} (hw : WKT zw (gT z9 24)) (hd : DR zd (gT z9 24)) (hy : fX8_fits z8 z5 zw zd x1 x2 = some y) (hy9 : fX9_fits z9 x1 x2 = some y9) : y = y9 := by
  obtain ⟨F, d0, dF, -⟩ := id hd
  have h3 : gI zw 3 = nI F := hw.2.1.1.trans d0
  have i0 : (0 : Int32).toInt = 0 := by decide
  have i2 : (2 : Int32).toInt = 2 := by decide
  have i9 : (9999 : Int32).toInt = 9999 := by decide
  have b1 : fX9_in x1.toInt64 0 9999 = some (if x1 < 0 then 0 else if 9999 < x1 then 0 else 1) := in32t (l := 0) (h := 9999) (by decide) (by decide)
  have b2 : fX9_in x2.toInt64 0 2 = some (if x2 < 0 then 0 else if 2 < x2 then 0 else 1) := in32t (l := 0) (h := 2) (by decide) (by decide)
  unfold fX8_fits fX8_hasWork at hy
  unfold fX9_fits fX9_isWork at hy9
  rw [hw.2.1.1] at hy
  have fin : some (-1 : Int32) = some y → some (-1 : Int32) = some y9 → y = y9 := fun a b => (Option.some.inj a).symm.trans (Option.some.inj b)
  by_cases c4 : gT z9 24 0 ≤ 0
  · rw [if_pos c4, bd_eq rfl, if_pos rfl] at hy hy9
    exact fin hy hy9
  rw [if_neg c4, bd_eq rfl, if_neg one0] at hy hy9
  rw [bd_eq b1] at hy9
  by_cases e1 : x1 < 0
  · rw [if_pos e1] at hy
    rw [if_pos e1, if_pos rfl] at hy9
    exact fin hy hy9
  rw [if_neg e1] at hy hy9
  by_cases e2 : 9999 < x1
  · rw [if_pos e2] at hy
    rw [if_pos e2, if_pos rfl] at hy9
    exact fin hy hy9
  rw [if_neg e2] at hy
  rw [if_neg e2, if_neg one0, bd_eq b2] at hy9
  by_cases e3 : x2 < 0
  · rw [if_pos e3] at hy
    rw [if_pos e3, if_pos rfl] at hy9
    exact fin hy hy9
  rw [if_neg e3] at hy hy9
  by_cases e4 : x2 ≤ 2
  · rw [if_pos e4] at hy
    rw [if_neg (show ¬ 2 < x2 from fun q => by have a := bI_lt i2 rfl q; have b := bI_le rfl i2 e4; omega), if_neg one0] at hy9
    obtain ⟨m1, m2⟩ := full_n dF
    have m0 : 0 < 2 ^ F := Nat.two_pow_pos F
    unfold fX8_bit at hy
    rw [d0, m1] at hy9
    rw [d0] at hy
    have hy := (bd_eq rfl).symm.trans hy
    rw [m1] at hy
    obtain ⟨j4, j5, j6, g1, g2⟩ := fits_run (z8 := z8) (z5 := z5) (zw := zw) (zd := zd) (z9 := z9) (x1 := x1) (x2 := x2) (M := 2 ^ F - 1) (k8 := fun (i21 : Int32) (i22 : Int32) (i23 : Int32) => if x2 = 0 then some i21 else if i21 = 0 then some i21 else if x2 = 1 then some i22 else some (nI (2 ^ F - 1) &&& (i23 ^^^ (-1)))) (k9 := fun (i18 : Int32) (i19 : Int32) (i20 : Int32) => if x2 = 0 then some i18 else if i18 = 0 then some 0 else if x2 = 1 then some i19 else some i20) (by omega) hw hd d0 dF (2 ^ F) 0 FU FU 0 (nI (2 ^ F - 1)) 0 (by omega) (by omega) (FU_lt (by omega)) (FU_lt (by omega))
    rw [nor_0] at g2
    have hy := g1.symm.trans hy
    have hy9 := g2.symm.trans hy9
    by_cases k0 : x2 = 0
    · rw [if_pos k0] at hy hy9
      exact (Option.some.inj hy).symm.trans (Option.some.inj hy9)
    rw [if_neg k0] at hy hy9
    by_cases k1 : j4 = 0
    · rw [if_pos k1] at hy hy9
      exact ((Option.some.inj hy).symm.trans k1).trans (Option.some.inj hy9)
    rw [if_neg k1] at hy hy9
    by_cases k2 : x2 = 1
    · rw [if_pos k2] at hy hy9
      exact (Option.some.inj hy).symm.trans (Option.some.inj hy9)
    · rw [if_neg k2] at hy hy9
      exact (Option.some.inj hy).symm.trans (Option.some.inj hy9)
  · rw [if_neg e4] at hy
    rw [if_pos (show 2 < x2 from (i32_lt _ _).2 (by have := bI_nle rfl i2 e4; rw [i2]; omega)), if_pos rfl] at hy9
    exact fin hy hy9
end S18

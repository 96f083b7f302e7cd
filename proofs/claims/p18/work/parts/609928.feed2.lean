/-! FEED and END, on both sides. -/
theorem lo_eq {x : Int32} {s : Int32} {k : Nat} (hk : k ≤ 24) (e1 : (x >>> (s &&& 31)).toBitVec = x.toBitVec.sshiftRight k) (e2 : ((x.toUInt32 >>> (Int32.toUInt32 s &&& Int32.toUInt32 31)).toInt32).toBitVec = x.toBitVec >>> k) : SB (((x.toUInt32 >>> (Int32.toUInt32 s &&& Int32.toUInt32 31)).toInt32) &&& 255) (vp_nar .byte ((x >>> (s &&& 31)).toInt8.toInt32)) := by
  have h := sb_low (x >>> (s &&& 31))
  rw [pk_vb]
  have e : ((x.toUInt32 >>> (Int32.toUInt32 s &&& Int32.toUInt32 31)).toInt32) &&& 255 = (x >>> (s &&& 31)) &&& 255 := by
    have a : ∀ y : Int32, (y &&& 255).toBitVec = y.toBitVec &&& 255#32 := fun _ => rfl
    refine Int32.toBitVec_inj.1 ?_
    rw [a, a, e1, e2]
    refine BitVec.eq_of_getLsbD_eq (fun i hi => ?_)
    rw [BitVec.getLsbD_and, BitVec.getLsbD_and]
    by_cases c : i < 8
    · rw [BitVec.getLsbD_ushiftRight, BitVec.getLsbD_sshiftRight]
      have d1 : decide (32 ≤ i) = false := decide_eq_false (by omega)
      have d2 : k + i < 32 := by omega
      rw [d1, if_pos d2]
      rfl
    · have d : BitVec.getLsbD 255#32 i = false := by
        rw [BitVec.getLsbD_ofNat]
        have : Nat.testBit 255 i = false := Nat.testBit_lt_two_pow (Nat.lt_of_lt_of_le (show 255 < 2 ^ 8 by decide) (Nat.pow_le_pow_right (by decide) (by omega)))
        rw [this, Bool.and_false]
      rw [d, Bool.and_false, Bool.and_false]
  rw [e]
  exact h
section FED
variable {z8 z9 : Sx} {N : Nat} {x s : Int32}
theorem put_step (hT : TX z8 z9 N) (hN : N < 400) (hs : ¬ s < 0) (hb : SB (((x.toUInt32 >>> (Int32.toUInt32 s &&& Int32.toUInt32 31)).toInt32) &&& 255) (vp_nar .byte ((x >>> (s &&& 31)).toInt8.toInt32))) : ∃ w8 w9, (∀ n, lX8_putBytes_3 x (n + 1) z8 s = lX8_putBytes_3 x n w8 (s + (-8))) ∧ (∀ n, lX9_four_3 x (n + 1) z9 s = lX9_four_3 x n w9 (s + (-8))) ∧ TX w8 w9 (N + 1) := by
  obtain ⟨h8, h9, -, hB⟩ := hT
  have cl : (nI N).toNatClampNeg = N := nI_clamp (by omega)
  have pe : ∀ v : Int32, fX8_put 400 (gT z8 0) (nI N) v = some (upd (gT z8 0) N v) := fun v => by
    unfold fX8_put
    rw [if_neg (nI_pos (by omega)), if_neg (nI_ge hN (by omega)), gd_pos ⟨nI_pos (by omega), by rw [cl]; exact hN⟩, cl]
  refine ⟨sI (sTf z8 0 (upd (gT z8 0) N (((x.toUInt32 >>> (Int32.toUInt32 s &&& Int32.toUInt32 31)).toInt32) &&& 255))) 1 (nI (N + 1)), sI (sT z9 0 N (vp_nar .byte ((x >>> (s &&& 31)).toInt8.toInt32))) 1 (nI (N + 1)), fun n => ?_, fun n => ?_, rfl, rfl, by omega, fun i hi => ?_⟩
  · rw [lX8_putBytes_3, if_neg hs, h8, bd_eq (pe _), nI_1]
  · rw [lX9_four_3, if_neg hs, h9, gd_pos ⟨nI_pos (by omega), by rw [cl]; exact hN⟩, cl, nI_1]
  · show SB (upd (gT z8 0) N _ i) (upd (gT z9 0) N _ i)
    by_cases c : i = N
    · rw [c, show upd (gT z8 0) N (((x.toUInt32 >>> (Int32.toUInt32 s &&& Int32.toUInt32 31)).toInt32) &&& 255) N = _ from if_pos rfl, show upd (gT z9 0) N (vp_nar .byte ((x >>> (s &&& 31)).toInt8.toInt32)) N = _ from if_pos rfl]
      exact hb
    · rw [show upd (gT z8 0) N (((x.toUInt32 >>> (Int32.toUInt32 s &&& Int32.toUInt32 31)).toInt32) &&& 255) i = gT z8 0 i from if_neg c, show upd (gT z9 0) N (vp_nar .byte ((x >>> (s &&& 31)).toInt8.toInt32)) i = gT z9 0 i from if_neg c]
      exact hB i (by omega)
theorem four_both (hT : TX z8 z9 N) (hN : N + 4 ≤ 400) : ∃ w8 w9, fX8_putBytes z8 x = some w8 ∧ fX9_four z9 x = some w9 ∧ TX w8 w9 (N + 4) := by
  obtain ⟨a8, a9, a1, a2, a3⟩ := put_step (x := x) (s := 24) hT (by omega) (by decide) (lo_eq (k := 24) (by decide) rfl rfl)
  obtain ⟨b8, b9, b1, b2, b3⟩ := put_step (x := x) (s := 16) a3 (by omega) (by decide) (lo_eq (k := 16) (by decide) rfl rfl)
  obtain ⟨c8, c9, c1, c2, c3⟩ := put_step (x := x) (s := 8) b3 (by omega) (by decide) (lo_eq (k := 8) (by decide) rfl rfl)
  obtain ⟨d8, d9, d1, d2, d3⟩ := put_step (x := x) (s := 0) c3 (by omega) (by decide) (lo_eq (k := 0) (by decide) rfl rfl)
  refine ⟨d8, d9, ?_, ?_, d3⟩
  · show lX8_putBytes_3 x (18446744073709551611 + 1 + 1 + 1 + 1 + 1) z8 24 = _
    rw [a1, show (24 : Int32) + (-8) = 16 by decide, b1, show (16 : Int32) + (-8) = 8 by decide, c1, show (8 : Int32) + (-8) = 0 by decide, d1, lX8_putBytes_3, if_pos (by decide)]
  · show lX9_four_3 x (18446744073709551611 + 1 + 1 + 1 + 1 + 1) z9 24 = _
    rw [a2, show (24 : Int32) + (-8) = 16 by decide, b2, show (16 : Int32) + (-8) = 8 by decide, c2, show (8 : Int32) + (-8) = 0 by decide, d2, lX9_four_3, if_pos (by decide)]
theorem feed_whole {x1 x2 x3 x4 x5 : Int32} (hT : TX z8 z9 N) : ∃ (r : Int32) (w8 w9 : Sx) (M : Nat), fX8_feed z8 x1 x2 x3 x4 x5 = some (r, w8) ∧ fX9_feed z9 x1 x2 x3 x4 x5 = some (r, w9) ∧ TX w8 w9 M := by
  obtain ⟨h8, h9, hN, hB⟩ := id hT
  have e20 : nI N + 20 = nI (N + 20) := nI_add N 20
  unfold fX8_feed fX9_feed
  rw [h8, h9, e20]
  by_cases c : N + 20 ≤ 400
  · obtain ⟨a8, a9, a1, a2, a3⟩ := four_both (x := x1) hT (by omega)
    obtain ⟨b8, b9, b1, b2, b3⟩ := four_both (x := x2) a3 (by omega)
    obtain ⟨c8, c9, c1, c2, c3⟩ := four_both (x := x3) b3 (by omega)
    obtain ⟨d8, d9, d1, d2, d3⟩ := four_both (x := x4) c3 (by omega)
    obtain ⟨e8, e9, e1, e2, e3⟩ := four_both (x := x5) d3 (by omega)
    rw [if_pos (show nI (N + 20) ≤ 400 from nI_le (b := 400) c (by decide)), if_pos (show nI (N + 20) ≤ 400 from nI_le (b := 400) c (by decide)), bd_eq a1, bd_eq b1, bd_eq c1, bd_eq d1, bd_eq e1, bd_eq a2, bd_eq b2, bd_eq c2, bd_eq d2, bd_eq e2, e3.1, e3.2.1]
    exact ⟨_, _, _, _, rfl, rfl, e3⟩
  · have n : ¬ nI (N + 20) ≤ 400 := nI_ge (a := 400) (by omega) (by omega)
    rw [if_neg n, if_neg n]
    exact ⟨_, _, _, _, rfl, rfl, hT⟩
theorem end_whole {x1 : Int32} (hT : TX z8 z9 N) : ∃ (r : Int32) (w8 w9 : Sx) (M : Nat), fX8_end z8 x1 = some (r, w8) ∧ fX9_end z9 x1 = some (r, w9) ∧ TX w8 w9 M := by
  obtain ⟨h8, h9, hN, hB⟩ := id hT
  unfold fX8_end fX9_end
  rw [h8, h9]
  by_cases c1 : x1 < 0
  · rw [if_pos c1, if_pos c1]
    exact ⟨_, _, _, _, rfl, rfl, hT⟩
  · rw [if_neg c1, if_neg c1]
    by_cases c2 : x1 ≤ nI N
    · rw [if_pos c2, if_pos c2]
      have a := bI_nlt rfl (show (0 : Int32).toInt = 0 by decide) c1
      have b := bI_le rfl (nI_toInt (n := N) (by omega)) c2
      have e : x1 = nI x1.toInt.toNat := Int32.toInt_inj.1 (by rw [nI_toInt (by omega)]; omega)
      exact ⟨_, _, _, x1.toInt.toNat, rfl, rfl, e, e, by omega, fun i hi => hB i (by omega)⟩
    · rw [if_neg c2, if_neg c2]
      exact ⟨_, _, _, _, rfl, rfl, hT⟩
end FED

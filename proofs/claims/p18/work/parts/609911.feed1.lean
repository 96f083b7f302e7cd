/-! FEED: four signs of an int, on both sides. -/
theorem and255 (y : Int32) : (y &&& 255).toInt = y.toInt % 256 := by
  have h1 : (y &&& 255).toBitVec = y.toBitVec &&& 255#32 := rfl
  have h2 : (y.toBitVec &&& 255#32).toNat = y.toBitVec.toNat % 256 := by
    rw [BitVec.toNat_and]
    exact Nat.and_two_pow_sub_one_eq_mod y.toBitVec.toNat 8
  have h3 : (y &&& 255).toInt = (y.toBitVec &&& 255#32).toInt := rfl
  have h4 : y.toInt = y.toBitVec.toInt := rfl
  rw [h3, h4, BitVec.toInt_eq_toNat_cond, BitVec.toInt_eq_toNat_cond, h2]
  have h5 := y.toBitVec.isLt
  split <;> split <;> omega
theorem sb_low (y : Int32) : SB (y &&& 255) y.toInt8.toInt32 := by
  have e1 := and255 y
  have e2 : (y.toInt8.toInt32).toInt = y.toInt.bmod (2 ^ 8) := by
    rw [Int8.toInt_toInt32, Int32.toInt_toInt8]
  have e3 := Int.bmod_def y.toInt (2 ^ 8)
  unfold SB
  rw [e1, e2, e3]
  have e4 : ((2 ^ 8 : Nat) : Int) = 256 := rfl
  rw [e4]
  split <;> omega

def lX7_orderLooks_56 (k112 : Sx → Int32 → Option (Sx)) (x1 : Int32) : Nat → Sx → Int32 → Option (Sx)
  | 0, _, _ => none
  | n + 1, z_t, x2 => if x2 ≤ 0 then k112 z_t x2 else bd (fX8_at 10 (gT z_t 16) (x2 - 1)) (fun r12 => bd (fX8_at 10 (gT z_t 15) r12) (fun r14 => bd (fX8_at 10 (gT z_t 15) x1) (fun r16 => if r16 ≤ r14 then k112 z_t x2 else bd (fX8_at 10 (gT z_t 16) (x2 - 1)) (fun r19 => bd (fX8_put 10 (gT z_t 16) x2 r19) (fun z21 => lX7_orderLooks_56 k112 x1 n (sTf z_t 16 z21) (x2 + (-1)))))))
def lX7_orderLooks_2 : Nat → Sx → Int32 → Option (Sx)
  | 0, _, _ => none
  | n + 1, z_t, x1 => if (gI z_t 3) ≤ x1 then some z_t else bd (fX8_at 10 (gT z_t 9) x1) (fun r3 => bd (fX8_at 10 (gT (sI z_t 17 (mxI (gI z_t 17) r3)) 10) x1) (fun r5 => bd (fX8_at 10 (gT (sI z_t 17 (mxI (gI z_t 17) r3)) 12) x1) (fun r7 => bd (fX8_put 10 (gT (sI z_t 17 (mxI (gI z_t 17) r3)) 15) x1 (r5 * r7)) (fun z9 => lX7_orderLooks_56 (fun (z22 : Sx) (i23 : Int32) => bd (fX8_put 10 (gT z22 16) i23 x1) (fun z25 => lX7_orderLooks_2 n (sTf z22 16 z25) (x1 + 1))) x1 FU (sTf (sI z_t 17 (mxI (gI z_t 17) r3)) 15 z9) x1))))
def fX7_orderLooks (z_t : Sx) : Option (Sx) := lX7_orderLooks_2 FU z_t 0

def fX7_payOf (z_t : Sx) (x1 : Int32) : Option (Int32) := bd (fX7_together z_t 10 (gT z_t 12) x1) (fun r2 => some r2)

def fX7_readFault (z_t : Sx) (z_p1 : Sx) : Option (Sx × Sx) := bd2 (fX6_takeNumber z_p1 0 ((gI z_t 2) - 1)) (fun r2 z3 => bd (fX8_put 10 (gT z_t 8) (gI z_t 3) r2) (fun z5 => bd2 (fX6_takeNumber z3 1 99) (fun r7 z8 => bd (fX8_put 10 (gT (sTf z_t 8 z5) 9) (gI z_t 3) r7) (fun z10 => bd2 (fX6_takeNumber z8 0 100) (fun r12 z13 => bd (fX8_put 10 (gT (sTf (sTf z_t 8 z5) 9 z10) 10) (gI z_t 3) r12) (fun z15 => bd (fX8_put 10 (gT (sTf (sTf (sTf z_t 8 z5) 9 z10) 10 z15) 11) (gI z_t 3) (-1)) (fun z17 => jn (fun (z19 : Sx) (z20 : Sx) => bd (fX8_at 6 (gT z19 5) r2) (fun r22 => bd (fX8_put 10 (gT z19 12) (gI z19 3) r22) (fun z24 => bd (fX8_at 6 (gT (sTf z19 12 z24) 6) r2) (fun r26 => bd (fX8_put 10 (gT (sTf z19 12 z24) 13) (gI z19 3) r26) (fun z28 => bd (fX8_at 6 (gT (sTf (sTf z19 12 z24) 13 z28) 7) r2) (fun r30 => bd (fX8_put 10 (gT (sTf (sTf z19 12 z24) 13 z28) 14) (gI z19 3) r30) (fun z32 => some (sI (sTf (sTf (sTf z19 12 z24) 13 z28) 14 z32) 3 ((gI z19 3) + 1), z20)))))))) (fun J18 => if (gI z13 8) = 0 then if (gI z13 5) = 305 then bd (fX6_step z13) (fun z36 => bd2 (fX6_takeNumber z36 0 ((gI z_t 3) - 1)) (fun r38 z39 => bd (fX8_put 10 (gT (sTf (sTf (sTf (sTf z_t 8 z5) 9 z10) 10 z15) 11 z17) 11) (gI z_t 3) r38) (fun z41 => J18 (sTf (sTf (sTf (sTf (sTf z_t 8 z5) 9 z10) 10 z15) 11 z17) 11 z41) z39))) else J18 (sTf (sTf (sTf (sTf z_t 8 z5) 9 z10) 10 z15) 11 z17) z13 else J18 (sTf (sTf (sTf (sTf z_t 8 z5) 9 z10) 10 z15) 11 z17) z13))))))))

def fX7_readKind (z_t : Sx) (z_p1 : Sx) : Option (Sx × Sx) := bd2 (fX6_takeNumber z_p1 0 99) (fun r2 z3 => bd (fX8_put 6 (gT z_t 5) (gI z_t 2) r2) (fun z5 => bd2 (fX6_takeNumber z3 0 99) (fun r7 z8 => bd (fX8_put 6 (gT (sTf z_t 5 z5) 6) (gI z_t 2) r7) (fun z10 => bd2 (fX6_takeNumber z8 0 99) (fun r12 z13 => bd (fX8_put 6 (gT (sTf (sTf z_t 5 z5) 6 z10) 7) (gI z_t 2) r12) (fun z15 => some (sI (sTf (sTf (sTf z_t 5 z5) 6 z10) 7 z15) 2 ((gI z_t 2) + 1), z13)))))))

def fX7_readClause (z_t : Sx) (z_p1 : Sx) (x2 : Int32) : Option (Sx × Sx) := jn (jn (fun (i3 : Int32) => jn (bd (fX6_fail z_p1 4) (fun z6 => some (z_t, z6))) (fun J4 => if i3 = 0 then if x2 < 24 then bd (fX6_step z_p1) (fun z10 => if (gI z_p1 5) = 304 then bd2 (fX6_takeNumber z10 1 480) (fun r20 z21 => some (sI (sI z_t 4 1) 1 r20, z21)) else if (gI z_p1 5) = 313 then bd2 (fX7_readKind z_t z10) (fun z17 z18 => some (z17, z18)) else bd2 (fX7_readFault z_t z10) (fun z14 z15 => some (z14, z15))) else J4 else J4)) (fun J2 => if (gI z_p1 5) = 304 then J2 (gI z_t 4) else if (gI z_p1 5) = 313 then if (gI z_t 2) < 6 then J2 0 else J2 1 else if (gI z_t 3) < 10 then J2 0 else J2 1)) (fun J1 => if (gI z_p1 5) = 304 then J1 else if (gI z_p1 5) = 313 then J1 else if (gI z_p1 5) = 312 then J1 else bd (fX6_fail z_p1 0) (fun z30 => some (z_t, z30)))

def lX7_readFrom_10 (k37 : Sx → Sx → Option (Sx × Sx)) : Nat → Sx → Sx → Int32 → Int32 → Option (Sx × Sx)
  | 0, _, _, _, _ => none
  | n + 1, z_t, z_p1, x2, x3 => if x2 = 0 then k37 z_t z_p1 else if 24 < x3 then k37 z_t z_p1 else bd2 (fX7_readClause z_t z_p1 x3) (fun z4 z5 => bd2 (fX6_anotherClause z5) (fun r7 z8 => lX7_readFrom_10 k37 n z4 z8 r7 (x3 + 1)))
def fX7_readFrom (z_t : Sx) (z_p1 : Sx) : Option (Sx × Sx) := lX7_readFrom_10 (fun (z9 : Sx) (z10 : Sx) => jn (fun (z12 : Sx) (z13 : Sx) => bd (fX7_orderLooks z12) (fun z15 => some (z15, z13))) (fun J11 => if (gI z9 3) = 0 then bd (fX6_fail z10 0) (fun z18 => J11 z9 z18) else J11 z9 z10)) FU (sI z_t 1 60) z_p1 1 0

def fX8_back_none (z_t : Sx) (B_t_6 : Nat → Option Nat) (x1 : Int32) : Option (Int32) := if x1 < 0 then some (-1) else if x1 < 4 then gd (inb x1 4) (some (-1)) else some (-1)

def fX8_back_some (z_t : Sx) (z_t_5 : Sx) (z_t_5_1 : Sx) (B_t_6 : Nat → Option Nat) (z_R : Sx) (z_R_1 : Sx) (x1 : Int32) : Option (Int32 × Sx × Sx) := if x1 < 0 then none else if x1 < 4 then gd (inb x1 4) (bd2 (fX5_copyFrom z_t_5 z_t_5_1 z_R z_R_1) (fun z5 z6 => some (gI z5 4, z5, z6))) else none

def fX8_hasWork (z_t : Sx) (z_t_5 : Sx) (z_t_5_0 : Sx) : Option (Int32) := if (gI z_t_5_0 3) ≤ 0 then some 0 else some 1

def lX8_partOf_12 (k47 : Int64 → Option (Int64)) (x0 : Int64) (x2 : Int64) (x4 : Int32) : Nat → Int64 → Int64 → Int32 → Option (Int64)
  | 0, _, _, _ => none
  | n + 1, x5, x7, x9 => if 100 ≤ x9 then k47 x5 else if x7 = 0 then k47 x5 else gd (¬ x7 = 0) (lX8_partOf_12 k47 x0 x2 x4 n x7 (x5 - x5 / x7 * x7) (x9 + 1))
def fX8_partOf (x0 : Int64) (x2 : Int64) (x4 : Int32) : Option (Int64) := lX8_partOf_12 (fun (i4 : Int64) => if i4 = 0 then if x4 = 0 then some x0 else some x2 else jn (fun (i7 : Int64) => gd (¬ i4 = 0) (some (i7 / i4))) (fun J6 => if x4 = 0 then J6 x0 else J6 x2)) x0 x2 x4 FU (abL x0) x2 0

def fX8_best (z_t : Sx) (z_t_5 : Sx) (z_t_5_0 : Sx) (z_t_5_1 : Sx) (z_t_10 : Sx) (x1 : Int32) (x2 : Int32) : Option (Int64 × Sx) := bd (fX8_hasWork z_t z_t_5 z_t_5_0) (fun r2 => if r2 = 0 then some ((-1), z_t_10) else if x1 < 0 then some ((-1), z_t_10) else if 5 < x1 then some ((-1), z_t_10) else if x2 < 0 then some ((-1), z_t_10) else if x2 ≤ 2 then bd (fX0_gone z_t_5_1) (fun r9 => if x2 = 2 then bd2 (fX1_choice z_t_10 z_t_5_0 x1 r9 (gI z_t_5_1 0)) (fun r19 z20 => some (r19.toInt64, z20)) else bd2 (fX1_mostEarned 16 z_t_10 z_t_5_0 x1 r9 (gI z_t_5_1 0)) (fun r12 z13 => bd (fX8_hundreds x1) (fun r15 => bd (fX8_partOf r12 r15 x2) (fun r17 => some (r17, z13))))) else some ((-1), z_t_10))

def lX8_checks_26 (x1 : Int32) (x2 : Int32) : Nat → Int32 → Option (Int32)
  | 0, _ => none
  | n + 1, x3 => if 100 ≤ x3 then some x3 else if (x1 * (100 - x3)) ≤ (x2 * x3) then some x3 else lX8_checks_26 x1 x2 n (x3 + 1)
def fX8_checks (x1 : Int32) (x2 : Int32) : Option (Int32) := if x1 < 0 then some (-1) else if 9999 < x1 then some (-1) else if x2 < 0 then some (-1) else if x2 ≤ 9999 then lX8_checks_26 x1 x2 FU 0 else some (-1)

def fX8_coins (z_t : Sx) (z_t_5 : Sx) (z_t_5_1 : Sx) (x1 : Int32) : Option (Int32) := if x1 = 0 then some (gI z_t_5_1 1) else if x1 = 1 then some (gI z_t_5 2) else if x1 = 2 then some (gI z_t_5 3) else some (-1000000)

def fX8_count (z_t : Sx) (z_t_5 : Sx) (z_t_5_0 : Sx) (z_t_5_1 : Sx) (x1 : Int32) : Option (Int32) := if x1 = 0 then some (gI z_t_5_0 3) else if x1 = 1 then some (gI z_t_5_0 2) else if x1 = 2 then some (gI z_t 3) else if x1 = 3 then some (gI z_t_5_1 0) else if x1 = 4 then bd (fJ6_bitCount_0f7a4 (gI z_t_5_1 2)) (fun r3 => some r3) else if x1 = 5 then bd (fJ6_bitCount_0f7a4 (gI z_t_5_1 3)) (fun r5 => some r5) else if x1 = 6 then some (gI z_t_5 6) else if x1 = 7 then some (gI z_t_5_1 4) else if x1 = 8 then some (gI z_t 1) else if x1 = 9 then some (gI z_t_5 4) else if x1 = 10 then some (gI z_t_5_0 1) else some (-1)

def fX8_dawn (z_t : Sx) (z_t_5 : Sx) (z_t_5_0 : Sx) (z_t_5_1 : Sx) : Option (Int32 × Sx × Sx) := bd (fX8_hasWork z_t z_t_5 z_t_5_0) (fun r2 => if r2 = 0 then some ((-1000000), z_t_5, z_t_5_1) else bd (fX0_gone z_t_5_1) (fun r5 => bd (fX7_hiddenCoins z_t_5_0 r5) (fun r7 => bd (fX0_begin z_t_5_1 (gI z_t_5_0 1)) (fun z9 => some ((gI z_t_5 2) + r7, sI (sI (sI z_t_5 2 ((gI z_t_5 2) + r7)) 3 ((gI z_t_5 3) + (gI z_t_5_1 1))) 4 ((gI z_t_5 4) + 1), z9)))))

def fX8_ruleForWork (z_t : Sx) (B_t_2 : Nat → Option Nat) (z_t_5 : Sx) (z_t_5_0 : Sx) (x1 : Int32) : Option ((Option Nat)) := jn (fun (i2 : Int32) => if i2 = 0 then some none else gd (inb x1 6) (some (B_t_2 x1.toNatClampNeg))) (fun J1 => jn (J1 0) (fun J5 => if x1 < 0 then J5 else if (gI z_t 3) ≤ x1 then J5 else if 6 ≤ x1 then J5 else bd (fX8_hasWork z_t z_t_5 z_t_5_0) (fun r10 => if r10 = 0 then J5 else J1 1)))

def fX8_day_none (z_t : Sx) (B_t_2 : Nat → Option Nat) (z_t_5 : Sx) (z_t_5_0 : Sx) (x1 : Int32) : Option (Int32) := bd (fX8_ruleForWork z_t B_t_2 z_t_5 z_t_5_0 x1) (fun r2 => some (-1000000))

def fX8_day_some (z_t : Sx) (B_t_2 : Nat → Option Nat) (z_t_5 : Sx) (z_t_5_0 : Sx) (z_t_5_1 : Sx) (z_t_9 : Sx) (nc_R : Nat) (z_R : Sx) (x1 : Int32) : Option (Int32 × Sx × Sx) := bd (fX8_ruleForWork z_t B_t_2 z_t_5 z_t_5_0 x1) (fun r2 => bd3 (fX2_play z_t_9 z_t_5_0 nc_R z_R z_t_5_1) (fun r4 z5 z6 => some ((gI z6 1) - (gI z_t_5_1 1), z6, z5)))

def fX8_end (z_t : Sx) (x1 : Int32) : Option (Int32 × Sx) := if x1 < 0 then some ((-1), z_t) else if x1 ≤ (gI z_t 1) then some (x1, sI z_t 1 x1) else some ((-1), z_t)

def fX8_isFault (z_t : Sx) (z_t_5 : Sx) (z_t_5_0 : Sx) (x1 : Int32) : Option (Int32) := if x1 < 0 then some 0 else if (gI z_t_5_0 3) ≤ x1 then some 0 else some 1

def fX8_fault (z_t : Sx) (z_t_5 : Sx) (z_t_5_0 : Sx) (z_t_5_1 : Sx) (x1 : Int32) (x2 : Int32) : Option (Int32) := bd (fX8_isFault z_t z_t_5 z_t_5_0 x1) (fun r2 => if r2 = 0 then some (-2) else if x2 = 0 then bd (fX8_at 10 (gT z_t_5_0 8) x1) (fun r6 => some r6) else if x2 = 1 then bd (fX8_at 10 (gT z_t_5_0 9) x1) (fun r8 => some r8) else if x2 = 2 then bd (fX8_at 10 (gT z_t_5_0 10) x1) (fun r10 => some r10) else if x2 = 3 then bd (fX8_at 10 (gT z_t_5_0 11) x1) (fun r12 => some r12) else if x2 = 4 then bd (fX8_has (gI z_t_5_1 2) x1) (fun r14 => if r14 = 0 then bd (fX8_has (gI z_t_5_1 3) x1) (fun r17 => if r17 = 0 then some 0 else some 2) else some 1) else if x2 = 5 then bd (fX8_at 10 (gT z_t_5_1 5) x1) (fun r20 => some r20) else if x2 = 6 then bd (fX0_gone z_t_5_1) (fun r22 => bd (fX7_isOpen z_t_5_0 x1 r22) (fun r24 => if r24 = 0 then some 0 else some 1)) else some (-2))

def lX8_putBytes_3 (x1 : Int32) : Nat → Sx → Int32 → Option (Sx)
  | 0, _, _ => none
  | n + 1, z_t, x2 => if x2 < 0 then some z_t else bd (fX8_put 400 (gT z_t 0) (gI z_t 1) (((x1.toUInt32 >>> (Int32.toUInt32 x2 &&& Int32.toUInt32 31)).toInt32) &&& 255)) (fun z3 => lX8_putBytes_3 x1 n (sI (sTf z_t 0 z3) 1 ((gI z_t 1) + 1)) (x2 + (-8)))
def fX8_putBytes (z_t : Sx) (x1 : Int32) : Option (Sx) := lX8_putBytes_3 x1 FU z_t 24

def fX8_feed (z_t : Sx) (x1 : Int32) (x2 : Int32) (x3 : Int32) (x4 : Int32) (x5 : Int32) : Option (Int32 × Sx) := if ((gI z_t 1) + 20) ≤ 400 then bd (fX8_putBytes z_t x1) (fun z3 => bd (fX8_putBytes z3 x2) (fun z5 => bd (fX8_putBytes z5 x3) (fun z7 => bd (fX8_putBytes z7 x4) (fun z9 => bd (fX8_putBytes z9 x5) (fun z11 => some (gI z11 1, z11)))))) else some ((-1), z_t)

def fX8_fine (z_t : Sx) (z_t_5 : Sx) (z_t_5_0 : Sx) (z_t_5_1 : Sx) (x1 : Int32) : Option (Int32 × Sx) := bd (fX8_hasWork z_t z_t_5 z_t_5_0) (fun r2 => if r2 = 0 then some ((-1000000), z_t_5_1) else if x1 < 0 then some ((-1000000), z_t_5_1) else if x1 ≤ 999 then some ((gI z_t_5_1 1) - x1, sI z_t_5_1 1 ((gI z_t_5_1 1) - x1)) else some ((-1000000), z_t_5_1))

def lX8_fits_57 (k127 : Int32 → Int32 → Int32 → Option (Int32)) (z_t : Sx) (z_t_5 : Sx) (z_t_5_0 : Sx) (z_t_5_1 : Sx) (x1 : Int32) (x2 : Int32) (x3 : Int32) : Nat → Int32 → Int32 → Int32 → Int32 → Option (Int32)
  | 0, _, _, _, _ => none
  | n + 1, x4, x5, x6, x7 => if x3 < x7 then k127 x4 x5 x6 else bd (fX7_payOf z_t_5_0 x7) (fun r12 => jn (fun (i14 : Int32) (i15 : Int32) (i16 : Int32) => lX8_fits_57 k127 z_t z_t_5 z_t_5_0 z_t_5_1 x1 x2 x3 n i14 i15 i16 (x7 + 1)) (fun J13 => if r12 = x1 then bd (fX7_couldBeFound z_t_5_0 x7 (gI z_t_5_1 3)) (fun r19 => if r19 = 0 then J13 x4 x5 x6 else J13 (x4 + 1) (x5 &&& x7) (x6 ||| x7)) else J13 x4 x5 x6))
def fX8_fits (z_t : Sx) (z_t_5 : Sx) (z_t_5_0 : Sx) (z_t_5_1 : Sx) (x1 : Int32) (x2 : Int32) : Option (Int32) := bd (fX8_hasWork z_t z_t_5 z_t_5_0) (fun r2 => if r2 = 0 then some (-1) else if x1 < 0 then some (-1) else if 9999 < x1 then some (-1) else if x2 < 0 then some (-1) else if x2 ≤ 2 then bd (fX8_bit (gI z_t_5_0 3)) (fun r9 => lX8_fits_57 (fun (i21 : Int32) (i22 : Int32) (i23 : Int32) => if x2 = 0 then some i21 else if i21 = 0 then some i21 else if x2 = 1 then some i22 else some ((r9 - 1) &&& (i23 ^^^ (-1)))) z_t z_t_5 z_t_5_0 z_t_5_1 x1 x2 (r9 - 1) FU 0 (r9 - 1) 0 0) else some (-1))

def fX8_game (z_t : Sx) (z_t_5 : Sx) (x1 : Int32) (x2 : Int32) : Option (Int32 × Sx) := if x1 < 0 then some ((-1000), z_t_5) else if 8 ≤ x1 then some ((-1000), z_t_5) else if x2 < (-99) then some ((-1000), z_t_5) else if x2 ≤ 99 then gd (inb x1 8) (some (gT z_t_5 7 x1.toNatClampNeg, sT z_t_5 7 x1.toNatClampNeg x2)) else some ((-1000), z_t_5)

def fX8_image_none (z_t : Sx) (z_t_5 : Sx) (z_t_5_1 : Sx) (B_t_6 : Nat → Option Nat) (x1 : Int32) : Option (Int32 × Sx × Sx) := if x1 < 0 then none else if x1 < 4 then gd (inb x1 4) (gd (inb x1 4) (bd2 (fX5_copyFrom Z0 Z0 z_t_5 z_t_5_1) (fun z6 z7 => some (gI z_t_5 4, z6, z7)))) else none

def fX8_image_some (z_t : Sx) (z_t_5 : Sx) (z_t_5_1 : Sx) (B_t_6 : Nat → Option Nat) (z_R : Sx) (z_R_1 : Sx) (x1 : Int32) : Option (Int32 × Sx × Sx) := if x1 < 0 then none else if x1 < 4 then gd (inb x1 4) (bd2 (fX5_copyFrom z_R z_R_1 z_t_5 z_t_5_1) (fun z5 z6 => some (gI z_t_5 4, z5, z6))) else none

def fX8_kind (z_t : Sx) (z_t_5 : Sx) (z_t_5_0 : Sx) (x1 : Int32) (x2 : Int32) : Option (Int32) := if x1 < 0 then some (-1) else if x1 < (gI z_t_5_0 2) then if x2 = 0 then bd (fX8_at 6 (gT z_t_5_0 5) x1) (fun r5 => some r5) else if x2 = 1 then bd (fX8_at 6 (gT z_t_5_0 6) x1) (fun r7 => some r7) else if x2 = 2 then bd (fX8_at 6 (gT z_t_5_0 7) x1) (fun r9 => some r9) else some (-1) else some (-1)

def fX8_look (z_t : Sx) (z_t_5 : Sx) (z_t_5_0 : Sx) (z_t_5_1 : Sx) (x1 : Int32) : Option (Int32 × Sx) := bd (fX8_isFault z_t z_t_5 z_t_5_0 x1) (fun r2 => if r2 = 0 then some ((-1), z_t_5_1) else bd (fX0_gone z_t_5_1) (fun r5 => bd (fX7_isOpen z_t_5_0 x1 r5) (fun r7 => if r7 = 0 then some ((-2), z_t_5_1) else bd (fX8_at 10 (gT z_t_5_0 9) x1) (fun r10 => if r10 ≤ (gI z_t_5_1 0) then bd2 (fX0_lookFor z_t_5_1 z_t_5_0 x1) (fun r13 z14 => if r13 = 0 then some (0, z14) else some (1, z14)) else some ((-3), z_t_5_1)))))

def fX8_master (z_t : Sx) (z_t_5 : Sx) (z_t_5_0 : Sx) (z_t_5_1 : Sx) (z_t_10 : Sx) (x1 : Int32) (x2 : Int32) : Option (Int64 × Sx) := bd (fX8_hasWork z_t z_t_5 z_t_5_0) (fun r2 => if r2 = 0 then some ((-1000000000000), z_t_10) else if x1 < 0 then some ((-1000000000000), z_t_10) else if 4 < x1 then some ((-1000000000000), z_t_10) else if x2 < 0 then some ((-1000000000000), z_t_10) else if x2 ≤ 2 then bd (fX0_gone z_t_5_1) (fun r9 => bd (fX1_weighSets z_t_10 z_t_5_0 x1 r9 (gI z_t_5_1 0)) (fun z11 => if x2 = 2 then some ((gI z11 2).toInt64, z11) else bd (fX8_hundreds x1) (fun r14 => bd (fX8_partOf (gJ z11 3 0) r14 x2) (fun r16 => some (r16, z11))))) else some ((-1000000000000), z_t_10))

def fX8_mend (z_t : Sx) (z_t_5 : Sx) (z_t_5_0 : Sx) (z_t_5_1 : Sx) (x1 : Int32) : Option (Int32 × Sx × Sx) := bd (fX8_isFault z_t z_t_5 z_t_5_0 x1) (fun r2 => if r2 = 0 then some ((-1000000), z_t_5, z_t_5_1) else bd (fX0_gone z_t_5_1) (fun r5 => bd (fX8_has r5 x1) (fun r7 => if r7 = 0 then bd (fX8_bit x1) (fun r10 => bd (fX8_at 10 (gT z_t_5_0 14) x1) (fun r12 => some ((gI z_t_5 2) - r12, sI z_t_5 2 ((gI z_t_5 2) - r12), sI z_t_5_1 3 ((gI z_t_5_1 3) ||| r10)))) else some ((-1000000), z_t_5, z_t_5_1))))

def lX8_rests_4 (z_t : Sx) (z_t_5 : Sx) : Nat → Int32 → Int32 → Option (Int32)
  | 0, _, _ => none
  | n + 1, x1, x2 => if 4 ≤ x2 then some x1 else bd (fX8_at 8 (gT z_t_5 7) x2) (fun r3 => bd (fX8_at 8 (gT z_t_5 7) (x2 ^^^ 2)) (fun r5 => jn (fun (i7 : Int32) => bd (fX8_at 8 (gT z_t_5 7) (4 + x2)) (fun r9 => bd (fX8_at 8 (gT z_t_5 7) (4 + (x2 ^^^ 1))) (fun r11 => jn (fun (i13 : Int32) => jn (fun (i15 : Int32) => lX8_rests_4 z_t z_t_5 n i15 (x2 + 1)) (fun J14 => if i7 = 0 then J14 x1 else if i13 = 0 then J14 x1 else J14 (x1 ||| ((1 : Int32) <<< (x2 &&& 31))))) (fun J12 => if r9 < r11 then J12 0 else J12 1)))) (fun J6 => if r3 < r5 then J6 0 else J6 1)))
def fX8_rests (z_t : Sx) (z_t_5 : Sx) : Option (Int32) := lX8_rests_4 z_t z_t_5 FU 0 0

def fX8_mixed (z_t : Sx) (z_t_5 : Sx) (x1 : Int32) (x2 : Int32) : Option (Int32) := if x1 < 0 then some (-1) else if 1 < x1 then some (-1) else if x2 < 0 then some (-1) else if x2 ≤ 1 then bd (fX8_rests z_t z_t_5) (fun r6 => if r6 = 0 then jn (fun (i9 : Int32) => jn (fun (i11 : Int32) => jn (fun (i13 : Int32) => bd (fX8_partOf i13.toInt64 ((abI (i9 + i11)).toInt64) x2) (fun r15 => some r15.toInt32)) (fun J12 => if 0 ≤ (i9 + i11) then J12 i11 else J12 (-i11))) (fun J10 => if x1 = 0 then bd (fX8_at 8 (gT z_t_5 7) 7) (fun r23 => bd (fX8_at 8 (gT z_t_5 7) 6) (fun r25 => J10 (r23 - r25))) else bd (fX8_at 8 (gT z_t_5 7) 3) (fun r19 => bd (fX8_at 8 (gT z_t_5 7) 1) (fun r21 => J10 (r19 - r21))))) (fun J8 => if x1 = 0 then bd (fX8_at 8 (gT z_t_5 7) 4) (fun r32 => bd (fX8_at 8 (gT z_t_5 7) 5) (fun r34 => J8 (r32 - r34))) else bd (fX8_at 8 (gT z_t_5 7) 0) (fun r28 => bd (fX8_at 8 (gT z_t_5 7) 2) (fun r30 => J8 (r28 - r30)))) else some (-2)) else some (-1)

def fX8_row (z_t : Sx) (z_t_5 : Sx) (z_t_5_0 : Sx) (x1 : Int32) : Option (Int32 × Sx) := if x1 = (-1) then some (0, sI z_t_5 6 0) else bd (fX8_isFault z_t z_t_5 z_t_5_0 x1) (fun r3 => if r3 = 0 then some ((-2), z_t_5) else if (gI z_t_5 6) < 8 then bd (fX8_put 8 (gT z_t_5 5) (gI z_t_5 6) x1) (fun z7 => some ((gI z_t_5 6) + 1, sI (sTf z_t_5 5 z7) 6 ((gI z_t_5 6) + 1))) else some ((-2), z_t_5))

def gX8_rowMean (rec : Sx → Sx → Sx → Int32 → Int32 → Int32 → Int32 → Option (Int64)) (z_t : Sx) (z_t_5 : Sx) (z_t_5_0 : Sx) (x1 : Int32) (x2 : Int32) (x3 : Int32) (x4 : Int32) : Option (Int64) := if (gI z_t_5 6) ≤ x1 then some 0 else if x1 < 8 then bd (fX8_at 8 (gT z_t_5 5) x1) (fun r4 => bd (fX8_at 10 (gT z_t_5_0 9) r4) (fun r6 => bd (fX7_isOpen z_t_5_0 r4 x2) (fun r8 => jn (bd (rec z_t z_t_5 z_t_5_0 (x1 + 1) x2 x3 x4) (fun r11 => some (100 * r11))) (fun J9 => if r8 = 0 then J9 else if r6 ≤ x3 then bd (fX8_at 10 (gT z_t_5_0 10) r4) (fun r15 => jn (fun (i17 : Int32) => bd (fX8_hundreds (((gI z_t_5 6) - x1) - 1)) (fun r19 => bd (fX8_bit r4) (fun r21 => bd (rec z_t z_t_5 z_t_5_0 (x1 + 1) (x2 ||| r21) (x3 - r6) x4) (fun r23 => bd (rec z_t z_t_5 z_t_5_0 (x1 + 1) x2 (x3 - r6) x4) (fun r25 => some ((r15.toInt64 * ((i17.toInt64 * r19) + r23)) + (((100 - r15).toInt64) * r25))))))) (fun J16 => if x4 = (-1) then bd (fX8_at 10 (gT z_t_5_0 12) r4) (fun r29 => J16 r29) else if r4 = x4 then J16 1 else J16 0)) else J9)))) else some 0
def fX8_rowMean : Nat → Sx → Sx → Sx → Int32 → Int32 → Int32 → Int32 → Option (Int64)
  | 0 => fun _ _ _ _ _ _ _ => none
  | dp + 1 => gX8_rowMean (fX8_rowMean dp)

def lX8_rule_57 (k85 : Sx → Sx → Sx → Option (Int32 × Sx × Sx × Sx)) (B_t_2 : Nat → Option Nat) : Nat → Sx → Sx → Sx → Int32 → Int32 → Option (Int32 × Sx × Sx × Sx)
  | 0, _, _, _, _, _ => none
  | n + 1, z_t, z_t_8, z_t_8_0, x2, x3 => if x2 = 0 then k85 z_t z_t_8 z_t_8_0 else if 12 < x3 then k85 z_t z_t_8 z_t_8_0 else bd2 (fX4_readClause z_t_8 z_t_8_0) (fun z10 z11 => bd2 (fX6_anotherClause z11) (fun r13 z14 => lX8_rule_57 k85 B_t_2 n z_t z10 z14 r13 (x3 + 1)))
def fX8_rule (z_t : Sx) (B_t_2 : Nat → Option Nat) (z_t_8 : Sx) (z_t_8_0 : Sx) : Option (Int32 × Sx × Sx × Sx) := if (gI z_t 3) < 0 then some ((-1), z_t, z_t_8, z_t_8_0) else if (gI z_t 3) < 6 then bd (fX6_open z_t_8_0 400 (gT z_t 0) (gI z_t 1)) (fun z4 => bd (fX4_start z_t_8) (fun z6 => lX8_rule_57 (fun (z15 : Sx) (z16 : Sx) (z17 : Sx) => if (gI z17 8) = 0 then gd (inb (gI z15 3) 6) (some (((gI z15 3) + 1) - 1, sI z15 3 ((gI z15 3) + 1), z16, z17)) else some ((-2) - (gI z17 8), z15, z16, z17)) B_t_2 FU (sI z_t 1 0) z6 z4 1 0)) else some ((-1), z_t, z_t_8, z_t_8_0)

def lX8_rule_fail_57 (k85 : Sx → Sx → Sx → Option (Int32 × Sx × Sx × Sx)) (B_t_2 : Nat → Option Nat) : Nat → Sx → Sx → Sx → Int32 → Int32 → Option (Int32 × Sx × Sx × Sx)
  | 0, _, _, _, _, _ => none
  | n + 1, z_t, z_t_8, z_t_8_0, x2, x3 => if x2 = 0 then k85 z_t z_t_8 z_t_8_0 else if 12 < x3 then k85 z_t z_t_8 z_t_8_0 else bd2 (fX4_readClause z_t_8 z_t_8_0) (fun z10 z11 => bd2 (fX6_anotherClause z11) (fun r13 z14 => lX8_rule_fail_57 k85 B_t_2 n z_t z10 z14 r13 (x3 + 1)))
def fX8_rule_fail (z_t : Sx) (B_t_2 : Nat → Option Nat) (z_t_8 : Sx) (z_t_8_0 : Sx) : Option (Int32 × Sx × Sx × Sx) := if (gI z_t 3) < 0 then some ((-1), z_t, z_t_8, z_t_8_0) else if (gI z_t 3) < 6 then bd (fX6_open z_t_8_0 400 (gT z_t 0) (gI z_t 1)) (fun z4 => bd (fX4_start z_t_8) (fun z6 => lX8_rule_fail_57 (fun (z15 : Sx) (z16 : Sx) (z17 : Sx) => if (gI z17 8) = 0 then none else some ((-2) - (gI z17 8), z15, z16, z17)) B_t_2 FU (sI z_t 1 0) z6 z4 1 0)) else some ((-1), z_t, z_t_8, z_t_8_0)

def lX8_rule_ok_57 (k85 : Sx → Sx → Sx → Option (Int32 × Sx × Sx × Sx)) (B_t_2 : Nat → Option Nat) : Nat → Sx → Sx → Sx → Int32 → Int32 → Option (Int32 × Sx × Sx × Sx)
  | 0, _, _, _, _, _ => none
  | n + 1, z_t, z_t_8, z_t_8_0, x2, x3 => if x2 = 0 then k85 z_t z_t_8 z_t_8_0 else if 12 < x3 then k85 z_t z_t_8 z_t_8_0 else bd2 (fX4_readClause z_t_8 z_t_8_0) (fun z10 z11 => bd2 (fX6_anotherClause z11) (fun r13 z14 => lX8_rule_ok_57 k85 B_t_2 n z_t z10 z14 r13 (x3 + 1)))
def fX8_rule_ok (z_t : Sx) (B_t_2 : Nat → Option Nat) (z_t_8 : Sx) (z_t_8_0 : Sx) : Option (Int32 × Sx × Sx × Sx) := if (gI z_t 3) < 0 then none else if (gI z_t 3) < 6 then bd (fX6_open z_t_8_0 400 (gT z_t 0) (gI z_t 1)) (fun z4 => bd (fX4_start z_t_8) (fun z6 => lX8_rule_ok_57 (fun (z15 : Sx) (z16 : Sx) (z17 : Sx) => if (gI z17 8) = 0 then gd (inb (gI z15 3) 6) (some (((gI z15 3) + 1) - 1, sI z15 3 ((gI z15 3) + 1), z16, z17)) else none) B_t_2 FU (sI z_t 1 0) z6 z4 1 0)) else none

def fX8_seed (z_t : Sx) (z_t_5 : Sx) (z_t_5_1 : Sx) (x1 : Int32) : Option (Int32 × Sx) := if 0 ≤ x1 then some (gI z_t_5_1 4, sI z_t_5_1 4 x1) else some ((-1), z_t_5_1)

def fX8_seen (z_t : Sx) (z_t_5 : Sx) (z_t_5_0 : Sx) (z_t_5_1 : Sx) (x1 : Int32) (x2 : Int32) : Option (Int64) := bd (fX8_isFault z_t z_t_5 z_t_5_0 x1) (fun r2 => if r2 = 0 then some (-1) else if x2 < 0 then some (-1) else if x2 ≤ 1 then bd (fX8_has (gI z_t_5_1 2) x1) (fun r7 => if r7 = 0 then bd (fX0_gone z_t_5_1) (fun r10 => bd (fX8_rowMean 16 z_t z_t_5 z_t_5_0 0 r10 (gI z_t_5_1 0) x1) (fun r12 => bd (fX8_hundreds (gI z_t_5 6)) (fun r14 => bd (fX8_partOf r12 r14 x2) (fun r16 => some r16)))) else some 1) else some (-1))

def fX8_weeks_none (z_t : Sx) (B_t_2 : Nat → Option Nat) (z_t_5 : Sx) (z_t_5_0 : Sx) (x1 : Int32) (x2 : Int32) (x3 : Int32) : Option (Int32) := bd (fX8_ruleForWork z_t B_t_2 z_t_5 z_t_5_0 x1) (fun r2 => some (-1))

def lX8_weeks_some_54 (z_t : Sx) (B_t_2 : Nat → Option Nat) (z_t_5 : Sx) (z_t_5_0 : Sx) (z_t_5_1 : Sx) (nc_R : Nat) (z_R : Sx) (x2 : Int32) (x3 : Int32) : Nat → Sx → Sx → Int32 → Int32 → Option (Int32 × Sx × Sx)
  | 0, _, _, _, _ => none
  | n + 1, z_t_7, z_t_9, x5, x6 => if (x2 * 6) ≤ x6 then some (x5, z_t_7, z_t_9) else bd (fX0_begin z_t_7 (gI z_t_5_0 1)) (fun z11 => bd3 (fX2_play z_t_9 z_t_5_0 nc_R z_R z11) (fun r13 z14 z15 => jn (fun (i17 : Int32) (i18 : Int32) => lX8_weeks_some_54 z_t B_t_2 z_t_5 z_t_5_0 z_t_5_1 nc_R z_R x2 x3 n z15 z14 (i18 + i17) (x6 + 1)) (fun J16 => if x3 = 0 then J16 (gI z15 1) x5 else if x3 = 1 then bd (fJ6_bitCount_0f7a4 (gI z15 2)) (fun r26 => J16 r26 x5) else bd (fX0_gone z15) (fun r22 => bd (fX7_hiddenCoins z_t_5_0 r22) (fun r24 => J16 r24 x5)))))
def fX8_weeks_some (z_t : Sx) (B_t_2 : Nat → Option Nat) (z_t_5 : Sx) (z_t_5_0 : Sx) (z_t_5_1 : Sx) (z_t_7 : Sx) (z_t_9 : Sx) (nc_R : Nat) (z_R : Sx) (x1 : Int32) (x2 : Int32) (x3 : Int32) : Option (Int32 × Sx × Sx) := bd (fX8_ruleForWork z_t B_t_2 z_t_5 z_t_5_0 x1) (fun r2 => if x2 < 1 then some ((-1), z_t_7, z_t_9) else if 20 < x2 then some ((-1), z_t_7, z_t_9) else if x3 < 0 then some ((-1), z_t_7, z_t_9) else if x3 ≤ 2 then bd (fX0_copyFrom z_t_7 z_t_5_1) (fun z8 => lX8_weeks_some_54 z_t B_t_2 z_t_5 z_t_5_0 z_t_5_1 nc_R z_R x2 x3 FU z8 z_t_9 0 0) else some ((-1), z_t_7, z_t_9))

def fX8_work (z_t : Sx) (z_t_5 : Sx) (z_t_5_1 : Sx) (z_t_8 : Sx) (z_t_8_0 : Sx) : Option (Int32 × Sx × Sx × Sx × Sx) := bd (fX6_open z_t_8_0 400 (gT z_t 0) (gI z_t 1)) (fun z2 => bd2 (fX7_readFrom (sI Z0 0 ((gI z_t 4) + 1)) z2) (fun z4 z5 => if (gI z5 8) = 0 then bd2 (fX5_beginWork z_t_5 z_t_5_1 z4) (fun z8 z9 => some (gI z4 3, sI (sI z_t 1 0) 4 ((gI z_t 4) + 1), z8, z9, z5)) else some ((-2) - (gI z5 8), sI z_t 1 0, z_t_5, z_t_5_1, z5)))

def fX8_work_fail (z_t : Sx) (z_t_5 : Sx) (z_t_5_1 : Sx) (z_t_8 : Sx) (z_t_8_0 : Sx) : Option (Int32 × Sx × Sx × Sx × Sx) := bd (fX6_open z_t_8_0 400 (gT z_t 0) (gI z_t 1)) (fun z2 => bd2 (fX7_readFrom (sI Z0 0 ((gI z_t 4) + 1)) z2) (fun z4 z5 => if (gI z5 8) = 0 then none else some ((-2) - (gI z5 8), sI z_t 1 0, z_t_5, z_t_5_1, z5)))

def fX8_work_ok (z_t : Sx) (z_t_5 : Sx) (z_t_5_1 : Sx) (z_t_8 : Sx) (z_t_8_0 : Sx) : Option (Int32 × Sx × Sx × Sx × Sx × Sx) := bd (fX6_open z_t_8_0 400 (gT z_t 0) (gI z_t 1)) (fun z2 => bd2 (fX7_readFrom (sI Z0 0 ((gI z_t 4) + 1)) z2) (fun z4 z5 => if (gI z5 8) = 0 then bd2 (fX5_beginWork z_t_5 z_t_5_1 z4) (fun z8 z9 => some (gI z4 3, sI (sI z_t 1 0) 4 ((gI z_t 4) + 1), z8, z9, z5, z4)) else none))

def fX8_worth (z_t : Sx) (z_t_5 : Sx) (z_t_5_0 : Sx) (z_t_5_1 : Sx) (x1 : Int32) : Option (Int64) := bd (fX8_hasWork z_t z_t_5 z_t_5_0) (fun r2 => if r2 = 0 then some (-1) else if x1 < 0 then some (-1) else if x1 ≤ 1 then bd (fX0_gone z_t_5_1) (fun r7 => bd (fX8_rowMean 16 z_t z_t_5 z_t_5_0 0 r7 (gI z_t_5_1 0) (-1)) (fun r9 => bd (fX8_hundreds (gI z_t_5 6)) (fun r11 => bd (fX8_partOf r9 r11 x1) (fun r13 => some r13)))) else some (-1))

def fX8_would_none (z_t : Sx) (B_t_2 : Nat → Option Nat) (z_t_5 : Sx) (z_t_5_0 : Sx) (x1 : Int32) (x2 : Int32) : Option (Int32) := bd (fX8_ruleForWork z_t B_t_2 z_t_5 z_t_5_0 x1) (fun r2 => some (-1000000))

def fX8_would_some (z_t : Sx) (B_t_2 : Nat → Option Nat) (z_t_5 : Sx) (z_t_5_0 : Sx) (z_t_5_1 : Sx) (z_t_7 : Sx) (z_t_9 : Sx) (nc_R : Nat) (z_R : Sx) (x1 : Int32) (x2 : Int32) : Option (Int32 × Sx × Sx) := bd (fX8_ruleForWork z_t B_t_2 z_t_5 z_t_5_0 x1) (fun r2 => if x2 < 0 then some ((-1000000), z_t_7, z_t_9) else if x2 ≤ 4 then bd (fX0_copyFrom z_t_7 z_t_5_1) (fun z6 => bd3 (fX2_play z_t_9 z_t_5_0 nc_R z_R z6) (fun r8 z9 z10 => if x2 = 0 then some ((gI z10 1) - (gI z_t_5_1 1), z10, z9) else if x2 = 1 then some ((gI z10 2) &&& ((gI z_t_5_1 2) ^^^ (-1)), z10, z9) else if x2 = 2 then some (gI z10 0, z10, z9) else if x2 = 3 then bd (fX0_gone z10) (fun r13 => bd (fX7_hiddenCoins z_t_5_0 r13) (fun r15 => some (r15, z10, z9))) else some (r8, z10, z9))) else some ((-1000000), z_t_7, z_t_9))

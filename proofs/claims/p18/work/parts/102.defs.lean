def fX8_at (n_p0 : Nat) (f_p0 : Nat → Int32) (x1 : Int32) : Option (Int32) := if x1 < 0 then some 0 else if (nI n_p0) ≤ x1 then some 0 else gd (inb x1 n_p0) (some (f_p0 x1.toNatClampNeg))

def fX8_put (n_p0 : Nat) (f_p0 : Nat → Int32) (x1 : Int32) (x2 : Int32) : Option ((Nat → Int32)) := if x1 < 0 then some f_p0 else if (nI n_p0) ≤ x1 then some f_p0 else gd (inb x1 n_p0) (some (upd f_p0 x1.toNatClampNeg x2))

def fX8_bit (x0 : Int32) : Option (Int32) := some ((1 : Int32) <<< (x0 &&& 31))

def fX0_lookFor (z_t : Sx) (z_p1 : Sx) (x2 : Int32) : Option (Int32 × Sx) := bd (fX8_at 10 (gT z_p1 9) x2) (fun r2 => bd (fX8_at 10 (gT (sI z_t 0 ((gI z_t 0) - r2)) 5) x2) (fun r4 => bd (fX8_put 10 (gT (sI z_t 0 ((gI z_t 0) - r2)) 5) x2 (r4 + 1)) (fun z6 => nm ((((((gI z_t 4).toInt64) * 1103515245) + 12345) &&& 2147483647).toInt32 : Int32) (fun v7 => bd (fX8_at 10 (gT z_p1 10) x2) (fun r9 => if ((v7 / 65536) - (v7 / 65536) / 100 * 100) < r9 then bd (fX8_bit x2) (fun r12 => bd (fX8_at 10 (gT z_p1 12) x2) (fun r14 => some (1, sI (sI (sI (sTf (sI z_t 0 ((gI z_t 0) - r2)) 5 z6) 4 v7) 2 ((gI z_t 2) ||| r12)) 1 ((gI z_t 1) + r14)))) else some (0, sI (sTf (sI z_t 0 ((gI z_t 0) - r2)) 5 z6) 4 v7))))))

def fX7_isOpen (z_t : Sx) (x1 : Int32) (x2 : Int32) : Option (Int32) := if x1 < 0 then some 0 else if 10 ≤ x1 then some 0 else if ((x2 >>> (x1 &&& 31)) &&& 1) = 0 then gd (inb x1 10) (jn (some 1) (fun J5 => if (gT z_t 11 x1.toNatClampNeg) < 0 then J5 else if ((x2 >>> ((gT z_t 11 x1.toNatClampNeg) &&& 31)) &&& 1) = 0 then some 0 else J5)) else some 0

def lX8_hundreds_4 (x0 : Int32) : Nat → Int64 → Int32 → Option (Int64)
  | 0, _, _ => none
  | n + 1, x1, x3 => if x0 ≤ x3 then some x1 else if 8 ≤ x3 then some x1 else lX8_hundreds_4 x0 n (x1 * 100) (x3 + 1)
def fX8_hundreds (x0 : Int32) : Option (Int64) := lX8_hundreds_4 x0 FU 1 0

def fX1_earnedBy (rec : Sx → Sx → Int32 → Int32 → Int32 → Option (Int64 × Sx)) (z_t : Sx) (z_p1 : Sx) (x2 : Int32) (x3 : Int32) (x4 : Int32) (x5 : Int32) : Option (Int64 × Sx) := bd (fX8_at 10 (gT z_p1 9) x2) (fun r2 => if (x5 - r2) < 0 then some ((-1), z_t) else bd (fX7_isOpen z_p1 x2 x4) (fun r5 => if r5 = 0 then some ((-1), z_t) else bd (fX8_at 10 (gT z_p1 10) x2) (fun r8 => bd (fX8_at 10 (gT z_p1 12) x2) (fun r10 => bd (fX8_hundreds (x3 - 1)) (fun r12 => bd (fX8_bit x2) (fun r14 => bd2 (rec z_t z_p1 (x3 - 1) (x4 ||| r14) (x5 - r2)) (fun r16 z17 => bd2 (rec z17 z_p1 (x3 - 1) x4 (x5 - r2)) (fun r19 z20 => some ((r8.toInt64 * ((r10.toInt64 * r12) + r16)) + (((100 - r8).toInt64) * r19), z20)))))))))

def lX7_mostByOneLook_2 (k43 : Int32 → Option (Int32)) (z_t : Sx) (x1 : Int32) (x2 : Int32) : Nat → Int32 → Option (Int32)
  | 0, _ => none
  | n + 1, x3 => if (gI z_t 3) ≤ x3 then some 0 else bd (fX8_at 10 (gT z_t 16) x3) (fun r3 => bd (fX8_at 10 (gT z_t 9) r3) (fun r5 => jn (lX7_mostByOneLook_2 k43 z_t x1 x2 n (x3 + 1)) (fun J6 => if x2 < r5 then J6 else bd (fX7_isOpen z_t r3 x1) (fun r9 => if r9 = 0 then J6 else k43 r3))))
def fX7_mostByOneLook (z_t : Sx) (x1 : Int32) (x2 : Int32) : Option (Int32) := lX7_mostByOneLook_2 (fun (i11 : Int32) => bd (fX8_at 10 (gT z_t 15) i11) (fun r13 => some r13)) z_t x1 x2 FU 0

def lX1_mostEarned_106 (rec : Sx → Sx → Int32 → Int32 → Int32 → Option (Int64 × Sx)) (k139 : Sx → Int64 → Option (Int64 × Sx)) (z_p1 : Sx) (x2 : Int32) (x3 : Int32) (x5 : Int32) (x6 : Int64) (x8 : Int32) : Nat → Sx → Int64 → Int32 → Option (Int64 × Sx)
  | 0, _, _, _ => none
  | n + 1, z_t, x9, x11 => if (gI z_p1 3) ≤ x11 then k139 z_t x9 else bd2 (fX1_earnedBy rec z_t z_p1 x11 x2 x3 x5) (fun r8 z9 => lX1_mostEarned_106 rec k139 z_p1 x2 x3 x5 x6 x8 n z9 (mxL x9 r8) (x11 + 1))
def gX1_mostEarned (rec : Sx → Sx → Int32 → Int32 → Int32 → Option (Int64 × Sx)) (z_t : Sx) (z_p1 : Sx) (x2 : Int32) (x3 : Int32) (x4 : Int32) : Option (Int64 × Sx) := if 1 < x2 then nm (((((((gI z_p1 0).toInt64) * 8) + x2.toInt64) <<< (Int32.toInt64 19 &&& 63)) ||| ((x3 <<< (9 &&& 31)).toInt64)) ||| ((mnI x4 (x2 * (gI z_p1 17))).toInt64) : Int64) (fun v2 => nm (((((v2 * (-7046029254386353131)).toUInt64 >>> ((Int32.toInt64 53).toUInt64 &&& Int64.toUInt64 63)).toInt64).toInt32) &&& 2047 : Int32) (fun v3 => gd (inb v3 2048) (if (gJ z_t 0 v3.toNatClampNeg) = v2 then some (gJ z_t 1 v3.toNatClampNeg, z_t) else lX1_mostEarned_106 rec (fun (z10 : Sx) (i11 : Int64) => some (i11, sJ (sJ z10 0 v3.toNatClampNeg v2) 1 v3.toNatClampNeg i11)) z_p1 x2 x3 (mnI x4 (x2 * (gI z_p1 17))) v2 v3 FU z_t 0 0))) else if x2 = 1 then bd (fX7_mostByOneLook z_p1 x3 x4) (fun r14 => some (r14.toInt64, z_t)) else some (0, z_t)
def fX1_mostEarned : Nat → Sx → Sx → Int32 → Int32 → Int32 → Option (Int64 × Sx)
  | 0 => fun _ _ _ _ _ => none
  | dp + 1 => gX1_mostEarned (fX1_mostEarned dp)

def lX1_choice_24 (z_p1 : Sx) (x2 : Int32) (x3 : Int32) (x4 : Int32) (x5 : Int64) : Nat → Sx → Int32 → Option (Int32 × Sx)
  | 0, _, _ => none
  | n + 1, z_t, x7 => if (gI z_p1 3) ≤ x7 then some ((-2), z_t) else bd2 (fX1_earnedBy (fX1_mostEarned 16) z_t z_p1 x7 x2 x3 x4) (fun r7 z8 => if r7 = x5 then some (x7, z8) else lX1_choice_24 z_p1 x2 x3 x4 x5 n z8 (x7 + 1))
def fX1_choice (z_t : Sx) (z_p1 : Sx) (x2 : Int32) (x3 : Int32) (x4 : Int32) : Option (Int32 × Sx) := bd2 (fX1_mostEarned 16 z_t z_p1 x2 x3 x4) (fun r2 z3 => if 0 < r2 then lX1_choice_24 z_p1 x2 x3 x4 r2 FU z3 0 else some ((-2), z3))

def fX8_has (x0 : Int32) (x1 : Int32) : Option (Int32) := if (x0 &&& ((1 : Int32) <<< (x1 &&& 31))) = 0 then some 0 else some 1

def lX7_together_5 (z_t : Sx) (n_p1 : Nat) (f_p1 : Nat → Int32) (x2 : Int32) : Nat → Int32 → Int32 → Option (Int32)
  | 0, _, _ => none
  | n + 1, x3, x4 => if (gI z_t 3) ≤ x4 then some x3 else bd (fX8_has x2 x4) (fun r3 => jn (fun (i5 : Int32) => lX7_together_5 z_t n_p1 f_p1 x2 n i5 (x4 + 1)) (fun J4 => if r3 = 0 then J4 x3 else bd (fX8_at n_p1 f_p1 x4) (fun r8 => J4 (x3 + r8))))
def fX7_together (z_t : Sx) (n_p1 : Nat) (f_p1 : Nat → Int32) (x2 : Int32) : Option (Int32) := lX7_together_5 z_t n_p1 f_p1 x2 FU 0 0

def fX7_hiddenCoins (z_t : Sx) (x1 : Int32) : Option (Int32) := bd (fX7_together z_t 10 (gT z_t 13) (x1 ^^^ (-1))) (fun r2 => some r2)

def gX1_hiddenMean (rec : Sx → Sx → Int32 → Int32 → Int32 → Option (Int64 × Sx)) (z_t : Sx) (z_p1 : Sx) (x2 : Int32) (x3 : Int32) (x4 : Int32) : Option (Int64 × Sx) := bd2 (fX1_choice z_t z_p1 x2 x3 x4) (fun r2 z3 => if 0 ≤ r2 then bd (fX8_at 10 (gT z_p1 9) r2) (fun r6 => bd (fX8_at 10 (gT z_p1 10) r2) (fun r8 => bd (fX8_bit r2) (fun r10 => bd2 (rec z3 z_p1 (x2 - 1) (x3 ||| r10) (x4 - r6)) (fun r12 z13 => bd2 (rec z13 z_p1 (x2 - 1) x3 (x4 - r6)) (fun r15 z16 => some ((r8.toInt64 * r12) + (((100 - r8).toInt64) * r15), z16)))))) else bd (fX7_hiddenCoins z_p1 x3) (fun r18 => bd (fX8_hundreds x2) (fun r20 => some (r18.toInt64 * r20, z3))))
def fX1_hiddenMean : Nat → Sx → Sx → Int32 → Int32 → Int32 → Option (Int64 × Sx)
  | 0 => fun _ _ _ _ _ => none
  | dp + 1 => gX1_hiddenMean (fX1_hiddenMean dp)

def lX1_leastFree_5 (z_p1 : Sx) (x2 : Int32) : Nat → Int32 → Int32 → Option (Int32)
  | 0, _, _ => none
  | n + 1, x3, x4 => if (gI z_p1 3) ≤ x4 then some x3 else bd (fJ6_bitCount_0f7a4 x3) (fun r3 => if 6 ≤ r3 then some x3 else bd (fX8_has x2 x4) (fun r6 => jn (fun (i8 : Int32) => lX1_leastFree_5 z_p1 x2 n i8 (x4 + 1)) (fun J7 => if r6 = 0 then bd (fX8_bit x4) (fun r11 => J7 (x3 ||| r11)) else J7 x3)))
def fX1_leastFree (z_p1 : Sx) (x2 : Int32) : Option (Int32) := lX1_leastFree_5 z_p1 x2 FU 0 0

def fX7_mendingOf (z_t : Sx) (x1 : Int32) : Option (Int32) := bd (fX7_together z_t 10 (gT z_t 14) x1) (fun r2 => some r2)

def lX1_weighSets_29 (z_p1 : Sx) (x2 : Int32) (x3 : Int32) (x4 : Int32) (x5 : Int32) : Nat → Sx → Int32 → Option (Sx)
  | 0, _, _ => none
  | n + 1, z_t, x6 => if x5 < x6 then some z_t else jn (fun (z8 : Sx) => lX1_weighSets_29 z_p1 x2 x3 x4 x5 n z8 (x6 + 1)) (fun J7 => if (x6 &&& (x5 ^^^ (-1))) = 0 then bd2 (fX1_hiddenMean 16 z_t z_p1 x2 (x3 ||| x6) x4) (fun r11 z12 => bd (fX7_mendingOf z_p1 x6) (fun r14 => bd (fX8_hundreds x2) (fun r16 => bd (fJ6_bitCount_0f7a4 x6) (fun r18 => bd (fJ6_bitCount_0f7a4 (gI z12 2)) (fun r20 => jn (fun (i22 : Int32) => jn (J7 (sJ (sI z12 2 x6) 3 0 (r11 - (r14.toInt64 * r16)))) (fun J23 => if (gJ z12 3 0) < (r11 - (r14.toInt64 * r16)) then J23 else if (r11 - (r14.toInt64 * r16)) = (gJ z12 3 0) then if i22 = 0 then J7 z12 else J23 else J7 z12)) (fun J21 => if r20 ≤ r18 then J21 0 else J21 1)))))) else J7 z_t)
def fX1_weighSets (z_t : Sx) (z_p1 : Sx) (x2 : Int32) (x3 : Int32) (x4 : Int32) : Option (Sx) := bd (fX1_leastFree z_p1 x3) (fun r2 => bd2 (fX1_hiddenMean 16 (sI z_t 2 0) z_p1 x2 x3 x4) (fun r4 z5 => lX1_weighSets_29 z_p1 x2 x3 x4 r2 FU (sJ z5 3 0 r4) 1))

def fX2_compares (x0 : Int32) (x1 : Int64) (x3 : Int64) : Option (Int32) := if x0 = 60 then if x3 ≤ x1 then some 0 else some 1 else if x0 = 61 then if x1 = x3 then some 1 else some 0 else if x0 = 256 then if x3 < x1 then some 0 else some 1 else if x0 = 257 then if x1 < x3 then some 0 else some 1 else if x1 ≤ x3 then some 0 else some 1

def fX2_join (x0 : Int32) (x1 : Int64) (x3 : Int64) : Option (Int64) := if x0 = 42 then some (x1 * x3) else if x0 = 43 then some (x1 + x3) else if x0 = 45 then some (x1 - x3) else if x0 = 47 then if x3 = 0 then some 0 else gd (¬ x3 = 0) (some (x1 / x3)) else if x0 = 309 then some (x1 ||| x3) else if x0 = 310 then some (x1 &&& x3) else bd (fX2_compares x0 x1 x3) (fun r5 => if r5 = 0 then some 0 else some 1)

def fX2_wordOf (z_p1 : Sx) (z_p2 : Sx) (x0 : Int32) (x3 : Int32) : Option (Int64) := if x0 = 312 then some x3.toInt64 else if x0 = 313 then bd (fX8_at 10 (gT z_p1 8) x3) (fun r3 => some r3.toInt64) else if x0 = 314 then bd (fX8_at 10 (gT z_p1 12) x3) (fun r5 => some r5.toInt64) else if x0 = 315 then bd (fX8_at 10 (gT z_p1 10) x3) (fun r7 => some r7.toInt64) else if x0 = 316 then bd (fX8_at 10 (gT z_p1 9) x3) (fun r9 => some r9.toInt64) else if x0 = 317 then some ((gI z_p2 0).toInt64) else if x0 = 318 then bd (fJ6_bitCount_0f7a4 (gI z_p2 2)) (fun r11 => some r11.toInt64) else if x0 = 319 then bd (fX8_at 10 (gT z_p2 5) x3) (fun r13 => some r13.toInt64) else some ((gI z_p2 1).toInt64)

def lX2_reckon_10 (k170 : Sx → Int32 → Option (Int64 × Sx)) (n_p1 : Nat) (f_p1 : Nat → Int32) (z_p4 : Sx) (z_p5 : Sx) (x3 : Int32) (x6 : Int32) : Nat → Sx → Int32 → Int32 → Option (Int64 × Sx)
  | 0, _, _, _ => none
  | n + 1, z_t, x7, x8 => if x3 ≤ x8 then k170 z_t x7 else if (nI n_p1) ≤ x8 then k170 z_t x7 else gd (inb x8 n_p1) (jn (fun (z5 : Sx) (i6 : Int32) => lX2_reckon_10 k170 n_p1 f_p1 z_p4 z_p5 x3 x6 n z5 i6 (x8 + 1)) (fun J4 => jn (if (x7 + 1) < 32 then jn (fun (i10 : Int64) (i11 : Int32) => gd (inb i11 32) (J4 (sJ z_t 0 i11.toNatClampNeg i10) (x7 + 1))) (fun J9 => if (f_p1 x8.toNatClampNeg) < 0 then bd (fX2_wordOf z_p4 z_p5 (-(f_p1 x8.toNatClampNeg)) x6) (fun r15 => J9 r15 (x7 + 1)) else J9 ((f_p1 x8.toNatClampNeg).toInt64) (x7 + 1)) else some (0, z_t)) (fun J7 => if 0 ≤ (f_p1 x8.toNatClampNeg) then J7 else if (-312) < (f_p1 x8.toNatClampNeg) then if (f_p1 x8.toNatClampNeg) = (-311) then if 0 ≤ x7 then gd (inb x7 32) (J4 (sJ z_t 0 x7.toNatClampNeg (1 - (gJ z_t 0 x7.toNatClampNeg))) x7) else some (0, z_t) else if 1 ≤ x7 then gd (inb (x7 + (-1)) 32) (gd (inb ((x7 + (-1)) + 1) 32) (bd (fX2_join (-(f_p1 x8.toNatClampNeg)) (gJ z_t 0 ((x7 + (-1)).toNatClampNeg)) (gJ z_t 0 (((x7 + (-1)) + 1).toNatClampNeg))) (fun r23 => J4 (sJ z_t 0 ((x7 + (-1)).toNatClampNeg) r23) (x7 + (-1))))) else some (0, z_t) else J7)))
def fX2_reckon (z_t : Sx) (n_p1 : Nat) (f_p1 : Nat → Int32) (z_p4 : Sx) (z_p5 : Sx) (x2 : Int32) (x3 : Int32) (x6 : Int32) : Option (Int64 × Sx) := lX2_reckon_10 (fun (z26 : Sx) (i27 : Int32) => if 0 ≤ i27 then gd (inb i27 32) (some (gJ z26 0 i27.toNatClampNeg, z26)) else some (0, z26)) n_p1 f_p1 z_p4 z_p5 x3 x6 FU z_t (-1) (mxI x2 0)

def lX2_lookClause_3 (z_p1 : Sx) (nc_p2 : Nat) (z_p2 : Sx) (z_p3 : Sx) (x4 : Int32) : Nat → Sx → Int32 → Option (Int32 × Sx)
  | 0, _, _ => none
  | n + 1, z_t, x5 => if (gI z_p2 1) ≤ x5 then some ((-1), z_t) else bd (fX8_at 12 (gT z_p2 3) x5) (fun r3 => bd (fX8_at 12 (gT z_p2 4) x5) (fun r5 => bd (fX8_at 12 (gT z_p2 2) x5) (fun r7 => jn (fun (i9 : Int32) => jn (fun (z11 : Sx) => lX2_lookClause_3 z_p1 nc_p2 z_p2 z_p3 x4 n z11 (x5 + 1)) (fun J10 => if i9 = 0 then J10 z_t else if r3 = r5 then some (x5, z_t) else bd2 (fX2_reckon z_t nc_p2 (gT z_p2 0) z_p1 z_p3 r3 r5 x4) (fun r15 z16 => if r15 = 0 then J10 z16 else some (x5, z16)))) (fun J8 => if r3 ≤ r7 then J8 0 else J8 1))))
def fX2_lookClause (z_t : Sx) (z_p1 : Sx) (nc_p2 : Nat) (z_p2 : Sx) (z_p3 : Sx) (x4 : Int32) : Option (Int32 × Sx) := lX2_lookClause_3 z_p1 nc_p2 z_p2 z_p3 x4 FU z_t 0

def lX2_nextFault_9 (z_p1 : Sx) (nc_p2 : Nat) (z_p2 : Sx) (z_p3 : Sx) : Nat → Sx → Int32 → Int64 → Int32 → Option (Int32 × Sx)
  | 0, _, _, _, _ => none
  | n + 1, z_t, x4, x5, x7 => if (gI z_p1 3) ≤ x7 then some (x4, z_t) else bd (fX0_gone z_p3) (fun r3 => bd (fX7_isOpen z_p1 x7 r3) (fun r5 => jn (fun (i7 : Int32) => jn (fun (z9 : Sx) (i10 : Int32) => jn (fun (z12 : Sx) (i13 : Int32) (i14 : Int64) => lX2_nextFault_9 z_p1 nc_p2 z_p2 z_p3 n z12 i13 i14 (x7 + 1)) (fun J11 => if i10 < 0 then J11 z9 x4 x5 else bd (fX8_at 12 (gT z_p2 2) i10) (fun r17 => bd (fX8_at 12 (gT z_p2 3) i10) (fun r19 => bd2 (fX2_reckon z9 nc_p2 (gT z_p2 0) z_p1 z_p3 r17 r19 x7) (fun r21 z22 => jn (J11 z22 x7 r21) (fun J23 => if x4 < 0 then J23 else if x5 ≤ r21 then J11 z22 x4 x5 else J23)))))) (fun J8 => if i7 = 0 then J8 z_t (-1) else bd2 (fX2_lookClause z_t z_p1 nc_p2 z_p2 z_p3 x7) (fun r28 z29 => J8 z29 r28))) (fun J6 => jn (J6 0) (fun J30 => if r5 = 0 then J30 else bd (fX8_at 10 (gT z_p1 9) x7) (fun r33 => if (gI z_p3 0) < r33 then J30 else J6 1)))))
def fX2_nextFault (z_t : Sx) (z_p1 : Sx) (nc_p2 : Nat) (z_p2 : Sx) (z_p3 : Sx) : Option (Int32 × Sx) := lX2_nextFault_9 z_p1 nc_p2 z_p2 z_p3 FU z_t (-1) 0 0

def lX2_stopsAt_3 (z_p1 : Sx) (nc_p2 : Nat) (z_p2 : Sx) (z_p3 : Sx) (x4 : Int32) : Nat → Sx → Int32 → Option (Int32 × Sx)
  | 0, _, _ => none
  | n + 1, z_t, x5 => if (gI z_p2 1) ≤ x5 then some (0, z_t) else bd (fX8_at 12 (gT z_p2 3) x5) (fun r3 => bd (fX8_at 12 (gT z_p2 2) x5) (fun r5 => jn (fun (i7 : Int32) => jn (fun (z9 : Sx) => lX2_stopsAt_3 z_p1 nc_p2 z_p2 z_p3 x4 n z9 (x5 + 1)) (fun J8 => if i7 = 0 then J8 z_t else bd (fX8_at 12 (gT z_p2 4) x5) (fun r12 => bd2 (fX2_reckon z_t nc_p2 (gT z_p2 0) z_p1 z_p3 r3 r12 x4) (fun r14 z15 => if r14 = 0 then J8 z15 else some (1, z15))))) (fun J6 => if r5 = r3 then J6 1 else J6 0)))
def fX2_stopsAt (z_t : Sx) (z_p1 : Sx) (nc_p2 : Nat) (z_p2 : Sx) (z_p3 : Sx) (x4 : Int32) : Option (Int32 × Sx) := lX2_stopsAt_3 z_p1 nc_p2 z_p2 z_p3 x4 FU z_t 0

def lX2_play_3 (z_p1 : Sx) (nc_p2 : Nat) (z_p2 : Sx) : Nat → Sx → Sx → Int32 → Option (Int32 × Sx × Sx)
  | 0, _, _, _ => none
  | n + 1, z_t, z_p3, x4 => if 200 ≤ x4 then some (200, z_t, z_p3) else bd2 (fX2_nextFault z_t z_p1 nc_p2 z_p2 z_p3) (fun r3 z4 => if r3 < 0 then some (x4, z4, z_p3) else bd2 (fX2_stopsAt z4 z_p1 nc_p2 z_p2 z_p3 r3) (fun r7 z8 => if r7 = 0 then bd2 (fX0_lookFor z_p3 z_p1 r3) (fun r11 z12 => lX2_play_3 z_p1 nc_p2 z_p2 n z8 z12 (x4 + 1)) else some (x4, z8, z_p3)))
def fX2_play (z_t : Sx) (z_p1 : Sx) (nc_p2 : Nat) (z_p2 : Sx) (z_p3 : Sx) : Option (Int32 × Sx × Sx) := lX2_play_3 z_p1 nc_p2 z_p2 FU z_t z_p3 0

def fX4_emit (z_t : Sx) (x1 : Int32) : Option (Sx) := if (gI z_t 2) < 0 then some z_t else if 400 ≤ (gI z_t 2) then some z_t else gd (inb (gI z_t 2) 400) (some (sI (sT z_t 1 ((gI z_t 2).toNatClampNeg) x1) 2 ((gI z_t 2) + 1)))

def fX6_step (z_t : Sx) : Option (Sx) := if (gI z_t 4) < 0 then some z_t else if (gI z_t 3) ≤ (gI z_t 4) then some z_t else if 401 ≤ (gI z_t 4) then some z_t else gd (inb (gI z_t 4) 401) (nm (gT (sI z_t 5 (gT z_t 0 ((gI z_t 4).toNatClampNeg))) 1 ((gI z_t 4).toNatClampNeg) : Int32) (fun v5 => nm (gT (sI (sI z_t 5 (gT z_t 0 ((gI z_t 4).toNatClampNeg))) 6 v5) 2 ((gI z_t 4).toNatClampNeg) : Int32) (fun v6 => some (sI (sI (sI (sI z_t 5 (gT z_t 0 ((gI z_t 4).toNatClampNeg))) 6 v5) 7 v6) 4 ((gI z_t 4) + 1)))))

def lX4_readTest_9 (rec : Sx → Sx → Int32 → Option (Sx × Sx)) (k133 : Sx → Sx → Int32 → Option (Sx × Sx)) (x1 : Int32) : Nat → Sx → Sx → Int32 → Int32 → Option (Sx × Sx)
  | 0, _, _, _, _ => none
  | n + 1, z_t, z_t_0, x2, x3 => if 400 ≤ x3 then k133 z_t z_t_0 x2 else if (gI z_t_0 8) = 0 then jn (jn (fun (i8 : Int32) => jn (fun (z10 : Sx) (z11 : Sx) => jn (fun (i13 : Int32) => bd (fX6_step z11) (fun z15 => bd2 (rec z10 z15 x1) (fun z17 z18 => jn (fun (z20 : Sx) (z21 : Sx) => lX4_readTest_9 rec k133 x1 n z20 z21 i13 (x3 + 1)) (fun J19 => if i8 = 0 then bd (fX4_emit z17 (-310)) (fun z24 => J19 z24 z18) else J19 z17 z18)))) (fun J12 => jn (J12 1) (fun J25 => if x2 = 0 then if i8 = 0 then J12 0 else J25 else J25))) (fun J9 => if i8 = 0 then J9 z_t z_t_0 else if x2 = 0 then J9 z_t z_t_0 else bd (fX4_emit z_t (-309)) (fun z31 => J9 z31 z_t_0))) (fun J7 => if (gI z_t_0 5) = 309 then J7 1 else J7 0)) (fun J6 => if (gI z_t_0 5) = 309 then J6 else if (gI z_t_0 5) = 310 then J6 else k133 z_t z_t_0 x2) else k133 z_t z_t_0 x2
def fX4_readTest (rec : Sx → Sx → Int32 → Option (Sx × Sx)) (z_t : Sx) (z_t_0 : Sx) (x1 : Int32) : Option (Sx × Sx) := bd2 (rec z_t z_t_0 x1) (fun z2 z3 => lX4_readTest_9 rec (fun (z35 : Sx) (z36 : Sx) (i37 : Int32) => if i37 = 0 then some (z35, z36) else bd (fX4_emit z35 (-309)) (fun z40 => some (z40, z36))) x1 FU z2 z3 0 0)

def fX6_fail (z_t : Sx) (x1 : Int32) : Option (Sx) := if (gI z_t 8) = 0 then some (sI z_t 8 ((1 + (8 * (gI z_t 6))) + x1)) else some z_t

def fX4_readValue (z_t : Sx) (z_t_0 : Sx) : Option (Sx × Sx) := jn (fun (i2 : Int32) => jn (fun (i4 : Int32) => jn (if (gI z_t 3) < 60 then jn (fun (i8 : Int32) => bd (fX4_emit (sI z_t 3 ((gI z_t 3) + 1)) i8) (fun z10 => bd (fX6_step z_t_0) (fun z12 => some (z10, z12)))) (fun J7 => if i2 = 0 then J7 (-(gI z_t_0 5)) else J7 (gI z_t_0 7)) else bd (fX6_fail z_t_0 3) (fun z15 => some (z_t, z15))) (fun J5 => if i2 = 0 then if i4 = 0 then jn (fun (i19 : Int32) => bd (fX6_fail z_t_0 i19) (fun z21 => some (z_t, z21))) (fun J18 => if (gI z_t_0 5) = 302 then J18 1 else J18 0) else J5 else J5)) (fun J3 => jn (J3 0) (fun J23 => if (gI z_t_0 5) < 312 then J23 else if 320 < (gI z_t_0 5) then J23 else J3 1))) (fun J1 => if (gI z_t_0 5) = 301 then J1 1 else J1 0)

def lX4_readSum_8 (k69 : Sx → Sx → Int32 → Option (Sx × Sx)) (k126 : Sx → Sx → Int32 → Option (Sx × Sx)) : Nat → Sx → Sx → Int32 → Int32 → Option (Sx × Sx)
  | 0, _, _, _, _ => none
  | n + 1, z_t, z_t_0, x1, x2 => if 400 ≤ x2 then k126 z_t z_t_0 x1 else if (gI z_t_0 8) = 0 then jn (fun (i7 : Int32) => jn (jn (fun (z10 : Sx) (z11 : Sx) => jn (fun (i13 : Int32) => bd (fX6_step z11) (fun z15 => bd2 (fX4_readValue z10 z15) (fun z17 z18 => jn (fun (z20 : Sx) (z21 : Sx) => lX4_readSum_8 k69 k126 n z20 z21 i13 (x2 + 1)) (fun J19 => if i7 = 0 then J19 z17 z18 else bd (fX4_emit z17 (-(gI z_t_0 5))) (fun z24 => J19 z24 z18))))) (fun J12 => if i7 = 0 then J12 (gI z_t_0 5) else J12 x1)) (fun J9 => if i7 = 0 then if x1 = 0 then J9 z_t z_t_0 else bd (fX4_emit z_t (-x1)) (fun z29 => J9 z29 z_t_0) else J9 z_t z_t_0)) (fun J8 => if i7 = 0 then if (gI z_t_0 5) = 43 then J8 else if (gI z_t_0 5) = 45 then J8 else k69 z_t z_t_0 x1 else J8)) (fun J6 => jn (J6 1) (fun J33 => if (gI z_t_0 5) = 42 then J33 else if (gI z_t_0 5) = 47 then J33 else J6 0)) else k126 z_t z_t_0 x1
def fX4_readSum (z_t : Sx) (z_t_0 : Sx) : Option (Sx × Sx) := bd2 (fX4_readValue z_t z_t_0) (fun z2 z3 => lX4_readSum_8 (fun (z36 : Sx) (z37 : Sx) (i38 : Int32) => if i38 = 0 then some (z36, z37) else bd (fX4_emit z36 (-i38)) (fun z41 => some (z41, z37))) (fun (z42 : Sx) (z43 : Sx) (i44 : Int32) => if i44 = 0 then some (z42, z43) else bd (fX4_emit z42 (-i44)) (fun z47 => some (z47, z43))) FU z2 z3 0 0)

def fX4_readComparison (z_t : Sx) (z_t_0 : Sx) : Option (Sx × Sx) := bd2 (fX4_readSum z_t z_t_0) (fun z2 z3 => if (gI z3 8) = 0 then jn (if (gI z2 3) < 60 then bd (fX6_step z3) (fun z8 => bd2 (fX4_readSum (sI z2 3 ((gI z2 3) + 1)) z8) (fun z10 z11 => bd (fX4_emit z10 (-(gI z3 5))) (fun z13 => some (z13, z11)))) else bd (fX6_fail z3 3) (fun z15 => some (z2, z15))) (fun J5 => if (gI z3 5) = 60 then J5 else if (gI z3 5) = 256 then J5 else if (gI z3 5) = 61 then J5 else if (gI z3 5) = 257 then J5 else if (gI z3 5) = 62 then J5 else bd (fX6_fail z3 0) (fun z22 => some (z2, z22))) else some (z2, z3))

def gX4_readFact (rec : Sx → Sx → Int32 → Option (Sx × Sx)) (z_t : Sx) (z_t_0 : Sx) (x1 : Int32) : Option (Sx × Sx) := jn (fun (i2 : Int32) => jn (if x1 < 10 then bd (fX6_step z_t_0) (fun z6 => if i2 = 0 then bd2 (fX4_readTest rec z_t z6 (x1 + 1)) (fun z9 z10 => jn (bd (fX6_step z10) (fun z13 => some (z9, z13))) (fun J11 => if (gI z10 8) = 0 then if (gI z10 5) = 93 then J11 else bd (fX6_fail z10 0) (fun z17 => some (z9, z17)) else J11)) else bd2 (rec z_t z6 (x1 + 1)) (fun z19 z20 => bd (fX4_emit z19 (-311)) (fun z22 => some (z22, z20)))) else bd (fX6_fail z_t_0 2) (fun z24 => some (z_t, z24))) (fun J3 => if i2 = 0 then if (gI z_t_0 5) = 91 then J3 else bd2 (fX4_readComparison z_t z_t_0) (fun z28 z29 => some (z28, z29)) else J3)) (fun J1 => if (gI z_t_0 5) = 311 then J1 1 else J1 0)
def fX4_readFact : Nat → Sx → Sx → Int32 → Option (Sx × Sx)
  | 0 => fun _ _ _ => none
  | dp + 1 => gX4_readFact (fX4_readFact dp)

def fX4_readClause (z_t : Sx) (z_t_0 : Sx) : Option (Sx × Sx) := jn (if (gI z_t 4) < 12 then bd (fX6_step z_t_0) (fun z4 => bd (fX8_put 12 (gT z_t 5) (gI z_t 4) (gI z_t 2)) (fun z6 => jn (fun (i8 : Int32) => jn (fun (z10 : Sx) (z11 : Sx) (i12 : Int32) => bd (fX8_put 12 (gT z10 6) (gI z10 4) (gI z10 2)) (fun z14 => jn (fun (z16 : Sx) (z17 : Sx) => bd (fX8_put 12 (gT z16 7) (gI z16 4) (gI z16 2)) (fun z19 => some (sI (sTf z16 7 z19) 4 ((gI z16 4) + 1), z17))) (fun J15 => if i12 = 0 then J15 (sTf z10 6 z14) z11 else bd2 (fX4_readTest (fX4_readFact 16) (sTf z10 6 z14) z11 0) (fun z22 z23 => J15 z22 z23)))) (fun J9 => if (gI z_t_0 5) = 306 then bd2 (fX4_readSum (sTf z_t 5 z6) z4) (fun z26 z27 => if (gI z27 8) = 0 then if (gI z27 5) = 307 then bd (fX6_step z27) (fun z31 => J9 z26 z31 1) else J9 z26 z27 i8 else J9 z26 z27 i8) else J9 (sTf z_t 5 z6) z4 i8)) (fun J7 => if (gI z_t_0 5) = 308 then J7 1 else J7 0))) else bd (fX6_fail z_t_0 4) (fun z34 => some (z_t, z34))) (fun J1 => if (gI z_t_0 5) = 306 then J1 else if (gI z_t_0 5) = 308 then J1 else bd (fX6_fail z_t_0 0) (fun z38 => some (z_t, z38)))

def fX4_start (z_t : Sx) : Option (Sx) := some (sI (sI (sI z_t 2 0) 3 0) 4 0)

def fX5_beginWork (z_t : Sx) (z_t_1 : Sx) (z_p1 : Sx) : Option (Sx × Sx) := bd (fX0_begin z_t_1 (gI z_p1 1)) (fun z2 => some (sI (sI (sI (sI z_t 2 0) 3 0) 4 0) 6 0, sI z2 3 0))

def fX5_copyFrom (z_t : Sx) (z_t_1 : Sx) (z_p1 : Sx) (z_p1_1 : Sx) : Option (Sx × Sx) := bd (fX0_copyFrom z_t_1 z_p1_1) (fun z2 => some (sTf (sI (sTf (sI (sI (sI z_t 2 (gI z_p1 2)) 3 (gI z_p1 3)) 4 (gI z_p1 4)) 5 (va_cpy (gT z_p1 5) (gT (sI (sI (sI z_t 2 (gI z_p1 2)) 3 (gI z_p1 3)) 4 (gI z_p1 4)) 5) 0 0 8)) 6 (gI z_p1 6)) 7 (va_cpy (gT z_p1 7) (gT (sI (sTf (sI (sI (sI z_t 2 (gI z_p1 2)) 3 (gI z_p1 3)) 4 (gI z_p1 4)) 5 (va_cpy (gT z_p1 5) (gT (sI (sI (sI z_t 2 (gI z_p1 2)) 3 (gI z_p1 3)) 4 (gI z_p1 4)) 5) 0 0 8)) 6 (gI z_p1 6)) 7) 0 0 8), z2))

def fX6_addToken (z_t : Sx) (x1 : Int32) (x2 : Int32) (x3 : Int32) : Option (Sx) := if (gI z_t 3) < 0 then some z_t else if 401 ≤ (gI z_t 3) then some z_t else gd (inb (gI z_t 3) 401) (some (sI (sT (sT (sT z_t 0 ((gI z_t 3).toNatClampNeg) x1) 1 ((gI z_t 3).toNatClampNeg) x2) 2 ((gI z_t 3).toNatClampNeg) x3) 3 ((gI z_t 3) + 1)))

def fX6_anotherClause (z_t : Sx) : Option (Int32 × Sx) := if (gI z_t 8) = 0 then if (gI z_t 5) = 300 then some (0, z_t) else if (gI z_t 5) = 59 then bd (fX6_step z_t) (fun z5 => some (1, z5)) else bd (fX6_fail z_t 0) (fun z7 => some (0, z7)) else some (0, z_t)

def lX6_spells_15 (n_p0 : Nat) (f_p0 : Nat → Int32) (x1 : Int32) (w3 : Nat) : Nat → Int32 → Option (Int32)
  | 0, _ => none
  | n + 1, x4 => if (nI (slen.getD w3 0)) ≤ x4 then some 1 else bd (fX8_at n_p0 f_p0 (x1 + x4)) (fun r4 => gd (inb x4 (slen.getD w3 0)) (if r4 = (sch w3 x4.toNatClampNeg) then lX6_spells_15 n_p0 f_p0 x1 w3 n (x4 + 1) else some 0))
def fX6_spells (n_p0 : Nat) (f_p0 : Nat → Int32) (x1 : Int32) (x2 : Int32) (w3 : Nat) : Option (Int32) := if (x2 - x1) = (nI (slen.getD w3 0)) then lX6_spells_15 n_p0 f_p0 x1 w3 FU 0 else some 0

def fX6_clauseWord (n_p0 : Nat) (f_p0 : Nat → Int32) (x1 : Int32) (x2 : Int32) : Option (Int32) := bd (fX6_spells n_p0 f_p0 x1 x2 0) (fun r2 => if r2 = 0 then bd (fX6_spells n_p0 f_p0 x1 x2 1) (fun r5 => if r5 = 0 then bd (fX6_spells n_p0 f_p0 x1 x2 2) (fun r8 => if r8 = 0 then bd (fX6_spells n_p0 f_p0 x1 x2 3) (fun r11 => if r11 = 0 then bd (fX6_spells n_p0 f_p0 x1 x2 4) (fun r14 => if r14 = 0 then bd (fX6_spells n_p0 f_p0 x1 x2 5) (fun r17 => if r17 = 0 then bd (fX6_spells n_p0 f_p0 x1 x2 6) (fun r20 => if r20 = 0 then bd (fX6_spells n_p0 f_p0 x1 x2 7) (fun r23 => if r23 = 0 then some 303 else some 311) else some 310) else some 309) else some 308) else some 307) else some 306) else some 305) else some 304)

def fX6_isDigit (x0 : Int32) : Option (Int32) := if x0 < 48 then some 0 else if 57 < x0 then some 0 else some 1

def lX6_cutNumber_6 (k55 : Int32 → Int32 → Option (Int32 × Sx)) (z_t : Sx) (n_p1 : Nat) (f_p1 : Nat → Int32) (x2 : Int32) (x3 : Int32) : Nat → Int32 → Int32 → Option (Int32 × Sx)
  | 0, _, _ => none
  | n + 1, x4, x5 => if x3 ≤ x4 then k55 x4 x5 else bd (fX8_at n_p1 f_p1 x4) (fun r3 => bd (fX6_isDigit r3) (fun r5 => if r5 = 0 then k55 x4 x5 else jn (fun (i8 : Int32) => lX6_cutNumber_6 k55 z_t n_p1 f_p1 x2 x3 n (x4 + 1) i8) (fun J7 => if (x2 + 5) ≤ x4 then J7 x5 else bd (fX8_at n_p1 f_p1 x4) (fun r11 => J7 (((x5 * 10) + r11) - 48)))))
def fX6_cutNumber (z_t : Sx) (n_p1 : Nat) (f_p1 : Nat → Int32) (x2 : Int32) (x3 : Int32) : Option (Int32 × Sx) := lX6_cutNumber_6 (fun (i12 : Int32) (i13 : Int32) => jn (fun (i15 : Int32) => bd (fX6_addToken z_t i15 x2 i13) (fun z17 => some (i12, z17))) (fun J14 => if (i12 - x2) ≤ 5 then J14 301 else J14 302)) z_t n_p1 f_p1 x2 x3 FU x2 0

def fX6_isLetter (x0 : Int32) : Option (Int32) := if x0 < 97 then some 0 else if 122 < x0 then some 0 else some 1

def fX6_valueWord (n_p0 : Nat) (f_p0 : Nat → Int32) (x1 : Int32) (x2 : Int32) : Option (Int32) := bd (fX6_spells n_p0 f_p0 x1 x2 8) (fun r2 => if r2 = 0 then bd (fX6_spells n_p0 f_p0 x1 x2 9) (fun r5 => if r5 = 0 then bd (fX6_spells n_p0 f_p0 x1 x2 10) (fun r8 => if r8 = 0 then bd (fX6_spells n_p0 f_p0 x1 x2 11) (fun r11 => if r11 = 0 then bd (fX6_spells n_p0 f_p0 x1 x2 12) (fun r14 => if r14 = 0 then bd (fX6_spells n_p0 f_p0 x1 x2 13) (fun r17 => if r17 = 0 then bd (fX6_spells n_p0 f_p0 x1 x2 14) (fun r20 => if r20 = 0 then bd (fX6_spells n_p0 f_p0 x1 x2 15) (fun r23 => if r23 = 0 then bd (fX6_spells n_p0 f_p0 x1 x2 16) (fun r26 => if r26 = 0 then some 303 else some 320) else some 319) else some 318) else some 317) else some 316) else some 315) else some 314) else some 313) else some 312)

def lX6_cutWord_3 (k27 : Int32 → Option (Int32 × Sx)) (z_t : Sx) (n_p1 : Nat) (f_p1 : Nat → Int32) (x2 : Int32) (x3 : Int32) : Nat → Int32 → Option (Int32 × Sx)
  | 0, _ => none
  | n + 1, x4 => if x3 ≤ x4 then k27 x4 else bd (fX8_at n_p1 f_p1 x4) (fun r3 => bd (fX6_isLetter r3) (fun r5 => if r5 = 0 then k27 x4 else lX6_cutWord_3 k27 z_t n_p1 f_p1 x2 x3 n (x4 + 1)))
def fX6_cutWord (z_t : Sx) (n_p1 : Nat) (f_p1 : Nat → Int32) (x2 : Int32) (x3 : Int32) : Option (Int32 × Sx) := lX6_cutWord_3 (fun (i7 : Int32) => bd (fX6_clauseWord n_p1 f_p1 x2 i7) (fun r9 => jn (fun (i11 : Int32) => bd (fX6_addToken z_t i11 x2 0) (fun z13 => some (i7, z13))) (fun J10 => if r9 = 303 then bd (fX6_valueWord n_p1 f_p1 x2 i7) (fun r16 => J10 r16) else J10 r9))) z_t n_p1 f_p1 x2 x3 FU x2

def fX6_cutToken (z_t : Sx) (n_p1 : Nat) (f_p1 : Nat → Int32) (x2 : Int32) (x3 : Int32) : Option (Int32 × Sx) := bd (fX8_at n_p1 f_p1 x2) (fun r2 => if r2 = 32 then some (x2 + 1, z_t) else bd (fX6_isDigit r2) (fun r5 => if r5 = 0 then bd (fX6_isLetter r2) (fun r8 => if r8 = 0 then jn (fun (i11 : Int32) => if i11 = 0 then bd (fX6_addToken z_t r2 x2 0) (fun z14 => some (x2 + 1, z14)) else jn (fun (i16 : Int32) => bd (fX6_addToken z_t i16 x2 0) (fun z18 => some (x2 + 2, z18))) (fun J15 => if r2 = 60 then J15 256 else J15 257)) (fun J10 => jn (J10 0) (fun J20 => jn (if x3 ≤ (x2 + 1) then J20 else bd (fX8_at n_p1 f_p1 (x2 + 1)) (fun r24 => if r24 = 61 then J10 1 else J20)) (fun J21 => if r2 = 60 then J21 else if r2 = 62 then J21 else J20))) else bd2 (fX6_cutWord z_t n_p1 f_p1 x2 x3) (fun r29 z30 => some (r29, z30))) else bd2 (fX6_cutNumber z_t n_p1 f_p1 x2 x3) (fun r32 z33 => some (r32, z33))))

def lX6_open_10 (k37 : Sx → Option (Sx)) (n_p1 : Nat) (f_p1 : Nat → Int32) (x2 : Int32) : Nat → Sx → Int32 → Int32 → Option (Sx)
  | 0, _, _, _ => none
  | n + 1, z_t, x3, x4 => if 400 ≤ x4 then k37 z_t else if x2 ≤ x3 then k37 z_t else bd2 (fX6_cutToken z_t n_p1 f_p1 x3 x2) (fun r4 z5 => lX6_open_10 k37 n_p1 f_p1 x2 n z5 r4 (x4 + 1))
def fX6_open (z_t : Sx) (n_p1 : Nat) (f_p1 : Nat → Int32) (x2 : Int32) : Option (Sx) := lX6_open_10 (fun (z6 : Sx) => bd (fX6_addToken z6 300 x2 0) (fun z8 => bd (fX6_step (sI (sI z8 8 0) 4 0)) (fun z10 => some z10))) n_p1 f_p1 x2 FU (sI z_t 3 0) 0 0

def fX6_takeNumber (z_t : Sx) (x1 : Int32) (x2 : Int32) : Option (Int32 × Sx) := if (gI z_t 8) = 0 then jn (jn (fun (i4 : Int32) => bd (fX6_fail z_t i4) (fun z6 => some (gI z_t 7, z6))) (fun J3 => jn (J3 1) (fun J7 => if (gI z_t 5) = 301 then J7 else if (gI z_t 5) = 302 then J7 else J3 0))) (fun J2 => if (gI z_t 5) = 301 then if (gI z_t 7) < x1 then J2 else if x2 < (gI z_t 7) then J2 else bd (fX6_step z_t) (fun z14 => some (gI z_t 7, z14)) else J2) else some (0, z_t)

def lX7_couldBeFound_5 (k103 : Int32 → Option (Int32)) (z_t : Sx) (x1 : Int32) (x2 : Int32) : Nat → Int32 → Int32 → Option (Int32)
  | 0, _, _ => none
  | n + 1, x3, x4 => if (gI z_t 3) ≤ x4 then k103 x3 else bd (fX8_has x1 x4) (fun r3 => jn (fun (i5 : Int32) => lX7_couldBeFound_5 k103 z_t x1 x2 n i5 (x4 + 1)) (fun J4 => if r3 = 0 then J4 x3 else bd (fX8_at 10 (gT z_t 11) x4) (fun r8 => jn (fun (i10 : Int32) => bd (fX8_has x2 x4) (fun r12 => if r12 = 0 then bd (fX8_at 10 (gT z_t 10) x4) (fun r15 => if r15 = 0 then some 0 else if i10 = 0 then bd (fX8_at 10 (gT z_t 9) x4) (fun r19 => J4 (x3 + r19)) else some 0) else some 0)) (fun J9 => jn (J9 0) (fun J20 => if r8 < 0 then J20 else bd (fX8_has (x1 ||| x2) r8) (fun r23 => if r23 = 0 then J9 1 else J20))))))
def fX7_couldBeFound (z_t : Sx) (x1 : Int32) (x2 : Int32) : Option (Int32) := lX7_couldBeFound_5 (fun (i25 : Int32) => if (gI z_t 1) < i25 then some 0 else some 1) z_t x1 x2 FU 0 0

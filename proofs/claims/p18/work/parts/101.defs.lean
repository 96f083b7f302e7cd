def lX9_settles_0 (x1 : Int32) : Nat → Sx → Option (Sx)
  | 0, _ => none
  | n + 1, z_t => if (gI z_t 20) ≤ 0 then some z_t else gd (inb ((gI z_t 20) - 1) 400) (bd (fX9_strength (gT z_t 19 (((gI z_t 20) - 1).toNatClampNeg))) (fun r4 => if r4 < x1 then some z_t else bd (fX9_puts (sI z_t 20 ((gI z_t 20) - 1)) (gT (sI z_t 20 ((gI z_t 20) - 1)) 19 (((gI z_t 20) - 1).toNatClampNeg)) 0) (fun z7 => gd (inb (gI z7 20) 400) (if (gT z7 19 ((gI z7 20).toNatClampNeg)) = 11 then lX9_settles_0 x1 n (sI z7 17 ((gI z7 17) - 1)) else lX9_settles_0 x1 n z7))))
def fX9_settles (z_t : Sx) (x1 : Int32) : Option (Sx) := lX9_settles_0 x1 FU z_t

def lX9_isInside_2 (z_t : Sx) : Nat → Int32 → Option (Int32)
  | 0, _ => none
  | n + 1, x1 => if (gI z_t 20) ≤ x1 then some 0 else gd (inb x1 400) (if (gT z_t 19 x1.toNatClampNeg) = 91 then some 1 else lX9_isInside_2 z_t n (x1 + 1))
def fX9_isInside (z_t : Sx) : Option (Int32) := lX9_isInside_2 z_t FU 0

def lX9_closes_5 : Nat → Sx → Option (Sx)
  | 0, _ => none
  | n + 1, z_t => bd2 (fX9_see z_t) (fun r4 z5 => if r4 = 93 then bd (fX9_isInside z5) (fun r8 => if r8 = 0 then some z5 else bd (fX9_settles z5 1) (fun z11 => bd (fX9_settles (sI (sI (sI z11 20 ((gI z11 20) - 1)) 17 ((gI z11 17) - 1)) 12 ((gI z11 12) + 1)) 3) (fun z13 => lX9_closes_5 n z13))) else some z5)
def fX9_closes (z_t : Sx) : Option (Sx) := bd (fX9_settles z_t 3) (fun z2 => lX9_closes_5 FU z2)

def lX9_tested_12 (k112 : Sx → Option (Int32 × Sx)) : Nat → Sx → Int32 → Option (Int32 × Sx)
  | 0, _, _ => none
  | n + 1, z_t, x1 => if x1 = 0 then k112 z_t else bd2 (fX9_fact z_t) (fun r3 z4 => if r3 = 0 then some (0, z4) else bd (fX9_closes z4) (fun z7 => bd2 (fX9_isWord z7 6385252) (fun r9 z10 => jn (fun (z12 : Sx) (i13 : Int32) => if i13 = 0 then lX9_tested_12 k112 n z12 i13 else bd2 (fX9_isWord z12 6385252) (fun r16 z17 => jn (fun (i19 : Int32) => bd (fX9_passWord z17) (fun z21 => bd (fX9_strength i19) (fun r23 => bd (fX9_settles z21 r23) (fun z25 => gd (inb (gI z25 20) 400) (lX9_tested_12 k112 n (sI (sT z25 19 ((gI z25 20).toNatClampNeg) i19) 20 ((gI z25 20) + 1)) i13))))) (fun J18 => if r16 = 0 then J18 13 else J18 12))) (fun J11 => jn (fun (z29 : Sx) => J11 z29 1) (fun J28 => if r9 = 0 then bd2 (fX9_isWord z10 28530) (fun r32 z33 => if r32 = 0 then J11 z33 0 else J28 z33) else J28 z10)))))
def fX9_tested (z_t : Sx) : Option (Int32 × Sx) := lX9_tested_12 (fun (z35 : Sx) => bd (fX9_isInside z35) (fun r37 => if r37 = 0 then bd (fX9_settles z35 1) (fun z40 => some (1, z40)) else bd2 (fX9_see z35) (fun r42 z43 => bd2 (fX9_fails z43 0 (gI z43 12)) (fun r45 z46 => gd (r45 = 0 ∨ r45 = 1) (some (r45, z46)))))) FU (sI (sI z_t 20 0) 17 0) 1

def fX9_isDoingHere (z_t : Sx) (x1 : Int32) : Option (Int32 × Sx) := bd (fX9_passWord z_t) (fun z2 => gd (inb (gI z2 15) 6) (nm ((60 * (gI z2 15)) + (5 * (gT z2 6 ((gI z2 15).toNatClampNeg))) : Int32) (fun v4 => gd (inb v4 360) (gd (inb (v4 + 3) 360) (jn (fun (z8 : Sx) => jn (fun (z10 : Sx) => gd (inb (gI z10 15) 7) (gd (inb (v4 + 4) 360) (gd (inb (gI z10 15) 6) (nm ((gT (sT z10 5 ((v4 + 4).toNatClampNeg) (gT z10 4 ((gI z10 15).toNatClampNeg))) 6 ((gI z10 15).toNatClampNeg)) + 1 : Int32) (fun v14 => some (1, sT (sT z10 5 ((v4 + 4).toNatClampNeg) (gT z10 4 ((gI z10 15).toNatClampNeg))) 6 ((gI z10 15).toNatClampNeg) v14)))))) (fun J9 => jn (fun (z16 : Sx) => gd (inb (gI z16 15) 7) (bd2 (fX9_tested (sT z16 5 ((v4 + 3).toNatClampNeg) (gT z16 4 ((gI z16 15).toNatClampNeg)))) (fun r19 z20 => if r19 = 0 then some (0, z20) else J9 z20))) (fun J15 => if x1 = 1 then J15 z8 else bd2 (fX9_takesWord z8 26982) (fun r24 z25 => if r24 = 0 then J9 z25 else J15 z25)))) (fun J7 => if x1 = 0 then gd (inb (gI z2 15) 7) (nm (gT (sT (sT z2 5 v4.toNatClampNeg x1) 5 ((v4 + 3).toNatClampNeg) (-1)) 4 ((gI z2 15).toNatClampNeg) : Int32) (fun v29 => gd (inb (v4 + 1) 360) (bd2 (fX9_sum (sT (sT (sT z2 5 v4.toNatClampNeg x1) 5 ((v4 + 3).toNatClampNeg) (-1)) 5 ((v4 + 1).toNatClampNeg) v29)) (fun r32 z33 => if r32 = 0 then some (0, z33) else gd (inb (gI z33 15) 7) (gd (inb (v4 + 2) 360) (J7 (sT z33 5 ((v4 + 2).toNatClampNeg) (gT z33 4 ((gI z33 15).toNatClampNeg))))))))) else J7 (sT (sT z2 5 v4.toNatClampNeg x1) 5 ((v4 + 3).toNatClampNeg) (-1))))))))

def fX9_clauseHere (z_t : Sx) : Option (Int32 × Sx) := bd2 (fX9_see z_t) (fun r2 z3 => jn (fun (i5 : Int32) => jn (fun (z7 : Sx) (i8 : Int32) => if i8 = 0 then bd2 (fX9_fails z7 0 (gI z3 12)) (fun r51 z52 => gd (r51 = 0 ∨ r51 = 1) (some (r51, z52))) else jn (fun (i11 : Int32) (i12 : Int32) => if i12 = i11 then bd2 (fX9_fails z7 4 (gI z3 12)) (fun r46 z47 => gd (r46 = 0 ∨ r46 = 1) (some (r46, z47))) else if i5 = 0 then bd2 (fX9_isWord (sI z7 18 ((gI z7 18) + 1)) 1819242347) (fun r36 z37 => jn (fun (i39 : Int32) => bd2 (fX9_isDoingHere z37 i39) (fun r41 z42 => gd (r41 = 0 ∨ r41 = 1) (some (r41, z42)))) (fun J38 => if r36 = 0 then J38 1 else J38 0)) else bd2 (fX9_isWord (sI z7 18 ((gI z7 18) + 1)) 1953066341) (fun r16 z17 => if r16 = 0 then bd2 (fX9_isWord z17 1802071652) (fun r20 z21 => if r20 = 0 then bd2 (fX9_isFaultHere z21 (gI z3 12)) (fun r24 z25 => gd (r24 = 0 ∨ r24 = 1) (some (r24, z25))) else bd2 (fX9_isKindHere z21 (gI z3 12)) (fun r28 z29 => gd (r28 = 0 ∨ r28 = 1) (some (r28, z29)))) else bd2 (fX9_isTimeHere z17 (gI z3 12)) (fun r32 z33 => gd (r32 = 0 ∨ r32 = 1) (some (r32, z33))))) (fun J10 => if i5 = 0 then J10 12 (gI z7 18) else J10 24 (gI z7 18))) (fun J6 => if i5 = 0 then bd2 (fX9_isWord z3 1819242347) (fun r56 z57 => jn (fun (z59 : Sx) => J6 z59 1) (fun J58 => if r56 = 0 then bd2 (fX9_isWord z57 1937010544) (fun r62 z63 => if r62 = 0 then J6 z63 0 else J58 z63) else J58 z57)) else bd2 (fX9_isWord z3 1953066341) (fun r66 z67 => jn (fun (z69 : Sx) => J6 z69 1) (fun J68 => if r66 = 0 then bd2 (fX9_isWord z67 1802071652) (fun r72 z73 => if r72 = 0 then bd2 (fX9_isWord z73 439721749620) (fun r76 z77 => if r76 = 0 then J6 z77 0 else J68 z77) else J68 z73) else J68 z67)))) (fun J4 => if (gI z3 15) = 6 then J4 1 else J4 0))

def fX9_coins (z_t : Sx) (x1 : Int32) : Option (Int32) := bd (fX9_in x1.toInt64 0 2) (fun r2 => if r2 = 0 then some (-1000000) else gd (inb (4 + x1) 104) (some (gT z_t 24 ((4 + x1).toNatClampNeg))))

def fX9_isOf (x0 : Int32) (x1 : Int32) : Option (Int32) := if ((x0 >>> (x1 &&& 31)) &&& 1) = 1 then some 1 else some 0

def lX9_comesOut_5 (x1 : Int32) : Nat → Sx → Int64 → Int32 → Option (Int64 × Sx)
  | 0, _, _, _ => none
  | n + 1, z_t, x2, x4 => if (gT z_t 24 8) ≤ x4 then some (x2, z_t) else gd (inb (10 + x4) 104) (bd (fX9_isOf x1 x4) (fun r4 => bd (fX9_canLook z_t (gT z_t 24 ((10 + x4).toNatClampNeg))) (fun r6 => jn (fun (z8 : Sx) (i9 : Int64) => lX9_comesOut_5 x1 n z8 i9 (x4 + 1)) (fun J7 => if r6 = 0 then if r4 = 0 then J7 z_t (x2 * 100) else some (0, z_t) else bd (fX9_faultOf z_t (gT z_t 24 ((10 + x4).toNatClampNeg)) 1) (fun r12 => jn (fun (i14 : Int64) (i15 : Int64) => if r4 = 0 then J7 (sT z_t 24 3 ((gT z_t 24 3) - r12)) (i15 * i14) else gd (inb ((44 + (6 * (gT z_t 24 ((10 + x4).toNatClampNeg)))) + 4) 104) (bd (fX9_kindOf (sT (sT z_t 24 3 ((gT z_t 24 3) - r12)) 24 (((44 + (6 * (gT z_t 24 ((10 + x4).toNatClampNeg)))) + 4).toNatClampNeg) 1) (gT z_t 24 ((10 + x4).toNatClampNeg)) 0) (fun r19 => nm ((gT (sT (sT z_t 24 3 ((gT z_t 24 3) - r12)) 24 (((44 + (6 * (gT z_t 24 ((10 + x4).toNatClampNeg)))) + 4).toNatClampNeg) 1) 24 4) + r19 : Int32) (fun v20 => J7 (sT (sT (sT z_t 24 3 ((gT z_t 24 3) - r12)) 24 (((44 + (6 * (gT z_t 24 ((10 + x4).toNatClampNeg)))) + 4).toNatClampNeg) 1) 24 4 v20) (i15 * i14))))) (fun J13 => if r4 = 0 then bd (fX9_faultOf (sT z_t 24 3 ((gT z_t 24 3) - r12)) (gT z_t 24 ((10 + x4).toNatClampNeg)) 2) (fun r23 => J13 ((100 - r23).toInt64) x2) else bd (fX9_faultOf (sT z_t 24 3 ((gT z_t 24 3) - r12)) (gT z_t 24 ((10 + x4).toNatClampNeg)) 2) (fun r25 => J13 r25.toInt64 x2)))))))
def fX9_comesOut (z_t : Sx) (x1 : Int32) : Option (Int64 × Sx) := lX9_comesOut_5 x1 FU z_t 1 0

def lX9_couldBe_8 (k116 : Int32 → Int32 → Option (Int32)) (z_t : Sx) (x1 : Int32) (x2 : Int32) : Nat → Int32 → Int32 → Int32 → Option (Int32)
  | 0, _, _, _ => none
  | n + 1, x3, x4, x5 => if (gT z_t 24 0) ≤ x5 then k116 x3 x4 else bd (fX9_isOf x1 x5) (fun r3 => jn (fun (i5 : Int32) (i6 : Int32) => lX9_couldBe_8 k116 z_t x1 x2 n i5 i6 (x5 + 1)) (fun J4 => if r3 = 0 then J4 x3 x4 else bd (fX9_faultOf z_t x5 3) (fun r9 => bd (fX9_faultOf z_t x5 2) (fun r11 => if r11 = 0 then some 0 else bd (fX9_faultOf z_t x5 4) (fun r14 => if r14 = 2 then some 0 else jn (bd (fX9_faultOf z_t x5 1) (fun r18 => bd (fX9_kindOf z_t x5 0) (fun r20 => J4 (x3 + r18) (x4 + r20)))) (fun J16 => if r9 < 0 then J16 else bd (fX9_isOf x1 r9) (fun r23 => if r23 = 0 then bd (fX9_faultOf z_t r9 4) (fun r26 => if r26 = 2 then J16 else some 0) else J16)))))))
def fX9_couldBe (z_t : Sx) (x1 : Int32) (x2 : Int32) : Option (Int32) := lX9_couldBe_8 (fun (i28 : Int32) (i29 : Int32) => if (gT z_t 24 2) < i28 then some 0 else if i29 = x2 then some 1 else some 0) z_t x1 x2 FU 0 0 0

def fX9_count (z_t : Sx) (x1 : Int32) : Option (Int32) := if x1 = 0 then gd (inb x1 104) (some (gT z_t 24 x1.toNatClampNeg)) else if x1 = 1 then gd (inb x1 104) (some (gT z_t 24 x1.toNatClampNeg)) else if x1 = 2 then some (gI z_t 2) else if x1 = 3 then some (gT z_t 24 3) else if x1 = 4 then bd (fX9_thatAre z_t 1) (fun r5 => bd (fX9_bits r5) (fun r7 => some r7)) else if x1 = 5 then bd (fX9_thatAre z_t 2) (fun r9 => bd (fX9_bits r9) (fun r11 => some r11)) else if x1 = 6 then some (gT z_t 24 8) else if x1 = 7 then some (gT z_t 24 9) else if x1 = 8 then some (gI z_t 1) else if x1 = 9 then some (gT z_t 24 7) else if x1 = 10 then some (gT z_t 24 2) else some (-1)

def fX9_dawn (z_t : Sx) : Option (Int32 × Sx) := bd (fX9_isWork z_t) (fun r2 => if r2 = 0 then some ((-1000000), z_t) else bd (fX9_hidden z_t) (fun r5 => nm ((gT (sT z_t 24 5 ((gT z_t 24 5) + r5)) 24 6) + (gT (sT z_t 24 5 ((gT z_t 24 5) + r5)) 24 4) : Int32) (fun v6 => nm ((gT (sT (sT z_t 24 5 ((gT z_t 24 5) + r5)) 24 6 v6) 24 7) + 1 : Int32) (fun v7 => bd (fX9_begins (sT (sT (sT z_t 24 5 ((gT z_t 24 5) + r5)) 24 6 v6) 24 7 v7)) (fun z9 => some (gT z9 24 5, z9))))))

def fX9_isRule (z_t : Sx) (x1 : Int32) : Option (Int32) := if x1 < 0 then some 0 else if (gI z_t 2) ≤ x1 then some 0 else some 1

def lX9_stops_7 (x1 : Int32) : Nat → Sx → Int32 → Option (Int32 × Sx)
  | 0, _, _ => none
  | n + 1, z_t, x3 => gd (inb x1 6) (if (gT z_t 6 x1.toNatClampNeg) ≤ x3 then some (0, z_t) else gd (inb ((60 * x1) + (5 * x3)) 360) (jn (fun (z7 : Sx) => lX9_stops_7 x1 n z7 (x3 + 1)) (fun J6 => if (gT z_t 5 (((60 * x1) + (5 * x3)).toNatClampNeg)) = 1 then gd (inb (((60 * x1) + (5 * x3)) + 3) 360) (gd (inb (((60 * x1) + (5 * x3)) + 4) 360) (bd2 (fX9_reckons z_t x1 (gT z_t 5 ((((60 * x1) + (5 * x3)) + 3).toNatClampNeg)) (gT z_t 5 ((((60 * x1) + (5 * x3)) + 4).toNatClampNeg))) (fun r12 z13 => if r12 = 1 then some (1, z13) else J6 z13))) else J6 z_t)))
def fX9_stops (z_t : Sx) (x1 : Int32) (x2 : Int32) : Option (Int32 × Sx) := bd (fX9_words z_t x2) (fun z2 => lX9_stops_7 x1 FU z2 0)

def lX9_nextFor_7 (k98 : Sx → Int32 → Option (Int32 × Sx)) (x1 : Int32) : Nat → Sx → Int32 → Int64 → Int32 → Option (Int32 × Sx)
  | 0, _, _, _, _ => none
  | n + 1, z_t, x2, x3, x5 => if (gT z_t 24 0) ≤ x5 then k98 z_t x2 else bd (fX9_canLook z_t x5) (fun r3 => jn (fun (z5 : Sx) (i6 : Int32) (i7 : Int64) => lX9_nextFor_7 k98 x1 n z5 i6 i7 (x5 + 1)) (fun J4 => if r3 = 0 then J4 z_t x2 x3 else bd2 (fX9_clauseFor z_t x1 x5) (fun r10 z11 => if 0 ≤ r10 then gd (inb (r10 + 1) 360) (gd (inb (r10 + 2) 360) (bd2 (fX9_reckons z11 x1 (gT z11 5 ((r10 + 1).toNatClampNeg)) (gT z11 5 ((r10 + 2).toNatClampNeg))) (fun r16 z17 => jn (J4 z17 x5 r16) (fun J18 => if x2 < 0 then J18 else if r16 < x3 then J18 else J4 z17 x2 x3)))) else J4 z11 x2 x3)))
def fX9_nextFor (z_t : Sx) (x1 : Int32) : Option (Int32 × Sx) := lX9_nextFor_7 (fun (z21 : Sx) (i22 : Int32) => jn (fun (z24 : Sx) => some ((-1), z24)) (fun J23 => if i22 < 0 then J23 z21 else bd2 (fX9_stops z21 x1 i22) (fun r27 z28 => if r27 = 0 then some (i22, z28) else J23 z28))) x1 FU z_t (-1) 0 0

def fX9_draw (z_t : Sx) (x1 : Int32) : Option (Int32 × Sx) := nm ((((((gT z_t 24 9).toInt64) * 1103515245) + 12345) - ((((gT z_t 24 9).toInt64) * 1103515245) + 12345) / 2147483648 * 2147483648).toInt32 : Int32) (fun v1 => gd (¬ x1 = 0) (some (((gT (sT z_t 24 9 v1) 24 9) / 65536) - ((gT (sT z_t 24 9 v1) 24 9) / 65536) / x1 * x1, sT z_t 24 9 v1)))

def fX9_looks (z_t : Sx) (x1 : Int32) : Option (Int32 × Sx) := gd (inb ((44 + (6 * x1)) + 5) 104) (gd (inb ((44 + (6 * x1)) + 1) 104) (nm ((gT (sT z_t 24 (((44 + (6 * x1)) + 5).toNatClampNeg) ((gT z_t 24 (((44 + (6 * x1)) + 5).toNatClampNeg)) + 1)) 24 3) - (gT (sT z_t 24 (((44 + (6 * x1)) + 5).toNatClampNeg) ((gT z_t 24 (((44 + (6 * x1)) + 5).toNatClampNeg)) + 1)) 24 (((44 + (6 * x1)) + 1).toNatClampNeg)) : Int32) (fun v3 => bd2 (fX9_draw (sT (sT z_t 24 (((44 + (6 * x1)) + 5).toNatClampNeg) ((gT z_t 24 (((44 + (6 * x1)) + 5).toNatClampNeg)) + 1)) 24 3 v3) 100) (fun r5 z6 => gd (inb ((44 + (6 * x1)) + 2) 104) (if r5 < (gT z6 24 (((44 + (6 * x1)) + 2).toNatClampNeg)) then gd (inb ((44 + (6 * x1)) + 4) 104) (bd (fX9_kindOf (sT z6 24 (((44 + (6 * x1)) + 4).toNatClampNeg) 1) x1 0) (fun r11 => nm ((gT (sT z6 24 (((44 + (6 * x1)) + 4).toNatClampNeg) 1) 24 4) + r11 : Int32) (fun v12 => some (1, sT (sT z6 24 (((44 + (6 * x1)) + 4).toNatClampNeg) 1) 24 4 v12)))) else some (0, z6))))))

def lX9_passes_2 (x1 : Int32) : Nat → Sx → Int32 → Option (Int32 × Sx)
  | 0, _, _ => none
  | n + 1, z_t, x2 => if 200 ≤ x2 then some (x2, z_t) else bd2 (fX9_nextFor z_t x1) (fun r3 z4 => if 0 ≤ r3 then bd2 (fX9_looks z4 r3) (fun r7 z8 => lX9_passes_2 x1 n z8 (x2 + 1)) else some (x2, z4))
def fX9_passes (z_t : Sx) (x1 : Int32) : Option (Int32 × Sx) := lX9_passes_2 x1 FU z_t 0

def fX9_day (z_t : Sx) (x1 : Int32) : Option (Int32 × Sx) := bd (fX9_isWork z_t) (fun r2 => jn (some ((-1000000), z_t)) (fun J3 => if r2 = 0 then J3 else bd (fX9_isRule z_t x1) (fun r6 => if r6 = 0 then J3 else bd2 (fX9_passes z_t x1) (fun r9 z10 => some ((gT z10 24 4) - (gT z_t 24 4), z10)))))

def fX9_end (z_t : Sx) (x1 : Int32) : Option (Int32 × Sx) := if x1 < 0 then some ((-1), z_t) else if x1 ≤ (gI z_t 1) then some (x1, sI z_t 1 x1) else some ((-1), z_t)

def fX9_isFault (z_t : Sx) (x1 : Int32) : Option (Int32) := if x1 < 0 then some 0 else if (gT z_t 24 0) ≤ x1 then some 0 else some 1

def fX9_fault (z_t : Sx) (x1 : Int32) (x2 : Int32) : Option (Int32) := bd (fX9_isFault z_t x1) (fun r2 => if r2 = 0 then some (-2) else bd (fX9_in x2.toInt64 0 6) (fun r5 => if r5 = 0 then some (-2) else if 6 ≤ x2 then bd (fX9_isOpen z_t x1) (fun r9 => if r9 = 0 then some 0 else some 1) else bd (fX9_faultOf z_t x1 x2) (fun r12 => some r12)))

def lX9_four_3 (x1 : Int32) : Nat → Sx → Int32 → Option (Sx)
  | 0, _, _ => none
  | n + 1, z_t, x2 => if x2 < 0 then some z_t else gd (inb (gI z_t 1) 400) (lX9_four_3 x1 n (sI (sT z_t 0 ((gI z_t 1).toNatClampNeg) (vp_nar .byte ((x1 >>> (x2 &&& 31)).toInt8.toInt32))) 1 ((gI z_t 1) + 1)) (x2 + (-8)))
def fX9_four (z_t : Sx) (x1 : Int32) : Option (Sx) := lX9_four_3 x1 FU z_t 24

def fX9_feed (z_t : Sx) (x1 : Int32) (x2 : Int32) (x3 : Int32) (x4 : Int32) (x5 : Int32) : Option (Int32 × Sx) := if ((gI z_t 1) + 20) ≤ 400 then bd (fX9_four z_t x1) (fun z3 => bd (fX9_four z3 x2) (fun z5 => bd (fX9_four z5 x3) (fun z7 => bd (fX9_four z7 x4) (fun z9 => bd (fX9_four z9 x5) (fun z11 => some (gI z11 1, z11)))))) else some ((-1), z_t)

def fX9_fine (z_t : Sx) (x1 : Int32) : Option (Int32 × Sx) := bd (fX9_isWork z_t) (fun r2 => jn (some ((-1000000), z_t)) (fun J3 => if r2 = 0 then J3 else bd (fX9_in x1.toInt64 0 999) (fun r6 => if r6 = 0 then J3 else some (gT (sT z_t 24 4 ((gT z_t 24 4) - x1)) 24 4, sT z_t 24 4 ((gT z_t 24 4) - x1)))))

def lX9_fits_56 (k100 : Int32 → Int32 → Int32 → Option (Int32)) (z_t : Sx) (x1 : Int32) (x2 : Int32) (x3 : Int32) : Nat → Int32 → Int32 → Int32 → Int32 → Option (Int32)
  | 0, _, _, _, _ => none
  | n + 1, x4, x5, x6, x7 => if x3 < x7 then k100 x4 x5 x6 else bd (fX9_couldBe z_t x7 x1) (fun r12 => jn (fun (i14 : Int32) (i15 : Int32) (i16 : Int32) => lX9_fits_56 k100 z_t x1 x2 x3 n i14 i15 i16 (x7 + 1)) (fun J13 => if r12 = 0 then J13 x4 x5 x6 else J13 (x4 + 1) (x5 &&& x7) (x6 &&& (x7 ^^^ (-1)))))
def fX9_fits (z_t : Sx) (x1 : Int32) (x2 : Int32) : Option (Int32) := bd (fX9_isWork z_t) (fun r2 => if r2 = 0 then some (-1) else bd (fX9_in x1.toInt64 0 9999) (fun r5 => if r5 = 0 then some (-1) else bd (fX9_in x2.toInt64 0 2) (fun r8 => if r8 = 0 then some (-1) else lX9_fits_56 (fun (i18 : Int32) (i19 : Int32) (i20 : Int32) => if x2 = 0 then some i18 else if i18 = 0 then some 0 else if x2 = 1 then some i19 else some i20) z_t x1 x2 (((1 : Int32) <<< ((gT z_t 24 0) &&& 31)) - 1) FU 0 (((1 : Int32) <<< ((gT z_t 24 0) &&& 31)) - 1) (((1 : Int32) <<< ((gT z_t 24 0) &&& 31)) - 1) 0)))

def fX9_game (z_t : Sx) (x1 : Int32) (x2 : Int32) : Option (Int32 × Sx) := bd (fX9_in x1.toInt64 0 7) (fun r2 => if r2 = 0 then some ((-1000), z_t) else bd (fX9_in x2.toInt64 (-99) 99) (fun r5 => if r5 = 0 then some ((-1000), z_t) else gd (inb (18 + x1) 104) (some (gT z_t 24 ((18 + x1).toNatClampNeg), sT z_t 24 ((18 + x1).toNatClampNeg) x2))))

def fX9_gameOf (z_t : Sx) (x1 : Int32) : Option (Int32) := gd (inb (18 + x1) 104) (some (gT z_t 24 ((18 + x1).toNatClampNeg)))

def lX9_image_23 (k52 : Sx → Option (Int32 × Sx)) (x1 : Int32) : Nat → Sx → Int32 → Option (Int32 × Sx)
  | 0, _, _ => none
  | n + 1, z_t, x2 => if 104 ≤ x2 then k52 z_t else gd (inb x2 104) (gd (inb ((104 * x1) + x2) 416) (lX9_image_23 k52 x1 n (sT z_t 34 (((104 * x1) + x2).toNatClampNeg) (gT z_t 24 x2.toNatClampNeg)) (x2 + 1)))
def fX9_image (z_t : Sx) (x1 : Int32) : Option (Int32 × Sx) := bd (fX9_in x1.toInt64 0 3) (fun r2 => if r2 = 0 then some ((-1), z_t) else gd (inb x1 4) (lX9_image_23 (fun (z8 : Sx) => some (gT z8 24 7, z8)) x1 FU (sT z_t 35 x1.toNatClampNeg (vp_nar .boolean 1)) 0))

def fX9_kind (z_t : Sx) (x1 : Int32) (x2 : Int32) : Option (Int32) := bd (fX9_in x1.toInt64 0 (((gT z_t 24 1) - 1).toInt64)) (fun r2 => if r2 = 0 then some (-1) else bd (fX9_in x2.toInt64 0 2) (fun r5 => if r5 = 0 then some (-1) else gd (inb ((26 + (3 * x1)) + x2) 104) (some (gT z_t 24 (((26 + (3 * x1)) + x2).toNatClampNeg)))))

def fX9_look (z_t : Sx) (x1 : Int32) : Option (Int32 × Sx) := bd (fX9_isFault z_t x1) (fun r2 => if r2 = 0 then some ((-1), z_t) else bd (fX9_isOpen z_t x1) (fun r5 => if r5 = 0 then some ((-2), z_t) else bd (fX9_canLook z_t x1) (fun r8 => if r8 = 0 then some ((-3), z_t) else bd2 (fX9_looks z_t x1) (fun r11 z12 => if r11 = 0 then some (0, z12) else some (1, z12)))))

def lX9_master_47 (k96 : Int32 → Option (Int64 × Sx)) (z_t : Sx) (x1 : Int32) (x2 : Int32) (x3 : Int32) : Nat → Int32 → Int32 → Option (Int64 × Sx)
  | 0, _, _ => none
  | n + 1, x4, x5 => if (gT z_t 24 0) ≤ x5 then k96 x4 else bd (fX9_isOf x3 x5) (fun r14 => jn (fun (i16 : Int32) (i17 : Int32) => lX9_master_47 k96 z_t x1 x2 x3 n (i17 ||| i16) (x5 + 1)) (fun J15 => jn (fun (i19 : Int32) => J15 0 i19) (fun J18 => if r14 = 0 then J18 x4 else bd (fX9_bits x4) (fun r22 => if 6 ≤ r22 then J18 x4 else J15 ((1 : Int32) <<< (x5 &&& 31)) x4))))
def lX9_master_141 (k200 : Sx → Int64 → Option (Int64 × Sx)) (x1 : Int32) (x2 : Int32) (x4 : Int32) (x5 : Int32) (x6 : Int64) (x8 : Int32) : Nat → Sx → Int64 → Int32 → Option (Int64 × Sx)
  | 0, _, _, _ => none
  | n + 1, z_t, x9, x11 => if (gT z_t 24 0) ≤ x11 then k200 z_t x9 else bd (fX9_isOf x8 x11) (fun r35 => jn (fun (z37 : Sx) (i38 : Int64) => lX9_master_141 k200 x1 x2 x4 x5 x6 x8 n z37 i38 (x11 + 1)) (fun J36 => if r35 = 0 then J36 z_t x9 else gd (inb ((44 + (6 * x11)) + 4) 104) (bd (fX9_kindOf (sT z_t 24 (((44 + (6 * x11)) + 4).toNatClampNeg) 2) x11 2) (fun r42 => J36 (sT z_t 24 (((44 + (6 * x11)) + 4).toNatClampNeg) 2) (x9 + r42.toInt64)))))
def lX9_master_109 (k277 : Sx → Int32 → Int64 → Option (Int64 × Sx)) (x1 : Int32) (x2 : Int32) (x4 : Int32) : Nat → Sx → Int32 → Int64 → Int32 → Option (Int64 × Sx)
  | 0, _, _, _, _ => none
  | n + 1, z_t, x5, x6, x8 => if ((1 : Int32) <<< ((gT z_t 24 0) &&& 31)) ≤ x8 then k277 z_t x5 x6 else jn (fun (z29 : Sx) (i30 : Int32) (i31 : Int64) => lX9_master_109 k277 x1 x2 x4 n z29 i30 i31 (x8 + 1)) (fun J28 => if (x8 &&& (x4 ^^^ (-1))) = 0 then lX9_master_141 (fun (z43 : Sx) (i44 : Int64) => bd (fX9_goesThrough z43 x1) (fun z46 => bd (fX9_putsBack z46) (fun z48 => bd (fX9_hundreds x1) (fun r50 => jn (J28 z48 x8 ((gJ z48 31 0) - (i44 * r50))) (fun J51 => if x5 < 0 then J51 else if ((gJ z48 31 0) - (i44 * r50)) < x6 then J28 z48 x5 x6 else if ((gJ z48 31 0) - (i44 * r50)) = x6 then bd (fX9_bits x8) (fun r56 => bd (fX9_bits x5) (fun r58 => if r56 < r58 then J51 else J28 z48 x5 x6)) else J51))))) x1 x2 x4 x5 x6 x8 FU z_t 0 0 else J28 z_t x5 x6)
def fX9_master (z_t : Sx) (x1 : Int32) (x2 : Int32) : Option (Int64 × Sx) := bd (fX9_isWork z_t) (fun r2 => if r2 = 0 then some ((-1000000000000), z_t) else bd (fX9_in x1.toInt64 0 4) (fun r5 => if r5 = 0 then some ((-1000000000000), z_t) else bd (fX9_in x2.toInt64 0 2) (fun r8 => if r8 = 0 then some ((-1000000000000), z_t) else bd (fX9_thatAre z_t 0) (fun r11 => lX9_master_47 (fun (i24 : Int32) => bd (fX9_keeps z_t) (fun z26 => lX9_master_109 (fun (z60 : Sx) (i61 : Int32) (i62 : Int64) => if x2 = 2 then some (i61.toInt64, z60) else bd (fX9_hundreds x1) (fun r65 => bd (fX9_partOf i62 r65 x2) (fun r67 => some (r67, z60)))) x1 x2 i24 FU z26 (-1) 0 0)) z_t x1 x2 r11 FU 0 0))))

def lX9_meanOf_9 (x1 : Int32) : Nat → Sx → Int64 → Int32 → Option (Int64 × Sx)
  | 0, _, _, _ => none
  | n + 1, z_t, x2, x4 => if ((1 : Int32) <<< ((gT z_t 24 8) &&& 31)) ≤ x4 then some (x2, z_t) else bd2 (fX9_comesOut z_t x4) (fun r5 z6 => jn (fun (i8 : Int32) (i9 : Int64) (i10 : Int64) => bd (fX9_putsBack z6) (fun z12 => lX9_meanOf_9 x1 n z12 (i10 + (i9 * i8.toInt64)) (x4 + 1))) (fun J7 => if 0 ≤ x1 then bd (fX9_faultOf z6 x1 4) (fun r15 => if r15 = 1 then J7 1 r5 x2 else J7 0 r5 x2) else J7 ((gT z6 24 4) - (gT z6 25 4)) r5 x2))
def fX9_meanOf (z_t : Sx) (x1 : Int32) : Option (Int64 × Sx) := bd (fX9_keeps z_t) (fun z2 => lX9_meanOf_9 x1 FU z2 0 0)

def fX9_mend (z_t : Sx) (x1 : Int32) : Option (Int32 × Sx) := bd (fX9_isFault z_t x1) (fun r2 => jn (some ((-1000000), z_t)) (fun J3 => if r2 = 0 then J3 else bd (fX9_faultOf z_t x1 4) (fun r6 => if r6 ≤ 0 then gd (inb ((44 + (6 * x1)) + 4) 104) (bd (fX9_kindOf (sT z_t 24 (((44 + (6 * x1)) + 4).toNatClampNeg) 2) x1 2) (fun r10 => nm ((gT (sT z_t 24 (((44 + (6 * x1)) + 4).toNatClampNeg) 2) 24 5) - r10 : Int32) (fun v11 => some (gT (sT (sT z_t 24 (((44 + (6 * x1)) + 4).toNatClampNeg) 2) 24 5 v11) 24 5, sT (sT z_t 24 (((44 + (6 * x1)) + 4).toNatClampNeg) 2) 24 5 v11)))) else J3)))

def fX9_rests (z_t : Sx) : Option (Int32) := bd (fX9_gameOf z_t 0) (fun r2 => bd (fX9_gameOf z_t 2) (fun r4 => jn (fun (i6 : Int32) => bd (fX9_gameOf z_t 1) (fun r8 => bd (fX9_gameOf z_t 3) (fun r10 => jn (fun (i12 : Int32) (i13 : Int32) => bd (fX9_gameOf z_t 2) (fun r15 => bd (fX9_gameOf z_t 0) (fun r17 => jn (fun (i19 : Int32) (i20 : Int32) => bd (fX9_gameOf z_t 3) (fun r22 => bd (fX9_gameOf z_t 1) (fun r24 => jn (fun (i26 : Int32) (i27 : Int32) => some (i27 ||| i26)) (fun J25 => jn (fun (i29 : Int32) => J25 0 i29) (fun J28 => if r22 < r24 then J28 (i20 ||| i19) else bd (fX9_gameOf z_t 7) (fun r32 => bd (fX9_gameOf z_t 6) (fun r34 => if r32 < r34 then J28 (i20 ||| i19) else J25 8 (i20 ||| i19)))))))) (fun J18 => jn (fun (i37 : Int32) => J18 0 i37) (fun J36 => if r15 < r17 then J36 (i13 ||| i12) else bd (fX9_gameOf z_t 6) (fun r40 => bd (fX9_gameOf z_t 7) (fun r42 => if r40 < r42 then J36 (i13 ||| i12) else J18 4 (i13 ||| i12)))))))) (fun J11 => jn (fun (i45 : Int32) => J11 0 i45) (fun J44 => if r8 < r10 then J44 i6 else bd (fX9_gameOf z_t 5) (fun r48 => bd (fX9_gameOf z_t 4) (fun r50 => if r48 < r50 then J44 i6 else J11 2 i6))))))) (fun J5 => jn (J5 0) (fun J52 => if r2 < r4 then J52 else bd (fX9_gameOf z_t 4) (fun r55 => bd (fX9_gameOf z_t 5) (fun r57 => if r55 < r57 then J52 else J5 1))))))

def fX9_mixed (z_t : Sx) (x1 : Int32) (x2 : Int32) : Option (Int32) := bd (fX9_in x1.toInt64 0 1) (fun r2 => if r2 = 0 then some (-1) else bd (fX9_in x2.toInt64 0 1) (fun r5 => if r5 = 0 then some (-1) else bd (fX9_rests z_t) (fun r8 => if r8 ≤ 0 then jn (fun (i11 : Int32) => jn (fun (i13 : Int32) (i14 : Int32) => jn (fun (i16 : Int32) => bd (fX9_partOf ((i16 * i11).toInt64) ((i16 * (i14 + i13)).toInt64) x2) (fun r18 => some r18.toInt32)) (fun J15 => if 0 ≤ (i14 + i13) then J15 1 else J15 (-1))) (fun J12 => if x1 = 0 then bd (fX9_gameOf z_t 4) (fun r26 => bd (fX9_gameOf z_t 5) (fun r28 => J12 (r26 - r28) i11)) else bd (fX9_gameOf z_t 0) (fun r22 => bd (fX9_gameOf z_t 2) (fun r24 => J12 (r22 - r24) i11)))) (fun J10 => if x1 = 0 then bd (fX9_gameOf z_t 7) (fun r35 => bd (fX9_gameOf z_t 6) (fun r37 => J10 (r35 - r37))) else bd (fX9_gameOf z_t 3) (fun r31 => bd (fX9_gameOf z_t 1) (fun r33 => J10 (r31 - r33)))) else some (-2))))

def lX9_readsAll_35 (k66 : Sx → Int32 → Option (Int32 × Sx)) : Nat → Sx → Int32 → Option (Int32 × Sx)
  | 0, _, _ => none
  | n + 1, z_t, x1 => if x1 = 0 then k66 z_t x1 else bd2 (fX9_see z_t) (fun r7 z8 => if r7 = 59 then bd2 (fX9_clauseHere (sI z8 12 ((gI z8 12) + 1))) (fun r11 z12 => lX9_readsAll_35 k66 n z12 r11) else k66 z8 x1)
def fX9_readsAll (z_t : Sx) : Option (Int32 × Sx) := gd (inb (gI z_t 15) 7) (bd2 (fX9_clauseHere (sI (sI (sI (sI (sT z_t 4 ((gI z_t 15).toNatClampNeg) 0) 18 0) 12 0) 13 0) 16 0)) (fun r3 z4 => lX9_readsAll_35 (fun (z13 : Sx) (i14 : Int32) => jn (fun (z16 : Sx) (i17 : Int32) => jn (fun (z19 : Sx) => if (gI z19 13) = 0 then some (1, sI z19 1 0) else some (0, sI z19 1 0)) (fun J18 => if i17 = 0 then J18 z16 else if (gI z16 15) = 6 then if (gI z16 9) = 0 then bd2 (fX9_fails z16 0 (gI z16 12)) (fun r25 z26 => J18 z26) else J18 z16 else J18 z16)) (fun J15 => if i14 = 0 then J15 z13 i14 else bd2 (fX9_see z13) (fun r29 z30 => if r29 = (-1) then J15 z30 i14 else bd2 (fX9_fails z30 0 (gI z30 12)) (fun r33 z34 => J15 z34 r33)))) FU z4 r3))

def fX9_row (z_t : Sx) (x1 : Int32) : Option (Int32 × Sx) := if x1 = (-1) then some (0, sT z_t 24 8 0) else bd (fX9_isFault z_t x1) (fun r3 => if r3 = 0 then some ((-2), z_t) else if (gT z_t 24 8) = 8 then some ((-2), z_t) else gd (inb (10 + (gT z_t 24 8)) 104) (nm ((gT (sT z_t 24 ((10 + (gT z_t 24 8)).toNatClampNeg) x1) 24 8) + 1 : Int32) (fun v7 => some (gT (sT (sT z_t 24 ((10 + (gT z_t 24 8)).toNatClampNeg) x1) 24 8 v7) 24 8, sT (sT z_t 24 ((10 + (gT z_t 24 8)).toNatClampNeg) x1) 24 8 v7))))

def fX9_rule (z_t : Sx) : Option (Int32 × Sx) := if (gI z_t 2) = 6 then some ((-1), z_t) else gd (inb (gI z_t 2) 6) (bd2 (fX9_readsAll (sT (sI z_t 15 (gI z_t 2)) 6 ((gI z_t 2).toNatClampNeg) 0)) (fun r4 z5 => if r4 = 0 then some ((-2) - (gI z5 13), z5) else some (((gI z5 2) + 1) - 1, sI z5 2 ((gI z5 2) + 1))))

def fX9_seed (z_t : Sx) (x1 : Int32) : Option (Int32 × Sx) := if 0 ≤ x1 then some (gT z_t 24 9, sT z_t 24 9 x1) else some ((-1), z_t)

def fX9_seen (z_t : Sx) (x1 : Int32) (x2 : Int32) : Option (Int64 × Sx) := bd (fX9_isFault z_t x1) (fun r2 => if r2 = 0 then some ((-1), z_t) else bd (fX9_in x2.toInt64 0 1) (fun r5 => if r5 = 0 then some ((-1), z_t) else bd2 (fX9_meanOf z_t x1) (fun r8 z9 => bd (fX9_hundreds (gT z9 24 8)) (fun r11 => bd (fX9_partOf r8 r11 x2) (fun r13 => some (r13, z9))))))

def lX9_weeks_51 (k114 : Sx → Int32 → Option (Int32 × Sx)) (x1 : Int32) (x2 : Int32) (x3 : Int32) : Nat → Sx → Int32 → Int32 → Option (Int32 × Sx)
  | 0, _, _, _ => none
  | n + 1, z_t, x4, x5 => if (6 * x2) ≤ x5 then k114 z_t x4 else bd (fX9_begins z_t) (fun z17 => bd2 (fX9_passes z17 x1) (fun r19 z20 => jn (fun (i22 : Int32) (i23 : Int32) => lX9_weeks_51 k114 x1 x2 x3 n z20 (i23 + i22) (x5 + 1)) (fun J21 => if x3 = 0 then J21 (gT z20 24 4) x4 else if x3 = 1 then bd (fX9_thatAre z20 1) (fun r29 => bd (fX9_bits r29) (fun r31 => J21 r31 x4)) else bd (fX9_hidden z20) (fun r27 => J21 r27 x4))))
def fX9_weeks (z_t : Sx) (x1 : Int32) (x2 : Int32) (x3 : Int32) : Option (Int32 × Sx) := bd (fX9_isWork z_t) (fun r2 => if r2 = 0 then some ((-1), z_t) else bd (fX9_isRule z_t x1) (fun r5 => if r5 = 0 then some ((-1), z_t) else bd (fX9_in x2.toInt64 1 20) (fun r8 => if r8 = 0 then some ((-1), z_t) else bd (fX9_in x3.toInt64 0 2) (fun r11 => if r11 = 0 then some ((-1), z_t) else bd (fX9_keeps z_t) (fun z14 => lX9_weeks_51 (fun (z32 : Sx) (i33 : Int32) => bd (fX9_putsBack z32) (fun z35 => some (i33, z35))) x1 x2 x3 FU z14 0 0)))))

def lX9_work_92 (k111 : Sx → Option (Int32 × Sx)) : Nat → Sx → Int32 → Option (Int32 × Sx)
  | 0, _, _ => none
  | n + 1, z_t, x1 => if 9 ≤ x1 then k111 z_t else gd (inb x1 104) (lX9_work_92 k111 n (sT z_t 24 x1.toNatClampNeg 0) (x1 + 1))
def lX9_work_113 (k144 : Sx → Option (Int32 × Sx)) : Nat → Sx → Int32 → Option (Int32 × Sx)
  | 0, _, _ => none
  | n + 1, z_t, x1 => if (3 * (gI z_t 8)) ≤ x1 then k144 z_t else gd (inb x1 18) (gd (inb (26 + x1) 104) (lX9_work_113 k144 n (sT z_t 24 ((26 + x1).toNatClampNeg) (gT z_t 10 x1.toNatClampNeg)) (x1 + 1)))
def lX9_work_156 (k191 : Sx → Option (Int32 × Sx)) (x1 : Int32) : Nat → Sx → Int32 → Option (Int32 × Sx)
  | 0, _, _ => none
  | n + 1, z_t, x2 => if 4 ≤ x2 then k191 z_t else gd (inb ((4 * x1) + x2) 40) (gd (inb ((44 + (6 * x1)) + x2) 104) (lX9_work_156 k191 x1 n (sT z_t 24 (((44 + (6 * x1)) + x2).toNatClampNeg) (gT z_t 11 (((4 * x1) + x2).toNatClampNeg))) (x2 + 1)))
def lX9_work_146 (k227 : Sx → Option (Int32 × Sx)) : Nat → Sx → Int32 → Option (Int32 × Sx)
  | 0, _, _ => none
  | n + 1, z_t, x1 => if (gI z_t 9) ≤ x1 then k227 z_t else lX9_work_156 (fun (z21 : Sx) => gd (inb ((44 + (6 * x1)) + 4) 104) (gd (inb ((44 + (6 * x1)) + 5) 104) (lX9_work_146 k227 n (sT (sT z21 24 (((44 + (6 * x1)) + 4).toNatClampNeg) 0) 24 (((44 + (6 * x1)) + 5).toNatClampNeg) 0) (x1 + 1)))) x1 FU z_t 0
def fX9_work (z_t : Sx) : Option (Int32 × Sx) := bd2 (fX9_readsAll (sI (sI (sI (sI z_t 15 6) 7 (-1)) 8 0) 9 0)) (fun r2 z3 => if r2 = 0 then some ((-2) - (gI z3 13), z3) else jn (fun (i6 : Int32) (i7 : Int32) => gd (inb i7 104) (nm (gT (sT (sT (sT z3 24 0 (gI z3 9)) 24 1 (gI z3 8)) 24 i7.toNatClampNeg i6) 24 2 : Int32) (fun v9 => lX9_work_92 (fun (z12 : Sx) => lX9_work_113 (fun (z16 : Sx) => lX9_work_146 (fun (z24 : Sx) => some (gI z24 9, z24)) FU z16 0) FU z12 0) FU (sT (sT (sT (sT z3 24 0 (gI z3 9)) 24 1 (gI z3 8)) 24 i7.toNatClampNeg i6) 24 3 v9) 4))) (fun J5 => if 0 ≤ (gI z3 7) then J5 (gI z3 7) 2 else J5 60 2))

def fX9_worth (z_t : Sx) (x1 : Int32) : Option (Int64 × Sx) := bd (fX9_isWork z_t) (fun r2 => if r2 = 0 then some ((-1), z_t) else bd (fX9_in x1.toInt64 0 1) (fun r5 => if r5 = 0 then some ((-1), z_t) else bd2 (fX9_meanOf z_t (-1)) (fun r8 z9 => bd (fX9_hundreds (gT z9 24 8)) (fun r11 => bd (fX9_partOf r8 r11 x1) (fun r13 => some (r13, z9))))))

def fX9_would (z_t : Sx) (x1 : Int32) (x2 : Int32) : Option (Int32 × Sx) := bd (fX9_isWork z_t) (fun r2 => jn (some ((-1000000), z_t)) (fun J3 => if r2 = 0 then J3 else bd (fX9_isRule z_t x1) (fun r6 => if r6 = 0 then J3 else bd (fX9_in x2.toInt64 0 4) (fun r9 => if r9 = 0 then J3 else bd (fX9_keeps z_t) (fun z12 => bd2 (fX9_passes z12 x1) (fun r14 z15 => jn (fun (i17 : Int32) => bd (fX9_putsBack z15) (fun z19 => some (i17, z19))) (fun J16 => if x2 = 0 then J16 ((gT z15 24 4) - (gT z15 25 4)) else if x2 = 1 then bd (fX9_thatAre z15 1) (fun r27 => J16 r27) else if x2 = 2 then J16 (gT z15 24 3) else if x2 = 3 then bd (fX9_hidden z15) (fun r25 => J16 r25) else J16 r14)))))))

def fJ6_bitCount_0f7a4 (x0 : Int32) : Option (Int32) := nm (x0 - (((x0.toUInt32 >>> (Int32.toUInt32 1 &&& Int32.toUInt32 31)).toInt32) &&& 1431655765) : Int32) (fun v1 => nm ((v1 &&& 858993459) + (((v1.toUInt32 >>> (Int32.toUInt32 2 &&& Int32.toUInt32 31)).toInt32) &&& 858993459) : Int32) (fun v2 => nm ((v2 + ((v2.toUInt32 >>> (Int32.toUInt32 4 &&& Int32.toUInt32 31)).toInt32)) &&& 252645135 : Int32) (fun v3 => nm (v3 + ((v3.toUInt32 >>> (Int32.toUInt32 8 &&& Int32.toUInt32 31)).toInt32) : Int32) (fun v4 => nm (v4 + ((v4.toUInt32 >>> (Int32.toUInt32 16 &&& Int32.toUInt32 31)).toInt32) : Int32) (fun v5 => some (v5 &&& 63))))))

def lJ7_fill_53178_5 (n_p0 : Nat) (x1 : Int32) (x3 : Int32) : Nat → (Nat → Int32) → Int32 → Option ((Nat → Int32))
  | 0, _, _ => none
  | n + 1, f_p0, x2 => if x3 ≤ x2 then some f_p0 else gd (inb x2 n_p0) (lJ7_fill_53178_5 n_p0 x1 x3 n (upd f_p0 x2.toNatClampNeg x1) (x2 + 1))
def fJ7_fill_53178 (n_p0 : Nat) (f_p0 : Nat → Int32) (x1 : Int32) : Option ((Nat → Int32)) := lJ7_fill_53178_5 n_p0 x1 (nI n_p0) FU f_p0 0

def fX0_begin (z_t : Sx) (x1 : Int32) : Option (Sx) := bd (fJ7_fill_53178 10 (gT (sI (sI (sI z_t 0 x1) 1 0) 2 0) 5) 0) (fun z2 => some (sTf (sI (sI (sI z_t 0 x1) 1 0) 2 0) 5 z2))

def fX0_copyFrom (z_t : Sx) (z_p1 : Sx) : Option (Sx) := some (sTf (sI (sI (sI (sI (sI z_t 0 (gI z_p1 0)) 1 (gI z_p1 1)) 2 (gI z_p1 2)) 3 (gI z_p1 3)) 4 (gI z_p1 4)) 5 (va_cpy (gT z_p1 5) (gT (sI (sI (sI (sI (sI z_t 0 (gI z_p1 0)) 1 (gI z_p1 1)) 2 (gI z_p1 2)) 3 (gI z_p1 3)) 4 (gI z_p1 4)) 5) 0 0 10))

def fX0_gone (z_t : Sx) : Option (Int32) := some ((gI z_t 2) ||| (gI z_t 3))

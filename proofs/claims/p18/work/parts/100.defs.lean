def fX9_in (x0 : Int64) (x2 : Int64) (x4 : Int64) : Option (Int32) := if x0 < x2 then some 0 else if x4 < x0 then some 0 else some 1

def lX9_back_25 (k54 : Sx → Option (Int32 × Sx)) (x1 : Int32) : Nat → Sx → Int32 → Option (Int32 × Sx)
  | 0, _, _ => none
  | n + 1, z_t, x2 => if 104 ≤ x2 then k54 z_t else gd (inb ((104 * x1) + x2) 416) (gd (inb x2 104) (lX9_back_25 k54 x1 n (sT z_t 24 x2.toNatClampNeg (gT z_t 34 (((104 * x1) + x2).toNatClampNeg))) (x2 + 1)))
def fX9_back (z_t : Sx) (x1 : Int32) : Option (Int32 × Sx) := bd (fX9_in x1.toInt64 0 3) (fun r2 => if r2 = 0 then some ((-1), z_t) else gd (inb x1 4) (if (gT z_t 35 x1.toNatClampNeg) = 0 then some ((-1), z_t) else lX9_back_25 (fun (z9 : Sx) => some (gT z9 24 7, z9)) x1 FU z_t 0))

def lX9_begins_21 : Nat → Sx → Int32 → Option (Sx)
  | 0, _, _ => none
  | n + 1, z_t, x1 => if (gT z_t 24 0) ≤ x1 then some z_t else gd (inb ((44 + (6 * x1)) + 4) 104) (jn (fun (i4 : Int32) (i5 : Int32) => gd (inb i5 104) (gd (inb ((44 + (6 * x1)) + 5) 104) (lX9_begins_21 n (sT (sT z_t 24 i5.toNatClampNeg i4) 24 (((44 + (6 * x1)) + 5).toNatClampNeg) 0) (x1 + 1)))) (fun J3 => if (gT z_t 24 (((44 + (6 * x1)) + 4).toNatClampNeg)) = 1 then J3 0 ((44 + (6 * x1)) + 4) else J3 (gT z_t 24 (((44 + (6 * x1)) + 4).toNatClampNeg)) ((44 + (6 * x1)) + 4)))
def fX9_begins (z_t : Sx) : Option (Sx) := lX9_begins_21 FU (sT (sT z_t 24 3 (gT z_t 24 2)) 24 4 0) 0

def fX9_isWork (z_t : Sx) : Option (Int32) := if (gT z_t 24 0) ≤ 0 then some 0 else some 1

def lX9_keeps_2 : Nat → Sx → Int32 → Option (Sx)
  | 0, _, _ => none
  | n + 1, z_t, x1 => if 104 ≤ x1 then some z_t else gd (inb x1 104) (lX9_keeps_2 n (sT z_t 25 x1.toNatClampNeg (gT z_t 24 x1.toNatClampNeg)) (x1 + 1))
def fX9_keeps (z_t : Sx) : Option (Sx) := lX9_keeps_2 FU z_t 0

def fX9_faultOf (z_t : Sx) (x1 : Int32) (x2 : Int32) : Option (Int32) := gd (inb ((44 + (6 * x1)) + x2) 104) (some (gT z_t 24 (((44 + (6 * x1)) + x2).toNatClampNeg)))

def fX9_kindOf (z_t : Sx) (x1 : Int32) (x2 : Int32) : Option (Int32) := bd (fX9_faultOf z_t x1 0) (fun r2 => gd (inb ((26 + (3 * r2)) + x2) 104) (some (gT z_t 24 (((26 + (3 * r2)) + x2).toNatClampNeg))))

def lX9_hidden_4 (z_t : Sx) : Nat → Int32 → Int32 → Option (Int32)
  | 0, _, _ => none
  | n + 1, x1, x2 => if (gT z_t 24 0) ≤ x2 then some x1 else bd (fX9_faultOf z_t x2 4) (fun r3 => jn (fun (i5 : Int32) (i6 : Int32) => lX9_hidden_4 z_t n (i6 + i5) (x2 + 1)) (fun J4 => if r3 = 0 then bd (fX9_kindOf z_t x2 1) (fun r9 => J4 r9 x1) else J4 0 x1))
def fX9_hidden (z_t : Sx) : Option (Int32) := lX9_hidden_4 z_t FU 0 0

def lX9_hundreds_5 (x1 : Int32) : Nat → Int64 → Int32 → Option (Int64)
  | 0, _, _ => none
  | n + 1, x2, x4 => if x1 ≤ x4 then some x2 else lX9_hundreds_5 x1 n (x2 * 100) (x4 + 1)
def fX9_hundreds (x1 : Int32) : Option (Int64) := lX9_hundreds_5 x1 FU 1 0

def fX9_comesTo (z_t : Sx) (x1 : Int32) (x2 : Int32) : Option (Sx) := gd (inb x1 6) (bd (fX9_hidden (sJ (sT (sT z_t 26 x1.toNatClampNeg (-1)) 33 x1.toNatClampNeg (gT (sT z_t 26 x1.toNatClampNeg (-1)) 24 3)) 30 x1.toNatClampNeg 0)) (fun r3 => bd (fX9_hundreds (x2 - x1)) (fun r5 => some (sT (sJ (sJ (sT (sT z_t 26 x1.toNatClampNeg (-1)) 33 x1.toNatClampNeg (gT (sT z_t 26 x1.toNatClampNeg (-1)) 24 3)) 30 x1.toNatClampNeg 0) 31 x1.toNatClampNeg (r3.toInt64 * r5)) 32 x1.toNatClampNeg (-2)))))

def fX9_triesAs (z_t : Sx) (x1 : Int32) (x2 : Int32) : Option (Sx) := gd (inb x1 6) (bd (fX9_faultOf (sT z_t 27 x1.toNatClampNeg (vp_nar .boolean x2)) (gT z_t 26 x1.toNatClampNeg) 1) (fun r3 => nm ((gT (sT z_t 27 x1.toNatClampNeg (vp_nar .boolean x2)) 33 x1.toNatClampNeg) - r3 : Int32) (fun v4 => jn (fun (i6 : Int32) (i7 : Int32) => gd (inb i7 104) (some (sT (sT (sT z_t 27 x1.toNatClampNeg (vp_nar .boolean x2)) 24 3 v4) 24 i7.toNatClampNeg i6))) (fun J5 => if x2 = 0 then J5 0 ((44 + (6 * (gT z_t 26 x1.toNatClampNeg))) + 4) else J5 1 ((44 + (6 * (gT z_t 26 x1.toNatClampNeg))) + 4)))))

def fX9_takes (z_t : Sx) (x1 : Int32) (x2 : Int32) (x3 : Int64) (x5 : Int64) : Option (Sx) := gd (inb x1 6) (if (gT z_t 27 x1.toNatClampNeg) = 0 then bd (fX9_faultOf z_t (gT z_t 26 x1.toNatClampNeg) 2) (fun r4 => nm ((r4.toInt64 * (gJ z_t 28 x1.toNatClampNeg)) + (((100 - r4).toInt64) * x3) : Int64) (fun v5 => if (gJ (sT z_t 24 3 (gT z_t 33 x1.toNatClampNeg)) 30 x1.toNatClampNeg) < v5 then nm ((r4.toInt64 * (gJ (sJ (sT z_t 24 3 (gT z_t 33 x1.toNatClampNeg)) 30 x1.toNatClampNeg v5) 29 x1.toNatClampNeg)) + (((100 - r4).toInt64) * x5) : Int64) (fun v7 => some (sT (sJ (sJ (sT z_t 24 3 (gT z_t 33 x1.toNatClampNeg)) 30 x1.toNatClampNeg v5) 31 x1.toNatClampNeg v7) 32 x1.toNatClampNeg (gT z_t 26 x1.toNatClampNeg))) else some (sT z_t 24 3 (gT z_t 33 x1.toNatClampNeg)))) else bd (fX9_kindOf z_t (gT z_t 26 x1.toNatClampNeg) 0) (fun r9 => bd (fX9_hundreds ((x2 - x1) - 1)) (fun r11 => bd (fX9_triesAs (sJ (sJ z_t 28 x1.toNatClampNeg ((r9.toInt64 * r11) + x3)) 29 x1.toNatClampNeg x5) x1 0) (fun z13 => some z13))))

def fX9_isOpen (z_t : Sx) (x1 : Int32) : Option (Int32) := bd (fX9_faultOf z_t x1 4) (fun r2 => if r2 = 0 then bd (fX9_faultOf z_t x1 3) (fun r5 => jn (some 1) (fun J6 => if r5 < 0 then J6 else bd (fX9_faultOf z_t x1 3) (fun r9 => bd (fX9_faultOf z_t r9 4) (fun r11 => if r11 ≤ 0 then some 0 else J6)))) else some 0)

def fX9_canLook (z_t : Sx) (x1 : Int32) : Option (Int32) := bd (fX9_isOpen z_t x1) (fun r2 => if r2 = 0 then some 0 else bd (fX9_faultOf z_t x1 1) (fun r5 => if (gT z_t 24 3) < r5 then some 0 else some 1))

def lX9_triesNext_10 (k51 : Sx → Option (Int32 × Sx)) (x1 : Int32) : Nat → Sx → Option (Int32 × Sx)
  | 0, _ => none
  | n + 1, z_t => gd (inb x1 6) (if (gT z_t 24 0) ≤ (gT z_t 26 x1.toNatClampNeg) then k51 z_t else bd (fX9_canLook z_t (gT z_t 26 x1.toNatClampNeg)) (fun r5 => if r5 = 0 then lX9_triesNext_10 k51 x1 n (sT z_t 26 x1.toNatClampNeg ((gT z_t 26 x1.toNatClampNeg) + 1)) else k51 z_t))
def fX9_triesNext (z_t : Sx) (x1 : Int32) : Option (Int32 × Sx) := gd (inb x1 6) (lX9_triesNext_10 (fun (z7 : Sx) => if (gT z7 24 0) ≤ (gT z7 26 x1.toNatClampNeg) then some (0, z7) else some (1, z7)) x1 FU (sT z_t 26 x1.toNatClampNeg ((gT z_t 26 x1.toNatClampNeg) + 1)))

def lX9_goesThrough_10 (x1 : Int32) : Nat → Sx → Int32 → Int32 → Option (Sx)
  | 0, _, _, _ => none
  | n + 1, z_t, x2, x3 => if x2 < 0 then some z_t else jn (fun (z5 : Sx) => gd (inb x2 6) (if 0 ≤ (x2 + (-1)) then gd (inb (x2 + (-1)) 6) (bd (fX9_takes z5 (x2 + (-1)) x1 (gJ z5 30 x2.toNatClampNeg) (gJ z5 31 x2.toNatClampNeg)) (fun z10 => jn (fun (i12 : Int32) => if i12 = 0 then bd (fX9_comesTo z10 ((x2 + (-1)) + 1) x1) (fun z15 => lX9_goesThrough_10 x1 n z15 ((x2 + (-1)) + 1) 1) else lX9_goesThrough_10 x1 n z10 (x2 + (-1)) i12) (fun J11 => if (gT z5 27 ((x2 + (-1)).toNatClampNeg)) = 0 then J11 1 else J11 0))) else some z5)) (fun J4 => if x2 = x1 then J4 z_t else jn (fun (z19 : Sx) => bd (fX9_triesAs z19 x2 1) (fun z21 => bd (fX9_comesTo z21 (x2 + 1) x1) (fun z23 => lX9_goesThrough_10 x1 n z23 (x2 + 1) 1))) (fun J18 => if x3 = 0 then J18 z_t else bd2 (fX9_triesNext z_t x2) (fun r26 z27 => if r26 = 0 then J4 z27 else J18 z27)))
def fX9_goesThrough (z_t : Sx) (x1 : Int32) : Option (Sx) := bd (fX9_comesTo z_t 0 x1) (fun z2 => lX9_goesThrough_10 x1 FU z2 0 1)

def lX9_putsBack_2 : Nat → Sx → Int32 → Option (Sx)
  | 0, _, _ => none
  | n + 1, z_t, x1 => if 104 ≤ x1 then some z_t else gd (inb x1 104) (lX9_putsBack_2 n (sT z_t 24 x1.toNatClampNeg (gT z_t 25 x1.toNatClampNeg)) (x1 + 1))
def fX9_putsBack (z_t : Sx) : Option (Sx) := lX9_putsBack_2 FU z_t 0

def lX9_divisor_28 : Nat → Int64 → Int64 → Option (Int64)
  | 0, _, _ => none
  | n + 1, x4, x6 => if x6 = 0 then some x4 else gd (¬ x6 = 0) (lX9_divisor_28 n x6 (x4 - x4 / x6 * x6))
def fX9_divisor (x0 : Int64) (x2 : Int64) : Option (Int64) := jn (fun (i2 : Int64) => jn (fun (i4 : Int64) => lX9_divisor_28 FU i2 i4) (fun J3 => if 0 ≤ x2 then J3 x2 else J3 (-x2))) (fun J1 => if 0 ≤ x0 then J1 x0 else J1 (-x0))

def fX9_partOf (x1 : Int64) (x3 : Int64) (x5 : Int32) : Option (Int64) := jn (fun (i2 : Int64) => bd (fX9_divisor x1 x3) (fun r4 => gd (¬ r4 = 0) (some (i2 / r4)))) (fun J1 => if x5 = 0 then J1 x1 else J1 x3)

def fX9_best (z_t : Sx) (x1 : Int32) (x2 : Int32) : Option (Int64 × Sx) := bd (fX9_isWork z_t) (fun r2 => if r2 = 0 then some ((-1), z_t) else bd (fX9_in x1.toInt64 0 5) (fun r5 => if r5 = 0 then some ((-1), z_t) else bd (fX9_in x2.toInt64 0 2) (fun r8 => if r8 = 0 then some ((-1), z_t) else bd (fX9_keeps z_t) (fun z11 => bd (fX9_goesThrough z11 x1) (fun z13 => bd (fX9_putsBack z13) (fun z15 => if x2 = 2 then some ((gT z15 32 0).toInt64, z15) else bd (fX9_hundreds x1) (fun r18 => bd (fX9_partOf (gJ z15 30 0) r18 x2) (fun r20 => some (r20, z15)))))))))

def lX9_bits_4 : Nat → Int32 → Int32 → Option (Int32)
  | 0, _, _ => none
  | n + 1, x1, x2 => if x2 = 0 then some x1 else lX9_bits_4 n (x1 + 1) (x2 &&& (x2 - 1))
def fX9_bits (x0 : Int32) : Option (Int32) := lX9_bits_4 FU 0 x0

def lX9_checks_28 (x1 : Int32) (x2 : Int32) : Nat → Int32 → Option (Int32)
  | 0, _ => none
  | n + 1, x3 => if (x1 * (100 - x3)) ≤ (x2 * x3) then some x3 else lX9_checks_28 x1 x2 n (x3 + 1)
def fX9_checks (x1 : Int32) (x2 : Int32) : Option (Int32) := bd (fX9_in x1.toInt64 0 9999) (fun r2 => if r2 = 0 then some (-1) else bd (fX9_in x2.toInt64 0 9999) (fun r5 => if r5 = 0 then some (-1) else lX9_checks_28 x1 x2 FU 0))

def lX9_thatAre_4 (z_t : Sx) (x1 : Int32) : Nat → Int32 → Int32 → Option (Int32)
  | 0, _, _ => none
  | n + 1, x2, x3 => if (gT z_t 24 0) ≤ x3 then some x2 else bd (fX9_faultOf z_t x3 4) (fun r3 => jn (fun (i5 : Int32) (i6 : Int32) => lX9_thatAre_4 z_t x1 n (i6 ||| i5) (x3 + 1)) (fun J4 => if r3 = x1 then J4 ((1 : Int32) <<< (x3 &&& 31)) x2 else J4 0 x2))
def fX9_thatAre (z_t : Sx) (x1 : Int32) : Option (Int32) := lX9_thatAre_4 z_t x1 FU 0 0

def fX9_words (z_t : Sx) (x1 : Int32) : Option (Sx) := bd (fX9_faultOf (sJ z_t 23 0 x1.toInt64) x1 0) (fun r2 => bd (fX9_kindOf (sJ (sJ z_t 23 0 x1.toInt64) 23 1 r2.toInt64) x1 0) (fun r4 => bd (fX9_faultOf (sJ (sJ (sJ z_t 23 0 x1.toInt64) 23 1 r2.toInt64) 23 2 r4.toInt64) x1 2) (fun r6 => bd (fX9_faultOf (sJ (sJ (sJ (sJ z_t 23 0 x1.toInt64) 23 1 r2.toInt64) 23 2 r4.toInt64) 23 3 r6.toInt64) x1 1) (fun r8 => nm ((gT (sJ (sJ (sJ (sJ (sJ z_t 23 0 x1.toInt64) 23 1 r2.toInt64) 23 2 r4.toInt64) 23 3 r6.toInt64) 23 4 r8.toInt64) 24 3).toInt64 : Int64) (fun v9 => bd (fX9_thatAre (sJ (sJ (sJ (sJ (sJ (sJ z_t 23 0 x1.toInt64) 23 1 r2.toInt64) 23 2 r4.toInt64) 23 3 r6.toInt64) 23 4 r8.toInt64) 23 5 v9) 1) (fun r11 => bd (fX9_bits r11) (fun r13 => bd (fX9_faultOf (sJ (sJ (sJ (sJ (sJ (sJ (sJ z_t 23 0 x1.toInt64) 23 1 r2.toInt64) 23 2 r4.toInt64) 23 3 r6.toInt64) 23 4 r8.toInt64) 23 5 v9) 23 6 r13.toInt64) x1 5) (fun r15 => nm ((gT (sJ (sJ (sJ (sJ (sJ (sJ (sJ (sJ z_t 23 0 x1.toInt64) 23 1 r2.toInt64) 23 2 r4.toInt64) 23 3 r6.toInt64) 23 4 r8.toInt64) 23 5 v9) 23 6 r13.toInt64) 23 7 r15.toInt64) 24 4).toInt64 : Int64) (fun v16 => some (sJ (sJ (sJ (sJ (sJ (sJ (sJ (sJ (sJ z_t 23 0 x1.toInt64) 23 1 r2.toInt64) 23 2 r4.toInt64) 23 3 r6.toInt64) 23 4 r8.toInt64) 23 5 v9) 23 6 r13.toInt64) 23 7 r15.toInt64) 23 8 v16))))))))))

def fX9_pop (z_t : Sx) : Option (Int64 × Sx) := gd (inb ((gI z_t 22) - 1) 64) (some (gJ (sI z_t 22 ((gI z_t 22) - 1)) 21 (((gI z_t 22) - 1).toNatClampNeg), sI z_t 22 ((gI z_t 22) - 1)))

def fX9_one (x0 : Int32) (x1 : Int64) (x3 : Int64) : Option (Int64) := if x0 = 2 then some (x1 + x3) else if x0 = 3 then some (x1 - x3) else if x0 = 4 then some (x1 * x3) else if x0 = 5 then if x3 = 0 then some 0 else gd (¬ x3 = 0) (some (x1 / x3)) else if x0 = 6 then if x3 ≤ x1 then some 0 else some 1 else if x0 = 7 then if x3 < x1 then some 0 else some 1 else if x0 = 8 then if x1 = x3 then some 1 else some 0 else if x0 = 9 then if x1 < x3 then some 0 else some 1 else if x0 = 10 then if x1 ≤ x3 then some 0 else some 1 else if x0 = 11 then some (x1 ||| x3) else if x0 = 12 then some (x1 &&& x3) else some (x1 ||| x3)

def fX9_push (z_t : Sx) (x1 : Int64) : Option (Sx) := gd (inb (gI z_t 22) 64) (some (sI (sJ z_t 21 ((gI z_t 22).toNatClampNeg) x1) 22 ((gI z_t 22) + 1)))

def lX9_reckons_8 (k135 : Sx → Option (Int64 × Sx)) (x1 : Int32) (x3 : Int32) : Nat → Sx → Int32 → Option (Int64 × Sx)
  | 0, _, _ => none
  | n + 1, z_t, x4 => if x3 ≤ x4 then k135 z_t else gd (inb ((400 * x1) + x4) 2400) (jn (fun (z4 : Sx) => lX9_reckons_8 k135 x1 x3 n z4 (x4 + 1)) (fun J3 => if ((gT z_t 3 (((400 * x1) + x4).toNatClampNeg)) &&& 15) = 0 then bd (fX9_push z_t (((gT z_t 3 (((400 * x1) + x4).toNatClampNeg)) >>> (4 &&& 31)).toInt64)) (fun z27 => J3 z27) else if ((gT z_t 3 (((400 * x1) + x4).toNatClampNeg)) &&& 15) = 1 then gd (inb ((gT z_t 3 (((400 * x1) + x4).toNatClampNeg)) >>> (4 &&& 31)) 9) (bd (fX9_push z_t (gJ z_t 23 (((gT z_t 3 (((400 * x1) + x4).toNatClampNeg)) >>> (4 &&& 31)).toNatClampNeg))) (fun z25 => J3 z25)) else if ((gT z_t 3 (((400 * x1) + x4).toNatClampNeg)) &&& 15) = 11 then bd2 (fX9_pop z_t) (fun r19 z20 => bd (fX9_push z20 (1 - r19)) (fun z22 => J3 z22)) else bd2 (fX9_pop z_t) (fun r9 z10 => bd2 (fX9_pop z10) (fun r12 z13 => bd (fX9_one ((gT z_t 3 (((400 * x1) + x4).toNatClampNeg)) &&& 15) r12 r9) (fun r15 => bd (fX9_push z13 r15) (fun z17 => J3 z17))))))
def fX9_reckons (z_t : Sx) (x1 : Int32) (x2 : Int32) (x3 : Int32) : Option (Int64 × Sx) := lX9_reckons_8 (fun (z28 : Sx) => bd2 (fX9_pop z28) (fun r30 z31 => some (r30, z31))) x1 x3 FU (sI z_t 22 0) x2

def lX9_clauseFor_7 (x1 : Int32) : Nat → Sx → Int32 → Option (Int32 × Sx)
  | 0, _, _ => none
  | n + 1, z_t, x3 => gd (inb x1 6) (if (gT z_t 6 x1.toNatClampNeg) ≤ x3 then some ((-1), z_t) else gd (inb ((60 * x1) + (5 * x3)) 360) (jn (fun (z7 : Sx) => lX9_clauseFor_7 x1 n z7 (x3 + 1)) (fun J6 => if (gT z_t 5 (((60 * x1) + (5 * x3)).toNatClampNeg)) = 0 then gd (inb (((60 * x1) + (5 * x3)) + 3) 360) (if (gT z_t 5 ((((60 * x1) + (5 * x3)) + 3).toNatClampNeg)) < 0 then some ((60 * x1) + (5 * x3), z_t) else gd (inb (((60 * x1) + (5 * x3)) + 4) 360) (bd2 (fX9_reckons z_t x1 (gT z_t 5 ((((60 * x1) + (5 * x3)) + 3).toNatClampNeg)) (gT z_t 5 ((((60 * x1) + (5 * x3)) + 4).toNatClampNeg))) (fun r13 z14 => if r13 = 1 then some ((60 * x1) + (5 * x3), z14) else J6 z14))) else J6 z_t)))
def fX9_clauseFor (z_t : Sx) (x1 : Int32) (x2 : Int32) : Option (Int32 × Sx) := bd (fX9_words z_t x2) (fun z2 => lX9_clauseFor_7 x1 FU z2 0)

def lX9_see_0 (k38 : Sx → Option (Int32 × Sx)) : Nat → Sx → Option (Int32 × Sx)
  | 0, _ => none
  | n + 1, z_t => if (gI z_t 1) ≤ (gI z_t 12) then k38 z_t else gd (inb (gI z_t 12) 400) (if (gT z_t 0 ((gI z_t 12).toNatClampNeg)) = 32 then lX9_see_0 k38 n (sI z_t 12 ((gI z_t 12) + 1)) else k38 z_t)
def fX9_see (z_t : Sx) : Option (Int32 × Sx) := lX9_see_0 (fun (z4 : Sx) => if (gI z4 1) ≤ (gI z4 12) then some ((-1), z4) else gd (inb (gI z4 12) 400) (some ((gT z4 0 ((gI z4 12).toNatClampNeg)) &&& 255, z4))) FU z_t

def fX9_isLetter (z_t : Sx) (x1 : Int32) : Option (Int32) := if (gI z_t 1) ≤ x1 then some 0 else gd (inb x1 400) (if (gT z_t 0 x1.toNatClampNeg) < 97 then some 0 else if 122 < (gT z_t 0 x1.toNatClampNeg) then some 0 else some 1)

def lX9_isWord_10 (k56 : Int64 → Int32 → Option (Int32 × Sx)) (z_t : Sx) (x1 : Int64) : Nat → Int64 → Int32 → Option (Int32 × Sx)
  | 0, _, _ => none
  | n + 1, x3, x5 => bd (fX9_isLetter z_t ((gI z_t 12) + x5)) (fun r5 => if r5 = 0 then k56 x3 x5 else jn (fun (i8 : Int64) => lX9_isWord_10 k56 z_t x1 n i8 (x5 + 1)) (fun J7 => if 8 ≤ x5 then J7 x3 else gd (inb ((gI z_t 12) + x5) 400) (nm ((x3 <<< (Int32.toInt64 8 &&& 63)) ||| ((gT z_t 0 (((gI z_t 12) + x5).toNatClampNeg)).toInt64) : Int64) (fun v11 => J7 v11))))
def fX9_isWord (z_t : Sx) (x1 : Int64) : Option (Int32 × Sx) := bd2 (fX9_see z_t) (fun r2 z3 => lX9_isWord_10 (fun (i12 : Int64) (i13 : Int32) => if i13 ≤ 0 then some (0, z3) else if 8 ≤ i13 then some (0, z3) else if i12 = x1 then some (1, z3) else some (0, z3)) z3 x1 FU 0 0)

def lX9_passWord_0 : Nat → Sx → Option (Sx)
  | 0, _ => none
  | n + 1, z_t => bd (fX9_isLetter z_t (gI z_t 12)) (fun r2 => if r2 = 0 then some z_t else lX9_passWord_0 n (sI z_t 12 ((gI z_t 12) + 1)))
def fX9_passWord (z_t : Sx) : Option (Sx) := lX9_passWord_0 FU z_t

def fX9_isDigit (z_t : Sx) (x1 : Int32) : Option (Int32) := if (gI z_t 1) ≤ x1 then some 0 else gd (inb x1 400) (if (gT z_t 0 x1.toNatClampNeg) < 48 then some 0 else if 57 < (gT z_t 0 x1.toNatClampNeg) then some 0 else some 1)

def fX9_fails (z_t : Sx) (x1 : Int32) (x2 : Int32) : Option (Int32 × Sx) := if (gI z_t 13) = 0 then some (0, sI z_t 13 ((1 + (8 * x2)) + x1)) else some (0, z_t)

def lX9_numberHere_34 (k88 : Sx → Int32 → Option (Int32 × Sx)) (x1 : Int32) (x2 : Int32) (x3 : Int32) : Nat → Sx → Int32 → Option (Int32 × Sx)
  | 0, _, _ => none
  | n + 1, z_t, x4 => bd (fX9_isDigit z_t (gI z_t 12)) (fun r8 => if r8 = 0 then k88 z_t x4 else jn (fun (i11 : Int32) => lX9_numberHere_34 k88 x1 x2 x3 n (sI z_t 12 ((gI z_t 12) + 1)) i11) (fun J10 => if 5 ≤ ((gI z_t 12) - x3) then J10 x4 else gd (inb (gI z_t 12) 400) (J10 (((10 * x4) + (gT z_t 0 ((gI z_t 12).toNatClampNeg))) - 48))))
def fX9_numberHere (z_t : Sx) (x1 : Int32) (x2 : Int32) : Option (Int32 × Sx) := bd2 (fX9_see z_t) (fun r2 z3 => bd (fX9_isDigit z3 (gI z3 12)) (fun r5 => if r5 = 0 then bd2 (fX9_fails z3 0 (gI z3 12)) (fun r28 z29 => gd (r28 = 0 ∨ r28 = 1) (some (r28, z29))) else lX9_numberHere_34 (fun (z14 : Sx) (i15 : Int32) => jn (fun (z17 : Sx) => some (1, z17)) (fun J16 => jn (bd2 (fX9_fails (sI z14 14 i15) 1 (gI z3 12)) (fun r20 z21 => if r20 = 0 then some (0, z21) else J16 z21)) (fun J18 => if 5 < ((gI z14 12) - (gI z3 12)) then J18 else bd (fX9_in i15.toInt64 x1.toInt64 x2.toInt64) (fun r25 => if r25 = 0 then J18 else J16 (sI z14 14 i15))))) x1 x2 (gI z3 12) FU z3 0))

def fX9_takesWord (z_t : Sx) (x1 : Int64) : Option (Int32 × Sx) := bd2 (fX9_isWord z_t x1) (fun r2 z3 => if r2 = 0 then some (0, z3) else bd (fX9_passWord z3) (fun z6 => some (1, z6)))

def fX9_isFaultHere (z_t : Sx) (x1 : Int32) : Option (Int32 × Sx) := if (gI z_t 9) = 10 then bd2 (fX9_fails z_t 4 x1) (fun r31 z32 => gd (r31 = 0 ∨ r31 = 1) (some (r31, z32))) else bd (fX9_passWord z_t) (fun z3 => bd2 (fX9_numberHere z3 0 ((gI z3 8) - 1)) (fun r5 z6 => if r5 = 0 then some (0, z6) else gd (inb (4 * (gI z3 9)) 40) (bd2 (fX9_numberHere (sT z6 11 ((4 * (gI z3 9)).toNatClampNeg) (gI z6 14)) 1 99) (fun r10 z11 => if r10 = 0 then some (0, z11) else gd (inb ((4 * (gI z3 9)) + 1) 40) (bd2 (fX9_numberHere (sT z11 11 (((4 * (gI z3 9)) + 1).toNatClampNeg) (gI z11 14)) 0 100) (fun r15 z16 => if r15 = 0 then some (0, z16) else gd (inb ((4 * (gI z3 9)) + 2) 40) (gd (inb ((4 * (gI z3 9)) + 3) 40) (bd2 (fX9_takesWord (sT (sT z16 11 (((4 * (gI z3 9)) + 2).toNatClampNeg) (gI z16 14)) 11 (((4 * (gI z3 9)) + 3).toNatClampNeg) (-1)) 504363246962) (fun r21 z22 => jn (fun (z24 : Sx) => some (1, sI z24 9 ((gI z24 9) + 1))) (fun J23 => if r21 = 0 then J23 z22 else bd2 (fX9_numberHere z22 0 ((gI z22 9) - 1)) (fun r27 z28 => if r27 = 0 then some (0, z28) else J23 (sT z28 11 (((4 * (gI z3 9)) + 3).toNatClampNeg) (gI z28 14)))))))))))))

def lX9_isKindHere_22 (k62 : Sx → Option (Int32 × Sx)) : Nat → Sx → Int32 → Option (Int32 × Sx)
  | 0, _, _ => none
  | n + 1, z_t, x2 => if 3 ≤ x2 then k62 z_t else bd2 (fX9_numberHere z_t 0 99) (fun r6 z7 => if r6 = 0 then some (0, z7) else gd (inb ((3 * (gI z7 8)) + x2) 18) (lX9_isKindHere_22 k62 n (sT z7 10 (((3 * (gI z7 8)) + x2).toNatClampNeg) (gI z7 14)) (x2 + 1)))
def fX9_isKindHere (z_t : Sx) (x1 : Int32) : Option (Int32 × Sx) := if (gI z_t 8) = 6 then bd2 (fX9_fails z_t 4 x1) (fun r12 z13 => gd (r12 = 0 ∨ r12 = 1) (some (r12, z13))) else bd (fX9_passWord z_t) (fun z3 => lX9_isKindHere_22 (fun (z10 : Sx) => some (1, sI z10 8 ((gI z10 8) + 1))) FU z3 0)

def fX9_isTimeHere (z_t : Sx) (x1 : Int32) : Option (Int32 × Sx) := if (gI z_t 7) < 0 then bd (fX9_passWord z_t) (fun z3 => bd2 (fX9_numberHere z3 1 480) (fun r5 z6 => if r5 = 0 then some (0, z6) else some (1, sI z6 7 (gI z6 14)))) else bd2 (fX9_fails z_t 4 x1) (fun r9 z10 => gd (r9 = 0 ∨ r9 = 1) (some (r9, z10)))

def fX9_opens (z_t : Sx) (x1 : Int32) : Option (Int32 × Sx) := if (gI z_t 17) = 10 then bd2 (fX9_fails z_t 2 (gI z_t 12)) (fun r4 z5 => gd (r4 = 0 ∨ r4 = 1) (some (r4, z5))) else gd (inb (gI z_t 20) 400) (some (1, sI (sT (sI z_t 17 ((gI z_t 17) + 1)) 19 ((gI z_t 20).toNatClampNeg) x1) 20 ((gI z_t 20) + 1)))

def fX9_wordHere (z_t : Sx) : Option (Int32 × Sx) := bd2 (fX9_isWord z_t 439721749620) (fun r2 z3 => if r2 = 0 then bd2 (fX9_isWord z3 1802071652) (fun r6 z7 => if r6 = 0 then bd2 (fX9_isWord z7 7364985) (fun r10 z11 => if r10 = 0 then bd2 (fX9_isWord z11 1868850291) (fun r14 z15 => if r14 = 0 then bd2 (fX9_isWord z15 30796695599342963) (fun r18 z19 => if r18 = 0 then bd2 (fX9_isWord z19 1818584692) (fun r22 z23 => if r22 = 0 then bd2 (fX9_isWord z23 439956631140) (fun r26 z27 => if r26 = 0 then bd2 (fX9_isWord z27 500135716211) (fun r30 z31 => if r30 = 0 then bd2 (fX9_isWord z31 111469206070628) (fun r34 z35 => if r34 = 0 then some ((-1), z35) else some (8, z35)) else some (7, z31)) else some (6, z27)) else some (5, z23)) else some (4, z19)) else some (3, z15)) else some (2, z11)) else some (1, z7)) else some (0, z3))

def fX9_makes (z_t : Sx) (x1 : Int32) : Option (Int32 × Sx) := if (gI z_t 16) = 60 then bd2 (fX9_fails z_t 3 x1) (fun r3 z4 => gd (r3 = 0 ∨ r3 = 1) (some (r3, z4))) else some (1, sI z_t 16 ((gI z_t 16) + 1))

def fX9_puts (z_t : Sx) (x1 : Int32) (x2 : Int32) : Option (Sx) := gd (inb (gI z_t 15) 7) (gd (inb ((400 * (gI z_t 15)) + (gT z_t 4 ((gI z_t 15).toNatClampNeg))) 2400) (nm ((gT (sT z_t 3 (((400 * (gI z_t 15)) + (gT z_t 4 ((gI z_t 15).toNatClampNeg))).toNatClampNeg) (x1 + (16 * x2))) 4 ((gI z_t 15).toNatClampNeg)) + 1 : Int32) (fun v3 => some (sT (sT z_t 3 (((400 * (gI z_t 15)) + (gT z_t 4 ((gI z_t 15).toNatClampNeg))).toNatClampNeg) (x1 + (16 * x2))) 4 ((gI z_t 15).toNatClampNeg) v3))))

def fX9_value (z_t : Sx) : Option (Int32 × Sx) := bd2 (fX9_see z_t) (fun r2 z3 => bd (fX9_isDigit z3 (gI z3 12)) (fun r5 => if r5 = 0 then bd2 (fX9_wordHere z3) (fun r8 z9 => if 0 ≤ r8 then bd2 (fX9_makes z9 (gI z3 12)) (fun r12 z13 => if r12 = 0 then some (0, z13) else bd (fX9_passWord z13) (fun z16 => bd (fX9_puts z16 1 r8) (fun z18 => some (1, z18)))) else bd2 (fX9_fails z9 0 (gI z3 12)) (fun r20 z21 => gd (r20 = 0 ∨ r20 = 1) (some (r20, z21)))) else bd2 (fX9_numberHere z3 0 99999) (fun r24 z25 => if r24 = 0 then some (0, z25) else bd2 (fX9_makes z25 (gI z3 12)) (fun r28 z29 => if r28 = 0 then some (0, z29) else bd (fX9_puts z29 0 (gI z29 14)) (fun z32 => some (1, z32))))))

def lX9_term_9 : Nat → Sx → Option (Int32 × Sx)
  | 0, _ => none
  | n + 1, z_t => bd2 (fX9_see z_t) (fun r6 z7 => jn (fun (z9 : Sx) => gd (inb (gI z9 12) 400) (jn (fun (i12 : Int32) => bd2 (fX9_value (sI z9 12 ((gI z9 12) + 1))) (fun r14 z15 => if r14 = 0 then some (0, z15) else bd (fX9_puts z15 i12 0) (fun z18 => lX9_term_9 n z18))) (fun J11 => if (gT z9 0 ((gI z9 12).toNatClampNeg)) = 42 then J11 4 else J11 5))) (fun J8 => if r6 = 42 then J8 z7 else bd2 (fX9_see z7) (fun r22 z23 => if r22 = 47 then J8 z23 else some (1, z23))))
def fX9_term (z_t : Sx) : Option (Int32 × Sx) := bd2 (fX9_value z_t) (fun r2 z3 => if r2 = 0 then some (0, z3) else lX9_term_9 FU z3)

def lX9_sum_9 : Nat → Sx → Option (Int32 × Sx)
  | 0, _ => none
  | n + 1, z_t => bd2 (fX9_see z_t) (fun r6 z7 => jn (fun (z9 : Sx) => gd (inb (gI z9 12) 400) (jn (fun (i12 : Int32) => bd2 (fX9_term (sI z9 12 ((gI z9 12) + 1))) (fun r14 z15 => if r14 = 0 then some (0, z15) else bd (fX9_puts z15 i12 0) (fun z18 => lX9_sum_9 n z18))) (fun J11 => if (gT z9 0 ((gI z9 12).toNatClampNeg)) = 43 then J11 2 else J11 3))) (fun J8 => if r6 = 43 then J8 z7 else bd2 (fX9_see z7) (fun r22 z23 => if r22 = 45 then J8 z23 else some (1, z23))))
def fX9_sum (z_t : Sx) : Option (Int32 × Sx) := bd2 (fX9_term z_t) (fun r2 z3 => if r2 = 0 then some (0, z3) else lX9_sum_9 FU z3)

def fX9_compare (z_t : Sx) : Option (Int32 × Sx) := bd2 (fX9_sum z_t) (fun r2 z3 => if r2 = 0 then some (0, z3) else bd2 (fX9_see z3) (fun r6 z7 => jn (jn (fun (i10 : Int32) => jn (fun (z12 : Sx) => bd2 (fX9_makes z12 (gI z7 12)) (fun r14 z15 => if r14 = 0 then some (0, z15) else jn (fun (i18 : Int32) => bd2 (fX9_sum z15) (fun r20 z21 => if r20 = 0 then some (0, z21) else bd (fX9_puts z21 (6 + i18) 0) (fun z24 => some (1, z24)))) (fun J17 => if r6 = 60 then if i10 = 0 then J17 0 else J17 1 else if r6 = 61 then J17 2 else if i10 = 0 then J17 4 else J17 3))) (fun J11 => if i10 = 0 then J11 (sI z7 12 ((gI z7 12) + 1)) else J11 (sI (sI z7 12 ((gI z7 12) + 1)) 12 (((gI z7 12) + 1) + 1)))) (fun J9 => jn (J9 0) (fun J30 => if r6 = 61 then J30 else if (gI z7 1) ≤ ((gI z7 12) + 1) then J30 else gd (inb ((gI z7 12) + 1) 400) (if (gT (sI z7 12 ((gI z7 12) + 1)) 0 (((gI z7 12) + 1).toNatClampNeg)) = 61 then J9 1 else J30)))) (fun J8 => if r6 = 60 then J8 else if r6 = 61 then J8 else if r6 = 62 then J8 else bd2 (fX9_fails z7 0 (gI z7 12)) (fun r39 z40 => gd (r39 = 0 ∨ r39 = 1) (some (r39, z40))))))

def lX9_fact_2 (k75 : Sx → Option (Int32 × Sx)) : Nat → Sx → Int32 → Option (Int32 × Sx)
  | 0, _, _ => none
  | n + 1, z_t, x1 => if x1 = 0 then k75 z_t else bd2 (fX9_see z_t) (fun r3 z4 => bd2 (fX9_isWord z4 7237492) (fun r6 z7 => jn (fun (z9 : Sx) (i10 : Int32) => lX9_fact_2 k75 n z9 i10) (fun J8 => if r6 = 0 then if r3 = 91 then bd2 (fX9_opens z7 91) (fun r14 z15 => if r14 = 0 then some (0, z15) else J8 (sI z15 12 ((gI z15 12) + 1)) 1) else J8 z7 0 else bd2 (fX9_opens z7 11) (fun r18 z19 => if r18 = 0 then some (0, z19) else bd (fX9_passWord z19) (fun z22 => J8 z22 1)))))
def fX9_fact (z_t : Sx) : Option (Int32 × Sx) := lX9_fact_2 (fun (z23 : Sx) => bd2 (fX9_compare z23) (fun r25 z26 => gd (r25 = 0 ∨ r25 = 1) (some (r25, z26)))) FU z_t 1

def fX9_strength (x0 : Int32) : Option (Int32) := if x0 = 13 then some 1 else if x0 = 12 then some 2 else if x0 = 11 then some 3 else some 0

def fX8_at (n_p0 : Nat) (f_p0 : Nat → Int32) (x1 : Int32) : Option (Int32) := if x1 < 0 then some 0 else if (nI n_p0) ≤ x1 then some 0 else gd (inb x1 n_p0) (some (f_p0 x1.toNatClampNeg))

set_option maxHeartbeats 4000000 in
set_option maxRecDepth 100000 in
theorem mX8_at (l : Launch) (D : va_G) (a : Nat → ClassId) {q_p0 : Nat} {n_p0 : Nat} {f_p0 : Nat → Int32} {x1 : Int32} {y : Int32} (h : fX8_at n_p0 f_p0 x1 = some y) : CRi l MX8_at 0 0 D a [.ref q_p0, .int x1] (ra0 a q_p0 n_p0 f_p0) (fun r => r = y) := by
  unfold fX8_at at h
  refine entR (by decide) (Nat.le_of_ble_eq_true rfl) ?_
  intro p e s m below meth c C hK hP ls hl
  obtain ⟨hx, hb, hml, hown, hts, hr, hlocks, hnm⟩ := id C
  have hb : c.code = cX8_at := hb
  have hown : s.vm.findClass RX8 = some m.cls := hown
  have hl : lv_has ls 2 [(0, .ref q_p0), (1, .int x1)] := hl
  refine lv_iload_n hx hb dX8_at_0 rfl (lv_at hl 1 rfl) ?_
  refine lv_if_lt (tgt := 16) hx hb dX8_at_1 (by decide) (fun c1 => ?_) (fun c1 => ?_)
  · have h := ite_t c1 h
    refine lv_iconst (v := 0) hx hb dX8_at_16 (by decide) ?_
    exact rRi C rfl (Option.some.inj h) dX8_at_17
  · have h := ite_f c1 h
    refine lv_iload_n hx hb dX8_at_4 rfl (lv_at hl 1 rfl) ?_
    refine lv_aload_n hx hb dX8_at_5 rfl (lv_at hl 0 rfl) ?_
    refine va_alen (v := nI n_p0) hx hb hK.1 hP 0 0 rfl rfl rfl dX8_at_6 ?_
    refine lv_icmp_ge (tgt := 16) hx hb dX8_at_7 (by decide) (fun c2 => ?_) (fun c2 => ?_)
    · have h := ite_t c2 h
      refine lv_iconst (v := 0) hx hb dX8_at_16 (by decide) ?_
      exact rRi C rfl (Option.some.inj h) dX8_at_17
    · have h := ite_f c2 h
      refine lv_aload_n hx hb dX8_at_10 rfl (lv_at hl 0 rfl) ?_
      refine lv_iload_n hx hb dX8_at_11 rfl (lv_at hl 1 rfl) ?_
      obtain ⟨g3, h⟩ := gd_some h
      refine ald_i hx hb hK.1 hP 0 0 rfl rfl x1.toNatClampNeg (ix_g g3) dX8_at_12 ?_
      refine lv_goto (tgt := 17) hx hb dX8_at_13 (by decide) ?_
      exact rRi C rfl (Option.some.inj h) dX8_at_17

def fX7_isOpen (z_t : Sx) (x1 : Int32) (x2 : Int32) : Option (Int32) := if x1 < 0 then some 0 else if 10 ≤ x1 then some 0 else if ((x2 >>> (x1 &&& 31)) &&& 1) = 0 then gd (inb x1 10) (jn (some 1) (fun J5 => if (gT z_t 11 x1.toNatClampNeg) < 0 then J5 else if ((x2 >>> ((gT z_t 11 x1.toNatClampNeg) &&& 31)) &&& 1) = 0 then some 0 else J5)) else some 0

set_option maxHeartbeats 4000000 in
set_option maxRecDepth 100000 in
theorem mX7_isOpen (l : Launch) (D : va_G) (a : Nat → ClassId) {q_t : Nat} {Q_t : Nat → Nat} {z_t : Sx} {x1 : Int32} {x2 : Int32} {y : Int32} (h : fX7_isOpen z_t x1 x2 = some y) : CRi l MX7_isOpen 0 0 D a [.ref q_t, .int x1, .int x2] (rc7 a q_t Q_t z_t) (fun r => r = y) := by
  unfold fX7_isOpen at h
  refine entR (by decide) (Nat.le_of_ble_eq_true rfl) ?_
  intro p e s m below meth c C hK hP ls hl
  obtain ⟨hx, hb, hml, hown, hts, hr, hlocks, hnm⟩ := id C
  have hb : c.code = cX7_isOpen := hb
  have hown : s.vm.findClass RX7 = some m.cls := hown
  have hl : lv_has ls 4 [(0, .ref q_t), (1, .int x1), (2, .int x2)] := hl
  refine lv_iload_n hx hb dX7_isOpen_0 rfl (lv_at hl 1 rfl) ?_
  refine lv_if_lt (tgt := 21) hx hb dX7_isOpen_1 (by decide) (fun c1 => ?_) (fun c1 => ?_)
  · have h := ite_t c1 h
    refine lv_iconst (v := 0) hx hb dX7_isOpen_21 (by decide) ?_
    exact rRz C rfl (Or.inl rfl) (Option.some.inj h) dX7_isOpen_22
  · have h := ite_f c1 h
    refine lv_iload_n hx hb dX7_isOpen_4 rfl (lv_at hl 1 rfl) ?_
    refine lv_aload_n hx hb dX7_isOpen_5 rfl (lv_at hl 0 rfl) ?_
    refine va_get (D := D) (v := .ref (Q_t 11)) (C := RX7) (T := TX7) (N := 18) hx hb hts iX7 hown hK.1 hP 0 rfl rfl 11 (by decide) (hts _ t_68) (fun _ h9 => h9) rfl dX7_isOpen_6 ?_
    refine va_alen (v := 10) hx hb hK.1 hP 7 0 rfl rfl rfl dX7_isOpen_9 ?_
    refine lv_icmp_ge (tgt := 21) hx hb dX7_isOpen_10 (by decide) (fun c2 => ?_) (fun c2 => ?_)
    · have h := ite_t c2 h
      refine lv_iconst (v := 0) hx hb dX7_isOpen_21 (by decide) ?_
      exact rRz C rfl (Or.inl rfl) (Option.some.inj h) dX7_isOpen_22
    · have h := ite_f c2 h
      refine lv_iload_n hx hb dX7_isOpen_13 rfl (lv_at hl 2 rfl) ?_
      refine lv_iload_n hx hb dX7_isOpen_14 rfl (lv_at hl 1 rfl) ?_
      refine lv_ishr hx hb dX7_isOpen_15 ?_
      refine lv_iconst (v := 1) hx hb dX7_isOpen_16 (by decide) ?_
      refine lv_iand hx hb dX7_isOpen_17 ?_
      refine lv_if_eq (tgt := 23) hx hb dX7_isOpen_18 (by decide) (fun c3 => ?_) (fun c3 => ?_)
      · have h := ite_t c3 h
        refine lv_aload_n hx hb dX7_isOpen_23 rfl (lv_at hl 0 rfl) ?_
        refine va_get (D := D) (v := .ref (Q_t 11)) (C := RX7) (T := TX7) (N := 18) hx hb hts iX7 hown hK.1 hP 0 rfl rfl 11 (by decide) (hts _ t_68) (fun _ h9 => h9) rfl dX7_isOpen_24 ?_
        refine lv_iload_n hx hb dX7_isOpen_27 rfl (lv_at hl 1 rfl) ?_
        obtain ⟨g4, h⟩ := gd_some h
        refine ald_i hx hb hK.1 hP 7 0 rfl rfl x1.toNatClampNeg (ix_g g4) dX7_isOpen_28 ?_
        refine lv_istore_n (lv' := [(3, .int (gT z_t 11 x1.toNatClampNeg)), (0, .ref q_t), (1, .int x1), (2, .int x2)]) hx hb dX7_isOpen_29 rfl hl (by decide) rfl (fun ls hl => ?_)
        refine lv_iload_n hx hb dX7_isOpen_30 rfl (lv_at hl 0 rfl) ?_
        obtain ⟨J5, eJ5, h⟩ := jn_some h
        have hJ5 : ∀ (ls : Array Slot), J5 = some y → lv_has ls 4 [] → W p l e (rmM 0 0 0 0) s m #[.ref q_t, .int x1, .int x2] below meth c s.heap [] 0 0 (MQ below (vp_Si (fun r => r = y)) #[.ref q_t, .int x1, .int x2] s 0 0 (fun _ => False)) (F0 m 42 ls []) := by
          intro ls h hl
          rw [eJ5] at h
          refine lv_iconst (v := 1) hx hb dX7_isOpen_42 (by decide) ?_
          refine lv_goto (tgt := 47) hx hb dX7_isOpen_43 (by decide) ?_
          exact rRz C rfl (Or.inr rfl) (Option.some.inj h) dX7_isOpen_47
        refine lv_if_lt (tgt := 42) hx hb dX7_isOpen_31 (by decide) (fun c6 => ?_) (fun c6 => ?_)
        · have h := ite_t c6 h
          exact hJ5 ls h (lv_sub hl [] rfl)
        · have h := ite_f c6 h
          refine lv_iload_n hx hb dX7_isOpen_34 rfl (lv_at hl 3 rfl) ?_
          refine lv_iload_n hx hb dX7_isOpen_35 rfl (lv_at hl 0 rfl) ?_
          refine lv_ishr hx hb dX7_isOpen_36 ?_
          refine lv_iconst (v := 1) hx hb dX7_isOpen_37 (by decide) ?_
          refine lv_iand hx hb dX7_isOpen_38 ?_
          refine lv_if_eq (tgt := 46) hx hb dX7_isOpen_39 (by decide) (fun c7 => ?_) (fun c7 => ?_)
          · have h := ite_t c7 h
            refine lv_iconst (v := 0) hx hb dX7_isOpen_46 (by decide) ?_
            exact rRz C rfl (Or.inl rfl) (Option.some.inj h) dX7_isOpen_47
          · have h := ite_f c7 h
            exact hJ5 ls h (lv_sub hl [] rfl)
      · have h := ite_f c3 h
        refine lv_iconst (v := 0) hx hb dX7_isOpen_21 (by decide) ?_
        exact rRz C rfl (Or.inl rfl) (Option.some.inj h) dX7_isOpen_22

def lX8_hundreds_4 (x0 : Int32) : Nat → Int64 → Int32 → Option (Int64)
  | 0, _, _ => none
  | n + 1, x1, x3 => if x0 ≤ x3 then some x1 else if 8 ≤ x3 then some x1 else lX8_hundreds_4 x0 n (x1 * 100) (x3 + 1)
def fX8_hundreds (x0 : Int32) : Option (Int64) := lX8_hundreds_4 x0 FU 1 0

set_option maxHeartbeats 4000000 in
set_option maxRecDepth 100000 in
theorem wX8_hundreds_4 {p : Program} {l : Launch} {e : Env} {s : State} {m : MethodId} {below : List Frame} {meth : Method} {c : Code} {D : va_G} {a : Nat → ClassId} {x00 : Int32} {x0 : Int32} (C : Cx p s m #[.int x00] meth c MX8_hundreds) (hK : KK D a s) {y : Int64} (hP : va_P D classes ([]) s.heap) : ∀ (n : Nat) (x1 : Int64) (x3 : Int32) (ls : Array Slot), lX8_hundreds_4 x0 n x1 x3 = some y → lv_has ls 4 [(0, .int x0), (1, .long x1), (3, .int x3)] → W p l e (rmM 0 0 0 0) s m #[.int x00] below meth c s.heap [] 0 0 (MQ below (vp_Sl (fun r => r = y)) #[.int x00] s 0 0 (fun _ => False)) (F0 m 4 ls []) := by
  obtain ⟨hx, hb, hml, hown, hts, hr, hlocks, hnm⟩ := id C
  have hb : c.code = cX8_hundreds := hb
  have hown : s.vm.findClass RX8 = some m.cls := hown
  intro n
  induction n with
  | zero => intro x1 x3 ls h; rw [lX8_hundreds_4] at h; cases h
  | succ n ih =>
    intro x1 x3 ls h hl
    rw [lX8_hundreds_4] at h
    refine lv_iload_n hx hb dX8_hundreds_4 rfl (lv_at hl 2 rfl) ?_
    refine lv_iload_n hx hb dX8_hundreds_5 rfl (lv_at hl 0 rfl) ?_
    refine lv_icmp_ge (tgt := 27) hx hb dX8_hundreds_6 (by decide) (fun c1 => ?_) (fun c1 => ?_)
    · have h := ite_t c1 h
      refine lv_lload_n hx hb dX8_hundreds_27 rfl (lv_at hl 1 rfl) ?_
      exact rRl C rfl (Option.some.inj h) dX8_hundreds_28
    · have h := ite_f c1 h
      refine lv_iload_n hx hb dX8_hundreds_9 rfl (lv_at hl 2 rfl) ?_
      refine lv_bipush (v := 8) hx hb dX8_hundreds_10 (by decide) ?_
      refine lv_icmp_ge (tgt := 27) hx hb dX8_hundreds_12 (by decide) (fun c2 => ?_) (fun c2 => ?_)
      · have h := ite_t c2 h
        refine lv_lload_n hx hb dX8_hundreds_27 rfl (lv_at hl 1 rfl) ?_
        exact rRl C rfl (Option.some.inj h) dX8_hundreds_28
      · have h := ite_f c2 h
        refine lv_lload_n hx hb dX8_hundreds_15 rfl (lv_at hl 1 rfl) ?_
        refine lv_ldc2 hx hb hown (hts _ t_758) dX8_hundreds_16 ?_
        refine lv_lmul hx hb dX8_hundreds_19 ?_
        refine lv_lstore_n (lv' := [(1, .long (x1 * 100)), (0, .int x0), (3, .int x3)]) hx hb dX8_hundreds_20 rfl hl (by decide) rfl (fun ls hl => ?_)
        refine lv_iinc (v := x3 + 1) (lv' := [(3, .int (x3 + 1)), (1, .long (x1 * 100)), (0, .int x0)]) hx hb dX8_hundreds_21 hl (k := 2) rfl rfl (by decide) rfl (fun ls hl => ?_)
        refine lv_goto (tgt := 4) hx hb dX8_hundreds_24 (by decide) ?_
        exact ih (x1 * 100) (x3 + 1) ls h (lv_sub hl [2, 1, 0] rfl)

set_option maxHeartbeats 4000000 in
set_option maxRecDepth 100000 in
theorem mX8_hundreds (l : Launch) (D : va_G) (a : Nat → ClassId) {x0 : Int32} {y : Int64} (h : fX8_hundreds x0 = some y) : CRl l MX8_hundreds 0 0 D a [.int x0] ([]) (fun r => r = y) := by
  unfold fX8_hundreds at h
  refine entR (by decide) (Nat.le_of_ble_eq_true rfl) ?_
  intro p e s m below meth c C hK hP ls hl
  obtain ⟨hx, hb, hml, hown, hts, hr, hlocks, hnm⟩ := id C
  have hb : c.code = cX8_hundreds := hb
  have hown : s.vm.findClass RX8 = some m.cls := hown
  have hl : lv_has ls 4 [(0, .int x0)] := hl
  refine lv_lconst (v := 1) hx hb dX8_hundreds_0 (by decide) ?_
  refine lv_lstore_n (lv' := [(1, .long 1), (0, .int x0)]) hx hb dX8_hundreds_1 rfl hl (by decide) rfl (fun ls hl => ?_)
  refine lv_iconst (v := 0) hx hb dX8_hundreds_2 (by decide) ?_
  refine lv_istore_n (lv' := [(3, .int 0), (1, .long 1), (0, .int x0)]) hx hb dX8_hundreds_3 rfl hl (by decide) rfl (fun ls hl => ?_)
  refine wX8_hundreds_4 C hK hP FU 1 0 ls h (lv_sub hl [2, 1, 0] rfl)

def fX8_bit (x0 : Int32) : Option (Int32) := some ((1 : Int32) <<< (x0 &&& 31))

set_option maxHeartbeats 4000000 in
set_option maxRecDepth 100000 in
theorem mX8_bit (l : Launch) (D : va_G) (a : Nat → ClassId) {x0 : Int32} {y : Int32} (h : fX8_bit x0 = some y) : CRi l MX8_bit 0 0 D a [.int x0] ([]) (fun r => r = y) := by
  unfold fX8_bit at h
  refine entR (by decide) (Nat.le_of_ble_eq_true rfl) ?_
  intro p e s m below meth c C hK hP ls hl
  obtain ⟨hx, hb, hml, hown, hts, hr, hlocks, hnm⟩ := id C
  have hb : c.code = cX8_bit := hb
  have hown : s.vm.findClass RX8 = some m.cls := hown
  have hl : lv_has ls 1 [(0, .int x0)] := hl
  refine lv_iconst (v := 1) hx hb dX8_bit_0 (by decide) ?_
  refine lv_iload_n hx hb dX8_bit_1 rfl (lv_at hl 0 rfl) ?_
  refine lv_ishl hx hb dX8_bit_2 ?_
  exact rRi C rfl (Option.some.inj h) dX8_bit_3

def fX1_earnedBy (rec : Sx → Sx → Int32 → Int32 → Int32 → Option (Int64 × Sx)) (z_t : Sx) (z_p1 : Sx) (x2 : Int32) (x3 : Int32) (x4 : Int32) (x5 : Int32) : Option (Int64 × Sx) := bd (fX8_at 10 (gT z_p1 9) x2) (fun r2 => if (x5 - r2) < 0 then some ((-1), z_t) else bd (fX7_isOpen z_p1 x2 x4) (fun r5 => if r5 = 0 then some ((-1), z_t) else bd (fX8_at 10 (gT z_p1 10) x2) (fun r8 => bd (fX8_at 10 (gT z_p1 12) x2) (fun r10 => bd (fX8_hundreds (x3 - 1)) (fun r12 => bd (fX8_bit x2) (fun r14 => bd2 (rec z_t z_p1 (x3 - 1) (x4 ||| r14) (x5 - r2)) (fun r16 z17 => bd2 (rec z17 z_p1 (x3 - 1) x4 (x5 - r2)) (fun r19 z20 => some ((r8.toInt64 * ((r10.toInt64 * r12) + r16)) + (((100 - r8).toInt64) * r19), z20)))))))))

set_option maxHeartbeats 4000000 in
set_option maxRecDepth 100000 in
theorem mX1_earnedBy (l : Launch) (D : va_G) (a : Nat → ClassId) {F LO : Nat} {rec : Sx → Sx → Int32 → Int32 → Int32 → Option (Int64 × Sx)} (hrec : ∀ {q_t : Nat} {q_p1 : Nat} {Q_t : Nat → Nat} {z_t : Sx} {Q_p1 : Nat → Nat} {z_p1 : Sx} {x2 : Int32} {x3 : Int32} {x4 : Int32} {y9 : Int64 × Sx}, rec z_t z_p1 x2 x3 x4 = some y9 → ∀ (sz : Nat), CMl (S := Unit) l MX1_mostEarned F LO 0 0 D a [.ref q_t, .ref q_p1, .int x2, .int x3, .int x4] (rc1 a q_t Q_t z_t ++ (rc7 a q_p1 Q_p1 z_p1)) sz (fun r _ => r = y9.1) (fun _ => rc1 a q_t Q_t y9.2 ++ (rc7 a q_p1 Q_p1 z_p1))) (hF : 1 ≤ F) (hL : 23 ≤ LO) {q_t : Nat} {q_p1 : Nat} {Q_t : Nat → Nat} {z_t : Sx} {Q_p1 : Nat → Nat} {z_p1 : Sx} {x2 : Int32} {x3 : Int32} {x4 : Int32} {x5 : Int32} {y : Int64 × Sx} (h : fX1_earnedBy rec z_t z_p1 x2 x3 x4 x5 = some y) (sz : Nat) : CMl (S := Unit) l MX1_earnedBy (F + 1) (LO + 31) 0 0 D a [.ref q_t, .ref q_p1, .int x2, .int x3, .int x4, .int x5] (rc1 a q_t Q_t z_t ++ (rc7 a q_p1 Q_p1 z_p1)) sz (fun r _ => r = y.1) (fun _ => rc1 a q_t Q_t y.2 ++ (rc7 a q_p1 Q_p1 z_p1)) := by
  unfold fX1_earnedBy at h
  refine entMl (by decide) (Nat.le_of_ble_eq_true rfl) ?_
  intro p e s m below meth c C hK A hA hP hD ls hl
  obtain ⟨hx, hb, hml, hown, hts, hr, hlocks, hnm⟩ := id C
  have hb : c.code = cX1_earnedBy := hb
  have hown : s.vm.findClass RX1 = some m.cls := hown
  have hS : va_S A s.heap s.heap [] := va_S.rf
  have hl : lv_has ls 12 [(0, .ref q_t), (1, .ref q_p1), (2, .int x2), (3, .int x3), (4, .int x4), (5, .int x5)] := hl
  refine lv_iload hx hb dX1_earnedBy_0 (lv_at hl 5 rfl) ?_
  refine lv_aload_n hx hb dX1_earnedBy_2 rfl (lv_at hl 1 rfl) ?_
  refine va_get (D := D) (v := .ref (Q_p1 9)) (C := RX7) (T := TX7) (N := 18) hx hb hts iX7 hown hK.1 hP 3 rfl rfl 9 (by decide) (hts _ t_59) (fun _ h9 => h9) rfl dX1_earnedBy_3 ?_
  refine lv_iload_n hx hb dX1_earnedBy_6 rfl (lv_at hl 2 rfl) ?_
  obtain ⟨r2, hc1, h⟩ := bd_some h
  refine cRi (runN (As := [.ref (Q_p1 9), .int x2]) (rest := [.int x5]) C hK (mX8_at l D a hc1) lk_N_1_55 okN_X8_at (by constructor; (show 0 + 1 ≤ F + 1; omega); (show 8 + (2 + 11) + (0) ≤ LO + 31; omega)) ⟨rfl, rfl⟩ (preR hK (P_of_map (wc := ra0 a (Q_p1 9) 10 (gT z_p1 9)) hP [8] rfl)) hl.1 rfl (Nat.le_of_ble_eq_true rfl) dX1_earnedBy_7 ⟨Nat.le_of_ble_eq_true rfl, Nat.le_of_ble_eq_true rfl⟩) ?_
  refine lv_isub hx hb dX1_earnedBy_10 ?_
  refine lv_istore (lv' := [(6, .int (x5 - r2)), (0, .ref q_t), (1, .ref q_p1), (2, .int x2), (3, .int x3), (4, .int x4), (5, .int x5)]) hx hb dX1_earnedBy_11 hl (by decide) rfl (fun ls hl => ?_)
  refine lv_iload hx hb dX1_earnedBy_13 (lv_at hl 0 rfl) ?_
  refine lv_if_lt (tgt := 28) hx hb dX1_earnedBy_15 (by decide) (fun c3 => ?_) (fun c3 => ?_)
  · have h := ite_t c3 h
    refine lv_ldc2 hx hb hown (hts _ t_798) dX1_earnedBy_28 ?_
    exact rMl C rfl h (g := fun y => rc1 a q_t Q_t y.2 ++ (rc7 a q_p1 Q_p1 z_p1)) (pr := fun y => y.1) hP hD hS dX1_earnedBy_31
  · have h := ite_f c3 h
    refine lv_aload_n hx hb dX1_earnedBy_18 rfl (lv_at hl 2 rfl) ?_
    refine lv_iload_n hx hb dX1_earnedBy_19 rfl (lv_at hl 3 rfl) ?_
    refine lv_iload hx hb dX1_earnedBy_20 (lv_at hl 5 rfl) ?_
    obtain ⟨r5, hc4, h⟩ := bd_some h
    refine cRi (runV (As := [.int x2, .int x4]) (rest := []) C (mX7_isOpen l D a hc4) lk_V_1_59 okN_X7_isOpen (by constructor; (show 0 + 1 ≤ F + 1; omega); (show 8 + (4 + 11) + (0) ≤ LO + 31; omega)) ⟨rfl, rfl⟩ (preV (preR hK (P_of_map (wc := rc7 a q_p1 Q_p1 z_p1) hP [3, 4, 5, 6, 7, 8, 9, 10, 11, 12, 13, 14, 15] rfl)) (recvOf hK hP 3 rfl (ci := 7) rfl)) hl.1 rfl (Nat.le_of_ble_eq_true rfl) dX1_earnedBy_22 ⟨Nat.le_of_ble_eq_true rfl, Nat.le_of_ble_eq_true rfl⟩) ?_
    refine lv_if_ne (tgt := 32) hx hb dX1_earnedBy_25 (by decide) (fun c6 => ?_) (fun c6 => ?_)
    · have h := ite_f c6 h
      refine lv_aload_n hx hb dX1_earnedBy_32 rfl (lv_at hl 2 rfl) ?_
      refine va_get (D := D) (v := .ref (Q_p1 10)) (C := RX7) (T := TX7) (N := 18) hx hb hts iX7 hown hK.1 hP 3 rfl rfl 10 (by decide) (hts _ t_64) (fun _ h9 => h9) rfl dX1_earnedBy_33 ?_
      refine lv_iload_n hx hb dX1_earnedBy_36 rfl (lv_at hl 3 rfl) ?_
      obtain ⟨r8, hc7, h⟩ := bd_some h
      refine cRi (runN (As := [.ref (Q_p1 10), .int x2]) (rest := []) C hK (mX8_at l D a hc7) lk_N_1_55 okN_X8_at (by constructor; (show 0 + 1 ≤ F + 1; omega); (show 8 + (2 + 11) + (0) ≤ LO + 31; omega)) ⟨rfl, rfl⟩ (preR hK (P_of_map (wc := ra0 a (Q_p1 10) 10 (gT z_p1 10)) hP [9] rfl)) hl.1 rfl (Nat.le_of_ble_eq_true rfl) dX1_earnedBy_37 ⟨Nat.le_of_ble_eq_true rfl, Nat.le_of_ble_eq_true rfl⟩) ?_
      refine lv_istore (lv' := [(7, .int r8), (6, .int (x5 - r2)), (0, .ref q_t), (1, .ref q_p1), (2, .int x2), (3, .int x3), (4, .int x4), (5, .int x5)]) hx hb dX1_earnedBy_40 hl (by decide) rfl (fun ls hl => ?_)
      refine lv_aload_n hx hb dX1_earnedBy_42 rfl (lv_at hl 3 rfl) ?_
      refine va_get (D := D) (v := .ref (Q_p1 12)) (C := RX7) (T := TX7) (N := 18) hx hb hts iX7 hown hK.1 hP 3 rfl rfl 12 (by decide) (hts _ t_71) (fun _ h9 => h9) rfl dX1_earnedBy_43 ?_
      refine lv_iload_n hx hb dX1_earnedBy_46 rfl (lv_at hl 4 rfl) ?_
      obtain ⟨r10, hc9, h⟩ := bd_some h
      refine cRi (runN (As := [.ref (Q_p1 12), .int x2]) (rest := []) C hK (mX8_at l D a hc9) lk_N_1_55 okN_X8_at (by constructor; (show 0 + 1 ≤ F + 1; omega); (show 8 + (2 + 11) + (0) ≤ LO + 31; omega)) ⟨rfl, rfl⟩ (preR hK (P_of_map (wc := ra0 a (Q_p1 12) 10 (gT z_p1 12)) hP [11] rfl)) hl.1 rfl (Nat.le_of_ble_eq_true rfl) dX1_earnedBy_47 ⟨Nat.le_of_ble_eq_true rfl, Nat.le_of_ble_eq_true rfl⟩) ?_
      refine lv_i2l (v := r10.toInt64) hx hb dX1_earnedBy_50 rfl ?_
      refine lv_iload_n hx hb dX1_earnedBy_51 rfl (lv_at hl 5 rfl) ?_
      refine lv_iconst (v := 1) hx hb dX1_earnedBy_52 (by decide) ?_
      refine lv_isub hx hb dX1_earnedBy_53 ?_
      obtain ⟨r12, hc11, h⟩ := bd_some h
      refine cRl (runN (As := [.int (x3 - 1)]) (rest := [.long r10.toInt64]) C hK (mX8_hundreds l D a hc11) lk_N_1_71 okN_X8_hundreds (by constructor; (show 0 + 1 ≤ F + 1; omega); (show 8 + (4 + 11) + (0) ≤ LO + 31; omega)) ⟨rfl, rfl⟩ (preR hK (P_of_map (wc := []) hP [] rfl)) hl.1 rfl (Nat.le_of_ble_eq_true rfl) dX1_earnedBy_54 ⟨Nat.le_of_ble_eq_true rfl, Nat.le_of_ble_eq_true rfl⟩) ?_
      refine lv_lmul hx hb dX1_earnedBy_57 ?_
      refine lv_lstore (lv' := [(8, .long (r10.toInt64 * r12)), (7, .int r8), (6, .int (x5 - r2)), (0, .ref q_t), (1, .ref q_p1), (2, .int x2), (3, .int x3), (4, .int x4), (5, .int x5)]) hx hb dX1_earnedBy_58 hl (by decide) rfl (fun ls hl => ?_)
      refine lv_lload hx hb dX1_earnedBy_60 (lv_at hl 0 rfl) ?_
      refine lv_aload_n hx hb dX1_earnedBy_62 rfl (lv_at hl 3 rfl) ?_
      refine lv_aload_n hx hb dX1_earnedBy_63 rfl (lv_at hl 4 rfl) ?_
      refine lv_iload_n hx hb dX1_earnedBy_64 rfl (lv_at hl 6 rfl) ?_
      refine lv_iconst (v := 1) hx hb dX1_earnedBy_65 (by decide) ?_
      refine lv_isub hx hb dX1_earnedBy_66 ?_
      refine lv_iload hx hb dX1_earnedBy_67 (lv_at hl 7 rfl) ?_
      refine lv_iload_n hx hb dX1_earnedBy_69 rfl (lv_at hl 5 rfl) ?_
      obtain ⟨r14, hc13, h⟩ := bd_some h
      refine cRi (runN (As := [.int x2]) (rest := [.int x4, .int (x3 - 1), .ref q_p1, .ref q_t, .long (r10.toInt64 * r12)]) C hK (mX8_bit l D a hc13) lk_N_1_75 okN_X8_bit (by constructor; (show 0 + 1 ≤ F + 1; omega); (show 8 + (1 + 11) + (0) ≤ LO + 31; omega)) ⟨rfl, rfl⟩ (preR hK (P_of_map (wc := []) hP [] rfl)) hl.1 rfl (Nat.le_of_ble_eq_true rfl) dX1_earnedBy_70 ⟨Nat.le_of_ble_eq_true rfl, Nat.le_of_ble_eq_true rfl⟩) ?_
      refine lv_ior hx hb dX1_earnedBy_73 ?_
      refine lv_iload hx hb dX1_earnedBy_74 (lv_at hl 2 rfl) ?_
      obtain ⟨r16, z17, hc15, h⟩ := bd2_some h
      refine cWl (runV (As := [.ref q_p1, .int (x3 - 1), .int (x4 ||| r14), .int (x5 - r2)]) (rest := [.long (r10.toInt64 * r12)]) C (hrec hc15 s.heap.size) lk_V_1_79 okN_X1_mostEarned (by constructor; (show F + 0 + 1 ≤ F + 1; omega); (show 8 + (12 + 11) + (LO + 0) ≤ LO + 31; omega)) ⟨rfl, rfl⟩ (preV (preM hK hP hD) (recvOf hK hP 0 rfl (ci := 1) rfl)) hl.1 rfl (Nat.le_of_ble_eq_true rfl) dX1_earnedBy_76 ⟨Nat.le_of_ble_eq_true rfl, Nat.le_of_ble_eq_true rfl⟩) hP hD hS hA (fun H locs hP hD hS => ?_)
      have hP : va_P D classes (rc1 a q_t Q_t z17 ++ (rc7 a q_p1 Q_p1 z_p1)) H := hP
      have hD : va_D A (rc1 a q_t Q_t z17 ++ (rc7 a q_p1 Q_p1 z_p1)) := hD
      refine lv_ladd hx hb dX1_earnedBy_79 ?_
      refine lv_lstore (lv' := [(10, .long ((r10.toInt64 * r12) + r16)), (8, .long (r10.toInt64 * r12)), (7, .int r8), (6, .int (x5 - r2)), (0, .ref q_t), (1, .ref q_p1), (2, .int x2), (3, .int x3), (4, .int x4), (5, .int x5)]) hx hb dX1_earnedBy_80 hl (by decide) rfl (fun ls hl => ?_)
      refine lv_iload hx hb dX1_earnedBy_82 (lv_at hl 2 rfl) ?_
      refine lv_i2l (v := r8.toInt64) hx hb dX1_earnedBy_84 rfl ?_
      refine lv_lload hx hb dX1_earnedBy_85 (lv_at hl 0 rfl) ?_
      refine lv_lmul hx hb dX1_earnedBy_87 ?_
      refine lv_bipush (v := 100) hx hb dX1_earnedBy_88 (by decide) ?_
      refine lv_iload hx hb dX1_earnedBy_90 (lv_at hl 2 rfl) ?_
      refine lv_isub hx hb dX1_earnedBy_92 ?_
      refine lv_i2l (v := (100 - r8).toInt64) hx hb dX1_earnedBy_93 rfl ?_
      refine lv_aload_n hx hb dX1_earnedBy_94 rfl (lv_at hl 4 rfl) ?_
      refine lv_aload_n hx hb dX1_earnedBy_95 rfl (lv_at hl 5 rfl) ?_
      refine lv_iload_n hx hb dX1_earnedBy_96 rfl (lv_at hl 7 rfl) ?_
      refine lv_iconst (v := 1) hx hb dX1_earnedBy_97 (by decide) ?_
      refine lv_isub hx hb dX1_earnedBy_98 ?_
      refine lv_iload hx hb dX1_earnedBy_99 (lv_at hl 8 rfl) ?_
      refine lv_iload hx hb dX1_earnedBy_101 (lv_at hl 3 rfl) ?_
      obtain ⟨r19, z20, hc18, h⟩ := bd2_some h
      refine cWl (runV (As := [.ref q_p1, .int (x3 - 1), .int x4, .int (x5 - r2)]) (rest := [.long ((100 - r8).toInt64), .long (r8.toInt64 * ((r10.toInt64 * r12) + r16))]) C (hrec hc18 H.size) lk_V_1_79 okN_X1_mostEarned (by constructor; (show F + 0 + 1 ≤ F + 1; omega); (show 8 + (12 + 11) + (LO + 0) ≤ LO + 31; omega)) ⟨rfl, rfl⟩ (preV (preM hK hP hD) (recvOf hK hP 0 rfl (ci := 1) rfl)) hl.1 rfl (Nat.le_of_ble_eq_true rfl) dX1_earnedBy_103 ⟨Nat.le_of_ble_eq_true rfl, Nat.le_of_ble_eq_true rfl⟩) hP hD hS hA (fun H locs hP hD hS => ?_)
      have hP : va_P D classes (rc1 a q_t Q_t z20 ++ (rc7 a q_p1 Q_p1 z_p1)) H := hP
      have hD : va_D A (rc1 a q_t Q_t z20 ++ (rc7 a q_p1 Q_p1 z_p1)) := hD
      refine lv_lmul hx hb dX1_earnedBy_106 ?_
      refine lv_ladd hx hb dX1_earnedBy_107 ?_
      exact rMl C rfl h (g := fun y => rc1 a q_t Q_t y.2 ++ (rc7 a q_p1 Q_p1 z_p1)) (pr := fun y => y.1) hP hD hS dX1_earnedBy_108
    · have h := ite_t c6 h
      refine lv_ldc2 hx hb hown (hts _ t_798) dX1_earnedBy_28 ?_
      exact rMl C rfl h (g := fun y => rc1 a q_t Q_t y.2 ++ (rc7 a q_p1 Q_p1 z_p1)) (pr := fun y => y.1) hP hD hS dX1_earnedBy_31

def lX7_mostByOneLook_2 (k43 : Int32 → Option (Int32)) (z_t : Sx) (x1 : Int32) (x2 : Int32) : Nat → Int32 → Option (Int32)
  | 0, _ => none
  | n + 1, x3 => if (gI z_t 3) ≤ x3 then some 0 else bd (fX8_at 10 (gT z_t 16) x3) (fun r3 => bd (fX8_at 10 (gT z_t 9) r3) (fun r5 => jn (lX7_mostByOneLook_2 k43 z_t x1 x2 n (x3 + 1)) (fun J6 => if x2 < r5 then J6 else bd (fX7_isOpen z_t r3 x1) (fun r9 => if r9 = 0 then J6 else k43 r3))))
def fX7_mostByOneLook (z_t : Sx) (x1 : Int32) (x2 : Int32) : Option (Int32) := lX7_mostByOneLook_2 (fun (i11 : Int32) => bd (fX8_at 10 (gT z_t 15) i11) (fun r13 => some r13)) z_t x1 x2 FU 0

set_option maxHeartbeats 4000000 in
set_option maxRecDepth 100000 in
theorem wX7_mostByOneLook_2 {p : Program} {l : Launch} {e : Env} {s : State} {m : MethodId} {below : List Frame} {meth : Method} {c : Code} {D : va_G} {a : Nat → ClassId} {q_t : Nat} {Q_t : Nat → Nat} {z_t : Sx} {x10 : Int32} {x20 : Int32} {x1 : Int32} {x2 : Int32} (C : Cx p s m #[.ref q_t, .int x10, .int x20] meth c MX7_mostByOneLook) (hK : KK D a s) {y : Int32} (hP : va_P D classes (rc7 a q_t Q_t z_t) s.heap) {k43 : Int32 → Option (Int32)} (hk43 : ∀ (x4k : Int32) (ls : Array Slot), k43 x4k = some y → lv_has ls 5 [(0, .ref q_t), (4, .int x4k)] → W p l e (rmM 1 0 0 23) s m #[.ref q_t, .int x10, .int x20] below meth c s.heap [] 0 0 (MQ below (vp_Si (fun r => r = y)) #[.ref q_t, .int x10, .int x20] s 0 0 (fun _ => False)) (F0 m 43 ls [])) : ∀ (n : Nat) (x3 : Int32) (ls : Array Slot), lX7_mostByOneLook_2 k43 z_t x1 x2 n x3 = some y → lv_has ls 5 [(0, .ref q_t), (1, .int x1), (2, .int x2), (3, .int x3)] → W p l e (rmM 1 0 0 23) s m #[.ref q_t, .int x10, .int x20] below meth c s.heap [] 0 0 (MQ below (vp_Si (fun r => r = y)) #[.ref q_t, .int x10, .int x20] s 0 0 (fun _ => False)) (F0 m 2 ls []) := by
  obtain ⟨hx, hb, hml, hown, hts, hr, hlocks, hnm⟩ := id C
  have hb : c.code = cX7_mostByOneLook := hb
  have hown : s.vm.findClass RX7 = some m.cls := hown
  intro n
  induction n with
  | zero => intro x3 ls h; rw [lX7_mostByOneLook_2] at h; cases h
  | succ n ih =>
    intro x3 ls h hl
    rw [lX7_mostByOneLook_2] at h
    refine lv_iload_n hx hb dX7_mostByOneLook_2 rfl (lv_at hl 3 rfl) ?_
    refine lv_aload_n hx hb dX7_mostByOneLook_3 rfl (lv_at hl 0 rfl) ?_
    refine va_get (D := D) (v := .int (gI z_t 3)) (C := RX7) (T := TX7) (N := 18) hx hb hts iX7 hown hK.1 hP 0 rfl rfl 3 (by decide) (hts _ t_44) (fun _ h9 => h9) rfl dX7_mostByOneLook_4 ?_
    refine lv_icmp_ge (tgt := 59) hx hb dX7_mostByOneLook_7 (by decide) (fun c1 => ?_) (fun c1 => ?_)
    · have h := ite_t c1 h
      refine lv_iconst (v := 0) hx hb dX7_mostByOneLook_59 (by decide) ?_
      exact rRi C rfl (Option.some.inj h) dX7_mostByOneLook_60
    · have h := ite_f c1 h
      refine lv_aload_n hx hb dX7_mostByOneLook_10 rfl (lv_at hl 0 rfl) ?_
      refine va_get (D := D) (v := .ref (Q_t 16)) (C := RX7) (T := TX7) (N := 18) hx hb hts iX7 hown hK.1 hP 0 rfl rfl 16 (by decide) (hts _ t_79) (fun _ h9 => h9) rfl dX7_mostByOneLook_11 ?_
      refine lv_iload_n hx hb dX7_mostByOneLook_14 rfl (lv_at hl 3 rfl) ?_
      obtain ⟨r3, hc2, h⟩ := bd_some h
      refine cRi (runN (As := [.ref (Q_t 16), .int x3]) (rest := []) C hK (mX8_at l D a hc2) lk_N_7_78 okN_X8_at ⟨Nat.le_of_ble_eq_true rfl, Nat.le_of_ble_eq_true rfl⟩ ⟨rfl, rfl⟩ (preR hK (P_of_map (wc := ra0 a (Q_t 16) 10 (gT z_t 16)) hP [12] rfl)) hl.1 rfl (Nat.le_of_ble_eq_true rfl) dX7_mostByOneLook_15 ⟨Nat.le_of_ble_eq_true rfl, Nat.le_of_ble_eq_true rfl⟩) ?_
      refine lv_istore (lv' := [(4, .int r3), (0, .ref q_t), (1, .int x1), (2, .int x2), (3, .int x3)]) hx hb dX7_mostByOneLook_18 hl (by decide) rfl (fun ls hl => ?_)
      refine lv_aload_n hx hb dX7_mostByOneLook_20 rfl (lv_at hl 1 rfl) ?_
      refine va_get (D := D) (v := .ref (Q_t 9)) (C := RX7) (T := TX7) (N := 18) hx hb hts iX7 hown hK.1 hP 0 rfl rfl 9 (by decide) (hts _ t_58) (fun _ h9 => h9) rfl dX7_mostByOneLook_21 ?_
      refine lv_iload hx hb dX7_mostByOneLook_24 (lv_at hl 0 rfl) ?_
      obtain ⟨r5, hc4, h⟩ := bd_some h
      refine cRi (runN (As := [.ref (Q_t 9), .int r3]) (rest := []) C hK (mX8_at l D a hc4) lk_N_7_78 okN_X8_at ⟨Nat.le_of_ble_eq_true rfl, Nat.le_of_ble_eq_true rfl⟩ ⟨rfl, rfl⟩ (preR hK (P_of_map (wc := ra0 a (Q_t 9) 10 (gT z_t 9)) hP [5] rfl)) hl.1 rfl (Nat.le_of_ble_eq_true rfl) dX7_mostByOneLook_26 ⟨Nat.le_of_ble_eq_true rfl, Nat.le_of_ble_eq_true rfl⟩) ?_
      refine lv_iload_n hx hb dX7_mostByOneLook_29 rfl (lv_at hl 3 rfl) ?_
      obtain ⟨J6, eJ6, h⟩ := jn_some h
      have hJ6 : ∀ (ls : Array Slot), J6 = some y → lv_has ls 5 [(0, .ref q_t), (1, .int x1), (2, .int x2), (3, .int x3)] → W p l e (rmM 1 0 0 23) s m #[.ref q_t, .int x10, .int x20] below meth c s.heap [] 0 0 (MQ below (vp_Si (fun r => r = y)) #[.ref q_t, .int x10, .int x20] s 0 0 (fun _ => False)) (F0 m 53 ls []) := by
        intro ls h hl
        rw [eJ6] at h
        refine lv_iinc (v := x3 + 1) (lv' := [(3, .int (x3 + 1)), (0, .ref q_t), (1, .int x1), (2, .int x2)]) hx hb dX7_mostByOneLook_53 hl (k := 3) rfl rfl (by decide) rfl (fun ls hl => ?_)
        refine lv_goto (tgt := 2) hx hb dX7_mostByOneLook_56 (by decide) ?_
        exact ih (x3 + 1) ls h (lv_sub hl [1, 2, 3, 0] rfl)
      refine lv_icmp_gt (tgt := 53) hx hb dX7_mostByOneLook_30 (by decide) (fun c7 => ?_) (fun c7 => ?_)
      · have h := ite_t c7 h
        exact hJ6 ls h (lv_sub hl [1, 2, 3, 4] rfl)
      · have h := ite_f c7 h
        refine lv_aload_n hx hb dX7_mostByOneLook_33 rfl (lv_at hl 1 rfl) ?_
        refine lv_iload hx hb dX7_mostByOneLook_34 (lv_at hl 0 rfl) ?_
        refine lv_iload_n hx hb dX7_mostByOneLook_36 rfl (lv_at hl 2 rfl) ?_
        obtain ⟨r9, hc8, h⟩ := bd_some h
        refine cRi (runV (As := [.int r3, .int x1]) (rest := []) C (mX7_isOpen l D a hc8) lk_V_7_118 okN_X7_isOpen ⟨Nat.le_of_ble_eq_true rfl, Nat.le_of_ble_eq_true rfl⟩ ⟨rfl, rfl⟩ (preV (preR hK hP) (recvOf hK hP 0 rfl (ci := 7) rfl)) hl.1 rfl (Nat.le_of_ble_eq_true rfl) dX7_mostByOneLook_37 ⟨Nat.le_of_ble_eq_true rfl, Nat.le_of_ble_eq_true rfl⟩) ?_
        refine lv_if_eq (tgt := 53) hx hb dX7_mostByOneLook_40 (by decide) (fun c10 => ?_) (fun c10 => ?_)
        · have h := ite_t c10 h
          exact hJ6 ls h (lv_sub hl [1, 2, 3, 4] rfl)
        · have h := ite_f c10 h
          exact hk43 r3 ls h (lv_sub hl [1, 0] rfl)

set_option maxHeartbeats 4000000 in
set_option maxRecDepth 100000 in
theorem mX7_mostByOneLook (l : Launch) (D : va_G) (a : Nat → ClassId) {q_t : Nat} {Q_t : Nat → Nat} {z_t : Sx} {x1 : Int32} {x2 : Int32} {y : Int32} (h : fX7_mostByOneLook z_t x1 x2 = some y) : CRi l MX7_mostByOneLook 1 23 D a [.ref q_t, .int x1, .int x2] (rc7 a q_t Q_t z_t) (fun r => r = y) := by
  unfold fX7_mostByOneLook at h
  refine entR (by decide) (Nat.le_of_ble_eq_true rfl) ?_
  intro p e s m below meth c C hK hP ls hl
  obtain ⟨hx, hb, hml, hown, hts, hr, hlocks, hnm⟩ := id C
  have hb : c.code = cX7_mostByOneLook := hb
  have hown : s.vm.findClass RX7 = some m.cls := hown
  have hl : lv_has ls 5 [(0, .ref q_t), (1, .int x1), (2, .int x2)] := hl
  refine lv_iconst (v := 0) hx hb dX7_mostByOneLook_0 (by decide) ?_
  refine lv_istore_n (lv' := [(3, .int 0), (0, .ref q_t), (1, .int x1), (2, .int x2)]) hx hb dX7_mostByOneLook_1 rfl hl (by decide) rfl (fun ls hl => ?_)
  refine wX7_mostByOneLook_2 C hK hP ?_ FU 0 ls h (lv_sub hl [1, 2, 3, 0] rfl)
  · intro i11 ls h hl
    refine lv_aload_n hx hb dX7_mostByOneLook_43 rfl (lv_at hl 0 rfl) ?_
    refine va_get (D := D) (v := .ref (Q_t 15)) (C := RX7) (T := TX7) (N := 18) hx hb hts iX7 hown hK.1 hP 0 rfl rfl 15 (by decide) (hts _ t_78) (fun _ h9 => h9) rfl dX7_mostByOneLook_44 ?_
    refine lv_iload hx hb dX7_mostByOneLook_47 (lv_at hl 1 rfl) ?_
    obtain ⟨r13, hc12, h⟩ := bd_some h
    refine cRi (runN (As := [.ref (Q_t 15), .int i11]) (rest := []) C hK (mX8_at l D a hc12) lk_N_7_78 okN_X8_at ⟨Nat.le_of_ble_eq_true rfl, Nat.le_of_ble_eq_true rfl⟩ ⟨rfl, rfl⟩ (preR hK (P_of_map (wc := ra0 a (Q_t 15) 10 (gT z_t 15)) hP [11] rfl)) hl.1 rfl (Nat.le_of_ble_eq_true rfl) dX7_mostByOneLook_49 ⟨Nat.le_of_ble_eq_true rfl, Nat.le_of_ble_eq_true rfl⟩) ?_
    exact rRi C rfl (Option.some.inj h) dX7_mostByOneLook_52

def lX1_mostEarned_106 (rec : Sx → Sx → Int32 → Int32 → Int32 → Option (Int64 × Sx)) (k139 : Sx → Int64 → Option (Int64 × Sx)) (z_p1 : Sx) (x2 : Int32) (x3 : Int32) (x5 : Int32) (x6 : Int64) (x8 : Int32) : Nat → Sx → Int64 → Int32 → Option (Int64 × Sx)
  | 0, _, _, _ => none
  | n + 1, z_t, x9, x11 => if (gI z_p1 3) ≤ x11 then k139 z_t x9 else bd2 (fX1_earnedBy rec z_t z_p1 x11 x2 x3 x5) (fun r8 z9 => lX1_mostEarned_106 rec k139 z_p1 x2 x3 x5 x6 x8 n z9 (mxL x9 r8) (x11 + 1))
def gX1_mostEarned (rec : Sx → Sx → Int32 → Int32 → Int32 → Option (Int64 × Sx)) (z_t : Sx) (z_p1 : Sx) (x2 : Int32) (x3 : Int32) (x4 : Int32) : Option (Int64 × Sx) := if 1 < x2 then nm (((((((gI z_p1 0).toInt64) * 8) + x2.toInt64) <<< (Int32.toInt64 19 &&& 63)) ||| ((x3 <<< (9 &&& 31)).toInt64)) ||| ((mnI x4 (x2 * (gI z_p1 17))).toInt64) : Int64) (fun v2 => nm (((((v2 * (-7046029254386353131)).toUInt64 >>> ((Int32.toInt64 53).toUInt64 &&& Int64.toUInt64 63)).toInt64).toInt32) &&& 2047 : Int32) (fun v3 => gd (inb v3 2048) (if (gJ z_t 0 v3.toNatClampNeg) = v2 then some (gJ z_t 1 v3.toNatClampNeg, z_t) else lX1_mostEarned_106 rec (fun (z10 : Sx) (i11 : Int64) => some (i11, sJ (sJ z10 0 v3.toNatClampNeg v2) 1 v3.toNatClampNeg i11)) z_p1 x2 x3 (mnI x4 (x2 * (gI z_p1 17))) v2 v3 FU z_t 0 0))) else if x2 = 1 then bd (fX7_mostByOneLook z_p1 x3 x4) (fun r14 => some (r14.toInt64, z_t)) else some (0, z_t)
def fX1_mostEarned : Nat → Sx → Sx → Int32 → Int32 → Int32 → Option (Int64 × Sx)
  | 0 => fun _ _ _ _ _ => none
  | dp + 1 => gX1_mostEarned (fX1_mostEarned dp)

set_option maxHeartbeats 4000000 in
set_option maxRecDepth 100000 in
theorem wX1_mostEarned_106 {p : Program} {l : Launch} {e : Env} {s : State} {m : MethodId} {below : List Frame} {meth : Method} {c : Code} {D : va_G} {a : Nat → ClassId} {A : Nat → Prop} {q_t : Nat} {q_p1 : Nat} {Q_t : Nat → Nat} {Q_p1 : Nat → Nat} {z_p1 : Sx} {x20 : Int32} {x30 : Int32} {x40 : Int32} {x2 : Int32} {x3 : Int32} {x5 : Int32} {x6 : Int64} {x8 : Int32} (C : Cx p s m #[.ref q_t, .ref q_p1, .int x20, .int x30, .int x40] meth c MX1_mostEarned) (hK : KK D a s) (hA : ∀ q, s.heap.size ≤ q → A q) {F LO : Nat} {rec : Sx → Sx → Int32 → Int32 → Int32 → Option (Int64 × Sx)} (hrec : ∀ {q_t : Nat} {q_p1 : Nat} {Q_t : Nat → Nat} {z_t : Sx} {Q_p1 : Nat → Nat} {z_p1 : Sx} {x2 : Int32} {x3 : Int32} {x4 : Int32} {y9 : Int64 × Sx}, rec z_t z_p1 x2 x3 x4 = some y9 → ∀ (sz : Nat), CMl (S := Unit) l MX1_mostEarned F LO 0 0 D a [.ref q_t, .ref q_p1, .int x2, .int x3, .int x4] (rc1 a q_t Q_t z_t ++ (rc7 a q_p1 Q_p1 z_p1)) sz (fun r _ => r = y9.1) (fun _ => rc1 a q_t Q_t y9.2 ++ (rc7 a q_p1 Q_p1 z_p1))) (hF : 2 ≤ F) (hL : 47 ≤ LO) {y : Int64 × Sx} {k139 : Sx → Int64 → Option (Int64 × Sx)} (hk139 : ∀ (z_tk : Sx) (x9k : Int64) (H : Heap) (locs : List Loc) (ls : Array Slot), k139 z_tk x9k = some y → va_P D classes (rc1 a q_t Q_t z_tk ++ (rc7 a q_p1 Q_p1 z_p1)) H → va_D A (rc1 a q_t Q_t z_tk ++ (rc7 a q_p1 Q_p1 z_p1)) → va_S A s.heap H locs → lv_has ls 12 [(0, .ref q_t), (6, .long x6), (8, .int x8), (9, .long x9k)] → W p l e (rmM (F + 2) 0 0 (LO + 62)) s m #[.ref q_t, .ref q_p1, .int x20, .int x30, .int x40] below meth c H locs 0 0 (MQ below (va_Ql (fun r (_ : Unit) => r = y.1) (Bw D A (fun _ => rc1 a q_t Q_t y.2 ++ (rc7 a q_p1 Q_p1 z_p1))) A) #[.ref q_t, .ref q_p1, .int x20, .int x30, .int x40] s 0 0 A) (F0 m 139 ls [])) : ∀ (n : Nat) (z_t : Sx) (x9 : Int64) (x11 : Int32) (H : Heap) (locs : List Loc) (ls : Array Slot), lX1_mostEarned_106 rec k139 z_p1 x2 x3 x5 x6 x8 n z_t x9 x11 = some y → va_P D classes (rc1 a q_t Q_t z_t ++ (rc7 a q_p1 Q_p1 z_p1)) H → va_D A (rc1 a q_t Q_t z_t ++ (rc7 a q_p1 Q_p1 z_p1)) → va_S A s.heap H locs → lv_has ls 12 [(0, .ref q_t), (1, .ref q_p1), (2, .int x2), (3, .int x3), (5, .int x5), (6, .long x6), (8, .int x8), (9, .long x9), (11, .int x11)] → W p l e (rmM (F + 2) 0 0 (LO + 62)) s m #[.ref q_t, .ref q_p1, .int x20, .int x30, .int x40] below meth c H locs 0 0 (MQ below (va_Ql (fun r (_ : Unit) => r = y.1) (Bw D A (fun _ => rc1 a q_t Q_t y.2 ++ (rc7 a q_p1 Q_p1 z_p1))) A) #[.ref q_t, .ref q_p1, .int x20, .int x30, .int x40] s 0 0 A) (F0 m 106 ls []) := by
  obtain ⟨hx, hb, hml, hown, hts, hr, hlocks, hnm⟩ := id C
  have hb : c.code = cX1_mostEarned := hb
  have hown : s.vm.findClass RX1 = some m.cls := hown
  intro n
  induction n with
  | zero => intro z_t x9 x11 H locs ls h; rw [lX1_mostEarned_106] at h; cases h
  | succ n ih =>
    intro z_t x9 x11 H locs ls h hP hD hS hl
    rw [lX1_mostEarned_106] at h
    refine lv_iload hx hb dX1_mostEarned_106 (lv_at hl 8 rfl) ?_
    refine lv_aload_n hx hb dX1_mostEarned_108 rfl (lv_at hl 1 rfl) ?_
    refine va_get (D := D) (v := .int (gI z_p1 3)) (C := RX7) (T := TX7) (N := 18) hx hb hts iX7 hown hK.1 hP 3 rfl rfl 3 (by decide) (hts _ t_45) (fun _ h9 => h9) rfl dX1_mostEarned_109 ?_
    refine lv_icmp_ge (tgt := 139) hx hb dX1_mostEarned_112 (by decide) (fun c6 => ?_) (fun c6 => ?_)
    · have h := ite_t c6 h
      exact hk139 z_t x9 _ _ ls h hP hD hS (lv_sub hl [0, 5, 6, 7] rfl)
    · have h := ite_f c6 h
      refine lv_lload hx hb dX1_mostEarned_115 (lv_at hl 7 rfl) ?_
      refine lv_aload_n hx hb dX1_mostEarned_117 rfl (lv_at hl 0 rfl) ?_
      refine lv_aload_n hx hb dX1_mostEarned_118 rfl (lv_at hl 1 rfl) ?_
      refine lv_iload hx hb dX1_mostEarned_119 (lv_at hl 8 rfl) ?_
      refine lv_iload_n hx hb dX1_mostEarned_121 rfl (lv_at hl 2 rfl) ?_
      refine lv_iload_n hx hb dX1_mostEarned_122 rfl (lv_at hl 3 rfl) ?_
      refine lv_iload hx hb dX1_mostEarned_123 (lv_at hl 4 rfl) ?_
      obtain ⟨r8, z9, hc7, h⟩ := bd2_some h
      refine cWl (runV (As := [.ref q_p1, .int x11, .int x2, .int x3, .int x5]) (rest := [.long x9]) C (mX1_earnedBy l D a hrec (Nat.le_trans (by decide) hF) (Nat.le_trans (by decide) hL) hc7 H.size) lk_V_1_43 okN_X1_earnedBy (by constructor; (show F + 1 + 1 ≤ F + 2; omega); (show 8 + (12 + 11) + (LO + 31) ≤ LO + 62; omega)) ⟨rfl, rfl⟩ (preV (preM hK hP hD) (recvOf hK hP 0 rfl (ci := 1) rfl)) hl.1 rfl (Nat.le_of_ble_eq_true rfl) dX1_mostEarned_125 ⟨Nat.le_of_ble_eq_true rfl, Nat.le_of_ble_eq_true rfl⟩) hP hD hS hA (fun H locs hP hD hS => ?_)
      have hP : va_P D classes (rc1 a q_t Q_t z9 ++ (rc7 a q_p1 Q_p1 z_p1)) H := hP
      have hD : va_D A (rc1 a q_t Q_t z9 ++ (rc7 a q_p1 Q_p1 z_p1)) := hD
      refine va_mmax_long hx hb (by rw [hml]; exact hl.1.symm) hown (hts _ t_801) (hts _ t_802) (hts _ t_14) (hts _ t_803) (by show 1 ≤ F + 2; omega) (Nat.le_trans (Nat.le_of_ble_eq_true (m := 30) rfl) (by show 30 ≤ LO + 62; omega)) (Nat.le_of_ble_eq_true rfl) (Nat.le_of_ble_eq_true rfl) dX1_mostEarned_128 ?_
      refine lv_lstore (lv' := [(9, .long (mxL x9 r8)), (0, .ref q_t), (1, .ref q_p1), (2, .int x2), (3, .int x3), (5, .int x5), (6, .long x6), (8, .int x8), (11, .int x11)]) hx hb dX1_mostEarned_131 hl (by decide) rfl (fun ls hl => ?_)
      refine lv_iinc (v := x11 + 1) (lv' := [(11, .int (x11 + 1)), (9, .long (mxL x9 r8)), (0, .ref q_t), (1, .ref q_p1), (2, .int x2), (3, .int x3), (5, .int x5), (6, .long x6), (8, .int x8)]) hx hb dX1_mostEarned_133 hl (k := 8) rfl rfl (by decide) rfl (fun ls hl => ?_)
      refine lv_goto (tgt := 106) hx hb dX1_mostEarned_136 (by decide) ?_
      exact ih z9 (mxL x9 r8) (x11 + 1) _ _ ls h hP hD hS (lv_sub hl [2, 3, 4, 5, 6, 7, 8, 1, 0] rfl)

set_option maxHeartbeats 4000000 in
set_option maxRecDepth 100000 in
theorem gmX1_mostEarned (l : Launch) (D : va_G) (a : Nat → ClassId) {F LO : Nat} {rec : Sx → Sx → Int32 → Int32 → Int32 → Option (Int64 × Sx)} (hrec : ∀ {q_t : Nat} {q_p1 : Nat} {Q_t : Nat → Nat} {z_t : Sx} {Q_p1 : Nat → Nat} {z_p1 : Sx} {x2 : Int32} {x3 : Int32} {x4 : Int32} {y9 : Int64 × Sx}, rec z_t z_p1 x2 x3 x4 = some y9 → ∀ (sz : Nat), CMl (S := Unit) l MX1_mostEarned F LO 0 0 D a [.ref q_t, .ref q_p1, .int x2, .int x3, .int x4] (rc1 a q_t Q_t z_t ++ (rc7 a q_p1 Q_p1 z_p1)) sz (fun r _ => r = y9.1) (fun _ => rc1 a q_t Q_t y9.2 ++ (rc7 a q_p1 Q_p1 z_p1))) (hF : 2 ≤ F) (hL : 47 ≤ LO) {q_t : Nat} {q_p1 : Nat} {Q_t : Nat → Nat} {z_t : Sx} {Q_p1 : Nat → Nat} {z_p1 : Sx} {x2 : Int32} {x3 : Int32} {x4 : Int32} {y : Int64 × Sx} (h : gX1_mostEarned rec z_t z_p1 x2 x3 x4 = some y) (sz : Nat) : CMl (S := Unit) l MX1_mostEarned (F + 2) (LO + 62) 0 0 D a [.ref q_t, .ref q_p1, .int x2, .int x3, .int x4] (rc1 a q_t Q_t z_t ++ (rc7 a q_p1 Q_p1 z_p1)) sz (fun r _ => r = y.1) (fun _ => rc1 a q_t Q_t y.2 ++ (rc7 a q_p1 Q_p1 z_p1)) := by
  unfold gX1_mostEarned at h
  refine entMl (by decide) (Nat.le_of_ble_eq_true rfl) ?_
  intro p e s m below meth c C hK A hA hP hD ls hl
  obtain ⟨hx, hb, hml, hown, hts, hr, hlocks, hnm⟩ := id C
  have hb : c.code = cX1_mostEarned := hb
  have hown : s.vm.findClass RX1 = some m.cls := hown
  have hS : va_S A s.heap s.heap [] := va_S.rf
  have hl : lv_has ls 12 [(0, .ref q_t), (1, .ref q_p1), (2, .int x2), (3, .int x3), (4, .int x4)] := hl
  refine lv_iload_n hx hb dX1_mostEarned_0 rfl (lv_at hl 2 rfl) ?_
  refine lv_iconst (v := 1) hx hb dX1_mostEarned_1 (by decide) ?_
  refine lv_icmp_gt (tgt := 23) hx hb dX1_mostEarned_2 (by decide) (fun c1 => ?_) (fun c1 => ?_)
  · have h := ite_t c1 h
    refine lv_iload hx hb dX1_mostEarned_23 (lv_at hl 4 rfl) ?_
    refine lv_iload_n hx hb dX1_mostEarned_25 rfl (lv_at hl 2 rfl) ?_
    refine lv_aload_n hx hb dX1_mostEarned_26 rfl (lv_at hl 1 rfl) ?_
    refine va_get (D := D) (v := .int (gI z_p1 17)) (C := RX7) (T := TX7) (N := 18) hx hb hts iX7 hown hK.1 hP 3 rfl rfl 17 (by decide) (hts _ t_80) (fun _ h9 => h9) rfl dX1_mostEarned_27 ?_
    refine lv_imul hx hb dX1_mostEarned_30 ?_
    refine va_mmin hx hb (by rw [hml]; exact hl.1.symm) hown (hts _ t_789) (hts _ t_556) (hts _ t_14) (hts _ t_557) (by show 1 ≤ F + 2; omega) (Nat.le_trans (Nat.le_of_ble_eq_true (m := 30) rfl) (by show 30 ≤ LO + 62; omega)) (Nat.le_of_ble_eq_true rfl) (Nat.le_of_ble_eq_true rfl) dX1_mostEarned_31 ?_
    refine lv_istore (lv' := [(5, .int (mnI x4 (x2 * (gI z_p1 17)))), (0, .ref q_t), (1, .ref q_p1), (2, .int x2), (3, .int x3), (4, .int x4)]) hx hb dX1_mostEarned_34 hl (by decide) rfl (fun ls hl => ?_)
    refine lv_aload_n hx hb dX1_mostEarned_36 rfl (lv_at hl 2 rfl) ?_
    refine va_get (D := D) (v := .int (gI z_p1 0)) (C := RX7) (T := TX7) (N := 18) hx hb hts iX7 hown hK.1 hP 3 rfl rfl 0 (by decide) (hts _ t_38) (fun _ h9 => h9) rfl dX1_mostEarned_37 ?_
    refine lv_i2l (v := (gI z_p1 0).toInt64) hx hb dX1_mostEarned_40 rfl ?_
    refine lv_ldc2 hx hb hown (hts _ t_790) dX1_mostEarned_41 ?_
    refine lv_lmul hx hb dX1_mostEarned_44 ?_
    refine lv_iload_n hx hb dX1_mostEarned_45 rfl (lv_at hl 3 rfl) ?_
    refine lv_i2l (v := x2.toInt64) hx hb dX1_mostEarned_46 rfl ?_
    refine lv_ladd hx hb dX1_mostEarned_47 ?_
    refine lv_bipush (v := 19) hx hb dX1_mostEarned_48 (by decide) ?_
    refine lv_lshl (v := ((((gI z_p1 0).toInt64) * 8) + x2.toInt64) <<< (Int32.toInt64 19 &&& 63)) hx hb dX1_mostEarned_50 rfl ?_
    refine lv_iload_n hx hb dX1_mostEarned_51 rfl (lv_at hl 4 rfl) ?_
    refine lv_bipush (v := 9) hx hb dX1_mostEarned_52 (by decide) ?_
    refine lv_ishl hx hb dX1_mostEarned_54 ?_
    refine lv_i2l (v := (x3 <<< (9 &&& 31)).toInt64) hx hb dX1_mostEarned_55 rfl ?_
    refine lv_lor hx hb dX1_mostEarned_56 ?_
    refine lv_iload hx hb dX1_mostEarned_57 (lv_at hl 0 rfl) ?_
    refine lv_i2l (v := (mnI x4 (x2 * (gI z_p1 17))).toInt64) hx hb dX1_mostEarned_59 rfl ?_
    refine lv_lor hx hb dX1_mostEarned_60 ?_
    refine lv_topl (fun v2 ev2 => ?_)
    have h := nm_some h v2 ev2
    refine lv_lstore (lv' := [(6, .long v2), (5, .int (mnI x4 (x2 * (gI z_p1 17)))), (0, .ref q_t), (1, .ref q_p1), (2, .int x2), (3, .int x3), (4, .int x4)]) hx hb dX1_mostEarned_61 hl (by decide) rfl (fun ls hl => ?_)
    refine lv_lload hx hb dX1_mostEarned_63 (lv_at hl 0 rfl) ?_
    refine lv_ldc2 hx hb hown (hts _ t_791) dX1_mostEarned_65 ?_
    refine lv_lmul hx hb dX1_mostEarned_68 ?_
    refine lv_bipush (v := 53) hx hb dX1_mostEarned_69 (by decide) ?_
    refine lv_lushr (v := ((v2 * (-7046029254386353131)).toUInt64 >>> ((Int32.toInt64 53).toUInt64 &&& Int64.toUInt64 63)).toInt64) hx hb dX1_mostEarned_71 rfl ?_
    refine lv_l2i (v := (((v2 * (-7046029254386353131)).toUInt64 >>> ((Int32.toInt64 53).toUInt64 &&& Int64.toUInt64 63)).toInt64).toInt32) hx hb dX1_mostEarned_72 rfl ?_
    refine lv_sipush (v := 2047) hx hb dX1_mostEarned_73 (by decide) ?_
    refine lv_iand hx hb dX1_mostEarned_76 ?_
    refine lv_topi (fun v3 ev3 => ?_)
    have h := nm_some h v3 ev3
    refine lv_istore (lv' := [(8, .int v3), (6, .long v2), (5, .int (mnI x4 (x2 * (gI z_p1 17)))), (0, .ref q_t), (1, .ref q_p1), (2, .int x2), (3, .int x3), (4, .int x4)]) hx hb dX1_mostEarned_77 hl (by decide) rfl (fun ls hl => ?_)
    refine lv_aload_n hx hb dX1_mostEarned_79 rfl (lv_at hl 3 rfl) ?_
    refine va_get (D := D) (v := .ref (Q_t 0)) (C := RX1) (T := TX1) (N := 4) hx hb hts iX1 hown hK.1 hP 0 rfl rfl 0 (by decide) (hts _ t_285) (fun _ h9 => h9) rfl dX1_mostEarned_80 ?_
    refine lv_iload hx hb dX1_mostEarned_83 (lv_at hl 0 rfl) ?_
    obtain ⟨g4, h⟩ := gd_some h
    refine ald_l hx hb hK.1 hP 1 1 rfl rfl v3.toNatClampNeg (ix_g g4) dX1_mostEarned_85 ?_
    refine lv_lload hx hb dX1_mostEarned_86 (lv_at hl 1 rfl) ?_
    refine W.lcmp hx hb dX1_mostEarned_88 ?_
    refine lv_if_ne (tgt := 100) hx hb dX1_mostEarned_89 (by decide) (fun c5 => ?_) (fun c5 => ?_)
    · have h := ite_f (fun q => c5 ((lg_cmp_eq _ _).mpr q)) h
      refine lv_lconst (v := 0) hx hb dX1_mostEarned_100 (by decide) ?_
      refine lv_lstore (lv' := [(9, .long 0), (8, .int v3), (6, .long v2), (5, .int (mnI x4 (x2 * (gI z_p1 17)))), (0, .ref q_t), (1, .ref q_p1), (2, .int x2), (3, .int x3), (4, .int x4)]) hx hb dX1_mostEarned_101 hl (by decide) rfl (fun ls hl => ?_)
      refine lv_iconst (v := 0) hx hb dX1_mostEarned_103 (by decide) ?_
      refine lv_istore (lv' := [(11, .int 0), (9, .long 0), (8, .int v3), (6, .long v2), (5, .int (mnI x4 (x2 * (gI z_p1 17)))), (0, .ref q_t), (1, .ref q_p1), (2, .int x2), (3, .int x3), (4, .int x4)]) hx hb dX1_mostEarned_104 hl (by decide) rfl (fun ls hl => ?_)
      refine wX1_mostEarned_106 C hK hA hrec hF hL ?_ FU z_t 0 0 _ _ ls h hP hD hS (lv_sub hl [5, 6, 7, 8, 4, 3, 2, 1, 0] rfl)
      · intro z10 i11 H locs ls h hP hD hS hl
        refine lv_aload_n hx hb dX1_mostEarned_139 rfl (lv_at hl 0 rfl) ?_
        refine va_get (D := D) (v := .ref (Q_t 0)) (C := RX1) (T := TX1) (N := 4) hx hb hts iX1 hown hK.1 hP 0 rfl rfl 0 (by decide) (hts _ t_285) (fun _ h9 => h9) rfl dX1_mostEarned_140 ?_
        refine lv_iload hx hb dX1_mostEarned_143 (lv_at hl 2 rfl) ?_
        refine lv_lload hx hb dX1_mostEarned_145 (lv_at hl 1 rfl) ?_
        refine ast_l hx hb hK.1 hP hD hS 1 1 rfl rfl v3.toNatClampNeg (ix_g g4) dX1_mostEarned_147 (fun H locs hP hD hS => ?_)
        have hP : va_P D classes (rc1 a q_t Q_t (sJ z10 0 v3.toNatClampNeg v2) ++ (rc7 a q_p1 Q_p1 z_p1)) H := hP
        have hD : va_D A (rc1 a q_t Q_t (sJ z10 0 v3.toNatClampNeg v2) ++ (rc7 a q_p1 Q_p1 z_p1)) := hD
        refine lv_aload_n hx hb dX1_mostEarned_148 rfl (lv_at hl 0 rfl) ?_
        refine va_get (D := D) (v := .ref (Q_t 1)) (C := RX1) (T := TX1) (N := 4) hx hb hts iX1 hown hK.1 hP 0 rfl rfl 1 (by decide) (hts _ t_286) (fun _ h9 => h9) rfl dX1_mostEarned_149 ?_
        refine lv_iload hx hb dX1_mostEarned_152 (lv_at hl 2 rfl) ?_
        refine lv_lload hx hb dX1_mostEarned_154 (lv_at hl 3 rfl) ?_
        refine ast_l hx hb hK.1 hP hD hS 2 1 rfl rfl v3.toNatClampNeg (ix_g g4) dX1_mostEarned_156 (fun H locs hP hD hS => ?_)
        have hP : va_P D classes (rc1 a q_t Q_t (sJ (sJ z10 0 v3.toNatClampNeg v2) 1 v3.toNatClampNeg i11) ++ (rc7 a q_p1 Q_p1 z_p1)) H := hP
        have hD : va_D A (rc1 a q_t Q_t (sJ (sJ z10 0 v3.toNatClampNeg v2) 1 v3.toNatClampNeg i11) ++ (rc7 a q_p1 Q_p1 z_p1)) := hD
        refine lv_lload hx hb dX1_mostEarned_157 (lv_at hl 3 rfl) ?_
        exact rMl C rfl h (g := fun y => rc1 a q_t Q_t y.2 ++ (rc7 a q_p1 Q_p1 z_p1)) (pr := fun y => y.1) hP hD hS dX1_mostEarned_159
    · have h := ite_t ((lg_cmp_eq _ _).mp c5) h
      refine lv_aload_n hx hb dX1_mostEarned_92 rfl (lv_at hl 3 rfl) ?_
      refine va_get (D := D) (v := .ref (Q_t 1)) (C := RX1) (T := TX1) (N := 4) hx hb hts iX1 hown hK.1 hP 0 rfl rfl 1 (by decide) (hts _ t_286) (fun _ h9 => h9) rfl dX1_mostEarned_93 ?_
      refine lv_iload hx hb dX1_mostEarned_96 (lv_at hl 0 rfl) ?_
      refine ald_l hx hb hK.1 hP 2 1 rfl rfl v3.toNatClampNeg (ix_g g4) dX1_mostEarned_98 ?_
      exact rMl C rfl h (g := fun y => rc1 a q_t Q_t y.2 ++ (rc7 a q_p1 Q_p1 z_p1)) (pr := fun y => y.1) hP hD hS dX1_mostEarned_99
  · have h := ite_f c1 h
    refine lv_iload_n hx hb dX1_mostEarned_5 rfl (lv_at hl 2 rfl) ?_
    refine lv_iconst (v := 1) hx hb dX1_mostEarned_6 (by decide) ?_
    refine lv_icmp_ne (tgt := 21) hx hb dX1_mostEarned_7 (by decide) (fun c12 => ?_) (fun c12 => ?_)
    · have h := ite_f c12 h
      refine lv_lconst (v := 0) hx hb dX1_mostEarned_21 (by decide) ?_
      exact rMl C rfl h (g := fun y => rc1 a q_t Q_t y.2 ++ (rc7 a q_p1 Q_p1 z_p1)) (pr := fun y => y.1) hP hD hS dX1_mostEarned_22
    · have h := ite_t c12 h
      refine lv_aload_n hx hb dX1_mostEarned_10 rfl (lv_at hl 1 rfl) ?_
      refine lv_iload_n hx hb dX1_mostEarned_11 rfl (lv_at hl 3 rfl) ?_
      refine lv_iload hx hb dX1_mostEarned_12 (lv_at hl 4 rfl) ?_
      obtain ⟨r14, hc13, h⟩ := bd_some h
      refine cRi (runV (As := [.int x3, .int x4]) (rest := []) C (mX7_mostByOneLook l D a hc13) lk_V_1_18 okN_X7_mostByOneLook (by constructor; (show 1 + 1 ≤ F + 2; omega); (show 8 + (5 + 11) + (23) ≤ LO + 62; omega)) ⟨rfl, rfl⟩ (preV (preR hK (P_of_map (wc := rc7 a q_p1 Q_p1 z_p1) hP [3, 4, 5, 6, 7, 8, 9, 10, 11, 12, 13, 14, 15] rfl)) (recvOf hK hP 3 rfl (ci := 7) rfl)) hl.1 rfl (Nat.le_of_ble_eq_true rfl) dX1_mostEarned_14 ⟨Nat.le_of_ble_eq_true rfl, Nat.le_of_ble_eq_true rfl⟩) ?_
      refine lv_i2l (v := r14.toInt64) hx hb dX1_mostEarned_17 rfl ?_
      refine lv_goto (tgt := 22) hx hb dX1_mostEarned_18 (by decide) ?_
      exact rMl C rfl h (g := fun y => rc1 a q_t Q_t y.2 ++ (rc7 a q_p1 Q_p1 z_p1)) (pr := fun y => y.1) hP hD hS dX1_mostEarned_22

set_option maxHeartbeats 4000000 in
theorem mX1_mostEarned (l : Launch) (D : va_G) (a : Nat → ClassId) : ∀ (dp : Nat) {q_t : Nat} {q_p1 : Nat} {Q_t : Nat → Nat} {z_t : Sx} {Q_p1 : Nat → Nat} {z_p1 : Sx} {x2 : Int32} {x3 : Int32} {x4 : Int32} {y : Int64 × Sx}, fX1_mostEarned dp z_t z_p1 x2 x3 x4 = some y → ∀ (sz : Nat), CMl (S := Unit) l MX1_mostEarned (2 + 2 * dp) (47 + 62 * dp) 0 0 D a [.ref q_t, .ref q_p1, .int x2, .int x3, .int x4] (rc1 a q_t Q_t z_t ++ (rc7 a q_p1 Q_p1 z_p1)) sz (fun r _ => r = y.1) (fun _ => rc1 a q_t Q_t y.2 ++ (rc7 a q_p1 Q_p1 z_p1)) := by
  intro dp
  induction dp with
  | zero => intros; rename_i h _; cases h
  | succ dp ih =>
    intros
    rename_i h sz
    have e1 : 2 + 2 * (dp + 1) = 2 + 2 * dp + 2 := by omega
    have e2 : 47 + 62 * (dp + 1) = 47 + 62 * dp + 62 := by omega
    rw [e1, e2]
    exact gmX1_mostEarned l D a ih (by omega) (by omega) h sz

def fX6_step (z_t : Sx) : Option (Sx) := if (gI z_t 4) < 0 then some z_t else if (gI z_t 3) ≤ (gI z_t 4) then some z_t else if 401 ≤ (gI z_t 4) then some z_t else gd (inb (gI z_t 4) 401) (nm (gT (sI z_t 5 (gT z_t 0 ((gI z_t 4).toNatClampNeg))) 1 ((gI z_t 4).toNatClampNeg) : Int32) (fun v5 => nm (gT (sI (sI z_t 5 (gT z_t 0 ((gI z_t 4).toNatClampNeg))) 6 v5) 2 ((gI z_t 4).toNatClampNeg) : Int32) (fun v6 => some (sI (sI (sI (sI z_t 5 (gT z_t 0 ((gI z_t 4).toNatClampNeg))) 6 v5) 7 v6) 4 ((gI z_t 4) + 1)))))

set_option maxHeartbeats 4000000 in
set_option maxRecDepth 100000 in
theorem mX6_step (l : Launch) (D : va_G) (a : Nat → ClassId) {q_t : Nat} {Q_t : Nat → Nat} {z_t : Sx} {y : Sx} (h : fX6_step z_t = some y) (sz : Nat) : CMv (S := Unit) l MX6_step 0 0 0 0 D a [.ref q_t] (rc6 a q_t Q_t z_t) sz (fun _ => True) (fun _ => rc6 a q_t Q_t y) := by
  unfold fX6_step at h
  refine entMv (by decide) (Nat.le_of_ble_eq_true rfl) ?_
  intro p e s m below meth c C hK A hA hP hD ls hl
  obtain ⟨hx, hb, hml, hown, hts, hr, hlocks, hnm⟩ := id C
  have hb : c.code = cX6_step := hb
  have hown : s.vm.findClass RX6 = some m.cls := hown
  have hS : va_S A s.heap s.heap [] := va_S.rf
  have hl : lv_has ls 1 [(0, .ref q_t)] := hl
  refine lv_aload_n hx hb dX6_step_0 rfl (lv_at hl 0 rfl) ?_
  refine va_get (D := D) (v := .int (gI z_t 4)) (C := RX6) (T := TX6) (N := 9) hx hb hts iX6 hown hK.1 hP 0 rfl rfl 4 (by decide) (hts _ t_212) (fun _ h9 => h9) rfl dX6_step_1 ?_
  refine lv_if_lt (tgt := 79) hx hb dX6_step_4 (by decide) (fun c1 => ?_) (fun c1 => ?_)
  · have h := ite_t c1 h
    exact rMv C rfl h (g := fun y => rc6 a q_t Q_t y) hP hD hS dX6_step_79
  · have h := ite_f c1 h
    refine lv_aload_n hx hb dX6_step_7 rfl (lv_at hl 0 rfl) ?_
    refine va_get (D := D) (v := .int (gI z_t 4)) (C := RX6) (T := TX6) (N := 9) hx hb hts iX6 hown hK.1 hP 0 rfl rfl 4 (by decide) (hts _ t_212) (fun _ h9 => h9) rfl dX6_step_8 ?_
    refine lv_aload_n hx hb dX6_step_11 rfl (lv_at hl 0 rfl) ?_
    refine va_get (D := D) (v := .int (gI z_t 3)) (C := RX6) (T := TX6) (N := 9) hx hb hts iX6 hown hK.1 hP 0 rfl rfl 3 (by decide) (hts _ t_211) (fun _ h9 => h9) rfl dX6_step_12 ?_
    refine lv_icmp_ge (tgt := 79) hx hb dX6_step_15 (by decide) (fun c2 => ?_) (fun c2 => ?_)
    · have h := ite_t c2 h
      exact rMv C rfl h (g := fun y => rc6 a q_t Q_t y) hP hD hS dX6_step_79
    · have h := ite_f c2 h
      refine lv_aload_n hx hb dX6_step_18 rfl (lv_at hl 0 rfl) ?_
      refine va_get (D := D) (v := .int (gI z_t 4)) (C := RX6) (T := TX6) (N := 9) hx hb hts iX6 hown hK.1 hP 0 rfl rfl 4 (by decide) (hts _ t_212) (fun _ h9 => h9) rfl dX6_step_19 ?_
      refine lv_aload_n hx hb dX6_step_22 rfl (lv_at hl 0 rfl) ?_
      refine va_get (D := D) (v := .ref (Q_t 0)) (C := RX6) (T := TX6) (N := 9) hx hb hts iX6 hown hK.1 hP 0 rfl rfl 0 (by decide) (hts _ t_208) (fun _ h9 => h9) rfl dX6_step_23 ?_
      refine va_alen (v := 401) hx hb hK.1 hP 1 0 rfl rfl rfl dX6_step_26 ?_
      refine lv_icmp_ge (tgt := 79) hx hb dX6_step_27 (by decide) (fun c3 => ?_) (fun c3 => ?_)
      · have h := ite_t c3 h
        exact rMv C rfl h (g := fun y => rc6 a q_t Q_t y) hP hD hS dX6_step_79
      · have h := ite_f c3 h
        refine lv_aload_n hx hb dX6_step_30 rfl (lv_at hl 0 rfl) ?_
        refine lv_aload_n hx hb dX6_step_31 rfl (lv_at hl 0 rfl) ?_
        refine va_get (D := D) (v := .ref (Q_t 0)) (C := RX6) (T := TX6) (N := 9) hx hb hts iX6 hown hK.1 hP 0 rfl rfl 0 (by decide) (hts _ t_208) (fun _ h9 => h9) rfl dX6_step_32 ?_
        refine lv_aload_n hx hb dX6_step_35 rfl (lv_at hl 0 rfl) ?_
        refine va_get (D := D) (v := .int (gI z_t 4)) (C := RX6) (T := TX6) (N := 9) hx hb hts iX6 hown hK.1 hP 0 rfl rfl 4 (by decide) (hts _ t_212) (fun _ h9 => h9) rfl dX6_step_36 ?_
        obtain ⟨g4, h⟩ := gd_some h
        refine ald_i hx hb hK.1 hP 1 0 rfl rfl ((gI z_t 4).toNatClampNeg) (ix_g g4) dX6_step_39 ?_
        refine va_put (D := D) (v := .int (gT z_t 0 ((gI z_t 4).toNatClampNeg))) (C := RX6) (T := TX6) (N := 9) hx hb hts iX6 tyX6 tyX6_ok nmX6 hown hK.1 hP hD hS 0 rfl rfl 5 (by decide) (hts _ t_215) (fun _ h9 => h9) rfl (tyX6_ok 5 (by decide)) rfl rfl (Nat.le_of_ble_eq_true rfl) dX6_step_40 (fun H locs hP hD hS => ?_)
        have hP : va_P D classes (rc6 a q_t Q_t (sI z_t 5 (gT z_t 0 ((gI z_t 4).toNatClampNeg)))) H := hP
        have hD : va_D A (rc6 a q_t Q_t (sI z_t 5 (gT z_t 0 ((gI z_t 4).toNatClampNeg)))) := hD
        refine lv_aload_n hx hb dX6_step_43 rfl (lv_at hl 0 rfl) ?_
        refine lv_aload_n hx hb dX6_step_44 rfl (lv_at hl 0 rfl) ?_
        refine va_get (D := D) (v := .ref (Q_t 1)) (C := RX6) (T := TX6) (N := 9) hx hb hts iX6 hown hK.1 hP 0 rfl rfl 1 (by decide) (hts _ t_209) (fun _ h9 => h9) rfl dX6_step_45 ?_
        refine lv_aload_n hx hb dX6_step_48 rfl (lv_at hl 0 rfl) ?_
        refine va_get (D := D) (v := .int (gI z_t 4)) (C := RX6) (T := TX6) (N := 9) hx hb hts iX6 hown hK.1 hP 0 rfl rfl 4 (by decide) (hts _ t_212) (fun _ h9 => h9) rfl dX6_step_49 ?_
        refine ald_i hx hb hK.1 hP 2 0 rfl rfl ((gI z_t 4).toNatClampNeg) (ix_g g4) dX6_step_52 ?_
        refine lv_topi (fun v5 ev5 => ?_)
        have h := nm_some h v5 ev5
        refine va_put (D := D) (v := .int v5) (C := RX6) (T := TX6) (N := 9) hx hb hts iX6 tyX6 tyX6_ok nmX6 hown hK.1 hP hD hS 0 rfl rfl 6 (by decide) (hts _ t_216) (fun _ h9 => h9) rfl (tyX6_ok 6 (by decide)) rfl rfl (Nat.le_of_ble_eq_true rfl) dX6_step_53 (fun H locs hP hD hS => ?_)
        have hP : va_P D classes (rc6 a q_t Q_t (sI (sI z_t 5 (gT z_t 0 ((gI z_t 4).toNatClampNeg))) 6 v5)) H := hP
        have hD : va_D A (rc6 a q_t Q_t (sI (sI z_t 5 (gT z_t 0 ((gI z_t 4).toNatClampNeg))) 6 v5)) := hD
        refine lv_aload_n hx hb dX6_step_56 rfl (lv_at hl 0 rfl) ?_
        refine lv_aload_n hx hb dX6_step_57 rfl (lv_at hl 0 rfl) ?_
        refine va_get (D := D) (v := .ref (Q_t 2)) (C := RX6) (T := TX6) (N := 9) hx hb hts iX6 hown hK.1 hP 0 rfl rfl 2 (by decide) (hts _ t_210) (fun _ h9 => h9) rfl dX6_step_58 ?_
        refine lv_aload_n hx hb dX6_step_61 rfl (lv_at hl 0 rfl) ?_
        refine va_get (D := D) (v := .int (gI z_t 4)) (C := RX6) (T := TX6) (N := 9) hx hb hts iX6 hown hK.1 hP 0 rfl rfl 4 (by decide) (hts _ t_212) (fun _ h9 => h9) rfl dX6_step_62 ?_
        refine ald_i hx hb hK.1 hP 3 0 rfl rfl ((gI z_t 4).toNatClampNeg) (ix_g g4) dX6_step_65 ?_
        refine lv_topi (fun v6 ev6 => ?_)
        have h := nm_some h v6 ev6
        refine va_put (D := D) (v := .int v6) (C := RX6) (T := TX6) (N := 9) hx hb hts iX6 tyX6 tyX6_ok nmX6 hown hK.1 hP hD hS 0 rfl rfl 7 (by decide) (hts _ t_218) (fun _ h9 => h9) rfl (tyX6_ok 7 (by decide)) rfl rfl (Nat.le_of_ble_eq_true rfl) dX6_step_66 (fun H locs hP hD hS => ?_)
        have hP : va_P D classes (rc6 a q_t Q_t (sI (sI (sI z_t 5 (gT z_t 0 ((gI z_t 4).toNatClampNeg))) 6 v5) 7 v6)) H := hP
        have hD : va_D A (rc6 a q_t Q_t (sI (sI (sI z_t 5 (gT z_t 0 ((gI z_t 4).toNatClampNeg))) 6 v5) 7 v6)) := hD
        refine lv_aload_n hx hb dX6_step_69 rfl (lv_at hl 0 rfl) ?_
        refine lv_dup hx hb dX6_step_70 rfl ?_
        refine va_get (D := D) (v := .int (gI z_t 4)) (C := RX6) (T := TX6) (N := 9) hx hb hts iX6 hown hK.1 hP 0 rfl rfl 4 (by decide) (hts _ t_212) (fun _ h9 => h9) rfl dX6_step_71 ?_
        refine lv_iconst (v := 1) hx hb dX6_step_74 (by decide) ?_
        refine lv_iadd hx hb dX6_step_75 ?_
        refine va_put (D := D) (v := .int ((gI z_t 4) + 1)) (C := RX6) (T := TX6) (N := 9) hx hb hts iX6 tyX6 tyX6_ok nmX6 hown hK.1 hP hD hS 0 rfl rfl 4 (by decide) (hts _ t_212) (fun _ h9 => h9) rfl (tyX6_ok 4 (by decide)) rfl rfl (Nat.le_of_ble_eq_true rfl) dX6_step_76 (fun H locs hP hD hS => ?_)
        have hP : va_P D classes (rc6 a q_t Q_t (sI (sI (sI (sI z_t 5 (gT z_t 0 ((gI z_t 4).toNatClampNeg))) 6 v5) 7 v6) 4 ((gI z_t 4) + 1))) H := hP
        have hD : va_D A (rc6 a q_t Q_t (sI (sI (sI (sI z_t 5 (gT z_t 0 ((gI z_t 4).toNatClampNeg))) 6 v5) 7 v6) 4 ((gI z_t 4) + 1))) := hD
        exact rMv C rfl h (g := fun y => rc6 a q_t Q_t y) hP hD hS dX6_step_79

def fX4_emit (z_t : Sx) (x1 : Int32) : Option (Sx) := if (gI z_t 2) < 0 then some z_t else if 400 ≤ (gI z_t 2) then some z_t else gd (inb (gI z_t 2) 400) (some (sI (sT z_t 1 ((gI z_t 2).toNatClampNeg) x1) 2 ((gI z_t 2) + 1)))

set_option maxHeartbeats 4000000 in
set_option maxRecDepth 100000 in
theorem mX4_emit (l : Launch) (D : va_G) (a : Nat → ClassId) {q_t : Nat} {Q_t : Nat → Nat} {z_t : Sx} {x1 : Int32} {y : Sx} (h : fX4_emit z_t x1 = some y) (sz : Nat) : CMv (S := Unit) l MX4_emit 0 0 0 0 D a [.ref q_t, .int x1] (rc4 a q_t Q_t z_t) sz (fun _ => True) (fun _ => rc4 a q_t Q_t y) := by
  unfold fX4_emit at h
  refine entMv (by decide) (Nat.le_of_ble_eq_true rfl) ?_
  intro p e s m below meth c C hK A hA hP hD ls hl
  obtain ⟨hx, hb, hml, hown, hts, hr, hlocks, hnm⟩ := id C
  have hb : c.code = cX4_emit := hb
  have hown : s.vm.findClass RX4 = some m.cls := hown
  have hS : va_S A s.heap s.heap [] := va_S.rf
  have hl : lv_has ls 2 [(0, .ref q_t), (1, .int x1)] := hl
  refine lv_aload_n hx hb dX4_emit_0 rfl (lv_at hl 0 rfl) ?_
  refine va_get (D := D) (v := .int (gI z_t 2)) (C := RX4) (T := TX4) (N := 8) hx hb hts iX4 hown hK.1 hP 0 rfl rfl 2 (by decide) (hts _ t_245) (fun _ h9 => h9) rfl dX4_emit_1 ?_
  refine lv_if_lt (tgt := 39) hx hb dX4_emit_4 (by decide) (fun c1 => ?_) (fun c1 => ?_)
  · have h := ite_t c1 h
    exact rMv C rfl h (g := fun y => rc4 a q_t Q_t y) hP hD hS dX4_emit_39
  · have h := ite_f c1 h
    refine lv_aload_n hx hb dX4_emit_7 rfl (lv_at hl 0 rfl) ?_
    refine va_get (D := D) (v := .int (gI z_t 2)) (C := RX4) (T := TX4) (N := 8) hx hb hts iX4 hown hK.1 hP 0 rfl rfl 2 (by decide) (hts _ t_245) (fun _ h9 => h9) rfl dX4_emit_8 ?_
    refine lv_aload_n hx hb dX4_emit_11 rfl (lv_at hl 0 rfl) ?_
    refine va_get (D := D) (v := .ref (Q_t 1)) (C := RX4) (T := TX4) (N := 8) hx hb hts iX4 hown hK.1 hP 0 rfl rfl 1 (by decide) (hts _ t_244) (fun _ h9 => h9) rfl dX4_emit_12 ?_
    refine va_alen (v := 400) hx hb hK.1 hP 1 0 rfl rfl rfl dX4_emit_15 ?_
    refine lv_icmp_ge (tgt := 39) hx hb dX4_emit_16 (by decide) (fun c2 => ?_) (fun c2 => ?_)
    · have h := ite_t c2 h
      exact rMv C rfl h (g := fun y => rc4 a q_t Q_t y) hP hD hS dX4_emit_39
    · have h := ite_f c2 h
      refine lv_aload_n hx hb dX4_emit_19 rfl (lv_at hl 0 rfl) ?_
      refine va_get (D := D) (v := .ref (Q_t 1)) (C := RX4) (T := TX4) (N := 8) hx hb hts iX4 hown hK.1 hP 0 rfl rfl 1 (by decide) (hts _ t_244) (fun _ h9 => h9) rfl dX4_emit_20 ?_
      refine lv_aload_n hx hb dX4_emit_23 rfl (lv_at hl 0 rfl) ?_
      refine va_get (D := D) (v := .int (gI z_t 2)) (C := RX4) (T := TX4) (N := 8) hx hb hts iX4 hown hK.1 hP 0 rfl rfl 2 (by decide) (hts _ t_245) (fun _ h9 => h9) rfl dX4_emit_24 ?_
      refine lv_iload_n hx hb dX4_emit_27 rfl (lv_at hl 1 rfl) ?_
      obtain ⟨g3, h⟩ := gd_some h
      refine ast_i hx hb hK.1 hP hD hS 1 0 rfl rfl ((gI z_t 2).toNatClampNeg) (ix_g g3) dX4_emit_28 (fun H locs hP hD hS => ?_)
      have hP : va_P D classes (rc4 a q_t Q_t (sT z_t 1 ((gI z_t 2).toNatClampNeg) x1)) H := hP
      have hD : va_D A (rc4 a q_t Q_t (sT z_t 1 ((gI z_t 2).toNatClampNeg) x1)) := hD
      refine lv_aload_n hx hb dX4_emit_29 rfl (lv_at hl 0 rfl) ?_
      refine lv_dup hx hb dX4_emit_30 rfl ?_
      refine va_get (D := D) (v := .int (gI z_t 2)) (C := RX4) (T := TX4) (N := 8) hx hb hts iX4 hown hK.1 hP 0 rfl rfl 2 (by decide) (hts _ t_245) (fun _ h9 => h9) rfl dX4_emit_31 ?_
      refine lv_iconst (v := 1) hx hb dX4_emit_34 (by decide) ?_
      refine lv_iadd hx hb dX4_emit_35 ?_
      refine va_put (D := D) (v := .int ((gI z_t 2) + 1)) (C := RX4) (T := TX4) (N := 8) hx hb hts iX4 tyX4 tyX4_ok nmX4 hown hK.1 hP hD hS 0 rfl rfl 2 (by decide) (hts _ t_245) (fun _ h9 => h9) rfl (tyX4_ok 2 (by decide)) rfl rfl (Nat.le_of_ble_eq_true rfl) dX4_emit_36 (fun H locs hP hD hS => ?_)
      have hP : va_P D classes (rc4 a q_t Q_t (sI (sT z_t 1 ((gI z_t 2).toNatClampNeg) x1) 2 ((gI z_t 2) + 1))) H := hP
      have hD : va_D A (rc4 a q_t Q_t (sI (sT z_t 1 ((gI z_t 2).toNatClampNeg) x1) 2 ((gI z_t 2) + 1))) := hD
      exact rMv C rfl h (g := fun y => rc4 a q_t Q_t y) hP hD hS dX4_emit_39

def lX4_readTest_9 (rec : Sx → Sx → Int32 → Option (Sx × Sx)) (k133 : Sx → Sx → Int32 → Option (Sx × Sx)) (x1 : Int32) : Nat → Sx → Sx → Int32 → Int32 → Option (Sx × Sx)
  | 0, _, _, _, _ => none
  | n + 1, z_t, z_t_0, x2, x3 => if 400 ≤ x3 then k133 z_t z_t_0 x2 else if (gI z_t_0 8) = 0 then jn (jn (fun (i8 : Int32) => jn (fun (z10 : Sx) (z11 : Sx) => jn (fun (i13 : Int32) => bd (fX6_step z11) (fun z15 => bd2 (rec z10 z15 x1) (fun z17 z18 => jn (fun (z20 : Sx) (z21 : Sx) => lX4_readTest_9 rec k133 x1 n z20 z21 i13 (x3 + 1)) (fun J19 => if i8 = 0 then bd (fX4_emit z17 (-310)) (fun z24 => J19 z24 z18) else J19 z17 z18)))) (fun J12 => jn (J12 1) (fun J25 => if x2 = 0 then if i8 = 0 then J12 0 else J25 else J25))) (fun J9 => if i8 = 0 then J9 z_t z_t_0 else if x2 = 0 then J9 z_t z_t_0 else bd (fX4_emit z_t (-309)) (fun z31 => J9 z31 z_t_0))) (fun J7 => if (gI z_t_0 5) = 309 then J7 1 else J7 0)) (fun J6 => if (gI z_t_0 5) = 309 then J6 else if (gI z_t_0 5) = 310 then J6 else k133 z_t z_t_0 x2) else k133 z_t z_t_0 x2
def fX4_readTest (rec : Sx → Sx → Int32 → Option (Sx × Sx)) (z_t : Sx) (z_t_0 : Sx) (x1 : Int32) : Option (Sx × Sx) := bd2 (rec z_t z_t_0 x1) (fun z2 z3 => lX4_readTest_9 rec (fun (z35 : Sx) (z36 : Sx) (i37 : Int32) => if i37 = 0 then some (z35, z36) else bd (fX4_emit z35 (-309)) (fun z40 => some (z40, z36))) x1 FU z2 z3 0 0)

set_option maxHeartbeats 4000000 in
set_option maxRecDepth 100000 in
theorem wX4_readTest_9 {p : Program} {l : Launch} {e : Env} {s : State} {m : MethodId} {below : List Frame} {meth : Method} {c : Code} {D : va_G} {a : Nat → ClassId} {A : Nat → Prop} {q_t : Nat} {Q_t : Nat → Nat} {Q_t_0 : Nat → Nat} {x10 : Int32} {x1 : Int32} (C : Cx p s m #[.ref q_t, .int x10] meth c MX4_readTest) (hK : KK D a s) (hA : ∀ q, s.heap.size ≤ q → A q) {F LO : Nat} {rec : Sx → Sx → Int32 → Option (Sx × Sx)} (hrec : ∀ {q_t : Nat} {Q_t : Nat → Nat} {z_t : Sx} {Q_t_0 : Nat → Nat} {z_t_0 : Sx} {x1 : Int32} {y9 : Sx × Sx}, rec z_t z_t_0 x1 = some y9 → ∀ (sz : Nat), CMv (S := Unit) l MX4_readFact F LO 0 0 D a [.ref q_t, .int x1] (rc4 a q_t Q_t z_t ++ (rc6 a (Q_t 0) Q_t_0 z_t_0)) sz (fun _ => True) (fun _ => rc4 a q_t Q_t y9.1 ++ (rc6 a (Q_t 0) Q_t_0 y9.2))) (hF : 1 ≤ F) (hL : 21 ≤ LO) {y : Sx × Sx} {k133 : Sx → Sx → Int32 → Option (Sx × Sx)} (hk133 : ∀ (z_tk : Sx) (z_t_0k : Sx) (x2k : Int32) (H : Heap) (locs : List Loc) (ls : Array Slot), k133 z_tk z_t_0k x2k = some y → va_P D classes (rc4 a q_t Q_t z_tk ++ (rc6 a (Q_t 0) Q_t_0 z_t_0k)) H → va_D A (rc4 a q_t Q_t z_tk ++ (rc6 a (Q_t 0) Q_t_0 z_t_0k)) → va_S A s.heap H locs → lv_has ls 5 [(0, .ref q_t), (2, .int x2k)] → W p l e (rmM (F + 1) 0 0 (LO + 22)) s m #[.ref q_t, .int x10] below meth c H locs 0 0 (MQ below (va_Qv (fun (_ : Unit) => True) (Bw D A (fun _ => rc4 a q_t Q_t y.1 ++ (rc6 a (Q_t 0) Q_t_0 y.2))) A) #[.ref q_t, .int x10] s 0 0 A) (F0 m 133 ls [])) : ∀ (n : Nat) (z_t : Sx) (z_t_0 : Sx) (x2 : Int32) (x3 : Int32) (H : Heap) (locs : List Loc) (ls : Array Slot), lX4_readTest_9 rec k133 x1 n z_t z_t_0 x2 x3 = some y → va_P D classes (rc4 a q_t Q_t z_t ++ (rc6 a (Q_t 0) Q_t_0 z_t_0)) H → va_D A (rc4 a q_t Q_t z_t ++ (rc6 a (Q_t 0) Q_t_0 z_t_0)) → va_S A s.heap H locs → lv_has ls 5 [(0, .ref q_t), (1, .int x1), (2, .int x2), (3, .int x3)] → W p l e (rmM (F + 1) 0 0 (LO + 22)) s m #[.ref q_t, .int x10] below meth c H locs 0 0 (MQ below (va_Qv (fun (_ : Unit) => True) (Bw D A (fun _ => rc4 a q_t Q_t y.1 ++ (rc6 a (Q_t 0) Q_t_0 y.2))) A) #[.ref q_t, .int x10] s 0 0 A) (F0 m 9 ls []) := by
  obtain ⟨hx, hb, hml, hown, hts, hr, hlocks, hnm⟩ := id C
  have hb : c.code = cX4_readTest := hb
  have hown : s.vm.findClass RX4 = some m.cls := hown
  intro n
  induction n with
  | zero => intro z_t z_t_0 x2 x3 H locs ls h; rw [lX4_readTest_9] at h; cases h
  | succ n ih =>
    intro z_t z_t_0 x2 x3 H locs ls h hP hD hS hl
    rw [lX4_readTest_9] at h
    refine lv_iload_n hx hb dX4_readTest_9 rfl (lv_at hl 3 rfl) ?_
    refine lv_sipush (v := 400) hx hb dX4_readTest_10 (by decide) ?_
    refine lv_icmp_ge (tgt := 133) hx hb dX4_readTest_13 (by decide) (fun c4 => ?_) (fun c4 => ?_)
    · have h := ite_t c4 h
      exact hk133 z_t z_t_0 x2 _ _ ls h hP hD hS (lv_sub hl [0, 2] rfl)
    · have h := ite_f c4 h
      refine lv_aload_n hx hb dX4_readTest_16 rfl (lv_at hl 0 rfl) ?_
      refine va_get (D := D) (v := .ref (Q_t 0)) (C := RX4) (T := TX4) (N := 8) hx hb hts iX4 hown hK.1 hP 0 rfl rfl 0 (by decide) (hts _ t_242) (fun _ h9 => h9) rfl dX4_readTest_17 ?_
      refine va_get (D := D) (v := .int (gI z_t_0 8)) (C := RX6) (T := TX6) (N := 9) hx hb hts iX6 hown hK.1 hP 5 rfl rfl 8 (by decide) (hts _ t_220) (fun _ h9 => h9) rfl dX4_readTest_20 ?_
      refine lv_if_ne (tgt := 133) hx hb dX4_readTest_23 (by decide) (fun c5 => ?_) (fun c5 => ?_)
      · have h := ite_f c5 h
        exact hk133 z_t z_t_0 x2 _ _ ls h hP hD hS (lv_sub hl [0, 2] rfl)
      · have h := ite_t c5 h
        refine lv_aload_n hx hb dX4_readTest_26 rfl (lv_at hl 0 rfl) ?_
        refine va_get (D := D) (v := .ref (Q_t 0)) (C := RX4) (T := TX4) (N := 8) hx hb hts iX4 hown hK.1 hP 0 rfl rfl 0 (by decide) (hts _ t_242) (fun _ h9 => h9) rfl dX4_readTest_27 ?_
        refine va_get (D := D) (v := .int (gI z_t_0 5)) (C := RX6) (T := TX6) (N := 9) hx hb hts iX6 hown hK.1 hP 5 rfl rfl 5 (by decide) (hts _ t_214) (fun _ h9 => h9) rfl dX4_readTest_30 ?_
        refine lv_sipush (v := 309) hx hb dX4_readTest_33 (by decide) ?_
        obtain ⟨J6, eJ6, h⟩ := jn_some h
        have hJ6 : ∀ (H : Heap) (locs : List Loc) (ls : Array Slot), J6 = some y → va_P D classes (rc4 a q_t Q_t z_t ++ (rc6 a (Q_t 0) Q_t_0 z_t_0)) H → va_D A (rc4 a q_t Q_t z_t ++ (rc6 a (Q_t 0) Q_t_0 z_t_0)) → va_S A s.heap H locs → lv_has ls 5 [(0, .ref q_t), (1, .int x1), (2, .int x2), (3, .int x3)] → W p l e (rmM (F + 1) 0 0 (LO + 22)) s m #[.ref q_t, .int x10] below meth c H locs 0 0 (MQ below (va_Qv (fun (_ : Unit) => True) (Bw D A (fun _ => rc4 a q_t Q_t y.1 ++ (rc6 a (Q_t 0) Q_t_0 y.2))) A) #[.ref q_t, .int x10] s 0 0 A) (F0 m 52 ls []) := by
          intro H locs ls h hP hD hS hl
          rw [eJ6] at h
          refine lv_aload_n hx hb dX4_readTest_52 rfl (lv_at hl 0 rfl) ?_
          refine va_get (D := D) (v := .ref (Q_t 0)) (C := RX4) (T := TX4) (N := 8) hx hb hts iX4 hown hK.1 hP 0 rfl rfl 0 (by decide) (hts _ t_242) (fun _ h9 => h9) rfl dX4_readTest_53 ?_
          refine va_get (D := D) (v := .int (gI z_t_0 5)) (C := RX6) (T := TX6) (N := 9) hx hb hts iX6 hown hK.1 hP 5 rfl rfl 5 (by decide) (hts _ t_214) (fun _ h9 => h9) rfl dX4_readTest_56 ?_
          refine lv_sipush (v := 309) hx hb dX4_readTest_59 (by decide) ?_
          obtain ⟨J7, eJ7, h⟩ := jn_some h
          have hJ7 : ∀ (i8 : Int32) (H : Heap) (locs : List Loc) (ls : Array Slot), J7 i8 = some y → va_P D classes (rc4 a q_t Q_t z_t ++ (rc6 a (Q_t 0) Q_t_0 z_t_0)) H → va_D A (rc4 a q_t Q_t z_t ++ (rc6 a (Q_t 0) Q_t_0 z_t_0)) → va_S A s.heap H locs → lv_has ls 5 [(0, .ref q_t), (1, .int x1), (2, .int x2), (3, .int x3)] → W p l e (rmM (F + 1) 0 0 (LO + 22)) s m #[.ref q_t, .int x10] below meth c H locs 0 0 (MQ below (va_Qv (fun (_ : Unit) => True) (Bw D A (fun _ => rc4 a q_t Q_t y.1 ++ (rc6 a (Q_t 0) Q_t_0 y.2))) A) #[.ref q_t, .int x10] s 0 0 A) (F0 m 70 ls [.int i8]) := by
            intro i8 H locs ls h hP hD hS hl
            rw [eJ7] at h
            refine lv_istore (lv' := [(4, .int i8), (0, .ref q_t), (1, .int x1), (2, .int x2), (3, .int x3)]) hx hb dX4_readTest_70 hl (by decide) rfl (fun ls hl => ?_)
            refine lv_iload hx hb dX4_readTest_72 (lv_at hl 0 rfl) ?_
            obtain ⟨J9, eJ9, h⟩ := jn_some h
            have hJ9 : ∀ (z10 : Sx) (z11 : Sx) (H : Heap) (locs : List Loc) (ls : Array Slot), J9 z10 z11 = some y → va_P D classes (rc4 a q_t Q_t z10 ++ (rc6 a (Q_t 0) Q_t_0 z11)) H → va_D A (rc4 a q_t Q_t z10 ++ (rc6 a (Q_t 0) Q_t_0 z11)) → va_S A s.heap H locs → lv_has ls 5 [(0, .ref q_t), (1, .int x1), (2, .int x2), (3, .int x3), (4, .int i8)] → W p l e (rmM (F + 1) 0 0 (LO + 22)) s m #[.ref q_t, .int x10] below meth c H locs 0 0 (MQ below (va_Qv (fun (_ : Unit) => True) (Bw D A (fun _ => rc4 a q_t Q_t y.1 ++ (rc6 a (Q_t 0) Q_t_0 y.2))) A) #[.ref q_t, .int x10] s 0 0 A) (F0 m 88 ls []) := by
              intro z10 z11 H locs ls h hP hD hS hl
              rw [eJ9] at h
              refine lv_iload_n hx hb dX4_readTest_88 rfl (lv_at hl 2 rfl) ?_
              obtain ⟨J12, eJ12, h⟩ := jn_some h
              have hJ12 : ∀ (i13 : Int32) (H : Heap) (locs : List Loc) (ls : Array Slot), J12 i13 = some y → va_P D classes (rc4 a q_t Q_t z10 ++ (rc6 a (Q_t 0) Q_t_0 z11)) H → va_D A (rc4 a q_t Q_t z10 ++ (rc6 a (Q_t 0) Q_t_0 z11)) → va_S A s.heap H locs → lv_has ls 5 [(0, .ref q_t), (1, .int x1), (3, .int x3), (4, .int i8)] → W p l e (rmM (F + 1) 0 0 (LO + 22)) s m #[.ref q_t, .int x10] below meth c H locs 0 0 (MQ below (va_Qv (fun (_ : Unit) => True) (Bw D A (fun _ => rc4 a q_t Q_t y.1 ++ (rc6 a (Q_t 0) Q_t_0 y.2))) A) #[.ref q_t, .int x10] s 0 0 A) (F0 m 102 ls [.int i13]) := by
                intro i13 H locs ls h hP hD hS hl
                rw [eJ12] at h
                refine lv_istore_n (lv' := [(2, .int i13), (0, .ref q_t), (1, .int x1), (3, .int x3), (4, .int i8)]) hx hb dX4_readTest_102 rfl hl (by decide) rfl (fun ls hl => ?_)
                refine lv_aload_n hx hb dX4_readTest_103 rfl (lv_at hl 1 rfl) ?_
                refine va_get (D := D) (v := .ref (Q_t 0)) (C := RX4) (T := TX4) (N := 8) hx hb hts iX4 hown hK.1 hP 0 rfl rfl 0 (by decide) (hts _ t_242) (fun _ h9 => h9) rfl dX4_readTest_104 ?_
                obtain ⟨z15, hc14, h⟩ := bd_some h
                refine cMv (runV (As := []) (rest := []) C (mX6_step l D a hc14 H.size) lk_V_4_72 okN_X6_step (by constructor; (show 0 + 1 ≤ F + 1; omega); (show 8 + (1 + 11) + (0) ≤ LO + 22; omega)) ⟨rfl, rfl⟩ (preV (preM hK (P_of_map (wc := rc6 a (Q_t 0) Q_t_0 z11) hP [5, 6, 7, 8] rfl) (hD.sub (ws' := rc6 a (Q_t 0) Q_t_0 z11) [5, 6, 7, 8] (by decide) rfl)) (recvOf hK hP 5 rfl (ci := 6) rfl)) hl.1 rfl (Nat.le_of_ble_eq_true rfl) dX4_readTest_107 ⟨Nat.le_of_ble_eq_true rfl, Nat.le_of_ble_eq_true rfl⟩) hP hD hS hA [5, 6, 7, 8] [0, 1, 2, 3, 4] [0, 1, 2, 3, 4, 5, 6, 7, 8] rfl rfl (by decide) (by decide) (fw := rc4 a q_t Q_t z10 ++ (rc6 a (Q_t 0) Q_t_0 z15)) rfl (by decide) (fun H locs hP hD hS => ?_)
                have hP : va_P D classes (rc4 a q_t Q_t z10 ++ (rc6 a (Q_t 0) Q_t_0 z15)) H := hP
                have hD : va_D A (rc4 a q_t Q_t z10 ++ (rc6 a (Q_t 0) Q_t_0 z15)) := hD
                refine lv_aload_n hx hb dX4_readTest_110 rfl (lv_at hl 1 rfl) ?_
                refine lv_iload_n hx hb dX4_readTest_111 rfl (lv_at hl 2 rfl) ?_
                obtain ⟨z17, z18, hc16, h⟩ := bd2_some h
                refine cWv (runV (As := [.int x1]) (rest := []) C (hrec hc16 H.size) lk_V_4_88 okN_X4_readFact (by constructor; (show F + 0 + 1 ≤ F + 1; omega); (show 8 + (3 + 11) + (LO + 0) ≤ LO + 22; omega)) ⟨rfl, rfl⟩ (preV (preM hK hP hD) (recvOf hK hP 0 rfl (ci := 4) rfl)) hl.1 rfl (Nat.le_of_ble_eq_true rfl) dX4_readTest_112 ⟨Nat.le_of_ble_eq_true rfl, Nat.le_of_ble_eq_true rfl⟩) hP hD hS hA (fun H locs hP hD hS => ?_)
                have hP : va_P D classes (rc4 a q_t Q_t z17 ++ (rc6 a (Q_t 0) Q_t_0 z18)) H := hP
                have hD : va_D A (rc4 a q_t Q_t z17 ++ (rc6 a (Q_t 0) Q_t_0 z18)) := hD
                refine lv_iload hx hb dX4_readTest_115 (lv_at hl 4 rfl) ?_
                obtain ⟨J19, eJ19, h⟩ := jn_some h
                have hJ19 : ∀ (z20 : Sx) (z21 : Sx) (H : Heap) (locs : List Loc) (ls : Array Slot), J19 z20 z21 = some y → va_P D classes (rc4 a q_t Q_t z20 ++ (rc6 a (Q_t 0) Q_t_0 z21)) H → va_D A (rc4 a q_t Q_t z20 ++ (rc6 a (Q_t 0) Q_t_0 z21)) → va_S A s.heap H locs → lv_has ls 5 [(0, .ref q_t), (1, .int x1), (2, .int i13), (3, .int x3)] → W p l e (rmM (F + 1) 0 0 (LO + 22)) s m #[.ref q_t, .int x10] below meth c H locs 0 0 (MQ below (va_Qv (fun (_ : Unit) => True) (Bw D A (fun _ => rc4 a q_t Q_t y.1 ++ (rc6 a (Q_t 0) Q_t_0 y.2))) A) #[.ref q_t, .int x10] s 0 0 A) (F0 m 127 ls []) := by
                  intro z20 z21 H locs ls h hP hD hS hl
                  rw [eJ19] at h
                  refine lv_iinc (v := x3 + 1) (lv' := [(3, .int (x3 + 1)), (0, .ref q_t), (1, .int x1), (2, .int i13)]) hx hb dX4_readTest_127 hl (k := 3) rfl rfl (by decide) rfl (fun ls hl => ?_)
                  refine lv_goto (tgt := 9) hx hb dX4_readTest_130 (by decide) ?_
                  exact ih z20 z21 i13 (x3 + 1) _ _ ls h hP hD hS (lv_sub hl [1, 2, 3, 0] rfl)
                refine lv_if_ne (tgt := 127) hx hb dX4_readTest_117 (by decide) (fun c22 => ?_) (fun c22 => ?_)
                · have h := ite_f c22 h
                  exact hJ19 z17 z18 _ _ ls h hP hD hS (lv_sub hl [1, 2, 0, 3] rfl)
                · have h := ite_t c22 h
                  refine lv_aload_n hx hb dX4_readTest_120 rfl (lv_at hl 1 rfl) ?_
                  refine lv_sipush (v := (-310)) hx hb dX4_readTest_121 (by decide) ?_
                  obtain ⟨z24, hc23, h⟩ := bd_some h
                  refine cMv (runV (As := [.int (-310)]) (rest := []) C (mX4_emit l D a hc23 H.size) lk_V_4_91 okN_X4_emit (by constructor; (show 0 + 1 ≤ F + 1; omega); (show 8 + (2 + 11) + (0) ≤ LO + 22; omega)) ⟨rfl, rfl⟩ (preV (preM hK (P_of_map (wc := rc4 a q_t Q_t z17) hP [0, 1, 2, 3, 4] rfl) (hD.sub (ws' := rc4 a q_t Q_t z17) [0, 1, 2, 3, 4] (by decide) rfl)) (recvOf hK hP 0 rfl (ci := 4) rfl)) hl.1 rfl (Nat.le_of_ble_eq_true rfl) dX4_readTest_124 ⟨Nat.le_of_ble_eq_true rfl, Nat.le_of_ble_eq_true rfl⟩) hP hD hS hA [0, 1, 2, 3, 4] [5, 6, 7, 8] [4, 5, 6, 7, 8, 0, 1, 2, 3] rfl rfl (by decide) (by decide) (fw := rc4 a q_t Q_t z24 ++ (rc6 a (Q_t 0) Q_t_0 z18)) rfl (by decide) (fun H locs hP hD hS => ?_)
                  have hP : va_P D classes (rc4 a q_t Q_t z24 ++ (rc6 a (Q_t 0) Q_t_0 z18)) H := hP
                  have hD : va_D A (rc4 a q_t Q_t z24 ++ (rc6 a (Q_t 0) Q_t_0 z18)) := hD
                  exact hJ19 z24 z18 _ _ ls h hP hD hS (lv_sub hl [1, 2, 0, 3] rfl)
              obtain ⟨J25, eJ25, h⟩ := jn_some h
              have hJ25 : ∀ (H : Heap) (locs : List Loc) (ls : Array Slot), J25 = some y → va_P D classes (rc4 a q_t Q_t z10 ++ (rc6 a (Q_t 0) Q_t_0 z11)) H → va_D A (rc4 a q_t Q_t z10 ++ (rc6 a (Q_t 0) Q_t_0 z11)) → va_S A s.heap H locs → lv_has ls 5 [(0, .ref q_t), (1, .int x1), (3, .int x3), (4, .int i8)] → W p l e (rmM (F + 1) 0 0 (LO + 22)) s m #[.ref q_t, .int x10] below meth c H locs 0 0 (MQ below (va_Qv (fun (_ : Unit) => True) (Bw D A (fun _ => rc4 a q_t Q_t y.1 ++ (rc6 a (Q_t 0) Q_t_0 y.2))) A) #[.ref q_t, .int x10] s 0 0 A) (F0 m 97 ls []) := by
                intro H locs ls h hP hD hS hl
                rw [eJ25] at h
                refine lv_iconst (v := 1) hx hb dX4_readTest_97 (by decide) ?_
                refine lv_goto (tgt := 102) hx hb dX4_readTest_98 (by decide) ?_
                exact hJ12 1 _ _ ls h hP hD hS (lv_sub hl [0, 1, 2, 3] rfl)
              refine lv_if_ne (tgt := 97) hx hb dX4_readTest_89 (by decide) (fun c26 => ?_) (fun c26 => ?_)
              · have h := ite_f c26 h
                exact hJ25 _ _ ls h hP hD hS (lv_sub hl [0, 1, 3, 4] rfl)
              · have h := ite_t c26 h
                refine lv_iload hx hb dX4_readTest_92 (lv_at hl 4 rfl) ?_
                refine lv_if_eq (tgt := 101) hx hb dX4_readTest_94 (by decide) (fun c27 => ?_) (fun c27 => ?_)
                · have h := ite_t c27 h
                  refine lv_iconst (v := 0) hx hb dX4_readTest_101 (by decide) ?_
                  exact hJ12 0 _ _ ls h hP hD hS (lv_sub hl [0, 1, 3, 4] rfl)
                · have h := ite_f c27 h
                  exact hJ25 _ _ ls h hP hD hS (lv_sub hl [0, 1, 3, 4] rfl)
            refine lv_if_eq (tgt := 88) hx hb dX4_readTest_74 (by decide) (fun c28 => ?_) (fun c28 => ?_)
            · have h := ite_t c28 h
              exact hJ9 z_t z_t_0 _ _ ls h hP hD hS (lv_sub hl [1, 2, 3, 4, 0] rfl)
            · have h := ite_f c28 h
              refine lv_iload_n hx hb dX4_readTest_77 rfl (lv_at hl 3 rfl) ?_
              refine lv_if_eq (tgt := 88) hx hb dX4_readTest_78 (by decide) (fun c29 => ?_) (fun c29 => ?_)
              · have h := ite_t c29 h
                exact hJ9 z_t z_t_0 _ _ ls h hP hD hS (lv_sub hl [1, 2, 3, 4, 0] rfl)
              · have h := ite_f c29 h
                refine lv_aload_n hx hb dX4_readTest_81 rfl (lv_at hl 1 rfl) ?_
                refine lv_sipush (v := (-309)) hx hb dX4_readTest_82 (by decide) ?_
                obtain ⟨z31, hc30, h⟩ := bd_some h
                refine cMv (runV (As := [.int (-309)]) (rest := []) C (mX4_emit l D a hc30 H.size) lk_V_4_91 okN_X4_emit (by constructor; (show 0 + 1 ≤ F + 1; omega); (show 8 + (2 + 11) + (0) ≤ LO + 22; omega)) ⟨rfl, rfl⟩ (preV (preM hK (P_of_map (wc := rc4 a q_t Q_t z_t) hP [0, 1, 2, 3, 4] rfl) (hD.sub (ws' := rc4 a q_t Q_t z_t) [0, 1, 2, 3, 4] (by decide) rfl)) (recvOf hK hP 0 rfl (ci := 4) rfl)) hl.1 rfl (Nat.le_of_ble_eq_true rfl) dX4_readTest_85 ⟨Nat.le_of_ble_eq_true rfl, Nat.le_of_ble_eq_true rfl⟩) hP hD hS hA [0, 1, 2, 3, 4] [5, 6, 7, 8] [4, 5, 6, 7, 8, 0, 1, 2, 3] rfl rfl (by decide) (by decide) (fw := rc4 a q_t Q_t z31 ++ (rc6 a (Q_t 0) Q_t_0 z_t_0)) rfl (by decide) (fun H locs hP hD hS => ?_)
                have hP : va_P D classes (rc4 a q_t Q_t z31 ++ (rc6 a (Q_t 0) Q_t_0 z_t_0)) H := hP
                have hD : va_D A (rc4 a q_t Q_t z31 ++ (rc6 a (Q_t 0) Q_t_0 z_t_0)) := hD
                exact hJ9 z31 z_t_0 _ _ ls h hP hD hS (lv_sub hl [1, 2, 3, 4, 0] rfl)
          refine lv_icmp_ne (tgt := 69) hx hb dX4_readTest_62 (by decide) (fun c32 => ?_) (fun c32 => ?_)
          · have h := ite_f c32 h
            refine lv_iconst (v := 0) hx hb dX4_readTest_69 (by decide) ?_
            exact hJ7 0 _ _ ls h hP hD hS (lv_sub hl [0, 1, 2, 3] rfl)
          · have h := ite_t c32 h
            refine lv_iconst (v := 1) hx hb dX4_readTest_65 (by decide) ?_
            refine lv_goto (tgt := 70) hx hb dX4_readTest_66 (by decide) ?_
            exact hJ7 1 _ _ ls h hP hD hS (lv_sub hl [0, 1, 2, 3] rfl)
        refine lv_icmp_eq (tgt := 52) hx hb dX4_readTest_36 (by decide) (fun c33 => ?_) (fun c33 => ?_)
        · have h := ite_t c33 h
          exact hJ6 _ _ ls h hP hD hS (lv_sub hl [0, 1, 2, 3] rfl)
        · have h := ite_f c33 h
          refine lv_aload_n hx hb dX4_readTest_39 rfl (lv_at hl 0 rfl) ?_
          refine va_get (D := D) (v := .ref (Q_t 0)) (C := RX4) (T := TX4) (N := 8) hx hb hts iX4 hown hK.1 hP 0 rfl rfl 0 (by decide) (hts _ t_242) (fun _ h9 => h9) rfl dX4_readTest_40 ?_
          refine va_get (D := D) (v := .int (gI z_t_0 5)) (C := RX6) (T := TX6) (N := 9) hx hb hts iX6 hown hK.1 hP 5 rfl rfl 5 (by decide) (hts _ t_214) (fun _ h9 => h9) rfl dX4_readTest_43 ?_
          refine lv_sipush (v := 310) hx hb dX4_readTest_46 (by decide) ?_
          refine lv_icmp_ne (tgt := 133) hx hb dX4_readTest_49 (by decide) (fun c34 => ?_) (fun c34 => ?_)
          · have h := ite_f c34 h
            exact hk133 z_t z_t_0 x2 _ _ ls h hP hD hS (lv_sub hl [0, 2] rfl)
          · have h := ite_t c34 h
            exact hJ6 _ _ ls h hP hD hS (lv_sub hl [0, 1, 2, 3] rfl)

set_option maxHeartbeats 4000000 in
set_option maxRecDepth 100000 in
theorem mX4_readTest (l : Launch) (D : va_G) (a : Nat → ClassId) {F LO : Nat} {rec : Sx → Sx → Int32 → Option (Sx × Sx)} (hrec : ∀ {q_t : Nat} {Q_t : Nat → Nat} {z_t : Sx} {Q_t_0 : Nat → Nat} {z_t_0 : Sx} {x1 : Int32} {y9 : Sx × Sx}, rec z_t z_t_0 x1 = some y9 → ∀ (sz : Nat), CMv (S := Unit) l MX4_readFact F LO 0 0 D a [.ref q_t, .int x1] (rc4 a q_t Q_t z_t ++ (rc6 a (Q_t 0) Q_t_0 z_t_0)) sz (fun _ => True) (fun _ => rc4 a q_t Q_t y9.1 ++ (rc6 a (Q_t 0) Q_t_0 y9.2))) (hF : 1 ≤ F) (hL : 21 ≤ LO) {q_t : Nat} {Q_t : Nat → Nat} {z_t : Sx} {Q_t_0 : Nat → Nat} {z_t_0 : Sx} {x1 : Int32} {y : Sx × Sx} (h : fX4_readTest rec z_t z_t_0 x1 = some y) (sz : Nat) : CMv (S := Unit) l MX4_readTest (F + 1) (LO + 22) 0 0 D a [.ref q_t, .int x1] (rc4 a q_t Q_t z_t ++ (rc6 a (Q_t 0) Q_t_0 z_t_0)) sz (fun _ => True) (fun _ => rc4 a q_t Q_t y.1 ++ (rc6 a (Q_t 0) Q_t_0 y.2)) := by
  unfold fX4_readTest at h
  refine entMv (by decide) (Nat.le_of_ble_eq_true rfl) ?_
  intro p e s m below meth c C hK A hA hP hD ls hl
  obtain ⟨hx, hb, hml, hown, hts, hr, hlocks, hnm⟩ := id C
  have hb : c.code = cX4_readTest := hb
  have hown : s.vm.findClass RX4 = some m.cls := hown
  have hS : va_S A s.heap s.heap [] := va_S.rf
  have hl : lv_has ls 5 [(0, .ref q_t), (1, .int x1)] := hl
  refine lv_iconst (v := 0) hx hb dX4_readTest_0 (by decide) ?_
  refine lv_istore_n (lv' := [(2, .int 0), (0, .ref q_t), (1, .int x1)]) hx hb dX4_readTest_1 rfl hl (by decide) rfl (fun ls hl => ?_)
  refine lv_aload_n hx hb dX4_readTest_2 rfl (lv_at hl 1 rfl) ?_
  refine lv_iload_n hx hb dX4_readTest_3 rfl (lv_at hl 2 rfl) ?_
  obtain ⟨z2, z3, hc1, h⟩ := bd2_some h
  refine cWv (runV (As := [.int x1]) (rest := []) C (hrec hc1 s.heap.size) lk_V_4_88 okN_X4_readFact (by constructor; (show F + 0 + 1 ≤ F + 1; omega); (show 8 + (3 + 11) + (LO + 0) ≤ LO + 22; omega)) ⟨rfl, rfl⟩ (preV (preM hK hP hD) (recvOf hK hP 0 rfl (ci := 4) rfl)) hl.1 rfl (Nat.le_of_ble_eq_true rfl) dX4_readTest_4 ⟨Nat.le_of_ble_eq_true rfl, Nat.le_of_ble_eq_true rfl⟩) hP hD hS hA (fun H locs hP hD hS => ?_)
  have hP : va_P D classes (rc4 a q_t Q_t z2 ++ (rc6 a (Q_t 0) Q_t_0 z3)) H := hP
  have hD : va_D A (rc4 a q_t Q_t z2 ++ (rc6 a (Q_t 0) Q_t_0 z3)) := hD
  refine lv_iconst (v := 0) hx hb dX4_readTest_7 (by decide) ?_
  refine lv_istore_n (lv' := [(3, .int 0), (2, .int 0), (0, .ref q_t), (1, .int x1)]) hx hb dX4_readTest_8 rfl hl (by decide) rfl (fun ls hl => ?_)
  refine wX4_readTest_9 C hK hA hrec hF hL ?_ FU z2 z3 0 0 _ _ ls h hP hD hS (lv_sub hl [2, 3, 1, 0] rfl)
  · intro z35 z36 i37 H locs ls h hP hD hS hl
    refine lv_iload_n hx hb dX4_readTest_133 rfl (lv_at hl 1 rfl) ?_
    refine lv_if_eq (tgt := 144) hx hb dX4_readTest_134 (by decide) (fun c38 => ?_) (fun c38 => ?_)
    · have h := ite_t c38 h
      exact rMv C rfl h (g := fun y => rc4 a q_t Q_t y.1 ++ (rc6 a (Q_t 0) Q_t_0 y.2)) hP hD hS dX4_readTest_144
    · have h := ite_f c38 h
      refine lv_aload_n hx hb dX4_readTest_137 rfl (lv_at hl 0 rfl) ?_
      refine lv_sipush (v := (-309)) hx hb dX4_readTest_138 (by decide) ?_
      obtain ⟨z40, hc39, h⟩ := bd_some h
      refine cMv (runV (As := [.int (-309)]) (rest := []) C (mX4_emit l D a hc39 H.size) lk_V_4_91 okN_X4_emit (by constructor; (show 0 + 1 ≤ F + 1; omega); (show 8 + (2 + 11) + (0) ≤ LO + 22; omega)) ⟨rfl, rfl⟩ (preV (preM hK (P_of_map (wc := rc4 a q_t Q_t z35) hP [0, 1, 2, 3, 4] rfl) (hD.sub (ws' := rc4 a q_t Q_t z35) [0, 1, 2, 3, 4] (by decide) rfl)) (recvOf hK hP 0 rfl (ci := 4) rfl)) hl.1 rfl (Nat.le_of_ble_eq_true rfl) dX4_readTest_141 ⟨Nat.le_of_ble_eq_true rfl, Nat.le_of_ble_eq_true rfl⟩) hP hD hS hA [0, 1, 2, 3, 4] [5, 6, 7, 8] [4, 5, 6, 7, 8, 0, 1, 2, 3] rfl rfl (by decide) (by decide) (fw := rc4 a q_t Q_t z40 ++ (rc6 a (Q_t 0) Q_t_0 z36)) rfl (by decide) (fun H locs hP hD hS => ?_)
      have hP : va_P D classes (rc4 a q_t Q_t z40 ++ (rc6 a (Q_t 0) Q_t_0 z36)) H := hP
      have hD : va_D A (rc4 a q_t Q_t z40 ++ (rc6 a (Q_t 0) Q_t_0 z36)) := hD
      exact rMv C rfl h (g := fun y => rc4 a q_t Q_t y.1 ++ (rc6 a (Q_t 0) Q_t_0 y.2)) hP hD hS dX4_readTest_144

def fX6_fail (z_t : Sx) (x1 : Int32) : Option (Sx) := if (gI z_t 8) = 0 then some (sI z_t 8 ((1 + (8 * (gI z_t 6))) + x1)) else some z_t

set_option maxHeartbeats 4000000 in
set_option maxRecDepth 100000 in
theorem mX6_fail (l : Launch) (D : va_G) (a : Nat → ClassId) {q_t : Nat} {Q_t : Nat → Nat} {z_t : Sx} {x1 : Int32} {y : Sx} (h : fX6_fail z_t x1 = some y) (sz : Nat) : CMv (S := Unit) l MX6_fail 0 0 0 0 D a [.ref q_t, .int x1] (rc6 a q_t Q_t z_t) sz (fun _ => True) (fun _ => rc6 a q_t Q_t y) := by
  unfold fX6_fail at h
  refine entMv (by decide) (Nat.le_of_ble_eq_true rfl) ?_
  intro p e s m below meth c C hK A hA hP hD ls hl
  obtain ⟨hx, hb, hml, hown, hts, hr, hlocks, hnm⟩ := id C
  have hb : c.code = cX6_fail := hb
  have hown : s.vm.findClass RX6 = some m.cls := hown
  have hS : va_S A s.heap s.heap [] := va_S.rf
  have hl : lv_has ls 2 [(0, .ref q_t), (1, .int x1)] := hl
  refine lv_aload_n hx hb dX6_fail_0 rfl (lv_at hl 0 rfl) ?_
  refine va_get (D := D) (v := .int (gI z_t 8)) (C := RX6) (T := TX6) (N := 9) hx hb hts iX6 hown hK.1 hP 0 rfl rfl 8 (by decide) (hts _ t_219) (fun _ h9 => h9) rfl dX6_fail_1 ?_
  refine lv_if_ne (tgt := 22) hx hb dX6_fail_4 (by decide) (fun c1 => ?_) (fun c1 => ?_)
  · have h := ite_f c1 h
    exact rMv C rfl h (g := fun y => rc6 a q_t Q_t y) hP hD hS dX6_fail_22
  · have h := ite_t c1 h
    refine lv_aload_n hx hb dX6_fail_7 rfl (lv_at hl 0 rfl) ?_
    refine lv_iconst (v := 1) hx hb dX6_fail_8 (by decide) ?_
    refine lv_bipush (v := 8) hx hb dX6_fail_9 (by decide) ?_
    refine lv_aload_n hx hb dX6_fail_11 rfl (lv_at hl 0 rfl) ?_
    refine va_get (D := D) (v := .int (gI z_t 6)) (C := RX6) (T := TX6) (N := 9) hx hb hts iX6 hown hK.1 hP 0 rfl rfl 6 (by decide) (hts _ t_216) (fun _ h9 => h9) rfl dX6_fail_12 ?_
    refine lv_imul hx hb dX6_fail_15 ?_
    refine lv_iadd hx hb dX6_fail_16 ?_
    refine lv_iload_n hx hb dX6_fail_17 rfl (lv_at hl 1 rfl) ?_
    refine lv_iadd hx hb dX6_fail_18 ?_
    refine va_put (D := D) (v := .int ((1 + (8 * (gI z_t 6))) + x1)) (C := RX6) (T := TX6) (N := 9) hx hb hts iX6 tyX6 tyX6_ok nmX6 hown hK.1 hP hD hS 0 rfl rfl 8 (by decide) (hts _ t_219) (fun _ h9 => h9) rfl (tyX6_ok 8 (by decide)) rfl rfl (Nat.le_of_ble_eq_true rfl) dX6_fail_19 (fun H locs hP hD hS => ?_)
    have hP : va_P D classes (rc6 a q_t Q_t (sI z_t 8 ((1 + (8 * (gI z_t 6))) + x1))) H := hP
    have hD : va_D A (rc6 a q_t Q_t (sI z_t 8 ((1 + (8 * (gI z_t 6))) + x1))) := hD
    exact rMv C rfl h (g := fun y => rc6 a q_t Q_t y) hP hD hS dX6_fail_22

def fX4_readValue (z_t : Sx) (z_t_0 : Sx) : Option (Sx × Sx) := jn (fun (i2 : Int32) => jn (fun (i4 : Int32) => jn (if (gI z_t 3) < 60 then jn (fun (i8 : Int32) => bd (fX4_emit (sI z_t 3 ((gI z_t 3) + 1)) i8) (fun z10 => bd (fX6_step z_t_0) (fun z12 => some (z10, z12)))) (fun J7 => if i2 = 0 then J7 (-(gI z_t_0 5)) else J7 (gI z_t_0 7)) else bd (fX6_fail z_t_0 3) (fun z15 => some (z_t, z15))) (fun J5 => if i2 = 0 then if i4 = 0 then jn (fun (i19 : Int32) => bd (fX6_fail z_t_0 i19) (fun z21 => some (z_t, z21))) (fun J18 => if (gI z_t_0 5) = 302 then J18 1 else J18 0) else J5 else J5)) (fun J3 => jn (J3 0) (fun J23 => if (gI z_t_0 5) < 312 then J23 else if 320 < (gI z_t_0 5) then J23 else J3 1))) (fun J1 => if (gI z_t_0 5) = 301 then J1 1 else J1 0)

set_option maxHeartbeats 4000000 in
set_option maxRecDepth 100000 in
theorem mX4_readValue (l : Launch) (D : va_G) (a : Nat → ClassId) {q_t : Nat} {Q_t : Nat → Nat} {z_t : Sx} {Q_t_0 : Nat → Nat} {z_t_0 : Sx} {y : Sx × Sx} (h : fX4_readValue z_t z_t_0 = some y) (sz : Nat) : CMv (S := Unit) l MX4_readValue 1 21 0 0 D a [.ref q_t] (rc4 a q_t Q_t z_t ++ (rc6 a (Q_t 0) Q_t_0 z_t_0)) sz (fun _ => True) (fun _ => rc4 a q_t Q_t y.1 ++ (rc6 a (Q_t 0) Q_t_0 y.2)) := by
  unfold fX4_readValue at h
  refine entMv (by decide) (Nat.le_of_ble_eq_true rfl) ?_
  intro p e s m below meth c C hK A hA hP hD ls hl
  obtain ⟨hx, hb, hml, hown, hts, hr, hlocks, hnm⟩ := id C
  have hb : c.code = cX4_readValue := hb
  have hown : s.vm.findClass RX4 = some m.cls := hown
  have hS : va_S A s.heap s.heap [] := va_S.rf
  have hl : lv_has ls 3 [(0, .ref q_t)] := hl
  refine lv_aload_n hx hb dX4_readValue_0 rfl (lv_at hl 0 rfl) ?_
  refine va_get (D := D) (v := .ref (Q_t 0)) (C := RX4) (T := TX4) (N := 8) hx hb hts iX4 hown hK.1 hP 0 rfl rfl 0 (by decide) (hts _ t_242) (fun _ h9 => h9) rfl dX4_readValue_1 ?_
  refine va_get (D := D) (v := .int (gI z_t_0 5)) (C := RX6) (T := TX6) (N := 9) hx hb hts iX6 hown hK.1 hP 5 rfl rfl 5 (by decide) (hts _ t_214) (fun _ h9 => h9) rfl dX4_readValue_4 ?_
  refine lv_sipush (v := 301) hx hb dX4_readValue_7 (by decide) ?_
  obtain ⟨J1, eJ1, h⟩ := jn_some h
  have hJ1 : ∀ (i2 : Int32) (H : Heap) (locs : List Loc) (ls : Array Slot), J1 i2 = some y → va_P D classes (rc4 a q_t Q_t z_t ++ (rc6 a (Q_t 0) Q_t_0 z_t_0)) H → va_D A (rc4 a q_t Q_t z_t ++ (rc6 a (Q_t 0) Q_t_0 z_t_0)) → va_S A s.heap H locs → lv_has ls 3 [(0, .ref q_t)] → W p l e (rmM 1 0 0 21) s m #[.ref q_t] below meth c H locs 0 0 (MQ below (va_Qv (fun (_ : Unit) => True) (Bw D A (fun _ => rc4 a q_t Q_t y.1 ++ (rc6 a (Q_t 0) Q_t_0 y.2))) A) #[.ref q_t] s 0 0 A) (F0 m 18 ls [.int i2]) := by
    intro i2 H locs ls h hP hD hS hl
    rw [eJ1] at h
    refine lv_istore_n (lv' := [(1, .int i2), (0, .ref q_t)]) hx hb dX4_readValue_18 rfl hl (by decide) rfl (fun ls hl => ?_)
    refine lv_aload_n hx hb dX4_readValue_19 rfl (lv_at hl 1 rfl) ?_
    refine va_get (D := D) (v := .ref (Q_t 0)) (C := RX4) (T := TX4) (N := 8) hx hb hts iX4 hown hK.1 hP 0 rfl rfl 0 (by decide) (hts _ t_242) (fun _ h9 => h9) rfl dX4_readValue_20 ?_
    refine va_get (D := D) (v := .int (gI z_t_0 5)) (C := RX6) (T := TX6) (N := 9) hx hb hts iX6 hown hK.1 hP 5 rfl rfl 5 (by decide) (hts _ t_214) (fun _ h9 => h9) rfl dX4_readValue_23 ?_
    refine lv_sipush (v := 312) hx hb dX4_readValue_26 (by decide) ?_
    obtain ⟨J3, eJ3, h⟩ := jn_some h
    have hJ3 : ∀ (i4 : Int32) (H : Heap) (locs : List Loc) (ls : Array Slot), J3 i4 = some y → va_P D classes (rc4 a q_t Q_t z_t ++ (rc6 a (Q_t 0) Q_t_0 z_t_0)) H → va_D A (rc4 a q_t Q_t z_t ++ (rc6 a (Q_t 0) Q_t_0 z_t_0)) → va_S A s.heap H locs → lv_has ls 3 [(0, .ref q_t), (1, .int i2)] → W p l e (rmM 1 0 0 21) s m #[.ref q_t] below meth c H locs 0 0 (MQ below (va_Qv (fun (_ : Unit) => True) (Bw D A (fun _ => rc4 a q_t Q_t y.1 ++ (rc6 a (Q_t 0) Q_t_0 y.2))) A) #[.ref q_t] s 0 0 A) (F0 m 50 ls [.int i4]) := by
      intro i4 H locs ls h hP hD hS hl
      rw [eJ3] at h
      refine lv_istore_n (lv' := [(2, .int i4), (0, .ref q_t), (1, .int i2)]) hx hb dX4_readValue_50 rfl hl (by decide) rfl (fun ls hl => ?_)
      refine lv_iload_n hx hb dX4_readValue_51 rfl (lv_at hl 2 rfl) ?_
      obtain ⟨J5, eJ5, h⟩ := jn_some h
      have hJ5 : ∀ (H : Heap) (locs : List Loc) (ls : Array Slot), J5 = some y → va_P D classes (rc4 a q_t Q_t z_t ++ (rc6 a (Q_t 0) Q_t_0 z_t_0)) H → va_D A (rc4 a q_t Q_t z_t ++ (rc6 a (Q_t 0) Q_t_0 z_t_0)) → va_S A s.heap H locs → lv_has ls 3 [(0, .ref q_t), (1, .int i2)] → W p l e (rmM 1 0 0 21) s m #[.ref q_t] below meth c H locs 0 0 (MQ below (va_Qv (fun (_ : Unit) => True) (Bw D A (fun _ => rc4 a q_t Q_t y.1 ++ (rc6 a (Q_t 0) Q_t_0 y.2))) A) #[.ref q_t] s 0 0 A) (F0 m 85 ls []) := by
        intro H locs ls h hP hD hS hl
        rw [eJ5] at h
        refine lv_aload_n hx hb dX4_readValue_85 rfl (lv_at hl 0 rfl) ?_
        refine va_get (D := D) (v := .int (gI z_t 3)) (C := RX4) (T := TX4) (N := 8) hx hb hts iX4 hown hK.1 hP 0 rfl rfl 3 (by decide) (hts _ t_246) (fun _ h9 => h9) rfl dX4_readValue_86 ?_
        refine lv_bipush (v := 60) hx hb dX4_readValue_89 (by decide) ?_
        refine lv_icmp_lt (tgt := 103) hx hb dX4_readValue_91 (by decide) (fun c6 => ?_) (fun c6 => ?_)
        · have h := ite_t c6 h
          refine lv_aload_n hx hb dX4_readValue_103 rfl (lv_at hl 0 rfl) ?_
          refine lv_dup hx hb dX4_readValue_104 rfl ?_
          refine va_get (D := D) (v := .int (gI z_t 3)) (C := RX4) (T := TX4) (N := 8) hx hb hts iX4 hown hK.1 hP 0 rfl rfl 3 (by decide) (hts _ t_246) (fun _ h9 => h9) rfl dX4_readValue_105 ?_
          refine lv_iconst (v := 1) hx hb dX4_readValue_108 (by decide) ?_
          refine lv_iadd hx hb dX4_readValue_109 ?_
          refine va_put (D := D) (v := .int ((gI z_t 3) + 1)) (C := RX4) (T := TX4) (N := 8) hx hb hts iX4 tyX4 tyX4_ok nmX4 hown hK.1 hP hD hS 0 rfl rfl 3 (by decide) (hts _ t_246) (fun _ h9 => h9) rfl (tyX4_ok 3 (by decide)) rfl rfl (Nat.le_of_ble_eq_true rfl) dX4_readValue_110 (fun H locs hP hD hS => ?_)
          have hP : va_P D classes (rc4 a q_t Q_t (sI z_t 3 ((gI z_t 3) + 1)) ++ (rc6 a (Q_t 0) Q_t_0 z_t_0)) H := hP
          have hD : va_D A (rc4 a q_t Q_t (sI z_t 3 ((gI z_t 3) + 1)) ++ (rc6 a (Q_t 0) Q_t_0 z_t_0)) := hD
          refine lv_aload_n hx hb dX4_readValue_113 rfl (lv_at hl 0 rfl) ?_
          refine lv_iload_n hx hb dX4_readValue_114 rfl (lv_at hl 1 rfl) ?_
          obtain ⟨J7, eJ7, h⟩ := jn_some h
          have hJ7 : ∀ (i8 : Int32) (H : Heap) (locs : List Loc) (ls : Array Slot), J7 i8 = some y → va_P D classes (rc4 a q_t Q_t (sI z_t 3 ((gI z_t 3) + 1)) ++ (rc6 a (Q_t 0) Q_t_0 z_t_0)) H → va_D A (rc4 a q_t Q_t (sI z_t 3 ((gI z_t 3) + 1)) ++ (rc6 a (Q_t 0) Q_t_0 z_t_0)) → va_S A s.heap H locs → lv_has ls 3 [(0, .ref q_t)] → W p l e (rmM 1 0 0 21) s m #[.ref q_t] below meth c H locs 0 0 (MQ below (va_Qv (fun (_ : Unit) => True) (Bw D A (fun _ => rc4 a q_t Q_t y.1 ++ (rc6 a (Q_t 0) Q_t_0 y.2))) A) #[.ref q_t] s 0 0 A) (F0 m 136 ls [.int i8, .ref q_t]) := by
            intro i8 H locs ls h hP hD hS hl
            rw [eJ7] at h
            obtain ⟨z10, hc9, h⟩ := bd_some h
            refine cMv (runV (As := [.int i8]) (rest := []) C (mX4_emit l D a hc9 H.size) lk_V_4_91 okN_X4_emit ⟨Nat.le_of_ble_eq_true rfl, Nat.le_of_ble_eq_true rfl⟩ ⟨rfl, rfl⟩ (preV (preM hK (P_of_map (wc := rc4 a q_t Q_t (sI z_t 3 ((gI z_t 3) + 1))) hP [0, 1, 2, 3, 4] rfl) (hD.sub (ws' := rc4 a q_t Q_t (sI z_t 3 ((gI z_t 3) + 1))) [0, 1, 2, 3, 4] (by decide) rfl)) (recvOf hK hP 0 rfl (ci := 4) rfl)) hl.1 rfl (Nat.le_of_ble_eq_true rfl) dX4_readValue_136 ⟨Nat.le_of_ble_eq_true rfl, Nat.le_of_ble_eq_true rfl⟩) hP hD hS hA [0, 1, 2, 3, 4] [5, 6, 7, 8] [4, 5, 6, 7, 8, 0, 1, 2, 3] rfl rfl (by decide) (by decide) (fw := rc4 a q_t Q_t z10 ++ (rc6 a (Q_t 0) Q_t_0 z_t_0)) rfl (by decide) (fun H locs hP hD hS => ?_)
            have hP : va_P D classes (rc4 a q_t Q_t z10 ++ (rc6 a (Q_t 0) Q_t_0 z_t_0)) H := hP
            have hD : va_D A (rc4 a q_t Q_t z10 ++ (rc6 a (Q_t 0) Q_t_0 z_t_0)) := hD
            refine lv_aload_n hx hb dX4_readValue_139 rfl (lv_at hl 0 rfl) ?_
            refine va_get (D := D) (v := .ref (Q_t 0)) (C := RX4) (T := TX4) (N := 8) hx hb hts iX4 hown hK.1 hP 0 rfl rfl 0 (by decide) (hts _ t_242) (fun _ h9 => h9) rfl dX4_readValue_140 ?_
            obtain ⟨z12, hc11, h⟩ := bd_some h
            refine cMv (runV (As := []) (rest := []) C (mX6_step l D a hc11 H.size) lk_V_4_72 okN_X6_step ⟨Nat.le_of_ble_eq_true rfl, Nat.le_of_ble_eq_true rfl⟩ ⟨rfl, rfl⟩ (preV (preM hK (P_of_map (wc := rc6 a (Q_t 0) Q_t_0 z_t_0) hP [5, 6, 7, 8] rfl) (hD.sub (ws' := rc6 a (Q_t 0) Q_t_0 z_t_0) [5, 6, 7, 8] (by decide) rfl)) (recvOf hK hP 5 rfl (ci := 6) rfl)) hl.1 rfl (Nat.le_of_ble_eq_true rfl) dX4_readValue_143 ⟨Nat.le_of_ble_eq_true rfl, Nat.le_of_ble_eq_true rfl⟩) hP hD hS hA [5, 6, 7, 8] [0, 1, 2, 3, 4] [0, 1, 2, 3, 4, 5, 6, 7, 8] rfl rfl (by decide) (by decide) (fw := rc4 a q_t Q_t z10 ++ (rc6 a (Q_t 0) Q_t_0 z12)) rfl (by decide) (fun H locs hP hD hS => ?_)
            have hP : va_P D classes (rc4 a q_t Q_t z10 ++ (rc6 a (Q_t 0) Q_t_0 z12)) H := hP
            have hD : va_D A (rc4 a q_t Q_t z10 ++ (rc6 a (Q_t 0) Q_t_0 z12)) := hD
            exact rMv C rfl h (g := fun y => rc4 a q_t Q_t y.1 ++ (rc6 a (Q_t 0) Q_t_0 y.2)) hP hD hS dX4_readValue_146
          refine lv_if_eq (tgt := 128) hx hb dX4_readValue_115 (by decide) (fun c13 => ?_) (fun c13 => ?_)
          · have h := ite_t c13 h
            refine lv_aload_n hx hb dX4_readValue_128 rfl (lv_at hl 0 rfl) ?_
            refine va_get (D := D) (v := .ref (Q_t 0)) (C := RX4) (T := TX4) (N := 8) hx hb hts iX4 hown hK.1 hP 0 rfl rfl 0 (by decide) (hts _ t_242) (fun _ h9 => h9) rfl dX4_readValue_129 ?_
            refine va_get (D := D) (v := .int (gI z_t_0 5)) (C := RX6) (T := TX6) (N := 9) hx hb hts iX6 hown hK.1 hP 5 rfl rfl 5 (by decide) (hts _ t_214) (fun _ h9 => h9) rfl dX4_readValue_132 ?_
            refine lv_ineg hx hb dX4_readValue_135 ?_
            exact hJ7 (-(gI z_t_0 5)) _ _ ls h hP hD hS (lv_sub hl [0] rfl)
          · have h := ite_f c13 h
            refine lv_aload_n hx hb dX4_readValue_118 rfl (lv_at hl 0 rfl) ?_
            refine va_get (D := D) (v := .ref (Q_t 0)) (C := RX4) (T := TX4) (N := 8) hx hb hts iX4 hown hK.1 hP 0 rfl rfl 0 (by decide) (hts _ t_242) (fun _ h9 => h9) rfl dX4_readValue_119 ?_
            refine va_get (D := D) (v := .int (gI z_t_0 7)) (C := RX6) (T := TX6) (N := 9) hx hb hts iX6 hown hK.1 hP 5 rfl rfl 7 (by decide) (hts _ t_217) (fun _ h9 => h9) rfl dX4_readValue_122 ?_
            refine lv_goto (tgt := 136) hx hb dX4_readValue_125 (by decide) ?_
            exact hJ7 (gI z_t_0 7) _ _ ls h hP hD hS (lv_sub hl [0] rfl)
        · have h := ite_f c6 h
          refine lv_aload_n hx hb dX4_readValue_94 rfl (lv_at hl 0 rfl) ?_
          refine va_get (D := D) (v := .ref (Q_t 0)) (C := RX4) (T := TX4) (N := 8) hx hb hts iX4 hown hK.1 hP 0 rfl rfl 0 (by decide) (hts _ t_242) (fun _ h9 => h9) rfl dX4_readValue_95 ?_
          refine lv_iconst (v := 3) hx hb dX4_readValue_98 (by decide) ?_
          obtain ⟨z15, hc14, h⟩ := bd_some h
          refine cMv (runV (As := [.int 3]) (rest := []) C (mX6_fail l D a hc14 H.size) lk_V_4_68 okN_X6_fail ⟨Nat.le_of_ble_eq_true rfl, Nat.le_of_ble_eq_true rfl⟩ ⟨rfl, rfl⟩ (preV (preM hK (P_of_map (wc := rc6 a (Q_t 0) Q_t_0 z_t_0) hP [5, 6, 7, 8] rfl) (hD.sub (ws' := rc6 a (Q_t 0) Q_t_0 z_t_0) [5, 6, 7, 8] (by decide) rfl)) (recvOf hK hP 5 rfl (ci := 6) rfl)) hl.1 rfl (Nat.le_of_ble_eq_true rfl) dX4_readValue_99 ⟨Nat.le_of_ble_eq_true rfl, Nat.le_of_ble_eq_true rfl⟩) hP hD hS hA [5, 6, 7, 8] [0, 1, 2, 3, 4] [0, 1, 2, 3, 4, 5, 6, 7, 8] rfl rfl (by decide) (by decide) (fw := rc4 a q_t Q_t z_t ++ (rc6 a (Q_t 0) Q_t_0 z15)) rfl (by decide) (fun H locs hP hD hS => ?_)
          have hP : va_P D classes (rc4 a q_t Q_t z_t ++ (rc6 a (Q_t 0) Q_t_0 z15)) H := hP
          have hD : va_D A (rc4 a q_t Q_t z_t ++ (rc6 a (Q_t 0) Q_t_0 z15)) := hD
          exact rMv C rfl h (g := fun y => rc4 a q_t Q_t y.1 ++ (rc6 a (Q_t 0) Q_t_0 y.2)) hP hD hS dX4_readValue_102
      refine lv_if_ne (tgt := 85) hx hb dX4_readValue_52 (by decide) (fun c16 => ?_) (fun c16 => ?_)
      · have h := ite_f c16 h
        exact hJ5 _ _ ls h hP hD hS (lv_sub hl [1, 2] rfl)
      · have h := ite_t c16 h
        refine lv_iload_n hx hb dX4_readValue_55 rfl (lv_at hl 0 rfl) ?_
        refine lv_if_ne (tgt := 85) hx hb dX4_readValue_56 (by decide) (fun c17 => ?_) (fun c17 => ?_)
        · have h := ite_f c17 h
          exact hJ5 _ _ ls h hP hD hS (lv_sub hl [1, 2] rfl)
        · have h := ite_t c17 h
          refine lv_aload_n hx hb dX4_readValue_59 rfl (lv_at hl 1 rfl) ?_
          refine va_get (D := D) (v := .ref (Q_t 0)) (C := RX4) (T := TX4) (N := 8) hx hb hts iX4 hown hK.1 hP 0 rfl rfl 0 (by decide) (hts _ t_242) (fun _ h9 => h9) rfl dX4_readValue_60 ?_
          refine lv_aload_n hx hb dX4_readValue_63 rfl (lv_at hl 1 rfl) ?_
          refine va_get (D := D) (v := .ref (Q_t 0)) (C := RX4) (T := TX4) (N := 8) hx hb hts iX4 hown hK.1 hP 0 rfl rfl 0 (by decide) (hts _ t_242) (fun _ h9 => h9) rfl dX4_readValue_64 ?_
          refine va_get (D := D) (v := .int (gI z_t_0 5)) (C := RX6) (T := TX6) (N := 9) hx hb hts iX6 hown hK.1 hP 5 rfl rfl 5 (by decide) (hts _ t_214) (fun _ h9 => h9) rfl dX4_readValue_67 ?_
          refine lv_sipush (v := 302) hx hb dX4_readValue_70 (by decide) ?_
          obtain ⟨J18, eJ18, h⟩ := jn_some h
          have hJ18 : ∀ (i19 : Int32) (H : Heap) (locs : List Loc) (ls : Array Slot), J18 i19 = some y → va_P D classes (rc4 a q_t Q_t z_t ++ (rc6 a (Q_t 0) Q_t_0 z_t_0)) H → va_D A (rc4 a q_t Q_t z_t ++ (rc6 a (Q_t 0) Q_t_0 z_t_0)) → va_S A s.heap H locs → lv_has ls 3 [] → W p l e (rmM 1 0 0 21) s m #[.ref q_t] below meth c H locs 0 0 (MQ below (va_Qv (fun (_ : Unit) => True) (Bw D A (fun _ => rc4 a q_t Q_t y.1 ++ (rc6 a (Q_t 0) Q_t_0 y.2))) A) #[.ref q_t] s 0 0 A) (F0 m 81 ls [.int i19, .ref (Q_t 0)]) := by
            intro i19 H locs ls h hP hD hS hl
            rw [eJ18] at h
            obtain ⟨z21, hc20, h⟩ := bd_some h
            refine cMv (runV (As := [.int i19]) (rest := []) C (mX6_fail l D a hc20 H.size) lk_V_4_68 okN_X6_fail ⟨Nat.le_of_ble_eq_true rfl, Nat.le_of_ble_eq_true rfl⟩ ⟨rfl, rfl⟩ (preV (preM hK (P_of_map (wc := rc6 a (Q_t 0) Q_t_0 z_t_0) hP [5, 6, 7, 8] rfl) (hD.sub (ws' := rc6 a (Q_t 0) Q_t_0 z_t_0) [5, 6, 7, 8] (by decide) rfl)) (recvOf hK hP 5 rfl (ci := 6) rfl)) hl.1 rfl (Nat.le_of_ble_eq_true rfl) dX4_readValue_81 ⟨Nat.le_of_ble_eq_true rfl, Nat.le_of_ble_eq_true rfl⟩) hP hD hS hA [5, 6, 7, 8] [0, 1, 2, 3, 4] [0, 1, 2, 3, 4, 5, 6, 7, 8] rfl rfl (by decide) (by decide) (fw := rc4 a q_t Q_t z_t ++ (rc6 a (Q_t 0) Q_t_0 z21)) rfl (by decide) (fun H locs hP hD hS => ?_)
            have hP : va_P D classes (rc4 a q_t Q_t z_t ++ (rc6 a (Q_t 0) Q_t_0 z21)) H := hP
            have hD : va_D A (rc4 a q_t Q_t z_t ++ (rc6 a (Q_t 0) Q_t_0 z21)) := hD
            exact rMv C rfl h (g := fun y => rc4 a q_t Q_t y.1 ++ (rc6 a (Q_t 0) Q_t_0 y.2)) hP hD hS dX4_readValue_84
          refine lv_icmp_ne (tgt := 80) hx hb dX4_readValue_73 (by decide) (fun c22 => ?_) (fun c22 => ?_)
          · have h := ite_f c22 h
            refine lv_iconst (v := 0) hx hb dX4_readValue_80 (by decide) ?_
            exact hJ18 0 _ _ ls h hP hD hS (lv_sub hl [] rfl)
          · have h := ite_t c22 h
            refine lv_iconst (v := 1) hx hb dX4_readValue_76 (by decide) ?_
            refine lv_goto (tgt := 81) hx hb dX4_readValue_77 (by decide) ?_
            exact hJ18 1 _ _ ls h hP hD hS (lv_sub hl [] rfl)
    obtain ⟨J23, eJ23, h⟩ := jn_some h
    have hJ23 : ∀ (H : Heap) (locs : List Loc) (ls : Array Slot), J23 = some y → va_P D classes (rc4 a q_t Q_t z_t ++ (rc6 a (Q_t 0) Q_t_0 z_t_0)) H → va_D A (rc4 a q_t Q_t z_t ++ (rc6 a (Q_t 0) Q_t_0 z_t_0)) → va_S A s.heap H locs → lv_has ls 3 [(0, .ref q_t), (1, .int i2)] → W p l e (rmM 1 0 0 21) s m #[.ref q_t] below meth c H locs 0 0 (MQ below (va_Qv (fun (_ : Unit) => True) (Bw D A (fun _ => rc4 a q_t Q_t y.1 ++ (rc6 a (Q_t 0) Q_t_0 y.2))) A) #[.ref q_t] s 0 0 A) (F0 m 49 ls []) := by
      intro H locs ls h hP hD hS hl
      rw [eJ23] at h
      refine lv_iconst (v := 0) hx hb dX4_readValue_49 (by decide) ?_
      exact hJ3 0 _ _ ls h hP hD hS (lv_sub hl [0, 1] rfl)
    refine lv_icmp_lt (tgt := 49) hx hb dX4_readValue_29 (by decide) (fun c24 => ?_) (fun c24 => ?_)
    · have h := ite_t c24 h
      exact hJ23 _ _ ls h hP hD hS (lv_sub hl [1, 0] rfl)
    · have h := ite_f c24 h
      refine lv_aload_n hx hb dX4_readValue_32 rfl (lv_at hl 1 rfl) ?_
      refine va_get (D := D) (v := .ref (Q_t 0)) (C := RX4) (T := TX4) (N := 8) hx hb hts iX4 hown hK.1 hP 0 rfl rfl 0 (by decide) (hts _ t_242) (fun _ h9 => h9) rfl dX4_readValue_33 ?_
      refine va_get (D := D) (v := .int (gI z_t_0 5)) (C := RX6) (T := TX6) (N := 9) hx hb hts iX6 hown hK.1 hP 5 rfl rfl 5 (by decide) (hts _ t_214) (fun _ h9 => h9) rfl dX4_readValue_36 ?_
      refine lv_sipush (v := 320) hx hb dX4_readValue_39 (by decide) ?_
      refine lv_icmp_gt (tgt := 49) hx hb dX4_readValue_42 (by decide) (fun c25 => ?_) (fun c25 => ?_)
      · have h := ite_t c25 h
        exact hJ23 _ _ ls h hP hD hS (lv_sub hl [1, 0] rfl)
      · have h := ite_f c25 h
        refine lv_iconst (v := 1) hx hb dX4_readValue_45 (by decide) ?_
        refine lv_goto (tgt := 50) hx hb dX4_readValue_46 (by decide) ?_
        exact hJ3 1 _ _ ls h hP hD hS (lv_sub hl [1, 0] rfl)
  refine lv_icmp_ne (tgt := 17) hx hb dX4_readValue_10 (by decide) (fun c26 => ?_) (fun c26 => ?_)
  · have h := ite_f c26 h
    refine lv_iconst (v := 0) hx hb dX4_readValue_17 (by decide) ?_
    exact hJ1 0 _ _ ls h hP hD hS (lv_sub hl [0] rfl)
  · have h := ite_t c26 h
    refine lv_iconst (v := 1) hx hb dX4_readValue_13 (by decide) ?_
    refine lv_goto (tgt := 18) hx hb dX4_readValue_14 (by decide) ?_
    exact hJ1 1 _ _ ls h hP hD hS (lv_sub hl [0] rfl)

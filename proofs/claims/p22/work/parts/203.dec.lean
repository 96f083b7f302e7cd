def lX8_partOf_12 (k47 : Int64 → Option (Int64)) (x0 : Int64) (x2 : Int64) (x4 : Int32) : Nat → Int64 → Int64 → Int32 → Option (Int64)
  | 0, _, _, _ => none
  | n + 1, x5, x7, x9 => if 100 ≤ x9 then k47 x5 else if x7 = 0 then k47 x5 else gd (¬ x7 = 0) (lX8_partOf_12 k47 x0 x2 x4 n x7 (x5 - x5 / x7 * x7) (x9 + 1))
def fX8_partOf (x0 : Int64) (x2 : Int64) (x4 : Int32) : Option (Int64) := lX8_partOf_12 (fun (i4 : Int64) => if i4 = 0 then if x4 = 0 then some x0 else some x2 else jn (fun (i7 : Int64) => gd (¬ i4 = 0) (some (i7 / i4))) (fun J6 => if x4 = 0 then J6 x0 else J6 x2)) x0 x2 x4 FU (abL x0) x2 0

set_option maxHeartbeats 4000000 in
set_option maxRecDepth 100000 in
theorem wX8_partOf_12 {p : Program} {l : Launch} {e : Env} {s : State} {m : MethodId} {below : List Frame} {meth : Method} {c : Code} {D : va_G} {a : Nat → ClassId} {x00 : Int64} {x20 : Int64} {x40 : Int32} {x0 : Int64} {x2 : Int64} {x4 : Int32} (C : Cx p s m #[.long x00, .long x20, .int x40] meth c MX8_partOf) (hK : KK D a s) {y : Int64} (hP : va_P D classes ([]) s.heap) {k47 : Int64 → Option (Int64)} (hk47 : ∀ (x5k : Int64) (ls : Array Slot), k47 x5k = some y → lv_has ls 12 [(0, .long x0), (2, .long x2), (4, .int x4), (5, .long x5k)] → W p l e (rmM 1 0 0 30) s m #[.long x00, .long x20, .int x40] below meth c s.heap [] 0 0 (MQ below (vp_Sl (fun r => r = y)) #[.long x00, .long x20, .int x40] s 0 0 (fun _ => False)) (F0 m 47 ls [])) : ∀ (n : Nat) (x5 : Int64) (x7 : Int64) (x9 : Int32) (ls : Array Slot), lX8_partOf_12 k47 x0 x2 x4 n x5 x7 x9 = some y → lv_has ls 12 [(0, .long x0), (2, .long x2), (4, .int x4), (5, .long x5), (7, .long x7), (9, .int x9)] → W p l e (rmM 1 0 0 30) s m #[.long x00, .long x20, .int x40] below meth c s.heap [] 0 0 (MQ below (vp_Sl (fun r => r = y)) #[.long x00, .long x20, .int x40] s 0 0 (fun _ => False)) (F0 m 12 ls []) := by
  obtain ⟨hx, hb, hml, hown, hts, hr, hlocks, hnm⟩ := id C
  have hb : c.code = cX8_partOf := hb
  have hown : s.vm.findClass RX8 = some m.cls := hown
  intro n
  induction n with
  | zero => intro x5 x7 x9 ls h; rw [lX8_partOf_12] at h; cases h
  | succ n ih =>
    intro x5 x7 x9 ls h hl
    rw [lX8_partOf_12] at h
    refine lv_iload hx hb dX8_partOf_12 (lv_at hl 5 rfl) ?_
    refine lv_bipush (v := 100) hx hb dX8_partOf_14 (by decide) ?_
    refine lv_icmp_ge (tgt := 47) hx hb dX8_partOf_16 (by decide) (fun c1 => ?_) (fun c1 => ?_)
    · have h := ite_t c1 h
      exact hk47 x5 ls h (lv_sub hl [0, 1, 2, 3] rfl)
    · have h := ite_f c1 h
      refine lv_lload hx hb dX8_partOf_19 (lv_at hl 4 rfl) ?_
      refine lv_lconst (v := 0) hx hb dX8_partOf_21 (by decide) ?_
      refine W.lcmp hx hb dX8_partOf_22 ?_
      refine lv_if_eq (tgt := 47) hx hb dX8_partOf_23 (by decide) (fun c2 => ?_) (fun c2 => ?_)
      · have h := ite_t ((lg_cmp_eq _ _).mp c2) h
        exact hk47 x5 ls h (lv_sub hl [0, 1, 2, 3] rfl)
      · have h := ite_f (fun q => c2 ((lg_cmp_eq _ _).mpr q)) h
        refine lv_lload hx hb dX8_partOf_26 (lv_at hl 3 rfl) ?_
        refine lv_lload hx hb dX8_partOf_28 (lv_at hl 4 rfl) ?_
        obtain ⟨g3, h⟩ := gd_some h
        refine lv_lrem hx hb dX8_partOf_30 g3 ?_
        refine lv_lstore (lv' := [(10, .long (x5 - x5 / x7 * x7)), (0, .long x0), (2, .long x2), (4, .int x4), (5, .long x5), (7, .long x7), (9, .int x9)]) hx hb dX8_partOf_31 hl (by decide) rfl (fun ls hl => ?_)
        refine lv_lload hx hb dX8_partOf_33 (lv_at hl 5 rfl) ?_
        refine lv_lstore (lv' := [(5, .long x7), (10, .long (x5 - x5 / x7 * x7)), (0, .long x0), (2, .long x2), (4, .int x4), (7, .long x7), (9, .int x9)]) hx hb dX8_partOf_35 hl (by decide) rfl (fun ls hl => ?_)
        refine lv_lload hx hb dX8_partOf_37 (lv_at hl 1 rfl) ?_
        refine lv_lstore (lv' := [(7, .long (x5 - x5 / x7 * x7)), (5, .long x7), (10, .long (x5 - x5 / x7 * x7)), (0, .long x0), (2, .long x2), (4, .int x4), (9, .int x9)]) hx hb dX8_partOf_39 hl (by decide) rfl (fun ls hl => ?_)
        refine lv_iinc (v := x9 + 1) (lv' := [(9, .int (x9 + 1)), (7, .long (x5 - x5 / x7 * x7)), (5, .long x7), (10, .long (x5 - x5 / x7 * x7)), (0, .long x0), (2, .long x2), (4, .int x4)]) hx hb dX8_partOf_41 hl (k := 6) rfl rfl (by decide) rfl (fun ls hl => ?_)
        refine lv_goto (tgt := 12) hx hb dX8_partOf_44 (by decide) ?_
        exact ih x7 (x5 - x5 / x7 * x7) (x9 + 1) ls h (lv_sub hl [4, 5, 6, 2, 1, 0] rfl)

set_option maxHeartbeats 4000000 in
set_option maxRecDepth 100000 in
theorem mX8_partOf (l : Launch) (D : va_G) (a : Nat → ClassId) {x0 : Int64} {x2 : Int64} {x4 : Int32} {y : Int64} (h : fX8_partOf x0 x2 x4 = some y) : CRl l MX8_partOf 1 30 D a [.long x0, .long x2, .int x4] ([]) (fun r => r = y) := by
  unfold fX8_partOf at h
  refine entR (by decide) (Nat.le_of_ble_eq_true rfl) ?_
  intro p e s m below meth c C hK hP ls hl
  obtain ⟨hx, hb, hml, hown, hts, hr, hlocks, hnm⟩ := id C
  have hb : c.code = cX8_partOf := hb
  have hown : s.vm.findClass RX8 = some m.cls := hown
  have hl : lv_has ls 12 [(0, .long x0), (2, .long x2), (4, .int x4)] := hl
  refine lv_lload_n hx hb dX8_partOf_0 rfl (lv_at hl 0 rfl) ?_
  refine va_mabs_long hx hb (by rw [hml]; exact hl.1.symm) hown (hts _ t_765) (hts _ t_766) (hts _ t_14) (hts _ t_767) (Nat.le_of_ble_eq_true rfl) (Nat.le_of_ble_eq_true rfl) (Nat.le_of_ble_eq_true rfl) (Nat.le_of_ble_eq_true rfl) dX8_partOf_1 ?_
  refine lv_lstore (lv' := [(5, .long (abL x0)), (0, .long x0), (2, .long x2), (4, .int x4)]) hx hb dX8_partOf_4 hl (by decide) rfl (fun ls hl => ?_)
  refine lv_lload_n hx hb dX8_partOf_6 rfl (lv_at hl 2 rfl) ?_
  refine lv_lstore (lv' := [(7, .long x2), (5, .long (abL x0)), (0, .long x0), (2, .long x2), (4, .int x4)]) hx hb dX8_partOf_7 hl (by decide) rfl (fun ls hl => ?_)
  refine lv_iconst (v := 0) hx hb dX8_partOf_9 (by decide) ?_
  refine lv_istore (lv' := [(9, .int 0), (7, .long x2), (5, .long (abL x0)), (0, .long x0), (2, .long x2), (4, .int x4)]) hx hb dX8_partOf_10 hl (by decide) rfl (fun ls hl => ?_)
  refine wX8_partOf_12 C hK hP ?_ FU (abL x0) x2 0 ls h (lv_sub hl [3, 4, 5, 2, 1, 0] rfl)
  · intro i4 ls h hl
    refine lv_lload hx hb dX8_partOf_47 (lv_at hl 3 rfl) ?_
    refine lv_lconst (v := 0) hx hb dX8_partOf_49 (by decide) ?_
    refine W.lcmp hx hb dX8_partOf_50 ?_
    refine lv_if_ne (tgt := 65) hx hb dX8_partOf_51 (by decide) (fun c5 => ?_) (fun c5 => ?_)
    · have h := ite_f (fun q => c5 ((lg_cmp_eq _ _).mpr q)) h
      refine lv_iload hx hb dX8_partOf_65 (lv_at hl 2 rfl) ?_
      obtain ⟨J6, eJ6, h⟩ := jn_some h
      have hJ6 : ∀ (i7 : Int64) (ls : Array Slot), J6 i7 = some y → lv_has ls 12 [(5, .long i4)] → W p l e (rmM 1 0 0 30) s m #[.long x0, .long x2, .int x4] below meth c s.heap [] 0 0 (MQ below (vp_Sl (fun r => r = y)) #[.long x0, .long x2, .int x4] s 0 0 (fun _ => False)) (F0 m 75 ls [.long i7]) := by
        intro i7 ls h hl
        rw [eJ6] at h
        refine lv_lload hx hb dX8_partOf_75 (lv_at hl 0 rfl) ?_
        obtain ⟨g8, h⟩ := gd_some h
        refine lv_ldiv hx hb dX8_partOf_77 g8 ?_
        exact rRl C rfl (Option.some.inj h) dX8_partOf_78
      refine lv_if_ne (tgt := 74) hx hb dX8_partOf_67 (by decide) (fun c9 => ?_) (fun c9 => ?_)
      · have h := ite_f c9 h
        refine lv_lload_n hx hb dX8_partOf_74 rfl (lv_at hl 1 rfl) ?_
        exact hJ6 x2 ls h (lv_sub hl [3] rfl)
      · have h := ite_t c9 h
        refine lv_lload_n hx hb dX8_partOf_70 rfl (lv_at hl 0 rfl) ?_
        refine lv_goto (tgt := 75) hx hb dX8_partOf_71 (by decide) ?_
        exact hJ6 x0 ls h (lv_sub hl [3] rfl)
    · have h := ite_t ((lg_cmp_eq _ _).mp c5) h
      refine lv_iload hx hb dX8_partOf_54 (lv_at hl 2 rfl) ?_
      refine lv_if_ne (tgt := 63) hx hb dX8_partOf_56 (by decide) (fun c10 => ?_) (fun c10 => ?_)
      · have h := ite_f c10 h
        refine lv_lload_n hx hb dX8_partOf_63 rfl (lv_at hl 1 rfl) ?_
        exact rRl C rfl (Option.some.inj h) dX8_partOf_64
      · have h := ite_t c10 h
        refine lv_lload_n hx hb dX8_partOf_59 rfl (lv_at hl 0 rfl) ?_
        refine lv_goto (tgt := 64) hx hb dX8_partOf_60 (by decide) ?_
        exact rRl C rfl (Option.some.inj h) dX8_partOf_64

def fX8_mixed (z_t : Sx) (z_t_5 : Sx) (x1 : Int32) (x2 : Int32) : Option (Int32) := if x1 < 0 then some (-1) else if 1 < x1 then some (-1) else if x2 < 0 then some (-1) else if x2 ≤ 1 then bd (fX8_rests z_t z_t_5) (fun r6 => if r6 = 0 then jn (fun (i9 : Int32) => jn (fun (i11 : Int32) => jn (fun (i13 : Int32) => bd (fX8_partOf i13.toInt64 ((abI (i9 + i11)).toInt64) x2) (fun r15 => some r15.toInt32)) (fun J12 => if 0 ≤ (i9 + i11) then J12 i11 else J12 (-i11))) (fun J10 => if x1 = 0 then bd (fX8_at 8 (gT z_t_5 7) 7) (fun r23 => bd (fX8_at 8 (gT z_t_5 7) 6) (fun r25 => J10 (r23 - r25))) else bd (fX8_at 8 (gT z_t_5 7) 3) (fun r19 => bd (fX8_at 8 (gT z_t_5 7) 1) (fun r21 => J10 (r19 - r21))))) (fun J8 => if x1 = 0 then bd (fX8_at 8 (gT z_t_5 7) 4) (fun r32 => bd (fX8_at 8 (gT z_t_5 7) 5) (fun r34 => J8 (r32 - r34))) else bd (fX8_at 8 (gT z_t_5 7) 0) (fun r28 => bd (fX8_at 8 (gT z_t_5 7) 2) (fun r30 => J8 (r28 - r30)))) else some (-2)) else some (-1)

set_option maxHeartbeats 4000000 in
set_option maxRecDepth 100000 in
theorem mX8_mixed (l : Launch) (D : va_G) (a : Nat → ClassId) {q_t : Nat} {Q_t : Nat → Nat} {z_t : Sx} {Q_t_5 : Nat → Nat} {z_t_5 : Sx} {x1 : Int32} {x2 : Int32} {y : Int32} (h : fX8_mixed z_t z_t_5 x1 x2 = some y) : CRi l MX8_mixed 2 61 D a [.ref q_t, .int x1, .int x2] (rc8 a q_t Q_t z_t ++ (rc5 a (Q_t 5) Q_t_5 z_t_5)) (fun r => r = y) := by
  unfold fX8_mixed at h
  refine entR (by decide) (Nat.le_of_ble_eq_true rfl) ?_
  intro p e s m below meth c C hK hP ls hl
  obtain ⟨hx, hb, hml, hown, hts, hr, hlocks, hnm⟩ := id C
  have hb : c.code = cX8_mixed := hb
  have hown : s.vm.findClass RX8 = some m.cls := hown
  have hl : lv_has ls 7 [(0, .ref q_t), (1, .int x1), (2, .int x2)] := hl
  refine lv_iload_n hx hb dX8_mixed_0 rfl (lv_at hl 1 rfl) ?_
  refine lv_if_lt (tgt := 18) hx hb dX8_mixed_1 (by decide) (fun c1 => ?_) (fun c1 => ?_)
  · have h := ite_t c1 h
    refine lv_iconst (v := (-1)) hx hb dX8_mixed_18 (by decide) ?_
    exact rRi C rfl (Option.some.inj h) dX8_mixed_19
  · have h := ite_f c1 h
    refine lv_iload_n hx hb dX8_mixed_4 rfl (lv_at hl 1 rfl) ?_
    refine lv_iconst (v := 1) hx hb dX8_mixed_5 (by decide) ?_
    refine lv_icmp_gt (tgt := 18) hx hb dX8_mixed_6 (by decide) (fun c2 => ?_) (fun c2 => ?_)
    · have h := ite_t c2 h
      refine lv_iconst (v := (-1)) hx hb dX8_mixed_18 (by decide) ?_
      exact rRi C rfl (Option.some.inj h) dX8_mixed_19
    · have h := ite_f c2 h
      refine lv_iload_n hx hb dX8_mixed_9 rfl (lv_at hl 2 rfl) ?_
      refine lv_if_lt (tgt := 18) hx hb dX8_mixed_10 (by decide) (fun c3 => ?_) (fun c3 => ?_)
      · have h := ite_t c3 h
        refine lv_iconst (v := (-1)) hx hb dX8_mixed_18 (by decide) ?_
        exact rRi C rfl (Option.some.inj h) dX8_mixed_19
      · have h := ite_f c3 h
        refine lv_iload_n hx hb dX8_mixed_13 rfl (lv_at hl 2 rfl) ?_
        refine lv_iconst (v := 1) hx hb dX8_mixed_14 (by decide) ?_
        refine lv_icmp_le (tgt := 20) hx hb dX8_mixed_15 (by decide) (fun c4 => ?_) (fun c4 => ?_)
        · have h := ite_t c4 h
          refine lv_aload_n hx hb dX8_mixed_20 rfl (lv_at hl 0 rfl) ?_
          obtain ⟨r6, hc5, h⟩ := bd_some h
          refine cRi (runV (As := []) (rest := []) C (mX8_rests l D a hc5) lk_V_8_286 okN_X8_rests ⟨Nat.le_of_ble_eq_true rfl, Nat.le_of_ble_eq_true rfl⟩ ⟨rfl, rfl⟩ (preV (preR hK hP) (recvOf hK hP 0 rfl (ci := 8) rfl)) hl.1 rfl (Nat.le_of_ble_eq_true rfl) dX8_mixed_21 ⟨Nat.le_of_ble_eq_true rfl, Nat.le_of_ble_eq_true rfl⟩) ?_
          refine lv_if_eq (tgt := 30) hx hb dX8_mixed_24 (by decide) (fun c7 => ?_) (fun c7 => ?_)
          · have h := ite_t c7 h
            refine lv_aload_n hx hb dX8_mixed_30 rfl (lv_at hl 0 rfl) ?_
            refine va_get (D := D) (v := .ref (Q_t 5)) (C := RX8) (T := TX8) (N := 11) hx hb hts iX8 hown hK.1 hP 0 rfl rfl 5 (by decide) (hts _ t_305) (fun _ h9 => h9) rfl dX8_mixed_31 ?_
            refine va_get (D := D) (v := .ref (Q_t_5 7)) (C := RX5) (T := TX5) (N := 8) hx hb hts iX5 hown hK.1 hP 2 rfl rfl 7 (by decide) (hts _ t_175) (fun _ h9 => h9) rfl dX8_mixed_34 ?_
            refine lv_astore_n (lv' := [(3, .ref (Q_t_5 7)), (0, .ref q_t), (1, .int x1), (2, .int x2)]) hx hb dX8_mixed_37 rfl hl (by decide) rfl (fun ls hl => ?_)
            refine lv_iload_n hx hb dX8_mixed_38 rfl (lv_at hl 2 rfl) ?_
            obtain ⟨J8, eJ8, h⟩ := jn_some h
            have hJ8 : ∀ (i9 : Int32) (ls : Array Slot), J8 i9 = some y → lv_has ls 7 [(1, .int x1), (2, .int x2), (3, .ref (Q_t_5 7))] → W p l e (rmM 2 0 0 61) s m #[.ref q_t, .int x1, .int x2] below meth c s.heap [] 0 0 (MQ below (vp_Si (fun r => r = y)) #[.ref q_t, .int x1, .int x2] s 0 0 (fun _ => False)) (F0 m 67 ls [.int i9]) := by
              intro i9 ls h hl
              rw [eJ8] at h
              refine lv_istore (lv' := [(4, .int i9), (1, .int x1), (2, .int x2), (3, .ref (Q_t_5 7))]) hx hb dX8_mixed_67 hl (by decide) rfl (fun ls hl => ?_)
              refine lv_iload_n hx hb dX8_mixed_69 rfl (lv_at hl 1 rfl) ?_
              obtain ⟨J10, eJ10, h⟩ := jn_some h
              have hJ10 : ∀ (i11 : Int32) (ls : Array Slot), J10 i11 = some y → lv_has ls 7 [(2, .int x2), (4, .int i9)] → W p l e (rmM 2 0 0 61) s m #[.ref q_t, .int x1, .int x2] below meth c s.heap [] 0 0 (MQ below (vp_Si (fun r => r = y)) #[.ref q_t, .int x1, .int x2] s 0 0 (fun _ => False)) (F0 m 100 ls [.int i11]) := by
                intro i11 ls h hl
                rw [eJ10] at h
                refine lv_istore (lv' := [(5, .int i11), (2, .int x2), (4, .int i9)]) hx hb dX8_mixed_100 hl (by decide) rfl (fun ls hl => ?_)
                refine lv_iload hx hb dX8_mixed_102 (lv_at hl 2 rfl) ?_
                refine lv_iload hx hb dX8_mixed_104 (lv_at hl 0 rfl) ?_
                refine lv_iadd hx hb dX8_mixed_106 ?_
                obtain ⟨J12, eJ12, h⟩ := jn_some h
                have hJ12 : ∀ (i13 : Int32) (ls : Array Slot), J12 i13 = some y → lv_has ls 7 [(2, .int x2), (4, .int i9), (5, .int i11)] → W p l e (rmM 2 0 0 61) s m #[.ref q_t, .int x1, .int x2] below meth c s.heap [] 0 0 (MQ below (vp_Si (fun r => r = y)) #[.ref q_t, .int x1, .int x2] s 0 0 (fun _ => False)) (F0 m 118 ls [.int i13]) := by
                  intro i13 ls h hl
                  rw [eJ12] at h
                  refine lv_istore (lv' := [(6, .int i13), (2, .int x2), (4, .int i9), (5, .int i11)]) hx hb dX8_mixed_118 hl (by decide) rfl (fun ls hl => ?_)
                  refine lv_iload hx hb dX8_mixed_120 (lv_at hl 0 rfl) ?_
                  refine lv_i2l (v := i13.toInt64) hx hb dX8_mixed_122 rfl ?_
                  refine lv_iload hx hb dX8_mixed_123 (lv_at hl 2 rfl) ?_
                  refine lv_iload hx hb dX8_mixed_125 (lv_at hl 3 rfl) ?_
                  refine lv_iadd hx hb dX8_mixed_127 ?_
                  refine va_mabs hx hb (by rw [hml]; exact hl.1.symm) hown (hts _ t_843) (hts _ t_844) (hts _ t_14) (hts _ t_845) (Nat.le_of_ble_eq_true rfl) (Nat.le_of_ble_eq_true rfl) (Nat.le_of_ble_eq_true rfl) (Nat.le_of_ble_eq_true rfl) dX8_mixed_128 ?_
                  refine lv_i2l (v := (abI (i9 + i11)).toInt64) hx hb dX8_mixed_131 rfl ?_
                  refine lv_iload_n hx hb dX8_mixed_132 rfl (lv_at hl 1 rfl) ?_
                  obtain ⟨r15, hc14, h⟩ := bd_some h
                  refine cRl (runS (As := [.long i13.toInt64, .long ((abI (i9 + i11)).toInt64), .int x2]) (rest := []) C (mX8_partOf l D a hc14) lk_S_8_253 okN_X8_partOf ⟨Nat.le_of_ble_eq_true rfl, Nat.le_of_ble_eq_true rfl⟩ ⟨rfl, rfl⟩ (preR hK (P_of_map (wc := []) hP [] rfl)) hl.1 rfl (Nat.le_of_ble_eq_true rfl) dX8_mixed_133 ⟨Nat.le_of_ble_eq_true rfl, Nat.le_of_ble_eq_true rfl⟩) ?_
                  refine lv_l2i (v := r15.toInt32) hx hb dX8_mixed_136 rfl ?_
                  exact rRi C rfl (Option.some.inj h) dX8_mixed_137
                refine lv_if_ge (tgt := 116) hx hb dX8_mixed_107 (by decide) (fun c16 => ?_) (fun c16 => ?_)
                · have h := ite_t c16 h
                  refine lv_iload hx hb dX8_mixed_116 (lv_at hl 0 rfl) ?_
                  exact hJ12 i11 ls h (lv_sub hl [1, 2, 0] rfl)
                · have h := ite_f c16 h
                  refine lv_iload hx hb dX8_mixed_110 (lv_at hl 0 rfl) ?_
                  refine lv_ineg hx hb dX8_mixed_112 ?_
                  refine lv_goto (tgt := 118) hx hb dX8_mixed_113 (by decide) ?_
                  exact hJ12 (-i11) ls h (lv_sub hl [1, 2, 0] rfl)
              refine lv_if_ne (tgt := 89) hx hb dX8_mixed_70 (by decide) (fun c17 => ?_) (fun c17 => ?_)
              · have h := ite_f c17 h
                refine lv_aload_n hx hb dX8_mixed_89 rfl (lv_at hl 3 rfl) ?_
                refine lv_iconst (v := 3) hx hb dX8_mixed_90 (by decide) ?_
                obtain ⟨r19, hc18, h⟩ := bd_some h
                refine cRi (runS (As := [.ref (Q_t_5 7), .int 3]) (rest := []) C (mX8_at l D a hc18) lk_S_8_129 okN_X8_at ⟨Nat.le_of_ble_eq_true rfl, Nat.le_of_ble_eq_true rfl⟩ ⟨rfl, rfl⟩ (preR hK (P_of_map (wc := ra0 a (Q_t_5 7) 8 (gT z_t_5 7)) hP [4] rfl)) hl.1 rfl (Nat.le_of_ble_eq_true rfl) dX8_mixed_91 ⟨Nat.le_of_ble_eq_true rfl, Nat.le_of_ble_eq_true rfl⟩) ?_
                refine lv_aload_n hx hb dX8_mixed_94 rfl (lv_at hl 3 rfl) ?_
                refine lv_iconst (v := 1) hx hb dX8_mixed_95 (by decide) ?_
                obtain ⟨r21, hc20, h⟩ := bd_some h
                refine cRi (runS (As := [.ref (Q_t_5 7), .int 1]) (rest := [.int r19]) C (mX8_at l D a hc20) lk_S_8_129 okN_X8_at ⟨Nat.le_of_ble_eq_true rfl, Nat.le_of_ble_eq_true rfl⟩ ⟨rfl, rfl⟩ (preR hK (P_of_map (wc := ra0 a (Q_t_5 7) 8 (gT z_t_5 7)) hP [4] rfl)) hl.1 rfl (Nat.le_of_ble_eq_true rfl) dX8_mixed_96 ⟨Nat.le_of_ble_eq_true rfl, Nat.le_of_ble_eq_true rfl⟩) ?_
                refine lv_isub hx hb dX8_mixed_99 ?_
                exact hJ10 (r19 - r21) ls h (lv_sub hl [2, 0] rfl)
              · have h := ite_t c17 h
                refine lv_aload_n hx hb dX8_mixed_73 rfl (lv_at hl 3 rfl) ?_
                refine lv_bipush (v := 7) hx hb dX8_mixed_74 (by decide) ?_
                obtain ⟨r23, hc22, h⟩ := bd_some h
                refine cRi (runS (As := [.ref (Q_t_5 7), .int 7]) (rest := []) C (mX8_at l D a hc22) lk_S_8_129 okN_X8_at ⟨Nat.le_of_ble_eq_true rfl, Nat.le_of_ble_eq_true rfl⟩ ⟨rfl, rfl⟩ (preR hK (P_of_map (wc := ra0 a (Q_t_5 7) 8 (gT z_t_5 7)) hP [4] rfl)) hl.1 rfl (Nat.le_of_ble_eq_true rfl) dX8_mixed_76 ⟨Nat.le_of_ble_eq_true rfl, Nat.le_of_ble_eq_true rfl⟩) ?_
                refine lv_aload_n hx hb dX8_mixed_79 rfl (lv_at hl 3 rfl) ?_
                refine lv_bipush (v := 6) hx hb dX8_mixed_80 (by decide) ?_
                obtain ⟨r25, hc24, h⟩ := bd_some h
                refine cRi (runS (As := [.ref (Q_t_5 7), .int 6]) (rest := [.int r23]) C (mX8_at l D a hc24) lk_S_8_129 okN_X8_at ⟨Nat.le_of_ble_eq_true rfl, Nat.le_of_ble_eq_true rfl⟩ ⟨rfl, rfl⟩ (preR hK (P_of_map (wc := ra0 a (Q_t_5 7) 8 (gT z_t_5 7)) hP [4] rfl)) hl.1 rfl (Nat.le_of_ble_eq_true rfl) dX8_mixed_82 ⟨Nat.le_of_ble_eq_true rfl, Nat.le_of_ble_eq_true rfl⟩) ?_
                refine lv_isub hx hb dX8_mixed_85 ?_
                refine lv_goto (tgt := 100) hx hb dX8_mixed_86 (by decide) ?_
                exact hJ10 (r23 - r25) ls h (lv_sub hl [2, 0] rfl)
            refine lv_if_ne (tgt := 56) hx hb dX8_mixed_39 (by decide) (fun c26 => ?_) (fun c26 => ?_)
            · have h := ite_f c26 h
              refine lv_aload_n hx hb dX8_mixed_56 rfl (lv_at hl 0 rfl) ?_
              refine lv_iconst (v := 0) hx hb dX8_mixed_57 (by decide) ?_
              obtain ⟨r28, hc27, h⟩ := bd_some h
              refine cRi (runS (As := [.ref (Q_t_5 7), .int 0]) (rest := []) C (mX8_at l D a hc27) lk_S_8_129 okN_X8_at ⟨Nat.le_of_ble_eq_true rfl, Nat.le_of_ble_eq_true rfl⟩ ⟨rfl, rfl⟩ (preR hK (P_of_map (wc := ra0 a (Q_t_5 7) 8 (gT z_t_5 7)) hP [4] rfl)) hl.1 rfl (Nat.le_of_ble_eq_true rfl) dX8_mixed_58 ⟨Nat.le_of_ble_eq_true rfl, Nat.le_of_ble_eq_true rfl⟩) ?_
              refine lv_aload_n hx hb dX8_mixed_61 rfl (lv_at hl 0 rfl) ?_
              refine lv_iconst (v := 2) hx hb dX8_mixed_62 (by decide) ?_
              obtain ⟨r30, hc29, h⟩ := bd_some h
              refine cRi (runS (As := [.ref (Q_t_5 7), .int 2]) (rest := [.int r28]) C (mX8_at l D a hc29) lk_S_8_129 okN_X8_at ⟨Nat.le_of_ble_eq_true rfl, Nat.le_of_ble_eq_true rfl⟩ ⟨rfl, rfl⟩ (preR hK (P_of_map (wc := ra0 a (Q_t_5 7) 8 (gT z_t_5 7)) hP [4] rfl)) hl.1 rfl (Nat.le_of_ble_eq_true rfl) dX8_mixed_63 ⟨Nat.le_of_ble_eq_true rfl, Nat.le_of_ble_eq_true rfl⟩) ?_
              refine lv_isub hx hb dX8_mixed_66 ?_
              exact hJ8 (r28 - r30) ls h (lv_sub hl [2, 3, 0] rfl)
            · have h := ite_t c26 h
              refine lv_aload_n hx hb dX8_mixed_42 rfl (lv_at hl 0 rfl) ?_
              refine lv_iconst (v := 4) hx hb dX8_mixed_43 (by decide) ?_
              obtain ⟨r32, hc31, h⟩ := bd_some h
              refine cRi (runS (As := [.ref (Q_t_5 7), .int 4]) (rest := []) C (mX8_at l D a hc31) lk_S_8_129 okN_X8_at ⟨Nat.le_of_ble_eq_true rfl, Nat.le_of_ble_eq_true rfl⟩ ⟨rfl, rfl⟩ (preR hK (P_of_map (wc := ra0 a (Q_t_5 7) 8 (gT z_t_5 7)) hP [4] rfl)) hl.1 rfl (Nat.le_of_ble_eq_true rfl) dX8_mixed_44 ⟨Nat.le_of_ble_eq_true rfl, Nat.le_of_ble_eq_true rfl⟩) ?_
              refine lv_aload_n hx hb dX8_mixed_47 rfl (lv_at hl 0 rfl) ?_
              refine lv_iconst (v := 5) hx hb dX8_mixed_48 (by decide) ?_
              obtain ⟨r34, hc33, h⟩ := bd_some h
              refine cRi (runS (As := [.ref (Q_t_5 7), .int 5]) (rest := [.int r32]) C (mX8_at l D a hc33) lk_S_8_129 okN_X8_at ⟨Nat.le_of_ble_eq_true rfl, Nat.le_of_ble_eq_true rfl⟩ ⟨rfl, rfl⟩ (preR hK (P_of_map (wc := ra0 a (Q_t_5 7) 8 (gT z_t_5 7)) hP [4] rfl)) hl.1 rfl (Nat.le_of_ble_eq_true rfl) dX8_mixed_49 ⟨Nat.le_of_ble_eq_true rfl, Nat.le_of_ble_eq_true rfl⟩) ?_
              refine lv_isub hx hb dX8_mixed_52 ?_
              refine lv_goto (tgt := 67) hx hb dX8_mixed_53 (by decide) ?_
              exact hJ8 (r32 - r34) ls h (lv_sub hl [2, 3, 0] rfl)
          · have h := ite_f c7 h
            refine lv_bipush (v := (-2)) hx hb dX8_mixed_27 (by decide) ?_
            exact rRi C rfl (Option.some.inj h) dX8_mixed_29
        · have h := ite_f c4 h
          refine lv_iconst (v := (-1)) hx hb dX8_mixed_18 (by decide) ?_
          exact rRi C rfl (Option.some.inj h) dX8_mixed_19

def gX8_rowMean (rec : Sx → Sx → Sx → Int32 → Int32 → Int32 → Int32 → Option (Int64)) (z_t : Sx) (z_t_5 : Sx) (z_t_5_0 : Sx) (x1 : Int32) (x2 : Int32) (x3 : Int32) (x4 : Int32) : Option (Int64) := if (gI z_t_5 6) ≤ x1 then some 0 else if x1 < 8 then bd (fX8_at 8 (gT z_t_5 5) x1) (fun r4 => bd (fX8_at 10 (gT z_t_5_0 9) r4) (fun r6 => bd (fX7_isOpen z_t_5_0 r4 x2) (fun r8 => jn (bd (rec z_t z_t_5 z_t_5_0 (x1 + 1) x2 x3 x4) (fun r11 => some (100 * r11))) (fun J9 => if r8 = 0 then J9 else if r6 ≤ x3 then bd (fX8_at 10 (gT z_t_5_0 10) r4) (fun r15 => jn (fun (i17 : Int32) => bd (fX8_hundreds (((gI z_t_5 6) - x1) - 1)) (fun r19 => bd (fX8_bit r4) (fun r21 => bd (rec z_t z_t_5 z_t_5_0 (x1 + 1) (x2 ||| r21) (x3 - r6) x4) (fun r23 => bd (rec z_t z_t_5 z_t_5_0 (x1 + 1) x2 (x3 - r6) x4) (fun r25 => some ((r15.toInt64 * ((i17.toInt64 * r19) + r23)) + (((100 - r15).toInt64) * r25))))))) (fun J16 => if x4 = (-1) then bd (fX8_at 10 (gT z_t_5_0 12) r4) (fun r29 => J16 r29) else if r4 = x4 then J16 1 else J16 0)) else J9)))) else some 0
def fX8_rowMean : Nat → Sx → Sx → Sx → Int32 → Int32 → Int32 → Int32 → Option (Int64)
  | 0 => fun _ _ _ _ _ _ _ => none
  | dp + 1 => gX8_rowMean (fX8_rowMean dp)

set_option maxHeartbeats 4000000 in
set_option maxRecDepth 100000 in
theorem gmX8_rowMean (l : Launch) (D : va_G) (a : Nat → ClassId) {F LO : Nat} {rec : Sx → Sx → Sx → Int32 → Int32 → Int32 → Int32 → Option (Int64)} (hrec : ∀ {q_t : Nat} {Q_t : Nat → Nat} {z_t : Sx} {Q_t_5 : Nat → Nat} {z_t_5 : Sx} {Q_t_5_0 : Nat → Nat} {z_t_5_0 : Sx} {x1 : Int32} {x2 : Int32} {x3 : Int32} {x4 : Int32} {y9 : Int64}, rec z_t z_t_5 z_t_5_0 x1 x2 x3 x4 = some y9 → CRl l MX8_rowMean F LO D a [.ref q_t, .int x1, .int x2, .int x3, .int x4] (rc8 a q_t Q_t z_t ++ (rc5 a (Q_t 5) Q_t_5 z_t_5 ++ (rc7 a (Q_t_5 0) Q_t_5_0 z_t_5_0))) (fun r => r = y9)) (hF : 1 ≤ F) (hL : 23 ≤ LO) {q_t : Nat} {Q_t : Nat → Nat} {z_t : Sx} {Q_t_5 : Nat → Nat} {z_t_5 : Sx} {Q_t_5_0 : Nat → Nat} {z_t_5_0 : Sx} {x1 : Int32} {x2 : Int32} {x3 : Int32} {x4 : Int32} {y : Int64} (h : gX8_rowMean rec z_t z_t_5 z_t_5_0 x1 x2 x3 x4 = some y) : CRl l MX8_rowMean (F + 1) (LO + 32) D a [.ref q_t, .int x1, .int x2, .int x3, .int x4] (rc8 a q_t Q_t z_t ++ (rc5 a (Q_t 5) Q_t_5 z_t_5 ++ (rc7 a (Q_t_5 0) Q_t_5_0 z_t_5_0))) (fun r => r = y) := by
  unfold gX8_rowMean at h
  refine entR (by decide) (Nat.le_of_ble_eq_true rfl) ?_
  intro p e s m below meth c C hK hP ls hl
  obtain ⟨hx, hb, hml, hown, hts, hr, hlocks, hnm⟩ := id C
  have hb : c.code = cX8_rowMean := hb
  have hown : s.vm.findClass RX8 = some m.cls := hown
  have hl : lv_has ls 13 [(0, .ref q_t), (1, .int x1), (2, .int x2), (3, .int x3), (4, .int x4)] := hl
  refine lv_iload_n hx hb dX8_rowMean_0 rfl (lv_at hl 1 rfl) ?_
  refine lv_aload_n hx hb dX8_rowMean_1 rfl (lv_at hl 0 rfl) ?_
  refine va_get (D := D) (v := .ref (Q_t 5)) (C := RX8) (T := TX8) (N := 11) hx hb hts iX8 hown hK.1 hP 0 rfl rfl 5 (by decide) (hts _ t_305) (fun _ h9 => h9) rfl dX8_rowMean_2 ?_
  refine va_get (D := D) (v := .int (gI z_t_5 6)) (C := RX5) (T := TX5) (N := 8) hx hb hts iX5 hown hK.1 hP 2 rfl rfl 6 (by decide) (hts _ t_173) (fun _ h9 => h9) rfl dX8_rowMean_5 ?_
  refine lv_icmp_ge (tgt := 17) hx hb dX8_rowMean_8 (by decide) (fun c1 => ?_) (fun c1 => ?_)
  · have h := ite_t c1 h
    refine lv_lconst (v := 0) hx hb dX8_rowMean_17 (by decide) ?_
    exact rRl C rfl (Option.some.inj h) dX8_rowMean_18
  · have h := ite_f c1 h
    refine lv_iload_n hx hb dX8_rowMean_11 rfl (lv_at hl 1 rfl) ?_
    refine lv_bipush (v := 8) hx hb dX8_rowMean_12 (by decide) ?_
    refine lv_icmp_lt (tgt := 19) hx hb dX8_rowMean_14 (by decide) (fun c2 => ?_) (fun c2 => ?_)
    · have h := ite_t c2 h
      refine lv_aload_n hx hb dX8_rowMean_19 rfl (lv_at hl 0 rfl) ?_
      refine va_get (D := D) (v := .ref (Q_t 5)) (C := RX8) (T := TX8) (N := 11) hx hb hts iX8 hown hK.1 hP 0 rfl rfl 5 (by decide) (hts _ t_305) (fun _ h9 => h9) rfl dX8_rowMean_20 ?_
      refine va_get (D := D) (v := .ref (Q_t_5 5)) (C := RX5) (T := TX5) (N := 8) hx hb hts iX5 hown hK.1 hP 2 rfl rfl 5 (by decide) (hts _ t_171) (fun _ h9 => h9) rfl dX8_rowMean_23 ?_
      refine lv_iload_n hx hb dX8_rowMean_26 rfl (lv_at hl 1 rfl) ?_
      obtain ⟨r4, hc3, h⟩ := bd_some h
      refine cRi (runS (As := [.ref (Q_t_5 5), .int x1]) (rest := []) C (mX8_at l D a hc3) lk_S_8_129 okN_X8_at (by constructor; (show 0 + 1 ≤ F + 1; omega); (show 8 + (2 + 11) + (0) ≤ LO + 32; omega)) ⟨rfl, rfl⟩ (preR hK (P_of_map (wc := ra0 a (Q_t_5 5) 8 (gT z_t_5 5)) hP [3] rfl)) hl.1 rfl (Nat.le_of_ble_eq_true rfl) dX8_rowMean_27 ⟨Nat.le_of_ble_eq_true rfl, Nat.le_of_ble_eq_true rfl⟩) ?_
      refine lv_istore (lv' := [(5, .int r4), (0, .ref q_t), (1, .int x1), (2, .int x2), (3, .int x3), (4, .int x4)]) hx hb dX8_rowMean_30 hl (by decide) rfl (fun ls hl => ?_)
      refine lv_aload_n hx hb dX8_rowMean_32 rfl (lv_at hl 1 rfl) ?_
      refine va_get (D := D) (v := .ref (Q_t 5)) (C := RX8) (T := TX8) (N := 11) hx hb hts iX8 hown hK.1 hP 0 rfl rfl 5 (by decide) (hts _ t_305) (fun _ h9 => h9) rfl dX8_rowMean_33 ?_
      refine va_get (D := D) (v := .ref (Q_t_5 0)) (C := RX5) (T := TX5) (N := 8) hx hb hts iX5 hown hK.1 hP 2 rfl rfl 0 (by decide) (hts _ t_161) (fun _ h9 => h9) rfl dX8_rowMean_36 ?_
      refine va_get (D := D) (v := .ref (Q_t_5_0 9)) (C := RX7) (T := TX7) (N := 18) hx hb hts iX7 hown hK.1 hP 5 rfl rfl 9 (by decide) (hts _ t_62) (fun _ h9 => h9) rfl dX8_rowMean_39 ?_
      refine lv_iload hx hb dX8_rowMean_42 (lv_at hl 0 rfl) ?_
      obtain ⟨r6, hc5, h⟩ := bd_some h
      refine cRi (runS (As := [.ref (Q_t_5_0 9), .int r4]) (rest := []) C (mX8_at l D a hc5) lk_S_8_129 okN_X8_at (by constructor; (show 0 + 1 ≤ F + 1; omega); (show 8 + (2 + 11) + (0) ≤ LO + 32; omega)) ⟨rfl, rfl⟩ (preR hK (P_of_map (wc := ra0 a (Q_t_5_0 9) 10 (gT z_t_5_0 9)) hP [10] rfl)) hl.1 rfl (Nat.le_of_ble_eq_true rfl) dX8_rowMean_44 ⟨Nat.le_of_ble_eq_true rfl, Nat.le_of_ble_eq_true rfl⟩) ?_
      refine lv_istore (lv' := [(6, .int r6), (5, .int r4), (0, .ref q_t), (1, .int x1), (2, .int x2), (3, .int x3), (4, .int x4)]) hx hb dX8_rowMean_47 hl (by decide) rfl (fun ls hl => ?_)
      refine lv_aload_n hx hb dX8_rowMean_49 rfl (lv_at hl 2 rfl) ?_
      refine va_get (D := D) (v := .ref (Q_t 5)) (C := RX8) (T := TX8) (N := 11) hx hb hts iX8 hown hK.1 hP 0 rfl rfl 5 (by decide) (hts _ t_305) (fun _ h9 => h9) rfl dX8_rowMean_50 ?_
      refine va_get (D := D) (v := .ref (Q_t_5 0)) (C := RX5) (T := TX5) (N := 8) hx hb hts iX5 hown hK.1 hP 2 rfl rfl 0 (by decide) (hts _ t_161) (fun _ h9 => h9) rfl dX8_rowMean_53 ?_
      refine lv_iload hx hb dX8_rowMean_56 (lv_at hl 1 rfl) ?_
      refine lv_iload_n hx hb dX8_rowMean_58 rfl (lv_at hl 4 rfl) ?_
      obtain ⟨r8, hc7, h⟩ := bd_some h
      refine cRi (runV (As := [.int r4, .int x2]) (rest := []) C (mX7_isOpen l D a hc7) lk_V_8_175 okN_X7_isOpen (by constructor; (show 0 + 1 ≤ F + 1; omega); (show 8 + (4 + 11) + (0) ≤ LO + 32; omega)) ⟨rfl, rfl⟩ (preV (preR hK (P_of_map (wc := rc7 a (Q_t_5 0) Q_t_5_0 z_t_5_0) hP [5, 6, 7, 8, 9, 10, 11, 12, 13, 14, 15, 16, 17] rfl)) (recvOf hK hP 5 rfl (ci := 7) rfl)) hl.1 rfl (Nat.le_of_ble_eq_true rfl) dX8_rowMean_59 ⟨Nat.le_of_ble_eq_true rfl, Nat.le_of_ble_eq_true rfl⟩) ?_
      obtain ⟨J9, eJ9, h⟩ := jn_some h
      have hJ9 : ∀ (ls : Array Slot), J9 = some y → lv_has ls 13 [(0, .ref q_t), (1, .int x1), (2, .int x2), (3, .int x3), (4, .int x4)] → W p l e (rmM (F + 1) 0 0 (LO + 32)) s m #[.ref q_t, .int x1, .int x2, .int x3, .int x4] below meth c s.heap [] 0 0 (MQ below (vp_Sl (fun r => r = y)) #[.ref q_t, .int x1, .int x2, .int x3, .int x4] s 0 0 (fun _ => False)) (F0 m 71 ls []) := by
        intro ls h hl
        rw [eJ9] at h
        refine lv_ldc2 hx hb hown (hts _ t_758) dX8_rowMean_71 ?_
        refine lv_aload_n hx hb dX8_rowMean_74 rfl (lv_at hl 0 rfl) ?_
        refine lv_iload_n hx hb dX8_rowMean_75 rfl (lv_at hl 1 rfl) ?_
        refine lv_iconst (v := 1) hx hb dX8_rowMean_76 (by decide) ?_
        refine lv_iadd hx hb dX8_rowMean_77 ?_
        refine lv_iload_n hx hb dX8_rowMean_78 rfl (lv_at hl 2 rfl) ?_
        refine lv_iload_n hx hb dX8_rowMean_79 rfl (lv_at hl 3 rfl) ?_
        refine lv_iload hx hb dX8_rowMean_80 (lv_at hl 4 rfl) ?_
        obtain ⟨r11, hc10, h⟩ := bd_some h
        refine cRl (runV (As := [.int (x1 + 1), .int x2, .int x3, .int x4]) (rest := [.long 100]) C (hrec hc10) lk_V_8_245 okN_X8_rowMean (by constructor; (show F + 0 + 1 ≤ F + 1; omega); (show 8 + (13 + 11) + (LO + 0) ≤ LO + 32; omega)) ⟨rfl, rfl⟩ (preV (preR hK hP) (recvOf hK hP 0 rfl (ci := 8) rfl)) hl.1 rfl (Nat.le_of_ble_eq_true rfl) dX8_rowMean_82 ⟨Nat.le_of_ble_eq_true rfl, Nat.le_of_ble_eq_true rfl⟩) ?_
        refine lv_lmul hx hb dX8_rowMean_85 ?_
        exact rRl C rfl (Option.some.inj h) dX8_rowMean_86
      refine lv_if_eq (tgt := 71) hx hb dX8_rowMean_62 (by decide) (fun c12 => ?_) (fun c12 => ?_)
      · have h := ite_t c12 h
        exact hJ9 ls h (lv_sub hl [2, 3, 4, 5, 6] rfl)
      · have h := ite_f c12 h
        refine lv_iload hx hb dX8_rowMean_65 (lv_at hl 0 rfl) ?_
        refine lv_iload_n hx hb dX8_rowMean_67 rfl (lv_at hl 5 rfl) ?_
        refine lv_icmp_le (tgt := 87) hx hb dX8_rowMean_68 (by decide) (fun c13 => ?_) (fun c13 => ?_)
        · have h := ite_t c13 h
          refine lv_aload_n hx hb dX8_rowMean_87 rfl (lv_at hl 2 rfl) ?_
          refine va_get (D := D) (v := .ref (Q_t 5)) (C := RX8) (T := TX8) (N := 11) hx hb hts iX8 hown hK.1 hP 0 rfl rfl 5 (by decide) (hts _ t_305) (fun _ h9 => h9) rfl dX8_rowMean_88 ?_
          refine va_get (D := D) (v := .ref (Q_t_5 0)) (C := RX5) (T := TX5) (N := 8) hx hb hts iX5 hown hK.1 hP 2 rfl rfl 0 (by decide) (hts _ t_161) (fun _ h9 => h9) rfl dX8_rowMean_91 ?_
          refine va_get (D := D) (v := .ref (Q_t_5_0 10)) (C := RX7) (T := TX7) (N := 18) hx hb hts iX7 hown hK.1 hP 5 rfl rfl 10 (by decide) (hts _ t_67) (fun _ h9 => h9) rfl dX8_rowMean_94 ?_
          refine lv_iload hx hb dX8_rowMean_97 (lv_at hl 1 rfl) ?_
          obtain ⟨r15, hc14, h⟩ := bd_some h
          refine cRi (runS (As := [.ref (Q_t_5_0 10), .int r4]) (rest := []) C (mX8_at l D a hc14) lk_S_8_129 okN_X8_at (by constructor; (show 0 + 1 ≤ F + 1; omega); (show 8 + (2 + 11) + (0) ≤ LO + 32; omega)) ⟨rfl, rfl⟩ (preR hK (P_of_map (wc := ra0 a (Q_t_5_0 10) 10 (gT z_t_5_0 10)) hP [11] rfl)) hl.1 rfl (Nat.le_of_ble_eq_true rfl) dX8_rowMean_99 ⟨Nat.le_of_ble_eq_true rfl, Nat.le_of_ble_eq_true rfl⟩) ?_
          refine lv_istore (lv' := [(7, .int r15), (6, .int r6), (5, .int r4), (0, .ref q_t), (1, .int x1), (2, .int x2), (3, .int x3), (4, .int x4)]) hx hb dX8_rowMean_102 hl (by decide) rfl (fun ls hl => ?_)
          refine lv_iload hx hb dX8_rowMean_104 (lv_at hl 7 rfl) ?_
          refine lv_iconst (v := (-1)) hx hb dX8_rowMean_106 (by decide) ?_
          obtain ⟨J16, eJ16, h⟩ := jn_some h
          have hJ16 : ∀ (i17 : Int32) (ls : Array Slot), J16 i17 = some y → lv_has ls 13 [(0, .ref q_t), (1, .int x1), (2, .int x2), (3, .int x3), (4, .int x4), (5, .int r4), (6, .int r6), (7, .int r15)] → W p l e (rmM (F + 1) 0 0 (LO + 32)) s m #[.ref q_t, .int x1, .int x2, .int x3, .int x4] below meth c s.heap [] 0 0 (MQ below (vp_Sl (fun r => r = y)) #[.ref q_t, .int x1, .int x2, .int x3, .int x4] s 0 0 (fun _ => False)) (F0 m 140 ls [.int i17]) := by
            intro i17 ls h hl
            rw [eJ16] at h
            refine lv_istore (lv' := [(8, .int i17), (0, .ref q_t), (1, .int x1), (2, .int x2), (3, .int x3), (4, .int x4), (5, .int r4), (6, .int r6), (7, .int r15)]) hx hb dX8_rowMean_140 hl (by decide) rfl (fun ls hl => ?_)
            refine lv_iload hx hb dX8_rowMean_142 (lv_at hl 0 rfl) ?_
            refine lv_i2l (v := i17.toInt64) hx hb dX8_rowMean_144 rfl ?_
            refine lv_aload_n hx hb dX8_rowMean_145 rfl (lv_at hl 1 rfl) ?_
            refine va_get (D := D) (v := .ref (Q_t 5)) (C := RX8) (T := TX8) (N := 11) hx hb hts iX8 hown hK.1 hP 0 rfl rfl 5 (by decide) (hts _ t_305) (fun _ h9 => h9) rfl dX8_rowMean_146 ?_
            refine va_get (D := D) (v := .int (gI z_t_5 6)) (C := RX5) (T := TX5) (N := 8) hx hb hts iX5 hown hK.1 hP 2 rfl rfl 6 (by decide) (hts _ t_173) (fun _ h9 => h9) rfl dX8_rowMean_149 ?_
            refine lv_iload_n hx hb dX8_rowMean_152 rfl (lv_at hl 2 rfl) ?_
            refine lv_isub hx hb dX8_rowMean_153 ?_
            refine lv_iconst (v := 1) hx hb dX8_rowMean_154 (by decide) ?_
            refine lv_isub hx hb dX8_rowMean_155 ?_
            obtain ⟨r19, hc18, h⟩ := bd_some h
            refine cRl (runS (As := [.int (((gI z_t_5 6) - x1) - 1)]) (rest := [.long i17.toInt64]) C (mX8_hundreds l D a hc18) lk_S_8_249 okN_X8_hundreds (by constructor; (show 0 + 1 ≤ F + 1; omega); (show 8 + (4 + 11) + (0) ≤ LO + 32; omega)) ⟨rfl, rfl⟩ (preR hK (P_of_map (wc := []) hP [] rfl)) hl.1 rfl (Nat.le_of_ble_eq_true rfl) dX8_rowMean_156 ⟨Nat.le_of_ble_eq_true rfl, Nat.le_of_ble_eq_true rfl⟩) ?_
            refine lv_lmul hx hb dX8_rowMean_159 ?_
            refine lv_aload_n hx hb dX8_rowMean_160 rfl (lv_at hl 1 rfl) ?_
            refine lv_iload_n hx hb dX8_rowMean_161 rfl (lv_at hl 2 rfl) ?_
            refine lv_iconst (v := 1) hx hb dX8_rowMean_162 (by decide) ?_
            refine lv_iadd hx hb dX8_rowMean_163 ?_
            refine lv_iload_n hx hb dX8_rowMean_164 rfl (lv_at hl 3 rfl) ?_
            refine lv_iload hx hb dX8_rowMean_165 (lv_at hl 6 rfl) ?_
            obtain ⟨r21, hc20, h⟩ := bd_some h
            refine cRi (runS (As := [.int r4]) (rest := [.int x2, .int (x1 + 1), .ref q_t, .long (i17.toInt64 * r19)]) C (mX8_bit l D a hc20) lk_S_8_216 okN_X8_bit (by constructor; (show 0 + 1 ≤ F + 1; omega); (show 8 + (1 + 11) + (0) ≤ LO + 32; omega)) ⟨rfl, rfl⟩ (preR hK (P_of_map (wc := []) hP [] rfl)) hl.1 rfl (Nat.le_of_ble_eq_true rfl) dX8_rowMean_167 ⟨Nat.le_of_ble_eq_true rfl, Nat.le_of_ble_eq_true rfl⟩) ?_
            refine lv_ior hx hb dX8_rowMean_170 ?_
            refine lv_iload_n hx hb dX8_rowMean_171 rfl (lv_at hl 4 rfl) ?_
            refine lv_iload hx hb dX8_rowMean_172 (lv_at hl 7 rfl) ?_
            refine lv_isub hx hb dX8_rowMean_174 ?_
            refine lv_iload hx hb dX8_rowMean_175 (lv_at hl 5 rfl) ?_
            obtain ⟨r23, hc22, h⟩ := bd_some h
            refine cRl (runV (As := [.int (x1 + 1), .int (x2 ||| r21), .int (x3 - r6), .int x4]) (rest := [.long (i17.toInt64 * r19)]) C (hrec hc22) lk_V_8_245 okN_X8_rowMean (by constructor; (show F + 0 + 1 ≤ F + 1; omega); (show 8 + (13 + 11) + (LO + 0) ≤ LO + 32; omega)) ⟨rfl, rfl⟩ (preV (preR hK hP) (recvOf hK hP 0 rfl (ci := 8) rfl)) hl.1 rfl (Nat.le_of_ble_eq_true rfl) dX8_rowMean_177 ⟨Nat.le_of_ble_eq_true rfl, Nat.le_of_ble_eq_true rfl⟩) ?_
            refine lv_ladd hx hb dX8_rowMean_180 ?_
            refine lv_lstore (lv' := [(9, .long ((i17.toInt64 * r19) + r23)), (8, .int i17), (0, .ref q_t), (1, .int x1), (2, .int x2), (3, .int x3), (4, .int x4), (5, .int r4), (6, .int r6), (7, .int r15)]) hx hb dX8_rowMean_181 hl (by decide) rfl (fun ls hl => ?_)
            refine lv_aload_n hx hb dX8_rowMean_183 rfl (lv_at hl 2 rfl) ?_
            refine lv_iload_n hx hb dX8_rowMean_184 rfl (lv_at hl 3 rfl) ?_
            refine lv_iconst (v := 1) hx hb dX8_rowMean_185 (by decide) ?_
            refine lv_iadd hx hb dX8_rowMean_186 ?_
            refine lv_iload_n hx hb dX8_rowMean_187 rfl (lv_at hl 4 rfl) ?_
            refine lv_iload_n hx hb dX8_rowMean_188 rfl (lv_at hl 5 rfl) ?_
            refine lv_iload hx hb dX8_rowMean_189 (lv_at hl 8 rfl) ?_
            refine lv_isub hx hb dX8_rowMean_191 ?_
            refine lv_iload hx hb dX8_rowMean_192 (lv_at hl 6 rfl) ?_
            obtain ⟨r25, hc24, h⟩ := bd_some h
            refine cRl (runV (As := [.int (x1 + 1), .int x2, .int (x3 - r6), .int x4]) (rest := []) C (hrec hc24) lk_V_8_245 okN_X8_rowMean (by constructor; (show F + 0 + 1 ≤ F + 1; omega); (show 8 + (13 + 11) + (LO + 0) ≤ LO + 32; omega)) ⟨rfl, rfl⟩ (preV (preR hK hP) (recvOf hK hP 0 rfl (ci := 8) rfl)) hl.1 rfl (Nat.le_of_ble_eq_true rfl) dX8_rowMean_194 ⟨Nat.le_of_ble_eq_true rfl, Nat.le_of_ble_eq_true rfl⟩) ?_
            refine lv_lstore (lv' := [(11, .long r25), (9, .long ((i17.toInt64 * r19) + r23)), (8, .int i17), (0, .ref q_t), (1, .int x1), (2, .int x2), (3, .int x3), (4, .int x4), (5, .int r4), (6, .int r6), (7, .int r15)]) hx hb dX8_rowMean_197 hl (by decide) rfl (fun ls hl => ?_)
            refine lv_iload hx hb dX8_rowMean_199 (lv_at hl 10 rfl) ?_
            refine lv_i2l (v := r15.toInt64) hx hb dX8_rowMean_201 rfl ?_
            refine lv_lload hx hb dX8_rowMean_202 (lv_at hl 1 rfl) ?_
            refine lv_lmul hx hb dX8_rowMean_204 ?_
            refine lv_bipush (v := 100) hx hb dX8_rowMean_205 (by decide) ?_
            refine lv_iload hx hb dX8_rowMean_207 (lv_at hl 10 rfl) ?_
            refine lv_isub hx hb dX8_rowMean_209 ?_
            refine lv_i2l (v := (100 - r15).toInt64) hx hb dX8_rowMean_210 rfl ?_
            refine lv_lload hx hb dX8_rowMean_211 (lv_at hl 0 rfl) ?_
            refine lv_lmul hx hb dX8_rowMean_213 ?_
            refine lv_ladd hx hb dX8_rowMean_214 ?_
            exact rRl C rfl (Option.some.inj h) dX8_rowMean_215
          refine lv_icmp_ne (tgt := 128) hx hb dX8_rowMean_107 (by decide) (fun c26 => ?_) (fun c26 => ?_)
          · have h := ite_f c26 h
            refine lv_iload hx hb dX8_rowMean_128 (lv_at hl 2 rfl) ?_
            refine lv_iload hx hb dX8_rowMean_130 (lv_at hl 7 rfl) ?_
            refine lv_icmp_ne (tgt := 139) hx hb dX8_rowMean_132 (by decide) (fun c27 => ?_) (fun c27 => ?_)
            · have h := ite_f c27 h
              refine lv_iconst (v := 0) hx hb dX8_rowMean_139 (by decide) ?_
              exact hJ16 0 ls h (lv_sub hl [3, 4, 5, 6, 7, 2, 1, 0] rfl)
            · have h := ite_t c27 h
              refine lv_iconst (v := 1) hx hb dX8_rowMean_135 (by decide) ?_
              refine lv_goto (tgt := 140) hx hb dX8_rowMean_136 (by decide) ?_
              exact hJ16 1 ls h (lv_sub hl [3, 4, 5, 6, 7, 2, 1, 0] rfl)
          · have h := ite_t c26 h
            refine lv_aload_n hx hb dX8_rowMean_110 rfl (lv_at hl 3 rfl) ?_
            refine va_get (D := D) (v := .ref (Q_t 5)) (C := RX8) (T := TX8) (N := 11) hx hb hts iX8 hown hK.1 hP 0 rfl rfl 5 (by decide) (hts _ t_305) (fun _ h9 => h9) rfl dX8_rowMean_111 ?_
            refine va_get (D := D) (v := .ref (Q_t_5 0)) (C := RX5) (T := TX5) (N := 8) hx hb hts iX5 hown hK.1 hP 2 rfl rfl 0 (by decide) (hts _ t_161) (fun _ h9 => h9) rfl dX8_rowMean_114 ?_
            refine va_get (D := D) (v := .ref (Q_t_5_0 12)) (C := RX7) (T := TX7) (N := 18) hx hb hts iX7 hown hK.1 hP 5 rfl rfl 12 (by decide) (hts _ t_74) (fun _ h9 => h9) rfl dX8_rowMean_117 ?_
            refine lv_iload hx hb dX8_rowMean_120 (lv_at hl 2 rfl) ?_
            obtain ⟨r29, hc28, h⟩ := bd_some h
            refine cRi (runS (As := [.ref (Q_t_5_0 12), .int r4]) (rest := []) C (mX8_at l D a hc28) lk_S_8_129 okN_X8_at (by constructor; (show 0 + 1 ≤ F + 1; omega); (show 8 + (2 + 11) + (0) ≤ LO + 32; omega)) ⟨rfl, rfl⟩ (preR hK (P_of_map (wc := ra0 a (Q_t_5_0 12) 10 (gT z_t_5_0 12)) hP [13] rfl)) hl.1 rfl (Nat.le_of_ble_eq_true rfl) dX8_rowMean_122 ⟨Nat.le_of_ble_eq_true rfl, Nat.le_of_ble_eq_true rfl⟩) ?_
            refine lv_goto (tgt := 140) hx hb dX8_rowMean_125 (by decide) ?_
            exact hJ16 r29 ls h (lv_sub hl [3, 4, 5, 6, 7, 2, 1, 0] rfl)
        · have h := ite_f c13 h
          exact hJ9 ls h (lv_sub hl [2, 3, 4, 5, 6] rfl)
    · have h := ite_f c2 h
      refine lv_lconst (v := 0) hx hb dX8_rowMean_17 (by decide) ?_
      exact rRl C rfl (Option.some.inj h) dX8_rowMean_18

set_option maxHeartbeats 4000000 in
theorem mX8_rowMean (l : Launch) (D : va_G) (a : Nat → ClassId) : ∀ (dp : Nat) {q_t : Nat} {Q_t : Nat → Nat} {z_t : Sx} {Q_t_5 : Nat → Nat} {z_t_5 : Sx} {Q_t_5_0 : Nat → Nat} {z_t_5_0 : Sx} {x1 : Int32} {x2 : Int32} {x3 : Int32} {x4 : Int32} {y : Int64}, fX8_rowMean dp z_t z_t_5 z_t_5_0 x1 x2 x3 x4 = some y → CRl l MX8_rowMean (1 + 1 * dp) (23 + 32 * dp) D a [.ref q_t, .int x1, .int x2, .int x3, .int x4] (rc8 a q_t Q_t z_t ++ (rc5 a (Q_t 5) Q_t_5 z_t_5 ++ (rc7 a (Q_t_5 0) Q_t_5_0 z_t_5_0))) (fun r => r = y) := by
  intro dp
  induction dp with
  | zero => intros; rename_i h; cases h
  | succ dp ih =>
    intros
    rename_i h
    have e1 : 1 + 1 * (dp + 1) = 1 + 1 * dp + 1 := by omega
    have e2 : 23 + 32 * (dp + 1) = 23 + 32 * dp + 32 := by omega
    rw [e1, e2]
    exact gmX8_rowMean l D a ih (by omega) (by omega) h

def fX8_would_none (z_t : Sx) (B_t_2 : Nat → Option Nat) (z_t_5 : Sx) (z_t_5_0 : Sx) (x1 : Int32) (x2 : Int32) : Option (Int32) := bd (fX8_ruleForWork z_t B_t_2 z_t_5 z_t_5_0 x1) (fun r2 => some (-1000000))

set_option maxHeartbeats 4000000 in
set_option maxRecDepth 100000 in
theorem mX8_would_none (l : Launch) (D : va_G) (a : Nat → ClassId) {q_t : Nat} {Q_t : Nat → Nat} {z_t : Sx} {B_t_2 : Nat → Option Nat} {Q_t_5 : Nat → Nat} {z_t_5 : Sx} {Q_t_5_0 : Nat → Nat} {z_t_5_0 : Sx} {x1 : Int32} {x2 : Int32} (hm : fX8_ruleForWork z_t B_t_2 z_t_5 z_t_5_0 x1 = some none) {y : Int32} (h : fX8_would_none z_t B_t_2 z_t_5 z_t_5_0 x1 x2 = some y) : CRi l MX8_would 2 42 D a [.ref q_t, .int x1, .int x2] (rc8 a q_t Q_t z_t ++ (rb4 a (Q_t 2) 6 B_t_2 ++ (rc5 a (Q_t 5) Q_t_5 z_t_5 ++ (rc7 a (Q_t_5 0) Q_t_5_0 z_t_5_0)))) (fun r => r = y) := by
  unfold fX8_would_none at h
  refine entR (by decide) (Nat.le_of_ble_eq_true rfl) ?_
  intro p e s m below meth c C hK hP ls hl
  obtain ⟨hx, hb, hml, hown, hts, hr, hlocks, hnm⟩ := id C
  have hb : c.code = cX8_would := hb
  have hown : s.vm.findClass RX8 = some m.cls := hown
  have hl : lv_has ls 5 [(0, .ref q_t), (1, .int x1), (2, .int x2)] := hl
  refine lv_aload_n hx hb dX8_would_0 rfl (lv_at hl 0 rfl) ?_
  refine lv_iload_n hx hb dX8_would_1 rfl (lv_at hl 1 rfl) ?_
  obtain ⟨r2, hc1, h⟩ := bd_some h
  refine cRq (runV (As := [.int x1]) (rest := []) C (mX8_ruleForWork l D a hc1) lk_V_8_228 okN_X8_ruleForWork ⟨Nat.le_of_ble_eq_true rfl, Nat.le_of_ble_eq_true rfl⟩ ⟨rfl, rfl⟩ (preV (preR hK hP) (recvOf hK hP 0 rfl (ci := 8) rfl)) hl.1 rfl (Nat.le_of_ble_eq_true rfl) dX8_would_2 ⟨Nat.le_of_ble_eq_true rfl, Nat.le_of_ble_eq_true rfl⟩) ?_
  obtain rfl := Option.some.inj (hc1.symm.trans hm)
  refine lv_astore_nN (lv' := [(3, .null), (0, .ref q_t), (1, .int x1), (2, .int x2)]) hx hb dX8_would_5 rfl hl (by decide) rfl (fun ls hl => ?_)
  refine lv_aload_nN hx hb dX8_would_6 rfl (lv_at hl 0 rfl) ?_
  refine lv_ifnullN (tgt := 19) hx hb dX8_would_7 (by decide) ?_
  refine lv_ldc hx hb hown (hts _ t_640) dX8_would_19 ?_
  exact rRi C rfl (Option.some.inj h) dX8_would_21

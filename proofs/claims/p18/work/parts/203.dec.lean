set_option maxHeartbeats 4000000 in
set_option maxRecDepth 100000 in
theorem mX9_takesWord (l : Launch) (D : va_G) (a : Nat → ClassId) {q_t : Nat} {Q_t : Nat → Nat} {z_t : Sx} {x1 : Int64} {y : Int32 × Sx} (h : fX9_takesWord z_t x1 = some y) (sz : Nat) : CMi (S := Unit) l MX9_takesWord 2 46 0 0 D a [.ref q_t, .long x1] (rc9 a q_t Q_t z_t) sz (fun r _ => r = y.1) (fun _ => rc9 a q_t Q_t y.2) := by
  unfold fX9_takesWord at h
  refine entMi (by decide) (Nat.le_of_ble_eq_true rfl) ?_
  intro p e s m below meth c C hK A hA hP hD ls hl
  obtain ⟨hx, hb, hml, hown, hts, hr, hlocks, hnm⟩ := id C
  have hb : c.code = cX9_takesWord := hb
  have hown : s.vm.findClass RX9 = some m.cls := hown
  have hS : va_S A s.heap s.heap [] := va_S.rf
  have hl : lv_has ls 3 [(0, .ref q_t), (1, .long x1)] := hl
  refine lv_aload_n hx hb dX9_takesWord_0 rfl (lv_at hl 0 rfl) ?_
  refine lv_lload_n hx hb dX9_takesWord_1 rfl (lv_at hl 1 rfl) ?_
  obtain ⟨r2, z3, hc1, h⟩ := bd2_some h
  refine cWi (runV (As := [.long x1]) (rest := []) C (mX9_isWord l D a (q_t := q_t) (Q_t := Q_t) hc1 s.heap.size) lk_V_9_101 okN_X9_isWord ⟨Nat.le_of_ble_eq_true rfl, Nat.le_of_ble_eq_true rfl⟩ ⟨rfl, rfl⟩ (preV (preM hK hP hD) (recvOf hK hP 0 rfl (ci := 9) rfl)) hl.1 rfl (Nat.le_of_ble_eq_true rfl) dX9_takesWord_2 ⟨Nat.le_of_ble_eq_true rfl, Nat.le_of_ble_eq_true rfl⟩) hP hD hS hA (fun H locs hP hD hS => ?_)
  have hP : va_P D classes (rc9 a q_t Q_t z3) H := hP
  have hD : va_D A (rc9 a q_t Q_t z3) := hD
  refine lv_if_ne (tgt := 10) hx hb dX9_takesWord_5 (by decide) (fun c4 => ?_) (fun c4 => ?_)
  · have h := ite_f c4 h
    refine lv_aload_n hx hb dX9_takesWord_10 rfl (lv_at hl 0 rfl) ?_
    obtain ⟨z6, hc5, h⟩ := bd_some h
    refine cWv (runV (As := []) (rest := []) C (mX9_passWord l D a (q_t := q_t) (Q_t := Q_t) hc5 H.size) lk_V_9_105 okN_X9_passWord ⟨Nat.le_of_ble_eq_true rfl, Nat.le_of_ble_eq_true rfl⟩ ⟨rfl, rfl⟩ (preV (preM hK hP hD) (recvOf hK hP 0 rfl (ci := 9) rfl)) hl.1 rfl (Nat.le_of_ble_eq_true rfl) dX9_takesWord_11 ⟨Nat.le_of_ble_eq_true rfl, Nat.le_of_ble_eq_true rfl⟩) hP hD hS hA (fun H locs hP hD hS => ?_)
    have hP : va_P D classes (rc9 a q_t Q_t z6) H := hP
    have hD : va_D A (rc9 a q_t Q_t z6) := hD
    refine lv_iconst (v := 1) hx hb dX9_takesWord_14 (by decide) ?_
    exact rMz C rfl (Or.inr rfl) h (g := fun y => rc9 a q_t Q_t y.2) (pr := fun y => y.1) hP hD hS dX9_takesWord_15
  · have h := ite_t c4 h
    refine lv_iconst (v := 0) hx hb dX9_takesWord_8 (by decide) ?_
    exact rMz C rfl (Or.inl rfl) h (g := fun y => rc9 a q_t Q_t y.2) (pr := fun y => y.1) hP hD hS dX9_takesWord_9

set_option maxHeartbeats 4000000 in
set_option maxRecDepth 100000 in
theorem mX9_isFaultHere (l : Launch) (D : va_G) (a : Nat → ClassId) {q_t : Nat} {Q_t : Nat → Nat} {z_t : Sx} {x1 : Int32} {y : Int32 × Sx} (h : fX9_isFaultHere z_t x1 = some y) (sz : Nat) : CMi (S := Unit) l MX9_isFaultHere 3 68 0 0 D a [.ref q_t, .int x1] (rc9 a q_t Q_t z_t) sz (fun r _ => r = y.1) (fun _ => rc9 a q_t Q_t y.2) := by
  unfold fX9_isFaultHere at h
  refine entMi (by decide) (Nat.le_of_ble_eq_true rfl) ?_
  intro p e s m below meth c C hK A hA hP hD ls hl
  obtain ⟨hx, hb, hml, hown, hts, hr, hlocks, hnm⟩ := id C
  have hb : c.code = cX9_isFaultHere := hb
  have hown : s.vm.findClass RX9 = some m.cls := hown
  have hS : va_S A s.heap s.heap [] := va_S.rf
  have hl : lv_has ls 3 [(0, .ref q_t), (1, .int x1)] := hl
  refine lv_aload_n hx hb dX9_isFaultHere_0 rfl (lv_at hl 0 rfl) ?_
  refine va_get (D := D) (v := .int (gI z_t 9)) (C := RX9) (T := TX9) (N := 36) hx hb hts iX9 hown hK.1 hP 0 rfl rfl 9 (by decide) (hts _ t_891) (fun _ h9 => h9) rfl dX9_isFaultHere_1 ?_
  refine lv_bipush (v := 10) hx hb dX9_isFaultHere_4 (by decide) ?_
  refine lv_icmp_ne (tgt := 16) hx hb dX9_isFaultHere_6 (by decide) (fun c1 => ?_) (fun c1 => ?_)
  · have h := ite_f c1 h
    refine lv_aload_n hx hb dX9_isFaultHere_16 rfl (lv_at hl 0 rfl) ?_
    obtain ⟨z3, hc2, h⟩ := bd_some h
    refine cWv (runV (As := []) (rest := []) C (mX9_passWord l D a (q_t := q_t) (Q_t := Q_t) hc2 s.heap.size) lk_V_9_105 okN_X9_passWord ⟨Nat.le_of_ble_eq_true rfl, Nat.le_of_ble_eq_true rfl⟩ ⟨rfl, rfl⟩ (preV (preM hK hP hD) (recvOf hK hP 0 rfl (ci := 9) rfl)) hl.1 rfl (Nat.le_of_ble_eq_true rfl) dX9_isFaultHere_17 ⟨Nat.le_of_ble_eq_true rfl, Nat.le_of_ble_eq_true rfl⟩) hP hD hS hA (fun H locs hP hD hS => ?_)
    have hP : va_P D classes (rc9 a q_t Q_t z3) H := hP
    have hD : va_D A (rc9 a q_t Q_t z3) := hD
    refine lv_iconst (v := 4) hx hb dX9_isFaultHere_20 (by decide) ?_
    refine lv_aload_n hx hb dX9_isFaultHere_21 rfl (lv_at hl 0 rfl) ?_
    refine va_get (D := D) (v := .int (gI z3 9)) (C := RX9) (T := TX9) (N := 36) hx hb hts iX9 hown hK.1 hP 0 rfl rfl 9 (by decide) (hts _ t_891) (fun _ h9 => h9) rfl dX9_isFaultHere_22 ?_
    refine lv_imul hx hb dX9_isFaultHere_25 ?_
    refine lv_istore_n (lv' := [(2, .int (4 * (gI z3 9))), (0, .ref q_t), (1, .int x1)]) hx hb dX9_isFaultHere_26 rfl hl (by decide) rfl (fun ls hl => ?_)
    refine lv_aload_n hx hb dX9_isFaultHere_27 rfl (lv_at hl 1 rfl) ?_
    refine lv_iconst (v := 0) hx hb dX9_isFaultHere_28 (by decide) ?_
    refine lv_aload_n hx hb dX9_isFaultHere_29 rfl (lv_at hl 1 rfl) ?_
    refine va_get (D := D) (v := .int (gI z3 8)) (C := RX9) (T := TX9) (N := 36) hx hb hts iX9 hown hK.1 hP 0 rfl rfl 8 (by decide) (hts _ t_890) (fun _ h9 => h9) rfl dX9_isFaultHere_30 ?_
    refine lv_iconst (v := 1) hx hb dX9_isFaultHere_33 (by decide) ?_
    refine lv_isub hx hb dX9_isFaultHere_34 ?_
    obtain ⟨r5, z6, hc4, h⟩ := bd2_some h
    refine cWi (runV (As := [.int 0, .int ((gI z3 8) - 1)]) (rest := []) C (mX9_numberHere l D a (q_t := q_t) (Q_t := Q_t) hc4 H.size) lk_V_9_161 okN_X9_numberHere ⟨Nat.le_of_ble_eq_true rfl, Nat.le_of_ble_eq_true rfl⟩ ⟨rfl, rfl⟩ (preV (preM hK hP hD) (recvOf hK hP 0 rfl (ci := 9) rfl)) hl.1 rfl (Nat.le_of_ble_eq_true rfl) dX9_isFaultHere_35 ⟨Nat.le_of_ble_eq_true rfl, Nat.le_of_ble_eq_true rfl⟩) hP hD hS hA (fun H locs hP hD hS => ?_)
    have hP : va_P D classes (rc9 a q_t Q_t z6) H := hP
    have hD : va_D A (rc9 a q_t Q_t z6) := hD
    refine lv_if_ne (tgt := 43) hx hb dX9_isFaultHere_38 (by decide) (fun c7 => ?_) (fun c7 => ?_)
    · have h := ite_f c7 h
      refine lv_aload_n hx hb dX9_isFaultHere_43 rfl (lv_at hl 1 rfl) ?_
      refine va_get (D := D) (v := .ref (Q_t 11)) (C := RX9) (T := TX9) (N := 36) hx hb hts iX9 hown hK.1 hP 0 rfl rfl 11 (by decide) (hts _ t_893) (fun _ h9 => h9) rfl dX9_isFaultHere_44 ?_
      refine lv_iload_n hx hb dX9_isFaultHere_47 rfl (lv_at hl 0 rfl) ?_
      refine lv_aload_n hx hb dX9_isFaultHere_48 rfl (lv_at hl 1 rfl) ?_
      refine va_get (D := D) (v := .int (gI z6 14)) (C := RX9) (T := TX9) (N := 36) hx hb hts iX9 hown hK.1 hP 0 rfl rfl 14 (by decide) (hts _ t_896) (fun _ h9 => h9) rfl dX9_isFaultHere_49 ?_
      obtain ⟨g8, h⟩ := gd_some h
      refine ast_i hx hb hK.1 hP hD hS 7 0 rfl rfl ((4 * (gI z3 9)).toNatClampNeg) (ix_g g8) dX9_isFaultHere_52 (fun H locs hP hD hS => ?_)
      rw [u9_11] at hP hD
      refine lv_aload_n hx hb dX9_isFaultHere_53 rfl (lv_at hl 1 rfl) ?_
      refine lv_iconst (v := 1) hx hb dX9_isFaultHere_54 (by decide) ?_
      refine lv_bipush (v := 99) hx hb dX9_isFaultHere_55 (by decide) ?_
      obtain ⟨r10, z11, hc9, h⟩ := bd2_some h
      refine cWi (runV (As := [.int 1, .int 99]) (rest := []) C (mX9_numberHere l D a (q_t := q_t) (Q_t := Q_t) hc9 H.size) lk_V_9_161 okN_X9_numberHere ⟨Nat.le_of_ble_eq_true rfl, Nat.le_of_ble_eq_true rfl⟩ ⟨rfl, rfl⟩ (preV (preM hK hP hD) (recvOf hK hP 0 rfl (ci := 9) rfl)) hl.1 rfl (Nat.le_of_ble_eq_true rfl) dX9_isFaultHere_57 ⟨Nat.le_of_ble_eq_true rfl, Nat.le_of_ble_eq_true rfl⟩) hP hD hS hA (fun H locs hP hD hS => ?_)
      have hP : va_P D classes (rc9 a q_t Q_t z11) H := hP
      have hD : va_D A (rc9 a q_t Q_t z11) := hD
      refine lv_if_ne (tgt := 65) hx hb dX9_isFaultHere_60 (by decide) (fun c12 => ?_) (fun c12 => ?_)
      · have h := ite_f c12 h
        refine lv_aload_n hx hb dX9_isFaultHere_65 rfl (lv_at hl 1 rfl) ?_
        refine va_get (D := D) (v := .ref (Q_t 11)) (C := RX9) (T := TX9) (N := 36) hx hb hts iX9 hown hK.1 hP 0 rfl rfl 11 (by decide) (hts _ t_893) (fun _ h9 => h9) rfl dX9_isFaultHere_66 ?_
        refine lv_iload_n hx hb dX9_isFaultHere_69 rfl (lv_at hl 0 rfl) ?_
        refine lv_iconst (v := 1) hx hb dX9_isFaultHere_70 (by decide) ?_
        refine lv_iadd hx hb dX9_isFaultHere_71 ?_
        refine lv_aload_n hx hb dX9_isFaultHere_72 rfl (lv_at hl 1 rfl) ?_
        refine va_get (D := D) (v := .int (gI z11 14)) (C := RX9) (T := TX9) (N := 36) hx hb hts iX9 hown hK.1 hP 0 rfl rfl 14 (by decide) (hts _ t_896) (fun _ h9 => h9) rfl dX9_isFaultHere_73 ?_
        obtain ⟨g13, h⟩ := gd_some h
        refine ast_i hx hb hK.1 hP hD hS 7 0 rfl rfl (((4 * (gI z3 9)) + 1).toNatClampNeg) (ix_g g13) dX9_isFaultHere_76 (fun H locs hP hD hS => ?_)
        rw [u9_11] at hP hD
        refine lv_aload_n hx hb dX9_isFaultHere_77 rfl (lv_at hl 1 rfl) ?_
        refine lv_iconst (v := 0) hx hb dX9_isFaultHere_78 (by decide) ?_
        refine lv_bipush (v := 100) hx hb dX9_isFaultHere_79 (by decide) ?_
        obtain ⟨r15, z16, hc14, h⟩ := bd2_some h
        refine cWi (runV (As := [.int 0, .int 100]) (rest := []) C (mX9_numberHere l D a (q_t := q_t) (Q_t := Q_t) hc14 H.size) lk_V_9_161 okN_X9_numberHere ⟨Nat.le_of_ble_eq_true rfl, Nat.le_of_ble_eq_true rfl⟩ ⟨rfl, rfl⟩ (preV (preM hK hP hD) (recvOf hK hP 0 rfl (ci := 9) rfl)) hl.1 rfl (Nat.le_of_ble_eq_true rfl) dX9_isFaultHere_81 ⟨Nat.le_of_ble_eq_true rfl, Nat.le_of_ble_eq_true rfl⟩) hP hD hS hA (fun H locs hP hD hS => ?_)
        have hP : va_P D classes (rc9 a q_t Q_t z16) H := hP
        have hD : va_D A (rc9 a q_t Q_t z16) := hD
        refine lv_if_ne (tgt := 89) hx hb dX9_isFaultHere_84 (by decide) (fun c17 => ?_) (fun c17 => ?_)
        · have h := ite_f c17 h
          refine lv_aload_n hx hb dX9_isFaultHere_89 rfl (lv_at hl 1 rfl) ?_
          refine va_get (D := D) (v := .ref (Q_t 11)) (C := RX9) (T := TX9) (N := 36) hx hb hts iX9 hown hK.1 hP 0 rfl rfl 11 (by decide) (hts _ t_893) (fun _ h9 => h9) rfl dX9_isFaultHere_90 ?_
          refine lv_iload_n hx hb dX9_isFaultHere_93 rfl (lv_at hl 0 rfl) ?_
          refine lv_iconst (v := 2) hx hb dX9_isFaultHere_94 (by decide) ?_
          refine lv_iadd hx hb dX9_isFaultHere_95 ?_
          refine lv_aload_n hx hb dX9_isFaultHere_96 rfl (lv_at hl 1 rfl) ?_
          refine va_get (D := D) (v := .int (gI z16 14)) (C := RX9) (T := TX9) (N := 36) hx hb hts iX9 hown hK.1 hP 0 rfl rfl 14 (by decide) (hts _ t_896) (fun _ h9 => h9) rfl dX9_isFaultHere_97 ?_
          obtain ⟨g18, h⟩ := gd_some h
          refine ast_i hx hb hK.1 hP hD hS 7 0 rfl rfl (((4 * (gI z3 9)) + 2).toNatClampNeg) (ix_g g18) dX9_isFaultHere_100 (fun H locs hP hD hS => ?_)
          rw [u9_11] at hP hD
          refine lv_aload_n hx hb dX9_isFaultHere_101 rfl (lv_at hl 1 rfl) ?_
          refine va_get (D := D) (v := .ref (Q_t 11)) (C := RX9) (T := TX9) (N := 36) hx hb hts iX9 hown hK.1 hP 0 rfl rfl 11 (by decide) (hts _ t_893) (fun _ h9 => h9) rfl dX9_isFaultHere_102 ?_
          refine lv_iload_n hx hb dX9_isFaultHere_105 rfl (lv_at hl 0 rfl) ?_
          refine lv_iconst (v := 3) hx hb dX9_isFaultHere_106 (by decide) ?_
          refine lv_iadd hx hb dX9_isFaultHere_107 ?_
          refine lv_iconst (v := (-1)) hx hb dX9_isFaultHere_108 (by decide) ?_
          obtain ⟨g19, h⟩ := gd_some h
          refine ast_i hx hb hK.1 hP hD hS 7 0 rfl rfl (((4 * (gI z3 9)) + 3).toNatClampNeg) (ix_g g19) dX9_isFaultHere_109 (fun H locs hP hD hS => ?_)
          rw [u9_11] at hP hD
          refine lv_aload_n hx hb dX9_isFaultHere_110 rfl (lv_at hl 1 rfl) ?_
          refine lv_ldc2 hx hb hown (hts _ t_1139) dX9_isFaultHere_111 ?_
          obtain ⟨r21, z22, hc20, h⟩ := bd2_some h
          refine cWi (runV (As := [.long 504363246962]) (rest := []) C (mX9_takesWord l D a (q_t := q_t) (Q_t := Q_t) hc20 H.size) lk_V_9_206 okN_X9_takesWord ⟨Nat.le_of_ble_eq_true rfl, Nat.le_of_ble_eq_true rfl⟩ ⟨rfl, rfl⟩ (preV (preM hK hP hD) (recvOf hK hP 0 rfl (ci := 9) rfl)) hl.1 rfl (Nat.le_of_ble_eq_true rfl) dX9_isFaultHere_114 ⟨Nat.le_of_ble_eq_true rfl, Nat.le_of_ble_eq_true rfl⟩) hP hD hS hA (fun H locs hP hD hS => ?_)
          have hP : va_P D classes (rc9 a q_t Q_t z22) H := hP
          have hD : va_D A (rc9 a q_t Q_t z22) := hD
          obtain ⟨J23, eJ23, h⟩ := jn_some h
          have hJ23 : ∀ (z24 : Sx) (H : Heap) (locs : List Loc) (ls : Array Slot), J23 z24 = some y → va_P D classes (rc9 a q_t Q_t z24) H → va_D A (rc9 a q_t Q_t z24) → va_S A s.heap H locs → lv_has ls 3 [(0, .ref q_t)] → W p l e (rmM 3 0 0 68) s m #[.ref q_t, .int x1] below meth c H locs 0 0 (MQ below (va_Qi (fun r (_ : Unit) => r = y.1) (Bw D A (fun _ => rc9 a q_t Q_t y.2)) A) #[.ref q_t, .int x1] s 0 0 A) (F0 m 148 ls []) := by
            intro z24 H locs ls h hP hD hS hl
            rw [eJ23] at h
            refine lv_aload_n hx hb dX9_isFaultHere_148 rfl (lv_at hl 0 rfl) ?_
            refine lv_dup hx hb dX9_isFaultHere_149 rfl ?_
            refine va_get (D := D) (v := .int (gI z24 9)) (C := RX9) (T := TX9) (N := 36) hx hb hts iX9 hown hK.1 hP 0 rfl rfl 9 (by decide) (hts _ t_891) (fun _ h9 => h9) rfl dX9_isFaultHere_150 ?_
            refine lv_iconst (v := 1) hx hb dX9_isFaultHere_153 (by decide) ?_
            refine lv_iadd hx hb dX9_isFaultHere_154 ?_
            refine va_put (D := D) (v := .int ((gI z24 9) + 1)) (C := RX9) (T := TX9) (N := 36) hx hb hts iX9 tyX9 tyX9_ok nmX9 hown hK.1 hP hD hS 0 rfl rfl 9 (by decide) (hts _ t_891) (fun _ h9 => h9) rfl (tyX9_ok 9 (by decide)) rfl rfl (Nat.le_of_ble_eq_true rfl) dX9_isFaultHere_155 (fun H locs hP hD hS => ?_)
            rw [u9_9] at hP hD
            refine lv_iconst (v := 1) hx hb dX9_isFaultHere_158 (by decide) ?_
            exact rMz C rfl (Or.inr rfl) h (g := fun y => rc9 a q_t Q_t y.2) (pr := fun y => y.1) hP hD hS dX9_isFaultHere_159
          refine lv_if_eq (tgt := 148) hx hb dX9_isFaultHere_117 (by decide) (fun c25 => ?_) (fun c25 => ?_)
          · have h := ite_t c25 h
            exact hJ23 z22 _ _ ls h hP hD hS (lv_sub hl [1] rfl)
          · have h := ite_f c25 h
            refine lv_aload_n hx hb dX9_isFaultHere_120 rfl (lv_at hl 1 rfl) ?_
            refine lv_iconst (v := 0) hx hb dX9_isFaultHere_121 (by decide) ?_
            refine lv_aload_n hx hb dX9_isFaultHere_122 rfl (lv_at hl 1 rfl) ?_
            refine va_get (D := D) (v := .int (gI z22 9)) (C := RX9) (T := TX9) (N := 36) hx hb hts iX9 hown hK.1 hP 0 rfl rfl 9 (by decide) (hts _ t_891) (fun _ h9 => h9) rfl dX9_isFaultHere_123 ?_
            refine lv_iconst (v := 1) hx hb dX9_isFaultHere_126 (by decide) ?_
            refine lv_isub hx hb dX9_isFaultHere_127 ?_
            obtain ⟨r27, z28, hc26, h⟩ := bd2_some h
            refine cWi (runV (As := [.int 0, .int ((gI z22 9) - 1)]) (rest := []) C (mX9_numberHere l D a (q_t := q_t) (Q_t := Q_t) hc26 H.size) lk_V_9_161 okN_X9_numberHere ⟨Nat.le_of_ble_eq_true rfl, Nat.le_of_ble_eq_true rfl⟩ ⟨rfl, rfl⟩ (preV (preM hK hP hD) (recvOf hK hP 0 rfl (ci := 9) rfl)) hl.1 rfl (Nat.le_of_ble_eq_true rfl) dX9_isFaultHere_128 ⟨Nat.le_of_ble_eq_true rfl, Nat.le_of_ble_eq_true rfl⟩) hP hD hS hA (fun H locs hP hD hS => ?_)
            have hP : va_P D classes (rc9 a q_t Q_t z28) H := hP
            have hD : va_D A (rc9 a q_t Q_t z28) := hD
            refine lv_if_ne (tgt := 136) hx hb dX9_isFaultHere_131 (by decide) (fun c29 => ?_) (fun c29 => ?_)
            · have h := ite_f c29 h
              refine lv_aload_n hx hb dX9_isFaultHere_136 rfl (lv_at hl 1 rfl) ?_
              refine va_get (D := D) (v := .ref (Q_t 11)) (C := RX9) (T := TX9) (N := 36) hx hb hts iX9 hown hK.1 hP 0 rfl rfl 11 (by decide) (hts _ t_893) (fun _ h9 => h9) rfl dX9_isFaultHere_137 ?_
              refine lv_iload_n hx hb dX9_isFaultHere_140 rfl (lv_at hl 0 rfl) ?_
              refine lv_iconst (v := 3) hx hb dX9_isFaultHere_141 (by decide) ?_
              refine lv_iadd hx hb dX9_isFaultHere_142 ?_
              refine lv_aload_n hx hb dX9_isFaultHere_143 rfl (lv_at hl 1 rfl) ?_
              refine va_get (D := D) (v := .int (gI z28 14)) (C := RX9) (T := TX9) (N := 36) hx hb hts iX9 hown hK.1 hP 0 rfl rfl 14 (by decide) (hts _ t_896) (fun _ h9 => h9) rfl dX9_isFaultHere_144 ?_
              refine ast_i hx hb hK.1 hP hD hS 7 0 rfl rfl (((4 * (gI z3 9)) + 3).toNatClampNeg) (ix_g g19) dX9_isFaultHere_147 (fun H locs hP hD hS => ?_)
              rw [u9_11] at hP hD
              exact hJ23 (sT z28 11 (((4 * (gI z3 9)) + 3).toNatClampNeg) (gI z28 14)) _ _ ls h hP hD hS (lv_sub hl [1] rfl)
            · have h := ite_t c29 h
              refine lv_iconst (v := 0) hx hb dX9_isFaultHere_134 (by decide) ?_
              exact rMz C rfl (Or.inl rfl) h (g := fun y => rc9 a q_t Q_t y.2) (pr := fun y => y.1) hP hD hS dX9_isFaultHere_135
        · have h := ite_t c17 h
          refine lv_iconst (v := 0) hx hb dX9_isFaultHere_87 (by decide) ?_
          exact rMz C rfl (Or.inl rfl) h (g := fun y => rc9 a q_t Q_t y.2) (pr := fun y => y.1) hP hD hS dX9_isFaultHere_88
      · have h := ite_t c12 h
        refine lv_iconst (v := 0) hx hb dX9_isFaultHere_63 (by decide) ?_
        exact rMz C rfl (Or.inl rfl) h (g := fun y => rc9 a q_t Q_t y.2) (pr := fun y => y.1) hP hD hS dX9_isFaultHere_64
    · have h := ite_t c7 h
      refine lv_iconst (v := 0) hx hb dX9_isFaultHere_41 (by decide) ?_
      exact rMz C rfl (Or.inl rfl) h (g := fun y => rc9 a q_t Q_t y.2) (pr := fun y => y.1) hP hD hS dX9_isFaultHere_42
  · have h := ite_t c1 h
    refine lv_aload_n hx hb dX9_isFaultHere_9 rfl (lv_at hl 0 rfl) ?_
    refine lv_iconst (v := 4) hx hb dX9_isFaultHere_10 (by decide) ?_
    refine lv_iload_n hx hb dX9_isFaultHere_11 rfl (lv_at hl 1 rfl) ?_
    obtain ⟨r31, z32, hc30, h⟩ := bd2_some h
    refine cWi (runV (As := [.int 4, .int x1]) (rest := []) C (mX9_fails l D a (q_t := q_t) (Q_t := Q_t) hc30 s.heap.size) lk_V_9_111 okN_X9_fails ⟨Nat.le_of_ble_eq_true rfl, Nat.le_of_ble_eq_true rfl⟩ ⟨rfl, rfl⟩ (preV (preM hK hP hD) (recvOf hK hP 0 rfl (ci := 9) rfl)) hl.1 rfl (Nat.le_of_ble_eq_true rfl) dX9_isFaultHere_12 ⟨Nat.le_of_ble_eq_true rfl, Nat.le_of_ble_eq_true rfl⟩) hP hD hS hA (fun H locs hP hD hS => ?_)
    have hP : va_P D classes (rc9 a q_t Q_t z32) H := hP
    have hD : va_D A (rc9 a q_t Q_t z32) := hD
    obtain ⟨g33, h⟩ := gd_some h
    exact rMz C rfl (g33) h (g := fun y => rc9 a q_t Q_t y.2) (pr := fun y => y.1) hP hD hS dX9_isFaultHere_15

set_option maxHeartbeats 4000000 in
set_option maxRecDepth 100000 in
theorem wX9_isKindHere_22 {p : Program} {l : Launch} {e : Env} {s : State} {m : MethodId} {below : List Frame} {meth : Method} {c : Code} {D : va_G} {a : Nat → ClassId} {A : Nat → Prop} {q_t : Nat} {Q_t : Nat → Nat} {x10 : Int32} (C : Cx p s m #[.ref q_t, .int x10] meth c MX9_isKindHere) (hK : KK D a s) (hA : ∀ q, s.heap.size ≤ q → A q) {y : Int32 × Sx} {k62 : Sx → Option (Int32 × Sx)} (hk62 : ∀ (z_tk : Sx) (H : Heap) (locs : List Loc) (ls : Array Slot), k62 z_tk = some y → va_P D classes (rc9 a q_t Q_t z_tk) H → va_D A (rc9 a q_t Q_t z_tk) → va_S A s.heap H locs → lv_has ls 3 [(0, .ref q_t)] → W p l e (rmM 2 0 0 49) s m #[.ref q_t, .int x10] below meth c H locs 0 0 (MQ below (va_Qi (fun r (_ : Unit) => r = y.1) (Bw D A (fun _ => rc9 a q_t Q_t y.2)) A) #[.ref q_t, .int x10] s 0 0 A) (F0 m 62 ls [])) : ∀ (n : Nat) (z_t : Sx) (x2 : Int32) (H : Heap) (locs : List Loc) (ls : Array Slot), lX9_isKindHere_22 k62 n z_t x2 = some y → va_P D classes (rc9 a q_t Q_t z_t) H → va_D A (rc9 a q_t Q_t z_t) → va_S A s.heap H locs → lv_has ls 3 [(0, .ref q_t), (2, .int x2)] → W p l e (rmM 2 0 0 49) s m #[.ref q_t, .int x10] below meth c H locs 0 0 (MQ below (va_Qi (fun r (_ : Unit) => r = y.1) (Bw D A (fun _ => rc9 a q_t Q_t y.2)) A) #[.ref q_t, .int x10] s 0 0 A) (F0 m 22 ls []) := by
  obtain ⟨hx, hb, hml, hown, hts, hr, hlocks, hnm⟩ := id C
  have hb : c.code = cX9_isKindHere := hb
  have hown : s.vm.findClass RX9 = some m.cls := hown
  intro n
  induction n with
  | zero => intro z_t x2 H locs ls h; rw [lX9_isKindHere_22] at h; cases h
  | succ n ih =>
    intro z_t x2 H locs ls h hP hD hS hl
    rw [lX9_isKindHere_22] at h
    refine lv_iload_n hx hb dX9_isKindHere_22 rfl (lv_at hl 1 rfl) ?_
    refine lv_iconst (v := 3) hx hb dX9_isKindHere_23 (by decide) ?_
    refine lv_icmp_ge (tgt := 62) hx hb dX9_isKindHere_24 (by decide) (fun c4 => ?_) (fun c4 => ?_)
    · have h := ite_t c4 h
      exact hk62 z_t _ _ ls h hP hD hS (lv_sub hl [0] rfl)
    · have h := ite_f c4 h
      refine lv_aload_n hx hb dX9_isKindHere_27 rfl (lv_at hl 0 rfl) ?_
      refine lv_iconst (v := 0) hx hb dX9_isKindHere_28 (by decide) ?_
      refine lv_bipush (v := 99) hx hb dX9_isKindHere_29 (by decide) ?_
      obtain ⟨r6, z7, hc5, h⟩ := bd2_some h
      refine cWi (runV (As := [.int 0, .int 99]) (rest := []) C (mX9_numberHere l D a (q_t := q_t) (Q_t := Q_t) hc5 H.size) lk_V_9_161 okN_X9_numberHere ⟨Nat.le_of_ble_eq_true rfl, Nat.le_of_ble_eq_true rfl⟩ ⟨rfl, rfl⟩ (preV (preM hK hP hD) (recvOf hK hP 0 rfl (ci := 9) rfl)) hl.1 rfl (Nat.le_of_ble_eq_true rfl) dX9_isKindHere_31 ⟨Nat.le_of_ble_eq_true rfl, Nat.le_of_ble_eq_true rfl⟩) hP hD hS hA (fun H locs hP hD hS => ?_)
      have hP : va_P D classes (rc9 a q_t Q_t z7) H := hP
      have hD : va_D A (rc9 a q_t Q_t z7) := hD
      refine lv_if_ne (tgt := 39) hx hb dX9_isKindHere_34 (by decide) (fun c8 => ?_) (fun c8 => ?_)
      · have h := ite_f c8 h
        refine lv_aload_n hx hb dX9_isKindHere_39 rfl (lv_at hl 0 rfl) ?_
        refine va_get (D := D) (v := .ref (Q_t 10)) (C := RX9) (T := TX9) (N := 36) hx hb hts iX9 hown hK.1 hP 0 rfl rfl 10 (by decide) (hts _ t_892) (fun _ h9 => h9) rfl dX9_isKindHere_40 ?_
        refine lv_iconst (v := 3) hx hb dX9_isKindHere_43 (by decide) ?_
        refine lv_aload_n hx hb dX9_isKindHere_44 rfl (lv_at hl 0 rfl) ?_
        refine va_get (D := D) (v := .int (gI z7 8)) (C := RX9) (T := TX9) (N := 36) hx hb hts iX9 hown hK.1 hP 0 rfl rfl 8 (by decide) (hts _ t_890) (fun _ h9 => h9) rfl dX9_isKindHere_45 ?_
        refine lv_imul hx hb dX9_isKindHere_48 ?_
        refine lv_iload_n hx hb dX9_isKindHere_49 rfl (lv_at hl 1 rfl) ?_
        refine lv_iadd hx hb dX9_isKindHere_50 ?_
        refine lv_aload_n hx hb dX9_isKindHere_51 rfl (lv_at hl 0 rfl) ?_
        refine va_get (D := D) (v := .int (gI z7 14)) (C := RX9) (T := TX9) (N := 36) hx hb hts iX9 hown hK.1 hP 0 rfl rfl 14 (by decide) (hts _ t_896) (fun _ h9 => h9) rfl dX9_isKindHere_52 ?_
        obtain ⟨g9, h⟩ := gd_some h
        refine ast_i hx hb hK.1 hP hD hS 6 0 rfl rfl (((3 * (gI z7 8)) + x2).toNatClampNeg) (ix_g g9) dX9_isKindHere_55 (fun H locs hP hD hS => ?_)
        rw [u9_10] at hP hD
        refine lv_iinc (v := x2 + 1) (lv' := [(2, .int (x2 + 1)), (0, .ref q_t)]) hx hb dX9_isKindHere_56 hl (k := 1) rfl rfl (by decide) rfl (fun ls hl => ?_)
        refine lv_goto (tgt := 22) hx hb dX9_isKindHere_59 (by decide) ?_
        exact ih (sT z7 10 (((3 * (gI z7 8)) + x2).toNatClampNeg) (gI z7 14)) (x2 + 1) _ _ ls h hP hD hS (lv_sub hl [1, 0] rfl)
      · have h := ite_t c8 h
        refine lv_iconst (v := 0) hx hb dX9_isKindHere_37 (by decide) ?_
        exact rMz C rfl (Or.inl rfl) h (g := fun y => rc9 a q_t Q_t y.2) (pr := fun y => y.1) hP hD hS dX9_isKindHere_38

set_option maxHeartbeats 4000000 in
set_option maxRecDepth 100000 in
theorem mX9_isKindHere (l : Launch) (D : va_G) (a : Nat → ClassId) {q_t : Nat} {Q_t : Nat → Nat} {z_t : Sx} {x1 : Int32} {y : Int32 × Sx} (h : fX9_isKindHere z_t x1 = some y) (sz : Nat) : CMi (S := Unit) l MX9_isKindHere 2 49 0 0 D a [.ref q_t, .int x1] (rc9 a q_t Q_t z_t) sz (fun r _ => r = y.1) (fun _ => rc9 a q_t Q_t y.2) := by
  unfold fX9_isKindHere at h
  refine entMi (by decide) (Nat.le_of_ble_eq_true rfl) ?_
  intro p e s m below meth c C hK A hA hP hD ls hl
  obtain ⟨hx, hb, hml, hown, hts, hr, hlocks, hnm⟩ := id C
  have hb : c.code = cX9_isKindHere := hb
  have hown : s.vm.findClass RX9 = some m.cls := hown
  have hS : va_S A s.heap s.heap [] := va_S.rf
  have hl : lv_has ls 3 [(0, .ref q_t), (1, .int x1)] := hl
  refine lv_aload_n hx hb dX9_isKindHere_0 rfl (lv_at hl 0 rfl) ?_
  refine va_get (D := D) (v := .int (gI z_t 8)) (C := RX9) (T := TX9) (N := 36) hx hb hts iX9 hown hK.1 hP 0 rfl rfl 8 (by decide) (hts _ t_890) (fun _ h9 => h9) rfl dX9_isKindHere_1 ?_
  refine lv_bipush (v := 6) hx hb dX9_isKindHere_4 (by decide) ?_
  refine lv_icmp_ne (tgt := 16) hx hb dX9_isKindHere_6 (by decide) (fun c1 => ?_) (fun c1 => ?_)
  · have h := ite_f c1 h
    refine lv_aload_n hx hb dX9_isKindHere_16 rfl (lv_at hl 0 rfl) ?_
    obtain ⟨z3, hc2, h⟩ := bd_some h
    refine cWv (runV (As := []) (rest := []) C (mX9_passWord l D a (q_t := q_t) (Q_t := Q_t) hc2 s.heap.size) lk_V_9_105 okN_X9_passWord ⟨Nat.le_of_ble_eq_true rfl, Nat.le_of_ble_eq_true rfl⟩ ⟨rfl, rfl⟩ (preV (preM hK hP hD) (recvOf hK hP 0 rfl (ci := 9) rfl)) hl.1 rfl (Nat.le_of_ble_eq_true rfl) dX9_isKindHere_17 ⟨Nat.le_of_ble_eq_true rfl, Nat.le_of_ble_eq_true rfl⟩) hP hD hS hA (fun H locs hP hD hS => ?_)
    have hP : va_P D classes (rc9 a q_t Q_t z3) H := hP
    have hD : va_D A (rc9 a q_t Q_t z3) := hD
    refine lv_iconst (v := 0) hx hb dX9_isKindHere_20 (by decide) ?_
    refine lv_istore_n (lv' := [(2, .int 0), (0, .ref q_t), (1, .int x1)]) hx hb dX9_isKindHere_21 rfl hl (by decide) rfl (fun ls hl => ?_)
    refine wX9_isKindHere_22 C hK hA ?_ FU z3 0 _ _ ls h hP hD hS (lv_sub hl [1, 0] rfl)
    · intro z10 H locs ls h hP hD hS hl
      refine lv_aload_n hx hb dX9_isKindHere_62 rfl (lv_at hl 0 rfl) ?_
      refine lv_dup hx hb dX9_isKindHere_63 rfl ?_
      refine va_get (D := D) (v := .int (gI z10 8)) (C := RX9) (T := TX9) (N := 36) hx hb hts iX9 hown hK.1 hP 0 rfl rfl 8 (by decide) (hts _ t_890) (fun _ h9 => h9) rfl dX9_isKindHere_64 ?_
      refine lv_iconst (v := 1) hx hb dX9_isKindHere_67 (by decide) ?_
      refine lv_iadd hx hb dX9_isKindHere_68 ?_
      refine va_put (D := D) (v := .int ((gI z10 8) + 1)) (C := RX9) (T := TX9) (N := 36) hx hb hts iX9 tyX9 tyX9_ok nmX9 hown hK.1 hP hD hS 0 rfl rfl 8 (by decide) (hts _ t_890) (fun _ h9 => h9) rfl (tyX9_ok 8 (by decide)) rfl rfl (Nat.le_of_ble_eq_true rfl) dX9_isKindHere_69 (fun H locs hP hD hS => ?_)
      rw [u9_8] at hP hD
      refine lv_iconst (v := 1) hx hb dX9_isKindHere_72 (by decide) ?_
      exact rMz C rfl (Or.inr rfl) h (g := fun y => rc9 a q_t Q_t y.2) (pr := fun y => y.1) hP hD hS dX9_isKindHere_73
  · have h := ite_t c1 h
    refine lv_aload_n hx hb dX9_isKindHere_9 rfl (lv_at hl 0 rfl) ?_
    refine lv_iconst (v := 4) hx hb dX9_isKindHere_10 (by decide) ?_
    refine lv_iload_n hx hb dX9_isKindHere_11 rfl (lv_at hl 1 rfl) ?_
    obtain ⟨r12, z13, hc11, h⟩ := bd2_some h
    refine cWi (runV (As := [.int 4, .int x1]) (rest := []) C (mX9_fails l D a (q_t := q_t) (Q_t := Q_t) hc11 s.heap.size) lk_V_9_111 okN_X9_fails ⟨Nat.le_of_ble_eq_true rfl, Nat.le_of_ble_eq_true rfl⟩ ⟨rfl, rfl⟩ (preV (preM hK hP hD) (recvOf hK hP 0 rfl (ci := 9) rfl)) hl.1 rfl (Nat.le_of_ble_eq_true rfl) dX9_isKindHere_12 ⟨Nat.le_of_ble_eq_true rfl, Nat.le_of_ble_eq_true rfl⟩) hP hD hS hA (fun H locs hP hD hS => ?_)
    have hP : va_P D classes (rc9 a q_t Q_t z13) H := hP
    have hD : va_D A (rc9 a q_t Q_t z13) := hD
    obtain ⟨g14, h⟩ := gd_some h
    exact rMz C rfl (g14) h (g := fun y => rc9 a q_t Q_t y.2) (pr := fun y => y.1) hP hD hS dX9_isKindHere_15

set_option maxHeartbeats 4000000 in
set_option maxRecDepth 100000 in
theorem mX9_isTimeHere (l : Launch) (D : va_G) (a : Nat → ClassId) {q_t : Nat} {Q_t : Nat → Nat} {z_t : Sx} {x1 : Int32} {y : Int32 × Sx} (h : fX9_isTimeHere z_t x1 = some y) (sz : Nat) : CMi (S := Unit) l MX9_isTimeHere 2 49 0 0 D a [.ref q_t, .int x1] (rc9 a q_t Q_t z_t) sz (fun r _ => r = y.1) (fun _ => rc9 a q_t Q_t y.2) := by
  unfold fX9_isTimeHere at h
  refine entMi (by decide) (Nat.le_of_ble_eq_true rfl) ?_
  intro p e s m below meth c C hK A hA hP hD ls hl
  obtain ⟨hx, hb, hml, hown, hts, hr, hlocks, hnm⟩ := id C
  have hb : c.code = cX9_isTimeHere := hb
  have hown : s.vm.findClass RX9 = some m.cls := hown
  have hS : va_S A s.heap s.heap [] := va_S.rf
  have hl : lv_has ls 2 [(0, .ref q_t), (1, .int x1)] := hl
  refine lv_aload_n hx hb dX9_isTimeHere_0 rfl (lv_at hl 0 rfl) ?_
  refine va_get (D := D) (v := .int (gI z_t 7)) (C := RX9) (T := TX9) (N := 36) hx hb hts iX9 hown hK.1 hP 0 rfl rfl 7 (by decide) (hts _ t_889) (fun _ h9 => h9) rfl dX9_isTimeHere_1 ?_
  refine lv_if_lt (tgt := 14) hx hb dX9_isTimeHere_4 (by decide) (fun c1 => ?_) (fun c1 => ?_)
  · have h := ite_t c1 h
    refine lv_aload_n hx hb dX9_isTimeHere_14 rfl (lv_at hl 0 rfl) ?_
    obtain ⟨z3, hc2, h⟩ := bd_some h
    refine cWv (runV (As := []) (rest := []) C (mX9_passWord l D a (q_t := q_t) (Q_t := Q_t) hc2 s.heap.size) lk_V_9_105 okN_X9_passWord ⟨Nat.le_of_ble_eq_true rfl, Nat.le_of_ble_eq_true rfl⟩ ⟨rfl, rfl⟩ (preV (preM hK hP hD) (recvOf hK hP 0 rfl (ci := 9) rfl)) hl.1 rfl (Nat.le_of_ble_eq_true rfl) dX9_isTimeHere_15 ⟨Nat.le_of_ble_eq_true rfl, Nat.le_of_ble_eq_true rfl⟩) hP hD hS hA (fun H locs hP hD hS => ?_)
    have hP : va_P D classes (rc9 a q_t Q_t z3) H := hP
    have hD : va_D A (rc9 a q_t Q_t z3) := hD
    refine lv_aload_n hx hb dX9_isTimeHere_18 rfl (lv_at hl 0 rfl) ?_
    refine lv_iconst (v := 1) hx hb dX9_isTimeHere_19 (by decide) ?_
    refine lv_sipush (v := 480) hx hb dX9_isTimeHere_20 (by decide) ?_
    obtain ⟨r5, z6, hc4, h⟩ := bd2_some h
    refine cWi (runV (As := [.int 1, .int 480]) (rest := []) C (mX9_numberHere l D a (q_t := q_t) (Q_t := Q_t) hc4 H.size) lk_V_9_161 okN_X9_numberHere ⟨Nat.le_of_ble_eq_true rfl, Nat.le_of_ble_eq_true rfl⟩ ⟨rfl, rfl⟩ (preV (preM hK hP hD) (recvOf hK hP 0 rfl (ci := 9) rfl)) hl.1 rfl (Nat.le_of_ble_eq_true rfl) dX9_isTimeHere_23 ⟨Nat.le_of_ble_eq_true rfl, Nat.le_of_ble_eq_true rfl⟩) hP hD hS hA (fun H locs hP hD hS => ?_)
    have hP : va_P D classes (rc9 a q_t Q_t z6) H := hP
    have hD : va_D A (rc9 a q_t Q_t z6) := hD
    refine lv_if_ne (tgt := 31) hx hb dX9_isTimeHere_26 (by decide) (fun c7 => ?_) (fun c7 => ?_)
    · have h := ite_f c7 h
      refine lv_aload_n hx hb dX9_isTimeHere_31 rfl (lv_at hl 0 rfl) ?_
      refine lv_aload_n hx hb dX9_isTimeHere_32 rfl (lv_at hl 0 rfl) ?_
      refine va_get (D := D) (v := .int (gI z6 14)) (C := RX9) (T := TX9) (N := 36) hx hb hts iX9 hown hK.1 hP 0 rfl rfl 14 (by decide) (hts _ t_896) (fun _ h9 => h9) rfl dX9_isTimeHere_33 ?_
      refine va_put (D := D) (v := .int (gI z6 14)) (C := RX9) (T := TX9) (N := 36) hx hb hts iX9 tyX9 tyX9_ok nmX9 hown hK.1 hP hD hS 0 rfl rfl 7 (by decide) (hts _ t_889) (fun _ h9 => h9) rfl (tyX9_ok 7 (by decide)) rfl rfl (Nat.le_of_ble_eq_true rfl) dX9_isTimeHere_36 (fun H locs hP hD hS => ?_)
      rw [u9_7] at hP hD
      refine lv_iconst (v := 1) hx hb dX9_isTimeHere_39 (by decide) ?_
      exact rMz C rfl (Or.inr rfl) h (g := fun y => rc9 a q_t Q_t y.2) (pr := fun y => y.1) hP hD hS dX9_isTimeHere_40
    · have h := ite_t c7 h
      refine lv_iconst (v := 0) hx hb dX9_isTimeHere_29 (by decide) ?_
      exact rMz C rfl (Or.inl rfl) h (g := fun y => rc9 a q_t Q_t y.2) (pr := fun y => y.1) hP hD hS dX9_isTimeHere_30
  · have h := ite_f c1 h
    refine lv_aload_n hx hb dX9_isTimeHere_7 rfl (lv_at hl 0 rfl) ?_
    refine lv_iconst (v := 4) hx hb dX9_isTimeHere_8 (by decide) ?_
    refine lv_iload_n hx hb dX9_isTimeHere_9 rfl (lv_at hl 1 rfl) ?_
    obtain ⟨r9, z10, hc8, h⟩ := bd2_some h
    refine cWi (runV (As := [.int 4, .int x1]) (rest := []) C (mX9_fails l D a (q_t := q_t) (Q_t := Q_t) hc8 s.heap.size) lk_V_9_111 okN_X9_fails ⟨Nat.le_of_ble_eq_true rfl, Nat.le_of_ble_eq_true rfl⟩ ⟨rfl, rfl⟩ (preV (preM hK hP hD) (recvOf hK hP 0 rfl (ci := 9) rfl)) hl.1 rfl (Nat.le_of_ble_eq_true rfl) dX9_isTimeHere_10 ⟨Nat.le_of_ble_eq_true rfl, Nat.le_of_ble_eq_true rfl⟩) hP hD hS hA (fun H locs hP hD hS => ?_)
    have hP : va_P D classes (rc9 a q_t Q_t z10) H := hP
    have hD : va_D A (rc9 a q_t Q_t z10) := hD
    obtain ⟨g11, h⟩ := gd_some h
    exact rMz C rfl (g11) h (g := fun y => rc9 a q_t Q_t y.2) (pr := fun y => y.1) hP hD hS dX9_isTimeHere_13

set_option maxHeartbeats 4000000 in
set_option maxRecDepth 100000 in
theorem mX9_opens (l : Launch) (D : va_G) (a : Nat → ClassId) {q_t : Nat} {Q_t : Nat → Nat} {z_t : Sx} {x1 : Int32} {y : Int32 × Sx} (h : fX9_opens z_t x1 = some y) (sz : Nat) : CMi (S := Unit) l MX9_opens 1 22 0 0 D a [.ref q_t, .int x1] (rc9 a q_t Q_t z_t) sz (fun r _ => r = y.1) (fun _ => rc9 a q_t Q_t y.2) := by
  unfold fX9_opens at h
  refine entMi (by decide) (Nat.le_of_ble_eq_true rfl) ?_
  intro p e s m below meth c C hK A hA hP hD ls hl
  obtain ⟨hx, hb, hml, hown, hts, hr, hlocks, hnm⟩ := id C
  have hb : c.code = cX9_opens := hb
  have hown : s.vm.findClass RX9 = some m.cls := hown
  have hS : va_S A s.heap s.heap [] := va_S.rf
  have hl : lv_has ls 2 [(0, .ref q_t), (1, .int x1)] := hl
  refine lv_aload_n hx hb dX9_opens_0 rfl (lv_at hl 0 rfl) ?_
  refine va_get (D := D) (v := .int (gI z_t 17)) (C := RX9) (T := TX9) (N := 36) hx hb hts iX9 hown hK.1 hP 0 rfl rfl 17 (by decide) (hts _ t_899) (fun _ h9 => h9) rfl dX9_opens_1 ?_
  refine lv_bipush (v := 10) hx hb dX9_opens_4 (by decide) ?_
  refine lv_icmp_ne (tgt := 19) hx hb dX9_opens_6 (by decide) (fun c1 => ?_) (fun c1 => ?_)
  · have h := ite_f c1 h
    refine lv_aload_n hx hb dX9_opens_19 rfl (lv_at hl 0 rfl) ?_
    refine lv_dup hx hb dX9_opens_20 rfl ?_
    refine va_get (D := D) (v := .int (gI z_t 17)) (C := RX9) (T := TX9) (N := 36) hx hb hts iX9 hown hK.1 hP 0 rfl rfl 17 (by decide) (hts _ t_899) (fun _ h9 => h9) rfl dX9_opens_21 ?_
    refine lv_iconst (v := 1) hx hb dX9_opens_24 (by decide) ?_
    refine lv_iadd hx hb dX9_opens_25 ?_
    refine va_put (D := D) (v := .int ((gI z_t 17) + 1)) (C := RX9) (T := TX9) (N := 36) hx hb hts iX9 tyX9 tyX9_ok nmX9 hown hK.1 hP hD hS 0 rfl rfl 17 (by decide) (hts _ t_899) (fun _ h9 => h9) rfl (tyX9_ok 17 (by decide)) rfl rfl (Nat.le_of_ble_eq_true rfl) dX9_opens_26 (fun H locs hP hD hS => ?_)
    rw [u9_17] at hP hD
    refine lv_aload_n hx hb dX9_opens_29 rfl (lv_at hl 0 rfl) ?_
    refine va_get (D := D) (v := .ref (Q_t 19)) (C := RX9) (T := TX9) (N := 36) hx hb hts iX9 hown hK.1 hP 0 rfl rfl 19 (by decide) (hts _ t_901) (fun _ h9 => h9) rfl dX9_opens_30 ?_
    refine lv_aload_n hx hb dX9_opens_33 rfl (lv_at hl 0 rfl) ?_
    refine va_get (D := D) (v := .int (gI z_t 20)) (C := RX9) (T := TX9) (N := 36) hx hb hts iX9 hown hK.1 hP 0 rfl rfl 20 (by decide) (hts _ t_902) (fun _ h9 => h9) rfl dX9_opens_34 ?_
    refine lv_iload_n hx hb dX9_opens_37 rfl (lv_at hl 1 rfl) ?_
    obtain ⟨g2, h⟩ := gd_some h
    refine ast_i hx hb hK.1 hP hD hS 8 0 rfl rfl ((gI z_t 20).toNatClampNeg) (ix_g g2) dX9_opens_38 (fun H locs hP hD hS => ?_)
    rw [u9_19] at hP hD
    refine lv_aload_n hx hb dX9_opens_39 rfl (lv_at hl 0 rfl) ?_
    refine lv_dup hx hb dX9_opens_40 rfl ?_
    refine va_get (D := D) (v := .int (gI z_t 20)) (C := RX9) (T := TX9) (N := 36) hx hb hts iX9 hown hK.1 hP 0 rfl rfl 20 (by decide) (hts _ t_902) (fun _ h9 => h9) rfl dX9_opens_41 ?_
    refine lv_iconst (v := 1) hx hb dX9_opens_44 (by decide) ?_
    refine lv_iadd hx hb dX9_opens_45 ?_
    refine va_put (D := D) (v := .int ((gI z_t 20) + 1)) (C := RX9) (T := TX9) (N := 36) hx hb hts iX9 tyX9 tyX9_ok nmX9 hown hK.1 hP hD hS 0 rfl rfl 20 (by decide) (hts _ t_902) (fun _ h9 => h9) rfl (tyX9_ok 20 (by decide)) rfl rfl (Nat.le_of_ble_eq_true rfl) dX9_opens_46 (fun H locs hP hD hS => ?_)
    rw [u9_20] at hP hD
    refine lv_iconst (v := 1) hx hb dX9_opens_49 (by decide) ?_
    exact rMz C rfl (Or.inr rfl) h (g := fun y => rc9 a q_t Q_t y.2) (pr := fun y => y.1) hP hD hS dX9_opens_50
  · have h := ite_t c1 h
    refine lv_aload_n hx hb dX9_opens_9 rfl (lv_at hl 0 rfl) ?_
    refine lv_iconst (v := 2) hx hb dX9_opens_10 (by decide) ?_
    refine lv_aload_n hx hb dX9_opens_11 rfl (lv_at hl 0 rfl) ?_
    refine va_get (D := D) (v := .int (gI z_t 12)) (C := RX9) (T := TX9) (N := 36) hx hb hts iX9 hown hK.1 hP 0 rfl rfl 12 (by decide) (hts _ t_894) (fun _ h9 => h9) rfl dX9_opens_12 ?_
    obtain ⟨r4, z5, hc3, h⟩ := bd2_some h
    refine cWi (runV (As := [.int 2, .int (gI z_t 12)]) (rest := []) C (mX9_fails l D a (q_t := q_t) (Q_t := Q_t) hc3 s.heap.size) lk_V_9_111 okN_X9_fails ⟨Nat.le_of_ble_eq_true rfl, Nat.le_of_ble_eq_true rfl⟩ ⟨rfl, rfl⟩ (preV (preM hK hP hD) (recvOf hK hP 0 rfl (ci := 9) rfl)) hl.1 rfl (Nat.le_of_ble_eq_true rfl) dX9_opens_15 ⟨Nat.le_of_ble_eq_true rfl, Nat.le_of_ble_eq_true rfl⟩) hP hD hS hA (fun H locs hP hD hS => ?_)
    have hP : va_P D classes (rc9 a q_t Q_t z5) H := hP
    have hD : va_D A (rc9 a q_t Q_t z5) := hD
    obtain ⟨g6, h⟩ := gd_some h
    exact rMz C rfl (g6) h (g := fun y => rc9 a q_t Q_t y.2) (pr := fun y => y.1) hP hD hS dX9_opens_18

set_option maxHeartbeats 4000000 in
set_option maxRecDepth 100000 in
theorem mX9_wordHere (l : Launch) (D : va_G) (a : Nat → ClassId) {q_t : Nat} {Q_t : Nat → Nat} {z_t : Sx} {y : Int32 × Sx} (h : fX9_wordHere z_t = some y) (sz : Nat) : CMi (S := Unit) l MX9_wordHere 2 46 0 0 D a [.ref q_t] (rc9 a q_t Q_t z_t) sz (fun r _ => r = y.1) (fun _ => rc9 a q_t Q_t y.2) := by
  unfold fX9_wordHere at h
  refine entMi (by decide) (Nat.le_of_ble_eq_true rfl) ?_
  intro p e s m below meth c C hK A hA hP hD ls hl
  obtain ⟨hx, hb, hml, hown, hts, hr, hlocks, hnm⟩ := id C
  have hb : c.code = cX9_wordHere := hb
  have hown : s.vm.findClass RX9 = some m.cls := hown
  have hS : va_S A s.heap s.heap [] := va_S.rf
  have hl : lv_has ls 1 [(0, .ref q_t)] := hl
  refine lv_aload_n hx hb dX9_wordHere_0 rfl (lv_at hl 0 rfl) ?_
  refine lv_ldc2 hx hb hown (hts _ t_1030) dX9_wordHere_1 ?_
  obtain ⟨r2, z3, hc1, h⟩ := bd2_some h
  refine cWi (runV (As := [.long 439721749620]) (rest := []) C (mX9_isWord l D a (q_t := q_t) (Q_t := Q_t) hc1 s.heap.size) lk_V_9_101 okN_X9_isWord ⟨Nat.le_of_ble_eq_true rfl, Nat.le_of_ble_eq_true rfl⟩ ⟨rfl, rfl⟩ (preV (preM hK hP hD) (recvOf hK hP 0 rfl (ci := 9) rfl)) hl.1 rfl (Nat.le_of_ble_eq_true rfl) dX9_wordHere_4 ⟨Nat.le_of_ble_eq_true rfl, Nat.le_of_ble_eq_true rfl⟩) hP hD hS hA (fun H locs hP hD hS => ?_)
  have hP : va_P D classes (rc9 a q_t Q_t z3) H := hP
  have hD : va_D A (rc9 a q_t Q_t z3) := hD
  refine lv_if_eq (tgt := 12) hx hb dX9_wordHere_7 (by decide) (fun c4 => ?_) (fun c4 => ?_)
  · have h := ite_t c4 h
    refine lv_aload_n hx hb dX9_wordHere_12 rfl (lv_at hl 0 rfl) ?_
    refine lv_ldc2 hx hb hown (hts _ t_1029) dX9_wordHere_13 ?_
    obtain ⟨r6, z7, hc5, h⟩ := bd2_some h
    refine cWi (runV (As := [.long 1802071652]) (rest := []) C (mX9_isWord l D a (q_t := q_t) (Q_t := Q_t) hc5 H.size) lk_V_9_101 okN_X9_isWord ⟨Nat.le_of_ble_eq_true rfl, Nat.le_of_ble_eq_true rfl⟩ ⟨rfl, rfl⟩ (preV (preM hK hP hD) (recvOf hK hP 0 rfl (ci := 9) rfl)) hl.1 rfl (Nat.le_of_ble_eq_true rfl) dX9_wordHere_16 ⟨Nat.le_of_ble_eq_true rfl, Nat.le_of_ble_eq_true rfl⟩) hP hD hS hA (fun H locs hP hD hS => ?_)
    have hP : va_P D classes (rc9 a q_t Q_t z7) H := hP
    have hD : va_D A (rc9 a q_t Q_t z7) := hD
    refine lv_if_eq (tgt := 24) hx hb dX9_wordHere_19 (by decide) (fun c8 => ?_) (fun c8 => ?_)
    · have h := ite_t c8 h
      refine lv_aload_n hx hb dX9_wordHere_24 rfl (lv_at hl 0 rfl) ?_
      refine lv_ldc2 hx hb hown (hts _ t_1081) dX9_wordHere_25 ?_
      obtain ⟨r10, z11, hc9, h⟩ := bd2_some h
      refine cWi (runV (As := [.long 7364985]) (rest := []) C (mX9_isWord l D a (q_t := q_t) (Q_t := Q_t) hc9 H.size) lk_V_9_101 okN_X9_isWord ⟨Nat.le_of_ble_eq_true rfl, Nat.le_of_ble_eq_true rfl⟩ ⟨rfl, rfl⟩ (preV (preM hK hP hD) (recvOf hK hP 0 rfl (ci := 9) rfl)) hl.1 rfl (Nat.le_of_ble_eq_true rfl) dX9_wordHere_28 ⟨Nat.le_of_ble_eq_true rfl, Nat.le_of_ble_eq_true rfl⟩) hP hD hS hA (fun H locs hP hD hS => ?_)
      have hP : va_P D classes (rc9 a q_t Q_t z11) H := hP
      have hD : va_D A (rc9 a q_t Q_t z11) := hD
      refine lv_if_eq (tgt := 36) hx hb dX9_wordHere_31 (by decide) (fun c12 => ?_) (fun c12 => ?_)
      · have h := ite_t c12 h
        refine lv_aload_n hx hb dX9_wordHere_36 rfl (lv_at hl 0 rfl) ?_
        refine lv_ldc2 hx hb hown (hts _ t_1082) dX9_wordHere_37 ?_
        obtain ⟨r14, z15, hc13, h⟩ := bd2_some h
        refine cWi (runV (As := [.long 1868850291]) (rest := []) C (mX9_isWord l D a (q_t := q_t) (Q_t := Q_t) hc13 H.size) lk_V_9_101 okN_X9_isWord ⟨Nat.le_of_ble_eq_true rfl, Nat.le_of_ble_eq_true rfl⟩ ⟨rfl, rfl⟩ (preV (preM hK hP hD) (recvOf hK hP 0 rfl (ci := 9) rfl)) hl.1 rfl (Nat.le_of_ble_eq_true rfl) dX9_wordHere_40 ⟨Nat.le_of_ble_eq_true rfl, Nat.le_of_ble_eq_true rfl⟩) hP hD hS hA (fun H locs hP hD hS => ?_)
        have hP : va_P D classes (rc9 a q_t Q_t z15) H := hP
        have hD : va_D A (rc9 a q_t Q_t z15) := hD
        refine lv_if_eq (tgt := 48) hx hb dX9_wordHere_43 (by decide) (fun c16 => ?_) (fun c16 => ?_)
        · have h := ite_t c16 h
          refine lv_aload_n hx hb dX9_wordHere_48 rfl (lv_at hl 0 rfl) ?_
          refine lv_ldc2 hx hb hown (hts _ t_1083) dX9_wordHere_49 ?_
          obtain ⟨r18, z19, hc17, h⟩ := bd2_some h
          refine cWi (runV (As := [.long 30796695599342963]) (rest := []) C (mX9_isWord l D a (q_t := q_t) (Q_t := Q_t) hc17 H.size) lk_V_9_101 okN_X9_isWord ⟨Nat.le_of_ble_eq_true rfl, Nat.le_of_ble_eq_true rfl⟩ ⟨rfl, rfl⟩ (preV (preM hK hP hD) (recvOf hK hP 0 rfl (ci := 9) rfl)) hl.1 rfl (Nat.le_of_ble_eq_true rfl) dX9_wordHere_52 ⟨Nat.le_of_ble_eq_true rfl, Nat.le_of_ble_eq_true rfl⟩) hP hD hS hA (fun H locs hP hD hS => ?_)
          have hP : va_P D classes (rc9 a q_t Q_t z19) H := hP
          have hD : va_D A (rc9 a q_t Q_t z19) := hD
          refine lv_if_eq (tgt := 60) hx hb dX9_wordHere_55 (by decide) (fun c20 => ?_) (fun c20 => ?_)
          · have h := ite_t c20 h
            refine lv_aload_n hx hb dX9_wordHere_60 rfl (lv_at hl 0 rfl) ?_
            refine lv_ldc2 hx hb hown (hts _ t_1084) dX9_wordHere_61 ?_
            obtain ⟨r22, z23, hc21, h⟩ := bd2_some h
            refine cWi (runV (As := [.long 1818584692]) (rest := []) C (mX9_isWord l D a (q_t := q_t) (Q_t := Q_t) hc21 H.size) lk_V_9_101 okN_X9_isWord ⟨Nat.le_of_ble_eq_true rfl, Nat.le_of_ble_eq_true rfl⟩ ⟨rfl, rfl⟩ (preV (preM hK hP hD) (recvOf hK hP 0 rfl (ci := 9) rfl)) hl.1 rfl (Nat.le_of_ble_eq_true rfl) dX9_wordHere_64 ⟨Nat.le_of_ble_eq_true rfl, Nat.le_of_ble_eq_true rfl⟩) hP hD hS hA (fun H locs hP hD hS => ?_)
            have hP : va_P D classes (rc9 a q_t Q_t z23) H := hP
            have hD : va_D A (rc9 a q_t Q_t z23) := hD
            refine lv_if_eq (tgt := 72) hx hb dX9_wordHere_67 (by decide) (fun c24 => ?_) (fun c24 => ?_)
            · have h := ite_t c24 h
              refine lv_aload_n hx hb dX9_wordHere_72 rfl (lv_at hl 0 rfl) ?_
              refine lv_ldc2 hx hb hown (hts _ t_1085) dX9_wordHere_73 ?_
              obtain ⟨r26, z27, hc25, h⟩ := bd2_some h
              refine cWi (runV (As := [.long 439956631140]) (rest := []) C (mX9_isWord l D a (q_t := q_t) (Q_t := Q_t) hc25 H.size) lk_V_9_101 okN_X9_isWord ⟨Nat.le_of_ble_eq_true rfl, Nat.le_of_ble_eq_true rfl⟩ ⟨rfl, rfl⟩ (preV (preM hK hP hD) (recvOf hK hP 0 rfl (ci := 9) rfl)) hl.1 rfl (Nat.le_of_ble_eq_true rfl) dX9_wordHere_76 ⟨Nat.le_of_ble_eq_true rfl, Nat.le_of_ble_eq_true rfl⟩) hP hD hS hA (fun H locs hP hD hS => ?_)
              have hP : va_P D classes (rc9 a q_t Q_t z27) H := hP
              have hD : va_D A (rc9 a q_t Q_t z27) := hD
              refine lv_if_eq (tgt := 85) hx hb dX9_wordHere_79 (by decide) (fun c28 => ?_) (fun c28 => ?_)
              · have h := ite_t c28 h
                refine lv_aload_n hx hb dX9_wordHere_85 rfl (lv_at hl 0 rfl) ?_
                refine lv_ldc2 hx hb hown (hts _ t_1086) dX9_wordHere_86 ?_
                obtain ⟨r30, z31, hc29, h⟩ := bd2_some h
                refine cWi (runV (As := [.long 500135716211]) (rest := []) C (mX9_isWord l D a (q_t := q_t) (Q_t := Q_t) hc29 H.size) lk_V_9_101 okN_X9_isWord ⟨Nat.le_of_ble_eq_true rfl, Nat.le_of_ble_eq_true rfl⟩ ⟨rfl, rfl⟩ (preV (preM hK hP hD) (recvOf hK hP 0 rfl (ci := 9) rfl)) hl.1 rfl (Nat.le_of_ble_eq_true rfl) dX9_wordHere_89 ⟨Nat.le_of_ble_eq_true rfl, Nat.le_of_ble_eq_true rfl⟩) hP hD hS hA (fun H locs hP hD hS => ?_)
                have hP : va_P D classes (rc9 a q_t Q_t z31) H := hP
                have hD : va_D A (rc9 a q_t Q_t z31) := hD
                refine lv_if_eq (tgt := 100) hx hb dX9_wordHere_92 (by decide) (fun c32 => ?_) (fun c32 => ?_)
                · have h := ite_t c32 h
                  refine lv_aload_n hx hb dX9_wordHere_100 rfl (lv_at hl 0 rfl) ?_
                  refine lv_ldc2 hx hb hown (hts _ t_1087) dX9_wordHere_101 ?_
                  obtain ⟨r34, z35, hc33, h⟩ := bd2_some h
                  refine cWi (runV (As := [.long 111469206070628]) (rest := []) C (mX9_isWord l D a (q_t := q_t) (Q_t := Q_t) hc33 H.size) lk_V_9_101 okN_X9_isWord ⟨Nat.le_of_ble_eq_true rfl, Nat.le_of_ble_eq_true rfl⟩ ⟨rfl, rfl⟩ (preV (preM hK hP hD) (recvOf hK hP 0 rfl (ci := 9) rfl)) hl.1 rfl (Nat.le_of_ble_eq_true rfl) dX9_wordHere_104 ⟨Nat.le_of_ble_eq_true rfl, Nat.le_of_ble_eq_true rfl⟩) hP hD hS hA (fun H locs hP hD hS => ?_)
                  have hP : va_P D classes (rc9 a q_t Q_t z35) H := hP
                  have hD : va_D A (rc9 a q_t Q_t z35) := hD
                  refine lv_if_eq (tgt := 115) hx hb dX9_wordHere_107 (by decide) (fun c36 => ?_) (fun c36 => ?_)
                  · have h := ite_t c36 h
                    refine lv_iconst (v := (-1)) hx hb dX9_wordHere_115 (by decide) ?_
                    exact rMi C rfl h (g := fun y => rc9 a q_t Q_t y.2) (pr := fun y => y.1) hP hD hS dX9_wordHere_116
                  · have h := ite_f c36 h
                    refine lv_bipush (v := 8) hx hb dX9_wordHere_110 (by decide) ?_
                    refine lv_goto (tgt := 116) hx hb dX9_wordHere_112 (by decide) ?_
                    exact rMi C rfl h (g := fun y => rc9 a q_t Q_t y.2) (pr := fun y => y.1) hP hD hS dX9_wordHere_116
                · have h := ite_f c32 h
                  refine lv_bipush (v := 7) hx hb dX9_wordHere_95 (by decide) ?_
                  refine lv_goto (tgt := 116) hx hb dX9_wordHere_97 (by decide) ?_
                  exact rMi C rfl h (g := fun y => rc9 a q_t Q_t y.2) (pr := fun y => y.1) hP hD hS dX9_wordHere_116
              · have h := ite_f c28 h
                refine lv_bipush (v := 6) hx hb dX9_wordHere_82 (by decide) ?_
                exact rMi C rfl h (g := fun y => rc9 a q_t Q_t y.2) (pr := fun y => y.1) hP hD hS dX9_wordHere_84
            · have h := ite_f c24 h
              refine lv_iconst (v := 5) hx hb dX9_wordHere_70 (by decide) ?_
              exact rMi C rfl h (g := fun y => rc9 a q_t Q_t y.2) (pr := fun y => y.1) hP hD hS dX9_wordHere_71
          · have h := ite_f c20 h
            refine lv_iconst (v := 4) hx hb dX9_wordHere_58 (by decide) ?_
            exact rMi C rfl h (g := fun y => rc9 a q_t Q_t y.2) (pr := fun y => y.1) hP hD hS dX9_wordHere_59
        · have h := ite_f c16 h
          refine lv_iconst (v := 3) hx hb dX9_wordHere_46 (by decide) ?_
          exact rMi C rfl h (g := fun y => rc9 a q_t Q_t y.2) (pr := fun y => y.1) hP hD hS dX9_wordHere_47
      · have h := ite_f c12 h
        refine lv_iconst (v := 2) hx hb dX9_wordHere_34 (by decide) ?_
        exact rMi C rfl h (g := fun y => rc9 a q_t Q_t y.2) (pr := fun y => y.1) hP hD hS dX9_wordHere_35
    · have h := ite_f c8 h
      refine lv_iconst (v := 1) hx hb dX9_wordHere_22 (by decide) ?_
      exact rMi C rfl h (g := fun y => rc9 a q_t Q_t y.2) (pr := fun y => y.1) hP hD hS dX9_wordHere_23
  · have h := ite_f c4 h
    refine lv_iconst (v := 0) hx hb dX9_wordHere_10 (by decide) ?_
    exact rMi C rfl h (g := fun y => rc9 a q_t Q_t y.2) (pr := fun y => y.1) hP hD hS dX9_wordHere_11

set_option maxHeartbeats 4000000 in
set_option maxRecDepth 100000 in
theorem mX9_makes (l : Launch) (D : va_G) (a : Nat → ClassId) {q_t : Nat} {Q_t : Nat → Nat} {z_t : Sx} {x1 : Int32} {y : Int32 × Sx} (h : fX9_makes z_t x1 = some y) (sz : Nat) : CMi (S := Unit) l MX9_makes 1 22 0 0 D a [.ref q_t, .int x1] (rc9 a q_t Q_t z_t) sz (fun r _ => r = y.1) (fun _ => rc9 a q_t Q_t y.2) := by
  unfold fX9_makes at h
  refine entMi (by decide) (Nat.le_of_ble_eq_true rfl) ?_
  intro p e s m below meth c C hK A hA hP hD ls hl
  obtain ⟨hx, hb, hml, hown, hts, hr, hlocks, hnm⟩ := id C
  have hb : c.code = cX9_makes := hb
  have hown : s.vm.findClass RX9 = some m.cls := hown
  have hS : va_S A s.heap s.heap [] := va_S.rf
  have hl : lv_has ls 2 [(0, .ref q_t), (1, .int x1)] := hl
  refine lv_aload_n hx hb dX9_makes_0 rfl (lv_at hl 0 rfl) ?_
  refine va_get (D := D) (v := .int (gI z_t 16)) (C := RX9) (T := TX9) (N := 36) hx hb hts iX9 hown hK.1 hP 0 rfl rfl 16 (by decide) (hts _ t_898) (fun _ h9 => h9) rfl dX9_makes_1 ?_
  refine lv_bipush (v := 60) hx hb dX9_makes_4 (by decide) ?_
  refine lv_icmp_ne (tgt := 16) hx hb dX9_makes_6 (by decide) (fun c1 => ?_) (fun c1 => ?_)
  · have h := ite_f c1 h
    refine lv_aload_n hx hb dX9_makes_16 rfl (lv_at hl 0 rfl) ?_
    refine lv_dup hx hb dX9_makes_17 rfl ?_
    refine va_get (D := D) (v := .int (gI z_t 16)) (C := RX9) (T := TX9) (N := 36) hx hb hts iX9 hown hK.1 hP 0 rfl rfl 16 (by decide) (hts _ t_898) (fun _ h9 => h9) rfl dX9_makes_18 ?_
    refine lv_iconst (v := 1) hx hb dX9_makes_21 (by decide) ?_
    refine lv_iadd hx hb dX9_makes_22 ?_
    refine va_put (D := D) (v := .int ((gI z_t 16) + 1)) (C := RX9) (T := TX9) (N := 36) hx hb hts iX9 tyX9 tyX9_ok nmX9 hown hK.1 hP hD hS 0 rfl rfl 16 (by decide) (hts _ t_898) (fun _ h9 => h9) rfl (tyX9_ok 16 (by decide)) rfl rfl (Nat.le_of_ble_eq_true rfl) dX9_makes_23 (fun H locs hP hD hS => ?_)
    rw [u9_16] at hP hD
    refine lv_iconst (v := 1) hx hb dX9_makes_26 (by decide) ?_
    exact rMz C rfl (Or.inr rfl) h (g := fun y => rc9 a q_t Q_t y.2) (pr := fun y => y.1) hP hD hS dX9_makes_27
  · have h := ite_t c1 h
    refine lv_aload_n hx hb dX9_makes_9 rfl (lv_at hl 0 rfl) ?_
    refine lv_iconst (v := 3) hx hb dX9_makes_10 (by decide) ?_
    refine lv_iload_n hx hb dX9_makes_11 rfl (lv_at hl 1 rfl) ?_
    obtain ⟨r3, z4, hc2, h⟩ := bd2_some h
    refine cWi (runV (As := [.int 3, .int x1]) (rest := []) C (mX9_fails l D a (q_t := q_t) (Q_t := Q_t) hc2 s.heap.size) lk_V_9_111 okN_X9_fails ⟨Nat.le_of_ble_eq_true rfl, Nat.le_of_ble_eq_true rfl⟩ ⟨rfl, rfl⟩ (preV (preM hK hP hD) (recvOf hK hP 0 rfl (ci := 9) rfl)) hl.1 rfl (Nat.le_of_ble_eq_true rfl) dX9_makes_12 ⟨Nat.le_of_ble_eq_true rfl, Nat.le_of_ble_eq_true rfl⟩) hP hD hS hA (fun H locs hP hD hS => ?_)
    have hP : va_P D classes (rc9 a q_t Q_t z4) H := hP
    have hD : va_D A (rc9 a q_t Q_t z4) := hD
    obtain ⟨g5, h⟩ := gd_some h
    exact rMz C rfl (g5) h (g := fun y => rc9 a q_t Q_t y.2) (pr := fun y => y.1) hP hD hS dX9_makes_15

set_option maxHeartbeats 4000000 in
set_option maxRecDepth 100000 in
theorem mX9_puts (l : Launch) (D : va_G) (a : Nat → ClassId) {q_t : Nat} {Q_t : Nat → Nat} {z_t : Sx} {x1 : Int32} {x2 : Int32} {y : Sx} (h : fX9_puts z_t x1 x2 = some y) (sz : Nat) : CMv (S := Unit) l MX9_puts 0 0 0 0 D a [.ref q_t, .int x1, .int x2] (rc9 a q_t Q_t z_t) sz (fun _ => True) (fun _ => rc9 a q_t Q_t y) := by
  unfold fX9_puts at h
  refine entMv (by decide) (Nat.le_of_ble_eq_true rfl) ?_
  intro p e s m below meth c C hK A hA hP hD ls hl
  obtain ⟨hx, hb, hml, hown, hts, hr, hlocks, hnm⟩ := id C
  have hb : c.code = cX9_puts := hb
  have hown : s.vm.findClass RX9 = some m.cls := hown
  have hS : va_S A s.heap s.heap [] := va_S.rf
  have hl : lv_has ls 3 [(0, .ref q_t), (1, .int x1), (2, .int x2)] := hl
  refine lv_aload_n hx hb dX9_puts_0 rfl (lv_at hl 0 rfl) ?_
  refine va_get (D := D) (v := .ref (Q_t 3)) (C := RX9) (T := TX9) (N := 36) hx hb hts iX9 hown hK.1 hP 0 rfl rfl 3 (by decide) (hts _ t_885) (fun _ h9 => h9) rfl dX9_puts_1 ?_
  refine lv_sipush (v := 400) hx hb dX9_puts_4 (by decide) ?_
  refine lv_aload_n hx hb dX9_puts_7 rfl (lv_at hl 0 rfl) ?_
  refine va_get (D := D) (v := .int (gI z_t 15)) (C := RX9) (T := TX9) (N := 36) hx hb hts iX9 hown hK.1 hP 0 rfl rfl 15 (by decide) (hts _ t_897) (fun _ h9 => h9) rfl dX9_puts_8 ?_
  refine lv_imul hx hb dX9_puts_11 ?_
  refine lv_aload_n hx hb dX9_puts_12 rfl (lv_at hl 0 rfl) ?_
  refine va_get (D := D) (v := .ref (Q_t 4)) (C := RX9) (T := TX9) (N := 36) hx hb hts iX9 hown hK.1 hP 0 rfl rfl 4 (by decide) (hts _ t_886) (fun _ h9 => h9) rfl dX9_puts_13 ?_
  refine lv_aload_n hx hb dX9_puts_16 rfl (lv_at hl 0 rfl) ?_
  refine va_get (D := D) (v := .int (gI z_t 15)) (C := RX9) (T := TX9) (N := 36) hx hb hts iX9 hown hK.1 hP 0 rfl rfl 15 (by decide) (hts _ t_897) (fun _ h9 => h9) rfl dX9_puts_17 ?_
  obtain ⟨g1, h⟩ := gd_some h
  refine ald_i hx hb hK.1 hP 3 0 rfl rfl ((gI z_t 15).toNatClampNeg) (ix_g g1) dX9_puts_20 ?_
  refine lv_iadd hx hb dX9_puts_21 ?_
  refine lv_iload_n hx hb dX9_puts_22 rfl (lv_at hl 1 rfl) ?_
  refine lv_bipush (v := 16) hx hb dX9_puts_23 (by decide) ?_
  refine lv_iload_n hx hb dX9_puts_25 rfl (lv_at hl 2 rfl) ?_
  refine lv_imul hx hb dX9_puts_26 ?_
  refine lv_iadd hx hb dX9_puts_27 ?_
  obtain ⟨g2, h⟩ := gd_some h
  refine ast_i hx hb hK.1 hP hD hS 2 0 rfl rfl (((400 * (gI z_t 15)) + (gT z_t 4 ((gI z_t 15).toNatClampNeg))).toNatClampNeg) (ix_g g2) dX9_puts_28 (fun H locs hP hD hS => ?_)
  rw [u9_3] at hP hD
  refine lv_aload_n hx hb dX9_puts_29 rfl (lv_at hl 0 rfl) ?_
  refine va_get (D := D) (v := .ref (Q_t 4)) (C := RX9) (T := TX9) (N := 36) hx hb hts iX9 hown hK.1 hP 0 rfl rfl 4 (by decide) (hts _ t_886) (fun _ h9 => h9) rfl dX9_puts_30 ?_
  refine lv_aload_n hx hb dX9_puts_33 rfl (lv_at hl 0 rfl) ?_
  refine va_get (D := D) (v := .int (gI z_t 15)) (C := RX9) (T := TX9) (N := 36) hx hb hts iX9 hown hK.1 hP 0 rfl rfl 15 (by decide) (hts _ t_897) (fun _ h9 => h9) rfl dX9_puts_34 ?_
  refine lv_dup2_11 hx hb dX9_puts_37 rfl rfl ?_
  refine ald_i hx hb hK.1 hP 3 0 rfl rfl ((gI z_t 15).toNatClampNeg) (ix_g g1) dX9_puts_38 ?_
  refine lv_iconst (v := 1) hx hb dX9_puts_39 (by decide) ?_
  refine lv_iadd hx hb dX9_puts_40 ?_
  refine lv_topi (fun v3 ev3 => ?_)
  have h := nm_some h v3 ev3
  refine ast_i hx hb hK.1 hP hD hS 3 0 rfl rfl ((gI z_t 15).toNatClampNeg) (ix_g g1) dX9_puts_41 (fun H locs hP hD hS => ?_)
  rw [u9_4] at hP hD
  exact rMv C rfl h (g := fun y => rc9 a q_t Q_t y) hP hD hS dX9_puts_42

set_option maxHeartbeats 4000000 in
set_option maxRecDepth 100000 in
theorem mX9_value (l : Launch) (D : va_G) (a : Nat → ClassId) {q_t : Nat} {Q_t : Nat → Nat} {z_t : Sx} {y : Int32 × Sx} (h : fX9_value z_t = some y) (sz : Nat) : CMi (S := Unit) l MX9_value 3 66 0 0 D a [.ref q_t] (rc9 a q_t Q_t z_t) sz (fun r _ => r = y.1) (fun _ => rc9 a q_t Q_t y.2) := by
  unfold fX9_value at h
  refine entMi (by decide) (Nat.le_of_ble_eq_true rfl) ?_
  intro p e s m below meth c C hK A hA hP hD ls hl
  obtain ⟨hx, hb, hml, hown, hts, hr, hlocks, hnm⟩ := id C
  have hb : c.code = cX9_value := hb
  have hown : s.vm.findClass RX9 = some m.cls := hown
  have hS : va_S A s.heap s.heap [] := va_S.rf
  have hl : lv_has ls 3 [(0, .ref q_t)] := hl
  refine lv_aload_n hx hb dX9_value_0 rfl (lv_at hl 0 rfl) ?_
  obtain ⟨r2, z3, hc1, h⟩ := bd2_some h
  refine cWi (runV (As := []) (rest := []) C (mX9_see l D a (q_t := q_t) (Q_t := Q_t) hc1 s.heap.size) lk_V_9_93 okN_X9_see ⟨Nat.le_of_ble_eq_true rfl, Nat.le_of_ble_eq_true rfl⟩ ⟨rfl, rfl⟩ (preV (preM hK hP hD) (recvOf hK hP 0 rfl (ci := 9) rfl)) hl.1 rfl (Nat.le_of_ble_eq_true rfl) dX9_value_1 ⟨Nat.le_of_ble_eq_true rfl, Nat.le_of_ble_eq_true rfl⟩) hP hD hS hA (fun H locs hP hD hS => ?_)
  have hP : va_P D classes (rc9 a q_t Q_t z3) H := hP
  have hD : va_D A (rc9 a q_t Q_t z3) := hD
  refine lv_pop hx hb dX9_value_4 rfl ?_
  refine lv_aload_n hx hb dX9_value_5 rfl (lv_at hl 0 rfl) ?_
  refine va_get (D := D) (v := .int (gI z3 12)) (C := RX9) (T := TX9) (N := 36) hx hb hts iX9 hown hK.1 hP 0 rfl rfl 12 (by decide) (hts _ t_894) (fun _ h9 => h9) rfl dX9_value_6 ?_
  refine lv_istore_n (lv' := [(1, .int (gI z3 12)), (0, .ref q_t)]) hx hb dX9_value_9 rfl hl (by decide) rfl (fun ls hl => ?_)
  refine lv_aload_n hx hb dX9_value_10 rfl (lv_at hl 1 rfl) ?_
  refine lv_aload_n hx hb dX9_value_11 rfl (lv_at hl 1 rfl) ?_
  refine va_get (D := D) (v := .int (gI z3 12)) (C := RX9) (T := TX9) (N := 36) hx hb hts iX9 hown hK.1 hP 0 rfl rfl 12 (by decide) (hts _ t_894) (fun _ h9 => h9) rfl dX9_value_12 ?_
  obtain ⟨r5, hc4, h⟩ := bd_some h
  refine cRi (runV (As := [.int (gI z3 12)]) (rest := []) C (mX9_isDigit l D a (q_t := q_t) (Q_t := Q_t) hc4) lk_V_9_108 okN_X9_isDigit ⟨Nat.le_of_ble_eq_true rfl, Nat.le_of_ble_eq_true rfl⟩ ⟨rfl, rfl⟩ (preV (preR hK hP) (recvOf hK hP 0 rfl (ci := 9) rfl)) hl.1 rfl (Nat.le_of_ble_eq_true rfl) dX9_value_15 ⟨Nat.le_of_ble_eq_true rfl, Nat.le_of_ble_eq_true rfl⟩) ?_
  refine lv_if_eq (tgt := 52) hx hb dX9_value_18 (by decide) (fun c6 => ?_) (fun c6 => ?_)
  · have h := ite_t c6 h
    refine lv_aload_n hx hb dX9_value_52 rfl (lv_at hl 1 rfl) ?_
    obtain ⟨r8, z9, hc7, h⟩ := bd2_some h
    refine cWi (runV (As := []) (rest := []) C (mX9_wordHere l D a (q_t := q_t) (Q_t := Q_t) hc7 H.size) lk_V_9_167 okN_X9_wordHere ⟨Nat.le_of_ble_eq_true rfl, Nat.le_of_ble_eq_true rfl⟩ ⟨rfl, rfl⟩ (preV (preM hK hP hD) (recvOf hK hP 0 rfl (ci := 9) rfl)) hl.1 rfl (Nat.le_of_ble_eq_true rfl) dX9_value_53 ⟨Nat.le_of_ble_eq_true rfl, Nat.le_of_ble_eq_true rfl⟩) hP hD hS hA (fun H locs hP hD hS => ?_)
    have hP : va_P D classes (rc9 a q_t Q_t z9) H := hP
    have hD : va_D A (rc9 a q_t Q_t z9) := hD
    refine lv_istore_n (lv' := [(2, .int r8), (1, .int (gI z3 12)), (0, .ref q_t)]) hx hb dX9_value_56 rfl hl (by decide) rfl (fun ls hl => ?_)
    refine lv_iload_n hx hb dX9_value_57 rfl (lv_at hl 0 rfl) ?_
    refine lv_if_ge (tgt := 68) hx hb dX9_value_58 (by decide) (fun c10 => ?_) (fun c10 => ?_)
    · have h := ite_t c10 h
      refine lv_aload_n hx hb dX9_value_68 rfl (lv_at hl 2 rfl) ?_
      refine lv_iload_n hx hb dX9_value_69 rfl (lv_at hl 1 rfl) ?_
      obtain ⟨r12, z13, hc11, h⟩ := bd2_some h
      refine cWi (runV (As := [.int (gI z3 12)]) (rest := []) C (mX9_makes l D a (q_t := q_t) (Q_t := Q_t) hc11 H.size) lk_V_9_164 okN_X9_makes ⟨Nat.le_of_ble_eq_true rfl, Nat.le_of_ble_eq_true rfl⟩ ⟨rfl, rfl⟩ (preV (preM hK hP hD) (recvOf hK hP 0 rfl (ci := 9) rfl)) hl.1 rfl (Nat.le_of_ble_eq_true rfl) dX9_value_70 ⟨Nat.le_of_ble_eq_true rfl, Nat.le_of_ble_eq_true rfl⟩) hP hD hS hA (fun H locs hP hD hS => ?_)
      have hP : va_P D classes (rc9 a q_t Q_t z13) H := hP
      have hD : va_D A (rc9 a q_t Q_t z13) := hD
      refine lv_if_ne (tgt := 78) hx hb dX9_value_73 (by decide) (fun c14 => ?_) (fun c14 => ?_)
      · have h := ite_f c14 h
        refine lv_aload_n hx hb dX9_value_78 rfl (lv_at hl 2 rfl) ?_
        obtain ⟨z16, hc15, h⟩ := bd_some h
        refine cWv (runV (As := []) (rest := []) C (mX9_passWord l D a (q_t := q_t) (Q_t := Q_t) hc15 H.size) lk_V_9_105 okN_X9_passWord ⟨Nat.le_of_ble_eq_true rfl, Nat.le_of_ble_eq_true rfl⟩ ⟨rfl, rfl⟩ (preV (preM hK hP hD) (recvOf hK hP 0 rfl (ci := 9) rfl)) hl.1 rfl (Nat.le_of_ble_eq_true rfl) dX9_value_79 ⟨Nat.le_of_ble_eq_true rfl, Nat.le_of_ble_eq_true rfl⟩) hP hD hS hA (fun H locs hP hD hS => ?_)
        have hP : va_P D classes (rc9 a q_t Q_t z16) H := hP
        have hD : va_D A (rc9 a q_t Q_t z16) := hD
        refine lv_aload_n hx hb dX9_value_82 rfl (lv_at hl 2 rfl) ?_
        refine lv_iconst (v := 1) hx hb dX9_value_83 (by decide) ?_
        refine lv_iload_n hx hb dX9_value_84 rfl (lv_at hl 0 rfl) ?_
        obtain ⟨z18, hc17, h⟩ := bd_some h
        refine cWv (runV (As := [.int 1, .int r8]) (rest := []) C (mX9_puts l D a (q_t := q_t) (Q_t := Q_t) hc17 H.size) lk_V_9_156 okN_X9_puts ⟨Nat.le_of_ble_eq_true rfl, Nat.le_of_ble_eq_true rfl⟩ ⟨rfl, rfl⟩ (preV (preM hK hP hD) (recvOf hK hP 0 rfl (ci := 9) rfl)) hl.1 rfl (Nat.le_of_ble_eq_true rfl) dX9_value_85 ⟨Nat.le_of_ble_eq_true rfl, Nat.le_of_ble_eq_true rfl⟩) hP hD hS hA (fun H locs hP hD hS => ?_)
        have hP : va_P D classes (rc9 a q_t Q_t z18) H := hP
        have hD : va_D A (rc9 a q_t Q_t z18) := hD
        refine lv_iconst (v := 1) hx hb dX9_value_88 (by decide) ?_
        exact rMz C rfl (Or.inr rfl) h (g := fun y => rc9 a q_t Q_t y.2) (pr := fun y => y.1) hP hD hS dX9_value_89
      · have h := ite_t c14 h
        refine lv_iconst (v := 0) hx hb dX9_value_76 (by decide) ?_
        exact rMz C rfl (Or.inl rfl) h (g := fun y => rc9 a q_t Q_t y.2) (pr := fun y => y.1) hP hD hS dX9_value_77
    · have h := ite_f c10 h
      refine lv_aload_n hx hb dX9_value_61 rfl (lv_at hl 2 rfl) ?_
      refine lv_iconst (v := 0) hx hb dX9_value_62 (by decide) ?_
      refine lv_iload_n hx hb dX9_value_63 rfl (lv_at hl 1 rfl) ?_
      obtain ⟨r20, z21, hc19, h⟩ := bd2_some h
      refine cWi (runV (As := [.int 0, .int (gI z3 12)]) (rest := []) C (mX9_fails l D a (q_t := q_t) (Q_t := Q_t) hc19 H.size) lk_V_9_111 okN_X9_fails ⟨Nat.le_of_ble_eq_true rfl, Nat.le_of_ble_eq_true rfl⟩ ⟨rfl, rfl⟩ (preV (preM hK hP hD) (recvOf hK hP 0 rfl (ci := 9) rfl)) hl.1 rfl (Nat.le_of_ble_eq_true rfl) dX9_value_64 ⟨Nat.le_of_ble_eq_true rfl, Nat.le_of_ble_eq_true rfl⟩) hP hD hS hA (fun H locs hP hD hS => ?_)
      have hP : va_P D classes (rc9 a q_t Q_t z21) H := hP
      have hD : va_D A (rc9 a q_t Q_t z21) := hD
      obtain ⟨g22, h⟩ := gd_some h
      exact rMz C rfl (g22) h (g := fun y => rc9 a q_t Q_t y.2) (pr := fun y => y.1) hP hD hS dX9_value_67
  · have h := ite_f c6 h
    refine lv_aload_n hx hb dX9_value_21 rfl (lv_at hl 1 rfl) ?_
    refine lv_iconst (v := 0) hx hb dX9_value_22 (by decide) ?_
    refine lv_ldc hx hb hown (hts _ t_1061) dX9_value_23 ?_
    obtain ⟨r24, z25, hc23, h⟩ := bd2_some h
    refine cWi (runV (As := [.int 0, .int 99999]) (rest := []) C (mX9_numberHere l D a (q_t := q_t) (Q_t := Q_t) hc23 H.size) lk_V_9_161 okN_X9_numberHere ⟨Nat.le_of_ble_eq_true rfl, Nat.le_of_ble_eq_true rfl⟩ ⟨rfl, rfl⟩ (preV (preM hK hP hD) (recvOf hK hP 0 rfl (ci := 9) rfl)) hl.1 rfl (Nat.le_of_ble_eq_true rfl) dX9_value_25 ⟨Nat.le_of_ble_eq_true rfl, Nat.le_of_ble_eq_true rfl⟩) hP hD hS hA (fun H locs hP hD hS => ?_)
    have hP : va_P D classes (rc9 a q_t Q_t z25) H := hP
    have hD : va_D A (rc9 a q_t Q_t z25) := hD
    refine lv_if_eq (tgt := 39) hx hb dX9_value_28 (by decide) (fun c26 => ?_) (fun c26 => ?_)
    · have h := ite_t c26 h
      refine lv_iconst (v := 0) hx hb dX9_value_39 (by decide) ?_
      exact rMz C rfl (Or.inl rfl) h (g := fun y => rc9 a q_t Q_t y.2) (pr := fun y => y.1) hP hD hS dX9_value_40
    · have h := ite_f c26 h
      refine lv_aload_n hx hb dX9_value_31 rfl (lv_at hl 1 rfl) ?_
      refine lv_iload_n hx hb dX9_value_32 rfl (lv_at hl 0 rfl) ?_
      obtain ⟨r28, z29, hc27, h⟩ := bd2_some h
      refine cWi (runV (As := [.int (gI z3 12)]) (rest := []) C (mX9_makes l D a (q_t := q_t) (Q_t := Q_t) hc27 H.size) lk_V_9_164 okN_X9_makes ⟨Nat.le_of_ble_eq_true rfl, Nat.le_of_ble_eq_true rfl⟩ ⟨rfl, rfl⟩ (preV (preM hK hP hD) (recvOf hK hP 0 rfl (ci := 9) rfl)) hl.1 rfl (Nat.le_of_ble_eq_true rfl) dX9_value_33 ⟨Nat.le_of_ble_eq_true rfl, Nat.le_of_ble_eq_true rfl⟩) hP hD hS hA (fun H locs hP hD hS => ?_)
      have hP : va_P D classes (rc9 a q_t Q_t z29) H := hP
      have hD : va_D A (rc9 a q_t Q_t z29) := hD
      refine lv_if_ne (tgt := 41) hx hb dX9_value_36 (by decide) (fun c30 => ?_) (fun c30 => ?_)
      · have h := ite_f c30 h
        refine lv_aload_n hx hb dX9_value_41 rfl (lv_at hl 1 rfl) ?_
        refine lv_iconst (v := 0) hx hb dX9_value_42 (by decide) ?_
        refine lv_aload_n hx hb dX9_value_43 rfl (lv_at hl 1 rfl) ?_
        refine va_get (D := D) (v := .int (gI z29 14)) (C := RX9) (T := TX9) (N := 36) hx hb hts iX9 hown hK.1 hP 0 rfl rfl 14 (by decide) (hts _ t_896) (fun _ h9 => h9) rfl dX9_value_44 ?_
        obtain ⟨z32, hc31, h⟩ := bd_some h
        refine cWv (runV (As := [.int 0, .int (gI z29 14)]) (rest := []) C (mX9_puts l D a (q_t := q_t) (Q_t := Q_t) hc31 H.size) lk_V_9_156 okN_X9_puts ⟨Nat.le_of_ble_eq_true rfl, Nat.le_of_ble_eq_true rfl⟩ ⟨rfl, rfl⟩ (preV (preM hK hP hD) (recvOf hK hP 0 rfl (ci := 9) rfl)) hl.1 rfl (Nat.le_of_ble_eq_true rfl) dX9_value_47 ⟨Nat.le_of_ble_eq_true rfl, Nat.le_of_ble_eq_true rfl⟩) hP hD hS hA (fun H locs hP hD hS => ?_)
        have hP : va_P D classes (rc9 a q_t Q_t z32) H := hP
        have hD : va_D A (rc9 a q_t Q_t z32) := hD
        refine lv_iconst (v := 1) hx hb dX9_value_50 (by decide) ?_
        exact rMz C rfl (Or.inr rfl) h (g := fun y => rc9 a q_t Q_t y.2) (pr := fun y => y.1) hP hD hS dX9_value_51
      · have h := ite_t c30 h
        refine lv_iconst (v := 0) hx hb dX9_value_39 (by decide) ?_
        exact rMz C rfl (Or.inl rfl) h (g := fun y => rc9 a q_t Q_t y.2) (pr := fun y => y.1) hP hD hS dX9_value_40

set_option maxHeartbeats 4000000 in
set_option maxRecDepth 100000 in
theorem wX9_term_9 {p : Program} {l : Launch} {e : Env} {s : State} {m : MethodId} {below : List Frame} {meth : Method} {c : Code} {D : va_G} {a : Nat → ClassId} {A : Nat → Prop} {q_t : Nat} {Q_t : Nat → Nat} (C : Cx p s m #[.ref q_t] meth c MX9_term) (hK : KK D a s) (hA : ∀ q, s.heap.size ≤ q → A q) {y : Int32 × Sx} : ∀ (n : Nat) (z_t : Sx) (H : Heap) (locs : List Loc) (ls : Array Slot), lX9_term_9 n z_t = some y → va_P D classes (rc9 a q_t Q_t z_t) H → va_D A (rc9 a q_t Q_t z_t) → va_S A s.heap H locs → lv_has ls 2 [(0, .ref q_t)] → W p l e (rmM 4 0 0 88) s m #[.ref q_t] below meth c H locs 0 0 (MQ below (va_Qi (fun r (_ : Unit) => r = y.1) (Bw D A (fun _ => rc9 a q_t Q_t y.2)) A) #[.ref q_t] s 0 0 A) (F0 m 9 ls []) := by
  obtain ⟨hx, hb, hml, hown, hts, hr, hlocks, hnm⟩ := id C
  have hb : c.code = cX9_term := hb
  have hown : s.vm.findClass RX9 = some m.cls := hown
  intro n
  induction n with
  | zero => intro z_t H locs ls h; rw [lX9_term_9] at h; cases h
  | succ n ih =>
    intro z_t H locs ls h hP hD hS hl
    rw [lX9_term_9] at h
    refine lv_aload_n hx hb dX9_term_9 rfl (lv_at hl 0 rfl) ?_
    obtain ⟨r6, z7, hc5, h⟩ := bd2_some h
    refine cWi (runV (As := []) (rest := []) C (mX9_see l D a (q_t := q_t) (Q_t := Q_t) hc5 H.size) lk_V_9_93 okN_X9_see ⟨Nat.le_of_ble_eq_true rfl, Nat.le_of_ble_eq_true rfl⟩ ⟨rfl, rfl⟩ (preV (preM hK hP hD) (recvOf hK hP 0 rfl (ci := 9) rfl)) hl.1 rfl (Nat.le_of_ble_eq_true rfl) dX9_term_10 ⟨Nat.le_of_ble_eq_true rfl, Nat.le_of_ble_eq_true rfl⟩) hP hD hS hA (fun H locs hP hD hS => ?_)
    have hP : va_P D classes (rc9 a q_t Q_t z7) H := hP
    have hD : va_D A (rc9 a q_t Q_t z7) := hD
    refine lv_bipush (v := 42) hx hb dX9_term_13 (by decide) ?_
    obtain ⟨J8, eJ8, h⟩ := jn_some h
    have hJ8 : ∀ (z9 : Sx) (H : Heap) (locs : List Loc) (ls : Array Slot), J8 z9 = some y → va_P D classes (rc9 a q_t Q_t z9) H → va_D A (rc9 a q_t Q_t z9) → va_S A s.heap H locs → lv_has ls 2 [(0, .ref q_t)] → W p l e (rmM 4 0 0 88) s m #[.ref q_t] below meth c H locs 0 0 (MQ below (va_Qi (fun r (_ : Unit) => r = y.1) (Bw D A (fun _ => rc9 a q_t Q_t y.2)) A) #[.ref q_t] s 0 0 A) (F0 m 27 ls []) := by
      intro z9 H locs ls h hP hD hS hl
      rw [eJ8] at h
      refine lv_aload_n hx hb dX9_term_27 rfl (lv_at hl 0 rfl) ?_
      refine va_get (D := D) (v := .ref (Q_t 0)) (C := RX9) (T := TX9) (N := 36) hx hb hts iX9 hown hK.1 hP 0 rfl rfl 0 (by decide) (hts _ t_882) (fun _ h9 => h9) rfl dX9_term_28 ?_
      refine lv_aload_n hx hb dX9_term_31 rfl (lv_at hl 0 rfl) ?_
      refine va_get (D := D) (v := .int (gI z9 12)) (C := RX9) (T := TX9) (N := 36) hx hb hts iX9 hown hK.1 hP 0 rfl rfl 12 (by decide) (hts _ t_894) (fun _ h9 => h9) rfl dX9_term_32 ?_
      obtain ⟨g10, h⟩ := gd_some h
      refine ald_b hx hb hK.1 hP 1 2 rfl rfl ((gI z9 12).toNatClampNeg) (ix_g g10) dX9_term_35 ?_
      refine lv_bipush (v := 42) hx hb dX9_term_36 (by decide) ?_
      obtain ⟨J11, eJ11, h⟩ := jn_some h
      have hJ11 : ∀ (i12 : Int32) (H : Heap) (locs : List Loc) (ls : Array Slot), J11 i12 = some y → va_P D classes (rc9 a q_t Q_t z9) H → va_D A (rc9 a q_t Q_t z9) → va_S A s.heap H locs → lv_has ls 2 [(0, .ref q_t)] → W p l e (rmM 4 0 0 88) s m #[.ref q_t] below meth c H locs 0 0 (MQ below (va_Qi (fun r (_ : Unit) => r = y.1) (Bw D A (fun _ => rc9 a q_t Q_t y.2)) A) #[.ref q_t] s 0 0 A) (F0 m 46 ls [.int i12]) := by
        intro i12 H locs ls h hP hD hS hl
        rw [eJ11] at h
        refine lv_istore_n (lv' := [(1, .int i12), (0, .ref q_t)]) hx hb dX9_term_46 rfl hl (by decide) rfl (fun ls hl => ?_)
        refine lv_aload_n hx hb dX9_term_47 rfl (lv_at hl 1 rfl) ?_
        refine lv_dup hx hb dX9_term_48 rfl ?_
        refine va_get (D := D) (v := .int (gI z9 12)) (C := RX9) (T := TX9) (N := 36) hx hb hts iX9 hown hK.1 hP 0 rfl rfl 12 (by decide) (hts _ t_894) (fun _ h9 => h9) rfl dX9_term_49 ?_
        refine lv_iconst (v := 1) hx hb dX9_term_52 (by decide) ?_
        refine lv_iadd hx hb dX9_term_53 ?_
        refine va_put (D := D) (v := .int ((gI z9 12) + 1)) (C := RX9) (T := TX9) (N := 36) hx hb hts iX9 tyX9 tyX9_ok nmX9 hown hK.1 hP hD hS 0 rfl rfl 12 (by decide) (hts _ t_894) (fun _ h9 => h9) rfl (tyX9_ok 12 (by decide)) rfl rfl (Nat.le_of_ble_eq_true rfl) dX9_term_54 (fun H locs hP hD hS => ?_)
        rw [u9_12] at hP hD
        refine lv_aload_n hx hb dX9_term_57 rfl (lv_at hl 1 rfl) ?_
        obtain ⟨r14, z15, hc13, h⟩ := bd2_some h
        refine cWi (runV (As := []) (rest := []) C (mX9_value l D a (q_t := q_t) (Q_t := Q_t) hc13 H.size) lk_V_9_170 okN_X9_value ⟨Nat.le_of_ble_eq_true rfl, Nat.le_of_ble_eq_true rfl⟩ ⟨rfl, rfl⟩ (preV (preM hK hP hD) (recvOf hK hP 0 rfl (ci := 9) rfl)) hl.1 rfl (Nat.le_of_ble_eq_true rfl) dX9_term_58 ⟨Nat.le_of_ble_eq_true rfl, Nat.le_of_ble_eq_true rfl⟩) hP hD hS hA (fun H locs hP hD hS => ?_)
        have hP : va_P D classes (rc9 a q_t Q_t z15) H := hP
        have hD : va_D A (rc9 a q_t Q_t z15) := hD
        refine lv_if_ne (tgt := 66) hx hb dX9_term_61 (by decide) (fun c16 => ?_) (fun c16 => ?_)
        · have h := ite_f c16 h
          refine lv_aload_n hx hb dX9_term_66 rfl (lv_at hl 1 rfl) ?_
          refine lv_iload_n hx hb dX9_term_67 rfl (lv_at hl 0 rfl) ?_
          refine lv_iconst (v := 0) hx hb dX9_term_68 (by decide) ?_
          obtain ⟨z18, hc17, h⟩ := bd_some h
          refine cWv (runV (As := [.int i12, .int 0]) (rest := []) C (mX9_puts l D a (q_t := q_t) (Q_t := Q_t) hc17 H.size) lk_V_9_156 okN_X9_puts ⟨Nat.le_of_ble_eq_true rfl, Nat.le_of_ble_eq_true rfl⟩ ⟨rfl, rfl⟩ (preV (preM hK hP hD) (recvOf hK hP 0 rfl (ci := 9) rfl)) hl.1 rfl (Nat.le_of_ble_eq_true rfl) dX9_term_69 ⟨Nat.le_of_ble_eq_true rfl, Nat.le_of_ble_eq_true rfl⟩) hP hD hS hA (fun H locs hP hD hS => ?_)
          have hP : va_P D classes (rc9 a q_t Q_t z18) H := hP
          have hD : va_D A (rc9 a q_t Q_t z18) := hD
          refine lv_goto (tgt := 9) hx hb dX9_term_72 (by decide) ?_
          exact ih z18 _ _ ls h hP hD hS (lv_sub hl [1] rfl)
        · have h := ite_t c16 h
          refine lv_iconst (v := 0) hx hb dX9_term_64 (by decide) ?_
          exact rMz C rfl (Or.inl rfl) h (g := fun y => rc9 a q_t Q_t y.2) (pr := fun y => y.1) hP hD hS dX9_term_65
      refine lv_icmp_ne (tgt := 45) hx hb dX9_term_38 (by decide) (fun c19 => ?_) (fun c19 => ?_)
      · have h := ite_f c19 h
        refine lv_iconst (v := 5) hx hb dX9_term_45 (by decide) ?_
        exact hJ11 5 _ _ ls h hP hD hS (lv_sub hl [0] rfl)
      · have h := ite_t c19 h
        refine lv_iconst (v := 4) hx hb dX9_term_41 (by decide) ?_
        refine lv_goto (tgt := 46) hx hb dX9_term_42 (by decide) ?_
        exact hJ11 4 _ _ ls h hP hD hS (lv_sub hl [0] rfl)
    refine lv_icmp_eq (tgt := 27) hx hb dX9_term_15 (by decide) (fun c20 => ?_) (fun c20 => ?_)
    · have h := ite_t c20 h
      exact hJ8 z7 _ _ ls h hP hD hS (lv_sub hl [0] rfl)
    · have h := ite_f c20 h
      refine lv_aload_n hx hb dX9_term_18 rfl (lv_at hl 0 rfl) ?_
      obtain ⟨r22, z23, hc21, h⟩ := bd2_some h
      refine cWi (runV (As := []) (rest := []) C (mX9_see l D a (q_t := q_t) (Q_t := Q_t) hc21 H.size) lk_V_9_93 okN_X9_see ⟨Nat.le_of_ble_eq_true rfl, Nat.le_of_ble_eq_true rfl⟩ ⟨rfl, rfl⟩ (preV (preM hK hP hD) (recvOf hK hP 0 rfl (ci := 9) rfl)) hl.1 rfl (Nat.le_of_ble_eq_true rfl) dX9_term_19 ⟨Nat.le_of_ble_eq_true rfl, Nat.le_of_ble_eq_true rfl⟩) hP hD hS hA (fun H locs hP hD hS => ?_)
      have hP : va_P D classes (rc9 a q_t Q_t z23) H := hP
      have hD : va_D A (rc9 a q_t Q_t z23) := hD
      refine lv_bipush (v := 47) hx hb dX9_term_22 (by decide) ?_
      refine lv_icmp_ne (tgt := 75) hx hb dX9_term_24 (by decide) (fun c24 => ?_) (fun c24 => ?_)
      · have h := ite_f c24 h
        refine lv_iconst (v := 1) hx hb dX9_term_75 (by decide) ?_
        exact rMz C rfl (Or.inr rfl) h (g := fun y => rc9 a q_t Q_t y.2) (pr := fun y => y.1) hP hD hS dX9_term_76
      · have h := ite_t c24 h
        exact hJ8 z23 _ _ ls h hP hD hS (lv_sub hl [0] rfl)

set_option maxHeartbeats 4000000 in
set_option maxRecDepth 100000 in
theorem mX9_term (l : Launch) (D : va_G) (a : Nat → ClassId) {q_t : Nat} {Q_t : Nat → Nat} {z_t : Sx} {y : Int32 × Sx} (h : fX9_term z_t = some y) (sz : Nat) : CMi (S := Unit) l MX9_term 4 88 0 0 D a [.ref q_t] (rc9 a q_t Q_t z_t) sz (fun r _ => r = y.1) (fun _ => rc9 a q_t Q_t y.2) := by
  unfold fX9_term at h
  refine entMi (by decide) (Nat.le_of_ble_eq_true rfl) ?_
  intro p e s m below meth c C hK A hA hP hD ls hl
  obtain ⟨hx, hb, hml, hown, hts, hr, hlocks, hnm⟩ := id C
  have hb : c.code = cX9_term := hb
  have hown : s.vm.findClass RX9 = some m.cls := hown
  have hS : va_S A s.heap s.heap [] := va_S.rf
  have hl : lv_has ls 2 [(0, .ref q_t)] := hl
  refine lv_aload_n hx hb dX9_term_0 rfl (lv_at hl 0 rfl) ?_
  obtain ⟨r2, z3, hc1, h⟩ := bd2_some h
  refine cWi (runV (As := []) (rest := []) C (mX9_value l D a (q_t := q_t) (Q_t := Q_t) hc1 s.heap.size) lk_V_9_170 okN_X9_value ⟨Nat.le_of_ble_eq_true rfl, Nat.le_of_ble_eq_true rfl⟩ ⟨rfl, rfl⟩ (preV (preM hK hP hD) (recvOf hK hP 0 rfl (ci := 9) rfl)) hl.1 rfl (Nat.le_of_ble_eq_true rfl) dX9_term_1 ⟨Nat.le_of_ble_eq_true rfl, Nat.le_of_ble_eq_true rfl⟩) hP hD hS hA (fun H locs hP hD hS => ?_)
  have hP : va_P D classes (rc9 a q_t Q_t z3) H := hP
  have hD : va_D A (rc9 a q_t Q_t z3) := hD
  refine lv_if_ne (tgt := 9) hx hb dX9_term_4 (by decide) (fun c4 => ?_) (fun c4 => ?_)
  · have h := ite_f c4 h
    refine wX9_term_9 C hK hA FU z3 _ _ ls h hP hD hS (lv_sub hl [0] rfl)
  · have h := ite_t c4 h
    refine lv_iconst (v := 0) hx hb dX9_term_7 (by decide) ?_
    exact rMz C rfl (Or.inl rfl) h (g := fun y => rc9 a q_t Q_t y.2) (pr := fun y => y.1) hP hD hS dX9_term_8

set_option maxHeartbeats 4000000 in
set_option maxRecDepth 100000 in
theorem wX9_sum_9 {p : Program} {l : Launch} {e : Env} {s : State} {m : MethodId} {below : List Frame} {meth : Method} {c : Code} {D : va_G} {a : Nat → ClassId} {A : Nat → Prop} {q_t : Nat} {Q_t : Nat → Nat} (C : Cx p s m #[.ref q_t] meth c MX9_sum) (hK : KK D a s) (hA : ∀ q, s.heap.size ≤ q → A q) {y : Int32 × Sx} : ∀ (n : Nat) (z_t : Sx) (H : Heap) (locs : List Loc) (ls : Array Slot), lX9_sum_9 n z_t = some y → va_P D classes (rc9 a q_t Q_t z_t) H → va_D A (rc9 a q_t Q_t z_t) → va_S A s.heap H locs → lv_has ls 2 [(0, .ref q_t)] → W p l e (rmM 5 0 0 109) s m #[.ref q_t] below meth c H locs 0 0 (MQ below (va_Qi (fun r (_ : Unit) => r = y.1) (Bw D A (fun _ => rc9 a q_t Q_t y.2)) A) #[.ref q_t] s 0 0 A) (F0 m 9 ls []) := by
  obtain ⟨hx, hb, hml, hown, hts, hr, hlocks, hnm⟩ := id C
  have hb : c.code = cX9_sum := hb
  have hown : s.vm.findClass RX9 = some m.cls := hown
  intro n
  induction n with
  | zero => intro z_t H locs ls h; rw [lX9_sum_9] at h; cases h
  | succ n ih =>
    intro z_t H locs ls h hP hD hS hl
    rw [lX9_sum_9] at h
    refine lv_aload_n hx hb dX9_sum_9 rfl (lv_at hl 0 rfl) ?_
    obtain ⟨r6, z7, hc5, h⟩ := bd2_some h
    refine cWi (runV (As := []) (rest := []) C (mX9_see l D a (q_t := q_t) (Q_t := Q_t) hc5 H.size) lk_V_9_93 okN_X9_see ⟨Nat.le_of_ble_eq_true rfl, Nat.le_of_ble_eq_true rfl⟩ ⟨rfl, rfl⟩ (preV (preM hK hP hD) (recvOf hK hP 0 rfl (ci := 9) rfl)) hl.1 rfl (Nat.le_of_ble_eq_true rfl) dX9_sum_10 ⟨Nat.le_of_ble_eq_true rfl, Nat.le_of_ble_eq_true rfl⟩) hP hD hS hA (fun H locs hP hD hS => ?_)
    have hP : va_P D classes (rc9 a q_t Q_t z7) H := hP
    have hD : va_D A (rc9 a q_t Q_t z7) := hD
    refine lv_bipush (v := 43) hx hb dX9_sum_13 (by decide) ?_
    obtain ⟨J8, eJ8, h⟩ := jn_some h
    have hJ8 : ∀ (z9 : Sx) (H : Heap) (locs : List Loc) (ls : Array Slot), J8 z9 = some y → va_P D classes (rc9 a q_t Q_t z9) H → va_D A (rc9 a q_t Q_t z9) → va_S A s.heap H locs → lv_has ls 2 [(0, .ref q_t)] → W p l e (rmM 5 0 0 109) s m #[.ref q_t] below meth c H locs 0 0 (MQ below (va_Qi (fun r (_ : Unit) => r = y.1) (Bw D A (fun _ => rc9 a q_t Q_t y.2)) A) #[.ref q_t] s 0 0 A) (F0 m 27 ls []) := by
      intro z9 H locs ls h hP hD hS hl
      rw [eJ8] at h
      refine lv_aload_n hx hb dX9_sum_27 rfl (lv_at hl 0 rfl) ?_
      refine va_get (D := D) (v := .ref (Q_t 0)) (C := RX9) (T := TX9) (N := 36) hx hb hts iX9 hown hK.1 hP 0 rfl rfl 0 (by decide) (hts _ t_882) (fun _ h9 => h9) rfl dX9_sum_28 ?_
      refine lv_aload_n hx hb dX9_sum_31 rfl (lv_at hl 0 rfl) ?_
      refine va_get (D := D) (v := .int (gI z9 12)) (C := RX9) (T := TX9) (N := 36) hx hb hts iX9 hown hK.1 hP 0 rfl rfl 12 (by decide) (hts _ t_894) (fun _ h9 => h9) rfl dX9_sum_32 ?_
      obtain ⟨g10, h⟩ := gd_some h
      refine ald_b hx hb hK.1 hP 1 2 rfl rfl ((gI z9 12).toNatClampNeg) (ix_g g10) dX9_sum_35 ?_
      refine lv_bipush (v := 43) hx hb dX9_sum_36 (by decide) ?_
      obtain ⟨J11, eJ11, h⟩ := jn_some h
      have hJ11 : ∀ (i12 : Int32) (H : Heap) (locs : List Loc) (ls : Array Slot), J11 i12 = some y → va_P D classes (rc9 a q_t Q_t z9) H → va_D A (rc9 a q_t Q_t z9) → va_S A s.heap H locs → lv_has ls 2 [(0, .ref q_t)] → W p l e (rmM 5 0 0 109) s m #[.ref q_t] below meth c H locs 0 0 (MQ below (va_Qi (fun r (_ : Unit) => r = y.1) (Bw D A (fun _ => rc9 a q_t Q_t y.2)) A) #[.ref q_t] s 0 0 A) (F0 m 46 ls [.int i12]) := by
        intro i12 H locs ls h hP hD hS hl
        rw [eJ11] at h
        refine lv_istore_n (lv' := [(1, .int i12), (0, .ref q_t)]) hx hb dX9_sum_46 rfl hl (by decide) rfl (fun ls hl => ?_)
        refine lv_aload_n hx hb dX9_sum_47 rfl (lv_at hl 1 rfl) ?_
        refine lv_dup hx hb dX9_sum_48 rfl ?_
        refine va_get (D := D) (v := .int (gI z9 12)) (C := RX9) (T := TX9) (N := 36) hx hb hts iX9 hown hK.1 hP 0 rfl rfl 12 (by decide) (hts _ t_894) (fun _ h9 => h9) rfl dX9_sum_49 ?_
        refine lv_iconst (v := 1) hx hb dX9_sum_52 (by decide) ?_
        refine lv_iadd hx hb dX9_sum_53 ?_
        refine va_put (D := D) (v := .int ((gI z9 12) + 1)) (C := RX9) (T := TX9) (N := 36) hx hb hts iX9 tyX9 tyX9_ok nmX9 hown hK.1 hP hD hS 0 rfl rfl 12 (by decide) (hts _ t_894) (fun _ h9 => h9) rfl (tyX9_ok 12 (by decide)) rfl rfl (Nat.le_of_ble_eq_true rfl) dX9_sum_54 (fun H locs hP hD hS => ?_)
        rw [u9_12] at hP hD
        refine lv_aload_n hx hb dX9_sum_57 rfl (lv_at hl 1 rfl) ?_
        obtain ⟨r14, z15, hc13, h⟩ := bd2_some h
        refine cWi (runV (As := []) (rest := []) C (mX9_term l D a (q_t := q_t) (Q_t := Q_t) hc13 H.size) lk_V_9_174 okN_X9_term ⟨Nat.le_of_ble_eq_true rfl, Nat.le_of_ble_eq_true rfl⟩ ⟨rfl, rfl⟩ (preV (preM hK hP hD) (recvOf hK hP 0 rfl (ci := 9) rfl)) hl.1 rfl (Nat.le_of_ble_eq_true rfl) dX9_sum_58 ⟨Nat.le_of_ble_eq_true rfl, Nat.le_of_ble_eq_true rfl⟩) hP hD hS hA (fun H locs hP hD hS => ?_)
        have hP : va_P D classes (rc9 a q_t Q_t z15) H := hP
        have hD : va_D A (rc9 a q_t Q_t z15) := hD
        refine lv_if_ne (tgt := 66) hx hb dX9_sum_61 (by decide) (fun c16 => ?_) (fun c16 => ?_)
        · have h := ite_f c16 h
          refine lv_aload_n hx hb dX9_sum_66 rfl (lv_at hl 1 rfl) ?_
          refine lv_iload_n hx hb dX9_sum_67 rfl (lv_at hl 0 rfl) ?_
          refine lv_iconst (v := 0) hx hb dX9_sum_68 (by decide) ?_
          obtain ⟨z18, hc17, h⟩ := bd_some h
          refine cWv (runV (As := [.int i12, .int 0]) (rest := []) C (mX9_puts l D a (q_t := q_t) (Q_t := Q_t) hc17 H.size) lk_V_9_156 okN_X9_puts ⟨Nat.le_of_ble_eq_true rfl, Nat.le_of_ble_eq_true rfl⟩ ⟨rfl, rfl⟩ (preV (preM hK hP hD) (recvOf hK hP 0 rfl (ci := 9) rfl)) hl.1 rfl (Nat.le_of_ble_eq_true rfl) dX9_sum_69 ⟨Nat.le_of_ble_eq_true rfl, Nat.le_of_ble_eq_true rfl⟩) hP hD hS hA (fun H locs hP hD hS => ?_)
          have hP : va_P D classes (rc9 a q_t Q_t z18) H := hP
          have hD : va_D A (rc9 a q_t Q_t z18) := hD
          refine lv_goto (tgt := 9) hx hb dX9_sum_72 (by decide) ?_
          exact ih z18 _ _ ls h hP hD hS (lv_sub hl [1] rfl)
        · have h := ite_t c16 h
          refine lv_iconst (v := 0) hx hb dX9_sum_64 (by decide) ?_
          exact rMz C rfl (Or.inl rfl) h (g := fun y => rc9 a q_t Q_t y.2) (pr := fun y => y.1) hP hD hS dX9_sum_65
      refine lv_icmp_ne (tgt := 45) hx hb dX9_sum_38 (by decide) (fun c19 => ?_) (fun c19 => ?_)
      · have h := ite_f c19 h
        refine lv_iconst (v := 3) hx hb dX9_sum_45 (by decide) ?_
        exact hJ11 3 _ _ ls h hP hD hS (lv_sub hl [0] rfl)
      · have h := ite_t c19 h
        refine lv_iconst (v := 2) hx hb dX9_sum_41 (by decide) ?_
        refine lv_goto (tgt := 46) hx hb dX9_sum_42 (by decide) ?_
        exact hJ11 2 _ _ ls h hP hD hS (lv_sub hl [0] rfl)
    refine lv_icmp_eq (tgt := 27) hx hb dX9_sum_15 (by decide) (fun c20 => ?_) (fun c20 => ?_)
    · have h := ite_t c20 h
      exact hJ8 z7 _ _ ls h hP hD hS (lv_sub hl [0] rfl)
    · have h := ite_f c20 h
      refine lv_aload_n hx hb dX9_sum_18 rfl (lv_at hl 0 rfl) ?_
      obtain ⟨r22, z23, hc21, h⟩ := bd2_some h
      refine cWi (runV (As := []) (rest := []) C (mX9_see l D a (q_t := q_t) (Q_t := Q_t) hc21 H.size) lk_V_9_93 okN_X9_see ⟨Nat.le_of_ble_eq_true rfl, Nat.le_of_ble_eq_true rfl⟩ ⟨rfl, rfl⟩ (preV (preM hK hP hD) (recvOf hK hP 0 rfl (ci := 9) rfl)) hl.1 rfl (Nat.le_of_ble_eq_true rfl) dX9_sum_19 ⟨Nat.le_of_ble_eq_true rfl, Nat.le_of_ble_eq_true rfl⟩) hP hD hS hA (fun H locs hP hD hS => ?_)
      have hP : va_P D classes (rc9 a q_t Q_t z23) H := hP
      have hD : va_D A (rc9 a q_t Q_t z23) := hD
      refine lv_bipush (v := 45) hx hb dX9_sum_22 (by decide) ?_
      refine lv_icmp_ne (tgt := 75) hx hb dX9_sum_24 (by decide) (fun c24 => ?_) (fun c24 => ?_)
      · have h := ite_f c24 h
        refine lv_iconst (v := 1) hx hb dX9_sum_75 (by decide) ?_
        exact rMz C rfl (Or.inr rfl) h (g := fun y => rc9 a q_t Q_t y.2) (pr := fun y => y.1) hP hD hS dX9_sum_76
      · have h := ite_t c24 h
        exact hJ8 z23 _ _ ls h hP hD hS (lv_sub hl [0] rfl)

set_option maxHeartbeats 4000000 in
set_option maxRecDepth 100000 in
theorem mX9_sum (l : Launch) (D : va_G) (a : Nat → ClassId) {q_t : Nat} {Q_t : Nat → Nat} {z_t : Sx} {y : Int32 × Sx} (h : fX9_sum z_t = some y) (sz : Nat) : CMi (S := Unit) l MX9_sum 5 109 0 0 D a [.ref q_t] (rc9 a q_t Q_t z_t) sz (fun r _ => r = y.1) (fun _ => rc9 a q_t Q_t y.2) := by
  unfold fX9_sum at h
  refine entMi (by decide) (Nat.le_of_ble_eq_true rfl) ?_
  intro p e s m below meth c C hK A hA hP hD ls hl
  obtain ⟨hx, hb, hml, hown, hts, hr, hlocks, hnm⟩ := id C
  have hb : c.code = cX9_sum := hb
  have hown : s.vm.findClass RX9 = some m.cls := hown
  have hS : va_S A s.heap s.heap [] := va_S.rf
  have hl : lv_has ls 2 [(0, .ref q_t)] := hl
  refine lv_aload_n hx hb dX9_sum_0 rfl (lv_at hl 0 rfl) ?_
  obtain ⟨r2, z3, hc1, h⟩ := bd2_some h
  refine cWi (runV (As := []) (rest := []) C (mX9_term l D a (q_t := q_t) (Q_t := Q_t) hc1 s.heap.size) lk_V_9_174 okN_X9_term ⟨Nat.le_of_ble_eq_true rfl, Nat.le_of_ble_eq_true rfl⟩ ⟨rfl, rfl⟩ (preV (preM hK hP hD) (recvOf hK hP 0 rfl (ci := 9) rfl)) hl.1 rfl (Nat.le_of_ble_eq_true rfl) dX9_sum_1 ⟨Nat.le_of_ble_eq_true rfl, Nat.le_of_ble_eq_true rfl⟩) hP hD hS hA (fun H locs hP hD hS => ?_)
  have hP : va_P D classes (rc9 a q_t Q_t z3) H := hP
  have hD : va_D A (rc9 a q_t Q_t z3) := hD
  refine lv_if_ne (tgt := 9) hx hb dX9_sum_4 (by decide) (fun c4 => ?_) (fun c4 => ?_)
  · have h := ite_f c4 h
    refine wX9_sum_9 C hK hA FU z3 _ _ ls h hP hD hS (lv_sub hl [0] rfl)
  · have h := ite_t c4 h
    refine lv_iconst (v := 0) hx hb dX9_sum_7 (by decide) ?_
    exact rMz C rfl (Or.inl rfl) h (g := fun y => rc9 a q_t Q_t y.2) (pr := fun y => y.1) hP hD hS dX9_sum_8

set_option maxHeartbeats 4000000 in
set_option maxRecDepth 100000 in
theorem mX9_compare (l : Launch) (D : va_G) (a : Nat → ClassId) {q_t : Nat} {Q_t : Nat → Nat} {z_t : Sx} {y : Int32 × Sx} (h : fX9_compare z_t = some y) (sz : Nat) : CMi (S := Unit) l MX9_compare 6 130 0 0 D a [.ref q_t] (rc9 a q_t Q_t z_t) sz (fun r _ => r = y.1) (fun _ => rc9 a q_t Q_t y.2) := by
  unfold fX9_compare at h
  refine entMi (by decide) (Nat.le_of_ble_eq_true rfl) ?_
  intro p e s m below meth c C hK A hA hP hD ls hl
  obtain ⟨hx, hb, hml, hown, hts, hr, hlocks, hnm⟩ := id C
  have hb : c.code = cX9_compare := hb
  have hown : s.vm.findClass RX9 = some m.cls := hown
  have hS : va_S A s.heap s.heap [] := va_S.rf
  have hl : lv_has ls 5 [(0, .ref q_t)] := hl
  refine lv_aload_n hx hb dX9_compare_0 rfl (lv_at hl 0 rfl) ?_
  obtain ⟨r2, z3, hc1, h⟩ := bd2_some h
  refine cWi (runV (As := []) (rest := []) C (mX9_sum l D a (q_t := q_t) (Q_t := Q_t) hc1 s.heap.size) lk_V_9_177 okN_X9_sum ⟨Nat.le_of_ble_eq_true rfl, Nat.le_of_ble_eq_true rfl⟩ ⟨rfl, rfl⟩ (preV (preM hK hP hD) (recvOf hK hP 0 rfl (ci := 9) rfl)) hl.1 rfl (Nat.le_of_ble_eq_true rfl) dX9_compare_1 ⟨Nat.le_of_ble_eq_true rfl, Nat.le_of_ble_eq_true rfl⟩) hP hD hS hA (fun H locs hP hD hS => ?_)
  have hP : va_P D classes (rc9 a q_t Q_t z3) H := hP
  have hD : va_D A (rc9 a q_t Q_t z3) := hD
  refine lv_if_ne (tgt := 9) hx hb dX9_compare_4 (by decide) (fun c4 => ?_) (fun c4 => ?_)
  · have h := ite_f c4 h
    refine lv_aload_n hx hb dX9_compare_9 rfl (lv_at hl 0 rfl) ?_
    obtain ⟨r6, z7, hc5, h⟩ := bd2_some h
    refine cWi (runV (As := []) (rest := []) C (mX9_see l D a (q_t := q_t) (Q_t := Q_t) hc5 H.size) lk_V_9_93 okN_X9_see ⟨Nat.le_of_ble_eq_true rfl, Nat.le_of_ble_eq_true rfl⟩ ⟨rfl, rfl⟩ (preV (preM hK hP hD) (recvOf hK hP 0 rfl (ci := 9) rfl)) hl.1 rfl (Nat.le_of_ble_eq_true rfl) dX9_compare_10 ⟨Nat.le_of_ble_eq_true rfl, Nat.le_of_ble_eq_true rfl⟩) hP hD hS hA (fun H locs hP hD hS => ?_)
    have hP : va_P D classes (rc9 a q_t Q_t z7) H := hP
    have hD : va_D A (rc9 a q_t Q_t z7) := hD
    refine lv_istore_n (lv' := [(1, .int r6), (0, .ref q_t)]) hx hb dX9_compare_13 rfl hl (by decide) rfl (fun ls hl => ?_)
    refine lv_aload_n hx hb dX9_compare_14 rfl (lv_at hl 1 rfl) ?_
    refine va_get (D := D) (v := .int (gI z7 12)) (C := RX9) (T := TX9) (N := 36) hx hb hts iX9 hown hK.1 hP 0 rfl rfl 12 (by decide) (hts _ t_894) (fun _ h9 => h9) rfl dX9_compare_15 ?_
    refine lv_istore_n (lv' := [(2, .int (gI z7 12)), (1, .int r6), (0, .ref q_t)]) hx hb dX9_compare_18 rfl hl (by decide) rfl (fun ls hl => ?_)
    refine lv_iload_n hx hb dX9_compare_19 rfl (lv_at hl 1 rfl) ?_
    refine lv_bipush (v := 60) hx hb dX9_compare_20 (by decide) ?_
    obtain ⟨J8, eJ8, h⟩ := jn_some h
    have hJ8 : ∀ (H : Heap) (locs : List Loc) (ls : Array Slot), J8 = some y → va_P D classes (rc9 a q_t Q_t z7) H → va_D A (rc9 a q_t Q_t z7) → va_S A s.heap H locs → lv_has ls 5 [(0, .ref q_t), (1, .int r6), (2, .int (gI z7 12))] → W p l e (rmM 6 0 0 130) s m #[.ref q_t] below meth c H locs 0 0 (MQ below (va_Qi (fun r (_ : Unit) => r = y.1) (Bw D A (fun _ => rc9 a q_t Q_t y.2)) A) #[.ref q_t] s 0 0 A) (F0 m 44 ls []) := by
      intro H locs ls h hP hD hS hl
      rw [eJ8] at h
      refine lv_aload_n hx hb dX9_compare_44 rfl (lv_at hl 0 rfl) ?_
      refine lv_dup hx hb dX9_compare_45 rfl ?_
      refine va_get (D := D) (v := .int (gI z7 12)) (C := RX9) (T := TX9) (N := 36) hx hb hts iX9 hown hK.1 hP 0 rfl rfl 12 (by decide) (hts _ t_894) (fun _ h9 => h9) rfl dX9_compare_46 ?_
      refine lv_iconst (v := 1) hx hb dX9_compare_49 (by decide) ?_
      refine lv_iadd hx hb dX9_compare_50 ?_
      refine va_put (D := D) (v := .int ((gI z7 12) + 1)) (C := RX9) (T := TX9) (N := 36) hx hb hts iX9 tyX9 tyX9_ok nmX9 hown hK.1 hP hD hS 0 rfl rfl 12 (by decide) (hts _ t_894) (fun _ h9 => h9) rfl (tyX9_ok 12 (by decide)) rfl rfl (Nat.le_of_ble_eq_true rfl) dX9_compare_51 (fun H locs hP hD hS => ?_)
      rw [u9_12] at hP hD
      refine lv_iload_n hx hb dX9_compare_54 rfl (lv_at hl 1 rfl) ?_
      refine lv_bipush (v := 61) hx hb dX9_compare_55 (by decide) ?_
      obtain ⟨J9, eJ9, h⟩ := jn_some h
      have hJ9 : ∀ (i10 : Int32) (H : Heap) (locs : List Loc) (ls : Array Slot), J9 i10 = some y → va_P D classes (rc9 a q_t Q_t (sI z7 12 ((gI z7 12) + 1))) H → va_D A (rc9 a q_t Q_t (sI z7 12 ((gI z7 12) + 1))) → va_S A s.heap H locs → lv_has ls 5 [(0, .ref q_t), (1, .int r6), (2, .int (gI z7 12))] → W p l e (rmM 6 0 0 130) s m #[.ref q_t] below meth c H locs 0 0 (MQ below (va_Qi (fun r (_ : Unit) => r = y.1) (Bw D A (fun _ => rc9 a q_t Q_t y.2)) A) #[.ref q_t] s 0 0 A) (F0 m 90 ls [.int i10]) := by
        intro i10 H locs ls h hP hD hS hl
        rw [eJ9] at h
        refine lv_istore_n (lv' := [(3, .int i10), (0, .ref q_t), (1, .int r6), (2, .int (gI z7 12))]) hx hb dX9_compare_90 rfl hl (by decide) rfl (fun ls hl => ?_)
        refine lv_iload_n hx hb dX9_compare_91 rfl (lv_at hl 0 rfl) ?_
        obtain ⟨J11, eJ11, h⟩ := jn_some h
        have hJ11 : ∀ (z12 : Sx) (H : Heap) (locs : List Loc) (ls : Array Slot), J11 z12 = some y → va_P D classes (rc9 a q_t Q_t z12) H → va_D A (rc9 a q_t Q_t z12) → va_S A s.heap H locs → lv_has ls 5 [(0, .ref q_t), (1, .int r6), (2, .int (gI z7 12)), (3, .int i10)] → W p l e (rmM 6 0 0 130) s m #[.ref q_t] below meth c H locs 0 0 (MQ below (va_Qi (fun r (_ : Unit) => r = y.1) (Bw D A (fun _ => rc9 a q_t Q_t y.2)) A) #[.ref q_t] s 0 0 A) (F0 m 105 ls []) := by
          intro z12 H locs ls h hP hD hS hl
          rw [eJ11] at h
          refine lv_aload_n hx hb dX9_compare_105 rfl (lv_at hl 0 rfl) ?_
          refine lv_iload_n hx hb dX9_compare_106 rfl (lv_at hl 2 rfl) ?_
          obtain ⟨r14, z15, hc13, h⟩ := bd2_some h
          refine cWi (runV (As := [.int (gI z7 12)]) (rest := []) C (mX9_makes l D a (q_t := q_t) (Q_t := Q_t) hc13 H.size) lk_V_9_164 okN_X9_makes ⟨Nat.le_of_ble_eq_true rfl, Nat.le_of_ble_eq_true rfl⟩ ⟨rfl, rfl⟩ (preV (preM hK hP hD) (recvOf hK hP 0 rfl (ci := 9) rfl)) hl.1 rfl (Nat.le_of_ble_eq_true rfl) dX9_compare_107 ⟨Nat.le_of_ble_eq_true rfl, Nat.le_of_ble_eq_true rfl⟩) hP hD hS hA (fun H locs hP hD hS => ?_)
          have hP : va_P D classes (rc9 a q_t Q_t z15) H := hP
          have hD : va_D A (rc9 a q_t Q_t z15) := hD
          refine lv_if_ne (tgt := 115) hx hb dX9_compare_110 (by decide) (fun c16 => ?_) (fun c16 => ?_)
          · have h := ite_f c16 h
            refine lv_iload_n hx hb dX9_compare_115 rfl (lv_at hl 1 rfl) ?_
            refine lv_bipush (v := 60) hx hb dX9_compare_116 (by decide) ?_
            obtain ⟨J17, eJ17, h⟩ := jn_some h
            have hJ17 : ∀ (i18 : Int32) (H : Heap) (locs : List Loc) (ls : Array Slot), J17 i18 = some y → va_P D classes (rc9 a q_t Q_t z15) H → va_D A (rc9 a q_t Q_t z15) → va_S A s.heap H locs → lv_has ls 5 [(0, .ref q_t)] → W p l e (rmM 6 0 0 130) s m #[.ref q_t] below meth c H locs 0 0 (MQ below (va_Qi (fun r (_ : Unit) => r = y.1) (Bw D A (fun _ => rc9 a q_t Q_t y.2)) A) #[.ref q_t] s 0 0 A) (F0 m 152 ls [.int i18]) := by
              intro i18 H locs ls h hP hD hS hl
              rw [eJ17] at h
              refine lv_istore (lv' := [(4, .int i18), (0, .ref q_t)]) hx hb dX9_compare_152 hl (by decide) rfl (fun ls hl => ?_)
              refine lv_aload_n hx hb dX9_compare_154 rfl (lv_at hl 1 rfl) ?_
              obtain ⟨r20, z21, hc19, h⟩ := bd2_some h
              refine cWi (runV (As := []) (rest := []) C (mX9_sum l D a (q_t := q_t) (Q_t := Q_t) hc19 H.size) lk_V_9_177 okN_X9_sum ⟨Nat.le_of_ble_eq_true rfl, Nat.le_of_ble_eq_true rfl⟩ ⟨rfl, rfl⟩ (preV (preM hK hP hD) (recvOf hK hP 0 rfl (ci := 9) rfl)) hl.1 rfl (Nat.le_of_ble_eq_true rfl) dX9_compare_155 ⟨Nat.le_of_ble_eq_true rfl, Nat.le_of_ble_eq_true rfl⟩) hP hD hS hA (fun H locs hP hD hS => ?_)
              have hP : va_P D classes (rc9 a q_t Q_t z21) H := hP
              have hD : va_D A (rc9 a q_t Q_t z21) := hD
              refine lv_if_ne (tgt := 163) hx hb dX9_compare_158 (by decide) (fun c22 => ?_) (fun c22 => ?_)
              · have h := ite_f c22 h
                refine lv_aload_n hx hb dX9_compare_163 rfl (lv_at hl 1 rfl) ?_
                refine lv_bipush (v := 6) hx hb dX9_compare_164 (by decide) ?_
                refine lv_iload hx hb dX9_compare_166 (lv_at hl 0 rfl) ?_
                refine lv_iadd hx hb dX9_compare_168 ?_
                refine lv_iconst (v := 0) hx hb dX9_compare_169 (by decide) ?_
                obtain ⟨z24, hc23, h⟩ := bd_some h
                refine cWv (runV (As := [.int (6 + i18), .int 0]) (rest := []) C (mX9_puts l D a (q_t := q_t) (Q_t := Q_t) hc23 H.size) lk_V_9_156 okN_X9_puts ⟨Nat.le_of_ble_eq_true rfl, Nat.le_of_ble_eq_true rfl⟩ ⟨rfl, rfl⟩ (preV (preM hK hP hD) (recvOf hK hP 0 rfl (ci := 9) rfl)) hl.1 rfl (Nat.le_of_ble_eq_true rfl) dX9_compare_170 ⟨Nat.le_of_ble_eq_true rfl, Nat.le_of_ble_eq_true rfl⟩) hP hD hS hA (fun H locs hP hD hS => ?_)
                have hP : va_P D classes (rc9 a q_t Q_t z24) H := hP
                have hD : va_D A (rc9 a q_t Q_t z24) := hD
                refine lv_iconst (v := 1) hx hb dX9_compare_173 (by decide) ?_
                exact rMz C rfl (Or.inr rfl) h (g := fun y => rc9 a q_t Q_t y.2) (pr := fun y => y.1) hP hD hS dX9_compare_174
              · have h := ite_t c22 h
                refine lv_iconst (v := 0) hx hb dX9_compare_161 (by decide) ?_
                exact rMz C rfl (Or.inl rfl) h (g := fun y => rc9 a q_t Q_t y.2) (pr := fun y => y.1) hP hD hS dX9_compare_162
            refine lv_icmp_ne (tgt := 133) hx hb dX9_compare_118 (by decide) (fun c25 => ?_) (fun c25 => ?_)
            · have h := ite_f c25 h
              refine lv_iload_n hx hb dX9_compare_133 rfl (lv_at hl 1 rfl) ?_
              refine lv_bipush (v := 61) hx hb dX9_compare_134 (by decide) ?_
              refine lv_icmp_ne (tgt := 143) hx hb dX9_compare_136 (by decide) (fun c26 => ?_) (fun c26 => ?_)
              · have h := ite_f c26 h
                refine lv_iload_n hx hb dX9_compare_143 rfl (lv_at hl 3 rfl) ?_
                refine lv_if_eq (tgt := 151) hx hb dX9_compare_144 (by decide) (fun c27 => ?_) (fun c27 => ?_)
                · have h := ite_t c27 h
                  refine lv_iconst (v := 4) hx hb dX9_compare_151 (by decide) ?_
                  exact hJ17 4 _ _ ls h hP hD hS (lv_sub hl [0] rfl)
                · have h := ite_f c27 h
                  refine lv_iconst (v := 3) hx hb dX9_compare_147 (by decide) ?_
                  refine lv_goto (tgt := 152) hx hb dX9_compare_148 (by decide) ?_
                  exact hJ17 3 _ _ ls h hP hD hS (lv_sub hl [0] rfl)
              · have h := ite_t c26 h
                refine lv_iconst (v := 2) hx hb dX9_compare_139 (by decide) ?_
                refine lv_goto (tgt := 152) hx hb dX9_compare_140 (by decide) ?_
                exact hJ17 2 _ _ ls h hP hD hS (lv_sub hl [0] rfl)
            · have h := ite_t c25 h
              refine lv_iload_n hx hb dX9_compare_121 rfl (lv_at hl 3 rfl) ?_
              refine lv_if_eq (tgt := 129) hx hb dX9_compare_122 (by decide) (fun c28 => ?_) (fun c28 => ?_)
              · have h := ite_t c28 h
                refine lv_iconst (v := 0) hx hb dX9_compare_129 (by decide) ?_
                refine lv_goto (tgt := 152) hx hb dX9_compare_130 (by decide) ?_
                exact hJ17 0 _ _ ls h hP hD hS (lv_sub hl [0] rfl)
              · have h := ite_f c28 h
                refine lv_iconst (v := 1) hx hb dX9_compare_125 (by decide) ?_
                refine lv_goto (tgt := 152) hx hb dX9_compare_126 (by decide) ?_
                exact hJ17 1 _ _ ls h hP hD hS (lv_sub hl [0] rfl)
          · have h := ite_t c16 h
            refine lv_iconst (v := 0) hx hb dX9_compare_113 (by decide) ?_
            exact rMz C rfl (Or.inl rfl) h (g := fun y => rc9 a q_t Q_t y.2) (pr := fun y => y.1) hP hD hS dX9_compare_114
        refine lv_if_eq (tgt := 105) hx hb dX9_compare_92 (by decide) (fun c29 => ?_) (fun c29 => ?_)
        · have h := ite_t c29 h
          exact hJ11 (sI z7 12 ((gI z7 12) + 1)) _ _ ls h hP hD hS (lv_sub hl [1, 2, 3, 0] rfl)
        · have h := ite_f c29 h
          refine lv_aload_n hx hb dX9_compare_95 rfl (lv_at hl 1 rfl) ?_
          refine lv_dup hx hb dX9_compare_96 rfl ?_
          refine va_get (D := D) (v := .int ((gI z7 12) + 1)) (C := RX9) (T := TX9) (N := 36) hx hb hts iX9 hown hK.1 hP 0 rfl rfl 12 (by decide) (hts _ t_894) (fun _ h9 => h9) rfl dX9_compare_97 ?_
          refine lv_iconst (v := 1) hx hb dX9_compare_100 (by decide) ?_
          refine lv_iadd hx hb dX9_compare_101 ?_
          refine va_put (D := D) (v := .int (((gI z7 12) + 1) + 1)) (C := RX9) (T := TX9) (N := 36) hx hb hts iX9 tyX9 tyX9_ok nmX9 hown hK.1 hP hD hS 0 rfl rfl 12 (by decide) (hts _ t_894) (fun _ h9 => h9) rfl (tyX9_ok 12 (by decide)) rfl rfl (Nat.le_of_ble_eq_true rfl) dX9_compare_102 (fun H locs hP hD hS => ?_)
          rw [u9_12] at hP hD
          exact hJ11 (sI (sI z7 12 ((gI z7 12) + 1)) 12 (((gI z7 12) + 1) + 1)) _ _ ls h hP hD hS (lv_sub hl [1, 2, 3, 0] rfl)
      obtain ⟨J30, eJ30, h⟩ := jn_some h
      have hJ30 : ∀ (H : Heap) (locs : List Loc) (ls : Array Slot), J30 = some y → va_P D classes (rc9 a q_t Q_t (sI z7 12 ((gI z7 12) + 1))) H → va_D A (rc9 a q_t Q_t (sI z7 12 ((gI z7 12) + 1))) → va_S A s.heap H locs → lv_has ls 5 [(0, .ref q_t), (1, .int r6), (2, .int (gI z7 12))] → W p l e (rmM 6 0 0 130) s m #[.ref q_t] below meth c H locs 0 0 (MQ below (va_Qi (fun r (_ : Unit) => r = y.1) (Bw D A (fun _ => rc9 a q_t Q_t y.2)) A) #[.ref q_t] s 0 0 A) (F0 m 89 ls []) := by
        intro H locs ls h hP hD hS hl
        rw [eJ30] at h
        refine lv_iconst (v := 0) hx hb dX9_compare_89 (by decide) ?_
        exact hJ9 0 _ _ ls h hP hD hS (lv_sub hl [0, 1, 2] rfl)
      refine lv_icmp_eq (tgt := 89) hx hb dX9_compare_57 (by decide) (fun c31 => ?_) (fun c31 => ?_)
      · have h := ite_t c31 h
        exact hJ30 _ _ ls h hP hD hS (lv_sub hl [0, 1, 2] rfl)
      · have h := ite_f c31 h
        refine lv_aload_n hx hb dX9_compare_60 rfl (lv_at hl 0 rfl) ?_
        refine va_get (D := D) (v := .int ((gI z7 12) + 1)) (C := RX9) (T := TX9) (N := 36) hx hb hts iX9 hown hK.1 hP 0 rfl rfl 12 (by decide) (hts _ t_894) (fun _ h9 => h9) rfl dX9_compare_61 ?_
        refine lv_aload_n hx hb dX9_compare_64 rfl (lv_at hl 0 rfl) ?_
        refine va_get (D := D) (v := .int (gI z7 1)) (C := RX9) (T := TX9) (N := 36) hx hb hts iX9 hown hK.1 hP 0 rfl rfl 1 (by decide) (hts _ t_883) (fun _ h9 => h9) rfl dX9_compare_65 ?_
        refine lv_icmp_ge (tgt := 89) hx hb dX9_compare_68 (by decide) (fun c32 => ?_) (fun c32 => ?_)
        · have h := ite_t c32 h
          exact hJ30 _ _ ls h hP hD hS (lv_sub hl [0, 1, 2] rfl)
        · have h := ite_f c32 h
          refine lv_aload_n hx hb dX9_compare_71 rfl (lv_at hl 0 rfl) ?_
          refine va_get (D := D) (v := .ref (Q_t 0)) (C := RX9) (T := TX9) (N := 36) hx hb hts iX9 hown hK.1 hP 0 rfl rfl 0 (by decide) (hts _ t_882) (fun _ h9 => h9) rfl dX9_compare_72 ?_
          refine lv_aload_n hx hb dX9_compare_75 rfl (lv_at hl 0 rfl) ?_
          refine va_get (D := D) (v := .int ((gI z7 12) + 1)) (C := RX9) (T := TX9) (N := 36) hx hb hts iX9 hown hK.1 hP 0 rfl rfl 12 (by decide) (hts _ t_894) (fun _ h9 => h9) rfl dX9_compare_76 ?_
          obtain ⟨g33, h⟩ := gd_some h
          refine ald_b hx hb hK.1 hP 1 2 rfl rfl (((gI z7 12) + 1).toNatClampNeg) (ix_g g33) dX9_compare_79 ?_
          refine lv_bipush (v := 61) hx hb dX9_compare_80 (by decide) ?_
          refine lv_icmp_ne (tgt := 89) hx hb dX9_compare_82 (by decide) (fun c34 => ?_) (fun c34 => ?_)
          · have h := ite_f c34 h
            exact hJ30 _ _ ls h hP hD hS (lv_sub hl [0, 1, 2] rfl)
          · have h := ite_t c34 h
            refine lv_iconst (v := 1) hx hb dX9_compare_85 (by decide) ?_
            refine lv_goto (tgt := 90) hx hb dX9_compare_86 (by decide) ?_
            exact hJ9 1 _ _ ls h hP hD hS (lv_sub hl [0, 1, 2] rfl)
    refine lv_icmp_eq (tgt := 44) hx hb dX9_compare_22 (by decide) (fun c35 => ?_) (fun c35 => ?_)
    · have h := ite_t c35 h
      exact hJ8 _ _ ls h hP hD hS (lv_sub hl [2, 1, 0] rfl)
    · have h := ite_f c35 h
      refine lv_iload_n hx hb dX9_compare_25 rfl (lv_at hl 1 rfl) ?_
      refine lv_bipush (v := 61) hx hb dX9_compare_26 (by decide) ?_
      refine lv_icmp_eq (tgt := 44) hx hb dX9_compare_28 (by decide) (fun c36 => ?_) (fun c36 => ?_)
      · have h := ite_t c36 h
        exact hJ8 _ _ ls h hP hD hS (lv_sub hl [2, 1, 0] rfl)
      · have h := ite_f c36 h
        refine lv_iload_n hx hb dX9_compare_31 rfl (lv_at hl 1 rfl) ?_
        refine lv_bipush (v := 62) hx hb dX9_compare_32 (by decide) ?_
        refine lv_icmp_eq (tgt := 44) hx hb dX9_compare_34 (by decide) (fun c37 => ?_) (fun c37 => ?_)
        · have h := ite_t c37 h
          exact hJ8 _ _ ls h hP hD hS (lv_sub hl [2, 1, 0] rfl)
        · have h := ite_f c37 h
          refine lv_aload_n hx hb dX9_compare_37 rfl (lv_at hl 2 rfl) ?_
          refine lv_iconst (v := 0) hx hb dX9_compare_38 (by decide) ?_
          refine lv_iload_n hx hb dX9_compare_39 rfl (lv_at hl 0 rfl) ?_
          obtain ⟨r39, z40, hc38, h⟩ := bd2_some h
          refine cWi (runV (As := [.int 0, .int (gI z7 12)]) (rest := []) C (mX9_fails l D a (q_t := q_t) (Q_t := Q_t) hc38 H.size) lk_V_9_111 okN_X9_fails ⟨Nat.le_of_ble_eq_true rfl, Nat.le_of_ble_eq_true rfl⟩ ⟨rfl, rfl⟩ (preV (preM hK hP hD) (recvOf hK hP 0 rfl (ci := 9) rfl)) hl.1 rfl (Nat.le_of_ble_eq_true rfl) dX9_compare_40 ⟨Nat.le_of_ble_eq_true rfl, Nat.le_of_ble_eq_true rfl⟩) hP hD hS hA (fun H locs hP hD hS => ?_)
          have hP : va_P D classes (rc9 a q_t Q_t z40) H := hP
          have hD : va_D A (rc9 a q_t Q_t z40) := hD
          obtain ⟨g41, h⟩ := gd_some h
          exact rMz C rfl (g41) h (g := fun y => rc9 a q_t Q_t y.2) (pr := fun y => y.1) hP hD hS dX9_compare_43
  · have h := ite_t c4 h
    refine lv_iconst (v := 0) hx hb dX9_compare_7 (by decide) ?_
    exact rMz C rfl (Or.inl rfl) h (g := fun y => rc9 a q_t Q_t y.2) (pr := fun y => y.1) hP hD hS dX9_compare_8

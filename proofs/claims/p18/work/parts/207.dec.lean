set_option maxHeartbeats 4000000 in
set_option maxRecDepth 100000 in
theorem mX9_rests (l : Launch) (D : va_G) (a : Nat → ClassId) {q_t : Nat} {Q_t : Nat → Nat} {z_t : Sx} {y : Int32} (h : fX9_rests z_t = some y) : CRi l MX9_rests 1 21 D a [.ref q_t] (rc9 a q_t Q_t z_t) (fun r => r = y) := by
  unfold fX9_rests at h
  refine entR (by decide) (Nat.le_of_ble_eq_true rfl) ?_
  intro p e s m below meth c C hK hP ls hl
  obtain ⟨hx, hb, hml, hown, hts, hr, hlocks, hnm⟩ := id C
  have hb : c.code = cX9_rests := hb
  have hown : s.vm.findClass RX9 = some m.cls := hown
  have hl : lv_has ls 2 [(0, .ref q_t)] := hl
  refine lv_aload_n hx hb dX9_rests_0 rfl (lv_at hl 0 rfl) ?_
  refine lv_iconst (v := 0) hx hb dX9_rests_1 (by decide) ?_
  obtain ⟨r2, hc1, h⟩ := bd_some h
  refine cRi (runV (As := [.int 0]) (rest := []) C (mX9_gameOf l D a (q_t := q_t) (Q_t := Q_t) hc1) lk_V_9_401 okN_X9_gameOf ⟨Nat.le_of_ble_eq_true rfl, Nat.le_of_ble_eq_true rfl⟩ ⟨rfl, rfl⟩ (preV (preR hK hP) (recvOf hK hP 0 rfl (ci := 9) rfl)) hl.1 rfl (Nat.le_of_ble_eq_true rfl) dX9_rests_2 ⟨Nat.le_of_ble_eq_true rfl, Nat.le_of_ble_eq_true rfl⟩) ?_
  refine lv_aload_n hx hb dX9_rests_5 rfl (lv_at hl 0 rfl) ?_
  refine lv_iconst (v := 2) hx hb dX9_rests_6 (by decide) ?_
  obtain ⟨r4, hc3, h⟩ := bd_some h
  refine cRi (runV (As := [.int 2]) (rest := [.int r2]) C (mX9_gameOf l D a (q_t := q_t) (Q_t := Q_t) hc3) lk_V_9_401 okN_X9_gameOf ⟨Nat.le_of_ble_eq_true rfl, Nat.le_of_ble_eq_true rfl⟩ ⟨rfl, rfl⟩ (preV (preR hK hP) (recvOf hK hP 0 rfl (ci := 9) rfl)) hl.1 rfl (Nat.le_of_ble_eq_true rfl) dX9_rests_7 ⟨Nat.le_of_ble_eq_true rfl, Nat.le_of_ble_eq_true rfl⟩) ?_
  obtain ⟨J5, eJ5, h⟩ := jn_some h
  have hJ5 : ∀ (i6 : Int32) (ls : Array Slot), J5 i6 = some y → lv_has ls 2 [(0, .ref q_t)] → W p l e (rmM 1 0 0 21) s m #[.ref q_t] below meth c s.heap [] 0 0 (MQ below (vp_Si (fun r => r = y)) #[.ref q_t] s 0 0 (fun _ => False)) (F0 m 31 ls [.int i6]) := by
    intro i6 ls h hl
    rw [eJ5] at h
    refine lv_istore_n (lv' := [(1, .int i6), (0, .ref q_t)]) hx hb dX9_rests_31 rfl hl (by decide) rfl (fun ls hl => ?_)
    refine lv_iload_n hx hb dX9_rests_32 rfl (lv_at hl 0 rfl) ?_
    refine lv_aload_n hx hb dX9_rests_33 rfl (lv_at hl 1 rfl) ?_
    refine lv_iconst (v := 1) hx hb dX9_rests_34 (by decide) ?_
    obtain ⟨r8, hc7, h⟩ := bd_some h
    refine cRi (runV (As := [.int 1]) (rest := [.int i6]) C (mX9_gameOf l D a (q_t := q_t) (Q_t := Q_t) hc7) lk_V_9_401 okN_X9_gameOf ⟨Nat.le_of_ble_eq_true rfl, Nat.le_of_ble_eq_true rfl⟩ ⟨rfl, rfl⟩ (preV (preR hK hP) (recvOf hK hP 0 rfl (ci := 9) rfl)) hl.1 rfl (Nat.le_of_ble_eq_true rfl) dX9_rests_35 ⟨Nat.le_of_ble_eq_true rfl, Nat.le_of_ble_eq_true rfl⟩) ?_
    refine lv_aload_n hx hb dX9_rests_38 rfl (lv_at hl 1 rfl) ?_
    refine lv_iconst (v := 3) hx hb dX9_rests_39 (by decide) ?_
    obtain ⟨r10, hc9, h⟩ := bd_some h
    refine cRi (runV (As := [.int 3]) (rest := [.int r8, .int i6]) C (mX9_gameOf l D a (q_t := q_t) (Q_t := Q_t) hc9) lk_V_9_401 okN_X9_gameOf ⟨Nat.le_of_ble_eq_true rfl, Nat.le_of_ble_eq_true rfl⟩ ⟨rfl, rfl⟩ (preV (preR hK hP) (recvOf hK hP 0 rfl (ci := 9) rfl)) hl.1 rfl (Nat.le_of_ble_eq_true rfl) dX9_rests_40 ⟨Nat.le_of_ble_eq_true rfl, Nat.le_of_ble_eq_true rfl⟩) ?_
    obtain ⟨J11, eJ11, h⟩ := jn_some h
    have hJ11 : ∀ (i12 : Int32) (i13 : Int32) (ls : Array Slot), J11 i12 i13 = some y → lv_has ls 2 [(0, .ref q_t)] → W p l e (rmM 1 0 0 21) s m #[.ref q_t] below meth c s.heap [] 0 0 (MQ below (vp_Si (fun r => r = y)) #[.ref q_t] s 0 0 (fun _ => False)) (F0 m 64 ls [.int i12, .int i13]) := by
      intro i12 i13 ls h hl
      rw [eJ11] at h
      refine lv_ior hx hb dX9_rests_64 ?_
      refine lv_istore_n (lv' := [(1, .int (i13 ||| i12)), (0, .ref q_t)]) hx hb dX9_rests_65 rfl hl (by decide) rfl (fun ls hl => ?_)
      refine lv_iload_n hx hb dX9_rests_66 rfl (lv_at hl 0 rfl) ?_
      refine lv_aload_n hx hb dX9_rests_67 rfl (lv_at hl 1 rfl) ?_
      refine lv_iconst (v := 2) hx hb dX9_rests_68 (by decide) ?_
      obtain ⟨r15, hc14, h⟩ := bd_some h
      refine cRi (runV (As := [.int 2]) (rest := [.int (i13 ||| i12)]) C (mX9_gameOf l D a (q_t := q_t) (Q_t := Q_t) hc14) lk_V_9_401 okN_X9_gameOf ⟨Nat.le_of_ble_eq_true rfl, Nat.le_of_ble_eq_true rfl⟩ ⟨rfl, rfl⟩ (preV (preR hK hP) (recvOf hK hP 0 rfl (ci := 9) rfl)) hl.1 rfl (Nat.le_of_ble_eq_true rfl) dX9_rests_69 ⟨Nat.le_of_ble_eq_true rfl, Nat.le_of_ble_eq_true rfl⟩) ?_
      refine lv_aload_n hx hb dX9_rests_72 rfl (lv_at hl 1 rfl) ?_
      refine lv_iconst (v := 0) hx hb dX9_rests_73 (by decide) ?_
      obtain ⟨r17, hc16, h⟩ := bd_some h
      refine cRi (runV (As := [.int 0]) (rest := [.int r15, .int (i13 ||| i12)]) C (mX9_gameOf l D a (q_t := q_t) (Q_t := Q_t) hc16) lk_V_9_401 okN_X9_gameOf ⟨Nat.le_of_ble_eq_true rfl, Nat.le_of_ble_eq_true rfl⟩ ⟨rfl, rfl⟩ (preV (preR hK hP) (recvOf hK hP 0 rfl (ci := 9) rfl)) hl.1 rfl (Nat.le_of_ble_eq_true rfl) dX9_rests_74 ⟨Nat.le_of_ble_eq_true rfl, Nat.le_of_ble_eq_true rfl⟩) ?_
      obtain ⟨J18, eJ18, h⟩ := jn_some h
      have hJ18 : ∀ (i19 : Int32) (i20 : Int32) (ls : Array Slot), J18 i19 i20 = some y → lv_has ls 2 [(0, .ref q_t)] → W p l e (rmM 1 0 0 21) s m #[.ref q_t] below meth c s.heap [] 0 0 (MQ below (vp_Si (fun r => r = y)) #[.ref q_t] s 0 0 (fun _ => False)) (F0 m 100 ls [.int i19, .int i20]) := by
        intro i19 i20 ls h hl
        rw [eJ18] at h
        refine lv_ior hx hb dX9_rests_100 ?_
        refine lv_istore_n (lv' := [(1, .int (i20 ||| i19)), (0, .ref q_t)]) hx hb dX9_rests_101 rfl hl (by decide) rfl (fun ls hl => ?_)
        refine lv_iload_n hx hb dX9_rests_102 rfl (lv_at hl 0 rfl) ?_
        refine lv_aload_n hx hb dX9_rests_103 rfl (lv_at hl 1 rfl) ?_
        refine lv_iconst (v := 3) hx hb dX9_rests_104 (by decide) ?_
        obtain ⟨r22, hc21, h⟩ := bd_some h
        refine cRi (runV (As := [.int 3]) (rest := [.int (i20 ||| i19)]) C (mX9_gameOf l D a (q_t := q_t) (Q_t := Q_t) hc21) lk_V_9_401 okN_X9_gameOf ⟨Nat.le_of_ble_eq_true rfl, Nat.le_of_ble_eq_true rfl⟩ ⟨rfl, rfl⟩ (preV (preR hK hP) (recvOf hK hP 0 rfl (ci := 9) rfl)) hl.1 rfl (Nat.le_of_ble_eq_true rfl) dX9_rests_105 ⟨Nat.le_of_ble_eq_true rfl, Nat.le_of_ble_eq_true rfl⟩) ?_
        refine lv_aload_n hx hb dX9_rests_108 rfl (lv_at hl 1 rfl) ?_
        refine lv_iconst (v := 1) hx hb dX9_rests_109 (by decide) ?_
        obtain ⟨r24, hc23, h⟩ := bd_some h
        refine cRi (runV (As := [.int 1]) (rest := [.int r22, .int (i20 ||| i19)]) C (mX9_gameOf l D a (q_t := q_t) (Q_t := Q_t) hc23) lk_V_9_401 okN_X9_gameOf ⟨Nat.le_of_ble_eq_true rfl, Nat.le_of_ble_eq_true rfl⟩ ⟨rfl, rfl⟩ (preV (preR hK hP) (recvOf hK hP 0 rfl (ci := 9) rfl)) hl.1 rfl (Nat.le_of_ble_eq_true rfl) dX9_rests_110 ⟨Nat.le_of_ble_eq_true rfl, Nat.le_of_ble_eq_true rfl⟩) ?_
        obtain ⟨J25, eJ25, h⟩ := jn_some h
        have hJ25 : ∀ (i26 : Int32) (i27 : Int32) (ls : Array Slot), J25 i26 i27 = some y → lv_has ls 2 [] → W p l e (rmM 1 0 0 21) s m #[.ref q_t] below meth c s.heap [] 0 0 (MQ below (vp_Si (fun r => r = y)) #[.ref q_t] s 0 0 (fun _ => False)) (F0 m 137 ls [.int i26, .int i27]) := by
          intro i26 i27 ls h hl
          rw [eJ25] at h
          refine lv_ior hx hb dX9_rests_137 ?_
          exact rRi C rfl (Option.some.inj h) dX9_rests_138
        obtain ⟨J28, eJ28, h⟩ := jn_some h
        have hJ28 : ∀ (i29 : Int32) (ls : Array Slot), J28 i29 = some y → lv_has ls 2 [] → W p l e (rmM 1 0 0 21) s m #[.ref q_t] below meth c s.heap [] 0 0 (MQ below (vp_Si (fun r => r = y)) #[.ref q_t] s 0 0 (fun _ => False)) (F0 m 136 ls [.int i29]) := by
          intro i29 ls h hl
          rw [eJ28] at h
          refine lv_iconst (v := 0) hx hb dX9_rests_136 (by decide) ?_
          exact hJ25 0 i29 ls h (lv_sub hl [] rfl)
        refine lv_icmp_lt (tgt := 136) hx hb dX9_rests_113 (by decide) (fun c30 => ?_) (fun c30 => ?_)
        · have h := ite_t c30 h
          exact hJ28 (i20 ||| i19) ls h (lv_sub hl [] rfl)
        · have h := ite_f c30 h
          refine lv_aload_n hx hb dX9_rests_116 rfl (lv_at hl 1 rfl) ?_
          refine lv_bipush (v := 7) hx hb dX9_rests_117 (by decide) ?_
          obtain ⟨r32, hc31, h⟩ := bd_some h
          refine cRi (runV (As := [.int 7]) (rest := [.int (i20 ||| i19)]) C (mX9_gameOf l D a (q_t := q_t) (Q_t := Q_t) hc31) lk_V_9_401 okN_X9_gameOf ⟨Nat.le_of_ble_eq_true rfl, Nat.le_of_ble_eq_true rfl⟩ ⟨rfl, rfl⟩ (preV (preR hK hP) (recvOf hK hP 0 rfl (ci := 9) rfl)) hl.1 rfl (Nat.le_of_ble_eq_true rfl) dX9_rests_119 ⟨Nat.le_of_ble_eq_true rfl, Nat.le_of_ble_eq_true rfl⟩) ?_
          refine lv_aload_n hx hb dX9_rests_122 rfl (lv_at hl 1 rfl) ?_
          refine lv_bipush (v := 6) hx hb dX9_rests_123 (by decide) ?_
          obtain ⟨r34, hc33, h⟩ := bd_some h
          refine cRi (runV (As := [.int 6]) (rest := [.int r32, .int (i20 ||| i19)]) C (mX9_gameOf l D a (q_t := q_t) (Q_t := Q_t) hc33) lk_V_9_401 okN_X9_gameOf ⟨Nat.le_of_ble_eq_true rfl, Nat.le_of_ble_eq_true rfl⟩ ⟨rfl, rfl⟩ (preV (preR hK hP) (recvOf hK hP 0 rfl (ci := 9) rfl)) hl.1 rfl (Nat.le_of_ble_eq_true rfl) dX9_rests_125 ⟨Nat.le_of_ble_eq_true rfl, Nat.le_of_ble_eq_true rfl⟩) ?_
          refine lv_icmp_lt (tgt := 136) hx hb dX9_rests_128 (by decide) (fun c35 => ?_) (fun c35 => ?_)
          · have h := ite_t c35 h
            exact hJ28 (i20 ||| i19) ls h (lv_sub hl [] rfl)
          · have h := ite_f c35 h
            refine lv_bipush (v := 8) hx hb dX9_rests_131 (by decide) ?_
            refine lv_goto (tgt := 137) hx hb dX9_rests_133 (by decide) ?_
            exact hJ25 8 (i20 ||| i19) ls h (lv_sub hl [] rfl)
      obtain ⟨J36, eJ36, h⟩ := jn_some h
      have hJ36 : ∀ (i37 : Int32) (ls : Array Slot), J36 i37 = some y → lv_has ls 2 [(0, .ref q_t)] → W p l e (rmM 1 0 0 21) s m #[.ref q_t] below meth c s.heap [] 0 0 (MQ below (vp_Si (fun r => r = y)) #[.ref q_t] s 0 0 (fun _ => False)) (F0 m 99 ls [.int i37]) := by
        intro i37 ls h hl
        rw [eJ36] at h
        refine lv_iconst (v := 0) hx hb dX9_rests_99 (by decide) ?_
        exact hJ18 0 i37 ls h (lv_sub hl [0] rfl)
      refine lv_icmp_lt (tgt := 99) hx hb dX9_rests_77 (by decide) (fun c38 => ?_) (fun c38 => ?_)
      · have h := ite_t c38 h
        exact hJ36 (i13 ||| i12) ls h (lv_sub hl [1] rfl)
      · have h := ite_f c38 h
        refine lv_aload_n hx hb dX9_rests_80 rfl (lv_at hl 1 rfl) ?_
        refine lv_bipush (v := 6) hx hb dX9_rests_81 (by decide) ?_
        obtain ⟨r40, hc39, h⟩ := bd_some h
        refine cRi (runV (As := [.int 6]) (rest := [.int (i13 ||| i12)]) C (mX9_gameOf l D a (q_t := q_t) (Q_t := Q_t) hc39) lk_V_9_401 okN_X9_gameOf ⟨Nat.le_of_ble_eq_true rfl, Nat.le_of_ble_eq_true rfl⟩ ⟨rfl, rfl⟩ (preV (preR hK hP) (recvOf hK hP 0 rfl (ci := 9) rfl)) hl.1 rfl (Nat.le_of_ble_eq_true rfl) dX9_rests_83 ⟨Nat.le_of_ble_eq_true rfl, Nat.le_of_ble_eq_true rfl⟩) ?_
        refine lv_aload_n hx hb dX9_rests_86 rfl (lv_at hl 1 rfl) ?_
        refine lv_bipush (v := 7) hx hb dX9_rests_87 (by decide) ?_
        obtain ⟨r42, hc41, h⟩ := bd_some h
        refine cRi (runV (As := [.int 7]) (rest := [.int r40, .int (i13 ||| i12)]) C (mX9_gameOf l D a (q_t := q_t) (Q_t := Q_t) hc41) lk_V_9_401 okN_X9_gameOf ⟨Nat.le_of_ble_eq_true rfl, Nat.le_of_ble_eq_true rfl⟩ ⟨rfl, rfl⟩ (preV (preR hK hP) (recvOf hK hP 0 rfl (ci := 9) rfl)) hl.1 rfl (Nat.le_of_ble_eq_true rfl) dX9_rests_89 ⟨Nat.le_of_ble_eq_true rfl, Nat.le_of_ble_eq_true rfl⟩) ?_
        refine lv_icmp_lt (tgt := 99) hx hb dX9_rests_92 (by decide) (fun c43 => ?_) (fun c43 => ?_)
        · have h := ite_t c43 h
          exact hJ36 (i13 ||| i12) ls h (lv_sub hl [1] rfl)
        · have h := ite_f c43 h
          refine lv_iconst (v := 4) hx hb dX9_rests_95 (by decide) ?_
          refine lv_goto (tgt := 100) hx hb dX9_rests_96 (by decide) ?_
          exact hJ18 4 (i13 ||| i12) ls h (lv_sub hl [1] rfl)
    obtain ⟨J44, eJ44, h⟩ := jn_some h
    have hJ44 : ∀ (i45 : Int32) (ls : Array Slot), J44 i45 = some y → lv_has ls 2 [(0, .ref q_t)] → W p l e (rmM 1 0 0 21) s m #[.ref q_t] below meth c s.heap [] 0 0 (MQ below (vp_Si (fun r => r = y)) #[.ref q_t] s 0 0 (fun _ => False)) (F0 m 63 ls [.int i45]) := by
      intro i45 ls h hl
      rw [eJ44] at h
      refine lv_iconst (v := 0) hx hb dX9_rests_63 (by decide) ?_
      exact hJ11 0 i45 ls h (lv_sub hl [0] rfl)
    refine lv_icmp_lt (tgt := 63) hx hb dX9_rests_43 (by decide) (fun c46 => ?_) (fun c46 => ?_)
    · have h := ite_t c46 h
      exact hJ44 i6 ls h (lv_sub hl [1] rfl)
    · have h := ite_f c46 h
      refine lv_aload_n hx hb dX9_rests_46 rfl (lv_at hl 1 rfl) ?_
      refine lv_iconst (v := 5) hx hb dX9_rests_47 (by decide) ?_
      obtain ⟨r48, hc47, h⟩ := bd_some h
      refine cRi (runV (As := [.int 5]) (rest := [.int i6]) C (mX9_gameOf l D a (q_t := q_t) (Q_t := Q_t) hc47) lk_V_9_401 okN_X9_gameOf ⟨Nat.le_of_ble_eq_true rfl, Nat.le_of_ble_eq_true rfl⟩ ⟨rfl, rfl⟩ (preV (preR hK hP) (recvOf hK hP 0 rfl (ci := 9) rfl)) hl.1 rfl (Nat.le_of_ble_eq_true rfl) dX9_rests_48 ⟨Nat.le_of_ble_eq_true rfl, Nat.le_of_ble_eq_true rfl⟩) ?_
      refine lv_aload_n hx hb dX9_rests_51 rfl (lv_at hl 1 rfl) ?_
      refine lv_iconst (v := 4) hx hb dX9_rests_52 (by decide) ?_
      obtain ⟨r50, hc49, h⟩ := bd_some h
      refine cRi (runV (As := [.int 4]) (rest := [.int r48, .int i6]) C (mX9_gameOf l D a (q_t := q_t) (Q_t := Q_t) hc49) lk_V_9_401 okN_X9_gameOf ⟨Nat.le_of_ble_eq_true rfl, Nat.le_of_ble_eq_true rfl⟩ ⟨rfl, rfl⟩ (preV (preR hK hP) (recvOf hK hP 0 rfl (ci := 9) rfl)) hl.1 rfl (Nat.le_of_ble_eq_true rfl) dX9_rests_53 ⟨Nat.le_of_ble_eq_true rfl, Nat.le_of_ble_eq_true rfl⟩) ?_
      refine lv_icmp_lt (tgt := 63) hx hb dX9_rests_56 (by decide) (fun c51 => ?_) (fun c51 => ?_)
      · have h := ite_t c51 h
        exact hJ44 i6 ls h (lv_sub hl [1] rfl)
      · have h := ite_f c51 h
        refine lv_iconst (v := 2) hx hb dX9_rests_59 (by decide) ?_
        refine lv_goto (tgt := 64) hx hb dX9_rests_60 (by decide) ?_
        exact hJ11 2 i6 ls h (lv_sub hl [1] rfl)
  obtain ⟨J52, eJ52, h⟩ := jn_some h
  have hJ52 : ∀ (ls : Array Slot), J52 = some y → lv_has ls 2 [(0, .ref q_t)] → W p l e (rmM 1 0 0 21) s m #[.ref q_t] below meth c s.heap [] 0 0 (MQ below (vp_Si (fun r => r = y)) #[.ref q_t] s 0 0 (fun _ => False)) (F0 m 30 ls []) := by
    intro ls h hl
    rw [eJ52] at h
    refine lv_iconst (v := 0) hx hb dX9_rests_30 (by decide) ?_
    exact hJ5 0 ls h (lv_sub hl [0] rfl)
  refine lv_icmp_lt (tgt := 30) hx hb dX9_rests_10 (by decide) (fun c53 => ?_) (fun c53 => ?_)
  · have h := ite_t c53 h
    exact hJ52 ls h (lv_sub hl [0] rfl)
  · have h := ite_f c53 h
    refine lv_aload_n hx hb dX9_rests_13 rfl (lv_at hl 0 rfl) ?_
    refine lv_iconst (v := 4) hx hb dX9_rests_14 (by decide) ?_
    obtain ⟨r55, hc54, h⟩ := bd_some h
    refine cRi (runV (As := [.int 4]) (rest := []) C (mX9_gameOf l D a (q_t := q_t) (Q_t := Q_t) hc54) lk_V_9_401 okN_X9_gameOf ⟨Nat.le_of_ble_eq_true rfl, Nat.le_of_ble_eq_true rfl⟩ ⟨rfl, rfl⟩ (preV (preR hK hP) (recvOf hK hP 0 rfl (ci := 9) rfl)) hl.1 rfl (Nat.le_of_ble_eq_true rfl) dX9_rests_15 ⟨Nat.le_of_ble_eq_true rfl, Nat.le_of_ble_eq_true rfl⟩) ?_
    refine lv_aload_n hx hb dX9_rests_18 rfl (lv_at hl 0 rfl) ?_
    refine lv_iconst (v := 5) hx hb dX9_rests_19 (by decide) ?_
    obtain ⟨r57, hc56, h⟩ := bd_some h
    refine cRi (runV (As := [.int 5]) (rest := [.int r55]) C (mX9_gameOf l D a (q_t := q_t) (Q_t := Q_t) hc56) lk_V_9_401 okN_X9_gameOf ⟨Nat.le_of_ble_eq_true rfl, Nat.le_of_ble_eq_true rfl⟩ ⟨rfl, rfl⟩ (preV (preR hK hP) (recvOf hK hP 0 rfl (ci := 9) rfl)) hl.1 rfl (Nat.le_of_ble_eq_true rfl) dX9_rests_20 ⟨Nat.le_of_ble_eq_true rfl, Nat.le_of_ble_eq_true rfl⟩) ?_
    refine lv_icmp_lt (tgt := 30) hx hb dX9_rests_23 (by decide) (fun c58 => ?_) (fun c58 => ?_)
    · have h := ite_t c58 h
      exact hJ52 ls h (lv_sub hl [0] rfl)
    · have h := ite_f c58 h
      refine lv_iconst (v := 1) hx hb dX9_rests_26 (by decide) ?_
      refine lv_goto (tgt := 31) hx hb dX9_rests_27 (by decide) ?_
      exact hJ5 1 ls h (lv_sub hl [0] rfl)

set_option maxHeartbeats 4000000 in
set_option maxRecDepth 100000 in
theorem mX9_mixed (l : Launch) (D : va_G) (a : Nat → ClassId) {q_t : Nat} {Q_t : Nat → Nat} {z_t : Sx} {x1 : Int32} {x2 : Int32} {y : Int32} (h : fX9_mixed z_t x1 x2 = some y) : CRi l MX9_mixed 2 54 D a [.ref q_t, .int x1, .int x2] (rc9 a q_t Q_t z_t) (fun r => r = y) := by
  unfold fX9_mixed at h
  refine entR (by decide) (Nat.le_of_ble_eq_true rfl) ?_
  intro p e s m below meth c C hK hP ls hl
  obtain ⟨hx, hb, hml, hown, hts, hr, hlocks, hnm⟩ := id C
  have hb : c.code = cX9_mixed := hb
  have hown : s.vm.findClass RX9 = some m.cls := hown
  have hl : lv_has ls 6 [(0, .ref q_t), (1, .int x1), (2, .int x2)] := hl
  refine lv_iload_n hx hb dX9_mixed_0 rfl (lv_at hl 1 rfl) ?_
  refine lv_i2l (v := x1.toInt64) hx hb dX9_mixed_1 rfl ?_
  refine lv_lconst (v := 0) hx hb dX9_mixed_2 (by decide) ?_
  refine lv_lconst (v := 1) hx hb dX9_mixed_3 (by decide) ?_
  obtain ⟨r2, hc1, h⟩ := bd_some h
  refine cRi (runS (As := [.long x1.toInt64, .long 0, .long 1]) (rest := []) C (mX9_in l D a hc1) lk_S_9_118 okN_X9_in ⟨Nat.le_of_ble_eq_true rfl, Nat.le_of_ble_eq_true rfl⟩ ⟨rfl, rfl⟩ (preR hK (P_of_map (wc := []) hP [] rfl)) hl.1 rfl (Nat.le_of_ble_eq_true rfl) dX9_mixed_4 ⟨Nat.le_of_ble_eq_true rfl, Nat.le_of_ble_eq_true rfl⟩) ?_
  refine lv_if_eq (tgt := 20) hx hb dX9_mixed_7 (by decide) (fun c3 => ?_) (fun c3 => ?_)
  · have h := ite_t c3 h
    refine lv_iconst (v := (-1)) hx hb dX9_mixed_20 (by decide) ?_
    exact rRi C rfl (Option.some.inj h) dX9_mixed_21
  · have h := ite_f c3 h
    refine lv_iload_n hx hb dX9_mixed_10 rfl (lv_at hl 2 rfl) ?_
    refine lv_i2l (v := x2.toInt64) hx hb dX9_mixed_11 rfl ?_
    refine lv_lconst (v := 0) hx hb dX9_mixed_12 (by decide) ?_
    refine lv_lconst (v := 1) hx hb dX9_mixed_13 (by decide) ?_
    obtain ⟨r5, hc4, h⟩ := bd_some h
    refine cRi (runS (As := [.long x2.toInt64, .long 0, .long 1]) (rest := []) C (mX9_in l D a hc4) lk_S_9_118 okN_X9_in ⟨Nat.le_of_ble_eq_true rfl, Nat.le_of_ble_eq_true rfl⟩ ⟨rfl, rfl⟩ (preR hK (P_of_map (wc := []) hP [] rfl)) hl.1 rfl (Nat.le_of_ble_eq_true rfl) dX9_mixed_14 ⟨Nat.le_of_ble_eq_true rfl, Nat.le_of_ble_eq_true rfl⟩) ?_
    refine lv_if_ne (tgt := 22) hx hb dX9_mixed_17 (by decide) (fun c6 => ?_) (fun c6 => ?_)
    · have h := ite_f c6 h
      refine lv_aload_n hx hb dX9_mixed_22 rfl (lv_at hl 0 rfl) ?_
      obtain ⟨r8, hc7, h⟩ := bd_some h
      refine cRi (runV (As := []) (rest := []) C (mX9_rests l D a (q_t := q_t) (Q_t := Q_t) hc7) lk_V_9_404 okN_X9_rests ⟨Nat.le_of_ble_eq_true rfl, Nat.le_of_ble_eq_true rfl⟩ ⟨rfl, rfl⟩ (preV (preR hK hP) (recvOf hK hP 0 rfl (ci := 9) rfl)) hl.1 rfl (Nat.le_of_ble_eq_true rfl) dX9_mixed_23 ⟨Nat.le_of_ble_eq_true rfl, Nat.le_of_ble_eq_true rfl⟩) ?_
      refine lv_if_le (tgt := 32) hx hb dX9_mixed_26 (by decide) (fun c9 => ?_) (fun c9 => ?_)
      · have h := ite_t c9 h
        refine lv_iload_n hx hb dX9_mixed_32 rfl (lv_at hl 1 rfl) ?_
        obtain ⟨J10, eJ10, h⟩ := jn_some h
        have hJ10 : ∀ (i11 : Int32) (ls : Array Slot), J10 i11 = some y → lv_has ls 6 [(0, .ref q_t), (1, .int x1), (2, .int x2)] → W p l e (rmM 2 0 0 54) s m #[.ref q_t, .int x1, .int x2] below meth c s.heap [] 0 0 (MQ below (vp_Si (fun r => r = y)) #[.ref q_t, .int x1, .int x2] s 0 0 (fun _ => False)) (F0 m 63 ls [.int i11]) := by
          intro i11 ls h hl
          rw [eJ10] at h
          refine lv_istore_n (lv' := [(3, .int i11), (0, .ref q_t), (1, .int x1), (2, .int x2)]) hx hb dX9_mixed_63 rfl hl (by decide) rfl (fun ls hl => ?_)
          refine lv_iload_n hx hb dX9_mixed_64 rfl (lv_at hl 0 rfl) ?_
          refine lv_iload_n hx hb dX9_mixed_65 rfl (lv_at hl 2 rfl) ?_
          obtain ⟨J12, eJ12, h⟩ := jn_some h
          have hJ12 : ∀ (i13 : Int32) (i14 : Int32) (ls : Array Slot), J12 i13 i14 = some y → lv_has ls 6 [(0, .ref q_t), (2, .int x2), (3, .int i11)] → W p l e (rmM 2 0 0 54) s m #[.ref q_t, .int x1, .int x2] below meth c s.heap [] 0 0 (MQ below (vp_Si (fun r => r = y)) #[.ref q_t, .int x1, .int x2] s 0 0 (fun _ => False)) (F0 m 94 ls [.int i13, .int i14]) := by
            intro i13 i14 ls h hl
            rw [eJ12] at h
            refine lv_iadd hx hb dX9_mixed_94 ?_
            refine lv_istore (lv' := [(4, .int (i14 + i13)), (0, .ref q_t), (2, .int x2), (3, .int i11)]) hx hb dX9_mixed_95 hl (by decide) rfl (fun ls hl => ?_)
            refine lv_iload hx hb dX9_mixed_97 (lv_at hl 0 rfl) ?_
            obtain ⟨J15, eJ15, h⟩ := jn_some h
            have hJ15 : ∀ (i16 : Int32) (ls : Array Slot), J15 i16 = some y → lv_has ls 6 [(0, .ref q_t), (2, .int x2), (3, .int i11), (4, .int (i14 + i13))] → W p l e (rmM 2 0 0 54) s m #[.ref q_t, .int x1, .int x2] below meth c s.heap [] 0 0 (MQ below (vp_Si (fun r => r = y)) #[.ref q_t, .int x1, .int x2] s 0 0 (fun _ => False)) (F0 m 107 ls [.int i16]) := by
              intro i16 ls h hl
              rw [eJ15] at h
              refine lv_istore (lv' := [(5, .int i16), (0, .ref q_t), (2, .int x2), (3, .int i11), (4, .int (i14 + i13))]) hx hb dX9_mixed_107 hl (by decide) rfl (fun ls hl => ?_)
              refine lv_aload_n hx hb dX9_mixed_109 rfl (lv_at hl 1 rfl) ?_
              refine lv_iload hx hb dX9_mixed_110 (lv_at hl 0 rfl) ?_
              refine lv_iload_n hx hb dX9_mixed_112 rfl (lv_at hl 3 rfl) ?_
              refine lv_imul hx hb dX9_mixed_113 ?_
              refine lv_i2l (v := (i16 * i11).toInt64) hx hb dX9_mixed_114 rfl ?_
              refine lv_iload hx hb dX9_mixed_115 (lv_at hl 0 rfl) ?_
              refine lv_iload hx hb dX9_mixed_117 (lv_at hl 4 rfl) ?_
              refine lv_imul hx hb dX9_mixed_119 ?_
              refine lv_i2l (v := (i16 * (i14 + i13)).toInt64) hx hb dX9_mixed_120 rfl ?_
              refine lv_iload_n hx hb dX9_mixed_121 rfl (lv_at hl 2 rfl) ?_
              obtain ⟨r18, hc17, h⟩ := bd_some h
              refine cRl (runV (As := [.long ((i16 * i11).toInt64), .long ((i16 * (i14 + i13)).toInt64), .int x2]) (rest := []) C (mX9_partOf l D a (q_t := q_t) hc17) lk_V_9_370 okN_X9_partOf ⟨Nat.le_of_ble_eq_true rfl, Nat.le_of_ble_eq_true rfl⟩ ⟨rfl, rfl⟩ (preV (preR hK (P_of_map (wc := []) hP [] rfl)) (recvOf hK hP 0 rfl (ci := 9) rfl)) hl.1 rfl (Nat.le_of_ble_eq_true rfl) dX9_mixed_122 ⟨Nat.le_of_ble_eq_true rfl, Nat.le_of_ble_eq_true rfl⟩) ?_
              refine lv_l2i (v := r18.toInt32) hx hb dX9_mixed_125 rfl ?_
              exact rRi C rfl (Option.some.inj h) dX9_mixed_126
            refine lv_if_ge (tgt := 106) hx hb dX9_mixed_99 (by decide) (fun c19 => ?_) (fun c19 => ?_)
            · have h := ite_t c19 h
              refine lv_iconst (v := 1) hx hb dX9_mixed_106 (by decide) ?_
              exact hJ15 1 ls h (lv_sub hl [1, 2, 3, 0] rfl)
            · have h := ite_f c19 h
              refine lv_iconst (v := (-1)) hx hb dX9_mixed_102 (by decide) ?_
              refine lv_goto (tgt := 107) hx hb dX9_mixed_103 (by decide) ?_
              exact hJ15 (-1) ls h (lv_sub hl [1, 2, 3, 0] rfl)
          refine lv_if_ne (tgt := 83) hx hb dX9_mixed_66 (by decide) (fun c20 => ?_) (fun c20 => ?_)
          · have h := ite_f c20 h
            refine lv_aload_n hx hb dX9_mixed_83 rfl (lv_at hl 1 rfl) ?_
            refine lv_iconst (v := 0) hx hb dX9_mixed_84 (by decide) ?_
            obtain ⟨r22, hc21, h⟩ := bd_some h
            refine cRi (runV (As := [.int 0]) (rest := [.int i11]) C (mX9_gameOf l D a (q_t := q_t) (Q_t := Q_t) hc21) lk_V_9_401 okN_X9_gameOf ⟨Nat.le_of_ble_eq_true rfl, Nat.le_of_ble_eq_true rfl⟩ ⟨rfl, rfl⟩ (preV (preR hK hP) (recvOf hK hP 0 rfl (ci := 9) rfl)) hl.1 rfl (Nat.le_of_ble_eq_true rfl) dX9_mixed_85 ⟨Nat.le_of_ble_eq_true rfl, Nat.le_of_ble_eq_true rfl⟩) ?_
            refine lv_aload_n hx hb dX9_mixed_88 rfl (lv_at hl 1 rfl) ?_
            refine lv_iconst (v := 2) hx hb dX9_mixed_89 (by decide) ?_
            obtain ⟨r24, hc23, h⟩ := bd_some h
            refine cRi (runV (As := [.int 2]) (rest := [.int r22, .int i11]) C (mX9_gameOf l D a (q_t := q_t) (Q_t := Q_t) hc23) lk_V_9_401 okN_X9_gameOf ⟨Nat.le_of_ble_eq_true rfl, Nat.le_of_ble_eq_true rfl⟩ ⟨rfl, rfl⟩ (preV (preR hK hP) (recvOf hK hP 0 rfl (ci := 9) rfl)) hl.1 rfl (Nat.le_of_ble_eq_true rfl) dX9_mixed_90 ⟨Nat.le_of_ble_eq_true rfl, Nat.le_of_ble_eq_true rfl⟩) ?_
            refine lv_isub hx hb dX9_mixed_93 ?_
            exact hJ12 (r22 - r24) i11 ls h (lv_sub hl [1, 3, 0] rfl)
          · have h := ite_t c20 h
            refine lv_aload_n hx hb dX9_mixed_69 rfl (lv_at hl 1 rfl) ?_
            refine lv_iconst (v := 4) hx hb dX9_mixed_70 (by decide) ?_
            obtain ⟨r26, hc25, h⟩ := bd_some h
            refine cRi (runV (As := [.int 4]) (rest := [.int i11]) C (mX9_gameOf l D a (q_t := q_t) (Q_t := Q_t) hc25) lk_V_9_401 okN_X9_gameOf ⟨Nat.le_of_ble_eq_true rfl, Nat.le_of_ble_eq_true rfl⟩ ⟨rfl, rfl⟩ (preV (preR hK hP) (recvOf hK hP 0 rfl (ci := 9) rfl)) hl.1 rfl (Nat.le_of_ble_eq_true rfl) dX9_mixed_71 ⟨Nat.le_of_ble_eq_true rfl, Nat.le_of_ble_eq_true rfl⟩) ?_
            refine lv_aload_n hx hb dX9_mixed_74 rfl (lv_at hl 1 rfl) ?_
            refine lv_iconst (v := 5) hx hb dX9_mixed_75 (by decide) ?_
            obtain ⟨r28, hc27, h⟩ := bd_some h
            refine cRi (runV (As := [.int 5]) (rest := [.int r26, .int i11]) C (mX9_gameOf l D a (q_t := q_t) (Q_t := Q_t) hc27) lk_V_9_401 okN_X9_gameOf ⟨Nat.le_of_ble_eq_true rfl, Nat.le_of_ble_eq_true rfl⟩ ⟨rfl, rfl⟩ (preV (preR hK hP) (recvOf hK hP 0 rfl (ci := 9) rfl)) hl.1 rfl (Nat.le_of_ble_eq_true rfl) dX9_mixed_76 ⟨Nat.le_of_ble_eq_true rfl, Nat.le_of_ble_eq_true rfl⟩) ?_
            refine lv_isub hx hb dX9_mixed_79 ?_
            refine lv_goto (tgt := 94) hx hb dX9_mixed_80 (by decide) ?_
            exact hJ12 (r26 - r28) i11 ls h (lv_sub hl [1, 3, 0] rfl)
        refine lv_if_ne (tgt := 52) hx hb dX9_mixed_33 (by decide) (fun c29 => ?_) (fun c29 => ?_)
        · have h := ite_f c29 h
          refine lv_aload_n hx hb dX9_mixed_52 rfl (lv_at hl 0 rfl) ?_
          refine lv_iconst (v := 3) hx hb dX9_mixed_53 (by decide) ?_
          obtain ⟨r31, hc30, h⟩ := bd_some h
          refine cRi (runV (As := [.int 3]) (rest := []) C (mX9_gameOf l D a (q_t := q_t) (Q_t := Q_t) hc30) lk_V_9_401 okN_X9_gameOf ⟨Nat.le_of_ble_eq_true rfl, Nat.le_of_ble_eq_true rfl⟩ ⟨rfl, rfl⟩ (preV (preR hK hP) (recvOf hK hP 0 rfl (ci := 9) rfl)) hl.1 rfl (Nat.le_of_ble_eq_true rfl) dX9_mixed_54 ⟨Nat.le_of_ble_eq_true rfl, Nat.le_of_ble_eq_true rfl⟩) ?_
          refine lv_aload_n hx hb dX9_mixed_57 rfl (lv_at hl 0 rfl) ?_
          refine lv_iconst (v := 1) hx hb dX9_mixed_58 (by decide) ?_
          obtain ⟨r33, hc32, h⟩ := bd_some h
          refine cRi (runV (As := [.int 1]) (rest := [.int r31]) C (mX9_gameOf l D a (q_t := q_t) (Q_t := Q_t) hc32) lk_V_9_401 okN_X9_gameOf ⟨Nat.le_of_ble_eq_true rfl, Nat.le_of_ble_eq_true rfl⟩ ⟨rfl, rfl⟩ (preV (preR hK hP) (recvOf hK hP 0 rfl (ci := 9) rfl)) hl.1 rfl (Nat.le_of_ble_eq_true rfl) dX9_mixed_59 ⟨Nat.le_of_ble_eq_true rfl, Nat.le_of_ble_eq_true rfl⟩) ?_
          refine lv_isub hx hb dX9_mixed_62 ?_
          exact hJ10 (r31 - r33) ls h (lv_sub hl [0, 1, 2] rfl)
        · have h := ite_t c29 h
          refine lv_aload_n hx hb dX9_mixed_36 rfl (lv_at hl 0 rfl) ?_
          refine lv_bipush (v := 7) hx hb dX9_mixed_37 (by decide) ?_
          obtain ⟨r35, hc34, h⟩ := bd_some h
          refine cRi (runV (As := [.int 7]) (rest := []) C (mX9_gameOf l D a (q_t := q_t) (Q_t := Q_t) hc34) lk_V_9_401 okN_X9_gameOf ⟨Nat.le_of_ble_eq_true rfl, Nat.le_of_ble_eq_true rfl⟩ ⟨rfl, rfl⟩ (preV (preR hK hP) (recvOf hK hP 0 rfl (ci := 9) rfl)) hl.1 rfl (Nat.le_of_ble_eq_true rfl) dX9_mixed_39 ⟨Nat.le_of_ble_eq_true rfl, Nat.le_of_ble_eq_true rfl⟩) ?_
          refine lv_aload_n hx hb dX9_mixed_42 rfl (lv_at hl 0 rfl) ?_
          refine lv_bipush (v := 6) hx hb dX9_mixed_43 (by decide) ?_
          obtain ⟨r37, hc36, h⟩ := bd_some h
          refine cRi (runV (As := [.int 6]) (rest := [.int r35]) C (mX9_gameOf l D a (q_t := q_t) (Q_t := Q_t) hc36) lk_V_9_401 okN_X9_gameOf ⟨Nat.le_of_ble_eq_true rfl, Nat.le_of_ble_eq_true rfl⟩ ⟨rfl, rfl⟩ (preV (preR hK hP) (recvOf hK hP 0 rfl (ci := 9) rfl)) hl.1 rfl (Nat.le_of_ble_eq_true rfl) dX9_mixed_45 ⟨Nat.le_of_ble_eq_true rfl, Nat.le_of_ble_eq_true rfl⟩) ?_
          refine lv_isub hx hb dX9_mixed_48 ?_
          refine lv_goto (tgt := 63) hx hb dX9_mixed_49 (by decide) ?_
          exact hJ10 (r35 - r37) ls h (lv_sub hl [0, 1, 2] rfl)
      · have h := ite_f c9 h
        refine lv_bipush (v := (-2)) hx hb dX9_mixed_29 (by decide) ?_
        exact rRi C rfl (Option.some.inj h) dX9_mixed_31
    · have h := ite_t c6 h
      refine lv_iconst (v := (-1)) hx hb dX9_mixed_20 (by decide) ?_
      exact rRi C rfl (Option.some.inj h) dX9_mixed_21

set_option maxHeartbeats 4000000 in
set_option maxRecDepth 100000 in
theorem wX9_readsAll_35 {p : Program} {l : Launch} {e : Env} {s : State} {m : MethodId} {below : List Frame} {meth : Method} {c : Code} {D : va_G} {a : Nat → ClassId} {A : Nat → Prop} {q_t : Nat} {Q_t : Nat → Nat} (C : Cx p s m #[.ref q_t] meth c MX9_readsAll) (hK : KK D a s) (hA : ∀ q, s.heap.size ≤ q → A q) {y : Int32 × Sx} {k66 : Sx → Int32 → Option (Int32 × Sx)} (hk66 : ∀ (z_tk : Sx) (x1k : Int32) (H : Heap) (locs : List Loc) (ls : Array Slot), k66 z_tk x1k = some y → va_P D classes (rc9 a q_t Q_t z_tk) H → va_D A (rc9 a q_t Q_t z_tk) → va_S A s.heap H locs → lv_has ls 2 [(0, .ref q_t), (1, .int x1k)] → W p l e (rmM 11 0 0 243) s m #[.ref q_t] below meth c H locs 0 0 (MQ below (va_Qi (fun r (_ : Unit) => r = y.1) (Bw D A (fun _ => rc9 a q_t Q_t y.2)) A) #[.ref q_t] s 0 0 A) (F0 m 66 ls [])) : ∀ (n : Nat) (z_t : Sx) (x1 : Int32) (H : Heap) (locs : List Loc) (ls : Array Slot), lX9_readsAll_35 k66 n z_t x1 = some y → va_P D classes (rc9 a q_t Q_t z_t) H → va_D A (rc9 a q_t Q_t z_t) → va_S A s.heap H locs → lv_has ls 2 [(0, .ref q_t), (1, .int x1)] → W p l e (rmM 11 0 0 243) s m #[.ref q_t] below meth c H locs 0 0 (MQ below (va_Qi (fun r (_ : Unit) => r = y.1) (Bw D A (fun _ => rc9 a q_t Q_t y.2)) A) #[.ref q_t] s 0 0 A) (F0 m 35 ls []) := by
  obtain ⟨hx, hb, hml, hown, hts, hr, hlocks, hnm⟩ := id C
  have hb : c.code = cX9_readsAll := hb
  have hown : s.vm.findClass RX9 = some m.cls := hown
  intro n
  induction n with
  | zero => intro z_t x1 H locs ls h; rw [lX9_readsAll_35] at h; cases h
  | succ n ih =>
    intro z_t x1 H locs ls h hP hD hS hl
    rw [lX9_readsAll_35] at h
    refine lv_iload_n hx hb dX9_readsAll_35 rfl (lv_at hl 1 rfl) ?_
    refine lv_if_eq (tgt := 66) hx hb dX9_readsAll_36 (by decide) (fun c5 => ?_) (fun c5 => ?_)
    · have h := ite_t c5 h
      exact hk66 z_t x1 _ _ ls h hP hD hS (lv_sub hl [0, 1] rfl)
    · have h := ite_f c5 h
      refine lv_aload_n hx hb dX9_readsAll_39 rfl (lv_at hl 0 rfl) ?_
      obtain ⟨r7, z8, hc6, h⟩ := bd2_some h
      refine cWi (runV (As := []) (rest := []) C (mX9_see l D a (q_t := q_t) (Q_t := Q_t) hc6 H.size) lk_V_9_93 okN_X9_see ⟨Nat.le_of_ble_eq_true rfl, Nat.le_of_ble_eq_true rfl⟩ ⟨rfl, rfl⟩ (preV (preM hK hP hD) (recvOf hK hP 0 rfl (ci := 9) rfl)) hl.1 rfl (Nat.le_of_ble_eq_true rfl) dX9_readsAll_40 ⟨Nat.le_of_ble_eq_true rfl, Nat.le_of_ble_eq_true rfl⟩) hP hD hS hA (fun H locs hP hD hS => ?_)
      have hP : va_P D classes (rc9 a q_t Q_t z8) H := hP
      have hD : va_D A (rc9 a q_t Q_t z8) := hD
      refine lv_bipush (v := 59) hx hb dX9_readsAll_43 (by decide) ?_
      refine lv_icmp_ne (tgt := 66) hx hb dX9_readsAll_45 (by decide) (fun c9 => ?_) (fun c9 => ?_)
      · have h := ite_f c9 h
        exact hk66 z8 x1 _ _ ls h hP hD hS (lv_sub hl [0, 1] rfl)
      · have h := ite_t c9 h
        refine lv_aload_n hx hb dX9_readsAll_48 rfl (lv_at hl 0 rfl) ?_
        refine lv_dup hx hb dX9_readsAll_49 rfl ?_
        refine va_get (D := D) (v := .int (gI z8 12)) (C := RX9) (T := TX9) (N := 36) hx hb hts iX9 hown hK.1 hP 0 rfl rfl 12 (by decide) (hts _ t_894) (fun _ h9 => h9) rfl dX9_readsAll_50 ?_
        refine lv_iconst (v := 1) hx hb dX9_readsAll_53 (by decide) ?_
        refine lv_iadd hx hb dX9_readsAll_54 ?_
        refine va_put (D := D) (v := .int ((gI z8 12) + 1)) (C := RX9) (T := TX9) (N := 36) hx hb hts iX9 tyX9 tyX9_ok nmX9 hown hK.1 hP hD hS 0 rfl rfl 12 (by decide) (hts _ t_894) (fun _ h9 => h9) rfl (tyX9_ok 12 (by decide)) rfl rfl (Nat.le_of_ble_eq_true rfl) dX9_readsAll_55 (fun H locs hP hD hS => ?_)
        rw [u9_12] at hP hD
        refine lv_aload_n hx hb dX9_readsAll_58 rfl (lv_at hl 0 rfl) ?_
        obtain ⟨r11, z12, hc10, h⟩ := bd2_some h
        refine cWi (runV (As := []) (rest := []) C (mX9_clauseHere l D a (q_t := q_t) (Q_t := Q_t) hc10 H.size) lk_V_9_244 okN_X9_clauseHere ⟨Nat.le_of_ble_eq_true rfl, Nat.le_of_ble_eq_true rfl⟩ ⟨rfl, rfl⟩ (preV (preM hK hP hD) (recvOf hK hP 0 rfl (ci := 9) rfl)) hl.1 rfl (Nat.le_of_ble_eq_true rfl) dX9_readsAll_59 ⟨Nat.le_of_ble_eq_true rfl, Nat.le_of_ble_eq_true rfl⟩) hP hD hS hA (fun H locs hP hD hS => ?_)
        have hP : va_P D classes (rc9 a q_t Q_t z12) H := hP
        have hD : va_D A (rc9 a q_t Q_t z12) := hD
        refine lv_istore_n (lv' := [(1, .int r11), (0, .ref q_t)]) hx hb dX9_readsAll_62 rfl hl (by decide) rfl (fun ls hl => ?_)
        refine lv_goto (tgt := 35) hx hb dX9_readsAll_63 (by decide) ?_
        exact ih z12 r11 _ _ ls h hP hD hS (lv_sub hl [1, 0] rfl)

set_option maxHeartbeats 4000000 in
set_option maxRecDepth 100000 in
theorem mX9_readsAll (l : Launch) (D : va_G) (a : Nat → ClassId) {q_t : Nat} {Q_t : Nat → Nat} {z_t : Sx} {y : Int32 × Sx} (h : fX9_readsAll z_t = some y) (sz : Nat) : CMi (S := Unit) l MX9_readsAll 11 243 0 0 D a [.ref q_t] (rc9 a q_t Q_t z_t) sz (fun r _ => r = y.1) (fun _ => rc9 a q_t Q_t y.2) := by
  unfold fX9_readsAll at h
  refine entMi (by decide) (Nat.le_of_ble_eq_true rfl) ?_
  intro p e s m below meth c C hK A hA hP hD ls hl
  obtain ⟨hx, hb, hml, hown, hts, hr, hlocks, hnm⟩ := id C
  have hb : c.code = cX9_readsAll := hb
  have hown : s.vm.findClass RX9 = some m.cls := hown
  have hS : va_S A s.heap s.heap [] := va_S.rf
  have hl : lv_has ls 2 [(0, .ref q_t)] := hl
  refine lv_aload_n hx hb dX9_readsAll_0 rfl (lv_at hl 0 rfl) ?_
  refine va_get (D := D) (v := .ref (Q_t 4)) (C := RX9) (T := TX9) (N := 36) hx hb hts iX9 hown hK.1 hP 0 rfl rfl 4 (by decide) (hts _ t_886) (fun _ h9 => h9) rfl dX9_readsAll_1 ?_
  refine lv_aload_n hx hb dX9_readsAll_4 rfl (lv_at hl 0 rfl) ?_
  refine va_get (D := D) (v := .int (gI z_t 15)) (C := RX9) (T := TX9) (N := 36) hx hb hts iX9 hown hK.1 hP 0 rfl rfl 15 (by decide) (hts _ t_897) (fun _ h9 => h9) rfl dX9_readsAll_5 ?_
  refine lv_iconst (v := 0) hx hb dX9_readsAll_8 (by decide) ?_
  obtain ⟨g1, h⟩ := gd_some h
  refine ast_i hx hb hK.1 hP hD hS 3 0 rfl rfl ((gI z_t 15).toNatClampNeg) (ix_g g1) dX9_readsAll_9 (fun H locs hP hD hS => ?_)
  rw [u9_4] at hP hD
  refine lv_aload_n hx hb dX9_readsAll_10 rfl (lv_at hl 0 rfl) ?_
  refine lv_iconst (v := 0) hx hb dX9_readsAll_11 (by decide) ?_
  refine va_put (D := D) (v := .int 0) (C := RX9) (T := TX9) (N := 36) hx hb hts iX9 tyX9 tyX9_ok nmX9 hown hK.1 hP hD hS 0 rfl rfl 18 (by decide) (hts _ t_900) (fun _ h9 => h9) rfl (tyX9_ok 18 (by decide)) rfl rfl (Nat.le_of_ble_eq_true rfl) dX9_readsAll_12 (fun H locs hP hD hS => ?_)
  rw [u9_18] at hP hD
  refine lv_aload_n hx hb dX9_readsAll_15 rfl (lv_at hl 0 rfl) ?_
  refine lv_iconst (v := 0) hx hb dX9_readsAll_16 (by decide) ?_
  refine va_put (D := D) (v := .int 0) (C := RX9) (T := TX9) (N := 36) hx hb hts iX9 tyX9 tyX9_ok nmX9 hown hK.1 hP hD hS 0 rfl rfl 12 (by decide) (hts _ t_894) (fun _ h9 => h9) rfl (tyX9_ok 12 (by decide)) rfl rfl (Nat.le_of_ble_eq_true rfl) dX9_readsAll_17 (fun H locs hP hD hS => ?_)
  rw [u9_12] at hP hD
  refine lv_aload_n hx hb dX9_readsAll_20 rfl (lv_at hl 0 rfl) ?_
  refine lv_iconst (v := 0) hx hb dX9_readsAll_21 (by decide) ?_
  refine va_put (D := D) (v := .int 0) (C := RX9) (T := TX9) (N := 36) hx hb hts iX9 tyX9 tyX9_ok nmX9 hown hK.1 hP hD hS 0 rfl rfl 13 (by decide) (hts _ t_895) (fun _ h9 => h9) rfl (tyX9_ok 13 (by decide)) rfl rfl (Nat.le_of_ble_eq_true rfl) dX9_readsAll_22 (fun H locs hP hD hS => ?_)
  rw [u9_13] at hP hD
  refine lv_aload_n hx hb dX9_readsAll_25 rfl (lv_at hl 0 rfl) ?_
  refine lv_iconst (v := 0) hx hb dX9_readsAll_26 (by decide) ?_
  refine va_put (D := D) (v := .int 0) (C := RX9) (T := TX9) (N := 36) hx hb hts iX9 tyX9 tyX9_ok nmX9 hown hK.1 hP hD hS 0 rfl rfl 16 (by decide) (hts _ t_898) (fun _ h9 => h9) rfl (tyX9_ok 16 (by decide)) rfl rfl (Nat.le_of_ble_eq_true rfl) dX9_readsAll_27 (fun H locs hP hD hS => ?_)
  rw [u9_16] at hP hD
  refine lv_aload_n hx hb dX9_readsAll_30 rfl (lv_at hl 0 rfl) ?_
  obtain ⟨r3, z4, hc2, h⟩ := bd2_some h
  refine cWi (runV (As := []) (rest := []) C (mX9_clauseHere l D a (q_t := q_t) (Q_t := Q_t) hc2 H.size) lk_V_9_244 okN_X9_clauseHere ⟨Nat.le_of_ble_eq_true rfl, Nat.le_of_ble_eq_true rfl⟩ ⟨rfl, rfl⟩ (preV (preM hK hP hD) (recvOf hK hP 0 rfl (ci := 9) rfl)) hl.1 rfl (Nat.le_of_ble_eq_true rfl) dX9_readsAll_31 ⟨Nat.le_of_ble_eq_true rfl, Nat.le_of_ble_eq_true rfl⟩) hP hD hS hA (fun H locs hP hD hS => ?_)
  have hP : va_P D classes (rc9 a q_t Q_t z4) H := hP
  have hD : va_D A (rc9 a q_t Q_t z4) := hD
  refine lv_istore_n (lv' := [(1, .int r3), (0, .ref q_t)]) hx hb dX9_readsAll_34 rfl hl (by decide) rfl (fun ls hl => ?_)
  refine wX9_readsAll_35 C hK hA ?_ FU z4 r3 _ _ ls h hP hD hS (lv_sub hl [1, 0] rfl)
  · intro z13 i14 H locs ls h hP hD hS hl
    refine lv_iload_n hx hb dX9_readsAll_66 rfl (lv_at hl 1 rfl) ?_
    obtain ⟨J15, eJ15, h⟩ := jn_some h
    have hJ15 : ∀ (z16 : Sx) (i17 : Int32) (H : Heap) (locs : List Loc) (ls : Array Slot), J15 z16 i17 = some y → va_P D classes (rc9 a q_t Q_t z16) H → va_D A (rc9 a q_t Q_t z16) → va_S A s.heap H locs → lv_has ls 2 [(0, .ref q_t), (1, .int i17)] → W p l e (rmM 11 0 0 243) s m #[.ref q_t] below meth c H locs 0 0 (MQ below (va_Qi (fun r (_ : Unit) => r = y.1) (Bw D A (fun _ => rc9 a q_t Q_t y.2)) A) #[.ref q_t] s 0 0 A) (F0 m 88 ls []) := by
      intro z16 i17 H locs ls h hP hD hS hl
      rw [eJ15] at h
      refine lv_iload_n hx hb dX9_readsAll_88 rfl (lv_at hl 1 rfl) ?_
      obtain ⟨J18, eJ18, h⟩ := jn_some h
      have hJ18 : ∀ (z19 : Sx) (H : Heap) (locs : List Loc) (ls : Array Slot), J18 z19 = some y → va_P D classes (rc9 a q_t Q_t z19) H → va_D A (rc9 a q_t Q_t z19) → va_S A s.heap H locs → lv_has ls 2 [(0, .ref q_t)] → W p l e (rmM 11 0 0 243) s m #[.ref q_t] below meth c H locs 0 0 (MQ below (va_Qi (fun r (_ : Unit) => r = y.1) (Bw D A (fun _ => rc9 a q_t Q_t y.2)) A) #[.ref q_t] s 0 0 A) (F0 m 118 ls []) := by
        intro z19 H locs ls h hP hD hS hl
        rw [eJ18] at h
        refine lv_aload_n hx hb dX9_readsAll_118 rfl (lv_at hl 0 rfl) ?_
        refine lv_iconst (v := 0) hx hb dX9_readsAll_119 (by decide) ?_
        refine va_put (D := D) (v := .int 0) (C := RX9) (T := TX9) (N := 36) hx hb hts iX9 tyX9 tyX9_ok nmX9 hown hK.1 hP hD hS 0 rfl rfl 1 (by decide) (hts _ t_883) (fun _ h9 => h9) rfl (tyX9_ok 1 (by decide)) rfl rfl (Nat.le_of_ble_eq_true rfl) dX9_readsAll_120 (fun H locs hP hD hS => ?_)
        rw [u9_1] at hP hD
        refine lv_aload_n hx hb dX9_readsAll_123 rfl (lv_at hl 0 rfl) ?_
        refine va_get (D := D) (v := .int (gI z19 13)) (C := RX9) (T := TX9) (N := 36) hx hb hts iX9 hown hK.1 hP 0 rfl rfl 13 (by decide) (hts _ t_895) (fun _ h9 => h9) rfl dX9_readsAll_124 ?_
        refine lv_if_ne (tgt := 134) hx hb dX9_readsAll_127 (by decide) (fun c20 => ?_) (fun c20 => ?_)
        · have h := ite_f c20 h
          refine lv_iconst (v := 0) hx hb dX9_readsAll_134 (by decide) ?_
          exact rMz C rfl (Or.inl rfl) h (g := fun y => rc9 a q_t Q_t y.2) (pr := fun y => y.1) hP hD hS dX9_readsAll_135
        · have h := ite_t c20 h
          refine lv_iconst (v := 1) hx hb dX9_readsAll_130 (by decide) ?_
          refine lv_goto (tgt := 135) hx hb dX9_readsAll_131 (by decide) ?_
          exact rMz C rfl (Or.inr rfl) h (g := fun y => rc9 a q_t Q_t y.2) (pr := fun y => y.1) hP hD hS dX9_readsAll_135
      refine lv_if_eq (tgt := 118) hx hb dX9_readsAll_89 (by decide) (fun c21 => ?_) (fun c21 => ?_)
      · have h := ite_t c21 h
        exact hJ18 z16 _ _ ls h hP hD hS (lv_sub hl [0] rfl)
      · have h := ite_f c21 h
        refine lv_aload_n hx hb dX9_readsAll_92 rfl (lv_at hl 0 rfl) ?_
        refine va_get (D := D) (v := .int (gI z16 15)) (C := RX9) (T := TX9) (N := 36) hx hb hts iX9 hown hK.1 hP 0 rfl rfl 15 (by decide) (hts _ t_897) (fun _ h9 => h9) rfl dX9_readsAll_93 ?_
        refine lv_bipush (v := 6) hx hb dX9_readsAll_96 (by decide) ?_
        refine lv_icmp_ne (tgt := 118) hx hb dX9_readsAll_98 (by decide) (fun c22 => ?_) (fun c22 => ?_)
        · have h := ite_f c22 h
          exact hJ18 z16 _ _ ls h hP hD hS (lv_sub hl [0] rfl)
        · have h := ite_t c22 h
          refine lv_aload_n hx hb dX9_readsAll_101 rfl (lv_at hl 0 rfl) ?_
          refine va_get (D := D) (v := .int (gI z16 9)) (C := RX9) (T := TX9) (N := 36) hx hb hts iX9 hown hK.1 hP 0 rfl rfl 9 (by decide) (hts _ t_891) (fun _ h9 => h9) rfl dX9_readsAll_102 ?_
          refine lv_if_ne (tgt := 118) hx hb dX9_readsAll_105 (by decide) (fun c23 => ?_) (fun c23 => ?_)
          · have h := ite_f c23 h
            exact hJ18 z16 _ _ ls h hP hD hS (lv_sub hl [0] rfl)
          · have h := ite_t c23 h
            refine lv_aload_n hx hb dX9_readsAll_108 rfl (lv_at hl 0 rfl) ?_
            refine lv_iconst (v := 0) hx hb dX9_readsAll_109 (by decide) ?_
            refine lv_aload_n hx hb dX9_readsAll_110 rfl (lv_at hl 0 rfl) ?_
            refine va_get (D := D) (v := .int (gI z16 12)) (C := RX9) (T := TX9) (N := 36) hx hb hts iX9 hown hK.1 hP 0 rfl rfl 12 (by decide) (hts _ t_894) (fun _ h9 => h9) rfl dX9_readsAll_111 ?_
            obtain ⟨r25, z26, hc24, h⟩ := bd2_some h
            refine cWi (runV (As := [.int 0, .int (gI z16 12)]) (rest := []) C (mX9_fails l D a (q_t := q_t) (Q_t := Q_t) hc24 H.size) lk_V_9_111 okN_X9_fails ⟨Nat.le_of_ble_eq_true rfl, Nat.le_of_ble_eq_true rfl⟩ ⟨rfl, rfl⟩ (preV (preM hK hP hD) (recvOf hK hP 0 rfl (ci := 9) rfl)) hl.1 rfl (Nat.le_of_ble_eq_true rfl) dX9_readsAll_114 ⟨Nat.le_of_ble_eq_true rfl, Nat.le_of_ble_eq_true rfl⟩) hP hD hS hA (fun H locs hP hD hS => ?_)
            have hP : va_P D classes (rc9 a q_t Q_t z26) H := hP
            have hD : va_D A (rc9 a q_t Q_t z26) := hD
            refine lv_pop hx hb dX9_readsAll_117 rfl ?_
            exact hJ18 z26 _ _ ls h hP hD hS (lv_sub hl [0] rfl)
    refine lv_if_eq (tgt := 88) hx hb dX9_readsAll_67 (by decide) (fun c27 => ?_) (fun c27 => ?_)
    · have h := ite_t c27 h
      exact hJ15 z13 i14 _ _ ls h hP hD hS (lv_sub hl [0, 1] rfl)
    · have h := ite_f c27 h
      refine lv_aload_n hx hb dX9_readsAll_70 rfl (lv_at hl 0 rfl) ?_
      obtain ⟨r29, z30, hc28, h⟩ := bd2_some h
      refine cWi (runV (As := []) (rest := []) C (mX9_see l D a (q_t := q_t) (Q_t := Q_t) hc28 H.size) lk_V_9_93 okN_X9_see ⟨Nat.le_of_ble_eq_true rfl, Nat.le_of_ble_eq_true rfl⟩ ⟨rfl, rfl⟩ (preV (preM hK hP hD) (recvOf hK hP 0 rfl (ci := 9) rfl)) hl.1 rfl (Nat.le_of_ble_eq_true rfl) dX9_readsAll_71 ⟨Nat.le_of_ble_eq_true rfl, Nat.le_of_ble_eq_true rfl⟩) hP hD hS hA (fun H locs hP hD hS => ?_)
      have hP : va_P D classes (rc9 a q_t Q_t z30) H := hP
      have hD : va_D A (rc9 a q_t Q_t z30) := hD
      refine lv_iconst (v := (-1)) hx hb dX9_readsAll_74 (by decide) ?_
      refine lv_icmp_eq (tgt := 88) hx hb dX9_readsAll_75 (by decide) (fun c31 => ?_) (fun c31 => ?_)
      · have h := ite_t c31 h
        exact hJ15 z30 i14 _ _ ls h hP hD hS (lv_sub hl [0, 1] rfl)
      · have h := ite_f c31 h
        refine lv_aload_n hx hb dX9_readsAll_78 rfl (lv_at hl 0 rfl) ?_
        refine lv_iconst (v := 0) hx hb dX9_readsAll_79 (by decide) ?_
        refine lv_aload_n hx hb dX9_readsAll_80 rfl (lv_at hl 0 rfl) ?_
        refine va_get (D := D) (v := .int (gI z30 12)) (C := RX9) (T := TX9) (N := 36) hx hb hts iX9 hown hK.1 hP 0 rfl rfl 12 (by decide) (hts _ t_894) (fun _ h9 => h9) rfl dX9_readsAll_81 ?_
        obtain ⟨r33, z34, hc32, h⟩ := bd2_some h
        refine cWi (runV (As := [.int 0, .int (gI z30 12)]) (rest := []) C (mX9_fails l D a (q_t := q_t) (Q_t := Q_t) hc32 H.size) lk_V_9_111 okN_X9_fails ⟨Nat.le_of_ble_eq_true rfl, Nat.le_of_ble_eq_true rfl⟩ ⟨rfl, rfl⟩ (preV (preM hK hP hD) (recvOf hK hP 0 rfl (ci := 9) rfl)) hl.1 rfl (Nat.le_of_ble_eq_true rfl) dX9_readsAll_84 ⟨Nat.le_of_ble_eq_true rfl, Nat.le_of_ble_eq_true rfl⟩) hP hD hS hA (fun H locs hP hD hS => ?_)
        have hP : va_P D classes (rc9 a q_t Q_t z34) H := hP
        have hD : va_D A (rc9 a q_t Q_t z34) := hD
        refine lv_istore_n (lv' := [(1, .int r33), (0, .ref q_t)]) hx hb dX9_readsAll_87 rfl hl (by decide) rfl (fun ls hl => ?_)
        exact hJ15 z34 r33 _ _ ls h hP hD hS (lv_sub hl [1, 0] rfl)

set_option maxHeartbeats 4000000 in
set_option maxRecDepth 100000 in
theorem mX9_row (l : Launch) (D : va_G) (a : Nat → ClassId) {q_t : Nat} {Q_t : Nat → Nat} {z_t : Sx} {x1 : Int32} {y : Int32 × Sx} (h : fX9_row z_t x1 = some y) (sz : Nat) : CMi (S := Unit) l MX9_row 1 21 0 0 D a [.ref q_t, .int x1] (rc9 a q_t Q_t z_t) sz (fun r _ => r = y.1) (fun _ => rc9 a q_t Q_t y.2) := by
  unfold fX9_row at h
  refine entMi (by decide) (Nat.le_of_ble_eq_true rfl) ?_
  intro p e s m below meth c C hK A hA hP hD ls hl
  obtain ⟨hx, hb, hml, hown, hts, hr, hlocks, hnm⟩ := id C
  have hb : c.code = cX9_row := hb
  have hown : s.vm.findClass RX9 = some m.cls := hown
  have hS : va_S A s.heap s.heap [] := va_S.rf
  have hl : lv_has ls 2 [(0, .ref q_t), (1, .int x1)] := hl
  refine lv_iload_n hx hb dX9_row_0 rfl (lv_at hl 1 rfl) ?_
  refine lv_iconst (v := (-1)) hx hb dX9_row_1 (by decide) ?_
  refine lv_icmp_ne (tgt := 15) hx hb dX9_row_2 (by decide) (fun c1 => ?_) (fun c1 => ?_)
  · have h := ite_f c1 h
    refine lv_aload_n hx hb dX9_row_15 rfl (lv_at hl 0 rfl) ?_
    refine lv_iload_n hx hb dX9_row_16 rfl (lv_at hl 1 rfl) ?_
    obtain ⟨r3, hc2, h⟩ := bd_some h
    refine cRi (runV (As := [.int x1]) (rest := []) C (mX9_isFault l D a (q_t := q_t) (Q_t := Q_t) hc2) lk_V_9_280 okN_X9_isFault ⟨Nat.le_of_ble_eq_true rfl, Nat.le_of_ble_eq_true rfl⟩ ⟨rfl, rfl⟩ (preV (preR hK hP) (recvOf hK hP 0 rfl (ci := 9) rfl)) hl.1 rfl (Nat.le_of_ble_eq_true rfl) dX9_row_17 ⟨Nat.le_of_ble_eq_true rfl, Nat.le_of_ble_eq_true rfl⟩) ?_
    refine lv_if_eq (tgt := 35) hx hb dX9_row_20 (by decide) (fun c4 => ?_) (fun c4 => ?_)
    · have h := ite_t c4 h
      refine lv_bipush (v := (-2)) hx hb dX9_row_35 (by decide) ?_
      exact rMi C rfl h (g := fun y => rc9 a q_t Q_t y.2) (pr := fun y => y.1) hP hD hS dX9_row_37
    · have h := ite_f c4 h
      refine lv_aload_n hx hb dX9_row_23 rfl (lv_at hl 0 rfl) ?_
      refine va_get (D := D) (v := .ref (Q_t 24)) (C := RX9) (T := TX9) (N := 36) hx hb hts iX9 hown hK.1 hP 0 rfl rfl 24 (by decide) (hts _ t_906) (fun _ h9 => h9) rfl dX9_row_24 ?_
      refine lv_bipush (v := 8) hx hb dX9_row_27 (by decide) ?_
      refine ald_i hx hb hK.1 hP 11 0 rfl rfl 8 (ix_lit (by decide)) dX9_row_29 ?_
      refine lv_bipush (v := 8) hx hb dX9_row_30 (by decide) ?_
      refine lv_icmp_ne (tgt := 38) hx hb dX9_row_32 (by decide) (fun c5 => ?_) (fun c5 => ?_)
      · have h := ite_f c5 h
        refine lv_aload_n hx hb dX9_row_38 rfl (lv_at hl 0 rfl) ?_
        refine va_get (D := D) (v := .ref (Q_t 24)) (C := RX9) (T := TX9) (N := 36) hx hb hts iX9 hown hK.1 hP 0 rfl rfl 24 (by decide) (hts _ t_906) (fun _ h9 => h9) rfl dX9_row_39 ?_
        refine lv_bipush (v := 10) hx hb dX9_row_42 (by decide) ?_
        refine lv_aload_n hx hb dX9_row_44 rfl (lv_at hl 0 rfl) ?_
        refine va_get (D := D) (v := .ref (Q_t 24)) (C := RX9) (T := TX9) (N := 36) hx hb hts iX9 hown hK.1 hP 0 rfl rfl 24 (by decide) (hts _ t_906) (fun _ h9 => h9) rfl dX9_row_45 ?_
        refine lv_bipush (v := 8) hx hb dX9_row_48 (by decide) ?_
        refine ald_i hx hb hK.1 hP 11 0 rfl rfl 8 (ix_lit (by decide)) dX9_row_50 ?_
        refine lv_iadd hx hb dX9_row_51 ?_
        refine lv_iload_n hx hb dX9_row_52 rfl (lv_at hl 1 rfl) ?_
        obtain ⟨g6, h⟩ := gd_some h
        refine ast_i hx hb hK.1 hP hD hS 11 0 rfl rfl ((10 + (gT z_t 24 8)).toNatClampNeg) (ix_g g6) dX9_row_53 (fun H locs hP hD hS => ?_)
        rw [u9_24] at hP hD
        refine lv_aload_n hx hb dX9_row_54 rfl (lv_at hl 0 rfl) ?_
        refine va_get (D := D) (v := .ref (Q_t 24)) (C := RX9) (T := TX9) (N := 36) hx hb hts iX9 hown hK.1 hP 0 rfl rfl 24 (by decide) (hts _ t_906) (fun _ h9 => h9) rfl dX9_row_55 ?_
        refine lv_bipush (v := 8) hx hb dX9_row_58 (by decide) ?_
        refine lv_dup2_11 hx hb dX9_row_60 rfl rfl ?_
        refine ald_i hx hb hK.1 hP 11 0 rfl rfl 8 (ix_lit (by decide)) dX9_row_61 ?_
        refine lv_iconst (v := 1) hx hb dX9_row_62 (by decide) ?_
        refine lv_iadd hx hb dX9_row_63 ?_
        refine lv_topi (fun v7 ev7 => ?_)
        have h := nm_some h v7 ev7
        refine ast_i hx hb hK.1 hP hD hS 11 0 rfl rfl 8 (ix_lit (by decide)) dX9_row_64 (fun H locs hP hD hS => ?_)
        rw [u9_24] at hP hD
        refine lv_aload_n hx hb dX9_row_65 rfl (lv_at hl 0 rfl) ?_
        refine va_get (D := D) (v := .ref (Q_t 24)) (C := RX9) (T := TX9) (N := 36) hx hb hts iX9 hown hK.1 hP 0 rfl rfl 24 (by decide) (hts _ t_906) (fun _ h9 => h9) rfl dX9_row_66 ?_
        refine lv_bipush (v := 8) hx hb dX9_row_69 (by decide) ?_
        refine ald_i hx hb hK.1 hP 11 0 rfl rfl 8 (ix_lit (by decide)) dX9_row_71 ?_
        exact rMi C rfl h (g := fun y => rc9 a q_t Q_t y.2) (pr := fun y => y.1) hP hD hS dX9_row_72
      · have h := ite_t c5 h
        refine lv_bipush (v := (-2)) hx hb dX9_row_35 (by decide) ?_
        exact rMi C rfl h (g := fun y => rc9 a q_t Q_t y.2) (pr := fun y => y.1) hP hD hS dX9_row_37
  · have h := ite_t c1 h
    refine lv_aload_n hx hb dX9_row_5 rfl (lv_at hl 0 rfl) ?_
    refine va_get (D := D) (v := .ref (Q_t 24)) (C := RX9) (T := TX9) (N := 36) hx hb hts iX9 hown hK.1 hP 0 rfl rfl 24 (by decide) (hts _ t_906) (fun _ h9 => h9) rfl dX9_row_6 ?_
    refine lv_bipush (v := 8) hx hb dX9_row_9 (by decide) ?_
    refine lv_iconst (v := 0) hx hb dX9_row_11 (by decide) ?_
    refine ast_i hx hb hK.1 hP hD hS 11 0 rfl rfl 8 (ix_lit (by decide)) dX9_row_12 (fun H locs hP hD hS => ?_)
    rw [u9_24] at hP hD
    refine lv_iconst (v := 0) hx hb dX9_row_13 (by decide) ?_
    exact rMi C rfl h (g := fun y => rc9 a q_t Q_t y.2) (pr := fun y => y.1) hP hD hS dX9_row_14

set_option maxHeartbeats 4000000 in
set_option maxRecDepth 100000 in
theorem mX9_rule (l : Launch) (D : va_G) (a : Nat → ClassId) {q_t : Nat} {Q_t : Nat → Nat} {z_t : Sx} {y : Int32 × Sx} (h : fX9_rule z_t = some y) (sz : Nat) : CMi (S := Unit) l MX9_rule 12 264 0 0 D a [.ref q_t] (rc9 a q_t Q_t z_t) sz (fun r _ => r = y.1) (fun _ => rc9 a q_t Q_t y.2) := by
  unfold fX9_rule at h
  refine entMi (by decide) (Nat.le_of_ble_eq_true rfl) ?_
  intro p e s m below meth c C hK A hA hP hD ls hl
  obtain ⟨hx, hb, hml, hown, hts, hr, hlocks, hnm⟩ := id C
  have hb : c.code = cX9_rule := hb
  have hown : s.vm.findClass RX9 = some m.cls := hown
  have hS : va_S A s.heap s.heap [] := va_S.rf
  have hl : lv_has ls 1 [(0, .ref q_t)] := hl
  refine lv_aload_n hx hb dX9_rule_0 rfl (lv_at hl 0 rfl) ?_
  refine va_get (D := D) (v := .int (gI z_t 2)) (C := RX9) (T := TX9) (N := 36) hx hb hts iX9 hown hK.1 hP 0 rfl rfl 2 (by decide) (hts _ t_884) (fun _ h9 => h9) rfl dX9_rule_1 ?_
  refine lv_bipush (v := 6) hx hb dX9_rule_4 (by decide) ?_
  refine lv_icmp_ne (tgt := 11) hx hb dX9_rule_6 (by decide) (fun c1 => ?_) (fun c1 => ?_)
  · have h := ite_f c1 h
    refine lv_aload_n hx hb dX9_rule_11 rfl (lv_at hl 0 rfl) ?_
    refine lv_aload_n hx hb dX9_rule_12 rfl (lv_at hl 0 rfl) ?_
    refine va_get (D := D) (v := .int (gI z_t 2)) (C := RX9) (T := TX9) (N := 36) hx hb hts iX9 hown hK.1 hP 0 rfl rfl 2 (by decide) (hts _ t_884) (fun _ h9 => h9) rfl dX9_rule_13 ?_
    refine va_put (D := D) (v := .int (gI z_t 2)) (C := RX9) (T := TX9) (N := 36) hx hb hts iX9 tyX9 tyX9_ok nmX9 hown hK.1 hP hD hS 0 rfl rfl 15 (by decide) (hts _ t_897) (fun _ h9 => h9) rfl (tyX9_ok 15 (by decide)) rfl rfl (Nat.le_of_ble_eq_true rfl) dX9_rule_16 (fun H locs hP hD hS => ?_)
    rw [u9_15] at hP hD
    refine lv_aload_n hx hb dX9_rule_19 rfl (lv_at hl 0 rfl) ?_
    refine va_get (D := D) (v := .ref (Q_t 6)) (C := RX9) (T := TX9) (N := 36) hx hb hts iX9 hown hK.1 hP 0 rfl rfl 6 (by decide) (hts _ t_888) (fun _ h9 => h9) rfl dX9_rule_20 ?_
    refine lv_aload_n hx hb dX9_rule_23 rfl (lv_at hl 0 rfl) ?_
    refine va_get (D := D) (v := .int (gI z_t 2)) (C := RX9) (T := TX9) (N := 36) hx hb hts iX9 hown hK.1 hP 0 rfl rfl 15 (by decide) (hts _ t_897) (fun _ h9 => h9) rfl dX9_rule_24 ?_
    refine lv_iconst (v := 0) hx hb dX9_rule_27 (by decide) ?_
    obtain ⟨g2, h⟩ := gd_some h
    refine ast_i hx hb hK.1 hP hD hS 5 0 rfl rfl ((gI z_t 2).toNatClampNeg) (ix_g g2) dX9_rule_28 (fun H locs hP hD hS => ?_)
    rw [u9_6] at hP hD
    refine lv_aload_n hx hb dX9_rule_29 rfl (lv_at hl 0 rfl) ?_
    obtain ⟨r4, z5, hc3, h⟩ := bd2_some h
    refine cWi (runV (As := []) (rest := []) C (mX9_readsAll l D a (q_t := q_t) (Q_t := Q_t) hc3 H.size) lk_V_9_250 okN_X9_readsAll ⟨Nat.le_of_ble_eq_true rfl, Nat.le_of_ble_eq_true rfl⟩ ⟨rfl, rfl⟩ (preV (preM hK hP hD) (recvOf hK hP 0 rfl (ci := 9) rfl)) hl.1 rfl (Nat.le_of_ble_eq_true rfl) dX9_rule_30 ⟨Nat.le_of_ble_eq_true rfl, Nat.le_of_ble_eq_true rfl⟩) hP hD hS hA (fun H locs hP hD hS => ?_)
    have hP : va_P D classes (rc9 a q_t Q_t z5) H := hP
    have hD : va_D A (rc9 a q_t Q_t z5) := hD
    refine lv_if_ne (tgt := 44) hx hb dX9_rule_33 (by decide) (fun c6 => ?_) (fun c6 => ?_)
    · have h := ite_f c6 h
      refine lv_aload_n hx hb dX9_rule_44 rfl (lv_at hl 0 rfl) ?_
      refine lv_dup hx hb dX9_rule_45 rfl ?_
      refine va_get (D := D) (v := .int (gI z5 2)) (C := RX9) (T := TX9) (N := 36) hx hb hts iX9 hown hK.1 hP 0 rfl rfl 2 (by decide) (hts _ t_884) (fun _ h9 => h9) rfl dX9_rule_46 ?_
      refine lv_iconst (v := 1) hx hb dX9_rule_49 (by decide) ?_
      refine lv_iadd hx hb dX9_rule_50 ?_
      refine va_put (D := D) (v := .int ((gI z5 2) + 1)) (C := RX9) (T := TX9) (N := 36) hx hb hts iX9 tyX9 tyX9_ok nmX9 hown hK.1 hP hD hS 0 rfl rfl 2 (by decide) (hts _ t_884) (fun _ h9 => h9) rfl (tyX9_ok 2 (by decide)) rfl rfl (Nat.le_of_ble_eq_true rfl) dX9_rule_51 (fun H locs hP hD hS => ?_)
      rw [u9_2] at hP hD
      refine lv_aload_n hx hb dX9_rule_54 rfl (lv_at hl 0 rfl) ?_
      refine va_get (D := D) (v := .int ((gI z5 2) + 1)) (C := RX9) (T := TX9) (N := 36) hx hb hts iX9 hown hK.1 hP 0 rfl rfl 2 (by decide) (hts _ t_884) (fun _ h9 => h9) rfl dX9_rule_55 ?_
      refine lv_iconst (v := 1) hx hb dX9_rule_58 (by decide) ?_
      refine lv_isub hx hb dX9_rule_59 ?_
      exact rMi C rfl h (g := fun y => rc9 a q_t Q_t y.2) (pr := fun y => y.1) hP hD hS dX9_rule_60
    · have h := ite_t c6 h
      refine lv_bipush (v := (-2)) hx hb dX9_rule_36 (by decide) ?_
      refine lv_aload_n hx hb dX9_rule_38 rfl (lv_at hl 0 rfl) ?_
      refine va_get (D := D) (v := .int (gI z5 13)) (C := RX9) (T := TX9) (N := 36) hx hb hts iX9 hown hK.1 hP 0 rfl rfl 13 (by decide) (hts _ t_895) (fun _ h9 => h9) rfl dX9_rule_39 ?_
      refine lv_isub hx hb dX9_rule_42 ?_
      exact rMi C rfl h (g := fun y => rc9 a q_t Q_t y.2) (pr := fun y => y.1) hP hD hS dX9_rule_43
  · have h := ite_t c1 h
    refine lv_iconst (v := (-1)) hx hb dX9_rule_9 (by decide) ?_
    exact rMi C rfl h (g := fun y => rc9 a q_t Q_t y.2) (pr := fun y => y.1) hP hD hS dX9_rule_10

set_option maxHeartbeats 4000000 in
set_option maxRecDepth 100000 in
theorem mX9_seed (l : Launch) (D : va_G) (a : Nat → ClassId) {q_t : Nat} {Q_t : Nat → Nat} {z_t : Sx} {x1 : Int32} {y : Int32 × Sx} (h : fX9_seed z_t x1 = some y) (sz : Nat) : CMi (S := Unit) l MX9_seed 0 0 0 0 D a [.ref q_t, .int x1] (rc9 a q_t Q_t z_t) sz (fun r _ => r = y.1) (fun _ => rc9 a q_t Q_t y.2) := by
  unfold fX9_seed at h
  refine entMi (by decide) (Nat.le_of_ble_eq_true rfl) ?_
  intro p e s m below meth c C hK A hA hP hD ls hl
  obtain ⟨hx, hb, hml, hown, hts, hr, hlocks, hnm⟩ := id C
  have hb : c.code = cX9_seed := hb
  have hown : s.vm.findClass RX9 = some m.cls := hown
  have hS : va_S A s.heap s.heap [] := va_S.rf
  have hl : lv_has ls 3 [(0, .ref q_t), (1, .int x1)] := hl
  refine lv_iload_n hx hb dX9_seed_0 rfl (lv_at hl 1 rfl) ?_
  refine lv_if_ge (tgt := 6) hx hb dX9_seed_1 (by decide) (fun c1 => ?_) (fun c1 => ?_)
  · have h := ite_t c1 h
    refine lv_aload_n hx hb dX9_seed_6 rfl (lv_at hl 0 rfl) ?_
    refine va_get (D := D) (v := .ref (Q_t 24)) (C := RX9) (T := TX9) (N := 36) hx hb hts iX9 hown hK.1 hP 0 rfl rfl 24 (by decide) (hts _ t_906) (fun _ h9 => h9) rfl dX9_seed_7 ?_
    refine lv_bipush (v := 9) hx hb dX9_seed_10 (by decide) ?_
    refine ald_i hx hb hK.1 hP 11 0 rfl rfl 9 (ix_lit (by decide)) dX9_seed_12 ?_
    refine lv_istore_n (lv' := [(2, .int (gT z_t 24 9)), (0, .ref q_t), (1, .int x1)]) hx hb dX9_seed_13 rfl hl (by decide) rfl (fun ls hl => ?_)
    refine lv_aload_n hx hb dX9_seed_14 rfl (lv_at hl 1 rfl) ?_
    refine va_get (D := D) (v := .ref (Q_t 24)) (C := RX9) (T := TX9) (N := 36) hx hb hts iX9 hown hK.1 hP 0 rfl rfl 24 (by decide) (hts _ t_906) (fun _ h9 => h9) rfl dX9_seed_15 ?_
    refine lv_bipush (v := 9) hx hb dX9_seed_18 (by decide) ?_
    refine lv_iload_n hx hb dX9_seed_20 rfl (lv_at hl 2 rfl) ?_
    refine ast_i hx hb hK.1 hP hD hS 11 0 rfl rfl 9 (ix_lit (by decide)) dX9_seed_21 (fun H locs hP hD hS => ?_)
    rw [u9_24] at hP hD
    refine lv_iload_n hx hb dX9_seed_22 rfl (lv_at hl 0 rfl) ?_
    exact rMi C rfl h (g := fun y => rc9 a q_t Q_t y.2) (pr := fun y => y.1) hP hD hS dX9_seed_23
  · have h := ite_f c1 h
    refine lv_iconst (v := (-1)) hx hb dX9_seed_4 (by decide) ?_
    exact rMi C rfl h (g := fun y => rc9 a q_t Q_t y.2) (pr := fun y => y.1) hP hD hS dX9_seed_5

set_option maxHeartbeats 4000000 in
set_option maxRecDepth 100000 in
theorem mX9_seen (l : Launch) (D : va_G) (a : Nat → ClassId) {q_t : Nat} {Q_t : Nat → Nat} {z_t : Sx} {x1 : Int32} {x2 : Int32} {y : Int64 × Sx} (h : fX9_seen z_t x1 x2 = some y) (sz : Nat) : CMl (S := Unit) l MX9_seen 5 117 0 0 D a [.ref q_t, .int x1, .int x2] (rc9 a q_t Q_t z_t) sz (fun r _ => r = y.1) (fun _ => rc9 a q_t Q_t y.2) := by
  unfold fX9_seen at h
  refine entMl (by decide) (Nat.le_of_ble_eq_true rfl) ?_
  intro p e s m below meth c C hK A hA hP hD ls hl
  obtain ⟨hx, hb, hml, hown, hts, hr, hlocks, hnm⟩ := id C
  have hb : c.code = cX9_seen := hb
  have hown : s.vm.findClass RX9 = some m.cls := hown
  have hS : va_S A s.heap s.heap [] := va_S.rf
  have hl : lv_has ls 3 [(0, .ref q_t), (1, .int x1), (2, .int x2)] := hl
  refine lv_aload_n hx hb dX9_seen_0 rfl (lv_at hl 0 rfl) ?_
  refine lv_iload_n hx hb dX9_seen_1 rfl (lv_at hl 1 rfl) ?_
  obtain ⟨r2, hc1, h⟩ := bd_some h
  refine cRi (runV (As := [.int x1]) (rest := []) C (mX9_isFault l D a (q_t := q_t) (Q_t := Q_t) hc1) lk_V_9_280 okN_X9_isFault ⟨Nat.le_of_ble_eq_true rfl, Nat.le_of_ble_eq_true rfl⟩ ⟨rfl, rfl⟩ (preV (preR hK hP) (recvOf hK hP 0 rfl (ci := 9) rfl)) hl.1 rfl (Nat.le_of_ble_eq_true rfl) dX9_seen_2 ⟨Nat.le_of_ble_eq_true rfl, Nat.le_of_ble_eq_true rfl⟩) ?_
  refine lv_if_eq (tgt := 18) hx hb dX9_seen_5 (by decide) (fun c3 => ?_) (fun c3 => ?_)
  · have h := ite_t c3 h
    refine lv_ldc2 hx hb hown (hts _ t_1287) dX9_seen_18 ?_
    exact rMl C rfl h (g := fun y => rc9 a q_t Q_t y.2) (pr := fun y => y.1) hP hD hS dX9_seen_21
  · have h := ite_f c3 h
    refine lv_iload_n hx hb dX9_seen_8 rfl (lv_at hl 2 rfl) ?_
    refine lv_i2l (v := x2.toInt64) hx hb dX9_seen_9 rfl ?_
    refine lv_lconst (v := 0) hx hb dX9_seen_10 (by decide) ?_
    refine lv_lconst (v := 1) hx hb dX9_seen_11 (by decide) ?_
    obtain ⟨r5, hc4, h⟩ := bd_some h
    refine cRi (runS (As := [.long x2.toInt64, .long 0, .long 1]) (rest := []) C (mX9_in l D a hc4) lk_S_9_118 okN_X9_in ⟨Nat.le_of_ble_eq_true rfl, Nat.le_of_ble_eq_true rfl⟩ ⟨rfl, rfl⟩ (preR hK (P_of_map (wc := []) hP [] rfl)) hl.1 rfl (Nat.le_of_ble_eq_true rfl) dX9_seen_12 ⟨Nat.le_of_ble_eq_true rfl, Nat.le_of_ble_eq_true rfl⟩) ?_
    refine lv_if_ne (tgt := 22) hx hb dX9_seen_15 (by decide) (fun c6 => ?_) (fun c6 => ?_)
    · have h := ite_f c6 h
      refine lv_aload_n hx hb dX9_seen_22 rfl (lv_at hl 0 rfl) ?_
      refine lv_aload_n hx hb dX9_seen_23 rfl (lv_at hl 0 rfl) ?_
      refine lv_iload_n hx hb dX9_seen_24 rfl (lv_at hl 1 rfl) ?_
      obtain ⟨r8, z9, hc7, h⟩ := bd2_some h
      refine cWl (runV (As := [.int x1]) (rest := [.ref q_t]) C (mX9_meanOf l D a (q_t := q_t) (Q_t := Q_t) hc7 s.heap.size) lk_V_9_364 okN_X9_meanOf ⟨Nat.le_of_ble_eq_true rfl, Nat.le_of_ble_eq_true rfl⟩ ⟨rfl, rfl⟩ (preV (preM hK hP hD) (recvOf hK hP 0 rfl (ci := 9) rfl)) hl.1 rfl (Nat.le_of_ble_eq_true rfl) dX9_seen_25 ⟨Nat.le_of_ble_eq_true rfl, Nat.le_of_ble_eq_true rfl⟩) hP hD hS hA (fun H locs hP hD hS => ?_)
      have hP : va_P D classes (rc9 a q_t Q_t z9) H := hP
      have hD : va_D A (rc9 a q_t Q_t z9) := hD
      refine lv_aload_n hx hb dX9_seen_28 rfl (lv_at hl 0 rfl) ?_
      refine lv_aload_n hx hb dX9_seen_29 rfl (lv_at hl 0 rfl) ?_
      refine va_get (D := D) (v := .ref (Q_t 24)) (C := RX9) (T := TX9) (N := 36) hx hb hts iX9 hown hK.1 hP 0 rfl rfl 24 (by decide) (hts _ t_906) (fun _ h9 => h9) rfl dX9_seen_30 ?_
      refine lv_bipush (v := 8) hx hb dX9_seen_33 (by decide) ?_
      refine ald_i hx hb hK.1 hP 11 0 rfl rfl 8 (ix_lit (by decide)) dX9_seen_35 ?_
      obtain ⟨r11, hc10, h⟩ := bd_some h
      refine cRl (runV (As := [.int (gT z9 24 8)]) (rest := [.long r8, .ref q_t]) C (mX9_hundreds l D a (q_t := q_t) hc10) lk_V_9_367 okN_X9_hundreds ⟨Nat.le_of_ble_eq_true rfl, Nat.le_of_ble_eq_true rfl⟩ ⟨rfl, rfl⟩ (preV (preR hK (P_of_map (wc := []) hP [] rfl)) (recvOf hK hP 0 rfl (ci := 9) rfl)) hl.1 rfl (Nat.le_of_ble_eq_true rfl) dX9_seen_36 ⟨Nat.le_of_ble_eq_true rfl, Nat.le_of_ble_eq_true rfl⟩) ?_
      refine lv_iload_n hx hb dX9_seen_39 rfl (lv_at hl 2 rfl) ?_
      obtain ⟨r13, hc12, h⟩ := bd_some h
      refine cRl (runV (As := [.long r8, .long r11, .int x2]) (rest := []) C (mX9_partOf l D a (q_t := q_t) hc12) lk_V_9_370 okN_X9_partOf ⟨Nat.le_of_ble_eq_true rfl, Nat.le_of_ble_eq_true rfl⟩ ⟨rfl, rfl⟩ (preV (preR hK (P_of_map (wc := []) hP [] rfl)) (recvOf hK hP 0 rfl (ci := 9) rfl)) hl.1 rfl (Nat.le_of_ble_eq_true rfl) dX9_seen_40 ⟨Nat.le_of_ble_eq_true rfl, Nat.le_of_ble_eq_true rfl⟩) ?_
      exact rMl C rfl h (g := fun y => rc9 a q_t Q_t y.2) (pr := fun y => y.1) hP hD hS dX9_seen_43
    · have h := ite_t c6 h
      refine lv_ldc2 hx hb hown (hts _ t_1287) dX9_seen_18 ?_
      exact rMl C rfl h (g := fun y => rc9 a q_t Q_t y.2) (pr := fun y => y.1) hP hD hS dX9_seen_21

set_option maxHeartbeats 4000000 in
set_option maxRecDepth 100000 in
theorem wX9_weeks_51 {p : Program} {l : Launch} {e : Env} {s : State} {m : MethodId} {below : List Frame} {meth : Method} {c : Code} {D : va_G} {a : Nat → ClassId} {A : Nat → Prop} {q_t : Nat} {Q_t : Nat → Nat} {x10 : Int32} {x20 : Int32} {x30 : Int32} {x1 : Int32} {x2 : Int32} {x3 : Int32} (C : Cx p s m #[.ref q_t, .int x10, .int x20, .int x30] meth c MX9_weeks) (hK : KK D a s) (hA : ∀ q, s.heap.size ≤ q → A q) {y : Int32 × Sx} {k114 : Sx → Int32 → Option (Int32 × Sx)} (hk114 : ∀ (z_tk : Sx) (x4k : Int32) (H : Heap) (locs : List Loc) (ls : Array Slot), k114 z_tk x4k = some y → va_P D classes (rc9 a q_t Q_t z_tk) H → va_D A (rc9 a q_t Q_t z_tk) → va_S A s.heap H locs → lv_has ls 6 [(0, .ref q_t), (4, .int x4k)] → W p l e (rmM 6 0 0 141) s m #[.ref q_t, .int x10, .int x20, .int x30] below meth c H locs 0 0 (MQ below (va_Qi (fun r (_ : Unit) => r = y.1) (Bw D A (fun _ => rc9 a q_t Q_t y.2)) A) #[.ref q_t, .int x10, .int x20, .int x30] s 0 0 A) (F0 m 114 ls [])) : ∀ (n : Nat) (z_t : Sx) (x4 : Int32) (x5 : Int32) (H : Heap) (locs : List Loc) (ls : Array Slot), lX9_weeks_51 k114 x1 x2 x3 n z_t x4 x5 = some y → va_P D classes (rc9 a q_t Q_t z_t) H → va_D A (rc9 a q_t Q_t z_t) → va_S A s.heap H locs → lv_has ls 6 [(0, .ref q_t), (1, .int x1), (2, .int x2), (3, .int x3), (4, .int x4), (5, .int x5)] → W p l e (rmM 6 0 0 141) s m #[.ref q_t, .int x10, .int x20, .int x30] below meth c H locs 0 0 (MQ below (va_Qi (fun r (_ : Unit) => r = y.1) (Bw D A (fun _ => rc9 a q_t Q_t y.2)) A) #[.ref q_t, .int x10, .int x20, .int x30] s 0 0 A) (F0 m 51 ls []) := by
  obtain ⟨hx, hb, hml, hown, hts, hr, hlocks, hnm⟩ := id C
  have hb : c.code = cX9_weeks := hb
  have hown : s.vm.findClass RX9 = some m.cls := hown
  intro n
  induction n with
  | zero => intro z_t x4 x5 H locs ls h; rw [lX9_weeks_51] at h; cases h
  | succ n ih =>
    intro z_t x4 x5 H locs ls h hP hD hS hl
    rw [lX9_weeks_51] at h
    refine lv_iload hx hb dX9_weeks_51 (lv_at hl 5 rfl) ?_
    refine lv_bipush (v := 6) hx hb dX9_weeks_53 (by decide) ?_
    refine lv_iload_n hx hb dX9_weeks_55 rfl (lv_at hl 2 rfl) ?_
    refine lv_imul hx hb dX9_weeks_56 ?_
    refine lv_icmp_ge (tgt := 114) hx hb dX9_weeks_57 (by decide) (fun c15 => ?_) (fun c15 => ?_)
    · have h := ite_t c15 h
      exact hk114 z_t x4 _ _ ls h hP hD hS (lv_sub hl [0, 4] rfl)
    · have h := ite_f c15 h
      refine lv_aload_n hx hb dX9_weeks_60 rfl (lv_at hl 0 rfl) ?_
      obtain ⟨z17, hc16, h⟩ := bd_some h
      refine cWv (runV (As := []) (rest := []) C (mX9_begins l D a (q_t := q_t) (Q_t := Q_t) hc16 H.size) lk_V_9_310 okN_X9_begins ⟨Nat.le_of_ble_eq_true rfl, Nat.le_of_ble_eq_true rfl⟩ ⟨rfl, rfl⟩ (preV (preM hK hP hD) (recvOf hK hP 0 rfl (ci := 9) rfl)) hl.1 rfl (Nat.le_of_ble_eq_true rfl) dX9_weeks_61 ⟨Nat.le_of_ble_eq_true rfl, Nat.le_of_ble_eq_true rfl⟩) hP hD hS hA (fun H locs hP hD hS => ?_)
      have hP : va_P D classes (rc9 a q_t Q_t z17) H := hP
      have hD : va_D A (rc9 a q_t Q_t z17) := hD
      refine lv_aload_n hx hb dX9_weeks_64 rfl (lv_at hl 0 rfl) ?_
      refine lv_iload_n hx hb dX9_weeks_65 rfl (lv_at hl 1 rfl) ?_
      obtain ⟨r19, z20, hc18, h⟩ := bd2_some h
      refine cWi (runV (As := [.int x1]) (rest := []) C (mX9_passes l D a (q_t := q_t) (Q_t := Q_t) hc18 H.size) lk_V_9_338 okN_X9_passes ⟨Nat.le_of_ble_eq_true rfl, Nat.le_of_ble_eq_true rfl⟩ ⟨rfl, rfl⟩ (preV (preM hK hP hD) (recvOf hK hP 0 rfl (ci := 9) rfl)) hl.1 rfl (Nat.le_of_ble_eq_true rfl) dX9_weeks_66 ⟨Nat.le_of_ble_eq_true rfl, Nat.le_of_ble_eq_true rfl⟩) hP hD hS hA (fun H locs hP hD hS => ?_)
      have hP : va_P D classes (rc9 a q_t Q_t z20) H := hP
      have hD : va_D A (rc9 a q_t Q_t z20) := hD
      refine lv_pop hx hb dX9_weeks_69 rfl ?_
      refine lv_iload hx hb dX9_weeks_70 (lv_at hl 4 rfl) ?_
      refine lv_iload_n hx hb dX9_weeks_72 rfl (lv_at hl 3 rfl) ?_
      obtain ⟨J21, eJ21, h⟩ := jn_some h
      have hJ21 : ∀ (i22 : Int32) (i23 : Int32) (H : Heap) (locs : List Loc) (ls : Array Slot), J21 i22 i23 = some y → va_P D classes (rc9 a q_t Q_t z20) H → va_D A (rc9 a q_t Q_t z20) → va_S A s.heap H locs → lv_has ls 6 [(0, .ref q_t), (1, .int x1), (2, .int x2), (3, .int x3), (5, .int x5)] → W p l e (rmM 6 0 0 141) s m #[.ref q_t, .int x10, .int x20, .int x30] below meth c H locs 0 0 (MQ below (va_Qi (fun r (_ : Unit) => r = y.1) (Bw D A (fun _ => rc9 a q_t Q_t y.2)) A) #[.ref q_t, .int x10, .int x20, .int x30] s 0 0 A) (F0 m 105 ls [.int i22, .int i23]) := by
        intro i22 i23 H locs ls h hP hD hS hl
        rw [eJ21] at h
        refine lv_iadd hx hb dX9_weeks_105 ?_
        refine lv_istore (lv' := [(4, .int (i23 + i22)), (0, .ref q_t), (1, .int x1), (2, .int x2), (3, .int x3), (5, .int x5)]) hx hb dX9_weeks_106 hl (by decide) rfl (fun ls hl => ?_)
        refine lv_iinc (v := x5 + 1) (lv' := [(5, .int (x5 + 1)), (4, .int (i23 + i22)), (0, .ref q_t), (1, .int x1), (2, .int x2), (3, .int x3)]) hx hb dX9_weeks_108 hl (k := 5) rfl rfl (by decide) rfl (fun ls hl => ?_)
        refine lv_goto (tgt := 51) hx hb dX9_weeks_111 (by decide) ?_
        exact ih z20 (i23 + i22) (x5 + 1) _ _ ls h hP hD hS (lv_sub hl [2, 3, 4, 5, 1, 0] rfl)
      refine lv_if_ne (tgt := 85) hx hb dX9_weeks_73 (by decide) (fun c24 => ?_) (fun c24 => ?_)
      · have h := ite_f c24 h
        refine lv_iload_n hx hb dX9_weeks_85 rfl (lv_at hl 3 rfl) ?_
        refine lv_iconst (v := 1) hx hb dX9_weeks_86 (by decide) ?_
        refine lv_icmp_ne (tgt := 101) hx hb dX9_weeks_87 (by decide) (fun c25 => ?_) (fun c25 => ?_)
        · have h := ite_f c25 h
          refine lv_aload_n hx hb dX9_weeks_101 rfl (lv_at hl 0 rfl) ?_
          obtain ⟨r27, hc26, h⟩ := bd_some h
          refine cRi (runV (As := []) (rest := [.int x4]) C (mX9_hidden l D a (q_t := q_t) (Q_t := Q_t) hc26) lk_V_9_307 okN_X9_hidden ⟨Nat.le_of_ble_eq_true rfl, Nat.le_of_ble_eq_true rfl⟩ ⟨rfl, rfl⟩ (preV (preR hK hP) (recvOf hK hP 0 rfl (ci := 9) rfl)) hl.1 rfl (Nat.le_of_ble_eq_true rfl) dX9_weeks_102 ⟨Nat.le_of_ble_eq_true rfl, Nat.le_of_ble_eq_true rfl⟩) ?_
          exact hJ21 r27 x4 _ _ ls h hP hD hS (lv_sub hl [0, 1, 2, 3, 5] rfl)
        · have h := ite_t c25 h
          refine lv_aload_n hx hb dX9_weeks_90 rfl (lv_at hl 0 rfl) ?_
          refine lv_iconst (v := 1) hx hb dX9_weeks_91 (by decide) ?_
          obtain ⟨r29, hc28, h⟩ := bd_some h
          refine cRi (runV (As := [.int 1]) (rest := [.int x4]) C (mX9_thatAre l D a (q_t := q_t) (Q_t := Q_t) hc28) lk_V_9_313 okN_X9_thatAre ⟨Nat.le_of_ble_eq_true rfl, Nat.le_of_ble_eq_true rfl⟩ ⟨rfl, rfl⟩ (preV (preR hK hP) (recvOf hK hP 0 rfl (ci := 9) rfl)) hl.1 rfl (Nat.le_of_ble_eq_true rfl) dX9_weeks_92 ⟨Nat.le_of_ble_eq_true rfl, Nat.le_of_ble_eq_true rfl⟩) ?_
          obtain ⟨r31, hc30, h⟩ := bd_some h
          refine cRi (runS (As := [.int r29]) (rest := [.int x4]) C (mX9_bits l D a hc30) lk_S_9_316 okN_X9_bits ⟨Nat.le_of_ble_eq_true rfl, Nat.le_of_ble_eq_true rfl⟩ ⟨rfl, rfl⟩ (preR hK (P_of_map (wc := []) hP [] rfl)) hl.1 rfl (Nat.le_of_ble_eq_true rfl) dX9_weeks_95 ⟨Nat.le_of_ble_eq_true rfl, Nat.le_of_ble_eq_true rfl⟩) ?_
          refine lv_goto (tgt := 105) hx hb dX9_weeks_98 (by decide) ?_
          exact hJ21 r31 x4 _ _ ls h hP hD hS (lv_sub hl [0, 1, 2, 3, 5] rfl)
      · have h := ite_t c24 h
        refine lv_aload_n hx hb dX9_weeks_76 rfl (lv_at hl 0 rfl) ?_
        refine va_get (D := D) (v := .ref (Q_t 24)) (C := RX9) (T := TX9) (N := 36) hx hb hts iX9 hown hK.1 hP 0 rfl rfl 24 (by decide) (hts _ t_906) (fun _ h9 => h9) rfl dX9_weeks_77 ?_
        refine lv_iconst (v := 4) hx hb dX9_weeks_80 (by decide) ?_
        refine ald_i hx hb hK.1 hP 11 0 rfl rfl 4 (ix_lit (by decide)) dX9_weeks_81 ?_
        refine lv_goto (tgt := 105) hx hb dX9_weeks_82 (by decide) ?_
        exact hJ21 (gT z20 24 4) x4 _ _ ls h hP hD hS (lv_sub hl [0, 1, 2, 3, 5] rfl)

set_option maxHeartbeats 4000000 in
set_option maxRecDepth 100000 in
theorem mX9_weeks (l : Launch) (D : va_G) (a : Nat → ClassId) {q_t : Nat} {Q_t : Nat → Nat} {z_t : Sx} {x1 : Int32} {x2 : Int32} {x3 : Int32} {y : Int32 × Sx} (h : fX9_weeks z_t x1 x2 x3 = some y) (sz : Nat) : CMi (S := Unit) l MX9_weeks 6 141 0 0 D a [.ref q_t, .int x1, .int x2, .int x3] (rc9 a q_t Q_t z_t) sz (fun r _ => r = y.1) (fun _ => rc9 a q_t Q_t y.2) := by
  unfold fX9_weeks at h
  refine entMi (by decide) (Nat.le_of_ble_eq_true rfl) ?_
  intro p e s m below meth c C hK A hA hP hD ls hl
  obtain ⟨hx, hb, hml, hown, hts, hr, hlocks, hnm⟩ := id C
  have hb : c.code = cX9_weeks := hb
  have hown : s.vm.findClass RX9 = some m.cls := hown
  have hS : va_S A s.heap s.heap [] := va_S.rf
  have hl : lv_has ls 6 [(0, .ref q_t), (1, .int x1), (2, .int x2), (3, .int x3)] := hl
  refine lv_aload_n hx hb dX9_weeks_0 rfl (lv_at hl 0 rfl) ?_
  obtain ⟨r2, hc1, h⟩ := bd_some h
  refine cRi (runV (As := []) (rest := []) C (mX9_isWork l D a (q_t := q_t) (Q_t := Q_t) hc1) lk_V_9_301 okN_X9_isWork ⟨Nat.le_of_ble_eq_true rfl, Nat.le_of_ble_eq_true rfl⟩ ⟨rfl, rfl⟩ (preV (preR hK hP) (recvOf hK hP 0 rfl (ci := 9) rfl)) hl.1 rfl (Nat.le_of_ble_eq_true rfl) dX9_weeks_1 ⟨Nat.le_of_ble_eq_true rfl, Nat.le_of_ble_eq_true rfl⟩) ?_
  refine lv_if_eq (tgt := 39) hx hb dX9_weeks_4 (by decide) (fun c3 => ?_) (fun c3 => ?_)
  · have h := ite_t c3 h
    refine lv_iconst (v := (-1)) hx hb dX9_weeks_39 (by decide) ?_
    exact rMi C rfl h (g := fun y => rc9 a q_t Q_t y.2) (pr := fun y => y.1) hP hD hS dX9_weeks_40
  · have h := ite_f c3 h
    refine lv_aload_n hx hb dX9_weeks_7 rfl (lv_at hl 0 rfl) ?_
    refine lv_iload_n hx hb dX9_weeks_8 rfl (lv_at hl 1 rfl) ?_
    obtain ⟨r5, hc4, h⟩ := bd_some h
    refine cRi (runV (As := [.int x1]) (rest := []) C (mX9_isRule l D a (q_t := q_t) (Q_t := Q_t) hc4) lk_V_9_335 okN_X9_isRule ⟨Nat.le_of_ble_eq_true rfl, Nat.le_of_ble_eq_true rfl⟩ ⟨rfl, rfl⟩ (preV (preR hK hP) (recvOf hK hP 0 rfl (ci := 9) rfl)) hl.1 rfl (Nat.le_of_ble_eq_true rfl) dX9_weeks_9 ⟨Nat.le_of_ble_eq_true rfl, Nat.le_of_ble_eq_true rfl⟩) ?_
    refine lv_if_eq (tgt := 39) hx hb dX9_weeks_12 (by decide) (fun c6 => ?_) (fun c6 => ?_)
    · have h := ite_t c6 h
      refine lv_iconst (v := (-1)) hx hb dX9_weeks_39 (by decide) ?_
      exact rMi C rfl h (g := fun y => rc9 a q_t Q_t y.2) (pr := fun y => y.1) hP hD hS dX9_weeks_40
    · have h := ite_f c6 h
      refine lv_iload_n hx hb dX9_weeks_15 rfl (lv_at hl 2 rfl) ?_
      refine lv_i2l (v := x2.toInt64) hx hb dX9_weeks_16 rfl ?_
      refine lv_lconst (v := 1) hx hb dX9_weeks_17 (by decide) ?_
      refine lv_ldc2 hx hb hown (hts _ t_1386) dX9_weeks_18 ?_
      obtain ⟨r8, hc7, h⟩ := bd_some h
      refine cRi (runS (As := [.long x2.toInt64, .long 1, .long 20]) (rest := []) C (mX9_in l D a hc7) lk_S_9_118 okN_X9_in ⟨Nat.le_of_ble_eq_true rfl, Nat.le_of_ble_eq_true rfl⟩ ⟨rfl, rfl⟩ (preR hK (P_of_map (wc := []) hP [] rfl)) hl.1 rfl (Nat.le_of_ble_eq_true rfl) dX9_weeks_21 ⟨Nat.le_of_ble_eq_true rfl, Nat.le_of_ble_eq_true rfl⟩) ?_
      refine lv_if_eq (tgt := 39) hx hb dX9_weeks_24 (by decide) (fun c9 => ?_) (fun c9 => ?_)
      · have h := ite_t c9 h
        refine lv_iconst (v := (-1)) hx hb dX9_weeks_39 (by decide) ?_
        exact rMi C rfl h (g := fun y => rc9 a q_t Q_t y.2) (pr := fun y => y.1) hP hD hS dX9_weeks_40
      · have h := ite_f c9 h
        refine lv_iload_n hx hb dX9_weeks_27 rfl (lv_at hl 3 rfl) ?_
        refine lv_i2l (v := x3.toInt64) hx hb dX9_weeks_28 rfl ?_
        refine lv_lconst (v := 0) hx hb dX9_weeks_29 (by decide) ?_
        refine lv_ldc2 hx hb hown (hts _ t_1148) dX9_weeks_30 ?_
        obtain ⟨r11, hc10, h⟩ := bd_some h
        refine cRi (runS (As := [.long x3.toInt64, .long 0, .long 2]) (rest := []) C (mX9_in l D a hc10) lk_S_9_118 okN_X9_in ⟨Nat.le_of_ble_eq_true rfl, Nat.le_of_ble_eq_true rfl⟩ ⟨rfl, rfl⟩ (preR hK (P_of_map (wc := []) hP [] rfl)) hl.1 rfl (Nat.le_of_ble_eq_true rfl) dX9_weeks_33 ⟨Nat.le_of_ble_eq_true rfl, Nat.le_of_ble_eq_true rfl⟩) ?_
        refine lv_if_ne (tgt := 41) hx hb dX9_weeks_36 (by decide) (fun c12 => ?_) (fun c12 => ?_)
        · have h := ite_f c12 h
          refine lv_aload_n hx hb dX9_weeks_41 rfl (lv_at hl 0 rfl) ?_
          obtain ⟨z14, hc13, h⟩ := bd_some h
          refine cWv (runV (As := []) (rest := []) C (mX9_keeps l D a (q_t := q_t) (Q_t := Q_t) hc13 s.heap.size) lk_V_9_343 okN_X9_keeps ⟨Nat.le_of_ble_eq_true rfl, Nat.le_of_ble_eq_true rfl⟩ ⟨rfl, rfl⟩ (preV (preM hK hP hD) (recvOf hK hP 0 rfl (ci := 9) rfl)) hl.1 rfl (Nat.le_of_ble_eq_true rfl) dX9_weeks_42 ⟨Nat.le_of_ble_eq_true rfl, Nat.le_of_ble_eq_true rfl⟩) hP hD hS hA (fun H locs hP hD hS => ?_)
          have hP : va_P D classes (rc9 a q_t Q_t z14) H := hP
          have hD : va_D A (rc9 a q_t Q_t z14) := hD
          refine lv_iconst (v := 0) hx hb dX9_weeks_45 (by decide) ?_
          refine lv_istore (lv' := [(4, .int 0), (0, .ref q_t), (1, .int x1), (2, .int x2), (3, .int x3)]) hx hb dX9_weeks_46 hl (by decide) rfl (fun ls hl => ?_)
          refine lv_iconst (v := 0) hx hb dX9_weeks_48 (by decide) ?_
          refine lv_istore (lv' := [(5, .int 0), (4, .int 0), (0, .ref q_t), (1, .int x1), (2, .int x2), (3, .int x3)]) hx hb dX9_weeks_49 hl (by decide) rfl (fun ls hl => ?_)
          refine wX9_weeks_51 C hK hA ?_ FU z14 0 0 _ _ ls h hP hD hS (lv_sub hl [2, 3, 4, 5, 1, 0] rfl)
          · intro z32 i33 H locs ls h hP hD hS hl
            refine lv_aload_n hx hb dX9_weeks_114 rfl (lv_at hl 0 rfl) ?_
            obtain ⟨z35, hc34, h⟩ := bd_some h
            refine cWv (runV (As := []) (rest := []) C (mX9_putsBack l D a (q_t := q_t) (Q_t := Q_t) hc34 H.size) lk_V_9_346 okN_X9_putsBack ⟨Nat.le_of_ble_eq_true rfl, Nat.le_of_ble_eq_true rfl⟩ ⟨rfl, rfl⟩ (preV (preM hK hP hD) (recvOf hK hP 0 rfl (ci := 9) rfl)) hl.1 rfl (Nat.le_of_ble_eq_true rfl) dX9_weeks_115 ⟨Nat.le_of_ble_eq_true rfl, Nat.le_of_ble_eq_true rfl⟩) hP hD hS hA (fun H locs hP hD hS => ?_)
            have hP : va_P D classes (rc9 a q_t Q_t z35) H := hP
            have hD : va_D A (rc9 a q_t Q_t z35) := hD
            refine lv_iload hx hb dX9_weeks_118 (lv_at hl 1 rfl) ?_
            exact rMi C rfl h (g := fun y => rc9 a q_t Q_t y.2) (pr := fun y => y.1) hP hD hS dX9_weeks_120
        · have h := ite_t c12 h
          refine lv_iconst (v := (-1)) hx hb dX9_weeks_39 (by decide) ?_
          exact rMi C rfl h (g := fun y => rc9 a q_t Q_t y.2) (pr := fun y => y.1) hP hD hS dX9_weeks_40

set_option maxHeartbeats 4000000 in
set_option maxRecDepth 100000 in
theorem wX9_work_92 {p : Program} {l : Launch} {e : Env} {s : State} {m : MethodId} {below : List Frame} {meth : Method} {c : Code} {D : va_G} {a : Nat → ClassId} {A : Nat → Prop} {q_t : Nat} {Q_t : Nat → Nat} (C : Cx p s m #[.ref q_t] meth c MX9_work) (hK : KK D a s) (hA : ∀ q, s.heap.size ≤ q → A q) {y : Int32 × Sx} {k111 : Sx → Option (Int32 × Sx)} (hk111 : ∀ (z_tk : Sx) (H : Heap) (locs : List Loc) (ls : Array Slot), k111 z_tk = some y → va_P D classes (rc9 a q_t Q_t z_tk) H → va_D A (rc9 a q_t Q_t z_tk) → va_S A s.heap H locs → lv_has ls 3 [(0, .ref q_t)] → W p l e (rmM 12 0 0 264) s m #[.ref q_t] below meth c H locs 0 0 (MQ below (va_Qi (fun r (_ : Unit) => r = y.1) (Bw D A (fun _ => rc9 a q_t Q_t y.2)) A) #[.ref q_t] s 0 0 A) (F0 m 111 ls [])) : ∀ (n : Nat) (z_t : Sx) (x1 : Int32) (H : Heap) (locs : List Loc) (ls : Array Slot), lX9_work_92 k111 n z_t x1 = some y → va_P D classes (rc9 a q_t Q_t z_t) H → va_D A (rc9 a q_t Q_t z_t) → va_S A s.heap H locs → lv_has ls 3 [(0, .ref q_t), (1, .int x1)] → W p l e (rmM 12 0 0 264) s m #[.ref q_t] below meth c H locs 0 0 (MQ below (va_Qi (fun r (_ : Unit) => r = y.1) (Bw D A (fun _ => rc9 a q_t Q_t y.2)) A) #[.ref q_t] s 0 0 A) (F0 m 92 ls []) := by
  obtain ⟨hx, hb, hml, hown, hts, hr, hlocks, hnm⟩ := id C
  have hb : c.code = cX9_work := hb
  have hown : s.vm.findClass RX9 = some m.cls := hown
  intro n
  induction n with
  | zero => intro z_t x1 H locs ls h; rw [lX9_work_92] at h; cases h
  | succ n ih =>
    intro z_t x1 H locs ls h hP hD hS hl
    rw [lX9_work_92] at h
    refine lv_iload_n hx hb dX9_work_92 rfl (lv_at hl 1 rfl) ?_
    refine lv_bipush (v := 9) hx hb dX9_work_93 (by decide) ?_
    refine lv_icmp_ge (tgt := 111) hx hb dX9_work_95 (by decide) (fun c10 => ?_) (fun c10 => ?_)
    · have h := ite_t c10 h
      exact hk111 z_t _ _ ls h hP hD hS (lv_sub hl [0] rfl)
    · have h := ite_f c10 h
      refine lv_aload_n hx hb dX9_work_98 rfl (lv_at hl 0 rfl) ?_
      refine va_get (D := D) (v := .ref (Q_t 24)) (C := RX9) (T := TX9) (N := 36) hx hb hts iX9 hown hK.1 hP 0 rfl rfl 24 (by decide) (hts _ t_906) (fun _ h9 => h9) rfl dX9_work_99 ?_
      refine lv_iload_n hx hb dX9_work_102 rfl (lv_at hl 1 rfl) ?_
      refine lv_iconst (v := 0) hx hb dX9_work_103 (by decide) ?_
      obtain ⟨g11, h⟩ := gd_some h
      refine ast_i hx hb hK.1 hP hD hS 11 0 rfl rfl x1.toNatClampNeg (ix_g g11) dX9_work_104 (fun H locs hP hD hS => ?_)
      rw [u9_24] at hP hD
      refine lv_iinc (v := x1 + 1) (lv' := [(1, .int (x1 + 1)), (0, .ref q_t)]) hx hb dX9_work_105 hl (k := 1) rfl rfl (by decide) rfl (fun ls hl => ?_)
      refine lv_goto (tgt := 92) hx hb dX9_work_108 (by decide) ?_
      exact ih (sT z_t 24 x1.toNatClampNeg 0) (x1 + 1) _ _ ls h hP hD hS (lv_sub hl [1, 0] rfl)

set_option maxHeartbeats 4000000 in
set_option maxRecDepth 100000 in
theorem wX9_work_113 {p : Program} {l : Launch} {e : Env} {s : State} {m : MethodId} {below : List Frame} {meth : Method} {c : Code} {D : va_G} {a : Nat → ClassId} {A : Nat → Prop} {q_t : Nat} {Q_t : Nat → Nat} (C : Cx p s m #[.ref q_t] meth c MX9_work) (hK : KK D a s) (hA : ∀ q, s.heap.size ≤ q → A q) {y : Int32 × Sx} {k144 : Sx → Option (Int32 × Sx)} (hk144 : ∀ (z_tk : Sx) (H : Heap) (locs : List Loc) (ls : Array Slot), k144 z_tk = some y → va_P D classes (rc9 a q_t Q_t z_tk) H → va_D A (rc9 a q_t Q_t z_tk) → va_S A s.heap H locs → lv_has ls 3 [(0, .ref q_t)] → W p l e (rmM 12 0 0 264) s m #[.ref q_t] below meth c H locs 0 0 (MQ below (va_Qi (fun r (_ : Unit) => r = y.1) (Bw D A (fun _ => rc9 a q_t Q_t y.2)) A) #[.ref q_t] s 0 0 A) (F0 m 144 ls [])) : ∀ (n : Nat) (z_t : Sx) (x1 : Int32) (H : Heap) (locs : List Loc) (ls : Array Slot), lX9_work_113 k144 n z_t x1 = some y → va_P D classes (rc9 a q_t Q_t z_t) H → va_D A (rc9 a q_t Q_t z_t) → va_S A s.heap H locs → lv_has ls 3 [(0, .ref q_t), (1, .int x1)] → W p l e (rmM 12 0 0 264) s m #[.ref q_t] below meth c H locs 0 0 (MQ below (va_Qi (fun r (_ : Unit) => r = y.1) (Bw D A (fun _ => rc9 a q_t Q_t y.2)) A) #[.ref q_t] s 0 0 A) (F0 m 113 ls []) := by
  obtain ⟨hx, hb, hml, hown, hts, hr, hlocks, hnm⟩ := id C
  have hb : c.code = cX9_work := hb
  have hown : s.vm.findClass RX9 = some m.cls := hown
  intro n
  induction n with
  | zero => intro z_t x1 H locs ls h; rw [lX9_work_113] at h; cases h
  | succ n ih =>
    intro z_t x1 H locs ls h hP hD hS hl
    rw [lX9_work_113] at h
    refine lv_iload_n hx hb dX9_work_113 rfl (lv_at hl 1 rfl) ?_
    refine lv_iconst (v := 3) hx hb dX9_work_114 (by decide) ?_
    refine lv_aload_n hx hb dX9_work_115 rfl (lv_at hl 0 rfl) ?_
    refine va_get (D := D) (v := .int (gI z_t 8)) (C := RX9) (T := TX9) (N := 36) hx hb hts iX9 hown hK.1 hP 0 rfl rfl 8 (by decide) (hts _ t_890) (fun _ h9 => h9) rfl dX9_work_116 ?_
    refine lv_imul hx hb dX9_work_119 ?_
    refine lv_icmp_ge (tgt := 144) hx hb dX9_work_120 (by decide) (fun c13 => ?_) (fun c13 => ?_)
    · have h := ite_t c13 h
      exact hk144 z_t _ _ ls h hP hD hS (lv_sub hl [0] rfl)
    · have h := ite_f c13 h
      refine lv_aload_n hx hb dX9_work_123 rfl (lv_at hl 0 rfl) ?_
      refine va_get (D := D) (v := .ref (Q_t 24)) (C := RX9) (T := TX9) (N := 36) hx hb hts iX9 hown hK.1 hP 0 rfl rfl 24 (by decide) (hts _ t_906) (fun _ h9 => h9) rfl dX9_work_124 ?_
      refine lv_bipush (v := 26) hx hb dX9_work_127 (by decide) ?_
      refine lv_iload_n hx hb dX9_work_129 rfl (lv_at hl 1 rfl) ?_
      refine lv_iadd hx hb dX9_work_130 ?_
      refine lv_aload_n hx hb dX9_work_131 rfl (lv_at hl 0 rfl) ?_
      refine va_get (D := D) (v := .ref (Q_t 10)) (C := RX9) (T := TX9) (N := 36) hx hb hts iX9 hown hK.1 hP 0 rfl rfl 10 (by decide) (hts _ t_892) (fun _ h9 => h9) rfl dX9_work_132 ?_
      refine lv_iload_n hx hb dX9_work_135 rfl (lv_at hl 1 rfl) ?_
      obtain ⟨g14, h⟩ := gd_some h
      refine ald_i hx hb hK.1 hP 6 0 rfl rfl x1.toNatClampNeg (ix_g g14) dX9_work_136 ?_
      obtain ⟨g15, h⟩ := gd_some h
      refine ast_i hx hb hK.1 hP hD hS 11 0 rfl rfl ((26 + x1).toNatClampNeg) (ix_g g15) dX9_work_137 (fun H locs hP hD hS => ?_)
      rw [u9_24] at hP hD
      refine lv_iinc (v := x1 + 1) (lv' := [(1, .int (x1 + 1)), (0, .ref q_t)]) hx hb dX9_work_138 hl (k := 1) rfl rfl (by decide) rfl (fun ls hl => ?_)
      refine lv_goto (tgt := 113) hx hb dX9_work_141 (by decide) ?_
      exact ih (sT z_t 24 ((26 + x1).toNatClampNeg) (gT z_t 10 x1.toNatClampNeg)) (x1 + 1) _ _ ls h hP hD hS (lv_sub hl [1, 0] rfl)

set_option maxHeartbeats 4000000 in
set_option maxRecDepth 100000 in
theorem wX9_work_156 {p : Program} {l : Launch} {e : Env} {s : State} {m : MethodId} {below : List Frame} {meth : Method} {c : Code} {D : va_G} {a : Nat → ClassId} {A : Nat → Prop} {q_t : Nat} {Q_t : Nat → Nat} {x1 : Int32} (C : Cx p s m #[.ref q_t] meth c MX9_work) (hK : KK D a s) (hA : ∀ q, s.heap.size ≤ q → A q) {y : Int32 × Sx} {k191 : Sx → Option (Int32 × Sx)} (hk191 : ∀ (z_tk : Sx) (H : Heap) (locs : List Loc) (ls : Array Slot), k191 z_tk = some y → va_P D classes (rc9 a q_t Q_t z_tk) H → va_D A (rc9 a q_t Q_t z_tk) → va_S A s.heap H locs → lv_has ls 3 [(0, .ref q_t), (1, .int x1)] → W p l e (rmM 12 0 0 264) s m #[.ref q_t] below meth c H locs 0 0 (MQ below (va_Qi (fun r (_ : Unit) => r = y.1) (Bw D A (fun _ => rc9 a q_t Q_t y.2)) A) #[.ref q_t] s 0 0 A) (F0 m 191 ls [])) : ∀ (n : Nat) (z_t : Sx) (x2 : Int32) (H : Heap) (locs : List Loc) (ls : Array Slot), lX9_work_156 k191 x1 n z_t x2 = some y → va_P D classes (rc9 a q_t Q_t z_t) H → va_D A (rc9 a q_t Q_t z_t) → va_S A s.heap H locs → lv_has ls 3 [(0, .ref q_t), (1, .int x1), (2, .int x2)] → W p l e (rmM 12 0 0 264) s m #[.ref q_t] below meth c H locs 0 0 (MQ below (va_Qi (fun r (_ : Unit) => r = y.1) (Bw D A (fun _ => rc9 a q_t Q_t y.2)) A) #[.ref q_t] s 0 0 A) (F0 m 156 ls []) := by
  obtain ⟨hx, hb, hml, hown, hts, hr, hlocks, hnm⟩ := id C
  have hb : c.code = cX9_work := hb
  have hown : s.vm.findClass RX9 = some m.cls := hown
  intro n
  induction n with
  | zero => intro z_t x2 H locs ls h; rw [lX9_work_156] at h; cases h
  | succ n ih =>
    intro z_t x2 H locs ls h hP hD hS hl
    rw [lX9_work_156] at h
    refine lv_iload_n hx hb dX9_work_156 rfl (lv_at hl 2 rfl) ?_
    refine lv_iconst (v := 4) hx hb dX9_work_157 (by decide) ?_
    refine lv_icmp_ge (tgt := 191) hx hb dX9_work_158 (by decide) (fun c18 => ?_) (fun c18 => ?_)
    · have h := ite_t c18 h
      exact hk191 z_t _ _ ls h hP hD hS (lv_sub hl [0, 1] rfl)
    · have h := ite_f c18 h
      refine lv_aload_n hx hb dX9_work_161 rfl (lv_at hl 0 rfl) ?_
      refine va_get (D := D) (v := .ref (Q_t 24)) (C := RX9) (T := TX9) (N := 36) hx hb hts iX9 hown hK.1 hP 0 rfl rfl 24 (by decide) (hts _ t_906) (fun _ h9 => h9) rfl dX9_work_162 ?_
      refine lv_bipush (v := 44) hx hb dX9_work_165 (by decide) ?_
      refine lv_bipush (v := 6) hx hb dX9_work_167 (by decide) ?_
      refine lv_iload_n hx hb dX9_work_169 rfl (lv_at hl 1 rfl) ?_
      refine lv_imul hx hb dX9_work_170 ?_
      refine lv_iadd hx hb dX9_work_171 ?_
      refine lv_iload_n hx hb dX9_work_172 rfl (lv_at hl 2 rfl) ?_
      refine lv_iadd hx hb dX9_work_173 ?_
      refine lv_aload_n hx hb dX9_work_174 rfl (lv_at hl 0 rfl) ?_
      refine va_get (D := D) (v := .ref (Q_t 11)) (C := RX9) (T := TX9) (N := 36) hx hb hts iX9 hown hK.1 hP 0 rfl rfl 11 (by decide) (hts _ t_893) (fun _ h9 => h9) rfl dX9_work_175 ?_
      refine lv_iconst (v := 4) hx hb dX9_work_178 (by decide) ?_
      refine lv_iload_n hx hb dX9_work_179 rfl (lv_at hl 1 rfl) ?_
      refine lv_imul hx hb dX9_work_180 ?_
      refine lv_iload_n hx hb dX9_work_181 rfl (lv_at hl 2 rfl) ?_
      refine lv_iadd hx hb dX9_work_182 ?_
      obtain ⟨g19, h⟩ := gd_some h
      refine ald_i hx hb hK.1 hP 7 0 rfl rfl (((4 * x1) + x2).toNatClampNeg) (ix_g g19) dX9_work_183 ?_
      obtain ⟨g20, h⟩ := gd_some h
      refine ast_i hx hb hK.1 hP hD hS 11 0 rfl rfl (((44 + (6 * x1)) + x2).toNatClampNeg) (ix_g g20) dX9_work_184 (fun H locs hP hD hS => ?_)
      rw [u9_24] at hP hD
      refine lv_iinc (v := x2 + 1) (lv' := [(2, .int (x2 + 1)), (0, .ref q_t), (1, .int x1)]) hx hb dX9_work_185 hl (k := 2) rfl rfl (by decide) rfl (fun ls hl => ?_)
      refine lv_goto (tgt := 156) hx hb dX9_work_188 (by decide) ?_
      exact ih (sT z_t 24 (((44 + (6 * x1)) + x2).toNatClampNeg) (gT z_t 11 (((4 * x1) + x2).toNatClampNeg))) (x2 + 1) _ _ ls h hP hD hS (lv_sub hl [1, 2, 0] rfl)

set_option maxHeartbeats 4000000 in
set_option maxRecDepth 100000 in
theorem wX9_work_146 {p : Program} {l : Launch} {e : Env} {s : State} {m : MethodId} {below : List Frame} {meth : Method} {c : Code} {D : va_G} {a : Nat → ClassId} {A : Nat → Prop} {q_t : Nat} {Q_t : Nat → Nat} (C : Cx p s m #[.ref q_t] meth c MX9_work) (hK : KK D a s) (hA : ∀ q, s.heap.size ≤ q → A q) {y : Int32 × Sx} {k227 : Sx → Option (Int32 × Sx)} (hk227 : ∀ (z_tk : Sx) (H : Heap) (locs : List Loc) (ls : Array Slot), k227 z_tk = some y → va_P D classes (rc9 a q_t Q_t z_tk) H → va_D A (rc9 a q_t Q_t z_tk) → va_S A s.heap H locs → lv_has ls 3 [(0, .ref q_t)] → W p l e (rmM 12 0 0 264) s m #[.ref q_t] below meth c H locs 0 0 (MQ below (va_Qi (fun r (_ : Unit) => r = y.1) (Bw D A (fun _ => rc9 a q_t Q_t y.2)) A) #[.ref q_t] s 0 0 A) (F0 m 227 ls [])) : ∀ (n : Nat) (z_t : Sx) (x1 : Int32) (H : Heap) (locs : List Loc) (ls : Array Slot), lX9_work_146 k227 n z_t x1 = some y → va_P D classes (rc9 a q_t Q_t z_t) H → va_D A (rc9 a q_t Q_t z_t) → va_S A s.heap H locs → lv_has ls 3 [(0, .ref q_t), (1, .int x1)] → W p l e (rmM 12 0 0 264) s m #[.ref q_t] below meth c H locs 0 0 (MQ below (va_Qi (fun r (_ : Unit) => r = y.1) (Bw D A (fun _ => rc9 a q_t Q_t y.2)) A) #[.ref q_t] s 0 0 A) (F0 m 146 ls []) := by
  obtain ⟨hx, hb, hml, hown, hts, hr, hlocks, hnm⟩ := id C
  have hb : c.code = cX9_work := hb
  have hown : s.vm.findClass RX9 = some m.cls := hown
  intro n
  induction n with
  | zero => intro z_t x1 H locs ls h; rw [lX9_work_146] at h; cases h
  | succ n ih =>
    intro z_t x1 H locs ls h hP hD hS hl
    rw [lX9_work_146] at h
    refine lv_iload_n hx hb dX9_work_146 rfl (lv_at hl 1 rfl) ?_
    refine lv_aload_n hx hb dX9_work_147 rfl (lv_at hl 0 rfl) ?_
    refine va_get (D := D) (v := .int (gI z_t 9)) (C := RX9) (T := TX9) (N := 36) hx hb hts iX9 hown hK.1 hP 0 rfl rfl 9 (by decide) (hts _ t_891) (fun _ h9 => h9) rfl dX9_work_148 ?_
    refine lv_icmp_ge (tgt := 227) hx hb dX9_work_151 (by decide) (fun c17 => ?_) (fun c17 => ?_)
    · have h := ite_t c17 h
      exact hk227 z_t _ _ ls h hP hD hS (lv_sub hl [0] rfl)
    · have h := ite_f c17 h
      refine lv_iconst (v := 0) hx hb dX9_work_154 (by decide) ?_
      refine lv_istore_n (lv' := [(2, .int 0), (0, .ref q_t), (1, .int x1)]) hx hb dX9_work_155 rfl hl (by decide) rfl (fun ls hl => ?_)
      refine wX9_work_156 C hK hA ?_ FU z_t 0 _ _ ls h hP hD hS (lv_sub hl [1, 2, 0] rfl)
      · intro z21 H locs ls h hP hD hS hl
        refine lv_aload_n hx hb dX9_work_191 rfl (lv_at hl 0 rfl) ?_
        refine va_get (D := D) (v := .ref (Q_t 24)) (C := RX9) (T := TX9) (N := 36) hx hb hts iX9 hown hK.1 hP 0 rfl rfl 24 (by decide) (hts _ t_906) (fun _ h9 => h9) rfl dX9_work_192 ?_
        refine lv_bipush (v := 44) hx hb dX9_work_195 (by decide) ?_
        refine lv_bipush (v := 6) hx hb dX9_work_197 (by decide) ?_
        refine lv_iload_n hx hb dX9_work_199 rfl (lv_at hl 1 rfl) ?_
        refine lv_imul hx hb dX9_work_200 ?_
        refine lv_iadd hx hb dX9_work_201 ?_
        refine lv_iconst (v := 4) hx hb dX9_work_202 (by decide) ?_
        refine lv_iadd hx hb dX9_work_203 ?_
        refine lv_iconst (v := 0) hx hb dX9_work_204 (by decide) ?_
        obtain ⟨g22, h⟩ := gd_some h
        refine ast_i hx hb hK.1 hP hD hS 11 0 rfl rfl (((44 + (6 * x1)) + 4).toNatClampNeg) (ix_g g22) dX9_work_205 (fun H locs hP hD hS => ?_)
        rw [u9_24] at hP hD
        refine lv_aload_n hx hb dX9_work_206 rfl (lv_at hl 0 rfl) ?_
        refine va_get (D := D) (v := .ref (Q_t 24)) (C := RX9) (T := TX9) (N := 36) hx hb hts iX9 hown hK.1 hP 0 rfl rfl 24 (by decide) (hts _ t_906) (fun _ h9 => h9) rfl dX9_work_207 ?_
        refine lv_bipush (v := 44) hx hb dX9_work_210 (by decide) ?_
        refine lv_bipush (v := 6) hx hb dX9_work_212 (by decide) ?_
        refine lv_iload_n hx hb dX9_work_214 rfl (lv_at hl 1 rfl) ?_
        refine lv_imul hx hb dX9_work_215 ?_
        refine lv_iadd hx hb dX9_work_216 ?_
        refine lv_iconst (v := 5) hx hb dX9_work_217 (by decide) ?_
        refine lv_iadd hx hb dX9_work_218 ?_
        refine lv_iconst (v := 0) hx hb dX9_work_219 (by decide) ?_
        obtain ⟨g23, h⟩ := gd_some h
        refine ast_i hx hb hK.1 hP hD hS 11 0 rfl rfl (((44 + (6 * x1)) + 5).toNatClampNeg) (ix_g g23) dX9_work_220 (fun H locs hP hD hS => ?_)
        rw [u9_24] at hP hD
        refine lv_iinc (v := x1 + 1) (lv' := [(1, .int (x1 + 1)), (0, .ref q_t)]) hx hb dX9_work_221 hl (k := 1) rfl rfl (by decide) rfl (fun ls hl => ?_)
        refine lv_goto (tgt := 146) hx hb dX9_work_224 (by decide) ?_
        exact ih (sT (sT z21 24 (((44 + (6 * x1)) + 4).toNatClampNeg) 0) 24 (((44 + (6 * x1)) + 5).toNatClampNeg) 0) (x1 + 1) _ _ ls h hP hD hS (lv_sub hl [1, 0] rfl)

set_option maxHeartbeats 4000000 in
set_option maxRecDepth 100000 in
theorem mX9_work (l : Launch) (D : va_G) (a : Nat → ClassId) {q_t : Nat} {Q_t : Nat → Nat} {z_t : Sx} {y : Int32 × Sx} (h : fX9_work z_t = some y) (sz : Nat) : CMi (S := Unit) l MX9_work 12 264 0 0 D a [.ref q_t] (rc9 a q_t Q_t z_t) sz (fun r _ => r = y.1) (fun _ => rc9 a q_t Q_t y.2) := by
  unfold fX9_work at h
  refine entMi (by decide) (Nat.le_of_ble_eq_true rfl) ?_
  intro p e s m below meth c C hK A hA hP hD ls hl
  obtain ⟨hx, hb, hml, hown, hts, hr, hlocks, hnm⟩ := id C
  have hb : c.code = cX9_work := hb
  have hown : s.vm.findClass RX9 = some m.cls := hown
  have hS : va_S A s.heap s.heap [] := va_S.rf
  have hl : lv_has ls 3 [(0, .ref q_t)] := hl
  refine lv_aload_n hx hb dX9_work_0 rfl (lv_at hl 0 rfl) ?_
  refine lv_bipush (v := 6) hx hb dX9_work_1 (by decide) ?_
  refine va_put (D := D) (v := .int 6) (C := RX9) (T := TX9) (N := 36) hx hb hts iX9 tyX9 tyX9_ok nmX9 hown hK.1 hP hD hS 0 rfl rfl 15 (by decide) (hts _ t_897) (fun _ h9 => h9) rfl (tyX9_ok 15 (by decide)) rfl rfl (Nat.le_of_ble_eq_true rfl) dX9_work_3 (fun H locs hP hD hS => ?_)
  rw [u9_15] at hP hD
  refine lv_aload_n hx hb dX9_work_6 rfl (lv_at hl 0 rfl) ?_
  refine lv_iconst (v := (-1)) hx hb dX9_work_7 (by decide) ?_
  refine va_put (D := D) (v := .int (-1)) (C := RX9) (T := TX9) (N := 36) hx hb hts iX9 tyX9 tyX9_ok nmX9 hown hK.1 hP hD hS 0 rfl rfl 7 (by decide) (hts _ t_889) (fun _ h9 => h9) rfl (tyX9_ok 7 (by decide)) rfl rfl (Nat.le_of_ble_eq_true rfl) dX9_work_8 (fun H locs hP hD hS => ?_)
  rw [u9_7] at hP hD
  refine lv_aload_n hx hb dX9_work_11 rfl (lv_at hl 0 rfl) ?_
  refine lv_iconst (v := 0) hx hb dX9_work_12 (by decide) ?_
  refine va_put (D := D) (v := .int 0) (C := RX9) (T := TX9) (N := 36) hx hb hts iX9 tyX9 tyX9_ok nmX9 hown hK.1 hP hD hS 0 rfl rfl 8 (by decide) (hts _ t_890) (fun _ h9 => h9) rfl (tyX9_ok 8 (by decide)) rfl rfl (Nat.le_of_ble_eq_true rfl) dX9_work_13 (fun H locs hP hD hS => ?_)
  rw [u9_8] at hP hD
  refine lv_aload_n hx hb dX9_work_16 rfl (lv_at hl 0 rfl) ?_
  refine lv_iconst (v := 0) hx hb dX9_work_17 (by decide) ?_
  refine va_put (D := D) (v := .int 0) (C := RX9) (T := TX9) (N := 36) hx hb hts iX9 tyX9 tyX9_ok nmX9 hown hK.1 hP hD hS 0 rfl rfl 9 (by decide) (hts _ t_891) (fun _ h9 => h9) rfl (tyX9_ok 9 (by decide)) rfl rfl (Nat.le_of_ble_eq_true rfl) dX9_work_18 (fun H locs hP hD hS => ?_)
  rw [u9_9] at hP hD
  refine lv_aload_n hx hb dX9_work_21 rfl (lv_at hl 0 rfl) ?_
  obtain ⟨r2, z3, hc1, h⟩ := bd2_some h
  refine cWi (runV (As := []) (rest := []) C (mX9_readsAll l D a (q_t := q_t) (Q_t := Q_t) hc1 H.size) lk_V_9_250 okN_X9_readsAll ⟨Nat.le_of_ble_eq_true rfl, Nat.le_of_ble_eq_true rfl⟩ ⟨rfl, rfl⟩ (preV (preM hK hP hD) (recvOf hK hP 0 rfl (ci := 9) rfl)) hl.1 rfl (Nat.le_of_ble_eq_true rfl) dX9_work_22 ⟨Nat.le_of_ble_eq_true rfl, Nat.le_of_ble_eq_true rfl⟩) hP hD hS hA (fun H locs hP hD hS => ?_)
  have hP : va_P D classes (rc9 a q_t Q_t z3) H := hP
  have hD : va_D A (rc9 a q_t Q_t z3) := hD
  refine lv_if_ne (tgt := 36) hx hb dX9_work_25 (by decide) (fun c4 => ?_) (fun c4 => ?_)
  · have h := ite_f c4 h
    refine lv_aload_n hx hb dX9_work_36 rfl (lv_at hl 0 rfl) ?_
    refine va_get (D := D) (v := .ref (Q_t 24)) (C := RX9) (T := TX9) (N := 36) hx hb hts iX9 hown hK.1 hP 0 rfl rfl 24 (by decide) (hts _ t_906) (fun _ h9 => h9) rfl dX9_work_37 ?_
    refine lv_iconst (v := 0) hx hb dX9_work_40 (by decide) ?_
    refine lv_aload_n hx hb dX9_work_41 rfl (lv_at hl 0 rfl) ?_
    refine va_get (D := D) (v := .int (gI z3 9)) (C := RX9) (T := TX9) (N := 36) hx hb hts iX9 hown hK.1 hP 0 rfl rfl 9 (by decide) (hts _ t_891) (fun _ h9 => h9) rfl dX9_work_42 ?_
    refine ast_i hx hb hK.1 hP hD hS 11 0 rfl rfl 0 (ix_lit (by decide)) dX9_work_45 (fun H locs hP hD hS => ?_)
    rw [u9_24] at hP hD
    refine lv_aload_n hx hb dX9_work_46 rfl (lv_at hl 0 rfl) ?_
    refine va_get (D := D) (v := .ref (Q_t 24)) (C := RX9) (T := TX9) (N := 36) hx hb hts iX9 hown hK.1 hP 0 rfl rfl 24 (by decide) (hts _ t_906) (fun _ h9 => h9) rfl dX9_work_47 ?_
    refine lv_iconst (v := 1) hx hb dX9_work_50 (by decide) ?_
    refine lv_aload_n hx hb dX9_work_51 rfl (lv_at hl 0 rfl) ?_
    refine va_get (D := D) (v := .int (gI z3 8)) (C := RX9) (T := TX9) (N := 36) hx hb hts iX9 hown hK.1 hP 0 rfl rfl 8 (by decide) (hts _ t_890) (fun _ h9 => h9) rfl dX9_work_52 ?_
    refine ast_i hx hb hK.1 hP hD hS 11 0 rfl rfl 1 (ix_lit (by decide)) dX9_work_55 (fun H locs hP hD hS => ?_)
    rw [u9_24] at hP hD
    refine lv_aload_n hx hb dX9_work_56 rfl (lv_at hl 0 rfl) ?_
    refine va_get (D := D) (v := .ref (Q_t 24)) (C := RX9) (T := TX9) (N := 36) hx hb hts iX9 hown hK.1 hP 0 rfl rfl 24 (by decide) (hts _ t_906) (fun _ h9 => h9) rfl dX9_work_57 ?_
    refine lv_iconst (v := 2) hx hb dX9_work_60 (by decide) ?_
    refine lv_aload_n hx hb dX9_work_61 rfl (lv_at hl 0 rfl) ?_
    refine va_get (D := D) (v := .int (gI z3 7)) (C := RX9) (T := TX9) (N := 36) hx hb hts iX9 hown hK.1 hP 0 rfl rfl 7 (by decide) (hts _ t_889) (fun _ h9 => h9) rfl dX9_work_62 ?_
    obtain ⟨J5, eJ5, h⟩ := jn_some h
    have hJ5 : ∀ (i6 : Int32) (i7 : Int32) (H : Heap) (locs : List Loc) (ls : Array Slot), J5 i6 i7 = some y → va_P D classes (rc9 a q_t Q_t (sT (sT z3 24 0 (gI z3 9)) 24 1 (gI z3 8))) H → va_D A (rc9 a q_t Q_t (sT (sT z3 24 0 (gI z3 9)) 24 1 (gI z3 8))) → va_S A s.heap H locs → lv_has ls 3 [(0, .ref q_t)] → W p l e (rmM 12 0 0 264) s m #[.ref q_t] below meth c H locs 0 0 (MQ below (va_Qi (fun r (_ : Unit) => r = y.1) (Bw D A (fun _ => rc9 a q_t Q_t y.2)) A) #[.ref q_t] s 0 0 A) (F0 m 77 ls [.int i6, .int i7, .ref (Q_t 24)]) := by
      intro i6 i7 H locs ls h hP hD hS hl
      rw [eJ5] at h
      obtain ⟨g8, h⟩ := gd_some h
      refine ast_i hx hb hK.1 hP hD hS 11 0 rfl rfl i7.toNatClampNeg (ix_g g8) dX9_work_77 (fun H locs hP hD hS => ?_)
      rw [u9_24] at hP hD
      refine lv_aload_n hx hb dX9_work_78 rfl (lv_at hl 0 rfl) ?_
      refine va_get (D := D) (v := .ref (Q_t 24)) (C := RX9) (T := TX9) (N := 36) hx hb hts iX9 hown hK.1 hP 0 rfl rfl 24 (by decide) (hts _ t_906) (fun _ h9 => h9) rfl dX9_work_79 ?_
      refine lv_iconst (v := 3) hx hb dX9_work_82 (by decide) ?_
      refine lv_aload_n hx hb dX9_work_83 rfl (lv_at hl 0 rfl) ?_
      refine va_get (D := D) (v := .ref (Q_t 24)) (C := RX9) (T := TX9) (N := 36) hx hb hts iX9 hown hK.1 hP 0 rfl rfl 24 (by decide) (hts _ t_906) (fun _ h9 => h9) rfl dX9_work_84 ?_
      refine lv_iconst (v := 2) hx hb dX9_work_87 (by decide) ?_
      refine ald_i hx hb hK.1 hP 11 0 rfl rfl 2 (ix_lit (by decide)) dX9_work_88 ?_
      refine lv_topi (fun v9 ev9 => ?_)
      have h := nm_some h v9 ev9
      refine ast_i hx hb hK.1 hP hD hS 11 0 rfl rfl 3 (ix_lit (by decide)) dX9_work_89 (fun H locs hP hD hS => ?_)
      rw [u9_24] at hP hD
      refine lv_iconst (v := 4) hx hb dX9_work_90 (by decide) ?_
      refine lv_istore_n (lv' := [(1, .int 4), (0, .ref q_t)]) hx hb dX9_work_91 rfl hl (by decide) rfl (fun ls hl => ?_)
      refine wX9_work_92 C hK hA ?_ FU (sT (sT (sT (sT z3 24 0 (gI z3 9)) 24 1 (gI z3 8)) 24 i7.toNatClampNeg i6) 24 3 v9) 4 _ _ ls h hP hD hS (lv_sub hl [1, 0] rfl)
      · intro z12 H locs ls h hP hD hS hl
        refine lv_iconst (v := 0) hx hb dX9_work_111 (by decide) ?_
        refine lv_istore_n (lv' := [(1, .int 0), (0, .ref q_t)]) hx hb dX9_work_112 rfl hl (by decide) rfl (fun ls hl => ?_)
        refine wX9_work_113 C hK hA ?_ FU z12 0 _ _ ls h hP hD hS (lv_sub hl [1, 0] rfl)
        · intro z16 H locs ls h hP hD hS hl
          refine lv_iconst (v := 0) hx hb dX9_work_144 (by decide) ?_
          refine lv_istore_n (lv' := [(1, .int 0), (0, .ref q_t)]) hx hb dX9_work_145 rfl hl (by decide) rfl (fun ls hl => ?_)
          refine wX9_work_146 C hK hA ?_ FU z16 0 _ _ ls h hP hD hS (lv_sub hl [1, 0] rfl)
          · intro z24 H locs ls h hP hD hS hl
            refine lv_aload_n hx hb dX9_work_227 rfl (lv_at hl 0 rfl) ?_
            refine va_get (D := D) (v := .int (gI z24 9)) (C := RX9) (T := TX9) (N := 36) hx hb hts iX9 hown hK.1 hP 0 rfl rfl 9 (by decide) (hts _ t_891) (fun _ h9 => h9) rfl dX9_work_228 ?_
            exact rMi C rfl h (g := fun y => rc9 a q_t Q_t y.2) (pr := fun y => y.1) hP hD hS dX9_work_231
    refine lv_if_ge (tgt := 73) hx hb dX9_work_65 (by decide) (fun c25 => ?_) (fun c25 => ?_)
    · have h := ite_t c25 h
      refine lv_aload_n hx hb dX9_work_73 rfl (lv_at hl 0 rfl) ?_
      refine va_get (D := D) (v := .int (gI z3 7)) (C := RX9) (T := TX9) (N := 36) hx hb hts iX9 hown hK.1 hP 0 rfl rfl 7 (by decide) (hts _ t_889) (fun _ h9 => h9) rfl dX9_work_74 ?_
      exact hJ5 (gI z3 7) 2 _ _ ls h hP hD hS (lv_sub hl [0] rfl)
    · have h := ite_f c25 h
      refine lv_bipush (v := 60) hx hb dX9_work_68 (by decide) ?_
      refine lv_goto (tgt := 77) hx hb dX9_work_70 (by decide) ?_
      exact hJ5 60 2 _ _ ls h hP hD hS (lv_sub hl [0] rfl)
  · have h := ite_t c4 h
    refine lv_bipush (v := (-2)) hx hb dX9_work_28 (by decide) ?_
    refine lv_aload_n hx hb dX9_work_30 rfl (lv_at hl 0 rfl) ?_
    refine va_get (D := D) (v := .int (gI z3 13)) (C := RX9) (T := TX9) (N := 36) hx hb hts iX9 hown hK.1 hP 0 rfl rfl 13 (by decide) (hts _ t_895) (fun _ h9 => h9) rfl dX9_work_31 ?_
    refine lv_isub hx hb dX9_work_34 ?_
    exact rMi C rfl h (g := fun y => rc9 a q_t Q_t y.2) (pr := fun y => y.1) hP hD hS dX9_work_35

set_option maxHeartbeats 4000000 in
set_option maxRecDepth 100000 in
theorem mX9_worth (l : Launch) (D : va_G) (a : Nat → ClassId) {q_t : Nat} {Q_t : Nat → Nat} {z_t : Sx} {x1 : Int32} {y : Int64 × Sx} (h : fX9_worth z_t x1 = some y) (sz : Nat) : CMl (S := Unit) l MX9_worth 5 117 0 0 D a [.ref q_t, .int x1] (rc9 a q_t Q_t z_t) sz (fun r _ => r = y.1) (fun _ => rc9 a q_t Q_t y.2) := by
  unfold fX9_worth at h
  refine entMl (by decide) (Nat.le_of_ble_eq_true rfl) ?_
  intro p e s m below meth c C hK A hA hP hD ls hl
  obtain ⟨hx, hb, hml, hown, hts, hr, hlocks, hnm⟩ := id C
  have hb : c.code = cX9_worth := hb
  have hown : s.vm.findClass RX9 = some m.cls := hown
  have hS : va_S A s.heap s.heap [] := va_S.rf
  have hl : lv_has ls 2 [(0, .ref q_t), (1, .int x1)] := hl
  refine lv_aload_n hx hb dX9_worth_0 rfl (lv_at hl 0 rfl) ?_
  obtain ⟨r2, hc1, h⟩ := bd_some h
  refine cRi (runV (As := []) (rest := []) C (mX9_isWork l D a (q_t := q_t) (Q_t := Q_t) hc1) lk_V_9_301 okN_X9_isWork ⟨Nat.le_of_ble_eq_true rfl, Nat.le_of_ble_eq_true rfl⟩ ⟨rfl, rfl⟩ (preV (preR hK hP) (recvOf hK hP 0 rfl (ci := 9) rfl)) hl.1 rfl (Nat.le_of_ble_eq_true rfl) dX9_worth_1 ⟨Nat.le_of_ble_eq_true rfl, Nat.le_of_ble_eq_true rfl⟩) ?_
  refine lv_if_eq (tgt := 17) hx hb dX9_worth_4 (by decide) (fun c3 => ?_) (fun c3 => ?_)
  · have h := ite_t c3 h
    refine lv_ldc2 hx hb hown (hts _ t_1287) dX9_worth_17 ?_
    exact rMl C rfl h (g := fun y => rc9 a q_t Q_t y.2) (pr := fun y => y.1) hP hD hS dX9_worth_20
  · have h := ite_f c3 h
    refine lv_iload_n hx hb dX9_worth_7 rfl (lv_at hl 1 rfl) ?_
    refine lv_i2l (v := x1.toInt64) hx hb dX9_worth_8 rfl ?_
    refine lv_lconst (v := 0) hx hb dX9_worth_9 (by decide) ?_
    refine lv_lconst (v := 1) hx hb dX9_worth_10 (by decide) ?_
    obtain ⟨r5, hc4, h⟩ := bd_some h
    refine cRi (runS (As := [.long x1.toInt64, .long 0, .long 1]) (rest := []) C (mX9_in l D a hc4) lk_S_9_118 okN_X9_in ⟨Nat.le_of_ble_eq_true rfl, Nat.le_of_ble_eq_true rfl⟩ ⟨rfl, rfl⟩ (preR hK (P_of_map (wc := []) hP [] rfl)) hl.1 rfl (Nat.le_of_ble_eq_true rfl) dX9_worth_11 ⟨Nat.le_of_ble_eq_true rfl, Nat.le_of_ble_eq_true rfl⟩) ?_
    refine lv_if_ne (tgt := 21) hx hb dX9_worth_14 (by decide) (fun c6 => ?_) (fun c6 => ?_)
    · have h := ite_f c6 h
      refine lv_aload_n hx hb dX9_worth_21 rfl (lv_at hl 0 rfl) ?_
      refine lv_aload_n hx hb dX9_worth_22 rfl (lv_at hl 0 rfl) ?_
      refine lv_iconst (v := (-1)) hx hb dX9_worth_23 (by decide) ?_
      obtain ⟨r8, z9, hc7, h⟩ := bd2_some h
      refine cWl (runV (As := [.int (-1)]) (rest := [.ref q_t]) C (mX9_meanOf l D a (q_t := q_t) (Q_t := Q_t) hc7 s.heap.size) lk_V_9_364 okN_X9_meanOf ⟨Nat.le_of_ble_eq_true rfl, Nat.le_of_ble_eq_true rfl⟩ ⟨rfl, rfl⟩ (preV (preM hK hP hD) (recvOf hK hP 0 rfl (ci := 9) rfl)) hl.1 rfl (Nat.le_of_ble_eq_true rfl) dX9_worth_24 ⟨Nat.le_of_ble_eq_true rfl, Nat.le_of_ble_eq_true rfl⟩) hP hD hS hA (fun H locs hP hD hS => ?_)
      have hP : va_P D classes (rc9 a q_t Q_t z9) H := hP
      have hD : va_D A (rc9 a q_t Q_t z9) := hD
      refine lv_aload_n hx hb dX9_worth_27 rfl (lv_at hl 0 rfl) ?_
      refine lv_aload_n hx hb dX9_worth_28 rfl (lv_at hl 0 rfl) ?_
      refine va_get (D := D) (v := .ref (Q_t 24)) (C := RX9) (T := TX9) (N := 36) hx hb hts iX9 hown hK.1 hP 0 rfl rfl 24 (by decide) (hts _ t_906) (fun _ h9 => h9) rfl dX9_worth_29 ?_
      refine lv_bipush (v := 8) hx hb dX9_worth_32 (by decide) ?_
      refine ald_i hx hb hK.1 hP 11 0 rfl rfl 8 (ix_lit (by decide)) dX9_worth_34 ?_
      obtain ⟨r11, hc10, h⟩ := bd_some h
      refine cRl (runV (As := [.int (gT z9 24 8)]) (rest := [.long r8, .ref q_t]) C (mX9_hundreds l D a (q_t := q_t) hc10) lk_V_9_367 okN_X9_hundreds ⟨Nat.le_of_ble_eq_true rfl, Nat.le_of_ble_eq_true rfl⟩ ⟨rfl, rfl⟩ (preV (preR hK (P_of_map (wc := []) hP [] rfl)) (recvOf hK hP 0 rfl (ci := 9) rfl)) hl.1 rfl (Nat.le_of_ble_eq_true rfl) dX9_worth_35 ⟨Nat.le_of_ble_eq_true rfl, Nat.le_of_ble_eq_true rfl⟩) ?_
      refine lv_iload_n hx hb dX9_worth_38 rfl (lv_at hl 1 rfl) ?_
      obtain ⟨r13, hc12, h⟩ := bd_some h
      refine cRl (runV (As := [.long r8, .long r11, .int x1]) (rest := []) C (mX9_partOf l D a (q_t := q_t) hc12) lk_V_9_370 okN_X9_partOf ⟨Nat.le_of_ble_eq_true rfl, Nat.le_of_ble_eq_true rfl⟩ ⟨rfl, rfl⟩ (preV (preR hK (P_of_map (wc := []) hP [] rfl)) (recvOf hK hP 0 rfl (ci := 9) rfl)) hl.1 rfl (Nat.le_of_ble_eq_true rfl) dX9_worth_39 ⟨Nat.le_of_ble_eq_true rfl, Nat.le_of_ble_eq_true rfl⟩) ?_
      exact rMl C rfl h (g := fun y => rc9 a q_t Q_t y.2) (pr := fun y => y.1) hP hD hS dX9_worth_42
    · have h := ite_t c6 h
      refine lv_ldc2 hx hb hown (hts _ t_1287) dX9_worth_17 ?_
      exact rMl C rfl h (g := fun y => rc9 a q_t Q_t y.2) (pr := fun y => y.1) hP hD hS dX9_worth_20

set_option maxHeartbeats 4000000 in
set_option maxRecDepth 100000 in
theorem mX9_would (l : Launch) (D : va_G) (a : Nat → ClassId) {q_t : Nat} {Q_t : Nat → Nat} {z_t : Sx} {x1 : Int32} {x2 : Int32} {y : Int32 × Sx} (h : fX9_would z_t x1 x2 = some y) (sz : Nat) : CMi (S := Unit) l MX9_would 6 141 0 0 D a [.ref q_t, .int x1, .int x2] (rc9 a q_t Q_t z_t) sz (fun r _ => r = y.1) (fun _ => rc9 a q_t Q_t y.2) := by
  unfold fX9_would at h
  refine entMi (by decide) (Nat.le_of_ble_eq_true rfl) ?_
  intro p e s m below meth c C hK A hA hP hD ls hl
  obtain ⟨hx, hb, hml, hown, hts, hr, hlocks, hnm⟩ := id C
  have hb : c.code = cX9_would := hb
  have hown : s.vm.findClass RX9 = some m.cls := hown
  have hS : va_S A s.heap s.heap [] := va_S.rf
  have hl : lv_has ls 5 [(0, .ref q_t), (1, .int x1), (2, .int x2)] := hl
  refine lv_aload_n hx hb dX9_would_0 rfl (lv_at hl 0 rfl) ?_
  obtain ⟨r2, hc1, h⟩ := bd_some h
  refine cRi (runV (As := []) (rest := []) C (mX9_isWork l D a (q_t := q_t) (Q_t := Q_t) hc1) lk_V_9_301 okN_X9_isWork ⟨Nat.le_of_ble_eq_true rfl, Nat.le_of_ble_eq_true rfl⟩ ⟨rfl, rfl⟩ (preV (preR hK hP) (recvOf hK hP 0 rfl (ci := 9) rfl)) hl.1 rfl (Nat.le_of_ble_eq_true rfl) dX9_would_1 ⟨Nat.le_of_ble_eq_true rfl, Nat.le_of_ble_eq_true rfl⟩) ?_
  obtain ⟨J3, eJ3, h⟩ := jn_some h
  have hJ3 : ∀ (H : Heap) (locs : List Loc) (ls : Array Slot), J3 = some y → va_P D classes (rc9 a q_t Q_t z_t) H → va_D A (rc9 a q_t Q_t z_t) → va_S A s.heap H locs → lv_has ls 5 [] → W p l e (rmM 6 0 0 141) s m #[.ref q_t, .int x1, .int x2] below meth c H locs 0 0 (MQ below (va_Qi (fun r (_ : Unit) => r = y.1) (Bw D A (fun _ => rc9 a q_t Q_t y.2)) A) #[.ref q_t, .int x1, .int x2] s 0 0 A) (F0 m 27 ls []) := by
    intro H locs ls h hP hD hS hl
    rw [eJ3] at h
    refine lv_ldcw hx hb hown (hts _ t_1199) dX9_would_27 ?_
    exact rMi C rfl h (g := fun y => rc9 a q_t Q_t y.2) (pr := fun y => y.1) hP hD hS dX9_would_30
  refine lv_if_eq (tgt := 27) hx hb dX9_would_4 (by decide) (fun c4 => ?_) (fun c4 => ?_)
  · have h := ite_t c4 h
    exact hJ3 _ _ ls h hP hD hS (lv_sub hl [] rfl)
  · have h := ite_f c4 h
    refine lv_aload_n hx hb dX9_would_7 rfl (lv_at hl 0 rfl) ?_
    refine lv_iload_n hx hb dX9_would_8 rfl (lv_at hl 1 rfl) ?_
    obtain ⟨r6, hc5, h⟩ := bd_some h
    refine cRi (runV (As := [.int x1]) (rest := []) C (mX9_isRule l D a (q_t := q_t) (Q_t := Q_t) hc5) lk_V_9_335 okN_X9_isRule ⟨Nat.le_of_ble_eq_true rfl, Nat.le_of_ble_eq_true rfl⟩ ⟨rfl, rfl⟩ (preV (preR hK hP) (recvOf hK hP 0 rfl (ci := 9) rfl)) hl.1 rfl (Nat.le_of_ble_eq_true rfl) dX9_would_9 ⟨Nat.le_of_ble_eq_true rfl, Nat.le_of_ble_eq_true rfl⟩) ?_
    refine lv_if_eq (tgt := 27) hx hb dX9_would_12 (by decide) (fun c7 => ?_) (fun c7 => ?_)
    · have h := ite_t c7 h
      exact hJ3 _ _ ls h hP hD hS (lv_sub hl [] rfl)
    · have h := ite_f c7 h
      refine lv_iload_n hx hb dX9_would_15 rfl (lv_at hl 2 rfl) ?_
      refine lv_i2l (v := x2.toInt64) hx hb dX9_would_16 rfl ?_
      refine lv_lconst (v := 0) hx hb dX9_would_17 (by decide) ?_
      refine lv_ldc2 hx hb hown (hts _ t_1270) dX9_would_18 ?_
      obtain ⟨r9, hc8, h⟩ := bd_some h
      refine cRi (runS (As := [.long x2.toInt64, .long 0, .long 4]) (rest := []) C (mX9_in l D a hc8) lk_S_9_118 okN_X9_in ⟨Nat.le_of_ble_eq_true rfl, Nat.le_of_ble_eq_true rfl⟩ ⟨rfl, rfl⟩ (preR hK (P_of_map (wc := []) hP [] rfl)) hl.1 rfl (Nat.le_of_ble_eq_true rfl) dX9_would_21 ⟨Nat.le_of_ble_eq_true rfl, Nat.le_of_ble_eq_true rfl⟩) ?_
      refine lv_if_ne (tgt := 31) hx hb dX9_would_24 (by decide) (fun c10 => ?_) (fun c10 => ?_)
      · have h := ite_f c10 h
        refine lv_aload_n hx hb dX9_would_31 rfl (lv_at hl 0 rfl) ?_
        obtain ⟨z12, hc11, h⟩ := bd_some h
        refine cWv (runV (As := []) (rest := []) C (mX9_keeps l D a (q_t := q_t) (Q_t := Q_t) hc11 s.heap.size) lk_V_9_343 okN_X9_keeps ⟨Nat.le_of_ble_eq_true rfl, Nat.le_of_ble_eq_true rfl⟩ ⟨rfl, rfl⟩ (preV (preM hK hP hD) (recvOf hK hP 0 rfl (ci := 9) rfl)) hl.1 rfl (Nat.le_of_ble_eq_true rfl) dX9_would_32 ⟨Nat.le_of_ble_eq_true rfl, Nat.le_of_ble_eq_true rfl⟩) hP hD hS hA (fun H locs hP hD hS => ?_)
        have hP : va_P D classes (rc9 a q_t Q_t z12) H := hP
        have hD : va_D A (rc9 a q_t Q_t z12) := hD
        refine lv_aload_n hx hb dX9_would_35 rfl (lv_at hl 0 rfl) ?_
        refine lv_iload_n hx hb dX9_would_36 rfl (lv_at hl 1 rfl) ?_
        obtain ⟨r14, z15, hc13, h⟩ := bd2_some h
        refine cWi (runV (As := [.int x1]) (rest := []) C (mX9_passes l D a (q_t := q_t) (Q_t := Q_t) hc13 H.size) lk_V_9_338 okN_X9_passes ⟨Nat.le_of_ble_eq_true rfl, Nat.le_of_ble_eq_true rfl⟩ ⟨rfl, rfl⟩ (preV (preM hK hP hD) (recvOf hK hP 0 rfl (ci := 9) rfl)) hl.1 rfl (Nat.le_of_ble_eq_true rfl) dX9_would_37 ⟨Nat.le_of_ble_eq_true rfl, Nat.le_of_ble_eq_true rfl⟩) hP hD hS hA (fun H locs hP hD hS => ?_)
        have hP : va_P D classes (rc9 a q_t Q_t z15) H := hP
        have hD : va_D A (rc9 a q_t Q_t z15) := hD
        refine lv_istore_n (lv' := [(3, .int r14), (0, .ref q_t), (1, .int x1), (2, .int x2)]) hx hb dX9_would_40 rfl hl (by decide) rfl (fun ls hl => ?_)
        refine lv_iload_n hx hb dX9_would_41 rfl (lv_at hl 3 rfl) ?_
        obtain ⟨J16, eJ16, h⟩ := jn_some h
        have hJ16 : ∀ (i17 : Int32) (H : Heap) (locs : List Loc) (ls : Array Slot), J16 i17 = some y → va_P D classes (rc9 a q_t Q_t z15) H → va_D A (rc9 a q_t Q_t z15) → va_S A s.heap H locs → lv_has ls 5 [(0, .ref q_t)] → W p l e (rmM 6 0 0 141) s m #[.ref q_t, .int x1, .int x2] below meth c H locs 0 0 (MQ below (va_Qi (fun r (_ : Unit) => r = y.1) (Bw D A (fun _ => rc9 a q_t Q_t y.2)) A) #[.ref q_t, .int x1, .int x2] s 0 0 A) (F0 m 101 ls [.int i17]) := by
          intro i17 H locs ls h hP hD hS hl
          rw [eJ16] at h
          refine lv_istore (lv' := [(4, .int i17), (0, .ref q_t)]) hx hb dX9_would_101 hl (by decide) rfl (fun ls hl => ?_)
          refine lv_aload_n hx hb dX9_would_103 rfl (lv_at hl 1 rfl) ?_
          obtain ⟨z19, hc18, h⟩ := bd_some h
          refine cWv (runV (As := []) (rest := []) C (mX9_putsBack l D a (q_t := q_t) (Q_t := Q_t) hc18 H.size) lk_V_9_346 okN_X9_putsBack ⟨Nat.le_of_ble_eq_true rfl, Nat.le_of_ble_eq_true rfl⟩ ⟨rfl, rfl⟩ (preV (preM hK hP hD) (recvOf hK hP 0 rfl (ci := 9) rfl)) hl.1 rfl (Nat.le_of_ble_eq_true rfl) dX9_would_104 ⟨Nat.le_of_ble_eq_true rfl, Nat.le_of_ble_eq_true rfl⟩) hP hD hS hA (fun H locs hP hD hS => ?_)
          have hP : va_P D classes (rc9 a q_t Q_t z19) H := hP
          have hD : va_D A (rc9 a q_t Q_t z19) := hD
          refine lv_iload hx hb dX9_would_107 (lv_at hl 0 rfl) ?_
          exact rMi C rfl h (g := fun y => rc9 a q_t Q_t y.2) (pr := fun y => y.1) hP hD hS dX9_would_109
        refine lv_if_ne (tgt := 61) hx hb dX9_would_42 (by decide) (fun c20 => ?_) (fun c20 => ?_)
        · have h := ite_f c20 h
          refine lv_iload_n hx hb dX9_would_61 rfl (lv_at hl 3 rfl) ?_
          refine lv_iconst (v := 1) hx hb dX9_would_62 (by decide) ?_
          refine lv_icmp_ne (tgt := 74) hx hb dX9_would_63 (by decide) (fun c21 => ?_) (fun c21 => ?_)
          · have h := ite_f c21 h
            refine lv_iload_n hx hb dX9_would_74 rfl (lv_at hl 3 rfl) ?_
            refine lv_iconst (v := 2) hx hb dX9_would_75 (by decide) ?_
            refine lv_icmp_ne (tgt := 88) hx hb dX9_would_76 (by decide) (fun c22 => ?_) (fun c22 => ?_)
            · have h := ite_f c22 h
              refine lv_iload_n hx hb dX9_would_88 rfl (lv_at hl 3 rfl) ?_
              refine lv_iconst (v := 3) hx hb dX9_would_89 (by decide) ?_
              refine lv_icmp_ne (tgt := 100) hx hb dX9_would_90 (by decide) (fun c23 => ?_) (fun c23 => ?_)
              · have h := ite_f c23 h
                refine lv_iload_n hx hb dX9_would_100 rfl (lv_at hl 0 rfl) ?_
                exact hJ16 r14 _ _ ls h hP hD hS (lv_sub hl [1] rfl)
              · have h := ite_t c23 h
                refine lv_aload_n hx hb dX9_would_93 rfl (lv_at hl 1 rfl) ?_
                obtain ⟨r25, hc24, h⟩ := bd_some h
                refine cRi (runV (As := []) (rest := []) C (mX9_hidden l D a (q_t := q_t) (Q_t := Q_t) hc24) lk_V_9_307 okN_X9_hidden ⟨Nat.le_of_ble_eq_true rfl, Nat.le_of_ble_eq_true rfl⟩ ⟨rfl, rfl⟩ (preV (preR hK hP) (recvOf hK hP 0 rfl (ci := 9) rfl)) hl.1 rfl (Nat.le_of_ble_eq_true rfl) dX9_would_94 ⟨Nat.le_of_ble_eq_true rfl, Nat.le_of_ble_eq_true rfl⟩) ?_
                refine lv_goto (tgt := 101) hx hb dX9_would_97 (by decide) ?_
                exact hJ16 r25 _ _ ls h hP hD hS (lv_sub hl [1] rfl)
            · have h := ite_t c22 h
              refine lv_aload_n hx hb dX9_would_79 rfl (lv_at hl 1 rfl) ?_
              refine va_get (D := D) (v := .ref (Q_t 24)) (C := RX9) (T := TX9) (N := 36) hx hb hts iX9 hown hK.1 hP 0 rfl rfl 24 (by decide) (hts _ t_906) (fun _ h9 => h9) rfl dX9_would_80 ?_
              refine lv_iconst (v := 3) hx hb dX9_would_83 (by decide) ?_
              refine ald_i hx hb hK.1 hP 11 0 rfl rfl 3 (ix_lit (by decide)) dX9_would_84 ?_
              refine lv_goto (tgt := 101) hx hb dX9_would_85 (by decide) ?_
              exact hJ16 (gT z15 24 3) _ _ ls h hP hD hS (lv_sub hl [1] rfl)
          · have h := ite_t c21 h
            refine lv_aload_n hx hb dX9_would_66 rfl (lv_at hl 1 rfl) ?_
            refine lv_iconst (v := 1) hx hb dX9_would_67 (by decide) ?_
            obtain ⟨r27, hc26, h⟩ := bd_some h
            refine cRi (runV (As := [.int 1]) (rest := []) C (mX9_thatAre l D a (q_t := q_t) (Q_t := Q_t) hc26) lk_V_9_313 okN_X9_thatAre ⟨Nat.le_of_ble_eq_true rfl, Nat.le_of_ble_eq_true rfl⟩ ⟨rfl, rfl⟩ (preV (preR hK hP) (recvOf hK hP 0 rfl (ci := 9) rfl)) hl.1 rfl (Nat.le_of_ble_eq_true rfl) dX9_would_68 ⟨Nat.le_of_ble_eq_true rfl, Nat.le_of_ble_eq_true rfl⟩) ?_
            refine lv_goto (tgt := 101) hx hb dX9_would_71 (by decide) ?_
            exact hJ16 r27 _ _ ls h hP hD hS (lv_sub hl [1] rfl)
        · have h := ite_t c20 h
          refine lv_aload_n hx hb dX9_would_45 rfl (lv_at hl 1 rfl) ?_
          refine va_get (D := D) (v := .ref (Q_t 24)) (C := RX9) (T := TX9) (N := 36) hx hb hts iX9 hown hK.1 hP 0 rfl rfl 24 (by decide) (hts _ t_906) (fun _ h9 => h9) rfl dX9_would_46 ?_
          refine lv_iconst (v := 4) hx hb dX9_would_49 (by decide) ?_
          refine ald_i hx hb hK.1 hP 11 0 rfl rfl 4 (ix_lit (by decide)) dX9_would_50 ?_
          refine lv_aload_n hx hb dX9_would_51 rfl (lv_at hl 1 rfl) ?_
          refine va_get (D := D) (v := .ref (Q_t 25)) (C := RX9) (T := TX9) (N := 36) hx hb hts iX9 hown hK.1 hP 0 rfl rfl 25 (by decide) (hts _ t_907) (fun _ h9 => h9) rfl dX9_would_52 ?_
          refine lv_iconst (v := 4) hx hb dX9_would_55 (by decide) ?_
          refine ald_i hx hb hK.1 hP 12 0 rfl rfl 4 (ix_lit (by decide)) dX9_would_56 ?_
          refine lv_isub hx hb dX9_would_57 ?_
          refine lv_goto (tgt := 101) hx hb dX9_would_58 (by decide) ?_
          exact hJ16 ((gT z15 24 4) - (gT z15 25 4)) _ _ ls h hP hD hS (lv_sub hl [1] rfl)
      · have h := ite_t c10 h
        exact hJ3 _ _ ls h hP hD hS (lv_sub hl [] rfl)

set_option maxHeartbeats 4000000 in
set_option maxRecDepth 100000 in
theorem mJ6_bitCount_0f7a4 (l : Launch) (D : va_G) (a : Nat → ClassId) {x0 : Int32} {y : Int32} (h : fJ6_bitCount_0f7a4 x0 = some y) : CRi l MJ6_bitCount_0f7a4 0 0 D a [.int x0] ([]) (fun r => r = y) := by
  unfold fJ6_bitCount_0f7a4 at h
  refine entR (by decide) (Nat.le_of_ble_eq_true rfl) ?_
  intro p e s m below meth c C hK hP ls hl
  obtain ⟨hx, hb, hml, hown, hts, hr, hlocks, hnm⟩ := id C
  have hb : c.code = cJ6_bitCount_0f7a4 := hb
  have hown : s.vm.findClass RJ6 = some m.cls := hown
  have hl : lv_has ls 1 [(0, .int x0)] := hl
  refine lv_iload_n hx hb dJ6_bitCount_0f7a4_0 rfl (lv_at hl 0 rfl) ?_
  refine lv_iload_n hx hb dJ6_bitCount_0f7a4_1 rfl (lv_at hl 0 rfl) ?_
  refine lv_iconst (v := 1) hx hb dJ6_bitCount_0f7a4_2 (by decide) ?_
  refine lv_iushr (v := (x0.toUInt32 >>> (Int32.toUInt32 1 &&& Int32.toUInt32 31)).toInt32) hx hb dJ6_bitCount_0f7a4_3 rfl ?_
  refine lv_ldcw hx hb hown (hts _ t_633) dJ6_bitCount_0f7a4_4 ?_
  refine lv_iand hx hb dJ6_bitCount_0f7a4_7 ?_
  refine lv_isub hx hb dJ6_bitCount_0f7a4_8 ?_
  refine lv_topi (fun v1 ev1 => ?_)
  have h := nm_some h v1 ev1
  refine lv_istore_n (lv' := [(0, .int v1)]) hx hb dJ6_bitCount_0f7a4_9 rfl hl (by decide) rfl (fun ls hl => ?_)
  refine lv_iload_n hx hb dJ6_bitCount_0f7a4_10 rfl (lv_at hl 0 rfl) ?_
  refine lv_ldcw hx hb hown (hts _ t_634) dJ6_bitCount_0f7a4_11 ?_
  refine lv_iand hx hb dJ6_bitCount_0f7a4_14 ?_
  refine lv_iload_n hx hb dJ6_bitCount_0f7a4_15 rfl (lv_at hl 0 rfl) ?_
  refine lv_iconst (v := 2) hx hb dJ6_bitCount_0f7a4_16 (by decide) ?_
  refine lv_iushr (v := (v1.toUInt32 >>> (Int32.toUInt32 2 &&& Int32.toUInt32 31)).toInt32) hx hb dJ6_bitCount_0f7a4_17 rfl ?_
  refine lv_ldcw hx hb hown (hts _ t_634) dJ6_bitCount_0f7a4_18 ?_
  refine lv_iand hx hb dJ6_bitCount_0f7a4_21 ?_
  refine lv_iadd hx hb dJ6_bitCount_0f7a4_22 ?_
  refine lv_topi (fun v2 ev2 => ?_)
  have h := nm_some h v2 ev2
  refine lv_istore_n (lv' := [(0, .int v2)]) hx hb dJ6_bitCount_0f7a4_23 rfl hl (by decide) rfl (fun ls hl => ?_)
  refine lv_iload_n hx hb dJ6_bitCount_0f7a4_24 rfl (lv_at hl 0 rfl) ?_
  refine lv_iload_n hx hb dJ6_bitCount_0f7a4_25 rfl (lv_at hl 0 rfl) ?_
  refine lv_iconst (v := 4) hx hb dJ6_bitCount_0f7a4_26 (by decide) ?_
  refine lv_iushr (v := (v2.toUInt32 >>> (Int32.toUInt32 4 &&& Int32.toUInt32 31)).toInt32) hx hb dJ6_bitCount_0f7a4_27 rfl ?_
  refine lv_iadd hx hb dJ6_bitCount_0f7a4_28 ?_
  refine lv_ldcw hx hb hown (hts _ t_635) dJ6_bitCount_0f7a4_29 ?_
  refine lv_iand hx hb dJ6_bitCount_0f7a4_32 ?_
  refine lv_topi (fun v3 ev3 => ?_)
  have h := nm_some h v3 ev3
  refine lv_istore_n (lv' := [(0, .int v3)]) hx hb dJ6_bitCount_0f7a4_33 rfl hl (by decide) rfl (fun ls hl => ?_)
  refine lv_iload_n hx hb dJ6_bitCount_0f7a4_34 rfl (lv_at hl 0 rfl) ?_
  refine lv_iload_n hx hb dJ6_bitCount_0f7a4_35 rfl (lv_at hl 0 rfl) ?_
  refine lv_bipush (v := 8) hx hb dJ6_bitCount_0f7a4_36 (by decide) ?_
  refine lv_iushr (v := (v3.toUInt32 >>> (Int32.toUInt32 8 &&& Int32.toUInt32 31)).toInt32) hx hb dJ6_bitCount_0f7a4_38 rfl ?_
  refine lv_iadd hx hb dJ6_bitCount_0f7a4_39 ?_
  refine lv_topi (fun v4 ev4 => ?_)
  have h := nm_some h v4 ev4
  refine lv_istore_n (lv' := [(0, .int v4)]) hx hb dJ6_bitCount_0f7a4_40 rfl hl (by decide) rfl (fun ls hl => ?_)
  refine lv_iload_n hx hb dJ6_bitCount_0f7a4_41 rfl (lv_at hl 0 rfl) ?_
  refine lv_iload_n hx hb dJ6_bitCount_0f7a4_42 rfl (lv_at hl 0 rfl) ?_
  refine lv_bipush (v := 16) hx hb dJ6_bitCount_0f7a4_43 (by decide) ?_
  refine lv_iushr (v := (v4.toUInt32 >>> (Int32.toUInt32 16 &&& Int32.toUInt32 31)).toInt32) hx hb dJ6_bitCount_0f7a4_45 rfl ?_
  refine lv_iadd hx hb dJ6_bitCount_0f7a4_46 ?_
  refine lv_topi (fun v5 ev5 => ?_)
  have h := nm_some h v5 ev5
  refine lv_istore_n (lv' := [(0, .int v5)]) hx hb dJ6_bitCount_0f7a4_47 rfl hl (by decide) rfl (fun ls hl => ?_)
  refine lv_iload_n hx hb dJ6_bitCount_0f7a4_48 rfl (lv_at hl 0 rfl) ?_
  refine lv_bipush (v := 63) hx hb dJ6_bitCount_0f7a4_49 (by decide) ?_
  refine lv_iand hx hb dJ6_bitCount_0f7a4_51 ?_
  exact rRi C rfl (Option.some.inj h) dJ6_bitCount_0f7a4_52

set_option maxHeartbeats 4000000 in
set_option maxRecDepth 100000 in
theorem mX8_isFault (l : Launch) (D : va_G) (a : Nat → ClassId) {q_t : Nat} {Q_t : Nat → Nat} {z_t : Sx} {Q_t_5 : Nat → Nat} {z_t_5 : Sx} {Q_t_5_0 : Nat → Nat} {z_t_5_0 : Sx} {x1 : Int32} {y : Int32} (h : fX8_isFault z_t z_t_5 z_t_5_0 x1 = some y) : CRi l MX8_isFault 0 0 D a [.ref q_t, .int x1] (rc8 a q_t Q_t z_t ++ (rc5 a (Q_t 5) Q_t_5 z_t_5 ++ (rc7 a (Q_t_5 0) Q_t_5_0 z_t_5_0))) (fun r => r = y) := by
  unfold fX8_isFault at h
  refine entR (by decide) (Nat.le_of_ble_eq_true rfl) ?_
  intro p e s m below meth c C hK hP ls hl
  obtain ⟨hx, hb, hml, hown, hts, hr, hlocks, hnm⟩ := id C
  have hb : c.code = cX8_isFault := hb
  have hown : s.vm.findClass RX8 = some m.cls := hown
  have hl : lv_has ls 2 [(0, .ref q_t), (1, .int x1)] := hl
  refine lv_iload_n hx hb dX8_isFault_0 rfl (lv_at hl 1 rfl) ?_
  refine lv_if_lt (tgt := 22) hx hb dX8_isFault_1 (by decide) (fun c1 => ?_) (fun c1 => ?_)
  · have h := ite_t c1 h
    refine lv_iconst (v := 0) hx hb dX8_isFault_22 (by decide) ?_
    exact rRz C rfl (Or.inl rfl) (Option.some.inj h) dX8_isFault_23
  · have h := ite_f c1 h
    refine lv_iload_n hx hb dX8_isFault_4 rfl (lv_at hl 1 rfl) ?_
    refine lv_aload_n hx hb dX8_isFault_5 rfl (lv_at hl 0 rfl) ?_
    refine va_get (D := D) (v := .ref (Q_t 5)) (C := RX8) (T := TX8) (N := 11) hx hb hts iX8 hown hK.1 hP 0 rfl rfl 5 (by decide) (hts _ t_305) (fun _ h9 => h9) rfl dX8_isFault_6 ?_
    refine va_get (D := D) (v := .ref (Q_t_5 0)) (C := RX5) (T := TX5) (N := 8) hx hb hts iX5 hown hK.1 hP 2 rfl rfl 0 (by decide) (hts _ t_161) (fun _ h9 => h9) rfl dX8_isFault_9 ?_
    refine va_get (D := D) (v := .int (gI z_t_5_0 3)) (C := RX7) (T := TX7) (N := 18) hx hb hts iX7 hown hK.1 hP 5 rfl rfl 3 (by decide) (hts _ t_47) (fun _ h9 => h9) rfl dX8_isFault_12 ?_
    refine lv_icmp_ge (tgt := 22) hx hb dX8_isFault_15 (by decide) (fun c2 => ?_) (fun c2 => ?_)
    · have h := ite_t c2 h
      refine lv_iconst (v := 0) hx hb dX8_isFault_22 (by decide) ?_
      exact rRz C rfl (Or.inl rfl) (Option.some.inj h) dX8_isFault_23
    · have h := ite_f c2 h
      refine lv_iconst (v := 1) hx hb dX8_isFault_18 (by decide) ?_
      refine lv_goto (tgt := 23) hx hb dX8_isFault_19 (by decide) ?_
      exact rRz C rfl (Or.inr rfl) (Option.some.inj h) dX8_isFault_23

set_option maxHeartbeats 4000000 in
set_option maxRecDepth 100000 in
theorem mX8_fault (l : Launch) (D : va_G) (a : Nat → ClassId) {q_t : Nat} {Q_t : Nat → Nat} {z_t : Sx} {Q_t_5 : Nat → Nat} {z_t_5 : Sx} {Q_t_5_0 : Nat → Nat} {z_t_5_0 : Sx} {Q_t_5_1 : Nat → Nat} {z_t_5_1 : Sx} {x1 : Int32} {x2 : Int32} {y : Int32} (h : fX8_fault z_t z_t_5 z_t_5_0 z_t_5_1 x1 x2 = some y) : CRi l MX8_fault 1 23 D a [.ref q_t, .int x1, .int x2] (rc8 a q_t Q_t z_t ++ (rc5 a (Q_t 5) Q_t_5 z_t_5 ++ (rc7 a (Q_t_5 0) Q_t_5_0 z_t_5_0 ++ (rc0 a (Q_t_5 1) Q_t_5_1 z_t_5_1)))) (fun r => r = y) := by
  unfold fX8_fault at h
  refine entR (by decide) (Nat.le_of_ble_eq_true rfl) ?_
  intro p e s m below meth c C hK hP ls hl
  obtain ⟨hx, hb, hml, hown, hts, hr, hlocks, hnm⟩ := id C
  have hb : c.code = cX8_fault := hb
  have hown : s.vm.findClass RX8 = some m.cls := hown
  have hl : lv_has ls 5 [(0, .ref q_t), (1, .int x1), (2, .int x2)] := hl
  refine lv_aload_n hx hb dX8_fault_0 rfl (lv_at hl 0 rfl) ?_
  refine lv_iload_n hx hb dX8_fault_1 rfl (lv_at hl 1 rfl) ?_
  obtain ⟨r2, hc1, h⟩ := bd_some h
  refine cRi (runV (As := [.int x1]) (rest := []) C (mX8_isFault l D a (q_t := q_t) (Q_t := Q_t) (Q_t_5 := Q_t_5) (Q_t_5_0 := Q_t_5_0) hc1) lk_V_8_139 okN_X8_isFault ⟨Nat.le_of_ble_eq_true rfl, Nat.le_of_ble_eq_true rfl⟩ ⟨rfl, rfl⟩ (preV (preR hK (P_of_map (wc := rc8 a q_t Q_t z_t ++ (rc5 a (Q_t 5) Q_t_5 z_t_5 ++ (rc7 a (Q_t_5 0) Q_t_5_0 z_t_5_0))) hP [0, 1, 2, 3, 4, 5, 6, 7, 8, 9, 10, 11, 12, 13, 14, 15, 16, 17] rfl)) (recvOf hK hP 0 rfl (ci := 8) rfl)) hl.1 rfl (Nat.le_of_ble_eq_true rfl) dX8_fault_2 ⟨Nat.le_of_ble_eq_true rfl, Nat.le_of_ble_eq_true rfl⟩) ?_
  refine lv_if_ne (tgt := 11) hx hb dX8_fault_5 (by decide) (fun c3 => ?_) (fun c3 => ?_)
  · have h := ite_f c3 h
    refine lv_aload_n hx hb dX8_fault_11 rfl (lv_at hl 0 rfl) ?_
    refine va_get (D := D) (v := .ref (Q_t 5)) (C := RX8) (T := TX8) (N := 11) hx hb hts iX8 hown hK.1 hP 0 rfl rfl 5 (by decide) (hts _ t_305) (fun _ h9 => h9) rfl dX8_fault_12 ?_
    refine va_get (D := D) (v := .ref (Q_t_5 0)) (C := RX5) (T := TX5) (N := 8) hx hb hts iX5 hown hK.1 hP 2 rfl rfl 0 (by decide) (hts _ t_161) (fun _ h9 => h9) rfl dX8_fault_15 ?_
    refine lv_astore_n (lv' := [(3, .ref (Q_t_5 0)), (0, .ref q_t), (1, .int x1), (2, .int x2)]) hx hb dX8_fault_18 rfl hl (by decide) rfl (fun ls hl => ?_)
    refine lv_aload_n hx hb dX8_fault_19 rfl (lv_at hl 1 rfl) ?_
    refine va_get (D := D) (v := .ref (Q_t 5)) (C := RX8) (T := TX8) (N := 11) hx hb hts iX8 hown hK.1 hP 0 rfl rfl 5 (by decide) (hts _ t_305) (fun _ h9 => h9) rfl dX8_fault_20 ?_
    refine va_get (D := D) (v := .ref (Q_t_5 1)) (C := RX5) (T := TX5) (N := 8) hx hb hts iX5 hown hK.1 hP 2 rfl rfl 1 (by decide) (hts _ t_163) (fun _ h9 => h9) rfl dX8_fault_23 ?_
    refine lv_astore (lv' := [(4, .ref (Q_t_5 1)), (3, .ref (Q_t_5 0)), (0, .ref q_t), (1, .int x1), (2, .int x2)]) hx hb dX8_fault_26 hl (by decide) rfl (fun ls hl => ?_)
    refine lv_iload_n hx hb dX8_fault_28 rfl (lv_at hl 4 rfl) ?_
    by_cases c4_0 : x2 = 0
    · have h := ite_t c4_0 h
      refine lv_tableIn (off := 43) (tgt := 72) hx hb dX8_fault_29 (by rw [c4_0]; decide) (by rw [c4_0]; decide) (by rw [c4_0]; decide) (by decide) ?_
      refine lv_aload_n hx hb dX8_fault_72 rfl (lv_at hl 1 rfl) ?_
      refine va_get (D := D) (v := .ref (Q_t_5_0 8)) (C := RX7) (T := TX7) (N := 18) hx hb hts iX7 hown hK.1 hP 5 rfl rfl 8 (by decide) (hts _ t_57) (fun _ h9 => h9) rfl dX8_fault_73 ?_
      refine lv_iload_n hx hb dX8_fault_76 rfl (lv_at hl 3 rfl) ?_
      obtain ⟨r6, hc5, h⟩ := bd_some h
      refine cRi (runS (As := [.ref (Q_t_5_0 8), .int x1]) (rest := []) C (mX8_at l D a (q_p0 := (Q_t_5_0 8)) hc5) lk_S_8_129 okN_X8_at ⟨Nat.le_of_ble_eq_true rfl, Nat.le_of_ble_eq_true rfl⟩ ⟨rfl, rfl⟩ (preR hK (P_of_map (wc := ra0 a (Q_t_5_0 8) 10 (gT z_t_5_0 8)) hP [9] rfl)) hl.1 rfl (Nat.le_of_ble_eq_true rfl) dX8_fault_77 ⟨Nat.le_of_ble_eq_true rfl, Nat.le_of_ble_eq_true rfl⟩) ?_
      exact rRi C rfl (Option.some.inj h) dX8_fault_80
    have h := ite_f c4_0 h
    by_cases c4_1 : x2 = 1
    · have h := ite_t c4_1 h
      refine lv_tableIn (off := 52) (tgt := 81) hx hb dX8_fault_29 (by rw [c4_1]; decide) (by rw [c4_1]; decide) (by rw [c4_1]; decide) (by decide) ?_
      refine lv_aload_n hx hb dX8_fault_81 rfl (lv_at hl 1 rfl) ?_
      refine va_get (D := D) (v := .ref (Q_t_5_0 9)) (C := RX7) (T := TX7) (N := 18) hx hb hts iX7 hown hK.1 hP 5 rfl rfl 9 (by decide) (hts _ t_62) (fun _ h9 => h9) rfl dX8_fault_82 ?_
      refine lv_iload_n hx hb dX8_fault_85 rfl (lv_at hl 3 rfl) ?_
      obtain ⟨r8, hc7, h⟩ := bd_some h
      refine cRi (runS (As := [.ref (Q_t_5_0 9), .int x1]) (rest := []) C (mX8_at l D a (q_p0 := (Q_t_5_0 9)) hc7) lk_S_8_129 okN_X8_at ⟨Nat.le_of_ble_eq_true rfl, Nat.le_of_ble_eq_true rfl⟩ ⟨rfl, rfl⟩ (preR hK (P_of_map (wc := ra0 a (Q_t_5_0 9) 10 (gT z_t_5_0 9)) hP [10] rfl)) hl.1 rfl (Nat.le_of_ble_eq_true rfl) dX8_fault_86 ⟨Nat.le_of_ble_eq_true rfl, Nat.le_of_ble_eq_true rfl⟩) ?_
      exact rRi C rfl (Option.some.inj h) dX8_fault_89
    have h := ite_f c4_1 h
    by_cases c4_2 : x2 = 2
    · have h := ite_t c4_2 h
      refine lv_tableIn (off := 61) (tgt := 90) hx hb dX8_fault_29 (by rw [c4_2]; decide) (by rw [c4_2]; decide) (by rw [c4_2]; decide) (by decide) ?_
      refine lv_aload_n hx hb dX8_fault_90 rfl (lv_at hl 1 rfl) ?_
      refine va_get (D := D) (v := .ref (Q_t_5_0 10)) (C := RX7) (T := TX7) (N := 18) hx hb hts iX7 hown hK.1 hP 5 rfl rfl 10 (by decide) (hts _ t_67) (fun _ h9 => h9) rfl dX8_fault_91 ?_
      refine lv_iload_n hx hb dX8_fault_94 rfl (lv_at hl 3 rfl) ?_
      obtain ⟨r10, hc9, h⟩ := bd_some h
      refine cRi (runS (As := [.ref (Q_t_5_0 10), .int x1]) (rest := []) C (mX8_at l D a (q_p0 := (Q_t_5_0 10)) hc9) lk_S_8_129 okN_X8_at ⟨Nat.le_of_ble_eq_true rfl, Nat.le_of_ble_eq_true rfl⟩ ⟨rfl, rfl⟩ (preR hK (P_of_map (wc := ra0 a (Q_t_5_0 10) 10 (gT z_t_5_0 10)) hP [11] rfl)) hl.1 rfl (Nat.le_of_ble_eq_true rfl) dX8_fault_95 ⟨Nat.le_of_ble_eq_true rfl, Nat.le_of_ble_eq_true rfl⟩) ?_
      exact rRi C rfl (Option.some.inj h) dX8_fault_98
    have h := ite_f c4_2 h
    by_cases c4_3 : x2 = 3
    · have h := ite_t c4_3 h
      refine lv_tableIn (off := 70) (tgt := 99) hx hb dX8_fault_29 (by rw [c4_3]; decide) (by rw [c4_3]; decide) (by rw [c4_3]; decide) (by decide) ?_
      refine lv_aload_n hx hb dX8_fault_99 rfl (lv_at hl 1 rfl) ?_
      refine va_get (D := D) (v := .ref (Q_t_5_0 11)) (C := RX7) (T := TX7) (N := 18) hx hb hts iX7 hown hK.1 hP 5 rfl rfl 11 (by decide) (hts _ t_69) (fun _ h9 => h9) rfl dX8_fault_100 ?_
      refine lv_iload_n hx hb dX8_fault_103 rfl (lv_at hl 3 rfl) ?_
      obtain ⟨r12, hc11, h⟩ := bd_some h
      refine cRi (runS (As := [.ref (Q_t_5_0 11), .int x1]) (rest := []) C (mX8_at l D a (q_p0 := (Q_t_5_0 11)) hc11) lk_S_8_129 okN_X8_at ⟨Nat.le_of_ble_eq_true rfl, Nat.le_of_ble_eq_true rfl⟩ ⟨rfl, rfl⟩ (preR hK (P_of_map (wc := ra0 a (Q_t_5_0 11) 10 (gT z_t_5_0 11)) hP [12] rfl)) hl.1 rfl (Nat.le_of_ble_eq_true rfl) dX8_fault_104 ⟨Nat.le_of_ble_eq_true rfl, Nat.le_of_ble_eq_true rfl⟩) ?_
      exact rRi C rfl (Option.some.inj h) dX8_fault_107
    have h := ite_f c4_3 h
    by_cases c4_4 : x2 = 4
    · have h := ite_t c4_4 h
      refine lv_tableIn (off := 79) (tgt := 108) hx hb dX8_fault_29 (by rw [c4_4]; decide) (by rw [c4_4]; decide) (by rw [c4_4]; decide) (by decide) ?_
      refine lv_aload hx hb dX8_fault_108 (lv_at hl 0 rfl) ?_
      refine va_get (D := D) (v := .int (gI z_t_5_1 2)) (C := RX0) (T := TX0) (N := 6) hx hb hts iX0 hown hK.1 hP 18 rfl rfl 2 (by decide) (hts _ t_138) (fun _ h9 => h9) rfl dX8_fault_110 ?_
      refine lv_iload_n hx hb dX8_fault_113 rfl (lv_at hl 3 rfl) ?_
      obtain ⟨r14, hc13, h⟩ := bd_some h
      refine cRi (runS (As := [.int (gI z_t_5_1 2), .int x1]) (rest := []) C (mX8_has l D a hc13) lk_S_8_161 okN_X8_has ⟨Nat.le_of_ble_eq_true rfl, Nat.le_of_ble_eq_true rfl⟩ ⟨rfl, rfl⟩ (preR hK (P_of_map (wc := []) hP [] rfl)) hl.1 rfl (Nat.le_of_ble_eq_true rfl) dX8_fault_114 ⟨Nat.le_of_ble_eq_true rfl, Nat.le_of_ble_eq_true rfl⟩) ?_
      refine lv_if_eq (tgt := 124) hx hb dX8_fault_117 (by decide) (fun c15 => ?_) (fun c15 => ?_)
      · have h := ite_t c15 h
        refine lv_aload hx hb dX8_fault_124 (lv_at hl 0 rfl) ?_
        refine va_get (D := D) (v := .int (gI z_t_5_1 3)) (C := RX0) (T := TX0) (N := 6) hx hb hts iX0 hown hK.1 hP 18 rfl rfl 3 (by decide) (hts _ t_141) (fun _ h9 => h9) rfl dX8_fault_126 ?_
        refine lv_iload_n hx hb dX8_fault_129 rfl (lv_at hl 3 rfl) ?_
        obtain ⟨r17, hc16, h⟩ := bd_some h
        refine cRi (runS (As := [.int (gI z_t_5_1 3), .int x1]) (rest := []) C (mX8_has l D a hc16) lk_S_8_161 okN_X8_has ⟨Nat.le_of_ble_eq_true rfl, Nat.le_of_ble_eq_true rfl⟩ ⟨rfl, rfl⟩ (preR hK (P_of_map (wc := []) hP [] rfl)) hl.1 rfl (Nat.le_of_ble_eq_true rfl) dX8_fault_130 ⟨Nat.le_of_ble_eq_true rfl, Nat.le_of_ble_eq_true rfl⟩) ?_
        refine lv_if_eq (tgt := 140) hx hb dX8_fault_133 (by decide) (fun c18 => ?_) (fun c18 => ?_)
        · have h := ite_t c18 h
          refine lv_iconst (v := 0) hx hb dX8_fault_140 (by decide) ?_
          exact rRi C rfl (Option.some.inj h) dX8_fault_141
        · have h := ite_f c18 h
          refine lv_iconst (v := 2) hx hb dX8_fault_136 (by decide) ?_
          refine lv_goto (tgt := 141) hx hb dX8_fault_137 (by decide) ?_
          exact rRi C rfl (Option.some.inj h) dX8_fault_141
      · have h := ite_f c15 h
        refine lv_iconst (v := 1) hx hb dX8_fault_120 (by decide) ?_
        refine lv_goto (tgt := 141) hx hb dX8_fault_121 (by decide) ?_
        exact rRi C rfl (Option.some.inj h) dX8_fault_141
    have h := ite_f c4_4 h
    by_cases c4_5 : x2 = 5
    · have h := ite_t c4_5 h
      refine lv_tableIn (off := 113) (tgt := 142) hx hb dX8_fault_29 (by rw [c4_5]; decide) (by rw [c4_5]; decide) (by rw [c4_5]; decide) (by decide) ?_
      refine lv_aload hx hb dX8_fault_142 (lv_at hl 0 rfl) ?_
      refine va_get (D := D) (v := .ref (Q_t_5_1 5)) (C := RX0) (T := TX0) (N := 6) hx hb hts iX0 hown hK.1 hP 18 rfl rfl 5 (by decide) (hts _ t_146) (fun _ h9 => h9) rfl dX8_fault_144 ?_
      refine lv_iload_n hx hb dX8_fault_147 rfl (lv_at hl 3 rfl) ?_
      obtain ⟨r20, hc19, h⟩ := bd_some h
      refine cRi (runS (As := [.ref (Q_t_5_1 5), .int x1]) (rest := []) C (mX8_at l D a (q_p0 := (Q_t_5_1 5)) hc19) lk_S_8_129 okN_X8_at ⟨Nat.le_of_ble_eq_true rfl, Nat.le_of_ble_eq_true rfl⟩ ⟨rfl, rfl⟩ (preR hK (P_of_map (wc := ra0 a (Q_t_5_1 5) 10 (gT z_t_5_1 5)) hP [19] rfl)) hl.1 rfl (Nat.le_of_ble_eq_true rfl) dX8_fault_148 ⟨Nat.le_of_ble_eq_true rfl, Nat.le_of_ble_eq_true rfl⟩) ?_
      exact rRi C rfl (Option.some.inj h) dX8_fault_151
    have h := ite_f c4_5 h
    by_cases c4_6 : x2 = 6
    · have h := ite_t c4_6 h
      refine lv_tableIn (off := 123) (tgt := 152) hx hb dX8_fault_29 (by rw [c4_6]; decide) (by rw [c4_6]; decide) (by rw [c4_6]; decide) (by decide) ?_
      refine lv_aload_n hx hb dX8_fault_152 rfl (lv_at hl 1 rfl) ?_
      refine lv_iload_n hx hb dX8_fault_153 rfl (lv_at hl 3 rfl) ?_
      refine lv_aload hx hb dX8_fault_154 (lv_at hl 0 rfl) ?_
      obtain ⟨r22, hc21, h⟩ := bd_some h
      refine cRi (runV (As := []) (rest := [.int x1, .ref (Q_t_5 0)]) C (mX0_gone l D a (q_t := (Q_t_5 1)) (Q_t := Q_t_5_1) hc21) lk_V_8_171 okN_X0_gone ⟨Nat.le_of_ble_eq_true rfl, Nat.le_of_ble_eq_true rfl⟩ ⟨rfl, rfl⟩ (preV (preR hK (P_of_map (wc := rc0 a (Q_t_5 1) Q_t_5_1 z_t_5_1) hP [18, 19] rfl)) (recvOf hK hP 18 rfl (ci := 0) rfl)) hl.1 rfl (Nat.le_of_ble_eq_true rfl) dX8_fault_156 ⟨Nat.le_of_ble_eq_true rfl, Nat.le_of_ble_eq_true rfl⟩) ?_
      obtain ⟨r24, hc23, h⟩ := bd_some h
      refine cRi (runV (As := [.int x1, .int r22]) (rest := []) C (mX7_isOpen l D a (q_t := (Q_t_5 0)) (Q_t := Q_t_5_0) hc23) lk_V_8_175 okN_X7_isOpen ⟨Nat.le_of_ble_eq_true rfl, Nat.le_of_ble_eq_true rfl⟩ ⟨rfl, rfl⟩ (preV (preR hK (P_of_map (wc := rc7 a (Q_t_5 0) Q_t_5_0 z_t_5_0) hP [5, 6, 7, 8, 9, 10, 11, 12, 13, 14, 15, 16, 17] rfl)) (recvOf hK hP 5 rfl (ci := 7) rfl)) hl.1 rfl (Nat.le_of_ble_eq_true rfl) dX8_fault_159 ⟨Nat.le_of_ble_eq_true rfl, Nat.le_of_ble_eq_true rfl⟩) ?_
      refine lv_if_eq (tgt := 169) hx hb dX8_fault_162 (by decide) (fun c25 => ?_) (fun c25 => ?_)
      · have h := ite_t c25 h
        refine lv_iconst (v := 0) hx hb dX8_fault_169 (by decide) ?_
        exact rRi C rfl (Option.some.inj h) dX8_fault_170
      · have h := ite_f c25 h
        refine lv_iconst (v := 1) hx hb dX8_fault_165 (by decide) ?_
        refine lv_goto (tgt := 170) hx hb dX8_fault_166 (by decide) ?_
        exact rRi C rfl (Option.some.inj h) dX8_fault_170
    have h := ite_f c4_6 h
    refine lv_tableOut (tgt := 171) hx hb dX8_fault_29 (by have := lv_neT c4_0 (show (0 : Int32).toInt = 0 by decide); have := lv_neT c4_1 (show (1 : Int32).toInt = 1 by decide); have := lv_neT c4_2 (show (2 : Int32).toInt = 2 by decide); have := lv_neT c4_3 (show (3 : Int32).toInt = 3 by decide); have := lv_neT c4_4 (show (4 : Int32).toInt = 4 by decide); have := lv_neT c4_5 (show (5 : Int32).toInt = 5 by decide); have := lv_neT c4_6 (show (6 : Int32).toInt = 6 by decide); omega) (by decide) ?_
    refine lv_bipush (v := (-2)) hx hb dX8_fault_171 (by decide) ?_
    exact rRi C rfl (Option.some.inj h) dX8_fault_173
  · have h := ite_t c3 h
    refine lv_bipush (v := (-2)) hx hb dX8_fault_8 (by decide) ?_
    exact rRi C rfl (Option.some.inj h) dX8_fault_10

set_option maxHeartbeats 4000000 in
set_option maxRecDepth 100000 in
theorem wX8_putBytes_3 {p : Program} {l : Launch} {e : Env} {s : State} {m : MethodId} {below : List Frame} {meth : Method} {c : Code} {D : va_G} {a : Nat → ClassId} {A : Nat → Prop} {q_t : Nat} {Q_t : Nat → Nat} {x10 : Int32} {x1 : Int32} (C : Cx p s m #[.ref q_t, .int x10] meth c MX8_putBytes) (hK : KK D a s) (hA : ∀ q, s.heap.size ≤ q → A q) {y : Sx} : ∀ (n : Nat) (z_t : Sx) (x2 : Int32) (H : Heap) (locs : List Loc) (ls : Array Slot), lX8_putBytes_3 x1 n z_t x2 = some y → va_P D classes (rc8 a q_t Q_t z_t) H → va_D A (rc8 a q_t Q_t z_t) → va_S A s.heap H locs → lv_has ls 3 [(0, .ref q_t), (1, .int x1), (2, .int x2)] → W p l e (rmM 1 0 0 22) s m #[.ref q_t, .int x10] below meth c H locs 0 0 (MQ below (va_Qv (fun (_ : Unit) => True) (Bw D A (fun _ => rc8 a q_t Q_t y)) A) #[.ref q_t, .int x10] s 0 0 A) (F0 m 3 ls []) := by
  obtain ⟨hx, hb, hml, hown, hts, hr, hlocks, hnm⟩ := id C
  have hb : c.code = cX8_putBytes := hb
  have hown : s.vm.findClass RX8 = some m.cls := hown
  intro n
  induction n with
  | zero => intro z_t x2 H locs ls h; rw [lX8_putBytes_3] at h; cases h
  | succ n ih =>
    intro z_t x2 H locs ls h hP hD hS hl
    rw [lX8_putBytes_3] at h
    refine lv_iload_n hx hb dX8_putBytes_3 rfl (lv_at hl 2 rfl) ?_
    refine lv_if_lt (tgt := 41) hx hb dX8_putBytes_4 (by decide) (fun c1 => ?_) (fun c1 => ?_)
    · have h := ite_t c1 h
      exact rMv C rfl h (g := fun y => rc8 a q_t Q_t y) hP hD hS dX8_putBytes_41
    · have h := ite_f c1 h
      refine lv_aload_n hx hb dX8_putBytes_7 rfl (lv_at hl 0 rfl) ?_
      refine va_get (D := D) (v := .ref (Q_t 0)) (C := RX8) (T := TX8) (N := 11) hx hb hts iX8 hown hK.1 hP 0 rfl rfl 0 (by decide) (hts _ t_300) (fun _ h9 => h9) rfl dX8_putBytes_8 ?_
      refine lv_aload_n hx hb dX8_putBytes_11 rfl (lv_at hl 0 rfl) ?_
      refine va_get (D := D) (v := .int (gI z_t 1)) (C := RX8) (T := TX8) (N := 11) hx hb hts iX8 hown hK.1 hP 0 rfl rfl 1 (by decide) (hts _ t_301) (fun _ h9 => h9) rfl dX8_putBytes_12 ?_
      refine lv_iload_n hx hb dX8_putBytes_15 rfl (lv_at hl 1 rfl) ?_
      refine lv_iload_n hx hb dX8_putBytes_16 rfl (lv_at hl 2 rfl) ?_
      refine lv_iushr (v := (x1.toUInt32 >>> (Int32.toUInt32 x2 &&& Int32.toUInt32 31)).toInt32) hx hb dX8_putBytes_17 rfl ?_
      refine lv_sipush (v := 255) hx hb dX8_putBytes_18 (by decide) ?_
      refine lv_iand hx hb dX8_putBytes_21 ?_
      obtain ⟨z3, hc2, h⟩ := bd_some h
      refine cMv (runS (As := [.ref (Q_t 0), .int (gI z_t 1), .int (((x1.toUInt32 >>> (Int32.toUInt32 x2 &&& Int32.toUInt32 31)).toInt32) &&& 255)]) (rest := []) C (mX8_put l D a (q_p0 := (Q_t 0)) hc2 H.size) lk_S_8_78 okN_X8_put ⟨Nat.le_of_ble_eq_true rfl, Nat.le_of_ble_eq_true rfl⟩ ⟨rfl, rfl⟩ (preM hK (P_of_map (wc := ra0 a (Q_t 0) 400 (gT z_t 0)) hP [1] rfl) (hD.sub (ws' := ra0 a (Q_t 0) 400 (gT z_t 0)) [1] (by decide) rfl)) hl.1 rfl (Nat.le_of_ble_eq_true rfl) dX8_putBytes_22 ⟨Nat.le_of_ble_eq_true rfl, Nat.le_of_ble_eq_true rfl⟩) hP hD hS hA [1] [0] [0, 1] rfl rfl (by decide) (by decide) (fw := rc8 a q_t Q_t (sTf z_t 0 z3)) rfl (by decide) (fun H locs hP hD hS => ?_)
      have hP : va_P D classes (rc8 a q_t Q_t (sTf z_t 0 z3)) H := hP
      have hD : va_D A (rc8 a q_t Q_t (sTf z_t 0 z3)) := hD
      refine lv_aload_n hx hb dX8_putBytes_25 rfl (lv_at hl 0 rfl) ?_
      refine lv_dup hx hb dX8_putBytes_26 rfl ?_
      refine va_get (D := D) (v := .int (gI z_t 1)) (C := RX8) (T := TX8) (N := 11) hx hb hts iX8 hown hK.1 hP 0 rfl rfl 1 (by decide) (hts _ t_301) (fun _ h9 => h9) rfl dX8_putBytes_27 ?_
      refine lv_iconst (v := 1) hx hb dX8_putBytes_30 (by decide) ?_
      refine lv_iadd hx hb dX8_putBytes_31 ?_
      refine va_put (D := D) (v := .int ((gI z_t 1) + 1)) (C := RX8) (T := TX8) (N := 11) hx hb hts iX8 tyX8 tyX8_ok nmX8 hown hK.1 hP hD hS 0 rfl rfl 1 (by decide) (hts _ t_301) (fun _ h9 => h9) rfl (tyX8_ok 1 (by decide)) rfl rfl (Nat.le_of_ble_eq_true rfl) dX8_putBytes_32 (fun H locs hP hD hS => ?_)
      have hP : va_P D classes (rc8 a q_t Q_t (sI (sTf z_t 0 z3) 1 ((gI z_t 1) + 1))) H := hP
      have hD : va_D A (rc8 a q_t Q_t (sI (sTf z_t 0 z3) 1 ((gI z_t 1) + 1))) := hD
      refine lv_iinc (v := x2 + (-8)) (lv' := [(2, .int (x2 + (-8))), (0, .ref q_t), (1, .int x1)]) hx hb dX8_putBytes_35 hl (k := 2) rfl rfl (by decide) rfl (fun ls hl => ?_)
      refine lv_goto (tgt := 3) hx hb dX8_putBytes_38 (by decide) ?_
      exact ih (sI (sTf z_t 0 z3) 1 ((gI z_t 1) + 1)) (x2 + (-8)) _ _ ls h hP hD hS (lv_sub hl [1, 2, 0] rfl)

set_option maxHeartbeats 4000000 in
set_option maxRecDepth 100000 in
theorem mX8_putBytes (l : Launch) (D : va_G) (a : Nat → ClassId) {q_t : Nat} {Q_t : Nat → Nat} {z_t : Sx} {x1 : Int32} {y : Sx} (h : fX8_putBytes z_t x1 = some y) (sz : Nat) : CMv (S := Unit) l MX8_putBytes 1 22 0 0 D a [.ref q_t, .int x1] (rc8 a q_t Q_t z_t) sz (fun _ => True) (fun _ => rc8 a q_t Q_t y) := by
  unfold fX8_putBytes at h
  refine entMv (by decide) (Nat.le_of_ble_eq_true rfl) ?_
  intro p e s m below meth c C hK A hA hP hD ls hl
  obtain ⟨hx, hb, hml, hown, hts, hr, hlocks, hnm⟩ := id C
  have hb : c.code = cX8_putBytes := hb
  have hown : s.vm.findClass RX8 = some m.cls := hown
  have hS : va_S A s.heap s.heap [] := va_S.rf
  have hl : lv_has ls 3 [(0, .ref q_t), (1, .int x1)] := hl
  refine lv_bipush (v := 24) hx hb dX8_putBytes_0 (by decide) ?_
  refine lv_istore_n (lv' := [(2, .int 24), (0, .ref q_t), (1, .int x1)]) hx hb dX8_putBytes_2 rfl hl (by decide) rfl (fun ls hl => ?_)
  refine wX8_putBytes_3 C hK hA FU z_t 24 _ _ ls h hP hD hS (lv_sub hl [1, 2, 0] rfl)

set_option maxHeartbeats 4000000 in
set_option maxRecDepth 100000 in
theorem mX8_feed (l : Launch) (D : va_G) (a : Nat → ClassId) {q_t : Nat} {Q_t : Nat → Nat} {z_t : Sx} {x1 : Int32} {x2 : Int32} {x3 : Int32} {x4 : Int32} {x5 : Int32} {y : Int32 × Sx} (h : fX8_feed z_t x1 x2 x3 x4 x5 = some y) (sz : Nat) : CMi (S := Unit) l MX8_feed 2 44 0 0 D a [.ref q_t, .int x1, .int x2, .int x3, .int x4, .int x5] (rc8 a q_t Q_t z_t) sz (fun r _ => r = y.1) (fun _ => rc8 a q_t Q_t y.2) := by
  unfold fX8_feed at h
  refine entMi (by decide) (Nat.le_of_ble_eq_true rfl) ?_
  intro p e s m below meth c C hK A hA hP hD ls hl
  obtain ⟨hx, hb, hml, hown, hts, hr, hlocks, hnm⟩ := id C
  have hb : c.code = cX8_feed := hb
  have hown : s.vm.findClass RX8 = some m.cls := hown
  have hS : va_S A s.heap s.heap [] := va_S.rf
  have hl : lv_has ls 6 [(0, .ref q_t), (1, .int x1), (2, .int x2), (3, .int x3), (4, .int x4), (5, .int x5)] := hl
  refine lv_aload_n hx hb dX8_feed_0 rfl (lv_at hl 0 rfl) ?_
  refine va_get (D := D) (v := .int (gI z_t 1)) (C := RX8) (T := TX8) (N := 11) hx hb hts iX8 hown hK.1 hP 0 rfl rfl 1 (by decide) (hts _ t_301) (fun _ h9 => h9) rfl dX8_feed_1 ?_
  refine lv_bipush (v := 20) hx hb dX8_feed_4 (by decide) ?_
  refine lv_iadd hx hb dX8_feed_6 ?_
  refine lv_sipush (v := 400) hx hb dX8_feed_7 (by decide) ?_
  refine lv_icmp_le (tgt := 15) hx hb dX8_feed_10 (by decide) (fun c1 => ?_) (fun c1 => ?_)
  · have h := ite_t c1 h
    refine lv_aload_n hx hb dX8_feed_15 rfl (lv_at hl 0 rfl) ?_
    refine lv_iload_n hx hb dX8_feed_16 rfl (lv_at hl 1 rfl) ?_
    obtain ⟨z3, hc2, h⟩ := bd_some h
    refine cWv (runV (As := [.int x1]) (rest := []) C (mX8_putBytes l D a (q_t := q_t) (Q_t := Q_t) hc2 s.heap.size) lk_V_8_75 okN_X8_putBytes ⟨Nat.le_of_ble_eq_true rfl, Nat.le_of_ble_eq_true rfl⟩ ⟨rfl, rfl⟩ (preV (preM hK hP hD) (recvOf hK hP 0 rfl (ci := 8) rfl)) hl.1 rfl (Nat.le_of_ble_eq_true rfl) dX8_feed_17 ⟨Nat.le_of_ble_eq_true rfl, Nat.le_of_ble_eq_true rfl⟩) hP hD hS hA (fun H locs hP hD hS => ?_)
    have hP : va_P D classes (rc8 a q_t Q_t z3) H := hP
    have hD : va_D A (rc8 a q_t Q_t z3) := hD
    refine lv_aload_n hx hb dX8_feed_20 rfl (lv_at hl 0 rfl) ?_
    refine lv_iload_n hx hb dX8_feed_21 rfl (lv_at hl 2 rfl) ?_
    obtain ⟨z5, hc4, h⟩ := bd_some h
    refine cWv (runV (As := [.int x2]) (rest := []) C (mX8_putBytes l D a (q_t := q_t) (Q_t := Q_t) hc4 H.size) lk_V_8_75 okN_X8_putBytes ⟨Nat.le_of_ble_eq_true rfl, Nat.le_of_ble_eq_true rfl⟩ ⟨rfl, rfl⟩ (preV (preM hK hP hD) (recvOf hK hP 0 rfl (ci := 8) rfl)) hl.1 rfl (Nat.le_of_ble_eq_true rfl) dX8_feed_22 ⟨Nat.le_of_ble_eq_true rfl, Nat.le_of_ble_eq_true rfl⟩) hP hD hS hA (fun H locs hP hD hS => ?_)
    have hP : va_P D classes (rc8 a q_t Q_t z5) H := hP
    have hD : va_D A (rc8 a q_t Q_t z5) := hD
    refine lv_aload_n hx hb dX8_feed_25 rfl (lv_at hl 0 rfl) ?_
    refine lv_iload_n hx hb dX8_feed_26 rfl (lv_at hl 3 rfl) ?_
    obtain ⟨z7, hc6, h⟩ := bd_some h
    refine cWv (runV (As := [.int x3]) (rest := []) C (mX8_putBytes l D a (q_t := q_t) (Q_t := Q_t) hc6 H.size) lk_V_8_75 okN_X8_putBytes ⟨Nat.le_of_ble_eq_true rfl, Nat.le_of_ble_eq_true rfl⟩ ⟨rfl, rfl⟩ (preV (preM hK hP hD) (recvOf hK hP 0 rfl (ci := 8) rfl)) hl.1 rfl (Nat.le_of_ble_eq_true rfl) dX8_feed_27 ⟨Nat.le_of_ble_eq_true rfl, Nat.le_of_ble_eq_true rfl⟩) hP hD hS hA (fun H locs hP hD hS => ?_)
    have hP : va_P D classes (rc8 a q_t Q_t z7) H := hP
    have hD : va_D A (rc8 a q_t Q_t z7) := hD
    refine lv_aload_n hx hb dX8_feed_30 rfl (lv_at hl 0 rfl) ?_
    refine lv_iload hx hb dX8_feed_31 (lv_at hl 4 rfl) ?_
    obtain ⟨z9, hc8, h⟩ := bd_some h
    refine cWv (runV (As := [.int x4]) (rest := []) C (mX8_putBytes l D a (q_t := q_t) (Q_t := Q_t) hc8 H.size) lk_V_8_75 okN_X8_putBytes ⟨Nat.le_of_ble_eq_true rfl, Nat.le_of_ble_eq_true rfl⟩ ⟨rfl, rfl⟩ (preV (preM hK hP hD) (recvOf hK hP 0 rfl (ci := 8) rfl)) hl.1 rfl (Nat.le_of_ble_eq_true rfl) dX8_feed_33 ⟨Nat.le_of_ble_eq_true rfl, Nat.le_of_ble_eq_true rfl⟩) hP hD hS hA (fun H locs hP hD hS => ?_)
    have hP : va_P D classes (rc8 a q_t Q_t z9) H := hP
    have hD : va_D A (rc8 a q_t Q_t z9) := hD
    refine lv_aload_n hx hb dX8_feed_36 rfl (lv_at hl 0 rfl) ?_
    refine lv_iload hx hb dX8_feed_37 (lv_at hl 5 rfl) ?_
    obtain ⟨z11, hc10, h⟩ := bd_some h
    refine cWv (runV (As := [.int x5]) (rest := []) C (mX8_putBytes l D a (q_t := q_t) (Q_t := Q_t) hc10 H.size) lk_V_8_75 okN_X8_putBytes ⟨Nat.le_of_ble_eq_true rfl, Nat.le_of_ble_eq_true rfl⟩ ⟨rfl, rfl⟩ (preV (preM hK hP hD) (recvOf hK hP 0 rfl (ci := 8) rfl)) hl.1 rfl (Nat.le_of_ble_eq_true rfl) dX8_feed_39 ⟨Nat.le_of_ble_eq_true rfl, Nat.le_of_ble_eq_true rfl⟩) hP hD hS hA (fun H locs hP hD hS => ?_)
    have hP : va_P D classes (rc8 a q_t Q_t z11) H := hP
    have hD : va_D A (rc8 a q_t Q_t z11) := hD
    refine lv_aload_n hx hb dX8_feed_42 rfl (lv_at hl 0 rfl) ?_
    refine va_get (D := D) (v := .int (gI z11 1)) (C := RX8) (T := TX8) (N := 11) hx hb hts iX8 hown hK.1 hP 0 rfl rfl 1 (by decide) (hts _ t_301) (fun _ h9 => h9) rfl dX8_feed_43 ?_
    exact rMi C rfl h (g := fun y => rc8 a q_t Q_t y.2) (pr := fun y => y.1) hP hD hS dX8_feed_46
  · have h := ite_f c1 h
    refine lv_iconst (v := (-1)) hx hb dX8_feed_13 (by decide) ?_
    exact rMi C rfl h (g := fun y => rc8 a q_t Q_t y.2) (pr := fun y => y.1) hP hD hS dX8_feed_14

set_option maxHeartbeats 4000000 in
set_option maxRecDepth 100000 in
theorem mX8_fine (l : Launch) (D : va_G) (a : Nat → ClassId) {q_t : Nat} {Q_t : Nat → Nat} {z_t : Sx} {Q_t_5 : Nat → Nat} {z_t_5 : Sx} {Q_t_5_0 : Nat → Nat} {z_t_5_0 : Sx} {Q_t_5_1 : Nat → Nat} {z_t_5_1 : Sx} {x1 : Int32} {y : Int32 × Sx} (h : fX8_fine z_t z_t_5 z_t_5_0 z_t_5_1 x1 = some y) (sz : Nat) : CMi (S := Unit) l MX8_fine 1 20 0 0 D a [.ref q_t, .int x1] (rc8 a q_t Q_t z_t ++ (rc5 a (Q_t 5) Q_t_5 z_t_5 ++ (rc7 a (Q_t_5 0) Q_t_5_0 z_t_5_0 ++ (rc0 a (Q_t_5 1) Q_t_5_1 z_t_5_1)))) sz (fun r _ => r = y.1) (fun _ => rc8 a q_t Q_t z_t ++ (rc5 a (Q_t 5) Q_t_5 z_t_5 ++ (rc7 a (Q_t_5 0) Q_t_5_0 z_t_5_0 ++ (rc0 a (Q_t_5 1) Q_t_5_1 y.2)))) := by
  unfold fX8_fine at h
  refine entMi (by decide) (Nat.le_of_ble_eq_true rfl) ?_
  intro p e s m below meth c C hK A hA hP hD ls hl
  obtain ⟨hx, hb, hml, hown, hts, hr, hlocks, hnm⟩ := id C
  have hb : c.code = cX8_fine := hb
  have hown : s.vm.findClass RX8 = some m.cls := hown
  have hS : va_S A s.heap s.heap [] := va_S.rf
  have hl : lv_has ls 2 [(0, .ref q_t), (1, .int x1)] := hl
  refine lv_aload_n hx hb dX8_fine_0 rfl (lv_at hl 0 rfl) ?_
  obtain ⟨r2, hc1, h⟩ := bd_some h
  refine cRi (runV (As := []) (rest := []) C (mX8_hasWork l D a (q_t := q_t) (Q_t := Q_t) (Q_t_5 := Q_t_5) (Q_t_5_0 := Q_t_5_0) hc1) lk_V_8_213 okN_X8_hasWork ⟨Nat.le_of_ble_eq_true rfl, Nat.le_of_ble_eq_true rfl⟩ ⟨rfl, rfl⟩ (preV (preR hK (P_of_map (wc := rc8 a q_t Q_t z_t ++ (rc5 a (Q_t 5) Q_t_5 z_t_5 ++ (rc7 a (Q_t_5 0) Q_t_5_0 z_t_5_0))) hP [0, 1, 2, 3, 4, 5, 6, 7, 8, 9, 10, 11, 12, 13, 14, 15, 16, 17] rfl)) (recvOf hK hP 0 rfl (ci := 8) rfl)) hl.1 rfl (Nat.le_of_ble_eq_true rfl) dX8_fine_1 ⟨Nat.le_of_ble_eq_true rfl, Nat.le_of_ble_eq_true rfl⟩) ?_
  refine lv_if_eq (tgt := 18) hx hb dX8_fine_4 (by decide) (fun c3 => ?_) (fun c3 => ?_)
  · have h := ite_t c3 h
    refine lv_ldc hx hb hown (hts _ t_640) dX8_fine_18 ?_
    obtain rfl := Option.some.inj h
    exact retMi C rfl () rfl hP hD hS (Nat.le_refl 0) (Nat.le_refl 0) dX8_fine_20
  · have h := ite_f c3 h
    refine lv_iload_n hx hb dX8_fine_7 rfl (lv_at hl 1 rfl) ?_
    refine lv_if_lt (tgt := 18) hx hb dX8_fine_8 (by decide) (fun c4 => ?_) (fun c4 => ?_)
    · have h := ite_t c4 h
      refine lv_ldc hx hb hown (hts _ t_640) dX8_fine_18 ?_
      obtain rfl := Option.some.inj h
      exact retMi C rfl () rfl hP hD hS (Nat.le_refl 0) (Nat.le_refl 0) dX8_fine_20
    · have h := ite_f c4 h
      refine lv_iload_n hx hb dX8_fine_11 rfl (lv_at hl 1 rfl) ?_
      refine lv_sipush (v := 999) hx hb dX8_fine_12 (by decide) ?_
      refine lv_icmp_le (tgt := 21) hx hb dX8_fine_15 (by decide) (fun c5 => ?_) (fun c5 => ?_)
      · have h := ite_t c5 h
        refine lv_aload_n hx hb dX8_fine_21 rfl (lv_at hl 0 rfl) ?_
        refine va_get (D := D) (v := .ref (Q_t 5)) (C := RX8) (T := TX8) (N := 11) hx hb hts iX8 hown hK.1 hP 0 rfl rfl 5 (by decide) (hts _ t_305) (fun _ h9 => h9) rfl dX8_fine_22 ?_
        refine va_get (D := D) (v := .ref (Q_t_5 1)) (C := RX5) (T := TX5) (N := 8) hx hb hts iX5 hown hK.1 hP 2 rfl rfl 1 (by decide) (hts _ t_163) (fun _ h9 => h9) rfl dX8_fine_25 ?_
        refine lv_dup hx hb dX8_fine_28 rfl ?_
        refine va_get (D := D) (v := .int (gI z_t_5_1 1)) (C := RX0) (T := TX0) (N := 6) hx hb hts iX0 hown hK.1 hP 18 rfl rfl 1 (by decide) (hts _ t_135) (fun _ h9 => h9) rfl dX8_fine_29 ?_
        refine lv_iload_n hx hb dX8_fine_32 rfl (lv_at hl 1 rfl) ?_
        refine lv_isub hx hb dX8_fine_33 ?_
        refine va_put (D := D) (v := .int ((gI z_t_5_1 1) - x1)) (C := RX0) (T := TX0) (N := 6) hx hb hts iX0 tyX0 tyX0_ok nmX0 hown hK.1 hP hD hS 18 rfl rfl 1 (by decide) (hts _ t_135) (fun _ h9 => h9) rfl (tyX0_ok 1 (by decide)) rfl rfl (Nat.le_of_ble_eq_true rfl) dX8_fine_34 (fun H locs hP hD hS => ?_)
        have hP : va_P D classes (rc8 a q_t Q_t z_t ++ (rc5 a (Q_t 5) Q_t_5 z_t_5 ++ (rc7 a (Q_t_5 0) Q_t_5_0 z_t_5_0 ++ (rc0 a (Q_t_5 1) Q_t_5_1 (sI z_t_5_1 1 ((gI z_t_5_1 1) - x1)))))) H := hP
        have hD : va_D A (rc8 a q_t Q_t z_t ++ (rc5 a (Q_t 5) Q_t_5 z_t_5 ++ (rc7 a (Q_t_5 0) Q_t_5_0 z_t_5_0 ++ (rc0 a (Q_t_5 1) Q_t_5_1 (sI z_t_5_1 1 ((gI z_t_5_1 1) - x1)))))) := hD
        refine lv_aload_n hx hb dX8_fine_37 rfl (lv_at hl 0 rfl) ?_
        refine va_get (D := D) (v := .ref (Q_t 5)) (C := RX8) (T := TX8) (N := 11) hx hb hts iX8 hown hK.1 hP 0 rfl rfl 5 (by decide) (hts _ t_305) (fun _ h9 => h9) rfl dX8_fine_38 ?_
        refine va_get (D := D) (v := .ref (Q_t_5 1)) (C := RX5) (T := TX5) (N := 8) hx hb hts iX5 hown hK.1 hP 2 rfl rfl 1 (by decide) (hts _ t_163) (fun _ h9 => h9) rfl dX8_fine_41 ?_
        refine va_get (D := D) (v := .int ((gI z_t_5_1 1) - x1)) (C := RX0) (T := TX0) (N := 6) hx hb hts iX0 hown hK.1 hP 18 rfl rfl 1 (by decide) (hts _ t_135) (fun _ h9 => h9) rfl dX8_fine_44 ?_
        obtain rfl := Option.some.inj h
        exact retMi C rfl () rfl hP hD hS (Nat.le_refl 0) (Nat.le_refl 0) dX8_fine_47
      · have h := ite_f c5 h
        refine lv_ldc hx hb hown (hts _ t_640) dX8_fine_18 ?_
        obtain rfl := Option.some.inj h
        exact retMi C rfl () rfl hP hD hS (Nat.le_refl 0) (Nat.le_refl 0) dX8_fine_20

set_option maxHeartbeats 4000000 in
set_option maxRecDepth 100000 in
theorem wX8_fits_57 {p : Program} {l : Launch} {e : Env} {s : State} {m : MethodId} {below : List Frame} {meth : Method} {c : Code} {D : va_G} {a : Nat → ClassId} {q_t : Nat} {Q_t : Nat → Nat} {Q_t_5 : Nat → Nat} {Q_t_5_0 : Nat → Nat} {Q_t_5_1 : Nat → Nat} {z_t : Sx} {z_t_5 : Sx} {z_t_5_0 : Sx} {z_t_5_1 : Sx} {x10 : Int32} {x20 : Int32} {x1 : Int32} {x2 : Int32} {x3 : Int32} (C : Cx p s m #[.ref q_t, .int x10, .int x20] meth c MX8_fits) (hK : KK D a s) {y : Int32} (hP : va_P D classes (rc8 a q_t Q_t z_t ++ (rc5 a (Q_t 5) Q_t_5 z_t_5 ++ (rc7 a (Q_t_5 0) Q_t_5_0 z_t_5_0 ++ (rc0 a (Q_t_5 1) Q_t_5_1 z_t_5_1)))) s.heap) {k127 : Int32 → Int32 → Int32 → Option (Int32)} (hk127 : ∀ (x4k : Int32) (x5k : Int32) (x6k : Int32) (ls : Array Slot), k127 x4k x5k x6k = some y → lv_has ls 8 [(2, .int x2), (3, .int x3), (4, .int x4k), (5, .int x5k), (6, .int x6k)] → W p l e (rmM 3 0 0 66) s m #[.ref q_t, .int x10, .int x20] below meth c s.heap [] 0 0 (MQ below (vp_Si (fun r => r = y)) #[.ref q_t, .int x10, .int x20] s 0 0 (fun _ => False)) (F0 m 127 ls [])) : ∀ (n : Nat) (x4 : Int32) (x5 : Int32) (x6 : Int32) (x7 : Int32) (ls : Array Slot), lX8_fits_57 k127 z_t z_t_5 z_t_5_0 z_t_5_1 x1 x2 x3 n x4 x5 x6 x7 = some y → lv_has ls 8 [(0, .ref q_t), (1, .int x1), (2, .int x2), (3, .int x3), (4, .int x4), (5, .int x5), (6, .int x6), (7, .int x7)] → W p l e (rmM 3 0 0 66) s m #[.ref q_t, .int x10, .int x20] below meth c s.heap [] 0 0 (MQ below (vp_Si (fun r => r = y)) #[.ref q_t, .int x10, .int x20] s 0 0 (fun _ => False)) (F0 m 57 ls []) := by
  obtain ⟨hx, hb, hml, hown, hts, hr, hlocks, hnm⟩ := id C
  have hb : c.code = cX8_fits := hb
  have hown : s.vm.findClass RX8 = some m.cls := hown
  intro n
  induction n with
  | zero => intro x4 x5 x6 x7 ls h; rw [lX8_fits_57] at h; cases h
  | succ n ih =>
    intro x4 x5 x6 x7 ls h hl
    rw [lX8_fits_57] at h
    refine lv_iload hx hb dX8_fits_57 (lv_at hl 7 rfl) ?_
    refine lv_iload_n hx hb dX8_fits_59 rfl (lv_at hl 3 rfl) ?_
    refine lv_icmp_gt (tgt := 127) hx hb dX8_fits_60 (by decide) (fun c10 => ?_) (fun c10 => ?_)
    · have h := ite_t c10 h
      exact hk127 x4 x5 x6 ls h (lv_sub hl [2, 3, 4, 5, 6] rfl)
    · have h := ite_f c10 h
      refine lv_aload_n hx hb dX8_fits_63 rfl (lv_at hl 0 rfl) ?_
      refine va_get (D := D) (v := .ref (Q_t 5)) (C := RX8) (T := TX8) (N := 11) hx hb hts iX8 hown hK.1 hP 0 rfl rfl 5 (by decide) (hts _ t_305) (fun _ h9 => h9) rfl dX8_fits_64 ?_
      refine va_get (D := D) (v := .ref (Q_t_5 0)) (C := RX5) (T := TX5) (N := 8) hx hb hts iX5 hown hK.1 hP 2 rfl rfl 0 (by decide) (hts _ t_161) (fun _ h9 => h9) rfl dX8_fits_67 ?_
      refine lv_iload hx hb dX8_fits_70 (lv_at hl 7 rfl) ?_
      obtain ⟨r12, hc11, h⟩ := bd_some h
      refine cRi (runV (As := [.int x7]) (rest := []) C (mX7_payOf l D a (q_t := (Q_t_5 0)) (Q_t := Q_t_5_0) hc11) lk_V_8_294 okN_X7_payOf ⟨Nat.le_of_ble_eq_true rfl, Nat.le_of_ble_eq_true rfl⟩ ⟨rfl, rfl⟩ (preV (preR hK (P_of_map (wc := rc7 a (Q_t_5 0) Q_t_5_0 z_t_5_0) hP [5, 6, 7, 8, 9, 10, 11, 12, 13, 14, 15, 16, 17] rfl)) (recvOf hK hP 5 rfl (ci := 7) rfl)) hl.1 rfl (Nat.le_of_ble_eq_true rfl) dX8_fits_72 ⟨Nat.le_of_ble_eq_true rfl, Nat.le_of_ble_eq_true rfl⟩) ?_
      refine lv_iload_n hx hb dX8_fits_75 rfl (lv_at hl 1 rfl) ?_
      obtain ⟨J13, eJ13, h⟩ := jn_some h
      have hJ13 : ∀ (i14 : Int32) (i15 : Int32) (i16 : Int32) (ls : Array Slot), J13 i14 i15 i16 = some y → lv_has ls 8 [(0, .ref q_t), (1, .int x1), (2, .int x2), (3, .int x3), (4, .int i14), (5, .int i15), (6, .int i16), (7, .int x7)] → W p l e (rmM 3 0 0 66) s m #[.ref q_t, .int x10, .int x20] below meth c s.heap [] 0 0 (MQ below (vp_Si (fun r => r = y)) #[.ref q_t, .int x10, .int x20] s 0 0 (fun _ => False)) (F0 m 121 ls []) := by
        intro i14 i15 i16 ls h hl
        rw [eJ13] at h
        refine lv_iinc (v := x7 + 1) (lv' := [(7, .int (x7 + 1)), (0, .ref q_t), (1, .int x1), (2, .int x2), (3, .int x3), (4, .int i14), (5, .int i15), (6, .int i16)]) hx hb dX8_fits_121 hl (k := 7) rfl rfl (by decide) rfl (fun ls hl => ?_)
        refine lv_goto (tgt := 57) hx hb dX8_fits_124 (by decide) ?_
        exact ih i14 i15 i16 (x7 + 1) ls h (lv_sub hl [1, 2, 3, 4, 5, 6, 7, 0] rfl)
      refine lv_icmp_ne (tgt := 121) hx hb dX8_fits_76 (by decide) (fun c17 => ?_) (fun c17 => ?_)
      · have h := ite_f c17 h
        exact hJ13 x4 x5 x6 ls h (lv_sub hl [0, 1, 2, 3, 4, 5, 6, 7] rfl)
      · have h := ite_t c17 h
        refine lv_aload_n hx hb dX8_fits_79 rfl (lv_at hl 0 rfl) ?_
        refine va_get (D := D) (v := .ref (Q_t 5)) (C := RX8) (T := TX8) (N := 11) hx hb hts iX8 hown hK.1 hP 0 rfl rfl 5 (by decide) (hts _ t_305) (fun _ h9 => h9) rfl dX8_fits_80 ?_
        refine va_get (D := D) (v := .ref (Q_t_5 0)) (C := RX5) (T := TX5) (N := 8) hx hb hts iX5 hown hK.1 hP 2 rfl rfl 0 (by decide) (hts _ t_161) (fun _ h9 => h9) rfl dX8_fits_83 ?_
        refine lv_iload hx hb dX8_fits_86 (lv_at hl 7 rfl) ?_
        refine lv_aload_n hx hb dX8_fits_88 rfl (lv_at hl 0 rfl) ?_
        refine va_get (D := D) (v := .ref (Q_t 5)) (C := RX8) (T := TX8) (N := 11) hx hb hts iX8 hown hK.1 hP 0 rfl rfl 5 (by decide) (hts _ t_305) (fun _ h9 => h9) rfl dX8_fits_89 ?_
        refine va_get (D := D) (v := .ref (Q_t_5 1)) (C := RX5) (T := TX5) (N := 8) hx hb hts iX5 hown hK.1 hP 2 rfl rfl 1 (by decide) (hts _ t_163) (fun _ h9 => h9) rfl dX8_fits_92 ?_
        refine va_get (D := D) (v := .int (gI z_t_5_1 3)) (C := RX0) (T := TX0) (N := 6) hx hb hts iX0 hown hK.1 hP 18 rfl rfl 3 (by decide) (hts _ t_141) (fun _ h9 => h9) rfl dX8_fits_95 ?_
        obtain ⟨r19, hc18, h⟩ := bd_some h
        refine cRi (runV (As := [.int x7, .int (gI z_t_5_1 3)]) (rest := []) C (mX7_couldBeFound l D a (q_t := (Q_t_5 0)) (Q_t := Q_t_5_0) hc18) lk_V_8_297 okN_X7_couldBeFound ⟨Nat.le_of_ble_eq_true rfl, Nat.le_of_ble_eq_true rfl⟩ ⟨rfl, rfl⟩ (preV (preR hK (P_of_map (wc := rc7 a (Q_t_5 0) Q_t_5_0 z_t_5_0) hP [5, 6, 7, 8, 9, 10, 11, 12, 13, 14, 15, 16, 17] rfl)) (recvOf hK hP 5 rfl (ci := 7) rfl)) hl.1 rfl (Nat.le_of_ble_eq_true rfl) dX8_fits_98 ⟨Nat.le_of_ble_eq_true rfl, Nat.le_of_ble_eq_true rfl⟩) ?_
        refine lv_if_eq (tgt := 121) hx hb dX8_fits_101 (by decide) (fun c20 => ?_) (fun c20 => ?_)
        · have h := ite_t c20 h
          exact hJ13 x4 x5 x6 ls h (lv_sub hl [0, 1, 2, 3, 4, 5, 6, 7] rfl)
        · have h := ite_f c20 h
          refine lv_iinc (v := x4 + 1) (lv' := [(4, .int (x4 + 1)), (0, .ref q_t), (1, .int x1), (2, .int x2), (3, .int x3), (5, .int x5), (6, .int x6), (7, .int x7)]) hx hb dX8_fits_104 hl (k := 4) rfl rfl (by decide) rfl (fun ls hl => ?_)
          refine lv_iload hx hb dX8_fits_107 (lv_at hl 5 rfl) ?_
          refine lv_iload hx hb dX8_fits_109 (lv_at hl 7 rfl) ?_
          refine lv_iand hx hb dX8_fits_111 ?_
          refine lv_istore (lv' := [(5, .int (x5 &&& x7)), (4, .int (x4 + 1)), (0, .ref q_t), (1, .int x1), (2, .int x2), (3, .int x3), (6, .int x6), (7, .int x7)]) hx hb dX8_fits_112 hl (by decide) rfl (fun ls hl => ?_)
          refine lv_iload hx hb dX8_fits_114 (lv_at hl 6 rfl) ?_
          refine lv_iload hx hb dX8_fits_116 (lv_at hl 7 rfl) ?_
          refine lv_ior hx hb dX8_fits_118 ?_
          refine lv_istore (lv' := [(6, .int (x6 ||| x7)), (5, .int (x5 &&& x7)), (4, .int (x4 + 1)), (0, .ref q_t), (1, .int x1), (2, .int x2), (3, .int x3), (7, .int x7)]) hx hb dX8_fits_119 hl (by decide) rfl (fun ls hl => ?_)
          exact hJ13 (x4 + 1) (x5 &&& x7) (x6 ||| x7) ls h (lv_sub hl [3, 4, 5, 6, 2, 1, 0, 7] rfl)

set_option maxHeartbeats 4000000 in
set_option maxRecDepth 100000 in
theorem mX8_fits (l : Launch) (D : va_G) (a : Nat → ClassId) {q_t : Nat} {Q_t : Nat → Nat} {z_t : Sx} {Q_t_5 : Nat → Nat} {z_t_5 : Sx} {Q_t_5_0 : Nat → Nat} {z_t_5_0 : Sx} {Q_t_5_1 : Nat → Nat} {z_t_5_1 : Sx} {x1 : Int32} {x2 : Int32} {y : Int32} (h : fX8_fits z_t z_t_5 z_t_5_0 z_t_5_1 x1 x2 = some y) : CRi l MX8_fits 3 66 D a [.ref q_t, .int x1, .int x2] (rc8 a q_t Q_t z_t ++ (rc5 a (Q_t 5) Q_t_5 z_t_5 ++ (rc7 a (Q_t_5 0) Q_t_5_0 z_t_5_0 ++ (rc0 a (Q_t_5 1) Q_t_5_1 z_t_5_1)))) (fun r => r = y) := by
  unfold fX8_fits at h
  refine entR (by decide) (Nat.le_of_ble_eq_true rfl) ?_
  intro p e s m below meth c C hK hP ls hl
  obtain ⟨hx, hb, hml, hown, hts, hr, hlocks, hnm⟩ := id C
  have hb : c.code = cX8_fits := hb
  have hown : s.vm.findClass RX8 = some m.cls := hown
  have hl : lv_has ls 8 [(0, .ref q_t), (1, .int x1), (2, .int x2)] := hl
  refine lv_aload_n hx hb dX8_fits_0 rfl (lv_at hl 0 rfl) ?_
  obtain ⟨r2, hc1, h⟩ := bd_some h
  refine cRi (runV (As := []) (rest := []) C (mX8_hasWork l D a (q_t := q_t) (Q_t := Q_t) (Q_t_5 := Q_t_5) (Q_t_5_0 := Q_t_5_0) hc1) lk_V_8_213 okN_X8_hasWork ⟨Nat.le_of_ble_eq_true rfl, Nat.le_of_ble_eq_true rfl⟩ ⟨rfl, rfl⟩ (preV (preR hK (P_of_map (wc := rc8 a q_t Q_t z_t ++ (rc5 a (Q_t 5) Q_t_5 z_t_5 ++ (rc7 a (Q_t_5 0) Q_t_5_0 z_t_5_0))) hP [0, 1, 2, 3, 4, 5, 6, 7, 8, 9, 10, 11, 12, 13, 14, 15, 16, 17] rfl)) (recvOf hK hP 0 rfl (ci := 8) rfl)) hl.1 rfl (Nat.le_of_ble_eq_true rfl) dX8_fits_1 ⟨Nat.le_of_ble_eq_true rfl, Nat.le_of_ble_eq_true rfl⟩) ?_
  refine lv_if_eq (tgt := 27) hx hb dX8_fits_4 (by decide) (fun c3 => ?_) (fun c3 => ?_)
  · have h := ite_t c3 h
    refine lv_iconst (v := (-1)) hx hb dX8_fits_27 (by decide) ?_
    exact rRi C rfl (Option.some.inj h) dX8_fits_28
  · have h := ite_f c3 h
    refine lv_iload_n hx hb dX8_fits_7 rfl (lv_at hl 1 rfl) ?_
    refine lv_if_lt (tgt := 27) hx hb dX8_fits_8 (by decide) (fun c4 => ?_) (fun c4 => ?_)
    · have h := ite_t c4 h
      refine lv_iconst (v := (-1)) hx hb dX8_fits_27 (by decide) ?_
      exact rRi C rfl (Option.some.inj h) dX8_fits_28
    · have h := ite_f c4 h
      refine lv_iload_n hx hb dX8_fits_11 rfl (lv_at hl 1 rfl) ?_
      refine lv_sipush (v := 9999) hx hb dX8_fits_12 (by decide) ?_
      refine lv_icmp_gt (tgt := 27) hx hb dX8_fits_15 (by decide) (fun c5 => ?_) (fun c5 => ?_)
      · have h := ite_t c5 h
        refine lv_iconst (v := (-1)) hx hb dX8_fits_27 (by decide) ?_
        exact rRi C rfl (Option.some.inj h) dX8_fits_28
      · have h := ite_f c5 h
        refine lv_iload_n hx hb dX8_fits_18 rfl (lv_at hl 2 rfl) ?_
        refine lv_if_lt (tgt := 27) hx hb dX8_fits_19 (by decide) (fun c6 => ?_) (fun c6 => ?_)
        · have h := ite_t c6 h
          refine lv_iconst (v := (-1)) hx hb dX8_fits_27 (by decide) ?_
          exact rRi C rfl (Option.some.inj h) dX8_fits_28
        · have h := ite_f c6 h
          refine lv_iload_n hx hb dX8_fits_22 rfl (lv_at hl 2 rfl) ?_
          refine lv_iconst (v := 2) hx hb dX8_fits_23 (by decide) ?_
          refine lv_icmp_le (tgt := 29) hx hb dX8_fits_24 (by decide) (fun c7 => ?_) (fun c7 => ?_)
          · have h := ite_t c7 h
            refine lv_aload_n hx hb dX8_fits_29 rfl (lv_at hl 0 rfl) ?_
            refine va_get (D := D) (v := .ref (Q_t 5)) (C := RX8) (T := TX8) (N := 11) hx hb hts iX8 hown hK.1 hP 0 rfl rfl 5 (by decide) (hts _ t_305) (fun _ h9 => h9) rfl dX8_fits_30 ?_
            refine va_get (D := D) (v := .ref (Q_t_5 0)) (C := RX5) (T := TX5) (N := 8) hx hb hts iX5 hown hK.1 hP 2 rfl rfl 0 (by decide) (hts _ t_161) (fun _ h9 => h9) rfl dX8_fits_33 ?_
            refine va_get (D := D) (v := .int (gI z_t_5_0 3)) (C := RX7) (T := TX7) (N := 18) hx hb hts iX7 hown hK.1 hP 5 rfl rfl 3 (by decide) (hts _ t_47) (fun _ h9 => h9) rfl dX8_fits_36 ?_
            obtain ⟨r9, hc8, h⟩ := bd_some h
            refine cRi (runS (As := [.int (gI z_t_5_0 3)]) (rest := []) C (mX8_bit l D a hc8) lk_S_8_216 okN_X8_bit ⟨Nat.le_of_ble_eq_true rfl, Nat.le_of_ble_eq_true rfl⟩ ⟨rfl, rfl⟩ (preR hK (P_of_map (wc := []) hP [] rfl)) hl.1 rfl (Nat.le_of_ble_eq_true rfl) dX8_fits_39 ⟨Nat.le_of_ble_eq_true rfl, Nat.le_of_ble_eq_true rfl⟩) ?_
            refine lv_iconst (v := 1) hx hb dX8_fits_42 (by decide) ?_
            refine lv_isub hx hb dX8_fits_43 ?_
            refine lv_istore_n (lv' := [(3, .int (r9 - 1)), (0, .ref q_t), (1, .int x1), (2, .int x2)]) hx hb dX8_fits_44 rfl hl (by decide) rfl (fun ls hl => ?_)
            refine lv_iconst (v := 0) hx hb dX8_fits_45 (by decide) ?_
            refine lv_istore (lv' := [(4, .int 0), (3, .int (r9 - 1)), (0, .ref q_t), (1, .int x1), (2, .int x2)]) hx hb dX8_fits_46 hl (by decide) rfl (fun ls hl => ?_)
            refine lv_iload_n hx hb dX8_fits_48 rfl (lv_at hl 1 rfl) ?_
            refine lv_istore (lv' := [(5, .int (r9 - 1)), (4, .int 0), (3, .int (r9 - 1)), (0, .ref q_t), (1, .int x1), (2, .int x2)]) hx hb dX8_fits_49 hl (by decide) rfl (fun ls hl => ?_)
            refine lv_iconst (v := 0) hx hb dX8_fits_51 (by decide) ?_
            refine lv_istore (lv' := [(6, .int 0), (5, .int (r9 - 1)), (4, .int 0), (3, .int (r9 - 1)), (0, .ref q_t), (1, .int x1), (2, .int x2)]) hx hb dX8_fits_52 hl (by decide) rfl (fun ls hl => ?_)
            refine lv_iconst (v := 0) hx hb dX8_fits_54 (by decide) ?_
            refine lv_istore (lv' := [(7, .int 0), (6, .int 0), (5, .int (r9 - 1)), (4, .int 0), (3, .int (r9 - 1)), (0, .ref q_t), (1, .int x1), (2, .int x2)]) hx hb dX8_fits_55 hl (by decide) rfl (fun ls hl => ?_)
            refine wX8_fits_57 C hK hP ?_ FU 0 (r9 - 1) 0 0 ls h (lv_sub hl [5, 6, 7, 4, 3, 2, 1, 0] rfl)
            · intro i21 i22 i23 ls h hl
              refine lv_iload_n hx hb dX8_fits_127 rfl (lv_at hl 0 rfl) ?_
              refine lv_if_eq (tgt := 136) hx hb dX8_fits_128 (by decide) (fun c24 => ?_) (fun c24 => ?_)
              · have h := ite_t c24 h
                refine lv_iload hx hb dX8_fits_136 (lv_at hl 2 rfl) ?_
                exact rRi C rfl (Option.some.inj h) dX8_fits_138
              · have h := ite_f c24 h
                refine lv_iload hx hb dX8_fits_131 (lv_at hl 2 rfl) ?_
                refine lv_if_ne (tgt := 139) hx hb dX8_fits_133 (by decide) (fun c25 => ?_) (fun c25 => ?_)
                · have h := ite_f c25 h
                  refine lv_iload_n hx hb dX8_fits_139 rfl (lv_at hl 0 rfl) ?_
                  refine lv_iconst (v := 1) hx hb dX8_fits_140 (by decide) ?_
                  refine lv_icmp_ne (tgt := 149) hx hb dX8_fits_141 (by decide) (fun c26 => ?_) (fun c26 => ?_)
                  · have h := ite_f c26 h
                    refine lv_iload_n hx hb dX8_fits_149 rfl (lv_at hl 1 rfl) ?_
                    refine lv_iload hx hb dX8_fits_150 (lv_at hl 4 rfl) ?_
                    refine lv_iconst (v := (-1)) hx hb dX8_fits_152 (by decide) ?_
                    refine lv_ixor hx hb dX8_fits_153 ?_
                    refine lv_iand hx hb dX8_fits_154 ?_
                    exact rRi C rfl (Option.some.inj h) dX8_fits_155
                  · have h := ite_t c26 h
                    refine lv_iload hx hb dX8_fits_144 (lv_at hl 3 rfl) ?_
                    refine lv_goto (tgt := 155) hx hb dX8_fits_146 (by decide) ?_
                    exact rRi C rfl (Option.some.inj h) dX8_fits_155
                · have h := ite_t c25 h
                  refine lv_iload hx hb dX8_fits_136 (lv_at hl 2 rfl) ?_
                  exact rRi C rfl (Option.some.inj h) dX8_fits_138
          · have h := ite_f c7 h
            refine lv_iconst (v := (-1)) hx hb dX8_fits_27 (by decide) ?_
            exact rRi C rfl (Option.some.inj h) dX8_fits_28

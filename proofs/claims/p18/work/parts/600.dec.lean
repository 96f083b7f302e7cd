set_option maxHeartbeats 4000000 in
set_option maxRecDepth 100000 in
theorem mX8_seed (l : Launch) (D : va_G) (a : Nat → ClassId) {q_t : Nat} {Q_t : Nat → Nat} {z_t : Sx} {Q_t_5 : Nat → Nat} {z_t_5 : Sx} {Q_t_5_1 : Nat → Nat} {z_t_5_1 : Sx} {x1 : Int32} {y : Int32 × Sx} (h : fX8_seed z_t z_t_5 z_t_5_1 x1 = some y) (sz : Nat) : CMi (S := Unit) l MX8_seed 0 0 0 0 D a [.ref q_t, .int x1] (rc8 a q_t Q_t z_t ++ (rc5 a (Q_t 5) Q_t_5 z_t_5 ++ (rc0 a (Q_t_5 1) Q_t_5_1 z_t_5_1))) sz (fun r _ => r = y.1) (fun _ => rc8 a q_t Q_t z_t ++ (rc5 a (Q_t 5) Q_t_5 z_t_5 ++ (rc0 a (Q_t_5 1) Q_t_5_1 y.2))) := by
  unfold fX8_seed at h
  refine entMi (by decide) (Nat.le_of_ble_eq_true rfl) ?_
  intro p e s m below meth c C hK A hA hP hD ls hl
  obtain ⟨hx, hb, hml, hown, hts, hr, hlocks, hnm⟩ := id C
  have hb : c.code = cX8_seed := hb
  have hown : s.vm.findClass RX8 = some m.cls := hown
  have hS : va_S A s.heap s.heap [] := va_S.rf
  have hl : lv_has ls 3 [(0, .ref q_t), (1, .int x1)] := hl
  refine lv_iload_n hx hb dX8_seed_0 rfl (lv_at hl 1 rfl) ?_
  refine lv_if_ge (tgt := 6) hx hb dX8_seed_1 (by decide) (fun c1 => ?_) (fun c1 => ?_)
  · have h := ite_t c1 h
    refine lv_aload_n hx hb dX8_seed_6 rfl (lv_at hl 0 rfl) ?_
    refine va_get (D := D) (v := .ref (Q_t 5)) (C := RX8) (T := TX8) (N := 11) hx hb hts iX8 hown hK.1 hP 0 rfl rfl 5 (by decide) (hts _ t_305) (fun _ h9 => h9) rfl dX8_seed_7 ?_
    refine va_get (D := D) (v := .ref (Q_t_5 1)) (C := RX5) (T := TX5) (N := 8) hx hb hts iX5 hown hK.1 hP 2 rfl rfl 1 (by decide) (hts _ t_163) (fun _ h9 => h9) rfl dX8_seed_10 ?_
    refine va_get (D := D) (v := .int (gI z_t_5_1 4)) (C := RX0) (T := TX0) (N := 6) hx hb hts iX0 hown hK.1 hP 5 rfl rfl 4 (by decide) (hts _ t_143) (fun _ h9 => h9) rfl dX8_seed_13 ?_
    refine lv_istore_n (lv' := [(2, .int (gI z_t_5_1 4)), (0, .ref q_t), (1, .int x1)]) hx hb dX8_seed_16 rfl hl (by decide) rfl (fun ls hl => ?_)
    refine lv_aload_n hx hb dX8_seed_17 rfl (lv_at hl 1 rfl) ?_
    refine va_get (D := D) (v := .ref (Q_t 5)) (C := RX8) (T := TX8) (N := 11) hx hb hts iX8 hown hK.1 hP 0 rfl rfl 5 (by decide) (hts _ t_305) (fun _ h9 => h9) rfl dX8_seed_18 ?_
    refine va_get (D := D) (v := .ref (Q_t_5 1)) (C := RX5) (T := TX5) (N := 8) hx hb hts iX5 hown hK.1 hP 2 rfl rfl 1 (by decide) (hts _ t_163) (fun _ h9 => h9) rfl dX8_seed_21 ?_
    refine lv_iload_n hx hb dX8_seed_24 rfl (lv_at hl 2 rfl) ?_
    refine va_put (D := D) (v := .int x1) (C := RX0) (T := TX0) (N := 6) hx hb hts iX0 tyX0 tyX0_ok nmX0 hown hK.1 hP hD hS 5 rfl rfl 4 (by decide) (hts _ t_143) (fun _ h9 => h9) rfl (tyX0_ok 4 (by decide)) rfl rfl (Nat.le_of_ble_eq_true rfl) dX8_seed_25 (fun H locs hP hD hS => ?_)
    have hP : va_P D classes (rc8 a q_t Q_t z_t ++ (rc5 a (Q_t 5) Q_t_5 z_t_5 ++ (rc0 a (Q_t_5 1) Q_t_5_1 (sI z_t_5_1 4 x1)))) H := hP
    have hD : va_D A (rc8 a q_t Q_t z_t ++ (rc5 a (Q_t 5) Q_t_5 z_t_5 ++ (rc0 a (Q_t_5 1) Q_t_5_1 (sI z_t_5_1 4 x1)))) := hD
    refine lv_iload_n hx hb dX8_seed_28 rfl (lv_at hl 0 rfl) ?_
    exact rMi C rfl h (g := fun y => rc8 a q_t Q_t z_t ++ (rc5 a (Q_t 5) Q_t_5 z_t_5 ++ (rc0 a (Q_t_5 1) Q_t_5_1 y.2))) (pr := fun y => y.1) hP hD hS dX8_seed_29
  · have h := ite_f c1 h
    refine lv_iconst (v := (-1)) hx hb dX8_seed_4 (by decide) ?_
    exact rMi C rfl h (g := fun y => rc8 a q_t Q_t z_t ++ (rc5 a (Q_t 5) Q_t_5 z_t_5 ++ (rc0 a (Q_t_5 1) Q_t_5_1 y.2))) (pr := fun y => y.1) hP hD hS dX8_seed_5

set_option maxHeartbeats 4000000 in
set_option maxRecDepth 100000 in
theorem mX8_seen (l : Launch) (D : va_G) (a : Nat → ClassId) {q_t : Nat} {Q_t : Nat → Nat} {z_t : Sx} {Q_t_5 : Nat → Nat} {z_t_5 : Sx} {Q_t_5_0 : Nat → Nat} {z_t_5_0 : Sx} {Q_t_5_1 : Nat → Nat} {z_t_5_1 : Sx} {x1 : Int32} {x2 : Int32} {y : Int64} (h : fX8_seen z_t z_t_5 z_t_5_0 z_t_5_1 x1 x2 = some y) : CRl l MX8_seen 18 567 D a [.ref q_t, .int x1, .int x2] (rc8 a q_t Q_t z_t ++ (rc5 a (Q_t 5) Q_t_5 z_t_5 ++ (rc7 a (Q_t_5 0) Q_t_5_0 z_t_5_0 ++ (rc0 a (Q_t_5 1) Q_t_5_1 z_t_5_1)))) (fun r => r = y) := by
  unfold fX8_seen at h
  refine entR (by decide) (Nat.le_of_ble_eq_true rfl) ?_
  intro p e s m below meth c C hK hP ls hl
  obtain ⟨hx, hb, hml, hown, hts, hr, hlocks, hnm⟩ := id C
  have hb : c.code = cX8_seen := hb
  have hown : s.vm.findClass RX8 = some m.cls := hown
  have hl : lv_has ls 5 [(0, .ref q_t), (1, .int x1), (2, .int x2)] := hl
  refine lv_aload_n hx hb dX8_seen_0 rfl (lv_at hl 0 rfl) ?_
  refine lv_iload_n hx hb dX8_seen_1 rfl (lv_at hl 1 rfl) ?_
  obtain ⟨r2, hc1, h⟩ := bd_some h
  refine cRi (runV (As := [.int x1]) (rest := []) C (mX8_isFault l D a (q_t := q_t) (Q_t := Q_t) (Q_t_5 := Q_t_5) (Q_t_5_0 := Q_t_5_0) hc1) lk_V_8_139 okN_X8_isFault ⟨Nat.le_of_ble_eq_true rfl, Nat.le_of_ble_eq_true rfl⟩ ⟨rfl, rfl⟩ (preV (preR hK (P_of_map (wc := rc8 a q_t Q_t z_t ++ (rc5 a (Q_t 5) Q_t_5 z_t_5 ++ (rc7 a (Q_t_5 0) Q_t_5_0 z_t_5_0))) hP [0, 1, 2, 3, 4, 5, 6, 7, 8, 9, 10, 11, 12, 13, 14, 15, 16, 17] rfl)) (recvOf hK hP 0 rfl (ci := 8) rfl)) hl.1 rfl (Nat.le_of_ble_eq_true rfl) dX8_seen_2 ⟨Nat.le_of_ble_eq_true rfl, Nat.le_of_ble_eq_true rfl⟩) ?_
  refine lv_if_eq (tgt := 17) hx hb dX8_seen_5 (by decide) (fun c3 => ?_) (fun c3 => ?_)
  · have h := ite_t c3 h
    refine lv_ldc2 hx hb hown (hts _ t_753) dX8_seen_17 ?_
    exact rRl C rfl (Option.some.inj h) dX8_seen_20
  · have h := ite_f c3 h
    refine lv_iload_n hx hb dX8_seen_8 rfl (lv_at hl 2 rfl) ?_
    refine lv_if_lt (tgt := 17) hx hb dX8_seen_9 (by decide) (fun c4 => ?_) (fun c4 => ?_)
    · have h := ite_t c4 h
      refine lv_ldc2 hx hb hown (hts _ t_753) dX8_seen_17 ?_
      exact rRl C rfl (Option.some.inj h) dX8_seen_20
    · have h := ite_f c4 h
      refine lv_iload_n hx hb dX8_seen_12 rfl (lv_at hl 2 rfl) ?_
      refine lv_iconst (v := 1) hx hb dX8_seen_13 (by decide) ?_
      refine lv_icmp_le (tgt := 21) hx hb dX8_seen_14 (by decide) (fun c5 => ?_) (fun c5 => ?_)
      · have h := ite_t c5 h
        refine lv_aload_n hx hb dX8_seen_21 rfl (lv_at hl 0 rfl) ?_
        refine va_get (D := D) (v := .ref (Q_t 5)) (C := RX8) (T := TX8) (N := 11) hx hb hts iX8 hown hK.1 hP 0 rfl rfl 5 (by decide) (hts _ t_305) (fun _ h9 => h9) rfl dX8_seen_22 ?_
        refine va_get (D := D) (v := .ref (Q_t_5 1)) (C := RX5) (T := TX5) (N := 8) hx hb hts iX5 hown hK.1 hP 2 rfl rfl 1 (by decide) (hts _ t_163) (fun _ h9 => h9) rfl dX8_seen_25 ?_
        refine va_get (D := D) (v := .int (gI z_t_5_1 2)) (C := RX0) (T := TX0) (N := 6) hx hb hts iX0 hown hK.1 hP 18 rfl rfl 2 (by decide) (hts _ t_138) (fun _ h9 => h9) rfl dX8_seen_28 ?_
        refine lv_iload_n hx hb dX8_seen_31 rfl (lv_at hl 1 rfl) ?_
        obtain ⟨r7, hc6, h⟩ := bd_some h
        refine cRi (runS (As := [.int (gI z_t_5_1 2), .int x1]) (rest := []) C (mX8_has l D a hc6) lk_S_8_161 okN_X8_has ⟨Nat.le_of_ble_eq_true rfl, Nat.le_of_ble_eq_true rfl⟩ ⟨rfl, rfl⟩ (preR hK (P_of_map (wc := []) hP [] rfl)) hl.1 rfl (Nat.le_of_ble_eq_true rfl) dX8_seen_32 ⟨Nat.le_of_ble_eq_true rfl, Nat.le_of_ble_eq_true rfl⟩) ?_
        refine lv_if_eq (tgt := 40) hx hb dX8_seen_35 (by decide) (fun c8 => ?_) (fun c8 => ?_)
        · have h := ite_t c8 h
          refine lv_aload_n hx hb dX8_seen_40 rfl (lv_at hl 0 rfl) ?_
          refine lv_iconst (v := 0) hx hb dX8_seen_41 (by decide) ?_
          refine lv_aload_n hx hb dX8_seen_42 rfl (lv_at hl 0 rfl) ?_
          refine va_get (D := D) (v := .ref (Q_t 5)) (C := RX8) (T := TX8) (N := 11) hx hb hts iX8 hown hK.1 hP 0 rfl rfl 5 (by decide) (hts _ t_305) (fun _ h9 => h9) rfl dX8_seen_43 ?_
          refine va_get (D := D) (v := .ref (Q_t_5 1)) (C := RX5) (T := TX5) (N := 8) hx hb hts iX5 hown hK.1 hP 2 rfl rfl 1 (by decide) (hts _ t_163) (fun _ h9 => h9) rfl dX8_seen_46 ?_
          obtain ⟨r10, hc9, h⟩ := bd_some h
          refine cRi (runV (As := []) (rest := [.int 0, .ref q_t]) C (mX0_gone l D a (q_t := (Q_t_5 1)) (Q_t := Q_t_5_1) hc9) lk_V_8_171 okN_X0_gone ⟨Nat.le_of_ble_eq_true rfl, Nat.le_of_ble_eq_true rfl⟩ ⟨rfl, rfl⟩ (preV (preR hK (P_of_map (wc := rc0 a (Q_t_5 1) Q_t_5_1 z_t_5_1) hP [18, 19] rfl)) (recvOf hK hP 18 rfl (ci := 0) rfl)) hl.1 rfl (Nat.le_of_ble_eq_true rfl) dX8_seen_49 ⟨Nat.le_of_ble_eq_true rfl, Nat.le_of_ble_eq_true rfl⟩) ?_
          refine lv_aload_n hx hb dX8_seen_52 rfl (lv_at hl 0 rfl) ?_
          refine va_get (D := D) (v := .ref (Q_t 5)) (C := RX8) (T := TX8) (N := 11) hx hb hts iX8 hown hK.1 hP 0 rfl rfl 5 (by decide) (hts _ t_305) (fun _ h9 => h9) rfl dX8_seen_53 ?_
          refine va_get (D := D) (v := .ref (Q_t_5 1)) (C := RX5) (T := TX5) (N := 8) hx hb hts iX5 hown hK.1 hP 2 rfl rfl 1 (by decide) (hts _ t_163) (fun _ h9 => h9) rfl dX8_seen_56 ?_
          refine va_get (D := D) (v := .int (gI z_t_5_1 0)) (C := RX0) (T := TX0) (N := 6) hx hb hts iX0 hown hK.1 hP 18 rfl rfl 0 (by decide) (hts _ t_132) (fun _ h9 => h9) rfl dX8_seen_59 ?_
          refine lv_iload_n hx hb dX8_seen_62 rfl (lv_at hl 1 rfl) ?_
          obtain ⟨r12, hc11, h⟩ := bd_some h
          refine cRl (runV (As := [.int 0, .int r10, .int (gI z_t_5_1 0), .int x1]) (rest := []) C (mX8_rowMean l D a 16 (q_t := q_t) (Q_t := Q_t) (Q_t_5 := Q_t_5) (Q_t_5_0 := Q_t_5_0) hc11) lk_V_8_245 okN_X8_rowMean ⟨Nat.le_of_ble_eq_true rfl, Nat.le_of_ble_eq_true rfl⟩ ⟨rfl, rfl⟩ (preV (preR hK (P_of_map (wc := rc8 a q_t Q_t z_t ++ (rc5 a (Q_t 5) Q_t_5 z_t_5 ++ (rc7 a (Q_t_5 0) Q_t_5_0 z_t_5_0))) hP [0, 1, 2, 3, 4, 5, 6, 7, 8, 9, 10, 11, 12, 13, 14, 15, 16, 17] rfl)) (recvOf hK hP 0 rfl (ci := 8) rfl)) hl.1 rfl (Nat.le_of_ble_eq_true rfl) dX8_seen_63 ⟨Nat.le_of_ble_eq_true rfl, Nat.le_of_ble_eq_true rfl⟩) ?_
          refine lv_lstore_n (lv' := [(3, .long r12), (0, .ref q_t), (1, .int x1), (2, .int x2)]) hx hb dX8_seen_66 rfl hl (by decide) rfl (fun ls hl => ?_)
          refine lv_lload_n hx hb dX8_seen_67 rfl (lv_at hl 0 rfl) ?_
          refine lv_aload_n hx hb dX8_seen_68 rfl (lv_at hl 1 rfl) ?_
          refine va_get (D := D) (v := .ref (Q_t 5)) (C := RX8) (T := TX8) (N := 11) hx hb hts iX8 hown hK.1 hP 0 rfl rfl 5 (by decide) (hts _ t_305) (fun _ h9 => h9) rfl dX8_seen_69 ?_
          refine va_get (D := D) (v := .int (gI z_t_5 6)) (C := RX5) (T := TX5) (N := 8) hx hb hts iX5 hown hK.1 hP 2 rfl rfl 6 (by decide) (hts _ t_173) (fun _ h9 => h9) rfl dX8_seen_72 ?_
          obtain ⟨r14, hc13, h⟩ := bd_some h
          refine cRl (runS (As := [.int (gI z_t_5 6)]) (rest := [.long r12]) C (mX8_hundreds l D a hc13) lk_S_8_249 okN_X8_hundreds ⟨Nat.le_of_ble_eq_true rfl, Nat.le_of_ble_eq_true rfl⟩ ⟨rfl, rfl⟩ (preR hK (P_of_map (wc := []) hP [] rfl)) hl.1 rfl (Nat.le_of_ble_eq_true rfl) dX8_seen_75 ⟨Nat.le_of_ble_eq_true rfl, Nat.le_of_ble_eq_true rfl⟩) ?_
          refine lv_iload_n hx hb dX8_seen_78 rfl (lv_at hl 3 rfl) ?_
          obtain ⟨r16, hc15, h⟩ := bd_some h
          refine cRl (runS (As := [.long r12, .long r14, .int x2]) (rest := []) C (mX8_partOf l D a hc15) lk_S_8_253 okN_X8_partOf ⟨Nat.le_of_ble_eq_true rfl, Nat.le_of_ble_eq_true rfl⟩ ⟨rfl, rfl⟩ (preR hK (P_of_map (wc := []) hP [] rfl)) hl.1 rfl (Nat.le_of_ble_eq_true rfl) dX8_seen_79 ⟨Nat.le_of_ble_eq_true rfl, Nat.le_of_ble_eq_true rfl⟩) ?_
          exact rRl C rfl (Option.some.inj h) dX8_seen_82
        · have h := ite_f c8 h
          refine lv_lconst (v := 1) hx hb dX8_seen_38 (by decide) ?_
          exact rRl C rfl (Option.some.inj h) dX8_seen_39
      · have h := ite_f c5 h
        refine lv_ldc2 hx hb hown (hts _ t_753) dX8_seen_17 ?_
        exact rRl C rfl (Option.some.inj h) dX8_seen_20

set_option maxHeartbeats 4000000 in
set_option maxRecDepth 100000 in
theorem mX8_weeks_none (l : Launch) (D : va_G) (a : Nat → ClassId) {q_t : Nat} {Q_t : Nat → Nat} {z_t : Sx} {B_t_2 : Nat → Option Nat} {Q_t_5 : Nat → Nat} {z_t_5 : Sx} {Q_t_5_0 : Nat → Nat} {z_t_5_0 : Sx} {x1 : Int32} {x2 : Int32} {x3 : Int32} (hm : fX8_ruleForWork z_t B_t_2 z_t_5 z_t_5_0 x1 = some none) {y : Int32} (h : fX8_weeks_none z_t B_t_2 z_t_5 z_t_5_0 x1 x2 x3 = some y) : CRi l MX8_weeks 2 42 D a [.ref q_t, .int x1, .int x2, .int x3] (rc8 a q_t Q_t z_t ++ (rb4 a (Q_t 2) 6 B_t_2 ++ (rc5 a (Q_t 5) Q_t_5 z_t_5 ++ (rc7 a (Q_t_5 0) Q_t_5_0 z_t_5_0)))) (fun r => r = y) := by
  unfold fX8_weeks_none at h
  refine entR (by decide) (Nat.le_of_ble_eq_true rfl) ?_
  intro p e s m below meth c C hK hP ls hl
  obtain ⟨hx, hb, hml, hown, hts, hr, hlocks, hnm⟩ := id C
  have hb : c.code = cX8_weeks := hb
  have hown : s.vm.findClass RX8 = some m.cls := hown
  have hl : lv_has ls 7 [(0, .ref q_t), (1, .int x1), (2, .int x2), (3, .int x3)] := hl
  refine lv_aload_n hx hb dX8_weeks_0 rfl (lv_at hl 0 rfl) ?_
  refine lv_iload_n hx hb dX8_weeks_1 rfl (lv_at hl 1 rfl) ?_
  obtain ⟨r2, hc1, h⟩ := bd_some h
  refine cRq (runV (As := [.int x1]) (rest := []) C (mX8_ruleForWork l D a (q_t := q_t) (Q_t := Q_t) (Q_t_5 := Q_t_5) (Q_t_5_0 := Q_t_5_0) hc1) lk_V_8_228 okN_X8_ruleForWork ⟨Nat.le_of_ble_eq_true rfl, Nat.le_of_ble_eq_true rfl⟩ ⟨rfl, rfl⟩ (preV (preR hK hP) (recvOf hK hP 0 rfl (ci := 8) rfl)) hl.1 rfl (Nat.le_of_ble_eq_true rfl) dX8_weeks_2 ⟨Nat.le_of_ble_eq_true rfl, Nat.le_of_ble_eq_true rfl⟩) ?_
  obtain rfl := Option.some.inj (hc1.symm.trans hm)
  refine lv_astoreN (lv' := [(4, .null), (0, .ref q_t), (1, .int x1), (2, .int x2), (3, .int x3)]) hx hb dX8_weeks_5 hl (by decide) rfl (fun ls hl => ?_)
  refine lv_aloadN hx hb dX8_weeks_7 (lv_at hl 0 rfl) ?_
  refine lv_ifnullN (tgt := 32) hx hb dX8_weeks_9 (by decide) ?_
  refine lv_iconst (v := (-1)) hx hb dX8_weeks_32 (by decide) ?_
  exact rRi C rfl (Option.some.inj h) dX8_weeks_33


def fX8_end (z_t : Sx) (x1 : Int32) : Option (Int32 × Sx) := if x1 < 0 then some ((-1), z_t) else if x1 ≤ (gI z_t 1) then some (x1, sI z_t 1 x1) else some ((-1), z_t)

set_option maxHeartbeats 4000000 in
set_option maxRecDepth 100000 in
theorem mX8_end (l : Launch) (D : va_G) (a : Nat → ClassId) {q_t : Nat} {Q_t : Nat → Nat} {z_t : Sx} {x1 : Int32} {y : Int32 × Sx} (h : fX8_end z_t x1 = some y) (sz : Nat) : CMi (S := Unit) l MX8_end 0 0 0 0 D a [.ref q_t, .int x1] (rc8 a q_t Q_t z_t) sz (fun r _ => r = y.1) (fun _ => rc8 a q_t Q_t y.2) := by
  unfold fX8_end at h
  refine entMi (by decide) (Nat.le_of_ble_eq_true rfl) ?_
  intro p e s m below meth c C hK A hA hP hD ls hl
  obtain ⟨hx, hb, hml, hown, hts, hr, hlocks, hnm⟩ := id C
  have hb : c.code = cX8_end := hb
  have hown : s.vm.findClass RX8 = some m.cls := hown
  have hS : va_S A s.heap s.heap [] := va_S.rf
  have hl : lv_has ls 2 [(0, .ref q_t), (1, .int x1)] := hl
  refine lv_iload_n hx hb dX8_end_0 rfl (lv_at hl 1 rfl) ?_
  refine lv_if_lt (tgt := 12) hx hb dX8_end_1 (by decide) (fun c1 => ?_) (fun c1 => ?_)
  · have h := ite_t c1 h
    refine lv_iconst (v := (-1)) hx hb dX8_end_12 (by decide) ?_
    exact rMi C rfl h (g := fun y => rc8 a q_t Q_t y.2) (pr := fun y => y.1) hP hD hS dX8_end_13
  · have h := ite_f c1 h
    refine lv_iload_n hx hb dX8_end_4 rfl (lv_at hl 1 rfl) ?_
    refine lv_aload_n hx hb dX8_end_5 rfl (lv_at hl 0 rfl) ?_
    refine va_get (D := D) (v := .int (gI z_t 1)) (C := RX8) (T := TX8) (N := 11) hx hb hts iX8 hown hK.1 hP 0 rfl rfl 1 (by decide) (hts _ t_301) (fun _ h9 => h9) rfl dX8_end_6 ?_
    refine lv_icmp_le (tgt := 14) hx hb dX8_end_9 (by decide) (fun c2 => ?_) (fun c2 => ?_)
    · have h := ite_t c2 h
      refine lv_aload_n hx hb dX8_end_14 rfl (lv_at hl 0 rfl) ?_
      refine lv_iload_n hx hb dX8_end_15 rfl (lv_at hl 1 rfl) ?_
      refine va_put (D := D) (v := .int x1) (C := RX8) (T := TX8) (N := 11) hx hb hts iX8 tyX8 tyX8_ok nmX8 hown hK.1 hP hD hS 0 rfl rfl 1 (by decide) (hts _ t_301) (fun _ h9 => h9) rfl (tyX8_ok 1 (by decide)) rfl rfl (Nat.le_of_ble_eq_true rfl) dX8_end_16 (fun H locs hP hD hS => ?_)
      have hP : va_P D classes (rc8 a q_t Q_t (sI z_t 1 x1)) H := hP
      have hD : va_D A (rc8 a q_t Q_t (sI z_t 1 x1)) := hD
      refine lv_iload_n hx hb dX8_end_19 rfl (lv_at hl 1 rfl) ?_
      exact rMi C rfl h (g := fun y => rc8 a q_t Q_t y.2) (pr := fun y => y.1) hP hD hS dX8_end_20
    · have h := ite_f c2 h
      refine lv_iconst (v := (-1)) hx hb dX8_end_12 (by decide) ?_
      exact rMi C rfl h (g := fun y => rc8 a q_t Q_t y.2) (pr := fun y => y.1) hP hD hS dX8_end_13

def fX8_isFault (z_t : Sx) (z_t_5 : Sx) (z_t_5_0 : Sx) (x1 : Int32) : Option (Int32) := if x1 < 0 then some 0 else if (gI z_t_5_0 3) ≤ x1 then some 0 else some 1

set_option maxHeartbeats 4000000 in
set_option maxRecDepth 100000 in
theorem mX8_isFault (l : Launch) (D : va_G) (a : Nat → ClassId) {q_t : Nat} {Q_t : Nat → Nat} {z_t : Sx} {Q_t_5 : Nat → Nat} {z_t_5 : Sx} {Q_t_5_0 : Nat → Nat} {z_t_5_0 : Sx} {x1 : Int32} {y : Int32} (h : fX8_isFault z_t z_t_5 z_t_5_0 x1 = some y) : CRi l MX8_isFault 0 0 D a [.ref q_t, .int x1] (rc8 a q_t Q_t z_t ++ (rc5 a (Q_t 5) Q_t_5 z_t_5 ++ (rc7 a (Q_t_5 0) Q_t_5_0 z_t_5_0))) (fun r => r = y) := by
  unfold fX8_isFault at h
  refine entR (by decide) (Nat.le_of_ble_eq_true rfl) ?_
  intro p e s m below meth c C hK hP ls hl
  obtain ⟨hx, hb, hml, hown, hts, hr, hlocks, hnm⟩ := id C
  have hb : c.code = cX8_isFault := hb
  have hown : s.vm.findClass RX8 = some m.cls := hown
  have hl : lv_has ls 2 [(0, .ref q_t), (1, .int x1)] := hl
  refine lv_iload_n hx hb dX8_isFault_0 rfl (lv_at hl 1 rfl) ?_
  refine lv_if_lt (tgt := 22) hx hb dX8_isFault_1 (by decide) (fun c1 => ?_) (fun c1 => ?_)
  · have h := ite_t c1 h
    refine lv_iconst (v := 0) hx hb dX8_isFault_22 (by decide) ?_
    exact rRz C rfl (Or.inl rfl) (Option.some.inj h) dX8_isFault_23
  · have h := ite_f c1 h
    refine lv_iload_n hx hb dX8_isFault_4 rfl (lv_at hl 1 rfl) ?_
    refine lv_aload_n hx hb dX8_isFault_5 rfl (lv_at hl 0 rfl) ?_
    refine va_get (D := D) (v := .ref (Q_t 5)) (C := RX8) (T := TX8) (N := 11) hx hb hts iX8 hown hK.1 hP 0 rfl rfl 5 (by decide) (hts _ t_305) (fun _ h9 => h9) rfl dX8_isFault_6 ?_
    refine va_get (D := D) (v := .ref (Q_t_5 0)) (C := RX5) (T := TX5) (N := 8) hx hb hts iX5 hown hK.1 hP 2 rfl rfl 0 (by decide) (hts _ t_161) (fun _ h9 => h9) rfl dX8_isFault_9 ?_
    refine va_get (D := D) (v := .int (gI z_t_5_0 3)) (C := RX7) (T := TX7) (N := 18) hx hb hts iX7 hown hK.1 hP 5 rfl rfl 3 (by decide) (hts _ t_47) (fun _ h9 => h9) rfl dX8_isFault_12 ?_
    refine lv_icmp_ge (tgt := 22) hx hb dX8_isFault_15 (by decide) (fun c2 => ?_) (fun c2 => ?_)
    · have h := ite_t c2 h
      refine lv_iconst (v := 0) hx hb dX8_isFault_22 (by decide) ?_
      exact rRz C rfl (Or.inl rfl) (Option.some.inj h) dX8_isFault_23
    · have h := ite_f c2 h
      refine lv_iconst (v := 1) hx hb dX8_isFault_18 (by decide) ?_
      refine lv_goto (tgt := 23) hx hb dX8_isFault_19 (by decide) ?_
      exact rRz C rfl (Or.inr rfl) (Option.some.inj h) dX8_isFault_23

def fX8_fault (z_t : Sx) (z_t_5 : Sx) (z_t_5_0 : Sx) (z_t_5_1 : Sx) (x1 : Int32) (x2 : Int32) : Option (Int32) := bd (fX8_isFault z_t z_t_5 z_t_5_0 x1) (fun r2 => if r2 = 0 then some (-2) else if x2 = 0 then bd (fX8_at 10 (gT z_t_5_0 8) x1) (fun r6 => some r6) else if x2 = 1 then bd (fX8_at 10 (gT z_t_5_0 9) x1) (fun r8 => some r8) else if x2 = 2 then bd (fX8_at 10 (gT z_t_5_0 10) x1) (fun r10 => some r10) else if x2 = 3 then bd (fX8_at 10 (gT z_t_5_0 11) x1) (fun r12 => some r12) else if x2 = 4 then bd (fX8_has (gI z_t_5_1 2) x1) (fun r14 => if r14 = 0 then bd (fX8_has (gI z_t_5_1 3) x1) (fun r17 => if r17 = 0 then some 0 else some 2) else some 1) else if x2 = 5 then bd (fX8_at 10 (gT z_t_5_1 5) x1) (fun r20 => some r20) else if x2 = 6 then bd (fX0_gone z_t_5_1) (fun r22 => bd (fX7_isOpen z_t_5_0 x1 r22) (fun r24 => if r24 = 0 then some 0 else some 1)) else some (-2))

set_option maxHeartbeats 4000000 in
set_option maxRecDepth 100000 in
theorem mX8_fault (l : Launch) (D : va_G) (a : Nat → ClassId) {q_t : Nat} {Q_t : Nat → Nat} {z_t : Sx} {Q_t_5 : Nat → Nat} {z_t_5 : Sx} {Q_t_5_0 : Nat → Nat} {z_t_5_0 : Sx} {Q_t_5_1 : Nat → Nat} {z_t_5_1 : Sx} {x1 : Int32} {x2 : Int32} {y : Int32} (h : fX8_fault z_t z_t_5 z_t_5_0 z_t_5_1 x1 x2 = some y) : CRi l MX8_fault 1 23 D a [.ref q_t, .int x1, .int x2] (rc8 a q_t Q_t z_t ++ (rc5 a (Q_t 5) Q_t_5 z_t_5 ++ (rc7 a (Q_t_5 0) Q_t_5_0 z_t_5_0 ++ (rc0 a (Q_t_5 1) Q_t_5_1 z_t_5_1)))) (fun r => r = y) := by
  unfold fX8_fault at h
  refine entR (by decide) (Nat.le_of_ble_eq_true rfl) ?_
  intro p e s m below meth c C hK hP ls hl
  obtain ⟨hx, hb, hml, hown, hts, hr, hlocks, hnm⟩ := id C
  have hb : c.code = cX8_fault := hb
  have hown : s.vm.findClass RX8 = some m.cls := hown
  have hl : lv_has ls 5 [(0, .ref q_t), (1, .int x1), (2, .int x2)] := hl
  refine lv_aload_n hx hb dX8_fault_0 rfl (lv_at hl 0 rfl) ?_
  refine lv_iload_n hx hb dX8_fault_1 rfl (lv_at hl 1 rfl) ?_
  obtain ⟨r2, hc1, h⟩ := bd_some h
  refine cRi (runV (As := [.int x1]) (rest := []) C (mX8_isFault l D a hc1) lk_V_8_139 okN_X8_isFault ⟨Nat.le_of_ble_eq_true rfl, Nat.le_of_ble_eq_true rfl⟩ ⟨rfl, rfl⟩ (preV (preR hK (P_of_map (wc := rc8 a q_t Q_t z_t ++ (rc5 a (Q_t 5) Q_t_5 z_t_5 ++ (rc7 a (Q_t_5 0) Q_t_5_0 z_t_5_0))) hP [0, 1, 2, 3, 4, 5, 6, 7, 8, 9, 10, 11, 12, 13, 14, 15, 16, 17] rfl)) (recvOf hK hP 0 rfl (ci := 8) rfl)) hl.1 rfl (Nat.le_of_ble_eq_true rfl) dX8_fault_2 ⟨Nat.le_of_ble_eq_true rfl, Nat.le_of_ble_eq_true rfl⟩) ?_
  refine lv_if_ne (tgt := 11) hx hb dX8_fault_5 (by decide) (fun c3 => ?_) (fun c3 => ?_)
  · have h := ite_f c3 h
    refine lv_aload_n hx hb dX8_fault_11 rfl (lv_at hl 0 rfl) ?_
    refine va_get (D := D) (v := .ref (Q_t 5)) (C := RX8) (T := TX8) (N := 11) hx hb hts iX8 hown hK.1 hP 0 rfl rfl 5 (by decide) (hts _ t_305) (fun _ h9 => h9) rfl dX8_fault_12 ?_
    refine va_get (D := D) (v := .ref (Q_t_5 0)) (C := RX5) (T := TX5) (N := 8) hx hb hts iX5 hown hK.1 hP 2 rfl rfl 0 (by decide) (hts _ t_161) (fun _ h9 => h9) rfl dX8_fault_15 ?_
    refine lv_astore_n (lv' := [(3, .ref (Q_t_5 0)), (0, .ref q_t), (1, .int x1), (2, .int x2)]) hx hb dX8_fault_18 rfl hl (by decide) rfl (fun ls hl => ?_)
    refine lv_aload_n hx hb dX8_fault_19 rfl (lv_at hl 1 rfl) ?_
    refine va_get (D := D) (v := .ref (Q_t 5)) (C := RX8) (T := TX8) (N := 11) hx hb hts iX8 hown hK.1 hP 0 rfl rfl 5 (by decide) (hts _ t_305) (fun _ h9 => h9) rfl dX8_fault_20 ?_
    refine va_get (D := D) (v := .ref (Q_t_5 1)) (C := RX5) (T := TX5) (N := 8) hx hb hts iX5 hown hK.1 hP 2 rfl rfl 1 (by decide) (hts _ t_163) (fun _ h9 => h9) rfl dX8_fault_23 ?_
    refine lv_astore (lv' := [(4, .ref (Q_t_5 1)), (3, .ref (Q_t_5 0)), (0, .ref q_t), (1, .int x1), (2, .int x2)]) hx hb dX8_fault_26 hl (by decide) rfl (fun ls hl => ?_)
    refine lv_iload_n hx hb dX8_fault_28 rfl (lv_at hl 4 rfl) ?_
    by_cases c4_0 : x2 = 0
    · have h := ite_t c4_0 h
      refine lv_tableIn (off := 43) (tgt := 72) hx hb dX8_fault_29 (by rw [c4_0]; decide) (by rw [c4_0]; decide) (by rw [c4_0]; decide) (by decide) ?_
      refine lv_aload_n hx hb dX8_fault_72 rfl (lv_at hl 1 rfl) ?_
      refine va_get (D := D) (v := .ref (Q_t_5_0 8)) (C := RX7) (T := TX7) (N := 18) hx hb hts iX7 hown hK.1 hP 5 rfl rfl 8 (by decide) (hts _ t_57) (fun _ h9 => h9) rfl dX8_fault_73 ?_
      refine lv_iload_n hx hb dX8_fault_76 rfl (lv_at hl 3 rfl) ?_
      obtain ⟨r6, hc5, h⟩ := bd_some h
      refine cRi (runS (As := [.ref (Q_t_5_0 8), .int x1]) (rest := []) C (mX8_at l D a hc5) lk_S_8_129 okN_X8_at ⟨Nat.le_of_ble_eq_true rfl, Nat.le_of_ble_eq_true rfl⟩ ⟨rfl, rfl⟩ (preR hK (P_of_map (wc := ra0 a (Q_t_5_0 8) 10 (gT z_t_5_0 8)) hP [9] rfl)) hl.1 rfl (Nat.le_of_ble_eq_true rfl) dX8_fault_77 ⟨Nat.le_of_ble_eq_true rfl, Nat.le_of_ble_eq_true rfl⟩) ?_
      exact rRi C rfl (Option.some.inj h) dX8_fault_80
    have h := ite_f c4_0 h
    by_cases c4_1 : x2 = 1
    · have h := ite_t c4_1 h
      refine lv_tableIn (off := 52) (tgt := 81) hx hb dX8_fault_29 (by rw [c4_1]; decide) (by rw [c4_1]; decide) (by rw [c4_1]; decide) (by decide) ?_
      refine lv_aload_n hx hb dX8_fault_81 rfl (lv_at hl 1 rfl) ?_
      refine va_get (D := D) (v := .ref (Q_t_5_0 9)) (C := RX7) (T := TX7) (N := 18) hx hb hts iX7 hown hK.1 hP 5 rfl rfl 9 (by decide) (hts _ t_62) (fun _ h9 => h9) rfl dX8_fault_82 ?_
      refine lv_iload_n hx hb dX8_fault_85 rfl (lv_at hl 3 rfl) ?_
      obtain ⟨r8, hc7, h⟩ := bd_some h
      refine cRi (runS (As := [.ref (Q_t_5_0 9), .int x1]) (rest := []) C (mX8_at l D a hc7) lk_S_8_129 okN_X8_at ⟨Nat.le_of_ble_eq_true rfl, Nat.le_of_ble_eq_true rfl⟩ ⟨rfl, rfl⟩ (preR hK (P_of_map (wc := ra0 a (Q_t_5_0 9) 10 (gT z_t_5_0 9)) hP [10] rfl)) hl.1 rfl (Nat.le_of_ble_eq_true rfl) dX8_fault_86 ⟨Nat.le_of_ble_eq_true rfl, Nat.le_of_ble_eq_true rfl⟩) ?_
      exact rRi C rfl (Option.some.inj h) dX8_fault_89
    have h := ite_f c4_1 h
    by_cases c4_2 : x2 = 2
    · have h := ite_t c4_2 h
      refine lv_tableIn (off := 61) (tgt := 90) hx hb dX8_fault_29 (by rw [c4_2]; decide) (by rw [c4_2]; decide) (by rw [c4_2]; decide) (by decide) ?_
      refine lv_aload_n hx hb dX8_fault_90 rfl (lv_at hl 1 rfl) ?_
      refine va_get (D := D) (v := .ref (Q_t_5_0 10)) (C := RX7) (T := TX7) (N := 18) hx hb hts iX7 hown hK.1 hP 5 rfl rfl 10 (by decide) (hts _ t_67) (fun _ h9 => h9) rfl dX8_fault_91 ?_
      refine lv_iload_n hx hb dX8_fault_94 rfl (lv_at hl 3 rfl) ?_
      obtain ⟨r10, hc9, h⟩ := bd_some h
      refine cRi (runS (As := [.ref (Q_t_5_0 10), .int x1]) (rest := []) C (mX8_at l D a hc9) lk_S_8_129 okN_X8_at ⟨Nat.le_of_ble_eq_true rfl, Nat.le_of_ble_eq_true rfl⟩ ⟨rfl, rfl⟩ (preR hK (P_of_map (wc := ra0 a (Q_t_5_0 10) 10 (gT z_t_5_0 10)) hP [11] rfl)) hl.1 rfl (Nat.le_of_ble_eq_true rfl) dX8_fault_95 ⟨Nat.le_of_ble_eq_true rfl, Nat.le_of_ble_eq_true rfl⟩) ?_
      exact rRi C rfl (Option.some.inj h) dX8_fault_98
    have h := ite_f c4_2 h
    by_cases c4_3 : x2 = 3
    · have h := ite_t c4_3 h
      refine lv_tableIn (off := 70) (tgt := 99) hx hb dX8_fault_29 (by rw [c4_3]; decide) (by rw [c4_3]; decide) (by rw [c4_3]; decide) (by decide) ?_
      refine lv_aload_n hx hb dX8_fault_99 rfl (lv_at hl 1 rfl) ?_
      refine va_get (D := D) (v := .ref (Q_t_5_0 11)) (C := RX7) (T := TX7) (N := 18) hx hb hts iX7 hown hK.1 hP 5 rfl rfl 11 (by decide) (hts _ t_69) (fun _ h9 => h9) rfl dX8_fault_100 ?_
      refine lv_iload_n hx hb dX8_fault_103 rfl (lv_at hl 3 rfl) ?_
      obtain ⟨r12, hc11, h⟩ := bd_some h
      refine cRi (runS (As := [.ref (Q_t_5_0 11), .int x1]) (rest := []) C (mX8_at l D a hc11) lk_S_8_129 okN_X8_at ⟨Nat.le_of_ble_eq_true rfl, Nat.le_of_ble_eq_true rfl⟩ ⟨rfl, rfl⟩ (preR hK (P_of_map (wc := ra0 a (Q_t_5_0 11) 10 (gT z_t_5_0 11)) hP [12] rfl)) hl.1 rfl (Nat.le_of_ble_eq_true rfl) dX8_fault_104 ⟨Nat.le_of_ble_eq_true rfl, Nat.le_of_ble_eq_true rfl⟩) ?_
      exact rRi C rfl (Option.some.inj h) dX8_fault_107
    have h := ite_f c4_3 h
    by_cases c4_4 : x2 = 4
    · have h := ite_t c4_4 h
      refine lv_tableIn (off := 79) (tgt := 108) hx hb dX8_fault_29 (by rw [c4_4]; decide) (by rw [c4_4]; decide) (by rw [c4_4]; decide) (by decide) ?_
      refine lv_aload hx hb dX8_fault_108 (lv_at hl 0 rfl) ?_
      refine va_get (D := D) (v := .int (gI z_t_5_1 2)) (C := RX0) (T := TX0) (N := 6) hx hb hts iX0 hown hK.1 hP 18 rfl rfl 2 (by decide) (hts _ t_138) (fun _ h9 => h9) rfl dX8_fault_110 ?_
      refine lv_iload_n hx hb dX8_fault_113 rfl (lv_at hl 3 rfl) ?_
      obtain ⟨r14, hc13, h⟩ := bd_some h
      refine cRi (runS (As := [.int (gI z_t_5_1 2), .int x1]) (rest := []) C (mX8_has l D a hc13) lk_S_8_161 okN_X8_has ⟨Nat.le_of_ble_eq_true rfl, Nat.le_of_ble_eq_true rfl⟩ ⟨rfl, rfl⟩ (preR hK (P_of_map (wc := []) hP [] rfl)) hl.1 rfl (Nat.le_of_ble_eq_true rfl) dX8_fault_114 ⟨Nat.le_of_ble_eq_true rfl, Nat.le_of_ble_eq_true rfl⟩) ?_
      refine lv_if_eq (tgt := 124) hx hb dX8_fault_117 (by decide) (fun c15 => ?_) (fun c15 => ?_)
      · have h := ite_t c15 h
        refine lv_aload hx hb dX8_fault_124 (lv_at hl 0 rfl) ?_
        refine va_get (D := D) (v := .int (gI z_t_5_1 3)) (C := RX0) (T := TX0) (N := 6) hx hb hts iX0 hown hK.1 hP 18 rfl rfl 3 (by decide) (hts _ t_141) (fun _ h9 => h9) rfl dX8_fault_126 ?_
        refine lv_iload_n hx hb dX8_fault_129 rfl (lv_at hl 3 rfl) ?_
        obtain ⟨r17, hc16, h⟩ := bd_some h
        refine cRi (runS (As := [.int (gI z_t_5_1 3), .int x1]) (rest := []) C (mX8_has l D a hc16) lk_S_8_161 okN_X8_has ⟨Nat.le_of_ble_eq_true rfl, Nat.le_of_ble_eq_true rfl⟩ ⟨rfl, rfl⟩ (preR hK (P_of_map (wc := []) hP [] rfl)) hl.1 rfl (Nat.le_of_ble_eq_true rfl) dX8_fault_130 ⟨Nat.le_of_ble_eq_true rfl, Nat.le_of_ble_eq_true rfl⟩) ?_
        refine lv_if_eq (tgt := 140) hx hb dX8_fault_133 (by decide) (fun c18 => ?_) (fun c18 => ?_)
        · have h := ite_t c18 h
          refine lv_iconst (v := 0) hx hb dX8_fault_140 (by decide) ?_
          exact rRi C rfl (Option.some.inj h) dX8_fault_141
        · have h := ite_f c18 h
          refine lv_iconst (v := 2) hx hb dX8_fault_136 (by decide) ?_
          refine lv_goto (tgt := 141) hx hb dX8_fault_137 (by decide) ?_
          exact rRi C rfl (Option.some.inj h) dX8_fault_141
      · have h := ite_f c15 h
        refine lv_iconst (v := 1) hx hb dX8_fault_120 (by decide) ?_
        refine lv_goto (tgt := 141) hx hb dX8_fault_121 (by decide) ?_
        exact rRi C rfl (Option.some.inj h) dX8_fault_141
    have h := ite_f c4_4 h
    by_cases c4_5 : x2 = 5
    · have h := ite_t c4_5 h
      refine lv_tableIn (off := 113) (tgt := 142) hx hb dX8_fault_29 (by rw [c4_5]; decide) (by rw [c4_5]; decide) (by rw [c4_5]; decide) (by decide) ?_
      refine lv_aload hx hb dX8_fault_142 (lv_at hl 0 rfl) ?_
      refine va_get (D := D) (v := .ref (Q_t_5_1 5)) (C := RX0) (T := TX0) (N := 6) hx hb hts iX0 hown hK.1 hP 18 rfl rfl 5 (by decide) (hts _ t_146) (fun _ h9 => h9) rfl dX8_fault_144 ?_
      refine lv_iload_n hx hb dX8_fault_147 rfl (lv_at hl 3 rfl) ?_
      obtain ⟨r20, hc19, h⟩ := bd_some h
      refine cRi (runS (As := [.ref (Q_t_5_1 5), .int x1]) (rest := []) C (mX8_at l D a hc19) lk_S_8_129 okN_X8_at ⟨Nat.le_of_ble_eq_true rfl, Nat.le_of_ble_eq_true rfl⟩ ⟨rfl, rfl⟩ (preR hK (P_of_map (wc := ra0 a (Q_t_5_1 5) 10 (gT z_t_5_1 5)) hP [19] rfl)) hl.1 rfl (Nat.le_of_ble_eq_true rfl) dX8_fault_148 ⟨Nat.le_of_ble_eq_true rfl, Nat.le_of_ble_eq_true rfl⟩) ?_
      exact rRi C rfl (Option.some.inj h) dX8_fault_151
    have h := ite_f c4_5 h
    by_cases c4_6 : x2 = 6
    · have h := ite_t c4_6 h
      refine lv_tableIn (off := 123) (tgt := 152) hx hb dX8_fault_29 (by rw [c4_6]; decide) (by rw [c4_6]; decide) (by rw [c4_6]; decide) (by decide) ?_
      refine lv_aload_n hx hb dX8_fault_152 rfl (lv_at hl 1 rfl) ?_
      refine lv_iload_n hx hb dX8_fault_153 rfl (lv_at hl 3 rfl) ?_
      refine lv_aload hx hb dX8_fault_154 (lv_at hl 0 rfl) ?_
      obtain ⟨r22, hc21, h⟩ := bd_some h
      refine cRi (runV (As := []) (rest := [.int x1, .ref (Q_t_5 0)]) C (mX0_gone l D a hc21) lk_V_8_171 okN_X0_gone ⟨Nat.le_of_ble_eq_true rfl, Nat.le_of_ble_eq_true rfl⟩ ⟨rfl, rfl⟩ (preV (preR hK (P_of_map (wc := rc0 a (Q_t_5 1) Q_t_5_1 z_t_5_1) hP [18, 19] rfl)) (recvOf hK hP 18 rfl (ci := 0) rfl)) hl.1 rfl (Nat.le_of_ble_eq_true rfl) dX8_fault_156 ⟨Nat.le_of_ble_eq_true rfl, Nat.le_of_ble_eq_true rfl⟩) ?_
      obtain ⟨r24, hc23, h⟩ := bd_some h
      refine cRi (runV (As := [.int x1, .int r22]) (rest := []) C (mX7_isOpen l D a hc23) lk_V_8_175 okN_X7_isOpen ⟨Nat.le_of_ble_eq_true rfl, Nat.le_of_ble_eq_true rfl⟩ ⟨rfl, rfl⟩ (preV (preR hK (P_of_map (wc := rc7 a (Q_t_5 0) Q_t_5_0 z_t_5_0) hP [5, 6, 7, 8, 9, 10, 11, 12, 13, 14, 15, 16, 17] rfl)) (recvOf hK hP 5 rfl (ci := 7) rfl)) hl.1 rfl (Nat.le_of_ble_eq_true rfl) dX8_fault_159 ⟨Nat.le_of_ble_eq_true rfl, Nat.le_of_ble_eq_true rfl⟩) ?_
      refine lv_if_eq (tgt := 169) hx hb dX8_fault_162 (by decide) (fun c25 => ?_) (fun c25 => ?_)
      · have h := ite_t c25 h
        refine lv_iconst (v := 0) hx hb dX8_fault_169 (by decide) ?_
        exact rRi C rfl (Option.some.inj h) dX8_fault_170
      · have h := ite_f c25 h
        refine lv_iconst (v := 1) hx hb dX8_fault_165 (by decide) ?_
        refine lv_goto (tgt := 170) hx hb dX8_fault_166 (by decide) ?_
        exact rRi C rfl (Option.some.inj h) dX8_fault_170
    have h := ite_f c4_6 h
    refine lv_tableOut (tgt := 171) hx hb dX8_fault_29 (by have := lv_neT c4_0 (show (0 : Int32).toInt = 0 by decide); have := lv_neT c4_1 (show (1 : Int32).toInt = 1 by decide); have := lv_neT c4_2 (show (2 : Int32).toInt = 2 by decide); have := lv_neT c4_3 (show (3 : Int32).toInt = 3 by decide); have := lv_neT c4_4 (show (4 : Int32).toInt = 4 by decide); have := lv_neT c4_5 (show (5 : Int32).toInt = 5 by decide); have := lv_neT c4_6 (show (6 : Int32).toInt = 6 by decide); omega) (by decide) ?_
    refine lv_bipush (v := (-2)) hx hb dX8_fault_171 (by decide) ?_
    exact rRi C rfl (Option.some.inj h) dX8_fault_173
  · have h := ite_t c3 h
    refine lv_bipush (v := (-2)) hx hb dX8_fault_8 (by decide) ?_
    exact rRi C rfl (Option.some.inj h) dX8_fault_10

def lX8_putBytes_3 (x1 : Int32) : Nat → Sx → Int32 → Option (Sx)
  | 0, _, _ => none
  | n + 1, z_t, x2 => if x2 < 0 then some z_t else bd (fX8_put 400 (gT z_t 0) (gI z_t 1) (((x1.toUInt32 >>> (Int32.toUInt32 x2 &&& Int32.toUInt32 31)).toInt32) &&& 255)) (fun z3 => lX8_putBytes_3 x1 n (sI (sTf z_t 0 z3) 1 ((gI z_t 1) + 1)) (x2 + (-8)))
def fX8_putBytes (z_t : Sx) (x1 : Int32) : Option (Sx) := lX8_putBytes_3 x1 FU z_t 24

set_option maxHeartbeats 4000000 in
set_option maxRecDepth 100000 in
theorem wX8_putBytes_3 {p : Program} {l : Launch} {e : Env} {s : State} {m : MethodId} {below : List Frame} {meth : Method} {c : Code} {D : va_G} {a : Nat → ClassId} {A : Nat → Prop} {q_t : Nat} {Q_t : Nat → Nat} {x10 : Int32} {x1 : Int32} (C : Cx p s m #[.ref q_t, .int x10] meth c MX8_putBytes) (hK : KK D a s) (hA : ∀ q, s.heap.size ≤ q → A q) {y : Sx} : ∀ (n : Nat) (z_t : Sx) (x2 : Int32) (H : Heap) (locs : List Loc) (ls : Array Slot), lX8_putBytes_3 x1 n z_t x2 = some y → va_P D classes (rc8 a q_t Q_t z_t) H → va_D A (rc8 a q_t Q_t z_t) → va_S A s.heap H locs → lv_has ls 3 [(0, .ref q_t), (1, .int x1), (2, .int x2)] → W p l e (rmM 1 0 0 22) s m #[.ref q_t, .int x10] below meth c H locs 0 0 (MQ below (va_Qv (fun (_ : Unit) => True) (Bw D A (fun _ => rc8 a q_t Q_t y)) A) #[.ref q_t, .int x10] s 0 0 A) (F0 m 3 ls []) := by
  obtain ⟨hx, hb, hml, hown, hts, hr, hlocks, hnm⟩ := id C
  have hb : c.code = cX8_putBytes := hb
  have hown : s.vm.findClass RX8 = some m.cls := hown
  intro n
  induction n with
  | zero => intro z_t x2 H locs ls h; rw [lX8_putBytes_3] at h; cases h
  | succ n ih =>
    intro z_t x2 H locs ls h hP hD hS hl
    rw [lX8_putBytes_3] at h
    refine lv_iload_n hx hb dX8_putBytes_3 rfl (lv_at hl 2 rfl) ?_
    refine lv_if_lt (tgt := 41) hx hb dX8_putBytes_4 (by decide) (fun c1 => ?_) (fun c1 => ?_)
    · have h := ite_t c1 h
      exact rMv C rfl h (g := fun y => rc8 a q_t Q_t y) hP hD hS dX8_putBytes_41
    · have h := ite_f c1 h
      refine lv_aload_n hx hb dX8_putBytes_7 rfl (lv_at hl 0 rfl) ?_
      refine va_get (D := D) (v := .ref (Q_t 0)) (C := RX8) (T := TX8) (N := 11) hx hb hts iX8 hown hK.1 hP 0 rfl rfl 0 (by decide) (hts _ t_300) (fun _ h9 => h9) rfl dX8_putBytes_8 ?_
      refine lv_aload_n hx hb dX8_putBytes_11 rfl (lv_at hl 0 rfl) ?_
      refine va_get (D := D) (v := .int (gI z_t 1)) (C := RX8) (T := TX8) (N := 11) hx hb hts iX8 hown hK.1 hP 0 rfl rfl 1 (by decide) (hts _ t_301) (fun _ h9 => h9) rfl dX8_putBytes_12 ?_
      refine lv_iload_n hx hb dX8_putBytes_15 rfl (lv_at hl 1 rfl) ?_
      refine lv_iload_n hx hb dX8_putBytes_16 rfl (lv_at hl 2 rfl) ?_
      refine lv_iushr (v := (x1.toUInt32 >>> (Int32.toUInt32 x2 &&& Int32.toUInt32 31)).toInt32) hx hb dX8_putBytes_17 rfl ?_
      refine lv_sipush (v := 255) hx hb dX8_putBytes_18 (by decide) ?_
      refine lv_iand hx hb dX8_putBytes_21 ?_
      obtain ⟨z3, hc2, h⟩ := bd_some h
      refine cMv (runS (As := [.ref (Q_t 0), .int (gI z_t 1), .int (((x1.toUInt32 >>> (Int32.toUInt32 x2 &&& Int32.toUInt32 31)).toInt32) &&& 255)]) (rest := []) C (mX8_put l D a hc2 H.size) lk_S_8_78 okN_X8_put ⟨Nat.le_of_ble_eq_true rfl, Nat.le_of_ble_eq_true rfl⟩ ⟨rfl, rfl⟩ (preM hK (P_of_map (wc := ra0 a (Q_t 0) 400 (gT z_t 0)) hP [1] rfl) (hD.sub (ws' := ra0 a (Q_t 0) 400 (gT z_t 0)) [1] (by decide) rfl)) hl.1 rfl (Nat.le_of_ble_eq_true rfl) dX8_putBytes_22 ⟨Nat.le_of_ble_eq_true rfl, Nat.le_of_ble_eq_true rfl⟩) hP hD hS hA [1] [0] [0, 1] rfl rfl (by decide) (by decide) (fw := rc8 a q_t Q_t (sTf z_t 0 z3)) rfl (by decide) (fun H locs hP hD hS => ?_)
      have hP : va_P D classes (rc8 a q_t Q_t (sTf z_t 0 z3)) H := hP
      have hD : va_D A (rc8 a q_t Q_t (sTf z_t 0 z3)) := hD
      refine lv_aload_n hx hb dX8_putBytes_25 rfl (lv_at hl 0 rfl) ?_
      refine lv_dup hx hb dX8_putBytes_26 rfl ?_
      refine va_get (D := D) (v := .int (gI z_t 1)) (C := RX8) (T := TX8) (N := 11) hx hb hts iX8 hown hK.1 hP 0 rfl rfl 1 (by decide) (hts _ t_301) (fun _ h9 => h9) rfl dX8_putBytes_27 ?_
      refine lv_iconst (v := 1) hx hb dX8_putBytes_30 (by decide) ?_
      refine lv_iadd hx hb dX8_putBytes_31 ?_
      refine va_put (D := D) (v := .int ((gI z_t 1) + 1)) (C := RX8) (T := TX8) (N := 11) hx hb hts iX8 tyX8 tyX8_ok nmX8 hown hK.1 hP hD hS 0 rfl rfl 1 (by decide) (hts _ t_301) (fun _ h9 => h9) rfl (tyX8_ok 1 (by decide)) rfl rfl (Nat.le_of_ble_eq_true rfl) dX8_putBytes_32 (fun H locs hP hD hS => ?_)
      have hP : va_P D classes (rc8 a q_t Q_t (sI (sTf z_t 0 z3) 1 ((gI z_t 1) + 1))) H := hP
      have hD : va_D A (rc8 a q_t Q_t (sI (sTf z_t 0 z3) 1 ((gI z_t 1) + 1))) := hD
      refine lv_iinc (v := x2 + (-8)) (lv' := [(2, .int (x2 + (-8))), (0, .ref q_t), (1, .int x1)]) hx hb dX8_putBytes_35 hl (k := 2) rfl rfl (by decide) rfl (fun ls hl => ?_)
      refine lv_goto (tgt := 3) hx hb dX8_putBytes_38 (by decide) ?_
      exact ih (sI (sTf z_t 0 z3) 1 ((gI z_t 1) + 1)) (x2 + (-8)) _ _ ls h hP hD hS (lv_sub hl [1, 2, 0] rfl)

set_option maxHeartbeats 4000000 in
set_option maxRecDepth 100000 in
theorem mX8_putBytes (l : Launch) (D : va_G) (a : Nat → ClassId) {q_t : Nat} {Q_t : Nat → Nat} {z_t : Sx} {x1 : Int32} {y : Sx} (h : fX8_putBytes z_t x1 = some y) (sz : Nat) : CMv (S := Unit) l MX8_putBytes 1 22 0 0 D a [.ref q_t, .int x1] (rc8 a q_t Q_t z_t) sz (fun _ => True) (fun _ => rc8 a q_t Q_t y) := by
  unfold fX8_putBytes at h
  refine entMv (by decide) (Nat.le_of_ble_eq_true rfl) ?_
  intro p e s m below meth c C hK A hA hP hD ls hl
  obtain ⟨hx, hb, hml, hown, hts, hr, hlocks, hnm⟩ := id C
  have hb : c.code = cX8_putBytes := hb
  have hown : s.vm.findClass RX8 = some m.cls := hown
  have hS : va_S A s.heap s.heap [] := va_S.rf
  have hl : lv_has ls 3 [(0, .ref q_t), (1, .int x1)] := hl
  refine lv_bipush (v := 24) hx hb dX8_putBytes_0 (by decide) ?_
  refine lv_istore_n (lv' := [(2, .int 24), (0, .ref q_t), (1, .int x1)]) hx hb dX8_putBytes_2 rfl hl (by decide) rfl (fun ls hl => ?_)
  refine wX8_putBytes_3 C hK hA FU z_t 24 _ _ ls h hP hD hS (lv_sub hl [1, 2, 0] rfl)

def fX8_feed (z_t : Sx) (x1 : Int32) (x2 : Int32) (x3 : Int32) (x4 : Int32) (x5 : Int32) : Option (Int32 × Sx) := if ((gI z_t 1) + 20) ≤ 400 then bd (fX8_putBytes z_t x1) (fun z3 => bd (fX8_putBytes z3 x2) (fun z5 => bd (fX8_putBytes z5 x3) (fun z7 => bd (fX8_putBytes z7 x4) (fun z9 => bd (fX8_putBytes z9 x5) (fun z11 => some (gI z11 1, z11)))))) else some ((-1), z_t)

set_option maxHeartbeats 4000000 in
set_option maxRecDepth 100000 in
theorem mX8_feed (l : Launch) (D : va_G) (a : Nat → ClassId) {q_t : Nat} {Q_t : Nat → Nat} {z_t : Sx} {x1 : Int32} {x2 : Int32} {x3 : Int32} {x4 : Int32} {x5 : Int32} {y : Int32 × Sx} (h : fX8_feed z_t x1 x2 x3 x4 x5 = some y) (sz : Nat) : CMi (S := Unit) l MX8_feed 2 44 0 0 D a [.ref q_t, .int x1, .int x2, .int x3, .int x4, .int x5] (rc8 a q_t Q_t z_t) sz (fun r _ => r = y.1) (fun _ => rc8 a q_t Q_t y.2) := by
  unfold fX8_feed at h
  refine entMi (by decide) (Nat.le_of_ble_eq_true rfl) ?_
  intro p e s m below meth c C hK A hA hP hD ls hl
  obtain ⟨hx, hb, hml, hown, hts, hr, hlocks, hnm⟩ := id C
  have hb : c.code = cX8_feed := hb
  have hown : s.vm.findClass RX8 = some m.cls := hown
  have hS : va_S A s.heap s.heap [] := va_S.rf
  have hl : lv_has ls 6 [(0, .ref q_t), (1, .int x1), (2, .int x2), (3, .int x3), (4, .int x4), (5, .int x5)] := hl
  refine lv_aload_n hx hb dX8_feed_0 rfl (lv_at hl 0 rfl) ?_
  refine va_get (D := D) (v := .int (gI z_t 1)) (C := RX8) (T := TX8) (N := 11) hx hb hts iX8 hown hK.1 hP 0 rfl rfl 1 (by decide) (hts _ t_301) (fun _ h9 => h9) rfl dX8_feed_1 ?_
  refine lv_bipush (v := 20) hx hb dX8_feed_4 (by decide) ?_
  refine lv_iadd hx hb dX8_feed_6 ?_
  refine lv_sipush (v := 400) hx hb dX8_feed_7 (by decide) ?_
  refine lv_icmp_le (tgt := 15) hx hb dX8_feed_10 (by decide) (fun c1 => ?_) (fun c1 => ?_)
  · have h := ite_t c1 h
    refine lv_aload_n hx hb dX8_feed_15 rfl (lv_at hl 0 rfl) ?_
    refine lv_iload_n hx hb dX8_feed_16 rfl (lv_at hl 1 rfl) ?_
    obtain ⟨z3, hc2, h⟩ := bd_some h
    refine cWv (runV (As := [.int x1]) (rest := []) C (mX8_putBytes l D a hc2 s.heap.size) lk_V_8_75 okN_X8_putBytes ⟨Nat.le_of_ble_eq_true rfl, Nat.le_of_ble_eq_true rfl⟩ ⟨rfl, rfl⟩ (preV (preM hK hP hD) (recvOf hK hP 0 rfl (ci := 8) rfl)) hl.1 rfl (Nat.le_of_ble_eq_true rfl) dX8_feed_17 ⟨Nat.le_of_ble_eq_true rfl, Nat.le_of_ble_eq_true rfl⟩) hP hD hS hA (fun H locs hP hD hS => ?_)
    have hP : va_P D classes (rc8 a q_t Q_t z3) H := hP
    have hD : va_D A (rc8 a q_t Q_t z3) := hD
    refine lv_aload_n hx hb dX8_feed_20 rfl (lv_at hl 0 rfl) ?_
    refine lv_iload_n hx hb dX8_feed_21 rfl (lv_at hl 2 rfl) ?_
    obtain ⟨z5, hc4, h⟩ := bd_some h
    refine cWv (runV (As := [.int x2]) (rest := []) C (mX8_putBytes l D a hc4 H.size) lk_V_8_75 okN_X8_putBytes ⟨Nat.le_of_ble_eq_true rfl, Nat.le_of_ble_eq_true rfl⟩ ⟨rfl, rfl⟩ (preV (preM hK hP hD) (recvOf hK hP 0 rfl (ci := 8) rfl)) hl.1 rfl (Nat.le_of_ble_eq_true rfl) dX8_feed_22 ⟨Nat.le_of_ble_eq_true rfl, Nat.le_of_ble_eq_true rfl⟩) hP hD hS hA (fun H locs hP hD hS => ?_)
    have hP : va_P D classes (rc8 a q_t Q_t z5) H := hP
    have hD : va_D A (rc8 a q_t Q_t z5) := hD
    refine lv_aload_n hx hb dX8_feed_25 rfl (lv_at hl 0 rfl) ?_
    refine lv_iload_n hx hb dX8_feed_26 rfl (lv_at hl 3 rfl) ?_
    obtain ⟨z7, hc6, h⟩ := bd_some h
    refine cWv (runV (As := [.int x3]) (rest := []) C (mX8_putBytes l D a hc6 H.size) lk_V_8_75 okN_X8_putBytes ⟨Nat.le_of_ble_eq_true rfl, Nat.le_of_ble_eq_true rfl⟩ ⟨rfl, rfl⟩ (preV (preM hK hP hD) (recvOf hK hP 0 rfl (ci := 8) rfl)) hl.1 rfl (Nat.le_of_ble_eq_true rfl) dX8_feed_27 ⟨Nat.le_of_ble_eq_true rfl, Nat.le_of_ble_eq_true rfl⟩) hP hD hS hA (fun H locs hP hD hS => ?_)
    have hP : va_P D classes (rc8 a q_t Q_t z7) H := hP
    have hD : va_D A (rc8 a q_t Q_t z7) := hD
    refine lv_aload_n hx hb dX8_feed_30 rfl (lv_at hl 0 rfl) ?_
    refine lv_iload hx hb dX8_feed_31 (lv_at hl 4 rfl) ?_
    obtain ⟨z9, hc8, h⟩ := bd_some h
    refine cWv (runV (As := [.int x4]) (rest := []) C (mX8_putBytes l D a hc8 H.size) lk_V_8_75 okN_X8_putBytes ⟨Nat.le_of_ble_eq_true rfl, Nat.le_of_ble_eq_true rfl⟩ ⟨rfl, rfl⟩ (preV (preM hK hP hD) (recvOf hK hP 0 rfl (ci := 8) rfl)) hl.1 rfl (Nat.le_of_ble_eq_true rfl) dX8_feed_33 ⟨Nat.le_of_ble_eq_true rfl, Nat.le_of_ble_eq_true rfl⟩) hP hD hS hA (fun H locs hP hD hS => ?_)
    have hP : va_P D classes (rc8 a q_t Q_t z9) H := hP
    have hD : va_D A (rc8 a q_t Q_t z9) := hD
    refine lv_aload_n hx hb dX8_feed_36 rfl (lv_at hl 0 rfl) ?_
    refine lv_iload hx hb dX8_feed_37 (lv_at hl 5 rfl) ?_
    obtain ⟨z11, hc10, h⟩ := bd_some h
    refine cWv (runV (As := [.int x5]) (rest := []) C (mX8_putBytes l D a hc10 H.size) lk_V_8_75 okN_X8_putBytes ⟨Nat.le_of_ble_eq_true rfl, Nat.le_of_ble_eq_true rfl⟩ ⟨rfl, rfl⟩ (preV (preM hK hP hD) (recvOf hK hP 0 rfl (ci := 8) rfl)) hl.1 rfl (Nat.le_of_ble_eq_true rfl) dX8_feed_39 ⟨Nat.le_of_ble_eq_true rfl, Nat.le_of_ble_eq_true rfl⟩) hP hD hS hA (fun H locs hP hD hS => ?_)
    have hP : va_P D classes (rc8 a q_t Q_t z11) H := hP
    have hD : va_D A (rc8 a q_t Q_t z11) := hD
    refine lv_aload_n hx hb dX8_feed_42 rfl (lv_at hl 0 rfl) ?_
    refine va_get (D := D) (v := .int (gI z11 1)) (C := RX8) (T := TX8) (N := 11) hx hb hts iX8 hown hK.1 hP 0 rfl rfl 1 (by decide) (hts _ t_301) (fun _ h9 => h9) rfl dX8_feed_43 ?_
    exact rMi C rfl h (g := fun y => rc8 a q_t Q_t y.2) (pr := fun y => y.1) hP hD hS dX8_feed_46
  · have h := ite_f c1 h
    refine lv_iconst (v := (-1)) hx hb dX8_feed_13 (by decide) ?_
    exact rMi C rfl h (g := fun y => rc8 a q_t Q_t y.2) (pr := fun y => y.1) hP hD hS dX8_feed_14

def fX8_fine (z_t : Sx) (z_t_5 : Sx) (z_t_5_0 : Sx) (z_t_5_1 : Sx) (x1 : Int32) : Option (Int32 × Sx) := bd (fX8_hasWork z_t z_t_5 z_t_5_0) (fun r2 => if r2 = 0 then some ((-1000000), z_t_5_1) else if x1 < 0 then some ((-1000000), z_t_5_1) else if x1 ≤ 999 then some ((gI z_t_5_1 1) - x1, sI z_t_5_1 1 ((gI z_t_5_1 1) - x1)) else some ((-1000000), z_t_5_1))

set_option maxHeartbeats 4000000 in
set_option maxRecDepth 100000 in
theorem mX8_fine (l : Launch) (D : va_G) (a : Nat → ClassId) {q_t : Nat} {Q_t : Nat → Nat} {z_t : Sx} {Q_t_5 : Nat → Nat} {z_t_5 : Sx} {Q_t_5_0 : Nat → Nat} {z_t_5_0 : Sx} {Q_t_5_1 : Nat → Nat} {z_t_5_1 : Sx} {x1 : Int32} {y : Int32 × Sx} (h : fX8_fine z_t z_t_5 z_t_5_0 z_t_5_1 x1 = some y) (sz : Nat) : CMi (S := Unit) l MX8_fine 1 20 0 0 D a [.ref q_t, .int x1] (rc8 a q_t Q_t z_t ++ (rc5 a (Q_t 5) Q_t_5 z_t_5 ++ (rc7 a (Q_t_5 0) Q_t_5_0 z_t_5_0 ++ (rc0 a (Q_t_5 1) Q_t_5_1 z_t_5_1)))) sz (fun r _ => r = y.1) (fun _ => rc8 a q_t Q_t z_t ++ (rc5 a (Q_t 5) Q_t_5 z_t_5 ++ (rc7 a (Q_t_5 0) Q_t_5_0 z_t_5_0 ++ (rc0 a (Q_t_5 1) Q_t_5_1 y.2)))) := by
  unfold fX8_fine at h
  refine entMi (by decide) (Nat.le_of_ble_eq_true rfl) ?_
  intro p e s m below meth c C hK A hA hP hD ls hl
  obtain ⟨hx, hb, hml, hown, hts, hr, hlocks, hnm⟩ := id C
  have hb : c.code = cX8_fine := hb
  have hown : s.vm.findClass RX8 = some m.cls := hown
  have hS : va_S A s.heap s.heap [] := va_S.rf
  have hl : lv_has ls 2 [(0, .ref q_t), (1, .int x1)] := hl
  refine lv_aload_n hx hb dX8_fine_0 rfl (lv_at hl 0 rfl) ?_
  obtain ⟨r2, hc1, h⟩ := bd_some h
  refine cRi (runV (As := []) (rest := []) C (mX8_hasWork l D a hc1) lk_V_8_213 okN_X8_hasWork ⟨Nat.le_of_ble_eq_true rfl, Nat.le_of_ble_eq_true rfl⟩ ⟨rfl, rfl⟩ (preV (preR hK (P_of_map (wc := rc8 a q_t Q_t z_t ++ (rc5 a (Q_t 5) Q_t_5 z_t_5 ++ (rc7 a (Q_t_5 0) Q_t_5_0 z_t_5_0))) hP [0, 1, 2, 3, 4, 5, 6, 7, 8, 9, 10, 11, 12, 13, 14, 15, 16, 17] rfl)) (recvOf hK hP 0 rfl (ci := 8) rfl)) hl.1 rfl (Nat.le_of_ble_eq_true rfl) dX8_fine_1 ⟨Nat.le_of_ble_eq_true rfl, Nat.le_of_ble_eq_true rfl⟩) ?_
  refine lv_if_eq (tgt := 18) hx hb dX8_fine_4 (by decide) (fun c3 => ?_) (fun c3 => ?_)
  · have h := ite_t c3 h
    refine lv_ldc hx hb hown (hts _ t_640) dX8_fine_18 ?_
    exact rMi C rfl h (g := fun y => rc8 a q_t Q_t z_t ++ (rc5 a (Q_t 5) Q_t_5 z_t_5 ++ (rc7 a (Q_t_5 0) Q_t_5_0 z_t_5_0 ++ (rc0 a (Q_t_5 1) Q_t_5_1 y.2)))) (pr := fun y => y.1) hP hD hS dX8_fine_20
  · have h := ite_f c3 h
    refine lv_iload_n hx hb dX8_fine_7 rfl (lv_at hl 1 rfl) ?_
    refine lv_if_lt (tgt := 18) hx hb dX8_fine_8 (by decide) (fun c4 => ?_) (fun c4 => ?_)
    · have h := ite_t c4 h
      refine lv_ldc hx hb hown (hts _ t_640) dX8_fine_18 ?_
      exact rMi C rfl h (g := fun y => rc8 a q_t Q_t z_t ++ (rc5 a (Q_t 5) Q_t_5 z_t_5 ++ (rc7 a (Q_t_5 0) Q_t_5_0 z_t_5_0 ++ (rc0 a (Q_t_5 1) Q_t_5_1 y.2)))) (pr := fun y => y.1) hP hD hS dX8_fine_20
    · have h := ite_f c4 h
      refine lv_iload_n hx hb dX8_fine_11 rfl (lv_at hl 1 rfl) ?_
      refine lv_sipush (v := 999) hx hb dX8_fine_12 (by decide) ?_
      refine lv_icmp_le (tgt := 21) hx hb dX8_fine_15 (by decide) (fun c5 => ?_) (fun c5 => ?_)
      · have h := ite_t c5 h
        refine lv_aload_n hx hb dX8_fine_21 rfl (lv_at hl 0 rfl) ?_
        refine va_get (D := D) (v := .ref (Q_t 5)) (C := RX8) (T := TX8) (N := 11) hx hb hts iX8 hown hK.1 hP 0 rfl rfl 5 (by decide) (hts _ t_305) (fun _ h9 => h9) rfl dX8_fine_22 ?_
        refine va_get (D := D) (v := .ref (Q_t_5 1)) (C := RX5) (T := TX5) (N := 8) hx hb hts iX5 hown hK.1 hP 2 rfl rfl 1 (by decide) (hts _ t_163) (fun _ h9 => h9) rfl dX8_fine_25 ?_
        refine lv_dup hx hb dX8_fine_28 rfl ?_
        refine va_get (D := D) (v := .int (gI z_t_5_1 1)) (C := RX0) (T := TX0) (N := 6) hx hb hts iX0 hown hK.1 hP 18 rfl rfl 1 (by decide) (hts _ t_135) (fun _ h9 => h9) rfl dX8_fine_29 ?_
        refine lv_iload_n hx hb dX8_fine_32 rfl (lv_at hl 1 rfl) ?_
        refine lv_isub hx hb dX8_fine_33 ?_
        refine va_put (D := D) (v := .int ((gI z_t_5_1 1) - x1)) (C := RX0) (T := TX0) (N := 6) hx hb hts iX0 tyX0 tyX0_ok nmX0 hown hK.1 hP hD hS 18 rfl rfl 1 (by decide) (hts _ t_135) (fun _ h9 => h9) rfl (tyX0_ok 1 (by decide)) rfl rfl (Nat.le_of_ble_eq_true rfl) dX8_fine_34 (fun H locs hP hD hS => ?_)
        have hP : va_P D classes (rc8 a q_t Q_t z_t ++ (rc5 a (Q_t 5) Q_t_5 z_t_5 ++ (rc7 a (Q_t_5 0) Q_t_5_0 z_t_5_0 ++ (rc0 a (Q_t_5 1) Q_t_5_1 (sI z_t_5_1 1 ((gI z_t_5_1 1) - x1)))))) H := hP
        have hD : va_D A (rc8 a q_t Q_t z_t ++ (rc5 a (Q_t 5) Q_t_5 z_t_5 ++ (rc7 a (Q_t_5 0) Q_t_5_0 z_t_5_0 ++ (rc0 a (Q_t_5 1) Q_t_5_1 (sI z_t_5_1 1 ((gI z_t_5_1 1) - x1)))))) := hD
        refine lv_aload_n hx hb dX8_fine_37 rfl (lv_at hl 0 rfl) ?_
        refine va_get (D := D) (v := .ref (Q_t 5)) (C := RX8) (T := TX8) (N := 11) hx hb hts iX8 hown hK.1 hP 0 rfl rfl 5 (by decide) (hts _ t_305) (fun _ h9 => h9) rfl dX8_fine_38 ?_
        refine va_get (D := D) (v := .ref (Q_t_5 1)) (C := RX5) (T := TX5) (N := 8) hx hb hts iX5 hown hK.1 hP 2 rfl rfl 1 (by decide) (hts _ t_163) (fun _ h9 => h9) rfl dX8_fine_41 ?_
        refine va_get (D := D) (v := .int ((gI z_t_5_1 1) - x1)) (C := RX0) (T := TX0) (N := 6) hx hb hts iX0 hown hK.1 hP 18 rfl rfl 1 (by decide) (hts _ t_135) (fun _ h9 => h9) rfl dX8_fine_44 ?_
        exact rMi C rfl h (g := fun y => rc8 a q_t Q_t z_t ++ (rc5 a (Q_t 5) Q_t_5 z_t_5 ++ (rc7 a (Q_t_5 0) Q_t_5_0 z_t_5_0 ++ (rc0 a (Q_t_5 1) Q_t_5_1 y.2)))) (pr := fun y => y.1) hP hD hS dX8_fine_47
      · have h := ite_f c5 h
        refine lv_ldc hx hb hown (hts _ t_640) dX8_fine_18 ?_
        exact rMi C rfl h (g := fun y => rc8 a q_t Q_t z_t ++ (rc5 a (Q_t 5) Q_t_5 z_t_5 ++ (rc7 a (Q_t_5 0) Q_t_5_0 z_t_5_0 ++ (rc0 a (Q_t_5 1) Q_t_5_1 y.2)))) (pr := fun y => y.1) hP hD hS dX8_fine_20

def lX8_fits_57 (k127 : Int32 → Int32 → Int32 → Option (Int32)) (z_t : Sx) (z_t_5 : Sx) (z_t_5_0 : Sx) (z_t_5_1 : Sx) (x1 : Int32) (x2 : Int32) (x3 : Int32) : Nat → Int32 → Int32 → Int32 → Int32 → Option (Int32)
  | 0, _, _, _, _ => none
  | n + 1, x4, x5, x6, x7 => if x3 < x7 then k127 x4 x5 x6 else bd (fX7_payOf z_t_5_0 x7) (fun r12 => jn (fun (i14 : Int32) (i15 : Int32) (i16 : Int32) => lX8_fits_57 k127 z_t z_t_5 z_t_5_0 z_t_5_1 x1 x2 x3 n i14 i15 i16 (x7 + 1)) (fun J13 => if r12 = x1 then bd (fX7_couldBeFound z_t_5_0 x7 (gI z_t_5_1 3)) (fun r19 => if r19 = 0 then J13 x4 x5 x6 else J13 (x4 + 1) (x5 &&& x7) (x6 ||| x7)) else J13 x4 x5 x6))
def fX8_fits (z_t : Sx) (z_t_5 : Sx) (z_t_5_0 : Sx) (z_t_5_1 : Sx) (x1 : Int32) (x2 : Int32) : Option (Int32) := bd (fX8_hasWork z_t z_t_5 z_t_5_0) (fun r2 => if r2 = 0 then some (-1) else if x1 < 0 then some (-1) else if 9999 < x1 then some (-1) else if x2 < 0 then some (-1) else if x2 ≤ 2 then bd (fX8_bit (gI z_t_5_0 3)) (fun r9 => lX8_fits_57 (fun (i21 : Int32) (i22 : Int32) (i23 : Int32) => if x2 = 0 then some i21 else if i21 = 0 then some i21 else if x2 = 1 then some i22 else some ((r9 - 1) &&& (i23 ^^^ (-1)))) z_t z_t_5 z_t_5_0 z_t_5_1 x1 x2 (r9 - 1) FU 0 (r9 - 1) 0 0) else some (-1))

set_option maxHeartbeats 4000000 in
set_option maxRecDepth 100000 in
theorem wX8_fits_57 {p : Program} {l : Launch} {e : Env} {s : State} {m : MethodId} {below : List Frame} {meth : Method} {c : Code} {D : va_G} {a : Nat → ClassId} {q_t : Nat} {Q_t : Nat → Nat} {Q_t_5 : Nat → Nat} {Q_t_5_0 : Nat → Nat} {Q_t_5_1 : Nat → Nat} {z_t : Sx} {z_t_5 : Sx} {z_t_5_0 : Sx} {z_t_5_1 : Sx} {x10 : Int32} {x20 : Int32} {x1 : Int32} {x2 : Int32} {x3 : Int32} (C : Cx p s m #[.ref q_t, .int x10, .int x20] meth c MX8_fits) (hK : KK D a s) {y : Int32} (hP : va_P D classes (rc8 a q_t Q_t z_t ++ (rc5 a (Q_t 5) Q_t_5 z_t_5 ++ (rc7 a (Q_t_5 0) Q_t_5_0 z_t_5_0 ++ (rc0 a (Q_t_5 1) Q_t_5_1 z_t_5_1)))) s.heap) {k127 : Int32 → Int32 → Int32 → Option (Int32)} (hk127 : ∀ (x4k : Int32) (x5k : Int32) (x6k : Int32) (ls : Array Slot), k127 x4k x5k x6k = some y → lv_has ls 8 [(2, .int x2), (3, .int x3), (4, .int x4k), (5, .int x5k), (6, .int x6k)] → W p l e (rmM 3 0 0 66) s m #[.ref q_t, .int x10, .int x20] below meth c s.heap [] 0 0 (MQ below (vp_Si (fun r => r = y)) #[.ref q_t, .int x10, .int x20] s 0 0 (fun _ => False)) (F0 m 127 ls [])) : ∀ (n : Nat) (x4 : Int32) (x5 : Int32) (x6 : Int32) (x7 : Int32) (ls : Array Slot), lX8_fits_57 k127 z_t z_t_5 z_t_5_0 z_t_5_1 x1 x2 x3 n x4 x5 x6 x7 = some y → lv_has ls 8 [(0, .ref q_t), (1, .int x1), (2, .int x2), (3, .int x3), (4, .int x4), (5, .int x5), (6, .int x6), (7, .int x7)] → W p l e (rmM 3 0 0 66) s m #[.ref q_t, .int x10, .int x20] below meth c s.heap [] 0 0 (MQ below (vp_Si (fun r => r = y)) #[.ref q_t, .int x10, .int x20] s 0 0 (fun _ => False)) (F0 m 57 ls []) := by
  obtain ⟨hx, hb, hml, hown, hts, hr, hlocks, hnm⟩ := id C
  have hb : c.code = cX8_fits := hb
  have hown : s.vm.findClass RX8 = some m.cls := hown
  intro n
  induction n with
  | zero => intro x4 x5 x6 x7 ls h; rw [lX8_fits_57] at h; cases h
  | succ n ih =>
    intro x4 x5 x6 x7 ls h hl
    rw [lX8_fits_57] at h
    refine lv_iload hx hb dX8_fits_57 (lv_at hl 7 rfl) ?_
    refine lv_iload_n hx hb dX8_fits_59 rfl (lv_at hl 3 rfl) ?_
    refine lv_icmp_gt (tgt := 127) hx hb dX8_fits_60 (by decide) (fun c10 => ?_) (fun c10 => ?_)
    · have h := ite_t c10 h
      exact hk127 x4 x5 x6 ls h (lv_sub hl [2, 3, 4, 5, 6] rfl)
    · have h := ite_f c10 h
      refine lv_aload_n hx hb dX8_fits_63 rfl (lv_at hl 0 rfl) ?_
      refine va_get (D := D) (v := .ref (Q_t 5)) (C := RX8) (T := TX8) (N := 11) hx hb hts iX8 hown hK.1 hP 0 rfl rfl 5 (by decide) (hts _ t_305) (fun _ h9 => h9) rfl dX8_fits_64 ?_
      refine va_get (D := D) (v := .ref (Q_t_5 0)) (C := RX5) (T := TX5) (N := 8) hx hb hts iX5 hown hK.1 hP 2 rfl rfl 0 (by decide) (hts _ t_161) (fun _ h9 => h9) rfl dX8_fits_67 ?_
      refine lv_iload hx hb dX8_fits_70 (lv_at hl 7 rfl) ?_
      obtain ⟨r12, hc11, h⟩ := bd_some h
      refine cRi (runV (As := [.int x7]) (rest := []) C (mX7_payOf l D a hc11) lk_V_8_294 okN_X7_payOf ⟨Nat.le_of_ble_eq_true rfl, Nat.le_of_ble_eq_true rfl⟩ ⟨rfl, rfl⟩ (preV (preR hK (P_of_map (wc := rc7 a (Q_t_5 0) Q_t_5_0 z_t_5_0) hP [5, 6, 7, 8, 9, 10, 11, 12, 13, 14, 15, 16, 17] rfl)) (recvOf hK hP 5 rfl (ci := 7) rfl)) hl.1 rfl (Nat.le_of_ble_eq_true rfl) dX8_fits_72 ⟨Nat.le_of_ble_eq_true rfl, Nat.le_of_ble_eq_true rfl⟩) ?_
      refine lv_iload_n hx hb dX8_fits_75 rfl (lv_at hl 1 rfl) ?_
      obtain ⟨J13, eJ13, h⟩ := jn_some h
      have hJ13 : ∀ (i14 : Int32) (i15 : Int32) (i16 : Int32) (ls : Array Slot), J13 i14 i15 i16 = some y → lv_has ls 8 [(0, .ref q_t), (1, .int x1), (2, .int x2), (3, .int x3), (4, .int i14), (5, .int i15), (6, .int i16), (7, .int x7)] → W p l e (rmM 3 0 0 66) s m #[.ref q_t, .int x10, .int x20] below meth c s.heap [] 0 0 (MQ below (vp_Si (fun r => r = y)) #[.ref q_t, .int x10, .int x20] s 0 0 (fun _ => False)) (F0 m 121 ls []) := by
        intro i14 i15 i16 ls h hl
        rw [eJ13] at h
        refine lv_iinc (v := x7 + 1) (lv' := [(7, .int (x7 + 1)), (0, .ref q_t), (1, .int x1), (2, .int x2), (3, .int x3), (4, .int i14), (5, .int i15), (6, .int i16)]) hx hb dX8_fits_121 hl (k := 7) rfl rfl (by decide) rfl (fun ls hl => ?_)
        refine lv_goto (tgt := 57) hx hb dX8_fits_124 (by decide) ?_
        exact ih i14 i15 i16 (x7 + 1) ls h (lv_sub hl [1, 2, 3, 4, 5, 6, 7, 0] rfl)
      refine lv_icmp_ne (tgt := 121) hx hb dX8_fits_76 (by decide) (fun c17 => ?_) (fun c17 => ?_)
      · have h := ite_f c17 h
        exact hJ13 x4 x5 x6 ls h (lv_sub hl [0, 1, 2, 3, 4, 5, 6, 7] rfl)
      · have h := ite_t c17 h
        refine lv_aload_n hx hb dX8_fits_79 rfl (lv_at hl 0 rfl) ?_
        refine va_get (D := D) (v := .ref (Q_t 5)) (C := RX8) (T := TX8) (N := 11) hx hb hts iX8 hown hK.1 hP 0 rfl rfl 5 (by decide) (hts _ t_305) (fun _ h9 => h9) rfl dX8_fits_80 ?_
        refine va_get (D := D) (v := .ref (Q_t_5 0)) (C := RX5) (T := TX5) (N := 8) hx hb hts iX5 hown hK.1 hP 2 rfl rfl 0 (by decide) (hts _ t_161) (fun _ h9 => h9) rfl dX8_fits_83 ?_
        refine lv_iload hx hb dX8_fits_86 (lv_at hl 7 rfl) ?_
        refine lv_aload_n hx hb dX8_fits_88 rfl (lv_at hl 0 rfl) ?_
        refine va_get (D := D) (v := .ref (Q_t 5)) (C := RX8) (T := TX8) (N := 11) hx hb hts iX8 hown hK.1 hP 0 rfl rfl 5 (by decide) (hts _ t_305) (fun _ h9 => h9) rfl dX8_fits_89 ?_
        refine va_get (D := D) (v := .ref (Q_t_5 1)) (C := RX5) (T := TX5) (N := 8) hx hb hts iX5 hown hK.1 hP 2 rfl rfl 1 (by decide) (hts _ t_163) (fun _ h9 => h9) rfl dX8_fits_92 ?_
        refine va_get (D := D) (v := .int (gI z_t_5_1 3)) (C := RX0) (T := TX0) (N := 6) hx hb hts iX0 hown hK.1 hP 18 rfl rfl 3 (by decide) (hts _ t_141) (fun _ h9 => h9) rfl dX8_fits_95 ?_
        obtain ⟨r19, hc18, h⟩ := bd_some h
        refine cRi (runV (As := [.int x7, .int (gI z_t_5_1 3)]) (rest := []) C (mX7_couldBeFound l D a hc18) lk_V_8_297 okN_X7_couldBeFound ⟨Nat.le_of_ble_eq_true rfl, Nat.le_of_ble_eq_true rfl⟩ ⟨rfl, rfl⟩ (preV (preR hK (P_of_map (wc := rc7 a (Q_t_5 0) Q_t_5_0 z_t_5_0) hP [5, 6, 7, 8, 9, 10, 11, 12, 13, 14, 15, 16, 17] rfl)) (recvOf hK hP 5 rfl (ci := 7) rfl)) hl.1 rfl (Nat.le_of_ble_eq_true rfl) dX8_fits_98 ⟨Nat.le_of_ble_eq_true rfl, Nat.le_of_ble_eq_true rfl⟩) ?_
        refine lv_if_eq (tgt := 121) hx hb dX8_fits_101 (by decide) (fun c20 => ?_) (fun c20 => ?_)
        · have h := ite_t c20 h
          exact hJ13 x4 x5 x6 ls h (lv_sub hl [0, 1, 2, 3, 4, 5, 6, 7] rfl)
        · have h := ite_f c20 h
          refine lv_iinc (v := x4 + 1) (lv' := [(4, .int (x4 + 1)), (0, .ref q_t), (1, .int x1), (2, .int x2), (3, .int x3), (5, .int x5), (6, .int x6), (7, .int x7)]) hx hb dX8_fits_104 hl (k := 4) rfl rfl (by decide) rfl (fun ls hl => ?_)
          refine lv_iload hx hb dX8_fits_107 (lv_at hl 5 rfl) ?_
          refine lv_iload hx hb dX8_fits_109 (lv_at hl 7 rfl) ?_
          refine lv_iand hx hb dX8_fits_111 ?_
          refine lv_istore (lv' := [(5, .int (x5 &&& x7)), (4, .int (x4 + 1)), (0, .ref q_t), (1, .int x1), (2, .int x2), (3, .int x3), (6, .int x6), (7, .int x7)]) hx hb dX8_fits_112 hl (by decide) rfl (fun ls hl => ?_)
          refine lv_iload hx hb dX8_fits_114 (lv_at hl 6 rfl) ?_
          refine lv_iload hx hb dX8_fits_116 (lv_at hl 7 rfl) ?_
          refine lv_ior hx hb dX8_fits_118 ?_
          refine lv_istore (lv' := [(6, .int (x6 ||| x7)), (5, .int (x5 &&& x7)), (4, .int (x4 + 1)), (0, .ref q_t), (1, .int x1), (2, .int x2), (3, .int x3), (7, .int x7)]) hx hb dX8_fits_119 hl (by decide) rfl (fun ls hl => ?_)
          exact hJ13 (x4 + 1) (x5 &&& x7) (x6 ||| x7) ls h (lv_sub hl [3, 4, 5, 6, 2, 1, 0, 7] rfl)

set_option maxHeartbeats 4000000 in
set_option maxRecDepth 100000 in
theorem mX8_fits (l : Launch) (D : va_G) (a : Nat → ClassId) {q_t : Nat} {Q_t : Nat → Nat} {z_t : Sx} {Q_t_5 : Nat → Nat} {z_t_5 : Sx} {Q_t_5_0 : Nat → Nat} {z_t_5_0 : Sx} {Q_t_5_1 : Nat → Nat} {z_t_5_1 : Sx} {x1 : Int32} {x2 : Int32} {y : Int32} (h : fX8_fits z_t z_t_5 z_t_5_0 z_t_5_1 x1 x2 = some y) : CRi l MX8_fits 3 66 D a [.ref q_t, .int x1, .int x2] (rc8 a q_t Q_t z_t ++ (rc5 a (Q_t 5) Q_t_5 z_t_5 ++ (rc7 a (Q_t_5 0) Q_t_5_0 z_t_5_0 ++ (rc0 a (Q_t_5 1) Q_t_5_1 z_t_5_1)))) (fun r => r = y) := by
  unfold fX8_fits at h
  refine entR (by decide) (Nat.le_of_ble_eq_true rfl) ?_
  intro p e s m below meth c C hK hP ls hl
  obtain ⟨hx, hb, hml, hown, hts, hr, hlocks, hnm⟩ := id C
  have hb : c.code = cX8_fits := hb
  have hown : s.vm.findClass RX8 = some m.cls := hown
  have hl : lv_has ls 8 [(0, .ref q_t), (1, .int x1), (2, .int x2)] := hl
  refine lv_aload_n hx hb dX8_fits_0 rfl (lv_at hl 0 rfl) ?_
  obtain ⟨r2, hc1, h⟩ := bd_some h
  refine cRi (runV (As := []) (rest := []) C (mX8_hasWork l D a hc1) lk_V_8_213 okN_X8_hasWork ⟨Nat.le_of_ble_eq_true rfl, Nat.le_of_ble_eq_true rfl⟩ ⟨rfl, rfl⟩ (preV (preR hK (P_of_map (wc := rc8 a q_t Q_t z_t ++ (rc5 a (Q_t 5) Q_t_5 z_t_5 ++ (rc7 a (Q_t_5 0) Q_t_5_0 z_t_5_0))) hP [0, 1, 2, 3, 4, 5, 6, 7, 8, 9, 10, 11, 12, 13, 14, 15, 16, 17] rfl)) (recvOf hK hP 0 rfl (ci := 8) rfl)) hl.1 rfl (Nat.le_of_ble_eq_true rfl) dX8_fits_1 ⟨Nat.le_of_ble_eq_true rfl, Nat.le_of_ble_eq_true rfl⟩) ?_
  refine lv_if_eq (tgt := 27) hx hb dX8_fits_4 (by decide) (fun c3 => ?_) (fun c3 => ?_)
  · have h := ite_t c3 h
    refine lv_iconst (v := (-1)) hx hb dX8_fits_27 (by decide) ?_
    exact rRi C rfl (Option.some.inj h) dX8_fits_28
  · have h := ite_f c3 h
    refine lv_iload_n hx hb dX8_fits_7 rfl (lv_at hl 1 rfl) ?_
    refine lv_if_lt (tgt := 27) hx hb dX8_fits_8 (by decide) (fun c4 => ?_) (fun c4 => ?_)
    · have h := ite_t c4 h
      refine lv_iconst (v := (-1)) hx hb dX8_fits_27 (by decide) ?_
      exact rRi C rfl (Option.some.inj h) dX8_fits_28
    · have h := ite_f c4 h
      refine lv_iload_n hx hb dX8_fits_11 rfl (lv_at hl 1 rfl) ?_
      refine lv_sipush (v := 9999) hx hb dX8_fits_12 (by decide) ?_
      refine lv_icmp_gt (tgt := 27) hx hb dX8_fits_15 (by decide) (fun c5 => ?_) (fun c5 => ?_)
      · have h := ite_t c5 h
        refine lv_iconst (v := (-1)) hx hb dX8_fits_27 (by decide) ?_
        exact rRi C rfl (Option.some.inj h) dX8_fits_28
      · have h := ite_f c5 h
        refine lv_iload_n hx hb dX8_fits_18 rfl (lv_at hl 2 rfl) ?_
        refine lv_if_lt (tgt := 27) hx hb dX8_fits_19 (by decide) (fun c6 => ?_) (fun c6 => ?_)
        · have h := ite_t c6 h
          refine lv_iconst (v := (-1)) hx hb dX8_fits_27 (by decide) ?_
          exact rRi C rfl (Option.some.inj h) dX8_fits_28
        · have h := ite_f c6 h
          refine lv_iload_n hx hb dX8_fits_22 rfl (lv_at hl 2 rfl) ?_
          refine lv_iconst (v := 2) hx hb dX8_fits_23 (by decide) ?_
          refine lv_icmp_le (tgt := 29) hx hb dX8_fits_24 (by decide) (fun c7 => ?_) (fun c7 => ?_)
          · have h := ite_t c7 h
            refine lv_aload_n hx hb dX8_fits_29 rfl (lv_at hl 0 rfl) ?_
            refine va_get (D := D) (v := .ref (Q_t 5)) (C := RX8) (T := TX8) (N := 11) hx hb hts iX8 hown hK.1 hP 0 rfl rfl 5 (by decide) (hts _ t_305) (fun _ h9 => h9) rfl dX8_fits_30 ?_
            refine va_get (D := D) (v := .ref (Q_t_5 0)) (C := RX5) (T := TX5) (N := 8) hx hb hts iX5 hown hK.1 hP 2 rfl rfl 0 (by decide) (hts _ t_161) (fun _ h9 => h9) rfl dX8_fits_33 ?_
            refine va_get (D := D) (v := .int (gI z_t_5_0 3)) (C := RX7) (T := TX7) (N := 18) hx hb hts iX7 hown hK.1 hP 5 rfl rfl 3 (by decide) (hts _ t_47) (fun _ h9 => h9) rfl dX8_fits_36 ?_
            obtain ⟨r9, hc8, h⟩ := bd_some h
            refine cRi (runS (As := [.int (gI z_t_5_0 3)]) (rest := []) C (mX8_bit l D a hc8) lk_S_8_216 okN_X8_bit ⟨Nat.le_of_ble_eq_true rfl, Nat.le_of_ble_eq_true rfl⟩ ⟨rfl, rfl⟩ (preR hK (P_of_map (wc := []) hP [] rfl)) hl.1 rfl (Nat.le_of_ble_eq_true rfl) dX8_fits_39 ⟨Nat.le_of_ble_eq_true rfl, Nat.le_of_ble_eq_true rfl⟩) ?_
            refine lv_iconst (v := 1) hx hb dX8_fits_42 (by decide) ?_
            refine lv_isub hx hb dX8_fits_43 ?_
            refine lv_istore_n (lv' := [(3, .int (r9 - 1)), (0, .ref q_t), (1, .int x1), (2, .int x2)]) hx hb dX8_fits_44 rfl hl (by decide) rfl (fun ls hl => ?_)
            refine lv_iconst (v := 0) hx hb dX8_fits_45 (by decide) ?_
            refine lv_istore (lv' := [(4, .int 0), (3, .int (r9 - 1)), (0, .ref q_t), (1, .int x1), (2, .int x2)]) hx hb dX8_fits_46 hl (by decide) rfl (fun ls hl => ?_)
            refine lv_iload_n hx hb dX8_fits_48 rfl (lv_at hl 1 rfl) ?_
            refine lv_istore (lv' := [(5, .int (r9 - 1)), (4, .int 0), (3, .int (r9 - 1)), (0, .ref q_t), (1, .int x1), (2, .int x2)]) hx hb dX8_fits_49 hl (by decide) rfl (fun ls hl => ?_)
            refine lv_iconst (v := 0) hx hb dX8_fits_51 (by decide) ?_
            refine lv_istore (lv' := [(6, .int 0), (5, .int (r9 - 1)), (4, .int 0), (3, .int (r9 - 1)), (0, .ref q_t), (1, .int x1), (2, .int x2)]) hx hb dX8_fits_52 hl (by decide) rfl (fun ls hl => ?_)
            refine lv_iconst (v := 0) hx hb dX8_fits_54 (by decide) ?_
            refine lv_istore (lv' := [(7, .int 0), (6, .int 0), (5, .int (r9 - 1)), (4, .int 0), (3, .int (r9 - 1)), (0, .ref q_t), (1, .int x1), (2, .int x2)]) hx hb dX8_fits_55 hl (by decide) rfl (fun ls hl => ?_)
            refine wX8_fits_57 C hK hP ?_ FU 0 (r9 - 1) 0 0 ls h (lv_sub hl [5, 6, 7, 4, 3, 2, 1, 0] rfl)
            · intro i21 i22 i23 ls h hl
              refine lv_iload_n hx hb dX8_fits_127 rfl (lv_at hl 0 rfl) ?_
              refine lv_if_eq (tgt := 136) hx hb dX8_fits_128 (by decide) (fun c24 => ?_) (fun c24 => ?_)
              · have h := ite_t c24 h
                refine lv_iload hx hb dX8_fits_136 (lv_at hl 2 rfl) ?_
                exact rRi C rfl (Option.some.inj h) dX8_fits_138
              · have h := ite_f c24 h
                refine lv_iload hx hb dX8_fits_131 (lv_at hl 2 rfl) ?_
                refine lv_if_ne (tgt := 139) hx hb dX8_fits_133 (by decide) (fun c25 => ?_) (fun c25 => ?_)
                · have h := ite_f c25 h
                  refine lv_iload_n hx hb dX8_fits_139 rfl (lv_at hl 0 rfl) ?_
                  refine lv_iconst (v := 1) hx hb dX8_fits_140 (by decide) ?_
                  refine lv_icmp_ne (tgt := 149) hx hb dX8_fits_141 (by decide) (fun c26 => ?_) (fun c26 => ?_)
                  · have h := ite_f c26 h
                    refine lv_iload_n hx hb dX8_fits_149 rfl (lv_at hl 1 rfl) ?_
                    refine lv_iload hx hb dX8_fits_150 (lv_at hl 4 rfl) ?_
                    refine lv_iconst (v := (-1)) hx hb dX8_fits_152 (by decide) ?_
                    refine lv_ixor hx hb dX8_fits_153 ?_
                    refine lv_iand hx hb dX8_fits_154 ?_
                    exact rRi C rfl (Option.some.inj h) dX8_fits_155
                  · have h := ite_t c26 h
                    refine lv_iload hx hb dX8_fits_144 (lv_at hl 3 rfl) ?_
                    refine lv_goto (tgt := 155) hx hb dX8_fits_146 (by decide) ?_
                    exact rRi C rfl (Option.some.inj h) dX8_fits_155
                · have h := ite_t c25 h
                  refine lv_iload hx hb dX8_fits_136 (lv_at hl 2 rfl) ?_
                  exact rRi C rfl (Option.some.inj h) dX8_fits_138
          · have h := ite_f c7 h
            refine lv_iconst (v := (-1)) hx hb dX8_fits_27 (by decide) ?_
            exact rRi C rfl (Option.some.inj h) dX8_fits_28

def fX8_game (z_t : Sx) (z_t_5 : Sx) (x1 : Int32) (x2 : Int32) : Option (Int32 × Sx) := if x1 < 0 then some ((-1000), z_t_5) else if 8 ≤ x1 then some ((-1000), z_t_5) else if x2 < (-99) then some ((-1000), z_t_5) else if x2 ≤ 99 then gd (inb x1 8) (some (gT z_t_5 7 x1.toNatClampNeg, sT z_t_5 7 x1.toNatClampNeg x2)) else some ((-1000), z_t_5)

set_option maxHeartbeats 4000000 in
set_option maxRecDepth 100000 in
theorem mX8_game (l : Launch) (D : va_G) (a : Nat → ClassId) {q_t : Nat} {Q_t : Nat → Nat} {z_t : Sx} {Q_t_5 : Nat → Nat} {z_t_5 : Sx} {x1 : Int32} {x2 : Int32} {y : Int32 × Sx} (h : fX8_game z_t z_t_5 x1 x2 = some y) (sz : Nat) : CMi (S := Unit) l MX8_game 0 0 0 0 D a [.ref q_t, .int x1, .int x2] (rc8 a q_t Q_t z_t ++ (rc5 a (Q_t 5) Q_t_5 z_t_5)) sz (fun r _ => r = y.1) (fun _ => rc8 a q_t Q_t z_t ++ (rc5 a (Q_t 5) Q_t_5 y.2)) := by
  unfold fX8_game at h
  refine entMi (by decide) (Nat.le_of_ble_eq_true rfl) ?_
  intro p e s m below meth c C hK A hA hP hD ls hl
  obtain ⟨hx, hb, hml, hown, hts, hr, hlocks, hnm⟩ := id C
  have hb : c.code = cX8_game := hb
  have hown : s.vm.findClass RX8 = some m.cls := hown
  have hS : va_S A s.heap s.heap [] := va_S.rf
  have hl : lv_has ls 4 [(0, .ref q_t), (1, .int x1), (2, .int x2)] := hl
  refine lv_iload_n hx hb dX8_game_0 rfl (lv_at hl 1 rfl) ?_
  refine lv_if_lt (tgt := 28) hx hb dX8_game_1 (by decide) (fun c1 => ?_) (fun c1 => ?_)
  · have h := ite_t c1 h
    refine lv_sipush (v := (-1000)) hx hb dX8_game_28 (by decide) ?_
    exact rMi C rfl h (g := fun y => rc8 a q_t Q_t z_t ++ (rc5 a (Q_t 5) Q_t_5 y.2)) (pr := fun y => y.1) hP hD hS dX8_game_31
  · have h := ite_f c1 h
    refine lv_iload_n hx hb dX8_game_4 rfl (lv_at hl 1 rfl) ?_
    refine lv_aload_n hx hb dX8_game_5 rfl (lv_at hl 0 rfl) ?_
    refine va_get (D := D) (v := .ref (Q_t 5)) (C := RX8) (T := TX8) (N := 11) hx hb hts iX8 hown hK.1 hP 0 rfl rfl 5 (by decide) (hts _ t_305) (fun _ h9 => h9) rfl dX8_game_6 ?_
    refine va_get (D := D) (v := .ref (Q_t_5 7)) (C := RX5) (T := TX5) (N := 8) hx hb hts iX5 hown hK.1 hP 2 rfl rfl 7 (by decide) (hts _ t_175) (fun _ h9 => h9) rfl dX8_game_9 ?_
    refine va_alen (v := 8) hx hb hK.1 hP 4 0 rfl rfl rfl dX8_game_12 ?_
    refine lv_icmp_ge (tgt := 28) hx hb dX8_game_13 (by decide) (fun c2 => ?_) (fun c2 => ?_)
    · have h := ite_t c2 h
      refine lv_sipush (v := (-1000)) hx hb dX8_game_28 (by decide) ?_
      exact rMi C rfl h (g := fun y => rc8 a q_t Q_t z_t ++ (rc5 a (Q_t 5) Q_t_5 y.2)) (pr := fun y => y.1) hP hD hS dX8_game_31
    · have h := ite_f c2 h
      refine lv_iload_n hx hb dX8_game_16 rfl (lv_at hl 2 rfl) ?_
      refine lv_bipush (v := (-99)) hx hb dX8_game_17 (by decide) ?_
      refine lv_icmp_lt (tgt := 28) hx hb dX8_game_19 (by decide) (fun c3 => ?_) (fun c3 => ?_)
      · have h := ite_t c3 h
        refine lv_sipush (v := (-1000)) hx hb dX8_game_28 (by decide) ?_
        exact rMi C rfl h (g := fun y => rc8 a q_t Q_t z_t ++ (rc5 a (Q_t 5) Q_t_5 y.2)) (pr := fun y => y.1) hP hD hS dX8_game_31
      · have h := ite_f c3 h
        refine lv_iload_n hx hb dX8_game_22 rfl (lv_at hl 2 rfl) ?_
        refine lv_bipush (v := 99) hx hb dX8_game_23 (by decide) ?_
        refine lv_icmp_le (tgt := 32) hx hb dX8_game_25 (by decide) (fun c4 => ?_) (fun c4 => ?_)
        · have h := ite_t c4 h
          refine lv_aload_n hx hb dX8_game_32 rfl (lv_at hl 0 rfl) ?_
          refine va_get (D := D) (v := .ref (Q_t 5)) (C := RX8) (T := TX8) (N := 11) hx hb hts iX8 hown hK.1 hP 0 rfl rfl 5 (by decide) (hts _ t_305) (fun _ h9 => h9) rfl dX8_game_33 ?_
          refine va_get (D := D) (v := .ref (Q_t_5 7)) (C := RX5) (T := TX5) (N := 8) hx hb hts iX5 hown hK.1 hP 2 rfl rfl 7 (by decide) (hts _ t_175) (fun _ h9 => h9) rfl dX8_game_36 ?_
          refine lv_iload_n hx hb dX8_game_39 rfl (lv_at hl 1 rfl) ?_
          obtain ⟨g5, h⟩ := gd_some h
          refine ald_i hx hb hK.1 hP 4 0 rfl rfl x1.toNatClampNeg (ix_g g5) dX8_game_40 ?_
          refine lv_istore_n (lv' := [(3, .int (gT z_t_5 7 x1.toNatClampNeg)), (0, .ref q_t), (1, .int x1), (2, .int x2)]) hx hb dX8_game_41 rfl hl (by decide) rfl (fun ls hl => ?_)
          refine lv_aload_n hx hb dX8_game_42 rfl (lv_at hl 1 rfl) ?_
          refine va_get (D := D) (v := .ref (Q_t 5)) (C := RX8) (T := TX8) (N := 11) hx hb hts iX8 hown hK.1 hP 0 rfl rfl 5 (by decide) (hts _ t_305) (fun _ h9 => h9) rfl dX8_game_43 ?_
          refine va_get (D := D) (v := .ref (Q_t_5 7)) (C := RX5) (T := TX5) (N := 8) hx hb hts iX5 hown hK.1 hP 2 rfl rfl 7 (by decide) (hts _ t_175) (fun _ h9 => h9) rfl dX8_game_46 ?_
          refine lv_iload_n hx hb dX8_game_49 rfl (lv_at hl 2 rfl) ?_
          refine lv_iload_n hx hb dX8_game_50 rfl (lv_at hl 3 rfl) ?_
          refine ast_i hx hb hK.1 hP hD hS 4 0 rfl rfl x1.toNatClampNeg (ix_g g5) dX8_game_51 (fun H locs hP hD hS => ?_)
          have hP : va_P D classes (rc8 a q_t Q_t z_t ++ (rc5 a (Q_t 5) Q_t_5 (sT z_t_5 7 x1.toNatClampNeg x2))) H := hP
          have hD : va_D A (rc8 a q_t Q_t z_t ++ (rc5 a (Q_t 5) Q_t_5 (sT z_t_5 7 x1.toNatClampNeg x2))) := hD
          refine lv_iload_n hx hb dX8_game_52 rfl (lv_at hl 0 rfl) ?_
          exact rMi C rfl h (g := fun y => rc8 a q_t Q_t z_t ++ (rc5 a (Q_t 5) Q_t_5 y.2)) (pr := fun y => y.1) hP hD hS dX8_game_53
        · have h := ite_f c4 h
          refine lv_sipush (v := (-1000)) hx hb dX8_game_28 (by decide) ?_
          exact rMi C rfl h (g := fun y => rc8 a q_t Q_t z_t ++ (rc5 a (Q_t 5) Q_t_5 y.2)) (pr := fun y => y.1) hP hD hS dX8_game_31

def fX8_image_some (z_t : Sx) (z_t_5 : Sx) (z_t_5_1 : Sx) (B_t_6 : Nat → Option Nat) (z_R : Sx) (z_R_1 : Sx) (x1 : Int32) : Option (Int32 × Sx × Sx) := if x1 < 0 then none else if x1 < 4 then gd (inb x1 4) (bd2 (fX5_copyFrom z_R z_R_1 z_t_5 z_t_5_1) (fun z5 z6 => some (gI z_t_5 4, z5, z6))) else none

set_option maxHeartbeats 4000000 in
set_option maxRecDepth 100000 in
theorem mX8_image_some (l : Launch) (D : va_G) (a : Nat → ClassId) {q_R : Nat} {q_t : Nat} {Q_t : Nat → Nat} {z_t : Sx} {Q_t_5 : Nat → Nat} {z_t_5 : Sx} {Q_t_5_1 : Nat → Nat} {z_t_5_1 : Sx} {B_t_6 : Nat → Option Nat} {Q_R : Nat → Nat} {z_R : Sx} {Q_R_1 : Nat → Nat} {z_R_1 : Sx} {x1 : Int32} (hm : B_t_6 x1.toNatClampNeg = some q_R) {y : Int32 × Sx × Sx} (h : fX8_image_some z_t z_t_5 z_t_5_1 B_t_6 z_R z_R_1 x1 = some y) (sz : Nat) : CMi (S := Unit) l MX8_image 3 102 0 0 D a [.ref q_t, .int x1] (rc8 a q_t Q_t z_t ++ (rc5 a (Q_t 5) Q_t_5 z_t_5 ++ (rc0 a (Q_t_5 1) Q_t_5_1 z_t_5_1 ++ (rb5 a (Q_t 6) 4 B_t_6 ++ (rc5 a q_R Q_R z_R ++ (rc0 a (Q_R 1) Q_R_1 z_R_1)))))) sz (fun r _ => r = y.1) (fun _ => rc8 a q_t Q_t z_t ++ (rc5 a (Q_t 5) Q_t_5 z_t_5 ++ (rc0 a (Q_t_5 1) Q_t_5_1 z_t_5_1 ++ (rb5 a (Q_t 6) 4 B_t_6 ++ (rc5 a q_R (va_up Q_R 0 (Q_t_5 0)) y.2.1 ++ (rc0 a (Q_R 1) Q_R_1 y.2.2)))))) := by
  unfold fX8_image_some at h
  refine entMi (by decide) (Nat.le_of_ble_eq_true rfl) ?_
  intro p e s m below meth c C hK A hA hP hD ls hl
  obtain ⟨hx, hb, hml, hown, hts, hr, hlocks, hnm⟩ := id C
  have hb : c.code = cX8_image := hb
  have hown : s.vm.findClass RX8 = some m.cls := hown
  have hS : va_S A s.heap s.heap [] := va_S.rf
  have hl : lv_has ls 3 [(0, .ref q_t), (1, .int x1)] := hl
  refine lv_iload_n hx hb dX8_image_0 rfl (lv_at hl 1 rfl) ?_
  refine lv_if_lt (tgt := 13) hx hb dX8_image_1 (by decide) (fun c1 => ?_) (fun c1 => ?_)
  · have h := ite_t c1 h
    cases h
  · have h := ite_f c1 h
    refine lv_iload_n hx hb dX8_image_4 rfl (lv_at hl 1 rfl) ?_
    refine lv_aload_n hx hb dX8_image_5 rfl (lv_at hl 0 rfl) ?_
    refine va_get (D := D) (v := .ref (Q_t 6)) (C := RX8) (T := TX8) (N := 11) hx hb hts iX8 hown hK.1 hP 0 rfl rfl 6 (by decide) (hts _ t_306) (fun _ h9 => h9) rfl dX8_image_6 ?_
    refine va_alen (v := 4) hx hb hK.1 hP 7 5 rfl rfl rfl dX8_image_9 ?_
    refine lv_icmp_lt (tgt := 15) hx hb dX8_image_10 (by decide) (fun c2 => ?_) (fun c2 => ?_)
    · have h := ite_t c2 h
      refine lv_aload_n hx hb dX8_image_15 rfl (lv_at hl 0 rfl) ?_
      refine va_get (D := D) (v := .ref (Q_t 6)) (C := RX8) (T := TX8) (N := 11) hx hb hts iX8 hown hK.1 hP 0 rfl rfl 6 (by decide) (hts _ t_306) (fun _ h9 => h9) rfl dX8_image_16 ?_
      refine lv_iload_n hx hb dX8_image_19 rfl (lv_at hl 1 rfl) ?_
      obtain ⟨g3, h⟩ := gd_some h
      refine ald_q hx hb hK.1 hP 7 5 rfl rfl x1.toNatClampNeg (ix_g g3) dX8_image_20 ?_
      rw [hm]
      refine lv_astore_n (lv' := [(2, .ref q_R), (0, .ref q_t), (1, .int x1)]) hx hb dX8_image_21 rfl hl (by decide) rfl (fun ls hl => ?_)
      refine lv_aload_n hx hb dX8_image_22 rfl (lv_at hl 0 rfl) ?_
      refine lv_ifnonnull (tgt := 48) hx hb dX8_image_23 (by decide) ?_
      refine lv_aload_n hx hb dX8_image_48 rfl (lv_at hl 0 rfl) ?_
      refine lv_aload_n hx hb dX8_image_49 rfl (lv_at hl 1 rfl) ?_
      refine va_get (D := D) (v := .ref (Q_t 5)) (C := RX8) (T := TX8) (N := 11) hx hb hts iX8 hown hK.1 hP 0 rfl rfl 5 (by decide) (hts _ t_305) (fun _ h9 => h9) rfl dX8_image_50 ?_
      obtain ⟨z5, z6, hc4, h⟩ := bd2_some h
      refine cMv (runV (As := [.ref (Q_t 5)]) (rest := []) C (mX5_copyFrom l D a hc4 s.heap.size) lk_V_8_300 okN_X5_copyFrom ⟨Nat.le_of_ble_eq_true rfl, Nat.le_of_ble_eq_true rfl⟩ ⟨rfl, rfl⟩ (preV (preM hK (P_of_map (wc := rc5 a q_R Q_R z_R ++ (rc0 a (Q_R 1) Q_R_1 z_R_1 ++ (rc5 a (Q_t 5) Q_t_5 z_t_5 ++ (rc0 a (Q_t_5 1) Q_t_5_1 z_t_5_1)))) hP [8, 9, 10, 11, 12, 2, 3, 4, 5, 6] rfl) (hD.sub (ws' := rc5 a q_R Q_R z_R ++ (rc0 a (Q_R 1) Q_R_1 z_R_1 ++ (rc5 a (Q_t 5) Q_t_5 z_t_5 ++ (rc0 a (Q_t_5 1) Q_t_5_1 z_t_5_1)))) [8, 9, 10, 11, 12, 2, 3, 4, 5, 6] (by decide) rfl)) (recvOf hK hP 8 rfl (ci := 5) rfl)) hl.1 rfl (Nat.le_of_ble_eq_true rfl) dX8_image_53 ⟨Nat.le_of_ble_eq_true rfl, Nat.le_of_ble_eq_true rfl⟩) hP hD hS hA [8, 9, 10, 11, 12, 2, 3, 4, 5, 6] [0, 1, 7] [0, 1, 8, 9, 10, 11, 12, 2, 3, 4, 5, 6, 7] rfl rfl (by decide) (by decide) (fw := rc8 a q_t Q_t z_t ++ (rc5 a (Q_t 5) Q_t_5 z_t_5 ++ (rc0 a (Q_t_5 1) Q_t_5_1 z_t_5_1 ++ (rb5 a (Q_t 6) 4 B_t_6 ++ (rc5 a q_R (va_up Q_R 0 (Q_t_5 0)) z5 ++ (rc0 a (Q_R 1) Q_R_1 z6)))))) rfl (by decide) (fun H locs hP hD hS => ?_)
      have hP : va_P D classes (rc8 a q_t Q_t z_t ++ (rc5 a (Q_t 5) Q_t_5 z_t_5 ++ (rc0 a (Q_t_5 1) Q_t_5_1 z_t_5_1 ++ (rb5 a (Q_t 6) 4 B_t_6 ++ (rc5 a q_R (va_up Q_R 0 (Q_t_5 0)) z5 ++ (rc0 a (Q_R 1) Q_R_1 z6)))))) H := hP
      have hD : va_D A (rc8 a q_t Q_t z_t ++ (rc5 a (Q_t 5) Q_t_5 z_t_5 ++ (rc0 a (Q_t_5 1) Q_t_5_1 z_t_5_1 ++ (rb5 a (Q_t 6) 4 B_t_6 ++ (rc5 a q_R (va_up Q_R 0 (Q_t_5 0)) z5 ++ (rc0 a (Q_R 1) Q_R_1 z6)))))) := hD
      refine lv_aload_n hx hb dX8_image_56 rfl (lv_at hl 1 rfl) ?_
      refine va_get (D := D) (v := .ref (Q_t 5)) (C := RX8) (T := TX8) (N := 11) hx hb hts iX8 hown hK.1 hP 0 rfl rfl 5 (by decide) (hts _ t_305) (fun _ h9 => h9) rfl dX8_image_57 ?_
      refine va_get (D := D) (v := .int (gI z_t_5 4)) (C := RX5) (T := TX5) (N := 8) hx hb hts iX5 hown hK.1 hP 2 rfl rfl 4 (by decide) (hts _ t_169) (fun _ h9 => h9) rfl dX8_image_60 ?_
      exact rMi C rfl h (g := fun y => rc8 a q_t Q_t z_t ++ (rc5 a (Q_t 5) Q_t_5 z_t_5 ++ (rc0 a (Q_t_5 1) Q_t_5_1 z_t_5_1 ++ (rb5 a (Q_t 6) 4 B_t_6 ++ (rc5 a q_R (va_up Q_R 0 (Q_t_5 0)) y.2.1 ++ (rc0 a (Q_R 1) Q_R_1 y.2.2)))))) (pr := fun y => y.1) hP hD hS dX8_image_63
    · have h := ite_f c2 h
      cases h

def fX8_kind (z_t : Sx) (z_t_5 : Sx) (z_t_5_0 : Sx) (x1 : Int32) (x2 : Int32) : Option (Int32) := if x1 < 0 then some (-1) else if x1 < (gI z_t_5_0 2) then if x2 = 0 then bd (fX8_at 6 (gT z_t_5_0 5) x1) (fun r5 => some r5) else if x2 = 1 then bd (fX8_at 6 (gT z_t_5_0 6) x1) (fun r7 => some r7) else if x2 = 2 then bd (fX8_at 6 (gT z_t_5_0 7) x1) (fun r9 => some r9) else some (-1) else some (-1)

set_option maxHeartbeats 4000000 in
set_option maxRecDepth 100000 in
theorem mX8_kind (l : Launch) (D : va_G) (a : Nat → ClassId) {q_t : Nat} {Q_t : Nat → Nat} {z_t : Sx} {Q_t_5 : Nat → Nat} {z_t_5 : Sx} {Q_t_5_0 : Nat → Nat} {z_t_5_0 : Sx} {x1 : Int32} {x2 : Int32} {y : Int32} (h : fX8_kind z_t z_t_5 z_t_5_0 x1 x2 = some y) : CRi l MX8_kind 1 21 D a [.ref q_t, .int x1, .int x2] (rc8 a q_t Q_t z_t ++ (rc5 a (Q_t 5) Q_t_5 z_t_5 ++ (rc7 a (Q_t_5 0) Q_t_5_0 z_t_5_0))) (fun r => r = y) := by
  unfold fX8_kind at h
  refine entR (by decide) (Nat.le_of_ble_eq_true rfl) ?_
  intro p e s m below meth c C hK hP ls hl
  obtain ⟨hx, hb, hml, hown, hts, hr, hlocks, hnm⟩ := id C
  have hb : c.code = cX8_kind := hb
  have hown : s.vm.findClass RX8 = some m.cls := hown
  have hl : lv_has ls 4 [(0, .ref q_t), (1, .int x1), (2, .int x2)] := hl
  refine lv_aload_n hx hb dX8_kind_0 rfl (lv_at hl 0 rfl) ?_
  refine va_get (D := D) (v := .ref (Q_t 5)) (C := RX8) (T := TX8) (N := 11) hx hb hts iX8 hown hK.1 hP 0 rfl rfl 5 (by decide) (hts _ t_305) (fun _ h9 => h9) rfl dX8_kind_1 ?_
  refine va_get (D := D) (v := .ref (Q_t_5 0)) (C := RX5) (T := TX5) (N := 8) hx hb hts iX5 hown hK.1 hP 2 rfl rfl 0 (by decide) (hts _ t_161) (fun _ h9 => h9) rfl dX8_kind_4 ?_
  refine lv_astore_n (lv' := [(3, .ref (Q_t_5 0)), (0, .ref q_t), (1, .int x1), (2, .int x2)]) hx hb dX8_kind_7 rfl hl (by decide) rfl (fun ls hl => ?_)
  refine lv_iload_n hx hb dX8_kind_8 rfl (lv_at hl 2 rfl) ?_
  refine lv_if_lt (tgt := 20) hx hb dX8_kind_9 (by decide) (fun c1 => ?_) (fun c1 => ?_)
  · have h := ite_t c1 h
    refine lv_iconst (v := (-1)) hx hb dX8_kind_20 (by decide) ?_
    exact rRi C rfl (Option.some.inj h) dX8_kind_21
  · have h := ite_f c1 h
    refine lv_iload_n hx hb dX8_kind_12 rfl (lv_at hl 2 rfl) ?_
    refine lv_aload_n hx hb dX8_kind_13 rfl (lv_at hl 0 rfl) ?_
    refine va_get (D := D) (v := .int (gI z_t_5_0 2)) (C := RX7) (T := TX7) (N := 18) hx hb hts iX7 hown hK.1 hP 5 rfl rfl 2 (by decide) (hts _ t_43) (fun _ h9 => h9) rfl dX8_kind_14 ?_
    refine lv_icmp_lt (tgt := 22) hx hb dX8_kind_17 (by decide) (fun c2 => ?_) (fun c2 => ?_)
    · have h := ite_t c2 h
      refine lv_iload_n hx hb dX8_kind_22 rfl (lv_at hl 3 rfl) ?_
      by_cases c3_0 : x2 = 0
      · have h := ite_t c3_0 h
        refine lv_tableIn (off := 25) (tgt := 48) hx hb dX8_kind_23 (by rw [c3_0]; decide) (by rw [c3_0]; decide) (by rw [c3_0]; decide) (by decide) ?_
        refine lv_aload_n hx hb dX8_kind_48 rfl (lv_at hl 0 rfl) ?_
        refine va_get (D := D) (v := .ref (Q_t_5_0 5)) (C := RX7) (T := TX7) (N := 18) hx hb hts iX7 hown hK.1 hP 5 rfl rfl 5 (by decide) (hts _ t_50) (fun _ h9 => h9) rfl dX8_kind_49 ?_
        refine lv_iload_n hx hb dX8_kind_52 rfl (lv_at hl 2 rfl) ?_
        obtain ⟨r5, hc4, h⟩ := bd_some h
        refine cRi (runS (As := [.ref (Q_t_5_0 5), .int x1]) (rest := []) C (mX8_at l D a hc4) lk_S_8_129 okN_X8_at ⟨Nat.le_of_ble_eq_true rfl, Nat.le_of_ble_eq_true rfl⟩ ⟨rfl, rfl⟩ (preR hK (P_of_map (wc := ra0 a (Q_t_5_0 5) 6 (gT z_t_5_0 5)) hP [6] rfl)) hl.1 rfl (Nat.le_of_ble_eq_true rfl) dX8_kind_53 ⟨Nat.le_of_ble_eq_true rfl, Nat.le_of_ble_eq_true rfl⟩) ?_
        exact rRi C rfl (Option.some.inj h) dX8_kind_56
      have h := ite_f c3_0 h
      by_cases c3_1 : x2 = 1
      · have h := ite_t c3_1 h
        refine lv_tableIn (off := 34) (tgt := 57) hx hb dX8_kind_23 (by rw [c3_1]; decide) (by rw [c3_1]; decide) (by rw [c3_1]; decide) (by decide) ?_
        refine lv_aload_n hx hb dX8_kind_57 rfl (lv_at hl 0 rfl) ?_
        refine va_get (D := D) (v := .ref (Q_t_5_0 6)) (C := RX7) (T := TX7) (N := 18) hx hb hts iX7 hown hK.1 hP 5 rfl rfl 6 (by decide) (hts _ t_52) (fun _ h9 => h9) rfl dX8_kind_58 ?_
        refine lv_iload_n hx hb dX8_kind_61 rfl (lv_at hl 2 rfl) ?_
        obtain ⟨r7, hc6, h⟩ := bd_some h
        refine cRi (runS (As := [.ref (Q_t_5_0 6), .int x1]) (rest := []) C (mX8_at l D a hc6) lk_S_8_129 okN_X8_at ⟨Nat.le_of_ble_eq_true rfl, Nat.le_of_ble_eq_true rfl⟩ ⟨rfl, rfl⟩ (preR hK (P_of_map (wc := ra0 a (Q_t_5_0 6) 6 (gT z_t_5_0 6)) hP [7] rfl)) hl.1 rfl (Nat.le_of_ble_eq_true rfl) dX8_kind_62 ⟨Nat.le_of_ble_eq_true rfl, Nat.le_of_ble_eq_true rfl⟩) ?_
        exact rRi C rfl (Option.some.inj h) dX8_kind_65
      have h := ite_f c3_1 h
      by_cases c3_2 : x2 = 2
      · have h := ite_t c3_2 h
        refine lv_tableIn (off := 43) (tgt := 66) hx hb dX8_kind_23 (by rw [c3_2]; decide) (by rw [c3_2]; decide) (by rw [c3_2]; decide) (by decide) ?_
        refine lv_aload_n hx hb dX8_kind_66 rfl (lv_at hl 0 rfl) ?_
        refine va_get (D := D) (v := .ref (Q_t_5_0 7)) (C := RX7) (T := TX7) (N := 18) hx hb hts iX7 hown hK.1 hP 5 rfl rfl 7 (by decide) (hts _ t_54) (fun _ h9 => h9) rfl dX8_kind_67 ?_
        refine lv_iload_n hx hb dX8_kind_70 rfl (lv_at hl 2 rfl) ?_
        obtain ⟨r9, hc8, h⟩ := bd_some h
        refine cRi (runS (As := [.ref (Q_t_5_0 7), .int x1]) (rest := []) C (mX8_at l D a hc8) lk_S_8_129 okN_X8_at ⟨Nat.le_of_ble_eq_true rfl, Nat.le_of_ble_eq_true rfl⟩ ⟨rfl, rfl⟩ (preR hK (P_of_map (wc := ra0 a (Q_t_5_0 7) 6 (gT z_t_5_0 7)) hP [8] rfl)) hl.1 rfl (Nat.le_of_ble_eq_true rfl) dX8_kind_71 ⟨Nat.le_of_ble_eq_true rfl, Nat.le_of_ble_eq_true rfl⟩) ?_
        exact rRi C rfl (Option.some.inj h) dX8_kind_74
      have h := ite_f c3_2 h
      refine lv_tableOut (tgt := 75) hx hb dX8_kind_23 (by have := lv_neT c3_0 (show (0 : Int32).toInt = 0 by decide); have := lv_neT c3_1 (show (1 : Int32).toInt = 1 by decide); have := lv_neT c3_2 (show (2 : Int32).toInt = 2 by decide); omega) (by decide) ?_
      refine lv_iconst (v := (-1)) hx hb dX8_kind_75 (by decide) ?_
      exact rRi C rfl (Option.some.inj h) dX8_kind_76
    · have h := ite_f c2 h
      refine lv_iconst (v := (-1)) hx hb dX8_kind_20 (by decide) ?_
      exact rRi C rfl (Option.some.inj h) dX8_kind_21

def fX8_look (z_t : Sx) (z_t_5 : Sx) (z_t_5_0 : Sx) (z_t_5_1 : Sx) (x1 : Int32) : Option (Int32 × Sx) := bd (fX8_isFault z_t z_t_5 z_t_5_0 x1) (fun r2 => if r2 = 0 then some ((-1), z_t_5_1) else bd (fX0_gone z_t_5_1) (fun r5 => bd (fX7_isOpen z_t_5_0 x1 r5) (fun r7 => if r7 = 0 then some ((-2), z_t_5_1) else bd (fX8_at 10 (gT z_t_5_0 9) x1) (fun r10 => if r10 ≤ (gI z_t_5_1 0) then bd2 (fX0_lookFor z_t_5_1 z_t_5_0 x1) (fun r13 z14 => if r13 = 0 then some (0, z14) else some (1, z14)) else some ((-3), z_t_5_1)))))

set_option maxHeartbeats 4000000 in
set_option maxRecDepth 100000 in
theorem mX8_look (l : Launch) (D : va_G) (a : Nat → ClassId) {q_t : Nat} {Q_t : Nat → Nat} {z_t : Sx} {Q_t_5 : Nat → Nat} {z_t_5 : Sx} {Q_t_5_0 : Nat → Nat} {z_t_5_0 : Sx} {Q_t_5_1 : Nat → Nat} {z_t_5_1 : Sx} {x1 : Int32} {y : Int32 × Sx} (h : fX8_look z_t z_t_5 z_t_5_0 z_t_5_1 x1 = some y) (sz : Nat) : CMi (S := Unit) l MX8_look 2 44 0 0 D a [.ref q_t, .int x1] (rc8 a q_t Q_t z_t ++ (rc5 a (Q_t 5) Q_t_5 z_t_5 ++ (rc7 a (Q_t_5 0) Q_t_5_0 z_t_5_0 ++ (rc0 a (Q_t_5 1) Q_t_5_1 z_t_5_1)))) sz (fun r _ => r = y.1) (fun _ => rc8 a q_t Q_t z_t ++ (rc5 a (Q_t 5) Q_t_5 z_t_5 ++ (rc7 a (Q_t_5 0) Q_t_5_0 z_t_5_0 ++ (rc0 a (Q_t_5 1) Q_t_5_1 y.2)))) := by
  unfold fX8_look at h
  refine entMi (by decide) (Nat.le_of_ble_eq_true rfl) ?_
  intro p e s m below meth c C hK A hA hP hD ls hl
  obtain ⟨hx, hb, hml, hown, hts, hr, hlocks, hnm⟩ := id C
  have hb : c.code = cX8_look := hb
  have hown : s.vm.findClass RX8 = some m.cls := hown
  have hS : va_S A s.heap s.heap [] := va_S.rf
  have hl : lv_has ls 2 [(0, .ref q_t), (1, .int x1)] := hl
  refine lv_aload_n hx hb dX8_look_0 rfl (lv_at hl 0 rfl) ?_
  refine lv_iload_n hx hb dX8_look_1 rfl (lv_at hl 1 rfl) ?_
  obtain ⟨r2, hc1, h⟩ := bd_some h
  refine cRi (runV (As := [.int x1]) (rest := []) C (mX8_isFault l D a hc1) lk_V_8_139 okN_X8_isFault ⟨Nat.le_of_ble_eq_true rfl, Nat.le_of_ble_eq_true rfl⟩ ⟨rfl, rfl⟩ (preV (preR hK (P_of_map (wc := rc8 a q_t Q_t z_t ++ (rc5 a (Q_t 5) Q_t_5 z_t_5 ++ (rc7 a (Q_t_5 0) Q_t_5_0 z_t_5_0))) hP [0, 1, 2, 3, 4, 5, 6, 7, 8, 9, 10, 11, 12, 13, 14, 15, 16, 17] rfl)) (recvOf hK hP 0 rfl (ci := 8) rfl)) hl.1 rfl (Nat.le_of_ble_eq_true rfl) dX8_look_2 ⟨Nat.le_of_ble_eq_true rfl, Nat.le_of_ble_eq_true rfl⟩) ?_
  refine lv_if_ne (tgt := 10) hx hb dX8_look_5 (by decide) (fun c3 => ?_) (fun c3 => ?_)
  · have h := ite_f c3 h
    refine lv_aload_n hx hb dX8_look_10 rfl (lv_at hl 0 rfl) ?_
    refine va_get (D := D) (v := .ref (Q_t 5)) (C := RX8) (T := TX8) (N := 11) hx hb hts iX8 hown hK.1 hP 0 rfl rfl 5 (by decide) (hts _ t_305) (fun _ h9 => h9) rfl dX8_look_11 ?_
    refine va_get (D := D) (v := .ref (Q_t_5 0)) (C := RX5) (T := TX5) (N := 8) hx hb hts iX5 hown hK.1 hP 2 rfl rfl 0 (by decide) (hts _ t_161) (fun _ h9 => h9) rfl dX8_look_14 ?_
    refine lv_iload_n hx hb dX8_look_17 rfl (lv_at hl 1 rfl) ?_
    refine lv_aload_n hx hb dX8_look_18 rfl (lv_at hl 0 rfl) ?_
    refine va_get (D := D) (v := .ref (Q_t 5)) (C := RX8) (T := TX8) (N := 11) hx hb hts iX8 hown hK.1 hP 0 rfl rfl 5 (by decide) (hts _ t_305) (fun _ h9 => h9) rfl dX8_look_19 ?_
    refine va_get (D := D) (v := .ref (Q_t_5 1)) (C := RX5) (T := TX5) (N := 8) hx hb hts iX5 hown hK.1 hP 2 rfl rfl 1 (by decide) (hts _ t_163) (fun _ h9 => h9) rfl dX8_look_22 ?_
    obtain ⟨r5, hc4, h⟩ := bd_some h
    refine cRi (runV (As := []) (rest := [.int x1, .ref (Q_t_5 0)]) C (mX0_gone l D a hc4) lk_V_8_171 okN_X0_gone ⟨Nat.le_of_ble_eq_true rfl, Nat.le_of_ble_eq_true rfl⟩ ⟨rfl, rfl⟩ (preV (preR hK (P_of_map (wc := rc0 a (Q_t_5 1) Q_t_5_1 z_t_5_1) hP [18, 19] rfl)) (recvOf hK hP 18 rfl (ci := 0) rfl)) hl.1 rfl (Nat.le_of_ble_eq_true rfl) dX8_look_25 ⟨Nat.le_of_ble_eq_true rfl, Nat.le_of_ble_eq_true rfl⟩) ?_
    obtain ⟨r7, hc6, h⟩ := bd_some h
    refine cRi (runV (As := [.int x1, .int r5]) (rest := []) C (mX7_isOpen l D a hc6) lk_V_8_175 okN_X7_isOpen ⟨Nat.le_of_ble_eq_true rfl, Nat.le_of_ble_eq_true rfl⟩ ⟨rfl, rfl⟩ (preV (preR hK (P_of_map (wc := rc7 a (Q_t_5 0) Q_t_5_0 z_t_5_0) hP [5, 6, 7, 8, 9, 10, 11, 12, 13, 14, 15, 16, 17] rfl)) (recvOf hK hP 5 rfl (ci := 7) rfl)) hl.1 rfl (Nat.le_of_ble_eq_true rfl) dX8_look_28 ⟨Nat.le_of_ble_eq_true rfl, Nat.le_of_ble_eq_true rfl⟩) ?_
    refine lv_if_ne (tgt := 37) hx hb dX8_look_31 (by decide) (fun c8 => ?_) (fun c8 => ?_)
    · have h := ite_f c8 h
      refine lv_aload_n hx hb dX8_look_37 rfl (lv_at hl 0 rfl) ?_
      refine va_get (D := D) (v := .ref (Q_t 5)) (C := RX8) (T := TX8) (N := 11) hx hb hts iX8 hown hK.1 hP 0 rfl rfl 5 (by decide) (hts _ t_305) (fun _ h9 => h9) rfl dX8_look_38 ?_
      refine va_get (D := D) (v := .ref (Q_t_5 0)) (C := RX5) (T := TX5) (N := 8) hx hb hts iX5 hown hK.1 hP 2 rfl rfl 0 (by decide) (hts _ t_161) (fun _ h9 => h9) rfl dX8_look_41 ?_
      refine va_get (D := D) (v := .ref (Q_t_5_0 9)) (C := RX7) (T := TX7) (N := 18) hx hb hts iX7 hown hK.1 hP 5 rfl rfl 9 (by decide) (hts _ t_62) (fun _ h9 => h9) rfl dX8_look_44 ?_
      refine lv_iload_n hx hb dX8_look_47 rfl (lv_at hl 1 rfl) ?_
      obtain ⟨r10, hc9, h⟩ := bd_some h
      refine cRi (runS (As := [.ref (Q_t_5_0 9), .int x1]) (rest := []) C (mX8_at l D a hc9) lk_S_8_129 okN_X8_at ⟨Nat.le_of_ble_eq_true rfl, Nat.le_of_ble_eq_true rfl⟩ ⟨rfl, rfl⟩ (preR hK (P_of_map (wc := ra0 a (Q_t_5_0 9) 10 (gT z_t_5_0 9)) hP [10] rfl)) hl.1 rfl (Nat.le_of_ble_eq_true rfl) dX8_look_48 ⟨Nat.le_of_ble_eq_true rfl, Nat.le_of_ble_eq_true rfl⟩) ?_
      refine lv_aload_n hx hb dX8_look_51 rfl (lv_at hl 0 rfl) ?_
      refine va_get (D := D) (v := .ref (Q_t 5)) (C := RX8) (T := TX8) (N := 11) hx hb hts iX8 hown hK.1 hP 0 rfl rfl 5 (by decide) (hts _ t_305) (fun _ h9 => h9) rfl dX8_look_52 ?_
      refine va_get (D := D) (v := .ref (Q_t_5 1)) (C := RX5) (T := TX5) (N := 8) hx hb hts iX5 hown hK.1 hP 2 rfl rfl 1 (by decide) (hts _ t_163) (fun _ h9 => h9) rfl dX8_look_55 ?_
      refine va_get (D := D) (v := .int (gI z_t_5_1 0)) (C := RX0) (T := TX0) (N := 6) hx hb hts iX0 hown hK.1 hP 18 rfl rfl 0 (by decide) (hts _ t_132) (fun _ h9 => h9) rfl dX8_look_58 ?_
      refine lv_icmp_le (tgt := 67) hx hb dX8_look_61 (by decide) (fun c11 => ?_) (fun c11 => ?_)
      · have h := ite_t c11 h
        refine lv_aload_n hx hb dX8_look_67 rfl (lv_at hl 0 rfl) ?_
        refine va_get (D := D) (v := .ref (Q_t 5)) (C := RX8) (T := TX8) (N := 11) hx hb hts iX8 hown hK.1 hP 0 rfl rfl 5 (by decide) (hts _ t_305) (fun _ h9 => h9) rfl dX8_look_68 ?_
        refine va_get (D := D) (v := .ref (Q_t_5 1)) (C := RX5) (T := TX5) (N := 8) hx hb hts iX5 hown hK.1 hP 2 rfl rfl 1 (by decide) (hts _ t_163) (fun _ h9 => h9) rfl dX8_look_71 ?_
        refine lv_aload_n hx hb dX8_look_74 rfl (lv_at hl 0 rfl) ?_
        refine va_get (D := D) (v := .ref (Q_t 5)) (C := RX8) (T := TX8) (N := 11) hx hb hts iX8 hown hK.1 hP 0 rfl rfl 5 (by decide) (hts _ t_305) (fun _ h9 => h9) rfl dX8_look_75 ?_
        refine va_get (D := D) (v := .ref (Q_t_5 0)) (C := RX5) (T := TX5) (N := 8) hx hb hts iX5 hown hK.1 hP 2 rfl rfl 0 (by decide) (hts _ t_161) (fun _ h9 => h9) rfl dX8_look_78 ?_
        refine lv_iload_n hx hb dX8_look_81 rfl (lv_at hl 1 rfl) ?_
        obtain ⟨r13, z14, hc12, h⟩ := bd2_some h
        refine cMi (runV (As := [.ref (Q_t_5 0), .int x1]) (rest := []) C (mX0_lookFor l D a hc12 s.heap.size) lk_V_8_209 okN_X0_lookFor ⟨Nat.le_of_ble_eq_true rfl, Nat.le_of_ble_eq_true rfl⟩ ⟨rfl, rfl⟩ (preV (preM hK (P_of_map (wc := rc0 a (Q_t_5 1) Q_t_5_1 z_t_5_1 ++ (rc7 a (Q_t_5 0) Q_t_5_0 z_t_5_0)) hP [18, 19, 5, 6, 7, 8, 9, 10, 11, 12, 13, 14, 15, 16, 17] rfl) (hD.sub (ws' := rc0 a (Q_t_5 1) Q_t_5_1 z_t_5_1 ++ (rc7 a (Q_t_5 0) Q_t_5_0 z_t_5_0)) [18, 19, 5, 6, 7, 8, 9, 10, 11, 12, 13, 14, 15, 16, 17] (by decide) rfl)) (recvOf hK hP 18 rfl (ci := 0) rfl)) hl.1 rfl (Nat.le_of_ble_eq_true rfl) dX8_look_82 ⟨Nat.le_of_ble_eq_true rfl, Nat.le_of_ble_eq_true rfl⟩) hP hD hS hA [18, 19, 5, 6, 7, 8, 9, 10, 11, 12, 13, 14, 15, 16, 17] [0, 1, 2, 3, 4] [0, 1, 2, 3, 4, 7, 8, 9, 10, 11, 12, 13, 14, 15, 16, 17, 18, 19, 5, 6] rfl rfl (by decide) (by decide) (fw := rc8 a q_t Q_t z_t ++ (rc5 a (Q_t 5) Q_t_5 z_t_5 ++ (rc7 a (Q_t_5 0) Q_t_5_0 z_t_5_0 ++ (rc0 a (Q_t_5 1) Q_t_5_1 z14)))) rfl (by decide) (fun H locs hP hD hS => ?_)
        have hP : va_P D classes (rc8 a q_t Q_t z_t ++ (rc5 a (Q_t 5) Q_t_5 z_t_5 ++ (rc7 a (Q_t_5 0) Q_t_5_0 z_t_5_0 ++ (rc0 a (Q_t_5 1) Q_t_5_1 z14)))) H := hP
        have hD : va_D A (rc8 a q_t Q_t z_t ++ (rc5 a (Q_t 5) Q_t_5 z_t_5 ++ (rc7 a (Q_t_5 0) Q_t_5_0 z_t_5_0 ++ (rc0 a (Q_t_5 1) Q_t_5_1 z14)))) := hD
        refine lv_if_eq (tgt := 92) hx hb dX8_look_85 (by decide) (fun c15 => ?_) (fun c15 => ?_)
        · have h := ite_t c15 h
          refine lv_iconst (v := 0) hx hb dX8_look_92 (by decide) ?_
          exact rMi C rfl h (g := fun y => rc8 a q_t Q_t z_t ++ (rc5 a (Q_t 5) Q_t_5 z_t_5 ++ (rc7 a (Q_t_5 0) Q_t_5_0 z_t_5_0 ++ (rc0 a (Q_t_5 1) Q_t_5_1 y.2)))) (pr := fun y => y.1) hP hD hS dX8_look_93
        · have h := ite_f c15 h
          refine lv_iconst (v := 1) hx hb dX8_look_88 (by decide) ?_
          refine lv_goto (tgt := 93) hx hb dX8_look_89 (by decide) ?_
          exact rMi C rfl h (g := fun y => rc8 a q_t Q_t z_t ++ (rc5 a (Q_t 5) Q_t_5 z_t_5 ++ (rc7 a (Q_t_5 0) Q_t_5_0 z_t_5_0 ++ (rc0 a (Q_t_5 1) Q_t_5_1 y.2)))) (pr := fun y => y.1) hP hD hS dX8_look_93
      · have h := ite_f c11 h
        refine lv_bipush (v := (-3)) hx hb dX8_look_64 (by decide) ?_
        exact rMi C rfl h (g := fun y => rc8 a q_t Q_t z_t ++ (rc5 a (Q_t 5) Q_t_5 z_t_5 ++ (rc7 a (Q_t_5 0) Q_t_5_0 z_t_5_0 ++ (rc0 a (Q_t_5 1) Q_t_5_1 y.2)))) (pr := fun y => y.1) hP hD hS dX8_look_66
    · have h := ite_t c8 h
      refine lv_bipush (v := (-2)) hx hb dX8_look_34 (by decide) ?_
      exact rMi C rfl h (g := fun y => rc8 a q_t Q_t z_t ++ (rc5 a (Q_t 5) Q_t_5 z_t_5 ++ (rc7 a (Q_t_5 0) Q_t_5_0 z_t_5_0 ++ (rc0 a (Q_t_5 1) Q_t_5_1 y.2)))) (pr := fun y => y.1) hP hD hS dX8_look_36
  · have h := ite_t c3 h
    refine lv_iconst (v := (-1)) hx hb dX8_look_8 (by decide) ?_
    exact rMi C rfl h (g := fun y => rc8 a q_t Q_t z_t ++ (rc5 a (Q_t 5) Q_t_5 z_t_5 ++ (rc7 a (Q_t_5 0) Q_t_5_0 z_t_5_0 ++ (rc0 a (Q_t_5 1) Q_t_5_1 y.2)))) (pr := fun y => y.1) hP hD hS dX8_look_9

def fX8_master (z_t : Sx) (z_t_5 : Sx) (z_t_5_0 : Sx) (z_t_5_1 : Sx) (z_t_10 : Sx) (x1 : Int32) (x2 : Int32) : Option (Int64 × Sx) := bd (fX8_hasWork z_t z_t_5 z_t_5_0) (fun r2 => if r2 = 0 then some ((-1000000000000), z_t_10) else if x1 < 0 then some ((-1000000000000), z_t_10) else if 4 < x1 then some ((-1000000000000), z_t_10) else if x2 < 0 then some ((-1000000000000), z_t_10) else if x2 ≤ 2 then bd (fX0_gone z_t_5_1) (fun r9 => bd (fX1_weighSets z_t_10 z_t_5_0 x1 r9 (gI z_t_5_1 0)) (fun z11 => if x2 = 2 then some ((gI z11 2).toInt64, z11) else bd (fX8_hundreds x1) (fun r14 => bd (fX8_partOf (gJ z11 3 0) r14 x2) (fun r16 => some (r16, z11))))) else some ((-1000000000000), z_t_10))

set_option maxHeartbeats 4000000 in
set_option maxRecDepth 100000 in
theorem mX8_master (l : Launch) (D : va_G) (a : Nat → ClassId) {q_t : Nat} {Q_t : Nat → Nat} {z_t : Sx} {Q_t_5 : Nat → Nat} {z_t_5 : Sx} {Q_t_5_0 : Nat → Nat} {z_t_5_0 : Sx} {Q_t_5_1 : Nat → Nat} {z_t_5_1 : Sx} {Q_t_10 : Nat → Nat} {z_t_10 : Sx} {x1 : Int32} {x2 : Int32} {y : Int64 × Sx} (h : fX8_master z_t z_t_5 z_t_5_0 z_t_5_1 z_t_10 x1 x2 = some y) (sz : Nat) : CMl (S := Unit) l MX8_master 55 1616 0 0 D a [.ref q_t, .int x1, .int x2] (rc8 a q_t Q_t z_t ++ (rc5 a (Q_t 5) Q_t_5 z_t_5 ++ (rc7 a (Q_t_5 0) Q_t_5_0 z_t_5_0 ++ (rc0 a (Q_t_5 1) Q_t_5_1 z_t_5_1 ++ (rc1 a (Q_t 10) Q_t_10 z_t_10))))) sz (fun r _ => r = y.1) (fun _ => rc8 a q_t Q_t z_t ++ (rc5 a (Q_t 5) Q_t_5 z_t_5 ++ (rc7 a (Q_t_5 0) Q_t_5_0 z_t_5_0 ++ (rc0 a (Q_t_5 1) Q_t_5_1 z_t_5_1 ++ (rc1 a (Q_t 10) Q_t_10 y.2))))) := by
  unfold fX8_master at h
  refine entMl (by decide) (Nat.le_of_ble_eq_true rfl) ?_
  intro p e s m below meth c C hK A hA hP hD ls hl
  obtain ⟨hx, hb, hml, hown, hts, hr, hlocks, hnm⟩ := id C
  have hb : c.code = cX8_master := hb
  have hown : s.vm.findClass RX8 = some m.cls := hown
  have hS : va_S A s.heap s.heap [] := va_S.rf
  have hl : lv_has ls 3 [(0, .ref q_t), (1, .int x1), (2, .int x2)] := hl
  refine lv_aload_n hx hb dX8_master_0 rfl (lv_at hl 0 rfl) ?_
  obtain ⟨r2, hc1, h⟩ := bd_some h
  refine cRi (runV (As := []) (rest := []) C (mX8_hasWork l D a hc1) lk_V_8_213 okN_X8_hasWork ⟨Nat.le_of_ble_eq_true rfl, Nat.le_of_ble_eq_true rfl⟩ ⟨rfl, rfl⟩ (preV (preR hK (P_of_map (wc := rc8 a q_t Q_t z_t ++ (rc5 a (Q_t 5) Q_t_5 z_t_5 ++ (rc7 a (Q_t_5 0) Q_t_5_0 z_t_5_0))) hP [0, 1, 2, 3, 4, 5, 6, 7, 8, 9, 10, 11, 12, 13, 14, 15, 16, 17] rfl)) (recvOf hK hP 0 rfl (ci := 8) rfl)) hl.1 rfl (Nat.le_of_ble_eq_true rfl) dX8_master_1 ⟨Nat.le_of_ble_eq_true rfl, Nat.le_of_ble_eq_true rfl⟩) ?_
  refine lv_if_eq (tgt := 25) hx hb dX8_master_4 (by decide) (fun c3 => ?_) (fun c3 => ?_)
  · have h := ite_t c3 h
    refine lv_ldc2 hx hb hown (hts _ t_809) dX8_master_25 ?_
    exact rMl C rfl h (g := fun y => rc8 a q_t Q_t z_t ++ (rc5 a (Q_t 5) Q_t_5 z_t_5 ++ (rc7 a (Q_t_5 0) Q_t_5_0 z_t_5_0 ++ (rc0 a (Q_t_5 1) Q_t_5_1 z_t_5_1 ++ (rc1 a (Q_t 10) Q_t_10 y.2))))) (pr := fun y => y.1) hP hD hS dX8_master_28
  · have h := ite_f c3 h
    refine lv_iload_n hx hb dX8_master_7 rfl (lv_at hl 1 rfl) ?_
    refine lv_if_lt (tgt := 25) hx hb dX8_master_8 (by decide) (fun c4 => ?_) (fun c4 => ?_)
    · have h := ite_t c4 h
      refine lv_ldc2 hx hb hown (hts _ t_809) dX8_master_25 ?_
      exact rMl C rfl h (g := fun y => rc8 a q_t Q_t z_t ++ (rc5 a (Q_t 5) Q_t_5 z_t_5 ++ (rc7 a (Q_t_5 0) Q_t_5_0 z_t_5_0 ++ (rc0 a (Q_t_5 1) Q_t_5_1 z_t_5_1 ++ (rc1 a (Q_t 10) Q_t_10 y.2))))) (pr := fun y => y.1) hP hD hS dX8_master_28
    · have h := ite_f c4 h
      refine lv_iload_n hx hb dX8_master_11 rfl (lv_at hl 1 rfl) ?_
      refine lv_iconst (v := 4) hx hb dX8_master_12 (by decide) ?_
      refine lv_icmp_gt (tgt := 25) hx hb dX8_master_13 (by decide) (fun c5 => ?_) (fun c5 => ?_)
      · have h := ite_t c5 h
        refine lv_ldc2 hx hb hown (hts _ t_809) dX8_master_25 ?_
        exact rMl C rfl h (g := fun y => rc8 a q_t Q_t z_t ++ (rc5 a (Q_t 5) Q_t_5 z_t_5 ++ (rc7 a (Q_t_5 0) Q_t_5_0 z_t_5_0 ++ (rc0 a (Q_t_5 1) Q_t_5_1 z_t_5_1 ++ (rc1 a (Q_t 10) Q_t_10 y.2))))) (pr := fun y => y.1) hP hD hS dX8_master_28
      · have h := ite_f c5 h
        refine lv_iload_n hx hb dX8_master_16 rfl (lv_at hl 2 rfl) ?_
        refine lv_if_lt (tgt := 25) hx hb dX8_master_17 (by decide) (fun c6 => ?_) (fun c6 => ?_)
        · have h := ite_t c6 h
          refine lv_ldc2 hx hb hown (hts _ t_809) dX8_master_25 ?_
          exact rMl C rfl h (g := fun y => rc8 a q_t Q_t z_t ++ (rc5 a (Q_t 5) Q_t_5 z_t_5 ++ (rc7 a (Q_t_5 0) Q_t_5_0 z_t_5_0 ++ (rc0 a (Q_t_5 1) Q_t_5_1 z_t_5_1 ++ (rc1 a (Q_t 10) Q_t_10 y.2))))) (pr := fun y => y.1) hP hD hS dX8_master_28
        · have h := ite_f c6 h
          refine lv_iload_n hx hb dX8_master_20 rfl (lv_at hl 2 rfl) ?_
          refine lv_iconst (v := 2) hx hb dX8_master_21 (by decide) ?_
          refine lv_icmp_le (tgt := 29) hx hb dX8_master_22 (by decide) (fun c7 => ?_) (fun c7 => ?_)
          · have h := ite_t c7 h
            refine lv_aload_n hx hb dX8_master_29 rfl (lv_at hl 0 rfl) ?_
            refine va_get (D := D) (v := .ref (Q_t 10)) (C := RX8) (T := TX8) (N := 11) hx hb hts iX8 hown hK.1 hP 0 rfl rfl 10 (by decide) (hts _ t_310) (fun _ h9 => h9) rfl dX8_master_30 ?_
            refine lv_aload_n hx hb dX8_master_33 rfl (lv_at hl 0 rfl) ?_
            refine va_get (D := D) (v := .ref (Q_t 5)) (C := RX8) (T := TX8) (N := 11) hx hb hts iX8 hown hK.1 hP 0 rfl rfl 5 (by decide) (hts _ t_305) (fun _ h9 => h9) rfl dX8_master_34 ?_
            refine va_get (D := D) (v := .ref (Q_t_5 0)) (C := RX5) (T := TX5) (N := 8) hx hb hts iX5 hown hK.1 hP 2 rfl rfl 0 (by decide) (hts _ t_161) (fun _ h9 => h9) rfl dX8_master_37 ?_
            refine lv_iload_n hx hb dX8_master_40 rfl (lv_at hl 1 rfl) ?_
            refine lv_aload_n hx hb dX8_master_41 rfl (lv_at hl 0 rfl) ?_
            refine va_get (D := D) (v := .ref (Q_t 5)) (C := RX8) (T := TX8) (N := 11) hx hb hts iX8 hown hK.1 hP 0 rfl rfl 5 (by decide) (hts _ t_305) (fun _ h9 => h9) rfl dX8_master_42 ?_
            refine va_get (D := D) (v := .ref (Q_t_5 1)) (C := RX5) (T := TX5) (N := 8) hx hb hts iX5 hown hK.1 hP 2 rfl rfl 1 (by decide) (hts _ t_163) (fun _ h9 => h9) rfl dX8_master_45 ?_
            obtain ⟨r9, hc8, h⟩ := bd_some h
            refine cRi (runV (As := []) (rest := [.int x1, .ref (Q_t_5 0), .ref (Q_t 10)]) C (mX0_gone l D a hc8) lk_V_8_171 okN_X0_gone ⟨Nat.le_of_ble_eq_true rfl, Nat.le_of_ble_eq_true rfl⟩ ⟨rfl, rfl⟩ (preV (preR hK (P_of_map (wc := rc0 a (Q_t_5 1) Q_t_5_1 z_t_5_1) hP [18, 19] rfl)) (recvOf hK hP 18 rfl (ci := 0) rfl)) hl.1 rfl (Nat.le_of_ble_eq_true rfl) dX8_master_48 ⟨Nat.le_of_ble_eq_true rfl, Nat.le_of_ble_eq_true rfl⟩) ?_
            refine lv_aload_n hx hb dX8_master_51 rfl (lv_at hl 0 rfl) ?_
            refine va_get (D := D) (v := .ref (Q_t 5)) (C := RX8) (T := TX8) (N := 11) hx hb hts iX8 hown hK.1 hP 0 rfl rfl 5 (by decide) (hts _ t_305) (fun _ h9 => h9) rfl dX8_master_52 ?_
            refine va_get (D := D) (v := .ref (Q_t_5 1)) (C := RX5) (T := TX5) (N := 8) hx hb hts iX5 hown hK.1 hP 2 rfl rfl 1 (by decide) (hts _ t_163) (fun _ h9 => h9) rfl dX8_master_55 ?_
            refine va_get (D := D) (v := .int (gI z_t_5_1 0)) (C := RX0) (T := TX0) (N := 6) hx hb hts iX0 hown hK.1 hP 18 rfl rfl 0 (by decide) (hts _ t_132) (fun _ h9 => h9) rfl dX8_master_58 ?_
            obtain ⟨z11, hc10, h⟩ := bd_some h
            refine cMv (runV (As := [.ref (Q_t_5 0), .int x1, .int r9, .int (gI z_t_5_1 0)]) (rest := []) C (mX1_weighSets l D a hc10 s.heap.size) lk_V_8_272 okN_X1_weighSets ⟨Nat.le_of_ble_eq_true rfl, Nat.le_of_ble_eq_true rfl⟩ ⟨rfl, rfl⟩ (preV (preM hK (P_of_map (wc := rc1 a (Q_t 10) Q_t_10 z_t_10 ++ (rc7 a (Q_t_5 0) Q_t_5_0 z_t_5_0)) hP [20, 21, 22, 5, 6, 7, 8, 9, 10, 11, 12, 13, 14, 15, 16, 17] rfl) (hD.sub (ws' := rc1 a (Q_t 10) Q_t_10 z_t_10 ++ (rc7 a (Q_t_5 0) Q_t_5_0 z_t_5_0)) [20, 21, 22, 5, 6, 7, 8, 9, 10, 11, 12, 13, 14, 15, 16, 17] (by decide) rfl)) (recvOf hK hP 20 rfl (ci := 1) rfl)) hl.1 rfl (Nat.le_of_ble_eq_true rfl) dX8_master_61 ⟨Nat.le_of_ble_eq_true rfl, Nat.le_of_ble_eq_true rfl⟩) hP hD hS hA [20, 21, 22, 5, 6, 7, 8, 9, 10, 11, 12, 13, 14, 15, 16, 17] [0, 1, 2, 3, 4, 18, 19] [0, 1, 2, 3, 4, 10, 11, 12, 13, 14, 15, 16, 17, 18, 19, 20, 21, 22, 5, 6, 7, 8, 9] rfl rfl (by decide) (by decide) (fw := rc8 a q_t Q_t z_t ++ (rc5 a (Q_t 5) Q_t_5 z_t_5 ++ (rc7 a (Q_t_5 0) Q_t_5_0 z_t_5_0 ++ (rc0 a (Q_t_5 1) Q_t_5_1 z_t_5_1 ++ (rc1 a (Q_t 10) Q_t_10 z11))))) rfl (by decide) (fun H locs hP hD hS => ?_)
            have hP : va_P D classes (rc8 a q_t Q_t z_t ++ (rc5 a (Q_t 5) Q_t_5 z_t_5 ++ (rc7 a (Q_t_5 0) Q_t_5_0 z_t_5_0 ++ (rc0 a (Q_t_5 1) Q_t_5_1 z_t_5_1 ++ (rc1 a (Q_t 10) Q_t_10 z11))))) H := hP
            have hD : va_D A (rc8 a q_t Q_t z_t ++ (rc5 a (Q_t 5) Q_t_5 z_t_5 ++ (rc7 a (Q_t_5 0) Q_t_5_0 z_t_5_0 ++ (rc0 a (Q_t_5 1) Q_t_5_1 z_t_5_1 ++ (rc1 a (Q_t 10) Q_t_10 z11))))) := hD
            refine lv_iload_n hx hb dX8_master_64 rfl (lv_at hl 2 rfl) ?_
            refine lv_iconst (v := 2) hx hb dX8_master_65 (by decide) ?_
            refine lv_icmp_ne (tgt := 80) hx hb dX8_master_66 (by decide) (fun c12 => ?_) (fun c12 => ?_)
            · have h := ite_f c12 h
              refine lv_aload_n hx hb dX8_master_80 rfl (lv_at hl 0 rfl) ?_
              refine va_get (D := D) (v := .ref (Q_t 10)) (C := RX8) (T := TX8) (N := 11) hx hb hts iX8 hown hK.1 hP 0 rfl rfl 10 (by decide) (hts _ t_310) (fun _ h9 => h9) rfl dX8_master_81 ?_
              refine va_get (D := D) (v := .long (gJ z11 3 0)) (C := RX1) (T := TX1) (N := 4) hx hb hts iX1 hown hK.1 hP 20 rfl rfl 3 (by decide) (hts _ t_290) (fun _ h9 => h9) rfl dX8_master_84 ?_
              refine lv_iload_n hx hb dX8_master_87 rfl (lv_at hl 1 rfl) ?_
              obtain ⟨r14, hc13, h⟩ := bd_some h
              refine cRl (runS (As := [.int x1]) (rest := [.long (gJ z11 3 0)]) C (mX8_hundreds l D a hc13) lk_S_8_249 okN_X8_hundreds ⟨Nat.le_of_ble_eq_true rfl, Nat.le_of_ble_eq_true rfl⟩ ⟨rfl, rfl⟩ (preR hK (P_of_map (wc := []) hP [] rfl)) hl.1 rfl (Nat.le_of_ble_eq_true rfl) dX8_master_88 ⟨Nat.le_of_ble_eq_true rfl, Nat.le_of_ble_eq_true rfl⟩) ?_
              refine lv_iload_n hx hb dX8_master_91 rfl (lv_at hl 2 rfl) ?_
              obtain ⟨r16, hc15, h⟩ := bd_some h
              refine cRl (runS (As := [.long (gJ z11 3 0), .long r14, .int x2]) (rest := []) C (mX8_partOf l D a hc15) lk_S_8_253 okN_X8_partOf ⟨Nat.le_of_ble_eq_true rfl, Nat.le_of_ble_eq_true rfl⟩ ⟨rfl, rfl⟩ (preR hK (P_of_map (wc := []) hP [] rfl)) hl.1 rfl (Nat.le_of_ble_eq_true rfl) dX8_master_92 ⟨Nat.le_of_ble_eq_true rfl, Nat.le_of_ble_eq_true rfl⟩) ?_
              exact rMl C rfl h (g := fun y => rc8 a q_t Q_t z_t ++ (rc5 a (Q_t 5) Q_t_5 z_t_5 ++ (rc7 a (Q_t_5 0) Q_t_5_0 z_t_5_0 ++ (rc0 a (Q_t_5 1) Q_t_5_1 z_t_5_1 ++ (rc1 a (Q_t 10) Q_t_10 y.2))))) (pr := fun y => y.1) hP hD hS dX8_master_95
            · have h := ite_t c12 h
              refine lv_aload_n hx hb dX8_master_69 rfl (lv_at hl 0 rfl) ?_
              refine va_get (D := D) (v := .ref (Q_t 10)) (C := RX8) (T := TX8) (N := 11) hx hb hts iX8 hown hK.1 hP 0 rfl rfl 10 (by decide) (hts _ t_310) (fun _ h9 => h9) rfl dX8_master_70 ?_
              refine va_get (D := D) (v := .int (gI z11 2)) (C := RX1) (T := TX1) (N := 4) hx hb hts iX1 hown hK.1 hP 20 rfl rfl 2 (by decide) (hts _ t_288) (fun _ h9 => h9) rfl dX8_master_73 ?_
              refine lv_i2l (v := (gI z11 2).toInt64) hx hb dX8_master_76 rfl ?_
              refine lv_goto (tgt := 95) hx hb dX8_master_77 (by decide) ?_
              exact rMl C rfl h (g := fun y => rc8 a q_t Q_t z_t ++ (rc5 a (Q_t 5) Q_t_5 z_t_5 ++ (rc7 a (Q_t_5 0) Q_t_5_0 z_t_5_0 ++ (rc0 a (Q_t_5 1) Q_t_5_1 z_t_5_1 ++ (rc1 a (Q_t 10) Q_t_10 y.2))))) (pr := fun y => y.1) hP hD hS dX8_master_95
          · have h := ite_f c7 h
            refine lv_ldc2 hx hb hown (hts _ t_809) dX8_master_25 ?_
            exact rMl C rfl h (g := fun y => rc8 a q_t Q_t z_t ++ (rc5 a (Q_t 5) Q_t_5 z_t_5 ++ (rc7 a (Q_t_5 0) Q_t_5_0 z_t_5_0 ++ (rc0 a (Q_t_5 1) Q_t_5_1 z_t_5_1 ++ (rc1 a (Q_t 10) Q_t_10 y.2))))) (pr := fun y => y.1) hP hD hS dX8_master_28

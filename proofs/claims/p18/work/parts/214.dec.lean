set_option maxHeartbeats 4000000 in
set_option maxRecDepth 100000 in
theorem mX8_back_none (l : Launch) (D : va_G) (a : Nat → ClassId) {q_t : Nat} {Q_t : Nat → Nat} {z_t : Sx} {B_t_6 : Nat → Option Nat} {x1 : Int32} (hm : B_t_6 x1.toNatClampNeg = none) {y : Int32} (h : fX8_back_none z_t B_t_6 x1 = some y) : CRi l MX8_back 0 0 D a [.ref q_t, .int x1] (rc8 a q_t Q_t z_t ++ (rb5 a (Q_t 6) 4 B_t_6)) (fun r => r = y) := by
  unfold fX8_back_none at h
  refine entR (by decide) (Nat.le_of_ble_eq_true rfl) ?_
  intro p e s m below meth c C hK hP ls hl
  obtain ⟨hx, hb, hml, hown, hts, hr, hlocks, hnm⟩ := id C
  have hb : c.code = cX8_back := hb
  have hown : s.vm.findClass RX8 = some m.cls := hown
  have hl : lv_has ls 3 [(0, .ref q_t), (1, .int x1)] := hl
  refine lv_iload_n hx hb dX8_back_0 rfl (lv_at hl 1 rfl) ?_
  refine lv_if_lt (tgt := 13) hx hb dX8_back_1 (by decide) (fun c1 => ?_) (fun c1 => ?_)
  · have h := ite_t c1 h
    refine lv_iconst (v := (-1)) hx hb dX8_back_13 (by decide) ?_
    exact rRi C rfl (Option.some.inj h) dX8_back_14
  · have h := ite_f c1 h
    refine lv_iload_n hx hb dX8_back_4 rfl (lv_at hl 1 rfl) ?_
    refine lv_aload_n hx hb dX8_back_5 rfl (lv_at hl 0 rfl) ?_
    refine va_get (D := D) (v := .ref (Q_t 6)) (C := RX8) (T := TX8) (N := 11) hx hb hts iX8 hown hK.1 hP 0 rfl rfl 6 (by decide) (hts _ t_306) (fun _ h9 => h9) rfl dX8_back_6 ?_
    refine va_alen (v := 4) hx hb hK.1 hP 2 5 rfl rfl rfl dX8_back_9 ?_
    refine lv_icmp_lt (tgt := 15) hx hb dX8_back_10 (by decide) (fun c2 => ?_) (fun c2 => ?_)
    · have h := ite_t c2 h
      refine lv_aload_n hx hb dX8_back_15 rfl (lv_at hl 0 rfl) ?_
      refine va_get (D := D) (v := .ref (Q_t 6)) (C := RX8) (T := TX8) (N := 11) hx hb hts iX8 hown hK.1 hP 0 rfl rfl 6 (by decide) (hts _ t_306) (fun _ h9 => h9) rfl dX8_back_16 ?_
      refine lv_iload_n hx hb dX8_back_19 rfl (lv_at hl 1 rfl) ?_
      obtain ⟨g3, h⟩ := gd_some h
      refine ald_q hx hb hK.1 hP 2 5 rfl rfl x1.toNatClampNeg (ix_g g3) dX8_back_20 ?_
      rw [hm]
      refine lv_astore_nN (lv' := [(2, .null), (0, .ref q_t), (1, .int x1)]) hx hb dX8_back_21 rfl hl (by decide) rfl (fun ls hl => ?_)
      refine lv_aload_nN hx hb dX8_back_22 rfl (lv_at hl 0 rfl) ?_
      refine lv_ifnonnullN hx hb dX8_back_23 ?_
      refine lv_iconst (v := (-1)) hx hb dX8_back_26 (by decide) ?_
      exact rRi C rfl (Option.some.inj h) dX8_back_27
    · have h := ite_f c2 h
      refine lv_iconst (v := (-1)) hx hb dX8_back_13 (by decide) ?_
      exact rRi C rfl (Option.some.inj h) dX8_back_14

set_option maxHeartbeats 4000000 in
set_option maxRecDepth 100000 in
theorem mX8_back_some (l : Launch) (D : va_G) (a : Nat → ClassId) {q_R : Nat} {q_t : Nat} {Q_t : Nat → Nat} {z_t : Sx} {Q_t_5 : Nat → Nat} {z_t_5 : Sx} {Q_t_5_1 : Nat → Nat} {z_t_5_1 : Sx} {B_t_6 : Nat → Option Nat} {Q_R : Nat → Nat} {z_R : Sx} {Q_R_1 : Nat → Nat} {z_R_1 : Sx} {x1 : Int32} (hm : B_t_6 x1.toNatClampNeg = some q_R) {y : Int32 × Sx × Sx} (h : fX8_back_some z_t z_t_5 z_t_5_1 B_t_6 z_R z_R_1 x1 = some y) (sz : Nat) : CMi (S := Unit) l MX8_back 3 102 0 0 D a [.ref q_t, .int x1] (rc8 a q_t Q_t z_t ++ (rc5 a (Q_t 5) Q_t_5 z_t_5 ++ (rc0 a (Q_t_5 1) Q_t_5_1 z_t_5_1 ++ (rb5 a (Q_t 6) 4 B_t_6 ++ (rc5 a q_R Q_R z_R ++ (rc0 a (Q_R 1) Q_R_1 z_R_1)))))) sz (fun r _ => r = y.1) (fun _ => rc8 a q_t Q_t z_t ++ (rc5 a (Q_t 5) (va_up Q_t_5 0 (Q_R 0)) y.2.1 ++ (rc0 a (Q_t_5 1) Q_t_5_1 y.2.2 ++ (rb5 a (Q_t 6) 4 B_t_6 ++ (rc5 a q_R Q_R z_R ++ (rc0 a (Q_R 1) Q_R_1 z_R_1)))))) := by
  unfold fX8_back_some at h
  refine entMi (by decide) (Nat.le_of_ble_eq_true rfl) ?_
  intro p e s m below meth c C hK A hA hP hD ls hl
  obtain ⟨hx, hb, hml, hown, hts, hr, hlocks, hnm⟩ := id C
  have hb : c.code = cX8_back := hb
  have hown : s.vm.findClass RX8 = some m.cls := hown
  have hS : va_S A s.heap s.heap [] := va_S.rf
  have hl : lv_has ls 3 [(0, .ref q_t), (1, .int x1)] := hl
  refine lv_iload_n hx hb dX8_back_0 rfl (lv_at hl 1 rfl) ?_
  refine lv_if_lt (tgt := 13) hx hb dX8_back_1 (by decide) (fun c1 => ?_) (fun c1 => ?_)
  · have h := ite_t c1 h
    cases h
  · have h := ite_f c1 h
    refine lv_iload_n hx hb dX8_back_4 rfl (lv_at hl 1 rfl) ?_
    refine lv_aload_n hx hb dX8_back_5 rfl (lv_at hl 0 rfl) ?_
    refine va_get (D := D) (v := .ref (Q_t 6)) (C := RX8) (T := TX8) (N := 11) hx hb hts iX8 hown hK.1 hP 0 rfl rfl 6 (by decide) (hts _ t_306) (fun _ h9 => h9) rfl dX8_back_6 ?_
    refine va_alen (v := 4) hx hb hK.1 hP 7 5 rfl rfl rfl dX8_back_9 ?_
    refine lv_icmp_lt (tgt := 15) hx hb dX8_back_10 (by decide) (fun c2 => ?_) (fun c2 => ?_)
    · have h := ite_t c2 h
      refine lv_aload_n hx hb dX8_back_15 rfl (lv_at hl 0 rfl) ?_
      refine va_get (D := D) (v := .ref (Q_t 6)) (C := RX8) (T := TX8) (N := 11) hx hb hts iX8 hown hK.1 hP 0 rfl rfl 6 (by decide) (hts _ t_306) (fun _ h9 => h9) rfl dX8_back_16 ?_
      refine lv_iload_n hx hb dX8_back_19 rfl (lv_at hl 1 rfl) ?_
      obtain ⟨g3, h⟩ := gd_some h
      refine ald_q hx hb hK.1 hP 7 5 rfl rfl x1.toNatClampNeg (ix_g g3) dX8_back_20 ?_
      rw [hm]
      refine lv_astore_n (lv' := [(2, .ref q_R), (0, .ref q_t), (1, .int x1)]) hx hb dX8_back_21 rfl hl (by decide) rfl (fun ls hl => ?_)
      refine lv_aload_n hx hb dX8_back_22 rfl (lv_at hl 0 rfl) ?_
      refine lv_ifnonnull (tgt := 28) hx hb dX8_back_23 (by decide) ?_
      refine lv_aload_n hx hb dX8_back_28 rfl (lv_at hl 1 rfl) ?_
      refine va_get (D := D) (v := .ref (Q_t 5)) (C := RX8) (T := TX8) (N := 11) hx hb hts iX8 hown hK.1 hP 0 rfl rfl 5 (by decide) (hts _ t_305) (fun _ h9 => h9) rfl dX8_back_29 ?_
      refine lv_aload_n hx hb dX8_back_32 rfl (lv_at hl 0 rfl) ?_
      obtain ⟨z5, z6, hc4, h⟩ := bd2_some h
      refine cMv (runV (As := [.ref q_R]) (rest := []) C (mX5_copyFrom l D a (q_t := (Q_t 5)) (q_p1 := q_R) (Q_t := Q_t_5) (Q_t_1 := Q_t_5_1) (Q_p1 := Q_R) (Q_p1_1 := Q_R_1) hc4 s.heap.size) lk_V_8_300 okN_X5_copyFrom ⟨Nat.le_of_ble_eq_true rfl, Nat.le_of_ble_eq_true rfl⟩ ⟨rfl, rfl⟩ (preV (preM hK (P_of_map (wc := rc5 a (Q_t 5) Q_t_5 z_t_5 ++ (rc0 a (Q_t_5 1) Q_t_5_1 z_t_5_1 ++ (rc5 a q_R Q_R z_R ++ (rc0 a (Q_R 1) Q_R_1 z_R_1)))) hP [2, 3, 4, 5, 6, 8, 9, 10, 11, 12] rfl) (hD.sub (ws' := rc5 a (Q_t 5) Q_t_5 z_t_5 ++ (rc0 a (Q_t_5 1) Q_t_5_1 z_t_5_1 ++ (rc5 a q_R Q_R z_R ++ (rc0 a (Q_R 1) Q_R_1 z_R_1)))) [2, 3, 4, 5, 6, 8, 9, 10, 11, 12] (by decide) rfl)) (recvOf hK hP 2 rfl (ci := 5) rfl)) hl.1 rfl (Nat.le_of_ble_eq_true rfl) dX8_back_33 ⟨Nat.le_of_ble_eq_true rfl, Nat.le_of_ble_eq_true rfl⟩) hP hD hS hA [2, 3, 4, 5, 6, 8, 9, 10, 11, 12] [0, 1, 7] [0, 1, 3, 4, 5, 6, 7, 2, 8, 9, 10, 11, 12] rfl rfl (by decide) (by decide) (fw := rc8 a q_t Q_t z_t ++ (rc5 a (Q_t 5) (va_up Q_t_5 0 (Q_R 0)) z5 ++ (rc0 a (Q_t_5 1) Q_t_5_1 z6 ++ (rb5 a (Q_t 6) 4 B_t_6 ++ (rc5 a q_R Q_R z_R ++ (rc0 a (Q_R 1) Q_R_1 z_R_1)))))) rfl (by decide) (fun H locs hP hD hS => ?_)
      have hP : va_P D classes (rc8 a q_t Q_t z_t ++ (rc5 a (Q_t 5) (va_up Q_t_5 0 (Q_R 0)) z5 ++ (rc0 a (Q_t_5 1) Q_t_5_1 z6 ++ (rb5 a (Q_t 6) 4 B_t_6 ++ (rc5 a q_R Q_R z_R ++ (rc0 a (Q_R 1) Q_R_1 z_R_1)))))) H := hP
      have hD : va_D A (rc8 a q_t Q_t z_t ++ (rc5 a (Q_t 5) (va_up Q_t_5 0 (Q_R 0)) z5 ++ (rc0 a (Q_t_5 1) Q_t_5_1 z6 ++ (rb5 a (Q_t 6) 4 B_t_6 ++ (rc5 a q_R Q_R z_R ++ (rc0 a (Q_R 1) Q_R_1 z_R_1)))))) := hD
      refine lv_aload_n hx hb dX8_back_36 rfl (lv_at hl 1 rfl) ?_
      refine va_get (D := D) (v := .ref (Q_t 5)) (C := RX8) (T := TX8) (N := 11) hx hb hts iX8 hown hK.1 hP 0 rfl rfl 5 (by decide) (hts _ t_305) (fun _ h9 => h9) rfl dX8_back_37 ?_
      refine va_get (D := D) (v := .int (gI z5 4)) (C := RX5) (T := TX5) (N := 8) hx hb hts iX5 hown hK.1 hP 2 rfl rfl 4 (by decide) (hts _ t_169) (fun _ h9 => h9) rfl dX8_back_40 ?_
      obtain rfl := Option.some.inj h
      exact retMi C rfl () rfl hP hD hS (Nat.le_refl 0) (Nat.le_refl 0) dX8_back_43
    · have h := ite_f c2 h
      cases h

set_option maxHeartbeats 4000000 in
set_option maxRecDepth 100000 in
theorem mX8_hasWork (l : Launch) (D : va_G) (a : Nat → ClassId) {q_t : Nat} {Q_t : Nat → Nat} {z_t : Sx} {Q_t_5 : Nat → Nat} {z_t_5 : Sx} {Q_t_5_0 : Nat → Nat} {z_t_5_0 : Sx} {y : Int32} (h : fX8_hasWork z_t z_t_5 z_t_5_0 = some y) : CRi l MX8_hasWork 0 0 D a [.ref q_t] (rc8 a q_t Q_t z_t ++ (rc5 a (Q_t 5) Q_t_5 z_t_5 ++ (rc7 a (Q_t_5 0) Q_t_5_0 z_t_5_0))) (fun r => r = y) := by
  unfold fX8_hasWork at h
  refine entR (by decide) (Nat.le_of_ble_eq_true rfl) ?_
  intro p e s m below meth c C hK hP ls hl
  obtain ⟨hx, hb, hml, hown, hts, hr, hlocks, hnm⟩ := id C
  have hb : c.code = cX8_hasWork := hb
  have hown : s.vm.findClass RX8 = some m.cls := hown
  have hl : lv_has ls 1 [(0, .ref q_t)] := hl
  refine lv_aload_n hx hb dX8_hasWork_0 rfl (lv_at hl 0 rfl) ?_
  refine va_get (D := D) (v := .ref (Q_t 5)) (C := RX8) (T := TX8) (N := 11) hx hb hts iX8 hown hK.1 hP 0 rfl rfl 5 (by decide) (hts _ t_305) (fun _ h9 => h9) rfl dX8_hasWork_1 ?_
  refine va_get (D := D) (v := .ref (Q_t_5 0)) (C := RX5) (T := TX5) (N := 8) hx hb hts iX5 hown hK.1 hP 2 rfl rfl 0 (by decide) (hts _ t_161) (fun _ h9 => h9) rfl dX8_hasWork_4 ?_
  refine va_get (D := D) (v := .int (gI z_t_5_0 3)) (C := RX7) (T := TX7) (N := 18) hx hb hts iX7 hown hK.1 hP 5 rfl rfl 3 (by decide) (hts _ t_47) (fun _ h9 => h9) rfl dX8_hasWork_7 ?_
  refine lv_if_le (tgt := 17) hx hb dX8_hasWork_10 (by decide) (fun c1 => ?_) (fun c1 => ?_)
  · have h := ite_t c1 h
    refine lv_iconst (v := 0) hx hb dX8_hasWork_17 (by decide) ?_
    exact rRz C rfl (Or.inl rfl) (Option.some.inj h) dX8_hasWork_18
  · have h := ite_f c1 h
    refine lv_iconst (v := 1) hx hb dX8_hasWork_13 (by decide) ?_
    refine lv_goto (tgt := 18) hx hb dX8_hasWork_14 (by decide) ?_
    exact rRz C rfl (Or.inr rfl) (Option.some.inj h) dX8_hasWork_18

set_option maxHeartbeats 4000000 in
set_option maxRecDepth 100000 in
theorem mX8_best (l : Launch) (D : va_G) (a : Nat → ClassId) {q_t : Nat} {Q_t : Nat → Nat} {z_t : Sx} {Q_t_5 : Nat → Nat} {z_t_5 : Sx} {Q_t_5_0 : Nat → Nat} {z_t_5_0 : Sx} {Q_t_5_1 : Nat → Nat} {z_t_5_1 : Sx} {Q_t_10 : Nat → Nat} {z_t_10 : Sx} {x1 : Int32} {x2 : Int32} {y : Int64 × Sx} (h : fX8_best z_t z_t_5 z_t_5_0 z_t_5_1 z_t_10 x1 x2 = some y) (sz : Nat) : CMl (S := Unit) l MX8_best 37 1128 0 0 D a [.ref q_t, .int x1, .int x2] (rc8 a q_t Q_t z_t ++ (rc5 a (Q_t 5) Q_t_5 z_t_5 ++ (rc7 a (Q_t_5 0) Q_t_5_0 z_t_5_0 ++ (rc0 a (Q_t_5 1) Q_t_5_1 z_t_5_1 ++ (rc1 a (Q_t 10) Q_t_10 z_t_10))))) sz (fun r _ => r = y.1) (fun _ => rc8 a q_t Q_t z_t ++ (rc5 a (Q_t 5) Q_t_5 z_t_5 ++ (rc7 a (Q_t_5 0) Q_t_5_0 z_t_5_0 ++ (rc0 a (Q_t_5 1) Q_t_5_1 z_t_5_1 ++ (rc1 a (Q_t 10) Q_t_10 y.2))))) := by
  unfold fX8_best at h
  refine entMl (by decide) (Nat.le_of_ble_eq_true rfl) ?_
  intro p e s m below meth c C hK A hA hP hD ls hl
  obtain ⟨hx, hb, hml, hown, hts, hr, hlocks, hnm⟩ := id C
  have hb : c.code = cX8_best := hb
  have hown : s.vm.findClass RX8 = some m.cls := hown
  have hS : va_S A s.heap s.heap [] := va_S.rf
  have hl : lv_has ls 4 [(0, .ref q_t), (1, .int x1), (2, .int x2)] := hl
  refine lv_aload_n hx hb dX8_best_0 rfl (lv_at hl 0 rfl) ?_
  obtain ⟨r2, hc1, h⟩ := bd_some h
  refine cRi (runV (As := []) (rest := []) C (mX8_hasWork l D a (q_t := q_t) (Q_t := Q_t) (Q_t_5 := Q_t_5) (Q_t_5_0 := Q_t_5_0) hc1) lk_V_8_213 okN_X8_hasWork ⟨Nat.le_of_ble_eq_true rfl, Nat.le_of_ble_eq_true rfl⟩ ⟨rfl, rfl⟩ (preV (preR hK (P_of_map (wc := rc8 a q_t Q_t z_t ++ (rc5 a (Q_t 5) Q_t_5 z_t_5 ++ (rc7 a (Q_t_5 0) Q_t_5_0 z_t_5_0))) hP [0, 1, 2, 3, 4, 5, 6, 7, 8, 9, 10, 11, 12, 13, 14, 15, 16, 17] rfl)) (recvOf hK hP 0 rfl (ci := 8) rfl)) hl.1 rfl (Nat.le_of_ble_eq_true rfl) dX8_best_1 ⟨Nat.le_of_ble_eq_true rfl, Nat.le_of_ble_eq_true rfl⟩) ?_
  refine lv_if_eq (tgt := 25) hx hb dX8_best_4 (by decide) (fun c3 => ?_) (fun c3 => ?_)
  · have h := ite_t c3 h
    refine lv_ldc2 hx hb hown (hts _ t_753) dX8_best_25 ?_
    obtain rfl := Option.some.inj h
    exact retMl C rfl () rfl hP hD hS (Nat.le_refl 0) (Nat.le_refl 0) dX8_best_28
  · have h := ite_f c3 h
    refine lv_iload_n hx hb dX8_best_7 rfl (lv_at hl 1 rfl) ?_
    refine lv_if_lt (tgt := 25) hx hb dX8_best_8 (by decide) (fun c4 => ?_) (fun c4 => ?_)
    · have h := ite_t c4 h
      refine lv_ldc2 hx hb hown (hts _ t_753) dX8_best_25 ?_
      obtain rfl := Option.some.inj h
      exact retMl C rfl () rfl hP hD hS (Nat.le_refl 0) (Nat.le_refl 0) dX8_best_28
    · have h := ite_f c4 h
      refine lv_iload_n hx hb dX8_best_11 rfl (lv_at hl 1 rfl) ?_
      refine lv_iconst (v := 5) hx hb dX8_best_12 (by decide) ?_
      refine lv_icmp_gt (tgt := 25) hx hb dX8_best_13 (by decide) (fun c5 => ?_) (fun c5 => ?_)
      · have h := ite_t c5 h
        refine lv_ldc2 hx hb hown (hts _ t_753) dX8_best_25 ?_
        obtain rfl := Option.some.inj h
        exact retMl C rfl () rfl hP hD hS (Nat.le_refl 0) (Nat.le_refl 0) dX8_best_28
      · have h := ite_f c5 h
        refine lv_iload_n hx hb dX8_best_16 rfl (lv_at hl 2 rfl) ?_
        refine lv_if_lt (tgt := 25) hx hb dX8_best_17 (by decide) (fun c6 => ?_) (fun c6 => ?_)
        · have h := ite_t c6 h
          refine lv_ldc2 hx hb hown (hts _ t_753) dX8_best_25 ?_
          obtain rfl := Option.some.inj h
          exact retMl C rfl () rfl hP hD hS (Nat.le_refl 0) (Nat.le_refl 0) dX8_best_28
        · have h := ite_f c6 h
          refine lv_iload_n hx hb dX8_best_20 rfl (lv_at hl 2 rfl) ?_
          refine lv_iconst (v := 2) hx hb dX8_best_21 (by decide) ?_
          refine lv_icmp_le (tgt := 29) hx hb dX8_best_22 (by decide) (fun c7 => ?_) (fun c7 => ?_)
          · have h := ite_t c7 h
            refine lv_aload_n hx hb dX8_best_29 rfl (lv_at hl 0 rfl) ?_
            refine va_get (D := D) (v := .ref (Q_t 5)) (C := RX8) (T := TX8) (N := 11) hx hb hts iX8 hown hK.1 hP 0 rfl rfl 5 (by decide) (hts _ t_305) (fun _ h9 => h9) rfl dX8_best_30 ?_
            refine va_get (D := D) (v := .ref (Q_t_5 1)) (C := RX5) (T := TX5) (N := 8) hx hb hts iX5 hown hK.1 hP 2 rfl rfl 1 (by decide) (hts _ t_163) (fun _ h9 => h9) rfl dX8_best_33 ?_
            obtain ⟨r9, hc8, h⟩ := bd_some h
            refine cRi (runV (As := []) (rest := []) C (mX0_gone l D a (q_t := (Q_t_5 1)) (Q_t := Q_t_5_1) hc8) lk_V_8_171 okN_X0_gone ⟨Nat.le_of_ble_eq_true rfl, Nat.le_of_ble_eq_true rfl⟩ ⟨rfl, rfl⟩ (preV (preR hK (P_of_map (wc := rc0 a (Q_t_5 1) Q_t_5_1 z_t_5_1) hP [18, 19] rfl)) (recvOf hK hP 18 rfl (ci := 0) rfl)) hl.1 rfl (Nat.le_of_ble_eq_true rfl) dX8_best_36 ⟨Nat.le_of_ble_eq_true rfl, Nat.le_of_ble_eq_true rfl⟩) ?_
            refine lv_istore_n (lv' := [(3, .int r9), (0, .ref q_t), (1, .int x1), (2, .int x2)]) hx hb dX8_best_39 rfl hl (by decide) rfl (fun ls hl => ?_)
            refine lv_iload_n hx hb dX8_best_40 rfl (lv_at hl 3 rfl) ?_
            refine lv_iconst (v := 2) hx hb dX8_best_41 (by decide) ?_
            refine lv_icmp_ne (tgt := 73) hx hb dX8_best_42 (by decide) (fun c10 => ?_) (fun c10 => ?_)
            · have h := ite_f c10 h
              refine lv_aload_n hx hb dX8_best_73 rfl (lv_at hl 1 rfl) ?_
              refine va_get (D := D) (v := .ref (Q_t 10)) (C := RX8) (T := TX8) (N := 11) hx hb hts iX8 hown hK.1 hP 0 rfl rfl 10 (by decide) (hts _ t_310) (fun _ h9 => h9) rfl dX8_best_74 ?_
              refine lv_aload_n hx hb dX8_best_77 rfl (lv_at hl 1 rfl) ?_
              refine va_get (D := D) (v := .ref (Q_t 5)) (C := RX8) (T := TX8) (N := 11) hx hb hts iX8 hown hK.1 hP 0 rfl rfl 5 (by decide) (hts _ t_305) (fun _ h9 => h9) rfl dX8_best_78 ?_
              refine va_get (D := D) (v := .ref (Q_t_5 0)) (C := RX5) (T := TX5) (N := 8) hx hb hts iX5 hown hK.1 hP 2 rfl rfl 0 (by decide) (hts _ t_161) (fun _ h9 => h9) rfl dX8_best_81 ?_
              refine lv_iload_n hx hb dX8_best_84 rfl (lv_at hl 2 rfl) ?_
              refine lv_iload_n hx hb dX8_best_85 rfl (lv_at hl 0 rfl) ?_
              refine lv_aload_n hx hb dX8_best_86 rfl (lv_at hl 1 rfl) ?_
              refine va_get (D := D) (v := .ref (Q_t 5)) (C := RX8) (T := TX8) (N := 11) hx hb hts iX8 hown hK.1 hP 0 rfl rfl 5 (by decide) (hts _ t_305) (fun _ h9 => h9) rfl dX8_best_87 ?_
              refine va_get (D := D) (v := .ref (Q_t_5 1)) (C := RX5) (T := TX5) (N := 8) hx hb hts iX5 hown hK.1 hP 2 rfl rfl 1 (by decide) (hts _ t_163) (fun _ h9 => h9) rfl dX8_best_90 ?_
              refine va_get (D := D) (v := .int (gI z_t_5_1 0)) (C := RX0) (T := TX0) (N := 6) hx hb hts iX0 hown hK.1 hP 18 rfl rfl 0 (by decide) (hts _ t_132) (fun _ h9 => h9) rfl dX8_best_93 ?_
              obtain ⟨r12, z13, hc11, h⟩ := bd2_some h
              refine cMl (runV (As := [.ref (Q_t_5 0), .int x1, .int r9, .int (gI z_t_5_1 0)]) (rest := []) C (mX1_mostEarned l D a 16 (q_t := (Q_t 10)) (q_p1 := (Q_t_5 0)) (Q_t := Q_t_10) (Q_p1 := Q_t_5_0) hc11 s.heap.size) lk_V_8_266 okN_X1_mostEarned ⟨Nat.le_of_ble_eq_true rfl, Nat.le_of_ble_eq_true rfl⟩ ⟨rfl, rfl⟩ (preV (preM hK (P_of_map (wc := rc1 a (Q_t 10) Q_t_10 z_t_10 ++ (rc7 a (Q_t_5 0) Q_t_5_0 z_t_5_0)) hP [20, 21, 22, 5, 6, 7, 8, 9, 10, 11, 12, 13, 14, 15, 16, 17] rfl) (hD.sub (ws' := rc1 a (Q_t 10) Q_t_10 z_t_10 ++ (rc7 a (Q_t_5 0) Q_t_5_0 z_t_5_0)) [20, 21, 22, 5, 6, 7, 8, 9, 10, 11, 12, 13, 14, 15, 16, 17] (by decide) rfl)) (recvOf hK hP 20 rfl (ci := 1) rfl)) hl.1 rfl (Nat.le_of_ble_eq_true rfl) dX8_best_96 ⟨Nat.le_of_ble_eq_true rfl, Nat.le_of_ble_eq_true rfl⟩) hP hD hS hA [20, 21, 22, 5, 6, 7, 8, 9, 10, 11, 12, 13, 14, 15, 16, 17] [0, 1, 2, 3, 4, 18, 19] [0, 1, 2, 3, 4, 10, 11, 12, 13, 14, 15, 16, 17, 18, 19, 20, 21, 22, 5, 6, 7, 8, 9] rfl rfl (by decide) (by decide) (fw := rc8 a q_t Q_t z_t ++ (rc5 a (Q_t 5) Q_t_5 z_t_5 ++ (rc7 a (Q_t_5 0) Q_t_5_0 z_t_5_0 ++ (rc0 a (Q_t_5 1) Q_t_5_1 z_t_5_1 ++ (rc1 a (Q_t 10) Q_t_10 z13))))) rfl (by decide) (fun H locs hP hD hS => ?_)
              have hP : va_P D classes (rc8 a q_t Q_t z_t ++ (rc5 a (Q_t 5) Q_t_5 z_t_5 ++ (rc7 a (Q_t_5 0) Q_t_5_0 z_t_5_0 ++ (rc0 a (Q_t_5 1) Q_t_5_1 z_t_5_1 ++ (rc1 a (Q_t 10) Q_t_10 z13))))) H := hP
              have hD : va_D A (rc8 a q_t Q_t z_t ++ (rc5 a (Q_t 5) Q_t_5 z_t_5 ++ (rc7 a (Q_t_5 0) Q_t_5_0 z_t_5_0 ++ (rc0 a (Q_t_5 1) Q_t_5_1 z_t_5_1 ++ (rc1 a (Q_t 10) Q_t_10 z13))))) := hD
              refine lv_iload_n hx hb dX8_best_99 rfl (lv_at hl 2 rfl) ?_
              obtain ⟨r15, hc14, h⟩ := bd_some h
              refine cRl (runS (As := [.int x1]) (rest := [.long r12]) C (mX8_hundreds l D a hc14) lk_S_8_249 okN_X8_hundreds ⟨Nat.le_of_ble_eq_true rfl, Nat.le_of_ble_eq_true rfl⟩ ⟨rfl, rfl⟩ (preR hK (P_of_map (wc := []) hP [] rfl)) hl.1 rfl (Nat.le_of_ble_eq_true rfl) dX8_best_100 ⟨Nat.le_of_ble_eq_true rfl, Nat.le_of_ble_eq_true rfl⟩) ?_
              refine lv_iload_n hx hb dX8_best_103 rfl (lv_at hl 3 rfl) ?_
              obtain ⟨r17, hc16, h⟩ := bd_some h
              refine cRl (runS (As := [.long r12, .long r15, .int x2]) (rest := []) C (mX8_partOf l D a hc16) lk_S_8_253 okN_X8_partOf ⟨Nat.le_of_ble_eq_true rfl, Nat.le_of_ble_eq_true rfl⟩ ⟨rfl, rfl⟩ (preR hK (P_of_map (wc := []) hP [] rfl)) hl.1 rfl (Nat.le_of_ble_eq_true rfl) dX8_best_104 ⟨Nat.le_of_ble_eq_true rfl, Nat.le_of_ble_eq_true rfl⟩) ?_
              obtain rfl := Option.some.inj h
              exact retMl C rfl () rfl hP hD hS (Nat.le_refl 0) (Nat.le_refl 0) dX8_best_107
            · have h := ite_t c10 h
              refine lv_aload_n hx hb dX8_best_45 rfl (lv_at hl 1 rfl) ?_
              refine va_get (D := D) (v := .ref (Q_t 10)) (C := RX8) (T := TX8) (N := 11) hx hb hts iX8 hown hK.1 hP 0 rfl rfl 10 (by decide) (hts _ t_310) (fun _ h9 => h9) rfl dX8_best_46 ?_
              refine lv_aload_n hx hb dX8_best_49 rfl (lv_at hl 1 rfl) ?_
              refine va_get (D := D) (v := .ref (Q_t 5)) (C := RX8) (T := TX8) (N := 11) hx hb hts iX8 hown hK.1 hP 0 rfl rfl 5 (by decide) (hts _ t_305) (fun _ h9 => h9) rfl dX8_best_50 ?_
              refine va_get (D := D) (v := .ref (Q_t_5 0)) (C := RX5) (T := TX5) (N := 8) hx hb hts iX5 hown hK.1 hP 2 rfl rfl 0 (by decide) (hts _ t_161) (fun _ h9 => h9) rfl dX8_best_53 ?_
              refine lv_iload_n hx hb dX8_best_56 rfl (lv_at hl 2 rfl) ?_
              refine lv_iload_n hx hb dX8_best_57 rfl (lv_at hl 0 rfl) ?_
              refine lv_aload_n hx hb dX8_best_58 rfl (lv_at hl 1 rfl) ?_
              refine va_get (D := D) (v := .ref (Q_t 5)) (C := RX8) (T := TX8) (N := 11) hx hb hts iX8 hown hK.1 hP 0 rfl rfl 5 (by decide) (hts _ t_305) (fun _ h9 => h9) rfl dX8_best_59 ?_
              refine va_get (D := D) (v := .ref (Q_t_5 1)) (C := RX5) (T := TX5) (N := 8) hx hb hts iX5 hown hK.1 hP 2 rfl rfl 1 (by decide) (hts _ t_163) (fun _ h9 => h9) rfl dX8_best_62 ?_
              refine va_get (D := D) (v := .int (gI z_t_5_1 0)) (C := RX0) (T := TX0) (N := 6) hx hb hts iX0 hown hK.1 hP 18 rfl rfl 0 (by decide) (hts _ t_132) (fun _ h9 => h9) rfl dX8_best_65 ?_
              obtain ⟨r19, z20, hc18, h⟩ := bd2_some h
              refine cMi (runV (As := [.ref (Q_t_5 0), .int x1, .int r9, .int (gI z_t_5_1 0)]) (rest := []) C (mX1_choice l D a (q_t := (Q_t 10)) (q_p1 := (Q_t_5 0)) (Q_t := Q_t_10) (Q_p1 := Q_t_5_0) hc18 s.heap.size) lk_V_8_262 okN_X1_choice ⟨Nat.le_of_ble_eq_true rfl, Nat.le_of_ble_eq_true rfl⟩ ⟨rfl, rfl⟩ (preV (preM hK (P_of_map (wc := rc1 a (Q_t 10) Q_t_10 z_t_10 ++ (rc7 a (Q_t_5 0) Q_t_5_0 z_t_5_0)) hP [20, 21, 22, 5, 6, 7, 8, 9, 10, 11, 12, 13, 14, 15, 16, 17] rfl) (hD.sub (ws' := rc1 a (Q_t 10) Q_t_10 z_t_10 ++ (rc7 a (Q_t_5 0) Q_t_5_0 z_t_5_0)) [20, 21, 22, 5, 6, 7, 8, 9, 10, 11, 12, 13, 14, 15, 16, 17] (by decide) rfl)) (recvOf hK hP 20 rfl (ci := 1) rfl)) hl.1 rfl (Nat.le_of_ble_eq_true rfl) dX8_best_68 ⟨Nat.le_of_ble_eq_true rfl, Nat.le_of_ble_eq_true rfl⟩) hP hD hS hA [20, 21, 22, 5, 6, 7, 8, 9, 10, 11, 12, 13, 14, 15, 16, 17] [0, 1, 2, 3, 4, 18, 19] [0, 1, 2, 3, 4, 10, 11, 12, 13, 14, 15, 16, 17, 18, 19, 20, 21, 22, 5, 6, 7, 8, 9] rfl rfl (by decide) (by decide) (fw := rc8 a q_t Q_t z_t ++ (rc5 a (Q_t 5) Q_t_5 z_t_5 ++ (rc7 a (Q_t_5 0) Q_t_5_0 z_t_5_0 ++ (rc0 a (Q_t_5 1) Q_t_5_1 z_t_5_1 ++ (rc1 a (Q_t 10) Q_t_10 z20))))) rfl (by decide) (fun H locs hP hD hS => ?_)
              have hP : va_P D classes (rc8 a q_t Q_t z_t ++ (rc5 a (Q_t 5) Q_t_5 z_t_5 ++ (rc7 a (Q_t_5 0) Q_t_5_0 z_t_5_0 ++ (rc0 a (Q_t_5 1) Q_t_5_1 z_t_5_1 ++ (rc1 a (Q_t 10) Q_t_10 z20))))) H := hP
              have hD : va_D A (rc8 a q_t Q_t z_t ++ (rc5 a (Q_t 5) Q_t_5 z_t_5 ++ (rc7 a (Q_t_5 0) Q_t_5_0 z_t_5_0 ++ (rc0 a (Q_t_5 1) Q_t_5_1 z_t_5_1 ++ (rc1 a (Q_t 10) Q_t_10 z20))))) := hD
              refine lv_i2l (v := r19.toInt64) hx hb dX8_best_71 rfl ?_
              obtain rfl := Option.some.inj h
              exact retMl C rfl () rfl hP hD hS (Nat.le_refl 0) (Nat.le_refl 0) dX8_best_72
          · have h := ite_f c7 h
            refine lv_ldc2 hx hb hown (hts _ t_753) dX8_best_25 ?_
            obtain rfl := Option.some.inj h
            exact retMl C rfl () rfl hP hD hS (Nat.le_refl 0) (Nat.le_refl 0) dX8_best_28

set_option maxHeartbeats 4000000 in
set_option maxRecDepth 100000 in
theorem wX8_checks_26 {p : Program} {l : Launch} {e : Env} {s : State} {m : MethodId} {below : List Frame} {meth : Method} {c : Code} {D : va_G} {a : Nat → ClassId} {q_t : Nat} {x10 : Int32} {x20 : Int32} {x1 : Int32} {x2 : Int32} (C : Cx p s m #[.ref q_t, .int x10, .int x20] meth c MX8_checks) (hK : KK D a s) {y : Int32} (hP : va_P D classes ([]) s.heap) : ∀ (n : Nat) (x3 : Int32) (ls : Array Slot), lX8_checks_26 x1 x2 n x3 = some y → lv_has ls 4 [(1, .int x1), (2, .int x2), (3, .int x3)] → W p l e (rmM 0 0 0 0) s m #[.ref q_t, .int x10, .int x20] below meth c s.heap [] 0 0 (MQ below (vp_Si (fun r => r = y)) #[.ref q_t, .int x10, .int x20] s 0 0 (fun _ => False)) (F0 m 26 ls []) := by
  obtain ⟨hx, hb, hml, hown, hts, hr, hlocks, hnm⟩ := id C
  have hb : c.code = cX8_checks := hb
  have hown : s.vm.findClass RX8 = some m.cls := hown
  intro n
  induction n with
  | zero => intro x3 ls h; rw [lX8_checks_26] at h; cases h
  | succ n ih =>
    intro x3 ls h hl
    rw [lX8_checks_26] at h
    refine lv_iload_n hx hb dX8_checks_26 rfl (lv_at hl 2 rfl) ?_
    refine lv_bipush (v := 100) hx hb dX8_checks_27 (by decide) ?_
    refine lv_icmp_ge (tgt := 50) hx hb dX8_checks_29 (by decide) (fun c5 => ?_) (fun c5 => ?_)
    · have h := ite_t c5 h
      refine lv_iload_n hx hb dX8_checks_50 rfl (lv_at hl 2 rfl) ?_
      exact rRi C rfl (Option.some.inj h) dX8_checks_51
    · have h := ite_f c5 h
      refine lv_iload_n hx hb dX8_checks_32 rfl (lv_at hl 0 rfl) ?_
      refine lv_bipush (v := 100) hx hb dX8_checks_33 (by decide) ?_
      refine lv_iload_n hx hb dX8_checks_35 rfl (lv_at hl 2 rfl) ?_
      refine lv_isub hx hb dX8_checks_36 ?_
      refine lv_imul hx hb dX8_checks_37 ?_
      refine lv_iload_n hx hb dX8_checks_38 rfl (lv_at hl 1 rfl) ?_
      refine lv_iload_n hx hb dX8_checks_39 rfl (lv_at hl 2 rfl) ?_
      refine lv_imul hx hb dX8_checks_40 ?_
      refine lv_icmp_le (tgt := 50) hx hb dX8_checks_41 (by decide) (fun c6 => ?_) (fun c6 => ?_)
      · have h := ite_t c6 h
        refine lv_iload_n hx hb dX8_checks_50 rfl (lv_at hl 2 rfl) ?_
        exact rRi C rfl (Option.some.inj h) dX8_checks_51
      · have h := ite_f c6 h
        refine lv_iinc (v := x3 + 1) (lv' := [(3, .int (x3 + 1)), (1, .int x1), (2, .int x2)]) hx hb dX8_checks_44 hl (k := 2) rfl rfl (by decide) rfl (fun ls hl => ?_)
        refine lv_goto (tgt := 26) hx hb dX8_checks_47 (by decide) ?_
        exact ih (x3 + 1) ls h (lv_sub hl [1, 2, 0] rfl)

set_option maxHeartbeats 4000000 in
set_option maxRecDepth 100000 in
theorem mX8_checks (l : Launch) (D : va_G) (a : Nat → ClassId) {q_t : Nat} {x1 : Int32} {x2 : Int32} {y : Int32} (h : fX8_checks x1 x2 = some y) : CRi l MX8_checks 0 0 D a [.ref q_t, .int x1, .int x2] ([]) (fun r => r = y) := by
  unfold fX8_checks at h
  refine entR (by decide) (Nat.le_of_ble_eq_true rfl) ?_
  intro p e s m below meth c C hK hP ls hl
  obtain ⟨hx, hb, hml, hown, hts, hr, hlocks, hnm⟩ := id C
  have hb : c.code = cX8_checks := hb
  have hown : s.vm.findClass RX8 = some m.cls := hown
  have hl : lv_has ls 4 [(0, .ref q_t), (1, .int x1), (2, .int x2)] := hl
  refine lv_iload_n hx hb dX8_checks_0 rfl (lv_at hl 1 rfl) ?_
  refine lv_if_lt (tgt := 22) hx hb dX8_checks_1 (by decide) (fun c1 => ?_) (fun c1 => ?_)
  · have h := ite_t c1 h
    refine lv_iconst (v := (-1)) hx hb dX8_checks_22 (by decide) ?_
    exact rRi C rfl (Option.some.inj h) dX8_checks_23
  · have h := ite_f c1 h
    refine lv_iload_n hx hb dX8_checks_4 rfl (lv_at hl 1 rfl) ?_
    refine lv_sipush (v := 9999) hx hb dX8_checks_5 (by decide) ?_
    refine lv_icmp_gt (tgt := 22) hx hb dX8_checks_8 (by decide) (fun c2 => ?_) (fun c2 => ?_)
    · have h := ite_t c2 h
      refine lv_iconst (v := (-1)) hx hb dX8_checks_22 (by decide) ?_
      exact rRi C rfl (Option.some.inj h) dX8_checks_23
    · have h := ite_f c2 h
      refine lv_iload_n hx hb dX8_checks_11 rfl (lv_at hl 2 rfl) ?_
      refine lv_if_lt (tgt := 22) hx hb dX8_checks_12 (by decide) (fun c3 => ?_) (fun c3 => ?_)
      · have h := ite_t c3 h
        refine lv_iconst (v := (-1)) hx hb dX8_checks_22 (by decide) ?_
        exact rRi C rfl (Option.some.inj h) dX8_checks_23
      · have h := ite_f c3 h
        refine lv_iload_n hx hb dX8_checks_15 rfl (lv_at hl 2 rfl) ?_
        refine lv_sipush (v := 9999) hx hb dX8_checks_16 (by decide) ?_
        refine lv_icmp_le (tgt := 24) hx hb dX8_checks_19 (by decide) (fun c4 => ?_) (fun c4 => ?_)
        · have h := ite_t c4 h
          refine lv_iconst (v := 0) hx hb dX8_checks_24 (by decide) ?_
          refine lv_istore_n (lv' := [(3, .int 0), (0, .ref q_t), (1, .int x1), (2, .int x2)]) hx hb dX8_checks_25 rfl hl (by decide) rfl (fun ls hl => ?_)
          refine wX8_checks_26 C hK hP FU 0 ls h (lv_sub hl [2, 3, 0] rfl)
        · have h := ite_f c4 h
          refine lv_iconst (v := (-1)) hx hb dX8_checks_22 (by decide) ?_
          exact rRi C rfl (Option.some.inj h) dX8_checks_23

set_option maxHeartbeats 4000000 in
set_option maxRecDepth 100000 in
theorem mX8_coins (l : Launch) (D : va_G) (a : Nat → ClassId) {q_t : Nat} {Q_t : Nat → Nat} {z_t : Sx} {Q_t_5 : Nat → Nat} {z_t_5 : Sx} {Q_t_5_1 : Nat → Nat} {z_t_5_1 : Sx} {x1 : Int32} {y : Int32} (h : fX8_coins z_t z_t_5 z_t_5_1 x1 = some y) : CRi l MX8_coins 0 0 D a [.ref q_t, .int x1] (rc8 a q_t Q_t z_t ++ (rc5 a (Q_t 5) Q_t_5 z_t_5 ++ (rc0 a (Q_t_5 1) Q_t_5_1 z_t_5_1))) (fun r => r = y) := by
  unfold fX8_coins at h
  refine entR (by decide) (Nat.le_of_ble_eq_true rfl) ?_
  intro p e s m below meth c C hK hP ls hl
  obtain ⟨hx, hb, hml, hown, hts, hr, hlocks, hnm⟩ := id C
  have hb : c.code = cX8_coins := hb
  have hown : s.vm.findClass RX8 = some m.cls := hown
  have hl : lv_has ls 2 [(0, .ref q_t), (1, .int x1)] := hl
  refine lv_iload_n hx hb dX8_coins_0 rfl (lv_at hl 1 rfl) ?_
  by_cases c1_0 : x1 = 0
  · have h := ite_t c1_0 h
    refine lv_tableIn (off := 27) (tgt := 28) hx hb dX8_coins_1 (by rw [c1_0]; decide) (by rw [c1_0]; decide) (by rw [c1_0]; decide) (by decide) ?_
    refine lv_aload_n hx hb dX8_coins_28 rfl (lv_at hl 0 rfl) ?_
    refine va_get (D := D) (v := .ref (Q_t 5)) (C := RX8) (T := TX8) (N := 11) hx hb hts iX8 hown hK.1 hP 0 rfl rfl 5 (by decide) (hts _ t_305) (fun _ h9 => h9) rfl dX8_coins_29 ?_
    refine va_get (D := D) (v := .ref (Q_t_5 1)) (C := RX5) (T := TX5) (N := 8) hx hb hts iX5 hown hK.1 hP 2 rfl rfl 1 (by decide) (hts _ t_163) (fun _ h9 => h9) rfl dX8_coins_32 ?_
    refine va_get (D := D) (v := .int (gI z_t_5_1 1)) (C := RX0) (T := TX0) (N := 6) hx hb hts iX0 hown hK.1 hP 5 rfl rfl 1 (by decide) (hts _ t_135) (fun _ h9 => h9) rfl dX8_coins_35 ?_
    exact rRi C rfl (Option.some.inj h) dX8_coins_38
  have h := ite_f c1_0 h
  by_cases c1_1 : x1 = 1
  · have h := ite_t c1_1 h
    refine lv_tableIn (off := 38) (tgt := 39) hx hb dX8_coins_1 (by rw [c1_1]; decide) (by rw [c1_1]; decide) (by rw [c1_1]; decide) (by decide) ?_
    refine lv_aload_n hx hb dX8_coins_39 rfl (lv_at hl 0 rfl) ?_
    refine va_get (D := D) (v := .ref (Q_t 5)) (C := RX8) (T := TX8) (N := 11) hx hb hts iX8 hown hK.1 hP 0 rfl rfl 5 (by decide) (hts _ t_305) (fun _ h9 => h9) rfl dX8_coins_40 ?_
    refine va_get (D := D) (v := .int (gI z_t_5 2)) (C := RX5) (T := TX5) (N := 8) hx hb hts iX5 hown hK.1 hP 2 rfl rfl 2 (by decide) (hts _ t_165) (fun _ h9 => h9) rfl dX8_coins_43 ?_
    exact rRi C rfl (Option.some.inj h) dX8_coins_46
  have h := ite_f c1_1 h
  by_cases c1_2 : x1 = 2
  · have h := ite_t c1_2 h
    refine lv_tableIn (off := 46) (tgt := 47) hx hb dX8_coins_1 (by rw [c1_2]; decide) (by rw [c1_2]; decide) (by rw [c1_2]; decide) (by decide) ?_
    refine lv_aload_n hx hb dX8_coins_47 rfl (lv_at hl 0 rfl) ?_
    refine va_get (D := D) (v := .ref (Q_t 5)) (C := RX8) (T := TX8) (N := 11) hx hb hts iX8 hown hK.1 hP 0 rfl rfl 5 (by decide) (hts _ t_305) (fun _ h9 => h9) rfl dX8_coins_48 ?_
    refine va_get (D := D) (v := .int (gI z_t_5 3)) (C := RX5) (T := TX5) (N := 8) hx hb hts iX5 hown hK.1 hP 2 rfl rfl 3 (by decide) (hts _ t_167) (fun _ h9 => h9) rfl dX8_coins_51 ?_
    exact rRi C rfl (Option.some.inj h) dX8_coins_54
  have h := ite_f c1_2 h
  refine lv_tableOut (tgt := 55) hx hb dX8_coins_1 (by have := lv_neT c1_0 (show (0 : Int32).toInt = 0 by decide); have := lv_neT c1_1 (show (1 : Int32).toInt = 1 by decide); have := lv_neT c1_2 (show (2 : Int32).toInt = 2 by decide); omega) (by decide) ?_
  refine lv_ldc hx hb hown (hts _ t_640) dX8_coins_55 ?_
  exact rRi C rfl (Option.some.inj h) dX8_coins_57

set_option maxHeartbeats 4000000 in
set_option maxRecDepth 100000 in
theorem mX9_count (l : Launch) (D : va_G) (a : Nat → ClassId) {q_t : Nat} {Q_t : Nat → Nat} {z_t : Sx} {x1 : Int32} {y : Int32} (h : fX9_count z_t x1 = some y) : CRi l MX9_count 2 45 D a [.ref q_t, .int x1] (rc9 a q_t Q_t z_t) (fun r => r = y) := by
  unfold fX9_count at h
  refine entR (by decide) (Nat.le_of_ble_eq_true rfl) ?_
  intro p e s m below meth c C hK hP ls hl
  obtain ⟨hx, hb, hml, hown, hts, hr, hlocks, hnm⟩ := id C
  have hb : c.code = cX9_count := hb
  have hown : s.vm.findClass RX9 = some m.cls := hown
  have hl : lv_has ls 2 [(0, .ref q_t), (1, .int x1)] := hl
  refine lv_iload_n hx hb dX9_count_0 rfl (lv_at hl 1 rfl) ?_
  by_cases c1_0 : x1 = 0
  · have h := ite_t c1_0 h
    refine lv_tableIn (off := 59) (tgt := 60) hx hb dX9_count_1 (by rw [c1_0]; decide) (by rw [c1_0]; decide) (by rw [c1_0]; decide) (by decide) ?_
    refine lv_aload_n hx hb dX9_count_60 rfl (lv_at hl 0 rfl) ?_
    refine va_get (D := D) (v := .ref (Q_t 24)) (C := RX9) (T := TX9) (N := 36) hx hb hts iX9 hown hK.1 hP 0 rfl rfl 24 (by decide) (hts _ t_906) (fun _ h9 => h9) rfl dX9_count_61 ?_
    refine lv_iload_n hx hb dX9_count_64 rfl (lv_at hl 1 rfl) ?_
    obtain ⟨g2, h⟩ := gd_some h
    refine ald_i hx hb hK.1 hP 11 0 rfl rfl x1.toNatClampNeg (ix_g g2) dX9_count_65 ?_
    exact rRi C rfl (Option.some.inj h) dX9_count_66
  have h := ite_f c1_0 h
  by_cases c1_1 : x1 = 1
  · have h := ite_t c1_1 h
    refine lv_tableIn (off := 59) (tgt := 60) hx hb dX9_count_1 (by rw [c1_1]; decide) (by rw [c1_1]; decide) (by rw [c1_1]; decide) (by decide) ?_
    refine lv_aload_n hx hb dX9_count_60 rfl (lv_at hl 0 rfl) ?_
    refine va_get (D := D) (v := .ref (Q_t 24)) (C := RX9) (T := TX9) (N := 36) hx hb hts iX9 hown hK.1 hP 0 rfl rfl 24 (by decide) (hts _ t_906) (fun _ h9 => h9) rfl dX9_count_61 ?_
    refine lv_iload_n hx hb dX9_count_64 rfl (lv_at hl 1 rfl) ?_
    obtain ⟨g3, h⟩ := gd_some h
    refine ald_i hx hb hK.1 hP 11 0 rfl rfl x1.toNatClampNeg (ix_g g3) dX9_count_65 ?_
    exact rRi C rfl (Option.some.inj h) dX9_count_66
  have h := ite_f c1_1 h
  by_cases c1_2 : x1 = 2
  · have h := ite_t c1_2 h
    refine lv_tableIn (off := 66) (tgt := 67) hx hb dX9_count_1 (by rw [c1_2]; decide) (by rw [c1_2]; decide) (by rw [c1_2]; decide) (by decide) ?_
    refine lv_aload_n hx hb dX9_count_67 rfl (lv_at hl 0 rfl) ?_
    refine va_get (D := D) (v := .int (gI z_t 2)) (C := RX9) (T := TX9) (N := 36) hx hb hts iX9 hown hK.1 hP 0 rfl rfl 2 (by decide) (hts _ t_884) (fun _ h9 => h9) rfl dX9_count_68 ?_
    exact rRi C rfl (Option.some.inj h) dX9_count_71
  have h := ite_f c1_2 h
  by_cases c1_3 : x1 = 3
  · have h := ite_t c1_3 h
    refine lv_tableIn (off := 71) (tgt := 72) hx hb dX9_count_1 (by rw [c1_3]; decide) (by rw [c1_3]; decide) (by rw [c1_3]; decide) (by decide) ?_
    refine lv_aload_n hx hb dX9_count_72 rfl (lv_at hl 0 rfl) ?_
    refine va_get (D := D) (v := .ref (Q_t 24)) (C := RX9) (T := TX9) (N := 36) hx hb hts iX9 hown hK.1 hP 0 rfl rfl 24 (by decide) (hts _ t_906) (fun _ h9 => h9) rfl dX9_count_73 ?_
    refine lv_iconst (v := 3) hx hb dX9_count_76 (by decide) ?_
    refine ald_i hx hb hK.1 hP 11 0 rfl rfl 3 (ix_lit (by decide)) dX9_count_77 ?_
    exact rRi C rfl (Option.some.inj h) dX9_count_78
  have h := ite_f c1_3 h
  by_cases c1_4 : x1 = 4
  · have h := ite_t c1_4 h
    refine lv_tableIn (off := 78) (tgt := 79) hx hb dX9_count_1 (by rw [c1_4]; decide) (by rw [c1_4]; decide) (by rw [c1_4]; decide) (by decide) ?_
    refine lv_aload_n hx hb dX9_count_79 rfl (lv_at hl 0 rfl) ?_
    refine lv_iconst (v := 1) hx hb dX9_count_80 (by decide) ?_
    obtain ⟨r5, hc4, h⟩ := bd_some h
    refine cRi (runV (As := [.int 1]) (rest := []) C (mX9_thatAre l D a (q_t := q_t) (Q_t := Q_t) hc4) lk_V_9_313 okN_X9_thatAre ⟨Nat.le_of_ble_eq_true rfl, Nat.le_of_ble_eq_true rfl⟩ ⟨rfl, rfl⟩ (preV (preR hK hP) (recvOf hK hP 0 rfl (ci := 9) rfl)) hl.1 rfl (Nat.le_of_ble_eq_true rfl) dX9_count_81 ⟨Nat.le_of_ble_eq_true rfl, Nat.le_of_ble_eq_true rfl⟩) ?_
    obtain ⟨r7, hc6, h⟩ := bd_some h
    refine cRi (runS (As := [.int r5]) (rest := []) C (mX9_bits l D a hc6) lk_S_9_316 okN_X9_bits ⟨Nat.le_of_ble_eq_true rfl, Nat.le_of_ble_eq_true rfl⟩ ⟨rfl, rfl⟩ (preR hK (P_of_map (wc := []) hP [] rfl)) hl.1 rfl (Nat.le_of_ble_eq_true rfl) dX9_count_84 ⟨Nat.le_of_ble_eq_true rfl, Nat.le_of_ble_eq_true rfl⟩) ?_
    exact rRi C rfl (Option.some.inj h) dX9_count_87
  have h := ite_f c1_4 h
  by_cases c1_5 : x1 = 5
  · have h := ite_t c1_5 h
    refine lv_tableIn (off := 87) (tgt := 88) hx hb dX9_count_1 (by rw [c1_5]; decide) (by rw [c1_5]; decide) (by rw [c1_5]; decide) (by decide) ?_
    refine lv_aload_n hx hb dX9_count_88 rfl (lv_at hl 0 rfl) ?_
    refine lv_iconst (v := 2) hx hb dX9_count_89 (by decide) ?_
    obtain ⟨r9, hc8, h⟩ := bd_some h
    refine cRi (runV (As := [.int 2]) (rest := []) C (mX9_thatAre l D a (q_t := q_t) (Q_t := Q_t) hc8) lk_V_9_313 okN_X9_thatAre ⟨Nat.le_of_ble_eq_true rfl, Nat.le_of_ble_eq_true rfl⟩ ⟨rfl, rfl⟩ (preV (preR hK hP) (recvOf hK hP 0 rfl (ci := 9) rfl)) hl.1 rfl (Nat.le_of_ble_eq_true rfl) dX9_count_90 ⟨Nat.le_of_ble_eq_true rfl, Nat.le_of_ble_eq_true rfl⟩) ?_
    obtain ⟨r11, hc10, h⟩ := bd_some h
    refine cRi (runS (As := [.int r9]) (rest := []) C (mX9_bits l D a hc10) lk_S_9_316 okN_X9_bits ⟨Nat.le_of_ble_eq_true rfl, Nat.le_of_ble_eq_true rfl⟩ ⟨rfl, rfl⟩ (preR hK (P_of_map (wc := []) hP [] rfl)) hl.1 rfl (Nat.le_of_ble_eq_true rfl) dX9_count_93 ⟨Nat.le_of_ble_eq_true rfl, Nat.le_of_ble_eq_true rfl⟩) ?_
    exact rRi C rfl (Option.some.inj h) dX9_count_96
  have h := ite_f c1_5 h
  by_cases c1_6 : x1 = 6
  · have h := ite_t c1_6 h
    refine lv_tableIn (off := 96) (tgt := 97) hx hb dX9_count_1 (by rw [c1_6]; decide) (by rw [c1_6]; decide) (by rw [c1_6]; decide) (by decide) ?_
    refine lv_aload_n hx hb dX9_count_97 rfl (lv_at hl 0 rfl) ?_
    refine va_get (D := D) (v := .ref (Q_t 24)) (C := RX9) (T := TX9) (N := 36) hx hb hts iX9 hown hK.1 hP 0 rfl rfl 24 (by decide) (hts _ t_906) (fun _ h9 => h9) rfl dX9_count_98 ?_
    refine lv_bipush (v := 8) hx hb dX9_count_101 (by decide) ?_
    refine ald_i hx hb hK.1 hP 11 0 rfl rfl 8 (ix_lit (by decide)) dX9_count_103 ?_
    exact rRi C rfl (Option.some.inj h) dX9_count_104
  have h := ite_f c1_6 h
  by_cases c1_7 : x1 = 7
  · have h := ite_t c1_7 h
    refine lv_tableIn (off := 104) (tgt := 105) hx hb dX9_count_1 (by rw [c1_7]; decide) (by rw [c1_7]; decide) (by rw [c1_7]; decide) (by decide) ?_
    refine lv_aload_n hx hb dX9_count_105 rfl (lv_at hl 0 rfl) ?_
    refine va_get (D := D) (v := .ref (Q_t 24)) (C := RX9) (T := TX9) (N := 36) hx hb hts iX9 hown hK.1 hP 0 rfl rfl 24 (by decide) (hts _ t_906) (fun _ h9 => h9) rfl dX9_count_106 ?_
    refine lv_bipush (v := 9) hx hb dX9_count_109 (by decide) ?_
    refine ald_i hx hb hK.1 hP 11 0 rfl rfl 9 (ix_lit (by decide)) dX9_count_111 ?_
    exact rRi C rfl (Option.some.inj h) dX9_count_112
  have h := ite_f c1_7 h
  by_cases c1_8 : x1 = 8
  · have h := ite_t c1_8 h
    refine lv_tableIn (off := 112) (tgt := 113) hx hb dX9_count_1 (by rw [c1_8]; decide) (by rw [c1_8]; decide) (by rw [c1_8]; decide) (by decide) ?_
    refine lv_aload_n hx hb dX9_count_113 rfl (lv_at hl 0 rfl) ?_
    refine va_get (D := D) (v := .int (gI z_t 1)) (C := RX9) (T := TX9) (N := 36) hx hb hts iX9 hown hK.1 hP 0 rfl rfl 1 (by decide) (hts _ t_883) (fun _ h9 => h9) rfl dX9_count_114 ?_
    exact rRi C rfl (Option.some.inj h) dX9_count_117
  have h := ite_f c1_8 h
  by_cases c1_9 : x1 = 9
  · have h := ite_t c1_9 h
    refine lv_tableIn (off := 117) (tgt := 118) hx hb dX9_count_1 (by rw [c1_9]; decide) (by rw [c1_9]; decide) (by rw [c1_9]; decide) (by decide) ?_
    refine lv_aload_n hx hb dX9_count_118 rfl (lv_at hl 0 rfl) ?_
    refine va_get (D := D) (v := .ref (Q_t 24)) (C := RX9) (T := TX9) (N := 36) hx hb hts iX9 hown hK.1 hP 0 rfl rfl 24 (by decide) (hts _ t_906) (fun _ h9 => h9) rfl dX9_count_119 ?_
    refine lv_bipush (v := 7) hx hb dX9_count_122 (by decide) ?_
    refine ald_i hx hb hK.1 hP 11 0 rfl rfl 7 (ix_lit (by decide)) dX9_count_124 ?_
    exact rRi C rfl (Option.some.inj h) dX9_count_125
  have h := ite_f c1_9 h
  by_cases c1_10 : x1 = 10
  · have h := ite_t c1_10 h
    refine lv_tableIn (off := 125) (tgt := 126) hx hb dX9_count_1 (by rw [c1_10]; decide) (by rw [c1_10]; decide) (by rw [c1_10]; decide) (by decide) ?_
    refine lv_aload_n hx hb dX9_count_126 rfl (lv_at hl 0 rfl) ?_
    refine va_get (D := D) (v := .ref (Q_t 24)) (C := RX9) (T := TX9) (N := 36) hx hb hts iX9 hown hK.1 hP 0 rfl rfl 24 (by decide) (hts _ t_906) (fun _ h9 => h9) rfl dX9_count_127 ?_
    refine lv_iconst (v := 2) hx hb dX9_count_130 (by decide) ?_
    refine ald_i hx hb hK.1 hP 11 0 rfl rfl 2 (ix_lit (by decide)) dX9_count_131 ?_
    exact rRi C rfl (Option.some.inj h) dX9_count_132
  have h := ite_f c1_10 h
  refine lv_tableOut (tgt := 133) hx hb dX9_count_1 (by have := lv_neT c1_0 (show (0 : Int32).toInt = 0 by decide); have := lv_neT c1_1 (show (1 : Int32).toInt = 1 by decide); have := lv_neT c1_2 (show (2 : Int32).toInt = 2 by decide); have := lv_neT c1_3 (show (3 : Int32).toInt = 3 by decide); have := lv_neT c1_4 (show (4 : Int32).toInt = 4 by decide); have := lv_neT c1_5 (show (5 : Int32).toInt = 5 by decide); have := lv_neT c1_6 (show (6 : Int32).toInt = 6 by decide); have := lv_neT c1_7 (show (7 : Int32).toInt = 7 by decide); have := lv_neT c1_8 (show (8 : Int32).toInt = 8 by decide); have := lv_neT c1_9 (show (9 : Int32).toInt = 9 by decide); have := lv_neT c1_10 (show (10 : Int32).toInt = 10 by decide); omega) (by decide) ?_
  refine lv_iconst (v := (-1)) hx hb dX9_count_133 (by decide) ?_
  exact rRi C rfl (Option.some.inj h) dX9_count_134

set_option maxHeartbeats 4000000 in
set_option maxRecDepth 100000 in
theorem mX9_dawn (l : Launch) (D : va_G) (a : Nat → ClassId) {q_t : Nat} {Q_t : Nat → Nat} {z_t : Sx} {y : Int32 × Sx} (h : fX9_dawn z_t = some y) (sz : Nat) : CMi (S := Unit) l MX9_dawn 3 66 0 0 D a [.ref q_t] (rc9 a q_t Q_t z_t) sz (fun r _ => r = y.1) (fun _ => rc9 a q_t Q_t y.2) := by
  unfold fX9_dawn at h
  refine entMi (by decide) (Nat.le_of_ble_eq_true rfl) ?_
  intro p e s m below meth c C hK A hA hP hD ls hl
  obtain ⟨hx, hb, hml, hown, hts, hr, hlocks, hnm⟩ := id C
  have hb : c.code = cX9_dawn := hb
  have hown : s.vm.findClass RX9 = some m.cls := hown
  have hS : va_S A s.heap s.heap [] := va_S.rf
  have hl : lv_has ls 1 [(0, .ref q_t)] := hl
  refine lv_aload_n hx hb dX9_dawn_0 rfl (lv_at hl 0 rfl) ?_
  obtain ⟨r2, hc1, h⟩ := bd_some h
  refine cRi (runV (As := []) (rest := []) C (mX9_isWork l D a (q_t := q_t) (Q_t := Q_t) hc1) lk_V_9_301 okN_X9_isWork ⟨Nat.le_of_ble_eq_true rfl, Nat.le_of_ble_eq_true rfl⟩ ⟨rfl, rfl⟩ (preV (preR hK hP) (recvOf hK hP 0 rfl (ci := 9) rfl)) hl.1 rfl (Nat.le_of_ble_eq_true rfl) dX9_dawn_1 ⟨Nat.le_of_ble_eq_true rfl, Nat.le_of_ble_eq_true rfl⟩) ?_
  refine lv_if_ne (tgt := 11) hx hb dX9_dawn_4 (by decide) (fun c3 => ?_) (fun c3 => ?_)
  · have h := ite_f c3 h
    refine lv_aload_n hx hb dX9_dawn_11 rfl (lv_at hl 0 rfl) ?_
    refine va_get (D := D) (v := .ref (Q_t 24)) (C := RX9) (T := TX9) (N := 36) hx hb hts iX9 hown hK.1 hP 0 rfl rfl 24 (by decide) (hts _ t_906) (fun _ h9 => h9) rfl dX9_dawn_12 ?_
    refine lv_iconst (v := 5) hx hb dX9_dawn_15 (by decide) ?_
    refine lv_dup2_11 hx hb dX9_dawn_16 rfl rfl ?_
    refine ald_i hx hb hK.1 hP 11 0 rfl rfl 5 (ix_lit (by decide)) dX9_dawn_17 ?_
    refine lv_aload_n hx hb dX9_dawn_18 rfl (lv_at hl 0 rfl) ?_
    obtain ⟨r5, hc4, h⟩ := bd_some h
    refine cRi (runV (As := []) (rest := [.int (gT z_t 24 5), .int 5, .ref (Q_t 24)]) C (mX9_hidden l D a (q_t := q_t) (Q_t := Q_t) hc4) lk_V_9_307 okN_X9_hidden ⟨Nat.le_of_ble_eq_true rfl, Nat.le_of_ble_eq_true rfl⟩ ⟨rfl, rfl⟩ (preV (preR hK hP) (recvOf hK hP 0 rfl (ci := 9) rfl)) hl.1 rfl (Nat.le_of_ble_eq_true rfl) dX9_dawn_19 ⟨Nat.le_of_ble_eq_true rfl, Nat.le_of_ble_eq_true rfl⟩) ?_
    refine lv_iadd hx hb dX9_dawn_22 ?_
    refine ast_i hx hb hK.1 hP hD hS 11 0 rfl rfl 5 (ix_lit (by decide)) dX9_dawn_23 (fun H locs hP hD hS => ?_)
    rw [u9_24] at hP hD
    refine lv_aload_n hx hb dX9_dawn_24 rfl (lv_at hl 0 rfl) ?_
    refine va_get (D := D) (v := .ref (Q_t 24)) (C := RX9) (T := TX9) (N := 36) hx hb hts iX9 hown hK.1 hP 0 rfl rfl 24 (by decide) (hts _ t_906) (fun _ h9 => h9) rfl dX9_dawn_25 ?_
    refine lv_bipush (v := 6) hx hb dX9_dawn_28 (by decide) ?_
    refine lv_dup2_11 hx hb dX9_dawn_30 rfl rfl ?_
    refine ald_i hx hb hK.1 hP 11 0 rfl rfl 6 (ix_lit (by decide)) dX9_dawn_31 ?_
    refine lv_aload_n hx hb dX9_dawn_32 rfl (lv_at hl 0 rfl) ?_
    refine va_get (D := D) (v := .ref (Q_t 24)) (C := RX9) (T := TX9) (N := 36) hx hb hts iX9 hown hK.1 hP 0 rfl rfl 24 (by decide) (hts _ t_906) (fun _ h9 => h9) rfl dX9_dawn_33 ?_
    refine lv_iconst (v := 4) hx hb dX9_dawn_36 (by decide) ?_
    refine ald_i hx hb hK.1 hP 11 0 rfl rfl 4 (ix_lit (by decide)) dX9_dawn_37 ?_
    refine lv_iadd hx hb dX9_dawn_38 ?_
    refine lv_topi (fun v6 ev6 => ?_)
    have h := nm_some h v6 ev6
    refine ast_i hx hb hK.1 hP hD hS 11 0 rfl rfl 6 (ix_lit (by decide)) dX9_dawn_39 (fun H locs hP hD hS => ?_)
    rw [u9_24] at hP hD
    refine lv_aload_n hx hb dX9_dawn_40 rfl (lv_at hl 0 rfl) ?_
    refine va_get (D := D) (v := .ref (Q_t 24)) (C := RX9) (T := TX9) (N := 36) hx hb hts iX9 hown hK.1 hP 0 rfl rfl 24 (by decide) (hts _ t_906) (fun _ h9 => h9) rfl dX9_dawn_41 ?_
    refine lv_bipush (v := 7) hx hb dX9_dawn_44 (by decide) ?_
    refine lv_dup2_11 hx hb dX9_dawn_46 rfl rfl ?_
    refine ald_i hx hb hK.1 hP 11 0 rfl rfl 7 (ix_lit (by decide)) dX9_dawn_47 ?_
    refine lv_iconst (v := 1) hx hb dX9_dawn_48 (by decide) ?_
    refine lv_iadd hx hb dX9_dawn_49 ?_
    refine lv_topi (fun v7 ev7 => ?_)
    have h := nm_some h v7 ev7
    refine ast_i hx hb hK.1 hP hD hS 11 0 rfl rfl 7 (ix_lit (by decide)) dX9_dawn_50 (fun H locs hP hD hS => ?_)
    rw [u9_24] at hP hD
    refine lv_aload_n hx hb dX9_dawn_51 rfl (lv_at hl 0 rfl) ?_
    obtain ⟨z9, hc8, h⟩ := bd_some h
    refine cWv (runV (As := []) (rest := []) C (mX9_begins l D a (q_t := q_t) (Q_t := Q_t) hc8 H.size) lk_V_9_310 okN_X9_begins ⟨Nat.le_of_ble_eq_true rfl, Nat.le_of_ble_eq_true rfl⟩ ⟨rfl, rfl⟩ (preV (preM hK hP hD) (recvOf hK hP 0 rfl (ci := 9) rfl)) hl.1 rfl (Nat.le_of_ble_eq_true rfl) dX9_dawn_52 ⟨Nat.le_of_ble_eq_true rfl, Nat.le_of_ble_eq_true rfl⟩) hP hD hS hA (fun H locs hP hD hS => ?_)
    have hP : va_P D classes (rc9 a q_t Q_t z9) H := hP
    have hD : va_D A (rc9 a q_t Q_t z9) := hD
    refine lv_aload_n hx hb dX9_dawn_55 rfl (lv_at hl 0 rfl) ?_
    refine va_get (D := D) (v := .ref (Q_t 24)) (C := RX9) (T := TX9) (N := 36) hx hb hts iX9 hown hK.1 hP 0 rfl rfl 24 (by decide) (hts _ t_906) (fun _ h9 => h9) rfl dX9_dawn_56 ?_
    refine lv_iconst (v := 5) hx hb dX9_dawn_59 (by decide) ?_
    refine ald_i hx hb hK.1 hP 11 0 rfl rfl 5 (ix_lit (by decide)) dX9_dawn_60 ?_
    exact rMi C rfl h (g := fun y => rc9 a q_t Q_t y.2) (pr := fun y => y.1) hP hD hS dX9_dawn_61
  · have h := ite_t c3 h
    refine lv_ldcw hx hb hown (hts _ t_1199) dX9_dawn_7 ?_
    exact rMi C rfl h (g := fun y => rc9 a q_t Q_t y.2) (pr := fun y => y.1) hP hD hS dX9_dawn_10

set_option maxHeartbeats 4000000 in
set_option maxRecDepth 100000 in
theorem mX9_isRule (l : Launch) (D : va_G) (a : Nat → ClassId) {q_t : Nat} {Q_t : Nat → Nat} {z_t : Sx} {x1 : Int32} {y : Int32} (h : fX9_isRule z_t x1 = some y) : CRi l MX9_isRule 0 0 D a [.ref q_t, .int x1] (rc9 a q_t Q_t z_t) (fun r => r = y) := by
  unfold fX9_isRule at h
  refine entR (by decide) (Nat.le_of_ble_eq_true rfl) ?_
  intro p e s m below meth c C hK hP ls hl
  obtain ⟨hx, hb, hml, hown, hts, hr, hlocks, hnm⟩ := id C
  have hb : c.code = cX9_isRule := hb
  have hown : s.vm.findClass RX9 = some m.cls := hown
  have hl : lv_has ls 2 [(0, .ref q_t), (1, .int x1)] := hl
  refine lv_iload_n hx hb dX9_isRule_0 rfl (lv_at hl 1 rfl) ?_
  refine lv_if_lt (tgt := 16) hx hb dX9_isRule_1 (by decide) (fun c1 => ?_) (fun c1 => ?_)
  · have h := ite_t c1 h
    refine lv_iconst (v := 0) hx hb dX9_isRule_16 (by decide) ?_
    exact rRz C rfl (Or.inl rfl) (Option.some.inj h) dX9_isRule_17
  · have h := ite_f c1 h
    refine lv_iload_n hx hb dX9_isRule_4 rfl (lv_at hl 1 rfl) ?_
    refine lv_aload_n hx hb dX9_isRule_5 rfl (lv_at hl 0 rfl) ?_
    refine va_get (D := D) (v := .int (gI z_t 2)) (C := RX9) (T := TX9) (N := 36) hx hb hts iX9 hown hK.1 hP 0 rfl rfl 2 (by decide) (hts _ t_884) (fun _ h9 => h9) rfl dX9_isRule_6 ?_
    refine lv_icmp_ge (tgt := 16) hx hb dX9_isRule_9 (by decide) (fun c2 => ?_) (fun c2 => ?_)
    · have h := ite_t c2 h
      refine lv_iconst (v := 0) hx hb dX9_isRule_16 (by decide) ?_
      exact rRz C rfl (Or.inl rfl) (Option.some.inj h) dX9_isRule_17
    · have h := ite_f c2 h
      refine lv_iconst (v := 1) hx hb dX9_isRule_12 (by decide) ?_
      refine lv_goto (tgt := 17) hx hb dX9_isRule_13 (by decide) ?_
      exact rRz C rfl (Or.inr rfl) (Option.some.inj h) dX9_isRule_17

set_option maxHeartbeats 4000000 in
set_option maxRecDepth 100000 in
theorem wX9_stops_7 {p : Program} {l : Launch} {e : Env} {s : State} {m : MethodId} {below : List Frame} {meth : Method} {c : Code} {D : va_G} {a : Nat → ClassId} {A : Nat → Prop} {q_t : Nat} {Q_t : Nat → Nat} {x10 : Int32} {x20 : Int32} {x1 : Int32} (C : Cx p s m #[.ref q_t, .int x10, .int x20] meth c MX9_stops) (hK : KK D a s) (hA : ∀ q, s.heap.size ≤ q → A q) {y : Int32 × Sx} : ∀ (n : Nat) (z_t : Sx) (x3 : Int32) (H : Heap) (locs : List Loc) (ls : Array Slot), lX9_stops_7 x1 n z_t x3 = some y → va_P D classes (rc9 a q_t Q_t z_t) H → va_D A (rc9 a q_t Q_t z_t) → va_S A s.heap H locs → lv_has ls 5 [(0, .ref q_t), (1, .int x1), (3, .int x3)] → W p l e (rmM 3 0 0 66) s m #[.ref q_t, .int x10, .int x20] below meth c H locs 0 0 (MQ below (va_Qi (fun r (_ : Unit) => r = y.1) (Bw D A (fun _ => rc9 a q_t Q_t y.2)) A) #[.ref q_t, .int x10, .int x20] s 0 0 A) (F0 m 7 ls []) := by
  obtain ⟨hx, hb, hml, hown, hts, hr, hlocks, hnm⟩ := id C
  have hb : c.code = cX9_stops := hb
  have hown : s.vm.findClass RX9 = some m.cls := hown
  intro n
  induction n with
  | zero => intro z_t x3 H locs ls h; rw [lX9_stops_7] at h; cases h
  | succ n ih =>
    intro z_t x3 H locs ls h hP hD hS hl
    rw [lX9_stops_7] at h
    refine lv_iload_n hx hb dX9_stops_7 rfl (lv_at hl 2 rfl) ?_
    refine lv_aload_n hx hb dX9_stops_8 rfl (lv_at hl 0 rfl) ?_
    refine va_get (D := D) (v := .ref (Q_t 6)) (C := RX9) (T := TX9) (N := 36) hx hb hts iX9 hown hK.1 hP 0 rfl rfl 6 (by decide) (hts _ t_888) (fun _ h9 => h9) rfl dX9_stops_9 ?_
    refine lv_iload_n hx hb dX9_stops_12 rfl (lv_at hl 1 rfl) ?_
    obtain ⟨g3, h⟩ := gd_some h
    refine ald_i hx hb hK.1 hP 5 0 rfl rfl x1.toNatClampNeg (ix_g g3) dX9_stops_13 ?_
    refine lv_icmp_ge (tgt := 74) hx hb dX9_stops_14 (by decide) (fun c4 => ?_) (fun c4 => ?_)
    · have h := ite_t c4 h
      refine lv_iconst (v := 0) hx hb dX9_stops_74 (by decide) ?_
      exact rMz C rfl (Or.inl rfl) h (g := fun y => rc9 a q_t Q_t y.2) (pr := fun y => y.1) hP hD hS dX9_stops_75
    · have h := ite_f c4 h
      refine lv_bipush (v := 60) hx hb dX9_stops_17 (by decide) ?_
      refine lv_iload_n hx hb dX9_stops_19 rfl (lv_at hl 1 rfl) ?_
      refine lv_imul hx hb dX9_stops_20 ?_
      refine lv_iconst (v := 5) hx hb dX9_stops_21 (by decide) ?_
      refine lv_iload_n hx hb dX9_stops_22 rfl (lv_at hl 2 rfl) ?_
      refine lv_imul hx hb dX9_stops_23 ?_
      refine lv_iadd hx hb dX9_stops_24 ?_
      refine lv_istore (lv' := [(4, .int ((60 * x1) + (5 * x3))), (0, .ref q_t), (1, .int x1), (3, .int x3)]) hx hb dX9_stops_25 hl (by decide) rfl (fun ls hl => ?_)
      refine lv_aload_n hx hb dX9_stops_27 rfl (lv_at hl 1 rfl) ?_
      refine va_get (D := D) (v := .ref (Q_t 5)) (C := RX9) (T := TX9) (N := 36) hx hb hts iX9 hown hK.1 hP 0 rfl rfl 5 (by decide) (hts _ t_887) (fun _ h9 => h9) rfl dX9_stops_28 ?_
      refine lv_iload hx hb dX9_stops_31 (lv_at hl 0 rfl) ?_
      obtain ⟨g5, h⟩ := gd_some h
      refine ald_i hx hb hK.1 hP 4 0 rfl rfl (((60 * x1) + (5 * x3)).toNatClampNeg) (ix_g g5) dX9_stops_33 ?_
      refine lv_iconst (v := 1) hx hb dX9_stops_34 (by decide) ?_
      obtain ⟨J6, eJ6, h⟩ := jn_some h
      have hJ6 : ∀ (z7 : Sx) (H : Heap) (locs : List Loc) (ls : Array Slot), J6 z7 = some y → va_P D classes (rc9 a q_t Q_t z7) H → va_D A (rc9 a q_t Q_t z7) → va_S A s.heap H locs → lv_has ls 5 [(0, .ref q_t), (1, .int x1), (3, .int x3)] → W p l e (rmM 3 0 0 66) s m #[.ref q_t, .int x10, .int x20] below meth c H locs 0 0 (MQ below (va_Qi (fun r (_ : Unit) => r = y.1) (Bw D A (fun _ => rc9 a q_t Q_t y.2)) A) #[.ref q_t, .int x10, .int x20] s 0 0 A) (F0 m 68 ls []) := by
        intro z7 H locs ls h hP hD hS hl
        rw [eJ6] at h
        refine lv_iinc (v := x3 + 1) (lv' := [(3, .int (x3 + 1)), (0, .ref q_t), (1, .int x1)]) hx hb dX9_stops_68 hl (k := 2) rfl rfl (by decide) rfl (fun ls hl => ?_)
        refine lv_goto (tgt := 7) hx hb dX9_stops_71 (by decide) ?_
        exact ih z7 (x3 + 1) _ _ ls h hP hD hS (lv_sub hl [1, 2, 0] rfl)
      refine lv_icmp_ne (tgt := 68) hx hb dX9_stops_35 (by decide) (fun c8 => ?_) (fun c8 => ?_)
      · have h := ite_f c8 h
        exact hJ6 z_t _ _ ls h hP hD hS (lv_sub hl [1, 2, 3] rfl)
      · have h := ite_t c8 h
        refine lv_aload_n hx hb dX9_stops_38 rfl (lv_at hl 1 rfl) ?_
        refine lv_iload_n hx hb dX9_stops_39 rfl (lv_at hl 2 rfl) ?_
        refine lv_aload_n hx hb dX9_stops_40 rfl (lv_at hl 1 rfl) ?_
        refine va_get (D := D) (v := .ref (Q_t 5)) (C := RX9) (T := TX9) (N := 36) hx hb hts iX9 hown hK.1 hP 0 rfl rfl 5 (by decide) (hts _ t_887) (fun _ h9 => h9) rfl dX9_stops_41 ?_
        refine lv_iload hx hb dX9_stops_44 (lv_at hl 0 rfl) ?_
        refine lv_iconst (v := 3) hx hb dX9_stops_46 (by decide) ?_
        refine lv_iadd hx hb dX9_stops_47 ?_
        obtain ⟨g9, h⟩ := gd_some h
        refine ald_i hx hb hK.1 hP 4 0 rfl rfl ((((60 * x1) + (5 * x3)) + 3).toNatClampNeg) (ix_g g9) dX9_stops_48 ?_
        refine lv_aload_n hx hb dX9_stops_49 rfl (lv_at hl 1 rfl) ?_
        refine va_get (D := D) (v := .ref (Q_t 5)) (C := RX9) (T := TX9) (N := 36) hx hb hts iX9 hown hK.1 hP 0 rfl rfl 5 (by decide) (hts _ t_887) (fun _ h9 => h9) rfl dX9_stops_50 ?_
        refine lv_iload hx hb dX9_stops_53 (lv_at hl 0 rfl) ?_
        refine lv_iconst (v := 4) hx hb dX9_stops_55 (by decide) ?_
        refine lv_iadd hx hb dX9_stops_56 ?_
        obtain ⟨g10, h⟩ := gd_some h
        refine ald_i hx hb hK.1 hP 4 0 rfl rfl ((((60 * x1) + (5 * x3)) + 4).toNatClampNeg) (ix_g g10) dX9_stops_57 ?_
        obtain ⟨r12, z13, hc11, h⟩ := bd2_some h
        refine cWl (runV (As := [.int x1, .int (gT z_t 5 ((((60 * x1) + (5 * x3)) + 3).toNatClampNeg)), .int (gT z_t 5 ((((60 * x1) + (5 * x3)) + 4).toNatClampNeg))]) (rest := []) C (mX9_reckons l D a (q_t := q_t) (Q_t := Q_t) hc11 H.size) lk_V_9_322 okN_X9_reckons ⟨Nat.le_of_ble_eq_true rfl, Nat.le_of_ble_eq_true rfl⟩ ⟨rfl, rfl⟩ (preV (preM hK hP hD) (recvOf hK hP 0 rfl (ci := 9) rfl)) hl.1 rfl (Nat.le_of_ble_eq_true rfl) dX9_stops_58 ⟨Nat.le_of_ble_eq_true rfl, Nat.le_of_ble_eq_true rfl⟩) hP hD hS hA (fun H locs hP hD hS => ?_)
        have hP : va_P D classes (rc9 a q_t Q_t z13) H := hP
        have hD : va_D A (rc9 a q_t Q_t z13) := hD
        refine lv_lconst (v := 1) hx hb dX9_stops_61 (by decide) ?_
        refine W.lcmp hx hb dX9_stops_62 ?_
        refine lv_if_ne (tgt := 68) hx hb dX9_stops_63 (by decide) (fun c14 => ?_) (fun c14 => ?_)
        · have h := ite_f (fun q => c14 ((lg_cmp_eq _ _).mpr q)) h
          exact hJ6 z13 _ _ ls h hP hD hS (lv_sub hl [1, 2, 3] rfl)
        · have h := ite_t ((lg_cmp_eq _ _).mp c14) h
          refine lv_iconst (v := 1) hx hb dX9_stops_66 (by decide) ?_
          exact rMz C rfl (Or.inr rfl) h (g := fun y => rc9 a q_t Q_t y.2) (pr := fun y => y.1) hP hD hS dX9_stops_67

set_option maxHeartbeats 4000000 in
set_option maxRecDepth 100000 in
theorem mX9_stops (l : Launch) (D : va_G) (a : Nat → ClassId) {q_t : Nat} {Q_t : Nat → Nat} {z_t : Sx} {x1 : Int32} {x2 : Int32} {y : Int32 × Sx} (h : fX9_stops z_t x1 x2 = some y) (sz : Nat) : CMi (S := Unit) l MX9_stops 3 66 0 0 D a [.ref q_t, .int x1, .int x2] (rc9 a q_t Q_t z_t) sz (fun r _ => r = y.1) (fun _ => rc9 a q_t Q_t y.2) := by
  unfold fX9_stops at h
  refine entMi (by decide) (Nat.le_of_ble_eq_true rfl) ?_
  intro p e s m below meth c C hK A hA hP hD ls hl
  obtain ⟨hx, hb, hml, hown, hts, hr, hlocks, hnm⟩ := id C
  have hb : c.code = cX9_stops := hb
  have hown : s.vm.findClass RX9 = some m.cls := hown
  have hS : va_S A s.heap s.heap [] := va_S.rf
  have hl : lv_has ls 5 [(0, .ref q_t), (1, .int x1), (2, .int x2)] := hl
  refine lv_aload_n hx hb dX9_stops_0 rfl (lv_at hl 0 rfl) ?_
  refine lv_iload_n hx hb dX9_stops_1 rfl (lv_at hl 2 rfl) ?_
  obtain ⟨z2, hc1, h⟩ := bd_some h
  refine cWv (runV (As := [.int x2]) (rest := []) C (mX9_words l D a (q_t := q_t) (Q_t := Q_t) hc1 s.heap.size) lk_V_9_319 okN_X9_words ⟨Nat.le_of_ble_eq_true rfl, Nat.le_of_ble_eq_true rfl⟩ ⟨rfl, rfl⟩ (preV (preM hK hP hD) (recvOf hK hP 0 rfl (ci := 9) rfl)) hl.1 rfl (Nat.le_of_ble_eq_true rfl) dX9_stops_2 ⟨Nat.le_of_ble_eq_true rfl, Nat.le_of_ble_eq_true rfl⟩) hP hD hS hA (fun H locs hP hD hS => ?_)
  have hP : va_P D classes (rc9 a q_t Q_t z2) H := hP
  have hD : va_D A (rc9 a q_t Q_t z2) := hD
  refine lv_iconst (v := 0) hx hb dX9_stops_5 (by decide) ?_
  refine lv_istore_n (lv' := [(3, .int 0), (0, .ref q_t), (1, .int x1), (2, .int x2)]) hx hb dX9_stops_6 rfl hl (by decide) rfl (fun ls hl => ?_)
  refine wX9_stops_7 C hK hA FU z2 0 _ _ ls h hP hD hS (lv_sub hl [1, 2, 0] rfl)

set_option maxHeartbeats 4000000 in
set_option maxRecDepth 100000 in
theorem wX9_nextFor_7 {p : Program} {l : Launch} {e : Env} {s : State} {m : MethodId} {below : List Frame} {meth : Method} {c : Code} {D : va_G} {a : Nat → ClassId} {A : Nat → Prop} {q_t : Nat} {Q_t : Nat → Nat} {x10 : Int32} {x1 : Int32} (C : Cx p s m #[.ref q_t, .int x10] meth c MX9_nextFor) (hK : KK D a s) (hA : ∀ q, s.heap.size ≤ q → A q) {y : Int32 × Sx} {k98 : Sx → Int32 → Option (Int32 × Sx)} (hk98 : ∀ (z_tk : Sx) (x2k : Int32) (H : Heap) (locs : List Loc) (ls : Array Slot), k98 z_tk x2k = some y → va_P D classes (rc9 a q_t Q_t z_tk) H → va_D A (rc9 a q_t Q_t z_tk) → va_S A s.heap H locs → lv_has ls 9 [(0, .ref q_t), (1, .int x1), (2, .int x2k)] → W p l e (rmM 4 0 0 90) s m #[.ref q_t, .int x10] below meth c H locs 0 0 (MQ below (va_Qi (fun r (_ : Unit) => r = y.1) (Bw D A (fun _ => rc9 a q_t Q_t y.2)) A) #[.ref q_t, .int x10] s 0 0 A) (F0 m 98 ls [])) : ∀ (n : Nat) (z_t : Sx) (x2 : Int32) (x3 : Int64) (x5 : Int32) (H : Heap) (locs : List Loc) (ls : Array Slot), lX9_nextFor_7 k98 x1 n z_t x2 x3 x5 = some y → va_P D classes (rc9 a q_t Q_t z_t) H → va_D A (rc9 a q_t Q_t z_t) → va_S A s.heap H locs → lv_has ls 9 [(0, .ref q_t), (1, .int x1), (2, .int x2), (3, .long x3), (5, .int x5)] → W p l e (rmM 4 0 0 90) s m #[.ref q_t, .int x10] below meth c H locs 0 0 (MQ below (va_Qi (fun r (_ : Unit) => r = y.1) (Bw D A (fun _ => rc9 a q_t Q_t y.2)) A) #[.ref q_t, .int x10] s 0 0 A) (F0 m 7 ls []) := by
  obtain ⟨hx, hb, hml, hown, hts, hr, hlocks, hnm⟩ := id C
  have hb : c.code = cX9_nextFor := hb
  have hown : s.vm.findClass RX9 = some m.cls := hown
  intro n
  induction n with
  | zero => intro z_t x2 x3 x5 H locs ls h; rw [lX9_nextFor_7] at h; cases h
  | succ n ih =>
    intro z_t x2 x3 x5 H locs ls h hP hD hS hl
    rw [lX9_nextFor_7] at h
    refine lv_iload hx hb dX9_nextFor_7 (lv_at hl 4 rfl) ?_
    refine lv_aload_n hx hb dX9_nextFor_9 rfl (lv_at hl 0 rfl) ?_
    refine va_get (D := D) (v := .ref (Q_t 24)) (C := RX9) (T := TX9) (N := 36) hx hb hts iX9 hown hK.1 hP 0 rfl rfl 24 (by decide) (hts _ t_906) (fun _ h9 => h9) rfl dX9_nextFor_10 ?_
    refine lv_iconst (v := 0) hx hb dX9_nextFor_13 (by decide) ?_
    refine ald_i hx hb hK.1 hP 11 0 rfl rfl 0 (ix_lit (by decide)) dX9_nextFor_14 ?_
    refine lv_icmp_ge (tgt := 98) hx hb dX9_nextFor_15 (by decide) (fun c1 => ?_) (fun c1 => ?_)
    · have h := ite_t c1 h
      exact hk98 z_t x2 _ _ ls h hP hD hS (lv_sub hl [0, 1, 2] rfl)
    · have h := ite_f c1 h
      refine lv_aload_n hx hb dX9_nextFor_18 rfl (lv_at hl 0 rfl) ?_
      refine lv_iload hx hb dX9_nextFor_19 (lv_at hl 4 rfl) ?_
      obtain ⟨r3, hc2, h⟩ := bd_some h
      refine cRi (runV (As := [.int x5]) (rest := []) C (mX9_canLook l D a (q_t := q_t) (Q_t := Q_t) hc2) lk_V_9_295 okN_X9_canLook ⟨Nat.le_of_ble_eq_true rfl, Nat.le_of_ble_eq_true rfl⟩ ⟨rfl, rfl⟩ (preV (preR hK hP) (recvOf hK hP 0 rfl (ci := 9) rfl)) hl.1 rfl (Nat.le_of_ble_eq_true rfl) dX9_nextFor_21 ⟨Nat.le_of_ble_eq_true rfl, Nat.le_of_ble_eq_true rfl⟩) ?_
      obtain ⟨J4, eJ4, h⟩ := jn_some h
      have hJ4 : ∀ (z5 : Sx) (i6 : Int32) (i7 : Int64) (H : Heap) (locs : List Loc) (ls : Array Slot), J4 z5 i6 i7 = some y → va_P D classes (rc9 a q_t Q_t z5) H → va_D A (rc9 a q_t Q_t z5) → va_S A s.heap H locs → lv_has ls 9 [(0, .ref q_t), (1, .int x1), (2, .int i6), (3, .long i7), (5, .int x5)] → W p l e (rmM 4 0 0 90) s m #[.ref q_t, .int x10] below meth c H locs 0 0 (MQ below (va_Qi (fun r (_ : Unit) => r = y.1) (Bw D A (fun _ => rc9 a q_t Q_t y.2)) A) #[.ref q_t, .int x10] s 0 0 A) (F0 m 92 ls []) := by
        intro z5 i6 i7 H locs ls h hP hD hS hl
        rw [eJ4] at h
        refine lv_iinc (v := x5 + 1) (lv' := [(5, .int (x5 + 1)), (0, .ref q_t), (1, .int x1), (2, .int i6), (3, .long i7)]) hx hb dX9_nextFor_92 hl (k := 4) rfl rfl (by decide) rfl (fun ls hl => ?_)
        refine lv_goto (tgt := 7) hx hb dX9_nextFor_95 (by decide) ?_
        exact ih z5 i6 i7 (x5 + 1) _ _ ls h hP hD hS (lv_sub hl [1, 2, 3, 4, 0] rfl)
      refine lv_if_ne (tgt := 30) hx hb dX9_nextFor_24 (by decide) (fun c8 => ?_) (fun c8 => ?_)
      · have h := ite_f c8 h
        refine lv_aload_n hx hb dX9_nextFor_30 rfl (lv_at hl 0 rfl) ?_
        refine lv_iload_n hx hb dX9_nextFor_31 rfl (lv_at hl 1 rfl) ?_
        refine lv_iload hx hb dX9_nextFor_32 (lv_at hl 4 rfl) ?_
        obtain ⟨r10, z11, hc9, h⟩ := bd2_some h
        refine cWi (runV (As := [.int x1, .int x5]) (rest := []) C (mX9_clauseFor l D a (q_t := q_t) (Q_t := Q_t) hc9 H.size) lk_V_9_326 okN_X9_clauseFor ⟨Nat.le_of_ble_eq_true rfl, Nat.le_of_ble_eq_true rfl⟩ ⟨rfl, rfl⟩ (preV (preM hK hP hD) (recvOf hK hP 0 rfl (ci := 9) rfl)) hl.1 rfl (Nat.le_of_ble_eq_true rfl) dX9_nextFor_34 ⟨Nat.le_of_ble_eq_true rfl, Nat.le_of_ble_eq_true rfl⟩) hP hD hS hA (fun H locs hP hD hS => ?_)
        have hP : va_P D classes (rc9 a q_t Q_t z11) H := hP
        have hD : va_D A (rc9 a q_t Q_t z11) := hD
        refine lv_istore (lv' := [(6, .int r10), (0, .ref q_t), (1, .int x1), (2, .int x2), (3, .long x3), (5, .int x5)]) hx hb dX9_nextFor_37 hl (by decide) rfl (fun ls hl => ?_)
        refine lv_iload hx hb dX9_nextFor_39 (lv_at hl 0 rfl) ?_
        refine lv_if_ge (tgt := 47) hx hb dX9_nextFor_41 (by decide) (fun c12 => ?_) (fun c12 => ?_)
        · have h := ite_t c12 h
          refine lv_aload_n hx hb dX9_nextFor_47 rfl (lv_at hl 1 rfl) ?_
          refine lv_iload_n hx hb dX9_nextFor_48 rfl (lv_at hl 2 rfl) ?_
          refine lv_aload_n hx hb dX9_nextFor_49 rfl (lv_at hl 1 rfl) ?_
          refine va_get (D := D) (v := .ref (Q_t 5)) (C := RX9) (T := TX9) (N := 36) hx hb hts iX9 hown hK.1 hP 0 rfl rfl 5 (by decide) (hts _ t_887) (fun _ h9 => h9) rfl dX9_nextFor_50 ?_
          refine lv_iload hx hb dX9_nextFor_53 (lv_at hl 0 rfl) ?_
          refine lv_iconst (v := 1) hx hb dX9_nextFor_55 (by decide) ?_
          refine lv_iadd hx hb dX9_nextFor_56 ?_
          obtain ⟨g13, h⟩ := gd_some h
          refine ald_i hx hb hK.1 hP 4 0 rfl rfl ((r10 + 1).toNatClampNeg) (ix_g g13) dX9_nextFor_57 ?_
          refine lv_aload_n hx hb dX9_nextFor_58 rfl (lv_at hl 1 rfl) ?_
          refine va_get (D := D) (v := .ref (Q_t 5)) (C := RX9) (T := TX9) (N := 36) hx hb hts iX9 hown hK.1 hP 0 rfl rfl 5 (by decide) (hts _ t_887) (fun _ h9 => h9) rfl dX9_nextFor_59 ?_
          refine lv_iload hx hb dX9_nextFor_62 (lv_at hl 0 rfl) ?_
          refine lv_iconst (v := 2) hx hb dX9_nextFor_64 (by decide) ?_
          refine lv_iadd hx hb dX9_nextFor_65 ?_
          obtain ⟨g14, h⟩ := gd_some h
          refine ald_i hx hb hK.1 hP 4 0 rfl rfl ((r10 + 2).toNatClampNeg) (ix_g g14) dX9_nextFor_66 ?_
          obtain ⟨r16, z17, hc15, h⟩ := bd2_some h
          refine cWl (runV (As := [.int x1, .int (gT z11 5 ((r10 + 1).toNatClampNeg)), .int (gT z11 5 ((r10 + 2).toNatClampNeg))]) (rest := []) C (mX9_reckons l D a (q_t := q_t) (Q_t := Q_t) hc15 H.size) lk_V_9_322 okN_X9_reckons ⟨Nat.le_of_ble_eq_true rfl, Nat.le_of_ble_eq_true rfl⟩ ⟨rfl, rfl⟩ (preV (preM hK hP hD) (recvOf hK hP 0 rfl (ci := 9) rfl)) hl.1 rfl (Nat.le_of_ble_eq_true rfl) dX9_nextFor_67 ⟨Nat.le_of_ble_eq_true rfl, Nat.le_of_ble_eq_true rfl⟩) hP hD hS hA (fun H locs hP hD hS => ?_)
          have hP : va_P D classes (rc9 a q_t Q_t z17) H := hP
          have hD : va_D A (rc9 a q_t Q_t z17) := hD
          refine lv_lstore (lv' := [(7, .long r16), (6, .int r10), (0, .ref q_t), (1, .int x1), (2, .int x2), (3, .long x3), (5, .int x5)]) hx hb dX9_nextFor_70 hl (by decide) rfl (fun ls hl => ?_)
          refine lv_iload_n hx hb dX9_nextFor_72 rfl (lv_at hl 4 rfl) ?_
          obtain ⟨J18, eJ18, h⟩ := jn_some h
          have hJ18 : ∀ (H : Heap) (locs : List Loc) (ls : Array Slot), J18 = some y → va_P D classes (rc9 a q_t Q_t z17) H → va_D A (rc9 a q_t Q_t z17) → va_S A s.heap H locs → lv_has ls 9 [(0, .ref q_t), (1, .int x1), (5, .int x5), (7, .long r16)] → W p l e (rmM 4 0 0 90) s m #[.ref q_t, .int x10] below meth c H locs 0 0 (MQ below (va_Qi (fun r (_ : Unit) => r = y.1) (Bw D A (fun _ => rc9 a q_t Q_t y.2)) A) #[.ref q_t, .int x10] s 0 0 A) (F0 m 86 ls []) := by
            intro H locs ls h hP hD hS hl
            rw [eJ18] at h
            refine lv_iload hx hb dX9_nextFor_86 (lv_at hl 2 rfl) ?_
            refine lv_istore_n (lv' := [(2, .int x5), (0, .ref q_t), (1, .int x1), (5, .int x5), (7, .long r16)]) hx hb dX9_nextFor_88 rfl hl (by decide) rfl (fun ls hl => ?_)
            refine lv_lload hx hb dX9_nextFor_89 (lv_at hl 4 rfl) ?_
            refine lv_lstore_n (lv' := [(3, .long r16), (2, .int x5), (0, .ref q_t), (1, .int x1), (5, .int x5), (7, .long r16)]) hx hb dX9_nextFor_91 rfl hl (by decide) rfl (fun ls hl => ?_)
            exact hJ4 z17 x5 r16 _ _ ls h hP hD hS (lv_sub hl [2, 3, 1, 0, 4] rfl)
          refine lv_if_lt (tgt := 86) hx hb dX9_nextFor_73 (by decide) (fun c19 => ?_) (fun c19 => ?_)
          · have h := ite_t c19 h
            exact hJ18 _ _ ls h hP hD hS (lv_sub hl [2, 3, 6, 0] rfl)
          · have h := ite_f c19 h
            refine lv_lload hx hb dX9_nextFor_76 (lv_at hl 0 rfl) ?_
            refine lv_lload_n hx hb dX9_nextFor_78 rfl (lv_at hl 5 rfl) ?_
            refine W.lcmp hx hb dX9_nextFor_79 ?_
            refine lv_if_lt (tgt := 86) hx hb dX9_nextFor_80 (by decide) (fun c20 => ?_) (fun c20 => ?_)
            · have h := ite_t ((lg_cmp_lt _ _).mp c20) h
              exact hJ18 _ _ ls h hP hD hS (lv_sub hl [2, 3, 6, 0] rfl)
            · have h := ite_f (fun q => c20 ((lg_cmp_lt _ _).mpr q)) h
              refine lv_goto (tgt := 92) hx hb dX9_nextFor_83 (by decide) ?_
              exact hJ4 z17 x2 x3 _ _ ls h hP hD hS (lv_sub hl [2, 3, 4, 5, 6] rfl)
        · have h := ite_f c12 h
          refine lv_goto (tgt := 92) hx hb dX9_nextFor_44 (by decide) ?_
          exact hJ4 z11 x2 x3 _ _ ls h hP hD hS (lv_sub hl [1, 2, 3, 4, 5] rfl)
      · have h := ite_t c8 h
        refine lv_goto (tgt := 92) hx hb dX9_nextFor_27 (by decide) ?_
        exact hJ4 z_t x2 x3 _ _ ls h hP hD hS (lv_sub hl [0, 1, 2, 3, 4] rfl)

set_option maxHeartbeats 4000000 in
set_option maxRecDepth 100000 in
theorem mX9_nextFor (l : Launch) (D : va_G) (a : Nat → ClassId) {q_t : Nat} {Q_t : Nat → Nat} {z_t : Sx} {x1 : Int32} {y : Int32 × Sx} (h : fX9_nextFor z_t x1 = some y) (sz : Nat) : CMi (S := Unit) l MX9_nextFor 4 90 0 0 D a [.ref q_t, .int x1] (rc9 a q_t Q_t z_t) sz (fun r _ => r = y.1) (fun _ => rc9 a q_t Q_t y.2) := by
  unfold fX9_nextFor at h
  refine entMi (by decide) (Nat.le_of_ble_eq_true rfl) ?_
  intro p e s m below meth c C hK A hA hP hD ls hl
  obtain ⟨hx, hb, hml, hown, hts, hr, hlocks, hnm⟩ := id C
  have hb : c.code = cX9_nextFor := hb
  have hown : s.vm.findClass RX9 = some m.cls := hown
  have hS : va_S A s.heap s.heap [] := va_S.rf
  have hl : lv_has ls 9 [(0, .ref q_t), (1, .int x1)] := hl
  refine lv_iconst (v := (-1)) hx hb dX9_nextFor_0 (by decide) ?_
  refine lv_istore_n (lv' := [(2, .int (-1)), (0, .ref q_t), (1, .int x1)]) hx hb dX9_nextFor_1 rfl hl (by decide) rfl (fun ls hl => ?_)
  refine lv_lconst (v := 0) hx hb dX9_nextFor_2 (by decide) ?_
  refine lv_lstore_n (lv' := [(3, .long 0), (2, .int (-1)), (0, .ref q_t), (1, .int x1)]) hx hb dX9_nextFor_3 rfl hl (by decide) rfl (fun ls hl => ?_)
  refine lv_iconst (v := 0) hx hb dX9_nextFor_4 (by decide) ?_
  refine lv_istore (lv' := [(5, .int 0), (3, .long 0), (2, .int (-1)), (0, .ref q_t), (1, .int x1)]) hx hb dX9_nextFor_5 hl (by decide) rfl (fun ls hl => ?_)
  refine wX9_nextFor_7 C hK hA ?_ FU z_t (-1) 0 0 _ _ ls h hP hD hS (lv_sub hl [3, 4, 2, 1, 0] rfl)
  · intro z21 i22 H locs ls h hP hD hS hl
    refine lv_iload_n hx hb dX9_nextFor_98 rfl (lv_at hl 2 rfl) ?_
    obtain ⟨J23, eJ23, h⟩ := jn_some h
    have hJ23 : ∀ (z24 : Sx) (H : Heap) (locs : List Loc) (ls : Array Slot), J23 z24 = some y → va_P D classes (rc9 a q_t Q_t z24) H → va_D A (rc9 a q_t Q_t z24) → va_S A s.heap H locs → lv_has ls 9 [] → W p l e (rmM 4 0 0 90) s m #[.ref q_t, .int x1] below meth c H locs 0 0 (MQ below (va_Qi (fun r (_ : Unit) => r = y.1) (Bw D A (fun _ => rc9 a q_t Q_t y.2)) A) #[.ref q_t, .int x1] s 0 0 A) (F0 m 111 ls []) := by
      intro z24 H locs ls h hP hD hS hl
      rw [eJ23] at h
      refine lv_iconst (v := (-1)) hx hb dX9_nextFor_111 (by decide) ?_
      refine lv_goto (tgt := 116) hx hb dX9_nextFor_112 (by decide) ?_
      exact rMi C rfl h (g := fun y => rc9 a q_t Q_t y.2) (pr := fun y => y.1) hP hD hS dX9_nextFor_116
    refine lv_if_lt (tgt := 111) hx hb dX9_nextFor_99 (by decide) (fun c25 => ?_) (fun c25 => ?_)
    · have h := ite_t c25 h
      exact hJ23 z21 _ _ ls h hP hD hS (lv_sub hl [] rfl)
    · have h := ite_f c25 h
      refine lv_aload_n hx hb dX9_nextFor_102 rfl (lv_at hl 0 rfl) ?_
      refine lv_iload_n hx hb dX9_nextFor_103 rfl (lv_at hl 1 rfl) ?_
      refine lv_iload_n hx hb dX9_nextFor_104 rfl (lv_at hl 2 rfl) ?_
      obtain ⟨r27, z28, hc26, h⟩ := bd2_some h
      refine cWi (runV (As := [.int x1, .int i22]) (rest := []) C (mX9_stops l D a (q_t := q_t) (Q_t := Q_t) hc26 H.size) lk_V_9_329 okN_X9_stops ⟨Nat.le_of_ble_eq_true rfl, Nat.le_of_ble_eq_true rfl⟩ ⟨rfl, rfl⟩ (preV (preM hK hP hD) (recvOf hK hP 0 rfl (ci := 9) rfl)) hl.1 rfl (Nat.le_of_ble_eq_true rfl) dX9_nextFor_105 ⟨Nat.le_of_ble_eq_true rfl, Nat.le_of_ble_eq_true rfl⟩) hP hD hS hA (fun H locs hP hD hS => ?_)
      have hP : va_P D classes (rc9 a q_t Q_t z28) H := hP
      have hD : va_D A (rc9 a q_t Q_t z28) := hD
      refine lv_if_eq (tgt := 115) hx hb dX9_nextFor_108 (by decide) (fun c29 => ?_) (fun c29 => ?_)
      · have h := ite_t c29 h
        refine lv_iload_n hx hb dX9_nextFor_115 rfl (lv_at hl 2 rfl) ?_
        exact rMi C rfl h (g := fun y => rc9 a q_t Q_t y.2) (pr := fun y => y.1) hP hD hS dX9_nextFor_116
      · have h := ite_f c29 h
        exact hJ23 z28 _ _ ls h hP hD hS (lv_sub hl [] rfl)

set_option maxHeartbeats 4000000 in
set_option maxRecDepth 100000 in
theorem mX9_draw (l : Launch) (D : va_G) (a : Nat → ClassId) {q_t : Nat} {Q_t : Nat → Nat} {z_t : Sx} {x1 : Int32} {y : Int32 × Sx} (h : fX9_draw z_t x1 = some y) (sz : Nat) : CMi (S := Unit) l MX9_draw 0 0 0 0 D a [.ref q_t, .int x1] (rc9 a q_t Q_t z_t) sz (fun r _ => r = y.1) (fun _ => rc9 a q_t Q_t y.2) := by
  unfold fX9_draw at h
  refine entMi (by decide) (Nat.le_of_ble_eq_true rfl) ?_
  intro p e s m below meth c C hK A hA hP hD ls hl
  obtain ⟨hx, hb, hml, hown, hts, hr, hlocks, hnm⟩ := id C
  have hb : c.code = cX9_draw := hb
  have hown : s.vm.findClass RX9 = some m.cls := hown
  have hS : va_S A s.heap s.heap [] := va_S.rf
  have hl : lv_has ls 2 [(0, .ref q_t), (1, .int x1)] := hl
  refine lv_aload_n hx hb dX9_draw_0 rfl (lv_at hl 0 rfl) ?_
  refine va_get (D := D) (v := .ref (Q_t 24)) (C := RX9) (T := TX9) (N := 36) hx hb hts iX9 hown hK.1 hP 0 rfl rfl 24 (by decide) (hts _ t_906) (fun _ h9 => h9) rfl dX9_draw_1 ?_
  refine lv_bipush (v := 9) hx hb dX9_draw_4 (by decide) ?_
  refine lv_aload_n hx hb dX9_draw_6 rfl (lv_at hl 0 rfl) ?_
  refine va_get (D := D) (v := .ref (Q_t 24)) (C := RX9) (T := TX9) (N := 36) hx hb hts iX9 hown hK.1 hP 0 rfl rfl 24 (by decide) (hts _ t_906) (fun _ h9 => h9) rfl dX9_draw_7 ?_
  refine lv_bipush (v := 9) hx hb dX9_draw_10 (by decide) ?_
  refine ald_i hx hb hK.1 hP 11 0 rfl rfl 9 (ix_lit (by decide)) dX9_draw_12 ?_
  refine lv_i2l (v := (gT z_t 24 9).toInt64) hx hb dX9_draw_13 rfl ?_
  refine lv_ldc2 hx hb hown (hts _ t_1182) dX9_draw_14 ?_
  refine lv_lmul hx hb dX9_draw_17 ?_
  refine lv_ldc2 hx hb hown (hts _ t_1183) dX9_draw_18 ?_
  refine lv_ladd hx hb dX9_draw_21 ?_
  refine lv_ldc2 hx hb hown (hts _ t_1184) dX9_draw_22 ?_
  refine lv_lrem hx hb dX9_draw_25 (by decide) ?_
  refine lv_l2i (v := (((((gT z_t 24 9).toInt64) * 1103515245) + 12345) - ((((gT z_t 24 9).toInt64) * 1103515245) + 12345) / 2147483648 * 2147483648).toInt32) hx hb dX9_draw_26 rfl ?_
  refine lv_topi (fun v1 ev1 => ?_)
  have h := nm_some h v1 ev1
  refine ast_i hx hb hK.1 hP hD hS 11 0 rfl rfl 9 (ix_lit (by decide)) dX9_draw_27 (fun H locs hP hD hS => ?_)
  rw [u9_24] at hP hD
  refine lv_aload_n hx hb dX9_draw_28 rfl (lv_at hl 0 rfl) ?_
  refine va_get (D := D) (v := .ref (Q_t 24)) (C := RX9) (T := TX9) (N := 36) hx hb hts iX9 hown hK.1 hP 0 rfl rfl 24 (by decide) (hts _ t_906) (fun _ h9 => h9) rfl dX9_draw_29 ?_
  refine lv_bipush (v := 9) hx hb dX9_draw_32 (by decide) ?_
  refine ald_i hx hb hK.1 hP 11 0 rfl rfl 9 (ix_lit (by decide)) dX9_draw_34 ?_
  refine lv_ldcw hx hb hown (hts _ t_1185) dX9_draw_35 ?_
  refine lv_idiv hx hb dX9_draw_38 (by decide) ?_
  refine lv_iload_n hx hb dX9_draw_39 rfl (lv_at hl 1 rfl) ?_
  obtain ⟨g2, h⟩ := gd_some h
  refine lv_irem hx hb dX9_draw_40 g2 ?_
  exact rMi C rfl h (g := fun y => rc9 a q_t Q_t y.2) (pr := fun y => y.1) hP hD hS dX9_draw_41

set_option maxHeartbeats 4000000 in
set_option maxRecDepth 100000 in
theorem mX9_looks (l : Launch) (D : va_G) (a : Nat → ClassId) {q_t : Nat} {Q_t : Nat → Nat} {z_t : Sx} {x1 : Int32} {y : Int32 × Sx} (h : fX9_looks z_t x1 = some y) (sz : Nat) : CMi (S := Unit) l MX9_looks 2 44 0 0 D a [.ref q_t, .int x1] (rc9 a q_t Q_t z_t) sz (fun r _ => r = y.1) (fun _ => rc9 a q_t Q_t y.2) := by
  unfold fX9_looks at h
  refine entMi (by decide) (Nat.le_of_ble_eq_true rfl) ?_
  intro p e s m below meth c C hK A hA hP hD ls hl
  obtain ⟨hx, hb, hml, hown, hts, hr, hlocks, hnm⟩ := id C
  have hb : c.code = cX9_looks := hb
  have hown : s.vm.findClass RX9 = some m.cls := hown
  have hS : va_S A s.heap s.heap [] := va_S.rf
  have hl : lv_has ls 3 [(0, .ref q_t), (1, .int x1)] := hl
  refine lv_bipush (v := 44) hx hb dX9_looks_0 (by decide) ?_
  refine lv_bipush (v := 6) hx hb dX9_looks_2 (by decide) ?_
  refine lv_iload_n hx hb dX9_looks_4 rfl (lv_at hl 1 rfl) ?_
  refine lv_imul hx hb dX9_looks_5 ?_
  refine lv_iadd hx hb dX9_looks_6 ?_
  refine lv_istore_n (lv' := [(2, .int (44 + (6 * x1))), (0, .ref q_t), (1, .int x1)]) hx hb dX9_looks_7 rfl hl (by decide) rfl (fun ls hl => ?_)
  refine lv_aload_n hx hb dX9_looks_8 rfl (lv_at hl 1 rfl) ?_
  refine va_get (D := D) (v := .ref (Q_t 24)) (C := RX9) (T := TX9) (N := 36) hx hb hts iX9 hown hK.1 hP 0 rfl rfl 24 (by decide) (hts _ t_906) (fun _ h9 => h9) rfl dX9_looks_9 ?_
  refine lv_iload_n hx hb dX9_looks_12 rfl (lv_at hl 0 rfl) ?_
  refine lv_iconst (v := 5) hx hb dX9_looks_13 (by decide) ?_
  refine lv_iadd hx hb dX9_looks_14 ?_
  refine lv_dup2_11 hx hb dX9_looks_15 rfl rfl ?_
  obtain ⟨g1, h⟩ := gd_some h
  refine ald_i hx hb hK.1 hP 11 0 rfl rfl (((44 + (6 * x1)) + 5).toNatClampNeg) (ix_g g1) dX9_looks_16 ?_
  refine lv_iconst (v := 1) hx hb dX9_looks_17 (by decide) ?_
  refine lv_iadd hx hb dX9_looks_18 ?_
  refine ast_i hx hb hK.1 hP hD hS 11 0 rfl rfl (((44 + (6 * x1)) + 5).toNatClampNeg) (ix_g g1) dX9_looks_19 (fun H locs hP hD hS => ?_)
  rw [u9_24] at hP hD
  refine lv_aload_n hx hb dX9_looks_20 rfl (lv_at hl 1 rfl) ?_
  refine va_get (D := D) (v := .ref (Q_t 24)) (C := RX9) (T := TX9) (N := 36) hx hb hts iX9 hown hK.1 hP 0 rfl rfl 24 (by decide) (hts _ t_906) (fun _ h9 => h9) rfl dX9_looks_21 ?_
  refine lv_iconst (v := 3) hx hb dX9_looks_24 (by decide) ?_
  refine lv_dup2_11 hx hb dX9_looks_25 rfl rfl ?_
  refine ald_i hx hb hK.1 hP 11 0 rfl rfl 3 (ix_lit (by decide)) dX9_looks_26 ?_
  refine lv_aload_n hx hb dX9_looks_27 rfl (lv_at hl 1 rfl) ?_
  refine va_get (D := D) (v := .ref (Q_t 24)) (C := RX9) (T := TX9) (N := 36) hx hb hts iX9 hown hK.1 hP 0 rfl rfl 24 (by decide) (hts _ t_906) (fun _ h9 => h9) rfl dX9_looks_28 ?_
  refine lv_iload_n hx hb dX9_looks_31 rfl (lv_at hl 0 rfl) ?_
  refine lv_iconst (v := 1) hx hb dX9_looks_32 (by decide) ?_
  refine lv_iadd hx hb dX9_looks_33 ?_
  obtain ⟨g2, h⟩ := gd_some h
  refine ald_i hx hb hK.1 hP 11 0 rfl rfl (((44 + (6 * x1)) + 1).toNatClampNeg) (ix_g g2) dX9_looks_34 ?_
  refine lv_isub hx hb dX9_looks_35 ?_
  refine lv_topi (fun v3 ev3 => ?_)
  have h := nm_some h v3 ev3
  refine ast_i hx hb hK.1 hP hD hS 11 0 rfl rfl 3 (ix_lit (by decide)) dX9_looks_36 (fun H locs hP hD hS => ?_)
  rw [u9_24] at hP hD
  refine lv_aload_n hx hb dX9_looks_37 rfl (lv_at hl 1 rfl) ?_
  refine lv_bipush (v := 100) hx hb dX9_looks_38 (by decide) ?_
  obtain ⟨r5, z6, hc4, h⟩ := bd2_some h
  refine cWi (runV (As := [.int 100]) (rest := []) C (mX9_draw l D a (q_t := q_t) (Q_t := Q_t) hc4 H.size) lk_V_9_292 okN_X9_draw ⟨Nat.le_of_ble_eq_true rfl, Nat.le_of_ble_eq_true rfl⟩ ⟨rfl, rfl⟩ (preV (preM hK hP hD) (recvOf hK hP 0 rfl (ci := 9) rfl)) hl.1 rfl (Nat.le_of_ble_eq_true rfl) dX9_looks_40 ⟨Nat.le_of_ble_eq_true rfl, Nat.le_of_ble_eq_true rfl⟩) hP hD hS hA (fun H locs hP hD hS => ?_)
  have hP : va_P D classes (rc9 a q_t Q_t z6) H := hP
  have hD : va_D A (rc9 a q_t Q_t z6) := hD
  refine lv_aload_n hx hb dX9_looks_43 rfl (lv_at hl 1 rfl) ?_
  refine va_get (D := D) (v := .ref (Q_t 24)) (C := RX9) (T := TX9) (N := 36) hx hb hts iX9 hown hK.1 hP 0 rfl rfl 24 (by decide) (hts _ t_906) (fun _ h9 => h9) rfl dX9_looks_44 ?_
  refine lv_iload_n hx hb dX9_looks_47 rfl (lv_at hl 0 rfl) ?_
  refine lv_iconst (v := 2) hx hb dX9_looks_48 (by decide) ?_
  refine lv_iadd hx hb dX9_looks_49 ?_
  obtain ⟨g7, h⟩ := gd_some h
  refine ald_i hx hb hK.1 hP 11 0 rfl rfl (((44 + (6 * x1)) + 2).toNatClampNeg) (ix_g g7) dX9_looks_50 ?_
  refine lv_icmp_lt (tgt := 56) hx hb dX9_looks_51 (by decide) (fun c8 => ?_) (fun c8 => ?_)
  · have h := ite_t c8 h
    refine lv_aload_n hx hb dX9_looks_56 rfl (lv_at hl 1 rfl) ?_
    refine va_get (D := D) (v := .ref (Q_t 24)) (C := RX9) (T := TX9) (N := 36) hx hb hts iX9 hown hK.1 hP 0 rfl rfl 24 (by decide) (hts _ t_906) (fun _ h9 => h9) rfl dX9_looks_57 ?_
    refine lv_iload_n hx hb dX9_looks_60 rfl (lv_at hl 0 rfl) ?_
    refine lv_iconst (v := 4) hx hb dX9_looks_61 (by decide) ?_
    refine lv_iadd hx hb dX9_looks_62 ?_
    refine lv_iconst (v := 1) hx hb dX9_looks_63 (by decide) ?_
    obtain ⟨g9, h⟩ := gd_some h
    refine ast_i hx hb hK.1 hP hD hS 11 0 rfl rfl (((44 + (6 * x1)) + 4).toNatClampNeg) (ix_g g9) dX9_looks_64 (fun H locs hP hD hS => ?_)
    rw [u9_24] at hP hD
    refine lv_aload_n hx hb dX9_looks_65 rfl (lv_at hl 1 rfl) ?_
    refine va_get (D := D) (v := .ref (Q_t 24)) (C := RX9) (T := TX9) (N := 36) hx hb hts iX9 hown hK.1 hP 0 rfl rfl 24 (by decide) (hts _ t_906) (fun _ h9 => h9) rfl dX9_looks_66 ?_
    refine lv_iconst (v := 4) hx hb dX9_looks_69 (by decide) ?_
    refine lv_dup2_11 hx hb dX9_looks_70 rfl rfl ?_
    refine ald_i hx hb hK.1 hP 11 0 rfl rfl 4 (ix_lit (by decide)) dX9_looks_71 ?_
    refine lv_aload_n hx hb dX9_looks_72 rfl (lv_at hl 1 rfl) ?_
    refine lv_iload_n hx hb dX9_looks_73 rfl (lv_at hl 2 rfl) ?_
    refine lv_iconst (v := 0) hx hb dX9_looks_74 (by decide) ?_
    obtain ⟨r11, hc10, h⟩ := bd_some h
    refine cRi (runV (As := [.int x1, .int 0]) (rest := [.int (gT (sT z6 24 (((44 + (6 * x1)) + 4).toNatClampNeg) 1) 24 4), .int 4, .ref (Q_t 24)]) C (mX9_kindOf l D a (q_t := q_t) (Q_t := Q_t) hc10) lk_V_9_275 okN_X9_kindOf ⟨Nat.le_of_ble_eq_true rfl, Nat.le_of_ble_eq_true rfl⟩ ⟨rfl, rfl⟩ (preV (preR hK hP) (recvOf hK hP 0 rfl (ci := 9) rfl)) hl.1 rfl (Nat.le_of_ble_eq_true rfl) dX9_looks_75 ⟨Nat.le_of_ble_eq_true rfl, Nat.le_of_ble_eq_true rfl⟩) ?_
    refine lv_iadd hx hb dX9_looks_78 ?_
    refine lv_topi (fun v12 ev12 => ?_)
    have h := nm_some h v12 ev12
    refine ast_i hx hb hK.1 hP hD hS 11 0 rfl rfl 4 (ix_lit (by decide)) dX9_looks_79 (fun H locs hP hD hS => ?_)
    rw [u9_24] at hP hD
    refine lv_iconst (v := 1) hx hb dX9_looks_80 (by decide) ?_
    exact rMz C rfl (Or.inr rfl) h (g := fun y => rc9 a q_t Q_t y.2) (pr := fun y => y.1) hP hD hS dX9_looks_81
  · have h := ite_f c8 h
    refine lv_iconst (v := 0) hx hb dX9_looks_54 (by decide) ?_
    exact rMz C rfl (Or.inl rfl) h (g := fun y => rc9 a q_t Q_t y.2) (pr := fun y => y.1) hP hD hS dX9_looks_55

set_option maxHeartbeats 4000000 in
set_option maxRecDepth 100000 in
theorem wX9_passes_2 {p : Program} {l : Launch} {e : Env} {s : State} {m : MethodId} {below : List Frame} {meth : Method} {c : Code} {D : va_G} {a : Nat → ClassId} {A : Nat → Prop} {q_t : Nat} {Q_t : Nat → Nat} {x10 : Int32} {x1 : Int32} (C : Cx p s m #[.ref q_t, .int x10] meth c MX9_passes) (hK : KK D a s) (hA : ∀ q, s.heap.size ≤ q → A q) {y : Int32 × Sx} : ∀ (n : Nat) (z_t : Sx) (x2 : Int32) (H : Heap) (locs : List Loc) (ls : Array Slot), lX9_passes_2 x1 n z_t x2 = some y → va_P D classes (rc9 a q_t Q_t z_t) H → va_D A (rc9 a q_t Q_t z_t) → va_S A s.heap H locs → lv_has ls 4 [(0, .ref q_t), (1, .int x1), (2, .int x2)] → W p l e (rmM 5 0 0 118) s m #[.ref q_t, .int x10] below meth c H locs 0 0 (MQ below (va_Qi (fun r (_ : Unit) => r = y.1) (Bw D A (fun _ => rc9 a q_t Q_t y.2)) A) #[.ref q_t, .int x10] s 0 0 A) (F0 m 2 ls []) := by
  obtain ⟨hx, hb, hml, hown, hts, hr, hlocks, hnm⟩ := id C
  have hb : c.code = cX9_passes := hb
  have hown : s.vm.findClass RX9 = some m.cls := hown
  intro n
  induction n with
  | zero => intro z_t x2 H locs ls h; rw [lX9_passes_2] at h; cases h
  | succ n ih =>
    intro z_t x2 H locs ls h hP hD hS hl
    rw [lX9_passes_2] at h
    refine lv_iload_n hx hb dX9_passes_2 rfl (lv_at hl 2 rfl) ?_
    refine lv_sipush (v := 200) hx hb dX9_passes_3 (by decide) ?_
    refine lv_icmp_ge (tgt := 33) hx hb dX9_passes_6 (by decide) (fun c1 => ?_) (fun c1 => ?_)
    · have h := ite_t c1 h
      refine lv_iload_n hx hb dX9_passes_33 rfl (lv_at hl 2 rfl) ?_
      exact rMi C rfl h (g := fun y => rc9 a q_t Q_t y.2) (pr := fun y => y.1) hP hD hS dX9_passes_34
    · have h := ite_f c1 h
      refine lv_aload_n hx hb dX9_passes_9 rfl (lv_at hl 0 rfl) ?_
      refine lv_iload_n hx hb dX9_passes_10 rfl (lv_at hl 1 rfl) ?_
      obtain ⟨r3, z4, hc2, h⟩ := bd2_some h
      refine cWi (runV (As := [.int x1]) (rest := []) C (mX9_nextFor l D a (q_t := q_t) (Q_t := Q_t) hc2 H.size) lk_V_9_332 okN_X9_nextFor ⟨Nat.le_of_ble_eq_true rfl, Nat.le_of_ble_eq_true rfl⟩ ⟨rfl, rfl⟩ (preV (preM hK hP hD) (recvOf hK hP 0 rfl (ci := 9) rfl)) hl.1 rfl (Nat.le_of_ble_eq_true rfl) dX9_passes_11 ⟨Nat.le_of_ble_eq_true rfl, Nat.le_of_ble_eq_true rfl⟩) hP hD hS hA (fun H locs hP hD hS => ?_)
      have hP : va_P D classes (rc9 a q_t Q_t z4) H := hP
      have hD : va_D A (rc9 a q_t Q_t z4) := hD
      refine lv_istore_n (lv' := [(3, .int r3), (0, .ref q_t), (1, .int x1), (2, .int x2)]) hx hb dX9_passes_14 rfl hl (by decide) rfl (fun ls hl => ?_)
      refine lv_iload_n hx hb dX9_passes_15 rfl (lv_at hl 0 rfl) ?_
      refine lv_if_ge (tgt := 21) hx hb dX9_passes_16 (by decide) (fun c5 => ?_) (fun c5 => ?_)
      · have h := ite_t c5 h
        refine lv_aload_n hx hb dX9_passes_21 rfl (lv_at hl 1 rfl) ?_
        refine lv_iload_n hx hb dX9_passes_22 rfl (lv_at hl 0 rfl) ?_
        obtain ⟨r7, z8, hc6, h⟩ := bd2_some h
        refine cWi (runV (As := [.int r3]) (rest := []) C (mX9_looks l D a (q_t := q_t) (Q_t := Q_t) hc6 H.size) lk_V_9_298 okN_X9_looks ⟨Nat.le_of_ble_eq_true rfl, Nat.le_of_ble_eq_true rfl⟩ ⟨rfl, rfl⟩ (preV (preM hK hP hD) (recvOf hK hP 0 rfl (ci := 9) rfl)) hl.1 rfl (Nat.le_of_ble_eq_true rfl) dX9_passes_23 ⟨Nat.le_of_ble_eq_true rfl, Nat.le_of_ble_eq_true rfl⟩) hP hD hS hA (fun H locs hP hD hS => ?_)
        have hP : va_P D classes (rc9 a q_t Q_t z8) H := hP
        have hD : va_D A (rc9 a q_t Q_t z8) := hD
        refine lv_pop hx hb dX9_passes_26 rfl ?_
        refine lv_iinc (v := x2 + 1) (lv' := [(2, .int (x2 + 1)), (3, .int r3), (0, .ref q_t), (1, .int x1)]) hx hb dX9_passes_27 hl (k := 3) rfl rfl (by decide) rfl (fun ls hl => ?_)
        refine lv_goto (tgt := 2) hx hb dX9_passes_30 (by decide) ?_
        exact ih z8 (x2 + 1) _ _ ls h hP hD hS (lv_sub hl [2, 3, 0] rfl)
      · have h := ite_f c5 h
        refine lv_iload_n hx hb dX9_passes_19 rfl (lv_at hl 3 rfl) ?_
        exact rMi C rfl h (g := fun y => rc9 a q_t Q_t y.2) (pr := fun y => y.1) hP hD hS dX9_passes_20

set_option maxHeartbeats 4000000 in
set_option maxRecDepth 100000 in
theorem mX9_passes (l : Launch) (D : va_G) (a : Nat → ClassId) {q_t : Nat} {Q_t : Nat → Nat} {z_t : Sx} {x1 : Int32} {y : Int32 × Sx} (h : fX9_passes z_t x1 = some y) (sz : Nat) : CMi (S := Unit) l MX9_passes 5 118 0 0 D a [.ref q_t, .int x1] (rc9 a q_t Q_t z_t) sz (fun r _ => r = y.1) (fun _ => rc9 a q_t Q_t y.2) := by
  unfold fX9_passes at h
  refine entMi (by decide) (Nat.le_of_ble_eq_true rfl) ?_
  intro p e s m below meth c C hK A hA hP hD ls hl
  obtain ⟨hx, hb, hml, hown, hts, hr, hlocks, hnm⟩ := id C
  have hb : c.code = cX9_passes := hb
  have hown : s.vm.findClass RX9 = some m.cls := hown
  have hS : va_S A s.heap s.heap [] := va_S.rf
  have hl : lv_has ls 4 [(0, .ref q_t), (1, .int x1)] := hl
  refine lv_iconst (v := 0) hx hb dX9_passes_0 (by decide) ?_
  refine lv_istore_n (lv' := [(2, .int 0), (0, .ref q_t), (1, .int x1)]) hx hb dX9_passes_1 rfl hl (by decide) rfl (fun ls hl => ?_)
  refine wX9_passes_2 C hK hA FU z_t 0 _ _ ls h hP hD hS (lv_sub hl [1, 2, 0] rfl)

set_option maxHeartbeats 4000000 in
set_option maxRecDepth 100000 in
theorem mX9_day (l : Launch) (D : va_G) (a : Nat → ClassId) {q_t : Nat} {Q_t : Nat → Nat} {z_t : Sx} {x1 : Int32} {y : Int32 × Sx} (h : fX9_day z_t x1 = some y) (sz : Nat) : CMi (S := Unit) l MX9_day 6 141 0 0 D a [.ref q_t, .int x1] (rc9 a q_t Q_t z_t) sz (fun r _ => r = y.1) (fun _ => rc9 a q_t Q_t y.2) := by
  unfold fX9_day at h
  refine entMi (by decide) (Nat.le_of_ble_eq_true rfl) ?_
  intro p e s m below meth c C hK A hA hP hD ls hl
  obtain ⟨hx, hb, hml, hown, hts, hr, hlocks, hnm⟩ := id C
  have hb : c.code = cX9_day := hb
  have hown : s.vm.findClass RX9 = some m.cls := hown
  have hS : va_S A s.heap s.heap [] := va_S.rf
  have hl : lv_has ls 3 [(0, .ref q_t), (1, .int x1)] := hl
  refine lv_aload_n hx hb dX9_day_0 rfl (lv_at hl 0 rfl) ?_
  obtain ⟨r2, hc1, h⟩ := bd_some h
  refine cRi (runV (As := []) (rest := []) C (mX9_isWork l D a (q_t := q_t) (Q_t := Q_t) hc1) lk_V_9_301 okN_X9_isWork ⟨Nat.le_of_ble_eq_true rfl, Nat.le_of_ble_eq_true rfl⟩ ⟨rfl, rfl⟩ (preV (preR hK hP) (recvOf hK hP 0 rfl (ci := 9) rfl)) hl.1 rfl (Nat.le_of_ble_eq_true rfl) dX9_day_1 ⟨Nat.le_of_ble_eq_true rfl, Nat.le_of_ble_eq_true rfl⟩) ?_
  obtain ⟨J3, eJ3, h⟩ := jn_some h
  have hJ3 : ∀ (H : Heap) (locs : List Loc) (ls : Array Slot), J3 = some y → va_P D classes (rc9 a q_t Q_t z_t) H → va_D A (rc9 a q_t Q_t z_t) → va_S A s.heap H locs → lv_has ls 3 [] → W p l e (rmM 6 0 0 141) s m #[.ref q_t, .int x1] below meth c H locs 0 0 (MQ below (va_Qi (fun r (_ : Unit) => r = y.1) (Bw D A (fun _ => rc9 a q_t Q_t y.2)) A) #[.ref q_t, .int x1] s 0 0 A) (F0 m 15 ls []) := by
    intro H locs ls h hP hD hS hl
    rw [eJ3] at h
    refine lv_ldcw hx hb hown (hts _ t_1199) dX9_day_15 ?_
    exact rMi C rfl h (g := fun y => rc9 a q_t Q_t y.2) (pr := fun y => y.1) hP hD hS dX9_day_18
  refine lv_if_eq (tgt := 15) hx hb dX9_day_4 (by decide) (fun c4 => ?_) (fun c4 => ?_)
  · have h := ite_t c4 h
    exact hJ3 _ _ ls h hP hD hS (lv_sub hl [] rfl)
  · have h := ite_f c4 h
    refine lv_aload_n hx hb dX9_day_7 rfl (lv_at hl 0 rfl) ?_
    refine lv_iload_n hx hb dX9_day_8 rfl (lv_at hl 1 rfl) ?_
    obtain ⟨r6, hc5, h⟩ := bd_some h
    refine cRi (runV (As := [.int x1]) (rest := []) C (mX9_isRule l D a (q_t := q_t) (Q_t := Q_t) hc5) lk_V_9_335 okN_X9_isRule ⟨Nat.le_of_ble_eq_true rfl, Nat.le_of_ble_eq_true rfl⟩ ⟨rfl, rfl⟩ (preV (preR hK hP) (recvOf hK hP 0 rfl (ci := 9) rfl)) hl.1 rfl (Nat.le_of_ble_eq_true rfl) dX9_day_9 ⟨Nat.le_of_ble_eq_true rfl, Nat.le_of_ble_eq_true rfl⟩) ?_
    refine lv_if_ne (tgt := 19) hx hb dX9_day_12 (by decide) (fun c7 => ?_) (fun c7 => ?_)
    · have h := ite_f c7 h
      refine lv_aload_n hx hb dX9_day_19 rfl (lv_at hl 0 rfl) ?_
      refine va_get (D := D) (v := .ref (Q_t 24)) (C := RX9) (T := TX9) (N := 36) hx hb hts iX9 hown hK.1 hP 0 rfl rfl 24 (by decide) (hts _ t_906) (fun _ h9 => h9) rfl dX9_day_20 ?_
      refine lv_iconst (v := 4) hx hb dX9_day_23 (by decide) ?_
      refine ald_i hx hb hK.1 hP 11 0 rfl rfl 4 (ix_lit (by decide)) dX9_day_24 ?_
      refine lv_istore_n (lv' := [(2, .int (gT z_t 24 4)), (0, .ref q_t), (1, .int x1)]) hx hb dX9_day_25 rfl hl (by decide) rfl (fun ls hl => ?_)
      refine lv_aload_n hx hb dX9_day_26 rfl (lv_at hl 1 rfl) ?_
      refine lv_iload_n hx hb dX9_day_27 rfl (lv_at hl 2 rfl) ?_
      obtain ⟨r9, z10, hc8, h⟩ := bd2_some h
      refine cWi (runV (As := [.int x1]) (rest := []) C (mX9_passes l D a (q_t := q_t) (Q_t := Q_t) hc8 s.heap.size) lk_V_9_338 okN_X9_passes ⟨Nat.le_of_ble_eq_true rfl, Nat.le_of_ble_eq_true rfl⟩ ⟨rfl, rfl⟩ (preV (preM hK hP hD) (recvOf hK hP 0 rfl (ci := 9) rfl)) hl.1 rfl (Nat.le_of_ble_eq_true rfl) dX9_day_28 ⟨Nat.le_of_ble_eq_true rfl, Nat.le_of_ble_eq_true rfl⟩) hP hD hS hA (fun H locs hP hD hS => ?_)
      have hP : va_P D classes (rc9 a q_t Q_t z10) H := hP
      have hD : va_D A (rc9 a q_t Q_t z10) := hD
      refine lv_pop hx hb dX9_day_31 rfl ?_
      refine lv_aload_n hx hb dX9_day_32 rfl (lv_at hl 1 rfl) ?_
      refine va_get (D := D) (v := .ref (Q_t 24)) (C := RX9) (T := TX9) (N := 36) hx hb hts iX9 hown hK.1 hP 0 rfl rfl 24 (by decide) (hts _ t_906) (fun _ h9 => h9) rfl dX9_day_33 ?_
      refine lv_iconst (v := 4) hx hb dX9_day_36 (by decide) ?_
      refine ald_i hx hb hK.1 hP 11 0 rfl rfl 4 (ix_lit (by decide)) dX9_day_37 ?_
      refine lv_iload_n hx hb dX9_day_38 rfl (lv_at hl 0 rfl) ?_
      refine lv_isub hx hb dX9_day_39 ?_
      exact rMi C rfl h (g := fun y => rc9 a q_t Q_t y.2) (pr := fun y => y.1) hP hD hS dX9_day_40
    · have h := ite_t c7 h
      exact hJ3 _ _ ls h hP hD hS (lv_sub hl [] rfl)

set_option maxHeartbeats 4000000 in
set_option maxRecDepth 100000 in
theorem mX9_end (l : Launch) (D : va_G) (a : Nat → ClassId) {q_t : Nat} {Q_t : Nat → Nat} {z_t : Sx} {x1 : Int32} {y : Int32 × Sx} (h : fX9_end z_t x1 = some y) (sz : Nat) : CMi (S := Unit) l MX9_end 0 0 0 0 D a [.ref q_t, .int x1] (rc9 a q_t Q_t z_t) sz (fun r _ => r = y.1) (fun _ => rc9 a q_t Q_t y.2) := by
  unfold fX9_end at h
  refine entMi (by decide) (Nat.le_of_ble_eq_true rfl) ?_
  intro p e s m below meth c C hK A hA hP hD ls hl
  obtain ⟨hx, hb, hml, hown, hts, hr, hlocks, hnm⟩ := id C
  have hb : c.code = cX9_end := hb
  have hown : s.vm.findClass RX9 = some m.cls := hown
  have hS : va_S A s.heap s.heap [] := va_S.rf
  have hl : lv_has ls 2 [(0, .ref q_t), (1, .int x1)] := hl
  refine lv_iload_n hx hb dX9_end_0 rfl (lv_at hl 1 rfl) ?_
  refine lv_if_lt (tgt := 12) hx hb dX9_end_1 (by decide) (fun c1 => ?_) (fun c1 => ?_)
  · have h := ite_t c1 h
    refine lv_iconst (v := (-1)) hx hb dX9_end_12 (by decide) ?_
    exact rMi C rfl h (g := fun y => rc9 a q_t Q_t y.2) (pr := fun y => y.1) hP hD hS dX9_end_13
  · have h := ite_f c1 h
    refine lv_iload_n hx hb dX9_end_4 rfl (lv_at hl 1 rfl) ?_
    refine lv_aload_n hx hb dX9_end_5 rfl (lv_at hl 0 rfl) ?_
    refine va_get (D := D) (v := .int (gI z_t 1)) (C := RX9) (T := TX9) (N := 36) hx hb hts iX9 hown hK.1 hP 0 rfl rfl 1 (by decide) (hts _ t_883) (fun _ h9 => h9) rfl dX9_end_6 ?_
    refine lv_icmp_le (tgt := 14) hx hb dX9_end_9 (by decide) (fun c2 => ?_) (fun c2 => ?_)
    · have h := ite_t c2 h
      refine lv_aload_n hx hb dX9_end_14 rfl (lv_at hl 0 rfl) ?_
      refine lv_iload_n hx hb dX9_end_15 rfl (lv_at hl 1 rfl) ?_
      refine va_put (D := D) (v := .int x1) (C := RX9) (T := TX9) (N := 36) hx hb hts iX9 tyX9 tyX9_ok nmX9 hown hK.1 hP hD hS 0 rfl rfl 1 (by decide) (hts _ t_883) (fun _ h9 => h9) rfl (tyX9_ok 1 (by decide)) rfl rfl (Nat.le_of_ble_eq_true rfl) dX9_end_16 (fun H locs hP hD hS => ?_)
      rw [u9_1] at hP hD
      refine lv_iload_n hx hb dX9_end_19 rfl (lv_at hl 1 rfl) ?_
      exact rMi C rfl h (g := fun y => rc9 a q_t Q_t y.2) (pr := fun y => y.1) hP hD hS dX9_end_20
    · have h := ite_f c2 h
      refine lv_iconst (v := (-1)) hx hb dX9_end_12 (by decide) ?_
      exact rMi C rfl h (g := fun y => rc9 a q_t Q_t y.2) (pr := fun y => y.1) hP hD hS dX9_end_13

set_option maxHeartbeats 4000000 in
set_option maxRecDepth 100000 in
theorem mX9_isFault (l : Launch) (D : va_G) (a : Nat → ClassId) {q_t : Nat} {Q_t : Nat → Nat} {z_t : Sx} {x1 : Int32} {y : Int32} (h : fX9_isFault z_t x1 = some y) : CRi l MX9_isFault 0 0 D a [.ref q_t, .int x1] (rc9 a q_t Q_t z_t) (fun r => r = y) := by
  unfold fX9_isFault at h
  refine entR (by decide) (Nat.le_of_ble_eq_true rfl) ?_
  intro p e s m below meth c C hK hP ls hl
  obtain ⟨hx, hb, hml, hown, hts, hr, hlocks, hnm⟩ := id C
  have hb : c.code = cX9_isFault := hb
  have hown : s.vm.findClass RX9 = some m.cls := hown
  have hl : lv_has ls 2 [(0, .ref q_t), (1, .int x1)] := hl
  refine lv_iload_n hx hb dX9_isFault_0 rfl (lv_at hl 1 rfl) ?_
  refine lv_if_lt (tgt := 18) hx hb dX9_isFault_1 (by decide) (fun c1 => ?_) (fun c1 => ?_)
  · have h := ite_t c1 h
    refine lv_iconst (v := 0) hx hb dX9_isFault_18 (by decide) ?_
    exact rRz C rfl (Or.inl rfl) (Option.some.inj h) dX9_isFault_19
  · have h := ite_f c1 h
    refine lv_iload_n hx hb dX9_isFault_4 rfl (lv_at hl 1 rfl) ?_
    refine lv_aload_n hx hb dX9_isFault_5 rfl (lv_at hl 0 rfl) ?_
    refine va_get (D := D) (v := .ref (Q_t 24)) (C := RX9) (T := TX9) (N := 36) hx hb hts iX9 hown hK.1 hP 0 rfl rfl 24 (by decide) (hts _ t_906) (fun _ h9 => h9) rfl dX9_isFault_6 ?_
    refine lv_iconst (v := 0) hx hb dX9_isFault_9 (by decide) ?_
    refine ald_i hx hb hK.1 hP 11 0 rfl rfl 0 (ix_lit (by decide)) dX9_isFault_10 ?_
    refine lv_icmp_ge (tgt := 18) hx hb dX9_isFault_11 (by decide) (fun c2 => ?_) (fun c2 => ?_)
    · have h := ite_t c2 h
      refine lv_iconst (v := 0) hx hb dX9_isFault_18 (by decide) ?_
      exact rRz C rfl (Or.inl rfl) (Option.some.inj h) dX9_isFault_19
    · have h := ite_f c2 h
      refine lv_iconst (v := 1) hx hb dX9_isFault_14 (by decide) ?_
      refine lv_goto (tgt := 19) hx hb dX9_isFault_15 (by decide) ?_
      exact rRz C rfl (Or.inr rfl) (Option.some.inj h) dX9_isFault_19

set_option maxHeartbeats 4000000 in
set_option maxRecDepth 100000 in
theorem mX9_fault (l : Launch) (D : va_G) (a : Nat → ClassId) {q_t : Nat} {Q_t : Nat → Nat} {z_t : Sx} {x1 : Int32} {x2 : Int32} {y : Int32} (h : fX9_fault z_t x1 x2 = some y) : CRi l MX9_fault 2 43 D a [.ref q_t, .int x1, .int x2] (rc9 a q_t Q_t z_t) (fun r => r = y) := by
  unfold fX9_fault at h
  refine entR (by decide) (Nat.le_of_ble_eq_true rfl) ?_
  intro p e s m below meth c C hK hP ls hl
  obtain ⟨hx, hb, hml, hown, hts, hr, hlocks, hnm⟩ := id C
  have hb : c.code = cX9_fault := hb
  have hown : s.vm.findClass RX9 = some m.cls := hown
  have hl : lv_has ls 3 [(0, .ref q_t), (1, .int x1), (2, .int x2)] := hl
  refine lv_aload_n hx hb dX9_fault_0 rfl (lv_at hl 0 rfl) ?_
  refine lv_iload_n hx hb dX9_fault_1 rfl (lv_at hl 1 rfl) ?_
  obtain ⟨r2, hc1, h⟩ := bd_some h
  refine cRi (runV (As := [.int x1]) (rest := []) C (mX9_isFault l D a (q_t := q_t) (Q_t := Q_t) hc1) lk_V_9_280 okN_X9_isFault ⟨Nat.le_of_ble_eq_true rfl, Nat.le_of_ble_eq_true rfl⟩ ⟨rfl, rfl⟩ (preV (preR hK hP) (recvOf hK hP 0 rfl (ci := 9) rfl)) hl.1 rfl (Nat.le_of_ble_eq_true rfl) dX9_fault_2 ⟨Nat.le_of_ble_eq_true rfl, Nat.le_of_ble_eq_true rfl⟩) ?_
  refine lv_if_eq (tgt := 20) hx hb dX9_fault_5 (by decide) (fun c3 => ?_) (fun c3 => ?_)
  · have h := ite_t c3 h
    refine lv_bipush (v := (-2)) hx hb dX9_fault_20 (by decide) ?_
    exact rRi C rfl (Option.some.inj h) dX9_fault_22
  · have h := ite_f c3 h
    refine lv_iload_n hx hb dX9_fault_8 rfl (lv_at hl 2 rfl) ?_
    refine lv_i2l (v := x2.toInt64) hx hb dX9_fault_9 rfl ?_
    refine lv_lconst (v := 0) hx hb dX9_fault_10 (by decide) ?_
    refine lv_ldc2 hx hb hown (hts _ t_1157) dX9_fault_11 ?_
    obtain ⟨r5, hc4, h⟩ := bd_some h
    refine cRi (runS (As := [.long x2.toInt64, .long 0, .long 6]) (rest := []) C (mX9_in l D a hc4) lk_S_9_118 okN_X9_in ⟨Nat.le_of_ble_eq_true rfl, Nat.le_of_ble_eq_true rfl⟩ ⟨rfl, rfl⟩ (preR hK (P_of_map (wc := []) hP [] rfl)) hl.1 rfl (Nat.le_of_ble_eq_true rfl) dX9_fault_14 ⟨Nat.le_of_ble_eq_true rfl, Nat.le_of_ble_eq_true rfl⟩) ?_
    refine lv_if_ne (tgt := 23) hx hb dX9_fault_17 (by decide) (fun c6 => ?_) (fun c6 => ?_)
    · have h := ite_f c6 h
      refine lv_iload_n hx hb dX9_fault_23 rfl (lv_at hl 2 rfl) ?_
      refine lv_bipush (v := 6) hx hb dX9_fault_24 (by decide) ?_
      refine lv_icmp_ge (tgt := 38) hx hb dX9_fault_26 (by decide) (fun c7 => ?_) (fun c7 => ?_)
      · have h := ite_t c7 h
        refine lv_aload_n hx hb dX9_fault_38 rfl (lv_at hl 0 rfl) ?_
        refine lv_iload_n hx hb dX9_fault_39 rfl (lv_at hl 1 rfl) ?_
        obtain ⟨r9, hc8, h⟩ := bd_some h
        refine cRi (runV (As := [.int x1]) (rest := []) C (mX9_isOpen l D a (q_t := q_t) (Q_t := Q_t) hc8) lk_V_9_272 okN_X9_isOpen ⟨Nat.le_of_ble_eq_true rfl, Nat.le_of_ble_eq_true rfl⟩ ⟨rfl, rfl⟩ (preV (preR hK hP) (recvOf hK hP 0 rfl (ci := 9) rfl)) hl.1 rfl (Nat.le_of_ble_eq_true rfl) dX9_fault_40 ⟨Nat.le_of_ble_eq_true rfl, Nat.le_of_ble_eq_true rfl⟩) ?_
        refine lv_if_eq (tgt := 50) hx hb dX9_fault_43 (by decide) (fun c10 => ?_) (fun c10 => ?_)
        · have h := ite_t c10 h
          refine lv_iconst (v := 0) hx hb dX9_fault_50 (by decide) ?_
          exact rRi C rfl (Option.some.inj h) dX9_fault_51
        · have h := ite_f c10 h
          refine lv_iconst (v := 1) hx hb dX9_fault_46 (by decide) ?_
          refine lv_goto (tgt := 51) hx hb dX9_fault_47 (by decide) ?_
          exact rRi C rfl (Option.some.inj h) dX9_fault_51
      · have h := ite_f c7 h
        refine lv_aload_n hx hb dX9_fault_29 rfl (lv_at hl 0 rfl) ?_
        refine lv_iload_n hx hb dX9_fault_30 rfl (lv_at hl 1 rfl) ?_
        refine lv_iload_n hx hb dX9_fault_31 rfl (lv_at hl 2 rfl) ?_
        obtain ⟨r12, hc11, h⟩ := bd_some h
        refine cRi (runV (As := [.int x1, .int x2]) (rest := []) C (mX9_faultOf l D a (q_t := q_t) (Q_t := Q_t) hc11) lk_V_9_268 okN_X9_faultOf ⟨Nat.le_of_ble_eq_true rfl, Nat.le_of_ble_eq_true rfl⟩ ⟨rfl, rfl⟩ (preV (preR hK hP) (recvOf hK hP 0 rfl (ci := 9) rfl)) hl.1 rfl (Nat.le_of_ble_eq_true rfl) dX9_fault_32 ⟨Nat.le_of_ble_eq_true rfl, Nat.le_of_ble_eq_true rfl⟩) ?_
        refine lv_goto (tgt := 51) hx hb dX9_fault_35 (by decide) ?_
        exact rRi C rfl (Option.some.inj h) dX9_fault_51
    · have h := ite_t c6 h
      refine lv_bipush (v := (-2)) hx hb dX9_fault_20 (by decide) ?_
      exact rRi C rfl (Option.some.inj h) dX9_fault_22

def fX2_wordOf (z_p1 : Sx) (z_p2 : Sx) (x0 : Int32) (x3 : Int32) : Option (Int64) := if x0 = 312 then some x3.toInt64 else if x0 = 313 then bd (fX8_at 10 (gT z_p1 8) x3) (fun r3 => some r3.toInt64) else if x0 = 314 then bd (fX8_at 10 (gT z_p1 12) x3) (fun r5 => some r5.toInt64) else if x0 = 315 then bd (fX8_at 10 (gT z_p1 10) x3) (fun r7 => some r7.toInt64) else if x0 = 316 then bd (fX8_at 10 (gT z_p1 9) x3) (fun r9 => some r9.toInt64) else if x0 = 317 then some ((gI z_p2 0).toInt64) else if x0 = 318 then bd (fJ6_bitCount_0f7a4 (gI z_p2 2)) (fun r11 => some r11.toInt64) else if x0 = 319 then bd (fX8_at 10 (gT z_p2 5) x3) (fun r13 => some r13.toInt64) else some ((gI z_p2 1).toInt64)

set_option maxHeartbeats 4000000 in
set_option maxRecDepth 100000 in
theorem mX2_wordOf (l : Launch) (D : va_G) (a : Nat → ClassId) {q_p1 : Nat} {q_p2 : Nat} {Q_p1 : Nat → Nat} {z_p1 : Sx} {Q_p2 : Nat → Nat} {z_p2 : Sx} {x0 : Int32} {x3 : Int32} {y : Int64} (h : fX2_wordOf z_p1 z_p2 x0 x3 = some y) : CRl l MX2_wordOf 1 21 D a [.int x0, .ref q_p1, .ref q_p2, .int x3] (rc7 a q_p1 Q_p1 z_p1 ++ (rc0 a q_p2 Q_p2 z_p2)) (fun r => r = y) := by
  unfold fX2_wordOf at h
  refine entR (by decide) (Nat.le_of_ble_eq_true rfl) ?_
  intro p e s m below meth c C hK hP ls hl
  obtain ⟨hx, hb, hml, hown, hts, hr, hlocks, hnm⟩ := id C
  have hb : c.code = cX2_wordOf := hb
  have hown : s.vm.findClass RX2 = some m.cls := hown
  have hl : lv_has ls 4 [(0, .int x0), (1, .ref q_p1), (2, .ref q_p2), (3, .int x3)] := hl
  refine lv_iload_n hx hb dX2_wordOf_0 rfl (lv_at hl 0 rfl) ?_
  by_cases c1_0 : x0 = 312
  · have h := ite_t c1_0 h
    refine lv_tableIn (off := 47) (tgt := 48) hx hb dX2_wordOf_1 (by rw [c1_0]; decide) (by rw [c1_0]; decide) (by rw [c1_0]; decide) (by decide) ?_
    refine lv_iload_n hx hb dX2_wordOf_48 rfl (lv_at hl 3 rfl) ?_
    refine lv_i2l (v := x3.toInt64) hx hb dX2_wordOf_49 rfl ?_
    exact rRl C rfl (Option.some.inj h) dX2_wordOf_50
  have h := ite_f c1_0 h
  by_cases c1_1 : x0 = 313
  · have h := ite_t c1_1 h
    refine lv_tableIn (off := 50) (tgt := 51) hx hb dX2_wordOf_1 (by rw [c1_1]; decide) (by rw [c1_1]; decide) (by rw [c1_1]; decide) (by decide) ?_
    refine lv_aload_n hx hb dX2_wordOf_51 rfl (lv_at hl 1 rfl) ?_
    refine va_get (D := D) (v := .ref (Q_p1 8)) (C := RX7) (T := TX7) (N := 18) hx hb hts iX7 hown hK.1 hP 0 rfl rfl 8 (by decide) (hts _ t_56) (fun _ h9 => h9) rfl dX2_wordOf_52 ?_
    refine lv_iload_n hx hb dX2_wordOf_55 rfl (lv_at hl 3 rfl) ?_
    obtain ⟨r3, hc2, h⟩ := bd_some h
    refine cRi (runN (As := [.ref (Q_p1 8), .int x3]) (rest := []) C hK (mX8_at l D a hc2) lk_N_2_47 okN_X8_at ⟨Nat.le_of_ble_eq_true rfl, Nat.le_of_ble_eq_true rfl⟩ ⟨rfl, rfl⟩ (preR hK (P_of_map (wc := ra0 a (Q_p1 8) 10 (gT z_p1 8)) hP [4] rfl)) hl.1 rfl (Nat.le_of_ble_eq_true rfl) dX2_wordOf_56 ⟨Nat.le_of_ble_eq_true rfl, Nat.le_of_ble_eq_true rfl⟩) ?_
    refine lv_i2l (v := r3.toInt64) hx hb dX2_wordOf_59 rfl ?_
    exact rRl C rfl (Option.some.inj h) dX2_wordOf_60
  have h := ite_f c1_1 h
  by_cases c1_2 : x0 = 314
  · have h := ite_t c1_2 h
    refine lv_tableIn (off := 60) (tgt := 61) hx hb dX2_wordOf_1 (by rw [c1_2]; decide) (by rw [c1_2]; decide) (by rw [c1_2]; decide) (by decide) ?_
    refine lv_aload_n hx hb dX2_wordOf_61 rfl (lv_at hl 1 rfl) ?_
    refine va_get (D := D) (v := .ref (Q_p1 12)) (C := RX7) (T := TX7) (N := 18) hx hb hts iX7 hown hK.1 hP 0 rfl rfl 12 (by decide) (hts _ t_73) (fun _ h9 => h9) rfl dX2_wordOf_62 ?_
    refine lv_iload_n hx hb dX2_wordOf_65 rfl (lv_at hl 3 rfl) ?_
    obtain ⟨r5, hc4, h⟩ := bd_some h
    refine cRi (runN (As := [.ref (Q_p1 12), .int x3]) (rest := []) C hK (mX8_at l D a hc4) lk_N_2_47 okN_X8_at ⟨Nat.le_of_ble_eq_true rfl, Nat.le_of_ble_eq_true rfl⟩ ⟨rfl, rfl⟩ (preR hK (P_of_map (wc := ra0 a (Q_p1 12) 10 (gT z_p1 12)) hP [8] rfl)) hl.1 rfl (Nat.le_of_ble_eq_true rfl) dX2_wordOf_66 ⟨Nat.le_of_ble_eq_true rfl, Nat.le_of_ble_eq_true rfl⟩) ?_
    refine lv_i2l (v := r5.toInt64) hx hb dX2_wordOf_69 rfl ?_
    exact rRl C rfl (Option.some.inj h) dX2_wordOf_70
  have h := ite_f c1_2 h
  by_cases c1_3 : x0 = 315
  · have h := ite_t c1_3 h
    refine lv_tableIn (off := 70) (tgt := 71) hx hb dX2_wordOf_1 (by rw [c1_3]; decide) (by rw [c1_3]; decide) (by rw [c1_3]; decide) (by decide) ?_
    refine lv_aload_n hx hb dX2_wordOf_71 rfl (lv_at hl 1 rfl) ?_
    refine va_get (D := D) (v := .ref (Q_p1 10)) (C := RX7) (T := TX7) (N := 18) hx hb hts iX7 hown hK.1 hP 0 rfl rfl 10 (by decide) (hts _ t_66) (fun _ h9 => h9) rfl dX2_wordOf_72 ?_
    refine lv_iload_n hx hb dX2_wordOf_75 rfl (lv_at hl 3 rfl) ?_
    obtain ⟨r7, hc6, h⟩ := bd_some h
    refine cRi (runN (As := [.ref (Q_p1 10), .int x3]) (rest := []) C hK (mX8_at l D a hc6) lk_N_2_47 okN_X8_at ⟨Nat.le_of_ble_eq_true rfl, Nat.le_of_ble_eq_true rfl⟩ ⟨rfl, rfl⟩ (preR hK (P_of_map (wc := ra0 a (Q_p1 10) 10 (gT z_p1 10)) hP [6] rfl)) hl.1 rfl (Nat.le_of_ble_eq_true rfl) dX2_wordOf_76 ⟨Nat.le_of_ble_eq_true rfl, Nat.le_of_ble_eq_true rfl⟩) ?_
    refine lv_i2l (v := r7.toInt64) hx hb dX2_wordOf_79 rfl ?_
    exact rRl C rfl (Option.some.inj h) dX2_wordOf_80
  have h := ite_f c1_3 h
  by_cases c1_4 : x0 = 316
  · have h := ite_t c1_4 h
    refine lv_tableIn (off := 80) (tgt := 81) hx hb dX2_wordOf_1 (by rw [c1_4]; decide) (by rw [c1_4]; decide) (by rw [c1_4]; decide) (by decide) ?_
    refine lv_aload_n hx hb dX2_wordOf_81 rfl (lv_at hl 1 rfl) ?_
    refine va_get (D := D) (v := .ref (Q_p1 9)) (C := RX7) (T := TX7) (N := 18) hx hb hts iX7 hown hK.1 hP 0 rfl rfl 9 (by decide) (hts _ t_60) (fun _ h9 => h9) rfl dX2_wordOf_82 ?_
    refine lv_iload_n hx hb dX2_wordOf_85 rfl (lv_at hl 3 rfl) ?_
    obtain ⟨r9, hc8, h⟩ := bd_some h
    refine cRi (runN (As := [.ref (Q_p1 9), .int x3]) (rest := []) C hK (mX8_at l D a hc8) lk_N_2_47 okN_X8_at ⟨Nat.le_of_ble_eq_true rfl, Nat.le_of_ble_eq_true rfl⟩ ⟨rfl, rfl⟩ (preR hK (P_of_map (wc := ra0 a (Q_p1 9) 10 (gT z_p1 9)) hP [5] rfl)) hl.1 rfl (Nat.le_of_ble_eq_true rfl) dX2_wordOf_86 ⟨Nat.le_of_ble_eq_true rfl, Nat.le_of_ble_eq_true rfl⟩) ?_
    refine lv_i2l (v := r9.toInt64) hx hb dX2_wordOf_89 rfl ?_
    exact rRl C rfl (Option.some.inj h) dX2_wordOf_90
  have h := ite_f c1_4 h
  by_cases c1_5 : x0 = 317
  · have h := ite_t c1_5 h
    refine lv_tableIn (off := 90) (tgt := 91) hx hb dX2_wordOf_1 (by rw [c1_5]; decide) (by rw [c1_5]; decide) (by rw [c1_5]; decide) (by decide) ?_
    refine lv_aload_n hx hb dX2_wordOf_91 rfl (lv_at hl 2 rfl) ?_
    refine va_get (D := D) (v := .int (gI z_p2 0)) (C := RX0) (T := TX0) (N := 6) hx hb hts iX0 hown hK.1 hP 13 rfl rfl 0 (by decide) (hts _ t_131) (fun _ h9 => h9) rfl dX2_wordOf_92 ?_
    refine lv_i2l (v := (gI z_p2 0).toInt64) hx hb dX2_wordOf_95 rfl ?_
    exact rRl C rfl (Option.some.inj h) dX2_wordOf_96
  have h := ite_f c1_5 h
  by_cases c1_6 : x0 = 318
  · have h := ite_t c1_6 h
    refine lv_tableIn (off := 96) (tgt := 97) hx hb dX2_wordOf_1 (by rw [c1_6]; decide) (by rw [c1_6]; decide) (by rw [c1_6]; decide) (by decide) ?_
    refine lv_aload_n hx hb dX2_wordOf_97 rfl (lv_at hl 2 rfl) ?_
    refine va_get (D := D) (v := .int (gI z_p2 2)) (C := RX0) (T := TX0) (N := 6) hx hb hts iX0 hown hK.1 hP 13 rfl rfl 2 (by decide) (hts _ t_137) (fun _ h9 => h9) rfl dX2_wordOf_98 ?_
    obtain ⟨r11, hc10, h⟩ := bd_some h
    refine cRi (runS (As := [.int (gI z_p2 2)]) (rest := []) C (mJ6_bitCount_0f7a4 l D a hc10) lk_S_2_105 okN_J6_bitCount_0f7a4 ⟨Nat.le_of_ble_eq_true rfl, Nat.le_of_ble_eq_true rfl⟩ ⟨rfl, rfl⟩ (preR hK (P_of_map (wc := []) hP [] rfl)) hl.1 rfl (Nat.le_of_ble_eq_true rfl) dX2_wordOf_101 ⟨Nat.le_of_ble_eq_true rfl, Nat.le_of_ble_eq_true rfl⟩) ?_
    refine lv_i2l (v := r11.toInt64) hx hb dX2_wordOf_104 rfl ?_
    exact rRl C rfl (Option.some.inj h) dX2_wordOf_105
  have h := ite_f c1_6 h
  by_cases c1_7 : x0 = 319
  · have h := ite_t c1_7 h
    refine lv_tableIn (off := 105) (tgt := 106) hx hb dX2_wordOf_1 (by rw [c1_7]; decide) (by rw [c1_7]; decide) (by rw [c1_7]; decide) (by decide) ?_
    refine lv_aload_n hx hb dX2_wordOf_106 rfl (lv_at hl 2 rfl) ?_
    refine va_get (D := D) (v := .ref (Q_p2 5)) (C := RX0) (T := TX0) (N := 6) hx hb hts iX0 hown hK.1 hP 13 rfl rfl 5 (by decide) (hts _ t_145) (fun _ h9 => h9) rfl dX2_wordOf_107 ?_
    refine lv_iload_n hx hb dX2_wordOf_110 rfl (lv_at hl 3 rfl) ?_
    obtain ⟨r13, hc12, h⟩ := bd_some h
    refine cRi (runN (As := [.ref (Q_p2 5), .int x3]) (rest := []) C hK (mX8_at l D a hc12) lk_N_2_47 okN_X8_at ⟨Nat.le_of_ble_eq_true rfl, Nat.le_of_ble_eq_true rfl⟩ ⟨rfl, rfl⟩ (preR hK (P_of_map (wc := ra0 a (Q_p2 5) 10 (gT z_p2 5)) hP [14] rfl)) hl.1 rfl (Nat.le_of_ble_eq_true rfl) dX2_wordOf_111 ⟨Nat.le_of_ble_eq_true rfl, Nat.le_of_ble_eq_true rfl⟩) ?_
    refine lv_i2l (v := r13.toInt64) hx hb dX2_wordOf_114 rfl ?_
    exact rRl C rfl (Option.some.inj h) dX2_wordOf_115
  have h := ite_f c1_7 h
  refine lv_tableOut (tgt := 116) hx hb dX2_wordOf_1 (by have := lv_neT c1_0 (show (312 : Int32).toInt = 312 by decide); have := lv_neT c1_1 (show (313 : Int32).toInt = 313 by decide); have := lv_neT c1_2 (show (314 : Int32).toInt = 314 by decide); have := lv_neT c1_3 (show (315 : Int32).toInt = 315 by decide); have := lv_neT c1_4 (show (316 : Int32).toInt = 316 by decide); have := lv_neT c1_5 (show (317 : Int32).toInt = 317 by decide); have := lv_neT c1_6 (show (318 : Int32).toInt = 318 by decide); have := lv_neT c1_7 (show (319 : Int32).toInt = 319 by decide); omega) (by decide) ?_
  refine lv_aload_n hx hb dX2_wordOf_116 rfl (lv_at hl 2 rfl) ?_
  refine va_get (D := D) (v := .int (gI z_p2 1)) (C := RX0) (T := TX0) (N := 6) hx hb hts iX0 hown hK.1 hP 13 rfl rfl 1 (by decide) (hts _ t_134) (fun _ h9 => h9) rfl dX2_wordOf_117 ?_
  refine lv_i2l (v := (gI z_p2 1).toInt64) hx hb dX2_wordOf_120 rfl ?_
  exact rRl C rfl (Option.some.inj h) dX2_wordOf_121

def fX2_compares (x0 : Int32) (x1 : Int64) (x3 : Int64) : Option (Int32) := if x0 = 60 then if x3 ≤ x1 then some 0 else some 1 else if x0 = 61 then if x1 = x3 then some 1 else some 0 else if x0 = 256 then if x3 < x1 then some 0 else some 1 else if x0 = 257 then if x1 < x3 then some 0 else some 1 else if x1 ≤ x3 then some 0 else some 1

set_option maxHeartbeats 4000000 in
set_option maxRecDepth 100000 in
theorem mX2_compares (l : Launch) (D : va_G) (a : Nat → ClassId) {x0 : Int32} {x1 : Int64} {x3 : Int64} {y : Int32} (h : fX2_compares x0 x1 x3 = some y) : CRi l MX2_compares 0 0 D a [.int x0, .long x1, .long x3] ([]) (fun r => r = y) := by
  unfold fX2_compares at h
  refine entR (by decide) (Nat.le_of_ble_eq_true rfl) ?_
  intro p e s m below meth c C hK hP ls hl
  obtain ⟨hx, hb, hml, hown, hts, hr, hlocks, hnm⟩ := id C
  have hb : c.code = cX2_compares := hb
  have hown : s.vm.findClass RX2 = some m.cls := hown
  have hl : lv_has ls 5 [(0, .int x0), (1, .long x1), (3, .long x3)] := hl
  refine lv_iload_n hx hb dX2_compares_0 rfl (lv_at hl 0 rfl) ?_
  by_cases c1_0 : x0 = 60
  · have h := ite_t c1_0 h
    refine lv_lookup (off := 43) (tgt := 44) hx hb dX2_compares_1 (by decide) (by rw [c1_0]; decide) (by decide) ?_
    refine lv_lload_n hx hb dX2_compares_44 rfl (lv_at hl 1 rfl) ?_
    refine lv_lload_n hx hb dX2_compares_45 rfl (lv_at hl 2 rfl) ?_
    refine W.lcmp hx hb dX2_compares_46 ?_
    refine lv_if_ge (tgt := 54) hx hb dX2_compares_47 (by decide) (fun c2 => ?_) (fun c2 => ?_)
    · have h := ite_t ((lg_cmp_ge _ _).mp c2) h
      refine lv_iconst (v := 0) hx hb dX2_compares_54 (by decide) ?_
      exact rRz C rfl (Or.inl rfl) (Option.some.inj h) dX2_compares_55
    · have h := ite_f (fun q => c2 ((lg_cmp_ge _ _).mpr q)) h
      refine lv_iconst (v := 1) hx hb dX2_compares_50 (by decide) ?_
      refine lv_goto (tgt := 55) hx hb dX2_compares_51 (by decide) ?_
      exact rRz C rfl (Or.inr rfl) (Option.some.inj h) dX2_compares_55
  have h := ite_f c1_0 h
  by_cases c1_1 : x0 = 61
  · have h := ite_t c1_1 h
    refine lv_lookup (off := 67) (tgt := 68) hx hb dX2_compares_1 (by decide) (by rw [c1_1]; decide) (by decide) ?_
    refine lv_lload_n hx hb dX2_compares_68 rfl (lv_at hl 1 rfl) ?_
    refine lv_lload_n hx hb dX2_compares_69 rfl (lv_at hl 2 rfl) ?_
    refine W.lcmp hx hb dX2_compares_70 ?_
    refine lv_if_ne (tgt := 78) hx hb dX2_compares_71 (by decide) (fun c3 => ?_) (fun c3 => ?_)
    · have h := ite_f (fun q => c3 ((lg_cmp_eq _ _).mpr q)) h
      refine lv_iconst (v := 0) hx hb dX2_compares_78 (by decide) ?_
      exact rRz C rfl (Or.inl rfl) (Option.some.inj h) dX2_compares_79
    · have h := ite_t ((lg_cmp_eq _ _).mp c3) h
      refine lv_iconst (v := 1) hx hb dX2_compares_74 (by decide) ?_
      refine lv_goto (tgt := 79) hx hb dX2_compares_75 (by decide) ?_
      exact rRz C rfl (Or.inr rfl) (Option.some.inj h) dX2_compares_79
  have h := ite_f c1_1 h
  by_cases c1_2 : x0 = 256
  · have h := ite_t c1_2 h
    refine lv_lookup (off := 55) (tgt := 56) hx hb dX2_compares_1 (by decide) (by rw [c1_2]; decide) (by decide) ?_
    refine lv_lload_n hx hb dX2_compares_56 rfl (lv_at hl 1 rfl) ?_
    refine lv_lload_n hx hb dX2_compares_57 rfl (lv_at hl 2 rfl) ?_
    refine W.lcmp hx hb dX2_compares_58 ?_
    refine lv_if_gt (tgt := 66) hx hb dX2_compares_59 (by decide) (fun c4 => ?_) (fun c4 => ?_)
    · have h := ite_t ((lg_cmp_gt _ _).mp c4) h
      refine lv_iconst (v := 0) hx hb dX2_compares_66 (by decide) ?_
      exact rRz C rfl (Or.inl rfl) (Option.some.inj h) dX2_compares_67
    · have h := ite_f (fun q => c4 ((lg_cmp_gt _ _).mpr q)) h
      refine lv_iconst (v := 1) hx hb dX2_compares_62 (by decide) ?_
      refine lv_goto (tgt := 67) hx hb dX2_compares_63 (by decide) ?_
      exact rRz C rfl (Or.inr rfl) (Option.some.inj h) dX2_compares_67
  have h := ite_f c1_2 h
  by_cases c1_3 : x0 = 257
  · have h := ite_t c1_3 h
    refine lv_lookup (off := 79) (tgt := 80) hx hb dX2_compares_1 (by decide) (by rw [c1_3]; decide) (by decide) ?_
    refine lv_lload_n hx hb dX2_compares_80 rfl (lv_at hl 1 rfl) ?_
    refine lv_lload_n hx hb dX2_compares_81 rfl (lv_at hl 2 rfl) ?_
    refine W.lcmp hx hb dX2_compares_82 ?_
    refine lv_if_lt (tgt := 90) hx hb dX2_compares_83 (by decide) (fun c5 => ?_) (fun c5 => ?_)
    · have h := ite_t ((lg_cmp_lt _ _).mp c5) h
      refine lv_iconst (v := 0) hx hb dX2_compares_90 (by decide) ?_
      exact rRz C rfl (Or.inl rfl) (Option.some.inj h) dX2_compares_91
    · have h := ite_f (fun q => c5 ((lg_cmp_lt _ _).mpr q)) h
      refine lv_iconst (v := 1) hx hb dX2_compares_86 (by decide) ?_
      refine lv_goto (tgt := 91) hx hb dX2_compares_87 (by decide) ?_
      exact rRz C rfl (Or.inr rfl) (Option.some.inj h) dX2_compares_91
  have h := ite_f c1_3 h
  refine lv_lookup (off := 91) (tgt := 92) hx hb dX2_compares_1 (by decide) ((lv_osw c1_0 (by decide)).trans ((lv_osw c1_1 (by decide)).trans ((lv_osw c1_2 (by decide)).trans ((lv_osw c1_3 (by decide)).trans (rfl))))) (by decide) ?_
  refine lv_lload_n hx hb dX2_compares_92 rfl (lv_at hl 1 rfl) ?_
  refine lv_lload_n hx hb dX2_compares_93 rfl (lv_at hl 2 rfl) ?_
  refine W.lcmp hx hb dX2_compares_94 ?_
  refine lv_if_le (tgt := 102) hx hb dX2_compares_95 (by decide) (fun c6 => ?_) (fun c6 => ?_)
  · have h := ite_t ((lg_cmp_le _ _).mp c6) h
    refine lv_iconst (v := 0) hx hb dX2_compares_102 (by decide) ?_
    exact rRz C rfl (Or.inl rfl) (Option.some.inj h) dX2_compares_103
  · have h := ite_f (fun q => c6 ((lg_cmp_le _ _).mpr q)) h
    refine lv_iconst (v := 1) hx hb dX2_compares_98 (by decide) ?_
    refine lv_goto (tgt := 103) hx hb dX2_compares_99 (by decide) ?_
    exact rRz C rfl (Or.inr rfl) (Option.some.inj h) dX2_compares_103

def fX2_join (x0 : Int32) (x1 : Int64) (x3 : Int64) : Option (Int64) := if x0 = 42 then some (x1 * x3) else if x0 = 43 then some (x1 + x3) else if x0 = 45 then some (x1 - x3) else if x0 = 47 then if x3 = 0 then some 0 else gd (¬ x3 = 0) (some (x1 / x3)) else if x0 = 309 then some (x1 ||| x3) else if x0 = 310 then some (x1 &&& x3) else bd (fX2_compares x0 x1 x3) (fun r5 => if r5 = 0 then some 0 else some 1)

set_option maxHeartbeats 4000000 in
set_option maxRecDepth 100000 in
theorem mX2_join (l : Launch) (D : va_G) (a : Nat → ClassId) {x0 : Int32} {x1 : Int64} {x3 : Int64} {y : Int64} (h : fX2_join x0 x1 x3 = some y) : CRl l MX2_join 1 24 D a [.int x0, .long x1, .long x3] ([]) (fun r => r = y) := by
  unfold fX2_join at h
  refine entR (by decide) (Nat.le_of_ble_eq_true rfl) ?_
  intro p e s m below meth c C hK hP ls hl
  obtain ⟨hx, hb, hml, hown, hts, hr, hlocks, hnm⟩ := id C
  have hb : c.code = cX2_join := hb
  have hown : s.vm.findClass RX2 = some m.cls := hown
  have hl : lv_has ls 5 [(0, .int x0), (1, .long x1), (3, .long x3)] := hl
  refine lv_iload_n hx hb dX2_join_0 rfl (lv_at hl 0 rfl) ?_
  by_cases c1_0 : x0 = 42
  · have h := ite_t c1_0 h
    refine lv_lookup (off := 67) (tgt := 68) hx hb dX2_join_1 (by decide) (by rw [c1_0]; decide) (by decide) ?_
    refine lv_lload_n hx hb dX2_join_68 rfl (lv_at hl 1 rfl) ?_
    refine lv_lload_n hx hb dX2_join_69 rfl (lv_at hl 2 rfl) ?_
    refine lv_lmul hx hb dX2_join_70 ?_
    exact rRl C rfl (Option.some.inj h) dX2_join_71
  have h := ite_f c1_0 h
  by_cases c1_1 : x0 = 43
  · have h := ite_t c1_1 h
    refine lv_lookup (off := 59) (tgt := 60) hx hb dX2_join_1 (by decide) (by rw [c1_1]; decide) (by decide) ?_
    refine lv_lload_n hx hb dX2_join_60 rfl (lv_at hl 1 rfl) ?_
    refine lv_lload_n hx hb dX2_join_61 rfl (lv_at hl 2 rfl) ?_
    refine lv_ladd hx hb dX2_join_62 ?_
    exact rRl C rfl (Option.some.inj h) dX2_join_63
  have h := ite_f c1_1 h
  by_cases c1_2 : x0 = 45
  · have h := ite_t c1_2 h
    refine lv_lookup (off := 63) (tgt := 64) hx hb dX2_join_1 (by decide) (by rw [c1_2]; decide) (by decide) ?_
    refine lv_lload_n hx hb dX2_join_64 rfl (lv_at hl 1 rfl) ?_
    refine lv_lload_n hx hb dX2_join_65 rfl (lv_at hl 2 rfl) ?_
    refine lv_lsub hx hb dX2_join_66 ?_
    exact rRl C rfl (Option.some.inj h) dX2_join_67
  have h := ite_f c1_2 h
  by_cases c1_3 : x0 = 47
  · have h := ite_t c1_3 h
    refine lv_lookup (off := 71) (tgt := 72) hx hb dX2_join_1 (by decide) (by rw [c1_3]; decide) (by decide) ?_
    refine lv_lload_n hx hb dX2_join_72 rfl (lv_at hl 2 rfl) ?_
    refine lv_lconst (v := 0) hx hb dX2_join_73 (by decide) ?_
    refine W.lcmp hx hb dX2_join_74 ?_
    refine lv_if_ne (tgt := 82) hx hb dX2_join_75 (by decide) (fun c2 => ?_) (fun c2 => ?_)
    · have h := ite_f (fun q => c2 ((lg_cmp_eq _ _).mpr q)) h
      refine lv_lload_n hx hb dX2_join_82 rfl (lv_at hl 1 rfl) ?_
      refine lv_lload_n hx hb dX2_join_83 rfl (lv_at hl 2 rfl) ?_
      obtain ⟨g3, h⟩ := gd_some h
      refine lv_ldiv hx hb dX2_join_84 g3 ?_
      exact rRl C rfl (Option.some.inj h) dX2_join_85
    · have h := ite_t ((lg_cmp_eq _ _).mp c2) h
      refine lv_lconst (v := 0) hx hb dX2_join_78 (by decide) ?_
      refine lv_goto (tgt := 85) hx hb dX2_join_79 (by decide) ?_
      exact rRl C rfl (Option.some.inj h) dX2_join_85
  have h := ite_f c1_3 h
  by_cases c1_4 : x0 = 309
  · have h := ite_t c1_4 h
    refine lv_lookup (off := 89) (tgt := 90) hx hb dX2_join_1 (by decide) (by rw [c1_4]; decide) (by decide) ?_
    refine lv_lload_n hx hb dX2_join_90 rfl (lv_at hl 1 rfl) ?_
    refine lv_lload_n hx hb dX2_join_91 rfl (lv_at hl 2 rfl) ?_
    refine lv_lor hx hb dX2_join_92 ?_
    exact rRl C rfl (Option.some.inj h) dX2_join_93
  have h := ite_f c1_4 h
  by_cases c1_5 : x0 = 310
  · have h := ite_t c1_5 h
    refine lv_lookup (off := 85) (tgt := 86) hx hb dX2_join_1 (by decide) (by rw [c1_5]; decide) (by decide) ?_
    refine lv_lload_n hx hb dX2_join_86 rfl (lv_at hl 1 rfl) ?_
    refine lv_lload_n hx hb dX2_join_87 rfl (lv_at hl 2 rfl) ?_
    refine lv_land hx hb dX2_join_88 ?_
    exact rRl C rfl (Option.some.inj h) dX2_join_89
  have h := ite_f c1_5 h
  refine lv_lookup (off := 93) (tgt := 94) hx hb dX2_join_1 (by decide) ((lv_osw c1_0 (by decide)).trans ((lv_osw c1_1 (by decide)).trans ((lv_osw c1_2 (by decide)).trans ((lv_osw c1_3 (by decide)).trans ((lv_osw c1_4 (by decide)).trans ((lv_osw c1_5 (by decide)).trans (rfl))))))) (by decide) ?_
  refine lv_iload_n hx hb dX2_join_94 rfl (lv_at hl 0 rfl) ?_
  refine lv_lload_n hx hb dX2_join_95 rfl (lv_at hl 1 rfl) ?_
  refine lv_lload_n hx hb dX2_join_96 rfl (lv_at hl 2 rfl) ?_
  obtain ⟨r5, hc4, h⟩ := bd_some h
  refine cRi (runS (As := [.int x0, .long x1, .long x3]) (rest := []) C (mX2_compares l D a hc4) lk_S_2_117 okN_X2_compares ⟨Nat.le_of_ble_eq_true rfl, Nat.le_of_ble_eq_true rfl⟩ ⟨rfl, rfl⟩ (preR hK hP) hl.1 rfl (Nat.le_of_ble_eq_true rfl) dX2_join_97 ⟨Nat.le_of_ble_eq_true rfl, Nat.le_of_ble_eq_true rfl⟩) ?_
  refine lv_if_eq (tgt := 107) hx hb dX2_join_100 (by decide) (fun c6 => ?_) (fun c6 => ?_)
  · have h := ite_t c6 h
    refine lv_lconst (v := 0) hx hb dX2_join_107 (by decide) ?_
    exact rRl C rfl (Option.some.inj h) dX2_join_108
  · have h := ite_f c6 h
    refine lv_lconst (v := 1) hx hb dX2_join_103 (by decide) ?_
    refine lv_goto (tgt := 108) hx hb dX2_join_104 (by decide) ?_
    exact rRl C rfl (Option.some.inj h) dX2_join_108

def lX2_reckon_10 (k170 : Sx → Int32 → Option (Int64 × Sx)) (n_p1 : Nat) (f_p1 : Nat → Int32) (z_p4 : Sx) (z_p5 : Sx) (x3 : Int32) (x6 : Int32) : Nat → Sx → Int32 → Int32 → Option (Int64 × Sx)
  | 0, _, _, _ => none
  | n + 1, z_t, x7, x8 => if x3 ≤ x8 then k170 z_t x7 else if (nI n_p1) ≤ x8 then k170 z_t x7 else gd (inb x8 n_p1) (jn (fun (z5 : Sx) (i6 : Int32) => lX2_reckon_10 k170 n_p1 f_p1 z_p4 z_p5 x3 x6 n z5 i6 (x8 + 1)) (fun J4 => jn (if (x7 + 1) < 32 then jn (fun (i10 : Int64) (i11 : Int32) => gd (inb i11 32) (J4 (sJ z_t 0 i11.toNatClampNeg i10) (x7 + 1))) (fun J9 => if (f_p1 x8.toNatClampNeg) < 0 then bd (fX2_wordOf z_p4 z_p5 (-(f_p1 x8.toNatClampNeg)) x6) (fun r15 => J9 r15 (x7 + 1)) else J9 ((f_p1 x8.toNatClampNeg).toInt64) (x7 + 1)) else some (0, z_t)) (fun J7 => if 0 ≤ (f_p1 x8.toNatClampNeg) then J7 else if (-312) < (f_p1 x8.toNatClampNeg) then if (f_p1 x8.toNatClampNeg) = (-311) then if 0 ≤ x7 then gd (inb x7 32) (J4 (sJ z_t 0 x7.toNatClampNeg (1 - (gJ z_t 0 x7.toNatClampNeg))) x7) else some (0, z_t) else if 1 ≤ x7 then gd (inb (x7 + (-1)) 32) (gd (inb ((x7 + (-1)) + 1) 32) (bd (fX2_join (-(f_p1 x8.toNatClampNeg)) (gJ z_t 0 ((x7 + (-1)).toNatClampNeg)) (gJ z_t 0 (((x7 + (-1)) + 1).toNatClampNeg))) (fun r23 => J4 (sJ z_t 0 ((x7 + (-1)).toNatClampNeg) r23) (x7 + (-1))))) else some (0, z_t) else J7)))
def fX2_reckon (z_t : Sx) (n_p1 : Nat) (f_p1 : Nat → Int32) (z_p4 : Sx) (z_p5 : Sx) (x2 : Int32) (x3 : Int32) (x6 : Int32) : Option (Int64 × Sx) := lX2_reckon_10 (fun (z26 : Sx) (i27 : Int32) => if 0 ≤ i27 then gd (inb i27 32) (some (gJ z26 0 i27.toNatClampNeg, z26)) else some (0, z26)) n_p1 f_p1 z_p4 z_p5 x3 x6 FU z_t (-1) (mxI x2 0)

set_option maxHeartbeats 4000000 in
set_option maxRecDepth 100000 in
theorem wX2_reckon_10 {p : Program} {l : Launch} {e : Env} {s : State} {m : MethodId} {below : List Frame} {meth : Method} {c : Code} {D : va_G} {a : Nat → ClassId} {A : Nat → Prop} {q_t : Nat} {q_p1 : Nat} {q_p4 : Nat} {q_p5 : Nat} {Q_t : Nat → Nat} {Q_p4 : Nat → Nat} {Q_p5 : Nat → Nat} {n_p1 : Nat} {f_p1 : Nat → Int32} {z_p4 : Sx} {z_p5 : Sx} {x20 : Int32} {x30 : Int32} {x60 : Int32} {x3 : Int32} {x6 : Int32} (C : Cx p s m #[.ref q_t, .ref q_p1, .int x20, .int x30, .ref q_p4, .ref q_p5, .int x60] meth c MX2_reckon) (hK : KK D a s) (hA : ∀ q, s.heap.size ≤ q → A q) {y : Int64 × Sx} {k170 : Sx → Int32 → Option (Int64 × Sx)} (hk170 : ∀ (z_tk : Sx) (x7k : Int32) (H : Heap) (locs : List Loc) (ls : Array Slot), k170 z_tk x7k = some y → va_P D classes (rc2 a q_t Q_t z_tk ++ (ra0 a q_p1 n_p1 f_p1 ++ (rc7 a q_p4 Q_p4 z_p4 ++ (rc0 a q_p5 Q_p5 z_p5)))) H → va_D A (rc2 a q_t Q_t z_tk ++ (ra0 a q_p1 n_p1 f_p1 ++ (rc7 a q_p4 Q_p4 z_p4 ++ (rc0 a q_p5 Q_p5 z_p5)))) → va_S A s.heap H locs → lv_has ls 10 [(0, .ref q_t), (7, .int x7k)] → W p l e (rmM 2 0 0 48) s m #[.ref q_t, .ref q_p1, .int x20, .int x30, .ref q_p4, .ref q_p5, .int x60] below meth c H locs 0 0 (MQ below (va_Ql (fun r (_ : Unit) => r = y.1) (Bw D A (fun _ => rc2 a q_t Q_t y.2 ++ (ra0 a q_p1 n_p1 f_p1 ++ (rc7 a q_p4 Q_p4 z_p4 ++ (rc0 a q_p5 Q_p5 z_p5))))) A) #[.ref q_t, .ref q_p1, .int x20, .int x30, .ref q_p4, .ref q_p5, .int x60] s 0 0 A) (F0 m 170 ls [])) : ∀ (n : Nat) (z_t : Sx) (x7 : Int32) (x8 : Int32) (H : Heap) (locs : List Loc) (ls : Array Slot), lX2_reckon_10 k170 n_p1 f_p1 z_p4 z_p5 x3 x6 n z_t x7 x8 = some y → va_P D classes (rc2 a q_t Q_t z_t ++ (ra0 a q_p1 n_p1 f_p1 ++ (rc7 a q_p4 Q_p4 z_p4 ++ (rc0 a q_p5 Q_p5 z_p5)))) H → va_D A (rc2 a q_t Q_t z_t ++ (ra0 a q_p1 n_p1 f_p1 ++ (rc7 a q_p4 Q_p4 z_p4 ++ (rc0 a q_p5 Q_p5 z_p5)))) → va_S A s.heap H locs → lv_has ls 10 [(0, .ref q_t), (1, .ref q_p1), (3, .int x3), (4, .ref q_p4), (5, .ref q_p5), (6, .int x6), (7, .int x7), (8, .int x8)] → W p l e (rmM 2 0 0 48) s m #[.ref q_t, .ref q_p1, .int x20, .int x30, .ref q_p4, .ref q_p5, .int x60] below meth c H locs 0 0 (MQ below (va_Ql (fun r (_ : Unit) => r = y.1) (Bw D A (fun _ => rc2 a q_t Q_t y.2 ++ (ra0 a q_p1 n_p1 f_p1 ++ (rc7 a q_p4 Q_p4 z_p4 ++ (rc0 a q_p5 Q_p5 z_p5))))) A) #[.ref q_t, .ref q_p1, .int x20, .int x30, .ref q_p4, .ref q_p5, .int x60] s 0 0 A) (F0 m 10 ls []) := by
  obtain ⟨hx, hb, hml, hown, hts, hr, hlocks, hnm⟩ := id C
  have hb : c.code = cX2_reckon := hb
  have hown : s.vm.findClass RX2 = some m.cls := hown
  intro n
  induction n with
  | zero => intro z_t x7 x8 H locs ls h; rw [lX2_reckon_10] at h; cases h
  | succ n ih =>
    intro z_t x7 x8 H locs ls h hP hD hS hl
    rw [lX2_reckon_10] at h
    refine lv_iload hx hb dX2_reckon_10 (lv_at hl 7 rfl) ?_
    refine lv_iload_n hx hb dX2_reckon_12 rfl (lv_at hl 2 rfl) ?_
    refine lv_icmp_ge (tgt := 170) hx hb dX2_reckon_13 (by decide) (fun c1 => ?_) (fun c1 => ?_)
    · have h := ite_t c1 h
      exact hk170 z_t x7 _ _ ls h hP hD hS (lv_sub hl [0, 6] rfl)
    · have h := ite_f c1 h
      refine lv_iload hx hb dX2_reckon_16 (lv_at hl 7 rfl) ?_
      refine lv_aload_n hx hb dX2_reckon_18 rfl (lv_at hl 1 rfl) ?_
      refine va_alen (v := nI n_p1) hx hb hK.1 hP 2 0 rfl rfl rfl dX2_reckon_19 ?_
      refine lv_icmp_ge (tgt := 170) hx hb dX2_reckon_20 (by decide) (fun c2 => ?_) (fun c2 => ?_)
      · have h := ite_t c2 h
        exact hk170 z_t x7 _ _ ls h hP hD hS (lv_sub hl [0, 6] rfl)
      · have h := ite_f c2 h
        refine lv_aload_n hx hb dX2_reckon_23 rfl (lv_at hl 1 rfl) ?_
        refine lv_iload hx hb dX2_reckon_24 (lv_at hl 7 rfl) ?_
        obtain ⟨g3, h⟩ := gd_some h
        refine ald_i hx hb hK.1 hP 2 0 rfl rfl x8.toNatClampNeg (ix_g g3) dX2_reckon_26 ?_
        refine lv_istore (lv' := [(9, .int (f_p1 x8.toNatClampNeg)), (0, .ref q_t), (1, .ref q_p1), (3, .int x3), (4, .ref q_p4), (5, .ref q_p5), (6, .int x6), (7, .int x7), (8, .int x8)]) hx hb dX2_reckon_27 hl (by decide) rfl (fun ls hl => ?_)
        refine lv_iload hx hb dX2_reckon_29 (lv_at hl 0 rfl) ?_
        obtain ⟨J4, eJ4, h⟩ := jn_some h
        have hJ4 : ∀ (z5 : Sx) (i6 : Int32) (H : Heap) (locs : List Loc) (ls : Array Slot), J4 z5 i6 = some y → va_P D classes (rc2 a q_t Q_t z5 ++ (ra0 a q_p1 n_p1 f_p1 ++ (rc7 a q_p4 Q_p4 z_p4 ++ (rc0 a q_p5 Q_p5 z_p5)))) H → va_D A (rc2 a q_t Q_t z5 ++ (ra0 a q_p1 n_p1 f_p1 ++ (rc7 a q_p4 Q_p4 z_p4 ++ (rc0 a q_p5 Q_p5 z_p5)))) → va_S A s.heap H locs → lv_has ls 10 [(0, .ref q_t), (1, .ref q_p1), (3, .int x3), (4, .ref q_p4), (5, .ref q_p5), (6, .int x6), (7, .int i6), (8, .int x8)] → W p l e (rmM 2 0 0 48) s m #[.ref q_t, .ref q_p1, .int x20, .int x30, .ref q_p4, .ref q_p5, .int x60] below meth c H locs 0 0 (MQ below (va_Ql (fun r (_ : Unit) => r = y.1) (Bw D A (fun _ => rc2 a q_t Q_t y.2 ++ (ra0 a q_p1 n_p1 f_p1 ++ (rc7 a q_p4 Q_p4 z_p4 ++ (rc0 a q_p5 Q_p5 z_p5))))) A) #[.ref q_t, .ref q_p1, .int x20, .int x30, .ref q_p4, .ref q_p5, .int x60] s 0 0 A) (F0 m 164 ls []) := by
          intro z5 i6 H locs ls h hP hD hS hl
          rw [eJ4] at h
          refine lv_iinc (v := x8 + 1) (lv' := [(8, .int (x8 + 1)), (0, .ref q_t), (1, .ref q_p1), (3, .int x3), (4, .ref q_p4), (5, .ref q_p5), (6, .int x6), (7, .int i6)]) hx hb dX2_reckon_164 hl (k := 7) rfl rfl (by decide) rfl (fun ls hl => ?_)
          refine lv_goto (tgt := 10) hx hb dX2_reckon_167 (by decide) ?_
          exact ih z5 i6 (x8 + 1) _ _ ls h hP hD hS (lv_sub hl [1, 2, 3, 4, 5, 6, 7, 0] rfl)
        obtain ⟨J7, eJ7, h⟩ := jn_some h
        have hJ7 : ∀ (H : Heap) (locs : List Loc) (ls : Array Slot), J7 = some y → va_P D classes (rc2 a q_t Q_t z_t ++ (ra0 a q_p1 n_p1 f_p1 ++ (rc7 a q_p4 Q_p4 z_p4 ++ (rc0 a q_p5 Q_p5 z_p5)))) H → va_D A (rc2 a q_t Q_t z_t ++ (ra0 a q_p1 n_p1 f_p1 ++ (rc7 a q_p4 Q_p4 z_p4 ++ (rc0 a q_p5 Q_p5 z_p5)))) → va_S A s.heap H locs → lv_has ls 10 [(0, .ref q_t), (1, .ref q_p1), (3, .int x3), (4, .ref q_p4), (5, .ref q_p5), (6, .int x6), (7, .int x7), (8, .int x8), (9, .int (f_p1 x8.toNatClampNeg))] → W p l e (rmM 2 0 0 48) s m #[.ref q_t, .ref q_p1, .int x20, .int x30, .ref q_p4, .ref q_p5, .int x60] below meth c H locs 0 0 (MQ below (va_Ql (fun r (_ : Unit) => r = y.1) (Bw D A (fun _ => rc2 a q_t Q_t y.2 ++ (ra0 a q_p1 n_p1 f_p1 ++ (rc7 a q_p4 Q_p4 z_p4 ++ (rc0 a q_p5 Q_p5 z_p5))))) A) #[.ref q_t, .ref q_p1, .int x20, .int x30, .ref q_p4, .ref q_p5, .int x60] s 0 0 A) (F0 m 42 ls []) := by
          intro H locs ls h hP hD hS hl
          rw [eJ7] at h
          refine lv_iinc (v := x7 + 1) (lv' := [(7, .int (x7 + 1)), (0, .ref q_t), (1, .ref q_p1), (3, .int x3), (4, .ref q_p4), (5, .ref q_p5), (6, .int x6), (8, .int x8), (9, .int (f_p1 x8.toNatClampNeg))]) hx hb dX2_reckon_42 hl (k := 6) rfl rfl (by decide) rfl (fun ls hl => ?_)
          refine lv_iload hx hb dX2_reckon_45 (lv_at hl 0 rfl) ?_
          refine lv_aload_n hx hb dX2_reckon_47 rfl (lv_at hl 1 rfl) ?_
          refine va_get (D := D) (v := .ref (Q_t 0)) (C := RX2) (T := TX2) (N := 1) hx hb hts iX2 hown hK.1 hP 0 rfl rfl 0 (by decide) (hts _ t_274) (fun _ h9 => h9) rfl dX2_reckon_48 ?_
          refine va_alen (v := 32) hx hb hK.1 hP 1 1 rfl rfl rfl dX2_reckon_51 ?_
          refine lv_icmp_lt (tgt := 57) hx hb dX2_reckon_52 (by decide) (fun c8 => ?_) (fun c8 => ?_)
          · have h := ite_t c8 h
            refine lv_aload_n hx hb dX2_reckon_57 rfl (lv_at hl 1 rfl) ?_
            refine va_get (D := D) (v := .ref (Q_t 0)) (C := RX2) (T := TX2) (N := 1) hx hb hts iX2 hown hK.1 hP 0 rfl rfl 0 (by decide) (hts _ t_274) (fun _ h9 => h9) rfl dX2_reckon_58 ?_
            refine lv_iload hx hb dX2_reckon_61 (lv_at hl 0 rfl) ?_
            refine lv_iload hx hb dX2_reckon_63 (lv_at hl 8 rfl) ?_
            obtain ⟨J9, eJ9, h⟩ := jn_some h
            have hJ9 : ∀ (i10 : Int64) (i11 : Int32) (H : Heap) (locs : List Loc) (ls : Array Slot), J9 i10 i11 = some y → va_P D classes (rc2 a q_t Q_t z_t ++ (ra0 a q_p1 n_p1 f_p1 ++ (rc7 a q_p4 Q_p4 z_p4 ++ (rc0 a q_p5 Q_p5 z_p5)))) H → va_D A (rc2 a q_t Q_t z_t ++ (ra0 a q_p1 n_p1 f_p1 ++ (rc7 a q_p4 Q_p4 z_p4 ++ (rc0 a q_p5 Q_p5 z_p5)))) → va_S A s.heap H locs → lv_has ls 10 [(0, .ref q_t), (1, .ref q_p1), (3, .int x3), (4, .ref q_p4), (5, .ref q_p5), (6, .int x6), (7, .int (x7 + 1)), (8, .int x8)] → W p l e (rmM 2 0 0 48) s m #[.ref q_t, .ref q_p1, .int x20, .int x30, .ref q_p4, .ref q_p5, .int x60] below meth c H locs 0 0 (MQ below (va_Ql (fun r (_ : Unit) => r = y.1) (Bw D A (fun _ => rc2 a q_t Q_t y.2 ++ (ra0 a q_p1 n_p1 f_p1 ++ (rc7 a q_p4 Q_p4 z_p4 ++ (rc0 a q_p5 Q_p5 z_p5))))) A) #[.ref q_t, .ref q_p1, .int x20, .int x30, .ref q_p4, .ref q_p5, .int x60] s 0 0 A) (F0 m 86 ls [.long i10, .int i11, .ref (Q_t 0)]) := by
              intro i10 i11 H locs ls h hP hD hS hl
              rw [eJ9] at h
              obtain ⟨g12, h⟩ := gd_some h
              refine ast_l hx hb hK.1 hP hD hS 1 1 rfl rfl i11.toNatClampNeg (ix_g g12) dX2_reckon_86 (fun H locs hP hD hS => ?_)
              have hP : va_P D classes (rc2 a q_t Q_t (sJ z_t 0 i11.toNatClampNeg i10) ++ (ra0 a q_p1 n_p1 f_p1 ++ (rc7 a q_p4 Q_p4 z_p4 ++ (rc0 a q_p5 Q_p5 z_p5)))) H := hP
              have hD : va_D A (rc2 a q_t Q_t (sJ z_t 0 i11.toNatClampNeg i10) ++ (ra0 a q_p1 n_p1 f_p1 ++ (rc7 a q_p4 Q_p4 z_p4 ++ (rc0 a q_p5 Q_p5 z_p5)))) := hD
              refine lv_goto (tgt := 164) hx hb dX2_reckon_87 (by decide) ?_
              exact hJ4 (sJ z_t 0 i11.toNatClampNeg i10) (x7 + 1) _ _ ls h hP hD hS (lv_sub hl [0, 1, 2, 3, 4, 5, 6, 7] rfl)
            refine lv_if_lt (tgt := 74) hx hb dX2_reckon_65 (by decide) (fun c13 => ?_) (fun c13 => ?_)
            · have h := ite_t c13 h
              refine lv_iload hx hb dX2_reckon_74 (lv_at hl 8 rfl) ?_
              refine lv_ineg hx hb dX2_reckon_76 ?_
              refine lv_aload hx hb dX2_reckon_77 (lv_at hl 4 rfl) ?_
              refine lv_aload hx hb dX2_reckon_79 (lv_at hl 5 rfl) ?_
              refine lv_iload hx hb dX2_reckon_81 (lv_at hl 6 rfl) ?_
              obtain ⟨r15, hc14, h⟩ := bd_some h
              refine cRl (runS (As := [.int (-(f_p1 x8.toNatClampNeg)), .ref q_p4, .ref q_p5, .int x6]) (rest := [.int (x7 + 1), .ref (Q_t 0)]) C (mX2_wordOf l D a hc14) lk_S_2_85 okN_X2_wordOf ⟨Nat.le_of_ble_eq_true rfl, Nat.le_of_ble_eq_true rfl⟩ ⟨rfl, rfl⟩ (preR hK (P_of_map (wc := rc7 a q_p4 Q_p4 z_p4 ++ (rc0 a q_p5 Q_p5 z_p5)) hP [3, 4, 5, 6, 7, 8, 9, 10, 11, 12, 13, 14, 15, 16, 17] rfl)) hl.1 rfl (Nat.le_of_ble_eq_true rfl) dX2_reckon_83 ⟨Nat.le_of_ble_eq_true rfl, Nat.le_of_ble_eq_true rfl⟩) ?_
              exact hJ9 r15 (x7 + 1) _ _ ls h hP hD hS (lv_sub hl [1, 2, 3, 4, 5, 6, 0, 7] rfl)
            · have h := ite_f c13 h
              refine lv_iload hx hb dX2_reckon_68 (lv_at hl 8 rfl) ?_
              refine lv_i2l (v := (f_p1 x8.toNatClampNeg).toInt64) hx hb dX2_reckon_70 rfl ?_
              refine lv_goto (tgt := 86) hx hb dX2_reckon_71 (by decide) ?_
              exact hJ9 ((f_p1 x8.toNatClampNeg).toInt64) (x7 + 1) _ _ ls h hP hD hS (lv_sub hl [1, 2, 3, 4, 5, 6, 0, 7] rfl)
          · have h := ite_f c8 h
            refine lv_lconst (v := 0) hx hb dX2_reckon_55 (by decide) ?_
            exact rMl C rfl h (g := fun y => rc2 a q_t Q_t y.2 ++ (ra0 a q_p1 n_p1 f_p1 ++ (rc7 a q_p4 Q_p4 z_p4 ++ (rc0 a q_p5 Q_p5 z_p5)))) (pr := fun y => y.1) hP hD hS dX2_reckon_56
        refine lv_if_ge (tgt := 42) hx hb dX2_reckon_31 (by decide) (fun c16 => ?_) (fun c16 => ?_)
        · have h := ite_t c16 h
          exact hJ7 _ _ ls h hP hD hS (lv_sub hl [1, 2, 3, 4, 5, 6, 7, 8, 0] rfl)
        · have h := ite_f c16 h
          refine lv_iload hx hb dX2_reckon_34 (lv_at hl 0 rfl) ?_
          refine lv_sipush (v := (-312)) hx hb dX2_reckon_36 (by decide) ?_
          refine lv_icmp_gt (tgt := 90) hx hb dX2_reckon_39 (by decide) (fun c17 => ?_) (fun c17 => ?_)
          · have h := ite_t c17 h
            refine lv_iload hx hb dX2_reckon_90 (lv_at hl 0 rfl) ?_
            refine lv_sipush (v := (-311)) hx hb dX2_reckon_92 (by decide) ?_
            refine lv_icmp_ne (tgt := 124) hx hb dX2_reckon_95 (by decide) (fun c18 => ?_) (fun c18 => ?_)
            · have h := ite_f c18 h
              refine lv_iload hx hb dX2_reckon_124 (lv_at hl 7 rfl) ?_
              refine lv_iconst (v := 1) hx hb dX2_reckon_126 (by decide) ?_
              refine lv_icmp_ge (tgt := 132) hx hb dX2_reckon_127 (by decide) (fun c19 => ?_) (fun c19 => ?_)
              · have h := ite_t c19 h
                refine lv_iinc (v := x7 + (-1)) (lv' := [(7, .int (x7 + (-1))), (9, .int (f_p1 x8.toNatClampNeg)), (0, .ref q_t), (1, .ref q_p1), (3, .int x3), (4, .ref q_p4), (5, .ref q_p5), (6, .int x6), (8, .int x8)]) hx hb dX2_reckon_132 hl (k := 7) rfl rfl (by decide) rfl (fun ls hl => ?_)
                refine lv_aload_n hx hb dX2_reckon_135 rfl (lv_at hl 2 rfl) ?_
                refine va_get (D := D) (v := .ref (Q_t 0)) (C := RX2) (T := TX2) (N := 1) hx hb hts iX2 hown hK.1 hP 0 rfl rfl 0 (by decide) (hts _ t_274) (fun _ h9 => h9) rfl dX2_reckon_136 ?_
                refine lv_iload hx hb dX2_reckon_139 (lv_at hl 0 rfl) ?_
                refine lv_iload hx hb dX2_reckon_141 (lv_at hl 1 rfl) ?_
                refine lv_ineg hx hb dX2_reckon_143 ?_
                refine lv_aload_n hx hb dX2_reckon_144 rfl (lv_at hl 2 rfl) ?_
                refine va_get (D := D) (v := .ref (Q_t 0)) (C := RX2) (T := TX2) (N := 1) hx hb hts iX2 hown hK.1 hP 0 rfl rfl 0 (by decide) (hts _ t_274) (fun _ h9 => h9) rfl dX2_reckon_145 ?_
                refine lv_iload hx hb dX2_reckon_148 (lv_at hl 0 rfl) ?_
                obtain ⟨g20, h⟩ := gd_some h
                refine ald_l hx hb hK.1 hP 1 1 rfl rfl ((x7 + (-1)).toNatClampNeg) (ix_g g20) dX2_reckon_150 ?_
                refine lv_aload_n hx hb dX2_reckon_151 rfl (lv_at hl 2 rfl) ?_
                refine va_get (D := D) (v := .ref (Q_t 0)) (C := RX2) (T := TX2) (N := 1) hx hb hts iX2 hown hK.1 hP 0 rfl rfl 0 (by decide) (hts _ t_274) (fun _ h9 => h9) rfl dX2_reckon_152 ?_
                refine lv_iload hx hb dX2_reckon_155 (lv_at hl 0 rfl) ?_
                refine lv_iconst (v := 1) hx hb dX2_reckon_157 (by decide) ?_
                refine lv_iadd hx hb dX2_reckon_158 ?_
                obtain ⟨g21, h⟩ := gd_some h
                refine ald_l hx hb hK.1 hP 1 1 rfl rfl (((x7 + (-1)) + 1).toNatClampNeg) (ix_g g21) dX2_reckon_159 ?_
                obtain ⟨r23, hc22, h⟩ := bd_some h
                refine cRl (runS (As := [.int (-(f_p1 x8.toNatClampNeg)), .long (gJ z_t 0 ((x7 + (-1)).toNatClampNeg)), .long (gJ z_t 0 (((x7 + (-1)) + 1).toNatClampNeg))]) (rest := [.int (x7 + (-1)), .ref (Q_t 0)]) C (mX2_join l D a hc22) lk_S_2_89 okN_X2_join ⟨Nat.le_of_ble_eq_true rfl, Nat.le_of_ble_eq_true rfl⟩ ⟨rfl, rfl⟩ (preR hK (P_of_map (wc := []) hP [] rfl)) hl.1 rfl (Nat.le_of_ble_eq_true rfl) dX2_reckon_160 ⟨Nat.le_of_ble_eq_true rfl, Nat.le_of_ble_eq_true rfl⟩) ?_
                refine ast_l hx hb hK.1 hP hD hS 1 1 rfl rfl ((x7 + (-1)).toNatClampNeg) (ix_g g20) dX2_reckon_163 (fun H locs hP hD hS => ?_)
                have hP : va_P D classes (rc2 a q_t Q_t (sJ z_t 0 ((x7 + (-1)).toNatClampNeg) r23) ++ (ra0 a q_p1 n_p1 f_p1 ++ (rc7 a q_p4 Q_p4 z_p4 ++ (rc0 a q_p5 Q_p5 z_p5)))) H := hP
                have hD : va_D A (rc2 a q_t Q_t (sJ z_t 0 ((x7 + (-1)).toNatClampNeg) r23) ++ (ra0 a q_p1 n_p1 f_p1 ++ (rc7 a q_p4 Q_p4 z_p4 ++ (rc0 a q_p5 Q_p5 z_p5)))) := hD
                exact hJ4 (sJ z_t 0 ((x7 + (-1)).toNatClampNeg) r23) (x7 + (-1)) _ _ ls h hP hD hS (lv_sub hl [2, 3, 4, 5, 6, 7, 0, 8] rfl)
              · have h := ite_f c19 h
                refine lv_lconst (v := 0) hx hb dX2_reckon_130 (by decide) ?_
                exact rMl C rfl h (g := fun y => rc2 a q_t Q_t y.2 ++ (ra0 a q_p1 n_p1 f_p1 ++ (rc7 a q_p4 Q_p4 z_p4 ++ (rc0 a q_p5 Q_p5 z_p5)))) (pr := fun y => y.1) hP hD hS dX2_reckon_131
            · have h := ite_t c18 h
              refine lv_iload hx hb dX2_reckon_98 (lv_at hl 7 rfl) ?_
              refine lv_if_ge (tgt := 105) hx hb dX2_reckon_100 (by decide) (fun c24 => ?_) (fun c24 => ?_)
              · have h := ite_t c24 h
                refine lv_aload_n hx hb dX2_reckon_105 rfl (lv_at hl 1 rfl) ?_
                refine va_get (D := D) (v := .ref (Q_t 0)) (C := RX2) (T := TX2) (N := 1) hx hb hts iX2 hown hK.1 hP 0 rfl rfl 0 (by decide) (hts _ t_274) (fun _ h9 => h9) rfl dX2_reckon_106 ?_
                refine lv_iload hx hb dX2_reckon_109 (lv_at hl 7 rfl) ?_
                refine lv_lconst (v := 1) hx hb dX2_reckon_111 (by decide) ?_
                refine lv_aload_n hx hb dX2_reckon_112 rfl (lv_at hl 1 rfl) ?_
                refine va_get (D := D) (v := .ref (Q_t 0)) (C := RX2) (T := TX2) (N := 1) hx hb hts iX2 hown hK.1 hP 0 rfl rfl 0 (by decide) (hts _ t_274) (fun _ h9 => h9) rfl dX2_reckon_113 ?_
                refine lv_iload hx hb dX2_reckon_116 (lv_at hl 7 rfl) ?_
                obtain ⟨g25, h⟩ := gd_some h
                refine ald_l hx hb hK.1 hP 1 1 rfl rfl x7.toNatClampNeg (ix_g g25) dX2_reckon_118 ?_
                refine lv_lsub hx hb dX2_reckon_119 ?_
                refine ast_l hx hb hK.1 hP hD hS 1 1 rfl rfl x7.toNatClampNeg (ix_g g25) dX2_reckon_120 (fun H locs hP hD hS => ?_)
                have hP : va_P D classes (rc2 a q_t Q_t (sJ z_t 0 x7.toNatClampNeg (1 - (gJ z_t 0 x7.toNatClampNeg))) ++ (ra0 a q_p1 n_p1 f_p1 ++ (rc7 a q_p4 Q_p4 z_p4 ++ (rc0 a q_p5 Q_p5 z_p5)))) H := hP
                have hD : va_D A (rc2 a q_t Q_t (sJ z_t 0 x7.toNatClampNeg (1 - (gJ z_t 0 x7.toNatClampNeg))) ++ (ra0 a q_p1 n_p1 f_p1 ++ (rc7 a q_p4 Q_p4 z_p4 ++ (rc0 a q_p5 Q_p5 z_p5)))) := hD
                refine lv_goto (tgt := 164) hx hb dX2_reckon_121 (by decide) ?_
                exact hJ4 (sJ z_t 0 x7.toNatClampNeg (1 - (gJ z_t 0 x7.toNatClampNeg))) x7 _ _ ls h hP hD hS (lv_sub hl [1, 2, 3, 4, 5, 6, 7, 8] rfl)
              · have h := ite_f c24 h
                refine lv_lconst (v := 0) hx hb dX2_reckon_103 (by decide) ?_
                exact rMl C rfl h (g := fun y => rc2 a q_t Q_t y.2 ++ (ra0 a q_p1 n_p1 f_p1 ++ (rc7 a q_p4 Q_p4 z_p4 ++ (rc0 a q_p5 Q_p5 z_p5)))) (pr := fun y => y.1) hP hD hS dX2_reckon_104
          · have h := ite_f c17 h
            exact hJ7 _ _ ls h hP hD hS (lv_sub hl [1, 2, 3, 4, 5, 6, 7, 8, 0] rfl)

set_option maxHeartbeats 4000000 in
set_option maxRecDepth 100000 in
theorem mX2_reckon (l : Launch) (D : va_G) (a : Nat → ClassId) {q_t : Nat} {q_p1 : Nat} {q_p4 : Nat} {q_p5 : Nat} {Q_t : Nat → Nat} {z_t : Sx} {n_p1 : Nat} {f_p1 : Nat → Int32} {Q_p4 : Nat → Nat} {z_p4 : Sx} {Q_p5 : Nat → Nat} {z_p5 : Sx} {x2 : Int32} {x3 : Int32} {x6 : Int32} {y : Int64 × Sx} (h : fX2_reckon z_t n_p1 f_p1 z_p4 z_p5 x2 x3 x6 = some y) (sz : Nat) : CMl (S := Unit) l MX2_reckon 2 48 0 0 D a [.ref q_t, .ref q_p1, .int x2, .int x3, .ref q_p4, .ref q_p5, .int x6] (rc2 a q_t Q_t z_t ++ (ra0 a q_p1 n_p1 f_p1 ++ (rc7 a q_p4 Q_p4 z_p4 ++ (rc0 a q_p5 Q_p5 z_p5)))) sz (fun r _ => r = y.1) (fun _ => rc2 a q_t Q_t y.2 ++ (ra0 a q_p1 n_p1 f_p1 ++ (rc7 a q_p4 Q_p4 z_p4 ++ (rc0 a q_p5 Q_p5 z_p5)))) := by
  unfold fX2_reckon at h
  refine entMl (by decide) (Nat.le_of_ble_eq_true rfl) ?_
  intro p e s m below meth c C hK A hA hP hD ls hl
  obtain ⟨hx, hb, hml, hown, hts, hr, hlocks, hnm⟩ := id C
  have hb : c.code = cX2_reckon := hb
  have hown : s.vm.findClass RX2 = some m.cls := hown
  have hS : va_S A s.heap s.heap [] := va_S.rf
  have hl : lv_has ls 10 [(0, .ref q_t), (1, .ref q_p1), (2, .int x2), (3, .int x3), (4, .ref q_p4), (5, .ref q_p5), (6, .int x6)] := hl
  refine lv_iconst (v := (-1)) hx hb dX2_reckon_0 (by decide) ?_
  refine lv_istore (lv' := [(7, .int (-1)), (0, .ref q_t), (1, .ref q_p1), (2, .int x2), (3, .int x3), (4, .ref q_p4), (5, .ref q_p5), (6, .int x6)]) hx hb dX2_reckon_1 hl (by decide) rfl (fun ls hl => ?_)
  refine lv_iload_n hx hb dX2_reckon_3 rfl (lv_at hl 3 rfl) ?_
  refine lv_iconst (v := 0) hx hb dX2_reckon_4 (by decide) ?_
  refine va_mmax hx hb (by rw [hml]; exact hl.1.symm) hown (hts _ t_716) (hts _ t_497) (hts _ t_14) (hts _ t_498) (Nat.le_of_ble_eq_true rfl) (Nat.le_of_ble_eq_true rfl) (Nat.le_of_ble_eq_true rfl) (Nat.le_of_ble_eq_true rfl) dX2_reckon_5 ?_
  refine lv_istore (lv' := [(8, .int (mxI x2 0)), (7, .int (-1)), (0, .ref q_t), (1, .ref q_p1), (2, .int x2), (3, .int x3), (4, .ref q_p4), (5, .ref q_p5), (6, .int x6)]) hx hb dX2_reckon_8 hl (by decide) rfl (fun ls hl => ?_)
  refine wX2_reckon_10 C hK hA ?_ FU z_t (-1) (mxI x2 0) _ _ ls h hP hD hS (lv_sub hl [2, 3, 5, 6, 7, 8, 1, 0] rfl)
  · intro z26 i27 H locs ls h hP hD hS hl
    refine lv_iload hx hb dX2_reckon_170 (lv_at hl 1 rfl) ?_
    refine lv_if_ge (tgt := 179) hx hb dX2_reckon_172 (by decide) (fun c28 => ?_) (fun c28 => ?_)
    · have h := ite_t c28 h
      refine lv_aload_n hx hb dX2_reckon_179 rfl (lv_at hl 0 rfl) ?_
      refine va_get (D := D) (v := .ref (Q_t 0)) (C := RX2) (T := TX2) (N := 1) hx hb hts iX2 hown hK.1 hP 0 rfl rfl 0 (by decide) (hts _ t_274) (fun _ h9 => h9) rfl dX2_reckon_180 ?_
      refine lv_iload hx hb dX2_reckon_183 (lv_at hl 1 rfl) ?_
      obtain ⟨g29, h⟩ := gd_some h
      refine ald_l hx hb hK.1 hP 1 1 rfl rfl i27.toNatClampNeg (ix_g g29) dX2_reckon_185 ?_
      exact rMl C rfl h (g := fun y => rc2 a q_t Q_t y.2 ++ (ra0 a q_p1 n_p1 f_p1 ++ (rc7 a q_p4 Q_p4 z_p4 ++ (rc0 a q_p5 Q_p5 z_p5)))) (pr := fun y => y.1) hP hD hS dX2_reckon_186
    · have h := ite_f c28 h
      refine lv_lconst (v := 0) hx hb dX2_reckon_175 (by decide) ?_
      refine lv_goto (tgt := 186) hx hb dX2_reckon_176 (by decide) ?_
      exact rMl C rfl h (g := fun y => rc2 a q_t Q_t y.2 ++ (ra0 a q_p1 n_p1 f_p1 ++ (rc7 a q_p4 Q_p4 z_p4 ++ (rc0 a q_p5 Q_p5 z_p5)))) (pr := fun y => y.1) hP hD hS dX2_reckon_186

def lX2_lookClause_3 (z_p1 : Sx) (nc_p2 : Nat) (z_p2 : Sx) (z_p3 : Sx) (x4 : Int32) : Nat → Sx → Int32 → Option (Int32 × Sx)
  | 0, _, _ => none
  | n + 1, z_t, x5 => if (gI z_p2 1) ≤ x5 then some ((-1), z_t) else bd (fX8_at 12 (gT z_p2 3) x5) (fun r3 => bd (fX8_at 12 (gT z_p2 4) x5) (fun r5 => bd (fX8_at 12 (gT z_p2 2) x5) (fun r7 => jn (fun (i9 : Int32) => jn (fun (z11 : Sx) => lX2_lookClause_3 z_p1 nc_p2 z_p2 z_p3 x4 n z11 (x5 + 1)) (fun J10 => if i9 = 0 then J10 z_t else if r3 = r5 then some (x5, z_t) else bd2 (fX2_reckon z_t nc_p2 (gT z_p2 0) z_p1 z_p3 r3 r5 x4) (fun r15 z16 => if r15 = 0 then J10 z16 else some (x5, z16)))) (fun J8 => if r3 ≤ r7 then J8 0 else J8 1))))
def fX2_lookClause (z_t : Sx) (z_p1 : Sx) (nc_p2 : Nat) (z_p2 : Sx) (z_p3 : Sx) (x4 : Int32) : Option (Int32 × Sx) := lX2_lookClause_3 z_p1 nc_p2 z_p2 z_p3 x4 FU z_t 0

set_option maxHeartbeats 4000000 in
set_option maxRecDepth 100000 in
theorem wX2_lookClause_3 {p : Program} {l : Launch} {e : Env} {s : State} {m : MethodId} {below : List Frame} {meth : Method} {c : Code} {D : va_G} {a : Nat → ClassId} {A : Nat → Prop} {q_t : Nat} {q_p1 : Nat} {q_p2 : Nat} {q_p3 : Nat} {Q_t : Nat → Nat} {Q_p1 : Nat → Nat} {Q_p2 : Nat → Nat} {Q_p3 : Nat → Nat} {z_p1 : Sx} {nc_p2 : Nat} {z_p2 : Sx} {z_p3 : Sx} {x40 : Int32} {x4 : Int32} (C : Cx p s m #[.ref q_t, .ref q_p1, .ref q_p2, .ref q_p3, .int x40] meth c MX2_lookClause) (hK : KK D a s) (hA : ∀ q, s.heap.size ≤ q → A q) {y : Int32 × Sx} : ∀ (n : Nat) (z_t : Sx) (x5 : Int32) (H : Heap) (locs : List Loc) (ls : Array Slot), lX2_lookClause_3 z_p1 nc_p2 z_p2 z_p3 x4 n z_t x5 = some y → va_P D classes (rc2 a q_t Q_t z_t ++ (rc7 a q_p1 Q_p1 z_p1 ++ (rc3 a q_p2 Q_p2 nc_p2 z_p2 ++ (rc0 a q_p3 Q_p3 z_p3)))) H → va_D A (rc2 a q_t Q_t z_t ++ (rc7 a q_p1 Q_p1 z_p1 ++ (rc3 a q_p2 Q_p2 nc_p2 z_p2 ++ (rc0 a q_p3 Q_p3 z_p3)))) → va_S A s.heap H locs → lv_has ls 9 [(0, .ref q_t), (1, .ref q_p1), (2, .ref q_p2), (3, .ref q_p3), (4, .int x4), (5, .int x5)] → W p l e (rmM 3 0 0 77) s m #[.ref q_t, .ref q_p1, .ref q_p2, .ref q_p3, .int x40] below meth c H locs 0 0 (MQ below (va_Qi (fun r (_ : Unit) => r = y.1) (Bw D A (fun _ => rc2 a q_t Q_t y.2 ++ (rc7 a q_p1 Q_p1 z_p1 ++ (rc3 a q_p2 Q_p2 nc_p2 z_p2 ++ (rc0 a q_p3 Q_p3 z_p3))))) A) #[.ref q_t, .ref q_p1, .ref q_p2, .ref q_p3, .int x40] s 0 0 A) (F0 m 3 ls []) := by
  obtain ⟨hx, hb, hml, hown, hts, hr, hlocks, hnm⟩ := id C
  have hb : c.code = cX2_lookClause := hb
  have hown : s.vm.findClass RX2 = some m.cls := hown
  intro n
  induction n with
  | zero => intro z_t x5 H locs ls h; rw [lX2_lookClause_3] at h; cases h
  | succ n ih =>
    intro z_t x5 H locs ls h hP hD hS hl
    rw [lX2_lookClause_3] at h
    refine lv_iload hx hb dX2_lookClause_3 (lv_at hl 5 rfl) ?_
    refine lv_aload_n hx hb dX2_lookClause_5 rfl (lv_at hl 2 rfl) ?_
    refine va_get (D := D) (v := .int (gI z_p2 1)) (C := RX3) (T := TX3) (N := 5) hx hb hts iX3 hown hK.1 hP 15 rfl rfl 1 (by decide) (hts _ t_584) (fun _ h9 => h9) rfl dX2_lookClause_6 ?_
    refine lv_icmp_ge (tgt := 97) hx hb dX2_lookClause_9 (by decide) (fun c1 => ?_) (fun c1 => ?_)
    · have h := ite_t c1 h
      refine lv_iconst (v := (-1)) hx hb dX2_lookClause_97 (by decide) ?_
      exact rMi C rfl h (g := fun y => rc2 a q_t Q_t y.2 ++ (rc7 a q_p1 Q_p1 z_p1 ++ (rc3 a q_p2 Q_p2 nc_p2 z_p2 ++ (rc0 a q_p3 Q_p3 z_p3)))) (pr := fun y => y.1) hP hD hS dX2_lookClause_98
    · have h := ite_f c1 h
      refine lv_aload_n hx hb dX2_lookClause_12 rfl (lv_at hl 2 rfl) ?_
      refine va_get (D := D) (v := .ref (Q_p2 3)) (C := RX3) (T := TX3) (N := 5) hx hb hts iX3 hown hK.1 hP 15 rfl rfl 3 (by decide) (hts _ t_588) (fun _ h9 => h9) rfl dX2_lookClause_13 ?_
      refine lv_iload hx hb dX2_lookClause_16 (lv_at hl 5 rfl) ?_
      obtain ⟨r3, hc2, h⟩ := bd_some h
      refine cRi (runN (As := [.ref (Q_p2 3), .int x5]) (rest := []) C hK (mX8_at l D a hc2) lk_N_2_47 okN_X8_at ⟨Nat.le_of_ble_eq_true rfl, Nat.le_of_ble_eq_true rfl⟩ ⟨rfl, rfl⟩ (preR hK (P_of_map (wc := ra0 a (Q_p2 3) 12 (gT z_p2 3)) hP [18] rfl)) hl.1 rfl (Nat.le_of_ble_eq_true rfl) dX2_lookClause_18 ⟨Nat.le_of_ble_eq_true rfl, Nat.le_of_ble_eq_true rfl⟩) ?_
      refine lv_istore (lv' := [(6, .int r3), (0, .ref q_t), (1, .ref q_p1), (2, .ref q_p2), (3, .ref q_p3), (4, .int x4), (5, .int x5)]) hx hb dX2_lookClause_21 hl (by decide) rfl (fun ls hl => ?_)
      refine lv_aload_n hx hb dX2_lookClause_23 rfl (lv_at hl 3 rfl) ?_
      refine va_get (D := D) (v := .ref (Q_p2 4)) (C := RX3) (T := TX3) (N := 5) hx hb hts iX3 hown hK.1 hP 15 rfl rfl 4 (by decide) (hts _ t_590) (fun _ h9 => h9) rfl dX2_lookClause_24 ?_
      refine lv_iload hx hb dX2_lookClause_27 (lv_at hl 6 rfl) ?_
      obtain ⟨r5, hc4, h⟩ := bd_some h
      refine cRi (runN (As := [.ref (Q_p2 4), .int x5]) (rest := []) C hK (mX8_at l D a hc4) lk_N_2_47 okN_X8_at ⟨Nat.le_of_ble_eq_true rfl, Nat.le_of_ble_eq_true rfl⟩ ⟨rfl, rfl⟩ (preR hK (P_of_map (wc := ra0 a (Q_p2 4) 12 (gT z_p2 4)) hP [19] rfl)) hl.1 rfl (Nat.le_of_ble_eq_true rfl) dX2_lookClause_29 ⟨Nat.le_of_ble_eq_true rfl, Nat.le_of_ble_eq_true rfl⟩) ?_
      refine lv_istore (lv' := [(7, .int r5), (6, .int r3), (0, .ref q_t), (1, .ref q_p1), (2, .ref q_p2), (3, .ref q_p3), (4, .int x4), (5, .int x5)]) hx hb dX2_lookClause_32 hl (by decide) rfl (fun ls hl => ?_)
      refine lv_aload_n hx hb dX2_lookClause_34 rfl (lv_at hl 4 rfl) ?_
      refine va_get (D := D) (v := .ref (Q_p2 2)) (C := RX3) (T := TX3) (N := 5) hx hb hts iX3 hown hK.1 hP 15 rfl rfl 2 (by decide) (hts _ t_586) (fun _ h9 => h9) rfl dX2_lookClause_35 ?_
      refine lv_iload hx hb dX2_lookClause_38 (lv_at hl 7 rfl) ?_
      obtain ⟨r7, hc6, h⟩ := bd_some h
      refine cRi (runN (As := [.ref (Q_p2 2), .int x5]) (rest := []) C hK (mX8_at l D a hc6) lk_N_2_47 okN_X8_at ⟨Nat.le_of_ble_eq_true rfl, Nat.le_of_ble_eq_true rfl⟩ ⟨rfl, rfl⟩ (preR hK (P_of_map (wc := ra0 a (Q_p2 2) 12 (gT z_p2 2)) hP [17] rfl)) hl.1 rfl (Nat.le_of_ble_eq_true rfl) dX2_lookClause_40 ⟨Nat.le_of_ble_eq_true rfl, Nat.le_of_ble_eq_true rfl⟩) ?_
      refine lv_iload hx hb dX2_lookClause_43 (lv_at hl 1 rfl) ?_
      obtain ⟨J8, eJ8, h⟩ := jn_some h
      have hJ8 : ∀ (i9 : Int32) (H : Heap) (locs : List Loc) (ls : Array Slot), J8 i9 = some y → va_P D classes (rc2 a q_t Q_t z_t ++ (rc7 a q_p1 Q_p1 z_p1 ++ (rc3 a q_p2 Q_p2 nc_p2 z_p2 ++ (rc0 a q_p3 Q_p3 z_p3)))) H → va_D A (rc2 a q_t Q_t z_t ++ (rc7 a q_p1 Q_p1 z_p1 ++ (rc3 a q_p2 Q_p2 nc_p2 z_p2 ++ (rc0 a q_p3 Q_p3 z_p3)))) → va_S A s.heap H locs → lv_has ls 9 [(0, .ref q_t), (1, .ref q_p1), (2, .ref q_p2), (3, .ref q_p3), (4, .int x4), (5, .int x5), (6, .int r3), (7, .int r5)] → W p l e (rmM 3 0 0 77) s m #[.ref q_t, .ref q_p1, .ref q_p2, .ref q_p3, .int x40] below meth c H locs 0 0 (MQ below (va_Qi (fun r (_ : Unit) => r = y.1) (Bw D A (fun _ => rc2 a q_t Q_t y.2 ++ (rc7 a q_p1 Q_p1 z_p1 ++ (rc3 a q_p2 Q_p2 nc_p2 z_p2 ++ (rc0 a q_p3 Q_p3 z_p3))))) A) #[.ref q_t, .ref q_p1, .ref q_p2, .ref q_p3, .int x40] s 0 0 A) (F0 m 53 ls [.int i9]) := by
        intro i9 H locs ls h hP hD hS hl
        rw [eJ8] at h
        refine lv_istore (lv' := [(8, .int i9), (0, .ref q_t), (1, .ref q_p1), (2, .ref q_p2), (3, .ref q_p3), (4, .int x4), (5, .int x5), (6, .int r3), (7, .int r5)]) hx hb dX2_lookClause_53 hl (by decide) rfl (fun ls hl => ?_)
        refine lv_iload hx hb dX2_lookClause_55 (lv_at hl 0 rfl) ?_
        obtain ⟨J10, eJ10, h⟩ := jn_some h
        have hJ10 : ∀ (z11 : Sx) (H : Heap) (locs : List Loc) (ls : Array Slot), J10 z11 = some y → va_P D classes (rc2 a q_t Q_t z11 ++ (rc7 a q_p1 Q_p1 z_p1 ++ (rc3 a q_p2 Q_p2 nc_p2 z_p2 ++ (rc0 a q_p3 Q_p3 z_p3)))) H → va_D A (rc2 a q_t Q_t z11 ++ (rc7 a q_p1 Q_p1 z_p1 ++ (rc3 a q_p2 Q_p2 nc_p2 z_p2 ++ (rc0 a q_p3 Q_p3 z_p3)))) → va_S A s.heap H locs → lv_has ls 9 [(0, .ref q_t), (1, .ref q_p1), (2, .ref q_p2), (3, .ref q_p3), (4, .int x4), (5, .int x5)] → W p l e (rmM 3 0 0 77) s m #[.ref q_t, .ref q_p1, .ref q_p2, .ref q_p3, .int x40] below meth c H locs 0 0 (MQ below (va_Qi (fun r (_ : Unit) => r = y.1) (Bw D A (fun _ => rc2 a q_t Q_t y.2 ++ (rc7 a q_p1 Q_p1 z_p1 ++ (rc3 a q_p2 Q_p2 nc_p2 z_p2 ++ (rc0 a q_p3 Q_p3 z_p3))))) A) #[.ref q_t, .ref q_p1, .ref q_p2, .ref q_p3, .int x40] s 0 0 A) (F0 m 91 ls []) := by
          intro z11 H locs ls h hP hD hS hl
          rw [eJ10] at h
          refine lv_iinc (v := x5 + 1) (lv' := [(5, .int (x5 + 1)), (0, .ref q_t), (1, .ref q_p1), (2, .ref q_p2), (3, .ref q_p3), (4, .int x4)]) hx hb dX2_lookClause_91 hl (k := 5) rfl rfl (by decide) rfl (fun ls hl => ?_)
          refine lv_goto (tgt := 3) hx hb dX2_lookClause_94 (by decide) ?_
          exact ih z11 (x5 + 1) _ _ ls h hP hD hS (lv_sub hl [1, 2, 3, 4, 5, 0] rfl)
        refine lv_if_eq (tgt := 91) hx hb dX2_lookClause_57 (by decide) (fun c12 => ?_) (fun c12 => ?_)
        · have h := ite_t c12 h
          exact hJ10 z_t _ _ ls h hP hD hS (lv_sub hl [1, 2, 3, 4, 5, 6] rfl)
        · have h := ite_f c12 h
          refine lv_iload hx hb dX2_lookClause_60 (lv_at hl 7 rfl) ?_
          refine lv_iload hx hb dX2_lookClause_62 (lv_at hl 8 rfl) ?_
          refine lv_icmp_eq (tgt := 88) hx hb dX2_lookClause_64 (by decide) (fun c13 => ?_) (fun c13 => ?_)
          · have h := ite_t c13 h
            refine lv_iload hx hb dX2_lookClause_88 (lv_at hl 6 rfl) ?_
            exact rMi C rfl h (g := fun y => rc2 a q_t Q_t y.2 ++ (rc7 a q_p1 Q_p1 z_p1 ++ (rc3 a q_p2 Q_p2 nc_p2 z_p2 ++ (rc0 a q_p3 Q_p3 z_p3)))) (pr := fun y => y.1) hP hD hS dX2_lookClause_90
          · have h := ite_f c13 h
            refine lv_aload_n hx hb dX2_lookClause_67 rfl (lv_at hl 1 rfl) ?_
            refine lv_aload_n hx hb dX2_lookClause_68 rfl (lv_at hl 3 rfl) ?_
            refine va_get (D := D) (v := .ref (Q_p2 0)) (C := RX3) (T := TX3) (N := 5) hx hb hts iX3 hown hK.1 hP 15 rfl rfl 0 (by decide) (hts _ t_582) (fun _ h9 => h9) rfl dX2_lookClause_69 ?_
            refine lv_iload hx hb dX2_lookClause_72 (lv_at hl 7 rfl) ?_
            refine lv_iload hx hb dX2_lookClause_74 (lv_at hl 8 rfl) ?_
            refine lv_aload_n hx hb dX2_lookClause_76 rfl (lv_at hl 2 rfl) ?_
            refine lv_aload_n hx hb dX2_lookClause_77 rfl (lv_at hl 4 rfl) ?_
            refine lv_iload hx hb dX2_lookClause_78 (lv_at hl 5 rfl) ?_
            obtain ⟨r15, z16, hc14, h⟩ := bd2_some h
            refine cMl (runV (As := [.ref (Q_p2 0), .int r3, .int r5, .ref q_p1, .ref q_p3, .int x4]) (rest := []) C (mX2_reckon l D a hc14 H.size) lk_V_2_69 okN_X2_reckon ⟨Nat.le_of_ble_eq_true rfl, Nat.le_of_ble_eq_true rfl⟩ ⟨rfl, rfl⟩ (preV (preM hK (P_of_map (wc := rc2 a q_t Q_t z_t ++ (ra0 a (Q_p2 0) nc_p2 (gT z_p2 0) ++ (rc7 a q_p1 Q_p1 z_p1 ++ (rc0 a q_p3 Q_p3 z_p3)))) hP [0, 1, 16, 2, 3, 4, 5, 6, 7, 8, 9, 10, 11, 12, 13, 14, 20, 21] rfl) (hD.sub (ws' := rc2 a q_t Q_t z_t ++ (ra0 a (Q_p2 0) nc_p2 (gT z_p2 0) ++ (rc7 a q_p1 Q_p1 z_p1 ++ (rc0 a q_p3 Q_p3 z_p3)))) [0, 1, 16, 2, 3, 4, 5, 6, 7, 8, 9, 10, 11, 12, 13, 14, 20, 21] (by decide) rfl)) (recvOf hK hP 0 rfl (ci := 2) rfl)) hl.1 rfl (Nat.le_of_ble_eq_true rfl) dX2_lookClause_80 ⟨Nat.le_of_ble_eq_true rfl, Nat.le_of_ble_eq_true rfl⟩) hP hD hS hA [0, 1, 16, 2, 3, 4, 5, 6, 7, 8, 9, 10, 11, 12, 13, 14, 20, 21] [15, 17, 18, 19] [4, 5, 7, 8, 9, 10, 11, 12, 13, 14, 15, 16, 17, 18, 19, 0, 6, 1, 2, 3, 20, 21] rfl rfl (by decide) (by decide) (fw := rc2 a q_t Q_t z16 ++ (rc7 a q_p1 Q_p1 z_p1 ++ (rc3 a q_p2 Q_p2 nc_p2 z_p2 ++ (rc0 a q_p3 Q_p3 z_p3)))) rfl (by decide) (fun H locs hP hD hS => ?_)
            have hP : va_P D classes (rc2 a q_t Q_t z16 ++ (rc7 a q_p1 Q_p1 z_p1 ++ (rc3 a q_p2 Q_p2 nc_p2 z_p2 ++ (rc0 a q_p3 Q_p3 z_p3)))) H := hP
            have hD : va_D A (rc2 a q_t Q_t z16 ++ (rc7 a q_p1 Q_p1 z_p1 ++ (rc3 a q_p2 Q_p2 nc_p2 z_p2 ++ (rc0 a q_p3 Q_p3 z_p3)))) := hD
            refine lv_lconst (v := 0) hx hb dX2_lookClause_83 (by decide) ?_
            refine W.lcmp hx hb dX2_lookClause_84 ?_
            refine lv_if_eq (tgt := 91) hx hb dX2_lookClause_85 (by decide) (fun c17 => ?_) (fun c17 => ?_)
            · have h := ite_t ((lg_cmp_eq _ _).mp c17) h
              exact hJ10 z16 _ _ ls h hP hD hS (lv_sub hl [1, 2, 3, 4, 5, 6] rfl)
            · have h := ite_f (fun q => c17 ((lg_cmp_eq _ _).mpr q)) h
              refine lv_iload hx hb dX2_lookClause_88 (lv_at hl 6 rfl) ?_
              exact rMi C rfl h (g := fun y => rc2 a q_t Q_t y.2 ++ (rc7 a q_p1 Q_p1 z_p1 ++ (rc3 a q_p2 Q_p2 nc_p2 z_p2 ++ (rc0 a q_p3 Q_p3 z_p3)))) (pr := fun y => y.1) hP hD hS dX2_lookClause_90
      refine lv_icmp_ge (tgt := 52) hx hb dX2_lookClause_45 (by decide) (fun c18 => ?_) (fun c18 => ?_)
      · have h := ite_t c18 h
        refine lv_iconst (v := 0) hx hb dX2_lookClause_52 (by decide) ?_
        exact hJ8 0 _ _ ls h hP hD hS (lv_sub hl [2, 3, 4, 5, 6, 7, 1, 0] rfl)
      · have h := ite_f c18 h
        refine lv_iconst (v := 1) hx hb dX2_lookClause_48 (by decide) ?_
        refine lv_goto (tgt := 53) hx hb dX2_lookClause_49 (by decide) ?_
        exact hJ8 1 _ _ ls h hP hD hS (lv_sub hl [2, 3, 4, 5, 6, 7, 1, 0] rfl)

set_option maxHeartbeats 4000000 in
set_option maxRecDepth 100000 in
theorem mX2_lookClause (l : Launch) (D : va_G) (a : Nat → ClassId) {q_t : Nat} {q_p1 : Nat} {q_p2 : Nat} {q_p3 : Nat} {Q_t : Nat → Nat} {z_t : Sx} {Q_p1 : Nat → Nat} {z_p1 : Sx} {Q_p2 : Nat → Nat} {nc_p2 : Nat} {z_p2 : Sx} {Q_p3 : Nat → Nat} {z_p3 : Sx} {x4 : Int32} {y : Int32 × Sx} (h : fX2_lookClause z_t z_p1 nc_p2 z_p2 z_p3 x4 = some y) (sz : Nat) : CMi (S := Unit) l MX2_lookClause 3 77 0 0 D a [.ref q_t, .ref q_p1, .ref q_p2, .ref q_p3, .int x4] (rc2 a q_t Q_t z_t ++ (rc7 a q_p1 Q_p1 z_p1 ++ (rc3 a q_p2 Q_p2 nc_p2 z_p2 ++ (rc0 a q_p3 Q_p3 z_p3)))) sz (fun r _ => r = y.1) (fun _ => rc2 a q_t Q_t y.2 ++ (rc7 a q_p1 Q_p1 z_p1 ++ (rc3 a q_p2 Q_p2 nc_p2 z_p2 ++ (rc0 a q_p3 Q_p3 z_p3)))) := by
  unfold fX2_lookClause at h
  refine entMi (by decide) (Nat.le_of_ble_eq_true rfl) ?_
  intro p e s m below meth c C hK A hA hP hD ls hl
  obtain ⟨hx, hb, hml, hown, hts, hr, hlocks, hnm⟩ := id C
  have hb : c.code = cX2_lookClause := hb
  have hown : s.vm.findClass RX2 = some m.cls := hown
  have hS : va_S A s.heap s.heap [] := va_S.rf
  have hl : lv_has ls 9 [(0, .ref q_t), (1, .ref q_p1), (2, .ref q_p2), (3, .ref q_p3), (4, .int x4)] := hl
  refine lv_iconst (v := 0) hx hb dX2_lookClause_0 (by decide) ?_
  refine lv_istore (lv' := [(5, .int 0), (0, .ref q_t), (1, .ref q_p1), (2, .ref q_p2), (3, .ref q_p3), (4, .int x4)]) hx hb dX2_lookClause_1 hl (by decide) rfl (fun ls hl => ?_)
  refine wX2_lookClause_3 C hK hA FU z_t 0 _ _ ls h hP hD hS (lv_sub hl [1, 2, 3, 4, 5, 0] rfl)

def lX2_nextFault_9 (z_p1 : Sx) (nc_p2 : Nat) (z_p2 : Sx) (z_p3 : Sx) : Nat → Sx → Int32 → Int64 → Int32 → Option (Int32 × Sx)
  | 0, _, _, _, _ => none
  | n + 1, z_t, x4, x5, x7 => if (gI z_p1 3) ≤ x7 then some (x4, z_t) else bd (fX0_gone z_p3) (fun r3 => bd (fX7_isOpen z_p1 x7 r3) (fun r5 => jn (fun (i7 : Int32) => jn (fun (z9 : Sx) (i10 : Int32) => jn (fun (z12 : Sx) (i13 : Int32) (i14 : Int64) => lX2_nextFault_9 z_p1 nc_p2 z_p2 z_p3 n z12 i13 i14 (x7 + 1)) (fun J11 => if i10 < 0 then J11 z9 x4 x5 else bd (fX8_at 12 (gT z_p2 2) i10) (fun r17 => bd (fX8_at 12 (gT z_p2 3) i10) (fun r19 => bd2 (fX2_reckon z9 nc_p2 (gT z_p2 0) z_p1 z_p3 r17 r19 x7) (fun r21 z22 => jn (J11 z22 x7 r21) (fun J23 => if x4 < 0 then J23 else if x5 ≤ r21 then J11 z22 x4 x5 else J23)))))) (fun J8 => if i7 = 0 then J8 z_t (-1) else bd2 (fX2_lookClause z_t z_p1 nc_p2 z_p2 z_p3 x7) (fun r28 z29 => J8 z29 r28))) (fun J6 => jn (J6 0) (fun J30 => if r5 = 0 then J30 else bd (fX8_at 10 (gT z_p1 9) x7) (fun r33 => if (gI z_p3 0) < r33 then J30 else J6 1)))))
def fX2_nextFault (z_t : Sx) (z_p1 : Sx) (nc_p2 : Nat) (z_p2 : Sx) (z_p3 : Sx) : Option (Int32 × Sx) := lX2_nextFault_9 z_p1 nc_p2 z_p2 z_p3 FU z_t (-1) 0 0

set_option maxHeartbeats 4000000 in
set_option maxRecDepth 100000 in
theorem wX2_nextFault_9 {p : Program} {l : Launch} {e : Env} {s : State} {m : MethodId} {below : List Frame} {meth : Method} {c : Code} {D : va_G} {a : Nat → ClassId} {A : Nat → Prop} {q_t : Nat} {q_p1 : Nat} {q_p2 : Nat} {q_p3 : Nat} {Q_t : Nat → Nat} {Q_p1 : Nat → Nat} {Q_p2 : Nat → Nat} {Q_p3 : Nat → Nat} {z_p1 : Sx} {nc_p2 : Nat} {z_p2 : Sx} {z_p3 : Sx} (C : Cx p s m #[.ref q_t, .ref q_p1, .ref q_p2, .ref q_p3] meth c MX2_nextFault) (hK : KK D a s) (hA : ∀ q, s.heap.size ≤ q → A q) {y : Int32 × Sx} : ∀ (n : Nat) (z_t : Sx) (x4 : Int32) (x5 : Int64) (x7 : Int32) (H : Heap) (locs : List Loc) (ls : Array Slot), lX2_nextFault_9 z_p1 nc_p2 z_p2 z_p3 n z_t x4 x5 x7 = some y → va_P D classes (rc2 a q_t Q_t z_t ++ (rc7 a q_p1 Q_p1 z_p1 ++ (rc3 a q_p2 Q_p2 nc_p2 z_p2 ++ (rc0 a q_p3 Q_p3 z_p3)))) H → va_D A (rc2 a q_t Q_t z_t ++ (rc7 a q_p1 Q_p1 z_p1 ++ (rc3 a q_p2 Q_p2 nc_p2 z_p2 ++ (rc0 a q_p3 Q_p3 z_p3)))) → va_S A s.heap H locs → lv_has ls 13 [(0, .ref q_t), (1, .ref q_p1), (2, .ref q_p2), (3, .ref q_p3), (4, .int x4), (5, .long x5), (7, .int x7)] → W p l e (rmM 4 0 0 105) s m #[.ref q_t, .ref q_p1, .ref q_p2, .ref q_p3] below meth c H locs 0 0 (MQ below (va_Qi (fun r (_ : Unit) => r = y.1) (Bw D A (fun _ => rc2 a q_t Q_t y.2 ++ (rc7 a q_p1 Q_p1 z_p1 ++ (rc3 a q_p2 Q_p2 nc_p2 z_p2 ++ (rc0 a q_p3 Q_p3 z_p3))))) A) #[.ref q_t, .ref q_p1, .ref q_p2, .ref q_p3] s 0 0 A) (F0 m 9 ls []) := by
  obtain ⟨hx, hb, hml, hown, hts, hr, hlocks, hnm⟩ := id C
  have hb : c.code = cX2_nextFault := hb
  have hown : s.vm.findClass RX2 = some m.cls := hown
  intro n
  induction n with
  | zero => intro z_t x4 x5 x7 H locs ls h; rw [lX2_nextFault_9] at h; cases h
  | succ n ih =>
    intro z_t x4 x5 x7 H locs ls h hP hD hS hl
    rw [lX2_nextFault_9] at h
    refine lv_iload hx hb dX2_nextFault_9 (lv_at hl 6 rfl) ?_
    refine lv_aload_n hx hb dX2_nextFault_11 rfl (lv_at hl 1 rfl) ?_
    refine va_get (D := D) (v := .int (gI z_p1 3)) (C := RX7) (T := TX7) (N := 18) hx hb hts iX7 hown hK.1 hP 2 rfl rfl 3 (by decide) (hts _ t_46) (fun _ h9 => h9) rfl dX2_nextFault_12 ?_
    refine lv_icmp_ge (tgt := 142) hx hb dX2_nextFault_15 (by decide) (fun c1 => ?_) (fun c1 => ?_)
    · have h := ite_t c1 h
      refine lv_iload hx hb dX2_nextFault_142 (lv_at hl 4 rfl) ?_
      exact rMi C rfl h (g := fun y => rc2 a q_t Q_t y.2 ++ (rc7 a q_p1 Q_p1 z_p1 ++ (rc3 a q_p2 Q_p2 nc_p2 z_p2 ++ (rc0 a q_p3 Q_p3 z_p3)))) (pr := fun y => y.1) hP hD hS dX2_nextFault_144
    · have h := ite_f c1 h
      refine lv_aload_n hx hb dX2_nextFault_18 rfl (lv_at hl 1 rfl) ?_
      refine lv_iload hx hb dX2_nextFault_19 (lv_at hl 6 rfl) ?_
      refine lv_aload_n hx hb dX2_nextFault_21 rfl (lv_at hl 3 rfl) ?_
      obtain ⟨r3, hc2, h⟩ := bd_some h
      refine cRi (runV (As := []) (rest := [.int x7, .ref q_p1]) C (mX0_gone l D a hc2) lk_V_2_35 okN_X0_gone ⟨Nat.le_of_ble_eq_true rfl, Nat.le_of_ble_eq_true rfl⟩ ⟨rfl, rfl⟩ (preV (preR hK (P_of_map (wc := rc0 a q_p3 Q_p3 z_p3) hP [20, 21] rfl)) (recvOf hK hP 20 rfl (ci := 0) rfl)) hl.1 rfl (Nat.le_of_ble_eq_true rfl) dX2_nextFault_22 ⟨Nat.le_of_ble_eq_true rfl, Nat.le_of_ble_eq_true rfl⟩) ?_
      obtain ⟨r5, hc4, h⟩ := bd_some h
      refine cRi (runV (As := [.int x7, .int r3]) (rest := []) C (mX7_isOpen l D a hc4) lk_V_2_39 okN_X7_isOpen ⟨Nat.le_of_ble_eq_true rfl, Nat.le_of_ble_eq_true rfl⟩ ⟨rfl, rfl⟩ (preV (preR hK (P_of_map (wc := rc7 a q_p1 Q_p1 z_p1) hP [2, 3, 4, 5, 6, 7, 8, 9, 10, 11, 12, 13, 14] rfl)) (recvOf hK hP 2 rfl (ci := 7) rfl)) hl.1 rfl (Nat.le_of_ble_eq_true rfl) dX2_nextFault_25 ⟨Nat.le_of_ble_eq_true rfl, Nat.le_of_ble_eq_true rfl⟩) ?_
      obtain ⟨J6, eJ6, h⟩ := jn_some h
      have hJ6 : ∀ (i7 : Int32) (H : Heap) (locs : List Loc) (ls : Array Slot), J6 i7 = some y → va_P D classes (rc2 a q_t Q_t z_t ++ (rc7 a q_p1 Q_p1 z_p1 ++ (rc3 a q_p2 Q_p2 nc_p2 z_p2 ++ (rc0 a q_p3 Q_p3 z_p3)))) H → va_D A (rc2 a q_t Q_t z_t ++ (rc7 a q_p1 Q_p1 z_p1 ++ (rc3 a q_p2 Q_p2 nc_p2 z_p2 ++ (rc0 a q_p3 Q_p3 z_p3)))) → va_S A s.heap H locs → lv_has ls 13 [(0, .ref q_t), (1, .ref q_p1), (2, .ref q_p2), (3, .ref q_p3), (4, .int x4), (5, .long x5), (7, .int x7)] → W p l e (rmM 4 0 0 105) s m #[.ref q_t, .ref q_p1, .ref q_p2, .ref q_p3] below meth c H locs 0 0 (MQ below (va_Qi (fun r (_ : Unit) => r = y.1) (Bw D A (fun _ => rc2 a q_t Q_t y.2 ++ (rc7 a q_p1 Q_p1 z_p1 ++ (rc3 a q_p2 Q_p2 nc_p2 z_p2 ++ (rc0 a q_p3 Q_p3 z_p3))))) A) #[.ref q_t, .ref q_p1, .ref q_p2, .ref q_p3] s 0 0 A) (F0 m 52 ls [.int i7]) := by
        intro i7 H locs ls h hP hD hS hl
        rw [eJ6] at h
        refine lv_istore (lv' := [(8, .int i7), (0, .ref q_t), (1, .ref q_p1), (2, .ref q_p2), (3, .ref q_p3), (4, .int x4), (5, .long x5), (7, .int x7)]) hx hb dX2_nextFault_52 hl (by decide) rfl (fun ls hl => ?_)
        refine lv_iload hx hb dX2_nextFault_54 (lv_at hl 0 rfl) ?_
        obtain ⟨J8, eJ8, h⟩ := jn_some h
        have hJ8 : ∀ (z9 : Sx) (i10 : Int32) (H : Heap) (locs : List Loc) (ls : Array Slot), J8 z9 i10 = some y → va_P D classes (rc2 a q_t Q_t z9 ++ (rc7 a q_p1 Q_p1 z_p1 ++ (rc3 a q_p2 Q_p2 nc_p2 z_p2 ++ (rc0 a q_p3 Q_p3 z_p3)))) H → va_D A (rc2 a q_t Q_t z9 ++ (rc7 a q_p1 Q_p1 z_p1 ++ (rc3 a q_p2 Q_p2 nc_p2 z_p2 ++ (rc0 a q_p3 Q_p3 z_p3)))) → va_S A s.heap H locs → lv_has ls 13 [(0, .ref q_t), (1, .ref q_p1), (2, .ref q_p2), (3, .ref q_p3), (4, .int x4), (5, .long x5), (7, .int x7)] → W p l e (rmM 4 0 0 105) s m #[.ref q_t, .ref q_p1, .ref q_p2, .ref q_p3] below meth c H locs 0 0 (MQ below (va_Qi (fun r (_ : Unit) => r = y.1) (Bw D A (fun _ => rc2 a q_t Q_t y.2 ++ (rc7 a q_p1 Q_p1 z_p1 ++ (rc3 a q_p2 Q_p2 nc_p2 z_p2 ++ (rc0 a q_p3 Q_p3 z_p3))))) A) #[.ref q_t, .ref q_p1, .ref q_p2, .ref q_p3] s 0 0 A) (F0 m 72 ls [.int i10]) := by
          intro z9 i10 H locs ls h hP hD hS hl
          rw [eJ8] at h
          refine lv_istore (lv' := [(9, .int i10), (0, .ref q_t), (1, .ref q_p1), (2, .ref q_p2), (3, .ref q_p3), (4, .int x4), (5, .long x5), (7, .int x7)]) hx hb dX2_nextFault_72 hl (by decide) rfl (fun ls hl => ?_)
          refine lv_iload hx hb dX2_nextFault_74 (lv_at hl 0 rfl) ?_
          obtain ⟨J11, eJ11, h⟩ := jn_some h
          have hJ11 : ∀ (z12 : Sx) (i13 : Int32) (i14 : Int64) (H : Heap) (locs : List Loc) (ls : Array Slot), J11 z12 i13 i14 = some y → va_P D classes (rc2 a q_t Q_t z12 ++ (rc7 a q_p1 Q_p1 z_p1 ++ (rc3 a q_p2 Q_p2 nc_p2 z_p2 ++ (rc0 a q_p3 Q_p3 z_p3)))) H → va_D A (rc2 a q_t Q_t z12 ++ (rc7 a q_p1 Q_p1 z_p1 ++ (rc3 a q_p2 Q_p2 nc_p2 z_p2 ++ (rc0 a q_p3 Q_p3 z_p3)))) → va_S A s.heap H locs → lv_has ls 13 [(0, .ref q_t), (1, .ref q_p1), (2, .ref q_p2), (3, .ref q_p3), (4, .int i13), (5, .long i14), (7, .int x7)] → W p l e (rmM 4 0 0 105) s m #[.ref q_t, .ref q_p1, .ref q_p2, .ref q_p3] below meth c H locs 0 0 (MQ below (va_Qi (fun r (_ : Unit) => r = y.1) (Bw D A (fun _ => rc2 a q_t Q_t y.2 ++ (rc7 a q_p1 Q_p1 z_p1 ++ (rc3 a q_p2 Q_p2 nc_p2 z_p2 ++ (rc0 a q_p3 Q_p3 z_p3))))) A) #[.ref q_t, .ref q_p1, .ref q_p2, .ref q_p3] s 0 0 A) (F0 m 136 ls []) := by
            intro z12 i13 i14 H locs ls h hP hD hS hl
            rw [eJ11] at h
            refine lv_iinc (v := x7 + 1) (lv' := [(7, .int (x7 + 1)), (0, .ref q_t), (1, .ref q_p1), (2, .ref q_p2), (3, .ref q_p3), (4, .int i13), (5, .long i14)]) hx hb dX2_nextFault_136 hl (k := 6) rfl rfl (by decide) rfl (fun ls hl => ?_)
            refine lv_goto (tgt := 9) hx hb dX2_nextFault_139 (by decide) ?_
            exact ih z12 i13 i14 (x7 + 1) _ _ ls h hP hD hS (lv_sub hl [1, 2, 3, 4, 5, 6, 0] rfl)
          refine lv_if_lt (tgt := 136) hx hb dX2_nextFault_76 (by decide) (fun c15 => ?_) (fun c15 => ?_)
          · have h := ite_t c15 h
            exact hJ11 z9 x4 x5 _ _ ls h hP hD hS (lv_sub hl [1, 2, 3, 4, 5, 6, 7] rfl)
          · have h := ite_f c15 h
            refine lv_aload_n hx hb dX2_nextFault_79 rfl (lv_at hl 3 rfl) ?_
            refine va_get (D := D) (v := .ref (Q_p2 2)) (C := RX3) (T := TX3) (N := 5) hx hb hts iX3 hown hK.1 hP 15 rfl rfl 2 (by decide) (hts _ t_586) (fun _ h9 => h9) rfl dX2_nextFault_80 ?_
            refine lv_iload hx hb dX2_nextFault_83 (lv_at hl 0 rfl) ?_
            obtain ⟨r17, hc16, h⟩ := bd_some h
            refine cRi (runN (As := [.ref (Q_p2 2), .int i10]) (rest := []) C hK (mX8_at l D a hc16) lk_N_2_47 okN_X8_at ⟨Nat.le_of_ble_eq_true rfl, Nat.le_of_ble_eq_true rfl⟩ ⟨rfl, rfl⟩ (preR hK (P_of_map (wc := ra0 a (Q_p2 2) 12 (gT z_p2 2)) hP [17] rfl)) hl.1 rfl (Nat.le_of_ble_eq_true rfl) dX2_nextFault_85 ⟨Nat.le_of_ble_eq_true rfl, Nat.le_of_ble_eq_true rfl⟩) ?_
            refine lv_istore (lv' := [(10, .int r17), (9, .int i10), (0, .ref q_t), (1, .ref q_p1), (2, .ref q_p2), (3, .ref q_p3), (4, .int x4), (5, .long x5), (7, .int x7)]) hx hb dX2_nextFault_88 hl (by decide) rfl (fun ls hl => ?_)
            refine lv_aload_n hx hb dX2_nextFault_90 rfl (lv_at hl 2 rfl) ?_
            refine lv_aload_n hx hb dX2_nextFault_91 rfl (lv_at hl 4 rfl) ?_
            refine va_get (D := D) (v := .ref (Q_p2 0)) (C := RX3) (T := TX3) (N := 5) hx hb hts iX3 hown hK.1 hP 15 rfl rfl 0 (by decide) (hts _ t_582) (fun _ h9 => h9) rfl dX2_nextFault_92 ?_
            refine lv_iload hx hb dX2_nextFault_95 (lv_at hl 0 rfl) ?_
            refine lv_aload_n hx hb dX2_nextFault_97 rfl (lv_at hl 4 rfl) ?_
            refine va_get (D := D) (v := .ref (Q_p2 3)) (C := RX3) (T := TX3) (N := 5) hx hb hts iX3 hown hK.1 hP 15 rfl rfl 3 (by decide) (hts _ t_588) (fun _ h9 => h9) rfl dX2_nextFault_98 ?_
            refine lv_iload hx hb dX2_nextFault_101 (lv_at hl 1 rfl) ?_
            obtain ⟨r19, hc18, h⟩ := bd_some h
            refine cRi (runN (As := [.ref (Q_p2 3), .int i10]) (rest := [.int r17, .ref (Q_p2 0), .ref q_t]) C hK (mX8_at l D a hc18) lk_N_2_47 okN_X8_at ⟨Nat.le_of_ble_eq_true rfl, Nat.le_of_ble_eq_true rfl⟩ ⟨rfl, rfl⟩ (preR hK (P_of_map (wc := ra0 a (Q_p2 3) 12 (gT z_p2 3)) hP [18] rfl)) hl.1 rfl (Nat.le_of_ble_eq_true rfl) dX2_nextFault_103 ⟨Nat.le_of_ble_eq_true rfl, Nat.le_of_ble_eq_true rfl⟩) ?_
            refine lv_aload_n hx hb dX2_nextFault_106 rfl (lv_at hl 3 rfl) ?_
            refine lv_aload_n hx hb dX2_nextFault_107 rfl (lv_at hl 5 rfl) ?_
            refine lv_iload hx hb dX2_nextFault_108 (lv_at hl 8 rfl) ?_
            obtain ⟨r21, z22, hc20, h⟩ := bd2_some h
            refine cMl (runV (As := [.ref (Q_p2 0), .int r17, .int r19, .ref q_p1, .ref q_p3, .int x7]) (rest := []) C (mX2_reckon l D a hc20 H.size) lk_V_2_69 okN_X2_reckon ⟨Nat.le_of_ble_eq_true rfl, Nat.le_of_ble_eq_true rfl⟩ ⟨rfl, rfl⟩ (preV (preM hK (P_of_map (wc := rc2 a q_t Q_t z9 ++ (ra0 a (Q_p2 0) nc_p2 (gT z_p2 0) ++ (rc7 a q_p1 Q_p1 z_p1 ++ (rc0 a q_p3 Q_p3 z_p3)))) hP [0, 1, 16, 2, 3, 4, 5, 6, 7, 8, 9, 10, 11, 12, 13, 14, 20, 21] rfl) (hD.sub (ws' := rc2 a q_t Q_t z9 ++ (ra0 a (Q_p2 0) nc_p2 (gT z_p2 0) ++ (rc7 a q_p1 Q_p1 z_p1 ++ (rc0 a q_p3 Q_p3 z_p3)))) [0, 1, 16, 2, 3, 4, 5, 6, 7, 8, 9, 10, 11, 12, 13, 14, 20, 21] (by decide) rfl)) (recvOf hK hP 0 rfl (ci := 2) rfl)) hl.1 rfl (Nat.le_of_ble_eq_true rfl) dX2_nextFault_110 ⟨Nat.le_of_ble_eq_true rfl, Nat.le_of_ble_eq_true rfl⟩) hP hD hS hA [0, 1, 16, 2, 3, 4, 5, 6, 7, 8, 9, 10, 11, 12, 13, 14, 20, 21] [15, 17, 18, 19] [4, 5, 7, 8, 9, 10, 11, 12, 13, 14, 15, 16, 17, 18, 19, 0, 6, 1, 2, 3, 20, 21] rfl rfl (by decide) (by decide) (fw := rc2 a q_t Q_t z22 ++ (rc7 a q_p1 Q_p1 z_p1 ++ (rc3 a q_p2 Q_p2 nc_p2 z_p2 ++ (rc0 a q_p3 Q_p3 z_p3)))) rfl (by decide) (fun H locs hP hD hS => ?_)
            have hP : va_P D classes (rc2 a q_t Q_t z22 ++ (rc7 a q_p1 Q_p1 z_p1 ++ (rc3 a q_p2 Q_p2 nc_p2 z_p2 ++ (rc0 a q_p3 Q_p3 z_p3)))) H := hP
            have hD : va_D A (rc2 a q_t Q_t z22 ++ (rc7 a q_p1 Q_p1 z_p1 ++ (rc3 a q_p2 Q_p2 nc_p2 z_p2 ++ (rc0 a q_p3 Q_p3 z_p3)))) := hD
            refine lv_lstore (lv' := [(11, .long r21), (10, .int r17), (9, .int i10), (0, .ref q_t), (1, .ref q_p1), (2, .ref q_p2), (3, .ref q_p3), (4, .int x4), (5, .long x5), (7, .int x7)]) hx hb dX2_nextFault_113 hl (by decide) rfl (fun ls hl => ?_)
            refine lv_iload hx hb dX2_nextFault_115 (lv_at hl 7 rfl) ?_
            obtain ⟨J23, eJ23, h⟩ := jn_some h
            have hJ23 : ∀ (H : Heap) (locs : List Loc) (ls : Array Slot), J23 = some y → va_P D classes (rc2 a q_t Q_t z22 ++ (rc7 a q_p1 Q_p1 z_p1 ++ (rc3 a q_p2 Q_p2 nc_p2 z_p2 ++ (rc0 a q_p3 Q_p3 z_p3)))) H → va_D A (rc2 a q_t Q_t z22 ++ (rc7 a q_p1 Q_p1 z_p1 ++ (rc3 a q_p2 Q_p2 nc_p2 z_p2 ++ (rc0 a q_p3 Q_p3 z_p3)))) → va_S A s.heap H locs → lv_has ls 13 [(0, .ref q_t), (1, .ref q_p1), (2, .ref q_p2), (3, .ref q_p3), (7, .int x7), (11, .long r21)] → W p l e (rmM 4 0 0 105) s m #[.ref q_t, .ref q_p1, .ref q_p2, .ref q_p3] below meth c H locs 0 0 (MQ below (va_Qi (fun r (_ : Unit) => r = y.1) (Bw D A (fun _ => rc2 a q_t Q_t y.2 ++ (rc7 a q_p1 Q_p1 z_p1 ++ (rc3 a q_p2 Q_p2 nc_p2 z_p2 ++ (rc0 a q_p3 Q_p3 z_p3))))) A) #[.ref q_t, .ref q_p1, .ref q_p2, .ref q_p3] s 0 0 A) (F0 m 128 ls []) := by
              intro H locs ls h hP hD hS hl
              rw [eJ23] at h
              refine lv_iload hx hb dX2_nextFault_128 (lv_at hl 4 rfl) ?_
              refine lv_istore (lv' := [(4, .int x7), (0, .ref q_t), (1, .ref q_p1), (2, .ref q_p2), (3, .ref q_p3), (7, .int x7), (11, .long r21)]) hx hb dX2_nextFault_130 hl (by decide) rfl (fun ls hl => ?_)
              refine lv_lload hx hb dX2_nextFault_132 (lv_at hl 6 rfl) ?_
              refine lv_lstore (lv' := [(5, .long r21), (4, .int x7), (0, .ref q_t), (1, .ref q_p1), (2, .ref q_p2), (3, .ref q_p3), (7, .int x7), (11, .long r21)]) hx hb dX2_nextFault_134 hl (by decide) rfl (fun ls hl => ?_)
              exact hJ11 z22 x7 r21 _ _ ls h hP hD hS (lv_sub hl [2, 3, 4, 5, 1, 0, 6] rfl)
            refine lv_if_lt (tgt := 128) hx hb dX2_nextFault_117 (by decide) (fun c24 => ?_) (fun c24 => ?_)
            · have h := ite_t c24 h
              exact hJ23 _ _ ls h hP hD hS (lv_sub hl [3, 4, 5, 6, 9, 0] rfl)
            · have h := ite_f c24 h
              refine lv_lload hx hb dX2_nextFault_120 (lv_at hl 0 rfl) ?_
              refine lv_lload hx hb dX2_nextFault_122 (lv_at hl 8 rfl) ?_
              refine W.lcmp hx hb dX2_nextFault_124 ?_
              refine lv_if_ge (tgt := 136) hx hb dX2_nextFault_125 (by decide) (fun c25 => ?_) (fun c25 => ?_)
              · have h := ite_t ((lg_cmp_ge _ _).mp c25) h
                exact hJ11 z22 x4 x5 _ _ ls h hP hD hS (lv_sub hl [3, 4, 5, 6, 7, 8, 9] rfl)
              · have h := ite_f (fun q => c25 ((lg_cmp_ge _ _).mpr q)) h
                exact hJ23 _ _ ls h hP hD hS (lv_sub hl [3, 4, 5, 6, 9, 0] rfl)
        refine lv_if_eq (tgt := 71) hx hb dX2_nextFault_56 (by decide) (fun c26 => ?_) (fun c26 => ?_)
        · have h := ite_t c26 h
          refine lv_iconst (v := (-1)) hx hb dX2_nextFault_71 (by decide) ?_
          exact hJ8 z_t (-1) _ _ ls h hP hD hS (lv_sub hl [1, 2, 3, 4, 5, 6, 7] rfl)
        · have h := ite_f c26 h
          refine lv_aload_n hx hb dX2_nextFault_59 rfl (lv_at hl 1 rfl) ?_
          refine lv_aload_n hx hb dX2_nextFault_60 rfl (lv_at hl 2 rfl) ?_
          refine lv_aload_n hx hb dX2_nextFault_61 rfl (lv_at hl 3 rfl) ?_
          refine lv_aload_n hx hb dX2_nextFault_62 rfl (lv_at hl 4 rfl) ?_
          refine lv_iload hx hb dX2_nextFault_63 (lv_at hl 7 rfl) ?_
          obtain ⟨r28, z29, hc27, h⟩ := bd2_some h
          refine cWi (runV (As := [.ref q_p1, .ref q_p2, .ref q_p3, .int x7]) (rest := []) C (mX2_lookClause l D a hc27 H.size) lk_V_2_54 okN_X2_lookClause ⟨Nat.le_of_ble_eq_true rfl, Nat.le_of_ble_eq_true rfl⟩ ⟨rfl, rfl⟩ (preV (preM hK hP hD) (recvOf hK hP 0 rfl (ci := 2) rfl)) hl.1 rfl (Nat.le_of_ble_eq_true rfl) dX2_nextFault_65 ⟨Nat.le_of_ble_eq_true rfl, Nat.le_of_ble_eq_true rfl⟩) hP hD hS hA (fun H locs hP hD hS => ?_)
          have hP : va_P D classes (rc2 a q_t Q_t z29 ++ (rc7 a q_p1 Q_p1 z_p1 ++ (rc3 a q_p2 Q_p2 nc_p2 z_p2 ++ (rc0 a q_p3 Q_p3 z_p3)))) H := hP
          have hD : va_D A (rc2 a q_t Q_t z29 ++ (rc7 a q_p1 Q_p1 z_p1 ++ (rc3 a q_p2 Q_p2 nc_p2 z_p2 ++ (rc0 a q_p3 Q_p3 z_p3)))) := hD
          refine lv_goto (tgt := 72) hx hb dX2_nextFault_68 (by decide) ?_
          exact hJ8 z29 r28 _ _ ls h hP hD hS (lv_sub hl [1, 2, 3, 4, 5, 6, 7] rfl)
      obtain ⟨J30, eJ30, h⟩ := jn_some h
      have hJ30 : ∀ (H : Heap) (locs : List Loc) (ls : Array Slot), J30 = some y → va_P D classes (rc2 a q_t Q_t z_t ++ (rc7 a q_p1 Q_p1 z_p1 ++ (rc3 a q_p2 Q_p2 nc_p2 z_p2 ++ (rc0 a q_p3 Q_p3 z_p3)))) H → va_D A (rc2 a q_t Q_t z_t ++ (rc7 a q_p1 Q_p1 z_p1 ++ (rc3 a q_p2 Q_p2 nc_p2 z_p2 ++ (rc0 a q_p3 Q_p3 z_p3)))) → va_S A s.heap H locs → lv_has ls 13 [(0, .ref q_t), (1, .ref q_p1), (2, .ref q_p2), (3, .ref q_p3), (4, .int x4), (5, .long x5), (7, .int x7)] → W p l e (rmM 4 0 0 105) s m #[.ref q_t, .ref q_p1, .ref q_p2, .ref q_p3] below meth c H locs 0 0 (MQ below (va_Qi (fun r (_ : Unit) => r = y.1) (Bw D A (fun _ => rc2 a q_t Q_t y.2 ++ (rc7 a q_p1 Q_p1 z_p1 ++ (rc3 a q_p2 Q_p2 nc_p2 z_p2 ++ (rc0 a q_p3 Q_p3 z_p3))))) A) #[.ref q_t, .ref q_p1, .ref q_p2, .ref q_p3] s 0 0 A) (F0 m 51 ls []) := by
        intro H locs ls h hP hD hS hl
        rw [eJ30] at h
        refine lv_iconst (v := 0) hx hb dX2_nextFault_51 (by decide) ?_
        exact hJ6 0 _ _ ls h hP hD hS (lv_sub hl [0, 1, 2, 3, 4, 5, 6] rfl)
      refine lv_if_eq (tgt := 51) hx hb dX2_nextFault_28 (by decide) (fun c31 => ?_) (fun c31 => ?_)
      · have h := ite_t c31 h
        exact hJ30 _ _ ls h hP hD hS (lv_sub hl [0, 1, 2, 3, 4, 5, 6] rfl)
      · have h := ite_f c31 h
        refine lv_aload_n hx hb dX2_nextFault_31 rfl (lv_at hl 1 rfl) ?_
        refine va_get (D := D) (v := .ref (Q_p1 9)) (C := RX7) (T := TX7) (N := 18) hx hb hts iX7 hown hK.1 hP 2 rfl rfl 9 (by decide) (hts _ t_60) (fun _ h9 => h9) rfl dX2_nextFault_32 ?_
        refine lv_iload hx hb dX2_nextFault_35 (lv_at hl 6 rfl) ?_
        obtain ⟨r33, hc32, h⟩ := bd_some h
        refine cRi (runN (As := [.ref (Q_p1 9), .int x7]) (rest := []) C hK (mX8_at l D a hc32) lk_N_2_47 okN_X8_at ⟨Nat.le_of_ble_eq_true rfl, Nat.le_of_ble_eq_true rfl⟩ ⟨rfl, rfl⟩ (preR hK (P_of_map (wc := ra0 a (Q_p1 9) 10 (gT z_p1 9)) hP [7] rfl)) hl.1 rfl (Nat.le_of_ble_eq_true rfl) dX2_nextFault_37 ⟨Nat.le_of_ble_eq_true rfl, Nat.le_of_ble_eq_true rfl⟩) ?_
        refine lv_aload_n hx hb dX2_nextFault_40 rfl (lv_at hl 3 rfl) ?_
        refine va_get (D := D) (v := .int (gI z_p3 0)) (C := RX0) (T := TX0) (N := 6) hx hb hts iX0 hown hK.1 hP 20 rfl rfl 0 (by decide) (hts _ t_131) (fun _ h9 => h9) rfl dX2_nextFault_41 ?_
        refine lv_icmp_gt (tgt := 51) hx hb dX2_nextFault_44 (by decide) (fun c34 => ?_) (fun c34 => ?_)
        · have h := ite_t c34 h
          exact hJ30 _ _ ls h hP hD hS (lv_sub hl [0, 1, 2, 3, 4, 5, 6] rfl)
        · have h := ite_f c34 h
          refine lv_iconst (v := 1) hx hb dX2_nextFault_47 (by decide) ?_
          refine lv_goto (tgt := 52) hx hb dX2_nextFault_48 (by decide) ?_
          exact hJ6 1 _ _ ls h hP hD hS (lv_sub hl [0, 1, 2, 3, 4, 5, 6] rfl)

set_option maxHeartbeats 4000000 in
set_option maxRecDepth 100000 in
theorem mX2_nextFault (l : Launch) (D : va_G) (a : Nat → ClassId) {q_t : Nat} {q_p1 : Nat} {q_p2 : Nat} {q_p3 : Nat} {Q_t : Nat → Nat} {z_t : Sx} {Q_p1 : Nat → Nat} {z_p1 : Sx} {Q_p2 : Nat → Nat} {nc_p2 : Nat} {z_p2 : Sx} {Q_p3 : Nat → Nat} {z_p3 : Sx} {y : Int32 × Sx} (h : fX2_nextFault z_t z_p1 nc_p2 z_p2 z_p3 = some y) (sz : Nat) : CMi (S := Unit) l MX2_nextFault 4 105 0 0 D a [.ref q_t, .ref q_p1, .ref q_p2, .ref q_p3] (rc2 a q_t Q_t z_t ++ (rc7 a q_p1 Q_p1 z_p1 ++ (rc3 a q_p2 Q_p2 nc_p2 z_p2 ++ (rc0 a q_p3 Q_p3 z_p3)))) sz (fun r _ => r = y.1) (fun _ => rc2 a q_t Q_t y.2 ++ (rc7 a q_p1 Q_p1 z_p1 ++ (rc3 a q_p2 Q_p2 nc_p2 z_p2 ++ (rc0 a q_p3 Q_p3 z_p3)))) := by
  unfold fX2_nextFault at h
  refine entMi (by decide) (Nat.le_of_ble_eq_true rfl) ?_
  intro p e s m below meth c C hK A hA hP hD ls hl
  obtain ⟨hx, hb, hml, hown, hts, hr, hlocks, hnm⟩ := id C
  have hb : c.code = cX2_nextFault := hb
  have hown : s.vm.findClass RX2 = some m.cls := hown
  have hS : va_S A s.heap s.heap [] := va_S.rf
  have hl : lv_has ls 13 [(0, .ref q_t), (1, .ref q_p1), (2, .ref q_p2), (3, .ref q_p3)] := hl
  refine lv_iconst (v := (-1)) hx hb dX2_nextFault_0 (by decide) ?_
  refine lv_istore (lv' := [(4, .int (-1)), (0, .ref q_t), (1, .ref q_p1), (2, .ref q_p2), (3, .ref q_p3)]) hx hb dX2_nextFault_1 hl (by decide) rfl (fun ls hl => ?_)
  refine lv_lconst (v := 0) hx hb dX2_nextFault_3 (by decide) ?_
  refine lv_lstore (lv' := [(5, .long 0), (4, .int (-1)), (0, .ref q_t), (1, .ref q_p1), (2, .ref q_p2), (3, .ref q_p3)]) hx hb dX2_nextFault_4 hl (by decide) rfl (fun ls hl => ?_)
  refine lv_iconst (v := 0) hx hb dX2_nextFault_6 (by decide) ?_
  refine lv_istore (lv' := [(7, .int 0), (5, .long 0), (4, .int (-1)), (0, .ref q_t), (1, .ref q_p1), (2, .ref q_p2), (3, .ref q_p3)]) hx hb dX2_nextFault_7 hl (by decide) rfl (fun ls hl => ?_)
  refine wX2_nextFault_9 C hK hA FU z_t (-1) 0 0 _ _ ls h hP hD hS (lv_sub hl [3, 4, 5, 6, 2, 1, 0] rfl)

def lX2_stopsAt_3 (z_p1 : Sx) (nc_p2 : Nat) (z_p2 : Sx) (z_p3 : Sx) (x4 : Int32) : Nat → Sx → Int32 → Option (Int32 × Sx)
  | 0, _, _ => none
  | n + 1, z_t, x5 => if (gI z_p2 1) ≤ x5 then some (0, z_t) else bd (fX8_at 12 (gT z_p2 3) x5) (fun r3 => bd (fX8_at 12 (gT z_p2 2) x5) (fun r5 => jn (fun (i7 : Int32) => jn (fun (z9 : Sx) => lX2_stopsAt_3 z_p1 nc_p2 z_p2 z_p3 x4 n z9 (x5 + 1)) (fun J8 => if i7 = 0 then J8 z_t else bd (fX8_at 12 (gT z_p2 4) x5) (fun r12 => bd2 (fX2_reckon z_t nc_p2 (gT z_p2 0) z_p1 z_p3 r3 r12 x4) (fun r14 z15 => if r14 = 0 then J8 z15 else some (1, z15))))) (fun J6 => if r5 = r3 then J6 1 else J6 0)))
def fX2_stopsAt (z_t : Sx) (z_p1 : Sx) (nc_p2 : Nat) (z_p2 : Sx) (z_p3 : Sx) (x4 : Int32) : Option (Int32 × Sx) := lX2_stopsAt_3 z_p1 nc_p2 z_p2 z_p3 x4 FU z_t 0

set_option maxHeartbeats 4000000 in
set_option maxRecDepth 100000 in
theorem wX2_stopsAt_3 {p : Program} {l : Launch} {e : Env} {s : State} {m : MethodId} {below : List Frame} {meth : Method} {c : Code} {D : va_G} {a : Nat → ClassId} {A : Nat → Prop} {q_t : Nat} {q_p1 : Nat} {q_p2 : Nat} {q_p3 : Nat} {Q_t : Nat → Nat} {Q_p1 : Nat → Nat} {Q_p2 : Nat → Nat} {Q_p3 : Nat → Nat} {z_p1 : Sx} {nc_p2 : Nat} {z_p2 : Sx} {z_p3 : Sx} {x40 : Int32} {x4 : Int32} (C : Cx p s m #[.ref q_t, .ref q_p1, .ref q_p2, .ref q_p3, .int x40] meth c MX2_stopsAt) (hK : KK D a s) (hA : ∀ q, s.heap.size ≤ q → A q) {y : Int32 × Sx} : ∀ (n : Nat) (z_t : Sx) (x5 : Int32) (H : Heap) (locs : List Loc) (ls : Array Slot), lX2_stopsAt_3 z_p1 nc_p2 z_p2 z_p3 x4 n z_t x5 = some y → va_P D classes (rc2 a q_t Q_t z_t ++ (rc7 a q_p1 Q_p1 z_p1 ++ (rc3 a q_p2 Q_p2 nc_p2 z_p2 ++ (rc0 a q_p3 Q_p3 z_p3)))) H → va_D A (rc2 a q_t Q_t z_t ++ (rc7 a q_p1 Q_p1 z_p1 ++ (rc3 a q_p2 Q_p2 nc_p2 z_p2 ++ (rc0 a q_p3 Q_p3 z_p3)))) → va_S A s.heap H locs → lv_has ls 8 [(0, .ref q_t), (1, .ref q_p1), (2, .ref q_p2), (3, .ref q_p3), (4, .int x4), (5, .int x5)] → W p l e (rmM 3 0 0 77) s m #[.ref q_t, .ref q_p1, .ref q_p2, .ref q_p3, .int x40] below meth c H locs 0 0 (MQ below (va_Qi (fun r (_ : Unit) => r = y.1) (Bw D A (fun _ => rc2 a q_t Q_t y.2 ++ (rc7 a q_p1 Q_p1 z_p1 ++ (rc3 a q_p2 Q_p2 nc_p2 z_p2 ++ (rc0 a q_p3 Q_p3 z_p3))))) A) #[.ref q_t, .ref q_p1, .ref q_p2, .ref q_p3, .int x40] s 0 0 A) (F0 m 3 ls []) := by
  obtain ⟨hx, hb, hml, hown, hts, hr, hlocks, hnm⟩ := id C
  have hb : c.code = cX2_stopsAt := hb
  have hown : s.vm.findClass RX2 = some m.cls := hown
  intro n
  induction n with
  | zero => intro z_t x5 H locs ls h; rw [lX2_stopsAt_3] at h; cases h
  | succ n ih =>
    intro z_t x5 H locs ls h hP hD hS hl
    rw [lX2_stopsAt_3] at h
    refine lv_iload hx hb dX2_stopsAt_3 (lv_at hl 5 rfl) ?_
    refine lv_aload_n hx hb dX2_stopsAt_5 rfl (lv_at hl 2 rfl) ?_
    refine va_get (D := D) (v := .int (gI z_p2 1)) (C := RX3) (T := TX3) (N := 5) hx hb hts iX3 hown hK.1 hP 15 rfl rfl 1 (by decide) (hts _ t_584) (fun _ h9 => h9) rfl dX2_stopsAt_6 ?_
    refine lv_icmp_ge (tgt := 85) hx hb dX2_stopsAt_9 (by decide) (fun c1 => ?_) (fun c1 => ?_)
    · have h := ite_t c1 h
      refine lv_iconst (v := 0) hx hb dX2_stopsAt_85 (by decide) ?_
      exact rMz C rfl (Or.inl rfl) h (g := fun y => rc2 a q_t Q_t y.2 ++ (rc7 a q_p1 Q_p1 z_p1 ++ (rc3 a q_p2 Q_p2 nc_p2 z_p2 ++ (rc0 a q_p3 Q_p3 z_p3)))) (pr := fun y => y.1) hP hD hS dX2_stopsAt_86
    · have h := ite_f c1 h
      refine lv_aload_n hx hb dX2_stopsAt_12 rfl (lv_at hl 2 rfl) ?_
      refine va_get (D := D) (v := .ref (Q_p2 3)) (C := RX3) (T := TX3) (N := 5) hx hb hts iX3 hown hK.1 hP 15 rfl rfl 3 (by decide) (hts _ t_588) (fun _ h9 => h9) rfl dX2_stopsAt_13 ?_
      refine lv_iload hx hb dX2_stopsAt_16 (lv_at hl 5 rfl) ?_
      obtain ⟨r3, hc2, h⟩ := bd_some h
      refine cRi (runN (As := [.ref (Q_p2 3), .int x5]) (rest := []) C hK (mX8_at l D a hc2) lk_N_2_47 okN_X8_at ⟨Nat.le_of_ble_eq_true rfl, Nat.le_of_ble_eq_true rfl⟩ ⟨rfl, rfl⟩ (preR hK (P_of_map (wc := ra0 a (Q_p2 3) 12 (gT z_p2 3)) hP [18] rfl)) hl.1 rfl (Nat.le_of_ble_eq_true rfl) dX2_stopsAt_18 ⟨Nat.le_of_ble_eq_true rfl, Nat.le_of_ble_eq_true rfl⟩) ?_
      refine lv_istore (lv' := [(6, .int r3), (0, .ref q_t), (1, .ref q_p1), (2, .ref q_p2), (3, .ref q_p3), (4, .int x4), (5, .int x5)]) hx hb dX2_stopsAt_21 hl (by decide) rfl (fun ls hl => ?_)
      refine lv_aload_n hx hb dX2_stopsAt_23 rfl (lv_at hl 3 rfl) ?_
      refine va_get (D := D) (v := .ref (Q_p2 2)) (C := RX3) (T := TX3) (N := 5) hx hb hts iX3 hown hK.1 hP 15 rfl rfl 2 (by decide) (hts _ t_586) (fun _ h9 => h9) rfl dX2_stopsAt_24 ?_
      refine lv_iload hx hb dX2_stopsAt_27 (lv_at hl 6 rfl) ?_
      obtain ⟨r5, hc4, h⟩ := bd_some h
      refine cRi (runN (As := [.ref (Q_p2 2), .int x5]) (rest := []) C hK (mX8_at l D a hc4) lk_N_2_47 okN_X8_at ⟨Nat.le_of_ble_eq_true rfl, Nat.le_of_ble_eq_true rfl⟩ ⟨rfl, rfl⟩ (preR hK (P_of_map (wc := ra0 a (Q_p2 2) 12 (gT z_p2 2)) hP [17] rfl)) hl.1 rfl (Nat.le_of_ble_eq_true rfl) dX2_stopsAt_29 ⟨Nat.le_of_ble_eq_true rfl, Nat.le_of_ble_eq_true rfl⟩) ?_
      refine lv_iload hx hb dX2_stopsAt_32 (lv_at hl 0 rfl) ?_
      obtain ⟨J6, eJ6, h⟩ := jn_some h
      have hJ6 : ∀ (i7 : Int32) (H : Heap) (locs : List Loc) (ls : Array Slot), J6 i7 = some y → va_P D classes (rc2 a q_t Q_t z_t ++ (rc7 a q_p1 Q_p1 z_p1 ++ (rc3 a q_p2 Q_p2 nc_p2 z_p2 ++ (rc0 a q_p3 Q_p3 z_p3)))) H → va_D A (rc2 a q_t Q_t z_t ++ (rc7 a q_p1 Q_p1 z_p1 ++ (rc3 a q_p2 Q_p2 nc_p2 z_p2 ++ (rc0 a q_p3 Q_p3 z_p3)))) → va_S A s.heap H locs → lv_has ls 8 [(0, .ref q_t), (1, .ref q_p1), (2, .ref q_p2), (3, .ref q_p3), (4, .int x4), (5, .int x5), (6, .int r3)] → W p l e (rmM 3 0 0 77) s m #[.ref q_t, .ref q_p1, .ref q_p2, .ref q_p3, .int x40] below meth c H locs 0 0 (MQ below (va_Qi (fun r (_ : Unit) => r = y.1) (Bw D A (fun _ => rc2 a q_t Q_t y.2 ++ (rc7 a q_p1 Q_p1 z_p1 ++ (rc3 a q_p2 Q_p2 nc_p2 z_p2 ++ (rc0 a q_p3 Q_p3 z_p3))))) A) #[.ref q_t, .ref q_p1, .ref q_p2, .ref q_p3, .int x40] s 0 0 A) (F0 m 42 ls [.int i7]) := by
        intro i7 H locs ls h hP hD hS hl
        rw [eJ6] at h
        refine lv_istore (lv' := [(7, .int i7), (0, .ref q_t), (1, .ref q_p1), (2, .ref q_p2), (3, .ref q_p3), (4, .int x4), (5, .int x5), (6, .int r3)]) hx hb dX2_stopsAt_42 hl (by decide) rfl (fun ls hl => ?_)
        refine lv_iload hx hb dX2_stopsAt_44 (lv_at hl 0 rfl) ?_
        obtain ⟨J8, eJ8, h⟩ := jn_some h
        have hJ8 : ∀ (z9 : Sx) (H : Heap) (locs : List Loc) (ls : Array Slot), J8 z9 = some y → va_P D classes (rc2 a q_t Q_t z9 ++ (rc7 a q_p1 Q_p1 z_p1 ++ (rc3 a q_p2 Q_p2 nc_p2 z_p2 ++ (rc0 a q_p3 Q_p3 z_p3)))) H → va_D A (rc2 a q_t Q_t z9 ++ (rc7 a q_p1 Q_p1 z_p1 ++ (rc3 a q_p2 Q_p2 nc_p2 z_p2 ++ (rc0 a q_p3 Q_p3 z_p3)))) → va_S A s.heap H locs → lv_has ls 8 [(0, .ref q_t), (1, .ref q_p1), (2, .ref q_p2), (3, .ref q_p3), (4, .int x4), (5, .int x5)] → W p l e (rmM 3 0 0 77) s m #[.ref q_t, .ref q_p1, .ref q_p2, .ref q_p3, .int x40] below meth c H locs 0 0 (MQ below (va_Qi (fun r (_ : Unit) => r = y.1) (Bw D A (fun _ => rc2 a q_t Q_t y.2 ++ (rc7 a q_p1 Q_p1 z_p1 ++ (rc3 a q_p2 Q_p2 nc_p2 z_p2 ++ (rc0 a q_p3 Q_p3 z_p3))))) A) #[.ref q_t, .ref q_p1, .ref q_p2, .ref q_p3, .int x40] s 0 0 A) (F0 m 79 ls []) := by
          intro z9 H locs ls h hP hD hS hl
          rw [eJ8] at h
          refine lv_iinc (v := x5 + 1) (lv' := [(5, .int (x5 + 1)), (0, .ref q_t), (1, .ref q_p1), (2, .ref q_p2), (3, .ref q_p3), (4, .int x4)]) hx hb dX2_stopsAt_79 hl (k := 5) rfl rfl (by decide) rfl (fun ls hl => ?_)
          refine lv_goto (tgt := 3) hx hb dX2_stopsAt_82 (by decide) ?_
          exact ih z9 (x5 + 1) _ _ ls h hP hD hS (lv_sub hl [1, 2, 3, 4, 5, 0] rfl)
        refine lv_if_eq (tgt := 79) hx hb dX2_stopsAt_46 (by decide) (fun c10 => ?_) (fun c10 => ?_)
        · have h := ite_t c10 h
          exact hJ8 z_t _ _ ls h hP hD hS (lv_sub hl [1, 2, 3, 4, 5, 6] rfl)
        · have h := ite_f c10 h
          refine lv_aload_n hx hb dX2_stopsAt_49 rfl (lv_at hl 1 rfl) ?_
          refine lv_aload_n hx hb dX2_stopsAt_50 rfl (lv_at hl 3 rfl) ?_
          refine va_get (D := D) (v := .ref (Q_p2 0)) (C := RX3) (T := TX3) (N := 5) hx hb hts iX3 hown hK.1 hP 15 rfl rfl 0 (by decide) (hts _ t_582) (fun _ h9 => h9) rfl dX2_stopsAt_51 ?_
          refine lv_iload hx hb dX2_stopsAt_54 (lv_at hl 7 rfl) ?_
          refine lv_aload_n hx hb dX2_stopsAt_56 rfl (lv_at hl 3 rfl) ?_
          refine va_get (D := D) (v := .ref (Q_p2 4)) (C := RX3) (T := TX3) (N := 5) hx hb hts iX3 hown hK.1 hP 15 rfl rfl 4 (by decide) (hts _ t_590) (fun _ h9 => h9) rfl dX2_stopsAt_57 ?_
          refine lv_iload hx hb dX2_stopsAt_60 (lv_at hl 6 rfl) ?_
          obtain ⟨r12, hc11, h⟩ := bd_some h
          refine cRi (runN (As := [.ref (Q_p2 4), .int x5]) (rest := [.int r3, .ref (Q_p2 0), .ref q_t]) C hK (mX8_at l D a hc11) lk_N_2_47 okN_X8_at ⟨Nat.le_of_ble_eq_true rfl, Nat.le_of_ble_eq_true rfl⟩ ⟨rfl, rfl⟩ (preR hK (P_of_map (wc := ra0 a (Q_p2 4) 12 (gT z_p2 4)) hP [19] rfl)) hl.1 rfl (Nat.le_of_ble_eq_true rfl) dX2_stopsAt_62 ⟨Nat.le_of_ble_eq_true rfl, Nat.le_of_ble_eq_true rfl⟩) ?_
          refine lv_aload_n hx hb dX2_stopsAt_65 rfl (lv_at hl 2 rfl) ?_
          refine lv_aload_n hx hb dX2_stopsAt_66 rfl (lv_at hl 4 rfl) ?_
          refine lv_iload hx hb dX2_stopsAt_67 (lv_at hl 5 rfl) ?_
          obtain ⟨r14, z15, hc13, h⟩ := bd2_some h
          refine cMl (runV (As := [.ref (Q_p2 0), .int r3, .int r12, .ref q_p1, .ref q_p3, .int x4]) (rest := []) C (mX2_reckon l D a hc13 H.size) lk_V_2_69 okN_X2_reckon ⟨Nat.le_of_ble_eq_true rfl, Nat.le_of_ble_eq_true rfl⟩ ⟨rfl, rfl⟩ (preV (preM hK (P_of_map (wc := rc2 a q_t Q_t z_t ++ (ra0 a (Q_p2 0) nc_p2 (gT z_p2 0) ++ (rc7 a q_p1 Q_p1 z_p1 ++ (rc0 a q_p3 Q_p3 z_p3)))) hP [0, 1, 16, 2, 3, 4, 5, 6, 7, 8, 9, 10, 11, 12, 13, 14, 20, 21] rfl) (hD.sub (ws' := rc2 a q_t Q_t z_t ++ (ra0 a (Q_p2 0) nc_p2 (gT z_p2 0) ++ (rc7 a q_p1 Q_p1 z_p1 ++ (rc0 a q_p3 Q_p3 z_p3)))) [0, 1, 16, 2, 3, 4, 5, 6, 7, 8, 9, 10, 11, 12, 13, 14, 20, 21] (by decide) rfl)) (recvOf hK hP 0 rfl (ci := 2) rfl)) hl.1 rfl (Nat.le_of_ble_eq_true rfl) dX2_stopsAt_69 ⟨Nat.le_of_ble_eq_true rfl, Nat.le_of_ble_eq_true rfl⟩) hP hD hS hA [0, 1, 16, 2, 3, 4, 5, 6, 7, 8, 9, 10, 11, 12, 13, 14, 20, 21] [15, 17, 18, 19] [4, 5, 7, 8, 9, 10, 11, 12, 13, 14, 15, 16, 17, 18, 19, 0, 6, 1, 2, 3, 20, 21] rfl rfl (by decide) (by decide) (fw := rc2 a q_t Q_t z15 ++ (rc7 a q_p1 Q_p1 z_p1 ++ (rc3 a q_p2 Q_p2 nc_p2 z_p2 ++ (rc0 a q_p3 Q_p3 z_p3)))) rfl (by decide) (fun H locs hP hD hS => ?_)
          have hP : va_P D classes (rc2 a q_t Q_t z15 ++ (rc7 a q_p1 Q_p1 z_p1 ++ (rc3 a q_p2 Q_p2 nc_p2 z_p2 ++ (rc0 a q_p3 Q_p3 z_p3)))) H := hP
          have hD : va_D A (rc2 a q_t Q_t z15 ++ (rc7 a q_p1 Q_p1 z_p1 ++ (rc3 a q_p2 Q_p2 nc_p2 z_p2 ++ (rc0 a q_p3 Q_p3 z_p3)))) := hD
          refine lv_lconst (v := 0) hx hb dX2_stopsAt_72 (by decide) ?_
          refine W.lcmp hx hb dX2_stopsAt_73 ?_
          refine lv_if_eq (tgt := 79) hx hb dX2_stopsAt_74 (by decide) (fun c16 => ?_) (fun c16 => ?_)
          · have h := ite_t ((lg_cmp_eq _ _).mp c16) h
            exact hJ8 z15 _ _ ls h hP hD hS (lv_sub hl [1, 2, 3, 4, 5, 6] rfl)
          · have h := ite_f (fun q => c16 ((lg_cmp_eq _ _).mpr q)) h
            refine lv_iconst (v := 1) hx hb dX2_stopsAt_77 (by decide) ?_
            exact rMz C rfl (Or.inr rfl) h (g := fun y => rc2 a q_t Q_t y.2 ++ (rc7 a q_p1 Q_p1 z_p1 ++ (rc3 a q_p2 Q_p2 nc_p2 z_p2 ++ (rc0 a q_p3 Q_p3 z_p3)))) (pr := fun y => y.1) hP hD hS dX2_stopsAt_78
      refine lv_icmp_ne (tgt := 41) hx hb dX2_stopsAt_34 (by decide) (fun c17 => ?_) (fun c17 => ?_)
      · have h := ite_f c17 h
        refine lv_iconst (v := 0) hx hb dX2_stopsAt_41 (by decide) ?_
        exact hJ6 0 _ _ ls h hP hD hS (lv_sub hl [1, 2, 3, 4, 5, 6, 0] rfl)
      · have h := ite_t c17 h
        refine lv_iconst (v := 1) hx hb dX2_stopsAt_37 (by decide) ?_
        refine lv_goto (tgt := 42) hx hb dX2_stopsAt_38 (by decide) ?_
        exact hJ6 1 _ _ ls h hP hD hS (lv_sub hl [1, 2, 3, 4, 5, 6, 0] rfl)

set_option maxHeartbeats 4000000 in
set_option maxRecDepth 100000 in
theorem mX2_stopsAt (l : Launch) (D : va_G) (a : Nat → ClassId) {q_t : Nat} {q_p1 : Nat} {q_p2 : Nat} {q_p3 : Nat} {Q_t : Nat → Nat} {z_t : Sx} {Q_p1 : Nat → Nat} {z_p1 : Sx} {Q_p2 : Nat → Nat} {nc_p2 : Nat} {z_p2 : Sx} {Q_p3 : Nat → Nat} {z_p3 : Sx} {x4 : Int32} {y : Int32 × Sx} (h : fX2_stopsAt z_t z_p1 nc_p2 z_p2 z_p3 x4 = some y) (sz : Nat) : CMi (S := Unit) l MX2_stopsAt 3 77 0 0 D a [.ref q_t, .ref q_p1, .ref q_p2, .ref q_p3, .int x4] (rc2 a q_t Q_t z_t ++ (rc7 a q_p1 Q_p1 z_p1 ++ (rc3 a q_p2 Q_p2 nc_p2 z_p2 ++ (rc0 a q_p3 Q_p3 z_p3)))) sz (fun r _ => r = y.1) (fun _ => rc2 a q_t Q_t y.2 ++ (rc7 a q_p1 Q_p1 z_p1 ++ (rc3 a q_p2 Q_p2 nc_p2 z_p2 ++ (rc0 a q_p3 Q_p3 z_p3)))) := by
  unfold fX2_stopsAt at h
  refine entMi (by decide) (Nat.le_of_ble_eq_true rfl) ?_
  intro p e s m below meth c C hK A hA hP hD ls hl
  obtain ⟨hx, hb, hml, hown, hts, hr, hlocks, hnm⟩ := id C
  have hb : c.code = cX2_stopsAt := hb
  have hown : s.vm.findClass RX2 = some m.cls := hown
  have hS : va_S A s.heap s.heap [] := va_S.rf
  have hl : lv_has ls 8 [(0, .ref q_t), (1, .ref q_p1), (2, .ref q_p2), (3, .ref q_p3), (4, .int x4)] := hl
  refine lv_iconst (v := 0) hx hb dX2_stopsAt_0 (by decide) ?_
  refine lv_istore (lv' := [(5, .int 0), (0, .ref q_t), (1, .ref q_p1), (2, .ref q_p2), (3, .ref q_p3), (4, .int x4)]) hx hb dX2_stopsAt_1 hl (by decide) rfl (fun ls hl => ?_)
  refine wX2_stopsAt_3 C hK hA FU z_t 0 _ _ ls h hP hD hS (lv_sub hl [1, 2, 3, 4, 5, 0] rfl)

def fX0_lookFor (z_t : Sx) (z_p1 : Sx) (x2 : Int32) : Option (Int32 × Sx) := bd (fX8_at 10 (gT z_p1 9) x2) (fun r2 => bd (fX8_at 10 (gT (sI z_t 0 ((gI z_t 0) - r2)) 5) x2) (fun r4 => bd (fX8_put 10 (gT (sI z_t 0 ((gI z_t 0) - r2)) 5) x2 (r4 + 1)) (fun z6 => nm ((((((gI z_t 4).toInt64) * 1103515245) + 12345) &&& 2147483647).toInt32 : Int32) (fun v7 => bd (fX8_at 10 (gT z_p1 10) x2) (fun r9 => if ((v7 / 65536) - (v7 / 65536) / 100 * 100) < r9 then bd (fX8_bit x2) (fun r12 => bd (fX8_at 10 (gT z_p1 12) x2) (fun r14 => some (1, sI (sI (sI (sTf (sI z_t 0 ((gI z_t 0) - r2)) 5 z6) 4 v7) 2 ((gI z_t 2) ||| r12)) 1 ((gI z_t 1) + r14)))) else some (0, sI (sTf (sI z_t 0 ((gI z_t 0) - r2)) 5 z6) 4 v7))))))

set_option maxHeartbeats 4000000 in
set_option maxRecDepth 100000 in
theorem mX0_lookFor (l : Launch) (D : va_G) (a : Nat → ClassId) {q_t : Nat} {q_p1 : Nat} {Q_t : Nat → Nat} {z_t : Sx} {Q_p1 : Nat → Nat} {z_p1 : Sx} {x2 : Int32} {y : Int32 × Sx} (h : fX0_lookFor z_t z_p1 x2 = some y) (sz : Nat) : CMi (S := Unit) l MX0_lookFor 1 22 0 0 D a [.ref q_t, .ref q_p1, .int x2] (rc0 a q_t Q_t z_t ++ (rc7 a q_p1 Q_p1 z_p1)) sz (fun r _ => r = y.1) (fun _ => rc0 a q_t Q_t y.2 ++ (rc7 a q_p1 Q_p1 z_p1)) := by
  unfold fX0_lookFor at h
  refine entMi (by decide) (Nat.le_of_ble_eq_true rfl) ?_
  intro p e s m below meth c C hK A hA hP hD ls hl
  obtain ⟨hx, hb, hml, hown, hts, hr, hlocks, hnm⟩ := id C
  have hb : c.code = cX0_lookFor := hb
  have hown : s.vm.findClass RX0 = some m.cls := hown
  have hS : va_S A s.heap s.heap [] := va_S.rf
  have hl : lv_has ls 3 [(0, .ref q_t), (1, .ref q_p1), (2, .int x2)] := hl
  refine lv_aload_n hx hb dX0_lookFor_0 rfl (lv_at hl 0 rfl) ?_
  refine lv_dup hx hb dX0_lookFor_1 rfl ?_
  refine va_get (D := D) (v := .int (gI z_t 0)) (C := RX0) (T := TX0) (N := 6) hx hb hts iX0 hown hK.1 hP 0 rfl rfl 0 (by decide) (hts _ t_130) (fun _ h9 => h9) rfl dX0_lookFor_2 ?_
  refine lv_aload_n hx hb dX0_lookFor_5 rfl (lv_at hl 1 rfl) ?_
  refine va_get (D := D) (v := .ref (Q_p1 9)) (C := RX7) (T := TX7) (N := 18) hx hb hts iX7 hown hK.1 hP 2 rfl rfl 9 (by decide) (hts _ t_61) (fun _ h9 => h9) rfl dX0_lookFor_6 ?_
  refine lv_iload_n hx hb dX0_lookFor_9 rfl (lv_at hl 2 rfl) ?_
  obtain ⟨r2, hc1, h⟩ := bd_some h
  refine cRi (runN (As := [.ref (Q_p1 9), .int x2]) (rest := [.int (gI z_t 0), .ref q_t]) C hK (mX8_at l D a hc1) lk_N_0_48 okN_X8_at ⟨Nat.le_of_ble_eq_true rfl, Nat.le_of_ble_eq_true rfl⟩ ⟨rfl, rfl⟩ (preR hK (P_of_map (wc := ra0 a (Q_p1 9) 10 (gT z_p1 9)) hP [7] rfl)) hl.1 rfl (Nat.le_of_ble_eq_true rfl) dX0_lookFor_10 ⟨Nat.le_of_ble_eq_true rfl, Nat.le_of_ble_eq_true rfl⟩) ?_
  refine lv_isub hx hb dX0_lookFor_13 ?_
  refine va_put (D := D) (v := .int ((gI z_t 0) - r2)) (C := RX0) (T := TX0) (N := 6) hx hb hts iX0 tyX0 tyX0_ok nmX0 hown hK.1 hP hD hS 0 rfl rfl 0 (by decide) (hts _ t_130) (fun _ h9 => h9) rfl (tyX0_ok 0 (by decide)) rfl rfl (Nat.le_of_ble_eq_true rfl) dX0_lookFor_14 (fun H locs hP hD hS => ?_)
  have hP : va_P D classes (rc0 a q_t Q_t (sI z_t 0 ((gI z_t 0) - r2)) ++ (rc7 a q_p1 Q_p1 z_p1)) H := hP
  have hD : va_D A (rc0 a q_t Q_t (sI z_t 0 ((gI z_t 0) - r2)) ++ (rc7 a q_p1 Q_p1 z_p1)) := hD
  refine lv_aload_n hx hb dX0_lookFor_17 rfl (lv_at hl 0 rfl) ?_
  refine va_get (D := D) (v := .ref (Q_t 5)) (C := RX0) (T := TX0) (N := 6) hx hb hts iX0 hown hK.1 hP 0 rfl rfl 5 (by decide) (hts _ t_144) (fun _ h9 => h9) rfl dX0_lookFor_18 ?_
  refine lv_iload_n hx hb dX0_lookFor_21 rfl (lv_at hl 2 rfl) ?_
  refine lv_aload_n hx hb dX0_lookFor_22 rfl (lv_at hl 0 rfl) ?_
  refine va_get (D := D) (v := .ref (Q_t 5)) (C := RX0) (T := TX0) (N := 6) hx hb hts iX0 hown hK.1 hP 0 rfl rfl 5 (by decide) (hts _ t_144) (fun _ h9 => h9) rfl dX0_lookFor_23 ?_
  refine lv_iload_n hx hb dX0_lookFor_26 rfl (lv_at hl 2 rfl) ?_
  obtain ⟨r4, hc3, h⟩ := bd_some h
  refine cRi (runN (As := [.ref (Q_t 5), .int x2]) (rest := [.int x2, .ref (Q_t 5)]) C hK (mX8_at l D a hc3) lk_N_0_48 okN_X8_at ⟨Nat.le_of_ble_eq_true rfl, Nat.le_of_ble_eq_true rfl⟩ ⟨rfl, rfl⟩ (preR hK (P_of_map (wc := ra0 a (Q_t 5) 10 (gT (sI z_t 0 ((gI z_t 0) - r2)) 5)) hP [1] rfl)) hl.1 rfl (Nat.le_of_ble_eq_true rfl) dX0_lookFor_27 ⟨Nat.le_of_ble_eq_true rfl, Nat.le_of_ble_eq_true rfl⟩) ?_
  refine lv_iconst (v := 1) hx hb dX0_lookFor_30 (by decide) ?_
  refine lv_iadd hx hb dX0_lookFor_31 ?_
  obtain ⟨z6, hc5, h⟩ := bd_some h
  refine cMv (runN (As := [.ref (Q_t 5), .int x2, .int (r4 + 1)]) (rest := []) C hK (mX8_put l D a hc5 H.size) lk_N_0_52 okN_X8_put ⟨Nat.le_of_ble_eq_true rfl, Nat.le_of_ble_eq_true rfl⟩ ⟨rfl, rfl⟩ (preM hK (P_of_map (wc := ra0 a (Q_t 5) 10 (gT (sI z_t 0 ((gI z_t 0) - r2)) 5)) hP [1] rfl) (hD.sub (ws' := ra0 a (Q_t 5) 10 (gT (sI z_t 0 ((gI z_t 0) - r2)) 5)) [1] (by decide) rfl)) hl.1 rfl (Nat.le_of_ble_eq_true rfl) dX0_lookFor_32 ⟨Nat.le_of_ble_eq_true rfl, Nat.le_of_ble_eq_true rfl⟩) hP hD hS hA [1] [0, 2, 3, 4, 5, 6, 7, 8, 9, 10, 11, 12, 13, 14] [0, 14, 1, 2, 3, 4, 5, 6, 7, 8, 9, 10, 11, 12, 13] rfl rfl (by decide) (by decide) (fw := rc0 a q_t Q_t (sTf (sI z_t 0 ((gI z_t 0) - r2)) 5 z6) ++ (rc7 a q_p1 Q_p1 z_p1)) rfl (by decide) (fun H locs hP hD hS => ?_)
  have hP : va_P D classes (rc0 a q_t Q_t (sTf (sI z_t 0 ((gI z_t 0) - r2)) 5 z6) ++ (rc7 a q_p1 Q_p1 z_p1)) H := hP
  have hD : va_D A (rc0 a q_t Q_t (sTf (sI z_t 0 ((gI z_t 0) - r2)) 5 z6) ++ (rc7 a q_p1 Q_p1 z_p1)) := hD
  refine lv_aload_n hx hb dX0_lookFor_35 rfl (lv_at hl 0 rfl) ?_
  refine lv_aload_n hx hb dX0_lookFor_36 rfl (lv_at hl 0 rfl) ?_
  refine va_get (D := D) (v := .int (gI z_t 4)) (C := RX0) (T := TX0) (N := 6) hx hb hts iX0 hown hK.1 hP 0 rfl rfl 4 (by decide) (hts _ t_142) (fun _ h9 => h9) rfl dX0_lookFor_37 ?_
  refine lv_i2l (v := (gI z_t 4).toInt64) hx hb dX0_lookFor_40 rfl ?_
  refine lv_ldc2 hx hb hown (hts _ t_651) dX0_lookFor_41 ?_
  refine lv_lmul hx hb dX0_lookFor_44 ?_
  refine lv_ldc2 hx hb hown (hts _ t_652) dX0_lookFor_45 ?_
  refine lv_ladd hx hb dX0_lookFor_48 ?_
  refine lv_ldc2 hx hb hown (hts _ t_653) dX0_lookFor_49 ?_
  refine lv_land hx hb dX0_lookFor_52 ?_
  refine lv_l2i (v := (((((gI z_t 4).toInt64) * 1103515245) + 12345) &&& 2147483647).toInt32) hx hb dX0_lookFor_53 rfl ?_
  refine lv_topi (fun v7 ev7 => ?_)
  have h := nm_some h v7 ev7
  refine va_put (D := D) (v := .int v7) (C := RX0) (T := TX0) (N := 6) hx hb hts iX0 tyX0 tyX0_ok nmX0 hown hK.1 hP hD hS 0 rfl rfl 4 (by decide) (hts _ t_142) (fun _ h9 => h9) rfl (tyX0_ok 4 (by decide)) rfl rfl (Nat.le_of_ble_eq_true rfl) dX0_lookFor_54 (fun H locs hP hD hS => ?_)
  have hP : va_P D classes (rc0 a q_t Q_t (sI (sTf (sI z_t 0 ((gI z_t 0) - r2)) 5 z6) 4 v7) ++ (rc7 a q_p1 Q_p1 z_p1)) H := hP
  have hD : va_D A (rc0 a q_t Q_t (sI (sTf (sI z_t 0 ((gI z_t 0) - r2)) 5 z6) 4 v7) ++ (rc7 a q_p1 Q_p1 z_p1)) := hD
  refine lv_aload_n hx hb dX0_lookFor_57 rfl (lv_at hl 0 rfl) ?_
  refine va_get (D := D) (v := .int v7) (C := RX0) (T := TX0) (N := 6) hx hb hts iX0 hown hK.1 hP 0 rfl rfl 4 (by decide) (hts _ t_142) (fun _ h9 => h9) rfl dX0_lookFor_58 ?_
  refine lv_ldc hx hb hown (hts _ t_654) dX0_lookFor_61 ?_
  refine lv_idiv hx hb dX0_lookFor_63 (by decide) ?_
  refine lv_bipush (v := 100) hx hb dX0_lookFor_64 (by decide) ?_
  refine lv_irem hx hb dX0_lookFor_66 (by decide) ?_
  refine lv_aload_n hx hb dX0_lookFor_67 rfl (lv_at hl 1 rfl) ?_
  refine va_get (D := D) (v := .ref (Q_p1 10)) (C := RX7) (T := TX7) (N := 18) hx hb hts iX7 hown hK.1 hP 2 rfl rfl 10 (by decide) (hts _ t_65) (fun _ h9 => h9) rfl dX0_lookFor_68 ?_
  refine lv_iload_n hx hb dX0_lookFor_71 rfl (lv_at hl 2 rfl) ?_
  obtain ⟨r9, hc8, h⟩ := bd_some h
  refine cRi (runN (As := [.ref (Q_p1 10), .int x2]) (rest := [.int ((v7 / 65536) - (v7 / 65536) / 100 * 100)]) C hK (mX8_at l D a hc8) lk_N_0_48 okN_X8_at ⟨Nat.le_of_ble_eq_true rfl, Nat.le_of_ble_eq_true rfl⟩ ⟨rfl, rfl⟩ (preR hK (P_of_map (wc := ra0 a (Q_p1 10) 10 (gT z_p1 10)) hP [8] rfl)) hl.1 rfl (Nat.le_of_ble_eq_true rfl) dX0_lookFor_72 ⟨Nat.le_of_ble_eq_true rfl, Nat.le_of_ble_eq_true rfl⟩) ?_
  refine lv_icmp_lt (tgt := 80) hx hb dX0_lookFor_75 (by decide) (fun c10 => ?_) (fun c10 => ?_)
  · have h := ite_t c10 h
    refine lv_aload_n hx hb dX0_lookFor_80 rfl (lv_at hl 0 rfl) ?_
    refine lv_dup hx hb dX0_lookFor_81 rfl ?_
    refine va_get (D := D) (v := .int (gI z_t 2)) (C := RX0) (T := TX0) (N := 6) hx hb hts iX0 hown hK.1 hP 0 rfl rfl 2 (by decide) (hts _ t_136) (fun _ h9 => h9) rfl dX0_lookFor_82 ?_
    refine lv_iload_n hx hb dX0_lookFor_85 rfl (lv_at hl 2 rfl) ?_
    obtain ⟨r12, hc11, h⟩ := bd_some h
    refine cRi (runN (As := [.int x2]) (rest := [.int (gI z_t 2), .ref q_t]) C hK (mX8_bit l D a hc11) lk_N_0_66 okN_X8_bit ⟨Nat.le_of_ble_eq_true rfl, Nat.le_of_ble_eq_true rfl⟩ ⟨rfl, rfl⟩ (preR hK (P_of_map (wc := []) hP [] rfl)) hl.1 rfl (Nat.le_of_ble_eq_true rfl) dX0_lookFor_86 ⟨Nat.le_of_ble_eq_true rfl, Nat.le_of_ble_eq_true rfl⟩) ?_
    refine lv_ior hx hb dX0_lookFor_89 ?_
    refine va_put (D := D) (v := .int ((gI z_t 2) ||| r12)) (C := RX0) (T := TX0) (N := 6) hx hb hts iX0 tyX0 tyX0_ok nmX0 hown hK.1 hP hD hS 0 rfl rfl 2 (by decide) (hts _ t_136) (fun _ h9 => h9) rfl (tyX0_ok 2 (by decide)) rfl rfl (Nat.le_of_ble_eq_true rfl) dX0_lookFor_90 (fun H locs hP hD hS => ?_)
    have hP : va_P D classes (rc0 a q_t Q_t (sI (sI (sTf (sI z_t 0 ((gI z_t 0) - r2)) 5 z6) 4 v7) 2 ((gI z_t 2) ||| r12)) ++ (rc7 a q_p1 Q_p1 z_p1)) H := hP
    have hD : va_D A (rc0 a q_t Q_t (sI (sI (sTf (sI z_t 0 ((gI z_t 0) - r2)) 5 z6) 4 v7) 2 ((gI z_t 2) ||| r12)) ++ (rc7 a q_p1 Q_p1 z_p1)) := hD
    refine lv_aload_n hx hb dX0_lookFor_93 rfl (lv_at hl 0 rfl) ?_
    refine lv_dup hx hb dX0_lookFor_94 rfl ?_
    refine va_get (D := D) (v := .int (gI z_t 1)) (C := RX0) (T := TX0) (N := 6) hx hb hts iX0 hown hK.1 hP 0 rfl rfl 1 (by decide) (hts _ t_133) (fun _ h9 => h9) rfl dX0_lookFor_95 ?_
    refine lv_aload_n hx hb dX0_lookFor_98 rfl (lv_at hl 1 rfl) ?_
    refine va_get (D := D) (v := .ref (Q_p1 12)) (C := RX7) (T := TX7) (N := 18) hx hb hts iX7 hown hK.1 hP 2 rfl rfl 12 (by decide) (hts _ t_72) (fun _ h9 => h9) rfl dX0_lookFor_99 ?_
    refine lv_iload_n hx hb dX0_lookFor_102 rfl (lv_at hl 2 rfl) ?_
    obtain ⟨r14, hc13, h⟩ := bd_some h
    refine cRi (runN (As := [.ref (Q_p1 12), .int x2]) (rest := [.int (gI z_t 1), .ref q_t]) C hK (mX8_at l D a hc13) lk_N_0_48 okN_X8_at ⟨Nat.le_of_ble_eq_true rfl, Nat.le_of_ble_eq_true rfl⟩ ⟨rfl, rfl⟩ (preR hK (P_of_map (wc := ra0 a (Q_p1 12) 10 (gT z_p1 12)) hP [10] rfl)) hl.1 rfl (Nat.le_of_ble_eq_true rfl) dX0_lookFor_103 ⟨Nat.le_of_ble_eq_true rfl, Nat.le_of_ble_eq_true rfl⟩) ?_
    refine lv_iadd hx hb dX0_lookFor_106 ?_
    refine va_put (D := D) (v := .int ((gI z_t 1) + r14)) (C := RX0) (T := TX0) (N := 6) hx hb hts iX0 tyX0 tyX0_ok nmX0 hown hK.1 hP hD hS 0 rfl rfl 1 (by decide) (hts _ t_133) (fun _ h9 => h9) rfl (tyX0_ok 1 (by decide)) rfl rfl (Nat.le_of_ble_eq_true rfl) dX0_lookFor_107 (fun H locs hP hD hS => ?_)
    have hP : va_P D classes (rc0 a q_t Q_t (sI (sI (sI (sTf (sI z_t 0 ((gI z_t 0) - r2)) 5 z6) 4 v7) 2 ((gI z_t 2) ||| r12)) 1 ((gI z_t 1) + r14)) ++ (rc7 a q_p1 Q_p1 z_p1)) H := hP
    have hD : va_D A (rc0 a q_t Q_t (sI (sI (sI (sTf (sI z_t 0 ((gI z_t 0) - r2)) 5 z6) 4 v7) 2 ((gI z_t 2) ||| r12)) 1 ((gI z_t 1) + r14)) ++ (rc7 a q_p1 Q_p1 z_p1)) := hD
    refine lv_iconst (v := 1) hx hb dX0_lookFor_110 (by decide) ?_
    exact rMz C rfl (Or.inr rfl) h (g := fun y => rc0 a q_t Q_t y.2 ++ (rc7 a q_p1 Q_p1 z_p1)) (pr := fun y => y.1) hP hD hS dX0_lookFor_111
  · have h := ite_f c10 h
    refine lv_iconst (v := 0) hx hb dX0_lookFor_78 (by decide) ?_
    exact rMz C rfl (Or.inl rfl) h (g := fun y => rc0 a q_t Q_t y.2 ++ (rc7 a q_p1 Q_p1 z_p1)) (pr := fun y => y.1) hP hD hS dX0_lookFor_79

def lX2_play_3 (z_p1 : Sx) (nc_p2 : Nat) (z_p2 : Sx) : Nat → Sx → Sx → Int32 → Option (Int32 × Sx × Sx)
  | 0, _, _, _ => none
  | n + 1, z_t, z_p3, x4 => if 200 ≤ x4 then some (200, z_t, z_p3) else bd2 (fX2_nextFault z_t z_p1 nc_p2 z_p2 z_p3) (fun r3 z4 => if r3 < 0 then some (x4, z4, z_p3) else bd2 (fX2_stopsAt z4 z_p1 nc_p2 z_p2 z_p3 r3) (fun r7 z8 => if r7 = 0 then bd2 (fX0_lookFor z_p3 z_p1 r3) (fun r11 z12 => lX2_play_3 z_p1 nc_p2 z_p2 n z8 z12 (x4 + 1)) else some (x4, z8, z_p3)))
def fX2_play (z_t : Sx) (z_p1 : Sx) (nc_p2 : Nat) (z_p2 : Sx) (z_p3 : Sx) : Option (Int32 × Sx × Sx) := lX2_play_3 z_p1 nc_p2 z_p2 FU z_t z_p3 0

set_option maxHeartbeats 4000000 in
set_option maxRecDepth 100000 in
theorem wX2_play_3 {p : Program} {l : Launch} {e : Env} {s : State} {m : MethodId} {below : List Frame} {meth : Method} {c : Code} {D : va_G} {a : Nat → ClassId} {A : Nat → Prop} {q_t : Nat} {q_p1 : Nat} {q_p2 : Nat} {q_p3 : Nat} {Q_t : Nat → Nat} {Q_p1 : Nat → Nat} {Q_p2 : Nat → Nat} {Q_p3 : Nat → Nat} {z_p1 : Sx} {nc_p2 : Nat} {z_p2 : Sx} (C : Cx p s m #[.ref q_t, .ref q_p1, .ref q_p2, .ref q_p3] meth c MX2_play) (hK : KK D a s) (hA : ∀ q, s.heap.size ≤ q → A q) {y : Int32 × Sx × Sx} : ∀ (n : Nat) (z_t : Sx) (z_p3 : Sx) (x4 : Int32) (H : Heap) (locs : List Loc) (ls : Array Slot), lX2_play_3 z_p1 nc_p2 z_p2 n z_t z_p3 x4 = some y → va_P D classes (rc2 a q_t Q_t z_t ++ (rc7 a q_p1 Q_p1 z_p1 ++ (rc3 a q_p2 Q_p2 nc_p2 z_p2 ++ (rc0 a q_p3 Q_p3 z_p3)))) H → va_D A (rc2 a q_t Q_t z_t ++ (rc7 a q_p1 Q_p1 z_p1 ++ (rc3 a q_p2 Q_p2 nc_p2 z_p2 ++ (rc0 a q_p3 Q_p3 z_p3)))) → va_S A s.heap H locs → lv_has ls 6 [(0, .ref q_t), (1, .ref q_p1), (2, .ref q_p2), (3, .ref q_p3), (4, .int x4)] → W p l e (rmM 5 0 0 137) s m #[.ref q_t, .ref q_p1, .ref q_p2, .ref q_p3] below meth c H locs 0 0 (MQ below (va_Qi (fun r (_ : Unit) => r = y.1) (Bw D A (fun _ => rc2 a q_t Q_t y.2.1 ++ (rc7 a q_p1 Q_p1 z_p1 ++ (rc3 a q_p2 Q_p2 nc_p2 z_p2 ++ (rc0 a q_p3 Q_p3 y.2.2))))) A) #[.ref q_t, .ref q_p1, .ref q_p2, .ref q_p3] s 0 0 A) (F0 m 3 ls []) := by
  obtain ⟨hx, hb, hml, hown, hts, hr, hlocks, hnm⟩ := id C
  have hb : c.code = cX2_play := hb
  have hown : s.vm.findClass RX2 = some m.cls := hown
  intro n
  induction n with
  | zero => intro z_t z_p3 x4 H locs ls h; rw [lX2_play_3] at h; cases h
  | succ n ih =>
    intro z_t z_p3 x4 H locs ls h hP hD hS hl
    rw [lX2_play_3] at h
    refine lv_iload hx hb dX2_play_3 (lv_at hl 4 rfl) ?_
    refine lv_sipush (v := 200) hx hb dX2_play_5 (by decide) ?_
    refine lv_icmp_ge (tgt := 54) hx hb dX2_play_8 (by decide) (fun c1 => ?_) (fun c1 => ?_)
    · have h := ite_t c1 h
      refine lv_sipush (v := 200) hx hb dX2_play_54 (by decide) ?_
      exact rMi C rfl h (g := fun y => rc2 a q_t Q_t y.2.1 ++ (rc7 a q_p1 Q_p1 z_p1 ++ (rc3 a q_p2 Q_p2 nc_p2 z_p2 ++ (rc0 a q_p3 Q_p3 y.2.2)))) (pr := fun y => y.1) hP hD hS dX2_play_57
    · have h := ite_f c1 h
      refine lv_aload_n hx hb dX2_play_11 rfl (lv_at hl 0 rfl) ?_
      refine lv_aload_n hx hb dX2_play_12 rfl (lv_at hl 1 rfl) ?_
      refine lv_aload_n hx hb dX2_play_13 rfl (lv_at hl 2 rfl) ?_
      refine lv_aload_n hx hb dX2_play_14 rfl (lv_at hl 3 rfl) ?_
      obtain ⟨r3, z4, hc2, h⟩ := bd2_some h
      refine cWi (runV (As := [.ref q_p1, .ref q_p2, .ref q_p3]) (rest := []) C (mX2_nextFault l D a hc2 H.size) lk_V_2_15 okN_X2_nextFault ⟨Nat.le_of_ble_eq_true rfl, Nat.le_of_ble_eq_true rfl⟩ ⟨rfl, rfl⟩ (preV (preM hK hP hD) (recvOf hK hP 0 rfl (ci := 2) rfl)) hl.1 rfl (Nat.le_of_ble_eq_true rfl) dX2_play_15 ⟨Nat.le_of_ble_eq_true rfl, Nat.le_of_ble_eq_true rfl⟩) hP hD hS hA (fun H locs hP hD hS => ?_)
      have hP : va_P D classes (rc2 a q_t Q_t z4 ++ (rc7 a q_p1 Q_p1 z_p1 ++ (rc3 a q_p2 Q_p2 nc_p2 z_p2 ++ (rc0 a q_p3 Q_p3 z_p3)))) H := hP
      have hD : va_D A (rc2 a q_t Q_t z4 ++ (rc7 a q_p1 Q_p1 z_p1 ++ (rc3 a q_p2 Q_p2 nc_p2 z_p2 ++ (rc0 a q_p3 Q_p3 z_p3)))) := hD
      refine lv_istore (lv' := [(5, .int r3), (0, .ref q_t), (1, .ref q_p1), (2, .ref q_p2), (3, .ref q_p3), (4, .int x4)]) hx hb dX2_play_18 hl (by decide) rfl (fun ls hl => ?_)
      refine lv_iload hx hb dX2_play_20 (lv_at hl 0 rfl) ?_
      refine lv_if_lt (tgt := 37) hx hb dX2_play_22 (by decide) (fun c5 => ?_) (fun c5 => ?_)
      · have h := ite_t c5 h
        refine lv_iload hx hb dX2_play_37 (lv_at hl 5 rfl) ?_
        exact rMi C rfl h (g := fun y => rc2 a q_t Q_t y.2.1 ++ (rc7 a q_p1 Q_p1 z_p1 ++ (rc3 a q_p2 Q_p2 nc_p2 z_p2 ++ (rc0 a q_p3 Q_p3 y.2.2)))) (pr := fun y => y.1) hP hD hS dX2_play_39
      · have h := ite_f c5 h
        refine lv_aload_n hx hb dX2_play_25 rfl (lv_at hl 1 rfl) ?_
        refine lv_aload_n hx hb dX2_play_26 rfl (lv_at hl 2 rfl) ?_
        refine lv_aload_n hx hb dX2_play_27 rfl (lv_at hl 3 rfl) ?_
        refine lv_aload_n hx hb dX2_play_28 rfl (lv_at hl 4 rfl) ?_
        refine lv_iload hx hb dX2_play_29 (lv_at hl 0 rfl) ?_
        obtain ⟨r7, z8, hc6, h⟩ := bd2_some h
        refine cWi (runV (As := [.ref q_p1, .ref q_p2, .ref q_p3, .int r3]) (rest := []) C (mX2_stopsAt l D a hc6 H.size) lk_V_2_19 okN_X2_stopsAt ⟨Nat.le_of_ble_eq_true rfl, Nat.le_of_ble_eq_true rfl⟩ ⟨rfl, rfl⟩ (preV (preM hK hP hD) (recvOf hK hP 0 rfl (ci := 2) rfl)) hl.1 rfl (Nat.le_of_ble_eq_true rfl) dX2_play_31 ⟨Nat.le_of_ble_eq_true rfl, Nat.le_of_ble_eq_true rfl⟩) hP hD hS hA (fun H locs hP hD hS => ?_)
        have hP : va_P D classes (rc2 a q_t Q_t z8 ++ (rc7 a q_p1 Q_p1 z_p1 ++ (rc3 a q_p2 Q_p2 nc_p2 z_p2 ++ (rc0 a q_p3 Q_p3 z_p3)))) H := hP
        have hD : va_D A (rc2 a q_t Q_t z8 ++ (rc7 a q_p1 Q_p1 z_p1 ++ (rc3 a q_p2 Q_p2 nc_p2 z_p2 ++ (rc0 a q_p3 Q_p3 z_p3)))) := hD
        refine lv_if_eq (tgt := 40) hx hb dX2_play_34 (by decide) (fun c9 => ?_) (fun c9 => ?_)
        · have h := ite_t c9 h
          refine lv_aload_n hx hb dX2_play_40 rfl (lv_at hl 4 rfl) ?_
          refine lv_aload_n hx hb dX2_play_41 rfl (lv_at hl 2 rfl) ?_
          refine lv_iload hx hb dX2_play_42 (lv_at hl 0 rfl) ?_
          obtain ⟨r11, z12, hc10, h⟩ := bd2_some h
          refine cMi (runV (As := [.ref q_p1, .int r3]) (rest := []) C (mX0_lookFor l D a hc10 H.size) lk_V_2_23 okN_X0_lookFor ⟨Nat.le_of_ble_eq_true rfl, Nat.le_of_ble_eq_true rfl⟩ ⟨rfl, rfl⟩ (preV (preM hK (P_of_map (wc := rc0 a q_p3 Q_p3 z_p3 ++ (rc7 a q_p1 Q_p1 z_p1)) hP [20, 21, 2, 3, 4, 5, 6, 7, 8, 9, 10, 11, 12, 13, 14] rfl) (hD.sub (ws' := rc0 a q_p3 Q_p3 z_p3 ++ (rc7 a q_p1 Q_p1 z_p1)) [20, 21, 2, 3, 4, 5, 6, 7, 8, 9, 10, 11, 12, 13, 14] (by decide) rfl)) (recvOf hK hP 20 rfl (ci := 0) rfl)) hl.1 rfl (Nat.le_of_ble_eq_true rfl) dX2_play_44 ⟨Nat.le_of_ble_eq_true rfl, Nat.le_of_ble_eq_true rfl⟩) hP hD hS hA [20, 21, 2, 3, 4, 5, 6, 7, 8, 9, 10, 11, 12, 13, 14] [0, 1, 15, 16, 17, 18, 19] [0, 1, 9, 10, 11, 12, 13, 14, 15, 16, 17, 18, 19, 20, 21, 2, 3, 4, 5, 6, 7, 8] rfl rfl (by decide) (by decide) (fw := rc2 a q_t Q_t z8 ++ (rc7 a q_p1 Q_p1 z_p1 ++ (rc3 a q_p2 Q_p2 nc_p2 z_p2 ++ (rc0 a q_p3 Q_p3 z12)))) rfl (by decide) (fun H locs hP hD hS => ?_)
          have hP : va_P D classes (rc2 a q_t Q_t z8 ++ (rc7 a q_p1 Q_p1 z_p1 ++ (rc3 a q_p2 Q_p2 nc_p2 z_p2 ++ (rc0 a q_p3 Q_p3 z12)))) H := hP
          have hD : va_D A (rc2 a q_t Q_t z8 ++ (rc7 a q_p1 Q_p1 z_p1 ++ (rc3 a q_p2 Q_p2 nc_p2 z_p2 ++ (rc0 a q_p3 Q_p3 z12)))) := hD
          refine lv_pop hx hb dX2_play_47 rfl ?_
          refine lv_iinc (v := x4 + 1) (lv' := [(4, .int (x4 + 1)), (5, .int r3), (0, .ref q_t), (1, .ref q_p1), (2, .ref q_p2), (3, .ref q_p3)]) hx hb dX2_play_48 hl (k := 5) rfl rfl (by decide) rfl (fun ls hl => ?_)
          refine lv_goto (tgt := 3) hx hb dX2_play_51 (by decide) ?_
          exact ih z8 z12 (x4 + 1) _ _ ls h hP hD hS (lv_sub hl [2, 3, 4, 5, 0] rfl)
        · have h := ite_f c9 h
          refine lv_iload hx hb dX2_play_37 (lv_at hl 5 rfl) ?_
          exact rMi C rfl h (g := fun y => rc2 a q_t Q_t y.2.1 ++ (rc7 a q_p1 Q_p1 z_p1 ++ (rc3 a q_p2 Q_p2 nc_p2 z_p2 ++ (rc0 a q_p3 Q_p3 y.2.2)))) (pr := fun y => y.1) hP hD hS dX2_play_39

set_option maxHeartbeats 4000000 in
set_option maxRecDepth 100000 in
theorem mX2_play (l : Launch) (D : va_G) (a : Nat → ClassId) {q_t : Nat} {q_p1 : Nat} {q_p2 : Nat} {q_p3 : Nat} {Q_t : Nat → Nat} {z_t : Sx} {Q_p1 : Nat → Nat} {z_p1 : Sx} {Q_p2 : Nat → Nat} {nc_p2 : Nat} {z_p2 : Sx} {Q_p3 : Nat → Nat} {z_p3 : Sx} {y : Int32 × Sx × Sx} (h : fX2_play z_t z_p1 nc_p2 z_p2 z_p3 = some y) (sz : Nat) : CMi (S := Unit) l MX2_play 5 137 0 0 D a [.ref q_t, .ref q_p1, .ref q_p2, .ref q_p3] (rc2 a q_t Q_t z_t ++ (rc7 a q_p1 Q_p1 z_p1 ++ (rc3 a q_p2 Q_p2 nc_p2 z_p2 ++ (rc0 a q_p3 Q_p3 z_p3)))) sz (fun r _ => r = y.1) (fun _ => rc2 a q_t Q_t y.2.1 ++ (rc7 a q_p1 Q_p1 z_p1 ++ (rc3 a q_p2 Q_p2 nc_p2 z_p2 ++ (rc0 a q_p3 Q_p3 y.2.2)))) := by
  unfold fX2_play at h
  refine entMi (by decide) (Nat.le_of_ble_eq_true rfl) ?_
  intro p e s m below meth c C hK A hA hP hD ls hl
  obtain ⟨hx, hb, hml, hown, hts, hr, hlocks, hnm⟩ := id C
  have hb : c.code = cX2_play := hb
  have hown : s.vm.findClass RX2 = some m.cls := hown
  have hS : va_S A s.heap s.heap [] := va_S.rf
  have hl : lv_has ls 6 [(0, .ref q_t), (1, .ref q_p1), (2, .ref q_p2), (3, .ref q_p3)] := hl
  refine lv_iconst (v := 0) hx hb dX2_play_0 (by decide) ?_
  refine lv_istore (lv' := [(4, .int 0), (0, .ref q_t), (1, .ref q_p1), (2, .ref q_p2), (3, .ref q_p3)]) hx hb dX2_play_1 hl (by decide) rfl (fun ls hl => ?_)
  refine wX2_play_3 C hK hA FU z_t z_p3 0 _ _ ls h hP hD hS (lv_sub hl [1, 2, 3, 4, 0] rfl)

def fX8_day_some (z_t : Sx) (B_t_2 : Nat → Option Nat) (z_t_5 : Sx) (z_t_5_0 : Sx) (z_t_5_1 : Sx) (z_t_9 : Sx) (nc_R : Nat) (z_R : Sx) (x1 : Int32) : Option (Int32 × Sx × Sx) := bd (fX8_ruleForWork z_t B_t_2 z_t_5 z_t_5_0 x1) (fun r2 => bd3 (fX2_play z_t_9 z_t_5_0 nc_R z_R z_t_5_1) (fun r4 z5 z6 => some ((gI z6 1) - (gI z_t_5_1 1), z6, z5)))

set_option maxHeartbeats 4000000 in
set_option maxRecDepth 100000 in
theorem mX8_day_some (l : Launch) (D : va_G) (a : Nat → ClassId) {q_R : Nat} {q_t : Nat} {Q_t : Nat → Nat} {z_t : Sx} {B_t_2 : Nat → Option Nat} {Q_t_5 : Nat → Nat} {z_t_5 : Sx} {Q_t_5_0 : Nat → Nat} {z_t_5_0 : Sx} {Q_t_5_1 : Nat → Nat} {z_t_5_1 : Sx} {Q_t_9 : Nat → Nat} {z_t_9 : Sx} {Q_R : Nat → Nat} {nc_R : Nat} {z_R : Sx} {x1 : Int32} (hm : fX8_ruleForWork z_t B_t_2 z_t_5 z_t_5_0 x1 = some (some q_R)) {y : Int32 × Sx × Sx} (h : fX8_day_some z_t B_t_2 z_t_5 z_t_5_0 z_t_5_1 z_t_9 nc_R z_R x1 = some y) (sz : Nat) : CMi (S := Unit) l MX8_day 6 162 0 0 D a [.ref q_t, .int x1] (rc8 a q_t Q_t z_t ++ (rb4 a (Q_t 2) 6 B_t_2 ++ (rc5 a (Q_t 5) Q_t_5 z_t_5 ++ (rc7 a (Q_t_5 0) Q_t_5_0 z_t_5_0 ++ (rc0 a (Q_t_5 1) Q_t_5_1 z_t_5_1 ++ (rc2 a (Q_t 9) Q_t_9 z_t_9 ++ (rc3 a q_R Q_R nc_R z_R))))))) sz (fun r _ => r = y.1) (fun _ => rc8 a q_t Q_t z_t ++ (rb4 a (Q_t 2) 6 B_t_2 ++ (rc5 a (Q_t 5) Q_t_5 z_t_5 ++ (rc7 a (Q_t_5 0) Q_t_5_0 z_t_5_0 ++ (rc0 a (Q_t_5 1) Q_t_5_1 y.2.1 ++ (rc2 a (Q_t 9) Q_t_9 y.2.2 ++ (rc3 a q_R Q_R nc_R z_R))))))) := by
  unfold fX8_day_some at h
  refine entMi (by decide) (Nat.le_of_ble_eq_true rfl) ?_
  intro p e s m below meth c C hK A hA hP hD ls hl
  obtain ⟨hx, hb, hml, hown, hts, hr, hlocks, hnm⟩ := id C
  have hb : c.code = cX8_day := hb
  have hown : s.vm.findClass RX8 = some m.cls := hown
  have hS : va_S A s.heap s.heap [] := va_S.rf
  have hl : lv_has ls 4 [(0, .ref q_t), (1, .int x1)] := hl
  refine lv_aload_n hx hb dX8_day_0 rfl (lv_at hl 0 rfl) ?_
  refine lv_iload_n hx hb dX8_day_1 rfl (lv_at hl 1 rfl) ?_
  obtain ⟨r2, hc1, h⟩ := bd_some h
  refine cRq (runV (As := [.int x1]) (rest := []) C (mX8_ruleForWork l D a hc1) lk_V_8_228 okN_X8_ruleForWork ⟨Nat.le_of_ble_eq_true rfl, Nat.le_of_ble_eq_true rfl⟩ ⟨rfl, rfl⟩ (preV (preR hK (P_of_map (wc := rc8 a q_t Q_t z_t ++ (rb4 a (Q_t 2) 6 B_t_2 ++ (rc5 a (Q_t 5) Q_t_5 z_t_5 ++ (rc7 a (Q_t_5 0) Q_t_5_0 z_t_5_0)))) hP [0, 1, 2, 3, 4, 5, 6, 7, 8, 9, 10, 11, 12, 13, 14, 15, 16, 17, 18] rfl)) (recvOf hK hP 0 rfl (ci := 8) rfl)) hl.1 rfl (Nat.le_of_ble_eq_true rfl) dX8_day_2 ⟨Nat.le_of_ble_eq_true rfl, Nat.le_of_ble_eq_true rfl⟩) ?_
  obtain rfl := Option.some.inj (hc1.symm.trans hm)
  refine lv_astore_n (lv' := [(2, .ref q_R), (0, .ref q_t), (1, .int x1)]) hx hb dX8_day_5 rfl hl (by decide) rfl (fun ls hl => ?_)
  refine lv_aload_n hx hb dX8_day_6 rfl (lv_at hl 0 rfl) ?_
  refine lv_ifnonnull (tgt := 13) hx hb dX8_day_7 (by decide) ?_
  refine lv_aload_n hx hb dX8_day_13 rfl (lv_at hl 1 rfl) ?_
  refine va_get (D := D) (v := .ref (Q_t 5)) (C := RX8) (T := TX8) (N := 11) hx hb hts iX8 hown hK.1 hP 0 rfl rfl 5 (by decide) (hts _ t_305) (fun _ h9 => h9) rfl dX8_day_14 ?_
  refine va_get (D := D) (v := .ref (Q_t_5 1)) (C := RX5) (T := TX5) (N := 8) hx hb hts iX5 hown hK.1 hP 3 rfl rfl 1 (by decide) (hts _ t_163) (fun _ h9 => h9) rfl dX8_day_17 ?_
  refine va_get (D := D) (v := .int (gI z_t_5_1 1)) (C := RX0) (T := TX0) (N := 6) hx hb hts iX0 hown hK.1 hP 19 rfl rfl 1 (by decide) (hts _ t_135) (fun _ h9 => h9) rfl dX8_day_20 ?_
  refine lv_istore_n (lv' := [(3, .int (gI z_t_5_1 1)), (2, .ref q_R), (0, .ref q_t), (1, .int x1)]) hx hb dX8_day_23 rfl hl (by decide) rfl (fun ls hl => ?_)
  refine lv_aload_n hx hb dX8_day_24 rfl (lv_at hl 2 rfl) ?_
  refine va_get (D := D) (v := .ref (Q_t 9)) (C := RX8) (T := TX8) (N := 11) hx hb hts iX8 hown hK.1 hP 0 rfl rfl 9 (by decide) (hts _ t_309) (fun _ h9 => h9) rfl dX8_day_25 ?_
  refine lv_aload_n hx hb dX8_day_28 rfl (lv_at hl 2 rfl) ?_
  refine va_get (D := D) (v := .ref (Q_t 5)) (C := RX8) (T := TX8) (N := 11) hx hb hts iX8 hown hK.1 hP 0 rfl rfl 5 (by decide) (hts _ t_305) (fun _ h9 => h9) rfl dX8_day_29 ?_
  refine va_get (D := D) (v := .ref (Q_t_5 0)) (C := RX5) (T := TX5) (N := 8) hx hb hts iX5 hown hK.1 hP 3 rfl rfl 0 (by decide) (hts _ t_161) (fun _ h9 => h9) rfl dX8_day_32 ?_
  refine lv_aload_n hx hb dX8_day_35 rfl (lv_at hl 1 rfl) ?_
  refine lv_aload_n hx hb dX8_day_36 rfl (lv_at hl 2 rfl) ?_
  refine va_get (D := D) (v := .ref (Q_t 5)) (C := RX8) (T := TX8) (N := 11) hx hb hts iX8 hown hK.1 hP 0 rfl rfl 5 (by decide) (hts _ t_305) (fun _ h9 => h9) rfl dX8_day_37 ?_
  refine va_get (D := D) (v := .ref (Q_t_5 1)) (C := RX5) (T := TX5) (N := 8) hx hb hts iX5 hown hK.1 hP 3 rfl rfl 1 (by decide) (hts _ t_163) (fun _ h9 => h9) rfl dX8_day_40 ?_
  obtain ⟨r4, z5, z6, hc3, h⟩ := bd3_some h
  refine cMi (runV (As := [.ref (Q_t_5 0), .ref q_R, .ref (Q_t_5 1)]) (rest := []) C (mX2_play l D a hc3 s.heap.size) lk_V_8_232 okN_X2_play ⟨Nat.le_of_ble_eq_true rfl, Nat.le_of_ble_eq_true rfl⟩ ⟨rfl, rfl⟩ (preV (preM hK (P_of_map (wc := rc2 a (Q_t 9) Q_t_9 z_t_9 ++ (rc7 a (Q_t_5 0) Q_t_5_0 z_t_5_0 ++ (rc3 a q_R Q_R nc_R z_R ++ (rc0 a (Q_t_5 1) Q_t_5_1 z_t_5_1)))) hP [21, 22, 6, 7, 8, 9, 10, 11, 12, 13, 14, 15, 16, 17, 18, 23, 24, 25, 26, 27, 19, 20] rfl) (hD.sub (ws' := rc2 a (Q_t 9) Q_t_9 z_t_9 ++ (rc7 a (Q_t_5 0) Q_t_5_0 z_t_5_0 ++ (rc3 a q_R Q_R nc_R z_R ++ (rc0 a (Q_t_5 1) Q_t_5_1 z_t_5_1)))) [21, 22, 6, 7, 8, 9, 10, 11, 12, 13, 14, 15, 16, 17, 18, 23, 24, 25, 26, 27, 19, 20] (by decide) rfl)) (recvOf hK hP 21 rfl (ci := 2) rfl)) hl.1 rfl (Nat.le_of_ble_eq_true rfl) dX8_day_43 ⟨Nat.le_of_ble_eq_true rfl, Nat.le_of_ble_eq_true rfl⟩) hP hD hS hA [21, 22, 6, 7, 8, 9, 10, 11, 12, 13, 14, 15, 16, 17, 18, 23, 24, 25, 26, 27, 19, 20] [0, 1, 2, 3, 4, 5] [0, 1, 2, 3, 4, 5, 8, 9, 10, 11, 12, 13, 14, 15, 16, 17, 18, 19, 20, 26, 27, 6, 7, 21, 22, 23, 24, 25] rfl rfl (by decide) (by decide) (fw := rc8 a q_t Q_t z_t ++ (rb4 a (Q_t 2) 6 B_t_2 ++ (rc5 a (Q_t 5) Q_t_5 z_t_5 ++ (rc7 a (Q_t_5 0) Q_t_5_0 z_t_5_0 ++ (rc0 a (Q_t_5 1) Q_t_5_1 z6 ++ (rc2 a (Q_t 9) Q_t_9 z5 ++ (rc3 a q_R Q_R nc_R z_R))))))) rfl (by decide) (fun H locs hP hD hS => ?_)
  have hP : va_P D classes (rc8 a q_t Q_t z_t ++ (rb4 a (Q_t 2) 6 B_t_2 ++ (rc5 a (Q_t 5) Q_t_5 z_t_5 ++ (rc7 a (Q_t_5 0) Q_t_5_0 z_t_5_0 ++ (rc0 a (Q_t_5 1) Q_t_5_1 z6 ++ (rc2 a (Q_t 9) Q_t_9 z5 ++ (rc3 a q_R Q_R nc_R z_R))))))) H := hP
  have hD : va_D A (rc8 a q_t Q_t z_t ++ (rb4 a (Q_t 2) 6 B_t_2 ++ (rc5 a (Q_t 5) Q_t_5 z_t_5 ++ (rc7 a (Q_t_5 0) Q_t_5_0 z_t_5_0 ++ (rc0 a (Q_t_5 1) Q_t_5_1 z6 ++ (rc2 a (Q_t 9) Q_t_9 z5 ++ (rc3 a q_R Q_R nc_R z_R))))))) := hD
  refine lv_pop hx hb dX8_day_46 rfl ?_
  refine lv_aload_n hx hb dX8_day_47 rfl (lv_at hl 2 rfl) ?_
  refine va_get (D := D) (v := .ref (Q_t 5)) (C := RX8) (T := TX8) (N := 11) hx hb hts iX8 hown hK.1 hP 0 rfl rfl 5 (by decide) (hts _ t_305) (fun _ h9 => h9) rfl dX8_day_48 ?_
  refine va_get (D := D) (v := .ref (Q_t_5 1)) (C := RX5) (T := TX5) (N := 8) hx hb hts iX5 hown hK.1 hP 3 rfl rfl 1 (by decide) (hts _ t_163) (fun _ h9 => h9) rfl dX8_day_51 ?_
  refine va_get (D := D) (v := .int (gI z6 1)) (C := RX0) (T := TX0) (N := 6) hx hb hts iX0 hown hK.1 hP 19 rfl rfl 1 (by decide) (hts _ t_135) (fun _ h9 => h9) rfl dX8_day_54 ?_
  refine lv_iload_n hx hb dX8_day_57 rfl (lv_at hl 0 rfl) ?_
  refine lv_isub hx hb dX8_day_58 ?_
  exact rMi C rfl h (g := fun y => rc8 a q_t Q_t z_t ++ (rb4 a (Q_t 2) 6 B_t_2 ++ (rc5 a (Q_t 5) Q_t_5 z_t_5 ++ (rc7 a (Q_t_5 0) Q_t_5_0 z_t_5_0 ++ (rc0 a (Q_t_5 1) Q_t_5_1 y.2.1 ++ (rc2 a (Q_t 9) Q_t_9 y.2.2 ++ (rc3 a q_R Q_R nc_R z_R))))))) (pr := fun y => y.1) hP hD hS dX8_day_59

def fX8_image_some (z_t : Sx) (z_t_5 : Sx) (z_t_5_1 : Sx) (B_t_6 : Nat → Option Nat) (z_R : Sx) (z_R_1 : Sx) (x1 : Int32) : Option (Int32 × Sx × Sx) := if x1 < 0 then none else if x1 < 4 then gd (inb x1 4) (bd2 (fX5_copyFrom z_R z_R_1 z_t_5 z_t_5_1) (fun z5 z6 => some (gI z_t_5 4, z5, z6))) else none

set_option maxHeartbeats 4000000 in
set_option maxRecDepth 100000 in
theorem mX8_image_some (l : Launch) (D : va_G) (a : Nat → ClassId) {q_R : Nat} {q_t : Nat} {Q_t : Nat → Nat} {z_t : Sx} {Q_t_5 : Nat → Nat} {z_t_5 : Sx} {Q_t_5_1 : Nat → Nat} {z_t_5_1 : Sx} {B_t_6 : Nat → Option Nat} {Q_R : Nat → Nat} {z_R : Sx} {Q_R_1 : Nat → Nat} {z_R_1 : Sx} {x1 : Int32} (hm : B_t_6 x1.toNatClampNeg = some q_R) {y : Int32 × Sx × Sx} (h : fX8_image_some z_t z_t_5 z_t_5_1 B_t_6 z_R z_R_1 x1 = some y) (sz : Nat) : CMi (S := Unit) l MX8_image 3 102 0 0 D a [.ref q_t, .int x1] (rc8 a q_t Q_t z_t ++ (rc5 a (Q_t 5) Q_t_5 z_t_5 ++ (rc0 a (Q_t_5 1) Q_t_5_1 z_t_5_1 ++ (rb5 a (Q_t 6) 4 B_t_6 ++ (rc5 a q_R Q_R z_R ++ (rc0 a (Q_R 1) Q_R_1 z_R_1)))))) sz (fun r _ => r = y.1) (fun _ => rc8 a q_t Q_t z_t ++ (rc5 a (Q_t 5) Q_t_5 z_t_5 ++ (rc0 a (Q_t_5 1) Q_t_5_1 z_t_5_1 ++ (rb5 a (Q_t 6) 4 B_t_6 ++ (rc5 a q_R (va_up Q_R 0 (Q_t_5 0)) y.2.1 ++ (rc0 a (Q_R 1) Q_R_1 y.2.2)))))) := by
  unfold fX8_image_some at h
  refine entMi (by decide) (Nat.le_of_ble_eq_true rfl) ?_
  intro p e s m below meth c C hK A hA hP hD ls hl
  obtain ⟨hx, hb, hml, hown, hts, hr, hlocks, hnm⟩ := id C
  have hb : c.code = cX8_image := hb
  have hown : s.vm.findClass RX8 = some m.cls := hown
  have hS : va_S A s.heap s.heap [] := va_S.rf
  have hl : lv_has ls 3 [(0, .ref q_t), (1, .int x1)] := hl
  refine lv_iload_n hx hb dX8_image_0 rfl (lv_at hl 1 rfl) ?_
  refine lv_if_lt (tgt := 13) hx hb dX8_image_1 (by decide) (fun c1 => ?_) (fun c1 => ?_)
  · have h := ite_t c1 h
    cases h
  · have h := ite_f c1 h
    refine lv_iload_n hx hb dX8_image_4 rfl (lv_at hl 1 rfl) ?_
    refine lv_aload_n hx hb dX8_image_5 rfl (lv_at hl 0 rfl) ?_
    refine va_get (D := D) (v := .ref (Q_t 6)) (C := RX8) (T := TX8) (N := 11) hx hb hts iX8 hown hK.1 hP 0 rfl rfl 6 (by decide) (hts _ t_306) (fun _ h9 => h9) rfl dX8_image_6 ?_
    refine va_alen (v := 4) hx hb hK.1 hP 7 5 rfl rfl rfl dX8_image_9 ?_
    refine lv_icmp_lt (tgt := 15) hx hb dX8_image_10 (by decide) (fun c2 => ?_) (fun c2 => ?_)
    · have h := ite_t c2 h
      refine lv_aload_n hx hb dX8_image_15 rfl (lv_at hl 0 rfl) ?_
      refine va_get (D := D) (v := .ref (Q_t 6)) (C := RX8) (T := TX8) (N := 11) hx hb hts iX8 hown hK.1 hP 0 rfl rfl 6 (by decide) (hts _ t_306) (fun _ h9 => h9) rfl dX8_image_16 ?_
      refine lv_iload_n hx hb dX8_image_19 rfl (lv_at hl 1 rfl) ?_
      obtain ⟨g3, h⟩ := gd_some h
      refine ald_q hx hb hK.1 hP 7 5 rfl rfl x1.toNatClampNeg (ix_g g3) dX8_image_20 ?_
      rw [hm]
      refine lv_astore_n (lv' := [(2, .ref q_R), (0, .ref q_t), (1, .int x1)]) hx hb dX8_image_21 rfl hl (by decide) rfl (fun ls hl => ?_)
      refine lv_aload_n hx hb dX8_image_22 rfl (lv_at hl 0 rfl) ?_
      refine lv_ifnonnull (tgt := 48) hx hb dX8_image_23 (by decide) ?_
      refine lv_aload_n hx hb dX8_image_48 rfl (lv_at hl 0 rfl) ?_
      refine lv_aload_n hx hb dX8_image_49 rfl (lv_at hl 1 rfl) ?_
      refine va_get (D := D) (v := .ref (Q_t 5)) (C := RX8) (T := TX8) (N := 11) hx hb hts iX8 hown hK.1 hP 0 rfl rfl 5 (by decide) (hts _ t_305) (fun _ h9 => h9) rfl dX8_image_50 ?_
      obtain ⟨z5, z6, hc4, h⟩ := bd2_some h
      refine cMv (runV (As := [.ref (Q_t 5)]) (rest := []) C (mX5_copyFrom l D a hc4 s.heap.size) lk_V_8_300 okN_X5_copyFrom ⟨Nat.le_of_ble_eq_true rfl, Nat.le_of_ble_eq_true rfl⟩ ⟨rfl, rfl⟩ (preV (preM hK (P_of_map (wc := rc5 a q_R Q_R z_R ++ (rc0 a (Q_R 1) Q_R_1 z_R_1 ++ (rc5 a (Q_t 5) Q_t_5 z_t_5 ++ (rc0 a (Q_t_5 1) Q_t_5_1 z_t_5_1)))) hP [8, 9, 10, 11, 12, 2, 3, 4, 5, 6] rfl) (hD.sub (ws' := rc5 a q_R Q_R z_R ++ (rc0 a (Q_R 1) Q_R_1 z_R_1 ++ (rc5 a (Q_t 5) Q_t_5 z_t_5 ++ (rc0 a (Q_t_5 1) Q_t_5_1 z_t_5_1)))) [8, 9, 10, 11, 12, 2, 3, 4, 5, 6] (by decide) rfl)) (recvOf hK hP 8 rfl (ci := 5) rfl)) hl.1 rfl (Nat.le_of_ble_eq_true rfl) dX8_image_53 ⟨Nat.le_of_ble_eq_true rfl, Nat.le_of_ble_eq_true rfl⟩) hP hD hS hA [8, 9, 10, 11, 12, 2, 3, 4, 5, 6] [0, 1, 7] [0, 1, 8, 9, 10, 11, 12, 2, 3, 4, 5, 6, 7] rfl rfl (by decide) (by decide) (fw := rc8 a q_t Q_t z_t ++ (rc5 a (Q_t 5) Q_t_5 z_t_5 ++ (rc0 a (Q_t_5 1) Q_t_5_1 z_t_5_1 ++ (rb5 a (Q_t 6) 4 B_t_6 ++ (rc5 a q_R (va_up Q_R 0 (Q_t_5 0)) z5 ++ (rc0 a (Q_R 1) Q_R_1 z6)))))) rfl (by decide) (fun H locs hP hD hS => ?_)
      have hP : va_P D classes (rc8 a q_t Q_t z_t ++ (rc5 a (Q_t 5) Q_t_5 z_t_5 ++ (rc0 a (Q_t_5 1) Q_t_5_1 z_t_5_1 ++ (rb5 a (Q_t 6) 4 B_t_6 ++ (rc5 a q_R (va_up Q_R 0 (Q_t_5 0)) z5 ++ (rc0 a (Q_R 1) Q_R_1 z6)))))) H := hP
      have hD : va_D A (rc8 a q_t Q_t z_t ++ (rc5 a (Q_t 5) Q_t_5 z_t_5 ++ (rc0 a (Q_t_5 1) Q_t_5_1 z_t_5_1 ++ (rb5 a (Q_t 6) 4 B_t_6 ++ (rc5 a q_R (va_up Q_R 0 (Q_t_5 0)) z5 ++ (rc0 a (Q_R 1) Q_R_1 z6)))))) := hD
      refine lv_aload_n hx hb dX8_image_56 rfl (lv_at hl 1 rfl) ?_
      refine va_get (D := D) (v := .ref (Q_t 5)) (C := RX8) (T := TX8) (N := 11) hx hb hts iX8 hown hK.1 hP 0 rfl rfl 5 (by decide) (hts _ t_305) (fun _ h9 => h9) rfl dX8_image_57 ?_
      refine va_get (D := D) (v := .int (gI z_t_5 4)) (C := RX5) (T := TX5) (N := 8) hx hb hts iX5 hown hK.1 hP 2 rfl rfl 4 (by decide) (hts _ t_169) (fun _ h9 => h9) rfl dX8_image_60 ?_
      exact rMi C rfl h (g := fun y => rc8 a q_t Q_t z_t ++ (rc5 a (Q_t 5) Q_t_5 z_t_5 ++ (rc0 a (Q_t_5 1) Q_t_5_1 z_t_5_1 ++ (rb5 a (Q_t 6) 4 B_t_6 ++ (rc5 a q_R (va_up Q_R 0 (Q_t_5 0)) y.2.1 ++ (rc0 a (Q_R 1) Q_R_1 y.2.2)))))) (pr := fun y => y.1) hP hD hS dX8_image_63
    · have h := ite_f c2 h
      cases h

def lX8_rests_4 (z_t : Sx) (z_t_5 : Sx) : Nat → Int32 → Int32 → Option (Int32)
  | 0, _, _ => none
  | n + 1, x1, x2 => if 4 ≤ x2 then some x1 else bd (fX8_at 8 (gT z_t_5 7) x2) (fun r3 => bd (fX8_at 8 (gT z_t_5 7) (x2 ^^^ 2)) (fun r5 => jn (fun (i7 : Int32) => bd (fX8_at 8 (gT z_t_5 7) (4 + x2)) (fun r9 => bd (fX8_at 8 (gT z_t_5 7) (4 + (x2 ^^^ 1))) (fun r11 => jn (fun (i13 : Int32) => jn (fun (i15 : Int32) => lX8_rests_4 z_t z_t_5 n i15 (x2 + 1)) (fun J14 => if i7 = 0 then J14 x1 else if i13 = 0 then J14 x1 else J14 (x1 ||| ((1 : Int32) <<< (x2 &&& 31))))) (fun J12 => if r9 < r11 then J12 0 else J12 1)))) (fun J6 => if r3 < r5 then J6 0 else J6 1)))
def fX8_rests (z_t : Sx) (z_t_5 : Sx) : Option (Int32) := lX8_rests_4 z_t z_t_5 FU 0 0

set_option maxHeartbeats 4000000 in
set_option maxRecDepth 100000 in
theorem wX8_rests_4 {p : Program} {l : Launch} {e : Env} {s : State} {m : MethodId} {below : List Frame} {meth : Method} {c : Code} {D : va_G} {a : Nat → ClassId} {q_t : Nat} {Q_t : Nat → Nat} {Q_t_5 : Nat → Nat} {z_t : Sx} {z_t_5 : Sx} (C : Cx p s m #[.ref q_t] meth c MX8_rests) (hK : KK D a s) {y : Int32} (hP : va_P D classes (rc8 a q_t Q_t z_t ++ (rc5 a (Q_t 5) Q_t_5 z_t_5)) s.heap) : ∀ (n : Nat) (x1 : Int32) (x2 : Int32) (ls : Array Slot), lX8_rests_4 z_t z_t_5 n x1 x2 = some y → lv_has ls 5 [(0, .ref q_t), (1, .int x1), (2, .int x2)] → W p l e (rmM 1 0 0 21) s m #[.ref q_t] below meth c s.heap [] 0 0 (MQ below (vp_Si (fun r => r = y)) #[.ref q_t] s 0 0 (fun _ => False)) (F0 m 4 ls []) := by
  obtain ⟨hx, hb, hml, hown, hts, hr, hlocks, hnm⟩ := id C
  have hb : c.code = cX8_rests := hb
  have hown : s.vm.findClass RX8 = some m.cls := hown
  intro n
  induction n with
  | zero => intro x1 x2 ls h; rw [lX8_rests_4] at h; cases h
  | succ n ih =>
    intro x1 x2 ls h hl
    rw [lX8_rests_4] at h
    refine lv_iload_n hx hb dX8_rests_4 rfl (lv_at hl 2 rfl) ?_
    refine lv_iconst (v := 4) hx hb dX8_rests_5 (by decide) ?_
    refine lv_icmp_ge (tgt := 101) hx hb dX8_rests_6 (by decide) (fun c1 => ?_) (fun c1 => ?_)
    · have h := ite_t c1 h
      refine lv_iload_n hx hb dX8_rests_101 rfl (lv_at hl 1 rfl) ?_
      exact rRi C rfl (Option.some.inj h) dX8_rests_102
    · have h := ite_f c1 h
      refine lv_aload_n hx hb dX8_rests_9 rfl (lv_at hl 0 rfl) ?_
      refine va_get (D := D) (v := .ref (Q_t 5)) (C := RX8) (T := TX8) (N := 11) hx hb hts iX8 hown hK.1 hP 0 rfl rfl 5 (by decide) (hts _ t_305) (fun _ h9 => h9) rfl dX8_rests_10 ?_
      refine va_get (D := D) (v := .ref (Q_t_5 7)) (C := RX5) (T := TX5) (N := 8) hx hb hts iX5 hown hK.1 hP 2 rfl rfl 7 (by decide) (hts _ t_175) (fun _ h9 => h9) rfl dX8_rests_13 ?_
      refine lv_iload_n hx hb dX8_rests_16 rfl (lv_at hl 2 rfl) ?_
      obtain ⟨r3, hc2, h⟩ := bd_some h
      refine cRi (runS (As := [.ref (Q_t_5 7), .int x2]) (rest := []) C (mX8_at l D a hc2) lk_S_8_129 okN_X8_at ⟨Nat.le_of_ble_eq_true rfl, Nat.le_of_ble_eq_true rfl⟩ ⟨rfl, rfl⟩ (preR hK (P_of_map (wc := ra0 a (Q_t_5 7) 8 (gT z_t_5 7)) hP [4] rfl)) hl.1 rfl (Nat.le_of_ble_eq_true rfl) dX8_rests_17 ⟨Nat.le_of_ble_eq_true rfl, Nat.le_of_ble_eq_true rfl⟩) ?_
      refine lv_aload_n hx hb dX8_rests_20 rfl (lv_at hl 0 rfl) ?_
      refine va_get (D := D) (v := .ref (Q_t 5)) (C := RX8) (T := TX8) (N := 11) hx hb hts iX8 hown hK.1 hP 0 rfl rfl 5 (by decide) (hts _ t_305) (fun _ h9 => h9) rfl dX8_rests_21 ?_
      refine va_get (D := D) (v := .ref (Q_t_5 7)) (C := RX5) (T := TX5) (N := 8) hx hb hts iX5 hown hK.1 hP 2 rfl rfl 7 (by decide) (hts _ t_175) (fun _ h9 => h9) rfl dX8_rests_24 ?_
      refine lv_iload_n hx hb dX8_rests_27 rfl (lv_at hl 2 rfl) ?_
      refine lv_iconst (v := 2) hx hb dX8_rests_28 (by decide) ?_
      refine lv_ixor hx hb dX8_rests_29 ?_
      obtain ⟨r5, hc4, h⟩ := bd_some h
      refine cRi (runS (As := [.ref (Q_t_5 7), .int (x2 ^^^ 2)]) (rest := [.int r3]) C (mX8_at l D a hc4) lk_S_8_129 okN_X8_at ⟨Nat.le_of_ble_eq_true rfl, Nat.le_of_ble_eq_true rfl⟩ ⟨rfl, rfl⟩ (preR hK (P_of_map (wc := ra0 a (Q_t_5 7) 8 (gT z_t_5 7)) hP [4] rfl)) hl.1 rfl (Nat.le_of_ble_eq_true rfl) dX8_rests_30 ⟨Nat.le_of_ble_eq_true rfl, Nat.le_of_ble_eq_true rfl⟩) ?_
      obtain ⟨J6, eJ6, h⟩ := jn_some h
      have hJ6 : ∀ (i7 : Int32) (ls : Array Slot), J6 i7 = some y → lv_has ls 5 [(0, .ref q_t), (1, .int x1), (2, .int x2)] → W p l e (rmM 1 0 0 21) s m #[.ref q_t] below meth c s.heap [] 0 0 (MQ below (vp_Si (fun r => r = y)) #[.ref q_t] s 0 0 (fun _ => False)) (F0 m 41 ls [.int i7]) := by
        intro i7 ls h hl
        rw [eJ6] at h
        refine lv_istore_n (lv' := [(3, .int i7), (0, .ref q_t), (1, .int x1), (2, .int x2)]) hx hb dX8_rests_41 rfl hl (by decide) rfl (fun ls hl => ?_)
        refine lv_aload_n hx hb dX8_rests_42 rfl (lv_at hl 1 rfl) ?_
        refine va_get (D := D) (v := .ref (Q_t 5)) (C := RX8) (T := TX8) (N := 11) hx hb hts iX8 hown hK.1 hP 0 rfl rfl 5 (by decide) (hts _ t_305) (fun _ h9 => h9) rfl dX8_rests_43 ?_
        refine va_get (D := D) (v := .ref (Q_t_5 7)) (C := RX5) (T := TX5) (N := 8) hx hb hts iX5 hown hK.1 hP 2 rfl rfl 7 (by decide) (hts _ t_175) (fun _ h9 => h9) rfl dX8_rests_46 ?_
        refine lv_iconst (v := 4) hx hb dX8_rests_49 (by decide) ?_
        refine lv_iload_n hx hb dX8_rests_50 rfl (lv_at hl 3 rfl) ?_
        refine lv_iadd hx hb dX8_rests_51 ?_
        obtain ⟨r9, hc8, h⟩ := bd_some h
        refine cRi (runS (As := [.ref (Q_t_5 7), .int (4 + x2)]) (rest := []) C (mX8_at l D a hc8) lk_S_8_129 okN_X8_at ⟨Nat.le_of_ble_eq_true rfl, Nat.le_of_ble_eq_true rfl⟩ ⟨rfl, rfl⟩ (preR hK (P_of_map (wc := ra0 a (Q_t_5 7) 8 (gT z_t_5 7)) hP [4] rfl)) hl.1 rfl (Nat.le_of_ble_eq_true rfl) dX8_rests_52 ⟨Nat.le_of_ble_eq_true rfl, Nat.le_of_ble_eq_true rfl⟩) ?_
        refine lv_aload_n hx hb dX8_rests_55 rfl (lv_at hl 1 rfl) ?_
        refine va_get (D := D) (v := .ref (Q_t 5)) (C := RX8) (T := TX8) (N := 11) hx hb hts iX8 hown hK.1 hP 0 rfl rfl 5 (by decide) (hts _ t_305) (fun _ h9 => h9) rfl dX8_rests_56 ?_
        refine va_get (D := D) (v := .ref (Q_t_5 7)) (C := RX5) (T := TX5) (N := 8) hx hb hts iX5 hown hK.1 hP 2 rfl rfl 7 (by decide) (hts _ t_175) (fun _ h9 => h9) rfl dX8_rests_59 ?_
        refine lv_iconst (v := 4) hx hb dX8_rests_62 (by decide) ?_
        refine lv_iload_n hx hb dX8_rests_63 rfl (lv_at hl 3 rfl) ?_
        refine lv_iconst (v := 1) hx hb dX8_rests_64 (by decide) ?_
        refine lv_ixor hx hb dX8_rests_65 ?_
        refine lv_iadd hx hb dX8_rests_66 ?_
        obtain ⟨r11, hc10, h⟩ := bd_some h
        refine cRi (runS (As := [.ref (Q_t_5 7), .int (4 + (x2 ^^^ 1))]) (rest := [.int r9]) C (mX8_at l D a hc10) lk_S_8_129 okN_X8_at ⟨Nat.le_of_ble_eq_true rfl, Nat.le_of_ble_eq_true rfl⟩ ⟨rfl, rfl⟩ (preR hK (P_of_map (wc := ra0 a (Q_t_5 7) 8 (gT z_t_5 7)) hP [4] rfl)) hl.1 rfl (Nat.le_of_ble_eq_true rfl) dX8_rests_67 ⟨Nat.le_of_ble_eq_true rfl, Nat.le_of_ble_eq_true rfl⟩) ?_
        obtain ⟨J12, eJ12, h⟩ := jn_some h
        have hJ12 : ∀ (i13 : Int32) (ls : Array Slot), J12 i13 = some y → lv_has ls 5 [(0, .ref q_t), (1, .int x1), (2, .int x2), (3, .int i7)] → W p l e (rmM 1 0 0 21) s m #[.ref q_t] below meth c s.heap [] 0 0 (MQ below (vp_Si (fun r => r = y)) #[.ref q_t] s 0 0 (fun _ => False)) (F0 m 78 ls [.int i13]) := by
          intro i13 ls h hl
          rw [eJ12] at h
          refine lv_istore (lv' := [(4, .int i13), (0, .ref q_t), (1, .int x1), (2, .int x2), (3, .int i7)]) hx hb dX8_rests_78 hl (by decide) rfl (fun ls hl => ?_)
          refine lv_iload_n hx hb dX8_rests_80 rfl (lv_at hl 4 rfl) ?_
          obtain ⟨J14, eJ14, h⟩ := jn_some h
          have hJ14 : ∀ (i15 : Int32) (ls : Array Slot), J14 i15 = some y → lv_has ls 5 [(0, .ref q_t), (1, .int i15), (2, .int x2)] → W p l e (rmM 1 0 0 21) s m #[.ref q_t] below meth c s.heap [] 0 0 (MQ below (vp_Si (fun r => r = y)) #[.ref q_t] s 0 0 (fun _ => False)) (F0 m 95 ls []) := by
            intro i15 ls h hl
            rw [eJ14] at h
            refine lv_iinc (v := x2 + 1) (lv' := [(2, .int (x2 + 1)), (0, .ref q_t), (1, .int i15)]) hx hb dX8_rests_95 hl (k := 2) rfl rfl (by decide) rfl (fun ls hl => ?_)
            refine lv_goto (tgt := 4) hx hb dX8_rests_98 (by decide) ?_
            exact ih i15 (x2 + 1) ls h (lv_sub hl [1, 2, 0] rfl)
          refine lv_if_eq (tgt := 95) hx hb dX8_rests_81 (by decide) (fun c16 => ?_) (fun c16 => ?_)
          · have h := ite_t c16 h
            exact hJ14 x1 ls h (lv_sub hl [1, 2, 3] rfl)
          · have h := ite_f c16 h
            refine lv_iload hx hb dX8_rests_84 (lv_at hl 0 rfl) ?_
            refine lv_if_eq (tgt := 95) hx hb dX8_rests_86 (by decide) (fun c17 => ?_) (fun c17 => ?_)
            · have h := ite_t c17 h
              exact hJ14 x1 ls h (lv_sub hl [1, 2, 3] rfl)
            · have h := ite_f c17 h
              refine lv_iload_n hx hb dX8_rests_89 rfl (lv_at hl 2 rfl) ?_
              refine lv_iconst (v := 1) hx hb dX8_rests_90 (by decide) ?_
              refine lv_iload_n hx hb dX8_rests_91 rfl (lv_at hl 3 rfl) ?_
              refine lv_ishl hx hb dX8_rests_92 ?_
              refine lv_ior hx hb dX8_rests_93 ?_
              refine lv_istore_n (lv' := [(1, .int (x1 ||| ((1 : Int32) <<< (x2 &&& 31)))), (4, .int i13), (0, .ref q_t), (2, .int x2), (3, .int i7)]) hx hb dX8_rests_94 rfl hl (by decide) rfl (fun ls hl => ?_)
              exact hJ14 (x1 ||| ((1 : Int32) <<< (x2 &&& 31))) ls h (lv_sub hl [2, 0, 3] rfl)
        refine lv_icmp_lt (tgt := 77) hx hb dX8_rests_70 (by decide) (fun c18 => ?_) (fun c18 => ?_)
        · have h := ite_t c18 h
          refine lv_iconst (v := 0) hx hb dX8_rests_77 (by decide) ?_
          exact hJ12 0 ls h (lv_sub hl [1, 2, 3, 0] rfl)
        · have h := ite_f c18 h
          refine lv_iconst (v := 1) hx hb dX8_rests_73 (by decide) ?_
          refine lv_goto (tgt := 78) hx hb dX8_rests_74 (by decide) ?_
          exact hJ12 1 ls h (lv_sub hl [1, 2, 3, 0] rfl)
      refine lv_icmp_lt (tgt := 40) hx hb dX8_rests_33 (by decide) (fun c19 => ?_) (fun c19 => ?_)
      · have h := ite_t c19 h
        refine lv_iconst (v := 0) hx hb dX8_rests_40 (by decide) ?_
        exact hJ6 0 ls h (lv_sub hl [0, 1, 2] rfl)
      · have h := ite_f c19 h
        refine lv_iconst (v := 1) hx hb dX8_rests_36 (by decide) ?_
        refine lv_goto (tgt := 41) hx hb dX8_rests_37 (by decide) ?_
        exact hJ6 1 ls h (lv_sub hl [0, 1, 2] rfl)

set_option maxHeartbeats 4000000 in
set_option maxRecDepth 100000 in
theorem mX8_rests (l : Launch) (D : va_G) (a : Nat → ClassId) {q_t : Nat} {Q_t : Nat → Nat} {z_t : Sx} {Q_t_5 : Nat → Nat} {z_t_5 : Sx} {y : Int32} (h : fX8_rests z_t z_t_5 = some y) : CRi l MX8_rests 1 21 D a [.ref q_t] (rc8 a q_t Q_t z_t ++ (rc5 a (Q_t 5) Q_t_5 z_t_5)) (fun r => r = y) := by
  unfold fX8_rests at h
  refine entR (by decide) (Nat.le_of_ble_eq_true rfl) ?_
  intro p e s m below meth c C hK hP ls hl
  obtain ⟨hx, hb, hml, hown, hts, hr, hlocks, hnm⟩ := id C
  have hb : c.code = cX8_rests := hb
  have hown : s.vm.findClass RX8 = some m.cls := hown
  have hl : lv_has ls 5 [(0, .ref q_t)] := hl
  refine lv_iconst (v := 0) hx hb dX8_rests_0 (by decide) ?_
  refine lv_istore_n (lv' := [(1, .int 0), (0, .ref q_t)]) hx hb dX8_rests_1 rfl hl (by decide) rfl (fun ls hl => ?_)
  refine lv_iconst (v := 0) hx hb dX8_rests_2 (by decide) ?_
  refine lv_istore_n (lv' := [(2, .int 0), (1, .int 0), (0, .ref q_t)]) hx hb dX8_rests_3 rfl hl (by decide) rfl (fun ls hl => ?_)
  refine wX8_rests_4 C hK hP FU 0 0 ls h (lv_sub hl [2, 1, 0] rfl)

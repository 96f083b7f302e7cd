set_option maxHeartbeats 4000000 in
set_option maxRecDepth 100000 in
theorem c_X8_game_0 (l : Launch) (D : va_G) (a : Nat → ClassId) (q1 q2 q3 q4 q5 q6 q7 q8 q9 q10 q11 q12 q13 : Nat) (x1 x2 : Int32) (sz : Nat) : CMi (S := SS) l MX8_game 0 0 0 0 D a [.ref q1, .int x1, .int x2] [(q1, .inr (8, [.ref q2, .int 0, .ref q3, .int 0, .int 0, .ref q4, .ref q5, .ref q6, .ref q7, .ref q8, .ref q9])), (q4, .inr (5, [.ref q10, .ref q11, .int 0, .int 0, .int 0, .ref q12, .int 0, .ref q13])), (q13, .inl (a 0, 8, .inl (fun _ => 0)))] sz (fun r u => (u = (0, [], [], [], [], []) ∧ x1.toInt < 0 ∧ r = (-1000)) ∨ (u = (1, [], [], [], [], []) ∧ x1.toInt ≥ 0 ∧ x1.toInt ≥ 8 ∧ r = (-1000)) ∨ (u = (2, [], [], [], [], []) ∧ x1.toInt ≥ 0 ∧ x1.toInt < 8 ∧ x2.toInt < -99 ∧ r = (-1000)) ∨ (u = (3, [], [], [], [], []) ∧ x1.toInt ≥ 0 ∧ x1.toInt < 8 ∧ x2.toInt ≥ -99 ∧ x2.toInt ≤ 99 ∧ r = 0) ∨ (u = (4, [], [], [], [], []) ∧ x1.toInt ≥ 0 ∧ x1.toInt < 8 ∧ x2.toInt ≥ -99 ∧ x2.toInt > 99 ∧ r = (-1000))) (fun u => pk [[(q1, .inr (8, [.ref q2, .int 0, .ref q3, .int 0, .int 0, .ref q4, .ref q5, .ref q6, .ref q7, .ref q8, .ref q9])), (q4, .inr (5, [.ref q10, .ref q11, .int 0, .int 0, .int 0, .ref q12, .int 0, .ref q13])), (q13, .inl (a 0, 8, .inl (fun _ => 0)))], [(q1, .inr (8, [.ref q2, .int 0, .ref q3, .int 0, .int 0, .ref q4, .ref q5, .ref q6, .ref q7, .ref q8, .ref q9])), (q4, .inr (5, [.ref q10, .ref q11, .int 0, .int 0, .int 0, .ref q12, .int 0, .ref q13])), (q13, .inl (a 0, 8, .inl (fun _ => 0)))], [(q1, .inr (8, [.ref q2, .int 0, .ref q3, .int 0, .int 0, .ref q4, .ref q5, .ref q6, .ref q7, .ref q8, .ref q9])), (q4, .inr (5, [.ref q10, .ref q11, .int 0, .int 0, .int 0, .ref q12, .int 0, .ref q13])), (q13, .inl (a 0, 8, .inl (fun _ => 0)))], [(q1, .inr (8, [.ref q2, .int 0, .ref q3, .int 0, .int 0, .ref q4, .ref q5, .ref q6, .ref q7, .ref q8, .ref q9])), (q4, .inr (5, [.ref q10, .ref q11, .int 0, .int 0, .int 0, .ref q12, .int 0, .ref q13])), (q13, .inl (a 0, 8, .inl (upd (fun _ => 0) x1.toNatClampNeg x2)))], [(q1, .inr (8, [.ref q2, .int 0, .ref q3, .int 0, .int 0, .ref q4, .ref q5, .ref q6, .ref q7, .ref q8, .ref q9])), (q4, .inr (5, [.ref q10, .ref q11, .int 0, .int 0, .int 0, .ref q12, .int 0, .ref q13])), (q13, .inl (a 0, 8, .inl (fun _ => 0)))]] u.1) := by
  refine entMi (by decide) (Nat.le_of_ble_eq_true rfl) ?_
  intro p e s m below meth c C hK A hA hP hD ls hl
  obtain ⟨hx, hb, hml, hown, hts, hr, hlocks, hnm⟩ := id C
  have hb : c.code = cX8_game := hb
  have hown : s.vm.findClass RX8 = some m.cls := hown
  have hS : va_S A s.heap s.heap [] := va_S.rf
  have hl : lv_has ls 4 [(0, .ref q1), (1, .int x1), (2, .int x2)] := hl
  refine lv_iload_n hx hb dX8_game_0 rfl (lv_at hl 1 rfl) ?_
  refine lv_if_lt (tgt := 28) hx hb dX8_game_1 (by decide) (fun c2992 => ?_) (fun c2992 => ?_)
  · have h2993 : x1.toInt < 0 := bI_lt rfl (by decide) c2992
    refine lv_sipush (v := (-1000)) hx hb dX8_game_28 (by decide) ?_
    exact retMi C rfl (0, [], [], [], [], []) (Or.inl ⟨rfl, h2993, rfl⟩) hP hD hS (Nat.le_of_ble_eq_true rfl) (Nat.le_of_ble_eq_true rfl) dX8_game_31
  · have h2994 : x1.toInt ≥ 0 := bI_nlt rfl (by decide) c2992
    refine lv_iload_n hx hb dX8_game_4 rfl (lv_at hl 1 rfl) ?_
    refine lv_aload_n hx hb dX8_game_5 rfl (lv_at hl 0 rfl) ?_
    refine va_get (D := D) (v := .ref q4) (C := RX8) (T := TX8) (N := 11) hx hb hts iX8 hown hK.1 hP 0 rfl rfl 5 (by decide) (hts _ t_305) (fun _ h9 => h9) rfl dX8_game_6 ?_
    refine va_get (D := D) (v := .ref q13) (C := RX5) (T := TX5) (N := 8) hx hb hts iX5 hown hK.1 hP 1 rfl rfl 7 (by decide) (hts _ t_175) (fun _ h9 => h9) rfl dX8_game_9 ?_
    refine va_alen (v := 8) hx hb hK.1 hP 2 0 rfl rfl rfl dX8_game_12 ?_
    refine lv_icmp_ge (tgt := 28) hx hb dX8_game_13 (by decide) (fun c2995 => ?_) (fun c2995 => ?_)
    · have h2996 : x1.toInt ≥ 8 := bI_ge rfl (by decide) c2995
      refine lv_sipush (v := (-1000)) hx hb dX8_game_28 (by decide) ?_
      exact retMi C rfl (1, [], [], [], [], []) (Or.inr (Or.inl ⟨rfl, h2994, h2996, rfl⟩)) hP hD hS (Nat.le_of_ble_eq_true rfl) (Nat.le_of_ble_eq_true rfl) dX8_game_31
    · have h2997 : x1.toInt < 8 := bI_nge rfl (by decide) c2995
      refine lv_iload_n hx hb dX8_game_16 rfl (lv_at hl 2 rfl) ?_
      refine lv_bipush (v := (-99)) hx hb dX8_game_17 (by decide) ?_
      refine lv_icmp_lt (tgt := 28) hx hb dX8_game_19 (by decide) (fun c2998 => ?_) (fun c2998 => ?_)
      · have h2999 : x2.toInt < -99 := bI_lt rfl (by decide) c2998
        refine lv_sipush (v := (-1000)) hx hb dX8_game_28 (by decide) ?_
        exact retMi C rfl (2, [], [], [], [], []) (Or.inr (Or.inr (Or.inl ⟨rfl, h2994, h2997, h2999, rfl⟩))) hP hD hS (Nat.le_of_ble_eq_true rfl) (Nat.le_of_ble_eq_true rfl) dX8_game_31
      · have h3000 : x2.toInt ≥ -99 := bI_nlt rfl (by decide) c2998
        refine lv_iload_n hx hb dX8_game_22 rfl (lv_at hl 2 rfl) ?_
        refine lv_bipush (v := 99) hx hb dX8_game_23 (by decide) ?_
        refine lv_icmp_le (tgt := 32) hx hb dX8_game_25 (by decide) (fun c3001 => ?_) (fun c3001 => ?_)
        · have h3002 : x2.toInt ≤ 99 := bI_le rfl (by decide) c3001
          refine lv_aload_n hx hb dX8_game_32 rfl (lv_at hl 0 rfl) ?_
          refine va_get (D := D) (v := .ref q4) (C := RX8) (T := TX8) (N := 11) hx hb hts iX8 hown hK.1 hP 0 rfl rfl 5 (by decide) (hts _ t_305) (fun _ h9 => h9) rfl dX8_game_33 ?_
          refine va_get (D := D) (v := .ref q13) (C := RX5) (T := TX5) (N := 8) hx hb hts iX5 hown hK.1 hP 1 rfl rfl 7 (by decide) (hts _ t_175) (fun _ h9 => h9) rfl dX8_game_36 ?_
          refine lv_iload_n hx hb dX8_game_39 rfl (lv_at hl 1 rfl) ?_
          refine ald_i hx hb hK.1 hP 2 0 rfl rfl x1.toNatClampNeg (ix_of (by omega) (by omega)) dX8_game_40 ?_
          refine lv_istore_n (lv' := [(3, .int 0), (0, .ref q1), (1, .int x1), (2, .int x2)]) hx hb dX8_game_41 rfl hl (by decide) rfl (fun ls hl => ?_)
          refine lv_aload_n hx hb dX8_game_42 rfl (lv_at hl 1 rfl) ?_
          refine va_get (D := D) (v := .ref q4) (C := RX8) (T := TX8) (N := 11) hx hb hts iX8 hown hK.1 hP 0 rfl rfl 5 (by decide) (hts _ t_305) (fun _ h9 => h9) rfl dX8_game_43 ?_
          refine va_get (D := D) (v := .ref q13) (C := RX5) (T := TX5) (N := 8) hx hb hts iX5 hown hK.1 hP 1 rfl rfl 7 (by decide) (hts _ t_175) (fun _ h9 => h9) rfl dX8_game_46 ?_
          refine lv_iload_n hx hb dX8_game_49 rfl (lv_at hl 2 rfl) ?_
          refine lv_iload_n hx hb dX8_game_50 rfl (lv_at hl 3 rfl) ?_
          refine ast_i hx hb hK.1 hP hD hS 2 0 rfl rfl x1.toNatClampNeg (ix_of (by omega) (by omega)) dX8_game_51 (fun H locs hP hD hS => ?_)
          have hP : va_P D classes [(q1, .inr (8, [.ref q2, .int 0, .ref q3, .int 0, .int 0, .ref q4, .ref q5, .ref q6, .ref q7, .ref q8, .ref q9])), (q4, .inr (5, [.ref q10, .ref q11, .int 0, .int 0, .int 0, .ref q12, .int 0, .ref q13])), (q13, .inl (a 0, 8, .inl (upd (fun _ => 0) x1.toNatClampNeg x2)))] H := hP
          have hD : va_D A [(q1, .inr (8, [.ref q2, .int 0, .ref q3, .int 0, .int 0, .ref q4, .ref q5, .ref q6, .ref q7, .ref q8, .ref q9])), (q4, .inr (5, [.ref q10, .ref q11, .int 0, .int 0, .int 0, .ref q12, .int 0, .ref q13])), (q13, .inl (a 0, 8, .inl (upd (fun _ => 0) x1.toNatClampNeg x2)))] := hD
          refine lv_iload_n hx hb dX8_game_52 rfl (lv_at hl 0 rfl) ?_
          exact retMi C rfl (3, [], [], [], [], []) (Or.inr (Or.inr (Or.inr (Or.inl ⟨rfl, h2994, h2997, h3000, h3002, rfl⟩)))) hP hD hS (Nat.le_of_ble_eq_true rfl) (Nat.le_of_ble_eq_true rfl) dX8_game_53
        · have h3003 : x2.toInt > 99 := bI_nle rfl (by decide) c3001
          refine lv_sipush (v := (-1000)) hx hb dX8_game_28 (by decide) ?_
          exact retMi C rfl (4, [], [], [], [], []) (Or.inr (Or.inr (Or.inr (Or.inr (⟨rfl, h2994, h2997, h3000, h3003, rfl⟩))))) hP hD hS (Nat.le_of_ble_eq_true rfl) (Nat.le_of_ble_eq_true rfl) dX8_game_31

set_option maxHeartbeats 4000000 in
set_option maxRecDepth 100000 in
theorem c_X9_in_1 (l : Launch) (D : va_G) (a : Nat → ClassId) (x1 : Int32) : CRi l MX9_in 0 0 D a [.long x1.toInt64, .long 0, .long 7] [] (fun r => (x1.toInt < 0 ∧ r = 0) ∨ (x1.toInt ≥ 0 ∧ x1.toInt > 7 ∧ r = 0) ∨ (x1.toInt ≥ 0 ∧ x1.toInt ≤ 7 ∧ r = 1)) := by
  refine entR (by decide) (Nat.le_of_ble_eq_true rfl) ?_
  intro p e s m below meth c C hK hP ls hl
  obtain ⟨hx, hb, hml, hown, hts, hr, hlocks, hnm⟩ := id C
  have hb : c.code = cX9_in := hb
  have hown : s.vm.findClass RX9 = some m.cls := hown
  have hl : lv_has ls 6 [(0, .long x1.toInt64), (2, .long 0), (4, .long 7)] := hl
  refine lv_lload_n hx hb dX9_in_0 rfl (lv_at hl 0 rfl) ?_
  refine lv_lload_n hx hb dX9_in_1 rfl (lv_at hl 1 rfl) ?_
  refine W.lcmp hx hb dX9_in_2 ?_
  refine lv_if_lt (tgt := 17) hx hb dX9_in_3 (by decide) (fun c3029 => ?_) (fun c3029 => ?_)
  · have h3030 : x1.toInt < 0 := cI_lt (Int32.toInt_toInt64 x1) (by decide) c3029
    refine lv_iconst (v := 0) hx hb dX9_in_17 (by decide) ?_
    exact retRz C rfl (by decide) (Or.inl ⟨h3030, rfl⟩) dX9_in_18
  · have h3031 : x1.toInt ≥ 0 := cI_nlt (Int32.toInt_toInt64 x1) (by decide) c3029
    refine lv_lload_n hx hb dX9_in_6 rfl (lv_at hl 0 rfl) ?_
    refine lv_lload hx hb dX9_in_7 (lv_at hl 2 rfl) ?_
    refine W.lcmp hx hb dX9_in_9 ?_
    refine lv_if_gt (tgt := 17) hx hb dX9_in_10 (by decide) (fun c3032 => ?_) (fun c3032 => ?_)
    · have h3033 : x1.toInt > 7 := cI_gt (Int32.toInt_toInt64 x1) (by decide) c3032
      refine lv_iconst (v := 0) hx hb dX9_in_17 (by decide) ?_
      exact retRz C rfl (by decide) (Or.inr (Or.inl ⟨h3031, h3033, rfl⟩)) dX9_in_18
    · have h3034 : x1.toInt ≤ 7 := cI_ngt (Int32.toInt_toInt64 x1) (by decide) c3032
      refine lv_iconst (v := 1) hx hb dX9_in_13 (by decide) ?_
      refine lv_goto (tgt := 18) hx hb dX9_in_14 (by decide) ?_
      exact retRz C rfl (by decide) (Or.inr (Or.inr (⟨h3031, h3034, rfl⟩))) dX9_in_18

set_option maxHeartbeats 4000000 in
set_option maxRecDepth 100000 in
theorem c_X9_in_2 (l : Launch) (D : va_G) (a : Nat → ClassId) (x1 : Int32) : CRi l MX9_in 0 0 D a [.long x1.toInt64, .long (-99), .long 99] [] (fun r => (x1.toInt < (-99) ∧ r = 0) ∨ (x1.toInt ≥ (-99) ∧ x1.toInt > 99 ∧ r = 0) ∨ (x1.toInt ≥ (-99) ∧ x1.toInt ≤ 99 ∧ r = 1)) := by
  refine entR (by decide) (Nat.le_of_ble_eq_true rfl) ?_
  intro p e s m below meth c C hK hP ls hl
  obtain ⟨hx, hb, hml, hown, hts, hr, hlocks, hnm⟩ := id C
  have hb : c.code = cX9_in := hb
  have hown : s.vm.findClass RX9 = some m.cls := hown
  have hl : lv_has ls 6 [(0, .long x1.toInt64), (2, .long (-99)), (4, .long 99)] := hl
  refine lv_lload_n hx hb dX9_in_0 rfl (lv_at hl 0 rfl) ?_
  refine lv_lload_n hx hb dX9_in_1 rfl (lv_at hl 1 rfl) ?_
  refine W.lcmp hx hb dX9_in_2 ?_
  refine lv_if_lt (tgt := 17) hx hb dX9_in_3 (by decide) (fun c3049 => ?_) (fun c3049 => ?_)
  · have h3050 : x1.toInt < (-99) := cI_lt (Int32.toInt_toInt64 x1) (by decide) c3049
    refine lv_iconst (v := 0) hx hb dX9_in_17 (by decide) ?_
    exact retRz C rfl (by decide) (Or.inl ⟨h3050, rfl⟩) dX9_in_18
  · have h3051 : x1.toInt ≥ (-99) := cI_nlt (Int32.toInt_toInt64 x1) (by decide) c3049
    refine lv_lload_n hx hb dX9_in_6 rfl (lv_at hl 0 rfl) ?_
    refine lv_lload hx hb dX9_in_7 (lv_at hl 2 rfl) ?_
    refine W.lcmp hx hb dX9_in_9 ?_
    refine lv_if_gt (tgt := 17) hx hb dX9_in_10 (by decide) (fun c3052 => ?_) (fun c3052 => ?_)
    · have h3053 : x1.toInt > 99 := cI_gt (Int32.toInt_toInt64 x1) (by decide) c3052
      refine lv_iconst (v := 0) hx hb dX9_in_17 (by decide) ?_
      exact retRz C rfl (by decide) (Or.inr (Or.inl ⟨h3051, h3053, rfl⟩)) dX9_in_18
    · have h3054 : x1.toInt ≤ 99 := cI_ngt (Int32.toInt_toInt64 x1) (by decide) c3052
      refine lv_iconst (v := 1) hx hb dX9_in_13 (by decide) ?_
      refine lv_goto (tgt := 18) hx hb dX9_in_14 (by decide) ?_
      exact retRz C rfl (by decide) (Or.inr (Or.inr (⟨h3051, h3054, rfl⟩))) dX9_in_18

set_option maxHeartbeats 4000000 in
set_option maxRecDepth 100000 in
theorem c_X9_game_0 (l : Launch) (D : va_G) (a : Nat → ClassId) (q1 q2 q3 q4 q5 q6 q7 q8 q9 q10 q11 q12 q13 q14 q15 q16 q17 q18 q19 q20 q21 q22 q23 : Nat) (x1 x2 : Int32) (sz : Nat) : CMi (S := SS) l MX9_game 1 25 0 0 D a [.ref q1, .int x1, .int x2] [(q1, .inr (9, [.ref q2, .int 0, .int 0, .ref q3, .ref q4, .ref q5, .ref q6, .int 0, .int 0, .int 0, .ref q7, .ref q8, .int 0, .int 0, .int 0, .int 0, .int 0, .int 0, .int 0, .ref q9, .int 0, .ref q10, .int 0, .ref q11, .ref q12, .ref q13, .ref q14, .ref q15, .ref q16, .ref q17, .ref q18, .ref q19, .ref q20, .ref q21, .ref q22, .ref q23])), (q12, .inl (a 0, 104, .inl (fun _ => 0)))] sz (fun r u => (u = (0, [], [], [], [], []) ∧ x1.toInt < 0 ∧ r = (-1000)) ∨ (u = (1, [], [], [], [], []) ∧ x1.toInt ≥ 0 ∧ x1.toInt > 7 ∧ r = (-1000)) ∨ (u = (2, [], [], [], [], []) ∧ x1.toInt ≥ 0 ∧ x1.toInt ≤ 7 ∧ x2.toInt < (-99) ∧ r = (-1000)) ∨ (u = (3, [], [], [], [], []) ∧ x1.toInt ≥ 0 ∧ x1.toInt ≤ 7 ∧ x2.toInt ≥ (-99) ∧ x2.toInt > 99 ∧ r = (-1000)) ∨ (u = (4, [], [], [], [], []) ∧ x1.toInt ≥ 0 ∧ x1.toInt ≤ 7 ∧ x2.toInt ≥ (-99) ∧ x2.toInt ≤ 99 ∧ r = 0)) (fun u => pk [[(q1, .inr (9, [.ref q2, .int 0, .int 0, .ref q3, .ref q4, .ref q5, .ref q6, .int 0, .int 0, .int 0, .ref q7, .ref q8, .int 0, .int 0, .int 0, .int 0, .int 0, .int 0, .int 0, .ref q9, .int 0, .ref q10, .int 0, .ref q11, .ref q12, .ref q13, .ref q14, .ref q15, .ref q16, .ref q17, .ref q18, .ref q19, .ref q20, .ref q21, .ref q22, .ref q23])), (q12, .inl (a 0, 104, .inl (fun _ => 0)))], [(q1, .inr (9, [.ref q2, .int 0, .int 0, .ref q3, .ref q4, .ref q5, .ref q6, .int 0, .int 0, .int 0, .ref q7, .ref q8, .int 0, .int 0, .int 0, .int 0, .int 0, .int 0, .int 0, .ref q9, .int 0, .ref q10, .int 0, .ref q11, .ref q12, .ref q13, .ref q14, .ref q15, .ref q16, .ref q17, .ref q18, .ref q19, .ref q20, .ref q21, .ref q22, .ref q23])), (q12, .inl (a 0, 104, .inl (fun _ => 0)))], [(q1, .inr (9, [.ref q2, .int 0, .int 0, .ref q3, .ref q4, .ref q5, .ref q6, .int 0, .int 0, .int 0, .ref q7, .ref q8, .int 0, .int 0, .int 0, .int 0, .int 0, .int 0, .int 0, .ref q9, .int 0, .ref q10, .int 0, .ref q11, .ref q12, .ref q13, .ref q14, .ref q15, .ref q16, .ref q17, .ref q18, .ref q19, .ref q20, .ref q21, .ref q22, .ref q23])), (q12, .inl (a 0, 104, .inl (fun _ => 0)))], [(q1, .inr (9, [.ref q2, .int 0, .int 0, .ref q3, .ref q4, .ref q5, .ref q6, .int 0, .int 0, .int 0, .ref q7, .ref q8, .int 0, .int 0, .int 0, .int 0, .int 0, .int 0, .int 0, .ref q9, .int 0, .ref q10, .int 0, .ref q11, .ref q12, .ref q13, .ref q14, .ref q15, .ref q16, .ref q17, .ref q18, .ref q19, .ref q20, .ref q21, .ref q22, .ref q23])), (q12, .inl (a 0, 104, .inl (fun _ => 0)))], [(q1, .inr (9, [.ref q2, .int 0, .int 0, .ref q3, .ref q4, .ref q5, .ref q6, .int 0, .int 0, .int 0, .ref q7, .ref q8, .int 0, .int 0, .int 0, .int 0, .int 0, .int 0, .int 0, .ref q9, .int 0, .ref q10, .int 0, .ref q11, .ref q12, .ref q13, .ref q14, .ref q15, .ref q16, .ref q17, .ref q18, .ref q19, .ref q20, .ref q21, .ref q22, .ref q23])), (q12, .inl (a 0, 104, .inl (upd (fun _ => 0) ((18 + x1).toNatClampNeg) x2)))]] u.1) := by
  refine entMi (by decide) (Nat.le_of_ble_eq_true rfl) ?_
  intro p e s m below meth c C hK A hA hP hD ls hl
  obtain ⟨hx, hb, hml, hown, hts, hr, hlocks, hnm⟩ := id C
  have hb : c.code = cX9_game := hb
  have hown : s.vm.findClass RX9 = some m.cls := hown
  have hS : va_S A s.heap s.heap [] := va_S.rf
  have hl : lv_has ls 4 [(0, .ref q1), (1, .int x1), (2, .int x2)] := hl
  refine lv_iload_n hx hb dX9_game_0 rfl (lv_at hl 1 rfl) ?_
  refine lv_i2l (v := x1.toInt64) hx hb dX9_game_1 rfl ?_
  refine lv_lconst (v := 0) hx hb dX9_game_2 (by decide) ?_
  refine lv_ldc2 hx hb hown (hts _ t_1349) dX9_game_3 ?_
  refine aftRi (runS (As := [.long x1.toInt64, .long 0, .long 7]) (rest := []) C (c_X9_in_1 l D a x1) lk_S_9_118 (okN_X9_in) ⟨Nat.le_of_ble_eq_true rfl, Nat.le_of_ble_eq_true rfl⟩ ⟨rfl, rfl⟩ (preR hK (P_of_map (wc := []) hP [] rfl)) hl.1 rfl (Nat.le_of_ble_eq_true rfl) dX9_game_6 ⟨Nat.le_of_ble_eq_true rfl, Nat.le_of_ble_eq_true rfl⟩) (fun x3069 hw => ?_)
  rcases hw with ⟨h3072, rfl⟩ | ⟨h3073, h3074, rfl⟩ | ⟨h3075, h3076, rfl⟩
  · refine lv_if_eq (tgt := 26) hx hb dX9_game_9 (by decide) (fun c9 => ?_) (fun c9 => absurd (by decide) c9)
    refine lv_sipush (v := (-1000)) hx hb dX9_game_26 (by decide) ?_
    exact retMi C rfl (0, [], [], [], [], []) (Or.inl ⟨rfl, h3072, rfl⟩) hP hD hS (Nat.le_of_ble_eq_true rfl) (Nat.le_of_ble_eq_true rfl) dX9_game_29
  · refine lv_if_eq (tgt := 26) hx hb dX9_game_9 (by decide) (fun c9 => ?_) (fun c9 => absurd (by decide) c9)
    refine lv_sipush (v := (-1000)) hx hb dX9_game_26 (by decide) ?_
    exact retMi C rfl (1, [], [], [], [], []) (Or.inr (Or.inl ⟨rfl, h3073, h3074, rfl⟩)) hP hD hS (Nat.le_of_ble_eq_true rfl) (Nat.le_of_ble_eq_true rfl) dX9_game_29
  · refine lv_if_eq (tgt := 26) hx hb dX9_game_9 (by decide) (fun c9 => absurd c9 (by decide)) (fun c9 => ?_)
    refine lv_iload_n hx hb dX9_game_12 rfl (lv_at hl 2 rfl) ?_
    refine lv_i2l (v := x2.toInt64) hx hb dX9_game_13 rfl ?_
    refine lv_ldc2 hx hb hown (hts _ t_1350) dX9_game_14 ?_
    refine lv_ldc2 hx hb hown (hts _ t_1351) dX9_game_17 ?_
    refine aftRi (runS (As := [.long x2.toInt64, .long (-99), .long 99]) (rest := []) C (c_X9_in_2 l D a x2) lk_S_9_118 (okN_X9_in) ⟨Nat.le_of_ble_eq_true rfl, Nat.le_of_ble_eq_true rfl⟩ ⟨rfl, rfl⟩ (preR hK (P_of_map (wc := []) hP [] rfl)) hl.1 rfl (Nat.le_of_ble_eq_true rfl) dX9_game_20 ⟨Nat.le_of_ble_eq_true rfl, Nat.le_of_ble_eq_true rfl⟩) (fun x3083 hw => ?_)
    rcases hw with ⟨h3086, rfl⟩ | ⟨h3087, h3088, rfl⟩ | ⟨h3089, h3090, rfl⟩
    · refine lv_if_ne (tgt := 30) hx hb dX9_game_23 (by decide) (fun c9 => absurd (by decide) c9) (fun c9 => ?_)
      refine lv_sipush (v := (-1000)) hx hb dX9_game_26 (by decide) ?_
      exact retMi C rfl (2, [], [], [], [], []) (Or.inr (Or.inr (Or.inl ⟨rfl, h3075, h3076, h3086, rfl⟩))) hP hD hS (Nat.le_of_ble_eq_true rfl) (Nat.le_of_ble_eq_true rfl) dX9_game_29
    · refine lv_if_ne (tgt := 30) hx hb dX9_game_23 (by decide) (fun c9 => absurd (by decide) c9) (fun c9 => ?_)
      refine lv_sipush (v := (-1000)) hx hb dX9_game_26 (by decide) ?_
      exact retMi C rfl (3, [], [], [], [], []) (Or.inr (Or.inr (Or.inr (Or.inl ⟨rfl, h3075, h3076, h3087, h3088, rfl⟩)))) hP hD hS (Nat.le_of_ble_eq_true rfl) (Nat.le_of_ble_eq_true rfl) dX9_game_29
    · refine lv_if_ne (tgt := 30) hx hb dX9_game_23 (by decide) (fun c9 => ?_) (fun c9 => absurd c9 (by decide))
      refine lv_aload_n hx hb dX9_game_30 rfl (lv_at hl 0 rfl) ?_
      refine va_get (D := D) (v := .ref q12) (C := RX9) (T := TX9) (N := 36) hx hb hts iX9 hown hK.1 hP 0 rfl rfl 24 (by decide) (hts _ t_906) (fun _ h9 => h9) rfl dX9_game_31 ?_
      refine lv_bipush (v := 18) hx hb dX9_game_34 (by decide) ?_
      refine lv_iload_n hx hb dX9_game_36 rfl (lv_at hl 1 rfl) ?_
      refine lv_iadd hx hb dX9_game_37 ?_
      refine ald_i hx hb hK.1 hP 1 0 rfl rfl ((18 + x1).toNatClampNeg) (ix_add (a := 18) (b := x1.toInt) (by decide) rfl (by omega) (by omega) (by decide)) dX9_game_38 ?_
      refine lv_istore_n (lv' := [(3, .int 0), (0, .ref q1), (1, .int x1), (2, .int x2)]) hx hb dX9_game_39 rfl hl (by decide) rfl (fun ls hl => ?_)
      refine lv_aload_n hx hb dX9_game_40 rfl (lv_at hl 1 rfl) ?_
      refine va_get (D := D) (v := .ref q12) (C := RX9) (T := TX9) (N := 36) hx hb hts iX9 hown hK.1 hP 0 rfl rfl 24 (by decide) (hts _ t_906) (fun _ h9 => h9) rfl dX9_game_41 ?_
      refine lv_bipush (v := 18) hx hb dX9_game_44 (by decide) ?_
      refine lv_iload_n hx hb dX9_game_46 rfl (lv_at hl 2 rfl) ?_
      refine lv_iadd hx hb dX9_game_47 ?_
      refine lv_iload_n hx hb dX9_game_48 rfl (lv_at hl 3 rfl) ?_
      refine ast_i hx hb hK.1 hP hD hS 1 0 rfl rfl ((18 + x1).toNatClampNeg) (ix_add (a := 18) (b := x1.toInt) (by decide) rfl (by omega) (by omega) (by decide)) dX9_game_49 (fun H locs hP hD hS => ?_)
      have hP : va_P D classes [(q1, .inr (9, [.ref q2, .int 0, .int 0, .ref q3, .ref q4, .ref q5, .ref q6, .int 0, .int 0, .int 0, .ref q7, .ref q8, .int 0, .int 0, .int 0, .int 0, .int 0, .int 0, .int 0, .ref q9, .int 0, .ref q10, .int 0, .ref q11, .ref q12, .ref q13, .ref q14, .ref q15, .ref q16, .ref q17, .ref q18, .ref q19, .ref q20, .ref q21, .ref q22, .ref q23])), (q12, .inl (a 0, 104, .inl (upd (fun _ => 0) ((18 + x1).toNatClampNeg) x2)))] H := hP
      have hD : va_D A [(q1, .inr (9, [.ref q2, .int 0, .int 0, .ref q3, .ref q4, .ref q5, .ref q6, .int 0, .int 0, .int 0, .ref q7, .ref q8, .int 0, .int 0, .int 0, .int 0, .int 0, .int 0, .int 0, .ref q9, .int 0, .ref q10, .int 0, .ref q11, .ref q12, .ref q13, .ref q14, .ref q15, .ref q16, .ref q17, .ref q18, .ref q19, .ref q20, .ref q21, .ref q22, .ref q23])), (q12, .inl (a 0, 104, .inl (upd (fun _ => 0) ((18 + x1).toNatClampNeg) x2)))] := hD
      refine lv_iload_n hx hb dX9_game_50 rfl (lv_at hl 0 rfl) ?_
      exact retMi C rfl (4, [], [], [], [], []) (Or.inr (Or.inr (Or.inr (Or.inr (⟨rfl, h3075, h3076, h3089, h3090, rfl⟩))))) hP hD hS (Nat.le_of_ble_eq_true rfl) (Nat.le_of_ble_eq_true rfl) dX9_game_51

set_option maxHeartbeats 4000000 in
set_option maxRecDepth 100000 in
theorem c_X8_checks_0 (l : Launch) (D : va_G) (a : Nat → ClassId) (q1 : Nat) (x1 x2 : Int32) : CRi l MX8_checks 0 0 D a [.ref q1, .int x1, .int x2] [] (fun r => (x1.toInt < 0 ∧ r = (-1)) ∨ (x1.toInt ≥ 0 ∧ x1.toInt > 9999 ∧ r = (-1)) ∨ (x1.toInt ≥ 0 ∧ x1.toInt ≤ 9999 ∧ x2.toInt < 0 ∧ r = (-1)) ∨ (x1.toInt ≥ 0 ∧ x1.toInt ≤ 9999 ∧ x2.toInt ≥ 0 ∧ x2.toInt ≤ 9999 ∧ r = ckS x1 x2) ∨ (x1.toInt ≥ 0 ∧ x1.toInt ≤ 9999 ∧ x2.toInt ≥ 0 ∧ x2.toInt > 9999 ∧ r = (-1))) := by
  refine entR (by decide) (Nat.le_of_ble_eq_true rfl) ?_
  intro p e s m below meth c C hK hP ls hl
  obtain ⟨hx, hb, hml, hown, hts, hr, hlocks, hnm⟩ := id C
  have hb : c.code = cX8_checks := hb
  have hown : s.vm.findClass RX8 = some m.cls := hown
  have hl : lv_has ls 4 [(0, .ref q1), (1, .int x1), (2, .int x2)] := hl
  refine lv_iload_n hx hb dX8_checks_0 rfl (lv_at hl 1 rfl) ?_
  refine lv_if_lt (tgt := 22) hx hb dX8_checks_1 (by decide) (fun c3825 => ?_) (fun c3825 => ?_)
  · have h3826 : x1.toInt < 0 := bI_lt rfl (by decide) c3825
    refine lv_iconst (v := (-1)) hx hb dX8_checks_22 (by decide) ?_
    exact retRi C rfl (Or.inl ⟨h3826, rfl⟩) dX8_checks_23
  · have h3827 : x1.toInt ≥ 0 := bI_nlt rfl (by decide) c3825
    refine lv_iload_n hx hb dX8_checks_4 rfl (lv_at hl 1 rfl) ?_
    refine lv_sipush (v := 9999) hx hb dX8_checks_5 (by decide) ?_
    refine lv_icmp_gt (tgt := 22) hx hb dX8_checks_8 (by decide) (fun c3828 => ?_) (fun c3828 => ?_)
    · have h3829 : x1.toInt > 9999 := bI_gt rfl (by decide) c3828
      refine lv_iconst (v := (-1)) hx hb dX8_checks_22 (by decide) ?_
      exact retRi C rfl (Or.inr (Or.inl ⟨h3827, h3829, rfl⟩)) dX8_checks_23
    · have h3830 : x1.toInt ≤ 9999 := bI_ngt rfl (by decide) c3828
      refine lv_iload_n hx hb dX8_checks_11 rfl (lv_at hl 2 rfl) ?_
      refine lv_if_lt (tgt := 22) hx hb dX8_checks_12 (by decide) (fun c3831 => ?_) (fun c3831 => ?_)
      · have h3832 : x2.toInt < 0 := bI_lt rfl (by decide) c3831
        refine lv_iconst (v := (-1)) hx hb dX8_checks_22 (by decide) ?_
        exact retRi C rfl (Or.inr (Or.inr (Or.inl ⟨h3827, h3830, h3832, rfl⟩))) dX8_checks_23
      · have h3833 : x2.toInt ≥ 0 := bI_nlt rfl (by decide) c3831
        refine lv_iload_n hx hb dX8_checks_15 rfl (lv_at hl 2 rfl) ?_
        refine lv_sipush (v := 9999) hx hb dX8_checks_16 (by decide) ?_
        refine lv_icmp_le (tgt := 24) hx hb dX8_checks_19 (by decide) (fun c3834 => ?_) (fun c3834 => ?_)
        · have h3835 : x2.toInt ≤ 9999 := bI_le rfl (by decide) c3834
          refine lv_iconst (v := 0) hx hb dX8_checks_24 (by decide) ?_
          refine lv_istore_n (lv' := [(3, .int 0), (0, .ref q1), (1, .int x1), (2, .int x2)]) hx hb dX8_checks_25 rfl hl (by decide) rfl (fun ls hl => ?_)
          refine lp_X8_checks C 100 0 (by decide) (fun ls hl => ?_) ls hl
          have hl : lv_has ls 4 [(3, .int (ckS x1 x2)), (0, .ref q1), (1, .int x1), (2, .int x2)] := hl
          refine lv_iload_n hx hb dX8_checks_50 rfl (lv_at hl 0 rfl) ?_
          exact retRi C rfl (Or.inr (Or.inr (Or.inr (Or.inl ⟨h3827, h3830, h3833, h3835, rfl⟩)))) dX8_checks_51
        · have h3836 : x2.toInt > 9999 := bI_nle rfl (by decide) c3834
          refine lv_iconst (v := (-1)) hx hb dX8_checks_22 (by decide) ?_
          exact retRi C rfl (Or.inr (Or.inr (Or.inr (Or.inr (⟨h3827, h3830, h3833, h3836, rfl⟩))))) dX8_checks_23

set_option maxHeartbeats 4000000 in
set_option maxRecDepth 100000 in
theorem c_X9_in_4 (l : Launch) (D : va_G) (a : Nat → ClassId) (x1 : Int32) : CRi l MX9_in 0 0 D a [.long x1.toInt64, .long 0, .long 9999] [] (fun r => (x1.toInt < 0 ∧ r = 0) ∨ (x1.toInt ≥ 0 ∧ x1.toInt > 9999 ∧ r = 0) ∨ (x1.toInt ≥ 0 ∧ x1.toInt ≤ 9999 ∧ r = 1)) := by
  refine entR (by decide) (Nat.le_of_ble_eq_true rfl) ?_
  intro p e s m below meth c C hK hP ls hl
  obtain ⟨hx, hb, hml, hown, hts, hr, hlocks, hnm⟩ := id C
  have hb : c.code = cX9_in := hb
  have hown : s.vm.findClass RX9 = some m.cls := hown
  have hl : lv_has ls 6 [(0, .long x1.toInt64), (2, .long 0), (4, .long 9999)] := hl
  refine lv_lload_n hx hb dX9_in_0 rfl (lv_at hl 0 rfl) ?_
  refine lv_lload_n hx hb dX9_in_1 rfl (lv_at hl 1 rfl) ?_
  refine W.lcmp hx hb dX9_in_2 ?_
  refine lv_if_lt (tgt := 17) hx hb dX9_in_3 (by decide) (fun c3862 => ?_) (fun c3862 => ?_)
  · have h3863 : x1.toInt < 0 := cI_lt (Int32.toInt_toInt64 x1) (by decide) c3862
    refine lv_iconst (v := 0) hx hb dX9_in_17 (by decide) ?_
    exact retRz C rfl (by decide) (Or.inl ⟨h3863, rfl⟩) dX9_in_18
  · have h3864 : x1.toInt ≥ 0 := cI_nlt (Int32.toInt_toInt64 x1) (by decide) c3862
    refine lv_lload_n hx hb dX9_in_6 rfl (lv_at hl 0 rfl) ?_
    refine lv_lload hx hb dX9_in_7 (lv_at hl 2 rfl) ?_
    refine W.lcmp hx hb dX9_in_9 ?_
    refine lv_if_gt (tgt := 17) hx hb dX9_in_10 (by decide) (fun c3865 => ?_) (fun c3865 => ?_)
    · have h3866 : x1.toInt > 9999 := cI_gt (Int32.toInt_toInt64 x1) (by decide) c3865
      refine lv_iconst (v := 0) hx hb dX9_in_17 (by decide) ?_
      exact retRz C rfl (by decide) (Or.inr (Or.inl ⟨h3864, h3866, rfl⟩)) dX9_in_18
    · have h3867 : x1.toInt ≤ 9999 := cI_ngt (Int32.toInt_toInt64 x1) (by decide) c3865
      refine lv_iconst (v := 1) hx hb dX9_in_13 (by decide) ?_
      refine lv_goto (tgt := 18) hx hb dX9_in_14 (by decide) ?_
      exact retRz C rfl (by decide) (Or.inr (Or.inr (⟨h3864, h3867, rfl⟩))) dX9_in_18

set_option maxHeartbeats 4000000 in
set_option maxRecDepth 100000 in
theorem c_X9_checks_0 (l : Launch) (D : va_G) (a : Nat → ClassId) (q1 : Nat) (x1 x2 : Int32) : CRi l MX9_checks 1 25 D a [.ref q1, .int x1, .int x2] [] (fun r => (x1.toInt < 0 ∧ r = (-1)) ∨ (x1.toInt ≥ 0 ∧ x1.toInt > 9999 ∧ r = (-1)) ∨ (x1.toInt ≥ 0 ∧ x1.toInt ≤ 9999 ∧ x2.toInt < 0 ∧ r = (-1)) ∨ (x1.toInt ≥ 0 ∧ x1.toInt ≤ 9999 ∧ x2.toInt ≥ 0 ∧ x2.toInt > 9999 ∧ r = (-1)) ∨ (x1.toInt ≥ 0 ∧ x1.toInt ≤ 9999 ∧ x2.toInt ≥ 0 ∧ x2.toInt ≤ 9999 ∧ r = ckS x1 x2)) := by
  refine entR (by decide) (Nat.le_of_ble_eq_true rfl) ?_
  intro p e s m below meth c C hK hP ls hl
  obtain ⟨hx, hb, hml, hown, hts, hr, hlocks, hnm⟩ := id C
  have hb : c.code = cX9_checks := hb
  have hown : s.vm.findClass RX9 = some m.cls := hown
  have hl : lv_has ls 4 [(0, .ref q1), (1, .int x1), (2, .int x2)] := hl
  refine lv_iload_n hx hb dX9_checks_0 rfl (lv_at hl 1 rfl) ?_
  refine lv_i2l (v := x1.toInt64) hx hb dX9_checks_1 rfl ?_
  refine lv_lconst (v := 0) hx hb dX9_checks_2 (by decide) ?_
  refine lv_ldc2 hx hb hown (hts _ t_1369) dX9_checks_3 ?_
  refine aftRi (runS (As := [.long x1.toInt64, .long 0, .long 9999]) (rest := []) C (c_X9_in_4 l D a x1) lk_S_9_118 (okN_X9_in) ⟨Nat.le_of_ble_eq_true rfl, Nat.le_of_ble_eq_true rfl⟩ ⟨rfl, rfl⟩ (preR hK (P_of_map (wc := []) hP [] rfl)) hl.1 rfl (Nat.le_of_ble_eq_true rfl) dX9_checks_6 ⟨Nat.le_of_ble_eq_true rfl, Nat.le_of_ble_eq_true rfl⟩) (fun x3890 hw => ?_)
  rcases hw with ⟨h3893, rfl⟩ | ⟨h3894, h3895, rfl⟩ | ⟨h3896, h3897, rfl⟩
  · refine lv_if_eq (tgt := 24) hx hb dX9_checks_9 (by decide) (fun c9 => ?_) (fun c9 => absurd (by decide) c9)
    refine lv_iconst (v := (-1)) hx hb dX9_checks_24 (by decide) ?_
    exact retRi C rfl (Or.inl ⟨h3893, rfl⟩) dX9_checks_25
  · refine lv_if_eq (tgt := 24) hx hb dX9_checks_9 (by decide) (fun c9 => ?_) (fun c9 => absurd (by decide) c9)
    refine lv_iconst (v := (-1)) hx hb dX9_checks_24 (by decide) ?_
    exact retRi C rfl (Or.inr (Or.inl ⟨h3894, h3895, rfl⟩)) dX9_checks_25
  · refine lv_if_eq (tgt := 24) hx hb dX9_checks_9 (by decide) (fun c9 => absurd c9 (by decide)) (fun c9 => ?_)
    refine lv_iload_n hx hb dX9_checks_12 rfl (lv_at hl 2 rfl) ?_
    refine lv_i2l (v := x2.toInt64) hx hb dX9_checks_13 rfl ?_
    refine lv_lconst (v := 0) hx hb dX9_checks_14 (by decide) ?_
    refine lv_ldc2 hx hb hown (hts _ t_1369) dX9_checks_15 ?_
    refine aftRi (runS (As := [.long x2.toInt64, .long 0, .long 9999]) (rest := []) C (c_X9_in_4 l D a x2) lk_S_9_118 (okN_X9_in) ⟨Nat.le_of_ble_eq_true rfl, Nat.le_of_ble_eq_true rfl⟩ ⟨rfl, rfl⟩ (preR hK (P_of_map (wc := []) hP [] rfl)) hl.1 rfl (Nat.le_of_ble_eq_true rfl) dX9_checks_18 ⟨Nat.le_of_ble_eq_true rfl, Nat.le_of_ble_eq_true rfl⟩) (fun x3898 hw => ?_)
    rcases hw with ⟨h3901, rfl⟩ | ⟨h3902, h3903, rfl⟩ | ⟨h3904, h3905, rfl⟩
    · refine lv_if_ne (tgt := 26) hx hb dX9_checks_21 (by decide) (fun c9 => absurd (by decide) c9) (fun c9 => ?_)
      refine lv_iconst (v := (-1)) hx hb dX9_checks_24 (by decide) ?_
      exact retRi C rfl (Or.inr (Or.inr (Or.inl ⟨h3896, h3897, h3901, rfl⟩))) dX9_checks_25
    · refine lv_if_ne (tgt := 26) hx hb dX9_checks_21 (by decide) (fun c9 => absurd (by decide) c9) (fun c9 => ?_)
      refine lv_iconst (v := (-1)) hx hb dX9_checks_24 (by decide) ?_
      exact retRi C rfl (Or.inr (Or.inr (Or.inr (Or.inl ⟨h3896, h3897, h3902, h3903, rfl⟩)))) dX9_checks_25
    · refine lv_if_ne (tgt := 26) hx hb dX9_checks_21 (by decide) (fun c9 => ?_) (fun c9 => absurd c9 (by decide))
      refine lv_iconst (v := 0) hx hb dX9_checks_26 (by decide) ?_
      refine lv_istore_n (lv' := [(3, .int 0), (0, .ref q1), (1, .int x1), (2, .int x2)]) hx hb dX9_checks_27 rfl hl (by decide) rfl (fun ls hl => ?_)
      refine lp_X9_checks C (by omega) (by omega) 100 0 (by decide) (fun ls hl => ?_) ls hl
      have hl : lv_has ls 4 [(3, .int (ckS x1 x2)), (0, .ref q1), (1, .int x1), (2, .int x2)] := hl
      refine lv_iload_n hx hb dX9_checks_46 rfl (lv_at hl 0 rfl) ?_
      exact retRi C rfl (Or.inr (Or.inr (Or.inr (Or.inr (⟨h3896, h3897, h3904, h3905, rfl⟩))))) dX9_checks_47

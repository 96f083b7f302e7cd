set_option maxHeartbeats 4000000 in
set_option maxRecDepth 100000 in
theorem c_X6_addToken_0 (l : Launch) (D : va_G) (a : Nat → ClassId) (q1 q2 q3 q4 : Nat) (sz : Nat) : CMv (S := SS) l MX6_addToken 0 0 0 0 D a [.ref q1, .int 300, .int 0, .int 0] [(q1, .inr (6, [.ref q2, .ref q3, .ref q4, .int 0, .int 0, .int 0, .int 0, .int 0, .int 0])), (q2, .inl (a 0, 401, .inl (fun _ => 0))), (q3, .inl (a 0, 401, .inl (fun _ => 0))), (q4, .inl (a 0, 401, .inl (fun _ => 0)))] sz (fun u => (u = (0, [], [], [], [], []))) (fun u => pk [[(q1, .inr (6, [.ref q2, .ref q3, .ref q4, .int 1, .int 0, .int 0, .int 0, .int 0, .int 0])), (q2, .inl (a 0, 401, .inl (upd (fun _ => 0) 0 300))), (q3, .inl (a 0, 401, .inl (upd (fun _ => 0) 0 0))), (q4, .inl (a 0, 401, .inl (upd (fun _ => 0) 0 0)))]] u.1) := by
  refine entMv (by decide) (Nat.le_of_ble_eq_true rfl) ?_
  intro p e s m below meth c C hK A hA hP hD ls hl
  obtain ⟨hx, hb, hml, hown, hts, hr, hlocks, hnm⟩ := id C
  have hb : c.code = cX6_addToken := hb
  have hown : s.vm.findClass RX6 = some m.cls := hown
  have hS : va_S A s.heap s.heap [] := va_S.rf
  have hl : lv_has ls 4 [(0, .ref q1), (1, .int 300), (2, .int 0), (3, .int 0)] := hl
  refine lv_aload_n hx hb dX6_addToken_0 rfl (lv_at hl 0 rfl) ?_
  refine va_get (D := D) (v := .int 0) (C := RX6) (T := TX6) (N := 9) hx hb hts iX6 hown hK.1 hP 0 rfl rfl 3 (by decide) (hts _ t_211) (fun _ h9 => h9) rfl dX6_addToken_1 ?_
  refine lv_if_lt (tgt := 59) hx hb dX6_addToken_4 (by decide) (fun c9 => absurd c9 (by decide)) (fun c9 => ?_)
  refine lv_aload_n hx hb dX6_addToken_7 rfl (lv_at hl 0 rfl) ?_
  refine va_get (D := D) (v := .int 0) (C := RX6) (T := TX6) (N := 9) hx hb hts iX6 hown hK.1 hP 0 rfl rfl 3 (by decide) (hts _ t_211) (fun _ h9 => h9) rfl dX6_addToken_8 ?_
  refine lv_aload_n hx hb dX6_addToken_11 rfl (lv_at hl 0 rfl) ?_
  refine va_get (D := D) (v := .ref q2) (C := RX6) (T := TX6) (N := 9) hx hb hts iX6 hown hK.1 hP 0 rfl rfl 0 (by decide) (hts _ t_208) (fun _ h9 => h9) rfl dX6_addToken_12 ?_
  refine va_alen (v := 401) hx hb hK.1 hP 1 0 rfl rfl rfl dX6_addToken_15 ?_
  refine lv_icmp_ge (tgt := 59) hx hb dX6_addToken_16 (by decide) (fun c9 => absurd c9 (by decide)) (fun c9 => ?_)
  refine lv_aload_n hx hb dX6_addToken_19 rfl (lv_at hl 0 rfl) ?_
  refine va_get (D := D) (v := .ref q2) (C := RX6) (T := TX6) (N := 9) hx hb hts iX6 hown hK.1 hP 0 rfl rfl 0 (by decide) (hts _ t_208) (fun _ h9 => h9) rfl dX6_addToken_20 ?_
  refine lv_aload_n hx hb dX6_addToken_23 rfl (lv_at hl 0 rfl) ?_
  refine va_get (D := D) (v := .int 0) (C := RX6) (T := TX6) (N := 9) hx hb hts iX6 hown hK.1 hP 0 rfl rfl 3 (by decide) (hts _ t_211) (fun _ h9 => h9) rfl dX6_addToken_24 ?_
  refine lv_iload_n hx hb dX6_addToken_27 rfl (lv_at hl 1 rfl) ?_
  refine ast_i hx hb hK.1 hP hD hS 1 0 rfl rfl 0 (ix_lit (by decide)) dX6_addToken_28 (fun H locs hP hD hS => ?_)
  have hP : va_P D classes [(q1, .inr (6, [.ref q2, .ref q3, .ref q4, .int 0, .int 0, .int 0, .int 0, .int 0, .int 0])), (q2, .inl (a 0, 401, .inl (upd (fun _ => 0) 0 300))), (q3, .inl (a 0, 401, .inl (fun _ => 0))), (q4, .inl (a 0, 401, .inl (fun _ => 0)))] H := hP
  have hD : va_D A [(q1, .inr (6, [.ref q2, .ref q3, .ref q4, .int 0, .int 0, .int 0, .int 0, .int 0, .int 0])), (q2, .inl (a 0, 401, .inl (upd (fun _ => 0) 0 300))), (q3, .inl (a 0, 401, .inl (fun _ => 0))), (q4, .inl (a 0, 401, .inl (fun _ => 0)))] := hD
  refine lv_aload_n hx hb dX6_addToken_29 rfl (lv_at hl 0 rfl) ?_
  refine va_get (D := D) (v := .ref q3) (C := RX6) (T := TX6) (N := 9) hx hb hts iX6 hown hK.1 hP 0 rfl rfl 1 (by decide) (hts _ t_209) (fun _ h9 => h9) rfl dX6_addToken_30 ?_
  refine lv_aload_n hx hb dX6_addToken_33 rfl (lv_at hl 0 rfl) ?_
  refine va_get (D := D) (v := .int 0) (C := RX6) (T := TX6) (N := 9) hx hb hts iX6 hown hK.1 hP 0 rfl rfl 3 (by decide) (hts _ t_211) (fun _ h9 => h9) rfl dX6_addToken_34 ?_
  refine lv_iload_n hx hb dX6_addToken_37 rfl (lv_at hl 2 rfl) ?_
  refine ast_i hx hb hK.1 hP hD hS 2 0 rfl rfl 0 (ix_lit (by decide)) dX6_addToken_38 (fun H locs hP hD hS => ?_)
  have hP : va_P D classes [(q1, .inr (6, [.ref q2, .ref q3, .ref q4, .int 0, .int 0, .int 0, .int 0, .int 0, .int 0])), (q2, .inl (a 0, 401, .inl (upd (fun _ => 0) 0 300))), (q3, .inl (a 0, 401, .inl (upd (fun _ => 0) 0 0))), (q4, .inl (a 0, 401, .inl (fun _ => 0)))] H := hP
  have hD : va_D A [(q1, .inr (6, [.ref q2, .ref q3, .ref q4, .int 0, .int 0, .int 0, .int 0, .int 0, .int 0])), (q2, .inl (a 0, 401, .inl (upd (fun _ => 0) 0 300))), (q3, .inl (a 0, 401, .inl (upd (fun _ => 0) 0 0))), (q4, .inl (a 0, 401, .inl (fun _ => 0)))] := hD
  refine lv_aload_n hx hb dX6_addToken_39 rfl (lv_at hl 0 rfl) ?_
  refine va_get (D := D) (v := .ref q4) (C := RX6) (T := TX6) (N := 9) hx hb hts iX6 hown hK.1 hP 0 rfl rfl 2 (by decide) (hts _ t_210) (fun _ h9 => h9) rfl dX6_addToken_40 ?_
  refine lv_aload_n hx hb dX6_addToken_43 rfl (lv_at hl 0 rfl) ?_
  refine va_get (D := D) (v := .int 0) (C := RX6) (T := TX6) (N := 9) hx hb hts iX6 hown hK.1 hP 0 rfl rfl 3 (by decide) (hts _ t_211) (fun _ h9 => h9) rfl dX6_addToken_44 ?_
  refine lv_iload_n hx hb dX6_addToken_47 rfl (lv_at hl 3 rfl) ?_
  refine ast_i hx hb hK.1 hP hD hS 3 0 rfl rfl 0 (ix_lit (by decide)) dX6_addToken_48 (fun H locs hP hD hS => ?_)
  have hP : va_P D classes [(q1, .inr (6, [.ref q2, .ref q3, .ref q4, .int 0, .int 0, .int 0, .int 0, .int 0, .int 0])), (q2, .inl (a 0, 401, .inl (upd (fun _ => 0) 0 300))), (q3, .inl (a 0, 401, .inl (upd (fun _ => 0) 0 0))), (q4, .inl (a 0, 401, .inl (upd (fun _ => 0) 0 0)))] H := hP
  have hD : va_D A [(q1, .inr (6, [.ref q2, .ref q3, .ref q4, .int 0, .int 0, .int 0, .int 0, .int 0, .int 0])), (q2, .inl (a 0, 401, .inl (upd (fun _ => 0) 0 300))), (q3, .inl (a 0, 401, .inl (upd (fun _ => 0) 0 0))), (q4, .inl (a 0, 401, .inl (upd (fun _ => 0) 0 0)))] := hD
  refine lv_aload_n hx hb dX6_addToken_49 rfl (lv_at hl 0 rfl) ?_
  refine lv_dup hx hb dX6_addToken_50 rfl ?_
  refine va_get (D := D) (v := .int 0) (C := RX6) (T := TX6) (N := 9) hx hb hts iX6 hown hK.1 hP 0 rfl rfl 3 (by decide) (hts _ t_211) (fun _ h9 => h9) rfl dX6_addToken_51 ?_
  refine lv_iconst (v := 1) hx hb dX6_addToken_54 (by decide) ?_
  refine lv_iadd hx hb dX6_addToken_55 ?_
  refine lv_topi (fun x1840 ex1840 => ?_)
  obtain rfl : x1840 = 1 := ex1840.trans (by decide)
  refine va_put (D := D) (v := .int 1) (C := RX6) (T := TX6) (N := 9) hx hb hts iX6 tyX6 tyX6_ok nmX6 hown hK.1 hP hD hS 0 rfl rfl 3 (by decide) (hts _ t_211) (fun _ h9 => h9) rfl (tyX6_ok 3 (by decide)) rfl rfl (Nat.le_of_ble_eq_true rfl) dX6_addToken_56 (fun H locs hP hD hS => ?_)
  have hP : va_P D classes [(q1, .inr (6, [.ref q2, .ref q3, .ref q4, .int 1, .int 0, .int 0, .int 0, .int 0, .int 0])), (q2, .inl (a 0, 401, .inl (upd (fun _ => 0) 0 300))), (q3, .inl (a 0, 401, .inl (upd (fun _ => 0) 0 0))), (q4, .inl (a 0, 401, .inl (upd (fun _ => 0) 0 0)))] H := hP
  have hD : va_D A [(q1, .inr (6, [.ref q2, .ref q3, .ref q4, .int 1, .int 0, .int 0, .int 0, .int 0, .int 0])), (q2, .inl (a 0, 401, .inl (upd (fun _ => 0) 0 300))), (q3, .inl (a 0, 401, .inl (upd (fun _ => 0) 0 0))), (q4, .inl (a 0, 401, .inl (upd (fun _ => 0) 0 0)))] := hD
  exact retMv C rfl (0, [], [], [], [], []) rfl hP hD hS (Nat.le_of_ble_eq_true rfl) (Nat.le_of_ble_eq_true rfl) dX6_addToken_59

set_option maxHeartbeats 4000000 in
set_option maxRecDepth 100000 in
theorem c_X6_step_0 (l : Launch) (D : va_G) (a : Nat → ClassId) (q1 q2 q3 q4 : Nat) (sz : Nat) : CMv (S := SS) l MX6_step 0 0 0 0 D a [.ref q1] [(q1, .inr (6, [.ref q2, .ref q3, .ref q4, .int 1, .int 0, .int 0, .int 0, .int 0, .int 0])), (q2, .inl (a 0, 401, .inl (upd (fun _ => 0) 0 300))), (q3, .inl (a 0, 401, .inl (upd (fun _ => 0) 0 0))), (q4, .inl (a 0, 401, .inl (upd (fun _ => 0) 0 0)))] sz (fun u => (u = (0, [], [], [], [], []))) (fun u => pk [[(q1, .inr (6, [.ref q2, .ref q3, .ref q4, .int 1, .int 1, .int 300, .int 0, .int 0, .int 0])), (q2, .inl (a 0, 401, .inl (upd (fun _ => 0) 0 300))), (q3, .inl (a 0, 401, .inl (upd (fun _ => 0) 0 0))), (q4, .inl (a 0, 401, .inl (upd (fun _ => 0) 0 0)))]] u.1) := by
  refine entMv (by decide) (Nat.le_of_ble_eq_true rfl) ?_
  intro p e s m below meth c C hK A hA hP hD ls hl
  obtain ⟨hx, hb, hml, hown, hts, hr, hlocks, hnm⟩ := id C
  have hb : c.code = cX6_step := hb
  have hown : s.vm.findClass RX6 = some m.cls := hown
  have hS : va_S A s.heap s.heap [] := va_S.rf
  have hl : lv_has ls 1 [(0, .ref q1)] := hl
  refine lv_aload_n hx hb dX6_step_0 rfl (lv_at hl 0 rfl) ?_
  refine va_get (D := D) (v := .int 0) (C := RX6) (T := TX6) (N := 9) hx hb hts iX6 hown hK.1 hP 0 rfl rfl 4 (by decide) (hts _ t_212) (fun _ h9 => h9) rfl dX6_step_1 ?_
  refine lv_if_lt (tgt := 79) hx hb dX6_step_4 (by decide) (fun c9 => absurd c9 (by decide)) (fun c9 => ?_)
  refine lv_aload_n hx hb dX6_step_7 rfl (lv_at hl 0 rfl) ?_
  refine va_get (D := D) (v := .int 0) (C := RX6) (T := TX6) (N := 9) hx hb hts iX6 hown hK.1 hP 0 rfl rfl 4 (by decide) (hts _ t_212) (fun _ h9 => h9) rfl dX6_step_8 ?_
  refine lv_aload_n hx hb dX6_step_11 rfl (lv_at hl 0 rfl) ?_
  refine va_get (D := D) (v := .int 1) (C := RX6) (T := TX6) (N := 9) hx hb hts iX6 hown hK.1 hP 0 rfl rfl 3 (by decide) (hts _ t_211) (fun _ h9 => h9) rfl dX6_step_12 ?_
  refine lv_icmp_ge (tgt := 79) hx hb dX6_step_15 (by decide) (fun c9 => absurd c9 (by decide)) (fun c9 => ?_)
  refine lv_aload_n hx hb dX6_step_18 rfl (lv_at hl 0 rfl) ?_
  refine va_get (D := D) (v := .int 0) (C := RX6) (T := TX6) (N := 9) hx hb hts iX6 hown hK.1 hP 0 rfl rfl 4 (by decide) (hts _ t_212) (fun _ h9 => h9) rfl dX6_step_19 ?_
  refine lv_aload_n hx hb dX6_step_22 rfl (lv_at hl 0 rfl) ?_
  refine va_get (D := D) (v := .ref q2) (C := RX6) (T := TX6) (N := 9) hx hb hts iX6 hown hK.1 hP 0 rfl rfl 0 (by decide) (hts _ t_208) (fun _ h9 => h9) rfl dX6_step_23 ?_
  refine va_alen (v := 401) hx hb hK.1 hP 1 0 rfl rfl rfl dX6_step_26 ?_
  refine lv_icmp_ge (tgt := 79) hx hb dX6_step_27 (by decide) (fun c9 => absurd c9 (by decide)) (fun c9 => ?_)
  refine lv_aload_n hx hb dX6_step_30 rfl (lv_at hl 0 rfl) ?_
  refine lv_aload_n hx hb dX6_step_31 rfl (lv_at hl 0 rfl) ?_
  refine va_get (D := D) (v := .ref q2) (C := RX6) (T := TX6) (N := 9) hx hb hts iX6 hown hK.1 hP 0 rfl rfl 0 (by decide) (hts _ t_208) (fun _ h9 => h9) rfl dX6_step_32 ?_
  refine lv_aload_n hx hb dX6_step_35 rfl (lv_at hl 0 rfl) ?_
  refine va_get (D := D) (v := .int 0) (C := RX6) (T := TX6) (N := 9) hx hb hts iX6 hown hK.1 hP 0 rfl rfl 4 (by decide) (hts _ t_212) (fun _ h9 => h9) rfl dX6_step_36 ?_
  refine ald_i hx hb hK.1 hP 1 0 rfl rfl 0 (ix_lit (by decide)) dX6_step_39 ?_
  refine lv_topi (fun x1848 ex1848 => ?_)
  obtain rfl : x1848 = 300 := ex1848.trans rfl
  refine va_put (D := D) (v := .int 300) (C := RX6) (T := TX6) (N := 9) hx hb hts iX6 tyX6 tyX6_ok nmX6 hown hK.1 hP hD hS 0 rfl rfl 5 (by decide) (hts _ t_215) (fun _ h9 => h9) rfl (tyX6_ok 5 (by decide)) rfl rfl (Nat.le_of_ble_eq_true rfl) dX6_step_40 (fun H locs hP hD hS => ?_)
  have hP : va_P D classes [(q1, .inr (6, [.ref q2, .ref q3, .ref q4, .int 1, .int 0, .int 300, .int 0, .int 0, .int 0])), (q2, .inl (a 0, 401, .inl (upd (fun _ => 0) 0 300))), (q3, .inl (a 0, 401, .inl (upd (fun _ => 0) 0 0))), (q4, .inl (a 0, 401, .inl (upd (fun _ => 0) 0 0)))] H := hP
  have hD : va_D A [(q1, .inr (6, [.ref q2, .ref q3, .ref q4, .int 1, .int 0, .int 300, .int 0, .int 0, .int 0])), (q2, .inl (a 0, 401, .inl (upd (fun _ => 0) 0 300))), (q3, .inl (a 0, 401, .inl (upd (fun _ => 0) 0 0))), (q4, .inl (a 0, 401, .inl (upd (fun _ => 0) 0 0)))] := hD
  refine lv_aload_n hx hb dX6_step_43 rfl (lv_at hl 0 rfl) ?_
  refine lv_aload_n hx hb dX6_step_44 rfl (lv_at hl 0 rfl) ?_
  refine va_get (D := D) (v := .ref q3) (C := RX6) (T := TX6) (N := 9) hx hb hts iX6 hown hK.1 hP 0 rfl rfl 1 (by decide) (hts _ t_209) (fun _ h9 => h9) rfl dX6_step_45 ?_
  refine lv_aload_n hx hb dX6_step_48 rfl (lv_at hl 0 rfl) ?_
  refine va_get (D := D) (v := .int 0) (C := RX6) (T := TX6) (N := 9) hx hb hts iX6 hown hK.1 hP 0 rfl rfl 4 (by decide) (hts _ t_212) (fun _ h9 => h9) rfl dX6_step_49 ?_
  refine ald_i hx hb hK.1 hP 2 0 rfl rfl 0 (ix_lit (by decide)) dX6_step_52 ?_
  refine lv_topi (fun x1849 ex1849 => ?_)
  obtain rfl : x1849 = 0 := ex1849.trans rfl
  refine va_put (D := D) (v := .int 0) (C := RX6) (T := TX6) (N := 9) hx hb hts iX6 tyX6 tyX6_ok nmX6 hown hK.1 hP hD hS 0 rfl rfl 6 (by decide) (hts _ t_216) (fun _ h9 => h9) rfl (tyX6_ok 6 (by decide)) rfl rfl (Nat.le_of_ble_eq_true rfl) dX6_step_53 (fun H locs hP hD hS => ?_)
  have hP : va_P D classes [(q1, .inr (6, [.ref q2, .ref q3, .ref q4, .int 1, .int 0, .int 300, .int 0, .int 0, .int 0])), (q2, .inl (a 0, 401, .inl (upd (fun _ => 0) 0 300))), (q3, .inl (a 0, 401, .inl (upd (fun _ => 0) 0 0))), (q4, .inl (a 0, 401, .inl (upd (fun _ => 0) 0 0)))] H := hP
  have hD : va_D A [(q1, .inr (6, [.ref q2, .ref q3, .ref q4, .int 1, .int 0, .int 300, .int 0, .int 0, .int 0])), (q2, .inl (a 0, 401, .inl (upd (fun _ => 0) 0 300))), (q3, .inl (a 0, 401, .inl (upd (fun _ => 0) 0 0))), (q4, .inl (a 0, 401, .inl (upd (fun _ => 0) 0 0)))] := hD
  refine lv_aload_n hx hb dX6_step_56 rfl (lv_at hl 0 rfl) ?_
  refine lv_aload_n hx hb dX6_step_57 rfl (lv_at hl 0 rfl) ?_
  refine va_get (D := D) (v := .ref q4) (C := RX6) (T := TX6) (N := 9) hx hb hts iX6 hown hK.1 hP 0 rfl rfl 2 (by decide) (hts _ t_210) (fun _ h9 => h9) rfl dX6_step_58 ?_
  refine lv_aload_n hx hb dX6_step_61 rfl (lv_at hl 0 rfl) ?_
  refine va_get (D := D) (v := .int 0) (C := RX6) (T := TX6) (N := 9) hx hb hts iX6 hown hK.1 hP 0 rfl rfl 4 (by decide) (hts _ t_212) (fun _ h9 => h9) rfl dX6_step_62 ?_
  refine ald_i hx hb hK.1 hP 3 0 rfl rfl 0 (ix_lit (by decide)) dX6_step_65 ?_
  refine lv_topi (fun x1850 ex1850 => ?_)
  obtain rfl : x1850 = 0 := ex1850.trans rfl
  refine va_put (D := D) (v := .int 0) (C := RX6) (T := TX6) (N := 9) hx hb hts iX6 tyX6 tyX6_ok nmX6 hown hK.1 hP hD hS 0 rfl rfl 7 (by decide) (hts _ t_218) (fun _ h9 => h9) rfl (tyX6_ok 7 (by decide)) rfl rfl (Nat.le_of_ble_eq_true rfl) dX6_step_66 (fun H locs hP hD hS => ?_)
  have hP : va_P D classes [(q1, .inr (6, [.ref q2, .ref q3, .ref q4, .int 1, .int 0, .int 300, .int 0, .int 0, .int 0])), (q2, .inl (a 0, 401, .inl (upd (fun _ => 0) 0 300))), (q3, .inl (a 0, 401, .inl (upd (fun _ => 0) 0 0))), (q4, .inl (a 0, 401, .inl (upd (fun _ => 0) 0 0)))] H := hP
  have hD : va_D A [(q1, .inr (6, [.ref q2, .ref q3, .ref q4, .int 1, .int 0, .int 300, .int 0, .int 0, .int 0])), (q2, .inl (a 0, 401, .inl (upd (fun _ => 0) 0 300))), (q3, .inl (a 0, 401, .inl (upd (fun _ => 0) 0 0))), (q4, .inl (a 0, 401, .inl (upd (fun _ => 0) 0 0)))] := hD
  refine lv_aload_n hx hb dX6_step_69 rfl (lv_at hl 0 rfl) ?_
  refine lv_dup hx hb dX6_step_70 rfl ?_
  refine va_get (D := D) (v := .int 0) (C := RX6) (T := TX6) (N := 9) hx hb hts iX6 hown hK.1 hP 0 rfl rfl 4 (by decide) (hts _ t_212) (fun _ h9 => h9) rfl dX6_step_71 ?_
  refine lv_iconst (v := 1) hx hb dX6_step_74 (by decide) ?_
  refine lv_iadd hx hb dX6_step_75 ?_
  refine lv_topi (fun x1851 ex1851 => ?_)
  obtain rfl : x1851 = 1 := ex1851.trans (by decide)
  refine va_put (D := D) (v := .int 1) (C := RX6) (T := TX6) (N := 9) hx hb hts iX6 tyX6 tyX6_ok nmX6 hown hK.1 hP hD hS 0 rfl rfl 4 (by decide) (hts _ t_212) (fun _ h9 => h9) rfl (tyX6_ok 4 (by decide)) rfl rfl (Nat.le_of_ble_eq_true rfl) dX6_step_76 (fun H locs hP hD hS => ?_)
  have hP : va_P D classes [(q1, .inr (6, [.ref q2, .ref q3, .ref q4, .int 1, .int 1, .int 300, .int 0, .int 0, .int 0])), (q2, .inl (a 0, 401, .inl (upd (fun _ => 0) 0 300))), (q3, .inl (a 0, 401, .inl (upd (fun _ => 0) 0 0))), (q4, .inl (a 0, 401, .inl (upd (fun _ => 0) 0 0)))] H := hP
  have hD : va_D A [(q1, .inr (6, [.ref q2, .ref q3, .ref q4, .int 1, .int 1, .int 300, .int 0, .int 0, .int 0])), (q2, .inl (a 0, 401, .inl (upd (fun _ => 0) 0 300))), (q3, .inl (a 0, 401, .inl (upd (fun _ => 0) 0 0))), (q4, .inl (a 0, 401, .inl (upd (fun _ => 0) 0 0)))] := hD
  exact retMv C rfl (0, [], [], [], [], []) rfl hP hD hS (Nat.le_of_ble_eq_true rfl) (Nat.le_of_ble_eq_true rfl) dX6_step_79

set_option maxHeartbeats 4000000 in
set_option maxRecDepth 100000 in
theorem c_X6_open_0 (l : Launch) (D : va_G) (a : Nat → ClassId) (q1 q3 q4 q5 q2 : Nat) (sz : Nat) : CMv (S := SS) l MX6_open 1 23 0 0 D a [.ref q1, .ref q2, .int 0] [(q1, .inr (6, [.ref q3, .ref q4, .ref q5, .int 0, .int 0, .int 0, .int 0, .int 0, .int 0])), (q3, .inl (a 0, 401, .inl (fun _ => 0))), (q4, .inl (a 0, 401, .inl (fun _ => 0))), (q5, .inl (a 0, 401, .inl (fun _ => 0)))] sz (fun u => (u = (0, [], [], [], [], []))) (fun u => pk [[(q1, .inr (6, [.ref q3, .ref q4, .ref q5, .int 1, .int 1, .int 300, .int 0, .int 0, .int 0])), (q3, .inl (a 0, 401, .inl (upd (fun _ => 0) 0 300))), (q4, .inl (a 0, 401, .inl (upd (fun _ => 0) 0 0))), (q5, .inl (a 0, 401, .inl (upd (fun _ => 0) 0 0)))]] u.1) := by
  refine entMv (by decide) (Nat.le_of_ble_eq_true rfl) ?_
  intro p e s m below meth c C hK A hA hP hD ls hl
  obtain ⟨hx, hb, hml, hown, hts, hr, hlocks, hnm⟩ := id C
  have hb : c.code = cX6_open := hb
  have hown : s.vm.findClass RX6 = some m.cls := hown
  have hS : va_S A s.heap s.heap [] := va_S.rf
  have hl : lv_has ls 5 [(0, .ref q1), (1, .ref q2), (2, .int 0)] := hl
  refine lv_aload_n hx hb dX6_open_0 rfl (lv_at hl 0 rfl) ?_
  refine lv_iconst (v := 0) hx hb dX6_open_1 (by decide) ?_
  refine va_put (D := D) (v := .int 0) (C := RX6) (T := TX6) (N := 9) hx hb hts iX6 tyX6 tyX6_ok nmX6 hown hK.1 hP hD hS 0 rfl rfl 3 (by decide) (hts _ t_211) (fun _ h9 => h9) rfl (tyX6_ok 3 (by decide)) rfl rfl (Nat.le_of_ble_eq_true rfl) dX6_open_2 (fun H locs hP hD hS => ?_)
  have hP : va_P D classes [(q1, .inr (6, [.ref q3, .ref q4, .ref q5, .int 0, .int 0, .int 0, .int 0, .int 0, .int 0])), (q3, .inl (a 0, 401, .inl (fun _ => 0))), (q4, .inl (a 0, 401, .inl (fun _ => 0))), (q5, .inl (a 0, 401, .inl (fun _ => 0)))] H := hP
  have hD : va_D A [(q1, .inr (6, [.ref q3, .ref q4, .ref q5, .int 0, .int 0, .int 0, .int 0, .int 0, .int 0])), (q3, .inl (a 0, 401, .inl (fun _ => 0))), (q4, .inl (a 0, 401, .inl (fun _ => 0))), (q5, .inl (a 0, 401, .inl (fun _ => 0)))] := hD
  refine lv_iconst (v := 0) hx hb dX6_open_5 (by decide) ?_
  refine lv_istore_n (lv' := [(3, .int 0), (0, .ref q1), (1, .ref q2), (2, .int 0)]) hx hb dX6_open_6 rfl hl (by decide) rfl (fun ls hl => ?_)
  refine lv_iconst (v := 0) hx hb dX6_open_7 (by decide) ?_
  refine lv_istore (lv' := [(4, .int 0), (3, .int 0), (0, .ref q1), (1, .ref q2), (2, .int 0)]) hx hb dX6_open_8 hl (by decide) rfl (fun ls hl => ?_)
  refine lv_iload hx hb dX6_open_10 (lv_at hl 0 rfl) ?_
  refine lv_sipush (v := 400) hx hb dX6_open_12 (by decide) ?_
  refine lv_icmp_ge (tgt := 37) hx hb dX6_open_15 (by decide) (fun c9 => absurd c9 (by decide)) (fun c9 => ?_)
  refine lv_iload_n hx hb dX6_open_18 rfl (lv_at hl 1 rfl) ?_
  refine lv_iload_n hx hb dX6_open_19 rfl (lv_at hl 4 rfl) ?_
  refine lv_icmp_ge (tgt := 37) hx hb dX6_open_20 (by decide) (fun c9 => ?_) (fun c9 => absurd (by decide) c9)
  refine lv_aload_n hx hb dX6_open_37 rfl (lv_at hl 2 rfl) ?_
  refine lv_sipush (v := 300) hx hb dX6_open_38 (by decide) ?_
  refine lv_iload_n hx hb dX6_open_41 rfl (lv_at hl 4 rfl) ?_
  refine lv_iconst (v := 0) hx hb dX6_open_42 (by decide) ?_
  refine afMv (runV (As := [.int 300, .int 0, .int 0]) (rest := []) C (c_X6_addToken_0 l D a q1 q3 q4 q5 H.size) lk_V_6_29 (okN_X6_addToken) ⟨Nat.le_of_ble_eq_true rfl, Nat.le_of_ble_eq_true rfl⟩ ⟨rfl, rfl⟩ (preV (preM hK (P_of_map (wc := [(q1, .inr (6, [.ref q3, .ref q4, .ref q5, .int 0, .int 0, .int 0, .int 0, .int 0, .int 0])), (q3, .inl (a 0, 401, .inl (fun _ => 0))), (q4, .inl (a 0, 401, .inl (fun _ => 0))), (q5, .inl (a 0, 401, .inl (fun _ => 0)))]) hP [0, 1, 2, 3] rfl) (hD.sub (ws' := [(q1, .inr (6, [.ref q3, .ref q4, .ref q5, .int 0, .int 0, .int 0, .int 0, .int 0, .int 0])), (q3, .inl (a 0, 401, .inl (fun _ => 0))), (q4, .inl (a 0, 401, .inl (fun _ => 0))), (q5, .inl (a 0, 401, .inl (fun _ => 0)))]) [0, 1, 2, 3] (by decide) rfl)) (recvOf hK hP 0 rfl (ci := 6) rfl)) hl.1 rfl (Nat.le_of_ble_eq_true rfl) dX6_open_43 ⟨Nat.le_of_ble_eq_true rfl, Nat.le_of_ble_eq_true rfl⟩) hP hD hS hA [0, 1, 2, 3] [] (wr := []) rfl rfl (by decide) (by decide) (fun u H locs hw hP hD hS => ?_)
  obtain rfl := hw
  have hP : va_P D classes [(q1, .inr (6, [.ref q3, .ref q4, .ref q5, .int 1, .int 0, .int 0, .int 0, .int 0, .int 0])), (q3, .inl (a 0, 401, .inl (upd (fun _ => 0) 0 300))), (q4, .inl (a 0, 401, .inl (upd (fun _ => 0) 0 0))), (q5, .inl (a 0, 401, .inl (upd (fun _ => 0) 0 0)))] H := hP
  have hD : va_D A [(q1, .inr (6, [.ref q3, .ref q4, .ref q5, .int 1, .int 0, .int 0, .int 0, .int 0, .int 0])), (q3, .inl (a 0, 401, .inl (upd (fun _ => 0) 0 300))), (q4, .inl (a 0, 401, .inl (upd (fun _ => 0) 0 0))), (q5, .inl (a 0, 401, .inl (upd (fun _ => 0) 0 0)))] := hD
  refine lv_aload_n hx hb dX6_open_46 rfl (lv_at hl 2 rfl) ?_
  refine lv_iconst (v := 0) hx hb dX6_open_47 (by decide) ?_
  refine va_put (D := D) (v := .int 0) (C := RX6) (T := TX6) (N := 9) hx hb hts iX6 tyX6 tyX6_ok nmX6 hown hK.1 hP hD hS 0 rfl rfl 8 (by decide) (hts _ t_219) (fun _ h9 => h9) rfl (tyX6_ok 8 (by decide)) rfl rfl (Nat.le_of_ble_eq_true rfl) dX6_open_48 (fun H locs hP hD hS => ?_)
  have hP : va_P D classes [(q1, .inr (6, [.ref q3, .ref q4, .ref q5, .int 1, .int 0, .int 0, .int 0, .int 0, .int 0])), (q3, .inl (a 0, 401, .inl (upd (fun _ => 0) 0 300))), (q4, .inl (a 0, 401, .inl (upd (fun _ => 0) 0 0))), (q5, .inl (a 0, 401, .inl (upd (fun _ => 0) 0 0)))] H := hP
  have hD : va_D A [(q1, .inr (6, [.ref q3, .ref q4, .ref q5, .int 1, .int 0, .int 0, .int 0, .int 0, .int 0])), (q3, .inl (a 0, 401, .inl (upd (fun _ => 0) 0 300))), (q4, .inl (a 0, 401, .inl (upd (fun _ => 0) 0 0))), (q5, .inl (a 0, 401, .inl (upd (fun _ => 0) 0 0)))] := hD
  refine lv_aload_n hx hb dX6_open_51 rfl (lv_at hl 2 rfl) ?_
  refine lv_iconst (v := 0) hx hb dX6_open_52 (by decide) ?_
  refine va_put (D := D) (v := .int 0) (C := RX6) (T := TX6) (N := 9) hx hb hts iX6 tyX6 tyX6_ok nmX6 hown hK.1 hP hD hS 0 rfl rfl 4 (by decide) (hts _ t_212) (fun _ h9 => h9) rfl (tyX6_ok 4 (by decide)) rfl rfl (Nat.le_of_ble_eq_true rfl) dX6_open_53 (fun H locs hP hD hS => ?_)
  have hP : va_P D classes [(q1, .inr (6, [.ref q3, .ref q4, .ref q5, .int 1, .int 0, .int 0, .int 0, .int 0, .int 0])), (q3, .inl (a 0, 401, .inl (upd (fun _ => 0) 0 300))), (q4, .inl (a 0, 401, .inl (upd (fun _ => 0) 0 0))), (q5, .inl (a 0, 401, .inl (upd (fun _ => 0) 0 0)))] H := hP
  have hD : va_D A [(q1, .inr (6, [.ref q3, .ref q4, .ref q5, .int 1, .int 0, .int 0, .int 0, .int 0, .int 0])), (q3, .inl (a 0, 401, .inl (upd (fun _ => 0) 0 300))), (q4, .inl (a 0, 401, .inl (upd (fun _ => 0) 0 0))), (q5, .inl (a 0, 401, .inl (upd (fun _ => 0) 0 0)))] := hD
  refine lv_aload_n hx hb dX6_open_56 rfl (lv_at hl 2 rfl) ?_
  refine afMv (runV (As := []) (rest := []) C (c_X6_step_0 l D a q1 q3 q4 q5 H.size) lk_V_6_39 (okN_X6_step) ⟨Nat.le_of_ble_eq_true rfl, Nat.le_of_ble_eq_true rfl⟩ ⟨rfl, rfl⟩ (preV (preM hK (P_of_map (wc := [(q1, .inr (6, [.ref q3, .ref q4, .ref q5, .int 1, .int 0, .int 0, .int 0, .int 0, .int 0])), (q3, .inl (a 0, 401, .inl (upd (fun _ => 0) 0 300))), (q4, .inl (a 0, 401, .inl (upd (fun _ => 0) 0 0))), (q5, .inl (a 0, 401, .inl (upd (fun _ => 0) 0 0)))]) hP [0, 1, 2, 3] rfl) (hD.sub (ws' := [(q1, .inr (6, [.ref q3, .ref q4, .ref q5, .int 1, .int 0, .int 0, .int 0, .int 0, .int 0])), (q3, .inl (a 0, 401, .inl (upd (fun _ => 0) 0 300))), (q4, .inl (a 0, 401, .inl (upd (fun _ => 0) 0 0))), (q5, .inl (a 0, 401, .inl (upd (fun _ => 0) 0 0)))]) [0, 1, 2, 3] (by decide) rfl)) (recvOf hK hP 0 rfl (ci := 6) rfl)) hl.1 rfl (Nat.le_of_ble_eq_true rfl) dX6_open_57 ⟨Nat.le_of_ble_eq_true rfl, Nat.le_of_ble_eq_true rfl⟩) hP hD hS hA [0, 1, 2, 3] [] (wr := []) rfl rfl (by decide) (by decide) (fun u H locs hw hP hD hS => ?_)
  obtain rfl := hw
  have hP : va_P D classes [(q1, .inr (6, [.ref q3, .ref q4, .ref q5, .int 1, .int 1, .int 300, .int 0, .int 0, .int 0])), (q3, .inl (a 0, 401, .inl (upd (fun _ => 0) 0 300))), (q4, .inl (a 0, 401, .inl (upd (fun _ => 0) 0 0))), (q5, .inl (a 0, 401, .inl (upd (fun _ => 0) 0 0)))] H := hP
  have hD : va_D A [(q1, .inr (6, [.ref q3, .ref q4, .ref q5, .int 1, .int 1, .int 300, .int 0, .int 0, .int 0])), (q3, .inl (a 0, 401, .inl (upd (fun _ => 0) 0 300))), (q4, .inl (a 0, 401, .inl (upd (fun _ => 0) 0 0))), (q5, .inl (a 0, 401, .inl (upd (fun _ => 0) 0 0)))] := hD
  exact retMv C rfl (0, [], [], [], [], []) rfl hP hD hS (Nat.le_of_ble_eq_true rfl) (Nat.le_of_ble_eq_true rfl) dX6_open_60

set_option maxHeartbeats 4000000 in
set_option maxRecDepth 100000 in
theorem c_X7_init_1 (l : Launch) (D : va_G) (a : Nat → ClassId) (q1 : Nat) (sz : Nat) : CMv (S := SS) l MX7_init 1 20 12 108 D a [.ref q1, .int 1] [(q1, .inr (7, [.int 0, .int 0, .int 0, .int 0, .int 0, .null, .null, .null, .null, .null, .null, .null, .null, .null, .null, .null, .null, .int 0]))] sz (fun u => (∃ q1883 : Nat, ∃ q1884 : Nat, ∃ q1885 : Nat, ∃ q1886 : Nat, ∃ q1887 : Nat, ∃ q1888 : Nat, ∃ q1889 : Nat, ∃ q1890 : Nat, ∃ q1891 : Nat, ∃ q1892 : Nat, ∃ q1893 : Nat, ∃ q1894 : Nat, u = (0, [q1883, q1884, q1885, q1886, q1887, q1888, q1889, q1890, q1891, q1892, q1893, q1894], [], [], [], []))) (fun u => pk [[(q1, .inr (7, [.int 1, .int 0, .int 0, .int 0, .int 0, .ref (u.2.1.getD 0 0), .ref (u.2.1.getD 1 0), .ref (u.2.1.getD 2 0), .ref (u.2.1.getD 3 0), .ref (u.2.1.getD 4 0), .ref (u.2.1.getD 5 0), .ref (u.2.1.getD 6 0), .ref (u.2.1.getD 7 0), .ref (u.2.1.getD 8 0), .ref (u.2.1.getD 9 0), .ref (u.2.1.getD 10 0), .ref (u.2.1.getD 11 0), .int 0])), ((u.2.1.getD 0 0), .inl (a 0, 6, .inl (fun _ => 0))), ((u.2.1.getD 1 0), .inl (a 0, 6, .inl (fun _ => 0))), ((u.2.1.getD 2 0), .inl (a 0, 6, .inl (fun _ => 0))), ((u.2.1.getD 3 0), .inl (a 0, 10, .inl (fun _ => 0))), ((u.2.1.getD 4 0), .inl (a 0, 10, .inl (fun _ => 0))), ((u.2.1.getD 5 0), .inl (a 0, 10, .inl (fun _ => 0))), ((u.2.1.getD 6 0), .inl (a 0, 10, .inl (fun _ => 0))), ((u.2.1.getD 7 0), .inl (a 0, 10, .inl (fun _ => 0))), ((u.2.1.getD 8 0), .inl (a 0, 10, .inl (fun _ => 0))), ((u.2.1.getD 9 0), .inl (a 0, 10, .inl (fun _ => 0))), ((u.2.1.getD 10 0), .inl (a 0, 10, .inl (fun _ => 0))), ((u.2.1.getD 11 0), .inl (a 0, 10, .inl (fun _ => 0)))]] u.1) := by
  refine entMv (by decide) (Nat.le_of_ble_eq_true rfl) ?_
  intro p e s m below meth c C hK A hA hP hD ls hl
  obtain ⟨hx, hb, hml, hown, hts, hr, hlocks, hnm⟩ := id C
  have hb : c.code = cX7_init := hb
  have hown : s.vm.findClass RX7 = some m.cls := hown
  have hS : va_S A s.heap s.heap [] := va_S.rf
  have hl : lv_has ls 2 [(0, .ref q1), (1, .int 1)] := hl
  refine lv_aload_n hx hb dX7_init_0 rfl (lv_at hl 0 rfl) ?_
  refine W.objInit hx hb hown (hts _ t_36) (hts _ t_25) (hts _ t_26) rfl (by rw [hml]; exact hl.1) rfl dX7_init_1 (Nat.le_of_ble_eq_true rfl) (Nat.le_of_ble_eq_true rfl) ?_
  refine W.eq (g2 := F0 m 4 ls []) rfl ?_
  refine lv_aload_n hx hb dX7_init_4 rfl (lv_at hl 0 rfl) ?_
  refine lv_iload_n hx hb dX7_init_5 rfl (lv_at hl 1 rfl) ?_
  refine va_putF (D := D) (v := .int 1) (C := RX7) (T := TX7) (N := 18) hx hb hts iX7 tyX7 tyX7_ok nmX7 hown hK.1 hP hD hS 0 rfl rfl 0 (by decide) (hts _ t_37) (fun _ h9 => h9) rfl (hnm rfl) rfl (tyX7_ok 0 (by decide)) rfl rfl (Nat.le_of_ble_eq_true rfl) dX7_init_6 (fun H locs hP hD hS => ?_)
  have hP : va_P D classes [(q1, .inr (7, [.int 1, .int 0, .int 0, .int 0, .int 0, .null, .null, .null, .null, .null, .null, .null, .null, .null, .null, .null, .null, .int 0]))] H := hP
  have hD : va_D A [(q1, .inr (7, [.int 1, .int 0, .int 0, .int 0, .int 0, .null, .null, .null, .null, .null, .null, .null, .null, .null, .null, .null, .null, .int 0]))] := hD
  refine lv_aload_n hx hb dX7_init_9 rfl (lv_at hl 0 rfl) ?_
  refine lv_bipush (v := 6) hx hb dX7_init_10 (by decide) ?_
  refine newA (atype := .int) (a0 := (6, .inl (fun _ => 0))) hx hb hK 0 rfl ra_int (hts _ t_119) rfl hP hD hS hA (fun _ => rfl) (by decide) (by decide) (by decide) (Nat.le_of_ble_eq_true rfl) (Nat.le_of_ble_eq_true rfl) dX7_init_12 (fun q1883 H hP hD hS => ?_)
  have hP : va_P D classes [(q1, .inr (7, [.int 1, .int 0, .int 0, .int 0, .int 0, .null, .null, .null, .null, .null, .null, .null, .null, .null, .null, .null, .null, .int 0])), (q1883, .inl (a 0, 6, .inl (fun _ => 0)))] H := hP
  have hD : va_D A [(q1, .inr (7, [.int 1, .int 0, .int 0, .int 0, .int 0, .null, .null, .null, .null, .null, .null, .null, .null, .null, .null, .null, .null, .int 0])), (q1883, .inl (a 0, 6, .inl (fun _ => 0)))] := hD
  refine W.cs (cells' := 1) (slots' := 6) rfl rfl ?_
  refine va_putF (D := D) (v := .ref q1883) (C := RX7) (T := TX7) (N := 18) hx hb hts iX7 tyX7 tyX7_ok nmX7 hown hK.1 hP hD hS 0 rfl rfl 5 (by decide) (hts _ t_49) (fun _ h9 => h9) rfl (hnm rfl) rfl (tyX7_ok 5 (by decide)) rfl rfl (Nat.le_of_ble_eq_true rfl) dX7_init_14 (fun H locs hP hD hS => ?_)
  have hP : va_P D classes [(q1, .inr (7, [.int 1, .int 0, .int 0, .int 0, .int 0, .ref q1883, .null, .null, .null, .null, .null, .null, .null, .null, .null, .null, .null, .int 0])), (q1883, .inl (a 0, 6, .inl (fun _ => 0)))] H := hP
  have hD : va_D A [(q1, .inr (7, [.int 1, .int 0, .int 0, .int 0, .int 0, .ref q1883, .null, .null, .null, .null, .null, .null, .null, .null, .null, .null, .null, .int 0])), (q1883, .inl (a 0, 6, .inl (fun _ => 0)))] := hD
  refine lv_aload_n hx hb dX7_init_17 rfl (lv_at hl 0 rfl) ?_
  refine lv_bipush (v := 6) hx hb dX7_init_18 (by decide) ?_
  refine newA (atype := .int) (a0 := (6, .inl (fun _ => 0))) hx hb hK 0 rfl ra_int (hts _ t_119) rfl hP hD hS hA (fun _ => rfl) (by decide) (by decide) (by decide) (Nat.le_of_ble_eq_true rfl) (Nat.le_of_ble_eq_true rfl) dX7_init_20 (fun q1884 H hP hD hS => ?_)
  have hP : va_P D classes [(q1, .inr (7, [.int 1, .int 0, .int 0, .int 0, .int 0, .ref q1883, .null, .null, .null, .null, .null, .null, .null, .null, .null, .null, .null, .int 0])), (q1883, .inl (a 0, 6, .inl (fun _ => 0))), (q1884, .inl (a 0, 6, .inl (fun _ => 0)))] H := hP
  have hD : va_D A [(q1, .inr (7, [.int 1, .int 0, .int 0, .int 0, .int 0, .ref q1883, .null, .null, .null, .null, .null, .null, .null, .null, .null, .null, .null, .int 0])), (q1883, .inl (a 0, 6, .inl (fun _ => 0))), (q1884, .inl (a 0, 6, .inl (fun _ => 0)))] := hD
  refine W.cs (cells' := 2) (slots' := 12) rfl rfl ?_
  refine va_putF (D := D) (v := .ref q1884) (C := RX7) (T := TX7) (N := 18) hx hb hts iX7 tyX7 tyX7_ok nmX7 hown hK.1 hP hD hS 0 rfl rfl 6 (by decide) (hts _ t_51) (fun _ h9 => h9) rfl (hnm rfl) rfl (tyX7_ok 6 (by decide)) rfl rfl (Nat.le_of_ble_eq_true rfl) dX7_init_22 (fun H locs hP hD hS => ?_)
  have hP : va_P D classes [(q1, .inr (7, [.int 1, .int 0, .int 0, .int 0, .int 0, .ref q1883, .ref q1884, .null, .null, .null, .null, .null, .null, .null, .null, .null, .null, .int 0])), (q1883, .inl (a 0, 6, .inl (fun _ => 0))), (q1884, .inl (a 0, 6, .inl (fun _ => 0)))] H := hP
  have hD : va_D A [(q1, .inr (7, [.int 1, .int 0, .int 0, .int 0, .int 0, .ref q1883, .ref q1884, .null, .null, .null, .null, .null, .null, .null, .null, .null, .null, .int 0])), (q1883, .inl (a 0, 6, .inl (fun _ => 0))), (q1884, .inl (a 0, 6, .inl (fun _ => 0)))] := hD
  refine lv_aload_n hx hb dX7_init_25 rfl (lv_at hl 0 rfl) ?_
  refine lv_bipush (v := 6) hx hb dX7_init_26 (by decide) ?_
  refine newA (atype := .int) (a0 := (6, .inl (fun _ => 0))) hx hb hK 0 rfl ra_int (hts _ t_119) rfl hP hD hS hA (fun _ => rfl) (by decide) (by decide) (by decide) (Nat.le_of_ble_eq_true rfl) (Nat.le_of_ble_eq_true rfl) dX7_init_28 (fun q1885 H hP hD hS => ?_)
  have hP : va_P D classes [(q1, .inr (7, [.int 1, .int 0, .int 0, .int 0, .int 0, .ref q1883, .ref q1884, .null, .null, .null, .null, .null, .null, .null, .null, .null, .null, .int 0])), (q1883, .inl (a 0, 6, .inl (fun _ => 0))), (q1884, .inl (a 0, 6, .inl (fun _ => 0))), (q1885, .inl (a 0, 6, .inl (fun _ => 0)))] H := hP
  have hD : va_D A [(q1, .inr (7, [.int 1, .int 0, .int 0, .int 0, .int 0, .ref q1883, .ref q1884, .null, .null, .null, .null, .null, .null, .null, .null, .null, .null, .int 0])), (q1883, .inl (a 0, 6, .inl (fun _ => 0))), (q1884, .inl (a 0, 6, .inl (fun _ => 0))), (q1885, .inl (a 0, 6, .inl (fun _ => 0)))] := hD
  refine W.cs (cells' := 3) (slots' := 18) rfl rfl ?_
  refine va_putF (D := D) (v := .ref q1885) (C := RX7) (T := TX7) (N := 18) hx hb hts iX7 tyX7 tyX7_ok nmX7 hown hK.1 hP hD hS 0 rfl rfl 7 (by decide) (hts _ t_53) (fun _ h9 => h9) rfl (hnm rfl) rfl (tyX7_ok 7 (by decide)) rfl rfl (Nat.le_of_ble_eq_true rfl) dX7_init_30 (fun H locs hP hD hS => ?_)
  have hP : va_P D classes [(q1, .inr (7, [.int 1, .int 0, .int 0, .int 0, .int 0, .ref q1883, .ref q1884, .ref q1885, .null, .null, .null, .null, .null, .null, .null, .null, .null, .int 0])), (q1883, .inl (a 0, 6, .inl (fun _ => 0))), (q1884, .inl (a 0, 6, .inl (fun _ => 0))), (q1885, .inl (a 0, 6, .inl (fun _ => 0)))] H := hP
  have hD : va_D A [(q1, .inr (7, [.int 1, .int 0, .int 0, .int 0, .int 0, .ref q1883, .ref q1884, .ref q1885, .null, .null, .null, .null, .null, .null, .null, .null, .null, .int 0])), (q1883, .inl (a 0, 6, .inl (fun _ => 0))), (q1884, .inl (a 0, 6, .inl (fun _ => 0))), (q1885, .inl (a 0, 6, .inl (fun _ => 0)))] := hD
  refine lv_aload_n hx hb dX7_init_33 rfl (lv_at hl 0 rfl) ?_
  refine lv_bipush (v := 10) hx hb dX7_init_34 (by decide) ?_
  refine newA (atype := .int) (a0 := (10, .inl (fun _ => 0))) hx hb hK 0 rfl ra_int (hts _ t_119) rfl hP hD hS hA (fun _ => rfl) (by decide) (by decide) (by decide) (Nat.le_of_ble_eq_true rfl) (Nat.le_of_ble_eq_true rfl) dX7_init_36 (fun q1886 H hP hD hS => ?_)
  have hP : va_P D classes [(q1, .inr (7, [.int 1, .int 0, .int 0, .int 0, .int 0, .ref q1883, .ref q1884, .ref q1885, .null, .null, .null, .null, .null, .null, .null, .null, .null, .int 0])), (q1883, .inl (a 0, 6, .inl (fun _ => 0))), (q1884, .inl (a 0, 6, .inl (fun _ => 0))), (q1885, .inl (a 0, 6, .inl (fun _ => 0))), (q1886, .inl (a 0, 10, .inl (fun _ => 0)))] H := hP
  have hD : va_D A [(q1, .inr (7, [.int 1, .int 0, .int 0, .int 0, .int 0, .ref q1883, .ref q1884, .ref q1885, .null, .null, .null, .null, .null, .null, .null, .null, .null, .int 0])), (q1883, .inl (a 0, 6, .inl (fun _ => 0))), (q1884, .inl (a 0, 6, .inl (fun _ => 0))), (q1885, .inl (a 0, 6, .inl (fun _ => 0))), (q1886, .inl (a 0, 10, .inl (fun _ => 0)))] := hD
  refine W.cs (cells' := 4) (slots' := 28) rfl rfl ?_
  refine va_putF (D := D) (v := .ref q1886) (C := RX7) (T := TX7) (N := 18) hx hb hts iX7 tyX7 tyX7_ok nmX7 hown hK.1 hP hD hS 0 rfl rfl 8 (by decide) (hts _ t_55) (fun _ h9 => h9) rfl (hnm rfl) rfl (tyX7_ok 8 (by decide)) rfl rfl (Nat.le_of_ble_eq_true rfl) dX7_init_38 (fun H locs hP hD hS => ?_)
  have hP : va_P D classes [(q1, .inr (7, [.int 1, .int 0, .int 0, .int 0, .int 0, .ref q1883, .ref q1884, .ref q1885, .ref q1886, .null, .null, .null, .null, .null, .null, .null, .null, .int 0])), (q1883, .inl (a 0, 6, .inl (fun _ => 0))), (q1884, .inl (a 0, 6, .inl (fun _ => 0))), (q1885, .inl (a 0, 6, .inl (fun _ => 0))), (q1886, .inl (a 0, 10, .inl (fun _ => 0)))] H := hP
  have hD : va_D A [(q1, .inr (7, [.int 1, .int 0, .int 0, .int 0, .int 0, .ref q1883, .ref q1884, .ref q1885, .ref q1886, .null, .null, .null, .null, .null, .null, .null, .null, .int 0])), (q1883, .inl (a 0, 6, .inl (fun _ => 0))), (q1884, .inl (a 0, 6, .inl (fun _ => 0))), (q1885, .inl (a 0, 6, .inl (fun _ => 0))), (q1886, .inl (a 0, 10, .inl (fun _ => 0)))] := hD
  refine lv_aload_n hx hb dX7_init_41 rfl (lv_at hl 0 rfl) ?_
  refine lv_bipush (v := 10) hx hb dX7_init_42 (by decide) ?_
  refine newA (atype := .int) (a0 := (10, .inl (fun _ => 0))) hx hb hK 0 rfl ra_int (hts _ t_119) rfl hP hD hS hA (fun _ => rfl) (by decide) (by decide) (by decide) (Nat.le_of_ble_eq_true rfl) (Nat.le_of_ble_eq_true rfl) dX7_init_44 (fun q1887 H hP hD hS => ?_)
  have hP : va_P D classes [(q1, .inr (7, [.int 1, .int 0, .int 0, .int 0, .int 0, .ref q1883, .ref q1884, .ref q1885, .ref q1886, .null, .null, .null, .null, .null, .null, .null, .null, .int 0])), (q1883, .inl (a 0, 6, .inl (fun _ => 0))), (q1884, .inl (a 0, 6, .inl (fun _ => 0))), (q1885, .inl (a 0, 6, .inl (fun _ => 0))), (q1886, .inl (a 0, 10, .inl (fun _ => 0))), (q1887, .inl (a 0, 10, .inl (fun _ => 0)))] H := hP
  have hD : va_D A [(q1, .inr (7, [.int 1, .int 0, .int 0, .int 0, .int 0, .ref q1883, .ref q1884, .ref q1885, .ref q1886, .null, .null, .null, .null, .null, .null, .null, .null, .int 0])), (q1883, .inl (a 0, 6, .inl (fun _ => 0))), (q1884, .inl (a 0, 6, .inl (fun _ => 0))), (q1885, .inl (a 0, 6, .inl (fun _ => 0))), (q1886, .inl (a 0, 10, .inl (fun _ => 0))), (q1887, .inl (a 0, 10, .inl (fun _ => 0)))] := hD
  refine W.cs (cells' := 5) (slots' := 38) rfl rfl ?_
  refine va_putF (D := D) (v := .ref q1887) (C := RX7) (T := TX7) (N := 18) hx hb hts iX7 tyX7 tyX7_ok nmX7 hown hK.1 hP hD hS 0 rfl rfl 9 (by decide) (hts _ t_58) (fun _ h9 => h9) rfl (hnm rfl) rfl (tyX7_ok 9 (by decide)) rfl rfl (Nat.le_of_ble_eq_true rfl) dX7_init_46 (fun H locs hP hD hS => ?_)
  have hP : va_P D classes [(q1, .inr (7, [.int 1, .int 0, .int 0, .int 0, .int 0, .ref q1883, .ref q1884, .ref q1885, .ref q1886, .ref q1887, .null, .null, .null, .null, .null, .null, .null, .int 0])), (q1883, .inl (a 0, 6, .inl (fun _ => 0))), (q1884, .inl (a 0, 6, .inl (fun _ => 0))), (q1885, .inl (a 0, 6, .inl (fun _ => 0))), (q1886, .inl (a 0, 10, .inl (fun _ => 0))), (q1887, .inl (a 0, 10, .inl (fun _ => 0)))] H := hP
  have hD : va_D A [(q1, .inr (7, [.int 1, .int 0, .int 0, .int 0, .int 0, .ref q1883, .ref q1884, .ref q1885, .ref q1886, .ref q1887, .null, .null, .null, .null, .null, .null, .null, .int 0])), (q1883, .inl (a 0, 6, .inl (fun _ => 0))), (q1884, .inl (a 0, 6, .inl (fun _ => 0))), (q1885, .inl (a 0, 6, .inl (fun _ => 0))), (q1886, .inl (a 0, 10, .inl (fun _ => 0))), (q1887, .inl (a 0, 10, .inl (fun _ => 0)))] := hD
  refine lv_aload_n hx hb dX7_init_49 rfl (lv_at hl 0 rfl) ?_
  refine lv_bipush (v := 10) hx hb dX7_init_50 (by decide) ?_
  refine newA (atype := .int) (a0 := (10, .inl (fun _ => 0))) hx hb hK 0 rfl ra_int (hts _ t_119) rfl hP hD hS hA (fun _ => rfl) (by decide) (by decide) (by decide) (Nat.le_of_ble_eq_true rfl) (Nat.le_of_ble_eq_true rfl) dX7_init_52 (fun q1888 H hP hD hS => ?_)
  have hP : va_P D classes [(q1, .inr (7, [.int 1, .int 0, .int 0, .int 0, .int 0, .ref q1883, .ref q1884, .ref q1885, .ref q1886, .ref q1887, .null, .null, .null, .null, .null, .null, .null, .int 0])), (q1883, .inl (a 0, 6, .inl (fun _ => 0))), (q1884, .inl (a 0, 6, .inl (fun _ => 0))), (q1885, .inl (a 0, 6, .inl (fun _ => 0))), (q1886, .inl (a 0, 10, .inl (fun _ => 0))), (q1887, .inl (a 0, 10, .inl (fun _ => 0))), (q1888, .inl (a 0, 10, .inl (fun _ => 0)))] H := hP
  have hD : va_D A [(q1, .inr (7, [.int 1, .int 0, .int 0, .int 0, .int 0, .ref q1883, .ref q1884, .ref q1885, .ref q1886, .ref q1887, .null, .null, .null, .null, .null, .null, .null, .int 0])), (q1883, .inl (a 0, 6, .inl (fun _ => 0))), (q1884, .inl (a 0, 6, .inl (fun _ => 0))), (q1885, .inl (a 0, 6, .inl (fun _ => 0))), (q1886, .inl (a 0, 10, .inl (fun _ => 0))), (q1887, .inl (a 0, 10, .inl (fun _ => 0))), (q1888, .inl (a 0, 10, .inl (fun _ => 0)))] := hD
  refine W.cs (cells' := 6) (slots' := 48) rfl rfl ?_
  refine va_putF (D := D) (v := .ref q1888) (C := RX7) (T := TX7) (N := 18) hx hb hts iX7 tyX7 tyX7_ok nmX7 hown hK.1 hP hD hS 0 rfl rfl 10 (by decide) (hts _ t_63) (fun _ h9 => h9) rfl (hnm rfl) rfl (tyX7_ok 10 (by decide)) rfl rfl (Nat.le_of_ble_eq_true rfl) dX7_init_54 (fun H locs hP hD hS => ?_)
  have hP : va_P D classes [(q1, .inr (7, [.int 1, .int 0, .int 0, .int 0, .int 0, .ref q1883, .ref q1884, .ref q1885, .ref q1886, .ref q1887, .ref q1888, .null, .null, .null, .null, .null, .null, .int 0])), (q1883, .inl (a 0, 6, .inl (fun _ => 0))), (q1884, .inl (a 0, 6, .inl (fun _ => 0))), (q1885, .inl (a 0, 6, .inl (fun _ => 0))), (q1886, .inl (a 0, 10, .inl (fun _ => 0))), (q1887, .inl (a 0, 10, .inl (fun _ => 0))), (q1888, .inl (a 0, 10, .inl (fun _ => 0)))] H := hP
  have hD : va_D A [(q1, .inr (7, [.int 1, .int 0, .int 0, .int 0, .int 0, .ref q1883, .ref q1884, .ref q1885, .ref q1886, .ref q1887, .ref q1888, .null, .null, .null, .null, .null, .null, .int 0])), (q1883, .inl (a 0, 6, .inl (fun _ => 0))), (q1884, .inl (a 0, 6, .inl (fun _ => 0))), (q1885, .inl (a 0, 6, .inl (fun _ => 0))), (q1886, .inl (a 0, 10, .inl (fun _ => 0))), (q1887, .inl (a 0, 10, .inl (fun _ => 0))), (q1888, .inl (a 0, 10, .inl (fun _ => 0)))] := hD
  refine lv_aload_n hx hb dX7_init_57 rfl (lv_at hl 0 rfl) ?_
  refine lv_bipush (v := 10) hx hb dX7_init_58 (by decide) ?_
  refine newA (atype := .int) (a0 := (10, .inl (fun _ => 0))) hx hb hK 0 rfl ra_int (hts _ t_119) rfl hP hD hS hA (fun _ => rfl) (by decide) (by decide) (by decide) (Nat.le_of_ble_eq_true rfl) (Nat.le_of_ble_eq_true rfl) dX7_init_60 (fun q1889 H hP hD hS => ?_)
  have hP : va_P D classes [(q1, .inr (7, [.int 1, .int 0, .int 0, .int 0, .int 0, .ref q1883, .ref q1884, .ref q1885, .ref q1886, .ref q1887, .ref q1888, .null, .null, .null, .null, .null, .null, .int 0])), (q1883, .inl (a 0, 6, .inl (fun _ => 0))), (q1884, .inl (a 0, 6, .inl (fun _ => 0))), (q1885, .inl (a 0, 6, .inl (fun _ => 0))), (q1886, .inl (a 0, 10, .inl (fun _ => 0))), (q1887, .inl (a 0, 10, .inl (fun _ => 0))), (q1888, .inl (a 0, 10, .inl (fun _ => 0))), (q1889, .inl (a 0, 10, .inl (fun _ => 0)))] H := hP
  have hD : va_D A [(q1, .inr (7, [.int 1, .int 0, .int 0, .int 0, .int 0, .ref q1883, .ref q1884, .ref q1885, .ref q1886, .ref q1887, .ref q1888, .null, .null, .null, .null, .null, .null, .int 0])), (q1883, .inl (a 0, 6, .inl (fun _ => 0))), (q1884, .inl (a 0, 6, .inl (fun _ => 0))), (q1885, .inl (a 0, 6, .inl (fun _ => 0))), (q1886, .inl (a 0, 10, .inl (fun _ => 0))), (q1887, .inl (a 0, 10, .inl (fun _ => 0))), (q1888, .inl (a 0, 10, .inl (fun _ => 0))), (q1889, .inl (a 0, 10, .inl (fun _ => 0)))] := hD
  refine W.cs (cells' := 7) (slots' := 58) rfl rfl ?_
  refine va_putF (D := D) (v := .ref q1889) (C := RX7) (T := TX7) (N := 18) hx hb hts iX7 tyX7 tyX7_ok nmX7 hown hK.1 hP hD hS 0 rfl rfl 11 (by decide) (hts _ t_68) (fun _ h9 => h9) rfl (hnm rfl) rfl (tyX7_ok 11 (by decide)) rfl rfl (Nat.le_of_ble_eq_true rfl) dX7_init_62 (fun H locs hP hD hS => ?_)
  have hP : va_P D classes [(q1, .inr (7, [.int 1, .int 0, .int 0, .int 0, .int 0, .ref q1883, .ref q1884, .ref q1885, .ref q1886, .ref q1887, .ref q1888, .ref q1889, .null, .null, .null, .null, .null, .int 0])), (q1883, .inl (a 0, 6, .inl (fun _ => 0))), (q1884, .inl (a 0, 6, .inl (fun _ => 0))), (q1885, .inl (a 0, 6, .inl (fun _ => 0))), (q1886, .inl (a 0, 10, .inl (fun _ => 0))), (q1887, .inl (a 0, 10, .inl (fun _ => 0))), (q1888, .inl (a 0, 10, .inl (fun _ => 0))), (q1889, .inl (a 0, 10, .inl (fun _ => 0)))] H := hP
  have hD : va_D A [(q1, .inr (7, [.int 1, .int 0, .int 0, .int 0, .int 0, .ref q1883, .ref q1884, .ref q1885, .ref q1886, .ref q1887, .ref q1888, .ref q1889, .null, .null, .null, .null, .null, .int 0])), (q1883, .inl (a 0, 6, .inl (fun _ => 0))), (q1884, .inl (a 0, 6, .inl (fun _ => 0))), (q1885, .inl (a 0, 6, .inl (fun _ => 0))), (q1886, .inl (a 0, 10, .inl (fun _ => 0))), (q1887, .inl (a 0, 10, .inl (fun _ => 0))), (q1888, .inl (a 0, 10, .inl (fun _ => 0))), (q1889, .inl (a 0, 10, .inl (fun _ => 0)))] := hD
  refine lv_aload_n hx hb dX7_init_65 rfl (lv_at hl 0 rfl) ?_
  refine lv_bipush (v := 10) hx hb dX7_init_66 (by decide) ?_
  refine newA (atype := .int) (a0 := (10, .inl (fun _ => 0))) hx hb hK 0 rfl ra_int (hts _ t_119) rfl hP hD hS hA (fun _ => rfl) (by decide) (by decide) (by decide) (Nat.le_of_ble_eq_true rfl) (Nat.le_of_ble_eq_true rfl) dX7_init_68 (fun q1890 H hP hD hS => ?_)
  have hP : va_P D classes [(q1, .inr (7, [.int 1, .int 0, .int 0, .int 0, .int 0, .ref q1883, .ref q1884, .ref q1885, .ref q1886, .ref q1887, .ref q1888, .ref q1889, .null, .null, .null, .null, .null, .int 0])), (q1883, .inl (a 0, 6, .inl (fun _ => 0))), (q1884, .inl (a 0, 6, .inl (fun _ => 0))), (q1885, .inl (a 0, 6, .inl (fun _ => 0))), (q1886, .inl (a 0, 10, .inl (fun _ => 0))), (q1887, .inl (a 0, 10, .inl (fun _ => 0))), (q1888, .inl (a 0, 10, .inl (fun _ => 0))), (q1889, .inl (a 0, 10, .inl (fun _ => 0))), (q1890, .inl (a 0, 10, .inl (fun _ => 0)))] H := hP
  have hD : va_D A [(q1, .inr (7, [.int 1, .int 0, .int 0, .int 0, .int 0, .ref q1883, .ref q1884, .ref q1885, .ref q1886, .ref q1887, .ref q1888, .ref q1889, .null, .null, .null, .null, .null, .int 0])), (q1883, .inl (a 0, 6, .inl (fun _ => 0))), (q1884, .inl (a 0, 6, .inl (fun _ => 0))), (q1885, .inl (a 0, 6, .inl (fun _ => 0))), (q1886, .inl (a 0, 10, .inl (fun _ => 0))), (q1887, .inl (a 0, 10, .inl (fun _ => 0))), (q1888, .inl (a 0, 10, .inl (fun _ => 0))), (q1889, .inl (a 0, 10, .inl (fun _ => 0))), (q1890, .inl (a 0, 10, .inl (fun _ => 0)))] := hD
  refine W.cs (cells' := 8) (slots' := 68) rfl rfl ?_
  refine va_putF (D := D) (v := .ref q1890) (C := RX7) (T := TX7) (N := 18) hx hb hts iX7 tyX7 tyX7_ok nmX7 hown hK.1 hP hD hS 0 rfl rfl 12 (by decide) (hts _ t_70) (fun _ h9 => h9) rfl (hnm rfl) rfl (tyX7_ok 12 (by decide)) rfl rfl (Nat.le_of_ble_eq_true rfl) dX7_init_70 (fun H locs hP hD hS => ?_)
  have hP : va_P D classes [(q1, .inr (7, [.int 1, .int 0, .int 0, .int 0, .int 0, .ref q1883, .ref q1884, .ref q1885, .ref q1886, .ref q1887, .ref q1888, .ref q1889, .ref q1890, .null, .null, .null, .null, .int 0])), (q1883, .inl (a 0, 6, .inl (fun _ => 0))), (q1884, .inl (a 0, 6, .inl (fun _ => 0))), (q1885, .inl (a 0, 6, .inl (fun _ => 0))), (q1886, .inl (a 0, 10, .inl (fun _ => 0))), (q1887, .inl (a 0, 10, .inl (fun _ => 0))), (q1888, .inl (a 0, 10, .inl (fun _ => 0))), (q1889, .inl (a 0, 10, .inl (fun _ => 0))), (q1890, .inl (a 0, 10, .inl (fun _ => 0)))] H := hP
  have hD : va_D A [(q1, .inr (7, [.int 1, .int 0, .int 0, .int 0, .int 0, .ref q1883, .ref q1884, .ref q1885, .ref q1886, .ref q1887, .ref q1888, .ref q1889, .ref q1890, .null, .null, .null, .null, .int 0])), (q1883, .inl (a 0, 6, .inl (fun _ => 0))), (q1884, .inl (a 0, 6, .inl (fun _ => 0))), (q1885, .inl (a 0, 6, .inl (fun _ => 0))), (q1886, .inl (a 0, 10, .inl (fun _ => 0))), (q1887, .inl (a 0, 10, .inl (fun _ => 0))), (q1888, .inl (a 0, 10, .inl (fun _ => 0))), (q1889, .inl (a 0, 10, .inl (fun _ => 0))), (q1890, .inl (a 0, 10, .inl (fun _ => 0)))] := hD
  refine lv_aload_n hx hb dX7_init_73 rfl (lv_at hl 0 rfl) ?_
  refine lv_bipush (v := 10) hx hb dX7_init_74 (by decide) ?_
  refine newA (atype := .int) (a0 := (10, .inl (fun _ => 0))) hx hb hK 0 rfl ra_int (hts _ t_119) rfl hP hD hS hA (fun _ => rfl) (by decide) (by decide) (by decide) (Nat.le_of_ble_eq_true rfl) (Nat.le_of_ble_eq_true rfl) dX7_init_76 (fun q1891 H hP hD hS => ?_)
  have hP : va_P D classes [(q1, .inr (7, [.int 1, .int 0, .int 0, .int 0, .int 0, .ref q1883, .ref q1884, .ref q1885, .ref q1886, .ref q1887, .ref q1888, .ref q1889, .ref q1890, .null, .null, .null, .null, .int 0])), (q1883, .inl (a 0, 6, .inl (fun _ => 0))), (q1884, .inl (a 0, 6, .inl (fun _ => 0))), (q1885, .inl (a 0, 6, .inl (fun _ => 0))), (q1886, .inl (a 0, 10, .inl (fun _ => 0))), (q1887, .inl (a 0, 10, .inl (fun _ => 0))), (q1888, .inl (a 0, 10, .inl (fun _ => 0))), (q1889, .inl (a 0, 10, .inl (fun _ => 0))), (q1890, .inl (a 0, 10, .inl (fun _ => 0))), (q1891, .inl (a 0, 10, .inl (fun _ => 0)))] H := hP
  have hD : va_D A [(q1, .inr (7, [.int 1, .int 0, .int 0, .int 0, .int 0, .ref q1883, .ref q1884, .ref q1885, .ref q1886, .ref q1887, .ref q1888, .ref q1889, .ref q1890, .null, .null, .null, .null, .int 0])), (q1883, .inl (a 0, 6, .inl (fun _ => 0))), (q1884, .inl (a 0, 6, .inl (fun _ => 0))), (q1885, .inl (a 0, 6, .inl (fun _ => 0))), (q1886, .inl (a 0, 10, .inl (fun _ => 0))), (q1887, .inl (a 0, 10, .inl (fun _ => 0))), (q1888, .inl (a 0, 10, .inl (fun _ => 0))), (q1889, .inl (a 0, 10, .inl (fun _ => 0))), (q1890, .inl (a 0, 10, .inl (fun _ => 0))), (q1891, .inl (a 0, 10, .inl (fun _ => 0)))] := hD
  refine W.cs (cells' := 9) (slots' := 78) rfl rfl ?_
  refine va_putF (D := D) (v := .ref q1891) (C := RX7) (T := TX7) (N := 18) hx hb hts iX7 tyX7 tyX7_ok nmX7 hown hK.1 hP hD hS 0 rfl rfl 13 (by decide) (hts _ t_75) (fun _ h9 => h9) rfl (hnm rfl) rfl (tyX7_ok 13 (by decide)) rfl rfl (Nat.le_of_ble_eq_true rfl) dX7_init_78 (fun H locs hP hD hS => ?_)
  have hP : va_P D classes [(q1, .inr (7, [.int 1, .int 0, .int 0, .int 0, .int 0, .ref q1883, .ref q1884, .ref q1885, .ref q1886, .ref q1887, .ref q1888, .ref q1889, .ref q1890, .ref q1891, .null, .null, .null, .int 0])), (q1883, .inl (a 0, 6, .inl (fun _ => 0))), (q1884, .inl (a 0, 6, .inl (fun _ => 0))), (q1885, .inl (a 0, 6, .inl (fun _ => 0))), (q1886, .inl (a 0, 10, .inl (fun _ => 0))), (q1887, .inl (a 0, 10, .inl (fun _ => 0))), (q1888, .inl (a 0, 10, .inl (fun _ => 0))), (q1889, .inl (a 0, 10, .inl (fun _ => 0))), (q1890, .inl (a 0, 10, .inl (fun _ => 0))), (q1891, .inl (a 0, 10, .inl (fun _ => 0)))] H := hP
  have hD : va_D A [(q1, .inr (7, [.int 1, .int 0, .int 0, .int 0, .int 0, .ref q1883, .ref q1884, .ref q1885, .ref q1886, .ref q1887, .ref q1888, .ref q1889, .ref q1890, .ref q1891, .null, .null, .null, .int 0])), (q1883, .inl (a 0, 6, .inl (fun _ => 0))), (q1884, .inl (a 0, 6, .inl (fun _ => 0))), (q1885, .inl (a 0, 6, .inl (fun _ => 0))), (q1886, .inl (a 0, 10, .inl (fun _ => 0))), (q1887, .inl (a 0, 10, .inl (fun _ => 0))), (q1888, .inl (a 0, 10, .inl (fun _ => 0))), (q1889, .inl (a 0, 10, .inl (fun _ => 0))), (q1890, .inl (a 0, 10, .inl (fun _ => 0))), (q1891, .inl (a 0, 10, .inl (fun _ => 0)))] := hD
  refine lv_aload_n hx hb dX7_init_81 rfl (lv_at hl 0 rfl) ?_
  refine lv_bipush (v := 10) hx hb dX7_init_82 (by decide) ?_
  refine newA (atype := .int) (a0 := (10, .inl (fun _ => 0))) hx hb hK 0 rfl ra_int (hts _ t_119) rfl hP hD hS hA (fun _ => rfl) (by decide) (by decide) (by decide) (Nat.le_of_ble_eq_true rfl) (Nat.le_of_ble_eq_true rfl) dX7_init_84 (fun q1892 H hP hD hS => ?_)
  have hP : va_P D classes [(q1, .inr (7, [.int 1, .int 0, .int 0, .int 0, .int 0, .ref q1883, .ref q1884, .ref q1885, .ref q1886, .ref q1887, .ref q1888, .ref q1889, .ref q1890, .ref q1891, .null, .null, .null, .int 0])), (q1883, .inl (a 0, 6, .inl (fun _ => 0))), (q1884, .inl (a 0, 6, .inl (fun _ => 0))), (q1885, .inl (a 0, 6, .inl (fun _ => 0))), (q1886, .inl (a 0, 10, .inl (fun _ => 0))), (q1887, .inl (a 0, 10, .inl (fun _ => 0))), (q1888, .inl (a 0, 10, .inl (fun _ => 0))), (q1889, .inl (a 0, 10, .inl (fun _ => 0))), (q1890, .inl (a 0, 10, .inl (fun _ => 0))), (q1891, .inl (a 0, 10, .inl (fun _ => 0))), (q1892, .inl (a 0, 10, .inl (fun _ => 0)))] H := hP
  have hD : va_D A [(q1, .inr (7, [.int 1, .int 0, .int 0, .int 0, .int 0, .ref q1883, .ref q1884, .ref q1885, .ref q1886, .ref q1887, .ref q1888, .ref q1889, .ref q1890, .ref q1891, .null, .null, .null, .int 0])), (q1883, .inl (a 0, 6, .inl (fun _ => 0))), (q1884, .inl (a 0, 6, .inl (fun _ => 0))), (q1885, .inl (a 0, 6, .inl (fun _ => 0))), (q1886, .inl (a 0, 10, .inl (fun _ => 0))), (q1887, .inl (a 0, 10, .inl (fun _ => 0))), (q1888, .inl (a 0, 10, .inl (fun _ => 0))), (q1889, .inl (a 0, 10, .inl (fun _ => 0))), (q1890, .inl (a 0, 10, .inl (fun _ => 0))), (q1891, .inl (a 0, 10, .inl (fun _ => 0))), (q1892, .inl (a 0, 10, .inl (fun _ => 0)))] := hD
  refine W.cs (cells' := 10) (slots' := 88) rfl rfl ?_
  refine va_putF (D := D) (v := .ref q1892) (C := RX7) (T := TX7) (N := 18) hx hb hts iX7 tyX7 tyX7_ok nmX7 hown hK.1 hP hD hS 0 rfl rfl 14 (by decide) (hts _ t_76) (fun _ h9 => h9) rfl (hnm rfl) rfl (tyX7_ok 14 (by decide)) rfl rfl (Nat.le_of_ble_eq_true rfl) dX7_init_86 (fun H locs hP hD hS => ?_)
  have hP : va_P D classes [(q1, .inr (7, [.int 1, .int 0, .int 0, .int 0, .int 0, .ref q1883, .ref q1884, .ref q1885, .ref q1886, .ref q1887, .ref q1888, .ref q1889, .ref q1890, .ref q1891, .ref q1892, .null, .null, .int 0])), (q1883, .inl (a 0, 6, .inl (fun _ => 0))), (q1884, .inl (a 0, 6, .inl (fun _ => 0))), (q1885, .inl (a 0, 6, .inl (fun _ => 0))), (q1886, .inl (a 0, 10, .inl (fun _ => 0))), (q1887, .inl (a 0, 10, .inl (fun _ => 0))), (q1888, .inl (a 0, 10, .inl (fun _ => 0))), (q1889, .inl (a 0, 10, .inl (fun _ => 0))), (q1890, .inl (a 0, 10, .inl (fun _ => 0))), (q1891, .inl (a 0, 10, .inl (fun _ => 0))), (q1892, .inl (a 0, 10, .inl (fun _ => 0)))] H := hP
  have hD : va_D A [(q1, .inr (7, [.int 1, .int 0, .int 0, .int 0, .int 0, .ref q1883, .ref q1884, .ref q1885, .ref q1886, .ref q1887, .ref q1888, .ref q1889, .ref q1890, .ref q1891, .ref q1892, .null, .null, .int 0])), (q1883, .inl (a 0, 6, .inl (fun _ => 0))), (q1884, .inl (a 0, 6, .inl (fun _ => 0))), (q1885, .inl (a 0, 6, .inl (fun _ => 0))), (q1886, .inl (a 0, 10, .inl (fun _ => 0))), (q1887, .inl (a 0, 10, .inl (fun _ => 0))), (q1888, .inl (a 0, 10, .inl (fun _ => 0))), (q1889, .inl (a 0, 10, .inl (fun _ => 0))), (q1890, .inl (a 0, 10, .inl (fun _ => 0))), (q1891, .inl (a 0, 10, .inl (fun _ => 0))), (q1892, .inl (a 0, 10, .inl (fun _ => 0)))] := hD
  refine lv_aload_n hx hb dX7_init_89 rfl (lv_at hl 0 rfl) ?_
  refine lv_bipush (v := 10) hx hb dX7_init_90 (by decide) ?_
  refine newA (atype := .int) (a0 := (10, .inl (fun _ => 0))) hx hb hK 0 rfl ra_int (hts _ t_119) rfl hP hD hS hA (fun _ => rfl) (by decide) (by decide) (by decide) (Nat.le_of_ble_eq_true rfl) (Nat.le_of_ble_eq_true rfl) dX7_init_92 (fun q1893 H hP hD hS => ?_)
  have hP : va_P D classes [(q1, .inr (7, [.int 1, .int 0, .int 0, .int 0, .int 0, .ref q1883, .ref q1884, .ref q1885, .ref q1886, .ref q1887, .ref q1888, .ref q1889, .ref q1890, .ref q1891, .ref q1892, .null, .null, .int 0])), (q1883, .inl (a 0, 6, .inl (fun _ => 0))), (q1884, .inl (a 0, 6, .inl (fun _ => 0))), (q1885, .inl (a 0, 6, .inl (fun _ => 0))), (q1886, .inl (a 0, 10, .inl (fun _ => 0))), (q1887, .inl (a 0, 10, .inl (fun _ => 0))), (q1888, .inl (a 0, 10, .inl (fun _ => 0))), (q1889, .inl (a 0, 10, .inl (fun _ => 0))), (q1890, .inl (a 0, 10, .inl (fun _ => 0))), (q1891, .inl (a 0, 10, .inl (fun _ => 0))), (q1892, .inl (a 0, 10, .inl (fun _ => 0))), (q1893, .inl (a 0, 10, .inl (fun _ => 0)))] H := hP
  have hD : va_D A [(q1, .inr (7, [.int 1, .int 0, .int 0, .int 0, .int 0, .ref q1883, .ref q1884, .ref q1885, .ref q1886, .ref q1887, .ref q1888, .ref q1889, .ref q1890, .ref q1891, .ref q1892, .null, .null, .int 0])), (q1883, .inl (a 0, 6, .inl (fun _ => 0))), (q1884, .inl (a 0, 6, .inl (fun _ => 0))), (q1885, .inl (a 0, 6, .inl (fun _ => 0))), (q1886, .inl (a 0, 10, .inl (fun _ => 0))), (q1887, .inl (a 0, 10, .inl (fun _ => 0))), (q1888, .inl (a 0, 10, .inl (fun _ => 0))), (q1889, .inl (a 0, 10, .inl (fun _ => 0))), (q1890, .inl (a 0, 10, .inl (fun _ => 0))), (q1891, .inl (a 0, 10, .inl (fun _ => 0))), (q1892, .inl (a 0, 10, .inl (fun _ => 0))), (q1893, .inl (a 0, 10, .inl (fun _ => 0)))] := hD
  refine W.cs (cells' := 11) (slots' := 98) rfl rfl ?_
  refine va_putF (D := D) (v := .ref q1893) (C := RX7) (T := TX7) (N := 18) hx hb hts iX7 tyX7 tyX7_ok nmX7 hown hK.1 hP hD hS 0 rfl rfl 15 (by decide) (hts _ t_78) (fun _ h9 => h9) rfl (hnm rfl) rfl (tyX7_ok 15 (by decide)) rfl rfl (Nat.le_of_ble_eq_true rfl) dX7_init_94 (fun H locs hP hD hS => ?_)
  have hP : va_P D classes [(q1, .inr (7, [.int 1, .int 0, .int 0, .int 0, .int 0, .ref q1883, .ref q1884, .ref q1885, .ref q1886, .ref q1887, .ref q1888, .ref q1889, .ref q1890, .ref q1891, .ref q1892, .ref q1893, .null, .int 0])), (q1883, .inl (a 0, 6, .inl (fun _ => 0))), (q1884, .inl (a 0, 6, .inl (fun _ => 0))), (q1885, .inl (a 0, 6, .inl (fun _ => 0))), (q1886, .inl (a 0, 10, .inl (fun _ => 0))), (q1887, .inl (a 0, 10, .inl (fun _ => 0))), (q1888, .inl (a 0, 10, .inl (fun _ => 0))), (q1889, .inl (a 0, 10, .inl (fun _ => 0))), (q1890, .inl (a 0, 10, .inl (fun _ => 0))), (q1891, .inl (a 0, 10, .inl (fun _ => 0))), (q1892, .inl (a 0, 10, .inl (fun _ => 0))), (q1893, .inl (a 0, 10, .inl (fun _ => 0)))] H := hP
  have hD : va_D A [(q1, .inr (7, [.int 1, .int 0, .int 0, .int 0, .int 0, .ref q1883, .ref q1884, .ref q1885, .ref q1886, .ref q1887, .ref q1888, .ref q1889, .ref q1890, .ref q1891, .ref q1892, .ref q1893, .null, .int 0])), (q1883, .inl (a 0, 6, .inl (fun _ => 0))), (q1884, .inl (a 0, 6, .inl (fun _ => 0))), (q1885, .inl (a 0, 6, .inl (fun _ => 0))), (q1886, .inl (a 0, 10, .inl (fun _ => 0))), (q1887, .inl (a 0, 10, .inl (fun _ => 0))), (q1888, .inl (a 0, 10, .inl (fun _ => 0))), (q1889, .inl (a 0, 10, .inl (fun _ => 0))), (q1890, .inl (a 0, 10, .inl (fun _ => 0))), (q1891, .inl (a 0, 10, .inl (fun _ => 0))), (q1892, .inl (a 0, 10, .inl (fun _ => 0))), (q1893, .inl (a 0, 10, .inl (fun _ => 0)))] := hD
  refine lv_aload_n hx hb dX7_init_97 rfl (lv_at hl 0 rfl) ?_
  refine lv_bipush (v := 10) hx hb dX7_init_98 (by decide) ?_
  refine newA (atype := .int) (a0 := (10, .inl (fun _ => 0))) hx hb hK 0 rfl ra_int (hts _ t_119) rfl hP hD hS hA (fun _ => rfl) (by decide) (by decide) (by decide) (Nat.le_of_ble_eq_true rfl) (Nat.le_of_ble_eq_true rfl) dX7_init_100 (fun q1894 H hP hD hS => ?_)
  have hP : va_P D classes [(q1, .inr (7, [.int 1, .int 0, .int 0, .int 0, .int 0, .ref q1883, .ref q1884, .ref q1885, .ref q1886, .ref q1887, .ref q1888, .ref q1889, .ref q1890, .ref q1891, .ref q1892, .ref q1893, .null, .int 0])), (q1883, .inl (a 0, 6, .inl (fun _ => 0))), (q1884, .inl (a 0, 6, .inl (fun _ => 0))), (q1885, .inl (a 0, 6, .inl (fun _ => 0))), (q1886, .inl (a 0, 10, .inl (fun _ => 0))), (q1887, .inl (a 0, 10, .inl (fun _ => 0))), (q1888, .inl (a 0, 10, .inl (fun _ => 0))), (q1889, .inl (a 0, 10, .inl (fun _ => 0))), (q1890, .inl (a 0, 10, .inl (fun _ => 0))), (q1891, .inl (a 0, 10, .inl (fun _ => 0))), (q1892, .inl (a 0, 10, .inl (fun _ => 0))), (q1893, .inl (a 0, 10, .inl (fun _ => 0))), (q1894, .inl (a 0, 10, .inl (fun _ => 0)))] H := hP
  have hD : va_D A [(q1, .inr (7, [.int 1, .int 0, .int 0, .int 0, .int 0, .ref q1883, .ref q1884, .ref q1885, .ref q1886, .ref q1887, .ref q1888, .ref q1889, .ref q1890, .ref q1891, .ref q1892, .ref q1893, .null, .int 0])), (q1883, .inl (a 0, 6, .inl (fun _ => 0))), (q1884, .inl (a 0, 6, .inl (fun _ => 0))), (q1885, .inl (a 0, 6, .inl (fun _ => 0))), (q1886, .inl (a 0, 10, .inl (fun _ => 0))), (q1887, .inl (a 0, 10, .inl (fun _ => 0))), (q1888, .inl (a 0, 10, .inl (fun _ => 0))), (q1889, .inl (a 0, 10, .inl (fun _ => 0))), (q1890, .inl (a 0, 10, .inl (fun _ => 0))), (q1891, .inl (a 0, 10, .inl (fun _ => 0))), (q1892, .inl (a 0, 10, .inl (fun _ => 0))), (q1893, .inl (a 0, 10, .inl (fun _ => 0))), (q1894, .inl (a 0, 10, .inl (fun _ => 0)))] := hD
  refine W.cs (cells' := 12) (slots' := 108) rfl rfl ?_
  refine va_putF (D := D) (v := .ref q1894) (C := RX7) (T := TX7) (N := 18) hx hb hts iX7 tyX7 tyX7_ok nmX7 hown hK.1 hP hD hS 0 rfl rfl 16 (by decide) (hts _ t_79) (fun _ h9 => h9) rfl (hnm rfl) rfl (tyX7_ok 16 (by decide)) rfl rfl (Nat.le_of_ble_eq_true rfl) dX7_init_102 (fun H locs hP hD hS => ?_)
  have hP : va_P D classes [(q1, .inr (7, [.int 1, .int 0, .int 0, .int 0, .int 0, .ref q1883, .ref q1884, .ref q1885, .ref q1886, .ref q1887, .ref q1888, .ref q1889, .ref q1890, .ref q1891, .ref q1892, .ref q1893, .ref q1894, .int 0])), (q1883, .inl (a 0, 6, .inl (fun _ => 0))), (q1884, .inl (a 0, 6, .inl (fun _ => 0))), (q1885, .inl (a 0, 6, .inl (fun _ => 0))), (q1886, .inl (a 0, 10, .inl (fun _ => 0))), (q1887, .inl (a 0, 10, .inl (fun _ => 0))), (q1888, .inl (a 0, 10, .inl (fun _ => 0))), (q1889, .inl (a 0, 10, .inl (fun _ => 0))), (q1890, .inl (a 0, 10, .inl (fun _ => 0))), (q1891, .inl (a 0, 10, .inl (fun _ => 0))), (q1892, .inl (a 0, 10, .inl (fun _ => 0))), (q1893, .inl (a 0, 10, .inl (fun _ => 0))), (q1894, .inl (a 0, 10, .inl (fun _ => 0)))] H := hP
  have hD : va_D A [(q1, .inr (7, [.int 1, .int 0, .int 0, .int 0, .int 0, .ref q1883, .ref q1884, .ref q1885, .ref q1886, .ref q1887, .ref q1888, .ref q1889, .ref q1890, .ref q1891, .ref q1892, .ref q1893, .ref q1894, .int 0])), (q1883, .inl (a 0, 6, .inl (fun _ => 0))), (q1884, .inl (a 0, 6, .inl (fun _ => 0))), (q1885, .inl (a 0, 6, .inl (fun _ => 0))), (q1886, .inl (a 0, 10, .inl (fun _ => 0))), (q1887, .inl (a 0, 10, .inl (fun _ => 0))), (q1888, .inl (a 0, 10, .inl (fun _ => 0))), (q1889, .inl (a 0, 10, .inl (fun _ => 0))), (q1890, .inl (a 0, 10, .inl (fun _ => 0))), (q1891, .inl (a 0, 10, .inl (fun _ => 0))), (q1892, .inl (a 0, 10, .inl (fun _ => 0))), (q1893, .inl (a 0, 10, .inl (fun _ => 0))), (q1894, .inl (a 0, 10, .inl (fun _ => 0)))] := hD
  exact retMv C rfl (0, [q1883, q1884, q1885, q1886, q1887, q1888, q1889, q1890, q1891, q1892, q1893, q1894], [], [], [], []) ⟨q1883, q1884, q1885, q1886, q1887, q1888, q1889, q1890, q1891, q1892, q1893, q1894, rfl⟩ hP hD hS (Nat.le_of_ble_eq_true rfl) (Nat.le_of_ble_eq_true rfl) dX7_init_105

set_option maxHeartbeats 4000000 in
set_option maxRecDepth 100000 in
theorem c_X6_fail_0 (l : Launch) (D : va_G) (a : Nat → ClassId) (q1 q2 q3 q4 : Nat) (sz : Nat) : CMv (S := SS) l MX6_fail 0 0 0 0 D a [.ref q1, .int 0] [(q1, .inr (6, [.ref q2, .ref q3, .ref q4, .int 1, .int 1, .int 300, .int 0, .int 0, .int 0]))] sz (fun u => (u = (0, [], [], [], [], []))) (fun u => pk [[(q1, .inr (6, [.ref q2, .ref q3, .ref q4, .int 1, .int 1, .int 300, .int 0, .int 0, .int 1]))]] u.1) := by
  refine entMv (by decide) (Nat.le_of_ble_eq_true rfl) ?_
  intro p e s m below meth c C hK A hA hP hD ls hl
  obtain ⟨hx, hb, hml, hown, hts, hr, hlocks, hnm⟩ := id C
  have hb : c.code = cX6_fail := hb
  have hown : s.vm.findClass RX6 = some m.cls := hown
  have hS : va_S A s.heap s.heap [] := va_S.rf
  have hl : lv_has ls 2 [(0, .ref q1), (1, .int 0)] := hl
  refine lv_aload_n hx hb dX6_fail_0 rfl (lv_at hl 0 rfl) ?_
  refine va_get (D := D) (v := .int 0) (C := RX6) (T := TX6) (N := 9) hx hb hts iX6 hown hK.1 hP 0 rfl rfl 8 (by decide) (hts _ t_219) (fun _ h9 => h9) rfl dX6_fail_1 ?_
  refine lv_if_ne (tgt := 22) hx hb dX6_fail_4 (by decide) (fun c9 => absurd (by decide) c9) (fun c9 => ?_)
  refine lv_aload_n hx hb dX6_fail_7 rfl (lv_at hl 0 rfl) ?_
  refine lv_iconst (v := 1) hx hb dX6_fail_8 (by decide) ?_
  refine lv_bipush (v := 8) hx hb dX6_fail_9 (by decide) ?_
  refine lv_aload_n hx hb dX6_fail_11 rfl (lv_at hl 0 rfl) ?_
  refine va_get (D := D) (v := .int 0) (C := RX6) (T := TX6) (N := 9) hx hb hts iX6 hown hK.1 hP 0 rfl rfl 6 (by decide) (hts _ t_216) (fun _ h9 => h9) rfl dX6_fail_12 ?_
  refine lv_imul hx hb dX6_fail_15 ?_
  refine lv_topi (fun x1913 ex1913 => ?_)
  obtain rfl : x1913 = 0 := ex1913.trans (by decide)
  refine lv_iadd hx hb dX6_fail_16 ?_
  refine lv_topi (fun x1914 ex1914 => ?_)
  obtain rfl : x1914 = 1 := ex1914.trans (by decide)
  refine lv_iload_n hx hb dX6_fail_17 rfl (lv_at hl 1 rfl) ?_
  refine lv_iadd hx hb dX6_fail_18 ?_
  refine lv_topi (fun x1915 ex1915 => ?_)
  obtain rfl : x1915 = 1 := ex1915.trans (by decide)
  refine va_put (D := D) (v := .int 1) (C := RX6) (T := TX6) (N := 9) hx hb hts iX6 tyX6 tyX6_ok nmX6 hown hK.1 hP hD hS 0 rfl rfl 8 (by decide) (hts _ t_219) (fun _ h9 => h9) rfl (tyX6_ok 8 (by decide)) rfl rfl (Nat.le_of_ble_eq_true rfl) dX6_fail_19 (fun H locs hP hD hS => ?_)
  have hP : va_P D classes [(q1, .inr (6, [.ref q2, .ref q3, .ref q4, .int 1, .int 1, .int 300, .int 0, .int 0, .int 1]))] H := hP
  have hD : va_D A [(q1, .inr (6, [.ref q2, .ref q3, .ref q4, .int 1, .int 1, .int 300, .int 0, .int 0, .int 1]))] := hD
  exact retMv C rfl (0, [], [], [], [], []) rfl hP hD hS (Nat.le_of_ble_eq_true rfl) (Nat.le_of_ble_eq_true rfl) dX6_fail_22

set_option maxHeartbeats 4000000 in
set_option maxRecDepth 100000 in
theorem c_X7_readClause_0 (l : Launch) (D : va_G) (a : Nat → ClassId) (q2 q3 q4 q5 q1 : Nat) (sz : Nat) : CMv (S := SS) l MX7_readClause 1 21 0 0 D a [.ref q1, .ref q2, .int 0] [(q2, .inr (6, [.ref q3, .ref q4, .ref q5, .int 1, .int 1, .int 300, .int 0, .int 0, .int 0]))] sz (fun u => (u = (0, [], [], [], [], []))) (fun u => pk [[(q2, .inr (6, [.ref q3, .ref q4, .ref q5, .int 1, .int 1, .int 300, .int 0, .int 0, .int 1]))]] u.1) := by
  refine entMv (by decide) (Nat.le_of_ble_eq_true rfl) ?_
  intro p e s m below meth c C hK A hA hP hD ls hl
  obtain ⟨hx, hb, hml, hown, hts, hr, hlocks, hnm⟩ := id C
  have hb : c.code = cX7_readClause := hb
  have hown : s.vm.findClass RX7 = some m.cls := hown
  have hS : va_S A s.heap s.heap [] := va_S.rf
  have hl : lv_has ls 5 [(0, .ref q1), (1, .ref q2), (2, .int 0)] := hl
  refine lv_aload_n hx hb dX7_readClause_0 rfl (lv_at hl 1 rfl) ?_
  refine va_get (D := D) (v := .int 300) (C := RX6) (T := TX6) (N := 9) hx hb hts iX6 hown hK.1 hP 0 rfl rfl 5 (by decide) (hts _ t_213) (fun _ h9 => h9) rfl dX7_readClause_1 ?_
  refine lv_istore_n (lv' := [(3, .int 300), (0, .ref q1), (1, .ref q2), (2, .int 0)]) hx hb dX7_readClause_4 rfl hl (by decide) rfl (fun ls hl => ?_)
  refine lv_iload_n hx hb dX7_readClause_5 rfl (lv_at hl 0 rfl) ?_
  refine lv_sipush (v := 304) hx hb dX7_readClause_6 (by decide) ?_
  refine lv_icmp_eq (tgt := 32) hx hb dX7_readClause_9 (by decide) (fun c9 => absurd c9 (by decide)) (fun c9 => ?_)
  refine lv_iload_n hx hb dX7_readClause_12 rfl (lv_at hl 0 rfl) ?_
  refine lv_sipush (v := 313) hx hb dX7_readClause_13 (by decide) ?_
  refine lv_icmp_eq (tgt := 32) hx hb dX7_readClause_16 (by decide) (fun c9 => absurd c9 (by decide)) (fun c9 => ?_)
  refine lv_iload_n hx hb dX7_readClause_19 rfl (lv_at hl 0 rfl) ?_
  refine lv_sipush (v := 312) hx hb dX7_readClause_20 (by decide) ?_
  refine lv_icmp_eq (tgt := 32) hx hb dX7_readClause_23 (by decide) (fun c9 => absurd c9 (by decide)) (fun c9 => ?_)
  refine lv_aload_n hx hb dX7_readClause_26 rfl (lv_at hl 2 rfl) ?_
  refine lv_iconst (v := 0) hx hb dX7_readClause_27 (by decide) ?_
  refine afMv (runV (As := [.int 0]) (rest := []) C (c_X6_fail_0 l D a q2 q3 q4 q5 s.heap.size) lk_V_7_68 (okN_X6_fail) ⟨Nat.le_of_ble_eq_true rfl, Nat.le_of_ble_eq_true rfl⟩ ⟨rfl, rfl⟩ (preV (preM hK (P_of_map (wc := [(q2, .inr (6, [.ref q3, .ref q4, .ref q5, .int 1, .int 1, .int 300, .int 0, .int 0, .int 0]))]) hP [0] rfl) (hD.sub (ws' := [(q2, .inr (6, [.ref q3, .ref q4, .ref q5, .int 1, .int 1, .int 300, .int 0, .int 0, .int 0]))]) [0] (by decide) rfl)) (recvOf hK hP 0 rfl (ci := 6) rfl)) hl.1 rfl (Nat.le_of_ble_eq_true rfl) dX7_readClause_28 ⟨Nat.le_of_ble_eq_true rfl, Nat.le_of_ble_eq_true rfl⟩) hP hD hS hA [0] [] (wr := []) rfl rfl (by decide) (by decide) (fun u H locs hw hP hD hS => ?_)
  obtain rfl := hw
  have hP : va_P D classes [(q2, .inr (6, [.ref q3, .ref q4, .ref q5, .int 1, .int 1, .int 300, .int 0, .int 0, .int 1]))] H := hP
  have hD : va_D A [(q2, .inr (6, [.ref q3, .ref q4, .ref q5, .int 1, .int 1, .int 300, .int 0, .int 0, .int 1]))] := hD
  exact retMv C rfl (0, [], [], [], [], []) rfl hP hD hS (Nat.le_of_ble_eq_true rfl) (Nat.le_of_ble_eq_true rfl) dX7_readClause_31

set_option maxHeartbeats 4000000 in
set_option maxRecDepth 100000 in
theorem c_X6_anotherClause_0 (l : Launch) (D : va_G) (a : Nat → ClassId) (q1 q2 q3 q4 : Nat) : CRi l MX6_anotherClause 0 0 D a [.ref q1] [(q1, .inr (6, [.ref q2, .ref q3, .ref q4, .int 1, .int 1, .int 300, .int 0, .int 0, .int 1]))] (fun r => (r = 0)) := by
  refine entR (by decide) (Nat.le_of_ble_eq_true rfl) ?_
  intro p e s m below meth c C hK hP ls hl
  obtain ⟨hx, hb, hml, hown, hts, hr, hlocks, hnm⟩ := id C
  have hb : c.code = cX6_anotherClause := hb
  have hown : s.vm.findClass RX6 = some m.cls := hown
  have hl : lv_has ls 1 [(0, .ref q1)] := hl
  refine lv_aload_n hx hb dX6_anotherClause_0 rfl (lv_at hl 0 rfl) ?_
  refine va_get (D := D) (v := .int 1) (C := RX6) (T := TX6) (N := 9) hx hb hts iX6 hown hK.1 hP 0 rfl rfl 8 (by decide) (hts _ t_219) (fun _ h9 => h9) rfl dX6_anotherClause_1 ?_
  refine lv_if_ne (tgt := 17) hx hb dX6_anotherClause_4 (by decide) (fun c9 => ?_) (fun c9 => absurd c9 (by decide))
  refine lv_iconst (v := 0) hx hb dX6_anotherClause_17 (by decide) ?_
  exact retRz C rfl (by decide) rfl dX6_anotherClause_18

set_option maxHeartbeats 4000000 in
set_option maxRecDepth 100000 in
theorem c_X6_fail_1 (l : Launch) (D : va_G) (a : Nat → ClassId) (q1 q2 q3 q4 : Nat) (sz : Nat) : CMv (S := SS) l MX6_fail 0 0 0 0 D a [.ref q1, .int 0] [(q1, .inr (6, [.ref q2, .ref q3, .ref q4, .int 1, .int 1, .int 300, .int 0, .int 0, .int 1]))] sz (fun u => (u = (0, [], [], [], [], []))) (fun u => pk [[(q1, .inr (6, [.ref q2, .ref q3, .ref q4, .int 1, .int 1, .int 300, .int 0, .int 0, .int 1]))]] u.1) := by
  refine entMv (by decide) (Nat.le_of_ble_eq_true rfl) ?_
  intro p e s m below meth c C hK A hA hP hD ls hl
  obtain ⟨hx, hb, hml, hown, hts, hr, hlocks, hnm⟩ := id C
  have hb : c.code = cX6_fail := hb
  have hown : s.vm.findClass RX6 = some m.cls := hown
  have hS : va_S A s.heap s.heap [] := va_S.rf
  have hl : lv_has ls 2 [(0, .ref q1), (1, .int 0)] := hl
  refine lv_aload_n hx hb dX6_fail_0 rfl (lv_at hl 0 rfl) ?_
  refine va_get (D := D) (v := .int 1) (C := RX6) (T := TX6) (N := 9) hx hb hts iX6 hown hK.1 hP 0 rfl rfl 8 (by decide) (hts _ t_219) (fun _ h9 => h9) rfl dX6_fail_1 ?_
  refine lv_if_ne (tgt := 22) hx hb dX6_fail_4 (by decide) (fun c9 => ?_) (fun c9 => absurd c9 (by decide))
  exact retMv C rfl (0, [], [], [], [], []) rfl hP hD hS (Nat.le_of_ble_eq_true rfl) (Nat.le_of_ble_eq_true rfl) dX6_fail_22

set_option maxHeartbeats 4000000 in
set_option maxRecDepth 100000 in
theorem c_X7_orderLooks_0 (l : Launch) (D : va_G) (a : Nat → ClassId) (q1 q2 q3 q4 q5 q6 q7 q8 q9 q10 q11 q12 q13 : Nat) (sz : Nat) : CMv (S := SS) l MX7_orderLooks 0 0 0 0 D a [.ref q1] [(q1, .inr (7, [.int 1, .int 60, .int 0, .int 0, .int 0, .ref q2, .ref q3, .ref q4, .ref q5, .ref q6, .ref q7, .ref q8, .ref q9, .ref q10, .ref q11, .ref q12, .ref q13, .int 0]))] sz (fun u => (u = (0, [], [], [], [], []))) (fun u => pk [[(q1, .inr (7, [.int 1, .int 60, .int 0, .int 0, .int 0, .ref q2, .ref q3, .ref q4, .ref q5, .ref q6, .ref q7, .ref q8, .ref q9, .ref q10, .ref q11, .ref q12, .ref q13, .int 0]))]] u.1) := by
  refine entMv (by decide) (Nat.le_of_ble_eq_true rfl) ?_
  intro p e s m below meth c C hK A hA hP hD ls hl
  obtain ⟨hx, hb, hml, hown, hts, hr, hlocks, hnm⟩ := id C
  have hb : c.code = cX7_orderLooks := hb
  have hown : s.vm.findClass RX7 = some m.cls := hown
  have hS : va_S A s.heap s.heap [] := va_S.rf
  have hl : lv_has ls 3 [(0, .ref q1)] := hl
  refine lv_iconst (v := 0) hx hb dX7_orderLooks_0 (by decide) ?_
  refine lv_istore_n (lv' := [(1, .int 0), (0, .ref q1)]) hx hb dX7_orderLooks_1 rfl hl (by decide) rfl (fun ls hl => ?_)
  refine lv_iload_n hx hb dX7_orderLooks_2 rfl (lv_at hl 0 rfl) ?_
  refine lv_aload_n hx hb dX7_orderLooks_3 rfl (lv_at hl 1 rfl) ?_
  refine va_get (D := D) (v := .int 0) (C := RX7) (T := TX7) (N := 18) hx hb hts iX7 hown hK.1 hP 0 rfl rfl 3 (by decide) (hts _ t_44) (fun _ h9 => h9) rfl dX7_orderLooks_4 ?_
  refine lv_icmp_ge (tgt := 127) hx hb dX7_orderLooks_7 (by decide) (fun c9 => ?_) (fun c9 => absurd (by decide) c9)
  exact retMv C rfl (0, [], [], [], [], []) rfl hP hD hS (Nat.le_of_ble_eq_true rfl) (Nat.le_of_ble_eq_true rfl) dX7_orderLooks_127

set_option maxHeartbeats 4000000 in
set_option maxRecDepth 100000 in
theorem c_X7_readFrom_0 (l : Launch) (D : va_G) (a : Nat → ClassId) (q2 q3 q4 q5 q1 q6 q7 q8 q9 q10 q11 q12 q13 q14 q15 q16 q17 : Nat) (sz : Nat) : CMv (S := SS) l MX7_readFrom 2 45 0 0 D a [.ref q1, .ref q2] [(q2, .inr (6, [.ref q3, .ref q4, .ref q5, .int 1, .int 1, .int 300, .int 0, .int 0, .int 0])), (q1, .inr (7, [.int 1, .int 0, .int 0, .int 0, .int 0, .ref q6, .ref q7, .ref q8, .ref q9, .ref q10, .ref q11, .ref q12, .ref q13, .ref q14, .ref q15, .ref q16, .ref q17, .int 0]))] sz (fun u => (u = (0, [], [], [], [], []))) (fun u => pk [[(q2, .inr (6, [.ref q3, .ref q4, .ref q5, .int 1, .int 1, .int 300, .int 0, .int 0, .int 1])), (q1, .inr (7, [.int 1, .int 60, .int 0, .int 0, .int 0, .ref q6, .ref q7, .ref q8, .ref q9, .ref q10, .ref q11, .ref q12, .ref q13, .ref q14, .ref q15, .ref q16, .ref q17, .int 0]))]] u.1) := by
  refine entMv (by decide) (Nat.le_of_ble_eq_true rfl) ?_
  intro p e s m below meth c C hK A hA hP hD ls hl
  obtain ⟨hx, hb, hml, hown, hts, hr, hlocks, hnm⟩ := id C
  have hb : c.code = cX7_readFrom := hb
  have hown : s.vm.findClass RX7 = some m.cls := hown
  have hS : va_S A s.heap s.heap [] := va_S.rf
  have hl : lv_has ls 4 [(0, .ref q1), (1, .ref q2)] := hl
  refine lv_aload_n hx hb dX7_readFrom_0 rfl (lv_at hl 0 rfl) ?_
  refine lv_bipush (v := 60) hx hb dX7_readFrom_1 (by decide) ?_
  refine va_put (D := D) (v := .int 60) (C := RX7) (T := TX7) (N := 18) hx hb hts iX7 tyX7 tyX7_ok nmX7 hown hK.1 hP hD hS 1 rfl rfl 1 (by decide) (hts _ t_39) (fun _ h9 => h9) rfl (tyX7_ok 1 (by decide)) rfl rfl (Nat.le_of_ble_eq_true rfl) dX7_readFrom_3 (fun H locs hP hD hS => ?_)
  have hP : va_P D classes [(q2, .inr (6, [.ref q3, .ref q4, .ref q5, .int 1, .int 1, .int 300, .int 0, .int 0, .int 0])), (q1, .inr (7, [.int 1, .int 60, .int 0, .int 0, .int 0, .ref q6, .ref q7, .ref q8, .ref q9, .ref q10, .ref q11, .ref q12, .ref q13, .ref q14, .ref q15, .ref q16, .ref q17, .int 0]))] H := hP
  have hD : va_D A [(q2, .inr (6, [.ref q3, .ref q4, .ref q5, .int 1, .int 1, .int 300, .int 0, .int 0, .int 0])), (q1, .inr (7, [.int 1, .int 60, .int 0, .int 0, .int 0, .ref q6, .ref q7, .ref q8, .ref q9, .ref q10, .ref q11, .ref q12, .ref q13, .ref q14, .ref q15, .ref q16, .ref q17, .int 0]))] := hD
  refine lv_iconst (v := 1) hx hb dX7_readFrom_6 (by decide) ?_
  refine lv_istore_n (lv' := [(2, .int 1), (0, .ref q1), (1, .ref q2)]) hx hb dX7_readFrom_7 rfl hl (by decide) rfl (fun ls hl => ?_)
  refine lv_iconst (v := 0) hx hb dX7_readFrom_8 (by decide) ?_
  refine lv_istore_n (lv' := [(3, .int 0), (2, .int 1), (0, .ref q1), (1, .ref q2)]) hx hb dX7_readFrom_9 rfl hl (by decide) rfl (fun ls hl => ?_)
  refine lv_iload_n hx hb dX7_readFrom_10 rfl (lv_at hl 1 rfl) ?_
  refine lv_if_eq (tgt := 37) hx hb dX7_readFrom_11 (by decide) (fun c9 => absurd c9 (by decide)) (fun c9 => ?_)
  refine lv_iload_n hx hb dX7_readFrom_14 rfl (lv_at hl 0 rfl) ?_
  refine lv_bipush (v := 24) hx hb dX7_readFrom_15 (by decide) ?_
  refine lv_icmp_gt (tgt := 37) hx hb dX7_readFrom_17 (by decide) (fun c9 => absurd c9 (by decide)) (fun c9 => ?_)
  refine lv_aload_n hx hb dX7_readFrom_20 rfl (lv_at hl 2 rfl) ?_
  refine lv_aload_n hx hb dX7_readFrom_21 rfl (lv_at hl 3 rfl) ?_
  refine lv_iload_n hx hb dX7_readFrom_22 rfl (lv_at hl 0 rfl) ?_
  refine afMv (runV (As := [.ref q2, .int 0]) (rest := []) C (c_X7_readClause_0 l D a q2 q3 q4 q5 q1 H.size) lk_V_7_55 (okN_X7_readClause) ⟨Nat.le_of_ble_eq_true rfl, Nat.le_of_ble_eq_true rfl⟩ ⟨rfl, rfl⟩ (preV (preM hK (P_of_map (wc := [(q2, .inr (6, [.ref q3, .ref q4, .ref q5, .int 1, .int 1, .int 300, .int 0, .int 0, .int 0]))]) hP [0] rfl) (hD.sub (ws' := [(q2, .inr (6, [.ref q3, .ref q4, .ref q5, .int 1, .int 1, .int 300, .int 0, .int 0, .int 0]))]) [0] (by decide) rfl)) (recvOf hK hP 1 rfl (ci := 7) rfl)) hl.1 rfl (Nat.le_of_ble_eq_true rfl) dX7_readFrom_23 ⟨Nat.le_of_ble_eq_true rfl, Nat.le_of_ble_eq_true rfl⟩) hP hD hS hA [0] [1] (wr := [(q1, .inr (7, [.int 1, .int 60, .int 0, .int 0, .int 0, .ref q6, .ref q7, .ref q8, .ref q9, .ref q10, .ref q11, .ref q12, .ref q13, .ref q14, .ref q15, .ref q16, .ref q17, .int 0]))]) rfl rfl (by decide) (by decide) (fun u H locs hw hP hD hS => ?_)
  obtain rfl := hw
  have hP : va_P D classes [(q1, .inr (7, [.int 1, .int 60, .int 0, .int 0, .int 0, .ref q6, .ref q7, .ref q8, .ref q9, .ref q10, .ref q11, .ref q12, .ref q13, .ref q14, .ref q15, .ref q16, .ref q17, .int 0])), (q2, .inr (6, [.ref q3, .ref q4, .ref q5, .int 1, .int 1, .int 300, .int 0, .int 0, .int 1]))] H := hP
  have hD : va_D A [(q1, .inr (7, [.int 1, .int 60, .int 0, .int 0, .int 0, .ref q6, .ref q7, .ref q8, .ref q9, .ref q10, .ref q11, .ref q12, .ref q13, .ref q14, .ref q15, .ref q16, .ref q17, .int 0])), (q2, .inr (6, [.ref q3, .ref q4, .ref q5, .int 1, .int 1, .int 300, .int 0, .int 0, .int 1]))] := hD
  refine lv_aload_n hx hb dX7_readFrom_26 rfl (lv_at hl 3 rfl) ?_
  refine aftRi (runV (As := []) (rest := []) C (c_X6_anotherClause_0 l D a q2 q3 q4 q5) lk_V_7_59 (okN_X6_anotherClause) ⟨Nat.le_of_ble_eq_true rfl, Nat.le_of_ble_eq_true rfl⟩ ⟨rfl, rfl⟩ (preV (preR hK (P_of_map (wc := [(q2, .inr (6, [.ref q3, .ref q4, .ref q5, .int 1, .int 1, .int 300, .int 0, .int 0, .int 1]))]) hP [1] rfl)) (recvOf hK hP 1 rfl (ci := 6) rfl)) hl.1 rfl (Nat.le_of_ble_eq_true rfl) dX7_readFrom_27 ⟨Nat.le_of_ble_eq_true rfl, Nat.le_of_ble_eq_true rfl⟩) (fun x1946 hw => ?_)
  obtain rfl := hw
  refine lv_istore_n (lv' := [(2, .int 0), (3, .int 0), (0, .ref q1), (1, .ref q2)]) hx hb dX7_readFrom_30 rfl hl (by decide) rfl (fun ls hl => ?_)
  refine lv_iinc (v := 1) (lv' := [(3, .int 1), (2, .int 0), (0, .ref q1), (1, .ref q2)]) hx hb dX7_readFrom_31 hl (k := 1) rfl (by decide) (by decide) rfl (fun ls hl => ?_)
  refine lv_goto (tgt := 10) hx hb dX7_readFrom_34 (by decide) ?_
  refine lv_iload_n hx hb dX7_readFrom_10 rfl (lv_at hl 1 rfl) ?_
  refine lv_if_eq (tgt := 37) hx hb dX7_readFrom_11 (by decide) (fun c9 => ?_) (fun c9 => absurd (by decide) c9)
  refine lv_aload_n hx hb dX7_readFrom_37 rfl (lv_at hl 2 rfl) ?_
  refine va_get (D := D) (v := .int 0) (C := RX7) (T := TX7) (N := 18) hx hb hts iX7 hown hK.1 hP 0 rfl rfl 3 (by decide) (hts _ t_44) (fun _ h9 => h9) rfl dX7_readFrom_38 ?_
  refine lv_if_ne (tgt := 49) hx hb dX7_readFrom_41 (by decide) (fun c9 => absurd (by decide) c9) (fun c9 => ?_)
  refine lv_aload_n hx hb dX7_readFrom_44 rfl (lv_at hl 3 rfl) ?_
  refine lv_iconst (v := 0) hx hb dX7_readFrom_45 (by decide) ?_
  refine afMv (runV (As := [.int 0]) (rest := []) C (c_X6_fail_1 l D a q2 q3 q4 q5 H.size) lk_V_7_68 (okN_X6_fail) ⟨Nat.le_of_ble_eq_true rfl, Nat.le_of_ble_eq_true rfl⟩ ⟨rfl, rfl⟩ (preV (preM hK (P_of_map (wc := [(q2, .inr (6, [.ref q3, .ref q4, .ref q5, .int 1, .int 1, .int 300, .int 0, .int 0, .int 1]))]) hP [1] rfl) (hD.sub (ws' := [(q2, .inr (6, [.ref q3, .ref q4, .ref q5, .int 1, .int 1, .int 300, .int 0, .int 0, .int 1]))]) [1] (by decide) rfl)) (recvOf hK hP 1 rfl (ci := 6) rfl)) hl.1 rfl (Nat.le_of_ble_eq_true rfl) dX7_readFrom_46 ⟨Nat.le_of_ble_eq_true rfl, Nat.le_of_ble_eq_true rfl⟩) hP hD hS hA [1] [0] (wr := [(q1, .inr (7, [.int 1, .int 60, .int 0, .int 0, .int 0, .ref q6, .ref q7, .ref q8, .ref q9, .ref q10, .ref q11, .ref q12, .ref q13, .ref q14, .ref q15, .ref q16, .ref q17, .int 0]))]) rfl rfl (by decide) (by decide) (fun u H locs hw hP hD hS => ?_)
  obtain rfl := hw
  have hP : va_P D classes [(q1, .inr (7, [.int 1, .int 60, .int 0, .int 0, .int 0, .ref q6, .ref q7, .ref q8, .ref q9, .ref q10, .ref q11, .ref q12, .ref q13, .ref q14, .ref q15, .ref q16, .ref q17, .int 0])), (q2, .inr (6, [.ref q3, .ref q4, .ref q5, .int 1, .int 1, .int 300, .int 0, .int 0, .int 1]))] H := hP
  have hD : va_D A [(q1, .inr (7, [.int 1, .int 60, .int 0, .int 0, .int 0, .ref q6, .ref q7, .ref q8, .ref q9, .ref q10, .ref q11, .ref q12, .ref q13, .ref q14, .ref q15, .ref q16, .ref q17, .int 0])), (q2, .inr (6, [.ref q3, .ref q4, .ref q5, .int 1, .int 1, .int 300, .int 0, .int 0, .int 1]))] := hD
  refine lv_aload_n hx hb dX7_readFrom_49 rfl (lv_at hl 2 rfl) ?_
  refine afMv (runV (As := []) (rest := []) C (c_X7_orderLooks_0 l D a q1 q6 q7 q8 q9 q10 q11 q12 q13 q14 q15 q16 q17 H.size) lk_V_7_72 (okN_X7_orderLooks) ⟨Nat.le_of_ble_eq_true rfl, Nat.le_of_ble_eq_true rfl⟩ ⟨rfl, rfl⟩ (preV (preM hK (P_of_map (wc := [(q1, .inr (7, [.int 1, .int 60, .int 0, .int 0, .int 0, .ref q6, .ref q7, .ref q8, .ref q9, .ref q10, .ref q11, .ref q12, .ref q13, .ref q14, .ref q15, .ref q16, .ref q17, .int 0]))]) hP [0] rfl) (hD.sub (ws' := [(q1, .inr (7, [.int 1, .int 60, .int 0, .int 0, .int 0, .ref q6, .ref q7, .ref q8, .ref q9, .ref q10, .ref q11, .ref q12, .ref q13, .ref q14, .ref q15, .ref q16, .ref q17, .int 0]))]) [0] (by decide) rfl)) (recvOf hK hP 0 rfl (ci := 7) rfl)) hl.1 rfl (Nat.le_of_ble_eq_true rfl) dX7_readFrom_50 ⟨Nat.le_of_ble_eq_true rfl, Nat.le_of_ble_eq_true rfl⟩) hP hD hS hA [0] [1] (wr := [(q2, .inr (6, [.ref q3, .ref q4, .ref q5, .int 1, .int 1, .int 300, .int 0, .int 0, .int 1]))]) rfl rfl (by decide) (by decide) (fun u H locs hw hP hD hS => ?_)
  obtain rfl := hw
  have hP : va_P D classes [(q2, .inr (6, [.ref q3, .ref q4, .ref q5, .int 1, .int 1, .int 300, .int 0, .int 0, .int 1])), (q1, .inr (7, [.int 1, .int 60, .int 0, .int 0, .int 0, .ref q6, .ref q7, .ref q8, .ref q9, .ref q10, .ref q11, .ref q12, .ref q13, .ref q14, .ref q15, .ref q16, .ref q17, .int 0]))] H := hP
  have hD : va_D A [(q2, .inr (6, [.ref q3, .ref q4, .ref q5, .int 1, .int 1, .int 300, .int 0, .int 0, .int 1])), (q1, .inr (7, [.int 1, .int 60, .int 0, .int 0, .int 0, .ref q6, .ref q7, .ref q8, .ref q9, .ref q10, .ref q11, .ref q12, .ref q13, .ref q14, .ref q15, .ref q16, .ref q17, .int 0]))] := hD
  exact retMv C rfl (0, [], [], [], [], []) rfl hP hD hS (Nat.le_of_ble_eq_true rfl) (Nat.le_of_ble_eq_true rfl) dX7_readFrom_53

set_option maxHeartbeats 4000000 in
set_option maxRecDepth 100000 in
theorem c_X8_work_0 (l : Launch) (D : va_G) (a : Nat → ClassId) (q1 q2 q3 q4 q5 q6 q7 q8 q9 q10 q11 q12 q13 q14 q15 q16 q17 : Nat) (sz : Nat) : CMi (S := SS) l MX8_work 3 68 13 126 D a [.ref q1] [(q1, .inr (8, [.ref q2, .int 0, .ref q3, .int 0, .int 0, .ref q4, .ref q5, .ref q6, .ref q7, .ref q8, .ref q9])), (q7, .inr (4, [.ref q10, .ref q11, .int 0, .int 0, .int 0, .ref q12, .ref q13, .ref q14])), (q10, .inr (6, [.ref q15, .ref q16, .ref q17, .int 0, .int 0, .int 0, .int 0, .int 0, .int 0])), (q15, .inl (a 0, 401, .inl (fun _ => 0))), (q16, .inl (a 0, 401, .inl (fun _ => 0))), (q17, .inl (a 0, 401, .inl (fun _ => 0)))] sz (fun r u => (∃ q1990 : Nat, ∃ q1991 : Nat, ∃ q1992 : Nat, ∃ q1993 : Nat, ∃ q1994 : Nat, ∃ q1995 : Nat, ∃ q1996 : Nat, ∃ q1997 : Nat, ∃ q1998 : Nat, ∃ q1999 : Nat, ∃ q2000 : Nat, ∃ q2001 : Nat, ∃ q1973 : Nat, u = (0, [q1990, q1991, q1992, q1993, q1994, q1995, q1996, q1997, q1998, q1999, q2000, q2001, q1973], [], [], [], []) ∧ r = (-3))) (fun u => pk [[(q1, .inr (8, [.ref q2, .int 0, .ref q3, .int 0, .int 0, .ref q4, .ref q5, .ref q6, .ref q7, .ref q8, .ref q9])), (q7, .inr (4, [.ref q10, .ref q11, .int 0, .int 0, .int 0, .ref q12, .ref q13, .ref q14])), (q15, .inl (a 0, 401, .inl (upd (fun _ => 0) 0 300))), (q16, .inl (a 0, 401, .inl (upd (fun _ => 0) 0 0))), (q17, .inl (a 0, 401, .inl (upd (fun _ => 0) 0 0))), ((u.2.1.getD 0 0), .inl (a 0, 6, .inl (fun _ => 0))), ((u.2.1.getD 1 0), .inl (a 0, 6, .inl (fun _ => 0))), ((u.2.1.getD 2 0), .inl (a 0, 6, .inl (fun _ => 0))), ((u.2.1.getD 3 0), .inl (a 0, 10, .inl (fun _ => 0))), ((u.2.1.getD 4 0), .inl (a 0, 10, .inl (fun _ => 0))), ((u.2.1.getD 5 0), .inl (a 0, 10, .inl (fun _ => 0))), ((u.2.1.getD 6 0), .inl (a 0, 10, .inl (fun _ => 0))), ((u.2.1.getD 7 0), .inl (a 0, 10, .inl (fun _ => 0))), ((u.2.1.getD 8 0), .inl (a 0, 10, .inl (fun _ => 0))), ((u.2.1.getD 9 0), .inl (a 0, 10, .inl (fun _ => 0))), ((u.2.1.getD 10 0), .inl (a 0, 10, .inl (fun _ => 0))), ((u.2.1.getD 11 0), .inl (a 0, 10, .inl (fun _ => 0))), (q10, .inr (6, [.ref q15, .ref q16, .ref q17, .int 1, .int 1, .int 300, .int 0, .int 0, .int 1])), ((u.2.1.getD 12 0), .inr (7, [.int 1, .int 60, .int 0, .int 0, .int 0, .ref (u.2.1.getD 0 0), .ref (u.2.1.getD 1 0), .ref (u.2.1.getD 2 0), .ref (u.2.1.getD 3 0), .ref (u.2.1.getD 4 0), .ref (u.2.1.getD 5 0), .ref (u.2.1.getD 6 0), .ref (u.2.1.getD 7 0), .ref (u.2.1.getD 8 0), .ref (u.2.1.getD 9 0), .ref (u.2.1.getD 10 0), .ref (u.2.1.getD 11 0), .int 0]))]] u.1) := by
  refine entMi (by decide) (Nat.le_of_ble_eq_true rfl) ?_
  intro p e s m below meth c C hK A hA hP hD ls hl
  obtain ⟨hx, hb, hml, hown, hts, hr, hlocks, hnm⟩ := id C
  have hb : c.code = cX8_work := hb
  have hown : s.vm.findClass RX8 = some m.cls := hown
  have hS : va_S A s.heap s.heap [] := va_S.rf
  have hl : lv_has ls 3 [(0, .ref q1)] := hl
  refine lv_aload_n hx hb dX8_work_0 rfl (lv_at hl 0 rfl) ?_
  refine va_get (D := D) (v := .ref q7) (C := RX8) (T := TX8) (N := 11) hx hb hts iX8 hown hK.1 hP 0 rfl rfl 8 (by decide) (hts _ t_308) (fun _ h9 => h9) rfl dX8_work_1 ?_
  refine va_get (D := D) (v := .ref q10) (C := RX4) (T := TX4) (N := 8) hx hb hts iX4 hown hK.1 hP 1 rfl rfl 0 (by decide) (hts _ t_243) (fun _ h9 => h9) rfl dX8_work_4 ?_
  refine lv_astore_n (lv' := [(1, .ref q10), (0, .ref q1)]) hx hb dX8_work_7 rfl hl (by decide) rfl (fun ls hl => ?_)
  refine lv_aload_n hx hb dX8_work_8 rfl (lv_at hl 0 rfl) ?_
  refine lv_aload_n hx hb dX8_work_9 rfl (lv_at hl 1 rfl) ?_
  refine va_get (D := D) (v := .ref q2) (C := RX8) (T := TX8) (N := 11) hx hb hts iX8 hown hK.1 hP 0 rfl rfl 0 (by decide) (hts _ t_300) (fun _ h9 => h9) rfl dX8_work_10 ?_
  refine lv_aload_n hx hb dX8_work_13 rfl (lv_at hl 1 rfl) ?_
  refine va_get (D := D) (v := .int 0) (C := RX8) (T := TX8) (N := 11) hx hb hts iX8 hown hK.1 hP 0 rfl rfl 1 (by decide) (hts _ t_301) (fun _ h9 => h9) rfl dX8_work_14 ?_
  refine afMv (runV (As := [.ref q2, .int 0]) (rest := []) C (c_X6_open_0 l D a q10 q15 q16 q17 q2 s.heap.size) lk_V_8_86 (okN_X6_open) ⟨Nat.le_of_ble_eq_true rfl, Nat.le_of_ble_eq_true rfl⟩ ⟨rfl, rfl⟩ (preV (preM hK (P_of_map (wc := [(q10, .inr (6, [.ref q15, .ref q16, .ref q17, .int 0, .int 0, .int 0, .int 0, .int 0, .int 0])), (q15, .inl (a 0, 401, .inl (fun _ => 0))), (q16, .inl (a 0, 401, .inl (fun _ => 0))), (q17, .inl (a 0, 401, .inl (fun _ => 0)))]) hP [2, 3, 4, 5] rfl) (hD.sub (ws' := [(q10, .inr (6, [.ref q15, .ref q16, .ref q17, .int 0, .int 0, .int 0, .int 0, .int 0, .int 0])), (q15, .inl (a 0, 401, .inl (fun _ => 0))), (q16, .inl (a 0, 401, .inl (fun _ => 0))), (q17, .inl (a 0, 401, .inl (fun _ => 0)))]) [2, 3, 4, 5] (by decide) rfl)) (recvOf hK hP 2 rfl (ci := 6) rfl)) hl.1 rfl (Nat.le_of_ble_eq_true rfl) dX8_work_17 ⟨Nat.le_of_ble_eq_true rfl, Nat.le_of_ble_eq_true rfl⟩) hP hD hS hA [2, 3, 4, 5] [0, 1] (wr := [(q1, .inr (8, [.ref q2, .int 0, .ref q3, .int 0, .int 0, .ref q4, .ref q5, .ref q6, .ref q7, .ref q8, .ref q9])), (q7, .inr (4, [.ref q10, .ref q11, .int 0, .int 0, .int 0, .ref q12, .ref q13, .ref q14]))]) rfl rfl (by decide) (by decide) (fun u H locs hw hP hD hS => ?_)
  obtain rfl := hw
  have hP : va_P D classes [(q1, .inr (8, [.ref q2, .int 0, .ref q3, .int 0, .int 0, .ref q4, .ref q5, .ref q6, .ref q7, .ref q8, .ref q9])), (q7, .inr (4, [.ref q10, .ref q11, .int 0, .int 0, .int 0, .ref q12, .ref q13, .ref q14])), (q10, .inr (6, [.ref q15, .ref q16, .ref q17, .int 1, .int 1, .int 300, .int 0, .int 0, .int 0])), (q15, .inl (a 0, 401, .inl (upd (fun _ => 0) 0 300))), (q16, .inl (a 0, 401, .inl (upd (fun _ => 0) 0 0))), (q17, .inl (a 0, 401, .inl (upd (fun _ => 0) 0 0)))] H := hP
  have hD : va_D A [(q1, .inr (8, [.ref q2, .int 0, .ref q3, .int 0, .int 0, .ref q4, .ref q5, .ref q6, .ref q7, .ref q8, .ref q9])), (q7, .inr (4, [.ref q10, .ref q11, .int 0, .int 0, .int 0, .ref q12, .ref q13, .ref q14])), (q10, .inr (6, [.ref q15, .ref q16, .ref q17, .int 1, .int 1, .int 300, .int 0, .int 0, .int 0])), (q15, .inl (a 0, 401, .inl (upd (fun _ => 0) 0 300))), (q16, .inl (a 0, 401, .inl (upd (fun _ => 0) 0 0))), (q17, .inl (a 0, 401, .inl (upd (fun _ => 0) 0 0)))] := hD
  refine lv_aload_n hx hb dX8_work_20 rfl (lv_at hl 1 rfl) ?_
  refine lv_iconst (v := 0) hx hb dX8_work_21 (by decide) ?_
  refine va_put (D := D) (v := .int 0) (C := RX8) (T := TX8) (N := 11) hx hb hts iX8 tyX8 tyX8_ok nmX8 hown hK.1 hP hD hS 0 rfl rfl 1 (by decide) (hts _ t_301) (fun _ h9 => h9) rfl (tyX8_ok 1 (by decide)) rfl rfl (Nat.le_of_ble_eq_true rfl) dX8_work_22 (fun H locs hP hD hS => ?_)
  have hP : va_P D classes [(q1, .inr (8, [.ref q2, .int 0, .ref q3, .int 0, .int 0, .ref q4, .ref q5, .ref q6, .ref q7, .ref q8, .ref q9])), (q7, .inr (4, [.ref q10, .ref q11, .int 0, .int 0, .int 0, .ref q12, .ref q13, .ref q14])), (q10, .inr (6, [.ref q15, .ref q16, .ref q17, .int 1, .int 1, .int 300, .int 0, .int 0, .int 0])), (q15, .inl (a 0, 401, .inl (upd (fun _ => 0) 0 300))), (q16, .inl (a 0, 401, .inl (upd (fun _ => 0) 0 0))), (q17, .inl (a 0, 401, .inl (upd (fun _ => 0) 0 0)))] H := hP
  have hD : va_D A [(q1, .inr (8, [.ref q2, .int 0, .ref q3, .int 0, .int 0, .ref q4, .ref q5, .ref q6, .ref q7, .ref q8, .ref q9])), (q7, .inr (4, [.ref q10, .ref q11, .int 0, .int 0, .int 0, .ref q12, .ref q13, .ref q14])), (q10, .inr (6, [.ref q15, .ref q16, .ref q17, .int 1, .int 1, .int 300, .int 0, .int 0, .int 0])), (q15, .inl (a 0, 401, .inl (upd (fun _ => 0) 0 300))), (q16, .inl (a 0, 401, .inl (upd (fun _ => 0) 0 0))), (q17, .inl (a 0, 401, .inl (upd (fun _ => 0) 0 0)))] := hD
  refine va_new (ci := 7) (fs := [.int 0, .int 0, .int 0, .int 0, .int 0, .null, .null, .null, .null, .null, .null, .null, .null, .null, .null, .null, .null, .int 0]) (C := RX7) (T := TX7) (N := 18) hx hb hts iX7 tyX7 tyX7_ok hown (hts _ t_31) (hts _ t_32) (hts _ t_3) hK.1 hP hD hS hA rfl (dfX7) (Nat.le_of_ble_eq_true rfl) (Nat.le_of_ble_eq_true rfl) dX8_work_25 (fun q1973 H hP hD hS => ?_)
  have hP : va_P D classes [(q1, .inr (8, [.ref q2, .int 0, .ref q3, .int 0, .int 0, .ref q4, .ref q5, .ref q6, .ref q7, .ref q8, .ref q9])), (q7, .inr (4, [.ref q10, .ref q11, .int 0, .int 0, .int 0, .ref q12, .ref q13, .ref q14])), (q10, .inr (6, [.ref q15, .ref q16, .ref q17, .int 1, .int 1, .int 300, .int 0, .int 0, .int 0])), (q15, .inl (a 0, 401, .inl (upd (fun _ => 0) 0 300))), (q16, .inl (a 0, 401, .inl (upd (fun _ => 0) 0 0))), (q17, .inl (a 0, 401, .inl (upd (fun _ => 0) 0 0))), (q1973, .inr (7, [.int 0, .int 0, .int 0, .int 0, .int 0, .null, .null, .null, .null, .null, .null, .null, .null, .null, .null, .null, .null, .int 0]))] H := hP
  have hD : va_D A [(q1, .inr (8, [.ref q2, .int 0, .ref q3, .int 0, .int 0, .ref q4, .ref q5, .ref q6, .ref q7, .ref q8, .ref q9])), (q7, .inr (4, [.ref q10, .ref q11, .int 0, .int 0, .int 0, .ref q12, .ref q13, .ref q14])), (q10, .inr (6, [.ref q15, .ref q16, .ref q17, .int 1, .int 1, .int 300, .int 0, .int 0, .int 0])), (q15, .inl (a 0, 401, .inl (upd (fun _ => 0) 0 300))), (q16, .inl (a 0, 401, .inl (upd (fun _ => 0) 0 0))), (q17, .inl (a 0, 401, .inl (upd (fun _ => 0) 0 0))), (q1973, .inr (7, [.int 0, .int 0, .int 0, .int 0, .int 0, .null, .null, .null, .null, .null, .null, .null, .null, .null, .null, .null, .null, .int 0]))] := hD
  refine W.cs (cells' := 1) (slots' := 18) rfl rfl ?_
  refine lv_dup hx hb dX8_work_28 rfl ?_
  refine lv_aload_n hx hb dX8_work_29 rfl (lv_at hl 1 rfl) ?_
  refine va_get (D := D) (v := .int 0) (C := RX8) (T := TX8) (N := 11) hx hb hts iX8 hown hK.1 hP 0 rfl rfl 4 (by decide) (hts _ t_304) (fun _ h9 => h9) rfl dX8_work_30 ?_
  refine lv_iconst (v := 1) hx hb dX8_work_33 (by decide) ?_
  refine lv_iadd hx hb dX8_work_34 ?_
  refine lv_topi (fun x1974 ex1974 => ?_)
  obtain rfl : x1974 = 1 := ex1974.trans (by decide)
  refine afMv (runI (As := [.int 1]) (rest := [.ref q1973]) C (c_X7_init_1 l D a q1973 H.size) lk_I_8_33 (okN_X7_init) ⟨Nat.le_of_ble_eq_true rfl, Nat.le_of_ble_eq_true rfl⟩ ⟨rfl, rfl⟩ (preM hK (P_of_map (wc := [(q1973, .inr (7, [.int 0, .int 0, .int 0, .int 0, .int 0, .null, .null, .null, .null, .null, .null, .null, .null, .null, .null, .null, .null, .int 0]))]) hP [6] rfl) (hD.sub (ws' := [(q1973, .inr (7, [.int 0, .int 0, .int 0, .int 0, .int 0, .null, .null, .null, .null, .null, .null, .null, .null, .null, .null, .null, .null, .int 0]))]) [6] (by decide) rfl)) hl.1 rfl (Nat.le_of_ble_eq_true rfl) dX8_work_35 ⟨Nat.le_of_ble_eq_true rfl, Nat.le_of_ble_eq_true rfl⟩) hP hD hS hA [6] [0, 1, 2, 3, 4, 5] (wr := [(q1, .inr (8, [.ref q2, .int 0, .ref q3, .int 0, .int 0, .ref q4, .ref q5, .ref q6, .ref q7, .ref q8, .ref q9])), (q7, .inr (4, [.ref q10, .ref q11, .int 0, .int 0, .int 0, .ref q12, .ref q13, .ref q14])), (q10, .inr (6, [.ref q15, .ref q16, .ref q17, .int 1, .int 1, .int 300, .int 0, .int 0, .int 0])), (q15, .inl (a 0, 401, .inl (upd (fun _ => 0) 0 300))), (q16, .inl (a 0, 401, .inl (upd (fun _ => 0) 0 0))), (q17, .inl (a 0, 401, .inl (upd (fun _ => 0) 0 0)))]) rfl rfl (by decide) (by decide) (fun u H locs hw hP hD hS => ?_)
  obtain ⟨q1990, q1991, q1992, q1993, q1994, q1995, q1996, q1997, q1998, q1999, q2000, q2001, rfl⟩ := hw
  have hP : va_P D classes [(q1, .inr (8, [.ref q2, .int 0, .ref q3, .int 0, .int 0, .ref q4, .ref q5, .ref q6, .ref q7, .ref q8, .ref q9])), (q7, .inr (4, [.ref q10, .ref q11, .int 0, .int 0, .int 0, .ref q12, .ref q13, .ref q14])), (q10, .inr (6, [.ref q15, .ref q16, .ref q17, .int 1, .int 1, .int 300, .int 0, .int 0, .int 0])), (q15, .inl (a 0, 401, .inl (upd (fun _ => 0) 0 300))), (q16, .inl (a 0, 401, .inl (upd (fun _ => 0) 0 0))), (q17, .inl (a 0, 401, .inl (upd (fun _ => 0) 0 0))), (q1973, .inr (7, [.int 1, .int 0, .int 0, .int 0, .int 0, .ref q1990, .ref q1991, .ref q1992, .ref q1993, .ref q1994, .ref q1995, .ref q1996, .ref q1997, .ref q1998, .ref q1999, .ref q2000, .ref q2001, .int 0])), (q1990, .inl (a 0, 6, .inl (fun _ => 0))), (q1991, .inl (a 0, 6, .inl (fun _ => 0))), (q1992, .inl (a 0, 6, .inl (fun _ => 0))), (q1993, .inl (a 0, 10, .inl (fun _ => 0))), (q1994, .inl (a 0, 10, .inl (fun _ => 0))), (q1995, .inl (a 0, 10, .inl (fun _ => 0))), (q1996, .inl (a 0, 10, .inl (fun _ => 0))), (q1997, .inl (a 0, 10, .inl (fun _ => 0))), (q1998, .inl (a 0, 10, .inl (fun _ => 0))), (q1999, .inl (a 0, 10, .inl (fun _ => 0))), (q2000, .inl (a 0, 10, .inl (fun _ => 0))), (q2001, .inl (a 0, 10, .inl (fun _ => 0)))] H := hP
  have hD : va_D A [(q1, .inr (8, [.ref q2, .int 0, .ref q3, .int 0, .int 0, .ref q4, .ref q5, .ref q6, .ref q7, .ref q8, .ref q9])), (q7, .inr (4, [.ref q10, .ref q11, .int 0, .int 0, .int 0, .ref q12, .ref q13, .ref q14])), (q10, .inr (6, [.ref q15, .ref q16, .ref q17, .int 1, .int 1, .int 300, .int 0, .int 0, .int 0])), (q15, .inl (a 0, 401, .inl (upd (fun _ => 0) 0 300))), (q16, .inl (a 0, 401, .inl (upd (fun _ => 0) 0 0))), (q17, .inl (a 0, 401, .inl (upd (fun _ => 0) 0 0))), (q1973, .inr (7, [.int 1, .int 0, .int 0, .int 0, .int 0, .ref q1990, .ref q1991, .ref q1992, .ref q1993, .ref q1994, .ref q1995, .ref q1996, .ref q1997, .ref q1998, .ref q1999, .ref q2000, .ref q2001, .int 0])), (q1990, .inl (a 0, 6, .inl (fun _ => 0))), (q1991, .inl (a 0, 6, .inl (fun _ => 0))), (q1992, .inl (a 0, 6, .inl (fun _ => 0))), (q1993, .inl (a 0, 10, .inl (fun _ => 0))), (q1994, .inl (a 0, 10, .inl (fun _ => 0))), (q1995, .inl (a 0, 10, .inl (fun _ => 0))), (q1996, .inl (a 0, 10, .inl (fun _ => 0))), (q1997, .inl (a 0, 10, .inl (fun _ => 0))), (q1998, .inl (a 0, 10, .inl (fun _ => 0))), (q1999, .inl (a 0, 10, .inl (fun _ => 0))), (q2000, .inl (a 0, 10, .inl (fun _ => 0))), (q2001, .inl (a 0, 10, .inl (fun _ => 0)))] := hD
  refine W.cs (cells' := 13) (slots' := 126) rfl rfl ?_
  refine lv_astore_n (lv' := [(2, .ref q1973), (1, .ref q10), (0, .ref q1)]) hx hb dX8_work_38 rfl hl (by decide) rfl (fun ls hl => ?_)
  refine lv_aload_n hx hb dX8_work_39 rfl (lv_at hl 0 rfl) ?_
  refine lv_aload_n hx hb dX8_work_40 rfl (lv_at hl 1 rfl) ?_
  refine afMv (runV (As := [.ref q10]) (rest := []) C (c_X7_readFrom_0 l D a q10 q15 q16 q17 q1973 q1990 q1991 q1992 q1993 q1994 q1995 q1996 q1997 q1998 q1999 q2000 q2001 H.size) lk_V_8_92 (okN_X7_readFrom) ⟨Nat.le_of_ble_eq_true rfl, Nat.le_of_ble_eq_true rfl⟩ ⟨rfl, rfl⟩ (preV (preM hK (P_of_map (wc := [(q10, .inr (6, [.ref q15, .ref q16, .ref q17, .int 1, .int 1, .int 300, .int 0, .int 0, .int 0])), (q1973, .inr (7, [.int 1, .int 0, .int 0, .int 0, .int 0, .ref q1990, .ref q1991, .ref q1992, .ref q1993, .ref q1994, .ref q1995, .ref q1996, .ref q1997, .ref q1998, .ref q1999, .ref q2000, .ref q2001, .int 0]))]) hP [2, 6] rfl) (hD.sub (ws' := [(q10, .inr (6, [.ref q15, .ref q16, .ref q17, .int 1, .int 1, .int 300, .int 0, .int 0, .int 0])), (q1973, .inr (7, [.int 1, .int 0, .int 0, .int 0, .int 0, .ref q1990, .ref q1991, .ref q1992, .ref q1993, .ref q1994, .ref q1995, .ref q1996, .ref q1997, .ref q1998, .ref q1999, .ref q2000, .ref q2001, .int 0]))]) [2, 6] (by decide) rfl)) (recvOf hK hP 6 rfl (ci := 7) rfl)) hl.1 rfl (Nat.le_of_ble_eq_true rfl) dX8_work_41 ⟨Nat.le_of_ble_eq_true rfl, Nat.le_of_ble_eq_true rfl⟩) hP hD hS hA [2, 6] [0, 1, 3, 4, 5, 7, 8, 9, 10, 11, 12, 13, 14, 15, 16, 17, 18] (wr := [(q1, .inr (8, [.ref q2, .int 0, .ref q3, .int 0, .int 0, .ref q4, .ref q5, .ref q6, .ref q7, .ref q8, .ref q9])), (q7, .inr (4, [.ref q10, .ref q11, .int 0, .int 0, .int 0, .ref q12, .ref q13, .ref q14])), (q15, .inl (a 0, 401, .inl (upd (fun _ => 0) 0 300))), (q16, .inl (a 0, 401, .inl (upd (fun _ => 0) 0 0))), (q17, .inl (a 0, 401, .inl (upd (fun _ => 0) 0 0))), (q1990, .inl (a 0, 6, .inl (fun _ => 0))), (q1991, .inl (a 0, 6, .inl (fun _ => 0))), (q1992, .inl (a 0, 6, .inl (fun _ => 0))), (q1993, .inl (a 0, 10, .inl (fun _ => 0))), (q1994, .inl (a 0, 10, .inl (fun _ => 0))), (q1995, .inl (a 0, 10, .inl (fun _ => 0))), (q1996, .inl (a 0, 10, .inl (fun _ => 0))), (q1997, .inl (a 0, 10, .inl (fun _ => 0))), (q1998, .inl (a 0, 10, .inl (fun _ => 0))), (q1999, .inl (a 0, 10, .inl (fun _ => 0))), (q2000, .inl (a 0, 10, .inl (fun _ => 0))), (q2001, .inl (a 0, 10, .inl (fun _ => 0)))]) rfl rfl (by decide) (by decide) (fun u H locs hw hP hD hS => ?_)
  obtain rfl := hw
  have hP : va_P D classes [(q1, .inr (8, [.ref q2, .int 0, .ref q3, .int 0, .int 0, .ref q4, .ref q5, .ref q6, .ref q7, .ref q8, .ref q9])), (q7, .inr (4, [.ref q10, .ref q11, .int 0, .int 0, .int 0, .ref q12, .ref q13, .ref q14])), (q15, .inl (a 0, 401, .inl (upd (fun _ => 0) 0 300))), (q16, .inl (a 0, 401, .inl (upd (fun _ => 0) 0 0))), (q17, .inl (a 0, 401, .inl (upd (fun _ => 0) 0 0))), (q1990, .inl (a 0, 6, .inl (fun _ => 0))), (q1991, .inl (a 0, 6, .inl (fun _ => 0))), (q1992, .inl (a 0, 6, .inl (fun _ => 0))), (q1993, .inl (a 0, 10, .inl (fun _ => 0))), (q1994, .inl (a 0, 10, .inl (fun _ => 0))), (q1995, .inl (a 0, 10, .inl (fun _ => 0))), (q1996, .inl (a 0, 10, .inl (fun _ => 0))), (q1997, .inl (a 0, 10, .inl (fun _ => 0))), (q1998, .inl (a 0, 10, .inl (fun _ => 0))), (q1999, .inl (a 0, 10, .inl (fun _ => 0))), (q2000, .inl (a 0, 10, .inl (fun _ => 0))), (q2001, .inl (a 0, 10, .inl (fun _ => 0))), (q10, .inr (6, [.ref q15, .ref q16, .ref q17, .int 1, .int 1, .int 300, .int 0, .int 0, .int 1])), (q1973, .inr (7, [.int 1, .int 60, .int 0, .int 0, .int 0, .ref q1990, .ref q1991, .ref q1992, .ref q1993, .ref q1994, .ref q1995, .ref q1996, .ref q1997, .ref q1998, .ref q1999, .ref q2000, .ref q2001, .int 0]))] H := hP
  have hD : va_D A [(q1, .inr (8, [.ref q2, .int 0, .ref q3, .int 0, .int 0, .ref q4, .ref q5, .ref q6, .ref q7, .ref q8, .ref q9])), (q7, .inr (4, [.ref q10, .ref q11, .int 0, .int 0, .int 0, .ref q12, .ref q13, .ref q14])), (q15, .inl (a 0, 401, .inl (upd (fun _ => 0) 0 300))), (q16, .inl (a 0, 401, .inl (upd (fun _ => 0) 0 0))), (q17, .inl (a 0, 401, .inl (upd (fun _ => 0) 0 0))), (q1990, .inl (a 0, 6, .inl (fun _ => 0))), (q1991, .inl (a 0, 6, .inl (fun _ => 0))), (q1992, .inl (a 0, 6, .inl (fun _ => 0))), (q1993, .inl (a 0, 10, .inl (fun _ => 0))), (q1994, .inl (a 0, 10, .inl (fun _ => 0))), (q1995, .inl (a 0, 10, .inl (fun _ => 0))), (q1996, .inl (a 0, 10, .inl (fun _ => 0))), (q1997, .inl (a 0, 10, .inl (fun _ => 0))), (q1998, .inl (a 0, 10, .inl (fun _ => 0))), (q1999, .inl (a 0, 10, .inl (fun _ => 0))), (q2000, .inl (a 0, 10, .inl (fun _ => 0))), (q2001, .inl (a 0, 10, .inl (fun _ => 0))), (q10, .inr (6, [.ref q15, .ref q16, .ref q17, .int 1, .int 1, .int 300, .int 0, .int 0, .int 1])), (q1973, .inr (7, [.int 1, .int 60, .int 0, .int 0, .int 0, .ref q1990, .ref q1991, .ref q1992, .ref q1993, .ref q1994, .ref q1995, .ref q1996, .ref q1997, .ref q1998, .ref q1999, .ref q2000, .ref q2001, .int 0]))] := hD
  refine lv_aload_n hx hb dX8_work_44 rfl (lv_at hl 1 rfl) ?_
  refine va_get (D := D) (v := .int 1) (C := RX6) (T := TX6) (N := 9) hx hb hts iX6 hown hK.1 hP 17 rfl rfl 8 (by decide) (hts _ t_221) (fun _ h9 => h9) rfl dX8_work_45 ?_
  refine lv_if_eq (tgt := 59) hx hb dX8_work_48 (by decide) (fun c9 => absurd c9 (by decide)) (fun c9 => ?_)
  refine lv_bipush (v := (-2)) hx hb dX8_work_51 (by decide) ?_
  refine lv_aload_n hx hb dX8_work_53 rfl (lv_at hl 1 rfl) ?_
  refine va_get (D := D) (v := .int 1) (C := RX6) (T := TX6) (N := 9) hx hb hts iX6 hown hK.1 hP 17 rfl rfl 8 (by decide) (hts _ t_221) (fun _ h9 => h9) rfl dX8_work_54 ?_
  refine lv_isub hx hb dX8_work_57 ?_
  refine lv_topi (fun x2023 ex2023 => ?_)
  obtain rfl : x2023 = (-3) := ex2023.trans (by decide)
  exact retMi C rfl (0, [q1990, q1991, q1992, q1993, q1994, q1995, q1996, q1997, q1998, q1999, q2000, q2001, q1973], [], [], [], []) ⟨q1990, q1991, q1992, q1993, q1994, q1995, q1996, q1997, q1998, q1999, q2000, q2001, q1973, rfl, rfl⟩ hP hD hS (Nat.le_of_ble_eq_true rfl) (Nat.le_of_ble_eq_true rfl) dX8_work_58

set_option maxHeartbeats 4000000 in
set_option maxRecDepth 100000 in
theorem c_X9_see_0 (l : Launch) (D : va_G) (a : Nat → ClassId) (q1 q2 q3 q4 q5 q6 q7 q8 q9 q10 q11 q12 q13 q14 q15 q16 q17 q18 q19 q20 q21 q22 q23 : Nat) : CRi l MX9_see 0 0 D a [.ref q1] [(q1, .inr (9, [.ref q2, .int 0, .int 0, .ref q3, .ref q4, .ref q5, .ref q6, .int (-1), .int 0, .int 0, .ref q7, .ref q8, .int 0, .int 0, .int 0, .int 6, .int 0, .int 0, .int 0, .ref q9, .int 0, .ref q10, .int 0, .ref q11, .ref q12, .ref q13, .ref q14, .ref q15, .ref q16, .ref q17, .ref q18, .ref q19, .ref q20, .ref q21, .ref q22, .ref q23]))] (fun r => (r = (-1))) := by
  refine entR (by decide) (Nat.le_of_ble_eq_true rfl) ?_
  intro p e s m below meth c C hK hP ls hl
  obtain ⟨hx, hb, hml, hown, hts, hr, hlocks, hnm⟩ := id C
  have hb : c.code = cX9_see := hb
  have hown : s.vm.findClass RX9 = some m.cls := hown
  have hl : lv_has ls 1 [(0, .ref q1)] := hl
  refine lv_aload_n hx hb dX9_see_0 rfl (lv_at hl 0 rfl) ?_
  refine va_get (D := D) (v := .int 0) (C := RX9) (T := TX9) (N := 36) hx hb hts iX9 hown hK.1 hP 0 rfl rfl 12 (by decide) (hts _ t_894) (fun _ h9 => h9) rfl dX9_see_1 ?_
  refine lv_aload_n hx hb dX9_see_4 rfl (lv_at hl 0 rfl) ?_
  refine va_get (D := D) (v := .int 0) (C := RX9) (T := TX9) (N := 36) hx hb hts iX9 hown hK.1 hP 0 rfl rfl 1 (by decide) (hts _ t_883) (fun _ h9 => h9) rfl dX9_see_5 ?_
  refine lv_icmp_ge (tgt := 38) hx hb dX9_see_8 (by decide) (fun c9 => ?_) (fun c9 => absurd (by decide) c9)
  refine lv_aload_n hx hb dX9_see_38 rfl (lv_at hl 0 rfl) ?_
  refine va_get (D := D) (v := .int 0) (C := RX9) (T := TX9) (N := 36) hx hb hts iX9 hown hK.1 hP 0 rfl rfl 12 (by decide) (hts _ t_894) (fun _ h9 => h9) rfl dX9_see_39 ?_
  refine lv_aload_n hx hb dX9_see_42 rfl (lv_at hl 0 rfl) ?_
  refine va_get (D := D) (v := .int 0) (C := RX9) (T := TX9) (N := 36) hx hb hts iX9 hown hK.1 hP 0 rfl rfl 1 (by decide) (hts _ t_883) (fun _ h9 => h9) rfl dX9_see_43 ?_
  refine lv_icmp_ge (tgt := 65) hx hb dX9_see_46 (by decide) (fun c9 => ?_) (fun c9 => absurd (by decide) c9)
  refine lv_iconst (v := (-1)) hx hb dX9_see_65 (by decide) ?_
  exact retRi C rfl rfl dX9_see_66

set_option maxHeartbeats 4000000 in
set_option maxRecDepth 100000 in
theorem c_X9_isLetter_0 (l : Launch) (D : va_G) (a : Nat → ClassId) (q1 q2 q3 q4 q5 q6 q7 q8 q9 q10 q11 q12 q13 q14 q15 q16 q17 q18 q19 q20 q21 q22 q23 : Nat) : CRi l MX9_isLetter 0 0 D a [.ref q1, .int 0] [(q1, .inr (9, [.ref q2, .int 0, .int 0, .ref q3, .ref q4, .ref q5, .ref q6, .int (-1), .int 0, .int 0, .ref q7, .ref q8, .int 0, .int 0, .int 0, .int 6, .int 0, .int 0, .int 0, .ref q9, .int 0, .ref q10, .int 0, .ref q11, .ref q12, .ref q13, .ref q14, .ref q15, .ref q16, .ref q17, .ref q18, .ref q19, .ref q20, .ref q21, .ref q22, .ref q23]))] (fun r => (r = 0)) := by
  refine entR (by decide) (Nat.le_of_ble_eq_true rfl) ?_
  intro p e s m below meth c C hK hP ls hl
  obtain ⟨hx, hb, hml, hown, hts, hr, hlocks, hnm⟩ := id C
  have hb : c.code = cX9_isLetter := hb
  have hown : s.vm.findClass RX9 = some m.cls := hown
  have hl : lv_has ls 2 [(0, .ref q1), (1, .int 0)] := hl
  refine lv_iload_n hx hb dX9_isLetter_0 rfl (lv_at hl 1 rfl) ?_
  refine lv_aload_n hx hb dX9_isLetter_1 rfl (lv_at hl 0 rfl) ?_
  refine va_get (D := D) (v := .int 0) (C := RX9) (T := TX9) (N := 36) hx hb hts iX9 hown hK.1 hP 0 rfl rfl 1 (by decide) (hts _ t_883) (fun _ h9 => h9) rfl dX9_isLetter_2 ?_
  refine lv_icmp_ge (tgt := 34) hx hb dX9_isLetter_5 (by decide) (fun c9 => ?_) (fun c9 => absurd (by decide) c9)
  refine lv_iconst (v := 0) hx hb dX9_isLetter_34 (by decide) ?_
  exact retRz C rfl (by decide) rfl dX9_isLetter_35

set_option maxHeartbeats 4000000 in
set_option maxRecDepth 100000 in
theorem c_X9_isWord_0 (l : Launch) (D : va_G) (a : Nat → ClassId) (q1 q2 q3 q4 q5 q6 q7 q8 q9 q10 q11 q12 q13 q14 q15 q16 q17 q18 q19 q20 q21 q22 q23 : Nat) : CRi l MX9_isWord 1 21 D a [.ref q1, .long 1953066341] [(q1, .inr (9, [.ref q2, .int 0, .int 0, .ref q3, .ref q4, .ref q5, .ref q6, .int (-1), .int 0, .int 0, .ref q7, .ref q8, .int 0, .int 0, .int 0, .int 6, .int 0, .int 0, .int 0, .ref q9, .int 0, .ref q10, .int 0, .ref q11, .ref q12, .ref q13, .ref q14, .ref q15, .ref q16, .ref q17, .ref q18, .ref q19, .ref q20, .ref q21, .ref q22, .ref q23]))] (fun r => (r = 0)) := by
  refine entR (by decide) (Nat.le_of_ble_eq_true rfl) ?_
  intro p e s m below meth c C hK hP ls hl
  obtain ⟨hx, hb, hml, hown, hts, hr, hlocks, hnm⟩ := id C
  have hb : c.code = cX9_isWord := hb
  have hown : s.vm.findClass RX9 = some m.cls := hown
  have hl : lv_has ls 6 [(0, .ref q1), (1, .long 1953066341)] := hl
  refine lv_aload_n hx hb dX9_isWord_0 rfl (lv_at hl 0 rfl) ?_
  refine aftRi (runV (As := []) (rest := []) C (c_X9_see_0 l D a q1 q2 q3 q4 q5 q6 q7 q8 q9 q10 q11 q12 q13 q14 q15 q16 q17 q18 q19 q20 q21 q22 q23) lk_V_9_93 (okN_X9_see) ⟨Nat.le_of_ble_eq_true rfl, Nat.le_of_ble_eq_true rfl⟩ ⟨rfl, rfl⟩ (preV (preR hK (P_of_map (wc := [(q1, .inr (9, [.ref q2, .int 0, .int 0, .ref q3, .ref q4, .ref q5, .ref q6, .int (-1), .int 0, .int 0, .ref q7, .ref q8, .int 0, .int 0, .int 0, .int 6, .int 0, .int 0, .int 0, .ref q9, .int 0, .ref q10, .int 0, .ref q11, .ref q12, .ref q13, .ref q14, .ref q15, .ref q16, .ref q17, .ref q18, .ref q19, .ref q20, .ref q21, .ref q22, .ref q23]))]) hP [0] rfl)) (recvOf hK hP 0 rfl (ci := 9) rfl)) hl.1 rfl (Nat.le_of_ble_eq_true rfl) dX9_isWord_1 ⟨Nat.le_of_ble_eq_true rfl, Nat.le_of_ble_eq_true rfl⟩) (fun x2050 hw => ?_)
  obtain rfl := hw
  refine lv_pop hx hb dX9_isWord_4 rfl ?_
  refine lv_lconst (v := 0) hx hb dX9_isWord_5 (by decide) ?_
  refine lv_lstore_n (lv' := [(3, .long 0), (0, .ref q1), (1, .long 1953066341)]) hx hb dX9_isWord_6 rfl hl (by decide) rfl (fun ls hl => ?_)
  refine lv_iconst (v := 0) hx hb dX9_isWord_7 (by decide) ?_
  refine lv_istore (lv' := [(5, .int 0), (3, .long 0), (0, .ref q1), (1, .long 1953066341)]) hx hb dX9_isWord_8 hl (by decide) rfl (fun ls hl => ?_)
  refine lv_aload_n hx hb dX9_isWord_10 rfl (lv_at hl 2 rfl) ?_
  refine lv_aload_n hx hb dX9_isWord_11 rfl (lv_at hl 2 rfl) ?_
  refine va_get (D := D) (v := .int 0) (C := RX9) (T := TX9) (N := 36) hx hb hts iX9 hown hK.1 hP 0 rfl rfl 12 (by decide) (hts _ t_894) (fun _ h9 => h9) rfl dX9_isWord_12 ?_
  refine lv_iload hx hb dX9_isWord_15 (lv_at hl 0 rfl) ?_
  refine lv_iadd hx hb dX9_isWord_17 ?_
  refine lv_topi (fun x2053 ex2053 => ?_)
  obtain rfl : x2053 = 0 := ex2053.trans (by decide)
  refine aftRi (runV (As := [.int 0]) (rest := []) C (c_X9_isLetter_0 l D a q1 q2 q3 q4 q5 q6 q7 q8 q9 q10 q11 q12 q13 q14 q15 q16 q17 q18 q19 q20 q21 q22 q23) lk_V_9_97 (okN_X9_isLetter) ⟨Nat.le_of_ble_eq_true rfl, Nat.le_of_ble_eq_true rfl⟩ ⟨rfl, rfl⟩ (preV (preR hK (P_of_map (wc := [(q1, .inr (9, [.ref q2, .int 0, .int 0, .ref q3, .ref q4, .ref q5, .ref q6, .int (-1), .int 0, .int 0, .ref q7, .ref q8, .int 0, .int 0, .int 0, .int 6, .int 0, .int 0, .int 0, .ref q9, .int 0, .ref q10, .int 0, .ref q11, .ref q12, .ref q13, .ref q14, .ref q15, .ref q16, .ref q17, .ref q18, .ref q19, .ref q20, .ref q21, .ref q22, .ref q23]))]) hP [0] rfl)) (recvOf hK hP 0 rfl (ci := 9) rfl)) hl.1 rfl (Nat.le_of_ble_eq_true rfl) dX9_isWord_18 ⟨Nat.le_of_ble_eq_true rfl, Nat.le_of_ble_eq_true rfl⟩) (fun x2054 hw => ?_)
  obtain rfl := hw
  refine lv_if_eq (tgt := 56) hx hb dX9_isWord_21 (by decide) (fun c9 => ?_) (fun c9 => absurd (by decide) c9)
  refine lv_iload hx hb dX9_isWord_56 (lv_at hl 0 rfl) ?_
  refine lv_if_le (tgt := 78) hx hb dX9_isWord_58 (by decide) (fun c9 => ?_) (fun c9 => absurd (by decide) c9)
  refine lv_iconst (v := 0) hx hb dX9_isWord_78 (by decide) ?_
  exact retRz C rfl (by decide) rfl dX9_isWord_79

set_option maxHeartbeats 4000000 in
set_option maxRecDepth 100000 in
theorem c_X9_isWord_1 (l : Launch) (D : va_G) (a : Nat → ClassId) (q1 q2 q3 q4 q5 q6 q7 q8 q9 q10 q11 q12 q13 q14 q15 q16 q17 q18 q19 q20 q21 q22 q23 : Nat) : CRi l MX9_isWord 1 21 D a [.ref q1, .long 1802071652] [(q1, .inr (9, [.ref q2, .int 0, .int 0, .ref q3, .ref q4, .ref q5, .ref q6, .int (-1), .int 0, .int 0, .ref q7, .ref q8, .int 0, .int 0, .int 0, .int 6, .int 0, .int 0, .int 0, .ref q9, .int 0, .ref q10, .int 0, .ref q11, .ref q12, .ref q13, .ref q14, .ref q15, .ref q16, .ref q17, .ref q18, .ref q19, .ref q20, .ref q21, .ref q22, .ref q23]))] (fun r => (r = 0)) := by
  refine entR (by decide) (Nat.le_of_ble_eq_true rfl) ?_
  intro p e s m below meth c C hK hP ls hl
  obtain ⟨hx, hb, hml, hown, hts, hr, hlocks, hnm⟩ := id C
  have hb : c.code = cX9_isWord := hb
  have hown : s.vm.findClass RX9 = some m.cls := hown
  have hl : lv_has ls 6 [(0, .ref q1), (1, .long 1802071652)] := hl
  refine lv_aload_n hx hb dX9_isWord_0 rfl (lv_at hl 0 rfl) ?_
  refine aftRi (runV (As := []) (rest := []) C (c_X9_see_0 l D a q1 q2 q3 q4 q5 q6 q7 q8 q9 q10 q11 q12 q13 q14 q15 q16 q17 q18 q19 q20 q21 q22 q23) lk_V_9_93 (okN_X9_see) ⟨Nat.le_of_ble_eq_true rfl, Nat.le_of_ble_eq_true rfl⟩ ⟨rfl, rfl⟩ (preV (preR hK (P_of_map (wc := [(q1, .inr (9, [.ref q2, .int 0, .int 0, .ref q3, .ref q4, .ref q5, .ref q6, .int (-1), .int 0, .int 0, .ref q7, .ref q8, .int 0, .int 0, .int 0, .int 6, .int 0, .int 0, .int 0, .ref q9, .int 0, .ref q10, .int 0, .ref q11, .ref q12, .ref q13, .ref q14, .ref q15, .ref q16, .ref q17, .ref q18, .ref q19, .ref q20, .ref q21, .ref q22, .ref q23]))]) hP [0] rfl)) (recvOf hK hP 0 rfl (ci := 9) rfl)) hl.1 rfl (Nat.le_of_ble_eq_true rfl) dX9_isWord_1 ⟨Nat.le_of_ble_eq_true rfl, Nat.le_of_ble_eq_true rfl⟩) (fun x2067 hw => ?_)
  obtain rfl := hw
  refine lv_pop hx hb dX9_isWord_4 rfl ?_
  refine lv_lconst (v := 0) hx hb dX9_isWord_5 (by decide) ?_
  refine lv_lstore_n (lv' := [(3, .long 0), (0, .ref q1), (1, .long 1802071652)]) hx hb dX9_isWord_6 rfl hl (by decide) rfl (fun ls hl => ?_)
  refine lv_iconst (v := 0) hx hb dX9_isWord_7 (by decide) ?_
  refine lv_istore (lv' := [(5, .int 0), (3, .long 0), (0, .ref q1), (1, .long 1802071652)]) hx hb dX9_isWord_8 hl (by decide) rfl (fun ls hl => ?_)
  refine lv_aload_n hx hb dX9_isWord_10 rfl (lv_at hl 2 rfl) ?_
  refine lv_aload_n hx hb dX9_isWord_11 rfl (lv_at hl 2 rfl) ?_
  refine va_get (D := D) (v := .int 0) (C := RX9) (T := TX9) (N := 36) hx hb hts iX9 hown hK.1 hP 0 rfl rfl 12 (by decide) (hts _ t_894) (fun _ h9 => h9) rfl dX9_isWord_12 ?_
  refine lv_iload hx hb dX9_isWord_15 (lv_at hl 0 rfl) ?_
  refine lv_iadd hx hb dX9_isWord_17 ?_
  refine lv_topi (fun x2070 ex2070 => ?_)
  obtain rfl : x2070 = 0 := ex2070.trans (by decide)
  refine aftRi (runV (As := [.int 0]) (rest := []) C (c_X9_isLetter_0 l D a q1 q2 q3 q4 q5 q6 q7 q8 q9 q10 q11 q12 q13 q14 q15 q16 q17 q18 q19 q20 q21 q22 q23) lk_V_9_97 (okN_X9_isLetter) ⟨Nat.le_of_ble_eq_true rfl, Nat.le_of_ble_eq_true rfl⟩ ⟨rfl, rfl⟩ (preV (preR hK (P_of_map (wc := [(q1, .inr (9, [.ref q2, .int 0, .int 0, .ref q3, .ref q4, .ref q5, .ref q6, .int (-1), .int 0, .int 0, .ref q7, .ref q8, .int 0, .int 0, .int 0, .int 6, .int 0, .int 0, .int 0, .ref q9, .int 0, .ref q10, .int 0, .ref q11, .ref q12, .ref q13, .ref q14, .ref q15, .ref q16, .ref q17, .ref q18, .ref q19, .ref q20, .ref q21, .ref q22, .ref q23]))]) hP [0] rfl)) (recvOf hK hP 0 rfl (ci := 9) rfl)) hl.1 rfl (Nat.le_of_ble_eq_true rfl) dX9_isWord_18 ⟨Nat.le_of_ble_eq_true rfl, Nat.le_of_ble_eq_true rfl⟩) (fun x2071 hw => ?_)
  obtain rfl := hw
  refine lv_if_eq (tgt := 56) hx hb dX9_isWord_21 (by decide) (fun c9 => ?_) (fun c9 => absurd (by decide) c9)
  refine lv_iload hx hb dX9_isWord_56 (lv_at hl 0 rfl) ?_
  refine lv_if_le (tgt := 78) hx hb dX9_isWord_58 (by decide) (fun c9 => ?_) (fun c9 => absurd (by decide) c9)
  refine lv_iconst (v := 0) hx hb dX9_isWord_78 (by decide) ?_
  exact retRz C rfl (by decide) rfl dX9_isWord_79

set_option maxHeartbeats 4000000 in
set_option maxRecDepth 100000 in
theorem c_X9_isWord_2 (l : Launch) (D : va_G) (a : Nat → ClassId) (q1 q2 q3 q4 q5 q6 q7 q8 q9 q10 q11 q12 q13 q14 q15 q16 q17 q18 q19 q20 q21 q22 q23 : Nat) : CRi l MX9_isWord 1 21 D a [.ref q1, .long 439721749620] [(q1, .inr (9, [.ref q2, .int 0, .int 0, .ref q3, .ref q4, .ref q5, .ref q6, .int (-1), .int 0, .int 0, .ref q7, .ref q8, .int 0, .int 0, .int 0, .int 6, .int 0, .int 0, .int 0, .ref q9, .int 0, .ref q10, .int 0, .ref q11, .ref q12, .ref q13, .ref q14, .ref q15, .ref q16, .ref q17, .ref q18, .ref q19, .ref q20, .ref q21, .ref q22, .ref q23]))] (fun r => (r = 0)) := by
  refine entR (by decide) (Nat.le_of_ble_eq_true rfl) ?_
  intro p e s m below meth c C hK hP ls hl
  obtain ⟨hx, hb, hml, hown, hts, hr, hlocks, hnm⟩ := id C
  have hb : c.code = cX9_isWord := hb
  have hown : s.vm.findClass RX9 = some m.cls := hown
  have hl : lv_has ls 6 [(0, .ref q1), (1, .long 439721749620)] := hl
  refine lv_aload_n hx hb dX9_isWord_0 rfl (lv_at hl 0 rfl) ?_
  refine aftRi (runV (As := []) (rest := []) C (c_X9_see_0 l D a q1 q2 q3 q4 q5 q6 q7 q8 q9 q10 q11 q12 q13 q14 q15 q16 q17 q18 q19 q20 q21 q22 q23) lk_V_9_93 (okN_X9_see) ⟨Nat.le_of_ble_eq_true rfl, Nat.le_of_ble_eq_true rfl⟩ ⟨rfl, rfl⟩ (preV (preR hK (P_of_map (wc := [(q1, .inr (9, [.ref q2, .int 0, .int 0, .ref q3, .ref q4, .ref q5, .ref q6, .int (-1), .int 0, .int 0, .ref q7, .ref q8, .int 0, .int 0, .int 0, .int 6, .int 0, .int 0, .int 0, .ref q9, .int 0, .ref q10, .int 0, .ref q11, .ref q12, .ref q13, .ref q14, .ref q15, .ref q16, .ref q17, .ref q18, .ref q19, .ref q20, .ref q21, .ref q22, .ref q23]))]) hP [0] rfl)) (recvOf hK hP 0 rfl (ci := 9) rfl)) hl.1 rfl (Nat.le_of_ble_eq_true rfl) dX9_isWord_1 ⟨Nat.le_of_ble_eq_true rfl, Nat.le_of_ble_eq_true rfl⟩) (fun x2084 hw => ?_)
  obtain rfl := hw
  refine lv_pop hx hb dX9_isWord_4 rfl ?_
  refine lv_lconst (v := 0) hx hb dX9_isWord_5 (by decide) ?_
  refine lv_lstore_n (lv' := [(3, .long 0), (0, .ref q1), (1, .long 439721749620)]) hx hb dX9_isWord_6 rfl hl (by decide) rfl (fun ls hl => ?_)
  refine lv_iconst (v := 0) hx hb dX9_isWord_7 (by decide) ?_
  refine lv_istore (lv' := [(5, .int 0), (3, .long 0), (0, .ref q1), (1, .long 439721749620)]) hx hb dX9_isWord_8 hl (by decide) rfl (fun ls hl => ?_)
  refine lv_aload_n hx hb dX9_isWord_10 rfl (lv_at hl 2 rfl) ?_
  refine lv_aload_n hx hb dX9_isWord_11 rfl (lv_at hl 2 rfl) ?_
  refine va_get (D := D) (v := .int 0) (C := RX9) (T := TX9) (N := 36) hx hb hts iX9 hown hK.1 hP 0 rfl rfl 12 (by decide) (hts _ t_894) (fun _ h9 => h9) rfl dX9_isWord_12 ?_
  refine lv_iload hx hb dX9_isWord_15 (lv_at hl 0 rfl) ?_
  refine lv_iadd hx hb dX9_isWord_17 ?_
  refine lv_topi (fun x2087 ex2087 => ?_)
  obtain rfl : x2087 = 0 := ex2087.trans (by decide)
  refine aftRi (runV (As := [.int 0]) (rest := []) C (c_X9_isLetter_0 l D a q1 q2 q3 q4 q5 q6 q7 q8 q9 q10 q11 q12 q13 q14 q15 q16 q17 q18 q19 q20 q21 q22 q23) lk_V_9_97 (okN_X9_isLetter) ⟨Nat.le_of_ble_eq_true rfl, Nat.le_of_ble_eq_true rfl⟩ ⟨rfl, rfl⟩ (preV (preR hK (P_of_map (wc := [(q1, .inr (9, [.ref q2, .int 0, .int 0, .ref q3, .ref q4, .ref q5, .ref q6, .int (-1), .int 0, .int 0, .ref q7, .ref q8, .int 0, .int 0, .int 0, .int 6, .int 0, .int 0, .int 0, .ref q9, .int 0, .ref q10, .int 0, .ref q11, .ref q12, .ref q13, .ref q14, .ref q15, .ref q16, .ref q17, .ref q18, .ref q19, .ref q20, .ref q21, .ref q22, .ref q23]))]) hP [0] rfl)) (recvOf hK hP 0 rfl (ci := 9) rfl)) hl.1 rfl (Nat.le_of_ble_eq_true rfl) dX9_isWord_18 ⟨Nat.le_of_ble_eq_true rfl, Nat.le_of_ble_eq_true rfl⟩) (fun x2088 hw => ?_)
  obtain rfl := hw
  refine lv_if_eq (tgt := 56) hx hb dX9_isWord_21 (by decide) (fun c9 => ?_) (fun c9 => absurd (by decide) c9)
  refine lv_iload hx hb dX9_isWord_56 (lv_at hl 0 rfl) ?_
  refine lv_if_le (tgt := 78) hx hb dX9_isWord_58 (by decide) (fun c9 => ?_) (fun c9 => absurd (by decide) c9)
  refine lv_iconst (v := 0) hx hb dX9_isWord_78 (by decide) ?_
  exact retRz C rfl (by decide) rfl dX9_isWord_79

set_option maxHeartbeats 4000000 in
set_option maxRecDepth 100000 in
theorem c_X9_fails_0 (l : Launch) (D : va_G) (a : Nat → ClassId) (q1 q2 q3 q4 q5 q6 q7 q8 q9 q10 q11 q12 q13 q14 q15 q16 q17 q18 q19 q20 q21 q22 q23 : Nat) (sz : Nat) : CMi (S := SS) l MX9_fails 0 0 0 0 D a [.ref q1, .int 0, .int 0] [(q1, .inr (9, [.ref q2, .int 0, .int 0, .ref q3, .ref q4, .ref q5, .ref q6, .int (-1), .int 0, .int 0, .ref q7, .ref q8, .int 0, .int 0, .int 0, .int 6, .int 0, .int 0, .int 0, .ref q9, .int 0, .ref q10, .int 0, .ref q11, .ref q12, .ref q13, .ref q14, .ref q15, .ref q16, .ref q17, .ref q18, .ref q19, .ref q20, .ref q21, .ref q22, .ref q23]))] sz (fun r u => (u = (0, [], [], [], [], []) ∧ r = 0)) (fun u => pk [[(q1, .inr (9, [.ref q2, .int 0, .int 0, .ref q3, .ref q4, .ref q5, .ref q6, .int (-1), .int 0, .int 0, .ref q7, .ref q8, .int 0, .int 1, .int 0, .int 6, .int 0, .int 0, .int 0, .ref q9, .int 0, .ref q10, .int 0, .ref q11, .ref q12, .ref q13, .ref q14, .ref q15, .ref q16, .ref q17, .ref q18, .ref q19, .ref q20, .ref q21, .ref q22, .ref q23]))]] u.1) := by
  refine entMi (by decide) (Nat.le_of_ble_eq_true rfl) ?_
  intro p e s m below meth c C hK A hA hP hD ls hl
  obtain ⟨hx, hb, hml, hown, hts, hr, hlocks, hnm⟩ := id C
  have hb : c.code = cX9_fails := hb
  have hown : s.vm.findClass RX9 = some m.cls := hown
  have hS : va_S A s.heap s.heap [] := va_S.rf
  have hl : lv_has ls 3 [(0, .ref q1), (1, .int 0), (2, .int 0)] := hl
  refine lv_aload_n hx hb dX9_fails_0 rfl (lv_at hl 0 rfl) ?_
  refine va_get (D := D) (v := .int 0) (C := RX9) (T := TX9) (N := 36) hx hb hts iX9 hown hK.1 hP 0 rfl rfl 13 (by decide) (hts _ t_895) (fun _ h9 => h9) rfl dX9_fails_1 ?_
  refine lv_if_ne (tgt := 19) hx hb dX9_fails_4 (by decide) (fun c9 => absurd (by decide) c9) (fun c9 => ?_)
  refine lv_aload_n hx hb dX9_fails_7 rfl (lv_at hl 0 rfl) ?_
  refine lv_iconst (v := 1) hx hb dX9_fails_8 (by decide) ?_
  refine lv_bipush (v := 8) hx hb dX9_fails_9 (by decide) ?_
  refine lv_iload_n hx hb dX9_fails_11 rfl (lv_at hl 2 rfl) ?_
  refine lv_imul hx hb dX9_fails_12 ?_
  refine lv_topi (fun x2097 ex2097 => ?_)
  obtain rfl : x2097 = 0 := ex2097.trans (by decide)
  refine lv_iadd hx hb dX9_fails_13 ?_
  refine lv_topi (fun x2098 ex2098 => ?_)
  obtain rfl : x2098 = 1 := ex2098.trans (by decide)
  refine lv_iload_n hx hb dX9_fails_14 rfl (lv_at hl 1 rfl) ?_
  refine lv_iadd hx hb dX9_fails_15 ?_
  refine lv_topi (fun x2099 ex2099 => ?_)
  obtain rfl : x2099 = 1 := ex2099.trans (by decide)
  refine va_put (D := D) (v := .int 1) (C := RX9) (T := TX9) (N := 36) hx hb hts iX9 tyX9 tyX9_ok nmX9 hown hK.1 hP hD hS 0 rfl rfl 13 (by decide) (hts _ t_895) (fun _ h9 => h9) rfl (tyX9_ok 13 (by decide)) rfl rfl (Nat.le_of_ble_eq_true rfl) dX9_fails_16 (fun H locs hP hD hS => ?_)
  have hP : va_P D classes [(q1, .inr (9, [.ref q2, .int 0, .int 0, .ref q3, .ref q4, .ref q5, .ref q6, .int (-1), .int 0, .int 0, .ref q7, .ref q8, .int 0, .int 1, .int 0, .int 6, .int 0, .int 0, .int 0, .ref q9, .int 0, .ref q10, .int 0, .ref q11, .ref q12, .ref q13, .ref q14, .ref q15, .ref q16, .ref q17, .ref q18, .ref q19, .ref q20, .ref q21, .ref q22, .ref q23]))] H := hP
  have hD : va_D A [(q1, .inr (9, [.ref q2, .int 0, .int 0, .ref q3, .ref q4, .ref q5, .ref q6, .int (-1), .int 0, .int 0, .ref q7, .ref q8, .int 0, .int 1, .int 0, .int 6, .int 0, .int 0, .int 0, .ref q9, .int 0, .ref q10, .int 0, .ref q11, .ref q12, .ref q13, .ref q14, .ref q15, .ref q16, .ref q17, .ref q18, .ref q19, .ref q20, .ref q21, .ref q22, .ref q23]))] := hD
  refine lv_iconst (v := 0) hx hb dX9_fails_19 (by decide) ?_
  exact retMz C rfl (by decide) (0, [], [], [], [], []) ⟨rfl, rfl⟩ hP hD hS (Nat.le_of_ble_eq_true rfl) (Nat.le_of_ble_eq_true rfl) dX9_fails_20

set_option maxHeartbeats 4000000 in
set_option maxRecDepth 100000 in
theorem c_X9_clauseHere_0 (l : Launch) (D : va_G) (a : Nat → ClassId) (q1 q2 q3 q4 q5 q6 q7 q8 q9 q10 q11 q12 q13 q14 q15 q16 q17 q18 q19 q20 q21 q22 q23 : Nat) (sz : Nat) : CMi (S := SS) l MX9_clauseHere 2 46 0 0 D a [.ref q1] [(q1, .inr (9, [.ref q2, .int 0, .int 0, .ref q3, .ref q4, .ref q5, .ref q6, .int (-1), .int 0, .int 0, .ref q7, .ref q8, .int 0, .int 0, .int 0, .int 6, .int 0, .int 0, .int 0, .ref q9, .int 0, .ref q10, .int 0, .ref q11, .ref q12, .ref q13, .ref q14, .ref q15, .ref q16, .ref q17, .ref q18, .ref q19, .ref q20, .ref q21, .ref q22, .ref q23]))] sz (fun r u => (u = (0, [], [], [], [], []) ∧ r = 0)) (fun u => pk [[(q1, .inr (9, [.ref q2, .int 0, .int 0, .ref q3, .ref q4, .ref q5, .ref q6, .int (-1), .int 0, .int 0, .ref q7, .ref q8, .int 0, .int 1, .int 0, .int 6, .int 0, .int 0, .int 0, .ref q9, .int 0, .ref q10, .int 0, .ref q11, .ref q12, .ref q13, .ref q14, .ref q15, .ref q16, .ref q17, .ref q18, .ref q19, .ref q20, .ref q21, .ref q22, .ref q23]))]] u.1) := by
  refine entMi (by decide) (Nat.le_of_ble_eq_true rfl) ?_
  intro p e s m below meth c C hK A hA hP hD ls hl
  obtain ⟨hx, hb, hml, hown, hts, hr, hlocks, hnm⟩ := id C
  have hb : c.code = cX9_clauseHere := hb
  have hown : s.vm.findClass RX9 = some m.cls := hown
  have hS : va_S A s.heap s.heap [] := va_S.rf
  have hl : lv_has ls 4 [(0, .ref q1)] := hl
  refine lv_aload_n hx hb dX9_clauseHere_0 rfl (lv_at hl 0 rfl) ?_
  refine aftRi (runV (As := []) (rest := []) C (c_X9_see_0 l D a q1 q2 q3 q4 q5 q6 q7 q8 q9 q10 q11 q12 q13 q14 q15 q16 q17 q18 q19 q20 q21 q22 q23) lk_V_9_93 (okN_X9_see) ⟨Nat.le_of_ble_eq_true rfl, Nat.le_of_ble_eq_true rfl⟩ ⟨rfl, rfl⟩ (preV (preR hK (P_of_map (wc := [(q1, .inr (9, [.ref q2, .int 0, .int 0, .ref q3, .ref q4, .ref q5, .ref q6, .int (-1), .int 0, .int 0, .ref q7, .ref q8, .int 0, .int 0, .int 0, .int 6, .int 0, .int 0, .int 0, .ref q9, .int 0, .ref q10, .int 0, .ref q11, .ref q12, .ref q13, .ref q14, .ref q15, .ref q16, .ref q17, .ref q18, .ref q19, .ref q20, .ref q21, .ref q22, .ref q23]))]) hP [0] rfl)) (recvOf hK hP 0 rfl (ci := 9) rfl)) hl.1 rfl (Nat.le_of_ble_eq_true rfl) dX9_clauseHere_1 ⟨Nat.le_of_ble_eq_true rfl, Nat.le_of_ble_eq_true rfl⟩) (fun x2103 hw => ?_)
  obtain rfl := hw
  refine lv_pop hx hb dX9_clauseHere_4 rfl ?_
  refine lv_aload_n hx hb dX9_clauseHere_5 rfl (lv_at hl 0 rfl) ?_
  refine va_get (D := D) (v := .int 0) (C := RX9) (T := TX9) (N := 36) hx hb hts iX9 hown hK.1 hP 0 rfl rfl 12 (by decide) (hts _ t_894) (fun _ h9 => h9) rfl dX9_clauseHere_6 ?_
  refine lv_istore_n (lv' := [(1, .int 0), (0, .ref q1)]) hx hb dX9_clauseHere_9 rfl hl (by decide) rfl (fun ls hl => ?_)
  refine lv_aload_n hx hb dX9_clauseHere_10 rfl (lv_at hl 1 rfl) ?_
  refine va_get (D := D) (v := .int 6) (C := RX9) (T := TX9) (N := 36) hx hb hts iX9 hown hK.1 hP 0 rfl rfl 15 (by decide) (hts _ t_897) (fun _ h9 => h9) rfl dX9_clauseHere_11 ?_
  refine lv_bipush (v := 6) hx hb dX9_clauseHere_14 (by decide) ?_
  refine lv_icmp_ne (tgt := 23) hx hb dX9_clauseHere_16 (by decide) (fun c9 => absurd (by decide) c9) (fun c9 => ?_)
  refine lv_iconst (v := 1) hx hb dX9_clauseHere_19 (by decide) ?_
  refine lv_goto (tgt := 24) hx hb dX9_clauseHere_20 (by decide) ?_
  refine lv_istore_n (lv' := [(2, .int 1), (1, .int 0), (0, .ref q1)]) hx hb dX9_clauseHere_24 rfl hl (by decide) rfl (fun ls hl => ?_)
  refine lv_iload_n hx hb dX9_clauseHere_25 rfl (lv_at hl 0 rfl) ?_
  refine lv_if_eq (tgt := 67) hx hb dX9_clauseHere_26 (by decide) (fun c9 => absurd c9 (by decide)) (fun c9 => ?_)
  refine lv_aload_n hx hb dX9_clauseHere_29 rfl (lv_at hl 2 rfl) ?_
  refine lv_ldc2 hx hb hown (hts _ t_1020) dX9_clauseHere_30 ?_
  refine aftRi (runV (As := [.long 1953066341]) (rest := []) C (c_X9_isWord_0 l D a q1 q2 q3 q4 q5 q6 q7 q8 q9 q10 q11 q12 q13 q14 q15 q16 q17 q18 q19 q20 q21 q22 q23) lk_V_9_101 (okN_X9_isWord) ⟨Nat.le_of_ble_eq_true rfl, Nat.le_of_ble_eq_true rfl⟩ ⟨rfl, rfl⟩ (preV (preR hK (P_of_map (wc := [(q1, .inr (9, [.ref q2, .int 0, .int 0, .ref q3, .ref q4, .ref q5, .ref q6, .int (-1), .int 0, .int 0, .ref q7, .ref q8, .int 0, .int 0, .int 0, .int 6, .int 0, .int 0, .int 0, .ref q9, .int 0, .ref q10, .int 0, .ref q11, .ref q12, .ref q13, .ref q14, .ref q15, .ref q16, .ref q17, .ref q18, .ref q19, .ref q20, .ref q21, .ref q22, .ref q23]))]) hP [0] rfl)) (recvOf hK hP 0 rfl (ci := 9) rfl)) hl.1 rfl (Nat.le_of_ble_eq_true rfl) dX9_clauseHere_33 ⟨Nat.le_of_ble_eq_true rfl, Nat.le_of_ble_eq_true rfl⟩) (fun x2113 hw => ?_)
  obtain rfl := hw
  refine lv_if_ne (tgt := 59) hx hb dX9_clauseHere_36 (by decide) (fun c9 => absurd (by decide) c9) (fun c9 => ?_)
  refine lv_aload_n hx hb dX9_clauseHere_39 rfl (lv_at hl 2 rfl) ?_
  refine lv_ldc2 hx hb hown (hts _ t_1029) dX9_clauseHere_40 ?_
  refine aftRi (runV (As := [.long 1802071652]) (rest := []) C (c_X9_isWord_1 l D a q1 q2 q3 q4 q5 q6 q7 q8 q9 q10 q11 q12 q13 q14 q15 q16 q17 q18 q19 q20 q21 q22 q23) lk_V_9_101 (okN_X9_isWord) ⟨Nat.le_of_ble_eq_true rfl, Nat.le_of_ble_eq_true rfl⟩ ⟨rfl, rfl⟩ (preV (preR hK (P_of_map (wc := [(q1, .inr (9, [.ref q2, .int 0, .int 0, .ref q3, .ref q4, .ref q5, .ref q6, .int (-1), .int 0, .int 0, .ref q7, .ref q8, .int 0, .int 0, .int 0, .int 6, .int 0, .int 0, .int 0, .ref q9, .int 0, .ref q10, .int 0, .ref q11, .ref q12, .ref q13, .ref q14, .ref q15, .ref q16, .ref q17, .ref q18, .ref q19, .ref q20, .ref q21, .ref q22, .ref q23]))]) hP [0] rfl)) (recvOf hK hP 0 rfl (ci := 9) rfl)) hl.1 rfl (Nat.le_of_ble_eq_true rfl) dX9_clauseHere_43 ⟨Nat.le_of_ble_eq_true rfl, Nat.le_of_ble_eq_true rfl⟩) (fun x2123 hw => ?_)
  obtain rfl := hw
  refine lv_if_ne (tgt := 59) hx hb dX9_clauseHere_46 (by decide) (fun c9 => absurd (by decide) c9) (fun c9 => ?_)
  refine lv_aload_n hx hb dX9_clauseHere_49 rfl (lv_at hl 2 rfl) ?_
  refine lv_ldc2 hx hb hown (hts _ t_1030) dX9_clauseHere_50 ?_
  refine aftRi (runV (As := [.long 439721749620]) (rest := []) C (c_X9_isWord_2 l D a q1 q2 q3 q4 q5 q6 q7 q8 q9 q10 q11 q12 q13 q14 q15 q16 q17 q18 q19 q20 q21 q22 q23) lk_V_9_101 (okN_X9_isWord) ⟨Nat.le_of_ble_eq_true rfl, Nat.le_of_ble_eq_true rfl⟩ ⟨rfl, rfl⟩ (preV (preR hK (P_of_map (wc := [(q1, .inr (9, [.ref q2, .int 0, .int 0, .ref q3, .ref q4, .ref q5, .ref q6, .int (-1), .int 0, .int 0, .ref q7, .ref q8, .int 0, .int 0, .int 0, .int 6, .int 0, .int 0, .int 0, .ref q9, .int 0, .ref q10, .int 0, .ref q11, .ref q12, .ref q13, .ref q14, .ref q15, .ref q16, .ref q17, .ref q18, .ref q19, .ref q20, .ref q21, .ref q22, .ref q23]))]) hP [0] rfl)) (recvOf hK hP 0 rfl (ci := 9) rfl)) hl.1 rfl (Nat.le_of_ble_eq_true rfl) dX9_clauseHere_53 ⟨Nat.le_of_ble_eq_true rfl, Nat.le_of_ble_eq_true rfl⟩) (fun x2133 hw => ?_)
  obtain rfl := hw
  refine lv_if_eq (tgt := 63) hx hb dX9_clauseHere_56 (by decide) (fun c9 => ?_) (fun c9 => absurd (by decide) c9)
  refine lv_iconst (v := 0) hx hb dX9_clauseHere_63 (by decide) ?_
  refine lv_goto (tgt := 92) hx hb dX9_clauseHere_64 (by decide) ?_
  refine lv_istore_n (lv' := [(3, .int 0), (2, .int 1), (1, .int 0), (0, .ref q1)]) hx hb dX9_clauseHere_92 rfl hl (by decide) rfl (fun ls hl => ?_)
  refine lv_iload_n hx hb dX9_clauseHere_93 rfl (lv_at hl 0 rfl) ?_
  refine lv_if_ne (tgt := 104) hx hb dX9_clauseHere_94 (by decide) (fun c9 => absurd (by decide) c9) (fun c9 => ?_)
  refine lv_aload_n hx hb dX9_clauseHere_97 rfl (lv_at hl 3 rfl) ?_
  refine lv_iconst (v := 0) hx hb dX9_clauseHere_98 (by decide) ?_
  refine lv_iload_n hx hb dX9_clauseHere_99 rfl (lv_at hl 2 rfl) ?_
  refine afMi (runV (As := [.int 0, .int 0]) (rest := []) C (c_X9_fails_0 l D a q1 q2 q3 q4 q5 q6 q7 q8 q9 q10 q11 q12 q13 q14 q15 q16 q17 q18 q19 q20 q21 q22 q23 s.heap.size) lk_V_9_111 (okN_X9_fails) ⟨Nat.le_of_ble_eq_true rfl, Nat.le_of_ble_eq_true rfl⟩ ⟨rfl, rfl⟩ (preV (preM hK (P_of_map (wc := [(q1, .inr (9, [.ref q2, .int 0, .int 0, .ref q3, .ref q4, .ref q5, .ref q6, .int (-1), .int 0, .int 0, .ref q7, .ref q8, .int 0, .int 0, .int 0, .int 6, .int 0, .int 0, .int 0, .ref q9, .int 0, .ref q10, .int 0, .ref q11, .ref q12, .ref q13, .ref q14, .ref q15, .ref q16, .ref q17, .ref q18, .ref q19, .ref q20, .ref q21, .ref q22, .ref q23]))]) hP [0] rfl) (hD.sub (ws' := [(q1, .inr (9, [.ref q2, .int 0, .int 0, .ref q3, .ref q4, .ref q5, .ref q6, .int (-1), .int 0, .int 0, .ref q7, .ref q8, .int 0, .int 0, .int 0, .int 6, .int 0, .int 0, .int 0, .ref q9, .int 0, .ref q10, .int 0, .ref q11, .ref q12, .ref q13, .ref q14, .ref q15, .ref q16, .ref q17, .ref q18, .ref q19, .ref q20, .ref q21, .ref q22, .ref q23]))]) [0] (by decide) rfl)) (recvOf hK hP 0 rfl (ci := 9) rfl)) hl.1 rfl (Nat.le_of_ble_eq_true rfl) dX9_clauseHere_100 ⟨Nat.le_of_ble_eq_true rfl, Nat.le_of_ble_eq_true rfl⟩) hP hD hS hA [0] [] (wr := []) rfl rfl (by decide) (by decide) (fun x2139 u H locs hw hP hD hS => ?_)
  obtain ⟨rfl, rfl⟩ := hw
  have hP : va_P D classes [(q1, .inr (9, [.ref q2, .int 0, .int 0, .ref q3, .ref q4, .ref q5, .ref q6, .int (-1), .int 0, .int 0, .ref q7, .ref q8, .int 0, .int 1, .int 0, .int 6, .int 0, .int 0, .int 0, .ref q9, .int 0, .ref q10, .int 0, .ref q11, .ref q12, .ref q13, .ref q14, .ref q15, .ref q16, .ref q17, .ref q18, .ref q19, .ref q20, .ref q21, .ref q22, .ref q23]))] H := hP
  have hD : va_D A [(q1, .inr (9, [.ref q2, .int 0, .int 0, .ref q3, .ref q4, .ref q5, .ref q6, .int (-1), .int 0, .int 0, .ref q7, .ref q8, .int 0, .int 1, .int 0, .int 6, .int 0, .int 0, .int 0, .ref q9, .int 0, .ref q10, .int 0, .ref q11, .ref q12, .ref q13, .ref q14, .ref q15, .ref q16, .ref q17, .ref q18, .ref q19, .ref q20, .ref q21, .ref q22, .ref q23]))] := hD
  exact retMz C rfl (by decide) (0, [], [], [], [], []) ⟨rfl, rfl⟩ hP hD hS (Nat.le_of_ble_eq_true rfl) (Nat.le_of_ble_eq_true rfl) dX9_clauseHere_103

set_option maxHeartbeats 4000000 in
set_option maxRecDepth 100000 in
theorem c_X9_readsAll_0 (l : Launch) (D : va_G) (a : Nat → ClassId) (q1 q2 q3 q4 q5 q6 q7 q8 q9 q10 q11 q12 q13 q14 q15 q16 q17 q18 q19 q20 q21 q22 q23 : Nat) (sz : Nat) : CMi (S := SS) l MX9_readsAll 3 69 0 0 D a [.ref q1] [(q1, .inr (9, [.ref q2, .int 0, .int 0, .ref q3, .ref q4, .ref q5, .ref q6, .int (-1), .int 0, .int 0, .ref q7, .ref q8, .int 0, .int 0, .int 0, .int 6, .int 0, .int 0, .int 0, .ref q9, .int 0, .ref q10, .int 0, .ref q11, .ref q12, .ref q13, .ref q14, .ref q15, .ref q16, .ref q17, .ref q18, .ref q19, .ref q20, .ref q21, .ref q22, .ref q23])), (q4, .inl (a 0, 7, .inl (fun _ => 0)))] sz (fun r u => (u = (0, [], [], [], [], []) ∧ r = 0)) (fun u => pk [[(q4, .inl (a 0, 7, .inl (upd (fun _ => 0) 6 0))), (q1, .inr (9, [.ref q2, .int 0, .int 0, .ref q3, .ref q4, .ref q5, .ref q6, .int (-1), .int 0, .int 0, .ref q7, .ref q8, .int 0, .int 1, .int 0, .int 6, .int 0, .int 0, .int 0, .ref q9, .int 0, .ref q10, .int 0, .ref q11, .ref q12, .ref q13, .ref q14, .ref q15, .ref q16, .ref q17, .ref q18, .ref q19, .ref q20, .ref q21, .ref q22, .ref q23]))]] u.1) := by
  refine entMi (by decide) (Nat.le_of_ble_eq_true rfl) ?_
  intro p e s m below meth c C hK A hA hP hD ls hl
  obtain ⟨hx, hb, hml, hown, hts, hr, hlocks, hnm⟩ := id C
  have hb : c.code = cX9_readsAll := hb
  have hown : s.vm.findClass RX9 = some m.cls := hown
  have hS : va_S A s.heap s.heap [] := va_S.rf
  have hl : lv_has ls 2 [(0, .ref q1)] := hl
  refine lv_aload_n hx hb dX9_readsAll_0 rfl (lv_at hl 0 rfl) ?_
  refine va_get (D := D) (v := .ref q4) (C := RX9) (T := TX9) (N := 36) hx hb hts iX9 hown hK.1 hP 0 rfl rfl 4 (by decide) (hts _ t_886) (fun _ h9 => h9) rfl dX9_readsAll_1 ?_
  refine lv_aload_n hx hb dX9_readsAll_4 rfl (lv_at hl 0 rfl) ?_
  refine va_get (D := D) (v := .int 6) (C := RX9) (T := TX9) (N := 36) hx hb hts iX9 hown hK.1 hP 0 rfl rfl 15 (by decide) (hts _ t_897) (fun _ h9 => h9) rfl dX9_readsAll_5 ?_
  refine lv_iconst (v := 0) hx hb dX9_readsAll_8 (by decide) ?_
  refine ast_i hx hb hK.1 hP hD hS 1 0 rfl rfl 6 (ix_lit (by decide)) dX9_readsAll_9 (fun H locs hP hD hS => ?_)
  have hP : va_P D classes [(q1, .inr (9, [.ref q2, .int 0, .int 0, .ref q3, .ref q4, .ref q5, .ref q6, .int (-1), .int 0, .int 0, .ref q7, .ref q8, .int 0, .int 0, .int 0, .int 6, .int 0, .int 0, .int 0, .ref q9, .int 0, .ref q10, .int 0, .ref q11, .ref q12, .ref q13, .ref q14, .ref q15, .ref q16, .ref q17, .ref q18, .ref q19, .ref q20, .ref q21, .ref q22, .ref q23])), (q4, .inl (a 0, 7, .inl (upd (fun _ => 0) 6 0)))] H := hP
  have hD : va_D A [(q1, .inr (9, [.ref q2, .int 0, .int 0, .ref q3, .ref q4, .ref q5, .ref q6, .int (-1), .int 0, .int 0, .ref q7, .ref q8, .int 0, .int 0, .int 0, .int 6, .int 0, .int 0, .int 0, .ref q9, .int 0, .ref q10, .int 0, .ref q11, .ref q12, .ref q13, .ref q14, .ref q15, .ref q16, .ref q17, .ref q18, .ref q19, .ref q20, .ref q21, .ref q22, .ref q23])), (q4, .inl (a 0, 7, .inl (upd (fun _ => 0) 6 0)))] := hD
  refine lv_aload_n hx hb dX9_readsAll_10 rfl (lv_at hl 0 rfl) ?_
  refine lv_iconst (v := 0) hx hb dX9_readsAll_11 (by decide) ?_
  refine va_put (D := D) (v := .int 0) (C := RX9) (T := TX9) (N := 36) hx hb hts iX9 tyX9 tyX9_ok nmX9 hown hK.1 hP hD hS 0 rfl rfl 18 (by decide) (hts _ t_900) (fun _ h9 => h9) rfl (tyX9_ok 18 (by decide)) rfl rfl (Nat.le_of_ble_eq_true rfl) dX9_readsAll_12 (fun H locs hP hD hS => ?_)
  have hP : va_P D classes [(q1, .inr (9, [.ref q2, .int 0, .int 0, .ref q3, .ref q4, .ref q5, .ref q6, .int (-1), .int 0, .int 0, .ref q7, .ref q8, .int 0, .int 0, .int 0, .int 6, .int 0, .int 0, .int 0, .ref q9, .int 0, .ref q10, .int 0, .ref q11, .ref q12, .ref q13, .ref q14, .ref q15, .ref q16, .ref q17, .ref q18, .ref q19, .ref q20, .ref q21, .ref q22, .ref q23])), (q4, .inl (a 0, 7, .inl (upd (fun _ => 0) 6 0)))] H := hP
  have hD : va_D A [(q1, .inr (9, [.ref q2, .int 0, .int 0, .ref q3, .ref q4, .ref q5, .ref q6, .int (-1), .int 0, .int 0, .ref q7, .ref q8, .int 0, .int 0, .int 0, .int 6, .int 0, .int 0, .int 0, .ref q9, .int 0, .ref q10, .int 0, .ref q11, .ref q12, .ref q13, .ref q14, .ref q15, .ref q16, .ref q17, .ref q18, .ref q19, .ref q20, .ref q21, .ref q22, .ref q23])), (q4, .inl (a 0, 7, .inl (upd (fun _ => 0) 6 0)))] := hD
  refine lv_aload_n hx hb dX9_readsAll_15 rfl (lv_at hl 0 rfl) ?_
  refine lv_iconst (v := 0) hx hb dX9_readsAll_16 (by decide) ?_
  refine va_put (D := D) (v := .int 0) (C := RX9) (T := TX9) (N := 36) hx hb hts iX9 tyX9 tyX9_ok nmX9 hown hK.1 hP hD hS 0 rfl rfl 12 (by decide) (hts _ t_894) (fun _ h9 => h9) rfl (tyX9_ok 12 (by decide)) rfl rfl (Nat.le_of_ble_eq_true rfl) dX9_readsAll_17 (fun H locs hP hD hS => ?_)
  have hP : va_P D classes [(q1, .inr (9, [.ref q2, .int 0, .int 0, .ref q3, .ref q4, .ref q5, .ref q6, .int (-1), .int 0, .int 0, .ref q7, .ref q8, .int 0, .int 0, .int 0, .int 6, .int 0, .int 0, .int 0, .ref q9, .int 0, .ref q10, .int 0, .ref q11, .ref q12, .ref q13, .ref q14, .ref q15, .ref q16, .ref q17, .ref q18, .ref q19, .ref q20, .ref q21, .ref q22, .ref q23])), (q4, .inl (a 0, 7, .inl (upd (fun _ => 0) 6 0)))] H := hP
  have hD : va_D A [(q1, .inr (9, [.ref q2, .int 0, .int 0, .ref q3, .ref q4, .ref q5, .ref q6, .int (-1), .int 0, .int 0, .ref q7, .ref q8, .int 0, .int 0, .int 0, .int 6, .int 0, .int 0, .int 0, .ref q9, .int 0, .ref q10, .int 0, .ref q11, .ref q12, .ref q13, .ref q14, .ref q15, .ref q16, .ref q17, .ref q18, .ref q19, .ref q20, .ref q21, .ref q22, .ref q23])), (q4, .inl (a 0, 7, .inl (upd (fun _ => 0) 6 0)))] := hD
  refine lv_aload_n hx hb dX9_readsAll_20 rfl (lv_at hl 0 rfl) ?_
  refine lv_iconst (v := 0) hx hb dX9_readsAll_21 (by decide) ?_
  refine va_put (D := D) (v := .int 0) (C := RX9) (T := TX9) (N := 36) hx hb hts iX9 tyX9 tyX9_ok nmX9 hown hK.1 hP hD hS 0 rfl rfl 13 (by decide) (hts _ t_895) (fun _ h9 => h9) rfl (tyX9_ok 13 (by decide)) rfl rfl (Nat.le_of_ble_eq_true rfl) dX9_readsAll_22 (fun H locs hP hD hS => ?_)
  have hP : va_P D classes [(q1, .inr (9, [.ref q2, .int 0, .int 0, .ref q3, .ref q4, .ref q5, .ref q6, .int (-1), .int 0, .int 0, .ref q7, .ref q8, .int 0, .int 0, .int 0, .int 6, .int 0, .int 0, .int 0, .ref q9, .int 0, .ref q10, .int 0, .ref q11, .ref q12, .ref q13, .ref q14, .ref q15, .ref q16, .ref q17, .ref q18, .ref q19, .ref q20, .ref q21, .ref q22, .ref q23])), (q4, .inl (a 0, 7, .inl (upd (fun _ => 0) 6 0)))] H := hP
  have hD : va_D A [(q1, .inr (9, [.ref q2, .int 0, .int 0, .ref q3, .ref q4, .ref q5, .ref q6, .int (-1), .int 0, .int 0, .ref q7, .ref q8, .int 0, .int 0, .int 0, .int 6, .int 0, .int 0, .int 0, .ref q9, .int 0, .ref q10, .int 0, .ref q11, .ref q12, .ref q13, .ref q14, .ref q15, .ref q16, .ref q17, .ref q18, .ref q19, .ref q20, .ref q21, .ref q22, .ref q23])), (q4, .inl (a 0, 7, .inl (upd (fun _ => 0) 6 0)))] := hD
  refine lv_aload_n hx hb dX9_readsAll_25 rfl (lv_at hl 0 rfl) ?_
  refine lv_iconst (v := 0) hx hb dX9_readsAll_26 (by decide) ?_
  refine va_put (D := D) (v := .int 0) (C := RX9) (T := TX9) (N := 36) hx hb hts iX9 tyX9 tyX9_ok nmX9 hown hK.1 hP hD hS 0 rfl rfl 16 (by decide) (hts _ t_898) (fun _ h9 => h9) rfl (tyX9_ok 16 (by decide)) rfl rfl (Nat.le_of_ble_eq_true rfl) dX9_readsAll_27 (fun H locs hP hD hS => ?_)
  have hP : va_P D classes [(q1, .inr (9, [.ref q2, .int 0, .int 0, .ref q3, .ref q4, .ref q5, .ref q6, .int (-1), .int 0, .int 0, .ref q7, .ref q8, .int 0, .int 0, .int 0, .int 6, .int 0, .int 0, .int 0, .ref q9, .int 0, .ref q10, .int 0, .ref q11, .ref q12, .ref q13, .ref q14, .ref q15, .ref q16, .ref q17, .ref q18, .ref q19, .ref q20, .ref q21, .ref q22, .ref q23])), (q4, .inl (a 0, 7, .inl (upd (fun _ => 0) 6 0)))] H := hP
  have hD : va_D A [(q1, .inr (9, [.ref q2, .int 0, .int 0, .ref q3, .ref q4, .ref q5, .ref q6, .int (-1), .int 0, .int 0, .ref q7, .ref q8, .int 0, .int 0, .int 0, .int 6, .int 0, .int 0, .int 0, .ref q9, .int 0, .ref q10, .int 0, .ref q11, .ref q12, .ref q13, .ref q14, .ref q15, .ref q16, .ref q17, .ref q18, .ref q19, .ref q20, .ref q21, .ref q22, .ref q23])), (q4, .inl (a 0, 7, .inl (upd (fun _ => 0) 6 0)))] := hD
  refine lv_aload_n hx hb dX9_readsAll_30 rfl (lv_at hl 0 rfl) ?_
  refine afMi (runV (As := []) (rest := []) C (c_X9_clauseHere_0 l D a q1 q2 q3 q4 q5 q6 q7 q8 q9 q10 q11 q12 q13 q14 q15 q16 q17 q18 q19 q20 q21 q22 q23 H.size) lk_V_9_244 (okN_X9_clauseHere) ⟨Nat.le_of_ble_eq_true rfl, Nat.le_of_ble_eq_true rfl⟩ ⟨rfl, rfl⟩ (preV (preM hK (P_of_map (wc := [(q1, .inr (9, [.ref q2, .int 0, .int 0, .ref q3, .ref q4, .ref q5, .ref q6, .int (-1), .int 0, .int 0, .ref q7, .ref q8, .int 0, .int 0, .int 0, .int 6, .int 0, .int 0, .int 0, .ref q9, .int 0, .ref q10, .int 0, .ref q11, .ref q12, .ref q13, .ref q14, .ref q15, .ref q16, .ref q17, .ref q18, .ref q19, .ref q20, .ref q21, .ref q22, .ref q23]))]) hP [0] rfl) (hD.sub (ws' := [(q1, .inr (9, [.ref q2, .int 0, .int 0, .ref q3, .ref q4, .ref q5, .ref q6, .int (-1), .int 0, .int 0, .ref q7, .ref q8, .int 0, .int 0, .int 0, .int 6, .int 0, .int 0, .int 0, .ref q9, .int 0, .ref q10, .int 0, .ref q11, .ref q12, .ref q13, .ref q14, .ref q15, .ref q16, .ref q17, .ref q18, .ref q19, .ref q20, .ref q21, .ref q22, .ref q23]))]) [0] (by decide) rfl)) (recvOf hK hP 0 rfl (ci := 9) rfl)) hl.1 rfl (Nat.le_of_ble_eq_true rfl) dX9_readsAll_31 ⟨Nat.le_of_ble_eq_true rfl, Nat.le_of_ble_eq_true rfl⟩) hP hD hS hA [0] [1] (wr := [(q4, .inl (a 0, 7, .inl (upd (fun _ => 0) 6 0)))]) rfl rfl (by decide) (by decide) (fun x2184 u H locs hw hP hD hS => ?_)
  obtain ⟨rfl, rfl⟩ := hw
  have hP : va_P D classes [(q4, .inl (a 0, 7, .inl (upd (fun _ => 0) 6 0))), (q1, .inr (9, [.ref q2, .int 0, .int 0, .ref q3, .ref q4, .ref q5, .ref q6, .int (-1), .int 0, .int 0, .ref q7, .ref q8, .int 0, .int 1, .int 0, .int 6, .int 0, .int 0, .int 0, .ref q9, .int 0, .ref q10, .int 0, .ref q11, .ref q12, .ref q13, .ref q14, .ref q15, .ref q16, .ref q17, .ref q18, .ref q19, .ref q20, .ref q21, .ref q22, .ref q23]))] H := hP
  have hD : va_D A [(q4, .inl (a 0, 7, .inl (upd (fun _ => 0) 6 0))), (q1, .inr (9, [.ref q2, .int 0, .int 0, .ref q3, .ref q4, .ref q5, .ref q6, .int (-1), .int 0, .int 0, .ref q7, .ref q8, .int 0, .int 1, .int 0, .int 6, .int 0, .int 0, .int 0, .ref q9, .int 0, .ref q10, .int 0, .ref q11, .ref q12, .ref q13, .ref q14, .ref q15, .ref q16, .ref q17, .ref q18, .ref q19, .ref q20, .ref q21, .ref q22, .ref q23]))] := hD
  refine lv_istore_n (lv' := [(1, .int 0), (0, .ref q1)]) hx hb dX9_readsAll_34 rfl hl (by decide) rfl (fun ls hl => ?_)
  refine lv_iload_n hx hb dX9_readsAll_35 rfl (lv_at hl 0 rfl) ?_
  refine lv_if_eq (tgt := 66) hx hb dX9_readsAll_36 (by decide) (fun c9 => ?_) (fun c9 => absurd (by decide) c9)
  refine lv_iload_n hx hb dX9_readsAll_66 rfl (lv_at hl 0 rfl) ?_
  refine lv_if_eq (tgt := 88) hx hb dX9_readsAll_67 (by decide) (fun c9 => ?_) (fun c9 => absurd (by decide) c9)
  refine lv_iload_n hx hb dX9_readsAll_88 rfl (lv_at hl 0 rfl) ?_
  refine lv_if_eq (tgt := 118) hx hb dX9_readsAll_89 (by decide) (fun c9 => ?_) (fun c9 => absurd (by decide) c9)
  refine lv_aload_n hx hb dX9_readsAll_118 rfl (lv_at hl 1 rfl) ?_
  refine lv_iconst (v := 0) hx hb dX9_readsAll_119 (by decide) ?_
  refine va_put (D := D) (v := .int 0) (C := RX9) (T := TX9) (N := 36) hx hb hts iX9 tyX9 tyX9_ok nmX9 hown hK.1 hP hD hS 1 rfl rfl 1 (by decide) (hts _ t_883) (fun _ h9 => h9) rfl (tyX9_ok 1 (by decide)) rfl rfl (Nat.le_of_ble_eq_true rfl) dX9_readsAll_120 (fun H locs hP hD hS => ?_)
  have hP : va_P D classes [(q4, .inl (a 0, 7, .inl (upd (fun _ => 0) 6 0))), (q1, .inr (9, [.ref q2, .int 0, .int 0, .ref q3, .ref q4, .ref q5, .ref q6, .int (-1), .int 0, .int 0, .ref q7, .ref q8, .int 0, .int 1, .int 0, .int 6, .int 0, .int 0, .int 0, .ref q9, .int 0, .ref q10, .int 0, .ref q11, .ref q12, .ref q13, .ref q14, .ref q15, .ref q16, .ref q17, .ref q18, .ref q19, .ref q20, .ref q21, .ref q22, .ref q23]))] H := hP
  have hD : va_D A [(q4, .inl (a 0, 7, .inl (upd (fun _ => 0) 6 0))), (q1, .inr (9, [.ref q2, .int 0, .int 0, .ref q3, .ref q4, .ref q5, .ref q6, .int (-1), .int 0, .int 0, .ref q7, .ref q8, .int 0, .int 1, .int 0, .int 6, .int 0, .int 0, .int 0, .ref q9, .int 0, .ref q10, .int 0, .ref q11, .ref q12, .ref q13, .ref q14, .ref q15, .ref q16, .ref q17, .ref q18, .ref q19, .ref q20, .ref q21, .ref q22, .ref q23]))] := hD
  refine lv_aload_n hx hb dX9_readsAll_123 rfl (lv_at hl 1 rfl) ?_
  refine va_get (D := D) (v := .int 1) (C := RX9) (T := TX9) (N := 36) hx hb hts iX9 hown hK.1 hP 1 rfl rfl 13 (by decide) (hts _ t_895) (fun _ h9 => h9) rfl dX9_readsAll_124 ?_
  refine lv_if_ne (tgt := 134) hx hb dX9_readsAll_127 (by decide) (fun c9 => ?_) (fun c9 => absurd c9 (by decide))
  refine lv_iconst (v := 0) hx hb dX9_readsAll_134 (by decide) ?_
  exact retMz C rfl (by decide) (0, [], [], [], [], []) ⟨rfl, rfl⟩ hP hD hS (Nat.le_of_ble_eq_true rfl) (Nat.le_of_ble_eq_true rfl) dX9_readsAll_135

set_option maxHeartbeats 4000000 in
set_option maxRecDepth 100000 in
theorem c_X9_work_0 (l : Launch) (D : va_G) (a : Nat → ClassId) (q1 q2 q3 q4 q5 q6 q7 q8 q9 q10 q11 q12 q13 q14 q15 q16 q17 q18 q19 q20 q21 q22 q23 : Nat) (sz : Nat) : CMi (S := SS) l MX9_work 4 90 0 0 D a [.ref q1] [(q1, .inr (9, [.ref q2, .int 0, .int 0, .ref q3, .ref q4, .ref q5, .ref q6, .int 0, .int 0, .int 0, .ref q7, .ref q8, .int 0, .int 0, .int 0, .int 0, .int 0, .int 0, .int 0, .ref q9, .int 0, .ref q10, .int 0, .ref q11, .ref q12, .ref q13, .ref q14, .ref q15, .ref q16, .ref q17, .ref q18, .ref q19, .ref q20, .ref q21, .ref q22, .ref q23])), (q4, .inl (a 0, 7, .inl (fun _ => 0)))] sz (fun r u => (u = (0, [], [], [], [], []) ∧ r = (-3))) (fun u => pk [[(q4, .inl (a 0, 7, .inl (upd (fun _ => 0) 6 0))), (q1, .inr (9, [.ref q2, .int 0, .int 0, .ref q3, .ref q4, .ref q5, .ref q6, .int (-1), .int 0, .int 0, .ref q7, .ref q8, .int 0, .int 1, .int 0, .int 6, .int 0, .int 0, .int 0, .ref q9, .int 0, .ref q10, .int 0, .ref q11, .ref q12, .ref q13, .ref q14, .ref q15, .ref q16, .ref q17, .ref q18, .ref q19, .ref q20, .ref q21, .ref q22, .ref q23]))]] u.1) := by
  refine entMi (by decide) (Nat.le_of_ble_eq_true rfl) ?_
  intro p e s m below meth c C hK A hA hP hD ls hl
  obtain ⟨hx, hb, hml, hown, hts, hr, hlocks, hnm⟩ := id C
  have hb : c.code = cX9_work := hb
  have hown : s.vm.findClass RX9 = some m.cls := hown
  have hS : va_S A s.heap s.heap [] := va_S.rf
  have hl : lv_has ls 3 [(0, .ref q1)] := hl
  refine lv_aload_n hx hb dX9_work_0 rfl (lv_at hl 0 rfl) ?_
  refine lv_bipush (v := 6) hx hb dX9_work_1 (by decide) ?_
  refine va_put (D := D) (v := .int 6) (C := RX9) (T := TX9) (N := 36) hx hb hts iX9 tyX9 tyX9_ok nmX9 hown hK.1 hP hD hS 0 rfl rfl 15 (by decide) (hts _ t_897) (fun _ h9 => h9) rfl (tyX9_ok 15 (by decide)) rfl rfl (Nat.le_of_ble_eq_true rfl) dX9_work_3 (fun H locs hP hD hS => ?_)
  have hP : va_P D classes [(q1, .inr (9, [.ref q2, .int 0, .int 0, .ref q3, .ref q4, .ref q5, .ref q6, .int 0, .int 0, .int 0, .ref q7, .ref q8, .int 0, .int 0, .int 0, .int 6, .int 0, .int 0, .int 0, .ref q9, .int 0, .ref q10, .int 0, .ref q11, .ref q12, .ref q13, .ref q14, .ref q15, .ref q16, .ref q17, .ref q18, .ref q19, .ref q20, .ref q21, .ref q22, .ref q23])), (q4, .inl (a 0, 7, .inl (fun _ => 0)))] H := hP
  have hD : va_D A [(q1, .inr (9, [.ref q2, .int 0, .int 0, .ref q3, .ref q4, .ref q5, .ref q6, .int 0, .int 0, .int 0, .ref q7, .ref q8, .int 0, .int 0, .int 0, .int 6, .int 0, .int 0, .int 0, .ref q9, .int 0, .ref q10, .int 0, .ref q11, .ref q12, .ref q13, .ref q14, .ref q15, .ref q16, .ref q17, .ref q18, .ref q19, .ref q20, .ref q21, .ref q22, .ref q23])), (q4, .inl (a 0, 7, .inl (fun _ => 0)))] := hD
  refine lv_aload_n hx hb dX9_work_6 rfl (lv_at hl 0 rfl) ?_
  refine lv_iconst (v := (-1)) hx hb dX9_work_7 (by decide) ?_
  refine va_put (D := D) (v := .int (-1)) (C := RX9) (T := TX9) (N := 36) hx hb hts iX9 tyX9 tyX9_ok nmX9 hown hK.1 hP hD hS 0 rfl rfl 7 (by decide) (hts _ t_889) (fun _ h9 => h9) rfl (tyX9_ok 7 (by decide)) rfl rfl (Nat.le_of_ble_eq_true rfl) dX9_work_8 (fun H locs hP hD hS => ?_)
  have hP : va_P D classes [(q1, .inr (9, [.ref q2, .int 0, .int 0, .ref q3, .ref q4, .ref q5, .ref q6, .int (-1), .int 0, .int 0, .ref q7, .ref q8, .int 0, .int 0, .int 0, .int 6, .int 0, .int 0, .int 0, .ref q9, .int 0, .ref q10, .int 0, .ref q11, .ref q12, .ref q13, .ref q14, .ref q15, .ref q16, .ref q17, .ref q18, .ref q19, .ref q20, .ref q21, .ref q22, .ref q23])), (q4, .inl (a 0, 7, .inl (fun _ => 0)))] H := hP
  have hD : va_D A [(q1, .inr (9, [.ref q2, .int 0, .int 0, .ref q3, .ref q4, .ref q5, .ref q6, .int (-1), .int 0, .int 0, .ref q7, .ref q8, .int 0, .int 0, .int 0, .int 6, .int 0, .int 0, .int 0, .ref q9, .int 0, .ref q10, .int 0, .ref q11, .ref q12, .ref q13, .ref q14, .ref q15, .ref q16, .ref q17, .ref q18, .ref q19, .ref q20, .ref q21, .ref q22, .ref q23])), (q4, .inl (a 0, 7, .inl (fun _ => 0)))] := hD
  refine lv_aload_n hx hb dX9_work_11 rfl (lv_at hl 0 rfl) ?_
  refine lv_iconst (v := 0) hx hb dX9_work_12 (by decide) ?_
  refine va_put (D := D) (v := .int 0) (C := RX9) (T := TX9) (N := 36) hx hb hts iX9 tyX9 tyX9_ok nmX9 hown hK.1 hP hD hS 0 rfl rfl 8 (by decide) (hts _ t_890) (fun _ h9 => h9) rfl (tyX9_ok 8 (by decide)) rfl rfl (Nat.le_of_ble_eq_true rfl) dX9_work_13 (fun H locs hP hD hS => ?_)
  have hP : va_P D classes [(q1, .inr (9, [.ref q2, .int 0, .int 0, .ref q3, .ref q4, .ref q5, .ref q6, .int (-1), .int 0, .int 0, .ref q7, .ref q8, .int 0, .int 0, .int 0, .int 6, .int 0, .int 0, .int 0, .ref q9, .int 0, .ref q10, .int 0, .ref q11, .ref q12, .ref q13, .ref q14, .ref q15, .ref q16, .ref q17, .ref q18, .ref q19, .ref q20, .ref q21, .ref q22, .ref q23])), (q4, .inl (a 0, 7, .inl (fun _ => 0)))] H := hP
  have hD : va_D A [(q1, .inr (9, [.ref q2, .int 0, .int 0, .ref q3, .ref q4, .ref q5, .ref q6, .int (-1), .int 0, .int 0, .ref q7, .ref q8, .int 0, .int 0, .int 0, .int 6, .int 0, .int 0, .int 0, .ref q9, .int 0, .ref q10, .int 0, .ref q11, .ref q12, .ref q13, .ref q14, .ref q15, .ref q16, .ref q17, .ref q18, .ref q19, .ref q20, .ref q21, .ref q22, .ref q23])), (q4, .inl (a 0, 7, .inl (fun _ => 0)))] := hD
  refine lv_aload_n hx hb dX9_work_16 rfl (lv_at hl 0 rfl) ?_
  refine lv_iconst (v := 0) hx hb dX9_work_17 (by decide) ?_
  refine va_put (D := D) (v := .int 0) (C := RX9) (T := TX9) (N := 36) hx hb hts iX9 tyX9 tyX9_ok nmX9 hown hK.1 hP hD hS 0 rfl rfl 9 (by decide) (hts _ t_891) (fun _ h9 => h9) rfl (tyX9_ok 9 (by decide)) rfl rfl (Nat.le_of_ble_eq_true rfl) dX9_work_18 (fun H locs hP hD hS => ?_)
  have hP : va_P D classes [(q1, .inr (9, [.ref q2, .int 0, .int 0, .ref q3, .ref q4, .ref q5, .ref q6, .int (-1), .int 0, .int 0, .ref q7, .ref q8, .int 0, .int 0, .int 0, .int 6, .int 0, .int 0, .int 0, .ref q9, .int 0, .ref q10, .int 0, .ref q11, .ref q12, .ref q13, .ref q14, .ref q15, .ref q16, .ref q17, .ref q18, .ref q19, .ref q20, .ref q21, .ref q22, .ref q23])), (q4, .inl (a 0, 7, .inl (fun _ => 0)))] H := hP
  have hD : va_D A [(q1, .inr (9, [.ref q2, .int 0, .int 0, .ref q3, .ref q4, .ref q5, .ref q6, .int (-1), .int 0, .int 0, .ref q7, .ref q8, .int 0, .int 0, .int 0, .int 6, .int 0, .int 0, .int 0, .ref q9, .int 0, .ref q10, .int 0, .ref q11, .ref q12, .ref q13, .ref q14, .ref q15, .ref q16, .ref q17, .ref q18, .ref q19, .ref q20, .ref q21, .ref q22, .ref q23])), (q4, .inl (a 0, 7, .inl (fun _ => 0)))] := hD
  refine lv_aload_n hx hb dX9_work_21 rfl (lv_at hl 0 rfl) ?_
  refine afMi (runV (As := []) (rest := []) C (c_X9_readsAll_0 l D a q1 q2 q3 q4 q5 q6 q7 q8 q9 q10 q11 q12 q13 q14 q15 q16 q17 q18 q19 q20 q21 q22 q23 H.size) lk_V_9_250 (okN_X9_readsAll) ⟨Nat.le_of_ble_eq_true rfl, Nat.le_of_ble_eq_true rfl⟩ ⟨rfl, rfl⟩ (preV (preM hK (P_of_map (wc := [(q1, .inr (9, [.ref q2, .int 0, .int 0, .ref q3, .ref q4, .ref q5, .ref q6, .int (-1), .int 0, .int 0, .ref q7, .ref q8, .int 0, .int 0, .int 0, .int 6, .int 0, .int 0, .int 0, .ref q9, .int 0, .ref q10, .int 0, .ref q11, .ref q12, .ref q13, .ref q14, .ref q15, .ref q16, .ref q17, .ref q18, .ref q19, .ref q20, .ref q21, .ref q22, .ref q23])), (q4, .inl (a 0, 7, .inl (fun _ => 0)))]) hP [0, 1] rfl) (hD.sub (ws' := [(q1, .inr (9, [.ref q2, .int 0, .int 0, .ref q3, .ref q4, .ref q5, .ref q6, .int (-1), .int 0, .int 0, .ref q7, .ref q8, .int 0, .int 0, .int 0, .int 6, .int 0, .int 0, .int 0, .ref q9, .int 0, .ref q10, .int 0, .ref q11, .ref q12, .ref q13, .ref q14, .ref q15, .ref q16, .ref q17, .ref q18, .ref q19, .ref q20, .ref q21, .ref q22, .ref q23])), (q4, .inl (a 0, 7, .inl (fun _ => 0)))]) [0, 1] (by decide) rfl)) (recvOf hK hP 0 rfl (ci := 9) rfl)) hl.1 rfl (Nat.le_of_ble_eq_true rfl) dX9_work_22 ⟨Nat.le_of_ble_eq_true rfl, Nat.le_of_ble_eq_true rfl⟩) hP hD hS hA [0, 1] [] (wr := []) rfl rfl (by decide) (by decide) (fun x2194 u H locs hw hP hD hS => ?_)
  obtain ⟨rfl, rfl⟩ := hw
  have hP : va_P D classes [(q4, .inl (a 0, 7, .inl (upd (fun _ => 0) 6 0))), (q1, .inr (9, [.ref q2, .int 0, .int 0, .ref q3, .ref q4, .ref q5, .ref q6, .int (-1), .int 0, .int 0, .ref q7, .ref q8, .int 0, .int 1, .int 0, .int 6, .int 0, .int 0, .int 0, .ref q9, .int 0, .ref q10, .int 0, .ref q11, .ref q12, .ref q13, .ref q14, .ref q15, .ref q16, .ref q17, .ref q18, .ref q19, .ref q20, .ref q21, .ref q22, .ref q23]))] H := hP
  have hD : va_D A [(q4, .inl (a 0, 7, .inl (upd (fun _ => 0) 6 0))), (q1, .inr (9, [.ref q2, .int 0, .int 0, .ref q3, .ref q4, .ref q5, .ref q6, .int (-1), .int 0, .int 0, .ref q7, .ref q8, .int 0, .int 1, .int 0, .int 6, .int 0, .int 0, .int 0, .ref q9, .int 0, .ref q10, .int 0, .ref q11, .ref q12, .ref q13, .ref q14, .ref q15, .ref q16, .ref q17, .ref q18, .ref q19, .ref q20, .ref q21, .ref q22, .ref q23]))] := hD
  refine lv_if_ne (tgt := 36) hx hb dX9_work_25 (by decide) (fun c9 => absurd (by decide) c9) (fun c9 => ?_)
  refine lv_bipush (v := (-2)) hx hb dX9_work_28 (by decide) ?_
  refine lv_aload_n hx hb dX9_work_30 rfl (lv_at hl 0 rfl) ?_
  refine va_get (D := D) (v := .int 1) (C := RX9) (T := TX9) (N := 36) hx hb hts iX9 hown hK.1 hP 1 rfl rfl 13 (by decide) (hts _ t_895) (fun _ h9 => h9) rfl dX9_work_31 ?_
  refine lv_isub hx hb dX9_work_34 ?_
  refine lv_topi (fun x2197 ex2197 => ?_)
  obtain rfl : x2197 = (-3) := ex2197.trans (by decide)
  exact retMi C rfl (0, [], [], [], [], []) ⟨rfl, rfl⟩ hP hD hS (Nat.le_of_ble_eq_true rfl) (Nat.le_of_ble_eq_true rfl) dX9_work_35

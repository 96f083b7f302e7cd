set_option maxHeartbeats 4000000 in
set_option maxRecDepth 100000 in
theorem mX8_game (l : Launch) (D : va_G) (a : Nat → ClassId) {q_t : Nat} {Q_t : Nat → Nat} {z_t : Sx} {Q_t_5 : Nat → Nat} {z_t_5 : Sx} {x1 : Int32} {x2 : Int32} {y : Int32 × Sx} (h : fX8_game z_t z_t_5 x1 x2 = some y) (sz : Nat) : CMi (S := Unit) l MX8_game 0 0 0 0 D a [.ref q_t, .int x1, .int x2] (rc8 a q_t Q_t z_t ++ (rc5 a (Q_t 5) Q_t_5 z_t_5)) sz (fun r _ => r = y.1) (fun _ => rc8 a q_t Q_t z_t ++ (rc5 a (Q_t 5) Q_t_5 y.2)) := by
  unfold fX8_game at h
  refine entMi (by decide) (Nat.le_of_ble_eq_true rfl) ?_
  intro p e s m below meth c C hK A hA hP hD ls hl
  obtain ⟨hx, hb, hml, hown, hts, hr, hlocks, hnm⟩ := id C
  have hb : c.code = cX8_game := hb
  have hown : s.vm.findClass RX8 = some m.cls := hown
  have hS : va_S A s.heap s.heap [] := va_S.rf
  have hl : lv_has ls 4 [(0, .ref q_t), (1, .int x1), (2, .int x2)] := hl
  refine lv_iload_n hx hb dX8_game_0 rfl (lv_at hl 1 rfl) ?_
  refine lv_if_lt (tgt := 28) hx hb dX8_game_1 (by decide) (fun c1 => ?_) (fun c1 => ?_)
  · have h := ite_t c1 h
    refine lv_sipush (v := (-1000)) hx hb dX8_game_28 (by decide) ?_
    exact rMi C rfl h (g := fun y => rc8 a q_t Q_t z_t ++ (rc5 a (Q_t 5) Q_t_5 y.2)) (pr := fun y => y.1) hP hD hS dX8_game_31
  · have h := ite_f c1 h
    refine lv_iload_n hx hb dX8_game_4 rfl (lv_at hl 1 rfl) ?_
    refine lv_aload_n hx hb dX8_game_5 rfl (lv_at hl 0 rfl) ?_
    refine va_get (D := D) (v := .ref (Q_t 5)) (C := RX8) (T := TX8) (N := 11) hx hb hts iX8 hown hK.1 hP 0 rfl rfl 5 (by decide) (hts _ t_305) (fun _ h9 => h9) rfl dX8_game_6 ?_
    refine va_get (D := D) (v := .ref (Q_t_5 7)) (C := RX5) (T := TX5) (N := 8) hx hb hts iX5 hown hK.1 hP 2 rfl rfl 7 (by decide) (hts _ t_175) (fun _ h9 => h9) rfl dX8_game_9 ?_
    refine va_alen (v := 8) hx hb hK.1 hP 4 0 rfl rfl rfl dX8_game_12 ?_
    refine lv_icmp_ge (tgt := 28) hx hb dX8_game_13 (by decide) (fun c2 => ?_) (fun c2 => ?_)
    · have h := ite_t c2 h
      refine lv_sipush (v := (-1000)) hx hb dX8_game_28 (by decide) ?_
      exact rMi C rfl h (g := fun y => rc8 a q_t Q_t z_t ++ (rc5 a (Q_t 5) Q_t_5 y.2)) (pr := fun y => y.1) hP hD hS dX8_game_31
    · have h := ite_f c2 h
      refine lv_iload_n hx hb dX8_game_16 rfl (lv_at hl 2 rfl) ?_
      refine lv_bipush (v := (-99)) hx hb dX8_game_17 (by decide) ?_
      refine lv_icmp_lt (tgt := 28) hx hb dX8_game_19 (by decide) (fun c3 => ?_) (fun c3 => ?_)
      · have h := ite_t c3 h
        refine lv_sipush (v := (-1000)) hx hb dX8_game_28 (by decide) ?_
        exact rMi C rfl h (g := fun y => rc8 a q_t Q_t z_t ++ (rc5 a (Q_t 5) Q_t_5 y.2)) (pr := fun y => y.1) hP hD hS dX8_game_31
      · have h := ite_f c3 h
        refine lv_iload_n hx hb dX8_game_22 rfl (lv_at hl 2 rfl) ?_
        refine lv_bipush (v := 99) hx hb dX8_game_23 (by decide) ?_
        refine lv_icmp_le (tgt := 32) hx hb dX8_game_25 (by decide) (fun c4 => ?_) (fun c4 => ?_)
        · have h := ite_t c4 h
          refine lv_aload_n hx hb dX8_game_32 rfl (lv_at hl 0 rfl) ?_
          refine va_get (D := D) (v := .ref (Q_t 5)) (C := RX8) (T := TX8) (N := 11) hx hb hts iX8 hown hK.1 hP 0 rfl rfl 5 (by decide) (hts _ t_305) (fun _ h9 => h9) rfl dX8_game_33 ?_
          refine va_get (D := D) (v := .ref (Q_t_5 7)) (C := RX5) (T := TX5) (N := 8) hx hb hts iX5 hown hK.1 hP 2 rfl rfl 7 (by decide) (hts _ t_175) (fun _ h9 => h9) rfl dX8_game_36 ?_
          refine lv_iload_n hx hb dX8_game_39 rfl (lv_at hl 1 rfl) ?_
          obtain ⟨g5, h⟩ := gd_some h
          refine ald_i hx hb hK.1 hP 4 0 rfl rfl x1.toNatClampNeg (ix_g g5) dX8_game_40 ?_
          refine lv_istore_n (lv' := [(3, .int (gT z_t_5 7 x1.toNatClampNeg)), (0, .ref q_t), (1, .int x1), (2, .int x2)]) hx hb dX8_game_41 rfl hl (by decide) rfl (fun ls hl => ?_)
          refine lv_aload_n hx hb dX8_game_42 rfl (lv_at hl 1 rfl) ?_
          refine va_get (D := D) (v := .ref (Q_t 5)) (C := RX8) (T := TX8) (N := 11) hx hb hts iX8 hown hK.1 hP 0 rfl rfl 5 (by decide) (hts _ t_305) (fun _ h9 => h9) rfl dX8_game_43 ?_
          refine va_get (D := D) (v := .ref (Q_t_5 7)) (C := RX5) (T := TX5) (N := 8) hx hb hts iX5 hown hK.1 hP 2 rfl rfl 7 (by decide) (hts _ t_175) (fun _ h9 => h9) rfl dX8_game_46 ?_
          refine lv_iload_n hx hb dX8_game_49 rfl (lv_at hl 2 rfl) ?_
          refine lv_iload_n hx hb dX8_game_50 rfl (lv_at hl 3 rfl) ?_
          refine ast_i hx hb hK.1 hP hD hS 4 0 rfl rfl x1.toNatClampNeg (ix_g g5) dX8_game_51 (fun H locs hP hD hS => ?_)
          have hP : va_P D classes (rc8 a q_t Q_t z_t ++ (rc5 a (Q_t 5) Q_t_5 (sT z_t_5 7 x1.toNatClampNeg x2))) H := hP
          have hD : va_D A (rc8 a q_t Q_t z_t ++ (rc5 a (Q_t 5) Q_t_5 (sT z_t_5 7 x1.toNatClampNeg x2))) := hD
          refine lv_iload_n hx hb dX8_game_52 rfl (lv_at hl 0 rfl) ?_
          exact rMi C rfl h (g := fun y => rc8 a q_t Q_t z_t ++ (rc5 a (Q_t 5) Q_t_5 y.2)) (pr := fun y => y.1) hP hD hS dX8_game_53
        · have h := ite_f c4 h
          refine lv_sipush (v := (-1000)) hx hb dX8_game_28 (by decide) ?_
          exact rMi C rfl h (g := fun y => rc8 a q_t Q_t z_t ++ (rc5 a (Q_t 5) Q_t_5 y.2)) (pr := fun y => y.1) hP hD hS dX8_game_31


set_option maxHeartbeats 4000000 in
set_option maxRecDepth 100000 in
theorem gmX4_readFact (l : Launch) (D : va_G) (a : Nat → ClassId) {F LO : Nat} {rec : Sx → Sx → Int32 → Option (Sx × Sx)} (hrec : ∀ {q_t : Nat} {Q_t : Nat → Nat} {z_t : Sx} {Q_t_0 : Nat → Nat} {z_t_0 : Sx} {x1 : Int32} {y9 : Sx × Sx}, rec z_t z_t_0 x1 = some y9 → ∀ (sz : Nat), CMv (S := Unit) l MX4_readFact F LO 0 0 D a [.ref q_t, .int x1] (rc4 a q_t Q_t z_t ++ (rc6 a (Q_t 0) Q_t_0 z_t_0)) sz (fun _ => True) (fun _ => rc4 a q_t Q_t y9.1 ++ (rc6 a (Q_t 0) Q_t_0 y9.2))) (hF : 4 ≤ F) (hL : 88 ≤ LO) {q_t : Nat} {Q_t : Nat → Nat} {z_t : Sx} {Q_t_0 : Nat → Nat} {z_t_0 : Sx} {x1 : Int32} {y : Sx × Sx} (h : gX4_readFact rec z_t z_t_0 x1 = some y) (sz : Nat) : CMv (S := Unit) l MX4_readFact (F + 2) (LO + 46) 0 0 D a [.ref q_t, .int x1] (rc4 a q_t Q_t z_t ++ (rc6 a (Q_t 0) Q_t_0 z_t_0)) sz (fun _ => True) (fun _ => rc4 a q_t Q_t y.1 ++ (rc6 a (Q_t 0) Q_t_0 y.2)) := by
  unfold gX4_readFact at h
  refine entMv (by decide) (Nat.le_of_ble_eq_true rfl) ?_
  intro p e s m below meth c C hK A hA hP hD ls hl
  obtain ⟨hx, hb, hml, hown, hts, hr, hlocks, hnm⟩ := id C
  have hb : c.code = cX4_readFact := hb
  have hown : s.vm.findClass RX4 = some m.cls := hown
  have hS : va_S A s.heap s.heap [] := va_S.rf
  have hl : lv_has ls 3 [(0, .ref q_t), (1, .int x1)] := hl
  refine lv_aload_n hx hb dX4_readFact_0 rfl (lv_at hl 0 rfl) ?_
  refine va_get (D := D) (v := .ref (Q_t 0)) (C := RX4) (T := TX4) (N := 8) hx hb hts iX4 hown hK.1 hP 0 rfl rfl 0 (by decide) (hts _ t_242) (fun _ h9 => h9) rfl dX4_readFact_1 ?_
  refine va_get (D := D) (v := .int (gI z_t_0 5)) (C := RX6) (T := TX6) (N := 9) hx hb hts iX6 hown hK.1 hP 5 rfl rfl 5 (by decide) (hts _ t_214) (fun _ h9 => h9) rfl dX4_readFact_4 ?_
  refine lv_sipush (v := 311) hx hb dX4_readFact_7 (by decide) ?_
  obtain ⟨J1, eJ1, h⟩ := jn_some h
  have hJ1 : ∀ (i2 : Int32) (H : Heap) (locs : List Loc) (ls : Array Slot), J1 i2 = some y → va_P D classes (rc4 a q_t Q_t z_t ++ (rc6 a (Q_t 0) Q_t_0 z_t_0)) H → va_D A (rc4 a q_t Q_t z_t ++ (rc6 a (Q_t 0) Q_t_0 z_t_0)) → va_S A s.heap H locs → lv_has ls 3 [(0, .ref q_t), (1, .int x1)] → W p l e (rmM (F + 2) 0 0 (LO + 46)) s m #[.ref q_t, .int x1] below meth c H locs 0 0 (MQ below (va_Qv (fun (_ : Unit) => True) (Bw D A (fun _ => rc4 a q_t Q_t y.1 ++ (rc6 a (Q_t 0) Q_t_0 y.2))) A) #[.ref q_t, .int x1] s 0 0 A) (F0 m 18 ls [.int i2]) := by
    intro i2 H locs ls h hP hD hS hl
    rw [eJ1] at h
    refine lv_istore_n (lv' := [(2, .int i2), (0, .ref q_t), (1, .int x1)]) hx hb dX4_readFact_18 rfl hl (by decide) rfl (fun ls hl => ?_)
    refine lv_iload_n hx hb dX4_readFact_19 rfl (lv_at hl 0 rfl) ?_
    obtain ⟨J3, eJ3, h⟩ := jn_some h
    have hJ3 : ∀ (H : Heap) (locs : List Loc) (ls : Array Slot), J3 = some y → va_P D classes (rc4 a q_t Q_t z_t ++ (rc6 a (Q_t 0) Q_t_0 z_t_0)) H → va_D A (rc4 a q_t Q_t z_t ++ (rc6 a (Q_t 0) Q_t_0 z_t_0)) → va_S A s.heap H locs → lv_has ls 3 [(0, .ref q_t), (1, .int x1), (2, .int i2)] → W p l e (rmM (F + 2) 0 0 (LO + 46)) s m #[.ref q_t, .int x1] below meth c H locs 0 0 (MQ below (va_Qv (fun (_ : Unit) => True) (Bw D A (fun _ => rc4 a q_t Q_t y.1 ++ (rc6 a (Q_t 0) Q_t_0 y.2))) A) #[.ref q_t, .int x1] s 0 0 A) (F0 m 40 ls []) := by
      intro H locs ls h hP hD hS hl
      rw [eJ3] at h
      refine lv_iload_n hx hb dX4_readFact_40 rfl (lv_at hl 1 rfl) ?_
      refine lv_bipush (v := 10) hx hb dX4_readFact_41 (by decide) ?_
      refine lv_icmp_lt (tgt := 55) hx hb dX4_readFact_43 (by decide) (fun c4 => ?_) (fun c4 => ?_)
      · have h := ite_t c4 h
        refine lv_aload_n hx hb dX4_readFact_55 rfl (lv_at hl 0 rfl) ?_
        refine va_get (D := D) (v := .ref (Q_t 0)) (C := RX4) (T := TX4) (N := 8) hx hb hts iX4 hown hK.1 hP 0 rfl rfl 0 (by decide) (hts _ t_242) (fun _ h9 => h9) rfl dX4_readFact_56 ?_
        obtain ⟨z6, hc5, h⟩ := bd_some h
        refine cMv (runV (As := []) (rest := []) C (mX6_step l D a (q_t := (Q_t 0)) (Q_t := Q_t_0) hc5 H.size) lk_V_4_72 okN_X6_step (by constructor; (show 0 + 1 ≤ F + 2; omega); (show 8 + (1 + 11) + (0) ≤ LO + 46; omega)) ⟨rfl, rfl⟩ (preV (preM hK (P_of_map (wc := rc6 a (Q_t 0) Q_t_0 z_t_0) hP [5, 6, 7, 8] rfl) (hD.sub (ws' := rc6 a (Q_t 0) Q_t_0 z_t_0) [5, 6, 7, 8] (by decide) rfl)) (recvOf hK hP 5 rfl (ci := 6) rfl)) hl.1 rfl (Nat.le_of_ble_eq_true rfl) dX4_readFact_59 ⟨Nat.le_of_ble_eq_true rfl, Nat.le_of_ble_eq_true rfl⟩) hP hD hS hA [5, 6, 7, 8] [0, 1, 2, 3, 4] [0, 1, 2, 3, 4, 5, 6, 7, 8] rfl rfl (by decide) (by decide) (fw := rc4 a q_t Q_t z_t ++ (rc6 a (Q_t 0) Q_t_0 z6)) rfl (by decide) (fun H locs hP hD hS => ?_)
        have hP : va_P D classes (rc4 a q_t Q_t z_t ++ (rc6 a (Q_t 0) Q_t_0 z6)) H := hP
        have hD : va_D A (rc4 a q_t Q_t z_t ++ (rc6 a (Q_t 0) Q_t_0 z6)) := hD
        refine lv_iload_n hx hb dX4_readFact_62 rfl (lv_at hl 2 rfl) ?_
        refine lv_if_eq (tgt := 81) hx hb dX4_readFact_63 (by decide) (fun c7 => ?_) (fun c7 => ?_)
        · have h := ite_t c7 h
          refine lv_aload_n hx hb dX4_readFact_81 rfl (lv_at hl 0 rfl) ?_
          refine lv_iload_n hx hb dX4_readFact_82 rfl (lv_at hl 1 rfl) ?_
          refine lv_iconst (v := 1) hx hb dX4_readFact_83 (by decide) ?_
          refine lv_iadd hx hb dX4_readFact_84 ?_
          obtain ⟨z9, z10, hc8, h⟩ := bd2_some h
          refine cWv (runV (As := [.int (x1 + 1)]) (rest := []) C (mX4_readTest l D a hrec (Nat.le_trans (by decide) hF) (Nat.le_trans (by decide) hL) (q_t := q_t) (Q_t := Q_t) (Q_t_0 := Q_t_0) hc8 H.size) lk_V_4_85 okN_X4_readTest (by constructor; (show F + 1 + 1 ≤ F + 2; omega); (show 8 + (5 + 11) + (LO + 22) ≤ LO + 46; omega)) ⟨rfl, rfl⟩ (preV (preM hK hP hD) (recvOf hK hP 0 rfl (ci := 4) rfl)) hl.1 rfl (Nat.le_of_ble_eq_true rfl) dX4_readFact_85 ⟨Nat.le_of_ble_eq_true rfl, Nat.le_of_ble_eq_true rfl⟩) hP hD hS hA (fun H locs hP hD hS => ?_)
          have hP : va_P D classes (rc4 a q_t Q_t z9 ++ (rc6 a (Q_t 0) Q_t_0 z10)) H := hP
          have hD : va_D A (rc4 a q_t Q_t z9 ++ (rc6 a (Q_t 0) Q_t_0 z10)) := hD
          refine lv_aload_n hx hb dX4_readFact_88 rfl (lv_at hl 0 rfl) ?_
          refine va_get (D := D) (v := .ref (Q_t 0)) (C := RX4) (T := TX4) (N := 8) hx hb hts iX4 hown hK.1 hP 0 rfl rfl 0 (by decide) (hts _ t_242) (fun _ h9 => h9) rfl dX4_readFact_89 ?_
          refine va_get (D := D) (v := .int (gI z10 8)) (C := RX6) (T := TX6) (N := 9) hx hb hts iX6 hown hK.1 hP 5 rfl rfl 8 (by decide) (hts _ t_220) (fun _ h9 => h9) rfl dX4_readFact_92 ?_
          obtain ⟨J11, eJ11, h⟩ := jn_some h
          have hJ11 : ∀ (H : Heap) (locs : List Loc) (ls : Array Slot), J11 = some y → va_P D classes (rc4 a q_t Q_t z9 ++ (rc6 a (Q_t 0) Q_t_0 z10)) H → va_D A (rc4 a q_t Q_t z9 ++ (rc6 a (Q_t 0) Q_t_0 z10)) → va_S A s.heap H locs → lv_has ls 3 [(0, .ref q_t)] → W p l e (rmM (F + 2) 0 0 (LO + 46)) s m #[.ref q_t, .int x1] below meth c H locs 0 0 (MQ below (va_Qv (fun (_ : Unit) => True) (Bw D A (fun _ => rc4 a q_t Q_t y.1 ++ (rc6 a (Q_t 0) Q_t_0 y.2))) A) #[.ref q_t, .int x1] s 0 0 A) (F0 m 119 ls []) := by
            intro H locs ls h hP hD hS hl
            rw [eJ11] at h
            refine lv_aload_n hx hb dX4_readFact_119 rfl (lv_at hl 0 rfl) ?_
            refine va_get (D := D) (v := .ref (Q_t 0)) (C := RX4) (T := TX4) (N := 8) hx hb hts iX4 hown hK.1 hP 0 rfl rfl 0 (by decide) (hts _ t_242) (fun _ h9 => h9) rfl dX4_readFact_120 ?_
            obtain ⟨z13, hc12, h⟩ := bd_some h
            refine cMv (runV (As := []) (rest := []) C (mX6_step l D a (q_t := (Q_t 0)) (Q_t := Q_t_0) hc12 H.size) lk_V_4_72 okN_X6_step (by constructor; (show 0 + 1 ≤ F + 2; omega); (show 8 + (1 + 11) + (0) ≤ LO + 46; omega)) ⟨rfl, rfl⟩ (preV (preM hK (P_of_map (wc := rc6 a (Q_t 0) Q_t_0 z10) hP [5, 6, 7, 8] rfl) (hD.sub (ws' := rc6 a (Q_t 0) Q_t_0 z10) [5, 6, 7, 8] (by decide) rfl)) (recvOf hK hP 5 rfl (ci := 6) rfl)) hl.1 rfl (Nat.le_of_ble_eq_true rfl) dX4_readFact_123 ⟨Nat.le_of_ble_eq_true rfl, Nat.le_of_ble_eq_true rfl⟩) hP hD hS hA [5, 6, 7, 8] [0, 1, 2, 3, 4] [0, 1, 2, 3, 4, 5, 6, 7, 8] rfl rfl (by decide) (by decide) (fw := rc4 a q_t Q_t z9 ++ (rc6 a (Q_t 0) Q_t_0 z13)) rfl (by decide) (fun H locs hP hD hS => ?_)
            have hP : va_P D classes (rc4 a q_t Q_t z9 ++ (rc6 a (Q_t 0) Q_t_0 z13)) H := hP
            have hD : va_D A (rc4 a q_t Q_t z9 ++ (rc6 a (Q_t 0) Q_t_0 z13)) := hD
            exact rMv C rfl h (g := fun y => rc4 a q_t Q_t y.1 ++ (rc6 a (Q_t 0) Q_t_0 y.2)) hP hD hS dX4_readFact_126
          refine lv_if_ne (tgt := 119) hx hb dX4_readFact_95 (by decide) (fun c14 => ?_) (fun c14 => ?_)
          · have h := ite_f c14 h
            exact hJ11 _ _ ls h hP hD hS (lv_sub hl [0] rfl)
          · have h := ite_t c14 h
            refine lv_aload_n hx hb dX4_readFact_98 rfl (lv_at hl 0 rfl) ?_
            refine va_get (D := D) (v := .ref (Q_t 0)) (C := RX4) (T := TX4) (N := 8) hx hb hts iX4 hown hK.1 hP 0 rfl rfl 0 (by decide) (hts _ t_242) (fun _ h9 => h9) rfl dX4_readFact_99 ?_
            refine va_get (D := D) (v := .int (gI z10 5)) (C := RX6) (T := TX6) (N := 9) hx hb hts iX6 hown hK.1 hP 5 rfl rfl 5 (by decide) (hts _ t_214) (fun _ h9 => h9) rfl dX4_readFact_102 ?_
            refine lv_bipush (v := 93) hx hb dX4_readFact_105 (by decide) ?_
            refine lv_icmp_eq (tgt := 119) hx hb dX4_readFact_107 (by decide) (fun c15 => ?_) (fun c15 => ?_)
            · have h := ite_t c15 h
              exact hJ11 _ _ ls h hP hD hS (lv_sub hl [0] rfl)
            · have h := ite_f c15 h
              refine lv_aload_n hx hb dX4_readFact_110 rfl (lv_at hl 0 rfl) ?_
              refine va_get (D := D) (v := .ref (Q_t 0)) (C := RX4) (T := TX4) (N := 8) hx hb hts iX4 hown hK.1 hP 0 rfl rfl 0 (by decide) (hts _ t_242) (fun _ h9 => h9) rfl dX4_readFact_111 ?_
              refine lv_iconst (v := 0) hx hb dX4_readFact_114 (by decide) ?_
              obtain ⟨z17, hc16, h⟩ := bd_some h
              refine cMv (runV (As := [.int 0]) (rest := []) C (mX6_fail l D a (q_t := (Q_t 0)) (Q_t := Q_t_0) hc16 H.size) lk_V_4_68 okN_X6_fail (by constructor; (show 0 + 1 ≤ F + 2; omega); (show 8 + (2 + 11) + (0) ≤ LO + 46; omega)) ⟨rfl, rfl⟩ (preV (preM hK (P_of_map (wc := rc6 a (Q_t 0) Q_t_0 z10) hP [5, 6, 7, 8] rfl) (hD.sub (ws' := rc6 a (Q_t 0) Q_t_0 z10) [5, 6, 7, 8] (by decide) rfl)) (recvOf hK hP 5 rfl (ci := 6) rfl)) hl.1 rfl (Nat.le_of_ble_eq_true rfl) dX4_readFact_115 ⟨Nat.le_of_ble_eq_true rfl, Nat.le_of_ble_eq_true rfl⟩) hP hD hS hA [5, 6, 7, 8] [0, 1, 2, 3, 4] [0, 1, 2, 3, 4, 5, 6, 7, 8] rfl rfl (by decide) (by decide) (fw := rc4 a q_t Q_t z9 ++ (rc6 a (Q_t 0) Q_t_0 z17)) rfl (by decide) (fun H locs hP hD hS => ?_)
              have hP : va_P D classes (rc4 a q_t Q_t z9 ++ (rc6 a (Q_t 0) Q_t_0 z17)) H := hP
              have hD : va_D A (rc4 a q_t Q_t z9 ++ (rc6 a (Q_t 0) Q_t_0 z17)) := hD
              exact rMv C rfl h (g := fun y => rc4 a q_t Q_t y.1 ++ (rc6 a (Q_t 0) Q_t_0 y.2)) hP hD hS dX4_readFact_118
        · have h := ite_f c7 h
          refine lv_aload_n hx hb dX4_readFact_66 rfl (lv_at hl 0 rfl) ?_
          refine lv_iload_n hx hb dX4_readFact_67 rfl (lv_at hl 1 rfl) ?_
          refine lv_iconst (v := 1) hx hb dX4_readFact_68 (by decide) ?_
          refine lv_iadd hx hb dX4_readFact_69 ?_
          obtain ⟨z19, z20, hc18, h⟩ := bd2_some h
          refine cWv (runV (As := [.int (x1 + 1)]) (rest := []) C (hrec (q_t := q_t) (Q_t := Q_t) (Q_t_0 := Q_t_0) hc18 H.size) lk_V_4_88 okN_X4_readFact (by constructor; (show F + 0 + 1 ≤ F + 2; omega); (show 8 + (3 + 11) + (LO + 0) ≤ LO + 46; omega)) ⟨rfl, rfl⟩ (preV (preM hK hP hD) (recvOf hK hP 0 rfl (ci := 4) rfl)) hl.1 rfl (Nat.le_of_ble_eq_true rfl) dX4_readFact_70 ⟨Nat.le_of_ble_eq_true rfl, Nat.le_of_ble_eq_true rfl⟩) hP hD hS hA (fun H locs hP hD hS => ?_)
          have hP : va_P D classes (rc4 a q_t Q_t z19 ++ (rc6 a (Q_t 0) Q_t_0 z20)) H := hP
          have hD : va_D A (rc4 a q_t Q_t z19 ++ (rc6 a (Q_t 0) Q_t_0 z20)) := hD
          refine lv_aload_n hx hb dX4_readFact_73 rfl (lv_at hl 0 rfl) ?_
          refine lv_sipush (v := (-311)) hx hb dX4_readFact_74 (by decide) ?_
          obtain ⟨z22, hc21, h⟩ := bd_some h
          refine cMv (runV (As := [.int (-311)]) (rest := []) C (mX4_emit l D a (q_t := q_t) (Q_t := Q_t) hc21 H.size) lk_V_4_91 okN_X4_emit (by constructor; (show 0 + 1 ≤ F + 2; omega); (show 8 + (2 + 11) + (0) ≤ LO + 46; omega)) ⟨rfl, rfl⟩ (preV (preM hK (P_of_map (wc := rc4 a q_t Q_t z19) hP [0, 1, 2, 3, 4] rfl) (hD.sub (ws' := rc4 a q_t Q_t z19) [0, 1, 2, 3, 4] (by decide) rfl)) (recvOf hK hP 0 rfl (ci := 4) rfl)) hl.1 rfl (Nat.le_of_ble_eq_true rfl) dX4_readFact_77 ⟨Nat.le_of_ble_eq_true rfl, Nat.le_of_ble_eq_true rfl⟩) hP hD hS hA [0, 1, 2, 3, 4] [5, 6, 7, 8] [4, 5, 6, 7, 8, 0, 1, 2, 3] rfl rfl (by decide) (by decide) (fw := rc4 a q_t Q_t z22 ++ (rc6 a (Q_t 0) Q_t_0 z20)) rfl (by decide) (fun H locs hP hD hS => ?_)
          have hP : va_P D classes (rc4 a q_t Q_t z22 ++ (rc6 a (Q_t 0) Q_t_0 z20)) H := hP
          have hD : va_D A (rc4 a q_t Q_t z22 ++ (rc6 a (Q_t 0) Q_t_0 z20)) := hD
          exact rMv C rfl h (g := fun y => rc4 a q_t Q_t y.1 ++ (rc6 a (Q_t 0) Q_t_0 y.2)) hP hD hS dX4_readFact_80
      · have h := ite_f c4 h
        refine lv_aload_n hx hb dX4_readFact_46 rfl (lv_at hl 0 rfl) ?_
        refine va_get (D := D) (v := .ref (Q_t 0)) (C := RX4) (T := TX4) (N := 8) hx hb hts iX4 hown hK.1 hP 0 rfl rfl 0 (by decide) (hts _ t_242) (fun _ h9 => h9) rfl dX4_readFact_47 ?_
        refine lv_iconst (v := 2) hx hb dX4_readFact_50 (by decide) ?_
        obtain ⟨z24, hc23, h⟩ := bd_some h
        refine cMv (runV (As := [.int 2]) (rest := []) C (mX6_fail l D a (q_t := (Q_t 0)) (Q_t := Q_t_0) hc23 H.size) lk_V_4_68 okN_X6_fail (by constructor; (show 0 + 1 ≤ F + 2; omega); (show 8 + (2 + 11) + (0) ≤ LO + 46; omega)) ⟨rfl, rfl⟩ (preV (preM hK (P_of_map (wc := rc6 a (Q_t 0) Q_t_0 z_t_0) hP [5, 6, 7, 8] rfl) (hD.sub (ws' := rc6 a (Q_t 0) Q_t_0 z_t_0) [5, 6, 7, 8] (by decide) rfl)) (recvOf hK hP 5 rfl (ci := 6) rfl)) hl.1 rfl (Nat.le_of_ble_eq_true rfl) dX4_readFact_51 ⟨Nat.le_of_ble_eq_true rfl, Nat.le_of_ble_eq_true rfl⟩) hP hD hS hA [5, 6, 7, 8] [0, 1, 2, 3, 4] [0, 1, 2, 3, 4, 5, 6, 7, 8] rfl rfl (by decide) (by decide) (fw := rc4 a q_t Q_t z_t ++ (rc6 a (Q_t 0) Q_t_0 z24)) rfl (by decide) (fun H locs hP hD hS => ?_)
        have hP : va_P D classes (rc4 a q_t Q_t z_t ++ (rc6 a (Q_t 0) Q_t_0 z24)) H := hP
        have hD : va_D A (rc4 a q_t Q_t z_t ++ (rc6 a (Q_t 0) Q_t_0 z24)) := hD
        exact rMv C rfl h (g := fun y => rc4 a q_t Q_t y.1 ++ (rc6 a (Q_t 0) Q_t_0 y.2)) hP hD hS dX4_readFact_54
    refine lv_if_ne (tgt := 40) hx hb dX4_readFact_20 (by decide) (fun c25 => ?_) (fun c25 => ?_)
    · have h := ite_f c25 h
      exact hJ3 _ _ ls h hP hD hS (lv_sub hl [1, 2, 0] rfl)
    · have h := ite_t c25 h
      refine lv_aload_n hx hb dX4_readFact_23 rfl (lv_at hl 1 rfl) ?_
      refine va_get (D := D) (v := .ref (Q_t 0)) (C := RX4) (T := TX4) (N := 8) hx hb hts iX4 hown hK.1 hP 0 rfl rfl 0 (by decide) (hts _ t_242) (fun _ h9 => h9) rfl dX4_readFact_24 ?_
      refine va_get (D := D) (v := .int (gI z_t_0 5)) (C := RX6) (T := TX6) (N := 9) hx hb hts iX6 hown hK.1 hP 5 rfl rfl 5 (by decide) (hts _ t_214) (fun _ h9 => h9) rfl dX4_readFact_27 ?_
      refine lv_bipush (v := 91) hx hb dX4_readFact_30 (by decide) ?_
      refine lv_icmp_eq (tgt := 40) hx hb dX4_readFact_32 (by decide) (fun c26 => ?_) (fun c26 => ?_)
      · have h := ite_t c26 h
        exact hJ3 _ _ ls h hP hD hS (lv_sub hl [1, 2, 0] rfl)
      · have h := ite_f c26 h
        refine lv_aload_n hx hb dX4_readFact_35 rfl (lv_at hl 1 rfl) ?_
        obtain ⟨z28, z29, hc27, h⟩ := bd2_some h
        refine cWv (runV (As := []) (rest := []) C (mX4_readComparison l D a (q_t := q_t) (Q_t := Q_t) (Q_t_0 := Q_t_0) hc27 H.size) lk_V_4_94 okN_X4_readComparison (by constructor; (show 3 + 1 ≤ F + 2; omega); (show 8 + (2 + 11) + (67) ≤ LO + 46; omega)) ⟨rfl, rfl⟩ (preV (preM hK hP hD) (recvOf hK hP 0 rfl (ci := 4) rfl)) hl.1 rfl (Nat.le_of_ble_eq_true rfl) dX4_readFact_36 ⟨Nat.le_of_ble_eq_true rfl, Nat.le_of_ble_eq_true rfl⟩) hP hD hS hA (fun H locs hP hD hS => ?_)
        have hP : va_P D classes (rc4 a q_t Q_t z28 ++ (rc6 a (Q_t 0) Q_t_0 z29)) H := hP
        have hD : va_D A (rc4 a q_t Q_t z28 ++ (rc6 a (Q_t 0) Q_t_0 z29)) := hD
        exact rMv C rfl h (g := fun y => rc4 a q_t Q_t y.1 ++ (rc6 a (Q_t 0) Q_t_0 y.2)) hP hD hS dX4_readFact_39
  refine lv_icmp_ne (tgt := 17) hx hb dX4_readFact_10 (by decide) (fun c30 => ?_) (fun c30 => ?_)
  · have h := ite_f c30 h
    refine lv_iconst (v := 0) hx hb dX4_readFact_17 (by decide) ?_
    exact hJ1 0 _ _ ls h hP hD hS (lv_sub hl [0, 1] rfl)
  · have h := ite_t c30 h
    refine lv_iconst (v := 1) hx hb dX4_readFact_13 (by decide) ?_
    refine lv_goto (tgt := 18) hx hb dX4_readFact_14 (by decide) ?_
    exact hJ1 1 _ _ ls h hP hD hS (lv_sub hl [0, 1] rfl)

set_option maxHeartbeats 4000000 in
theorem mX4_readFact (l : Launch) (D : va_G) (a : Nat → ClassId) : ∀ (dp : Nat) {q_t : Nat} {Q_t : Nat → Nat} {z_t : Sx} {Q_t_0 : Nat → Nat} {z_t_0 : Sx} {x1 : Int32} {y : Sx × Sx}, fX4_readFact dp z_t z_t_0 x1 = some y → ∀ (sz : Nat), CMv (S := Unit) l MX4_readFact (4 + 2 * dp) (88 + 46 * dp) 0 0 D a [.ref q_t, .int x1] (rc4 a q_t Q_t z_t ++ (rc6 a (Q_t 0) Q_t_0 z_t_0)) sz (fun _ => True) (fun _ => rc4 a q_t Q_t y.1 ++ (rc6 a (Q_t 0) Q_t_0 y.2)) := by
  intro dp
  induction dp with
  | zero => intros; rename_i h _; cases h
  | succ dp ih =>
    intros
    rename_i h sz
    have e1 : 4 + 2 * (dp + 1) = 4 + 2 * dp + 2 := by omega
    have e2 : 88 + 46 * (dp + 1) = 88 + 46 * dp + 46 := by omega
    rw [e1, e2]
    exact gmX4_readFact l D a ih (by omega) (by omega) h sz

set_option maxHeartbeats 4000000 in
set_option maxRecDepth 100000 in
theorem mX4_readClause (l : Launch) (D : va_G) (a : Nat → ClassId) {q_t : Nat} {Q_t : Nat → Nat} {z_t : Sx} {Q_t_0 : Nat → Nat} {z_t_0 : Sx} {y : Sx × Sx} (h : fX4_readClause z_t z_t_0 = some y) (sz : Nat) : CMv (S := Unit) l MX4_readClause 38 870 0 0 D a [.ref q_t] (rc4 a q_t Q_t z_t ++ (rc6 a (Q_t 0) Q_t_0 z_t_0)) sz (fun _ => True) (fun _ => rc4 a q_t Q_t y.1 ++ (rc6 a (Q_t 0) Q_t_0 y.2)) := by
  unfold fX4_readClause at h
  refine entMv (by decide) (Nat.le_of_ble_eq_true rfl) ?_
  intro p e s m below meth c C hK A hA hP hD ls hl
  obtain ⟨hx, hb, hml, hown, hts, hr, hlocks, hnm⟩ := id C
  have hb : c.code = cX4_readClause := hb
  have hown : s.vm.findClass RX4 = some m.cls := hown
  have hS : va_S A s.heap s.heap [] := va_S.rf
  have hl : lv_has ls 3 [(0, .ref q_t)] := hl
  refine lv_aload_n hx hb dX4_readClause_0 rfl (lv_at hl 0 rfl) ?_
  refine va_get (D := D) (v := .ref (Q_t 0)) (C := RX4) (T := TX4) (N := 8) hx hb hts iX4 hown hK.1 hP 0 rfl rfl 0 (by decide) (hts _ t_242) (fun _ h9 => h9) rfl dX4_readClause_1 ?_
  refine va_get (D := D) (v := .int (gI z_t_0 5)) (C := RX6) (T := TX6) (N := 9) hx hb hts iX6 hown hK.1 hP 5 rfl rfl 5 (by decide) (hts _ t_214) (fun _ h9 => h9) rfl dX4_readClause_4 ?_
  refine lv_istore_n (lv' := [(1, .int (gI z_t_0 5)), (0, .ref q_t)]) hx hb dX4_readClause_7 rfl hl (by decide) rfl (fun ls hl => ?_)
  refine lv_iload_n hx hb dX4_readClause_8 rfl (lv_at hl 0 rfl) ?_
  refine lv_sipush (v := 306) hx hb dX4_readClause_9 (by decide) ?_
  obtain ⟨J1, eJ1, h⟩ := jn_some h
  have hJ1 : ∀ (H : Heap) (locs : List Loc) (ls : Array Slot), J1 = some y → va_P D classes (rc4 a q_t Q_t z_t ++ (rc6 a (Q_t 0) Q_t_0 z_t_0)) H → va_D A (rc4 a q_t Q_t z_t ++ (rc6 a (Q_t 0) Q_t_0 z_t_0)) → va_S A s.heap H locs → lv_has ls 3 [(0, .ref q_t), (1, .int (gI z_t_0 5))] → W p l e (rmM 38 0 0 870) s m #[.ref q_t] below meth c H locs 0 0 (MQ below (va_Qv (fun (_ : Unit) => True) (Bw D A (fun _ => rc4 a q_t Q_t y.1 ++ (rc6 a (Q_t 0) Q_t_0 y.2))) A) #[.ref q_t] s 0 0 A) (F0 m 31 ls []) := by
    intro H locs ls h hP hD hS hl
    rw [eJ1] at h
    refine lv_aload_n hx hb dX4_readClause_31 rfl (lv_at hl 0 rfl) ?_
    refine va_get (D := D) (v := .int (gI z_t 4)) (C := RX4) (T := TX4) (N := 8) hx hb hts iX4 hown hK.1 hP 0 rfl rfl 4 (by decide) (hts _ t_247) (fun _ h9 => h9) rfl dX4_readClause_32 ?_
    refine lv_bipush (v := 12) hx hb dX4_readClause_35 (by decide) ?_
    refine lv_icmp_lt (tgt := 49) hx hb dX4_readClause_37 (by decide) (fun c2 => ?_) (fun c2 => ?_)
    · have h := ite_t c2 h
      refine lv_aload_n hx hb dX4_readClause_49 rfl (lv_at hl 0 rfl) ?_
      refine va_get (D := D) (v := .ref (Q_t 0)) (C := RX4) (T := TX4) (N := 8) hx hb hts iX4 hown hK.1 hP 0 rfl rfl 0 (by decide) (hts _ t_242) (fun _ h9 => h9) rfl dX4_readClause_50 ?_
      obtain ⟨z4, hc3, h⟩ := bd_some h
      refine cMv (runV (As := []) (rest := []) C (mX6_step l D a (q_t := (Q_t 0)) (Q_t := Q_t_0) hc3 H.size) lk_V_4_72 okN_X6_step ⟨Nat.le_of_ble_eq_true rfl, Nat.le_of_ble_eq_true rfl⟩ ⟨rfl, rfl⟩ (preV (preM hK (P_of_map (wc := rc6 a (Q_t 0) Q_t_0 z_t_0) hP [5, 6, 7, 8] rfl) (hD.sub (ws' := rc6 a (Q_t 0) Q_t_0 z_t_0) [5, 6, 7, 8] (by decide) rfl)) (recvOf hK hP 5 rfl (ci := 6) rfl)) hl.1 rfl (Nat.le_of_ble_eq_true rfl) dX4_readClause_53 ⟨Nat.le_of_ble_eq_true rfl, Nat.le_of_ble_eq_true rfl⟩) hP hD hS hA [5, 6, 7, 8] [0, 1, 2, 3, 4] [0, 1, 2, 3, 4, 5, 6, 7, 8] rfl rfl (by decide) (by decide) (fw := rc4 a q_t Q_t z_t ++ (rc6 a (Q_t 0) Q_t_0 z4)) rfl (by decide) (fun H locs hP hD hS => ?_)
      have hP : va_P D classes (rc4 a q_t Q_t z_t ++ (rc6 a (Q_t 0) Q_t_0 z4)) H := hP
      have hD : va_D A (rc4 a q_t Q_t z_t ++ (rc6 a (Q_t 0) Q_t_0 z4)) := hD
      refine lv_aload_n hx hb dX4_readClause_56 rfl (lv_at hl 0 rfl) ?_
      refine va_get (D := D) (v := .ref (Q_t 5)) (C := RX4) (T := TX4) (N := 8) hx hb hts iX4 hown hK.1 hP 0 rfl rfl 5 (by decide) (hts _ t_248) (fun _ h9 => h9) rfl dX4_readClause_57 ?_
      refine lv_aload_n hx hb dX4_readClause_60 rfl (lv_at hl 0 rfl) ?_
      refine va_get (D := D) (v := .int (gI z_t 4)) (C := RX4) (T := TX4) (N := 8) hx hb hts iX4 hown hK.1 hP 0 rfl rfl 4 (by decide) (hts _ t_247) (fun _ h9 => h9) rfl dX4_readClause_61 ?_
      refine lv_aload_n hx hb dX4_readClause_64 rfl (lv_at hl 0 rfl) ?_
      refine va_get (D := D) (v := .int (gI z_t 2)) (C := RX4) (T := TX4) (N := 8) hx hb hts iX4 hown hK.1 hP 0 rfl rfl 2 (by decide) (hts _ t_245) (fun _ h9 => h9) rfl dX4_readClause_65 ?_
      obtain ⟨z6, hc5, h⟩ := bd_some h
      refine cMv (runN (As := [.ref (Q_t 5), .int (gI z_t 4), .int (gI z_t 2)]) (rest := []) C hK (mX8_put l D a (q_p0 := (Q_t 5)) hc5 H.size) lk_N_4_75 okN_X8_put ⟨Nat.le_of_ble_eq_true rfl, Nat.le_of_ble_eq_true rfl⟩ ⟨rfl, rfl⟩ (preM hK (P_of_map (wc := ra0 a (Q_t 5) 12 (gT z_t 5)) hP [2] rfl) (hD.sub (ws' := ra0 a (Q_t 5) 12 (gT z_t 5)) [2] (by decide) rfl)) hl.1 rfl (Nat.le_of_ble_eq_true rfl) dX4_readClause_68 ⟨Nat.le_of_ble_eq_true rfl, Nat.le_of_ble_eq_true rfl⟩) hP hD hS hA [2] [0, 1, 3, 4, 5, 6, 7, 8] [0, 1, 8, 2, 3, 4, 5, 6, 7] rfl rfl (by decide) (by decide) (fw := rc4 a q_t Q_t (sTf z_t 5 z6) ++ (rc6 a (Q_t 0) Q_t_0 z4)) rfl (by decide) (fun H locs hP hD hS => ?_)
      have hP : va_P D classes (rc4 a q_t Q_t (sTf z_t 5 z6) ++ (rc6 a (Q_t 0) Q_t_0 z4)) H := hP
      have hD : va_D A (rc4 a q_t Q_t (sTf z_t 5 z6) ++ (rc6 a (Q_t 0) Q_t_0 z4)) := hD
      refine lv_iload_n hx hb dX4_readClause_71 rfl (lv_at hl 1 rfl) ?_
      refine lv_sipush (v := 308) hx hb dX4_readClause_72 (by decide) ?_
      obtain ⟨J7, eJ7, h⟩ := jn_some h
      have hJ7 : ∀ (i8 : Int32) (H : Heap) (locs : List Loc) (ls : Array Slot), J7 i8 = some y → va_P D classes (rc4 a q_t Q_t (sTf z_t 5 z6) ++ (rc6 a (Q_t 0) Q_t_0 z4)) H → va_D A (rc4 a q_t Q_t (sTf z_t 5 z6) ++ (rc6 a (Q_t 0) Q_t_0 z4)) → va_S A s.heap H locs → lv_has ls 3 [(0, .ref q_t), (1, .int (gI z_t_0 5))] → W p l e (rmM 38 0 0 870) s m #[.ref q_t] below meth c H locs 0 0 (MQ below (va_Qv (fun (_ : Unit) => True) (Bw D A (fun _ => rc4 a q_t Q_t y.1 ++ (rc6 a (Q_t 0) Q_t_0 y.2))) A) #[.ref q_t] s 0 0 A) (F0 m 83 ls [.int i8]) := by
        intro i8 H locs ls h hP hD hS hl
        rw [eJ7] at h
        refine lv_istore_n (lv' := [(2, .int i8), (0, .ref q_t), (1, .int (gI z_t_0 5))]) hx hb dX4_readClause_83 rfl hl (by decide) rfl (fun ls hl => ?_)
        refine lv_iload_n hx hb dX4_readClause_84 rfl (lv_at hl 2 rfl) ?_
        refine lv_sipush (v := 306) hx hb dX4_readClause_85 (by decide) ?_
        obtain ⟨J9, eJ9, h⟩ := jn_some h
        have hJ9 : ∀ (z10 : Sx) (z11 : Sx) (i12 : Int32) (H : Heap) (locs : List Loc) (ls : Array Slot), J9 z10 z11 i12 = some y → va_P D classes (rc4 a q_t Q_t z10 ++ (rc6 a (Q_t 0) Q_t_0 z11)) H → va_D A (rc4 a q_t Q_t z10 ++ (rc6 a (Q_t 0) Q_t_0 z11)) → va_S A s.heap H locs → lv_has ls 3 [(0, .ref q_t), (2, .int i12)] → W p l e (rmM 38 0 0 870) s m #[.ref q_t] below meth c H locs 0 0 (MQ below (va_Qv (fun (_ : Unit) => True) (Bw D A (fun _ => rc4 a q_t Q_t y.1 ++ (rc6 a (Q_t 0) Q_t_0 y.2))) A) #[.ref q_t] s 0 0 A) (F0 m 127 ls []) := by
          intro z10 z11 i12 H locs ls h hP hD hS hl
          rw [eJ9] at h
          refine lv_aload_n hx hb dX4_readClause_127 rfl (lv_at hl 0 rfl) ?_
          refine va_get (D := D) (v := .ref (Q_t 6)) (C := RX4) (T := TX4) (N := 8) hx hb hts iX4 hown hK.1 hP 0 rfl rfl 6 (by decide) (hts _ t_249) (fun _ h9 => h9) rfl dX4_readClause_128 ?_
          refine lv_aload_n hx hb dX4_readClause_131 rfl (lv_at hl 0 rfl) ?_
          refine va_get (D := D) (v := .int (gI z10 4)) (C := RX4) (T := TX4) (N := 8) hx hb hts iX4 hown hK.1 hP 0 rfl rfl 4 (by decide) (hts _ t_247) (fun _ h9 => h9) rfl dX4_readClause_132 ?_
          refine lv_aload_n hx hb dX4_readClause_135 rfl (lv_at hl 0 rfl) ?_
          refine va_get (D := D) (v := .int (gI z10 2)) (C := RX4) (T := TX4) (N := 8) hx hb hts iX4 hown hK.1 hP 0 rfl rfl 2 (by decide) (hts _ t_245) (fun _ h9 => h9) rfl dX4_readClause_136 ?_
          obtain ⟨z14, hc13, h⟩ := bd_some h
          refine cMv (runN (As := [.ref (Q_t 6), .int (gI z10 4), .int (gI z10 2)]) (rest := []) C hK (mX8_put l D a (q_p0 := (Q_t 6)) hc13 H.size) lk_N_4_75 okN_X8_put ⟨Nat.le_of_ble_eq_true rfl, Nat.le_of_ble_eq_true rfl⟩ ⟨rfl, rfl⟩ (preM hK (P_of_map (wc := ra0 a (Q_t 6) 12 (gT z10 6)) hP [3] rfl) (hD.sub (ws' := ra0 a (Q_t 6) 12 (gT z10 6)) [3] (by decide) rfl)) hl.1 rfl (Nat.le_of_ble_eq_true rfl) dX4_readClause_139 ⟨Nat.le_of_ble_eq_true rfl, Nat.le_of_ble_eq_true rfl⟩) hP hD hS hA [3] [0, 1, 2, 4, 5, 6, 7, 8] [0, 1, 2, 8, 3, 4, 5, 6, 7] rfl rfl (by decide) (by decide) (fw := rc4 a q_t Q_t (sTf z10 6 z14) ++ (rc6 a (Q_t 0) Q_t_0 z11)) rfl (by decide) (fun H locs hP hD hS => ?_)
          have hP : va_P D classes (rc4 a q_t Q_t (sTf z10 6 z14) ++ (rc6 a (Q_t 0) Q_t_0 z11)) H := hP
          have hD : va_D A (rc4 a q_t Q_t (sTf z10 6 z14) ++ (rc6 a (Q_t 0) Q_t_0 z11)) := hD
          refine lv_iload_n hx hb dX4_readClause_142 rfl (lv_at hl 1 rfl) ?_
          obtain ⟨J15, eJ15, h⟩ := jn_some h
          have hJ15 : ∀ (z16 : Sx) (z17 : Sx) (H : Heap) (locs : List Loc) (ls : Array Slot), J15 z16 z17 = some y → va_P D classes (rc4 a q_t Q_t z16 ++ (rc6 a (Q_t 0) Q_t_0 z17)) H → va_D A (rc4 a q_t Q_t z16 ++ (rc6 a (Q_t 0) Q_t_0 z17)) → va_S A s.heap H locs → lv_has ls 3 [(0, .ref q_t)] → W p l e (rmM 38 0 0 870) s m #[.ref q_t] below meth c H locs 0 0 (MQ below (va_Qv (fun (_ : Unit) => True) (Bw D A (fun _ => rc4 a q_t Q_t y.1 ++ (rc6 a (Q_t 0) Q_t_0 y.2))) A) #[.ref q_t] s 0 0 A) (F0 m 151 ls []) := by
            intro z16 z17 H locs ls h hP hD hS hl
            rw [eJ15] at h
            refine lv_aload_n hx hb dX4_readClause_151 rfl (lv_at hl 0 rfl) ?_
            refine va_get (D := D) (v := .ref (Q_t 7)) (C := RX4) (T := TX4) (N := 8) hx hb hts iX4 hown hK.1 hP 0 rfl rfl 7 (by decide) (hts _ t_250) (fun _ h9 => h9) rfl dX4_readClause_152 ?_
            refine lv_aload_n hx hb dX4_readClause_155 rfl (lv_at hl 0 rfl) ?_
            refine va_get (D := D) (v := .int (gI z16 4)) (C := RX4) (T := TX4) (N := 8) hx hb hts iX4 hown hK.1 hP 0 rfl rfl 4 (by decide) (hts _ t_247) (fun _ h9 => h9) rfl dX4_readClause_156 ?_
            refine lv_aload_n hx hb dX4_readClause_159 rfl (lv_at hl 0 rfl) ?_
            refine va_get (D := D) (v := .int (gI z16 2)) (C := RX4) (T := TX4) (N := 8) hx hb hts iX4 hown hK.1 hP 0 rfl rfl 2 (by decide) (hts _ t_245) (fun _ h9 => h9) rfl dX4_readClause_160 ?_
            obtain ⟨z19, hc18, h⟩ := bd_some h
            refine cMv (runN (As := [.ref (Q_t 7), .int (gI z16 4), .int (gI z16 2)]) (rest := []) C hK (mX8_put l D a (q_p0 := (Q_t 7)) hc18 H.size) lk_N_4_75 okN_X8_put ⟨Nat.le_of_ble_eq_true rfl, Nat.le_of_ble_eq_true rfl⟩ ⟨rfl, rfl⟩ (preM hK (P_of_map (wc := ra0 a (Q_t 7) 12 (gT z16 7)) hP [4] rfl) (hD.sub (ws' := ra0 a (Q_t 7) 12 (gT z16 7)) [4] (by decide) rfl)) hl.1 rfl (Nat.le_of_ble_eq_true rfl) dX4_readClause_163 ⟨Nat.le_of_ble_eq_true rfl, Nat.le_of_ble_eq_true rfl⟩) hP hD hS hA [4] [0, 1, 2, 3, 5, 6, 7, 8] [0, 1, 2, 3, 8, 4, 5, 6, 7] rfl rfl (by decide) (by decide) (fw := rc4 a q_t Q_t (sTf z16 7 z19) ++ (rc6 a (Q_t 0) Q_t_0 z17)) rfl (by decide) (fun H locs hP hD hS => ?_)
            have hP : va_P D classes (rc4 a q_t Q_t (sTf z16 7 z19) ++ (rc6 a (Q_t 0) Q_t_0 z17)) H := hP
            have hD : va_D A (rc4 a q_t Q_t (sTf z16 7 z19) ++ (rc6 a (Q_t 0) Q_t_0 z17)) := hD
            refine lv_aload_n hx hb dX4_readClause_166 rfl (lv_at hl 0 rfl) ?_
            refine lv_dup hx hb dX4_readClause_167 rfl ?_
            refine va_get (D := D) (v := .int (gI z16 4)) (C := RX4) (T := TX4) (N := 8) hx hb hts iX4 hown hK.1 hP 0 rfl rfl 4 (by decide) (hts _ t_247) (fun _ h9 => h9) rfl dX4_readClause_168 ?_
            refine lv_iconst (v := 1) hx hb dX4_readClause_171 (by decide) ?_
            refine lv_iadd hx hb dX4_readClause_172 ?_
            refine va_put (D := D) (v := .int ((gI z16 4) + 1)) (C := RX4) (T := TX4) (N := 8) hx hb hts iX4 tyX4 tyX4_ok nmX4 hown hK.1 hP hD hS 0 rfl rfl 4 (by decide) (hts _ t_247) (fun _ h9 => h9) rfl (tyX4_ok 4 (by decide)) rfl rfl (Nat.le_of_ble_eq_true rfl) dX4_readClause_173 (fun H locs hP hD hS => ?_)
            have hP : va_P D classes (rc4 a q_t Q_t (sI (sTf z16 7 z19) 4 ((gI z16 4) + 1)) ++ (rc6 a (Q_t 0) Q_t_0 z17)) H := hP
            have hD : va_D A (rc4 a q_t Q_t (sI (sTf z16 7 z19) 4 ((gI z16 4) + 1)) ++ (rc6 a (Q_t 0) Q_t_0 z17)) := hD
            exact rMv C rfl h (g := fun y => rc4 a q_t Q_t y.1 ++ (rc6 a (Q_t 0) Q_t_0 y.2)) hP hD hS dX4_readClause_176
          refine lv_if_eq (tgt := 151) hx hb dX4_readClause_143 (by decide) (fun c20 => ?_) (fun c20 => ?_)
          · have h := ite_t c20 h
            exact hJ15 (sTf z10 6 z14) z11 _ _ ls h hP hD hS (lv_sub hl [0] rfl)
          · have h := ite_f c20 h
            refine lv_aload_n hx hb dX4_readClause_146 rfl (lv_at hl 0 rfl) ?_
            refine lv_iconst (v := 0) hx hb dX4_readClause_147 (by decide) ?_
            obtain ⟨z22, z23, hc21, h⟩ := bd2_some h
            refine cWv (runV (As := [.int 0]) (rest := []) C (mX4_readTest l D a (fun h => mX4_readFact l D a 16 h) (by decide) (by decide) (q_t := q_t) (Q_t := Q_t) (Q_t_0 := Q_t_0) hc21 H.size) lk_V_4_85 okN_X4_readTest ⟨Nat.le_of_ble_eq_true rfl, Nat.le_of_ble_eq_true rfl⟩ ⟨rfl, rfl⟩ (preV (preM hK hP hD) (recvOf hK hP 0 rfl (ci := 4) rfl)) hl.1 rfl (Nat.le_of_ble_eq_true rfl) dX4_readClause_148 ⟨Nat.le_of_ble_eq_true rfl, Nat.le_of_ble_eq_true rfl⟩) hP hD hS hA (fun H locs hP hD hS => ?_)
            have hP : va_P D classes (rc4 a q_t Q_t z22 ++ (rc6 a (Q_t 0) Q_t_0 z23)) H := hP
            have hD : va_D A (rc4 a q_t Q_t z22 ++ (rc6 a (Q_t 0) Q_t_0 z23)) := hD
            exact hJ15 z22 z23 _ _ ls h hP hD hS (lv_sub hl [0] rfl)
        refine lv_icmp_ne (tgt := 127) hx hb dX4_readClause_88 (by decide) (fun c24 => ?_) (fun c24 => ?_)
        · have h := ite_f c24 h
          exact hJ9 (sTf z_t 5 z6) z4 i8 _ _ ls h hP hD hS (lv_sub hl [1, 0] rfl)
        · have h := ite_t c24 h
          refine lv_aload_n hx hb dX4_readClause_91 rfl (lv_at hl 1 rfl) ?_
          obtain ⟨z26, z27, hc25, h⟩ := bd2_some h
          refine cWv (runV (As := []) (rest := []) C (mX4_readSum l D a (q_t := q_t) (Q_t := Q_t) (Q_t_0 := Q_t_0) hc25 H.size) lk_V_4_79 okN_X4_readSum ⟨Nat.le_of_ble_eq_true rfl, Nat.le_of_ble_eq_true rfl⟩ ⟨rfl, rfl⟩ (preV (preM hK hP hD) (recvOf hK hP 0 rfl (ci := 4) rfl)) hl.1 rfl (Nat.le_of_ble_eq_true rfl) dX4_readClause_92 ⟨Nat.le_of_ble_eq_true rfl, Nat.le_of_ble_eq_true rfl⟩) hP hD hS hA (fun H locs hP hD hS => ?_)
          have hP : va_P D classes (rc4 a q_t Q_t z26 ++ (rc6 a (Q_t 0) Q_t_0 z27)) H := hP
          have hD : va_D A (rc4 a q_t Q_t z26 ++ (rc6 a (Q_t 0) Q_t_0 z27)) := hD
          refine lv_aload_n hx hb dX4_readClause_95 rfl (lv_at hl 1 rfl) ?_
          refine va_get (D := D) (v := .ref (Q_t 0)) (C := RX4) (T := TX4) (N := 8) hx hb hts iX4 hown hK.1 hP 0 rfl rfl 0 (by decide) (hts _ t_242) (fun _ h9 => h9) rfl dX4_readClause_96 ?_
          refine va_get (D := D) (v := .int (gI z27 8)) (C := RX6) (T := TX6) (N := 9) hx hb hts iX6 hown hK.1 hP 5 rfl rfl 8 (by decide) (hts _ t_220) (fun _ h9 => h9) rfl dX4_readClause_99 ?_
          refine lv_if_ne (tgt := 127) hx hb dX4_readClause_102 (by decide) (fun c28 => ?_) (fun c28 => ?_)
          · have h := ite_f c28 h
            exact hJ9 z26 z27 i8 _ _ ls h hP hD hS (lv_sub hl [1, 0] rfl)
          · have h := ite_t c28 h
            refine lv_aload_n hx hb dX4_readClause_105 rfl (lv_at hl 1 rfl) ?_
            refine va_get (D := D) (v := .ref (Q_t 0)) (C := RX4) (T := TX4) (N := 8) hx hb hts iX4 hown hK.1 hP 0 rfl rfl 0 (by decide) (hts _ t_242) (fun _ h9 => h9) rfl dX4_readClause_106 ?_
            refine va_get (D := D) (v := .int (gI z27 5)) (C := RX6) (T := TX6) (N := 9) hx hb hts iX6 hown hK.1 hP 5 rfl rfl 5 (by decide) (hts _ t_214) (fun _ h9 => h9) rfl dX4_readClause_109 ?_
            refine lv_sipush (v := 307) hx hb dX4_readClause_112 (by decide) ?_
            refine lv_icmp_ne (tgt := 127) hx hb dX4_readClause_115 (by decide) (fun c29 => ?_) (fun c29 => ?_)
            · have h := ite_f c29 h
              exact hJ9 z26 z27 i8 _ _ ls h hP hD hS (lv_sub hl [1, 0] rfl)
            · have h := ite_t c29 h
              refine lv_iconst (v := 1) hx hb dX4_readClause_118 (by decide) ?_
              refine lv_istore_n (lv' := [(2, .int 1), (0, .ref q_t), (1, .int (gI z_t_0 5))]) hx hb dX4_readClause_119 rfl hl (by decide) rfl (fun ls hl => ?_)
              refine lv_aload_n hx hb dX4_readClause_120 rfl (lv_at hl 1 rfl) ?_
              refine va_get (D := D) (v := .ref (Q_t 0)) (C := RX4) (T := TX4) (N := 8) hx hb hts iX4 hown hK.1 hP 0 rfl rfl 0 (by decide) (hts _ t_242) (fun _ h9 => h9) rfl dX4_readClause_121 ?_
              obtain ⟨z31, hc30, h⟩ := bd_some h
              refine cMv (runV (As := []) (rest := []) C (mX6_step l D a (q_t := (Q_t 0)) (Q_t := Q_t_0) hc30 H.size) lk_V_4_72 okN_X6_step ⟨Nat.le_of_ble_eq_true rfl, Nat.le_of_ble_eq_true rfl⟩ ⟨rfl, rfl⟩ (preV (preM hK (P_of_map (wc := rc6 a (Q_t 0) Q_t_0 z27) hP [5, 6, 7, 8] rfl) (hD.sub (ws' := rc6 a (Q_t 0) Q_t_0 z27) [5, 6, 7, 8] (by decide) rfl)) (recvOf hK hP 5 rfl (ci := 6) rfl)) hl.1 rfl (Nat.le_of_ble_eq_true rfl) dX4_readClause_124 ⟨Nat.le_of_ble_eq_true rfl, Nat.le_of_ble_eq_true rfl⟩) hP hD hS hA [5, 6, 7, 8] [0, 1, 2, 3, 4] [0, 1, 2, 3, 4, 5, 6, 7, 8] rfl rfl (by decide) (by decide) (fw := rc4 a q_t Q_t z26 ++ (rc6 a (Q_t 0) Q_t_0 z31)) rfl (by decide) (fun H locs hP hD hS => ?_)
              have hP : va_P D classes (rc4 a q_t Q_t z26 ++ (rc6 a (Q_t 0) Q_t_0 z31)) H := hP
              have hD : va_D A (rc4 a q_t Q_t z26 ++ (rc6 a (Q_t 0) Q_t_0 z31)) := hD
              exact hJ9 z26 z31 1 _ _ ls h hP hD hS (lv_sub hl [1, 0] rfl)
      refine lv_icmp_ne (tgt := 82) hx hb dX4_readClause_75 (by decide) (fun c32 => ?_) (fun c32 => ?_)
      · have h := ite_f c32 h
        refine lv_iconst (v := 0) hx hb dX4_readClause_82 (by decide) ?_
        exact hJ7 0 _ _ ls h hP hD hS (lv_sub hl [0, 1] rfl)
      · have h := ite_t c32 h
        refine lv_iconst (v := 1) hx hb dX4_readClause_78 (by decide) ?_
        refine lv_goto (tgt := 83) hx hb dX4_readClause_79 (by decide) ?_
        exact hJ7 1 _ _ ls h hP hD hS (lv_sub hl [0, 1] rfl)
    · have h := ite_f c2 h
      refine lv_aload_n hx hb dX4_readClause_40 rfl (lv_at hl 0 rfl) ?_
      refine va_get (D := D) (v := .ref (Q_t 0)) (C := RX4) (T := TX4) (N := 8) hx hb hts iX4 hown hK.1 hP 0 rfl rfl 0 (by decide) (hts _ t_242) (fun _ h9 => h9) rfl dX4_readClause_41 ?_
      refine lv_iconst (v := 4) hx hb dX4_readClause_44 (by decide) ?_
      obtain ⟨z34, hc33, h⟩ := bd_some h
      refine cMv (runV (As := [.int 4]) (rest := []) C (mX6_fail l D a (q_t := (Q_t 0)) (Q_t := Q_t_0) hc33 H.size) lk_V_4_68 okN_X6_fail ⟨Nat.le_of_ble_eq_true rfl, Nat.le_of_ble_eq_true rfl⟩ ⟨rfl, rfl⟩ (preV (preM hK (P_of_map (wc := rc6 a (Q_t 0) Q_t_0 z_t_0) hP [5, 6, 7, 8] rfl) (hD.sub (ws' := rc6 a (Q_t 0) Q_t_0 z_t_0) [5, 6, 7, 8] (by decide) rfl)) (recvOf hK hP 5 rfl (ci := 6) rfl)) hl.1 rfl (Nat.le_of_ble_eq_true rfl) dX4_readClause_45 ⟨Nat.le_of_ble_eq_true rfl, Nat.le_of_ble_eq_true rfl⟩) hP hD hS hA [5, 6, 7, 8] [0, 1, 2, 3, 4] [0, 1, 2, 3, 4, 5, 6, 7, 8] rfl rfl (by decide) (by decide) (fw := rc4 a q_t Q_t z_t ++ (rc6 a (Q_t 0) Q_t_0 z34)) rfl (by decide) (fun H locs hP hD hS => ?_)
      have hP : va_P D classes (rc4 a q_t Q_t z_t ++ (rc6 a (Q_t 0) Q_t_0 z34)) H := hP
      have hD : va_D A (rc4 a q_t Q_t z_t ++ (rc6 a (Q_t 0) Q_t_0 z34)) := hD
      exact rMv C rfl h (g := fun y => rc4 a q_t Q_t y.1 ++ (rc6 a (Q_t 0) Q_t_0 y.2)) hP hD hS dX4_readClause_48
  refine lv_icmp_eq (tgt := 31) hx hb dX4_readClause_12 (by decide) (fun c35 => ?_) (fun c35 => ?_)
  · have h := ite_t c35 h
    exact hJ1 _ _ ls h hP hD hS (lv_sub hl [1, 0] rfl)
  · have h := ite_f c35 h
    refine lv_iload_n hx hb dX4_readClause_15 rfl (lv_at hl 0 rfl) ?_
    refine lv_sipush (v := 308) hx hb dX4_readClause_16 (by decide) ?_
    refine lv_icmp_eq (tgt := 31) hx hb dX4_readClause_19 (by decide) (fun c36 => ?_) (fun c36 => ?_)
    · have h := ite_t c36 h
      exact hJ1 _ _ ls h hP hD hS (lv_sub hl [1, 0] rfl)
    · have h := ite_f c36 h
      refine lv_aload_n hx hb dX4_readClause_22 rfl (lv_at hl 1 rfl) ?_
      refine va_get (D := D) (v := .ref (Q_t 0)) (C := RX4) (T := TX4) (N := 8) hx hb hts iX4 hown hK.1 hP 0 rfl rfl 0 (by decide) (hts _ t_242) (fun _ h9 => h9) rfl dX4_readClause_23 ?_
      refine lv_iconst (v := 0) hx hb dX4_readClause_26 (by decide) ?_
      obtain ⟨z38, hc37, h⟩ := bd_some h
      refine cMv (runV (As := [.int 0]) (rest := []) C (mX6_fail l D a (q_t := (Q_t 0)) (Q_t := Q_t_0) hc37 s.heap.size) lk_V_4_68 okN_X6_fail ⟨Nat.le_of_ble_eq_true rfl, Nat.le_of_ble_eq_true rfl⟩ ⟨rfl, rfl⟩ (preV (preM hK (P_of_map (wc := rc6 a (Q_t 0) Q_t_0 z_t_0) hP [5, 6, 7, 8] rfl) (hD.sub (ws' := rc6 a (Q_t 0) Q_t_0 z_t_0) [5, 6, 7, 8] (by decide) rfl)) (recvOf hK hP 5 rfl (ci := 6) rfl)) hl.1 rfl (Nat.le_of_ble_eq_true rfl) dX4_readClause_27 ⟨Nat.le_of_ble_eq_true rfl, Nat.le_of_ble_eq_true rfl⟩) hP hD hS hA [5, 6, 7, 8] [0, 1, 2, 3, 4] [0, 1, 2, 3, 4, 5, 6, 7, 8] rfl rfl (by decide) (by decide) (fw := rc4 a q_t Q_t z_t ++ (rc6 a (Q_t 0) Q_t_0 z38)) rfl (by decide) (fun H locs hP hD hS => ?_)
      have hP : va_P D classes (rc4 a q_t Q_t z_t ++ (rc6 a (Q_t 0) Q_t_0 z38)) H := hP
      have hD : va_D A (rc4 a q_t Q_t z_t ++ (rc6 a (Q_t 0) Q_t_0 z38)) := hD
      exact rMv C rfl h (g := fun y => rc4 a q_t Q_t y.1 ++ (rc6 a (Q_t 0) Q_t_0 y.2)) hP hD hS dX4_readClause_30

set_option maxHeartbeats 4000000 in
set_option maxRecDepth 100000 in
theorem mX4_start (l : Launch) (D : va_G) (a : Nat → ClassId) {q_t : Nat} {Q_t : Nat → Nat} {z_t : Sx} {y : Sx} (h : fX4_start z_t = some y) (sz : Nat) : CMv (S := Unit) l MX4_start 0 0 0 0 D a [.ref q_t] (rc4 a q_t Q_t z_t) sz (fun _ => True) (fun _ => rc4 a q_t Q_t y) := by
  unfold fX4_start at h
  refine entMv (by decide) (Nat.le_of_ble_eq_true rfl) ?_
  intro p e s m below meth c C hK A hA hP hD ls hl
  obtain ⟨hx, hb, hml, hown, hts, hr, hlocks, hnm⟩ := id C
  have hb : c.code = cX4_start := hb
  have hown : s.vm.findClass RX4 = some m.cls := hown
  have hS : va_S A s.heap s.heap [] := va_S.rf
  have hl : lv_has ls 1 [(0, .ref q_t)] := hl
  refine lv_aload_n hx hb dX4_start_0 rfl (lv_at hl 0 rfl) ?_
  refine lv_iconst (v := 0) hx hb dX4_start_1 (by decide) ?_
  refine va_put (D := D) (v := .int 0) (C := RX4) (T := TX4) (N := 8) hx hb hts iX4 tyX4 tyX4_ok nmX4 hown hK.1 hP hD hS 0 rfl rfl 2 (by decide) (hts _ t_245) (fun _ h9 => h9) rfl (tyX4_ok 2 (by decide)) rfl rfl (Nat.le_of_ble_eq_true rfl) dX4_start_2 (fun H locs hP hD hS => ?_)
  have hP : va_P D classes (rc4 a q_t Q_t (sI z_t 2 0)) H := hP
  have hD : va_D A (rc4 a q_t Q_t (sI z_t 2 0)) := hD
  refine lv_aload_n hx hb dX4_start_5 rfl (lv_at hl 0 rfl) ?_
  refine lv_iconst (v := 0) hx hb dX4_start_6 (by decide) ?_
  refine va_put (D := D) (v := .int 0) (C := RX4) (T := TX4) (N := 8) hx hb hts iX4 tyX4 tyX4_ok nmX4 hown hK.1 hP hD hS 0 rfl rfl 3 (by decide) (hts _ t_246) (fun _ h9 => h9) rfl (tyX4_ok 3 (by decide)) rfl rfl (Nat.le_of_ble_eq_true rfl) dX4_start_7 (fun H locs hP hD hS => ?_)
  have hP : va_P D classes (rc4 a q_t Q_t (sI (sI z_t 2 0) 3 0)) H := hP
  have hD : va_D A (rc4 a q_t Q_t (sI (sI z_t 2 0) 3 0)) := hD
  refine lv_aload_n hx hb dX4_start_10 rfl (lv_at hl 0 rfl) ?_
  refine lv_iconst (v := 0) hx hb dX4_start_11 (by decide) ?_
  refine va_put (D := D) (v := .int 0) (C := RX4) (T := TX4) (N := 8) hx hb hts iX4 tyX4 tyX4_ok nmX4 hown hK.1 hP hD hS 0 rfl rfl 4 (by decide) (hts _ t_247) (fun _ h9 => h9) rfl (tyX4_ok 4 (by decide)) rfl rfl (Nat.le_of_ble_eq_true rfl) dX4_start_12 (fun H locs hP hD hS => ?_)
  have hP : va_P D classes (rc4 a q_t Q_t (sI (sI (sI z_t 2 0) 3 0) 4 0)) H := hP
  have hD : va_D A (rc4 a q_t Q_t (sI (sI (sI z_t 2 0) 3 0) 4 0)) := hD
  exact rMv C rfl h (g := fun y => rc4 a q_t Q_t y) hP hD hS dX4_start_15

set_option maxHeartbeats 4000000 in
set_option maxRecDepth 100000 in
theorem mX5_beginWork (l : Launch) (D : va_G) (a : Nat → ClassId) {q_t : Nat} {q_p1 : Nat} {Q_t : Nat → Nat} {z_t : Sx} {Q_t_1 : Nat → Nat} {z_t_1 : Sx} {Q_p1 : Nat → Nat} {z_p1 : Sx} {y : Sx × Sx} (h : fX5_beginWork z_t z_t_1 z_p1 = some y) (sz : Nat) : CMv (S := Unit) l MX5_beginWork 2 44 0 0 D a [.ref q_t, .ref q_p1] (rc5 a q_t Q_t z_t ++ (rc0 a (Q_t 1) Q_t_1 z_t_1 ++ (rc7 a q_p1 Q_p1 z_p1))) sz (fun _ => True) (fun _ => rc5 a q_t (va_up Q_t 0 q_p1) y.1 ++ (rc0 a (Q_t 1) Q_t_1 y.2 ++ (rc7 a q_p1 Q_p1 z_p1))) := by
  unfold fX5_beginWork at h
  refine entMv (by decide) (Nat.le_of_ble_eq_true rfl) ?_
  intro p e s m below meth c C hK A hA hP hD ls hl
  obtain ⟨hx, hb, hml, hown, hts, hr, hlocks, hnm⟩ := id C
  have hb : c.code = cX5_beginWork := hb
  have hown : s.vm.findClass RX5 = some m.cls := hown
  have hS : va_S A s.heap s.heap [] := va_S.rf
  have hl : lv_has ls 2 [(0, .ref q_t), (1, .ref q_p1)] := hl
  refine lv_aload_n hx hb dX5_beginWork_0 rfl (lv_at hl 0 rfl) ?_
  refine lv_aload_n hx hb dX5_beginWork_1 rfl (lv_at hl 1 rfl) ?_
  refine va_put (D := D) (v := .ref q_p1) (C := RX5) (T := TX5) (N := 8) hx hb hts iX5 tyX5 tyX5_ok nmX5 hown hK.1 hP hD hS 0 rfl rfl 0 (by decide) (hts _ t_160) (fun _ h9 => h9) rfl (tyX5_ok 0 (by decide)) rfl rfl (Nat.le_of_ble_eq_true rfl) dX5_beginWork_2 (fun H locs hP hD hS => ?_)
  have hP : va_P D classes (rc5 a q_t (va_up Q_t 0 q_p1) z_t ++ (rc0 a (Q_t 1) Q_t_1 z_t_1 ++ (rc7 a q_p1 Q_p1 z_p1))) H := hP
  have hD : va_D A (rc5 a q_t (va_up Q_t 0 q_p1) z_t ++ (rc0 a (Q_t 1) Q_t_1 z_t_1 ++ (rc7 a q_p1 Q_p1 z_p1))) := hD
  refine lv_aload_n hx hb dX5_beginWork_5 rfl (lv_at hl 0 rfl) ?_
  refine va_get (D := D) (v := .ref (Q_t 1)) (C := RX5) (T := TX5) (N := 8) hx hb hts iX5 hown hK.1 hP 0 rfl rfl 1 (by decide) (hts _ t_162) (fun _ h9 => h9) rfl dX5_beginWork_6 ?_
  refine lv_aload_n hx hb dX5_beginWork_9 rfl (lv_at hl 1 rfl) ?_
  refine va_get (D := D) (v := .int (gI z_p1 1)) (C := RX7) (T := TX7) (N := 18) hx hb hts iX7 hown hK.1 hP 5 rfl rfl 1 (by decide) (hts _ t_40) (fun _ h9 => h9) rfl dX5_beginWork_10 ?_
  obtain ⟨z2, hc1, h⟩ := bd_some h
  refine cMv (runV (As := [.int (gI z_p1 1)]) (rest := []) C (mX0_begin l D a (q_t := (Q_t 1)) (Q_t := Q_t_1) hc1 H.size) lk_V_5_57 okN_X0_begin ⟨Nat.le_of_ble_eq_true rfl, Nat.le_of_ble_eq_true rfl⟩ ⟨rfl, rfl⟩ (preV (preM hK (P_of_map (wc := rc0 a (Q_t 1) Q_t_1 z_t_1) hP [3, 4] rfl) (hD.sub (ws' := rc0 a (Q_t 1) Q_t_1 z_t_1) [3, 4] (by decide) rfl)) (recvOf hK hP 3 rfl (ci := 0) rfl)) hl.1 rfl (Nat.le_of_ble_eq_true rfl) dX5_beginWork_13 ⟨Nat.le_of_ble_eq_true rfl, Nat.le_of_ble_eq_true rfl⟩) hP hD hS hA [3, 4] [0, 1, 2, 5, 6, 7, 8, 9, 10, 11, 12, 13, 14, 15, 16, 17] [0, 1, 2, 16, 17, 3, 4, 5, 6, 7, 8, 9, 10, 11, 12, 13, 14, 15] rfl rfl (by decide) (by decide) (fw := rc5 a q_t (va_up Q_t 0 q_p1) z_t ++ (rc0 a (Q_t 1) Q_t_1 z2 ++ (rc7 a q_p1 Q_p1 z_p1))) rfl (by decide) (fun H locs hP hD hS => ?_)
  have hP : va_P D classes (rc5 a q_t (va_up Q_t 0 q_p1) z_t ++ (rc0 a (Q_t 1) Q_t_1 z2 ++ (rc7 a q_p1 Q_p1 z_p1))) H := hP
  have hD : va_D A (rc5 a q_t (va_up Q_t 0 q_p1) z_t ++ (rc0 a (Q_t 1) Q_t_1 z2 ++ (rc7 a q_p1 Q_p1 z_p1))) := hD
  refine lv_aload_n hx hb dX5_beginWork_16 rfl (lv_at hl 0 rfl) ?_
  refine va_get (D := D) (v := .ref (Q_t 1)) (C := RX5) (T := TX5) (N := 8) hx hb hts iX5 hown hK.1 hP 0 rfl rfl 1 (by decide) (hts _ t_162) (fun _ h9 => h9) rfl dX5_beginWork_17 ?_
  refine lv_iconst (v := 0) hx hb dX5_beginWork_20 (by decide) ?_
  refine va_put (D := D) (v := .int 0) (C := RX0) (T := TX0) (N := 6) hx hb hts iX0 tyX0 tyX0_ok nmX0 hown hK.1 hP hD hS 3 rfl rfl 3 (by decide) (hts _ t_140) (fun _ h9 => h9) rfl (tyX0_ok 3 (by decide)) rfl rfl (Nat.le_of_ble_eq_true rfl) dX5_beginWork_21 (fun H locs hP hD hS => ?_)
  have hP : va_P D classes (rc5 a q_t (va_up Q_t 0 q_p1) z_t ++ (rc0 a (Q_t 1) Q_t_1 (sI z2 3 0) ++ (rc7 a q_p1 Q_p1 z_p1))) H := hP
  have hD : va_D A (rc5 a q_t (va_up Q_t 0 q_p1) z_t ++ (rc0 a (Q_t 1) Q_t_1 (sI z2 3 0) ++ (rc7 a q_p1 Q_p1 z_p1))) := hD
  refine lv_aload_n hx hb dX5_beginWork_24 rfl (lv_at hl 0 rfl) ?_
  refine lv_iconst (v := 0) hx hb dX5_beginWork_25 (by decide) ?_
  refine va_put (D := D) (v := .int 0) (C := RX5) (T := TX5) (N := 8) hx hb hts iX5 tyX5 tyX5_ok nmX5 hown hK.1 hP hD hS 0 rfl rfl 2 (by decide) (hts _ t_164) (fun _ h9 => h9) rfl (tyX5_ok 2 (by decide)) rfl rfl (Nat.le_of_ble_eq_true rfl) dX5_beginWork_26 (fun H locs hP hD hS => ?_)
  have hP : va_P D classes (rc5 a q_t (va_up Q_t 0 q_p1) (sI z_t 2 0) ++ (rc0 a (Q_t 1) Q_t_1 (sI z2 3 0) ++ (rc7 a q_p1 Q_p1 z_p1))) H := hP
  have hD : va_D A (rc5 a q_t (va_up Q_t 0 q_p1) (sI z_t 2 0) ++ (rc0 a (Q_t 1) Q_t_1 (sI z2 3 0) ++ (rc7 a q_p1 Q_p1 z_p1))) := hD
  refine lv_aload_n hx hb dX5_beginWork_29 rfl (lv_at hl 0 rfl) ?_
  refine lv_iconst (v := 0) hx hb dX5_beginWork_30 (by decide) ?_
  refine va_put (D := D) (v := .int 0) (C := RX5) (T := TX5) (N := 8) hx hb hts iX5 tyX5 tyX5_ok nmX5 hown hK.1 hP hD hS 0 rfl rfl 3 (by decide) (hts _ t_166) (fun _ h9 => h9) rfl (tyX5_ok 3 (by decide)) rfl rfl (Nat.le_of_ble_eq_true rfl) dX5_beginWork_31 (fun H locs hP hD hS => ?_)
  have hP : va_P D classes (rc5 a q_t (va_up Q_t 0 q_p1) (sI (sI z_t 2 0) 3 0) ++ (rc0 a (Q_t 1) Q_t_1 (sI z2 3 0) ++ (rc7 a q_p1 Q_p1 z_p1))) H := hP
  have hD : va_D A (rc5 a q_t (va_up Q_t 0 q_p1) (sI (sI z_t 2 0) 3 0) ++ (rc0 a (Q_t 1) Q_t_1 (sI z2 3 0) ++ (rc7 a q_p1 Q_p1 z_p1))) := hD
  refine lv_aload_n hx hb dX5_beginWork_34 rfl (lv_at hl 0 rfl) ?_
  refine lv_iconst (v := 0) hx hb dX5_beginWork_35 (by decide) ?_
  refine va_put (D := D) (v := .int 0) (C := RX5) (T := TX5) (N := 8) hx hb hts iX5 tyX5 tyX5_ok nmX5 hown hK.1 hP hD hS 0 rfl rfl 4 (by decide) (hts _ t_168) (fun _ h9 => h9) rfl (tyX5_ok 4 (by decide)) rfl rfl (Nat.le_of_ble_eq_true rfl) dX5_beginWork_36 (fun H locs hP hD hS => ?_)
  have hP : va_P D classes (rc5 a q_t (va_up Q_t 0 q_p1) (sI (sI (sI z_t 2 0) 3 0) 4 0) ++ (rc0 a (Q_t 1) Q_t_1 (sI z2 3 0) ++ (rc7 a q_p1 Q_p1 z_p1))) H := hP
  have hD : va_D A (rc5 a q_t (va_up Q_t 0 q_p1) (sI (sI (sI z_t 2 0) 3 0) 4 0) ++ (rc0 a (Q_t 1) Q_t_1 (sI z2 3 0) ++ (rc7 a q_p1 Q_p1 z_p1))) := hD
  refine lv_aload_n hx hb dX5_beginWork_39 rfl (lv_at hl 0 rfl) ?_
  refine lv_iconst (v := 0) hx hb dX5_beginWork_40 (by decide) ?_
  refine va_put (D := D) (v := .int 0) (C := RX5) (T := TX5) (N := 8) hx hb hts iX5 tyX5 tyX5_ok nmX5 hown hK.1 hP hD hS 0 rfl rfl 6 (by decide) (hts _ t_172) (fun _ h9 => h9) rfl (tyX5_ok 6 (by decide)) rfl rfl (Nat.le_of_ble_eq_true rfl) dX5_beginWork_41 (fun H locs hP hD hS => ?_)
  have hP : va_P D classes (rc5 a q_t (va_up Q_t 0 q_p1) (sI (sI (sI (sI z_t 2 0) 3 0) 4 0) 6 0) ++ (rc0 a (Q_t 1) Q_t_1 (sI z2 3 0) ++ (rc7 a q_p1 Q_p1 z_p1))) H := hP
  have hD : va_D A (rc5 a q_t (va_up Q_t 0 q_p1) (sI (sI (sI (sI z_t 2 0) 3 0) 4 0) 6 0) ++ (rc0 a (Q_t 1) Q_t_1 (sI z2 3 0) ++ (rc7 a q_p1 Q_p1 z_p1))) := hD
  exact rMv C rfl h (g := fun y => rc5 a q_t (va_up Q_t 0 q_p1) y.1 ++ (rc0 a (Q_t 1) Q_t_1 y.2 ++ (rc7 a q_p1 Q_p1 z_p1))) hP hD hS dX5_beginWork_44

set_option maxHeartbeats 4000000 in
set_option maxRecDepth 100000 in
theorem mX5_copyFrom (l : Launch) (D : va_G) (a : Nat → ClassId) {q_t : Nat} {q_p1 : Nat} {Q_t : Nat → Nat} {z_t : Sx} {Q_t_1 : Nat → Nat} {z_t_1 : Sx} {Q_p1 : Nat → Nat} {z_p1 : Sx} {Q_p1_1 : Nat → Nat} {z_p1_1 : Sx} {y : Sx × Sx} (h : fX5_copyFrom z_t z_t_1 z_p1 z_p1_1 = some y) (sz : Nat) : CMv (S := Unit) l MX5_copyFrom 2 81 0 0 D a [.ref q_t, .ref q_p1] (rc5 a q_t Q_t z_t ++ (rc0 a (Q_t 1) Q_t_1 z_t_1 ++ (rc5 a q_p1 Q_p1 z_p1 ++ (rc0 a (Q_p1 1) Q_p1_1 z_p1_1)))) sz (fun _ => True) (fun _ => rc5 a q_t (va_up Q_t 0 (Q_p1 0)) y.1 ++ (rc0 a (Q_t 1) Q_t_1 y.2 ++ (rc5 a q_p1 Q_p1 z_p1 ++ (rc0 a (Q_p1 1) Q_p1_1 z_p1_1)))) := by
  unfold fX5_copyFrom at h
  refine entMv (by decide) (Nat.le_of_ble_eq_true rfl) ?_
  intro p e s m below meth c C hK A hA hP hD ls hl
  obtain ⟨hx, hb, hml, hown, hts, hr, hlocks, hnm⟩ := id C
  have hb : c.code = cX5_copyFrom := hb
  have hown : s.vm.findClass RX5 = some m.cls := hown
  have hS : va_S A s.heap s.heap [] := va_S.rf
  have hl : lv_has ls 2 [(0, .ref q_t), (1, .ref q_p1)] := hl
  refine lv_aload_n hx hb dX5_copyFrom_0 rfl (lv_at hl 0 rfl) ?_
  refine lv_aload_n hx hb dX5_copyFrom_1 rfl (lv_at hl 1 rfl) ?_
  refine va_get (D := D) (v := .ref (Q_p1 0)) (C := RX5) (T := TX5) (N := 8) hx hb hts iX5 hown hK.1 hP 5 rfl rfl 0 (by decide) (hts _ t_160) (fun _ h9 => h9) rfl dX5_copyFrom_2 ?_
  refine va_put (D := D) (v := .ref (Q_p1 0)) (C := RX5) (T := TX5) (N := 8) hx hb hts iX5 tyX5 tyX5_ok nmX5 hown hK.1 hP hD hS 0 rfl rfl 0 (by decide) (hts _ t_160) (fun _ h9 => h9) rfl (tyX5_ok 0 (by decide)) rfl rfl (Nat.le_of_ble_eq_true rfl) dX5_copyFrom_5 (fun H locs hP hD hS => ?_)
  have hP : va_P D classes (rc5 a q_t (va_up Q_t 0 (Q_p1 0)) z_t ++ (rc0 a (Q_t 1) Q_t_1 z_t_1 ++ (rc5 a q_p1 Q_p1 z_p1 ++ (rc0 a (Q_p1 1) Q_p1_1 z_p1_1)))) H := hP
  have hD : va_D A (rc5 a q_t (va_up Q_t 0 (Q_p1 0)) z_t ++ (rc0 a (Q_t 1) Q_t_1 z_t_1 ++ (rc5 a q_p1 Q_p1 z_p1 ++ (rc0 a (Q_p1 1) Q_p1_1 z_p1_1)))) := hD
  refine lv_aload_n hx hb dX5_copyFrom_8 rfl (lv_at hl 0 rfl) ?_
  refine va_get (D := D) (v := .ref (Q_t 1)) (C := RX5) (T := TX5) (N := 8) hx hb hts iX5 hown hK.1 hP 0 rfl rfl 1 (by decide) (hts _ t_162) (fun _ h9 => h9) rfl dX5_copyFrom_9 ?_
  refine lv_aload_n hx hb dX5_copyFrom_12 rfl (lv_at hl 1 rfl) ?_
  refine va_get (D := D) (v := .ref (Q_p1 1)) (C := RX5) (T := TX5) (N := 8) hx hb hts iX5 hown hK.1 hP 5 rfl rfl 1 (by decide) (hts _ t_162) (fun _ h9 => h9) rfl dX5_copyFrom_13 ?_
  obtain ⟨z2, hc1, h⟩ := bd_some h
  refine cMv (runV (As := [.ref (Q_p1 1)]) (rest := []) C (mX0_copyFrom l D a (q_t := (Q_t 1)) (q_p1 := (Q_p1 1)) (Q_t := Q_t_1) (Q_p1 := Q_p1_1) hc1 H.size) lk_V_5_29 okN_X0_copyFrom ⟨Nat.le_of_ble_eq_true rfl, Nat.le_of_ble_eq_true rfl⟩ ⟨rfl, rfl⟩ (preV (preM hK (P_of_map (wc := rc0 a (Q_t 1) Q_t_1 z_t_1 ++ (rc0 a (Q_p1 1) Q_p1_1 z_p1_1)) hP [3, 4, 8, 9] rfl) (hD.sub (ws' := rc0 a (Q_t 1) Q_t_1 z_t_1 ++ (rc0 a (Q_p1 1) Q_p1_1 z_p1_1)) [3, 4, 8, 9] (by decide) rfl)) (recvOf hK hP 3 rfl (ci := 0) rfl)) hl.1 rfl (Nat.le_of_ble_eq_true rfl) dX5_copyFrom_16 ⟨Nat.le_of_ble_eq_true rfl, Nat.le_of_ble_eq_true rfl⟩) hP hD hS hA [3, 4, 8, 9] [0, 1, 2, 5, 6, 7] [0, 1, 2, 6, 7, 3, 4, 5, 8, 9] rfl rfl (by decide) (by decide) (fw := rc5 a q_t (va_up Q_t 0 (Q_p1 0)) z_t ++ (rc0 a (Q_t 1) Q_t_1 z2 ++ (rc5 a q_p1 Q_p1 z_p1 ++ (rc0 a (Q_p1 1) Q_p1_1 z_p1_1)))) rfl (by decide) (fun H locs hP hD hS => ?_)
  have hP : va_P D classes (rc5 a q_t (va_up Q_t 0 (Q_p1 0)) z_t ++ (rc0 a (Q_t 1) Q_t_1 z2 ++ (rc5 a q_p1 Q_p1 z_p1 ++ (rc0 a (Q_p1 1) Q_p1_1 z_p1_1)))) H := hP
  have hD : va_D A (rc5 a q_t (va_up Q_t 0 (Q_p1 0)) z_t ++ (rc0 a (Q_t 1) Q_t_1 z2 ++ (rc5 a q_p1 Q_p1 z_p1 ++ (rc0 a (Q_p1 1) Q_p1_1 z_p1_1)))) := hD
  refine lv_aload_n hx hb dX5_copyFrom_19 rfl (lv_at hl 0 rfl) ?_
  refine lv_aload_n hx hb dX5_copyFrom_20 rfl (lv_at hl 1 rfl) ?_
  refine va_get (D := D) (v := .int (gI z_p1 2)) (C := RX5) (T := TX5) (N := 8) hx hb hts iX5 hown hK.1 hP 5 rfl rfl 2 (by decide) (hts _ t_164) (fun _ h9 => h9) rfl dX5_copyFrom_21 ?_
  refine va_put (D := D) (v := .int (gI z_p1 2)) (C := RX5) (T := TX5) (N := 8) hx hb hts iX5 tyX5 tyX5_ok nmX5 hown hK.1 hP hD hS 0 rfl rfl 2 (by decide) (hts _ t_164) (fun _ h9 => h9) rfl (tyX5_ok 2 (by decide)) rfl rfl (Nat.le_of_ble_eq_true rfl) dX5_copyFrom_24 (fun H locs hP hD hS => ?_)
  have hP : va_P D classes (rc5 a q_t (va_up Q_t 0 (Q_p1 0)) (sI z_t 2 (gI z_p1 2)) ++ (rc0 a (Q_t 1) Q_t_1 z2 ++ (rc5 a q_p1 Q_p1 z_p1 ++ (rc0 a (Q_p1 1) Q_p1_1 z_p1_1)))) H := hP
  have hD : va_D A (rc5 a q_t (va_up Q_t 0 (Q_p1 0)) (sI z_t 2 (gI z_p1 2)) ++ (rc0 a (Q_t 1) Q_t_1 z2 ++ (rc5 a q_p1 Q_p1 z_p1 ++ (rc0 a (Q_p1 1) Q_p1_1 z_p1_1)))) := hD
  refine lv_aload_n hx hb dX5_copyFrom_27 rfl (lv_at hl 0 rfl) ?_
  refine lv_aload_n hx hb dX5_copyFrom_28 rfl (lv_at hl 1 rfl) ?_
  refine va_get (D := D) (v := .int (gI z_p1 3)) (C := RX5) (T := TX5) (N := 8) hx hb hts iX5 hown hK.1 hP 5 rfl rfl 3 (by decide) (hts _ t_166) (fun _ h9 => h9) rfl dX5_copyFrom_29 ?_
  refine va_put (D := D) (v := .int (gI z_p1 3)) (C := RX5) (T := TX5) (N := 8) hx hb hts iX5 tyX5 tyX5_ok nmX5 hown hK.1 hP hD hS 0 rfl rfl 3 (by decide) (hts _ t_166) (fun _ h9 => h9) rfl (tyX5_ok 3 (by decide)) rfl rfl (Nat.le_of_ble_eq_true rfl) dX5_copyFrom_32 (fun H locs hP hD hS => ?_)
  have hP : va_P D classes (rc5 a q_t (va_up Q_t 0 (Q_p1 0)) (sI (sI z_t 2 (gI z_p1 2)) 3 (gI z_p1 3)) ++ (rc0 a (Q_t 1) Q_t_1 z2 ++ (rc5 a q_p1 Q_p1 z_p1 ++ (rc0 a (Q_p1 1) Q_p1_1 z_p1_1)))) H := hP
  have hD : va_D A (rc5 a q_t (va_up Q_t 0 (Q_p1 0)) (sI (sI z_t 2 (gI z_p1 2)) 3 (gI z_p1 3)) ++ (rc0 a (Q_t 1) Q_t_1 z2 ++ (rc5 a q_p1 Q_p1 z_p1 ++ (rc0 a (Q_p1 1) Q_p1_1 z_p1_1)))) := hD
  refine lv_aload_n hx hb dX5_copyFrom_35 rfl (lv_at hl 0 rfl) ?_
  refine lv_aload_n hx hb dX5_copyFrom_36 rfl (lv_at hl 1 rfl) ?_
  refine va_get (D := D) (v := .int (gI z_p1 4)) (C := RX5) (T := TX5) (N := 8) hx hb hts iX5 hown hK.1 hP 5 rfl rfl 4 (by decide) (hts _ t_168) (fun _ h9 => h9) rfl dX5_copyFrom_37 ?_
  refine va_put (D := D) (v := .int (gI z_p1 4)) (C := RX5) (T := TX5) (N := 8) hx hb hts iX5 tyX5 tyX5_ok nmX5 hown hK.1 hP hD hS 0 rfl rfl 4 (by decide) (hts _ t_168) (fun _ h9 => h9) rfl (tyX5_ok 4 (by decide)) rfl rfl (Nat.le_of_ble_eq_true rfl) dX5_copyFrom_40 (fun H locs hP hD hS => ?_)
  have hP : va_P D classes (rc5 a q_t (va_up Q_t 0 (Q_p1 0)) (sI (sI (sI z_t 2 (gI z_p1 2)) 3 (gI z_p1 3)) 4 (gI z_p1 4)) ++ (rc0 a (Q_t 1) Q_t_1 z2 ++ (rc5 a q_p1 Q_p1 z_p1 ++ (rc0 a (Q_p1 1) Q_p1_1 z_p1_1)))) H := hP
  have hD : va_D A (rc5 a q_t (va_up Q_t 0 (Q_p1 0)) (sI (sI (sI z_t 2 (gI z_p1 2)) 3 (gI z_p1 3)) 4 (gI z_p1 4)) ++ (rc0 a (Q_t 1) Q_t_1 z2 ++ (rc5 a q_p1 Q_p1 z_p1 ++ (rc0 a (Q_p1 1) Q_p1_1 z_p1_1)))) := hD
  refine lv_aload_n hx hb dX5_copyFrom_43 rfl (lv_at hl 1 rfl) ?_
  refine va_get (D := D) (v := .ref (Q_p1 5)) (C := RX5) (T := TX5) (N := 8) hx hb hts iX5 hown hK.1 hP 5 rfl rfl 5 (by decide) (hts _ t_170) (fun _ h9 => h9) rfl dX5_copyFrom_44 ?_
  refine lv_iconst (v := 0) hx hb dX5_copyFrom_47 (by decide) ?_
  refine lv_aload_n hx hb dX5_copyFrom_48 rfl (lv_at hl 0 rfl) ?_
  refine va_get (D := D) (v := .ref (Q_t 5)) (C := RX5) (T := TX5) (N := 8) hx hb hts iX5 hown hK.1 hP 0 rfl rfl 5 (by decide) (hts _ t_170) (fun _ h9 => h9) rfl dX5_copyFrom_49 ?_
  refine lv_iconst (v := 0) hx hb dX5_copyFrom_52 (by decide) ?_
  refine lv_bipush (v := 8) hx hb dX5_copyFrom_53 (by decide) ?_
  refine va_copyi hx hb (by rw [hml]; exact hl.1.symm) hown (hts _ t_871) (hts _ t_574) (hts _ t_573) (hts _ t_17) hK.1 hP hD hS 6 1 0 0 rfl rfl rfl rfl rfl (by decide) (by decide) (by decide) (by decide) (by decide) (fun _ _ => rfl) (Nat.le_of_ble_eq_true rfl) (Nat.le_of_ble_eq_true rfl) dX5_copyFrom_55 (fun H locs hP hD hS => ?_)
  have hP : va_P D classes (rc5 a q_t (va_up Q_t 0 (Q_p1 0)) (sTf (sI (sI (sI z_t 2 (gI z_p1 2)) 3 (gI z_p1 3)) 4 (gI z_p1 4)) 5 (va_cpy (gT z_p1 5) (gT (sI (sI (sI z_t 2 (gI z_p1 2)) 3 (gI z_p1 3)) 4 (gI z_p1 4)) 5) 0 0 8)) ++ (rc0 a (Q_t 1) Q_t_1 z2 ++ (rc5 a q_p1 Q_p1 z_p1 ++ (rc0 a (Q_p1 1) Q_p1_1 z_p1_1)))) H := hP
  have hD : va_D A (rc5 a q_t (va_up Q_t 0 (Q_p1 0)) (sTf (sI (sI (sI z_t 2 (gI z_p1 2)) 3 (gI z_p1 3)) 4 (gI z_p1 4)) 5 (va_cpy (gT z_p1 5) (gT (sI (sI (sI z_t 2 (gI z_p1 2)) 3 (gI z_p1 3)) 4 (gI z_p1 4)) 5) 0 0 8)) ++ (rc0 a (Q_t 1) Q_t_1 z2 ++ (rc5 a q_p1 Q_p1 z_p1 ++ (rc0 a (Q_p1 1) Q_p1_1 z_p1_1)))) := hD
  refine lv_aload_n hx hb dX5_copyFrom_58 rfl (lv_at hl 0 rfl) ?_
  refine lv_aload_n hx hb dX5_copyFrom_59 rfl (lv_at hl 1 rfl) ?_
  refine va_get (D := D) (v := .int (gI z_p1 6)) (C := RX5) (T := TX5) (N := 8) hx hb hts iX5 hown hK.1 hP 5 rfl rfl 6 (by decide) (hts _ t_172) (fun _ h9 => h9) rfl dX5_copyFrom_60 ?_
  refine va_put (D := D) (v := .int (gI z_p1 6)) (C := RX5) (T := TX5) (N := 8) hx hb hts iX5 tyX5 tyX5_ok nmX5 hown hK.1 hP hD hS 0 rfl rfl 6 (by decide) (hts _ t_172) (fun _ h9 => h9) rfl (tyX5_ok 6 (by decide)) rfl rfl (Nat.le_of_ble_eq_true rfl) dX5_copyFrom_63 (fun H locs hP hD hS => ?_)
  have hP : va_P D classes (rc5 a q_t (va_up Q_t 0 (Q_p1 0)) (sI (sTf (sI (sI (sI z_t 2 (gI z_p1 2)) 3 (gI z_p1 3)) 4 (gI z_p1 4)) 5 (va_cpy (gT z_p1 5) (gT (sI (sI (sI z_t 2 (gI z_p1 2)) 3 (gI z_p1 3)) 4 (gI z_p1 4)) 5) 0 0 8)) 6 (gI z_p1 6)) ++ (rc0 a (Q_t 1) Q_t_1 z2 ++ (rc5 a q_p1 Q_p1 z_p1 ++ (rc0 a (Q_p1 1) Q_p1_1 z_p1_1)))) H := hP
  have hD : va_D A (rc5 a q_t (va_up Q_t 0 (Q_p1 0)) (sI (sTf (sI (sI (sI z_t 2 (gI z_p1 2)) 3 (gI z_p1 3)) 4 (gI z_p1 4)) 5 (va_cpy (gT z_p1 5) (gT (sI (sI (sI z_t 2 (gI z_p1 2)) 3 (gI z_p1 3)) 4 (gI z_p1 4)) 5) 0 0 8)) 6 (gI z_p1 6)) ++ (rc0 a (Q_t 1) Q_t_1 z2 ++ (rc5 a q_p1 Q_p1 z_p1 ++ (rc0 a (Q_p1 1) Q_p1_1 z_p1_1)))) := hD
  refine lv_aload_n hx hb dX5_copyFrom_66 rfl (lv_at hl 1 rfl) ?_
  refine va_get (D := D) (v := .ref (Q_p1 7)) (C := RX5) (T := TX5) (N := 8) hx hb hts iX5 hown hK.1 hP 5 rfl rfl 7 (by decide) (hts _ t_174) (fun _ h9 => h9) rfl dX5_copyFrom_67 ?_
  refine lv_iconst (v := 0) hx hb dX5_copyFrom_70 (by decide) ?_
  refine lv_aload_n hx hb dX5_copyFrom_71 rfl (lv_at hl 0 rfl) ?_
  refine va_get (D := D) (v := .ref (Q_t 7)) (C := RX5) (T := TX5) (N := 8) hx hb hts iX5 hown hK.1 hP 0 rfl rfl 7 (by decide) (hts _ t_174) (fun _ h9 => h9) rfl dX5_copyFrom_72 ?_
  refine lv_iconst (v := 0) hx hb dX5_copyFrom_75 (by decide) ?_
  refine lv_bipush (v := 8) hx hb dX5_copyFrom_76 (by decide) ?_
  refine va_copyi hx hb (by rw [hml]; exact hl.1.symm) hown (hts _ t_871) (hts _ t_574) (hts _ t_573) (hts _ t_17) hK.1 hP hD hS 7 2 0 0 rfl rfl rfl rfl rfl (by decide) (by decide) (by decide) (by decide) (by decide) (fun _ _ => rfl) (Nat.le_of_ble_eq_true rfl) (Nat.le_of_ble_eq_true rfl) dX5_copyFrom_78 (fun H locs hP hD hS => ?_)
  have hP : va_P D classes (rc5 a q_t (va_up Q_t 0 (Q_p1 0)) (sTf (sI (sTf (sI (sI (sI z_t 2 (gI z_p1 2)) 3 (gI z_p1 3)) 4 (gI z_p1 4)) 5 (va_cpy (gT z_p1 5) (gT (sI (sI (sI z_t 2 (gI z_p1 2)) 3 (gI z_p1 3)) 4 (gI z_p1 4)) 5) 0 0 8)) 6 (gI z_p1 6)) 7 (va_cpy (gT z_p1 7) (gT (sI (sTf (sI (sI (sI z_t 2 (gI z_p1 2)) 3 (gI z_p1 3)) 4 (gI z_p1 4)) 5 (va_cpy (gT z_p1 5) (gT (sI (sI (sI z_t 2 (gI z_p1 2)) 3 (gI z_p1 3)) 4 (gI z_p1 4)) 5) 0 0 8)) 6 (gI z_p1 6)) 7) 0 0 8)) ++ (rc0 a (Q_t 1) Q_t_1 z2 ++ (rc5 a q_p1 Q_p1 z_p1 ++ (rc0 a (Q_p1 1) Q_p1_1 z_p1_1)))) H := hP
  have hD : va_D A (rc5 a q_t (va_up Q_t 0 (Q_p1 0)) (sTf (sI (sTf (sI (sI (sI z_t 2 (gI z_p1 2)) 3 (gI z_p1 3)) 4 (gI z_p1 4)) 5 (va_cpy (gT z_p1 5) (gT (sI (sI (sI z_t 2 (gI z_p1 2)) 3 (gI z_p1 3)) 4 (gI z_p1 4)) 5) 0 0 8)) 6 (gI z_p1 6)) 7 (va_cpy (gT z_p1 7) (gT (sI (sTf (sI (sI (sI z_t 2 (gI z_p1 2)) 3 (gI z_p1 3)) 4 (gI z_p1 4)) 5 (va_cpy (gT z_p1 5) (gT (sI (sI (sI z_t 2 (gI z_p1 2)) 3 (gI z_p1 3)) 4 (gI z_p1 4)) 5) 0 0 8)) 6 (gI z_p1 6)) 7) 0 0 8)) ++ (rc0 a (Q_t 1) Q_t_1 z2 ++ (rc5 a q_p1 Q_p1 z_p1 ++ (rc0 a (Q_p1 1) Q_p1_1 z_p1_1)))) := hD
  exact rMv C rfl h (g := fun y => rc5 a q_t (va_up Q_t 0 (Q_p1 0)) y.1 ++ (rc0 a (Q_t 1) Q_t_1 y.2 ++ (rc5 a q_p1 Q_p1 z_p1 ++ (rc0 a (Q_p1 1) Q_p1_1 z_p1_1)))) hP hD hS dX5_copyFrom_81

set_option maxHeartbeats 4000000 in
set_option maxRecDepth 100000 in
theorem mX6_addToken (l : Launch) (D : va_G) (a : Nat → ClassId) {q_t : Nat} {Q_t : Nat → Nat} {z_t : Sx} {x1 : Int32} {x2 : Int32} {x3 : Int32} {y : Sx} (h : fX6_addToken z_t x1 x2 x3 = some y) (sz : Nat) : CMv (S := Unit) l MX6_addToken 0 0 0 0 D a [.ref q_t, .int x1, .int x2, .int x3] (rc6 a q_t Q_t z_t) sz (fun _ => True) (fun _ => rc6 a q_t Q_t y) := by
  unfold fX6_addToken at h
  refine entMv (by decide) (Nat.le_of_ble_eq_true rfl) ?_
  intro p e s m below meth c C hK A hA hP hD ls hl
  obtain ⟨hx, hb, hml, hown, hts, hr, hlocks, hnm⟩ := id C
  have hb : c.code = cX6_addToken := hb
  have hown : s.vm.findClass RX6 = some m.cls := hown
  have hS : va_S A s.heap s.heap [] := va_S.rf
  have hl : lv_has ls 4 [(0, .ref q_t), (1, .int x1), (2, .int x2), (3, .int x3)] := hl
  refine lv_aload_n hx hb dX6_addToken_0 rfl (lv_at hl 0 rfl) ?_
  refine va_get (D := D) (v := .int (gI z_t 3)) (C := RX6) (T := TX6) (N := 9) hx hb hts iX6 hown hK.1 hP 0 rfl rfl 3 (by decide) (hts _ t_211) (fun _ h9 => h9) rfl dX6_addToken_1 ?_
  refine lv_if_lt (tgt := 59) hx hb dX6_addToken_4 (by decide) (fun c1 => ?_) (fun c1 => ?_)
  · have h := ite_t c1 h
    exact rMv C rfl h (g := fun y => rc6 a q_t Q_t y) hP hD hS dX6_addToken_59
  · have h := ite_f c1 h
    refine lv_aload_n hx hb dX6_addToken_7 rfl (lv_at hl 0 rfl) ?_
    refine va_get (D := D) (v := .int (gI z_t 3)) (C := RX6) (T := TX6) (N := 9) hx hb hts iX6 hown hK.1 hP 0 rfl rfl 3 (by decide) (hts _ t_211) (fun _ h9 => h9) rfl dX6_addToken_8 ?_
    refine lv_aload_n hx hb dX6_addToken_11 rfl (lv_at hl 0 rfl) ?_
    refine va_get (D := D) (v := .ref (Q_t 0)) (C := RX6) (T := TX6) (N := 9) hx hb hts iX6 hown hK.1 hP 0 rfl rfl 0 (by decide) (hts _ t_208) (fun _ h9 => h9) rfl dX6_addToken_12 ?_
    refine va_alen (v := 401) hx hb hK.1 hP 1 0 rfl rfl rfl dX6_addToken_15 ?_
    refine lv_icmp_ge (tgt := 59) hx hb dX6_addToken_16 (by decide) (fun c2 => ?_) (fun c2 => ?_)
    · have h := ite_t c2 h
      exact rMv C rfl h (g := fun y => rc6 a q_t Q_t y) hP hD hS dX6_addToken_59
    · have h := ite_f c2 h
      refine lv_aload_n hx hb dX6_addToken_19 rfl (lv_at hl 0 rfl) ?_
      refine va_get (D := D) (v := .ref (Q_t 0)) (C := RX6) (T := TX6) (N := 9) hx hb hts iX6 hown hK.1 hP 0 rfl rfl 0 (by decide) (hts _ t_208) (fun _ h9 => h9) rfl dX6_addToken_20 ?_
      refine lv_aload_n hx hb dX6_addToken_23 rfl (lv_at hl 0 rfl) ?_
      refine va_get (D := D) (v := .int (gI z_t 3)) (C := RX6) (T := TX6) (N := 9) hx hb hts iX6 hown hK.1 hP 0 rfl rfl 3 (by decide) (hts _ t_211) (fun _ h9 => h9) rfl dX6_addToken_24 ?_
      refine lv_iload_n hx hb dX6_addToken_27 rfl (lv_at hl 1 rfl) ?_
      obtain ⟨g3, h⟩ := gd_some h
      refine ast_i hx hb hK.1 hP hD hS 1 0 rfl rfl ((gI z_t 3).toNatClampNeg) (ix_g g3) dX6_addToken_28 (fun H locs hP hD hS => ?_)
      have hP : va_P D classes (rc6 a q_t Q_t (sT z_t 0 ((gI z_t 3).toNatClampNeg) x1)) H := hP
      have hD : va_D A (rc6 a q_t Q_t (sT z_t 0 ((gI z_t 3).toNatClampNeg) x1)) := hD
      refine lv_aload_n hx hb dX6_addToken_29 rfl (lv_at hl 0 rfl) ?_
      refine va_get (D := D) (v := .ref (Q_t 1)) (C := RX6) (T := TX6) (N := 9) hx hb hts iX6 hown hK.1 hP 0 rfl rfl 1 (by decide) (hts _ t_209) (fun _ h9 => h9) rfl dX6_addToken_30 ?_
      refine lv_aload_n hx hb dX6_addToken_33 rfl (lv_at hl 0 rfl) ?_
      refine va_get (D := D) (v := .int (gI z_t 3)) (C := RX6) (T := TX6) (N := 9) hx hb hts iX6 hown hK.1 hP 0 rfl rfl 3 (by decide) (hts _ t_211) (fun _ h9 => h9) rfl dX6_addToken_34 ?_
      refine lv_iload_n hx hb dX6_addToken_37 rfl (lv_at hl 2 rfl) ?_
      refine ast_i hx hb hK.1 hP hD hS 2 0 rfl rfl ((gI z_t 3).toNatClampNeg) (ix_g g3) dX6_addToken_38 (fun H locs hP hD hS => ?_)
      have hP : va_P D classes (rc6 a q_t Q_t (sT (sT z_t 0 ((gI z_t 3).toNatClampNeg) x1) 1 ((gI z_t 3).toNatClampNeg) x2)) H := hP
      have hD : va_D A (rc6 a q_t Q_t (sT (sT z_t 0 ((gI z_t 3).toNatClampNeg) x1) 1 ((gI z_t 3).toNatClampNeg) x2)) := hD
      refine lv_aload_n hx hb dX6_addToken_39 rfl (lv_at hl 0 rfl) ?_
      refine va_get (D := D) (v := .ref (Q_t 2)) (C := RX6) (T := TX6) (N := 9) hx hb hts iX6 hown hK.1 hP 0 rfl rfl 2 (by decide) (hts _ t_210) (fun _ h9 => h9) rfl dX6_addToken_40 ?_
      refine lv_aload_n hx hb dX6_addToken_43 rfl (lv_at hl 0 rfl) ?_
      refine va_get (D := D) (v := .int (gI z_t 3)) (C := RX6) (T := TX6) (N := 9) hx hb hts iX6 hown hK.1 hP 0 rfl rfl 3 (by decide) (hts _ t_211) (fun _ h9 => h9) rfl dX6_addToken_44 ?_
      refine lv_iload_n hx hb dX6_addToken_47 rfl (lv_at hl 3 rfl) ?_
      refine ast_i hx hb hK.1 hP hD hS 3 0 rfl rfl ((gI z_t 3).toNatClampNeg) (ix_g g3) dX6_addToken_48 (fun H locs hP hD hS => ?_)
      have hP : va_P D classes (rc6 a q_t Q_t (sT (sT (sT z_t 0 ((gI z_t 3).toNatClampNeg) x1) 1 ((gI z_t 3).toNatClampNeg) x2) 2 ((gI z_t 3).toNatClampNeg) x3)) H := hP
      have hD : va_D A (rc6 a q_t Q_t (sT (sT (sT z_t 0 ((gI z_t 3).toNatClampNeg) x1) 1 ((gI z_t 3).toNatClampNeg) x2) 2 ((gI z_t 3).toNatClampNeg) x3)) := hD
      refine lv_aload_n hx hb dX6_addToken_49 rfl (lv_at hl 0 rfl) ?_
      refine lv_dup hx hb dX6_addToken_50 rfl ?_
      refine va_get (D := D) (v := .int (gI z_t 3)) (C := RX6) (T := TX6) (N := 9) hx hb hts iX6 hown hK.1 hP 0 rfl rfl 3 (by decide) (hts _ t_211) (fun _ h9 => h9) rfl dX6_addToken_51 ?_
      refine lv_iconst (v := 1) hx hb dX6_addToken_54 (by decide) ?_
      refine lv_iadd hx hb dX6_addToken_55 ?_
      refine va_put (D := D) (v := .int ((gI z_t 3) + 1)) (C := RX6) (T := TX6) (N := 9) hx hb hts iX6 tyX6 tyX6_ok nmX6 hown hK.1 hP hD hS 0 rfl rfl 3 (by decide) (hts _ t_211) (fun _ h9 => h9) rfl (tyX6_ok 3 (by decide)) rfl rfl (Nat.le_of_ble_eq_true rfl) dX6_addToken_56 (fun H locs hP hD hS => ?_)
      have hP : va_P D classes (rc6 a q_t Q_t (sI (sT (sT (sT z_t 0 ((gI z_t 3).toNatClampNeg) x1) 1 ((gI z_t 3).toNatClampNeg) x2) 2 ((gI z_t 3).toNatClampNeg) x3) 3 ((gI z_t 3) + 1))) H := hP
      have hD : va_D A (rc6 a q_t Q_t (sI (sT (sT (sT z_t 0 ((gI z_t 3).toNatClampNeg) x1) 1 ((gI z_t 3).toNatClampNeg) x2) 2 ((gI z_t 3).toNatClampNeg) x3) 3 ((gI z_t 3) + 1))) := hD
      exact rMv C rfl h (g := fun y => rc6 a q_t Q_t y) hP hD hS dX6_addToken_59

set_option maxHeartbeats 4000000 in
set_option maxRecDepth 100000 in
theorem mX6_anotherClause (l : Launch) (D : va_G) (a : Nat → ClassId) {q_t : Nat} {Q_t : Nat → Nat} {z_t : Sx} {y : Int32 × Sx} (h : fX6_anotherClause z_t = some y) (sz : Nat) : CMi (S := Unit) l MX6_anotherClause 1 21 0 0 D a [.ref q_t] (rc6 a q_t Q_t z_t) sz (fun r _ => r = y.1) (fun _ => rc6 a q_t Q_t y.2) := by
  unfold fX6_anotherClause at h
  refine entMi (by decide) (Nat.le_of_ble_eq_true rfl) ?_
  intro p e s m below meth c C hK A hA hP hD ls hl
  obtain ⟨hx, hb, hml, hown, hts, hr, hlocks, hnm⟩ := id C
  have hb : c.code = cX6_anotherClause := hb
  have hown : s.vm.findClass RX6 = some m.cls := hown
  have hS : va_S A s.heap s.heap [] := va_S.rf
  have hl : lv_has ls 1 [(0, .ref q_t)] := hl
  refine lv_aload_n hx hb dX6_anotherClause_0 rfl (lv_at hl 0 rfl) ?_
  refine va_get (D := D) (v := .int (gI z_t 8)) (C := RX6) (T := TX6) (N := 9) hx hb hts iX6 hown hK.1 hP 0 rfl rfl 8 (by decide) (hts _ t_219) (fun _ h9 => h9) rfl dX6_anotherClause_1 ?_
  refine lv_if_ne (tgt := 17) hx hb dX6_anotherClause_4 (by decide) (fun c1 => ?_) (fun c1 => ?_)
  · have h := ite_f c1 h
    refine lv_iconst (v := 0) hx hb dX6_anotherClause_17 (by decide) ?_
    exact rMz C rfl (Or.inl rfl) h (g := fun y => rc6 a q_t Q_t y.2) (pr := fun y => y.1) hP hD hS dX6_anotherClause_18
  · have h := ite_t c1 h
    refine lv_aload_n hx hb dX6_anotherClause_7 rfl (lv_at hl 0 rfl) ?_
    refine va_get (D := D) (v := .int (gI z_t 5)) (C := RX6) (T := TX6) (N := 9) hx hb hts iX6 hown hK.1 hP 0 rfl rfl 5 (by decide) (hts _ t_215) (fun _ h9 => h9) rfl dX6_anotherClause_8 ?_
    refine lv_sipush (v := 300) hx hb dX6_anotherClause_11 (by decide) ?_
    refine lv_icmp_ne (tgt := 19) hx hb dX6_anotherClause_14 (by decide) (fun c2 => ?_) (fun c2 => ?_)
    · have h := ite_f c2 h
      refine lv_aload_n hx hb dX6_anotherClause_19 rfl (lv_at hl 0 rfl) ?_
      refine va_get (D := D) (v := .int (gI z_t 5)) (C := RX6) (T := TX6) (N := 9) hx hb hts iX6 hown hK.1 hP 0 rfl rfl 5 (by decide) (hts _ t_215) (fun _ h9 => h9) rfl dX6_anotherClause_20 ?_
      refine lv_bipush (v := 59) hx hb dX6_anotherClause_23 (by decide) ?_
      refine lv_icmp_eq (tgt := 35) hx hb dX6_anotherClause_25 (by decide) (fun c3 => ?_) (fun c3 => ?_)
      · have h := ite_t c3 h
        refine lv_aload_n hx hb dX6_anotherClause_35 rfl (lv_at hl 0 rfl) ?_
        obtain ⟨z5, hc4, h⟩ := bd_some h
        refine cWv (runV (As := []) (rest := []) C (mX6_step l D a (q_t := q_t) (Q_t := Q_t) hc4 s.heap.size) lk_V_6_39 okN_X6_step ⟨Nat.le_of_ble_eq_true rfl, Nat.le_of_ble_eq_true rfl⟩ ⟨rfl, rfl⟩ (preV (preM hK hP hD) (recvOf hK hP 0 rfl (ci := 6) rfl)) hl.1 rfl (Nat.le_of_ble_eq_true rfl) dX6_anotherClause_36 ⟨Nat.le_of_ble_eq_true rfl, Nat.le_of_ble_eq_true rfl⟩) hP hD hS hA (fun H locs hP hD hS => ?_)
        have hP : va_P D classes (rc6 a q_t Q_t z5) H := hP
        have hD : va_D A (rc6 a q_t Q_t z5) := hD
        refine lv_iconst (v := 1) hx hb dX6_anotherClause_39 (by decide) ?_
        exact rMz C rfl (Or.inr rfl) h (g := fun y => rc6 a q_t Q_t y.2) (pr := fun y => y.1) hP hD hS dX6_anotherClause_40
      · have h := ite_f c3 h
        refine lv_aload_n hx hb dX6_anotherClause_28 rfl (lv_at hl 0 rfl) ?_
        refine lv_iconst (v := 0) hx hb dX6_anotherClause_29 (by decide) ?_
        obtain ⟨z7, hc6, h⟩ := bd_some h
        refine cWv (runV (As := [.int 0]) (rest := []) C (mX6_fail l D a (q_t := q_t) (Q_t := Q_t) hc6 s.heap.size) lk_V_6_121 okN_X6_fail ⟨Nat.le_of_ble_eq_true rfl, Nat.le_of_ble_eq_true rfl⟩ ⟨rfl, rfl⟩ (preV (preM hK hP hD) (recvOf hK hP 0 rfl (ci := 6) rfl)) hl.1 rfl (Nat.le_of_ble_eq_true rfl) dX6_anotherClause_30 ⟨Nat.le_of_ble_eq_true rfl, Nat.le_of_ble_eq_true rfl⟩) hP hD hS hA (fun H locs hP hD hS => ?_)
        have hP : va_P D classes (rc6 a q_t Q_t z7) H := hP
        have hD : va_D A (rc6 a q_t Q_t z7) := hD
        refine lv_iconst (v := 0) hx hb dX6_anotherClause_33 (by decide) ?_
        exact rMz C rfl (Or.inl rfl) h (g := fun y => rc6 a q_t Q_t y.2) (pr := fun y => y.1) hP hD hS dX6_anotherClause_34
    · have h := ite_t c2 h
      refine lv_iconst (v := 0) hx hb dX6_anotherClause_17 (by decide) ?_
      exact rMz C rfl (Or.inl rfl) h (g := fun y => rc6 a q_t Q_t y.2) (pr := fun y => y.1) hP hD hS dX6_anotherClause_18

set_option maxHeartbeats 4000000 in
set_option maxRecDepth 100000 in
theorem wX6_spells_15 {p : Program} {l : Launch} {e : Env} {s : State} {m : MethodId} {below : List Frame} {meth : Method} {c : Code} {D : va_G} {a : Nat → ClassId} {adK adV : Nat → Nat} {w3 : Nat} {q_p0 : Nat} {n_p0 : Nat} {f_p0 : Nat → Int32} {x10 : Int32} {x20 : Int32} {x1 : Int32} (C : Cx p s m #[.ref q_p0, .int x10, .int x20, .ref (adK w3)] meth c MX6_spells) (hK : KK D a s) (hV : VV adK adV (fun _ => False) s s.heap) (hw3 : w3 < 17) {y : Int32} (hP : va_P D classes (ra0 a q_p0 n_p0 f_p0) s.heap) : ∀ (n : Nat) (x4 : Int32) (ls : Array Slot), lX6_spells_15 n_p0 f_p0 x1 w3 n x4 = some y → lv_has ls 5 [(0, .ref q_p0), (1, .int x1), (3, .ref (adK w3)), (4, .int x4)] → W p l e (rmM 4 0 0 100) s m #[.ref q_p0, .int x10, .int x20, .ref (adK w3)] below meth c s.heap [] 0 0 (MQ below (vp_Si (fun r => r = y)) #[.ref q_p0, .int x10, .int x20, .ref (adK w3)] s 0 0 (fun _ => False)) (F0 m 15 ls []) := by
  obtain ⟨hx, hb, hml, hown, hts, hr, hlocks, hnm⟩ := id C
  have hb : c.code = cX6_spells := hb
  have hown : s.vm.findClass RX6 = some m.cls := hown
  intro n
  induction n with
  | zero => intro x4 ls h; rw [lX6_spells_15] at h; cases h
  | succ n ih =>
    intro x4 ls h hl
    rw [lX6_spells_15] at h
    refine lv_iload hx hb dX6_spells_15 (lv_at hl 3 rfl) ?_
    refine lv_aload_n hx hb dX6_spells_17 rfl (lv_at hl 2 rfl) ?_
    refine cRi (runV (As := []) (rest := [.int x4]) C (mJ0_length l D a hw3) lk_V_6_102 okN_J0_length_8abf5 ⟨Nat.le_of_ble_eq_true rfl, Nat.le_of_ble_eq_true rfl⟩ ⟨rfl, rfl⟩ (preV (preRs (wc := []) hK (fun k q h => by simp at h) hV) (vk_recv (i := w3) hV.1 hw3 va_S.rf)) hl.1 rfl (Nat.le_of_ble_eq_true rfl) dX6_spells_18 ⟨Nat.le_of_ble_eq_true rfl, Nat.le_of_ble_eq_true rfl⟩) ?_
    refine lv_icmp_ge (tgt := 49) hx hb dX6_spells_21 (by decide) (fun c2 => ?_) (fun c2 => ?_)
    · have h := ite_t c2 h
      refine lv_iconst (v := 1) hx hb dX6_spells_49 (by decide) ?_
      exact rRz C rfl (Or.inr rfl) (Option.some.inj h) dX6_spells_50
    · have h := ite_f c2 h
      refine lv_aload_n hx hb dX6_spells_24 rfl (lv_at hl 0 rfl) ?_
      refine lv_iload_n hx hb dX6_spells_25 rfl (lv_at hl 1 rfl) ?_
      refine lv_iload hx hb dX6_spells_26 (lv_at hl 3 rfl) ?_
      refine lv_iadd hx hb dX6_spells_28 ?_
      obtain ⟨r4, hc3, h⟩ := bd_some h
      refine cRi (runN (As := [.ref q_p0, .int (x1 + x4)]) (rest := []) C hK (mX8_at l D a (q_p0 := q_p0) hc3) lk_N_6_42 okN_X8_at ⟨Nat.le_of_ble_eq_true rfl, Nat.le_of_ble_eq_true rfl⟩ ⟨rfl, rfl⟩ (preR hK hP) hl.1 rfl (Nat.le_of_ble_eq_true rfl) dX6_spells_29 ⟨Nat.le_of_ble_eq_true rfl, Nat.le_of_ble_eq_true rfl⟩) ?_
      refine lv_aload_n hx hb dX6_spells_32 rfl (lv_at hl 2 rfl) ?_
      refine lv_iload hx hb dX6_spells_33 (lv_at hl 3 rfl) ?_
      obtain ⟨g5, h⟩ := gd_some h
      refine cRi (runV (As := [.int x4]) (rest := [.int r4]) C (mJ0_charAt l D a hw3 g5) lk_V_6_108 okN_J0_charAt_5068e ⟨Nat.le_of_ble_eq_true rfl, Nat.le_of_ble_eq_true rfl⟩ ⟨rfl, rfl⟩ (preV (preRs (wc := []) hK (fun k q h => by simp at h) hV) (vk_recv (i := w3) hV.1 hw3 va_S.rf)) hl.1 rfl (Nat.le_of_ble_eq_true rfl) dX6_spells_35 ⟨Nat.le_of_ble_eq_true rfl, Nat.le_of_ble_eq_true rfl⟩) ?_
      refine lv_icmp_eq (tgt := 43) hx hb dX6_spells_38 (by decide) (fun c6 => ?_) (fun c6 => ?_)
      · have h := ite_t c6 h
        refine lv_iinc (v := x4 + 1) (lv' := [(4, .int (x4 + 1)), (0, .ref q_p0), (1, .int x1), (3, .ref (adK w3))]) hx hb dX6_spells_43 hl (k := 3) rfl rfl (by decide) rfl (fun ls hl => ?_)
        refine lv_goto (tgt := 15) hx hb dX6_spells_46 (by decide) ?_
        exact ih (x4 + 1) ls h (lv_sub hl [1, 2, 3, 0] rfl)
      · have h := ite_f c6 h
        refine lv_iconst (v := 0) hx hb dX6_spells_41 (by decide) ?_
        exact rRz C rfl (Or.inl rfl) (Option.some.inj h) dX6_spells_42

set_option maxHeartbeats 4000000 in
set_option maxRecDepth 100000 in
theorem mX6_spells (l : Launch) (D : va_G) (a : Nat → ClassId) {adK adV : Nat → Nat} {w3 : Nat} {q_p0 : Nat} {n_p0 : Nat} {f_p0 : Nat → Int32} {x1 : Int32} {x2 : Int32} (hw3 : w3 < 17) {y : Int32} (h : fX6_spells n_p0 f_p0 x1 x2 w3 = some y) : CRsi l MX6_spells 4 100 D a adK adV [.ref q_p0, .int x1, .int x2, .ref (adK w3)] (ra0 a q_p0 n_p0 f_p0) (fun r => r = y) := by
  unfold fX6_spells at h
  refine entRs (by decide) (Nat.le_of_ble_eq_true rfl) ?_
  intro p e s m below meth c C hK hP hV ls hl
  obtain ⟨hx, hb, hml, hown, hts, hr, hlocks, hnm⟩ := id C
  have hb : c.code = cX6_spells := hb
  have hown : s.vm.findClass RX6 = some m.cls := hown
  have hl : lv_has ls 5 [(0, .ref q_p0), (1, .int x1), (2, .int x2), (3, .ref (adK w3))] := hl
  refine lv_iload_n hx hb dX6_spells_0 rfl (lv_at hl 2 rfl) ?_
  refine lv_iload_n hx hb dX6_spells_1 rfl (lv_at hl 1 rfl) ?_
  refine lv_isub hx hb dX6_spells_2 ?_
  refine lv_aload_n hx hb dX6_spells_3 rfl (lv_at hl 3 rfl) ?_
  refine cRi (runV (As := []) (rest := [.int (x2 - x1)]) C (mJ0_length l D a hw3) lk_V_6_102 okN_J0_length_8abf5 ⟨Nat.le_of_ble_eq_true rfl, Nat.le_of_ble_eq_true rfl⟩ ⟨rfl, rfl⟩ (preV (preRs (wc := []) hK (fun k q h => by simp at h) hV) (vk_recv (i := w3) hV.1 hw3 va_S.rf)) hl.1 rfl (Nat.le_of_ble_eq_true rfl) dX6_spells_4 ⟨Nat.le_of_ble_eq_true rfl, Nat.le_of_ble_eq_true rfl⟩) ?_
  refine lv_icmp_eq (tgt := 12) hx hb dX6_spells_7 (by decide) (fun c1 => ?_) (fun c1 => ?_)
  · have h := ite_t c1 h
    refine lv_iconst (v := 0) hx hb dX6_spells_12 (by decide) ?_
    refine lv_istore (lv' := [(4, .int 0), (0, .ref q_p0), (1, .int x1), (2, .int x2), (3, .ref (adK w3))]) hx hb dX6_spells_13 hl (by decide) rfl (fun ls hl => ?_)
    refine wX6_spells_15 C hK hV hw3 hP FU 0 ls h (lv_sub hl [1, 2, 4, 0] rfl)
  · have h := ite_f c1 h
    refine lv_iconst (v := 0) hx hb dX6_spells_10 (by decide) ?_
    exact rRz C rfl (Or.inl rfl) (Option.some.inj h) dX6_spells_11

set_option maxHeartbeats 4000000 in
set_option maxRecDepth 100000 in
theorem mX6_clauseWord (l : Launch) (D : va_G) (a : Nat → ClassId) {adK adV : Nat → Nat} {q_p0 : Nat} {n_p0 : Nat} {f_p0 : Nat → Int32} {x1 : Int32} {x2 : Int32} {y : Int32} (h : fX6_clauseWord n_p0 f_p0 x1 x2 = some y) : CRsi l MX6_clauseWord 5 124 D a adK adV [.ref q_p0, .int x1, .int x2] (ra0 a q_p0 n_p0 f_p0) (fun r => r = y) := by
  unfold fX6_clauseWord at h
  refine entRs (by decide) (Nat.le_of_ble_eq_true rfl) ?_
  intro p e s m below meth c C hK hP hV ls hl
  obtain ⟨hx, hb, hml, hown, hts, hr, hlocks, hnm⟩ := id C
  have hb : c.code = cX6_clauseWord := hb
  have hown : s.vm.findClass RX6 = some m.cls := hown
  have hl : lv_has ls 3 [(0, .ref q_p0), (1, .int x1), (2, .int x2)] := hl
  refine lv_aload_n hx hb dX6_clauseWord_0 rfl (lv_at hl 0 rfl) ?_
  refine lv_iload_n hx hb dX6_clauseWord_1 rfl (lv_at hl 1 rfl) ?_
  refine lv_iload_n hx hb dX6_clauseWord_2 rfl (lv_at hl 2 rfl) ?_
  refine va_ldcS hx hb hown (hV.2.1 0 (by decide)) dX6_clauseWord_3 ?_
  obtain ⟨r2, hc1, h⟩ := bd_some h
  refine cRi (runS (As := [.ref q_p0, .int x1, .int x2, .ref (adK 0)]) (rest := []) C (mX6_spells l D a (q_p0 := q_p0) (by decide) hc1) lk_S_6_67 okN_X6_spells ⟨Nat.le_of_ble_eq_true rfl, Nat.le_of_ble_eq_true rfl⟩ ⟨rfl, rfl⟩ (preRs hK hP hV) hl.1 rfl (Nat.le_of_ble_eq_true rfl) dX6_clauseWord_5 ⟨Nat.le_of_ble_eq_true rfl, Nat.le_of_ble_eq_true rfl⟩) ?_
  refine lv_if_eq (tgt := 17) hx hb dX6_clauseWord_8 (by decide) (fun c3 => ?_) (fun c3 => ?_)
  · have h := ite_t c3 h
    refine lv_aload_n hx hb dX6_clauseWord_17 rfl (lv_at hl 0 rfl) ?_
    refine lv_iload_n hx hb dX6_clauseWord_18 rfl (lv_at hl 1 rfl) ?_
    refine lv_iload_n hx hb dX6_clauseWord_19 rfl (lv_at hl 2 rfl) ?_
    refine va_ldcS hx hb hown (hV.2.1 1 (by decide)) dX6_clauseWord_20 ?_
    obtain ⟨r5, hc4, h⟩ := bd_some h
    refine cRi (runS (As := [.ref q_p0, .int x1, .int x2, .ref (adK 1)]) (rest := []) C (mX6_spells l D a (q_p0 := q_p0) (by decide) hc4) lk_S_6_67 okN_X6_spells ⟨Nat.le_of_ble_eq_true rfl, Nat.le_of_ble_eq_true rfl⟩ ⟨rfl, rfl⟩ (preRs hK hP hV) hl.1 rfl (Nat.le_of_ble_eq_true rfl) dX6_clauseWord_22 ⟨Nat.le_of_ble_eq_true rfl, Nat.le_of_ble_eq_true rfl⟩) ?_
    refine lv_if_eq (tgt := 34) hx hb dX6_clauseWord_25 (by decide) (fun c6 => ?_) (fun c6 => ?_)
    · have h := ite_t c6 h
      refine lv_aload_n hx hb dX6_clauseWord_34 rfl (lv_at hl 0 rfl) ?_
      refine lv_iload_n hx hb dX6_clauseWord_35 rfl (lv_at hl 1 rfl) ?_
      refine lv_iload_n hx hb dX6_clauseWord_36 rfl (lv_at hl 2 rfl) ?_
      refine va_ldcS hx hb hown (hV.2.1 2 (by decide)) dX6_clauseWord_37 ?_
      obtain ⟨r8, hc7, h⟩ := bd_some h
      refine cRi (runS (As := [.ref q_p0, .int x1, .int x2, .ref (adK 2)]) (rest := []) C (mX6_spells l D a (q_p0 := q_p0) (by decide) hc7) lk_S_6_67 okN_X6_spells ⟨Nat.le_of_ble_eq_true rfl, Nat.le_of_ble_eq_true rfl⟩ ⟨rfl, rfl⟩ (preRs hK hP hV) hl.1 rfl (Nat.le_of_ble_eq_true rfl) dX6_clauseWord_39 ⟨Nat.le_of_ble_eq_true rfl, Nat.le_of_ble_eq_true rfl⟩) ?_
      refine lv_if_eq (tgt := 51) hx hb dX6_clauseWord_42 (by decide) (fun c9 => ?_) (fun c9 => ?_)
      · have h := ite_t c9 h
        refine lv_aload_n hx hb dX6_clauseWord_51 rfl (lv_at hl 0 rfl) ?_
        refine lv_iload_n hx hb dX6_clauseWord_52 rfl (lv_at hl 1 rfl) ?_
        refine lv_iload_n hx hb dX6_clauseWord_53 rfl (lv_at hl 2 rfl) ?_
        refine va_ldcS hx hb hown (hV.2.1 3 (by decide)) dX6_clauseWord_54 ?_
        obtain ⟨r11, hc10, h⟩ := bd_some h
        refine cRi (runS (As := [.ref q_p0, .int x1, .int x2, .ref (adK 3)]) (rest := []) C (mX6_spells l D a (q_p0 := q_p0) (by decide) hc10) lk_S_6_67 okN_X6_spells ⟨Nat.le_of_ble_eq_true rfl, Nat.le_of_ble_eq_true rfl⟩ ⟨rfl, rfl⟩ (preRs hK hP hV) hl.1 rfl (Nat.le_of_ble_eq_true rfl) dX6_clauseWord_56 ⟨Nat.le_of_ble_eq_true rfl, Nat.le_of_ble_eq_true rfl⟩) ?_
        refine lv_if_eq (tgt := 68) hx hb dX6_clauseWord_59 (by decide) (fun c12 => ?_) (fun c12 => ?_)
        · have h := ite_t c12 h
          refine lv_aload_n hx hb dX6_clauseWord_68 rfl (lv_at hl 0 rfl) ?_
          refine lv_iload_n hx hb dX6_clauseWord_69 rfl (lv_at hl 1 rfl) ?_
          refine lv_iload_n hx hb dX6_clauseWord_70 rfl (lv_at hl 2 rfl) ?_
          refine va_ldcS hx hb hown (hV.2.1 4 (by decide)) dX6_clauseWord_71 ?_
          obtain ⟨r14, hc13, h⟩ := bd_some h
          refine cRi (runS (As := [.ref q_p0, .int x1, .int x2, .ref (adK 4)]) (rest := []) C (mX6_spells l D a (q_p0 := q_p0) (by decide) hc13) lk_S_6_67 okN_X6_spells ⟨Nat.le_of_ble_eq_true rfl, Nat.le_of_ble_eq_true rfl⟩ ⟨rfl, rfl⟩ (preRs hK hP hV) hl.1 rfl (Nat.le_of_ble_eq_true rfl) dX6_clauseWord_73 ⟨Nat.le_of_ble_eq_true rfl, Nat.le_of_ble_eq_true rfl⟩) ?_
          refine lv_if_eq (tgt := 85) hx hb dX6_clauseWord_76 (by decide) (fun c15 => ?_) (fun c15 => ?_)
          · have h := ite_t c15 h
            refine lv_aload_n hx hb dX6_clauseWord_85 rfl (lv_at hl 0 rfl) ?_
            refine lv_iload_n hx hb dX6_clauseWord_86 rfl (lv_at hl 1 rfl) ?_
            refine lv_iload_n hx hb dX6_clauseWord_87 rfl (lv_at hl 2 rfl) ?_
            refine va_ldcS hx hb hown (hV.2.1 5 (by decide)) dX6_clauseWord_88 ?_
            obtain ⟨r17, hc16, h⟩ := bd_some h
            refine cRi (runS (As := [.ref q_p0, .int x1, .int x2, .ref (adK 5)]) (rest := []) C (mX6_spells l D a (q_p0 := q_p0) (by decide) hc16) lk_S_6_67 okN_X6_spells ⟨Nat.le_of_ble_eq_true rfl, Nat.le_of_ble_eq_true rfl⟩ ⟨rfl, rfl⟩ (preRs hK hP hV) hl.1 rfl (Nat.le_of_ble_eq_true rfl) dX6_clauseWord_90 ⟨Nat.le_of_ble_eq_true rfl, Nat.le_of_ble_eq_true rfl⟩) ?_
            refine lv_if_eq (tgt := 102) hx hb dX6_clauseWord_93 (by decide) (fun c18 => ?_) (fun c18 => ?_)
            · have h := ite_t c18 h
              refine lv_aload_n hx hb dX6_clauseWord_102 rfl (lv_at hl 0 rfl) ?_
              refine lv_iload_n hx hb dX6_clauseWord_103 rfl (lv_at hl 1 rfl) ?_
              refine lv_iload_n hx hb dX6_clauseWord_104 rfl (lv_at hl 2 rfl) ?_
              refine va_ldcS hx hb hown (hV.2.1 6 (by decide)) dX6_clauseWord_105 ?_
              obtain ⟨r20, hc19, h⟩ := bd_some h
              refine cRi (runS (As := [.ref q_p0, .int x1, .int x2, .ref (adK 6)]) (rest := []) C (mX6_spells l D a (q_p0 := q_p0) (by decide) hc19) lk_S_6_67 okN_X6_spells ⟨Nat.le_of_ble_eq_true rfl, Nat.le_of_ble_eq_true rfl⟩ ⟨rfl, rfl⟩ (preRs hK hP hV) hl.1 rfl (Nat.le_of_ble_eq_true rfl) dX6_clauseWord_107 ⟨Nat.le_of_ble_eq_true rfl, Nat.le_of_ble_eq_true rfl⟩) ?_
              refine lv_if_eq (tgt := 119) hx hb dX6_clauseWord_110 (by decide) (fun c21 => ?_) (fun c21 => ?_)
              · have h := ite_t c21 h
                refine lv_aload_n hx hb dX6_clauseWord_119 rfl (lv_at hl 0 rfl) ?_
                refine lv_iload_n hx hb dX6_clauseWord_120 rfl (lv_at hl 1 rfl) ?_
                refine lv_iload_n hx hb dX6_clauseWord_121 rfl (lv_at hl 2 rfl) ?_
                refine va_ldcS hx hb hown (hV.2.1 7 (by decide)) dX6_clauseWord_122 ?_
                obtain ⟨r23, hc22, h⟩ := bd_some h
                refine cRi (runS (As := [.ref q_p0, .int x1, .int x2, .ref (adK 7)]) (rest := []) C (mX6_spells l D a (q_p0 := q_p0) (by decide) hc22) lk_S_6_67 okN_X6_spells ⟨Nat.le_of_ble_eq_true rfl, Nat.le_of_ble_eq_true rfl⟩ ⟨rfl, rfl⟩ (preRs hK hP hV) hl.1 rfl (Nat.le_of_ble_eq_true rfl) dX6_clauseWord_124 ⟨Nat.le_of_ble_eq_true rfl, Nat.le_of_ble_eq_true rfl⟩) ?_
                refine lv_if_eq (tgt := 136) hx hb dX6_clauseWord_127 (by decide) (fun c24 => ?_) (fun c24 => ?_)
                · have h := ite_t c24 h
                  refine lv_sipush (v := 303) hx hb dX6_clauseWord_136 (by decide) ?_
                  exact rRi C rfl (Option.some.inj h) dX6_clauseWord_139
                · have h := ite_f c24 h
                  refine lv_sipush (v := 311) hx hb dX6_clauseWord_130 (by decide) ?_
                  refine lv_goto (tgt := 139) hx hb dX6_clauseWord_133 (by decide) ?_
                  exact rRi C rfl (Option.some.inj h) dX6_clauseWord_139
              · have h := ite_f c21 h
                refine lv_sipush (v := 310) hx hb dX6_clauseWord_113 (by decide) ?_
                refine lv_goto (tgt := 139) hx hb dX6_clauseWord_116 (by decide) ?_
                exact rRi C rfl (Option.some.inj h) dX6_clauseWord_139
            · have h := ite_f c18 h
              refine lv_sipush (v := 309) hx hb dX6_clauseWord_96 (by decide) ?_
              refine lv_goto (tgt := 139) hx hb dX6_clauseWord_99 (by decide) ?_
              exact rRi C rfl (Option.some.inj h) dX6_clauseWord_139
          · have h := ite_f c15 h
            refine lv_sipush (v := 308) hx hb dX6_clauseWord_79 (by decide) ?_
            refine lv_goto (tgt := 139) hx hb dX6_clauseWord_82 (by decide) ?_
            exact rRi C rfl (Option.some.inj h) dX6_clauseWord_139
        · have h := ite_f c12 h
          refine lv_sipush (v := 307) hx hb dX6_clauseWord_62 (by decide) ?_
          refine lv_goto (tgt := 139) hx hb dX6_clauseWord_65 (by decide) ?_
          exact rRi C rfl (Option.some.inj h) dX6_clauseWord_139
      · have h := ite_f c9 h
        refine lv_sipush (v := 306) hx hb dX6_clauseWord_45 (by decide) ?_
        refine lv_goto (tgt := 139) hx hb dX6_clauseWord_48 (by decide) ?_
        exact rRi C rfl (Option.some.inj h) dX6_clauseWord_139
    · have h := ite_f c6 h
      refine lv_sipush (v := 305) hx hb dX6_clauseWord_28 (by decide) ?_
      refine lv_goto (tgt := 139) hx hb dX6_clauseWord_31 (by decide) ?_
      exact rRi C rfl (Option.some.inj h) dX6_clauseWord_139
  · have h := ite_f c3 h
    refine lv_sipush (v := 304) hx hb dX6_clauseWord_11 (by decide) ?_
    refine lv_goto (tgt := 139) hx hb dX6_clauseWord_14 (by decide) ?_
    exact rRi C rfl (Option.some.inj h) dX6_clauseWord_139

set_option maxHeartbeats 4000000 in
set_option maxRecDepth 100000 in
theorem mX6_isDigit (l : Launch) (D : va_G) (a : Nat → ClassId) {x0 : Int32} {y : Int32} (h : fX6_isDigit x0 = some y) : CRi l MX6_isDigit 0 0 D a [.int x0] ([]) (fun r => r = y) := by
  unfold fX6_isDigit at h
  refine entR (by decide) (Nat.le_of_ble_eq_true rfl) ?_
  intro p e s m below meth c C hK hP ls hl
  obtain ⟨hx, hb, hml, hown, hts, hr, hlocks, hnm⟩ := id C
  have hb : c.code = cX6_isDigit := hb
  have hown : s.vm.findClass RX6 = some m.cls := hown
  have hl : lv_has ls 1 [(0, .int x0)] := hl
  refine lv_iload_n hx hb dX6_isDigit_0 rfl (lv_at hl 0 rfl) ?_
  refine lv_bipush (v := 48) hx hb dX6_isDigit_1 (by decide) ?_
  refine lv_icmp_lt (tgt := 16) hx hb dX6_isDigit_3 (by decide) (fun c1 => ?_) (fun c1 => ?_)
  · have h := ite_t c1 h
    refine lv_iconst (v := 0) hx hb dX6_isDigit_16 (by decide) ?_
    exact rRz C rfl (Or.inl rfl) (Option.some.inj h) dX6_isDigit_17
  · have h := ite_f c1 h
    refine lv_iload_n hx hb dX6_isDigit_6 rfl (lv_at hl 0 rfl) ?_
    refine lv_bipush (v := 57) hx hb dX6_isDigit_7 (by decide) ?_
    refine lv_icmp_gt (tgt := 16) hx hb dX6_isDigit_9 (by decide) (fun c2 => ?_) (fun c2 => ?_)
    · have h := ite_t c2 h
      refine lv_iconst (v := 0) hx hb dX6_isDigit_16 (by decide) ?_
      exact rRz C rfl (Or.inl rfl) (Option.some.inj h) dX6_isDigit_17
    · have h := ite_f c2 h
      refine lv_iconst (v := 1) hx hb dX6_isDigit_12 (by decide) ?_
      refine lv_goto (tgt := 17) hx hb dX6_isDigit_13 (by decide) ?_
      exact rRz C rfl (Or.inr rfl) (Option.some.inj h) dX6_isDigit_17

set_option maxHeartbeats 4000000 in
set_option maxRecDepth 100000 in
theorem wX6_cutNumber_6 {p : Program} {l : Launch} {e : Env} {s : State} {m : MethodId} {below : List Frame} {meth : Method} {c : Code} {D : va_G} {a : Nat → ClassId} {A : Nat → Prop} {q_t : Nat} {q_p1 : Nat} {Q_t : Nat → Nat} {z_t : Sx} {n_p1 : Nat} {f_p1 : Nat → Int32} {x20 : Int32} {x30 : Int32} {x2 : Int32} {x3 : Int32} (C : Cx p s m #[.ref q_t, .ref q_p1, .int x20, .int x30] meth c MX6_cutNumber) (hK : KK D a s) (hA : ∀ q, s.heap.size ≤ q → A q) {y : Int32 × Sx} {k55 : Int32 → Int32 → Option (Int32 × Sx)} (hk55 : ∀ (x4k : Int32) (x5k : Int32) (H : Heap) (locs : List Loc) (ls : Array Slot), k55 x4k x5k = some y → va_P D classes (rc6 a q_t Q_t z_t ++ (ra0 a q_p1 n_p1 f_p1)) H → va_D A (rc6 a q_t Q_t z_t ++ (ra0 a q_p1 n_p1 f_p1)) → va_S A s.heap H locs → lv_has ls 6 [(0, .ref q_t), (2, .int x2), (4, .int x4k), (5, .int x5k)] → W p l e (rmM 1 0 0 23) s m #[.ref q_t, .ref q_p1, .int x20, .int x30] below meth c H locs 0 0 (MQ below (va_Qi (fun r (_ : Unit) => r = y.1) (Bw D A (fun _ => rc6 a q_t Q_t y.2 ++ (ra0 a q_p1 n_p1 f_p1))) A) #[.ref q_t, .ref q_p1, .int x20, .int x30] s 0 0 A) (F0 m 55 ls [])) : ∀ (n : Nat) (x4 : Int32) (x5 : Int32) (H : Heap) (locs : List Loc) (ls : Array Slot), lX6_cutNumber_6 k55 z_t n_p1 f_p1 x2 x3 n x4 x5 = some y → va_P D classes (rc6 a q_t Q_t z_t ++ (ra0 a q_p1 n_p1 f_p1)) H → va_D A (rc6 a q_t Q_t z_t ++ (ra0 a q_p1 n_p1 f_p1)) → va_S A s.heap H locs → lv_has ls 6 [(0, .ref q_t), (1, .ref q_p1), (2, .int x2), (3, .int x3), (4, .int x4), (5, .int x5)] → W p l e (rmM 1 0 0 23) s m #[.ref q_t, .ref q_p1, .int x20, .int x30] below meth c H locs 0 0 (MQ below (va_Qi (fun r (_ : Unit) => r = y.1) (Bw D A (fun _ => rc6 a q_t Q_t y.2 ++ (ra0 a q_p1 n_p1 f_p1))) A) #[.ref q_t, .ref q_p1, .int x20, .int x30] s 0 0 A) (F0 m 6 ls []) := by
  obtain ⟨hx, hb, hml, hown, hts, hr, hlocks, hnm⟩ := id C
  have hb : c.code = cX6_cutNumber := hb
  have hown : s.vm.findClass RX6 = some m.cls := hown
  intro n
  induction n with
  | zero => intro x4 x5 H locs ls h; rw [lX6_cutNumber_6] at h; cases h
  | succ n ih =>
    intro x4 x5 H locs ls h hP hD hS hl
    rw [lX6_cutNumber_6] at h
    refine lv_iload hx hb dX6_cutNumber_6 (lv_at hl 4 rfl) ?_
    refine lv_iload_n hx hb dX6_cutNumber_8 rfl (lv_at hl 3 rfl) ?_
    refine lv_icmp_ge (tgt := 55) hx hb dX6_cutNumber_9 (by decide) (fun c1 => ?_) (fun c1 => ?_)
    · have h := ite_t c1 h
      exact hk55 x4 x5 _ _ ls h hP hD hS (lv_sub hl [0, 2, 4, 5] rfl)
    · have h := ite_f c1 h
      refine lv_aload_n hx hb dX6_cutNumber_12 rfl (lv_at hl 1 rfl) ?_
      refine lv_iload hx hb dX6_cutNumber_13 (lv_at hl 4 rfl) ?_
      obtain ⟨r3, hc2, h⟩ := bd_some h
      refine cRi (runN (As := [.ref q_p1, .int x4]) (rest := []) C hK (mX8_at l D a (q_p0 := q_p1) hc2) lk_N_6_42 okN_X8_at ⟨Nat.le_of_ble_eq_true rfl, Nat.le_of_ble_eq_true rfl⟩ ⟨rfl, rfl⟩ (preR hK (P_of_map (wc := ra0 a q_p1 n_p1 f_p1) hP [4] rfl)) hl.1 rfl (Nat.le_of_ble_eq_true rfl) dX6_cutNumber_15 ⟨Nat.le_of_ble_eq_true rfl, Nat.le_of_ble_eq_true rfl⟩) ?_
      obtain ⟨r5, hc4, h⟩ := bd_some h
      refine cRi (runS (As := [.int r3]) (rest := []) C (mX6_isDigit l D a hc4) lk_S_6_46 okN_X6_isDigit ⟨Nat.le_of_ble_eq_true rfl, Nat.le_of_ble_eq_true rfl⟩ ⟨rfl, rfl⟩ (preR hK (P_of_map (wc := []) hP [] rfl)) hl.1 rfl (Nat.le_of_ble_eq_true rfl) dX6_cutNumber_18 ⟨Nat.le_of_ble_eq_true rfl, Nat.le_of_ble_eq_true rfl⟩) ?_
      refine lv_if_eq (tgt := 55) hx hb dX6_cutNumber_21 (by decide) (fun c6 => ?_) (fun c6 => ?_)
      · have h := ite_t c6 h
        exact hk55 x4 x5 _ _ ls h hP hD hS (lv_sub hl [0, 2, 4, 5] rfl)
      · have h := ite_f c6 h
        refine lv_iload hx hb dX6_cutNumber_24 (lv_at hl 4 rfl) ?_
        refine lv_iload_n hx hb dX6_cutNumber_26 rfl (lv_at hl 2 rfl) ?_
        refine lv_iconst (v := 5) hx hb dX6_cutNumber_27 (by decide) ?_
        refine lv_iadd hx hb dX6_cutNumber_28 ?_
        obtain ⟨J7, eJ7, h⟩ := jn_some h
        have hJ7 : ∀ (i8 : Int32) (H : Heap) (locs : List Loc) (ls : Array Slot), J7 i8 = some y → va_P D classes (rc6 a q_t Q_t z_t ++ (ra0 a q_p1 n_p1 f_p1)) H → va_D A (rc6 a q_t Q_t z_t ++ (ra0 a q_p1 n_p1 f_p1)) → va_S A s.heap H locs → lv_has ls 6 [(0, .ref q_t), (1, .ref q_p1), (2, .int x2), (3, .int x3), (4, .int x4), (5, .int i8)] → W p l e (rmM 1 0 0 23) s m #[.ref q_t, .ref q_p1, .int x20, .int x30] below meth c H locs 0 0 (MQ below (va_Qi (fun r (_ : Unit) => r = y.1) (Bw D A (fun _ => rc6 a q_t Q_t y.2 ++ (ra0 a q_p1 n_p1 f_p1))) A) #[.ref q_t, .ref q_p1, .int x20, .int x30] s 0 0 A) (F0 m 49 ls []) := by
          intro i8 H locs ls h hP hD hS hl
          rw [eJ7] at h
          refine lv_iinc (v := x4 + 1) (lv' := [(4, .int (x4 + 1)), (0, .ref q_t), (1, .ref q_p1), (2, .int x2), (3, .int x3), (5, .int i8)]) hx hb dX6_cutNumber_49 hl (k := 4) rfl rfl (by decide) rfl (fun ls hl => ?_)
          refine lv_goto (tgt := 6) hx hb dX6_cutNumber_52 (by decide) ?_
          exact ih (x4 + 1) i8 _ _ ls h hP hD hS (lv_sub hl [1, 2, 3, 4, 0, 5] rfl)
        refine lv_icmp_ge (tgt := 49) hx hb dX6_cutNumber_29 (by decide) (fun c9 => ?_) (fun c9 => ?_)
        · have h := ite_t c9 h
          exact hJ7 x5 _ _ ls h hP hD hS (lv_sub hl [0, 1, 2, 3, 4, 5] rfl)
        · have h := ite_f c9 h
          refine lv_iload hx hb dX6_cutNumber_32 (lv_at hl 5 rfl) ?_
          refine lv_bipush (v := 10) hx hb dX6_cutNumber_34 (by decide) ?_
          refine lv_imul hx hb dX6_cutNumber_36 ?_
          refine lv_aload_n hx hb dX6_cutNumber_37 rfl (lv_at hl 1 rfl) ?_
          refine lv_iload hx hb dX6_cutNumber_38 (lv_at hl 4 rfl) ?_
          obtain ⟨r11, hc10, h⟩ := bd_some h
          refine cRi (runN (As := [.ref q_p1, .int x4]) (rest := [.int (x5 * 10)]) C hK (mX8_at l D a (q_p0 := q_p1) hc10) lk_N_6_42 okN_X8_at ⟨Nat.le_of_ble_eq_true rfl, Nat.le_of_ble_eq_true rfl⟩ ⟨rfl, rfl⟩ (preR hK (P_of_map (wc := ra0 a q_p1 n_p1 f_p1) hP [4] rfl)) hl.1 rfl (Nat.le_of_ble_eq_true rfl) dX6_cutNumber_40 ⟨Nat.le_of_ble_eq_true rfl, Nat.le_of_ble_eq_true rfl⟩) ?_
          refine lv_iadd hx hb dX6_cutNumber_43 ?_
          refine lv_bipush (v := 48) hx hb dX6_cutNumber_44 (by decide) ?_
          refine lv_isub hx hb dX6_cutNumber_46 ?_
          refine lv_istore (lv' := [(5, .int (((x5 * 10) + r11) - 48)), (0, .ref q_t), (1, .ref q_p1), (2, .int x2), (3, .int x3), (4, .int x4)]) hx hb dX6_cutNumber_47 hl (by decide) rfl (fun ls hl => ?_)
          exact hJ7 (((x5 * 10) + r11) - 48) _ _ ls h hP hD hS (lv_sub hl [1, 2, 3, 4, 5, 0] rfl)

set_option maxHeartbeats 4000000 in
set_option maxRecDepth 100000 in
theorem mX6_cutNumber (l : Launch) (D : va_G) (a : Nat → ClassId) {q_t : Nat} {q_p1 : Nat} {Q_t : Nat → Nat} {z_t : Sx} {n_p1 : Nat} {f_p1 : Nat → Int32} {x2 : Int32} {x3 : Int32} {y : Int32 × Sx} (h : fX6_cutNumber z_t n_p1 f_p1 x2 x3 = some y) (sz : Nat) : CMi (S := Unit) l MX6_cutNumber 1 23 0 0 D a [.ref q_t, .ref q_p1, .int x2, .int x3] (rc6 a q_t Q_t z_t ++ (ra0 a q_p1 n_p1 f_p1)) sz (fun r _ => r = y.1) (fun _ => rc6 a q_t Q_t y.2 ++ (ra0 a q_p1 n_p1 f_p1)) := by
  unfold fX6_cutNumber at h
  refine entMi (by decide) (Nat.le_of_ble_eq_true rfl) ?_
  intro p e s m below meth c C hK A hA hP hD ls hl
  obtain ⟨hx, hb, hml, hown, hts, hr, hlocks, hnm⟩ := id C
  have hb : c.code = cX6_cutNumber := hb
  have hown : s.vm.findClass RX6 = some m.cls := hown
  have hS : va_S A s.heap s.heap [] := va_S.rf
  have hl : lv_has ls 6 [(0, .ref q_t), (1, .ref q_p1), (2, .int x2), (3, .int x3)] := hl
  refine lv_iload_n hx hb dX6_cutNumber_0 rfl (lv_at hl 2 rfl) ?_
  refine lv_istore (lv' := [(4, .int x2), (0, .ref q_t), (1, .ref q_p1), (2, .int x2), (3, .int x3)]) hx hb dX6_cutNumber_1 hl (by decide) rfl (fun ls hl => ?_)
  refine lv_iconst (v := 0) hx hb dX6_cutNumber_3 (by decide) ?_
  refine lv_istore (lv' := [(5, .int 0), (4, .int x2), (0, .ref q_t), (1, .ref q_p1), (2, .int x2), (3, .int x3)]) hx hb dX6_cutNumber_4 hl (by decide) rfl (fun ls hl => ?_)
  refine wX6_cutNumber_6 C hK hA ?_ FU x2 0 _ _ ls h hP hD hS (lv_sub hl [2, 3, 4, 5, 1, 0] rfl)
  · intro i12 i13 H locs ls h hP hD hS hl
    refine lv_aload_n hx hb dX6_cutNumber_55 rfl (lv_at hl 0 rfl) ?_
    refine lv_iload hx hb dX6_cutNumber_56 (lv_at hl 2 rfl) ?_
    refine lv_iload_n hx hb dX6_cutNumber_58 rfl (lv_at hl 1 rfl) ?_
    refine lv_isub hx hb dX6_cutNumber_59 ?_
    refine lv_iconst (v := 5) hx hb dX6_cutNumber_60 (by decide) ?_
    obtain ⟨J14, eJ14, h⟩ := jn_some h
    have hJ14 : ∀ (i15 : Int32) (H : Heap) (locs : List Loc) (ls : Array Slot), J14 i15 = some y → va_P D classes (rc6 a q_t Q_t z_t ++ (ra0 a q_p1 n_p1 f_p1)) H → va_D A (rc6 a q_t Q_t z_t ++ (ra0 a q_p1 n_p1 f_p1)) → va_S A s.heap H locs → lv_has ls 6 [(2, .int x2), (4, .int i12), (5, .int i13)] → W p l e (rmM 1 0 0 23) s m #[.ref q_t, .ref q_p1, .int x2, .int x3] below meth c H locs 0 0 (MQ below (va_Qi (fun r (_ : Unit) => r = y.1) (Bw D A (fun _ => rc6 a q_t Q_t y.2 ++ (ra0 a q_p1 n_p1 f_p1))) A) #[.ref q_t, .ref q_p1, .int x2, .int x3] s 0 0 A) (F0 m 73 ls [.int i15, .ref q_t]) := by
      intro i15 H locs ls h hP hD hS hl
      rw [eJ14] at h
      refine lv_iload_n hx hb dX6_cutNumber_73 rfl (lv_at hl 0 rfl) ?_
      refine lv_iload hx hb dX6_cutNumber_74 (lv_at hl 2 rfl) ?_
      obtain ⟨z17, hc16, h⟩ := bd_some h
      refine cMv (runV (As := [.int i15, .int x2, .int i13]) (rest := []) C (mX6_addToken l D a (q_t := q_t) (Q_t := Q_t) hc16 H.size) lk_V_6_29 okN_X6_addToken ⟨Nat.le_of_ble_eq_true rfl, Nat.le_of_ble_eq_true rfl⟩ ⟨rfl, rfl⟩ (preV (preM hK (P_of_map (wc := rc6 a q_t Q_t z_t) hP [0, 1, 2, 3] rfl) (hD.sub (ws' := rc6 a q_t Q_t z_t) [0, 1, 2, 3] (by decide) rfl)) (recvOf hK hP 0 rfl (ci := 6) rfl)) hl.1 rfl (Nat.le_of_ble_eq_true rfl) dX6_cutNumber_76 ⟨Nat.le_of_ble_eq_true rfl, Nat.le_of_ble_eq_true rfl⟩) hP hD hS hA [0, 1, 2, 3] [4] [1, 2, 3, 4, 0] rfl rfl (by decide) (by decide) (fw := rc6 a q_t Q_t z17 ++ (ra0 a q_p1 n_p1 f_p1)) rfl (by decide) (fun H locs hP hD hS => ?_)
      have hP : va_P D classes (rc6 a q_t Q_t z17 ++ (ra0 a q_p1 n_p1 f_p1)) H := hP
      have hD : va_D A (rc6 a q_t Q_t z17 ++ (ra0 a q_p1 n_p1 f_p1)) := hD
      refine lv_iload hx hb dX6_cutNumber_79 (lv_at hl 1 rfl) ?_
      exact rMi C rfl h (g := fun y => rc6 a q_t Q_t y.2 ++ (ra0 a q_p1 n_p1 f_p1)) (pr := fun y => y.1) hP hD hS dX6_cutNumber_81
    refine lv_icmp_le (tgt := 70) hx hb dX6_cutNumber_61 (by decide) (fun c18 => ?_) (fun c18 => ?_)
    · have h := ite_t c18 h
      refine lv_sipush (v := 301) hx hb dX6_cutNumber_70 (by decide) ?_
      exact hJ14 301 _ _ ls h hP hD hS (lv_sub hl [1, 2, 3] rfl)
    · have h := ite_f c18 h
      refine lv_sipush (v := 302) hx hb dX6_cutNumber_64 (by decide) ?_
      refine lv_goto (tgt := 73) hx hb dX6_cutNumber_67 (by decide) ?_
      exact hJ14 302 _ _ ls h hP hD hS (lv_sub hl [1, 2, 3] rfl)

set_option maxHeartbeats 4000000 in
set_option maxRecDepth 100000 in
theorem mX6_isLetter (l : Launch) (D : va_G) (a : Nat → ClassId) {x0 : Int32} {y : Int32} (h : fX6_isLetter x0 = some y) : CRi l MX6_isLetter 0 0 D a [.int x0] ([]) (fun r => r = y) := by
  unfold fX6_isLetter at h
  refine entR (by decide) (Nat.le_of_ble_eq_true rfl) ?_
  intro p e s m below meth c C hK hP ls hl
  obtain ⟨hx, hb, hml, hown, hts, hr, hlocks, hnm⟩ := id C
  have hb : c.code = cX6_isLetter := hb
  have hown : s.vm.findClass RX6 = some m.cls := hown
  have hl : lv_has ls 1 [(0, .int x0)] := hl
  refine lv_iload_n hx hb dX6_isLetter_0 rfl (lv_at hl 0 rfl) ?_
  refine lv_bipush (v := 97) hx hb dX6_isLetter_1 (by decide) ?_
  refine lv_icmp_lt (tgt := 16) hx hb dX6_isLetter_3 (by decide) (fun c1 => ?_) (fun c1 => ?_)
  · have h := ite_t c1 h
    refine lv_iconst (v := 0) hx hb dX6_isLetter_16 (by decide) ?_
    exact rRz C rfl (Or.inl rfl) (Option.some.inj h) dX6_isLetter_17
  · have h := ite_f c1 h
    refine lv_iload_n hx hb dX6_isLetter_6 rfl (lv_at hl 0 rfl) ?_
    refine lv_bipush (v := 122) hx hb dX6_isLetter_7 (by decide) ?_
    refine lv_icmp_gt (tgt := 16) hx hb dX6_isLetter_9 (by decide) (fun c2 => ?_) (fun c2 => ?_)
    · have h := ite_t c2 h
      refine lv_iconst (v := 0) hx hb dX6_isLetter_16 (by decide) ?_
      exact rRz C rfl (Or.inl rfl) (Option.some.inj h) dX6_isLetter_17
    · have h := ite_f c2 h
      refine lv_iconst (v := 1) hx hb dX6_isLetter_12 (by decide) ?_
      refine lv_goto (tgt := 17) hx hb dX6_isLetter_13 (by decide) ?_
      exact rRz C rfl (Or.inr rfl) (Option.some.inj h) dX6_isLetter_17

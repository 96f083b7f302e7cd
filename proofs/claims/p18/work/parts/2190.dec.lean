set_option maxHeartbeats 4000000 in
set_option maxRecDepth 100000 in
theorem wX8_rule_fail_57 {p : Program} {l : Launch} {e : Env} {s : State} {m : MethodId} {below : List Frame} {meth : Method} {c : Code} {D : va_G} {a : Nat → ClassId} {A : Nat → Prop} {adK adV : Nat → Nat} {q_t : Nat} {Q_t : Nat → Nat} {Q_t_8 : Nat → Nat} {Q_t_8_0 : Nat → Nat} {B_t_2 : Nat → Option Nat} (C : Cx p s m #[.ref q_t] meth c MX8_rule) (hK : KK D a s) (hA : ∀ q, s.heap.size ≤ q → A q) (hV : VV adK adV A s s.heap) {y : Int32 × Sx × Sx × Sx} {k85 : Sx → Sx → Sx → Option (Int32 × Sx × Sx × Sx)} (hk85 : ∀ (z_tk : Sx) (z_t_8k : Sx) (z_t_8_0k : Sx) (H : Heap) (locs : List Loc) (ls : Array Slot), k85 z_tk z_t_8k z_t_8_0k = some y → va_P D classes (rc8 a q_t Q_t z_tk ++ (rb4 a (Q_t 2) 6 B_t_2 ++ (rc4 a (Q_t 8) Q_t_8 z_t_8k ++ (rc6 a (Q_t_8 0) Q_t_8_0 z_t_8_0k)))) H → va_D A (rc8 a q_t Q_t z_tk ++ (rb4 a (Q_t 2) 6 B_t_2 ++ (rc4 a (Q_t 8) Q_t_8 z_t_8k ++ (rc6 a (Q_t_8 0) Q_t_8_0 z_t_8_0k)))) → va_S A s.heap H locs → lv_has ls 4 [(0, .ref q_t), (1, .ref (Q_t_8 0))] → W p l e (rmM 39 0 0 892) s m #[.ref q_t] below meth c H locs 0 0 (MQ below (va_Qi (fun r (_ : Unit) => r = y.1) (Bw D A (fun _ => rc8 a q_t Q_t y.2.1 ++ (rb4 a (Q_t 2) 6 B_t_2 ++ (rc4 a (Q_t 8) Q_t_8 y.2.2.1 ++ (rc6 a (Q_t_8 0) Q_t_8_0 y.2.2.2))))) A) #[.ref q_t] s 0 0 A) (F0 m 85 ls [])) : ∀ (n : Nat) (z_t : Sx) (z_t_8 : Sx) (z_t_8_0 : Sx) (x2 : Int32) (x3 : Int32) (H : Heap) (locs : List Loc) (ls : Array Slot), lX8_rule_fail_57 k85 B_t_2 n z_t z_t_8 z_t_8_0 x2 x3 = some y → va_P D classes (rc8 a q_t Q_t z_t ++ (rb4 a (Q_t 2) 6 B_t_2 ++ (rc4 a (Q_t 8) Q_t_8 z_t_8 ++ (rc6 a (Q_t_8 0) Q_t_8_0 z_t_8_0)))) H → va_D A (rc8 a q_t Q_t z_t ++ (rb4 a (Q_t 2) 6 B_t_2 ++ (rc4 a (Q_t 8) Q_t_8 z_t_8 ++ (rc6 a (Q_t_8 0) Q_t_8_0 z_t_8_0)))) → va_S A s.heap H locs → lv_has ls 4 [(0, .ref q_t), (1, .ref (Q_t_8 0)), (2, .int x2), (3, .int x3)] → W p l e (rmM 39 0 0 892) s m #[.ref q_t] below meth c H locs 0 0 (MQ below (va_Qi (fun r (_ : Unit) => r = y.1) (Bw D A (fun _ => rc8 a q_t Q_t y.2.1 ++ (rb4 a (Q_t 2) 6 B_t_2 ++ (rc4 a (Q_t 8) Q_t_8 y.2.2.1 ++ (rc6 a (Q_t_8 0) Q_t_8_0 y.2.2.2))))) A) #[.ref q_t] s 0 0 A) (F0 m 57 ls []) := by
  obtain ⟨hx, hb, hml, hown, hts, hr, hlocks, hnm⟩ := id C
  have hb : c.code = cX8_rule := hb
  have hown : s.vm.findClass RX8 = some m.cls := hown
  intro n
  induction n with
  | zero => intro z_t z_t_8 z_t_8_0 x2 x3 H locs ls h; rw [lX8_rule_fail_57] at h; cases h
  | succ n ih =>
    intro z_t z_t_8 z_t_8_0 x2 x3 H locs ls h hP hD hS hl
    rw [lX8_rule_fail_57] at h
    refine lv_iload_n hx hb dX8_rule_57 rfl (lv_at hl 2 rfl) ?_
    refine lv_if_eq (tgt := 85) hx hb dX8_rule_58 (by decide) (fun c7 => ?_) (fun c7 => ?_)
    · have h := ite_t c7 h
      exact hk85 z_t z_t_8 z_t_8_0 _ _ ls h hP hD hS (lv_sub hl [0, 1] rfl)
    · have h := ite_f c7 h
      refine lv_iload_n hx hb dX8_rule_61 rfl (lv_at hl 3 rfl) ?_
      refine lv_bipush (v := 12) hx hb dX8_rule_62 (by decide) ?_
      refine lv_icmp_gt (tgt := 85) hx hb dX8_rule_64 (by decide) (fun c8 => ?_) (fun c8 => ?_)
      · have h := ite_t c8 h
        exact hk85 z_t z_t_8 z_t_8_0 _ _ ls h hP hD hS (lv_sub hl [0, 1] rfl)
      · have h := ite_f c8 h
        refine lv_aload_n hx hb dX8_rule_67 rfl (lv_at hl 0 rfl) ?_
        refine va_get (D := D) (v := .ref (Q_t 8)) (C := RX8) (T := TX8) (N := 11) hx hb hts iX8 hown hK.1 hP 0 rfl rfl 8 (by decide) (hts _ t_308) (fun _ h9 => h9) rfl dX8_rule_68 ?_
        obtain ⟨z10, z11, hc9, h⟩ := bd2_some h
        refine cMv (runV (As := []) (rest := []) C (mX4_readClause l D a (q_t := (Q_t 8)) (Q_t := Q_t_8) (Q_t_0 := Q_t_8_0) hc9 H.size) lk_V_8_108 okN_X4_readClause ⟨Nat.le_of_ble_eq_true rfl, Nat.le_of_ble_eq_true rfl⟩ ⟨rfl, rfl⟩ (preV (preM hK (P_of_map (wc := rc4 a (Q_t 8) Q_t_8 z_t_8 ++ (rc6 a (Q_t_8 0) Q_t_8_0 z_t_8_0)) hP [3, 4, 5, 6, 7, 8, 9, 10, 11] rfl) (hD.sub (ws' := rc4 a (Q_t 8) Q_t_8 z_t_8 ++ (rc6 a (Q_t_8 0) Q_t_8_0 z_t_8_0)) [3, 4, 5, 6, 7, 8, 9, 10, 11] (by decide) rfl)) (recvOf hK hP 3 rfl (ci := 4) rfl)) hl.1 rfl (Nat.le_of_ble_eq_true rfl) dX8_rule_71 ⟨Nat.le_of_ble_eq_true rfl, Nat.le_of_ble_eq_true rfl⟩) hP hD hS hA [3, 4, 5, 6, 7, 8, 9, 10, 11] [0, 1, 2] [0, 1, 2, 3, 4, 5, 6, 7, 8, 9, 10, 11] rfl rfl (by decide) (by decide) (fw := rc8 a q_t Q_t z_t ++ (rb4 a (Q_t 2) 6 B_t_2 ++ (rc4 a (Q_t 8) Q_t_8 z10 ++ (rc6 a (Q_t_8 0) Q_t_8_0 z11)))) rfl (by decide) (fun H locs hP hD hS => ?_)
        have hP : va_P D classes (rc8 a q_t Q_t z_t ++ (rb4 a (Q_t 2) 6 B_t_2 ++ (rc4 a (Q_t 8) Q_t_8 z10 ++ (rc6 a (Q_t_8 0) Q_t_8_0 z11)))) H := hP
        have hD : va_D A (rc8 a q_t Q_t z_t ++ (rb4 a (Q_t 2) 6 B_t_2 ++ (rc4 a (Q_t 8) Q_t_8 z10 ++ (rc6 a (Q_t_8 0) Q_t_8_0 z11)))) := hD
        refine lv_aload_n hx hb dX8_rule_74 rfl (lv_at hl 1 rfl) ?_
        obtain ⟨r13, z14, hc12, h⟩ := bd2_some h
        refine cMi (runV (As := []) (rest := []) C (mX6_anotherClause l D a (q_t := (Q_t_8 0)) (Q_t := Q_t_8_0) hc12 H.size) lk_V_8_111 okN_X6_anotherClause ⟨Nat.le_of_ble_eq_true rfl, Nat.le_of_ble_eq_true rfl⟩ ⟨rfl, rfl⟩ (preV (preM hK (P_of_map (wc := rc6 a (Q_t_8 0) Q_t_8_0 z11) hP [8, 9, 10, 11] rfl) (hD.sub (ws' := rc6 a (Q_t_8 0) Q_t_8_0 z11) [8, 9, 10, 11] (by decide) rfl)) (recvOf hK hP 8 rfl (ci := 6) rfl)) hl.1 rfl (Nat.le_of_ble_eq_true rfl) dX8_rule_75 ⟨Nat.le_of_ble_eq_true rfl, Nat.le_of_ble_eq_true rfl⟩) hP hD hS hA [8, 9, 10, 11] [0, 1, 2, 3, 4, 5, 6, 7] [0, 1, 2, 3, 4, 5, 6, 7, 8, 9, 10, 11] rfl rfl (by decide) (by decide) (fw := rc8 a q_t Q_t z_t ++ (rb4 a (Q_t 2) 6 B_t_2 ++ (rc4 a (Q_t 8) Q_t_8 z10 ++ (rc6 a (Q_t_8 0) Q_t_8_0 z14)))) rfl (by decide) (fun H locs hP hD hS => ?_)
        have hP : va_P D classes (rc8 a q_t Q_t z_t ++ (rb4 a (Q_t 2) 6 B_t_2 ++ (rc4 a (Q_t 8) Q_t_8 z10 ++ (rc6 a (Q_t_8 0) Q_t_8_0 z14)))) H := hP
        have hD : va_D A (rc8 a q_t Q_t z_t ++ (rb4 a (Q_t 2) 6 B_t_2 ++ (rc4 a (Q_t 8) Q_t_8 z10 ++ (rc6 a (Q_t_8 0) Q_t_8_0 z14)))) := hD
        refine lv_istore_n (lv' := [(2, .int r13), (0, .ref q_t), (1, .ref (Q_t_8 0)), (3, .int x3)]) hx hb dX8_rule_78 rfl hl (by decide) rfl (fun ls hl => ?_)
        refine lv_iinc (v := x3 + 1) (lv' := [(3, .int (x3 + 1)), (2, .int r13), (0, .ref q_t), (1, .ref (Q_t_8 0))]) hx hb dX8_rule_79 hl (k := 3) rfl rfl (by decide) rfl (fun ls hl => ?_)
        refine lv_goto (tgt := 57) hx hb dX8_rule_82 (by decide) ?_
        exact ih z_t z10 z14 r13 (x3 + 1) _ _ ls h hP hD hS (lv_sub hl [2, 3, 1, 0] rfl)

set_option maxHeartbeats 4000000 in
set_option maxRecDepth 100000 in
theorem mX8_rule_fail (l : Launch) (D : va_G) (a : Nat → ClassId) {adK adV : Nat → Nat} {q_t : Nat} {Q_t : Nat → Nat} {z_t : Sx} {B_t_2 : Nat → Option Nat} {Q_t_8 : Nat → Nat} {z_t_8 : Sx} {Q_t_8_0 : Nat → Nat} {z_t_8_0 : Sx} {y : Int32 × Sx × Sx × Sx} (h : fX8_rule_fail z_t B_t_2 z_t_8 z_t_8_0 = some y) (sz : Nat) : CMsi (S := Unit) l MX8_rule 39 892 0 0 D a adK adV [.ref q_t] (rc8 a q_t Q_t z_t ++ (rb4 a (Q_t 2) 6 B_t_2 ++ (rc4 a (Q_t 8) Q_t_8 z_t_8 ++ (rc6 a (Q_t_8 0) Q_t_8_0 z_t_8_0)))) sz (fun r _ => r = y.1) (fun _ => rc8 a q_t Q_t y.2.1 ++ (rb4 a (Q_t 2) 6 B_t_2 ++ (rc4 a (Q_t 8) Q_t_8 y.2.2.1 ++ (rc6 a (Q_t_8 0) Q_t_8_0 y.2.2.2)))) := by
  unfold fX8_rule_fail at h
  refine entMsi (by decide) (Nat.le_of_ble_eq_true rfl) ?_
  intro p e s m below meth c C hK A hA hP hD hV ls hl
  obtain ⟨hx, hb, hml, hown, hts, hr, hlocks, hnm⟩ := id C
  have hb : c.code = cX8_rule := hb
  have hown : s.vm.findClass RX8 = some m.cls := hown
  have hS : va_S A s.heap s.heap [] := va_S.rf
  have hl : lv_has ls 4 [(0, .ref q_t)] := hl
  refine lv_aload_n hx hb dX8_rule_0 rfl (lv_at hl 0 rfl) ?_
  refine va_get (D := D) (v := .int (gI z_t 3)) (C := RX8) (T := TX8) (N := 11) hx hb hts iX8 hown hK.1 hP 0 rfl rfl 3 (by decide) (hts _ t_303) (fun _ h9 => h9) rfl dX8_rule_1 ?_
  refine lv_if_lt (tgt := 19) hx hb dX8_rule_4 (by decide) (fun c1 => ?_) (fun c1 => ?_)
  · have h := ite_t c1 h
    refine lv_iconst (v := (-1)) hx hb dX8_rule_19 (by decide) ?_
    exact rMi C rfl h (g := fun y => rc8 a q_t Q_t y.2.1 ++ (rb4 a (Q_t 2) 6 B_t_2 ++ (rc4 a (Q_t 8) Q_t_8 y.2.2.1 ++ (rc6 a (Q_t_8 0) Q_t_8_0 y.2.2.2)))) (pr := fun y => y.1) hP hD hS dX8_rule_20
  · have h := ite_f c1 h
    refine lv_aload_n hx hb dX8_rule_7 rfl (lv_at hl 0 rfl) ?_
    refine va_get (D := D) (v := .int (gI z_t 3)) (C := RX8) (T := TX8) (N := 11) hx hb hts iX8 hown hK.1 hP 0 rfl rfl 3 (by decide) (hts _ t_303) (fun _ h9 => h9) rfl dX8_rule_8 ?_
    refine lv_aload_n hx hb dX8_rule_11 rfl (lv_at hl 0 rfl) ?_
    refine va_get (D := D) (v := .ref (Q_t 2)) (C := RX8) (T := TX8) (N := 11) hx hb hts iX8 hown hK.1 hP 0 rfl rfl 2 (by decide) (hts _ t_302) (fun _ h9 => h9) rfl dX8_rule_12 ?_
    refine va_alen (v := 6) hx hb hK.1 hP 2 4 rfl rfl rfl dX8_rule_15 ?_
    refine lv_icmp_lt (tgt := 21) hx hb dX8_rule_16 (by decide) (fun c2 => ?_) (fun c2 => ?_)
    · have h := ite_t c2 h
      refine lv_aload_n hx hb dX8_rule_21 rfl (lv_at hl 0 rfl) ?_
      refine va_get (D := D) (v := .ref (Q_t 8)) (C := RX8) (T := TX8) (N := 11) hx hb hts iX8 hown hK.1 hP 0 rfl rfl 8 (by decide) (hts _ t_308) (fun _ h9 => h9) rfl dX8_rule_22 ?_
      refine va_get (D := D) (v := .ref (Q_t_8 0)) (C := RX4) (T := TX4) (N := 8) hx hb hts iX4 hown hK.1 hP 3 rfl rfl 0 (by decide) (hts _ t_243) (fun _ h9 => h9) rfl dX8_rule_25 ?_
      refine lv_astore_n (lv' := [(1, .ref (Q_t_8 0)), (0, .ref q_t)]) hx hb dX8_rule_28 rfl hl (by decide) rfl (fun ls hl => ?_)
      refine lv_aload_n hx hb dX8_rule_29 rfl (lv_at hl 0 rfl) ?_
      refine lv_aload_n hx hb dX8_rule_30 rfl (lv_at hl 1 rfl) ?_
      refine va_get (D := D) (v := .ref (Q_t 0)) (C := RX8) (T := TX8) (N := 11) hx hb hts iX8 hown hK.1 hP 0 rfl rfl 0 (by decide) (hts _ t_300) (fun _ h9 => h9) rfl dX8_rule_31 ?_
      refine lv_aload_n hx hb dX8_rule_34 rfl (lv_at hl 1 rfl) ?_
      refine va_get (D := D) (v := .int (gI z_t 1)) (C := RX8) (T := TX8) (N := 11) hx hb hts iX8 hown hK.1 hP 0 rfl rfl 1 (by decide) (hts _ t_301) (fun _ h9 => h9) rfl dX8_rule_35 ?_
      obtain ⟨z4, hc3, h⟩ := bd_some h
      refine cMv (runV (As := [.ref (Q_t 0), .int (gI z_t 1)]) (rest := []) C (mX6_open l D a (q_t := (Q_t_8 0)) (q_p1 := (Q_t 0)) (Q_t := Q_t_8_0) hc3 s.heap.size) lk_V_8_86 okN_X6_open ⟨Nat.le_of_ble_eq_true rfl, Nat.le_of_ble_eq_true rfl⟩ ⟨rfl, rfl⟩ (preV (preMs hK (P_of_map (wc := rc6 a (Q_t_8 0) Q_t_8_0 z_t_8_0 ++ (ra0 a (Q_t 0) 400 (gT z_t 0))) hP [8, 9, 10, 11, 1] rfl) (hD.sub (ws' := rc6 a (Q_t_8 0) Q_t_8_0 z_t_8_0 ++ (ra0 a (Q_t 0) 400 (gT z_t 0))) [8, 9, 10, 11, 1] (by decide) rfl) ((hV.kept hS.2.1).narrow (va_free (wc := rc6 a (Q_t_8 0) Q_t_8_0 z_t_8_0 ++ (ra0 a (Q_t 0) 400 (gT z_t 0))) hD hS hA [8, 9, 10, 11, 1] rfl))) (recvOf hK hP 8 rfl (ci := 6) rfl)) hl.1 rfl (Nat.le_of_ble_eq_true rfl) dX8_rule_38 ⟨Nat.le_of_ble_eq_true rfl, Nat.le_of_ble_eq_true rfl⟩) hP hD hS hA [8, 9, 10, 11, 1] [0, 2, 3, 4, 5, 6, 7] [0, 11, 1, 2, 3, 4, 5, 6, 7, 8, 9, 10] rfl rfl (by decide) (by decide) (fw := rc8 a q_t Q_t z_t ++ (rb4 a (Q_t 2) 6 B_t_2 ++ (rc4 a (Q_t 8) Q_t_8 z_t_8 ++ (rc6 a (Q_t_8 0) Q_t_8_0 z4)))) rfl (by decide) (fun H locs hP hD hS => ?_)
      have hP : va_P D classes (rc8 a q_t Q_t z_t ++ (rb4 a (Q_t 2) 6 B_t_2 ++ (rc4 a (Q_t 8) Q_t_8 z_t_8 ++ (rc6 a (Q_t_8 0) Q_t_8_0 z4)))) H := hP
      have hD : va_D A (rc8 a q_t Q_t z_t ++ (rb4 a (Q_t 2) 6 B_t_2 ++ (rc4 a (Q_t 8) Q_t_8 z_t_8 ++ (rc6 a (Q_t_8 0) Q_t_8_0 z4)))) := hD
      refine lv_aload_n hx hb dX8_rule_41 rfl (lv_at hl 1 rfl) ?_
      refine lv_iconst (v := 0) hx hb dX8_rule_42 (by decide) ?_
      refine va_put (D := D) (v := .int 0) (C := RX8) (T := TX8) (N := 11) hx hb hts iX8 tyX8 tyX8_ok nmX8 hown hK.1 hP hD hS 0 rfl rfl 1 (by decide) (hts _ t_301) (fun _ h9 => h9) rfl (tyX8_ok 1 (by decide)) rfl rfl (Nat.le_of_ble_eq_true rfl) dX8_rule_43 (fun H locs hP hD hS => ?_)
      have hP : va_P D classes (rc8 a q_t Q_t (sI z_t 1 0) ++ (rb4 a (Q_t 2) 6 B_t_2 ++ (rc4 a (Q_t 8) Q_t_8 z_t_8 ++ (rc6 a (Q_t_8 0) Q_t_8_0 z4)))) H := hP
      have hD : va_D A (rc8 a q_t Q_t (sI z_t 1 0) ++ (rb4 a (Q_t 2) 6 B_t_2 ++ (rc4 a (Q_t 8) Q_t_8 z_t_8 ++ (rc6 a (Q_t_8 0) Q_t_8_0 z4)))) := hD
      refine lv_aload_n hx hb dX8_rule_46 rfl (lv_at hl 1 rfl) ?_
      refine va_get (D := D) (v := .ref (Q_t 8)) (C := RX8) (T := TX8) (N := 11) hx hb hts iX8 hown hK.1 hP 0 rfl rfl 8 (by decide) (hts _ t_308) (fun _ h9 => h9) rfl dX8_rule_47 ?_
      obtain ⟨z6, hc5, h⟩ := bd_some h
      refine cMv (runV (As := []) (rest := []) C (mX4_start l D a (q_t := (Q_t 8)) (Q_t := Q_t_8) hc5 H.size) lk_V_8_105 okN_X4_start ⟨Nat.le_of_ble_eq_true rfl, Nat.le_of_ble_eq_true rfl⟩ ⟨rfl, rfl⟩ (preV (preM hK (P_of_map (wc := rc4 a (Q_t 8) Q_t_8 z_t_8) hP [3, 4, 5, 6, 7] rfl) (hD.sub (ws' := rc4 a (Q_t 8) Q_t_8 z_t_8) [3, 4, 5, 6, 7] (by decide) rfl)) (recvOf hK hP 3 rfl (ci := 4) rfl)) hl.1 rfl (Nat.le_of_ble_eq_true rfl) dX8_rule_50 ⟨Nat.le_of_ble_eq_true rfl, Nat.le_of_ble_eq_true rfl⟩) hP hD hS hA [3, 4, 5, 6, 7] [0, 1, 2, 8, 9, 10, 11] [0, 1, 2, 7, 8, 9, 10, 11, 3, 4, 5, 6] rfl rfl (by decide) (by decide) (fw := rc8 a q_t Q_t (sI z_t 1 0) ++ (rb4 a (Q_t 2) 6 B_t_2 ++ (rc4 a (Q_t 8) Q_t_8 z6 ++ (rc6 a (Q_t_8 0) Q_t_8_0 z4)))) rfl (by decide) (fun H locs hP hD hS => ?_)
      have hP : va_P D classes (rc8 a q_t Q_t (sI z_t 1 0) ++ (rb4 a (Q_t 2) 6 B_t_2 ++ (rc4 a (Q_t 8) Q_t_8 z6 ++ (rc6 a (Q_t_8 0) Q_t_8_0 z4)))) H := hP
      have hD : va_D A (rc8 a q_t Q_t (sI z_t 1 0) ++ (rb4 a (Q_t 2) 6 B_t_2 ++ (rc4 a (Q_t 8) Q_t_8 z6 ++ (rc6 a (Q_t_8 0) Q_t_8_0 z4)))) := hD
      refine lv_iconst (v := 1) hx hb dX8_rule_53 (by decide) ?_
      refine lv_istore_n (lv' := [(2, .int 1), (1, .ref (Q_t_8 0)), (0, .ref q_t)]) hx hb dX8_rule_54 rfl hl (by decide) rfl (fun ls hl => ?_)
      refine lv_iconst (v := 0) hx hb dX8_rule_55 (by decide) ?_
      refine lv_istore_n (lv' := [(3, .int 0), (2, .int 1), (1, .ref (Q_t_8 0)), (0, .ref q_t)]) hx hb dX8_rule_56 rfl hl (by decide) rfl (fun ls hl => ?_)
      refine wX8_rule_fail_57 C hK hA hV ?_ FU (sI z_t 1 0) z6 z4 1 0 _ _ ls h hP hD hS (lv_sub hl [3, 2, 1, 0] rfl)
      · intro z15 z16 z17 H locs ls h hP hD hS hl
        refine lv_aload_n hx hb dX8_rule_85 rfl (lv_at hl 1 rfl) ?_
        refine va_get (D := D) (v := .int (gI z17 8)) (C := RX6) (T := TX6) (N := 9) hx hb hts iX6 hown hK.1 hP 8 rfl rfl 8 (by decide) (hts _ t_221) (fun _ h9 => h9) rfl dX8_rule_86 ?_
        refine lv_if_eq (tgt := 100) hx hb dX8_rule_89 (by decide) (fun c18 => ?_) (fun c18 => ?_)
        · have h := ite_t c18 h
          cases h
        · have h := ite_f c18 h
          refine lv_bipush (v := (-2)) hx hb dX8_rule_92 (by decide) ?_
          refine lv_aload_n hx hb dX8_rule_94 rfl (lv_at hl 1 rfl) ?_
          refine va_get (D := D) (v := .int (gI z17 8)) (C := RX6) (T := TX6) (N := 9) hx hb hts iX6 hown hK.1 hP 8 rfl rfl 8 (by decide) (hts _ t_221) (fun _ h9 => h9) rfl dX8_rule_95 ?_
          refine lv_isub hx hb dX8_rule_98 ?_
          exact rMi C rfl h (g := fun y => rc8 a q_t Q_t y.2.1 ++ (rb4 a (Q_t 2) 6 B_t_2 ++ (rc4 a (Q_t 8) Q_t_8 y.2.2.1 ++ (rc6 a (Q_t_8 0) Q_t_8_0 y.2.2.2)))) (pr := fun y => y.1) hP hD hS dX8_rule_99
    · have h := ite_f c2 h
      refine lv_iconst (v := (-1)) hx hb dX8_rule_19 (by decide) ?_
      exact rMi C rfl h (g := fun y => rc8 a q_t Q_t y.2.1 ++ (rb4 a (Q_t 2) 6 B_t_2 ++ (rc4 a (Q_t 8) Q_t_8 y.2.2.1 ++ (rc6 a (Q_t_8 0) Q_t_8_0 y.2.2.2)))) (pr := fun y => y.1) hP hD hS dX8_rule_20


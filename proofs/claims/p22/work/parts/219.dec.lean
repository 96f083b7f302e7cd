set_option maxHeartbeats 4000000 in
set_option maxRecDepth 100000 in
theorem wX8_rule_fail_57 {p : Program} {l : Launch} {e : Env} {s : State} {m : MethodId} {below : List Frame} {meth : Method} {c : Code} {D : va_G} {a : Nat → ClassId} {A : Nat → Prop} {adK adV : Nat → Nat} {q_t : Nat} {Q_t : Nat → Nat} {Q_t_8 : Nat → Nat} {Q_t_8_0 : Nat → Nat} {B_t_2 : Nat → Option Nat} (C : Cx p s m #[.ref q_t] meth c MX8_rule) (hK : KK D a s) (hA : ∀ q, s.heap.size ≤ q → A q) (hV : VV adK adV A s s.heap) {y : Int32 × Sx × Sx × Sx} {k85 : Sx → Sx → Sx → Option (Int32 × Sx × Sx × Sx)} (hk85 : ∀ (z_tk : Sx) (z_t_8k : Sx) (z_t_8_0k : Sx) (H : Heap) (locs : List Loc) (ls : Array Slot), k85 z_tk z_t_8k z_t_8_0k = some y → va_P D classes (rc8 a q_t Q_t z_tk ++ (rb4 a (Q_t 2) 6 B_t_2 ++ (rc4 a (Q_t 8) Q_t_8 z_t_8k ++ (rc6 a (Q_t_8 0) Q_t_8_0 z_t_8_0k)))) H → va_D A (rc8 a q_t Q_t z_tk ++ (rb4 a (Q_t 2) 6 B_t_2 ++ (rc4 a (Q_t 8) Q_t_8 z_t_8k ++ (rc6 a (Q_t_8 0) Q_t_8_0 z_t_8_0k)))) → va_S A s.heap H locs → lv_has ls 4 [(0, .ref q_t), (1, .ref (Q_t_8 0))] → W p l e (rmM 39 0 0 892) s m #[.ref q_t] below meth c H locs 0 0 (MQ below (va_Qi (fun r (_ : Unit) => r = y.1) (Bw D A (fun _ => rc8 a q_t Q_t y.2.1 ++ (rb4 a (Q_t 2) 6 B_t_2 ++ (rc4 a (Q_t 8) Q_t_8 y.2.2.1 ++ (rc6 a (Q_t_8 0) Q_t_8_0 y.2.2.2))))) A) #[.ref q_t] s 0 0 A) (F0 m 85 ls [])) : ∀ (n : Nat) (z_t : Sx) (z_t_8 : Sx) (z_t_8_0 : Sx) (x2 : Int32) (x3 : Int32) (H : Heap) (locs : List Loc) (ls : Array Slot), lX8_rule_fail_57 k85 B_t_2 n z_t z_t_8 z_t_8_0 x2 x3 = some y → va_P D classes (rc8 a q_t Q_t z_t ++ (rb4 a (Q_t 2) 6 B_t_2 ++ (rc4 a (Q_t 8) Q_t_8 z_t_8 ++ (rc6 a (Q_t_8 0) Q_t_8_0 z_t_8_0)))) H → va_D A (rc8 a q_t Q_t z_t ++ (rb4 a (Q_t 2) 6 B_t_2 ++ (rc4 a (Q_t 8) Q_t_8 z_t_8 ++ (rc6 a (Q_t_8 0) Q_t_8_0 z_t_8_0)))) → va_S A s.heap H locs → lv_has ls 4 [(0, .ref q_t), (1, .ref (Q_t_8 0)), (2, .int x2), (3, .int x3)] → W p l e (rmM 39 0 0 892) s m #[.ref q_t] below meth c H locs 0 0 (MQ below (va_Qi (fun r (_ : Unit) => r = y.1) (Bw D A (fun _ => rc8 a q_t Q_t y.2.1 ++ (rb4 a (Q_t 2) 6 B_t_2 ++ (rc4 a (Q_t 8) Q_t_8 y.2.2.1 ++ (rc6 a (Q_t_8 0) Q_t_8_0 y.2.2.2))))) A) #[.ref q_t] s 0 0 A) (F0 m 57 ls []) := by
  obtain ⟨hx, hb, hml, hown, hts, hr, hlocks, hnm⟩ := id C
  have hb : c.code = cX8_rule := hb
  have hown : s.vm.findClass RX8 = some m.cls := hown
  intro n
  induction n with
  | zero => intro z_t z_t_8 z_t_8_0 x2 x3 H locs ls h; rw [lX8_rule_fail_57] at h; cases h
  | succ n ih =>
    intro z_t z_t_8 z_t_8_0 x2 x3 H locs ls h hP hD hS hl
    rw [lX8_rule_fail_57] at h
    refine lv_iload_n hx hb dX8_rule_57 rfl (lv_at hl 2 rfl) ?_
    refine lv_if_eq (tgt := 85) hx hb dX8_rule_58 (by decide) (fun c7 => ?_) (fun c7 => ?_)
    · have h := ite_t c7 h
      exact hk85 z_t z_t_8 z_t_8_0 _ _ ls h hP hD hS (lv_sub hl [0, 1] rfl)
    · have h := ite_f c7 h
      refine lv_iload_n hx hb dX8_rule_61 rfl (lv_at hl 3 rfl) ?_
      refine lv_bipush (v := 12) hx hb dX8_rule_62 (by decide) ?_
      refine lv_icmp_gt (tgt := 85) hx hb dX8_rule_64 (by decide) (fun c8 => ?_) (fun c8 => ?_)
      · have h := ite_t c8 h
        exact hk85 z_t z_t_8 z_t_8_0 _ _ ls h hP hD hS (lv_sub hl [0, 1] rfl)
      · have h := ite_f c8 h
        refine lv_aload_n hx hb dX8_rule_67 rfl (lv_at hl 0 rfl) ?_
        refine va_get (D := D) (v := .ref (Q_t 8)) (C := RX8) (T := TX8) (N := 11) hx hb hts iX8 hown hK.1 hP 0 rfl rfl 8 (by decide) (hts _ t_308) (fun _ h9 => h9) rfl dX8_rule_68 ?_
        obtain ⟨z10, z11, hc9, h⟩ := bd2_some h
        refine cMv (runV (As := []) (rest := []) C (mX4_readClause l D a (q_t := (Q_t 8)) (Q_t := Q_t_8) (Q_t_0 := Q_t_8_0) hc9 H.size) lk_V_8_108 okN_X4_readClause ⟨Nat.le_of_ble_eq_true rfl, Nat.le_of_ble_eq_true rfl⟩ ⟨rfl, rfl⟩ (preV (preM hK (P_of_map (wc := rc4 a (Q_t 8) Q_t_8 z_t_8 ++ (rc6 a (Q_t_8 0) Q_t_8_0 z_t_8_0)) hP [3, 4, 5, 6, 7, 8, 9, 10, 11] rfl) (hD.sub (ws' := rc4 a (Q_t 8) Q_t_8 z_t_8 ++ (rc6 a (Q_t_8 0) Q_t_8_0 z_t_8_0)) [3, 4, 5, 6, 7, 8, 9, 10, 11] (by decide) rfl)) (recvOf hK hP 3 rfl (ci := 4) rfl)) hl.1 rfl (Nat.le_of_ble_eq_true rfl) dX8_rule_71 ⟨Nat.le_of_ble_eq_true rfl, Nat.le_of_ble_eq_true rfl⟩) hP hD hS hA [3, 4, 5, 6, 7, 8, 9, 10, 11] [0, 1, 2] [0, 1, 2, 3, 4, 5, 6, 7, 8, 9, 10, 11] rfl rfl (by decide) (by decide) (fw := rc8 a q_t Q_t z_t ++ (rb4 a (Q_t 2) 6 B_t_2 ++ (rc4 a (Q_t 8) Q_t_8 z10 ++ (rc6 a (Q_t_8 0) Q_t_8_0 z11)))) rfl (by decide) (fun H locs hP hD hS => ?_)
        have hP : va_P D classes (rc8 a q_t Q_t z_t ++ (rb4 a (Q_t 2) 6 B_t_2 ++ (rc4 a (Q_t 8) Q_t_8 z10 ++ (rc6 a (Q_t_8 0) Q_t_8_0 z11)))) H := hP
        have hD : va_D A (rc8 a q_t Q_t z_t ++ (rb4 a (Q_t 2) 6 B_t_2 ++ (rc4 a (Q_t 8) Q_t_8 z10 ++ (rc6 a (Q_t_8 0) Q_t_8_0 z11)))) := hD
        refine lv_aload_n hx hb dX8_rule_74 rfl (lv_at hl 1 rfl) ?_
        obtain ⟨r13, z14, hc12, h⟩ := bd2_some h
        refine cMi (runV (As := []) (rest := []) C (mX6_anotherClause l D a (q_t := (Q_t_8 0)) (Q_t := Q_t_8_0) hc12 H.size) lk_V_8_111 okN_X6_anotherClause ⟨Nat.le_of_ble_eq_true rfl, Nat.le_of_ble_eq_true rfl⟩ ⟨rfl, rfl⟩ (preV (preM hK (P_of_map (wc := rc6 a (Q_t_8 0) Q_t_8_0 z11) hP [8, 9, 10, 11] rfl) (hD.sub (ws' := rc6 a (Q_t_8 0) Q_t_8_0 z11) [8, 9, 10, 11] (by decide) rfl)) (recvOf hK hP 8 rfl (ci := 6) rfl)) hl.1 rfl (Nat.le_of_ble_eq_true rfl) dX8_rule_75 ⟨Nat.le_of_ble_eq_true rfl, Nat.le_of_ble_eq_true rfl⟩) hP hD hS hA [8, 9, 10, 11] [0, 1, 2, 3, 4, 5, 6, 7] [0, 1, 2, 3, 4, 5, 6, 7, 8, 9, 10, 11] rfl rfl (by decide) (by decide) (fw := rc8 a q_t Q_t z_t ++ (rb4 a (Q_t 2) 6 B_t_2 ++ (rc4 a (Q_t 8) Q_t_8 z10 ++ (rc6 a (Q_t_8 0) Q_t_8_0 z14)))) rfl (by decide) (fun H locs hP hD hS => ?_)
        have hP : va_P D classes (rc8 a q_t Q_t z_t ++ (rb4 a (Q_t 2) 6 B_t_2 ++ (rc4 a (Q_t 8) Q_t_8 z10 ++ (rc6 a (Q_t_8 0) Q_t_8_0 z14)))) H := hP
        have hD : va_D A (rc8 a q_t Q_t z_t ++ (rb4 a (Q_t 2) 6 B_t_2 ++ (rc4 a (Q_t 8) Q_t_8 z10 ++ (rc6 a (Q_t_8 0) Q_t_8_0 z14)))) := hD
        refine lv_istore_n (lv' := [(2, .int r13), (0, .ref q_t), (1, .ref (Q_t_8 0)), (3, .int x3)]) hx hb dX8_rule_78 rfl hl (by decide) rfl (fun ls hl => ?_)
        refine lv_iinc (v := x3 + 1) (lv' := [(3, .int (x3 + 1)), (2, .int r13), (0, .ref q_t), (1, .ref (Q_t_8 0))]) hx hb dX8_rule_79 hl (k := 3) rfl rfl (by decide) rfl (fun ls hl => ?_)
        refine lv_goto (tgt := 57) hx hb dX8_rule_82 (by decide) ?_
        exact ih z_t z10 z14 r13 (x3 + 1) _ _ ls h hP hD hS (lv_sub hl [2, 3, 1, 0] rfl)

set_option maxHeartbeats 4000000 in
set_option maxRecDepth 100000 in
theorem mX8_rule_fail (l : Launch) (D : va_G) (a : Nat → ClassId) {adK adV : Nat → Nat} {q_t : Nat} {Q_t : Nat → Nat} {z_t : Sx} {B_t_2 : Nat → Option Nat} {Q_t_8 : Nat → Nat} {z_t_8 : Sx} {Q_t_8_0 : Nat → Nat} {z_t_8_0 : Sx} {y : Int32 × Sx × Sx × Sx} (h : fX8_rule_fail z_t B_t_2 z_t_8 z_t_8_0 = some y) (sz : Nat) : CMsi (S := Unit) l MX8_rule 39 892 0 0 D a adK adV [.ref q_t] (rc8 a q_t Q_t z_t ++ (rb4 a (Q_t 2) 6 B_t_2 ++ (rc4 a (Q_t 8) Q_t_8 z_t_8 ++ (rc6 a (Q_t_8 0) Q_t_8_0 z_t_8_0)))) sz (fun r _ => r = y.1) (fun _ => rc8 a q_t Q_t y.2.1 ++ (rb4 a (Q_t 2) 6 B_t_2 ++ (rc4 a (Q_t 8) Q_t_8 y.2.2.1 ++ (rc6 a (Q_t_8 0) Q_t_8_0 y.2.2.2)))) := by
  unfold fX8_rule_fail at h
  refine entMsi (by decide) (Nat.le_of_ble_eq_true rfl) ?_
  intro p e s m below meth c C hK A hA hP hD hV ls hl
  obtain ⟨hx, hb, hml, hown, hts, hr, hlocks, hnm⟩ := id C
  have hb : c.code = cX8_rule := hb
  have hown : s.vm.findClass RX8 = some m.cls := hown
  have hS : va_S A s.heap s.heap [] := va_S.rf
  have hl : lv_has ls 4 [(0, .ref q_t)] := hl
  refine lv_aload_n hx hb dX8_rule_0 rfl (lv_at hl 0 rfl) ?_
  refine va_get (D := D) (v := .int (gI z_t 3)) (C := RX8) (T := TX8) (N := 11) hx hb hts iX8 hown hK.1 hP 0 rfl rfl 3 (by decide) (hts _ t_303) (fun _ h9 => h9) rfl dX8_rule_1 ?_
  refine lv_if_lt (tgt := 19) hx hb dX8_rule_4 (by decide) (fun c1 => ?_) (fun c1 => ?_)
  · have h := ite_t c1 h
    refine lv_iconst (v := (-1)) hx hb dX8_rule_19 (by decide) ?_
    exact rMi C rfl h (g := fun y => rc8 a q_t Q_t y.2.1 ++ (rb4 a (Q_t 2) 6 B_t_2 ++ (rc4 a (Q_t 8) Q_t_8 y.2.2.1 ++ (rc6 a (Q_t_8 0) Q_t_8_0 y.2.2.2)))) (pr := fun y => y.1) hP hD hS dX8_rule_20
  · have h := ite_f c1 h
    refine lv_aload_n hx hb dX8_rule_7 rfl (lv_at hl 0 rfl) ?_
    refine va_get (D := D) (v := .int (gI z_t 3)) (C := RX8) (T := TX8) (N := 11) hx hb hts iX8 hown hK.1 hP 0 rfl rfl 3 (by decide) (hts _ t_303) (fun _ h9 => h9) rfl dX8_rule_8 ?_
    refine lv_aload_n hx hb dX8_rule_11 rfl (lv_at hl 0 rfl) ?_
    refine va_get (D := D) (v := .ref (Q_t 2)) (C := RX8) (T := TX8) (N := 11) hx hb hts iX8 hown hK.1 hP 0 rfl rfl 2 (by decide) (hts _ t_302) (fun _ h9 => h9) rfl dX8_rule_12 ?_
    refine va_alen (v := 6) hx hb hK.1 hP 2 4 rfl rfl rfl dX8_rule_15 ?_
    refine lv_icmp_lt (tgt := 21) hx hb dX8_rule_16 (by decide) (fun c2 => ?_) (fun c2 => ?_)
    · have h := ite_t c2 h
      refine lv_aload_n hx hb dX8_rule_21 rfl (lv_at hl 0 rfl) ?_
      refine va_get (D := D) (v := .ref (Q_t 8)) (C := RX8) (T := TX8) (N := 11) hx hb hts iX8 hown hK.1 hP 0 rfl rfl 8 (by decide) (hts _ t_308) (fun _ h9 => h9) rfl dX8_rule_22 ?_
      refine va_get (D := D) (v := .ref (Q_t_8 0)) (C := RX4) (T := TX4) (N := 8) hx hb hts iX4 hown hK.1 hP 3 rfl rfl 0 (by decide) (hts _ t_243) (fun _ h9 => h9) rfl dX8_rule_25 ?_
      refine lv_astore_n (lv' := [(1, .ref (Q_t_8 0)), (0, .ref q_t)]) hx hb dX8_rule_28 rfl hl (by decide) rfl (fun ls hl => ?_)
      refine lv_aload_n hx hb dX8_rule_29 rfl (lv_at hl 0 rfl) ?_
      refine lv_aload_n hx hb dX8_rule_30 rfl (lv_at hl 1 rfl) ?_
      refine va_get (D := D) (v := .ref (Q_t 0)) (C := RX8) (T := TX8) (N := 11) hx hb hts iX8 hown hK.1 hP 0 rfl rfl 0 (by decide) (hts _ t_300) (fun _ h9 => h9) rfl dX8_rule_31 ?_
      refine lv_aload_n hx hb dX8_rule_34 rfl (lv_at hl 1 rfl) ?_
      refine va_get (D := D) (v := .int (gI z_t 1)) (C := RX8) (T := TX8) (N := 11) hx hb hts iX8 hown hK.1 hP 0 rfl rfl 1 (by decide) (hts _ t_301) (fun _ h9 => h9) rfl dX8_rule_35 ?_
      obtain ⟨z4, hc3, h⟩ := bd_some h
      refine cMv (runV (As := [.ref (Q_t 0), .int (gI z_t 1)]) (rest := []) C (mX6_open l D a (q_t := (Q_t_8 0)) (q_p1 := (Q_t 0)) (Q_t := Q_t_8_0) hc3 s.heap.size) lk_V_8_86 okN_X6_open ⟨Nat.le_of_ble_eq_true rfl, Nat.le_of_ble_eq_true rfl⟩ ⟨rfl, rfl⟩ (preV (preMs hK (P_of_map (wc := rc6 a (Q_t_8 0) Q_t_8_0 z_t_8_0 ++ (ra0 a (Q_t 0) 400 (gT z_t 0))) hP [8, 9, 10, 11, 1] rfl) (hD.sub (ws' := rc6 a (Q_t_8 0) Q_t_8_0 z_t_8_0 ++ (ra0 a (Q_t 0) 400 (gT z_t 0))) [8, 9, 10, 11, 1] (by decide) rfl) ((hV.kept hS.2.1).narrow (va_free (wc := rc6 a (Q_t_8 0) Q_t_8_0 z_t_8_0 ++ (ra0 a (Q_t 0) 400 (gT z_t 0))) hD hS hA [8, 9, 10, 11, 1] rfl))) (recvOf hK hP 8 rfl (ci := 6) rfl)) hl.1 rfl (Nat.le_of_ble_eq_true rfl) dX8_rule_38 ⟨Nat.le_of_ble_eq_true rfl, Nat.le_of_ble_eq_true rfl⟩) hP hD hS hA [8, 9, 10, 11, 1] [0, 2, 3, 4, 5, 6, 7] [0, 11, 1, 2, 3, 4, 5, 6, 7, 8, 9, 10] rfl rfl (by decide) (by decide) (fw := rc8 a q_t Q_t z_t ++ (rb4 a (Q_t 2) 6 B_t_2 ++ (rc4 a (Q_t 8) Q_t_8 z_t_8 ++ (rc6 a (Q_t_8 0) Q_t_8_0 z4)))) rfl (by decide) (fun H locs hP hD hS => ?_)
      have hP : va_P D classes (rc8 a q_t Q_t z_t ++ (rb4 a (Q_t 2) 6 B_t_2 ++ (rc4 a (Q_t 8) Q_t_8 z_t_8 ++ (rc6 a (Q_t_8 0) Q_t_8_0 z4)))) H := hP
      have hD : va_D A (rc8 a q_t Q_t z_t ++ (rb4 a (Q_t 2) 6 B_t_2 ++ (rc4 a (Q_t 8) Q_t_8 z_t_8 ++ (rc6 a (Q_t_8 0) Q_t_8_0 z4)))) := hD
      refine lv_aload_n hx hb dX8_rule_41 rfl (lv_at hl 1 rfl) ?_
      refine lv_iconst (v := 0) hx hb dX8_rule_42 (by decide) ?_
      refine va_put (D := D) (v := .int 0) (C := RX8) (T := TX8) (N := 11) hx hb hts iX8 tyX8 tyX8_ok nmX8 hown hK.1 hP hD hS 0 rfl rfl 1 (by decide) (hts _ t_301) (fun _ h9 => h9) rfl (tyX8_ok 1 (by decide)) rfl rfl (Nat.le_of_ble_eq_true rfl) dX8_rule_43 (fun H locs hP hD hS => ?_)
      have hP : va_P D classes (rc8 a q_t Q_t (sI z_t 1 0) ++ (rb4 a (Q_t 2) 6 B_t_2 ++ (rc4 a (Q_t 8) Q_t_8 z_t_8 ++ (rc6 a (Q_t_8 0) Q_t_8_0 z4)))) H := hP
      have hD : va_D A (rc8 a q_t Q_t (sI z_t 1 0) ++ (rb4 a (Q_t 2) 6 B_t_2 ++ (rc4 a (Q_t 8) Q_t_8 z_t_8 ++ (rc6 a (Q_t_8 0) Q_t_8_0 z4)))) := hD
      refine lv_aload_n hx hb dX8_rule_46 rfl (lv_at hl 1 rfl) ?_
      refine va_get (D := D) (v := .ref (Q_t 8)) (C := RX8) (T := TX8) (N := 11) hx hb hts iX8 hown hK.1 hP 0 rfl rfl 8 (by decide) (hts _ t_308) (fun _ h9 => h9) rfl dX8_rule_47 ?_
      obtain ⟨z6, hc5, h⟩ := bd_some h
      refine cMv (runV (As := []) (rest := []) C (mX4_start l D a (q_t := (Q_t 8)) (Q_t := Q_t_8) hc5 H.size) lk_V_8_105 okN_X4_start ⟨Nat.le_of_ble_eq_true rfl, Nat.le_of_ble_eq_true rfl⟩ ⟨rfl, rfl⟩ (preV (preM hK (P_of_map (wc := rc4 a (Q_t 8) Q_t_8 z_t_8) hP [3, 4, 5, 6, 7] rfl) (hD.sub (ws' := rc4 a (Q_t 8) Q_t_8 z_t_8) [3, 4, 5, 6, 7] (by decide) rfl)) (recvOf hK hP 3 rfl (ci := 4) rfl)) hl.1 rfl (Nat.le_of_ble_eq_true rfl) dX8_rule_50 ⟨Nat.le_of_ble_eq_true rfl, Nat.le_of_ble_eq_true rfl⟩) hP hD hS hA [3, 4, 5, 6, 7] [0, 1, 2, 8, 9, 10, 11] [0, 1, 2, 7, 8, 9, 10, 11, 3, 4, 5, 6] rfl rfl (by decide) (by decide) (fw := rc8 a q_t Q_t (sI z_t 1 0) ++ (rb4 a (Q_t 2) 6 B_t_2 ++ (rc4 a (Q_t 8) Q_t_8 z6 ++ (rc6 a (Q_t_8 0) Q_t_8_0 z4)))) rfl (by decide) (fun H locs hP hD hS => ?_)
      have hP : va_P D classes (rc8 a q_t Q_t (sI z_t 1 0) ++ (rb4 a (Q_t 2) 6 B_t_2 ++ (rc4 a (Q_t 8) Q_t_8 z6 ++ (rc6 a (Q_t_8 0) Q_t_8_0 z4)))) H := hP
      have hD : va_D A (rc8 a q_t Q_t (sI z_t 1 0) ++ (rb4 a (Q_t 2) 6 B_t_2 ++ (rc4 a (Q_t 8) Q_t_8 z6 ++ (rc6 a (Q_t_8 0) Q_t_8_0 z4)))) := hD
      refine lv_iconst (v := 1) hx hb dX8_rule_53 (by decide) ?_
      refine lv_istore_n (lv' := [(2, .int 1), (1, .ref (Q_t_8 0)), (0, .ref q_t)]) hx hb dX8_rule_54 rfl hl (by decide) rfl (fun ls hl => ?_)
      refine lv_iconst (v := 0) hx hb dX8_rule_55 (by decide) ?_
      refine lv_istore_n (lv' := [(3, .int 0), (2, .int 1), (1, .ref (Q_t_8 0)), (0, .ref q_t)]) hx hb dX8_rule_56 rfl hl (by decide) rfl (fun ls hl => ?_)
      refine wX8_rule_fail_57 C hK hA hV ?_ FU (sI z_t 1 0) z6 z4 1 0 _ _ ls h hP hD hS (lv_sub hl [3, 2, 1, 0] rfl)
      · intro z15 z16 z17 H locs ls h hP hD hS hl
        refine lv_aload_n hx hb dX8_rule_85 rfl (lv_at hl 1 rfl) ?_
        refine va_get (D := D) (v := .int (gI z17 8)) (C := RX6) (T := TX6) (N := 9) hx hb hts iX6 hown hK.1 hP 8 rfl rfl 8 (by decide) (hts _ t_221) (fun _ h9 => h9) rfl dX8_rule_86 ?_
        refine lv_if_eq (tgt := 100) hx hb dX8_rule_89 (by decide) (fun c18 => ?_) (fun c18 => ?_)
        · have h := ite_t c18 h
          cases h
        · have h := ite_f c18 h
          refine lv_bipush (v := (-2)) hx hb dX8_rule_92 (by decide) ?_
          refine lv_aload_n hx hb dX8_rule_94 rfl (lv_at hl 1 rfl) ?_
          refine va_get (D := D) (v := .int (gI z17 8)) (C := RX6) (T := TX6) (N := 9) hx hb hts iX6 hown hK.1 hP 8 rfl rfl 8 (by decide) (hts _ t_221) (fun _ h9 => h9) rfl dX8_rule_95 ?_
          refine lv_isub hx hb dX8_rule_98 ?_
          exact rMi C rfl h (g := fun y => rc8 a q_t Q_t y.2.1 ++ (rb4 a (Q_t 2) 6 B_t_2 ++ (rc4 a (Q_t 8) Q_t_8 y.2.2.1 ++ (rc6 a (Q_t_8 0) Q_t_8_0 y.2.2.2)))) (pr := fun y => y.1) hP hD hS dX8_rule_99
    · have h := ite_f c2 h
      refine lv_iconst (v := (-1)) hx hb dX8_rule_19 (by decide) ?_
      exact rMi C rfl h (g := fun y => rc8 a q_t Q_t y.2.1 ++ (rb4 a (Q_t 2) 6 B_t_2 ++ (rc4 a (Q_t 8) Q_t_8 y.2.2.1 ++ (rc6 a (Q_t_8 0) Q_t_8_0 y.2.2.2)))) (pr := fun y => y.1) hP hD hS dX8_rule_20

set_option maxHeartbeats 4000000 in
set_option maxRecDepth 100000 in
theorem wX8_rule_ok_57 {p : Program} {l : Launch} {e : Env} {s : State} {m : MethodId} {below : List Frame} {meth : Method} {c : Code} {D : va_G} {a : Nat → ClassId} {A : Nat → Prop} {adK adV : Nat → Nat} {q_t : Nat} {Q_t : Nat → Nat} {Q_t_8 : Nat → Nat} {Q_t_8_0 : Nat → Nat} {B_t_2 : Nat → Option Nat} (C : Cx p s m #[.ref q_t] meth c MX8_rule) (hK : KK D a s) (hA : ∀ q, s.heap.size ≤ q → A q) (hV : VV adK adV A s s.heap) {y : Int32 × Sx × Sx × Sx} {k85 : Sx → Sx → Sx → Option (Int32 × Sx × Sx × Sx)} (hk85 : ∀ (z_tk : Sx) (z_t_8k : Sx) (z_t_8_0k : Sx) (H : Heap) (locs : List Loc) (ls : Array Slot), k85 z_tk z_t_8k z_t_8_0k = some y → va_P D classes (rc8 a q_t Q_t z_tk ++ (rb4 a (Q_t 2) 6 B_t_2 ++ (rc4 a (Q_t 8) Q_t_8 z_t_8k ++ (rc6 a (Q_t_8 0) Q_t_8_0 z_t_8_0k)))) H → va_D A (rc8 a q_t Q_t z_tk ++ (rb4 a (Q_t 2) 6 B_t_2 ++ (rc4 a (Q_t 8) Q_t_8 z_t_8k ++ (rc6 a (Q_t_8 0) Q_t_8_0 z_t_8_0k)))) → va_S A s.heap H locs → lv_has ls 4 [(0, .ref q_t), (1, .ref (Q_t_8 0))] → W p l e (rmM 39 5 441 892) s m #[.ref q_t] below meth c H locs 0 0 (MQ below (va_Qi (fun r (u : Nat × (Nat → Nat)) => r = y.1) (Bw D A (fun u => rc8 a q_t Q_t y.2.1 ++ (rb4 a (Q_t 2) 6 (va_up B_t_2 (y.1.toNatClampNeg) (some u.1)) ++ (rc4 a (Q_t 8) Q_t_8 y.2.2.1 ++ (rc6 a (Q_t_8 0) Q_t_8_0 y.2.2.2 ++ (rc3 a u.1 u.2 (ruleN y.2.2.1) (ruleZ y.2.2.1))))))) A) #[.ref q_t] s 5 441 A) (F0 m 85 ls [])) : ∀ (n : Nat) (z_t : Sx) (z_t_8 : Sx) (z_t_8_0 : Sx) (x2 : Int32) (x3 : Int32) (H : Heap) (locs : List Loc) (ls : Array Slot), lX8_rule_ok_57 k85 B_t_2 n z_t z_t_8 z_t_8_0 x2 x3 = some y → va_P D classes (rc8 a q_t Q_t z_t ++ (rb4 a (Q_t 2) 6 B_t_2 ++ (rc4 a (Q_t 8) Q_t_8 z_t_8 ++ (rc6 a (Q_t_8 0) Q_t_8_0 z_t_8_0)))) H → va_D A (rc8 a q_t Q_t z_t ++ (rb4 a (Q_t 2) 6 B_t_2 ++ (rc4 a (Q_t 8) Q_t_8 z_t_8 ++ (rc6 a (Q_t_8 0) Q_t_8_0 z_t_8_0)))) → va_S A s.heap H locs → lv_has ls 4 [(0, .ref q_t), (1, .ref (Q_t_8 0)), (2, .int x2), (3, .int x3)] → W p l e (rmM 39 5 441 892) s m #[.ref q_t] below meth c H locs 0 0 (MQ below (va_Qi (fun r (u : Nat × (Nat → Nat)) => r = y.1) (Bw D A (fun u => rc8 a q_t Q_t y.2.1 ++ (rb4 a (Q_t 2) 6 (va_up B_t_2 (y.1.toNatClampNeg) (some u.1)) ++ (rc4 a (Q_t 8) Q_t_8 y.2.2.1 ++ (rc6 a (Q_t_8 0) Q_t_8_0 y.2.2.2 ++ (rc3 a u.1 u.2 (ruleN y.2.2.1) (ruleZ y.2.2.1))))))) A) #[.ref q_t] s 5 441 A) (F0 m 57 ls []) := by
  obtain ⟨hx, hb, hml, hown, hts, hr, hlocks, hnm⟩ := id C
  have hb : c.code = cX8_rule := hb
  have hown : s.vm.findClass RX8 = some m.cls := hown
  intro n
  induction n with
  | zero => intro z_t z_t_8 z_t_8_0 x2 x3 H locs ls h; rw [lX8_rule_ok_57] at h; cases h
  | succ n ih =>
    intro z_t z_t_8 z_t_8_0 x2 x3 H locs ls h hP hD hS hl
    rw [lX8_rule_ok_57] at h
    refine lv_iload_n hx hb dX8_rule_57 rfl (lv_at hl 2 rfl) ?_
    refine lv_if_eq (tgt := 85) hx hb dX8_rule_58 (by decide) (fun c7 => ?_) (fun c7 => ?_)
    · have h := ite_t c7 h
      exact hk85 z_t z_t_8 z_t_8_0 _ _ ls h hP hD hS (lv_sub hl [0, 1] rfl)
    · have h := ite_f c7 h
      refine lv_iload_n hx hb dX8_rule_61 rfl (lv_at hl 3 rfl) ?_
      refine lv_bipush (v := 12) hx hb dX8_rule_62 (by decide) ?_
      refine lv_icmp_gt (tgt := 85) hx hb dX8_rule_64 (by decide) (fun c8 => ?_) (fun c8 => ?_)
      · have h := ite_t c8 h
        exact hk85 z_t z_t_8 z_t_8_0 _ _ ls h hP hD hS (lv_sub hl [0, 1] rfl)
      · have h := ite_f c8 h
        refine lv_aload_n hx hb dX8_rule_67 rfl (lv_at hl 0 rfl) ?_
        refine va_get (D := D) (v := .ref (Q_t 8)) (C := RX8) (T := TX8) (N := 11) hx hb hts iX8 hown hK.1 hP 0 rfl rfl 8 (by decide) (hts _ t_308) (fun _ h9 => h9) rfl dX8_rule_68 ?_
        obtain ⟨z10, z11, hc9, h⟩ := bd2_some h
        refine cMv (runV (As := []) (rest := []) C (mX4_readClause l D a (q_t := (Q_t 8)) (Q_t := Q_t_8) (Q_t_0 := Q_t_8_0) hc9 H.size) lk_V_8_108 okN_X4_readClause ⟨Nat.le_of_ble_eq_true rfl, Nat.le_of_ble_eq_true rfl⟩ ⟨rfl, rfl⟩ (preV (preM hK (P_of_map (wc := rc4 a (Q_t 8) Q_t_8 z_t_8 ++ (rc6 a (Q_t_8 0) Q_t_8_0 z_t_8_0)) hP [3, 4, 5, 6, 7, 8, 9, 10, 11] rfl) (hD.sub (ws' := rc4 a (Q_t 8) Q_t_8 z_t_8 ++ (rc6 a (Q_t_8 0) Q_t_8_0 z_t_8_0)) [3, 4, 5, 6, 7, 8, 9, 10, 11] (by decide) rfl)) (recvOf hK hP 3 rfl (ci := 4) rfl)) hl.1 rfl (Nat.le_of_ble_eq_true rfl) dX8_rule_71 ⟨Nat.le_of_ble_eq_true rfl, Nat.le_of_ble_eq_true rfl⟩) hP hD hS hA [3, 4, 5, 6, 7, 8, 9, 10, 11] [0, 1, 2] [0, 1, 2, 3, 4, 5, 6, 7, 8, 9, 10, 11] rfl rfl (by decide) (by decide) (fw := rc8 a q_t Q_t z_t ++ (rb4 a (Q_t 2) 6 B_t_2 ++ (rc4 a (Q_t 8) Q_t_8 z10 ++ (rc6 a (Q_t_8 0) Q_t_8_0 z11)))) rfl (by decide) (fun H locs hP hD hS => ?_)
        have hP : va_P D classes (rc8 a q_t Q_t z_t ++ (rb4 a (Q_t 2) 6 B_t_2 ++ (rc4 a (Q_t 8) Q_t_8 z10 ++ (rc6 a (Q_t_8 0) Q_t_8_0 z11)))) H := hP
        have hD : va_D A (rc8 a q_t Q_t z_t ++ (rb4 a (Q_t 2) 6 B_t_2 ++ (rc4 a (Q_t 8) Q_t_8 z10 ++ (rc6 a (Q_t_8 0) Q_t_8_0 z11)))) := hD
        refine lv_aload_n hx hb dX8_rule_74 rfl (lv_at hl 1 rfl) ?_
        obtain ⟨r13, z14, hc12, h⟩ := bd2_some h
        refine cMi (runV (As := []) (rest := []) C (mX6_anotherClause l D a (q_t := (Q_t_8 0)) (Q_t := Q_t_8_0) hc12 H.size) lk_V_8_111 okN_X6_anotherClause ⟨Nat.le_of_ble_eq_true rfl, Nat.le_of_ble_eq_true rfl⟩ ⟨rfl, rfl⟩ (preV (preM hK (P_of_map (wc := rc6 a (Q_t_8 0) Q_t_8_0 z11) hP [8, 9, 10, 11] rfl) (hD.sub (ws' := rc6 a (Q_t_8 0) Q_t_8_0 z11) [8, 9, 10, 11] (by decide) rfl)) (recvOf hK hP 8 rfl (ci := 6) rfl)) hl.1 rfl (Nat.le_of_ble_eq_true rfl) dX8_rule_75 ⟨Nat.le_of_ble_eq_true rfl, Nat.le_of_ble_eq_true rfl⟩) hP hD hS hA [8, 9, 10, 11] [0, 1, 2, 3, 4, 5, 6, 7] [0, 1, 2, 3, 4, 5, 6, 7, 8, 9, 10, 11] rfl rfl (by decide) (by decide) (fw := rc8 a q_t Q_t z_t ++ (rb4 a (Q_t 2) 6 B_t_2 ++ (rc4 a (Q_t 8) Q_t_8 z10 ++ (rc6 a (Q_t_8 0) Q_t_8_0 z14)))) rfl (by decide) (fun H locs hP hD hS => ?_)
        have hP : va_P D classes (rc8 a q_t Q_t z_t ++ (rb4 a (Q_t 2) 6 B_t_2 ++ (rc4 a (Q_t 8) Q_t_8 z10 ++ (rc6 a (Q_t_8 0) Q_t_8_0 z14)))) H := hP
        have hD : va_D A (rc8 a q_t Q_t z_t ++ (rb4 a (Q_t 2) 6 B_t_2 ++ (rc4 a (Q_t 8) Q_t_8 z10 ++ (rc6 a (Q_t_8 0) Q_t_8_0 z14)))) := hD
        refine lv_istore_n (lv' := [(2, .int r13), (0, .ref q_t), (1, .ref (Q_t_8 0)), (3, .int x3)]) hx hb dX8_rule_78 rfl hl (by decide) rfl (fun ls hl => ?_)
        refine lv_iinc (v := x3 + 1) (lv' := [(3, .int (x3 + 1)), (2, .int r13), (0, .ref q_t), (1, .ref (Q_t_8 0))]) hx hb dX8_rule_79 hl (k := 3) rfl rfl (by decide) rfl (fun ls hl => ?_)
        refine lv_goto (tgt := 57) hx hb dX8_rule_82 (by decide) ?_
        exact ih z_t z10 z14 r13 (x3 + 1) _ _ ls h hP hD hS (lv_sub hl [2, 3, 1, 0] rfl)

set_option maxHeartbeats 4000000 in
set_option maxRecDepth 100000 in
theorem mX8_rule_ok (l : Launch) (D : va_G) (a : Nat → ClassId) {adK adV : Nat → Nat} {q_t : Nat} {Q_t : Nat → Nat} {z_t : Sx} {B_t_2 : Nat → Option Nat} {Q_t_8 : Nat → Nat} {z_t_8 : Sx} {Q_t_8_0 : Nat → Nat} {z_t_8_0 : Sx} {y : Int32 × Sx × Sx × Sx} (h : fX8_rule_ok z_t B_t_2 z_t_8 z_t_8_0 = some y) (sz : Nat) : CMsi (S := Nat × (Nat → Nat)) l MX8_rule 39 892 5 441 D a adK adV [.ref q_t] (rc8 a q_t Q_t z_t ++ (rb4 a (Q_t 2) 6 B_t_2 ++ (rc4 a (Q_t 8) Q_t_8 z_t_8 ++ (rc6 a (Q_t_8 0) Q_t_8_0 z_t_8_0)))) sz (fun r u => r = y.1) (fun u => rc8 a q_t Q_t y.2.1 ++ (rb4 a (Q_t 2) 6 (va_up B_t_2 (y.1.toNatClampNeg) (some u.1)) ++ (rc4 a (Q_t 8) Q_t_8 y.2.2.1 ++ (rc6 a (Q_t_8 0) Q_t_8_0 y.2.2.2 ++ (rc3 a u.1 u.2 (ruleN y.2.2.1) (ruleZ y.2.2.1)))))) := by
  unfold fX8_rule_ok at h
  refine entMsi (by decide) (Nat.le_of_ble_eq_true rfl) ?_
  intro p e s m below meth c C hK A hA hP hD hV ls hl
  obtain ⟨hx, hb, hml, hown, hts, hr, hlocks, hnm⟩ := id C
  have hb : c.code = cX8_rule := hb
  have hown : s.vm.findClass RX8 = some m.cls := hown
  have hS : va_S A s.heap s.heap [] := va_S.rf
  have hl : lv_has ls 4 [(0, .ref q_t)] := hl
  refine lv_aload_n hx hb dX8_rule_0 rfl (lv_at hl 0 rfl) ?_
  refine va_get (D := D) (v := .int (gI z_t 3)) (C := RX8) (T := TX8) (N := 11) hx hb hts iX8 hown hK.1 hP 0 rfl rfl 3 (by decide) (hts _ t_303) (fun _ h9 => h9) rfl dX8_rule_1 ?_
  refine lv_if_lt (tgt := 19) hx hb dX8_rule_4 (by decide) (fun c1 => ?_) (fun c1 => ?_)
  · have h := ite_t c1 h
    cases h
  · have h := ite_f c1 h
    refine lv_aload_n hx hb dX8_rule_7 rfl (lv_at hl 0 rfl) ?_
    refine va_get (D := D) (v := .int (gI z_t 3)) (C := RX8) (T := TX8) (N := 11) hx hb hts iX8 hown hK.1 hP 0 rfl rfl 3 (by decide) (hts _ t_303) (fun _ h9 => h9) rfl dX8_rule_8 ?_
    refine lv_aload_n hx hb dX8_rule_11 rfl (lv_at hl 0 rfl) ?_
    refine va_get (D := D) (v := .ref (Q_t 2)) (C := RX8) (T := TX8) (N := 11) hx hb hts iX8 hown hK.1 hP 0 rfl rfl 2 (by decide) (hts _ t_302) (fun _ h9 => h9) rfl dX8_rule_12 ?_
    refine va_alen (v := 6) hx hb hK.1 hP 2 4 rfl rfl rfl dX8_rule_15 ?_
    refine lv_icmp_lt (tgt := 21) hx hb dX8_rule_16 (by decide) (fun c2 => ?_) (fun c2 => ?_)
    · have h := ite_t c2 h
      refine lv_aload_n hx hb dX8_rule_21 rfl (lv_at hl 0 rfl) ?_
      refine va_get (D := D) (v := .ref (Q_t 8)) (C := RX8) (T := TX8) (N := 11) hx hb hts iX8 hown hK.1 hP 0 rfl rfl 8 (by decide) (hts _ t_308) (fun _ h9 => h9) rfl dX8_rule_22 ?_
      refine va_get (D := D) (v := .ref (Q_t_8 0)) (C := RX4) (T := TX4) (N := 8) hx hb hts iX4 hown hK.1 hP 3 rfl rfl 0 (by decide) (hts _ t_243) (fun _ h9 => h9) rfl dX8_rule_25 ?_
      refine lv_astore_n (lv' := [(1, .ref (Q_t_8 0)), (0, .ref q_t)]) hx hb dX8_rule_28 rfl hl (by decide) rfl (fun ls hl => ?_)
      refine lv_aload_n hx hb dX8_rule_29 rfl (lv_at hl 0 rfl) ?_
      refine lv_aload_n hx hb dX8_rule_30 rfl (lv_at hl 1 rfl) ?_
      refine va_get (D := D) (v := .ref (Q_t 0)) (C := RX8) (T := TX8) (N := 11) hx hb hts iX8 hown hK.1 hP 0 rfl rfl 0 (by decide) (hts _ t_300) (fun _ h9 => h9) rfl dX8_rule_31 ?_
      refine lv_aload_n hx hb dX8_rule_34 rfl (lv_at hl 1 rfl) ?_
      refine va_get (D := D) (v := .int (gI z_t 1)) (C := RX8) (T := TX8) (N := 11) hx hb hts iX8 hown hK.1 hP 0 rfl rfl 1 (by decide) (hts _ t_301) (fun _ h9 => h9) rfl dX8_rule_35 ?_
      obtain ⟨z4, hc3, h⟩ := bd_some h
      refine cMv (runV (As := [.ref (Q_t 0), .int (gI z_t 1)]) (rest := []) C (mX6_open l D a (q_t := (Q_t_8 0)) (q_p1 := (Q_t 0)) (Q_t := Q_t_8_0) hc3 s.heap.size) lk_V_8_86 okN_X6_open ⟨Nat.le_of_ble_eq_true rfl, Nat.le_of_ble_eq_true rfl⟩ ⟨rfl, rfl⟩ (preV (preMs hK (P_of_map (wc := rc6 a (Q_t_8 0) Q_t_8_0 z_t_8_0 ++ (ra0 a (Q_t 0) 400 (gT z_t 0))) hP [8, 9, 10, 11, 1] rfl) (hD.sub (ws' := rc6 a (Q_t_8 0) Q_t_8_0 z_t_8_0 ++ (ra0 a (Q_t 0) 400 (gT z_t 0))) [8, 9, 10, 11, 1] (by decide) rfl) ((hV.kept hS.2.1).narrow (va_free (wc := rc6 a (Q_t_8 0) Q_t_8_0 z_t_8_0 ++ (ra0 a (Q_t 0) 400 (gT z_t 0))) hD hS hA [8, 9, 10, 11, 1] rfl))) (recvOf hK hP 8 rfl (ci := 6) rfl)) hl.1 rfl (Nat.le_of_ble_eq_true rfl) dX8_rule_38 ⟨Nat.le_of_ble_eq_true rfl, Nat.le_of_ble_eq_true rfl⟩) hP hD hS hA [8, 9, 10, 11, 1] [0, 2, 3, 4, 5, 6, 7] [0, 11, 1, 2, 3, 4, 5, 6, 7, 8, 9, 10] rfl rfl (by decide) (by decide) (fw := rc8 a q_t Q_t z_t ++ (rb4 a (Q_t 2) 6 B_t_2 ++ (rc4 a (Q_t 8) Q_t_8 z_t_8 ++ (rc6 a (Q_t_8 0) Q_t_8_0 z4)))) rfl (by decide) (fun H locs hP hD hS => ?_)
      have hP : va_P D classes (rc8 a q_t Q_t z_t ++ (rb4 a (Q_t 2) 6 B_t_2 ++ (rc4 a (Q_t 8) Q_t_8 z_t_8 ++ (rc6 a (Q_t_8 0) Q_t_8_0 z4)))) H := hP
      have hD : va_D A (rc8 a q_t Q_t z_t ++ (rb4 a (Q_t 2) 6 B_t_2 ++ (rc4 a (Q_t 8) Q_t_8 z_t_8 ++ (rc6 a (Q_t_8 0) Q_t_8_0 z4)))) := hD
      refine lv_aload_n hx hb dX8_rule_41 rfl (lv_at hl 1 rfl) ?_
      refine lv_iconst (v := 0) hx hb dX8_rule_42 (by decide) ?_
      refine va_put (D := D) (v := .int 0) (C := RX8) (T := TX8) (N := 11) hx hb hts iX8 tyX8 tyX8_ok nmX8 hown hK.1 hP hD hS 0 rfl rfl 1 (by decide) (hts _ t_301) (fun _ h9 => h9) rfl (tyX8_ok 1 (by decide)) rfl rfl (Nat.le_of_ble_eq_true rfl) dX8_rule_43 (fun H locs hP hD hS => ?_)
      have hP : va_P D classes (rc8 a q_t Q_t (sI z_t 1 0) ++ (rb4 a (Q_t 2) 6 B_t_2 ++ (rc4 a (Q_t 8) Q_t_8 z_t_8 ++ (rc6 a (Q_t_8 0) Q_t_8_0 z4)))) H := hP
      have hD : va_D A (rc8 a q_t Q_t (sI z_t 1 0) ++ (rb4 a (Q_t 2) 6 B_t_2 ++ (rc4 a (Q_t 8) Q_t_8 z_t_8 ++ (rc6 a (Q_t_8 0) Q_t_8_0 z4)))) := hD
      refine lv_aload_n hx hb dX8_rule_46 rfl (lv_at hl 1 rfl) ?_
      refine va_get (D := D) (v := .ref (Q_t 8)) (C := RX8) (T := TX8) (N := 11) hx hb hts iX8 hown hK.1 hP 0 rfl rfl 8 (by decide) (hts _ t_308) (fun _ h9 => h9) rfl dX8_rule_47 ?_
      obtain ⟨z6, hc5, h⟩ := bd_some h
      refine cMv (runV (As := []) (rest := []) C (mX4_start l D a (q_t := (Q_t 8)) (Q_t := Q_t_8) hc5 H.size) lk_V_8_105 okN_X4_start ⟨Nat.le_of_ble_eq_true rfl, Nat.le_of_ble_eq_true rfl⟩ ⟨rfl, rfl⟩ (preV (preM hK (P_of_map (wc := rc4 a (Q_t 8) Q_t_8 z_t_8) hP [3, 4, 5, 6, 7] rfl) (hD.sub (ws' := rc4 a (Q_t 8) Q_t_8 z_t_8) [3, 4, 5, 6, 7] (by decide) rfl)) (recvOf hK hP 3 rfl (ci := 4) rfl)) hl.1 rfl (Nat.le_of_ble_eq_true rfl) dX8_rule_50 ⟨Nat.le_of_ble_eq_true rfl, Nat.le_of_ble_eq_true rfl⟩) hP hD hS hA [3, 4, 5, 6, 7] [0, 1, 2, 8, 9, 10, 11] [0, 1, 2, 7, 8, 9, 10, 11, 3, 4, 5, 6] rfl rfl (by decide) (by decide) (fw := rc8 a q_t Q_t (sI z_t 1 0) ++ (rb4 a (Q_t 2) 6 B_t_2 ++ (rc4 a (Q_t 8) Q_t_8 z6 ++ (rc6 a (Q_t_8 0) Q_t_8_0 z4)))) rfl (by decide) (fun H locs hP hD hS => ?_)
      have hP : va_P D classes (rc8 a q_t Q_t (sI z_t 1 0) ++ (rb4 a (Q_t 2) 6 B_t_2 ++ (rc4 a (Q_t 8) Q_t_8 z6 ++ (rc6 a (Q_t_8 0) Q_t_8_0 z4)))) H := hP
      have hD : va_D A (rc8 a q_t Q_t (sI z_t 1 0) ++ (rb4 a (Q_t 2) 6 B_t_2 ++ (rc4 a (Q_t 8) Q_t_8 z6 ++ (rc6 a (Q_t_8 0) Q_t_8_0 z4)))) := hD
      refine lv_iconst (v := 1) hx hb dX8_rule_53 (by decide) ?_
      refine lv_istore_n (lv' := [(2, .int 1), (1, .ref (Q_t_8 0)), (0, .ref q_t)]) hx hb dX8_rule_54 rfl hl (by decide) rfl (fun ls hl => ?_)
      refine lv_iconst (v := 0) hx hb dX8_rule_55 (by decide) ?_
      refine lv_istore_n (lv' := [(3, .int 0), (2, .int 1), (1, .ref (Q_t_8 0)), (0, .ref q_t)]) hx hb dX8_rule_56 rfl hl (by decide) rfl (fun ls hl => ?_)
      refine wX8_rule_ok_57 C hK hA hV ?_ FU (sI z_t 1 0) z6 z4 1 0 _ _ ls h hP hD hS (lv_sub hl [3, 2, 1, 0] rfl)
      · intro z15 z16 z17 H locs ls h hP hD hS hl
        refine lv_aload_n hx hb dX8_rule_85 rfl (lv_at hl 1 rfl) ?_
        refine va_get (D := D) (v := .int (gI z17 8)) (C := RX6) (T := TX6) (N := 9) hx hb hts iX6 hown hK.1 hP 8 rfl rfl 8 (by decide) (hts _ t_221) (fun _ h9 => h9) rfl dX8_rule_86 ?_
        refine lv_if_eq (tgt := 100) hx hb dX8_rule_89 (by decide) (fun c18 => ?_) (fun c18 => ?_)
        · have h := ite_t c18 h
          refine lv_aload_n hx hb dX8_rule_100 rfl (lv_at hl 0 rfl) ?_
          refine va_get (D := D) (v := .ref (Q_t 2)) (C := RX8) (T := TX8) (N := 11) hx hb hts iX8 hown hK.1 hP 0 rfl rfl 2 (by decide) (hts _ t_302) (fun _ h9 => h9) rfl dX8_rule_101 ?_
          refine lv_aload_n hx hb dX8_rule_104 rfl (lv_at hl 0 rfl) ?_
          refine va_get (D := D) (v := .int (gI z15 3)) (C := RX8) (T := TX8) (N := 11) hx hb hts iX8 hown hK.1 hP 0 rfl rfl 3 (by decide) (hts _ t_303) (fun _ h9 => h9) rfl dX8_rule_105 ?_
          refine lv_aload_n hx hb dX8_rule_108 rfl (lv_at hl 0 rfl) ?_
          refine va_get (D := D) (v := .ref (Q_t 8)) (C := RX8) (T := TX8) (N := 11) hx hb hts iX8 hown hK.1 hP 0 rfl rfl 8 (by decide) (hts _ t_308) (fun _ h9 => h9) rfl dX8_rule_109 ?_
          refine cNq (runV (As := []) (rest := [.int (gI z15 3), .ref (Q_t 2)]) C (mX4_makeRule l D a H.size) lk_V_8_115 okN_X4_makeRule ⟨Nat.le_of_ble_eq_true rfl, Nat.le_of_ble_eq_true rfl⟩ ⟨rfl, rfl⟩ (preV (preM hK (P_of_map (wc := rc4 a (Q_t 8) Q_t_8 z16) hP [3, 4, 5, 6, 7] rfl) (hD.sub (ws' := rc4 a (Q_t 8) Q_t_8 z16) [3, 4, 5, 6, 7] (by decide) rfl)) (recvOf hK hP 3 rfl (ci := 4) rfl)) hl.1 rfl (Nat.le_of_ble_eq_true rfl) dX8_rule_112 ⟨Nat.le_of_ble_eq_true rfl, Nat.le_of_ble_eq_true rfl⟩) hP hD hS hA [3, 4, 5, 6, 7] [0, 1, 2, 8, 9, 10, 11] [0, 1, 2, 7, 8, 9, 10, 11, 3, 4, 5, 6, 12, 13, 14, 15, 16] rfl rfl (by decide) (by decide) (fw := fun u => rc8 a q_t Q_t z15 ++ (rb4 a (Q_t 2) 6 B_t_2 ++ (rc4 a (Q_t 8) Q_t_8 z16 ++ (rc6 a (Q_t_8 0) Q_t_8_0 z17 ++ (rc3 a u.1 u.2 (ruleN z16) (ruleZ z16)))))) (fun _ => rfl) (by decide) (fun u H locs hP hD hS => ?_)
          obtain ⟨q_N, Q_N⟩ := u
          have hP : va_P D classes (rc8 a q_t Q_t z15 ++ (rb4 a (Q_t 2) 6 B_t_2 ++ (rc4 a (Q_t 8) Q_t_8 z16 ++ (rc6 a (Q_t_8 0) Q_t_8_0 z17 ++ (rc3 a q_N Q_N (ruleN z16) (ruleZ z16)))))) H := hP
          have hD : va_D A (rc8 a q_t Q_t z15 ++ (rb4 a (Q_t 2) 6 B_t_2 ++ (rc4 a (Q_t 8) Q_t_8 z16 ++ (rc6 a (Q_t_8 0) Q_t_8_0 z17 ++ (rc3 a q_N Q_N (ruleN z16) (ruleZ z16)))))) := hD
          refine W.cs (cells' := 5) (slots' := 441) rfl rfl ?_
          obtain ⟨g19, h⟩ := gd_some h
          refine ast_q hx hb hK.1 hP hD hS 2 4 12 3 rfl rfl rfl rfl ((gI z15 3).toNatClampNeg) (ix_g g19) dX8_rule_115 (fun H locs hP hD hS => ?_)
          have hP : va_P D classes (rc8 a q_t Q_t z15 ++ (rb4 a (Q_t 2) 6 (va_up B_t_2 ((gI z15 3).toNatClampNeg) (some q_N)) ++ (rc4 a (Q_t 8) Q_t_8 z16 ++ (rc6 a (Q_t_8 0) Q_t_8_0 z17 ++ (rc3 a q_N Q_N (ruleN z16) (ruleZ z16)))))) H := hP
          have hD : va_D A (rc8 a q_t Q_t z15 ++ (rb4 a (Q_t 2) 6 (va_up B_t_2 ((gI z15 3).toNatClampNeg) (some q_N)) ++ (rc4 a (Q_t 8) Q_t_8 z16 ++ (rc6 a (Q_t_8 0) Q_t_8_0 z17 ++ (rc3 a q_N Q_N (ruleN z16) (ruleZ z16)))))) := hD
          refine lv_aload_n hx hb dX8_rule_116 rfl (lv_at hl 0 rfl) ?_
          refine lv_dup hx hb dX8_rule_117 rfl ?_
          refine va_get (D := D) (v := .int (gI z15 3)) (C := RX8) (T := TX8) (N := 11) hx hb hts iX8 hown hK.1 hP 0 rfl rfl 3 (by decide) (hts _ t_303) (fun _ h9 => h9) rfl dX8_rule_118 ?_
          refine lv_iconst (v := 1) hx hb dX8_rule_121 (by decide) ?_
          refine lv_iadd hx hb dX8_rule_122 ?_
          refine va_put (D := D) (v := .int ((gI z15 3) + 1)) (C := RX8) (T := TX8) (N := 11) hx hb hts iX8 tyX8 tyX8_ok nmX8 hown hK.1 hP hD hS 0 rfl rfl 3 (by decide) (hts _ t_303) (fun _ h9 => h9) rfl (tyX8_ok 3 (by decide)) rfl rfl (Nat.le_of_ble_eq_true rfl) dX8_rule_123 (fun H locs hP hD hS => ?_)
          have hP : va_P D classes (rc8 a q_t Q_t (sI z15 3 ((gI z15 3) + 1)) ++ (rb4 a (Q_t 2) 6 (va_up B_t_2 ((gI z15 3).toNatClampNeg) (some q_N)) ++ (rc4 a (Q_t 8) Q_t_8 z16 ++ (rc6 a (Q_t_8 0) Q_t_8_0 z17 ++ (rc3 a q_N Q_N (ruleN z16) (ruleZ z16)))))) H := hP
          have hD : va_D A (rc8 a q_t Q_t (sI z15 3 ((gI z15 3) + 1)) ++ (rb4 a (Q_t 2) 6 (va_up B_t_2 ((gI z15 3).toNatClampNeg) (some q_N)) ++ (rc4 a (Q_t 8) Q_t_8 z16 ++ (rc6 a (Q_t_8 0) Q_t_8_0 z17 ++ (rc3 a q_N Q_N (ruleN z16) (ruleZ z16)))))) := hD
          refine lv_aload_n hx hb dX8_rule_126 rfl (lv_at hl 0 rfl) ?_
          refine va_get (D := D) (v := .int ((gI z15 3) + 1)) (C := RX8) (T := TX8) (N := 11) hx hb hts iX8 hown hK.1 hP 0 rfl rfl 3 (by decide) (hts _ t_303) (fun _ h9 => h9) rfl dX8_rule_127 ?_
          refine lv_iconst (v := 1) hx hb dX8_rule_130 (by decide) ?_
          refine lv_isub hx hb dX8_rule_131 ?_
          cases h
          have hP : va_P D classes (rc8 a q_t Q_t (sI z15 3 ((gI z15 3) + 1)) ++ (rb4 a (Q_t 2) 6 (va_up B_t_2 ((((gI z15 3) + 1) - 1).toNatClampNeg) (some q_N)) ++ (rc4 a (Q_t 8) Q_t_8 z16 ++ (rc6 a (Q_t_8 0) Q_t_8_0 z17 ++ (rc3 a q_N Q_N (ruleN z16) (ruleZ z16)))))) H := by rw [Int32.add_sub_cancel]; exact hP
          have hD : va_D A (rc8 a q_t Q_t (sI z15 3 ((gI z15 3) + 1)) ++ (rb4 a (Q_t 2) 6 (va_up B_t_2 ((((gI z15 3) + 1) - 1).toNatClampNeg) (some q_N)) ++ (rc4 a (Q_t 8) Q_t_8 z16 ++ (rc6 a (Q_t_8 0) Q_t_8_0 z17 ++ (rc3 a q_N Q_N (ruleN z16) (ruleZ z16)))))) := by rw [Int32.add_sub_cancel]; exact hD
          exact retMi C rfl (q_N, Q_N) rfl hP hD hS (Nat.le_of_ble_eq_true rfl) (Nat.le_of_ble_eq_true rfl) dX8_rule_132
        · have h := ite_f c18 h
          cases h
    · have h := ite_f c2 h
      cases h

set_option maxHeartbeats 4000000 in
set_option maxRecDepth 100000 in
theorem mX8_seed (l : Launch) (D : va_G) (a : Nat → ClassId) {q_t : Nat} {Q_t : Nat → Nat} {z_t : Sx} {Q_t_5 : Nat → Nat} {z_t_5 : Sx} {Q_t_5_1 : Nat → Nat} {z_t_5_1 : Sx} {x1 : Int32} {y : Int32 × Sx} (h : fX8_seed z_t z_t_5 z_t_5_1 x1 = some y) (sz : Nat) : CMi (S := Unit) l MX8_seed 0 0 0 0 D a [.ref q_t, .int x1] (rc8 a q_t Q_t z_t ++ (rc5 a (Q_t 5) Q_t_5 z_t_5 ++ (rc0 a (Q_t_5 1) Q_t_5_1 z_t_5_1))) sz (fun r _ => r = y.1) (fun _ => rc8 a q_t Q_t z_t ++ (rc5 a (Q_t 5) Q_t_5 z_t_5 ++ (rc0 a (Q_t_5 1) Q_t_5_1 y.2))) := by
  unfold fX8_seed at h
  refine entMi (by decide) (Nat.le_of_ble_eq_true rfl) ?_
  intro p e s m below meth c C hK A hA hP hD ls hl
  obtain ⟨hx, hb, hml, hown, hts, hr, hlocks, hnm⟩ := id C
  have hb : c.code = cX8_seed := hb
  have hown : s.vm.findClass RX8 = some m.cls := hown
  have hS : va_S A s.heap s.heap [] := va_S.rf
  have hl : lv_has ls 3 [(0, .ref q_t), (1, .int x1)] := hl
  refine lv_iload_n hx hb dX8_seed_0 rfl (lv_at hl 1 rfl) ?_
  refine lv_if_ge (tgt := 6) hx hb dX8_seed_1 (by decide) (fun c1 => ?_) (fun c1 => ?_)
  · have h := ite_t c1 h
    refine lv_aload_n hx hb dX8_seed_6 rfl (lv_at hl 0 rfl) ?_
    refine va_get (D := D) (v := .ref (Q_t 5)) (C := RX8) (T := TX8) (N := 11) hx hb hts iX8 hown hK.1 hP 0 rfl rfl 5 (by decide) (hts _ t_305) (fun _ h9 => h9) rfl dX8_seed_7 ?_
    refine va_get (D := D) (v := .ref (Q_t_5 1)) (C := RX5) (T := TX5) (N := 8) hx hb hts iX5 hown hK.1 hP 2 rfl rfl 1 (by decide) (hts _ t_163) (fun _ h9 => h9) rfl dX8_seed_10 ?_
    refine va_get (D := D) (v := .int (gI z_t_5_1 4)) (C := RX0) (T := TX0) (N := 6) hx hb hts iX0 hown hK.1 hP 5 rfl rfl 4 (by decide) (hts _ t_143) (fun _ h9 => h9) rfl dX8_seed_13 ?_
    refine lv_istore_n (lv' := [(2, .int (gI z_t_5_1 4)), (0, .ref q_t), (1, .int x1)]) hx hb dX8_seed_16 rfl hl (by decide) rfl (fun ls hl => ?_)
    refine lv_aload_n hx hb dX8_seed_17 rfl (lv_at hl 1 rfl) ?_
    refine va_get (D := D) (v := .ref (Q_t 5)) (C := RX8) (T := TX8) (N := 11) hx hb hts iX8 hown hK.1 hP 0 rfl rfl 5 (by decide) (hts _ t_305) (fun _ h9 => h9) rfl dX8_seed_18 ?_
    refine va_get (D := D) (v := .ref (Q_t_5 1)) (C := RX5) (T := TX5) (N := 8) hx hb hts iX5 hown hK.1 hP 2 rfl rfl 1 (by decide) (hts _ t_163) (fun _ h9 => h9) rfl dX8_seed_21 ?_
    refine lv_iload_n hx hb dX8_seed_24 rfl (lv_at hl 2 rfl) ?_
    refine va_put (D := D) (v := .int x1) (C := RX0) (T := TX0) (N := 6) hx hb hts iX0 tyX0 tyX0_ok nmX0 hown hK.1 hP hD hS 5 rfl rfl 4 (by decide) (hts _ t_143) (fun _ h9 => h9) rfl (tyX0_ok 4 (by decide)) rfl rfl (Nat.le_of_ble_eq_true rfl) dX8_seed_25 (fun H locs hP hD hS => ?_)
    have hP : va_P D classes (rc8 a q_t Q_t z_t ++ (rc5 a (Q_t 5) Q_t_5 z_t_5 ++ (rc0 a (Q_t_5 1) Q_t_5_1 (sI z_t_5_1 4 x1)))) H := hP
    have hD : va_D A (rc8 a q_t Q_t z_t ++ (rc5 a (Q_t 5) Q_t_5 z_t_5 ++ (rc0 a (Q_t_5 1) Q_t_5_1 (sI z_t_5_1 4 x1)))) := hD
    refine lv_iload_n hx hb dX8_seed_28 rfl (lv_at hl 0 rfl) ?_
    exact rMi C rfl h (g := fun y => rc8 a q_t Q_t z_t ++ (rc5 a (Q_t 5) Q_t_5 z_t_5 ++ (rc0 a (Q_t_5 1) Q_t_5_1 y.2))) (pr := fun y => y.1) hP hD hS dX8_seed_29
  · have h := ite_f c1 h
    refine lv_iconst (v := (-1)) hx hb dX8_seed_4 (by decide) ?_
    exact rMi C rfl h (g := fun y => rc8 a q_t Q_t z_t ++ (rc5 a (Q_t 5) Q_t_5 z_t_5 ++ (rc0 a (Q_t_5 1) Q_t_5_1 y.2))) (pr := fun y => y.1) hP hD hS dX8_seed_5

set_option maxHeartbeats 4000000 in
set_option maxRecDepth 100000 in
theorem mX8_seen (l : Launch) (D : va_G) (a : Nat → ClassId) {q_t : Nat} {Q_t : Nat → Nat} {z_t : Sx} {Q_t_5 : Nat → Nat} {z_t_5 : Sx} {Q_t_5_0 : Nat → Nat} {z_t_5_0 : Sx} {Q_t_5_1 : Nat → Nat} {z_t_5_1 : Sx} {x1 : Int32} {x2 : Int32} {y : Int64} (h : fX8_seen z_t z_t_5 z_t_5_0 z_t_5_1 x1 x2 = some y) : CRl l MX8_seen 18 567 D a [.ref q_t, .int x1, .int x2] (rc8 a q_t Q_t z_t ++ (rc5 a (Q_t 5) Q_t_5 z_t_5 ++ (rc7 a (Q_t_5 0) Q_t_5_0 z_t_5_0 ++ (rc0 a (Q_t_5 1) Q_t_5_1 z_t_5_1)))) (fun r => r = y) := by
  unfold fX8_seen at h
  refine entR (by decide) (Nat.le_of_ble_eq_true rfl) ?_
  intro p e s m below meth c C hK hP ls hl
  obtain ⟨hx, hb, hml, hown, hts, hr, hlocks, hnm⟩ := id C
  have hb : c.code = cX8_seen := hb
  have hown : s.vm.findClass RX8 = some m.cls := hown
  have hl : lv_has ls 5 [(0, .ref q_t), (1, .int x1), (2, .int x2)] := hl
  refine lv_aload_n hx hb dX8_seen_0 rfl (lv_at hl 0 rfl) ?_
  refine lv_iload_n hx hb dX8_seen_1 rfl (lv_at hl 1 rfl) ?_
  obtain ⟨r2, hc1, h⟩ := bd_some h
  refine cRi (runV (As := [.int x1]) (rest := []) C (mX8_isFault l D a (q_t := q_t) (Q_t := Q_t) (Q_t_5 := Q_t_5) (Q_t_5_0 := Q_t_5_0) hc1) lk_V_8_139 okN_X8_isFault ⟨Nat.le_of_ble_eq_true rfl, Nat.le_of_ble_eq_true rfl⟩ ⟨rfl, rfl⟩ (preV (preR hK (P_of_map (wc := rc8 a q_t Q_t z_t ++ (rc5 a (Q_t 5) Q_t_5 z_t_5 ++ (rc7 a (Q_t_5 0) Q_t_5_0 z_t_5_0))) hP [0, 1, 2, 3, 4, 5, 6, 7, 8, 9, 10, 11, 12, 13, 14, 15, 16, 17] rfl)) (recvOf hK hP 0 rfl (ci := 8) rfl)) hl.1 rfl (Nat.le_of_ble_eq_true rfl) dX8_seen_2 ⟨Nat.le_of_ble_eq_true rfl, Nat.le_of_ble_eq_true rfl⟩) ?_
  refine lv_if_eq (tgt := 17) hx hb dX8_seen_5 (by decide) (fun c3 => ?_) (fun c3 => ?_)
  · have h := ite_t c3 h
    refine lv_ldc2 hx hb hown (hts _ t_753) dX8_seen_17 ?_
    exact rRl C rfl (Option.some.inj h) dX8_seen_20
  · have h := ite_f c3 h
    refine lv_iload_n hx hb dX8_seen_8 rfl (lv_at hl 2 rfl) ?_
    refine lv_if_lt (tgt := 17) hx hb dX8_seen_9 (by decide) (fun c4 => ?_) (fun c4 => ?_)
    · have h := ite_t c4 h
      refine lv_ldc2 hx hb hown (hts _ t_753) dX8_seen_17 ?_
      exact rRl C rfl (Option.some.inj h) dX8_seen_20
    · have h := ite_f c4 h
      refine lv_iload_n hx hb dX8_seen_12 rfl (lv_at hl 2 rfl) ?_
      refine lv_iconst (v := 1) hx hb dX8_seen_13 (by decide) ?_
      refine lv_icmp_le (tgt := 21) hx hb dX8_seen_14 (by decide) (fun c5 => ?_) (fun c5 => ?_)
      · have h := ite_t c5 h
        refine lv_aload_n hx hb dX8_seen_21 rfl (lv_at hl 0 rfl) ?_
        refine va_get (D := D) (v := .ref (Q_t 5)) (C := RX8) (T := TX8) (N := 11) hx hb hts iX8 hown hK.1 hP 0 rfl rfl 5 (by decide) (hts _ t_305) (fun _ h9 => h9) rfl dX8_seen_22 ?_
        refine va_get (D := D) (v := .ref (Q_t_5 1)) (C := RX5) (T := TX5) (N := 8) hx hb hts iX5 hown hK.1 hP 2 rfl rfl 1 (by decide) (hts _ t_163) (fun _ h9 => h9) rfl dX8_seen_25 ?_
        refine va_get (D := D) (v := .int (gI z_t_5_1 2)) (C := RX0) (T := TX0) (N := 6) hx hb hts iX0 hown hK.1 hP 18 rfl rfl 2 (by decide) (hts _ t_138) (fun _ h9 => h9) rfl dX8_seen_28 ?_
        refine lv_iload_n hx hb dX8_seen_31 rfl (lv_at hl 1 rfl) ?_
        obtain ⟨r7, hc6, h⟩ := bd_some h
        refine cRi (runS (As := [.int (gI z_t_5_1 2), .int x1]) (rest := []) C (mX8_has l D a hc6) lk_S_8_161 okN_X8_has ⟨Nat.le_of_ble_eq_true rfl, Nat.le_of_ble_eq_true rfl⟩ ⟨rfl, rfl⟩ (preR hK (P_of_map (wc := []) hP [] rfl)) hl.1 rfl (Nat.le_of_ble_eq_true rfl) dX8_seen_32 ⟨Nat.le_of_ble_eq_true rfl, Nat.le_of_ble_eq_true rfl⟩) ?_
        refine lv_if_eq (tgt := 40) hx hb dX8_seen_35 (by decide) (fun c8 => ?_) (fun c8 => ?_)
        · have h := ite_t c8 h
          refine lv_aload_n hx hb dX8_seen_40 rfl (lv_at hl 0 rfl) ?_
          refine lv_iconst (v := 0) hx hb dX8_seen_41 (by decide) ?_
          refine lv_aload_n hx hb dX8_seen_42 rfl (lv_at hl 0 rfl) ?_
          refine va_get (D := D) (v := .ref (Q_t 5)) (C := RX8) (T := TX8) (N := 11) hx hb hts iX8 hown hK.1 hP 0 rfl rfl 5 (by decide) (hts _ t_305) (fun _ h9 => h9) rfl dX8_seen_43 ?_
          refine va_get (D := D) (v := .ref (Q_t_5 1)) (C := RX5) (T := TX5) (N := 8) hx hb hts iX5 hown hK.1 hP 2 rfl rfl 1 (by decide) (hts _ t_163) (fun _ h9 => h9) rfl dX8_seen_46 ?_
          obtain ⟨r10, hc9, h⟩ := bd_some h
          refine cRi (runV (As := []) (rest := [.int 0, .ref q_t]) C (mX0_gone l D a (q_t := (Q_t_5 1)) (Q_t := Q_t_5_1) hc9) lk_V_8_171 okN_X0_gone ⟨Nat.le_of_ble_eq_true rfl, Nat.le_of_ble_eq_true rfl⟩ ⟨rfl, rfl⟩ (preV (preR hK (P_of_map (wc := rc0 a (Q_t_5 1) Q_t_5_1 z_t_5_1) hP [18, 19] rfl)) (recvOf hK hP 18 rfl (ci := 0) rfl)) hl.1 rfl (Nat.le_of_ble_eq_true rfl) dX8_seen_49 ⟨Nat.le_of_ble_eq_true rfl, Nat.le_of_ble_eq_true rfl⟩) ?_
          refine lv_aload_n hx hb dX8_seen_52 rfl (lv_at hl 0 rfl) ?_
          refine va_get (D := D) (v := .ref (Q_t 5)) (C := RX8) (T := TX8) (N := 11) hx hb hts iX8 hown hK.1 hP 0 rfl rfl 5 (by decide) (hts _ t_305) (fun _ h9 => h9) rfl dX8_seen_53 ?_
          refine va_get (D := D) (v := .ref (Q_t_5 1)) (C := RX5) (T := TX5) (N := 8) hx hb hts iX5 hown hK.1 hP 2 rfl rfl 1 (by decide) (hts _ t_163) (fun _ h9 => h9) rfl dX8_seen_56 ?_
          refine va_get (D := D) (v := .int (gI z_t_5_1 0)) (C := RX0) (T := TX0) (N := 6) hx hb hts iX0 hown hK.1 hP 18 rfl rfl 0 (by decide) (hts _ t_132) (fun _ h9 => h9) rfl dX8_seen_59 ?_
          refine lv_iload_n hx hb dX8_seen_62 rfl (lv_at hl 1 rfl) ?_
          obtain ⟨r12, hc11, h⟩ := bd_some h
          refine cRl (runV (As := [.int 0, .int r10, .int (gI z_t_5_1 0), .int x1]) (rest := []) C (mX8_rowMean l D a 16 (q_t := q_t) (Q_t := Q_t) (Q_t_5 := Q_t_5) (Q_t_5_0 := Q_t_5_0) hc11) lk_V_8_245 okN_X8_rowMean ⟨Nat.le_of_ble_eq_true rfl, Nat.le_of_ble_eq_true rfl⟩ ⟨rfl, rfl⟩ (preV (preR hK (P_of_map (wc := rc8 a q_t Q_t z_t ++ (rc5 a (Q_t 5) Q_t_5 z_t_5 ++ (rc7 a (Q_t_5 0) Q_t_5_0 z_t_5_0))) hP [0, 1, 2, 3, 4, 5, 6, 7, 8, 9, 10, 11, 12, 13, 14, 15, 16, 17] rfl)) (recvOf hK hP 0 rfl (ci := 8) rfl)) hl.1 rfl (Nat.le_of_ble_eq_true rfl) dX8_seen_63 ⟨Nat.le_of_ble_eq_true rfl, Nat.le_of_ble_eq_true rfl⟩) ?_
          refine lv_lstore_n (lv' := [(3, .long r12), (0, .ref q_t), (1, .int x1), (2, .int x2)]) hx hb dX8_seen_66 rfl hl (by decide) rfl (fun ls hl => ?_)
          refine lv_lload_n hx hb dX8_seen_67 rfl (lv_at hl 0 rfl) ?_
          refine lv_aload_n hx hb dX8_seen_68 rfl (lv_at hl 1 rfl) ?_
          refine va_get (D := D) (v := .ref (Q_t 5)) (C := RX8) (T := TX8) (N := 11) hx hb hts iX8 hown hK.1 hP 0 rfl rfl 5 (by decide) (hts _ t_305) (fun _ h9 => h9) rfl dX8_seen_69 ?_
          refine va_get (D := D) (v := .int (gI z_t_5 6)) (C := RX5) (T := TX5) (N := 8) hx hb hts iX5 hown hK.1 hP 2 rfl rfl 6 (by decide) (hts _ t_173) (fun _ h9 => h9) rfl dX8_seen_72 ?_
          obtain ⟨r14, hc13, h⟩ := bd_some h
          refine cRl (runS (As := [.int (gI z_t_5 6)]) (rest := [.long r12]) C (mX8_hundreds l D a hc13) lk_S_8_249 okN_X8_hundreds ⟨Nat.le_of_ble_eq_true rfl, Nat.le_of_ble_eq_true rfl⟩ ⟨rfl, rfl⟩ (preR hK (P_of_map (wc := []) hP [] rfl)) hl.1 rfl (Nat.le_of_ble_eq_true rfl) dX8_seen_75 ⟨Nat.le_of_ble_eq_true rfl, Nat.le_of_ble_eq_true rfl⟩) ?_
          refine lv_iload_n hx hb dX8_seen_78 rfl (lv_at hl 3 rfl) ?_
          obtain ⟨r16, hc15, h⟩ := bd_some h
          refine cRl (runS (As := [.long r12, .long r14, .int x2]) (rest := []) C (mX8_partOf l D a hc15) lk_S_8_253 okN_X8_partOf ⟨Nat.le_of_ble_eq_true rfl, Nat.le_of_ble_eq_true rfl⟩ ⟨rfl, rfl⟩ (preR hK (P_of_map (wc := []) hP [] rfl)) hl.1 rfl (Nat.le_of_ble_eq_true rfl) dX8_seen_79 ⟨Nat.le_of_ble_eq_true rfl, Nat.le_of_ble_eq_true rfl⟩) ?_
          exact rRl C rfl (Option.some.inj h) dX8_seen_82
        · have h := ite_f c8 h
          refine lv_lconst (v := 1) hx hb dX8_seen_38 (by decide) ?_
          exact rRl C rfl (Option.some.inj h) dX8_seen_39
      · have h := ite_f c5 h
        refine lv_ldc2 hx hb hown (hts _ t_753) dX8_seen_17 ?_
        exact rRl C rfl (Option.some.inj h) dX8_seen_20

set_option maxHeartbeats 4000000 in
set_option maxRecDepth 100000 in
theorem mX8_weeks_none (l : Launch) (D : va_G) (a : Nat → ClassId) {q_t : Nat} {Q_t : Nat → Nat} {z_t : Sx} {B_t_2 : Nat → Option Nat} {Q_t_5 : Nat → Nat} {z_t_5 : Sx} {Q_t_5_0 : Nat → Nat} {z_t_5_0 : Sx} {x1 : Int32} {x2 : Int32} {x3 : Int32} (hm : fX8_ruleForWork z_t B_t_2 z_t_5 z_t_5_0 x1 = some none) {y : Int32} (h : fX8_weeks_none z_t B_t_2 z_t_5 z_t_5_0 x1 x2 x3 = some y) : CRi l MX8_weeks 2 42 D a [.ref q_t, .int x1, .int x2, .int x3] (rc8 a q_t Q_t z_t ++ (rb4 a (Q_t 2) 6 B_t_2 ++ (rc5 a (Q_t 5) Q_t_5 z_t_5 ++ (rc7 a (Q_t_5 0) Q_t_5_0 z_t_5_0)))) (fun r => r = y) := by
  unfold fX8_weeks_none at h
  refine entR (by decide) (Nat.le_of_ble_eq_true rfl) ?_
  intro p e s m below meth c C hK hP ls hl
  obtain ⟨hx, hb, hml, hown, hts, hr, hlocks, hnm⟩ := id C
  have hb : c.code = cX8_weeks := hb
  have hown : s.vm.findClass RX8 = some m.cls := hown
  have hl : lv_has ls 7 [(0, .ref q_t), (1, .int x1), (2, .int x2), (3, .int x3)] := hl
  refine lv_aload_n hx hb dX8_weeks_0 rfl (lv_at hl 0 rfl) ?_
  refine lv_iload_n hx hb dX8_weeks_1 rfl (lv_at hl 1 rfl) ?_
  obtain ⟨r2, hc1, h⟩ := bd_some h
  refine cRq (runV (As := [.int x1]) (rest := []) C (mX8_ruleForWork l D a (q_t := q_t) (Q_t := Q_t) (Q_t_5 := Q_t_5) (Q_t_5_0 := Q_t_5_0) hc1) lk_V_8_228 okN_X8_ruleForWork ⟨Nat.le_of_ble_eq_true rfl, Nat.le_of_ble_eq_true rfl⟩ ⟨rfl, rfl⟩ (preV (preR hK hP) (recvOf hK hP 0 rfl (ci := 8) rfl)) hl.1 rfl (Nat.le_of_ble_eq_true rfl) dX8_weeks_2 ⟨Nat.le_of_ble_eq_true rfl, Nat.le_of_ble_eq_true rfl⟩) ?_
  obtain rfl := Option.some.inj (hc1.symm.trans hm)
  refine lv_astoreN (lv' := [(4, .null), (0, .ref q_t), (1, .int x1), (2, .int x2), (3, .int x3)]) hx hb dX8_weeks_5 hl (by decide) rfl (fun ls hl => ?_)
  refine lv_aloadN hx hb dX8_weeks_7 (lv_at hl 0 rfl) ?_
  refine lv_ifnullN (tgt := 32) hx hb dX8_weeks_9 (by decide) ?_
  refine lv_iconst (v := (-1)) hx hb dX8_weeks_32 (by decide) ?_
  exact rRi C rfl (Option.some.inj h) dX8_weeks_33

set_option maxHeartbeats 4000000 in
set_option maxRecDepth 100000 in
theorem wX8_weeks_some_54 {p : Program} {l : Launch} {e : Env} {s : State} {m : MethodId} {below : List Frame} {meth : Method} {c : Code} {D : va_G} {a : Nat → ClassId} {A : Nat → Prop} {q_t : Nat} {q_R : Nat} {Q_t : Nat → Nat} {Q_t_5 : Nat → Nat} {Q_t_5_0 : Nat → Nat} {Q_t_5_1 : Nat → Nat} {Q_t_7 : Nat → Nat} {Q_t_9 : Nat → Nat} {Q_R : Nat → Nat} {z_t : Sx} {B_t_2 : Nat → Option Nat} {z_t_5 : Sx} {z_t_5_0 : Sx} {z_t_5_1 : Sx} {nc_R : Nat} {z_R : Sx} {x10 : Int32} {x20 : Int32} {x30 : Int32} {x2 : Int32} {x3 : Int32} (C : Cx p s m #[.ref q_t, .int x10, .int x20, .int x30] meth c MX8_weeks) (hK : KK D a s) (hA : ∀ q, s.heap.size ≤ q → A q) {y : Int32 × Sx × Sx} : ∀ (n : Nat) (z_t_7 : Sx) (z_t_9 : Sx) (x5 : Int32) (x6 : Int32) (H : Heap) (locs : List Loc) (ls : Array Slot), lX8_weeks_some_54 z_t B_t_2 z_t_5 z_t_5_0 z_t_5_1 nc_R z_R x2 x3 n z_t_7 z_t_9 x5 x6 = some y → va_P D classes (rc8 a q_t Q_t z_t ++ (rb4 a (Q_t 2) 6 B_t_2 ++ (rc5 a (Q_t 5) Q_t_5 z_t_5 ++ (rc7 a (Q_t_5 0) Q_t_5_0 z_t_5_0 ++ (rc0 a (Q_t_5 1) Q_t_5_1 z_t_5_1 ++ (rc0 a (Q_t 7) Q_t_7 z_t_7 ++ (rc2 a (Q_t 9) Q_t_9 z_t_9 ++ (rc3 a q_R Q_R nc_R z_R)))))))) H → va_D A (rc8 a q_t Q_t z_t ++ (rb4 a (Q_t 2) 6 B_t_2 ++ (rc5 a (Q_t 5) Q_t_5 z_t_5 ++ (rc7 a (Q_t_5 0) Q_t_5_0 z_t_5_0 ++ (rc0 a (Q_t_5 1) Q_t_5_1 z_t_5_1 ++ (rc0 a (Q_t 7) Q_t_7 z_t_7 ++ (rc2 a (Q_t 9) Q_t_9 z_t_9 ++ (rc3 a q_R Q_R nc_R z_R)))))))) → va_S A s.heap H locs → lv_has ls 7 [(0, .ref q_t), (2, .int x2), (3, .int x3), (4, .ref q_R), (5, .int x5), (6, .int x6)] → W p l e (rmM 6 0 0 162) s m #[.ref q_t, .int x10, .int x20, .int x30] below meth c H locs 0 0 (MQ below (va_Qi (fun r (_ : Unit) => r = y.1) (Bw D A (fun _ => rc8 a q_t Q_t z_t ++ (rb4 a (Q_t 2) 6 B_t_2 ++ (rc5 a (Q_t 5) Q_t_5 z_t_5 ++ (rc7 a (Q_t_5 0) Q_t_5_0 z_t_5_0 ++ (rc0 a (Q_t_5 1) Q_t_5_1 z_t_5_1 ++ (rc0 a (Q_t 7) Q_t_7 y.2.1 ++ (rc2 a (Q_t 9) Q_t_9 y.2.2 ++ (rc3 a q_R Q_R nc_R z_R))))))))) A) #[.ref q_t, .int x10, .int x20, .int x30] s 0 0 A) (F0 m 54 ls []) := by
  obtain ⟨hx, hb, hml, hown, hts, hr, hlocks, hnm⟩ := id C
  have hb : c.code = cX8_weeks := hb
  have hown : s.vm.findClass RX8 = some m.cls := hown
  intro n
  induction n with
  | zero => intro z_t_7 z_t_9 x5 x6 H locs ls h; rw [lX8_weeks_some_54] at h; cases h
  | succ n ih =>
    intro z_t_7 z_t_9 x5 x6 H locs ls h hP hD hS hl
    rw [lX8_weeks_some_54] at h
    refine lv_iload hx hb dX8_weeks_54 (lv_at hl 5 rfl) ?_
    refine lv_iload_n hx hb dX8_weeks_56 rfl (lv_at hl 1 rfl) ?_
    refine lv_bipush (v := 6) hx hb dX8_weeks_57 (by decide) ?_
    refine lv_imul hx hb dX8_weeks_59 ?_
    refine lv_icmp_ge (tgt := 161) hx hb dX8_weeks_60 (by decide) (fun c9 => ?_) (fun c9 => ?_)
    · have h := ite_t c9 h
      refine lv_iload hx hb dX8_weeks_161 (lv_at hl 4 rfl) ?_
      exact rMi C rfl h (g := fun y => rc8 a q_t Q_t z_t ++ (rb4 a (Q_t 2) 6 B_t_2 ++ (rc5 a (Q_t 5) Q_t_5 z_t_5 ++ (rc7 a (Q_t_5 0) Q_t_5_0 z_t_5_0 ++ (rc0 a (Q_t_5 1) Q_t_5_1 z_t_5_1 ++ (rc0 a (Q_t 7) Q_t_7 y.2.1 ++ (rc2 a (Q_t 9) Q_t_9 y.2.2 ++ (rc3 a q_R Q_R nc_R z_R)))))))) (pr := fun y => y.1) hP hD hS dX8_weeks_163
    · have h := ite_f c9 h
      refine lv_aload_n hx hb dX8_weeks_63 rfl (lv_at hl 0 rfl) ?_
      refine va_get (D := D) (v := .ref (Q_t 7)) (C := RX8) (T := TX8) (N := 11) hx hb hts iX8 hown hK.1 hP 0 rfl rfl 7 (by decide) (hts _ t_307) (fun _ h9 => h9) rfl dX8_weeks_64 ?_
      refine lv_aload_n hx hb dX8_weeks_67 rfl (lv_at hl 0 rfl) ?_
      refine va_get (D := D) (v := .ref (Q_t 5)) (C := RX8) (T := TX8) (N := 11) hx hb hts iX8 hown hK.1 hP 0 rfl rfl 5 (by decide) (hts _ t_305) (fun _ h9 => h9) rfl dX8_weeks_68 ?_
      refine va_get (D := D) (v := .ref (Q_t_5 0)) (C := RX5) (T := TX5) (N := 8) hx hb hts iX5 hown hK.1 hP 3 rfl rfl 0 (by decide) (hts _ t_161) (fun _ h9 => h9) rfl dX8_weeks_71 ?_
      refine va_get (D := D) (v := .int (gI z_t_5_0 1)) (C := RX7) (T := TX7) (N := 18) hx hb hts iX7 hown hK.1 hP 6 rfl rfl 1 (by decide) (hts _ t_41) (fun _ h9 => h9) rfl dX8_weeks_74 ?_
      obtain ⟨z11, hc10, h⟩ := bd_some h
      refine cMv (runV (As := [.int (gI z_t_5_0 1)]) (rest := []) C (mX0_begin l D a (q_t := (Q_t 7)) (Q_t := Q_t_7) hc10 H.size) lk_V_8_225 okN_X0_begin ⟨Nat.le_of_ble_eq_true rfl, Nat.le_of_ble_eq_true rfl⟩ ⟨rfl, rfl⟩ (preV (preM hK (P_of_map (wc := rc0 a (Q_t 7) Q_t_7 z_t_7) hP [21, 22] rfl) (hD.sub (ws' := rc0 a (Q_t 7) Q_t_7 z_t_7) [21, 22] (by decide) rfl)) (recvOf hK hP 21 rfl (ci := 0) rfl)) hl.1 rfl (Nat.le_of_ble_eq_true rfl) dX8_weeks_77 ⟨Nat.le_of_ble_eq_true rfl, Nat.le_of_ble_eq_true rfl⟩) hP hD hS hA [21, 22] [0, 1, 2, 3, 4, 5, 6, 7, 8, 9, 10, 11, 12, 13, 14, 15, 16, 17, 18, 19, 20, 23, 24, 25, 26, 27, 28, 29] [0, 1, 2, 3, 4, 5, 6, 7, 8, 9, 10, 11, 12, 13, 14, 15, 16, 17, 18, 19, 20, 28, 29, 21, 22, 23, 24, 25, 26, 27] rfl rfl (by decide) (by decide) (fw := rc8 a q_t Q_t z_t ++ (rb4 a (Q_t 2) 6 B_t_2 ++ (rc5 a (Q_t 5) Q_t_5 z_t_5 ++ (rc7 a (Q_t_5 0) Q_t_5_0 z_t_5_0 ++ (rc0 a (Q_t_5 1) Q_t_5_1 z_t_5_1 ++ (rc0 a (Q_t 7) Q_t_7 z11 ++ (rc2 a (Q_t 9) Q_t_9 z_t_9 ++ (rc3 a q_R Q_R nc_R z_R)))))))) rfl (by decide) (fun H locs hP hD hS => ?_)
      have hP : va_P D classes (rc8 a q_t Q_t z_t ++ (rb4 a (Q_t 2) 6 B_t_2 ++ (rc5 a (Q_t 5) Q_t_5 z_t_5 ++ (rc7 a (Q_t_5 0) Q_t_5_0 z_t_5_0 ++ (rc0 a (Q_t_5 1) Q_t_5_1 z_t_5_1 ++ (rc0 a (Q_t 7) Q_t_7 z11 ++ (rc2 a (Q_t 9) Q_t_9 z_t_9 ++ (rc3 a q_R Q_R nc_R z_R)))))))) H := hP
      have hD : va_D A (rc8 a q_t Q_t z_t ++ (rb4 a (Q_t 2) 6 B_t_2 ++ (rc5 a (Q_t 5) Q_t_5 z_t_5 ++ (rc7 a (Q_t_5 0) Q_t_5_0 z_t_5_0 ++ (rc0 a (Q_t_5 1) Q_t_5_1 z_t_5_1 ++ (rc0 a (Q_t 7) Q_t_7 z11 ++ (rc2 a (Q_t 9) Q_t_9 z_t_9 ++ (rc3 a q_R Q_R nc_R z_R)))))))) := hD
      refine lv_aload_n hx hb dX8_weeks_80 rfl (lv_at hl 0 rfl) ?_
      refine va_get (D := D) (v := .ref (Q_t 9)) (C := RX8) (T := TX8) (N := 11) hx hb hts iX8 hown hK.1 hP 0 rfl rfl 9 (by decide) (hts _ t_309) (fun _ h9 => h9) rfl dX8_weeks_81 ?_
      refine lv_aload_n hx hb dX8_weeks_84 rfl (lv_at hl 0 rfl) ?_
      refine va_get (D := D) (v := .ref (Q_t 5)) (C := RX8) (T := TX8) (N := 11) hx hb hts iX8 hown hK.1 hP 0 rfl rfl 5 (by decide) (hts _ t_305) (fun _ h9 => h9) rfl dX8_weeks_85 ?_
      refine va_get (D := D) (v := .ref (Q_t_5 0)) (C := RX5) (T := TX5) (N := 8) hx hb hts iX5 hown hK.1 hP 3 rfl rfl 0 (by decide) (hts _ t_161) (fun _ h9 => h9) rfl dX8_weeks_88 ?_
      refine lv_aload hx hb dX8_weeks_91 (lv_at hl 3 rfl) ?_
      refine lv_aload_n hx hb dX8_weeks_93 rfl (lv_at hl 0 rfl) ?_
      refine va_get (D := D) (v := .ref (Q_t 7)) (C := RX8) (T := TX8) (N := 11) hx hb hts iX8 hown hK.1 hP 0 rfl rfl 7 (by decide) (hts _ t_307) (fun _ h9 => h9) rfl dX8_weeks_94 ?_
      obtain ⟨r13, z14, z15, hc12, h⟩ := bd3_some h
      refine cMi (runV (As := [.ref (Q_t_5 0), .ref q_R, .ref (Q_t 7)]) (rest := []) C (mX2_play l D a (q_t := (Q_t 9)) (q_p1 := (Q_t_5 0)) (q_p2 := q_R) (q_p3 := (Q_t 7)) (Q_t := Q_t_9) (Q_p1 := Q_t_5_0) (Q_p2 := Q_R) (Q_p3 := Q_t_7) hc12 H.size) lk_V_8_232 okN_X2_play ⟨Nat.le_of_ble_eq_true rfl, Nat.le_of_ble_eq_true rfl⟩ ⟨rfl, rfl⟩ (preV (preM hK (P_of_map (wc := rc2 a (Q_t 9) Q_t_9 z_t_9 ++ (rc7 a (Q_t_5 0) Q_t_5_0 z_t_5_0 ++ (rc3 a q_R Q_R nc_R z_R ++ (rc0 a (Q_t 7) Q_t_7 z11)))) hP [23, 24, 6, 7, 8, 9, 10, 11, 12, 13, 14, 15, 16, 17, 18, 25, 26, 27, 28, 29, 21, 22] rfl) (hD.sub (ws' := rc2 a (Q_t 9) Q_t_9 z_t_9 ++ (rc7 a (Q_t_5 0) Q_t_5_0 z_t_5_0 ++ (rc3 a q_R Q_R nc_R z_R ++ (rc0 a (Q_t 7) Q_t_7 z11)))) [23, 24, 6, 7, 8, 9, 10, 11, 12, 13, 14, 15, 16, 17, 18, 25, 26, 27, 28, 29, 21, 22] (by decide) rfl)) (recvOf hK hP 23 rfl (ci := 2) rfl)) hl.1 rfl (Nat.le_of_ble_eq_true rfl) dX8_weeks_97 ⟨Nat.le_of_ble_eq_true rfl, Nat.le_of_ble_eq_true rfl⟩) hP hD hS hA [23, 24, 6, 7, 8, 9, 10, 11, 12, 13, 14, 15, 16, 17, 18, 25, 26, 27, 28, 29, 21, 22] [0, 1, 2, 3, 4, 5, 19, 20] [0, 1, 2, 3, 4, 5, 10, 11, 12, 13, 14, 15, 16, 17, 18, 19, 20, 21, 22, 6, 7, 28, 29, 8, 9, 23, 24, 25, 26, 27] rfl rfl (by decide) (by decide) (fw := rc8 a q_t Q_t z_t ++ (rb4 a (Q_t 2) 6 B_t_2 ++ (rc5 a (Q_t 5) Q_t_5 z_t_5 ++ (rc7 a (Q_t_5 0) Q_t_5_0 z_t_5_0 ++ (rc0 a (Q_t_5 1) Q_t_5_1 z_t_5_1 ++ (rc0 a (Q_t 7) Q_t_7 z15 ++ (rc2 a (Q_t 9) Q_t_9 z14 ++ (rc3 a q_R Q_R nc_R z_R)))))))) rfl (by decide) (fun H locs hP hD hS => ?_)
      have hP : va_P D classes (rc8 a q_t Q_t z_t ++ (rb4 a (Q_t 2) 6 B_t_2 ++ (rc5 a (Q_t 5) Q_t_5 z_t_5 ++ (rc7 a (Q_t_5 0) Q_t_5_0 z_t_5_0 ++ (rc0 a (Q_t_5 1) Q_t_5_1 z_t_5_1 ++ (rc0 a (Q_t 7) Q_t_7 z15 ++ (rc2 a (Q_t 9) Q_t_9 z14 ++ (rc3 a q_R Q_R nc_R z_R)))))))) H := hP
      have hD : va_D A (rc8 a q_t Q_t z_t ++ (rb4 a (Q_t 2) 6 B_t_2 ++ (rc5 a (Q_t 5) Q_t_5 z_t_5 ++ (rc7 a (Q_t_5 0) Q_t_5_0 z_t_5_0 ++ (rc0 a (Q_t_5 1) Q_t_5_1 z_t_5_1 ++ (rc0 a (Q_t 7) Q_t_7 z15 ++ (rc2 a (Q_t 9) Q_t_9 z14 ++ (rc3 a q_R Q_R nc_R z_R)))))))) := hD
      refine lv_pop hx hb dX8_weeks_100 rfl ?_
      refine lv_iload hx hb dX8_weeks_101 (lv_at hl 4 rfl) ?_
      refine lv_iload_n hx hb dX8_weeks_103 rfl (lv_at hl 2 rfl) ?_
      obtain ⟨J16, eJ16, h⟩ := jn_some h
      have hJ16 : ∀ (i17 : Int32) (i18 : Int32) (H : Heap) (locs : List Loc) (ls : Array Slot), J16 i17 i18 = some y → va_P D classes (rc8 a q_t Q_t z_t ++ (rb4 a (Q_t 2) 6 B_t_2 ++ (rc5 a (Q_t 5) Q_t_5 z_t_5 ++ (rc7 a (Q_t_5 0) Q_t_5_0 z_t_5_0 ++ (rc0 a (Q_t_5 1) Q_t_5_1 z_t_5_1 ++ (rc0 a (Q_t 7) Q_t_7 z15 ++ (rc2 a (Q_t 9) Q_t_9 z14 ++ (rc3 a q_R Q_R nc_R z_R)))))))) H → va_D A (rc8 a q_t Q_t z_t ++ (rb4 a (Q_t 2) 6 B_t_2 ++ (rc5 a (Q_t 5) Q_t_5 z_t_5 ++ (rc7 a (Q_t_5 0) Q_t_5_0 z_t_5_0 ++ (rc0 a (Q_t_5 1) Q_t_5_1 z_t_5_1 ++ (rc0 a (Q_t 7) Q_t_7 z15 ++ (rc2 a (Q_t 9) Q_t_9 z14 ++ (rc3 a q_R Q_R nc_R z_R)))))))) → va_S A s.heap H locs → lv_has ls 7 [(0, .ref q_t), (2, .int x2), (3, .int x3), (4, .ref q_R), (6, .int x6)] → W p l e (rmM 6 0 0 162) s m #[.ref q_t, .int x10, .int x20, .int x30] below meth c H locs 0 0 (MQ below (va_Qi (fun r (_ : Unit) => r = y.1) (Bw D A (fun _ => rc8 a q_t Q_t z_t ++ (rb4 a (Q_t 2) 6 B_t_2 ++ (rc5 a (Q_t 5) Q_t_5 z_t_5 ++ (rc7 a (Q_t_5 0) Q_t_5_0 z_t_5_0 ++ (rc0 a (Q_t_5 1) Q_t_5_1 z_t_5_1 ++ (rc0 a (Q_t 7) Q_t_7 y.2.1 ++ (rc2 a (Q_t 9) Q_t_9 y.2.2 ++ (rc3 a q_R Q_R nc_R z_R))))))))) A) #[.ref q_t, .int x10, .int x20, .int x30] s 0 0 A) (F0 m 152 ls [.int i17, .int i18]) := by
        intro i17 i18 H locs ls h hP hD hS hl
        rw [eJ16] at h
        refine lv_iadd hx hb dX8_weeks_152 ?_
        refine lv_istore (lv' := [(5, .int (i18 + i17)), (0, .ref q_t), (2, .int x2), (3, .int x3), (4, .ref q_R), (6, .int x6)]) hx hb dX8_weeks_153 hl (by decide) rfl (fun ls hl => ?_)
        refine lv_iinc (v := x6 + 1) (lv' := [(6, .int (x6 + 1)), (5, .int (i18 + i17)), (0, .ref q_t), (2, .int x2), (3, .int x3), (4, .ref q_R)]) hx hb dX8_weeks_155 hl (k := 5) rfl rfl (by decide) rfl (fun ls hl => ?_)
        refine lv_goto (tgt := 54) hx hb dX8_weeks_158 (by decide) ?_
        exact ih z15 z14 (i18 + i17) (x6 + 1) _ _ ls h hP hD hS (lv_sub hl [2, 3, 4, 5, 1, 0] rfl)
      refine lv_if_ne (tgt := 117) hx hb dX8_weeks_104 (by decide) (fun c19 => ?_) (fun c19 => ?_)
      · have h := ite_f c19 h
        refine lv_iload_n hx hb dX8_weeks_117 rfl (lv_at hl 2 rfl) ?_
        refine lv_iconst (v := 1) hx hb dX8_weeks_118 (by decide) ?_
        refine lv_icmp_ne (tgt := 135) hx hb dX8_weeks_119 (by decide) (fun c20 => ?_) (fun c20 => ?_)
        · have h := ite_f c20 h
          refine lv_aload_n hx hb dX8_weeks_135 rfl (lv_at hl 0 rfl) ?_
          refine va_get (D := D) (v := .ref (Q_t 5)) (C := RX8) (T := TX8) (N := 11) hx hb hts iX8 hown hK.1 hP 0 rfl rfl 5 (by decide) (hts _ t_305) (fun _ h9 => h9) rfl dX8_weeks_136 ?_
          refine va_get (D := D) (v := .ref (Q_t_5 0)) (C := RX5) (T := TX5) (N := 8) hx hb hts iX5 hown hK.1 hP 3 rfl rfl 0 (by decide) (hts _ t_161) (fun _ h9 => h9) rfl dX8_weeks_139 ?_
          refine lv_aload_n hx hb dX8_weeks_142 rfl (lv_at hl 0 rfl) ?_
          refine va_get (D := D) (v := .ref (Q_t 7)) (C := RX8) (T := TX8) (N := 11) hx hb hts iX8 hown hK.1 hP 0 rfl rfl 7 (by decide) (hts _ t_307) (fun _ h9 => h9) rfl dX8_weeks_143 ?_
          obtain ⟨r22, hc21, h⟩ := bd_some h
          refine cRi (runV (As := []) (rest := [.ref (Q_t_5 0), .int x5]) C (mX0_gone l D a (q_t := (Q_t 7)) (Q_t := Q_t_7) hc21) lk_V_8_171 okN_X0_gone ⟨Nat.le_of_ble_eq_true rfl, Nat.le_of_ble_eq_true rfl⟩ ⟨rfl, rfl⟩ (preV (preR hK (P_of_map (wc := rc0 a (Q_t 7) Q_t_7 z15) hP [21, 22] rfl)) (recvOf hK hP 21 rfl (ci := 0) rfl)) hl.1 rfl (Nat.le_of_ble_eq_true rfl) dX8_weeks_146 ⟨Nat.le_of_ble_eq_true rfl, Nat.le_of_ble_eq_true rfl⟩) ?_
          obtain ⟨r24, hc23, h⟩ := bd_some h
          refine cRi (runV (As := [.int r22]) (rest := [.int x5]) C (mX7_hiddenCoins l D a (q_t := (Q_t_5 0)) (Q_t := Q_t_5_0) hc23) lk_V_8_222 okN_X7_hiddenCoins ⟨Nat.le_of_ble_eq_true rfl, Nat.le_of_ble_eq_true rfl⟩ ⟨rfl, rfl⟩ (preV (preR hK (P_of_map (wc := rc7 a (Q_t_5 0) Q_t_5_0 z_t_5_0) hP [6, 7, 8, 9, 10, 11, 12, 13, 14, 15, 16, 17, 18] rfl)) (recvOf hK hP 6 rfl (ci := 7) rfl)) hl.1 rfl (Nat.le_of_ble_eq_true rfl) dX8_weeks_149 ⟨Nat.le_of_ble_eq_true rfl, Nat.le_of_ble_eq_true rfl⟩) ?_
          exact hJ16 r24 x5 _ _ ls h hP hD hS (lv_sub hl [0, 1, 2, 3, 5] rfl)
        · have h := ite_t c20 h
          refine lv_aload_n hx hb dX8_weeks_122 rfl (lv_at hl 0 rfl) ?_
          refine va_get (D := D) (v := .ref (Q_t 7)) (C := RX8) (T := TX8) (N := 11) hx hb hts iX8 hown hK.1 hP 0 rfl rfl 7 (by decide) (hts _ t_307) (fun _ h9 => h9) rfl dX8_weeks_123 ?_
          refine va_get (D := D) (v := .int (gI z15 2)) (C := RX0) (T := TX0) (N := 6) hx hb hts iX0 hown hK.1 hP 21 rfl rfl 2 (by decide) (hts _ t_138) (fun _ h9 => h9) rfl dX8_weeks_126 ?_
          obtain ⟨r26, hc25, h⟩ := bd_some h
          refine cRi (runS (As := [.int (gI z15 2)]) (rest := [.int x5]) C (mJ6_bitCount_0f7a4 l D a hc25) lk_S_8_181 okN_J6_bitCount_0f7a4 ⟨Nat.le_of_ble_eq_true rfl, Nat.le_of_ble_eq_true rfl⟩ ⟨rfl, rfl⟩ (preR hK (P_of_map (wc := []) hP [] rfl)) hl.1 rfl (Nat.le_of_ble_eq_true rfl) dX8_weeks_129 ⟨Nat.le_of_ble_eq_true rfl, Nat.le_of_ble_eq_true rfl⟩) ?_
          refine lv_goto (tgt := 152) hx hb dX8_weeks_132 (by decide) ?_
          exact hJ16 r26 x5 _ _ ls h hP hD hS (lv_sub hl [0, 1, 2, 3, 5] rfl)
      · have h := ite_t c19 h
        refine lv_aload_n hx hb dX8_weeks_107 rfl (lv_at hl 0 rfl) ?_
        refine va_get (D := D) (v := .ref (Q_t 7)) (C := RX8) (T := TX8) (N := 11) hx hb hts iX8 hown hK.1 hP 0 rfl rfl 7 (by decide) (hts _ t_307) (fun _ h9 => h9) rfl dX8_weeks_108 ?_
        refine va_get (D := D) (v := .int (gI z15 1)) (C := RX0) (T := TX0) (N := 6) hx hb hts iX0 hown hK.1 hP 21 rfl rfl 1 (by decide) (hts _ t_135) (fun _ h9 => h9) rfl dX8_weeks_111 ?_
        refine lv_goto (tgt := 152) hx hb dX8_weeks_114 (by decide) ?_
        exact hJ16 (gI z15 1) x5 _ _ ls h hP hD hS (lv_sub hl [0, 1, 2, 3, 5] rfl)

set_option maxHeartbeats 4000000 in
set_option maxRecDepth 100000 in
theorem mX8_weeks_some (l : Launch) (D : va_G) (a : Nat → ClassId) {q_R : Nat} {q_t : Nat} {Q_t : Nat → Nat} {z_t : Sx} {B_t_2 : Nat → Option Nat} {Q_t_5 : Nat → Nat} {z_t_5 : Sx} {Q_t_5_0 : Nat → Nat} {z_t_5_0 : Sx} {Q_t_5_1 : Nat → Nat} {z_t_5_1 : Sx} {Q_t_7 : Nat → Nat} {z_t_7 : Sx} {Q_t_9 : Nat → Nat} {z_t_9 : Sx} {Q_R : Nat → Nat} {nc_R : Nat} {z_R : Sx} {x1 : Int32} {x2 : Int32} {x3 : Int32} (hm : fX8_ruleForWork z_t B_t_2 z_t_5 z_t_5_0 x1 = some (some q_R)) {y : Int32 × Sx × Sx} (h : fX8_weeks_some z_t B_t_2 z_t_5 z_t_5_0 z_t_5_1 z_t_7 z_t_9 nc_R z_R x1 x2 x3 = some y) (sz : Nat) : CMi (S := Unit) l MX8_weeks 6 162 0 0 D a [.ref q_t, .int x1, .int x2, .int x3] (rc8 a q_t Q_t z_t ++ (rb4 a (Q_t 2) 6 B_t_2 ++ (rc5 a (Q_t 5) Q_t_5 z_t_5 ++ (rc7 a (Q_t_5 0) Q_t_5_0 z_t_5_0 ++ (rc0 a (Q_t_5 1) Q_t_5_1 z_t_5_1 ++ (rc0 a (Q_t 7) Q_t_7 z_t_7 ++ (rc2 a (Q_t 9) Q_t_9 z_t_9 ++ (rc3 a q_R Q_R nc_R z_R)))))))) sz (fun r _ => r = y.1) (fun _ => rc8 a q_t Q_t z_t ++ (rb4 a (Q_t 2) 6 B_t_2 ++ (rc5 a (Q_t 5) Q_t_5 z_t_5 ++ (rc7 a (Q_t_5 0) Q_t_5_0 z_t_5_0 ++ (rc0 a (Q_t_5 1) Q_t_5_1 z_t_5_1 ++ (rc0 a (Q_t 7) Q_t_7 y.2.1 ++ (rc2 a (Q_t 9) Q_t_9 y.2.2 ++ (rc3 a q_R Q_R nc_R z_R)))))))) := by
  unfold fX8_weeks_some at h
  refine entMi (by decide) (Nat.le_of_ble_eq_true rfl) ?_
  intro p e s m below meth c C hK A hA hP hD ls hl
  obtain ⟨hx, hb, hml, hown, hts, hr, hlocks, hnm⟩ := id C
  have hb : c.code = cX8_weeks := hb
  have hown : s.vm.findClass RX8 = some m.cls := hown
  have hS : va_S A s.heap s.heap [] := va_S.rf
  have hl : lv_has ls 7 [(0, .ref q_t), (1, .int x1), (2, .int x2), (3, .int x3)] := hl
  refine lv_aload_n hx hb dX8_weeks_0 rfl (lv_at hl 0 rfl) ?_
  refine lv_iload_n hx hb dX8_weeks_1 rfl (lv_at hl 1 rfl) ?_
  obtain ⟨r2, hc1, h⟩ := bd_some h
  refine cRq (runV (As := [.int x1]) (rest := []) C (mX8_ruleForWork l D a (q_t := q_t) (Q_t := Q_t) (Q_t_5 := Q_t_5) (Q_t_5_0 := Q_t_5_0) hc1) lk_V_8_228 okN_X8_ruleForWork ⟨Nat.le_of_ble_eq_true rfl, Nat.le_of_ble_eq_true rfl⟩ ⟨rfl, rfl⟩ (preV (preR hK (P_of_map (wc := rc8 a q_t Q_t z_t ++ (rb4 a (Q_t 2) 6 B_t_2 ++ (rc5 a (Q_t 5) Q_t_5 z_t_5 ++ (rc7 a (Q_t_5 0) Q_t_5_0 z_t_5_0)))) hP [0, 1, 2, 3, 4, 5, 6, 7, 8, 9, 10, 11, 12, 13, 14, 15, 16, 17, 18] rfl)) (recvOf hK hP 0 rfl (ci := 8) rfl)) hl.1 rfl (Nat.le_of_ble_eq_true rfl) dX8_weeks_2 ⟨Nat.le_of_ble_eq_true rfl, Nat.le_of_ble_eq_true rfl⟩) ?_
  obtain rfl := Option.some.inj (hc1.symm.trans hm)
  refine lv_astore (lv' := [(4, .ref q_R), (0, .ref q_t), (1, .int x1), (2, .int x2), (3, .int x3)]) hx hb dX8_weeks_5 hl (by decide) rfl (fun ls hl => ?_)
  refine lv_aload hx hb dX8_weeks_7 (lv_at hl 0 rfl) ?_
  refine lv_ifnull hx hb dX8_weeks_9 ?_
  refine lv_iload_n hx hb dX8_weeks_12 rfl (lv_at hl 3 rfl) ?_
  refine lv_iconst (v := 1) hx hb dX8_weeks_13 (by decide) ?_
  refine lv_icmp_lt (tgt := 32) hx hb dX8_weeks_14 (by decide) (fun c3 => ?_) (fun c3 => ?_)
  · have h := ite_t c3 h
    refine lv_iconst (v := (-1)) hx hb dX8_weeks_32 (by decide) ?_
    exact rMi C rfl h (g := fun y => rc8 a q_t Q_t z_t ++ (rb4 a (Q_t 2) 6 B_t_2 ++ (rc5 a (Q_t 5) Q_t_5 z_t_5 ++ (rc7 a (Q_t_5 0) Q_t_5_0 z_t_5_0 ++ (rc0 a (Q_t_5 1) Q_t_5_1 z_t_5_1 ++ (rc0 a (Q_t 7) Q_t_7 y.2.1 ++ (rc2 a (Q_t 9) Q_t_9 y.2.2 ++ (rc3 a q_R Q_R nc_R z_R)))))))) (pr := fun y => y.1) hP hD hS dX8_weeks_33
  · have h := ite_f c3 h
    refine lv_iload_n hx hb dX8_weeks_17 rfl (lv_at hl 3 rfl) ?_
    refine lv_bipush (v := 20) hx hb dX8_weeks_18 (by decide) ?_
    refine lv_icmp_gt (tgt := 32) hx hb dX8_weeks_20 (by decide) (fun c4 => ?_) (fun c4 => ?_)
    · have h := ite_t c4 h
      refine lv_iconst (v := (-1)) hx hb dX8_weeks_32 (by decide) ?_
      exact rMi C rfl h (g := fun y => rc8 a q_t Q_t z_t ++ (rb4 a (Q_t 2) 6 B_t_2 ++ (rc5 a (Q_t 5) Q_t_5 z_t_5 ++ (rc7 a (Q_t_5 0) Q_t_5_0 z_t_5_0 ++ (rc0 a (Q_t_5 1) Q_t_5_1 z_t_5_1 ++ (rc0 a (Q_t 7) Q_t_7 y.2.1 ++ (rc2 a (Q_t 9) Q_t_9 y.2.2 ++ (rc3 a q_R Q_R nc_R z_R)))))))) (pr := fun y => y.1) hP hD hS dX8_weeks_33
    · have h := ite_f c4 h
      refine lv_iload_n hx hb dX8_weeks_23 rfl (lv_at hl 4 rfl) ?_
      refine lv_if_lt (tgt := 32) hx hb dX8_weeks_24 (by decide) (fun c5 => ?_) (fun c5 => ?_)
      · have h := ite_t c5 h
        refine lv_iconst (v := (-1)) hx hb dX8_weeks_32 (by decide) ?_
        exact rMi C rfl h (g := fun y => rc8 a q_t Q_t z_t ++ (rb4 a (Q_t 2) 6 B_t_2 ++ (rc5 a (Q_t 5) Q_t_5 z_t_5 ++ (rc7 a (Q_t_5 0) Q_t_5_0 z_t_5_0 ++ (rc0 a (Q_t_5 1) Q_t_5_1 z_t_5_1 ++ (rc0 a (Q_t 7) Q_t_7 y.2.1 ++ (rc2 a (Q_t 9) Q_t_9 y.2.2 ++ (rc3 a q_R Q_R nc_R z_R)))))))) (pr := fun y => y.1) hP hD hS dX8_weeks_33
      · have h := ite_f c5 h
        refine lv_iload_n hx hb dX8_weeks_27 rfl (lv_at hl 4 rfl) ?_
        refine lv_iconst (v := 2) hx hb dX8_weeks_28 (by decide) ?_
        refine lv_icmp_le (tgt := 34) hx hb dX8_weeks_29 (by decide) (fun c6 => ?_) (fun c6 => ?_)
        · have h := ite_t c6 h
          refine lv_aload_n hx hb dX8_weeks_34 rfl (lv_at hl 1 rfl) ?_
          refine va_get (D := D) (v := .ref (Q_t 7)) (C := RX8) (T := TX8) (N := 11) hx hb hts iX8 hown hK.1 hP 0 rfl rfl 7 (by decide) (hts _ t_307) (fun _ h9 => h9) rfl dX8_weeks_35 ?_
          refine lv_aload_n hx hb dX8_weeks_38 rfl (lv_at hl 1 rfl) ?_
          refine va_get (D := D) (v := .ref (Q_t 5)) (C := RX8) (T := TX8) (N := 11) hx hb hts iX8 hown hK.1 hP 0 rfl rfl 5 (by decide) (hts _ t_305) (fun _ h9 => h9) rfl dX8_weeks_39 ?_
          refine va_get (D := D) (v := .ref (Q_t_5 1)) (C := RX5) (T := TX5) (N := 8) hx hb hts iX5 hown hK.1 hP 3 rfl rfl 1 (by decide) (hts _ t_163) (fun _ h9 => h9) rfl dX8_weeks_42 ?_
          obtain ⟨z8, hc7, h⟩ := bd_some h
          refine cMv (runV (As := [.ref (Q_t_5 1)]) (rest := []) C (mX0_copyFrom l D a (q_t := (Q_t 7)) (q_p1 := (Q_t_5 1)) (Q_t := Q_t_7) (Q_p1 := Q_t_5_1) hc7 s.heap.size) lk_V_8_236 okN_X0_copyFrom ⟨Nat.le_of_ble_eq_true rfl, Nat.le_of_ble_eq_true rfl⟩ ⟨rfl, rfl⟩ (preV (preM hK (P_of_map (wc := rc0 a (Q_t 7) Q_t_7 z_t_7 ++ (rc0 a (Q_t_5 1) Q_t_5_1 z_t_5_1)) hP [21, 22, 19, 20] rfl) (hD.sub (ws' := rc0 a (Q_t 7) Q_t_7 z_t_7 ++ (rc0 a (Q_t_5 1) Q_t_5_1 z_t_5_1)) [21, 22, 19, 20] (by decide) rfl)) (recvOf hK hP 21 rfl (ci := 0) rfl)) hl.1 rfl (Nat.le_of_ble_eq_true rfl) dX8_weeks_45 ⟨Nat.le_of_ble_eq_true rfl, Nat.le_of_ble_eq_true rfl⟩) hP hD hS hA [21, 22, 19, 20] [0, 1, 2, 3, 4, 5, 6, 7, 8, 9, 10, 11, 12, 13, 14, 15, 16, 17, 18, 23, 24, 25, 26, 27, 28, 29] [0, 1, 2, 3, 4, 5, 6, 7, 8, 9, 10, 11, 12, 13, 14, 15, 16, 17, 18, 28, 29, 26, 27, 19, 20, 21, 22, 23, 24, 25] rfl rfl (by decide) (by decide) (fw := rc8 a q_t Q_t z_t ++ (rb4 a (Q_t 2) 6 B_t_2 ++ (rc5 a (Q_t 5) Q_t_5 z_t_5 ++ (rc7 a (Q_t_5 0) Q_t_5_0 z_t_5_0 ++ (rc0 a (Q_t_5 1) Q_t_5_1 z_t_5_1 ++ (rc0 a (Q_t 7) Q_t_7 z8 ++ (rc2 a (Q_t 9) Q_t_9 z_t_9 ++ (rc3 a q_R Q_R nc_R z_R)))))))) rfl (by decide) (fun H locs hP hD hS => ?_)
          have hP : va_P D classes (rc8 a q_t Q_t z_t ++ (rb4 a (Q_t 2) 6 B_t_2 ++ (rc5 a (Q_t 5) Q_t_5 z_t_5 ++ (rc7 a (Q_t_5 0) Q_t_5_0 z_t_5_0 ++ (rc0 a (Q_t_5 1) Q_t_5_1 z_t_5_1 ++ (rc0 a (Q_t 7) Q_t_7 z8 ++ (rc2 a (Q_t 9) Q_t_9 z_t_9 ++ (rc3 a q_R Q_R nc_R z_R)))))))) H := hP
          have hD : va_D A (rc8 a q_t Q_t z_t ++ (rb4 a (Q_t 2) 6 B_t_2 ++ (rc5 a (Q_t 5) Q_t_5 z_t_5 ++ (rc7 a (Q_t_5 0) Q_t_5_0 z_t_5_0 ++ (rc0 a (Q_t_5 1) Q_t_5_1 z_t_5_1 ++ (rc0 a (Q_t 7) Q_t_7 z8 ++ (rc2 a (Q_t 9) Q_t_9 z_t_9 ++ (rc3 a q_R Q_R nc_R z_R)))))))) := hD
          refine lv_iconst (v := 0) hx hb dX8_weeks_48 (by decide) ?_
          refine lv_istore (lv' := [(5, .int 0), (4, .ref q_R), (0, .ref q_t), (1, .int x1), (2, .int x2), (3, .int x3)]) hx hb dX8_weeks_49 hl (by decide) rfl (fun ls hl => ?_)
          refine lv_iconst (v := 0) hx hb dX8_weeks_51 (by decide) ?_
          refine lv_istore (lv' := [(6, .int 0), (5, .int 0), (4, .ref q_R), (0, .ref q_t), (1, .int x1), (2, .int x2), (3, .int x3)]) hx hb dX8_weeks_52 hl (by decide) rfl (fun ls hl => ?_)
          refine wX8_weeks_some_54 C hK hA FU z8 z_t_9 0 0 _ _ ls h hP hD hS (lv_sub hl [3, 5, 6, 2, 1, 0] rfl)
        · have h := ite_f c6 h
          refine lv_iconst (v := (-1)) hx hb dX8_weeks_32 (by decide) ?_
          exact rMi C rfl h (g := fun y => rc8 a q_t Q_t z_t ++ (rb4 a (Q_t 2) 6 B_t_2 ++ (rc5 a (Q_t 5) Q_t_5 z_t_5 ++ (rc7 a (Q_t_5 0) Q_t_5_0 z_t_5_0 ++ (rc0 a (Q_t_5 1) Q_t_5_1 z_t_5_1 ++ (rc0 a (Q_t 7) Q_t_7 y.2.1 ++ (rc2 a (Q_t 9) Q_t_9 y.2.2 ++ (rc3 a q_R Q_R nc_R z_R)))))))) (pr := fun y => y.1) hP hD hS dX8_weeks_33

def lX4_readSum_8 (k69 : Sx → Sx → Int32 → Option (Sx × Sx)) (k126 : Sx → Sx → Int32 → Option (Sx × Sx)) : Nat → Sx → Sx → Int32 → Int32 → Option (Sx × Sx)
  | 0, _, _, _, _ => none
  | n + 1, z_t, z_t_0, x1, x2 => if 400 ≤ x2 then k126 z_t z_t_0 x1 else if (gI z_t_0 8) = 0 then jn (fun (i7 : Int32) => jn (jn (fun (z10 : Sx) (z11 : Sx) => jn (fun (i13 : Int32) => bd (fX6_step z11) (fun z15 => bd2 (fX4_readValue z10 z15) (fun z17 z18 => jn (fun (z20 : Sx) (z21 : Sx) => lX4_readSum_8 k69 k126 n z20 z21 i13 (x2 + 1)) (fun J19 => if i7 = 0 then J19 z17 z18 else bd (fX4_emit z17 (-(gI z_t_0 5))) (fun z24 => J19 z24 z18))))) (fun J12 => if i7 = 0 then J12 (gI z_t_0 5) else J12 x1)) (fun J9 => if i7 = 0 then if x1 = 0 then J9 z_t z_t_0 else bd (fX4_emit z_t (-x1)) (fun z29 => J9 z29 z_t_0) else J9 z_t z_t_0)) (fun J8 => if i7 = 0 then if (gI z_t_0 5) = 43 then J8 else if (gI z_t_0 5) = 45 then J8 else k69 z_t z_t_0 x1 else J8)) (fun J6 => jn (J6 1) (fun J33 => if (gI z_t_0 5) = 42 then J33 else if (gI z_t_0 5) = 47 then J33 else J6 0)) else k126 z_t z_t_0 x1
def fX4_readSum (z_t : Sx) (z_t_0 : Sx) : Option (Sx × Sx) := bd2 (fX4_readValue z_t z_t_0) (fun z2 z3 => lX4_readSum_8 (fun (z36 : Sx) (z37 : Sx) (i38 : Int32) => if i38 = 0 then some (z36, z37) else bd (fX4_emit z36 (-i38)) (fun z41 => some (z41, z37))) (fun (z42 : Sx) (z43 : Sx) (i44 : Int32) => if i44 = 0 then some (z42, z43) else bd (fX4_emit z42 (-i44)) (fun z47 => some (z47, z43))) FU z2 z3 0 0)

set_option maxHeartbeats 4000000 in
set_option maxRecDepth 100000 in
theorem wX4_readSum_8 {p : Program} {l : Launch} {e : Env} {s : State} {m : MethodId} {below : List Frame} {meth : Method} {c : Code} {D : va_G} {a : Nat → ClassId} {A : Nat → Prop} {q_t : Nat} {Q_t : Nat → Nat} {Q_t_0 : Nat → Nat} (C : Cx p s m #[.ref q_t] meth c MX4_readSum) (hK : KK D a s) (hA : ∀ q, s.heap.size ≤ q → A q) {y : Sx × Sx} {k69 : Sx → Sx → Int32 → Option (Sx × Sx)} {k126 : Sx → Sx → Int32 → Option (Sx × Sx)} (hk69 : ∀ (z_tk : Sx) (z_t_0k : Sx) (x1k : Int32) (H : Heap) (locs : List Loc) (ls : Array Slot), k69 z_tk z_t_0k x1k = some y → va_P D classes (rc4 a q_t Q_t z_tk ++ (rc6 a (Q_t 0) Q_t_0 z_t_0k)) H → va_D A (rc4 a q_t Q_t z_tk ++ (rc6 a (Q_t 0) Q_t_0 z_t_0k)) → va_S A s.heap H locs → lv_has ls 5 [(0, .ref q_t), (1, .int x1k)] → W p l e (rmM 2 0 0 43) s m #[.ref q_t] below meth c H locs 0 0 (MQ below (va_Qv (fun (_ : Unit) => True) (Bw D A (fun _ => rc4 a q_t Q_t y.1 ++ (rc6 a (Q_t 0) Q_t_0 y.2))) A) #[.ref q_t] s 0 0 A) (F0 m 69 ls [])) (hk126 : ∀ (z_tk : Sx) (z_t_0k : Sx) (x1k : Int32) (H : Heap) (locs : List Loc) (ls : Array Slot), k126 z_tk z_t_0k x1k = some y → va_P D classes (rc4 a q_t Q_t z_tk ++ (rc6 a (Q_t 0) Q_t_0 z_t_0k)) H → va_D A (rc4 a q_t Q_t z_tk ++ (rc6 a (Q_t 0) Q_t_0 z_t_0k)) → va_S A s.heap H locs → lv_has ls 5 [(0, .ref q_t), (1, .int x1k)] → W p l e (rmM 2 0 0 43) s m #[.ref q_t] below meth c H locs 0 0 (MQ below (va_Qv (fun (_ : Unit) => True) (Bw D A (fun _ => rc4 a q_t Q_t y.1 ++ (rc6 a (Q_t 0) Q_t_0 y.2))) A) #[.ref q_t] s 0 0 A) (F0 m 126 ls [])) : ∀ (n : Nat) (z_t : Sx) (z_t_0 : Sx) (x1 : Int32) (x2 : Int32) (H : Heap) (locs : List Loc) (ls : Array Slot), lX4_readSum_8 k69 k126 n z_t z_t_0 x1 x2 = some y → va_P D classes (rc4 a q_t Q_t z_t ++ (rc6 a (Q_t 0) Q_t_0 z_t_0)) H → va_D A (rc4 a q_t Q_t z_t ++ (rc6 a (Q_t 0) Q_t_0 z_t_0)) → va_S A s.heap H locs → lv_has ls 5 [(0, .ref q_t), (1, .int x1), (2, .int x2)] → W p l e (rmM 2 0 0 43) s m #[.ref q_t] below meth c H locs 0 0 (MQ below (va_Qv (fun (_ : Unit) => True) (Bw D A (fun _ => rc4 a q_t Q_t y.1 ++ (rc6 a (Q_t 0) Q_t_0 y.2))) A) #[.ref q_t] s 0 0 A) (F0 m 8 ls []) := by
  obtain ⟨hx, hb, hml, hown, hts, hr, hlocks, hnm⟩ := id C
  have hb : c.code = cX4_readSum := hb
  have hown : s.vm.findClass RX4 = some m.cls := hown
  intro n
  induction n with
  | zero => intro z_t z_t_0 x1 x2 H locs ls h; rw [lX4_readSum_8] at h; cases h
  | succ n ih =>
    intro z_t z_t_0 x1 x2 H locs ls h hP hD hS hl
    rw [lX4_readSum_8] at h
    refine lv_iload_n hx hb dX4_readSum_8 rfl (lv_at hl 2 rfl) ?_
    refine lv_sipush (v := 400) hx hb dX4_readSum_9 (by decide) ?_
    refine lv_icmp_ge (tgt := 126) hx hb dX4_readSum_12 (by decide) (fun c4 => ?_) (fun c4 => ?_)
    · have h := ite_t c4 h
      exact hk126 z_t z_t_0 x1 _ _ ls h hP hD hS (lv_sub hl [0, 1] rfl)
    · have h := ite_f c4 h
      refine lv_aload_n hx hb dX4_readSum_15 rfl (lv_at hl 0 rfl) ?_
      refine va_get (D := D) (v := .ref (Q_t 0)) (C := RX4) (T := TX4) (N := 8) hx hb hts iX4 hown hK.1 hP 0 rfl rfl 0 (by decide) (hts _ t_242) (fun _ h9 => h9) rfl dX4_readSum_16 ?_
      refine va_get (D := D) (v := .int (gI z_t_0 8)) (C := RX6) (T := TX6) (N := 9) hx hb hts iX6 hown hK.1 hP 5 rfl rfl 8 (by decide) (hts _ t_220) (fun _ h9 => h9) rfl dX4_readSum_19 ?_
      refine lv_if_ne (tgt := 126) hx hb dX4_readSum_22 (by decide) (fun c5 => ?_) (fun c5 => ?_)
      · have h := ite_f c5 h
        exact hk126 z_t z_t_0 x1 _ _ ls h hP hD hS (lv_sub hl [0, 1] rfl)
      · have h := ite_t c5 h
        refine lv_aload_n hx hb dX4_readSum_25 rfl (lv_at hl 0 rfl) ?_
        refine va_get (D := D) (v := .ref (Q_t 0)) (C := RX4) (T := TX4) (N := 8) hx hb hts iX4 hown hK.1 hP 0 rfl rfl 0 (by decide) (hts _ t_242) (fun _ h9 => h9) rfl dX4_readSum_26 ?_
        refine va_get (D := D) (v := .int (gI z_t_0 5)) (C := RX6) (T := TX6) (N := 9) hx hb hts iX6 hown hK.1 hP 5 rfl rfl 5 (by decide) (hts _ t_214) (fun _ h9 => h9) rfl dX4_readSum_29 ?_
        refine lv_istore_n (lv' := [(3, .int (gI z_t_0 5)), (0, .ref q_t), (1, .int x1), (2, .int x2)]) hx hb dX4_readSum_32 rfl hl (by decide) rfl (fun ls hl => ?_)
        refine lv_iload_n hx hb dX4_readSum_33 rfl (lv_at hl 0 rfl) ?_
        refine lv_bipush (v := 42) hx hb dX4_readSum_34 (by decide) ?_
        obtain ⟨J6, eJ6, h⟩ := jn_some h
        have hJ6 : ∀ (i7 : Int32) (H : Heap) (locs : List Loc) (ls : Array Slot), J6 i7 = some y → va_P D classes (rc4 a q_t Q_t z_t ++ (rc6 a (Q_t 0) Q_t_0 z_t_0)) H → va_D A (rc4 a q_t Q_t z_t ++ (rc6 a (Q_t 0) Q_t_0 z_t_0)) → va_S A s.heap H locs → lv_has ls 5 [(0, .ref q_t), (1, .int x1), (2, .int x2), (3, .int (gI z_t_0 5))] → W p l e (rmM 2 0 0 43) s m #[.ref q_t] below meth c H locs 0 0 (MQ below (va_Qv (fun (_ : Unit) => True) (Bw D A (fun _ => rc4 a q_t Q_t y.1 ++ (rc6 a (Q_t 0) Q_t_0 y.2))) A) #[.ref q_t] s 0 0 A) (F0 m 50 ls [.int i7]) := by
          intro i7 H locs ls h hP hD hS hl
          rw [eJ6] at h
          refine lv_istore (lv' := [(4, .int i7), (0, .ref q_t), (1, .int x1), (2, .int x2), (3, .int (gI z_t_0 5))]) hx hb dX4_readSum_50 hl (by decide) rfl (fun ls hl => ?_)
          refine lv_iload hx hb dX4_readSum_52 (lv_at hl 0 rfl) ?_
          obtain ⟨J8, eJ8, h⟩ := jn_some h
          have hJ8 : ∀ (H : Heap) (locs : List Loc) (ls : Array Slot), J8 = some y → va_P D classes (rc4 a q_t Q_t z_t ++ (rc6 a (Q_t 0) Q_t_0 z_t_0)) H → va_D A (rc4 a q_t Q_t z_t ++ (rc6 a (Q_t 0) Q_t_0 z_t_0)) → va_S A s.heap H locs → lv_has ls 5 [(0, .ref q_t), (1, .int x1), (2, .int x2), (3, .int (gI z_t_0 5)), (4, .int i7)] → W p l e (rmM 2 0 0 43) s m #[.ref q_t] below meth c H locs 0 0 (MQ below (va_Qv (fun (_ : Unit) => True) (Bw D A (fun _ => rc4 a q_t Q_t y.1 ++ (rc6 a (Q_t 0) Q_t_0 y.2))) A) #[.ref q_t] s 0 0 A) (F0 m 72 ls []) := by
            intro H locs ls h hP hD hS hl
            rw [eJ8] at h
            refine lv_iload hx hb dX4_readSum_72 (lv_at hl 4 rfl) ?_
            obtain ⟨J9, eJ9, h⟩ := jn_some h
            have hJ9 : ∀ (z10 : Sx) (z11 : Sx) (H : Heap) (locs : List Loc) (ls : Array Slot), J9 z10 z11 = some y → va_P D classes (rc4 a q_t Q_t z10 ++ (rc6 a (Q_t 0) Q_t_0 z11)) H → va_D A (rc4 a q_t Q_t z10 ++ (rc6 a (Q_t 0) Q_t_0 z11)) → va_S A s.heap H locs → lv_has ls 5 [(0, .ref q_t), (1, .int x1), (2, .int x2), (3, .int (gI z_t_0 5)), (4, .int i7)] → W p l e (rmM 2 0 0 43) s m #[.ref q_t] below meth c H locs 0 0 (MQ below (va_Qv (fun (_ : Unit) => True) (Bw D A (fun _ => rc4 a q_t Q_t y.1 ++ (rc6 a (Q_t 0) Q_t_0 y.2))) A) #[.ref q_t] s 0 0 A) (F0 m 87 ls []) := by
              intro z10 z11 H locs ls h hP hD hS hl
              rw [eJ9] at h
              refine lv_iload hx hb dX4_readSum_87 (lv_at hl 4 rfl) ?_
              obtain ⟨J12, eJ12, h⟩ := jn_some h
              have hJ12 : ∀ (i13 : Int32) (H : Heap) (locs : List Loc) (ls : Array Slot), J12 i13 = some y → va_P D classes (rc4 a q_t Q_t z10 ++ (rc6 a (Q_t 0) Q_t_0 z11)) H → va_D A (rc4 a q_t Q_t z10 ++ (rc6 a (Q_t 0) Q_t_0 z11)) → va_S A s.heap H locs → lv_has ls 5 [(0, .ref q_t), (2, .int x2), (3, .int (gI z_t_0 5)), (4, .int i7)] → W p l e (rmM 2 0 0 43) s m #[.ref q_t] below meth c H locs 0 0 (MQ below (va_Qv (fun (_ : Unit) => True) (Bw D A (fun _ => rc4 a q_t Q_t y.1 ++ (rc6 a (Q_t 0) Q_t_0 y.2))) A) #[.ref q_t] s 0 0 A) (F0 m 97 ls [.int i13]) := by
                intro i13 H locs ls h hP hD hS hl
                rw [eJ12] at h
                refine lv_istore_n (lv' := [(1, .int i13), (0, .ref q_t), (2, .int x2), (3, .int (gI z_t_0 5)), (4, .int i7)]) hx hb dX4_readSum_97 rfl hl (by decide) rfl (fun ls hl => ?_)
                refine lv_aload_n hx hb dX4_readSum_98 rfl (lv_at hl 1 rfl) ?_
                refine va_get (D := D) (v := .ref (Q_t 0)) (C := RX4) (T := TX4) (N := 8) hx hb hts iX4 hown hK.1 hP 0 rfl rfl 0 (by decide) (hts _ t_242) (fun _ h9 => h9) rfl dX4_readSum_99 ?_
                obtain ⟨z15, hc14, h⟩ := bd_some h
                refine cMv (runV (As := []) (rest := []) C (mX6_step l D a hc14 H.size) lk_V_4_72 okN_X6_step ⟨Nat.le_of_ble_eq_true rfl, Nat.le_of_ble_eq_true rfl⟩ ⟨rfl, rfl⟩ (preV (preM hK (P_of_map (wc := rc6 a (Q_t 0) Q_t_0 z11) hP [5, 6, 7, 8] rfl) (hD.sub (ws' := rc6 a (Q_t 0) Q_t_0 z11) [5, 6, 7, 8] (by decide) rfl)) (recvOf hK hP 5 rfl (ci := 6) rfl)) hl.1 rfl (Nat.le_of_ble_eq_true rfl) dX4_readSum_102 ⟨Nat.le_of_ble_eq_true rfl, Nat.le_of_ble_eq_true rfl⟩) hP hD hS hA [5, 6, 7, 8] [0, 1, 2, 3, 4] [0, 1, 2, 3, 4, 5, 6, 7, 8] rfl rfl (by decide) (by decide) (fw := rc4 a q_t Q_t z10 ++ (rc6 a (Q_t 0) Q_t_0 z15)) rfl (by decide) (fun H locs hP hD hS => ?_)
                have hP : va_P D classes (rc4 a q_t Q_t z10 ++ (rc6 a (Q_t 0) Q_t_0 z15)) H := hP
                have hD : va_D A (rc4 a q_t Q_t z10 ++ (rc6 a (Q_t 0) Q_t_0 z15)) := hD
                refine lv_aload_n hx hb dX4_readSum_105 rfl (lv_at hl 1 rfl) ?_
                obtain ⟨z17, z18, hc16, h⟩ := bd2_some h
                refine cWv (runV (As := []) (rest := []) C (mX4_readValue l D a hc16 H.size) lk_V_4_97 okN_X4_readValue ⟨Nat.le_of_ble_eq_true rfl, Nat.le_of_ble_eq_true rfl⟩ ⟨rfl, rfl⟩ (preV (preM hK hP hD) (recvOf hK hP 0 rfl (ci := 4) rfl)) hl.1 rfl (Nat.le_of_ble_eq_true rfl) dX4_readSum_106 ⟨Nat.le_of_ble_eq_true rfl, Nat.le_of_ble_eq_true rfl⟩) hP hD hS hA (fun H locs hP hD hS => ?_)
                have hP : va_P D classes (rc4 a q_t Q_t z17 ++ (rc6 a (Q_t 0) Q_t_0 z18)) H := hP
                have hD : va_D A (rc4 a q_t Q_t z17 ++ (rc6 a (Q_t 0) Q_t_0 z18)) := hD
                refine lv_iload hx hb dX4_readSum_109 (lv_at hl 4 rfl) ?_
                obtain ⟨J19, eJ19, h⟩ := jn_some h
                have hJ19 : ∀ (z20 : Sx) (z21 : Sx) (H : Heap) (locs : List Loc) (ls : Array Slot), J19 z20 z21 = some y → va_P D classes (rc4 a q_t Q_t z20 ++ (rc6 a (Q_t 0) Q_t_0 z21)) H → va_D A (rc4 a q_t Q_t z20 ++ (rc6 a (Q_t 0) Q_t_0 z21)) → va_S A s.heap H locs → lv_has ls 5 [(0, .ref q_t), (1, .int i13), (2, .int x2)] → W p l e (rmM 2 0 0 43) s m #[.ref q_t] below meth c H locs 0 0 (MQ below (va_Qv (fun (_ : Unit) => True) (Bw D A (fun _ => rc4 a q_t Q_t y.1 ++ (rc6 a (Q_t 0) Q_t_0 y.2))) A) #[.ref q_t] s 0 0 A) (F0 m 120 ls []) := by
                  intro z20 z21 H locs ls h hP hD hS hl
                  rw [eJ19] at h
                  refine lv_iinc (v := x2 + 1) (lv' := [(2, .int (x2 + 1)), (0, .ref q_t), (1, .int i13)]) hx hb dX4_readSum_120 hl (k := 2) rfl rfl (by decide) rfl (fun ls hl => ?_)
                  refine lv_goto (tgt := 8) hx hb dX4_readSum_123 (by decide) ?_
                  exact ih z20 z21 i13 (x2 + 1) _ _ ls h hP hD hS (lv_sub hl [1, 2, 0] rfl)
                refine lv_if_eq (tgt := 120) hx hb dX4_readSum_111 (by decide) (fun c22 => ?_) (fun c22 => ?_)
                · have h := ite_t c22 h
                  exact hJ19 z17 z18 _ _ ls h hP hD hS (lv_sub hl [1, 0, 2] rfl)
                · have h := ite_f c22 h
                  refine lv_aload_n hx hb dX4_readSum_114 rfl (lv_at hl 1 rfl) ?_
                  refine lv_iload_n hx hb dX4_readSum_115 rfl (lv_at hl 3 rfl) ?_
                  refine lv_ineg hx hb dX4_readSum_116 ?_
                  obtain ⟨z24, hc23, h⟩ := bd_some h
                  refine cMv (runV (As := [.int (-(gI z_t_0 5))]) (rest := []) C (mX4_emit l D a hc23 H.size) lk_V_4_91 okN_X4_emit ⟨Nat.le_of_ble_eq_true rfl, Nat.le_of_ble_eq_true rfl⟩ ⟨rfl, rfl⟩ (preV (preM hK (P_of_map (wc := rc4 a q_t Q_t z17) hP [0, 1, 2, 3, 4] rfl) (hD.sub (ws' := rc4 a q_t Q_t z17) [0, 1, 2, 3, 4] (by decide) rfl)) (recvOf hK hP 0 rfl (ci := 4) rfl)) hl.1 rfl (Nat.le_of_ble_eq_true rfl) dX4_readSum_117 ⟨Nat.le_of_ble_eq_true rfl, Nat.le_of_ble_eq_true rfl⟩) hP hD hS hA [0, 1, 2, 3, 4] [5, 6, 7, 8] [4, 5, 6, 7, 8, 0, 1, 2, 3] rfl rfl (by decide) (by decide) (fw := rc4 a q_t Q_t z24 ++ (rc6 a (Q_t 0) Q_t_0 z18)) rfl (by decide) (fun H locs hP hD hS => ?_)
                  have hP : va_P D classes (rc4 a q_t Q_t z24 ++ (rc6 a (Q_t 0) Q_t_0 z18)) H := hP
                  have hD : va_D A (rc4 a q_t Q_t z24 ++ (rc6 a (Q_t 0) Q_t_0 z18)) := hD
                  exact hJ19 z24 z18 _ _ ls h hP hD hS (lv_sub hl [1, 0, 2] rfl)
              refine lv_if_eq (tgt := 96) hx hb dX4_readSum_89 (by decide) (fun c25 => ?_) (fun c25 => ?_)
              · have h := ite_t c25 h
                refine lv_iload_n hx hb dX4_readSum_96 rfl (lv_at hl 3 rfl) ?_
                exact hJ12 (gI z_t_0 5) _ _ ls h hP hD hS (lv_sub hl [0, 2, 3, 4] rfl)
              · have h := ite_f c25 h
                refine lv_iload_n hx hb dX4_readSum_92 rfl (lv_at hl 1 rfl) ?_
                refine lv_goto (tgt := 97) hx hb dX4_readSum_93 (by decide) ?_
                exact hJ12 x1 _ _ ls h hP hD hS (lv_sub hl [0, 2, 3, 4] rfl)
            refine lv_if_ne (tgt := 87) hx hb dX4_readSum_74 (by decide) (fun c26 => ?_) (fun c26 => ?_)
            · have h := ite_f c26 h
              exact hJ9 z_t z_t_0 _ _ ls h hP hD hS (lv_sub hl [0, 1, 2, 3, 4] rfl)
            · have h := ite_t c26 h
              refine lv_iload_n hx hb dX4_readSum_77 rfl (lv_at hl 1 rfl) ?_
              refine lv_if_eq (tgt := 87) hx hb dX4_readSum_78 (by decide) (fun c27 => ?_) (fun c27 => ?_)
              · have h := ite_t c27 h
                exact hJ9 z_t z_t_0 _ _ ls h hP hD hS (lv_sub hl [0, 1, 2, 3, 4] rfl)
              · have h := ite_f c27 h
                refine lv_aload_n hx hb dX4_readSum_81 rfl (lv_at hl 0 rfl) ?_
                refine lv_iload_n hx hb dX4_readSum_82 rfl (lv_at hl 1 rfl) ?_
                refine lv_ineg hx hb dX4_readSum_83 ?_
                obtain ⟨z29, hc28, h⟩ := bd_some h
                refine cMv (runV (As := [.int (-x1)]) (rest := []) C (mX4_emit l D a hc28 H.size) lk_V_4_91 okN_X4_emit ⟨Nat.le_of_ble_eq_true rfl, Nat.le_of_ble_eq_true rfl⟩ ⟨rfl, rfl⟩ (preV (preM hK (P_of_map (wc := rc4 a q_t Q_t z_t) hP [0, 1, 2, 3, 4] rfl) (hD.sub (ws' := rc4 a q_t Q_t z_t) [0, 1, 2, 3, 4] (by decide) rfl)) (recvOf hK hP 0 rfl (ci := 4) rfl)) hl.1 rfl (Nat.le_of_ble_eq_true rfl) dX4_readSum_84 ⟨Nat.le_of_ble_eq_true rfl, Nat.le_of_ble_eq_true rfl⟩) hP hD hS hA [0, 1, 2, 3, 4] [5, 6, 7, 8] [4, 5, 6, 7, 8, 0, 1, 2, 3] rfl rfl (by decide) (by decide) (fw := rc4 a q_t Q_t z29 ++ (rc6 a (Q_t 0) Q_t_0 z_t_0)) rfl (by decide) (fun H locs hP hD hS => ?_)
                have hP : va_P D classes (rc4 a q_t Q_t z29 ++ (rc6 a (Q_t 0) Q_t_0 z_t_0)) H := hP
                have hD : va_D A (rc4 a q_t Q_t z29 ++ (rc6 a (Q_t 0) Q_t_0 z_t_0)) := hD
                exact hJ9 z29 z_t_0 _ _ ls h hP hD hS (lv_sub hl [0, 1, 2, 3, 4] rfl)
          refine lv_if_ne (tgt := 72) hx hb dX4_readSum_54 (by decide) (fun c30 => ?_) (fun c30 => ?_)
          · have h := ite_f c30 h
            exact hJ8 _ _ ls h hP hD hS (lv_sub hl [1, 2, 3, 4, 0] rfl)
          · have h := ite_t c30 h
            refine lv_iload_n hx hb dX4_readSum_57 rfl (lv_at hl 4 rfl) ?_
            refine lv_bipush (v := 43) hx hb dX4_readSum_58 (by decide) ?_
            refine lv_icmp_eq (tgt := 72) hx hb dX4_readSum_60 (by decide) (fun c31 => ?_) (fun c31 => ?_)
            · have h := ite_t c31 h
              exact hJ8 _ _ ls h hP hD hS (lv_sub hl [1, 2, 3, 4, 0] rfl)
            · have h := ite_f c31 h
              refine lv_iload_n hx hb dX4_readSum_63 rfl (lv_at hl 4 rfl) ?_
              refine lv_bipush (v := 45) hx hb dX4_readSum_64 (by decide) ?_
              refine lv_icmp_eq (tgt := 72) hx hb dX4_readSum_66 (by decide) (fun c32 => ?_) (fun c32 => ?_)
              · have h := ite_t c32 h
                exact hJ8 _ _ ls h hP hD hS (lv_sub hl [1, 2, 3, 4, 0] rfl)
              · have h := ite_f c32 h
                exact hk69 z_t z_t_0 x1 _ _ ls h hP hD hS (lv_sub hl [1, 2] rfl)
        obtain ⟨J33, eJ33, h⟩ := jn_some h
        have hJ33 : ∀ (H : Heap) (locs : List Loc) (ls : Array Slot), J33 = some y → va_P D classes (rc4 a q_t Q_t z_t ++ (rc6 a (Q_t 0) Q_t_0 z_t_0)) H → va_D A (rc4 a q_t Q_t z_t ++ (rc6 a (Q_t 0) Q_t_0 z_t_0)) → va_S A s.heap H locs → lv_has ls 5 [(0, .ref q_t), (1, .int x1), (2, .int x2), (3, .int (gI z_t_0 5))] → W p l e (rmM 2 0 0 43) s m #[.ref q_t] below meth c H locs 0 0 (MQ below (va_Qv (fun (_ : Unit) => True) (Bw D A (fun _ => rc4 a q_t Q_t y.1 ++ (rc6 a (Q_t 0) Q_t_0 y.2))) A) #[.ref q_t] s 0 0 A) (F0 m 45 ls []) := by
          intro H locs ls h hP hD hS hl
          rw [eJ33] at h
          refine lv_iconst (v := 1) hx hb dX4_readSum_45 (by decide) ?_
          refine lv_goto (tgt := 50) hx hb dX4_readSum_46 (by decide) ?_
          exact hJ6 1 _ _ ls h hP hD hS (lv_sub hl [0, 1, 2, 3] rfl)
        refine lv_icmp_eq (tgt := 45) hx hb dX4_readSum_36 (by decide) (fun c34 => ?_) (fun c34 => ?_)
        · have h := ite_t c34 h
          exact hJ33 _ _ ls h hP hD hS (lv_sub hl [1, 2, 3, 0] rfl)
        · have h := ite_f c34 h
          refine lv_iload_n hx hb dX4_readSum_39 rfl (lv_at hl 0 rfl) ?_
          refine lv_bipush (v := 47) hx hb dX4_readSum_40 (by decide) ?_
          refine lv_icmp_ne (tgt := 49) hx hb dX4_readSum_42 (by decide) (fun c35 => ?_) (fun c35 => ?_)
          · have h := ite_f c35 h
            refine lv_iconst (v := 0) hx hb dX4_readSum_49 (by decide) ?_
            exact hJ6 0 _ _ ls h hP hD hS (lv_sub hl [1, 2, 3, 0] rfl)
          · have h := ite_t c35 h
            exact hJ33 _ _ ls h hP hD hS (lv_sub hl [1, 2, 3, 0] rfl)

set_option maxHeartbeats 4000000 in
set_option maxRecDepth 100000 in
theorem mX4_readSum (l : Launch) (D : va_G) (a : Nat → ClassId) {q_t : Nat} {Q_t : Nat → Nat} {z_t : Sx} {Q_t_0 : Nat → Nat} {z_t_0 : Sx} {y : Sx × Sx} (h : fX4_readSum z_t z_t_0 = some y) (sz : Nat) : CMv (S := Unit) l MX4_readSum 2 43 0 0 D a [.ref q_t] (rc4 a q_t Q_t z_t ++ (rc6 a (Q_t 0) Q_t_0 z_t_0)) sz (fun _ => True) (fun _ => rc4 a q_t Q_t y.1 ++ (rc6 a (Q_t 0) Q_t_0 y.2)) := by
  unfold fX4_readSum at h
  refine entMv (by decide) (Nat.le_of_ble_eq_true rfl) ?_
  intro p e s m below meth c C hK A hA hP hD ls hl
  obtain ⟨hx, hb, hml, hown, hts, hr, hlocks, hnm⟩ := id C
  have hb : c.code = cX4_readSum := hb
  have hown : s.vm.findClass RX4 = some m.cls := hown
  have hS : va_S A s.heap s.heap [] := va_S.rf
  have hl : lv_has ls 5 [(0, .ref q_t)] := hl
  refine lv_iconst (v := 0) hx hb dX4_readSum_0 (by decide) ?_
  refine lv_istore_n (lv' := [(1, .int 0), (0, .ref q_t)]) hx hb dX4_readSum_1 rfl hl (by decide) rfl (fun ls hl => ?_)
  refine lv_aload_n hx hb dX4_readSum_2 rfl (lv_at hl 1 rfl) ?_
  obtain ⟨z2, z3, hc1, h⟩ := bd2_some h
  refine cWv (runV (As := []) (rest := []) C (mX4_readValue l D a hc1 s.heap.size) lk_V_4_97 okN_X4_readValue ⟨Nat.le_of_ble_eq_true rfl, Nat.le_of_ble_eq_true rfl⟩ ⟨rfl, rfl⟩ (preV (preM hK hP hD) (recvOf hK hP 0 rfl (ci := 4) rfl)) hl.1 rfl (Nat.le_of_ble_eq_true rfl) dX4_readSum_3 ⟨Nat.le_of_ble_eq_true rfl, Nat.le_of_ble_eq_true rfl⟩) hP hD hS hA (fun H locs hP hD hS => ?_)
  have hP : va_P D classes (rc4 a q_t Q_t z2 ++ (rc6 a (Q_t 0) Q_t_0 z3)) H := hP
  have hD : va_D A (rc4 a q_t Q_t z2 ++ (rc6 a (Q_t 0) Q_t_0 z3)) := hD
  refine lv_iconst (v := 0) hx hb dX4_readSum_6 (by decide) ?_
  refine lv_istore_n (lv' := [(2, .int 0), (1, .int 0), (0, .ref q_t)]) hx hb dX4_readSum_7 rfl hl (by decide) rfl (fun ls hl => ?_)
  refine wX4_readSum_8 C hK hA ?_ ?_ FU z2 z3 0 0 _ _ ls h hP hD hS (lv_sub hl [2, 1, 0] rfl)
  · intro z36 z37 i38 H locs ls h hP hD hS hl
    refine lv_goto (tgt := 126) hx hb dX4_readSum_69 (by decide) ?_
    refine lv_iload_n hx hb dX4_readSum_126 rfl (lv_at hl 1 rfl) ?_
    refine lv_if_eq (tgt := 136) hx hb dX4_readSum_127 (by decide) (fun c39 => ?_) (fun c39 => ?_)
    · have h := ite_t c39 h
      exact rMv C rfl h (g := fun y => rc4 a q_t Q_t y.1 ++ (rc6 a (Q_t 0) Q_t_0 y.2)) hP hD hS dX4_readSum_136
    · have h := ite_f c39 h
      refine lv_aload_n hx hb dX4_readSum_130 rfl (lv_at hl 0 rfl) ?_
      refine lv_iload_n hx hb dX4_readSum_131 rfl (lv_at hl 1 rfl) ?_
      refine lv_ineg hx hb dX4_readSum_132 ?_
      obtain ⟨z41, hc40, h⟩ := bd_some h
      refine cMv (runV (As := [.int (-i38)]) (rest := []) C (mX4_emit l D a hc40 H.size) lk_V_4_91 okN_X4_emit ⟨Nat.le_of_ble_eq_true rfl, Nat.le_of_ble_eq_true rfl⟩ ⟨rfl, rfl⟩ (preV (preM hK (P_of_map (wc := rc4 a q_t Q_t z36) hP [0, 1, 2, 3, 4] rfl) (hD.sub (ws' := rc4 a q_t Q_t z36) [0, 1, 2, 3, 4] (by decide) rfl)) (recvOf hK hP 0 rfl (ci := 4) rfl)) hl.1 rfl (Nat.le_of_ble_eq_true rfl) dX4_readSum_133 ⟨Nat.le_of_ble_eq_true rfl, Nat.le_of_ble_eq_true rfl⟩) hP hD hS hA [0, 1, 2, 3, 4] [5, 6, 7, 8] [4, 5, 6, 7, 8, 0, 1, 2, 3] rfl rfl (by decide) (by decide) (fw := rc4 a q_t Q_t z41 ++ (rc6 a (Q_t 0) Q_t_0 z37)) rfl (by decide) (fun H locs hP hD hS => ?_)
      have hP : va_P D classes (rc4 a q_t Q_t z41 ++ (rc6 a (Q_t 0) Q_t_0 z37)) H := hP
      have hD : va_D A (rc4 a q_t Q_t z41 ++ (rc6 a (Q_t 0) Q_t_0 z37)) := hD
      exact rMv C rfl h (g := fun y => rc4 a q_t Q_t y.1 ++ (rc6 a (Q_t 0) Q_t_0 y.2)) hP hD hS dX4_readSum_136
  · intro z42 z43 i44 H locs ls h hP hD hS hl
    refine lv_iload_n hx hb dX4_readSum_126 rfl (lv_at hl 1 rfl) ?_
    refine lv_if_eq (tgt := 136) hx hb dX4_readSum_127 (by decide) (fun c45 => ?_) (fun c45 => ?_)
    · have h := ite_t c45 h
      exact rMv C rfl h (g := fun y => rc4 a q_t Q_t y.1 ++ (rc6 a (Q_t 0) Q_t_0 y.2)) hP hD hS dX4_readSum_136
    · have h := ite_f c45 h
      refine lv_aload_n hx hb dX4_readSum_130 rfl (lv_at hl 0 rfl) ?_
      refine lv_iload_n hx hb dX4_readSum_131 rfl (lv_at hl 1 rfl) ?_
      refine lv_ineg hx hb dX4_readSum_132 ?_
      obtain ⟨z47, hc46, h⟩ := bd_some h
      refine cMv (runV (As := [.int (-i44)]) (rest := []) C (mX4_emit l D a hc46 H.size) lk_V_4_91 okN_X4_emit ⟨Nat.le_of_ble_eq_true rfl, Nat.le_of_ble_eq_true rfl⟩ ⟨rfl, rfl⟩ (preV (preM hK (P_of_map (wc := rc4 a q_t Q_t z42) hP [0, 1, 2, 3, 4] rfl) (hD.sub (ws' := rc4 a q_t Q_t z42) [0, 1, 2, 3, 4] (by decide) rfl)) (recvOf hK hP 0 rfl (ci := 4) rfl)) hl.1 rfl (Nat.le_of_ble_eq_true rfl) dX4_readSum_133 ⟨Nat.le_of_ble_eq_true rfl, Nat.le_of_ble_eq_true rfl⟩) hP hD hS hA [0, 1, 2, 3, 4] [5, 6, 7, 8] [4, 5, 6, 7, 8, 0, 1, 2, 3] rfl rfl (by decide) (by decide) (fw := rc4 a q_t Q_t z47 ++ (rc6 a (Q_t 0) Q_t_0 z43)) rfl (by decide) (fun H locs hP hD hS => ?_)
      have hP : va_P D classes (rc4 a q_t Q_t z47 ++ (rc6 a (Q_t 0) Q_t_0 z43)) H := hP
      have hD : va_D A (rc4 a q_t Q_t z47 ++ (rc6 a (Q_t 0) Q_t_0 z43)) := hD
      exact rMv C rfl h (g := fun y => rc4 a q_t Q_t y.1 ++ (rc6 a (Q_t 0) Q_t_0 y.2)) hP hD hS dX4_readSum_136

def fX4_readComparison (z_t : Sx) (z_t_0 : Sx) : Option (Sx × Sx) := bd2 (fX4_readSum z_t z_t_0) (fun z2 z3 => if (gI z3 8) = 0 then jn (if (gI z2 3) < 60 then bd (fX6_step z3) (fun z8 => bd2 (fX4_readSum (sI z2 3 ((gI z2 3) + 1)) z8) (fun z10 z11 => bd (fX4_emit z10 (-(gI z3 5))) (fun z13 => some (z13, z11)))) else bd (fX6_fail z3 3) (fun z15 => some (z2, z15))) (fun J5 => if (gI z3 5) = 60 then J5 else if (gI z3 5) = 256 then J5 else if (gI z3 5) = 61 then J5 else if (gI z3 5) = 257 then J5 else if (gI z3 5) = 62 then J5 else bd (fX6_fail z3 0) (fun z22 => some (z2, z22))) else some (z2, z3))

set_option maxHeartbeats 4000000 in
set_option maxRecDepth 100000 in
theorem mX4_readComparison (l : Launch) (D : va_G) (a : Nat → ClassId) {q_t : Nat} {Q_t : Nat → Nat} {z_t : Sx} {Q_t_0 : Nat → Nat} {z_t_0 : Sx} {y : Sx × Sx} (h : fX4_readComparison z_t z_t_0 = some y) (sz : Nat) : CMv (S := Unit) l MX4_readComparison 3 67 0 0 D a [.ref q_t] (rc4 a q_t Q_t z_t ++ (rc6 a (Q_t 0) Q_t_0 z_t_0)) sz (fun _ => True) (fun _ => rc4 a q_t Q_t y.1 ++ (rc6 a (Q_t 0) Q_t_0 y.2)) := by
  unfold fX4_readComparison at h
  refine entMv (by decide) (Nat.le_of_ble_eq_true rfl) ?_
  intro p e s m below meth c C hK A hA hP hD ls hl
  obtain ⟨hx, hb, hml, hown, hts, hr, hlocks, hnm⟩ := id C
  have hb : c.code = cX4_readComparison := hb
  have hown : s.vm.findClass RX4 = some m.cls := hown
  have hS : va_S A s.heap s.heap [] := va_S.rf
  have hl : lv_has ls 2 [(0, .ref q_t)] := hl
  refine lv_aload_n hx hb dX4_readComparison_0 rfl (lv_at hl 0 rfl) ?_
  obtain ⟨z2, z3, hc1, h⟩ := bd2_some h
  refine cWv (runV (As := []) (rest := []) C (mX4_readSum l D a hc1 s.heap.size) lk_V_4_79 okN_X4_readSum ⟨Nat.le_of_ble_eq_true rfl, Nat.le_of_ble_eq_true rfl⟩ ⟨rfl, rfl⟩ (preV (preM hK hP hD) (recvOf hK hP 0 rfl (ci := 4) rfl)) hl.1 rfl (Nat.le_of_ble_eq_true rfl) dX4_readComparison_1 ⟨Nat.le_of_ble_eq_true rfl, Nat.le_of_ble_eq_true rfl⟩) hP hD hS hA (fun H locs hP hD hS => ?_)
  have hP : va_P D classes (rc4 a q_t Q_t z2 ++ (rc6 a (Q_t 0) Q_t_0 z3)) H := hP
  have hD : va_D A (rc4 a q_t Q_t z2 ++ (rc6 a (Q_t 0) Q_t_0 z3)) := hD
  refine lv_aload_n hx hb dX4_readComparison_4 rfl (lv_at hl 0 rfl) ?_
  refine va_get (D := D) (v := .ref (Q_t 0)) (C := RX4) (T := TX4) (N := 8) hx hb hts iX4 hown hK.1 hP 0 rfl rfl 0 (by decide) (hts _ t_242) (fun _ h9 => h9) rfl dX4_readComparison_5 ?_
  refine va_get (D := D) (v := .int (gI z3 8)) (C := RX6) (T := TX6) (N := 9) hx hb hts iX6 hown hK.1 hP 5 rfl rfl 8 (by decide) (hts _ t_220) (fun _ h9 => h9) rfl dX4_readComparison_8 ?_
  refine lv_if_eq (tgt := 15) hx hb dX4_readComparison_11 (by decide) (fun c4 => ?_) (fun c4 => ?_)
  · have h := ite_t c4 h
    refine lv_aload_n hx hb dX4_readComparison_15 rfl (lv_at hl 0 rfl) ?_
    refine va_get (D := D) (v := .ref (Q_t 0)) (C := RX4) (T := TX4) (N := 8) hx hb hts iX4 hown hK.1 hP 0 rfl rfl 0 (by decide) (hts _ t_242) (fun _ h9 => h9) rfl dX4_readComparison_16 ?_
    refine va_get (D := D) (v := .int (gI z3 5)) (C := RX6) (T := TX6) (N := 9) hx hb hts iX6 hown hK.1 hP 5 rfl rfl 5 (by decide) (hts _ t_214) (fun _ h9 => h9) rfl dX4_readComparison_19 ?_
    refine lv_istore_n (lv' := [(1, .int (gI z3 5)), (0, .ref q_t)]) hx hb dX4_readComparison_22 rfl hl (by decide) rfl (fun ls hl => ?_)
    refine lv_iload_n hx hb dX4_readComparison_23 rfl (lv_at hl 0 rfl) ?_
    refine lv_bipush (v := 60) hx hb dX4_readComparison_24 (by decide) ?_
    obtain ⟨J5, eJ5, h⟩ := jn_some h
    have hJ5 : ∀ (H : Heap) (locs : List Loc) (ls : Array Slot), J5 = some y → va_P D classes (rc4 a q_t Q_t z2 ++ (rc6 a (Q_t 0) Q_t_0 z3)) H → va_D A (rc4 a q_t Q_t z2 ++ (rc6 a (Q_t 0) Q_t_0 z3)) → va_S A s.heap H locs → lv_has ls 2 [(0, .ref q_t), (1, .int (gI z3 5))] → W p l e (rmM 3 0 0 67) s m #[.ref q_t] below meth c H locs 0 0 (MQ below (va_Qv (fun (_ : Unit) => True) (Bw D A (fun _ => rc4 a q_t Q_t y.1 ++ (rc6 a (Q_t 0) Q_t_0 y.2))) A) #[.ref q_t] s 0 0 A) (F0 m 64 ls []) := by
      intro H locs ls h hP hD hS hl
      rw [eJ5] at h
      refine lv_aload_n hx hb dX4_readComparison_64 rfl (lv_at hl 0 rfl) ?_
      refine va_get (D := D) (v := .int (gI z2 3)) (C := RX4) (T := TX4) (N := 8) hx hb hts iX4 hown hK.1 hP 0 rfl rfl 3 (by decide) (hts _ t_246) (fun _ h9 => h9) rfl dX4_readComparison_65 ?_
      refine lv_bipush (v := 60) hx hb dX4_readComparison_68 (by decide) ?_
      refine lv_icmp_lt (tgt := 82) hx hb dX4_readComparison_70 (by decide) (fun c6 => ?_) (fun c6 => ?_)
      · have h := ite_t c6 h
        refine lv_aload_n hx hb dX4_readComparison_82 rfl (lv_at hl 0 rfl) ?_
        refine lv_dup hx hb dX4_readComparison_83 rfl ?_
        refine va_get (D := D) (v := .int (gI z2 3)) (C := RX4) (T := TX4) (N := 8) hx hb hts iX4 hown hK.1 hP 0 rfl rfl 3 (by decide) (hts _ t_246) (fun _ h9 => h9) rfl dX4_readComparison_84 ?_
        refine lv_iconst (v := 1) hx hb dX4_readComparison_87 (by decide) ?_
        refine lv_iadd hx hb dX4_readComparison_88 ?_
        refine va_put (D := D) (v := .int ((gI z2 3) + 1)) (C := RX4) (T := TX4) (N := 8) hx hb hts iX4 tyX4 tyX4_ok nmX4 hown hK.1 hP hD hS 0 rfl rfl 3 (by decide) (hts _ t_246) (fun _ h9 => h9) rfl (tyX4_ok 3 (by decide)) rfl rfl (Nat.le_of_ble_eq_true rfl) dX4_readComparison_89 (fun H locs hP hD hS => ?_)
        have hP : va_P D classes (rc4 a q_t Q_t (sI z2 3 ((gI z2 3) + 1)) ++ (rc6 a (Q_t 0) Q_t_0 z3)) H := hP
        have hD : va_D A (rc4 a q_t Q_t (sI z2 3 ((gI z2 3) + 1)) ++ (rc6 a (Q_t 0) Q_t_0 z3)) := hD
        refine lv_aload_n hx hb dX4_readComparison_92 rfl (lv_at hl 0 rfl) ?_
        refine va_get (D := D) (v := .ref (Q_t 0)) (C := RX4) (T := TX4) (N := 8) hx hb hts iX4 hown hK.1 hP 0 rfl rfl 0 (by decide) (hts _ t_242) (fun _ h9 => h9) rfl dX4_readComparison_93 ?_
        obtain ⟨z8, hc7, h⟩ := bd_some h
        refine cMv (runV (As := []) (rest := []) C (mX6_step l D a hc7 H.size) lk_V_4_72 okN_X6_step ⟨Nat.le_of_ble_eq_true rfl, Nat.le_of_ble_eq_true rfl⟩ ⟨rfl, rfl⟩ (preV (preM hK (P_of_map (wc := rc6 a (Q_t 0) Q_t_0 z3) hP [5, 6, 7, 8] rfl) (hD.sub (ws' := rc6 a (Q_t 0) Q_t_0 z3) [5, 6, 7, 8] (by decide) rfl)) (recvOf hK hP 5 rfl (ci := 6) rfl)) hl.1 rfl (Nat.le_of_ble_eq_true rfl) dX4_readComparison_96 ⟨Nat.le_of_ble_eq_true rfl, Nat.le_of_ble_eq_true rfl⟩) hP hD hS hA [5, 6, 7, 8] [0, 1, 2, 3, 4] [0, 1, 2, 3, 4, 5, 6, 7, 8] rfl rfl (by decide) (by decide) (fw := rc4 a q_t Q_t (sI z2 3 ((gI z2 3) + 1)) ++ (rc6 a (Q_t 0) Q_t_0 z8)) rfl (by decide) (fun H locs hP hD hS => ?_)
        have hP : va_P D classes (rc4 a q_t Q_t (sI z2 3 ((gI z2 3) + 1)) ++ (rc6 a (Q_t 0) Q_t_0 z8)) H := hP
        have hD : va_D A (rc4 a q_t Q_t (sI z2 3 ((gI z2 3) + 1)) ++ (rc6 a (Q_t 0) Q_t_0 z8)) := hD
        refine lv_aload_n hx hb dX4_readComparison_99 rfl (lv_at hl 0 rfl) ?_
        obtain ⟨z10, z11, hc9, h⟩ := bd2_some h
        refine cWv (runV (As := []) (rest := []) C (mX4_readSum l D a hc9 H.size) lk_V_4_79 okN_X4_readSum ⟨Nat.le_of_ble_eq_true rfl, Nat.le_of_ble_eq_true rfl⟩ ⟨rfl, rfl⟩ (preV (preM hK hP hD) (recvOf hK hP 0 rfl (ci := 4) rfl)) hl.1 rfl (Nat.le_of_ble_eq_true rfl) dX4_readComparison_100 ⟨Nat.le_of_ble_eq_true rfl, Nat.le_of_ble_eq_true rfl⟩) hP hD hS hA (fun H locs hP hD hS => ?_)
        have hP : va_P D classes (rc4 a q_t Q_t z10 ++ (rc6 a (Q_t 0) Q_t_0 z11)) H := hP
        have hD : va_D A (rc4 a q_t Q_t z10 ++ (rc6 a (Q_t 0) Q_t_0 z11)) := hD
        refine lv_aload_n hx hb dX4_readComparison_103 rfl (lv_at hl 0 rfl) ?_
        refine lv_iload_n hx hb dX4_readComparison_104 rfl (lv_at hl 1 rfl) ?_
        refine lv_ineg hx hb dX4_readComparison_105 ?_
        obtain ⟨z13, hc12, h⟩ := bd_some h
        refine cMv (runV (As := [.int (-(gI z3 5))]) (rest := []) C (mX4_emit l D a hc12 H.size) lk_V_4_91 okN_X4_emit ⟨Nat.le_of_ble_eq_true rfl, Nat.le_of_ble_eq_true rfl⟩ ⟨rfl, rfl⟩ (preV (preM hK (P_of_map (wc := rc4 a q_t Q_t z10) hP [0, 1, 2, 3, 4] rfl) (hD.sub (ws' := rc4 a q_t Q_t z10) [0, 1, 2, 3, 4] (by decide) rfl)) (recvOf hK hP 0 rfl (ci := 4) rfl)) hl.1 rfl (Nat.le_of_ble_eq_true rfl) dX4_readComparison_106 ⟨Nat.le_of_ble_eq_true rfl, Nat.le_of_ble_eq_true rfl⟩) hP hD hS hA [0, 1, 2, 3, 4] [5, 6, 7, 8] [4, 5, 6, 7, 8, 0, 1, 2, 3] rfl rfl (by decide) (by decide) (fw := rc4 a q_t Q_t z13 ++ (rc6 a (Q_t 0) Q_t_0 z11)) rfl (by decide) (fun H locs hP hD hS => ?_)
        have hP : va_P D classes (rc4 a q_t Q_t z13 ++ (rc6 a (Q_t 0) Q_t_0 z11)) H := hP
        have hD : va_D A (rc4 a q_t Q_t z13 ++ (rc6 a (Q_t 0) Q_t_0 z11)) := hD
        exact rMv C rfl h (g := fun y => rc4 a q_t Q_t y.1 ++ (rc6 a (Q_t 0) Q_t_0 y.2)) hP hD hS dX4_readComparison_109
      · have h := ite_f c6 h
        refine lv_aload_n hx hb dX4_readComparison_73 rfl (lv_at hl 0 rfl) ?_
        refine va_get (D := D) (v := .ref (Q_t 0)) (C := RX4) (T := TX4) (N := 8) hx hb hts iX4 hown hK.1 hP 0 rfl rfl 0 (by decide) (hts _ t_242) (fun _ h9 => h9) rfl dX4_readComparison_74 ?_
        refine lv_iconst (v := 3) hx hb dX4_readComparison_77 (by decide) ?_
        obtain ⟨z15, hc14, h⟩ := bd_some h
        refine cMv (runV (As := [.int 3]) (rest := []) C (mX6_fail l D a hc14 H.size) lk_V_4_68 okN_X6_fail ⟨Nat.le_of_ble_eq_true rfl, Nat.le_of_ble_eq_true rfl⟩ ⟨rfl, rfl⟩ (preV (preM hK (P_of_map (wc := rc6 a (Q_t 0) Q_t_0 z3) hP [5, 6, 7, 8] rfl) (hD.sub (ws' := rc6 a (Q_t 0) Q_t_0 z3) [5, 6, 7, 8] (by decide) rfl)) (recvOf hK hP 5 rfl (ci := 6) rfl)) hl.1 rfl (Nat.le_of_ble_eq_true rfl) dX4_readComparison_78 ⟨Nat.le_of_ble_eq_true rfl, Nat.le_of_ble_eq_true rfl⟩) hP hD hS hA [5, 6, 7, 8] [0, 1, 2, 3, 4] [0, 1, 2, 3, 4, 5, 6, 7, 8] rfl rfl (by decide) (by decide) (fw := rc4 a q_t Q_t z2 ++ (rc6 a (Q_t 0) Q_t_0 z15)) rfl (by decide) (fun H locs hP hD hS => ?_)
        have hP : va_P D classes (rc4 a q_t Q_t z2 ++ (rc6 a (Q_t 0) Q_t_0 z15)) H := hP
        have hD : va_D A (rc4 a q_t Q_t z2 ++ (rc6 a (Q_t 0) Q_t_0 z15)) := hD
        exact rMv C rfl h (g := fun y => rc4 a q_t Q_t y.1 ++ (rc6 a (Q_t 0) Q_t_0 y.2)) hP hD hS dX4_readComparison_81
    refine lv_icmp_eq (tgt := 64) hx hb dX4_readComparison_26 (by decide) (fun c16 => ?_) (fun c16 => ?_)
    · have h := ite_t c16 h
      exact hJ5 _ _ ls h hP hD hS (lv_sub hl [1, 0] rfl)
    · have h := ite_f c16 h
      refine lv_iload_n hx hb dX4_readComparison_29 rfl (lv_at hl 0 rfl) ?_
      refine lv_sipush (v := 256) hx hb dX4_readComparison_30 (by decide) ?_
      refine lv_icmp_eq (tgt := 64) hx hb dX4_readComparison_33 (by decide) (fun c17 => ?_) (fun c17 => ?_)
      · have h := ite_t c17 h
        exact hJ5 _ _ ls h hP hD hS (lv_sub hl [1, 0] rfl)
      · have h := ite_f c17 h
        refine lv_iload_n hx hb dX4_readComparison_36 rfl (lv_at hl 0 rfl) ?_
        refine lv_bipush (v := 61) hx hb dX4_readComparison_37 (by decide) ?_
        refine lv_icmp_eq (tgt := 64) hx hb dX4_readComparison_39 (by decide) (fun c18 => ?_) (fun c18 => ?_)
        · have h := ite_t c18 h
          exact hJ5 _ _ ls h hP hD hS (lv_sub hl [1, 0] rfl)
        · have h := ite_f c18 h
          refine lv_iload_n hx hb dX4_readComparison_42 rfl (lv_at hl 0 rfl) ?_
          refine lv_sipush (v := 257) hx hb dX4_readComparison_43 (by decide) ?_
          refine lv_icmp_eq (tgt := 64) hx hb dX4_readComparison_46 (by decide) (fun c19 => ?_) (fun c19 => ?_)
          · have h := ite_t c19 h
            exact hJ5 _ _ ls h hP hD hS (lv_sub hl [1, 0] rfl)
          · have h := ite_f c19 h
            refine lv_iload_n hx hb dX4_readComparison_49 rfl (lv_at hl 0 rfl) ?_
            refine lv_bipush (v := 62) hx hb dX4_readComparison_50 (by decide) ?_
            refine lv_icmp_eq (tgt := 64) hx hb dX4_readComparison_52 (by decide) (fun c20 => ?_) (fun c20 => ?_)
            · have h := ite_t c20 h
              exact hJ5 _ _ ls h hP hD hS (lv_sub hl [1, 0] rfl)
            · have h := ite_f c20 h
              refine lv_aload_n hx hb dX4_readComparison_55 rfl (lv_at hl 1 rfl) ?_
              refine va_get (D := D) (v := .ref (Q_t 0)) (C := RX4) (T := TX4) (N := 8) hx hb hts iX4 hown hK.1 hP 0 rfl rfl 0 (by decide) (hts _ t_242) (fun _ h9 => h9) rfl dX4_readComparison_56 ?_
              refine lv_iconst (v := 0) hx hb dX4_readComparison_59 (by decide) ?_
              obtain ⟨z22, hc21, h⟩ := bd_some h
              refine cMv (runV (As := [.int 0]) (rest := []) C (mX6_fail l D a hc21 H.size) lk_V_4_68 okN_X6_fail ⟨Nat.le_of_ble_eq_true rfl, Nat.le_of_ble_eq_true rfl⟩ ⟨rfl, rfl⟩ (preV (preM hK (P_of_map (wc := rc6 a (Q_t 0) Q_t_0 z3) hP [5, 6, 7, 8] rfl) (hD.sub (ws' := rc6 a (Q_t 0) Q_t_0 z3) [5, 6, 7, 8] (by decide) rfl)) (recvOf hK hP 5 rfl (ci := 6) rfl)) hl.1 rfl (Nat.le_of_ble_eq_true rfl) dX4_readComparison_60 ⟨Nat.le_of_ble_eq_true rfl, Nat.le_of_ble_eq_true rfl⟩) hP hD hS hA [5, 6, 7, 8] [0, 1, 2, 3, 4] [0, 1, 2, 3, 4, 5, 6, 7, 8] rfl rfl (by decide) (by decide) (fw := rc4 a q_t Q_t z2 ++ (rc6 a (Q_t 0) Q_t_0 z22)) rfl (by decide) (fun H locs hP hD hS => ?_)
              have hP : va_P D classes (rc4 a q_t Q_t z2 ++ (rc6 a (Q_t 0) Q_t_0 z22)) H := hP
              have hD : va_D A (rc4 a q_t Q_t z2 ++ (rc6 a (Q_t 0) Q_t_0 z22)) := hD
              exact rMv C rfl h (g := fun y => rc4 a q_t Q_t y.1 ++ (rc6 a (Q_t 0) Q_t_0 y.2)) hP hD hS dX4_readComparison_63
  · have h := ite_f c4 h
    exact rMv C rfl h (g := fun y => rc4 a q_t Q_t y.1 ++ (rc6 a (Q_t 0) Q_t_0 y.2)) hP hD hS dX4_readComparison_14

def gX4_readFact (rec : Sx → Sx → Int32 → Option (Sx × Sx)) (z_t : Sx) (z_t_0 : Sx) (x1 : Int32) : Option (Sx × Sx) := jn (fun (i2 : Int32) => jn (if x1 < 10 then bd (fX6_step z_t_0) (fun z6 => if i2 = 0 then bd2 (fX4_readTest rec z_t z6 (x1 + 1)) (fun z9 z10 => jn (bd (fX6_step z10) (fun z13 => some (z9, z13))) (fun J11 => if (gI z10 8) = 0 then if (gI z10 5) = 93 then J11 else bd (fX6_fail z10 0) (fun z17 => some (z9, z17)) else J11)) else bd2 (rec z_t z6 (x1 + 1)) (fun z19 z20 => bd (fX4_emit z19 (-311)) (fun z22 => some (z22, z20)))) else bd (fX6_fail z_t_0 2) (fun z24 => some (z_t, z24))) (fun J3 => if i2 = 0 then if (gI z_t_0 5) = 91 then J3 else bd2 (fX4_readComparison z_t z_t_0) (fun z28 z29 => some (z28, z29)) else J3)) (fun J1 => if (gI z_t_0 5) = 311 then J1 1 else J1 0)
def fX4_readFact : Nat → Sx → Sx → Int32 → Option (Sx × Sx)
  | 0 => fun _ _ _ => none
  | dp + 1 => gX4_readFact (fX4_readFact dp)

set_option maxHeartbeats 4000000 in
set_option maxRecDepth 100000 in
theorem gmX4_readFact (l : Launch) (D : va_G) (a : Nat → ClassId) {F LO : Nat} {rec : Sx → Sx → Int32 → Option (Sx × Sx)} (hrec : ∀ {q_t : Nat} {Q_t : Nat → Nat} {z_t : Sx} {Q_t_0 : Nat → Nat} {z_t_0 : Sx} {x1 : Int32} {y9 : Sx × Sx}, rec z_t z_t_0 x1 = some y9 → ∀ (sz : Nat), CMv (S := Unit) l MX4_readFact F LO 0 0 D a [.ref q_t, .int x1] (rc4 a q_t Q_t z_t ++ (rc6 a (Q_t 0) Q_t_0 z_t_0)) sz (fun _ => True) (fun _ => rc4 a q_t Q_t y9.1 ++ (rc6 a (Q_t 0) Q_t_0 y9.2))) (hF : 4 ≤ F) (hL : 88 ≤ LO) {q_t : Nat} {Q_t : Nat → Nat} {z_t : Sx} {Q_t_0 : Nat → Nat} {z_t_0 : Sx} {x1 : Int32} {y : Sx × Sx} (h : gX4_readFact rec z_t z_t_0 x1 = some y) (sz : Nat) : CMv (S := Unit) l MX4_readFact (F + 2) (LO + 46) 0 0 D a [.ref q_t, .int x1] (rc4 a q_t Q_t z_t ++ (rc6 a (Q_t 0) Q_t_0 z_t_0)) sz (fun _ => True) (fun _ => rc4 a q_t Q_t y.1 ++ (rc6 a (Q_t 0) Q_t_0 y.2)) := by
  unfold gX4_readFact at h
  refine entMv (by decide) (Nat.le_of_ble_eq_true rfl) ?_
  intro p e s m below meth c C hK A hA hP hD ls hl
  obtain ⟨hx, hb, hml, hown, hts, hr, hlocks, hnm⟩ := id C
  have hb : c.code = cX4_readFact := hb
  have hown : s.vm.findClass RX4 = some m.cls := hown
  have hS : va_S A s.heap s.heap [] := va_S.rf
  have hl : lv_has ls 3 [(0, .ref q_t), (1, .int x1)] := hl
  refine lv_aload_n hx hb dX4_readFact_0 rfl (lv_at hl 0 rfl) ?_
  refine va_get (D := D) (v := .ref (Q_t 0)) (C := RX4) (T := TX4) (N := 8) hx hb hts iX4 hown hK.1 hP 0 rfl rfl 0 (by decide) (hts _ t_242) (fun _ h9 => h9) rfl dX4_readFact_1 ?_
  refine va_get (D := D) (v := .int (gI z_t_0 5)) (C := RX6) (T := TX6) (N := 9) hx hb hts iX6 hown hK.1 hP 5 rfl rfl 5 (by decide) (hts _ t_214) (fun _ h9 => h9) rfl dX4_readFact_4 ?_
  refine lv_sipush (v := 311) hx hb dX4_readFact_7 (by decide) ?_
  obtain ⟨J1, eJ1, h⟩ := jn_some h
  have hJ1 : ∀ (i2 : Int32) (H : Heap) (locs : List Loc) (ls : Array Slot), J1 i2 = some y → va_P D classes (rc4 a q_t Q_t z_t ++ (rc6 a (Q_t 0) Q_t_0 z_t_0)) H → va_D A (rc4 a q_t Q_t z_t ++ (rc6 a (Q_t 0) Q_t_0 z_t_0)) → va_S A s.heap H locs → lv_has ls 3 [(0, .ref q_t), (1, .int x1)] → W p l e (rmM (F + 2) 0 0 (LO + 46)) s m #[.ref q_t, .int x1] below meth c H locs 0 0 (MQ below (va_Qv (fun (_ : Unit) => True) (Bw D A (fun _ => rc4 a q_t Q_t y.1 ++ (rc6 a (Q_t 0) Q_t_0 y.2))) A) #[.ref q_t, .int x1] s 0 0 A) (F0 m 18 ls [.int i2]) := by
    intro i2 H locs ls h hP hD hS hl
    rw [eJ1] at h
    refine lv_istore_n (lv' := [(2, .int i2), (0, .ref q_t), (1, .int x1)]) hx hb dX4_readFact_18 rfl hl (by decide) rfl (fun ls hl => ?_)
    refine lv_iload_n hx hb dX4_readFact_19 rfl (lv_at hl 0 rfl) ?_
    obtain ⟨J3, eJ3, h⟩ := jn_some h
    have hJ3 : ∀ (H : Heap) (locs : List Loc) (ls : Array Slot), J3 = some y → va_P D classes (rc4 a q_t Q_t z_t ++ (rc6 a (Q_t 0) Q_t_0 z_t_0)) H → va_D A (rc4 a q_t Q_t z_t ++ (rc6 a (Q_t 0) Q_t_0 z_t_0)) → va_S A s.heap H locs → lv_has ls 3 [(0, .ref q_t), (1, .int x1), (2, .int i2)] → W p l e (rmM (F + 2) 0 0 (LO + 46)) s m #[.ref q_t, .int x1] below meth c H locs 0 0 (MQ below (va_Qv (fun (_ : Unit) => True) (Bw D A (fun _ => rc4 a q_t Q_t y.1 ++ (rc6 a (Q_t 0) Q_t_0 y.2))) A) #[.ref q_t, .int x1] s 0 0 A) (F0 m 40 ls []) := by
      intro H locs ls h hP hD hS hl
      rw [eJ3] at h
      refine lv_iload_n hx hb dX4_readFact_40 rfl (lv_at hl 1 rfl) ?_
      refine lv_bipush (v := 10) hx hb dX4_readFact_41 (by decide) ?_
      refine lv_icmp_lt (tgt := 55) hx hb dX4_readFact_43 (by decide) (fun c4 => ?_) (fun c4 => ?_)
      · have h := ite_t c4 h
        refine lv_aload_n hx hb dX4_readFact_55 rfl (lv_at hl 0 rfl) ?_
        refine va_get (D := D) (v := .ref (Q_t 0)) (C := RX4) (T := TX4) (N := 8) hx hb hts iX4 hown hK.1 hP 0 rfl rfl 0 (by decide) (hts _ t_242) (fun _ h9 => h9) rfl dX4_readFact_56 ?_
        obtain ⟨z6, hc5, h⟩ := bd_some h
        refine cMv (runV (As := []) (rest := []) C (mX6_step l D a hc5 H.size) lk_V_4_72 okN_X6_step (by constructor; (show 0 + 1 ≤ F + 2; omega); (show 8 + (1 + 11) + (0) ≤ LO + 46; omega)) ⟨rfl, rfl⟩ (preV (preM hK (P_of_map (wc := rc6 a (Q_t 0) Q_t_0 z_t_0) hP [5, 6, 7, 8] rfl) (hD.sub (ws' := rc6 a (Q_t 0) Q_t_0 z_t_0) [5, 6, 7, 8] (by decide) rfl)) (recvOf hK hP 5 rfl (ci := 6) rfl)) hl.1 rfl (Nat.le_of_ble_eq_true rfl) dX4_readFact_59 ⟨Nat.le_of_ble_eq_true rfl, Nat.le_of_ble_eq_true rfl⟩) hP hD hS hA [5, 6, 7, 8] [0, 1, 2, 3, 4] [0, 1, 2, 3, 4, 5, 6, 7, 8] rfl rfl (by decide) (by decide) (fw := rc4 a q_t Q_t z_t ++ (rc6 a (Q_t 0) Q_t_0 z6)) rfl (by decide) (fun H locs hP hD hS => ?_)
        have hP : va_P D classes (rc4 a q_t Q_t z_t ++ (rc6 a (Q_t 0) Q_t_0 z6)) H := hP
        have hD : va_D A (rc4 a q_t Q_t z_t ++ (rc6 a (Q_t 0) Q_t_0 z6)) := hD
        refine lv_iload_n hx hb dX4_readFact_62 rfl (lv_at hl 2 rfl) ?_
        refine lv_if_eq (tgt := 81) hx hb dX4_readFact_63 (by decide) (fun c7 => ?_) (fun c7 => ?_)
        · have h := ite_t c7 h
          refine lv_aload_n hx hb dX4_readFact_81 rfl (lv_at hl 0 rfl) ?_
          refine lv_iload_n hx hb dX4_readFact_82 rfl (lv_at hl 1 rfl) ?_
          refine lv_iconst (v := 1) hx hb dX4_readFact_83 (by decide) ?_
          refine lv_iadd hx hb dX4_readFact_84 ?_
          obtain ⟨z9, z10, hc8, h⟩ := bd2_some h
          refine cWv (runV (As := [.int (x1 + 1)]) (rest := []) C (mX4_readTest l D a hrec (Nat.le_trans (by decide) hF) (Nat.le_trans (by decide) hL) hc8 H.size) lk_V_4_85 okN_X4_readTest (by constructor; (show F + 1 + 1 ≤ F + 2; omega); (show 8 + (5 + 11) + (LO + 22) ≤ LO + 46; omega)) ⟨rfl, rfl⟩ (preV (preM hK hP hD) (recvOf hK hP 0 rfl (ci := 4) rfl)) hl.1 rfl (Nat.le_of_ble_eq_true rfl) dX4_readFact_85 ⟨Nat.le_of_ble_eq_true rfl, Nat.le_of_ble_eq_true rfl⟩) hP hD hS hA (fun H locs hP hD hS => ?_)
          have hP : va_P D classes (rc4 a q_t Q_t z9 ++ (rc6 a (Q_t 0) Q_t_0 z10)) H := hP
          have hD : va_D A (rc4 a q_t Q_t z9 ++ (rc6 a (Q_t 0) Q_t_0 z10)) := hD
          refine lv_aload_n hx hb dX4_readFact_88 rfl (lv_at hl 0 rfl) ?_
          refine va_get (D := D) (v := .ref (Q_t 0)) (C := RX4) (T := TX4) (N := 8) hx hb hts iX4 hown hK.1 hP 0 rfl rfl 0 (by decide) (hts _ t_242) (fun _ h9 => h9) rfl dX4_readFact_89 ?_
          refine va_get (D := D) (v := .int (gI z10 8)) (C := RX6) (T := TX6) (N := 9) hx hb hts iX6 hown hK.1 hP 5 rfl rfl 8 (by decide) (hts _ t_220) (fun _ h9 => h9) rfl dX4_readFact_92 ?_
          obtain ⟨J11, eJ11, h⟩ := jn_some h
          have hJ11 : ∀ (H : Heap) (locs : List Loc) (ls : Array Slot), J11 = some y → va_P D classes (rc4 a q_t Q_t z9 ++ (rc6 a (Q_t 0) Q_t_0 z10)) H → va_D A (rc4 a q_t Q_t z9 ++ (rc6 a (Q_t 0) Q_t_0 z10)) → va_S A s.heap H locs → lv_has ls 3 [(0, .ref q_t)] → W p l e (rmM (F + 2) 0 0 (LO + 46)) s m #[.ref q_t, .int x1] below meth c H locs 0 0 (MQ below (va_Qv (fun (_ : Unit) => True) (Bw D A (fun _ => rc4 a q_t Q_t y.1 ++ (rc6 a (Q_t 0) Q_t_0 y.2))) A) #[.ref q_t, .int x1] s 0 0 A) (F0 m 119 ls []) := by
            intro H locs ls h hP hD hS hl
            rw [eJ11] at h
            refine lv_aload_n hx hb dX4_readFact_119 rfl (lv_at hl 0 rfl) ?_
            refine va_get (D := D) (v := .ref (Q_t 0)) (C := RX4) (T := TX4) (N := 8) hx hb hts iX4 hown hK.1 hP 0 rfl rfl 0 (by decide) (hts _ t_242) (fun _ h9 => h9) rfl dX4_readFact_120 ?_
            obtain ⟨z13, hc12, h⟩ := bd_some h
            refine cMv (runV (As := []) (rest := []) C (mX6_step l D a hc12 H.size) lk_V_4_72 okN_X6_step (by constructor; (show 0 + 1 ≤ F + 2; omega); (show 8 + (1 + 11) + (0) ≤ LO + 46; omega)) ⟨rfl, rfl⟩ (preV (preM hK (P_of_map (wc := rc6 a (Q_t 0) Q_t_0 z10) hP [5, 6, 7, 8] rfl) (hD.sub (ws' := rc6 a (Q_t 0) Q_t_0 z10) [5, 6, 7, 8] (by decide) rfl)) (recvOf hK hP 5 rfl (ci := 6) rfl)) hl.1 rfl (Nat.le_of_ble_eq_true rfl) dX4_readFact_123 ⟨Nat.le_of_ble_eq_true rfl, Nat.le_of_ble_eq_true rfl⟩) hP hD hS hA [5, 6, 7, 8] [0, 1, 2, 3, 4] [0, 1, 2, 3, 4, 5, 6, 7, 8] rfl rfl (by decide) (by decide) (fw := rc4 a q_t Q_t z9 ++ (rc6 a (Q_t 0) Q_t_0 z13)) rfl (by decide) (fun H locs hP hD hS => ?_)
            have hP : va_P D classes (rc4 a q_t Q_t z9 ++ (rc6 a (Q_t 0) Q_t_0 z13)) H := hP
            have hD : va_D A (rc4 a q_t Q_t z9 ++ (rc6 a (Q_t 0) Q_t_0 z13)) := hD
            exact rMv C rfl h (g := fun y => rc4 a q_t Q_t y.1 ++ (rc6 a (Q_t 0) Q_t_0 y.2)) hP hD hS dX4_readFact_126
          refine lv_if_ne (tgt := 119) hx hb dX4_readFact_95 (by decide) (fun c14 => ?_) (fun c14 => ?_)
          · have h := ite_f c14 h
            exact hJ11 _ _ ls h hP hD hS (lv_sub hl [0] rfl)
          · have h := ite_t c14 h
            refine lv_aload_n hx hb dX4_readFact_98 rfl (lv_at hl 0 rfl) ?_
            refine va_get (D := D) (v := .ref (Q_t 0)) (C := RX4) (T := TX4) (N := 8) hx hb hts iX4 hown hK.1 hP 0 rfl rfl 0 (by decide) (hts _ t_242) (fun _ h9 => h9) rfl dX4_readFact_99 ?_
            refine va_get (D := D) (v := .int (gI z10 5)) (C := RX6) (T := TX6) (N := 9) hx hb hts iX6 hown hK.1 hP 5 rfl rfl 5 (by decide) (hts _ t_214) (fun _ h9 => h9) rfl dX4_readFact_102 ?_
            refine lv_bipush (v := 93) hx hb dX4_readFact_105 (by decide) ?_
            refine lv_icmp_eq (tgt := 119) hx hb dX4_readFact_107 (by decide) (fun c15 => ?_) (fun c15 => ?_)
            · have h := ite_t c15 h
              exact hJ11 _ _ ls h hP hD hS (lv_sub hl [0] rfl)
            · have h := ite_f c15 h
              refine lv_aload_n hx hb dX4_readFact_110 rfl (lv_at hl 0 rfl) ?_
              refine va_get (D := D) (v := .ref (Q_t 0)) (C := RX4) (T := TX4) (N := 8) hx hb hts iX4 hown hK.1 hP 0 rfl rfl 0 (by decide) (hts _ t_242) (fun _ h9 => h9) rfl dX4_readFact_111 ?_
              refine lv_iconst (v := 0) hx hb dX4_readFact_114 (by decide) ?_
              obtain ⟨z17, hc16, h⟩ := bd_some h
              refine cMv (runV (As := [.int 0]) (rest := []) C (mX6_fail l D a hc16 H.size) lk_V_4_68 okN_X6_fail (by constructor; (show 0 + 1 ≤ F + 2; omega); (show 8 + (2 + 11) + (0) ≤ LO + 46; omega)) ⟨rfl, rfl⟩ (preV (preM hK (P_of_map (wc := rc6 a (Q_t 0) Q_t_0 z10) hP [5, 6, 7, 8] rfl) (hD.sub (ws' := rc6 a (Q_t 0) Q_t_0 z10) [5, 6, 7, 8] (by decide) rfl)) (recvOf hK hP 5 rfl (ci := 6) rfl)) hl.1 rfl (Nat.le_of_ble_eq_true rfl) dX4_readFact_115 ⟨Nat.le_of_ble_eq_true rfl, Nat.le_of_ble_eq_true rfl⟩) hP hD hS hA [5, 6, 7, 8] [0, 1, 2, 3, 4] [0, 1, 2, 3, 4, 5, 6, 7, 8] rfl rfl (by decide) (by decide) (fw := rc4 a q_t Q_t z9 ++ (rc6 a (Q_t 0) Q_t_0 z17)) rfl (by decide) (fun H locs hP hD hS => ?_)
              have hP : va_P D classes (rc4 a q_t Q_t z9 ++ (rc6 a (Q_t 0) Q_t_0 z17)) H := hP
              have hD : va_D A (rc4 a q_t Q_t z9 ++ (rc6 a (Q_t 0) Q_t_0 z17)) := hD
              exact rMv C rfl h (g := fun y => rc4 a q_t Q_t y.1 ++ (rc6 a (Q_t 0) Q_t_0 y.2)) hP hD hS dX4_readFact_118
        · have h := ite_f c7 h
          refine lv_aload_n hx hb dX4_readFact_66 rfl (lv_at hl 0 rfl) ?_
          refine lv_iload_n hx hb dX4_readFact_67 rfl (lv_at hl 1 rfl) ?_
          refine lv_iconst (v := 1) hx hb dX4_readFact_68 (by decide) ?_
          refine lv_iadd hx hb dX4_readFact_69 ?_
          obtain ⟨z19, z20, hc18, h⟩ := bd2_some h
          refine cWv (runV (As := [.int (x1 + 1)]) (rest := []) C (hrec hc18 H.size) lk_V_4_88 okN_X4_readFact (by constructor; (show F + 0 + 1 ≤ F + 2; omega); (show 8 + (3 + 11) + (LO + 0) ≤ LO + 46; omega)) ⟨rfl, rfl⟩ (preV (preM hK hP hD) (recvOf hK hP 0 rfl (ci := 4) rfl)) hl.1 rfl (Nat.le_of_ble_eq_true rfl) dX4_readFact_70 ⟨Nat.le_of_ble_eq_true rfl, Nat.le_of_ble_eq_true rfl⟩) hP hD hS hA (fun H locs hP hD hS => ?_)
          have hP : va_P D classes (rc4 a q_t Q_t z19 ++ (rc6 a (Q_t 0) Q_t_0 z20)) H := hP
          have hD : va_D A (rc4 a q_t Q_t z19 ++ (rc6 a (Q_t 0) Q_t_0 z20)) := hD
          refine lv_aload_n hx hb dX4_readFact_73 rfl (lv_at hl 0 rfl) ?_
          refine lv_sipush (v := (-311)) hx hb dX4_readFact_74 (by decide) ?_
          obtain ⟨z22, hc21, h⟩ := bd_some h
          refine cMv (runV (As := [.int (-311)]) (rest := []) C (mX4_emit l D a hc21 H.size) lk_V_4_91 okN_X4_emit (by constructor; (show 0 + 1 ≤ F + 2; omega); (show 8 + (2 + 11) + (0) ≤ LO + 46; omega)) ⟨rfl, rfl⟩ (preV (preM hK (P_of_map (wc := rc4 a q_t Q_t z19) hP [0, 1, 2, 3, 4] rfl) (hD.sub (ws' := rc4 a q_t Q_t z19) [0, 1, 2, 3, 4] (by decide) rfl)) (recvOf hK hP 0 rfl (ci := 4) rfl)) hl.1 rfl (Nat.le_of_ble_eq_true rfl) dX4_readFact_77 ⟨Nat.le_of_ble_eq_true rfl, Nat.le_of_ble_eq_true rfl⟩) hP hD hS hA [0, 1, 2, 3, 4] [5, 6, 7, 8] [4, 5, 6, 7, 8, 0, 1, 2, 3] rfl rfl (by decide) (by decide) (fw := rc4 a q_t Q_t z22 ++ (rc6 a (Q_t 0) Q_t_0 z20)) rfl (by decide) (fun H locs hP hD hS => ?_)
          have hP : va_P D classes (rc4 a q_t Q_t z22 ++ (rc6 a (Q_t 0) Q_t_0 z20)) H := hP
          have hD : va_D A (rc4 a q_t Q_t z22 ++ (rc6 a (Q_t 0) Q_t_0 z20)) := hD
          exact rMv C rfl h (g := fun y => rc4 a q_t Q_t y.1 ++ (rc6 a (Q_t 0) Q_t_0 y.2)) hP hD hS dX4_readFact_80
      · have h := ite_f c4 h
        refine lv_aload_n hx hb dX4_readFact_46 rfl (lv_at hl 0 rfl) ?_
        refine va_get (D := D) (v := .ref (Q_t 0)) (C := RX4) (T := TX4) (N := 8) hx hb hts iX4 hown hK.1 hP 0 rfl rfl 0 (by decide) (hts _ t_242) (fun _ h9 => h9) rfl dX4_readFact_47 ?_
        refine lv_iconst (v := 2) hx hb dX4_readFact_50 (by decide) ?_
        obtain ⟨z24, hc23, h⟩ := bd_some h
        refine cMv (runV (As := [.int 2]) (rest := []) C (mX6_fail l D a hc23 H.size) lk_V_4_68 okN_X6_fail (by constructor; (show 0 + 1 ≤ F + 2; omega); (show 8 + (2 + 11) + (0) ≤ LO + 46; omega)) ⟨rfl, rfl⟩ (preV (preM hK (P_of_map (wc := rc6 a (Q_t 0) Q_t_0 z_t_0) hP [5, 6, 7, 8] rfl) (hD.sub (ws' := rc6 a (Q_t 0) Q_t_0 z_t_0) [5, 6, 7, 8] (by decide) rfl)) (recvOf hK hP 5 rfl (ci := 6) rfl)) hl.1 rfl (Nat.le_of_ble_eq_true rfl) dX4_readFact_51 ⟨Nat.le_of_ble_eq_true rfl, Nat.le_of_ble_eq_true rfl⟩) hP hD hS hA [5, 6, 7, 8] [0, 1, 2, 3, 4] [0, 1, 2, 3, 4, 5, 6, 7, 8] rfl rfl (by decide) (by decide) (fw := rc4 a q_t Q_t z_t ++ (rc6 a (Q_t 0) Q_t_0 z24)) rfl (by decide) (fun H locs hP hD hS => ?_)
        have hP : va_P D classes (rc4 a q_t Q_t z_t ++ (rc6 a (Q_t 0) Q_t_0 z24)) H := hP
        have hD : va_D A (rc4 a q_t Q_t z_t ++ (rc6 a (Q_t 0) Q_t_0 z24)) := hD
        exact rMv C rfl h (g := fun y => rc4 a q_t Q_t y.1 ++ (rc6 a (Q_t 0) Q_t_0 y.2)) hP hD hS dX4_readFact_54
    refine lv_if_ne (tgt := 40) hx hb dX4_readFact_20 (by decide) (fun c25 => ?_) (fun c25 => ?_)
    · have h := ite_f c25 h
      exact hJ3 _ _ ls h hP hD hS (lv_sub hl [1, 2, 0] rfl)
    · have h := ite_t c25 h
      refine lv_aload_n hx hb dX4_readFact_23 rfl (lv_at hl 1 rfl) ?_
      refine va_get (D := D) (v := .ref (Q_t 0)) (C := RX4) (T := TX4) (N := 8) hx hb hts iX4 hown hK.1 hP 0 rfl rfl 0 (by decide) (hts _ t_242) (fun _ h9 => h9) rfl dX4_readFact_24 ?_
      refine va_get (D := D) (v := .int (gI z_t_0 5)) (C := RX6) (T := TX6) (N := 9) hx hb hts iX6 hown hK.1 hP 5 rfl rfl 5 (by decide) (hts _ t_214) (fun _ h9 => h9) rfl dX4_readFact_27 ?_
      refine lv_bipush (v := 91) hx hb dX4_readFact_30 (by decide) ?_
      refine lv_icmp_eq (tgt := 40) hx hb dX4_readFact_32 (by decide) (fun c26 => ?_) (fun c26 => ?_)
      · have h := ite_t c26 h
        exact hJ3 _ _ ls h hP hD hS (lv_sub hl [1, 2, 0] rfl)
      · have h := ite_f c26 h
        refine lv_aload_n hx hb dX4_readFact_35 rfl (lv_at hl 1 rfl) ?_
        obtain ⟨z28, z29, hc27, h⟩ := bd2_some h
        refine cWv (runV (As := []) (rest := []) C (mX4_readComparison l D a hc27 H.size) lk_V_4_94 okN_X4_readComparison (by constructor; (show 3 + 1 ≤ F + 2; omega); (show 8 + (2 + 11) + (67) ≤ LO + 46; omega)) ⟨rfl, rfl⟩ (preV (preM hK hP hD) (recvOf hK hP 0 rfl (ci := 4) rfl)) hl.1 rfl (Nat.le_of_ble_eq_true rfl) dX4_readFact_36 ⟨Nat.le_of_ble_eq_true rfl, Nat.le_of_ble_eq_true rfl⟩) hP hD hS hA (fun H locs hP hD hS => ?_)
        have hP : va_P D classes (rc4 a q_t Q_t z28 ++ (rc6 a (Q_t 0) Q_t_0 z29)) H := hP
        have hD : va_D A (rc4 a q_t Q_t z28 ++ (rc6 a (Q_t 0) Q_t_0 z29)) := hD
        exact rMv C rfl h (g := fun y => rc4 a q_t Q_t y.1 ++ (rc6 a (Q_t 0) Q_t_0 y.2)) hP hD hS dX4_readFact_39
  refine lv_icmp_ne (tgt := 17) hx hb dX4_readFact_10 (by decide) (fun c30 => ?_) (fun c30 => ?_)
  · have h := ite_f c30 h
    refine lv_iconst (v := 0) hx hb dX4_readFact_17 (by decide) ?_
    exact hJ1 0 _ _ ls h hP hD hS (lv_sub hl [0, 1] rfl)
  · have h := ite_t c30 h
    refine lv_iconst (v := 1) hx hb dX4_readFact_13 (by decide) ?_
    refine lv_goto (tgt := 18) hx hb dX4_readFact_14 (by decide) ?_
    exact hJ1 1 _ _ ls h hP hD hS (lv_sub hl [0, 1] rfl)

set_option maxHeartbeats 4000000 in
theorem mX4_readFact (l : Launch) (D : va_G) (a : Nat → ClassId) : ∀ (dp : Nat) {q_t : Nat} {Q_t : Nat → Nat} {z_t : Sx} {Q_t_0 : Nat → Nat} {z_t_0 : Sx} {x1 : Int32} {y : Sx × Sx}, fX4_readFact dp z_t z_t_0 x1 = some y → ∀ (sz : Nat), CMv (S := Unit) l MX4_readFact (4 + 2 * dp) (88 + 46 * dp) 0 0 D a [.ref q_t, .int x1] (rc4 a q_t Q_t z_t ++ (rc6 a (Q_t 0) Q_t_0 z_t_0)) sz (fun _ => True) (fun _ => rc4 a q_t Q_t y.1 ++ (rc6 a (Q_t 0) Q_t_0 y.2)) := by
  intro dp
  induction dp with
  | zero => intros; rename_i h _; cases h
  | succ dp ih =>
    intros
    rename_i h sz
    have e1 : 4 + 2 * (dp + 1) = 4 + 2 * dp + 2 := by omega
    have e2 : 88 + 46 * (dp + 1) = 88 + 46 * dp + 46 := by omega
    rw [e1, e2]
    exact gmX4_readFact l D a ih (by omega) (by omega) h sz

def fX8_put (n_p0 : Nat) (f_p0 : Nat → Int32) (x1 : Int32) (x2 : Int32) : Option ((Nat → Int32)) := if x1 < 0 then some f_p0 else if (nI n_p0) ≤ x1 then some f_p0 else gd (inb x1 n_p0) (some (upd f_p0 x1.toNatClampNeg x2))

set_option maxHeartbeats 4000000 in
set_option maxRecDepth 100000 in
theorem mX8_put (l : Launch) (D : va_G) (a : Nat → ClassId) {q_p0 : Nat} {n_p0 : Nat} {f_p0 : Nat → Int32} {x1 : Int32} {x2 : Int32} {y : (Nat → Int32)} (h : fX8_put n_p0 f_p0 x1 x2 = some y) (sz : Nat) : CMv (S := Unit) l MX8_put 0 0 0 0 D a [.ref q_p0, .int x1, .int x2] (ra0 a q_p0 n_p0 f_p0) sz (fun _ => True) (fun _ => ra0 a q_p0 n_p0 y) := by
  unfold fX8_put at h
  refine entMv (by decide) (Nat.le_of_ble_eq_true rfl) ?_
  intro p e s m below meth c C hK A hA hP hD ls hl
  obtain ⟨hx, hb, hml, hown, hts, hr, hlocks, hnm⟩ := id C
  have hb : c.code = cX8_put := hb
  have hown : s.vm.findClass RX8 = some m.cls := hown
  have hS : va_S A s.heap s.heap [] := va_S.rf
  have hl : lv_has ls 3 [(0, .ref q_p0), (1, .int x1), (2, .int x2)] := hl
  refine lv_iload_n hx hb dX8_put_0 rfl (lv_at hl 1 rfl) ?_
  refine lv_if_lt (tgt := 14) hx hb dX8_put_1 (by decide) (fun c1 => ?_) (fun c1 => ?_)
  · have h := ite_t c1 h
    exact rMv C rfl h (g := fun y => ra0 a q_p0 n_p0 y) hP hD hS dX8_put_14
  · have h := ite_f c1 h
    refine lv_iload_n hx hb dX8_put_4 rfl (lv_at hl 1 rfl) ?_
    refine lv_aload_n hx hb dX8_put_5 rfl (lv_at hl 0 rfl) ?_
    refine va_alen (v := nI n_p0) hx hb hK.1 hP 0 0 rfl rfl rfl dX8_put_6 ?_
    refine lv_icmp_ge (tgt := 14) hx hb dX8_put_7 (by decide) (fun c2 => ?_) (fun c2 => ?_)
    · have h := ite_t c2 h
      exact rMv C rfl h (g := fun y => ra0 a q_p0 n_p0 y) hP hD hS dX8_put_14
    · have h := ite_f c2 h
      refine lv_aload_n hx hb dX8_put_10 rfl (lv_at hl 0 rfl) ?_
      refine lv_iload_n hx hb dX8_put_11 rfl (lv_at hl 1 rfl) ?_
      refine lv_iload_n hx hb dX8_put_12 rfl (lv_at hl 2 rfl) ?_
      obtain ⟨g3, h⟩ := gd_some h
      refine ast_i hx hb hK.1 hP hD hS 0 0 rfl rfl x1.toNatClampNeg (ix_g g3) dX8_put_13 (fun H locs hP hD hS => ?_)
      have hP : va_P D classes (ra0 a q_p0 n_p0 (upd f_p0 x1.toNatClampNeg x2)) H := hP
      have hD : va_D A (ra0 a q_p0 n_p0 (upd f_p0 x1.toNatClampNeg x2)) := hD
      exact rMv C rfl h (g := fun y => ra0 a q_p0 n_p0 y) hP hD hS dX8_put_14

def lX7_orderLooks_56 (k112 : Sx → Int32 → Option (Sx)) (x1 : Int32) : Nat → Sx → Int32 → Option (Sx)
  | 0, _, _ => none
  | n + 1, z_t, x2 => if x2 ≤ 0 then k112 z_t x2 else bd (fX8_at 10 (gT z_t 16) (x2 - 1)) (fun r12 => bd (fX8_at 10 (gT z_t 15) r12) (fun r14 => bd (fX8_at 10 (gT z_t 15) x1) (fun r16 => if r16 ≤ r14 then k112 z_t x2 else bd (fX8_at 10 (gT z_t 16) (x2 - 1)) (fun r19 => bd (fX8_put 10 (gT z_t 16) x2 r19) (fun z21 => lX7_orderLooks_56 k112 x1 n (sTf z_t 16 z21) (x2 + (-1)))))))
def lX7_orderLooks_2 : Nat → Sx → Int32 → Option (Sx)
  | 0, _, _ => none
  | n + 1, z_t, x1 => if (gI z_t 3) ≤ x1 then some z_t else bd (fX8_at 10 (gT z_t 9) x1) (fun r3 => bd (fX8_at 10 (gT (sI z_t 17 (mxI (gI z_t 17) r3)) 10) x1) (fun r5 => bd (fX8_at 10 (gT (sI z_t 17 (mxI (gI z_t 17) r3)) 12) x1) (fun r7 => bd (fX8_put 10 (gT (sI z_t 17 (mxI (gI z_t 17) r3)) 15) x1 (r5 * r7)) (fun z9 => lX7_orderLooks_56 (fun (z22 : Sx) (i23 : Int32) => bd (fX8_put 10 (gT z22 16) i23 x1) (fun z25 => lX7_orderLooks_2 n (sTf z22 16 z25) (x1 + 1))) x1 FU (sTf (sI z_t 17 (mxI (gI z_t 17) r3)) 15 z9) x1))))
def fX7_orderLooks (z_t : Sx) : Option (Sx) := lX7_orderLooks_2 FU z_t 0

set_option maxHeartbeats 4000000 in
set_option maxRecDepth 100000 in
theorem wX7_orderLooks_56 {p : Program} {l : Launch} {e : Env} {s : State} {m : MethodId} {below : List Frame} {meth : Method} {c : Code} {D : va_G} {a : Nat → ClassId} {A : Nat → Prop} {q_t : Nat} {Q_t : Nat → Nat} {x1 : Int32} (C : Cx p s m #[.ref q_t] meth c MX7_orderLooks) (hK : KK D a s) (hA : ∀ q, s.heap.size ≤ q → A q) {y : Sx} {k112 : Sx → Int32 → Option (Sx)} (hk112 : ∀ (z_tk : Sx) (x2k : Int32) (H : Heap) (locs : List Loc) (ls : Array Slot), k112 z_tk x2k = some y → va_P D classes (rc7 a q_t Q_t z_tk) H → va_D A (rc7 a q_t Q_t z_tk) → va_S A s.heap H locs → lv_has ls 3 [(0, .ref q_t), (1, .int x1), (2, .int x2k)] → W p l e (rmM 1 0 0 30) s m #[.ref q_t] below meth c H locs 0 0 (MQ below (va_Qv (fun (_ : Unit) => True) (Bw D A (fun _ => rc7 a q_t Q_t y)) A) #[.ref q_t] s 0 0 A) (F0 m 112 ls [])) : ∀ (n : Nat) (z_t : Sx) (x2 : Int32) (H : Heap) (locs : List Loc) (ls : Array Slot), lX7_orderLooks_56 k112 x1 n z_t x2 = some y → va_P D classes (rc7 a q_t Q_t z_t) H → va_D A (rc7 a q_t Q_t z_t) → va_S A s.heap H locs → lv_has ls 3 [(0, .ref q_t), (1, .int x1), (2, .int x2)] → W p l e (rmM 1 0 0 30) s m #[.ref q_t] below meth c H locs 0 0 (MQ below (va_Qv (fun (_ : Unit) => True) (Bw D A (fun _ => rc7 a q_t Q_t y)) A) #[.ref q_t] s 0 0 A) (F0 m 56 ls []) := by
  obtain ⟨hx, hb, hml, hown, hts, hr, hlocks, hnm⟩ := id C
  have hb : c.code = cX7_orderLooks := hb
  have hown : s.vm.findClass RX7 = some m.cls := hown
  intro n
  induction n with
  | zero => intro z_t x2 H locs ls h; rw [lX7_orderLooks_56] at h; cases h
  | succ n ih =>
    intro z_t x2 H locs ls h hP hD hS hl
    rw [lX7_orderLooks_56] at h
    refine lv_iload_n hx hb dX7_orderLooks_56 rfl (lv_at hl 2 rfl) ?_
    refine lv_if_le (tgt := 112) hx hb dX7_orderLooks_57 (by decide) (fun c10 => ?_) (fun c10 => ?_)
    · have h := ite_t c10 h
      exact hk112 z_t x2 _ _ ls h hP hD hS (lv_sub hl [0, 1, 2] rfl)
    · have h := ite_f c10 h
      refine lv_aload_n hx hb dX7_orderLooks_60 rfl (lv_at hl 0 rfl) ?_
      refine va_get (D := D) (v := .ref (Q_t 15)) (C := RX7) (T := TX7) (N := 18) hx hb hts iX7 hown hK.1 hP 0 rfl rfl 15 (by decide) (hts _ t_78) (fun _ h9 => h9) rfl dX7_orderLooks_61 ?_
      refine lv_aload_n hx hb dX7_orderLooks_64 rfl (lv_at hl 0 rfl) ?_
      refine va_get (D := D) (v := .ref (Q_t 16)) (C := RX7) (T := TX7) (N := 18) hx hb hts iX7 hown hK.1 hP 0 rfl rfl 16 (by decide) (hts _ t_79) (fun _ h9 => h9) rfl dX7_orderLooks_65 ?_
      refine lv_iload_n hx hb dX7_orderLooks_68 rfl (lv_at hl 2 rfl) ?_
      refine lv_iconst (v := 1) hx hb dX7_orderLooks_69 (by decide) ?_
      refine lv_isub hx hb dX7_orderLooks_70 ?_
      obtain ⟨r12, hc11, h⟩ := bd_some h
      refine cRi (runN (As := [.ref (Q_t 16), .int (x2 - 1)]) (rest := [.ref (Q_t 15)]) C hK (mX8_at l D a hc11) lk_N_7_78 okN_X8_at ⟨Nat.le_of_ble_eq_true rfl, Nat.le_of_ble_eq_true rfl⟩ ⟨rfl, rfl⟩ (preR hK (P_of_map (wc := ra0 a (Q_t 16) 10 (gT z_t 16)) hP [12] rfl)) hl.1 rfl (Nat.le_of_ble_eq_true rfl) dX7_orderLooks_71 ⟨Nat.le_of_ble_eq_true rfl, Nat.le_of_ble_eq_true rfl⟩) ?_
      obtain ⟨r14, hc13, h⟩ := bd_some h
      refine cRi (runN (As := [.ref (Q_t 15), .int r12]) (rest := []) C hK (mX8_at l D a hc13) lk_N_7_78 okN_X8_at ⟨Nat.le_of_ble_eq_true rfl, Nat.le_of_ble_eq_true rfl⟩ ⟨rfl, rfl⟩ (preR hK (P_of_map (wc := ra0 a (Q_t 15) 10 (gT z_t 15)) hP [11] rfl)) hl.1 rfl (Nat.le_of_ble_eq_true rfl) dX7_orderLooks_74 ⟨Nat.le_of_ble_eq_true rfl, Nat.le_of_ble_eq_true rfl⟩) ?_
      refine lv_aload_n hx hb dX7_orderLooks_77 rfl (lv_at hl 0 rfl) ?_
      refine va_get (D := D) (v := .ref (Q_t 15)) (C := RX7) (T := TX7) (N := 18) hx hb hts iX7 hown hK.1 hP 0 rfl rfl 15 (by decide) (hts _ t_78) (fun _ h9 => h9) rfl dX7_orderLooks_78 ?_
      refine lv_iload_n hx hb dX7_orderLooks_81 rfl (lv_at hl 1 rfl) ?_
      obtain ⟨r16, hc15, h⟩ := bd_some h
      refine cRi (runN (As := [.ref (Q_t 15), .int x1]) (rest := [.int r14]) C hK (mX8_at l D a hc15) lk_N_7_78 okN_X8_at ⟨Nat.le_of_ble_eq_true rfl, Nat.le_of_ble_eq_true rfl⟩ ⟨rfl, rfl⟩ (preR hK (P_of_map (wc := ra0 a (Q_t 15) 10 (gT z_t 15)) hP [11] rfl)) hl.1 rfl (Nat.le_of_ble_eq_true rfl) dX7_orderLooks_82 ⟨Nat.le_of_ble_eq_true rfl, Nat.le_of_ble_eq_true rfl⟩) ?_
      refine lv_icmp_ge (tgt := 112) hx hb dX7_orderLooks_85 (by decide) (fun c17 => ?_) (fun c17 => ?_)
      · have h := ite_t c17 h
        exact hk112 z_t x2 _ _ ls h hP hD hS (lv_sub hl [0, 1, 2] rfl)
      · have h := ite_f c17 h
        refine lv_aload_n hx hb dX7_orderLooks_88 rfl (lv_at hl 0 rfl) ?_
        refine va_get (D := D) (v := .ref (Q_t 16)) (C := RX7) (T := TX7) (N := 18) hx hb hts iX7 hown hK.1 hP 0 rfl rfl 16 (by decide) (hts _ t_79) (fun _ h9 => h9) rfl dX7_orderLooks_89 ?_
        refine lv_iload_n hx hb dX7_orderLooks_92 rfl (lv_at hl 2 rfl) ?_
        refine lv_aload_n hx hb dX7_orderLooks_93 rfl (lv_at hl 0 rfl) ?_
        refine va_get (D := D) (v := .ref (Q_t 16)) (C := RX7) (T := TX7) (N := 18) hx hb hts iX7 hown hK.1 hP 0 rfl rfl 16 (by decide) (hts _ t_79) (fun _ h9 => h9) rfl dX7_orderLooks_94 ?_
        refine lv_iload_n hx hb dX7_orderLooks_97 rfl (lv_at hl 2 rfl) ?_
        refine lv_iconst (v := 1) hx hb dX7_orderLooks_98 (by decide) ?_
        refine lv_isub hx hb dX7_orderLooks_99 ?_
        obtain ⟨r19, hc18, h⟩ := bd_some h
        refine cRi (runN (As := [.ref (Q_t 16), .int (x2 - 1)]) (rest := [.int x2, .ref (Q_t 16)]) C hK (mX8_at l D a hc18) lk_N_7_78 okN_X8_at ⟨Nat.le_of_ble_eq_true rfl, Nat.le_of_ble_eq_true rfl⟩ ⟨rfl, rfl⟩ (preR hK (P_of_map (wc := ra0 a (Q_t 16) 10 (gT z_t 16)) hP [12] rfl)) hl.1 rfl (Nat.le_of_ble_eq_true rfl) dX7_orderLooks_100 ⟨Nat.le_of_ble_eq_true rfl, Nat.le_of_ble_eq_true rfl⟩) ?_
        obtain ⟨z21, hc20, h⟩ := bd_some h
        refine cMv (runN (As := [.ref (Q_t 16), .int x2, .int r19]) (rest := []) C hK (mX8_put l D a hc20 H.size) lk_N_7_88 okN_X8_put ⟨Nat.le_of_ble_eq_true rfl, Nat.le_of_ble_eq_true rfl⟩ ⟨rfl, rfl⟩ (preM hK (P_of_map (wc := ra0 a (Q_t 16) 10 (gT z_t 16)) hP [12] rfl) (hD.sub (ws' := ra0 a (Q_t 16) 10 (gT z_t 16)) [12] (by decide) rfl)) hl.1 rfl (Nat.le_of_ble_eq_true rfl) dX7_orderLooks_103 ⟨Nat.le_of_ble_eq_true rfl, Nat.le_of_ble_eq_true rfl⟩) hP hD hS hA [12] [0, 1, 2, 3, 4, 5, 6, 7, 8, 9, 10, 11] [0, 1, 2, 3, 4, 5, 6, 7, 8, 9, 10, 11, 12] rfl rfl (by decide) (by decide) (fw := rc7 a q_t Q_t (sTf z_t 16 z21)) rfl (by decide) (fun H locs hP hD hS => ?_)
        have hP : va_P D classes (rc7 a q_t Q_t (sTf z_t 16 z21)) H := hP
        have hD : va_D A (rc7 a q_t Q_t (sTf z_t 16 z21)) := hD
        refine lv_iinc (v := x2 + (-1)) (lv' := [(2, .int (x2 + (-1))), (0, .ref q_t), (1, .int x1)]) hx hb dX7_orderLooks_106 hl (k := 2) rfl rfl (by decide) rfl (fun ls hl => ?_)
        refine lv_goto (tgt := 56) hx hb dX7_orderLooks_109 (by decide) ?_
        exact ih (sTf z_t 16 z21) (x2 + (-1)) _ _ ls h hP hD hS (lv_sub hl [1, 2, 0] rfl)

set_option maxHeartbeats 4000000 in
set_option maxRecDepth 100000 in
theorem wX7_orderLooks_2 {p : Program} {l : Launch} {e : Env} {s : State} {m : MethodId} {below : List Frame} {meth : Method} {c : Code} {D : va_G} {a : Nat → ClassId} {A : Nat → Prop} {q_t : Nat} {Q_t : Nat → Nat} (C : Cx p s m #[.ref q_t] meth c MX7_orderLooks) (hK : KK D a s) (hA : ∀ q, s.heap.size ≤ q → A q) {y : Sx} : ∀ (n : Nat) (z_t : Sx) (x1 : Int32) (H : Heap) (locs : List Loc) (ls : Array Slot), lX7_orderLooks_2 n z_t x1 = some y → va_P D classes (rc7 a q_t Q_t z_t) H → va_D A (rc7 a q_t Q_t z_t) → va_S A s.heap H locs → lv_has ls 3 [(0, .ref q_t), (1, .int x1)] → W p l e (rmM 1 0 0 30) s m #[.ref q_t] below meth c H locs 0 0 (MQ below (va_Qv (fun (_ : Unit) => True) (Bw D A (fun _ => rc7 a q_t Q_t y)) A) #[.ref q_t] s 0 0 A) (F0 m 2 ls []) := by
  obtain ⟨hx, hb, hml, hown, hts, hr, hlocks, hnm⟩ := id C
  have hb : c.code = cX7_orderLooks := hb
  have hown : s.vm.findClass RX7 = some m.cls := hown
  intro n
  induction n with
  | zero => intro z_t x1 H locs ls h; rw [lX7_orderLooks_2] at h; cases h
  | succ n ih =>
    intro z_t x1 H locs ls h hP hD hS hl
    rw [lX7_orderLooks_2] at h
    refine lv_iload_n hx hb dX7_orderLooks_2 rfl (lv_at hl 1 rfl) ?_
    refine lv_aload_n hx hb dX7_orderLooks_3 rfl (lv_at hl 0 rfl) ?_
    refine va_get (D := D) (v := .int (gI z_t 3)) (C := RX7) (T := TX7) (N := 18) hx hb hts iX7 hown hK.1 hP 0 rfl rfl 3 (by decide) (hts _ t_44) (fun _ h9 => h9) rfl dX7_orderLooks_4 ?_
    refine lv_icmp_ge (tgt := 127) hx hb dX7_orderLooks_7 (by decide) (fun c1 => ?_) (fun c1 => ?_)
    · have h := ite_t c1 h
      exact rMv C rfl h (g := fun y => rc7 a q_t Q_t y) hP hD hS dX7_orderLooks_127
    · have h := ite_f c1 h
      refine lv_aload_n hx hb dX7_orderLooks_10 rfl (lv_at hl 0 rfl) ?_
      refine lv_aload_n hx hb dX7_orderLooks_11 rfl (lv_at hl 0 rfl) ?_
      refine va_get (D := D) (v := .int (gI z_t 17)) (C := RX7) (T := TX7) (N := 18) hx hb hts iX7 hown hK.1 hP 0 rfl rfl 17 (by decide) (hts _ t_81) (fun _ h9 => h9) rfl dX7_orderLooks_12 ?_
      refine lv_aload_n hx hb dX7_orderLooks_15 rfl (lv_at hl 0 rfl) ?_
      refine va_get (D := D) (v := .ref (Q_t 9)) (C := RX7) (T := TX7) (N := 18) hx hb hts iX7 hown hK.1 hP 0 rfl rfl 9 (by decide) (hts _ t_58) (fun _ h9 => h9) rfl dX7_orderLooks_16 ?_
      refine lv_iload_n hx hb dX7_orderLooks_19 rfl (lv_at hl 1 rfl) ?_
      obtain ⟨r3, hc2, h⟩ := bd_some h
      refine cRi (runN (As := [.ref (Q_t 9), .int x1]) (rest := [.int (gI z_t 17), .ref q_t]) C hK (mX8_at l D a hc2) lk_N_7_78 okN_X8_at ⟨Nat.le_of_ble_eq_true rfl, Nat.le_of_ble_eq_true rfl⟩ ⟨rfl, rfl⟩ (preR hK (P_of_map (wc := ra0 a (Q_t 9) 10 (gT z_t 9)) hP [5] rfl)) hl.1 rfl (Nat.le_of_ble_eq_true rfl) dX7_orderLooks_20 ⟨Nat.le_of_ble_eq_true rfl, Nat.le_of_ble_eq_true rfl⟩) ?_
      refine va_mmax hx hb (by rw [hml]; exact hl.1.symm) hown (hts _ t_496) (hts _ t_497) (hts _ t_14) (hts _ t_498) (Nat.le_of_ble_eq_true rfl) (Nat.le_of_ble_eq_true rfl) (Nat.le_of_ble_eq_true rfl) (Nat.le_of_ble_eq_true rfl) dX7_orderLooks_23 ?_
      refine va_put (D := D) (v := .int (mxI (gI z_t 17) r3)) (C := RX7) (T := TX7) (N := 18) hx hb hts iX7 tyX7 tyX7_ok nmX7 hown hK.1 hP hD hS 0 rfl rfl 17 (by decide) (hts _ t_81) (fun _ h9 => h9) rfl (tyX7_ok 17 (by decide)) rfl rfl (Nat.le_of_ble_eq_true rfl) dX7_orderLooks_26 (fun H locs hP hD hS => ?_)
      have hP : va_P D classes (rc7 a q_t Q_t (sI z_t 17 (mxI (gI z_t 17) r3))) H := hP
      have hD : va_D A (rc7 a q_t Q_t (sI z_t 17 (mxI (gI z_t 17) r3))) := hD
      refine lv_aload_n hx hb dX7_orderLooks_29 rfl (lv_at hl 0 rfl) ?_
      refine va_get (D := D) (v := .ref (Q_t 15)) (C := RX7) (T := TX7) (N := 18) hx hb hts iX7 hown hK.1 hP 0 rfl rfl 15 (by decide) (hts _ t_78) (fun _ h9 => h9) rfl dX7_orderLooks_30 ?_
      refine lv_iload_n hx hb dX7_orderLooks_33 rfl (lv_at hl 1 rfl) ?_
      refine lv_aload_n hx hb dX7_orderLooks_34 rfl (lv_at hl 0 rfl) ?_
      refine va_get (D := D) (v := .ref (Q_t 10)) (C := RX7) (T := TX7) (N := 18) hx hb hts iX7 hown hK.1 hP 0 rfl rfl 10 (by decide) (hts _ t_63) (fun _ h9 => h9) rfl dX7_orderLooks_35 ?_
      refine lv_iload_n hx hb dX7_orderLooks_38 rfl (lv_at hl 1 rfl) ?_
      obtain ⟨r5, hc4, h⟩ := bd_some h
      refine cRi (runN (As := [.ref (Q_t 10), .int x1]) (rest := [.int x1, .ref (Q_t 15)]) C hK (mX8_at l D a hc4) lk_N_7_78 okN_X8_at ⟨Nat.le_of_ble_eq_true rfl, Nat.le_of_ble_eq_true rfl⟩ ⟨rfl, rfl⟩ (preR hK (P_of_map (wc := ra0 a (Q_t 10) 10 (gT (sI z_t 17 (mxI (gI z_t 17) r3)) 10)) hP [6] rfl)) hl.1 rfl (Nat.le_of_ble_eq_true rfl) dX7_orderLooks_39 ⟨Nat.le_of_ble_eq_true rfl, Nat.le_of_ble_eq_true rfl⟩) ?_
      refine lv_aload_n hx hb dX7_orderLooks_42 rfl (lv_at hl 0 rfl) ?_
      refine va_get (D := D) (v := .ref (Q_t 12)) (C := RX7) (T := TX7) (N := 18) hx hb hts iX7 hown hK.1 hP 0 rfl rfl 12 (by decide) (hts _ t_70) (fun _ h9 => h9) rfl dX7_orderLooks_43 ?_
      refine lv_iload_n hx hb dX7_orderLooks_46 rfl (lv_at hl 1 rfl) ?_
      obtain ⟨r7, hc6, h⟩ := bd_some h
      refine cRi (runN (As := [.ref (Q_t 12), .int x1]) (rest := [.int r5, .int x1, .ref (Q_t 15)]) C hK (mX8_at l D a hc6) lk_N_7_78 okN_X8_at ⟨Nat.le_of_ble_eq_true rfl, Nat.le_of_ble_eq_true rfl⟩ ⟨rfl, rfl⟩ (preR hK (P_of_map (wc := ra0 a (Q_t 12) 10 (gT (sI z_t 17 (mxI (gI z_t 17) r3)) 12)) hP [8] rfl)) hl.1 rfl (Nat.le_of_ble_eq_true rfl) dX7_orderLooks_47 ⟨Nat.le_of_ble_eq_true rfl, Nat.le_of_ble_eq_true rfl⟩) ?_
      refine lv_imul hx hb dX7_orderLooks_50 ?_
      obtain ⟨z9, hc8, h⟩ := bd_some h
      refine cMv (runN (As := [.ref (Q_t 15), .int x1, .int (r5 * r7)]) (rest := []) C hK (mX8_put l D a hc8 H.size) lk_N_7_88 okN_X8_put ⟨Nat.le_of_ble_eq_true rfl, Nat.le_of_ble_eq_true rfl⟩ ⟨rfl, rfl⟩ (preM hK (P_of_map (wc := ra0 a (Q_t 15) 10 (gT (sI z_t 17 (mxI (gI z_t 17) r3)) 15)) hP [11] rfl) (hD.sub (ws' := ra0 a (Q_t 15) 10 (gT (sI z_t 17 (mxI (gI z_t 17) r3)) 15)) [11] (by decide) rfl)) hl.1 rfl (Nat.le_of_ble_eq_true rfl) dX7_orderLooks_51 ⟨Nat.le_of_ble_eq_true rfl, Nat.le_of_ble_eq_true rfl⟩) hP hD hS hA [11] [0, 1, 2, 3, 4, 5, 6, 7, 8, 9, 10, 12] [0, 1, 2, 3, 4, 5, 6, 7, 8, 9, 10, 12, 11] rfl rfl (by decide) (by decide) (fw := rc7 a q_t Q_t (sTf (sI z_t 17 (mxI (gI z_t 17) r3)) 15 z9)) rfl (by decide) (fun H locs hP hD hS => ?_)
      have hP : va_P D classes (rc7 a q_t Q_t (sTf (sI z_t 17 (mxI (gI z_t 17) r3)) 15 z9)) H := hP
      have hD : va_D A (rc7 a q_t Q_t (sTf (sI z_t 17 (mxI (gI z_t 17) r3)) 15 z9)) := hD
      refine lv_iload_n hx hb dX7_orderLooks_54 rfl (lv_at hl 1 rfl) ?_
      refine lv_istore_n (lv' := [(2, .int x1), (0, .ref q_t), (1, .int x1)]) hx hb dX7_orderLooks_55 rfl hl (by decide) rfl (fun ls hl => ?_)
      refine wX7_orderLooks_56 C hK hA ?_ FU (sTf (sI z_t 17 (mxI (gI z_t 17) r3)) 15 z9) x1 _ _ ls h hP hD hS (lv_sub hl [1, 2, 0] rfl)
      · intro z22 i23 H locs ls h hP hD hS hl
        refine lv_aload_n hx hb dX7_orderLooks_112 rfl (lv_at hl 0 rfl) ?_
        refine va_get (D := D) (v := .ref (Q_t 16)) (C := RX7) (T := TX7) (N := 18) hx hb hts iX7 hown hK.1 hP 0 rfl rfl 16 (by decide) (hts _ t_79) (fun _ h9 => h9) rfl dX7_orderLooks_113 ?_
        refine lv_iload_n hx hb dX7_orderLooks_116 rfl (lv_at hl 2 rfl) ?_
        refine lv_iload_n hx hb dX7_orderLooks_117 rfl (lv_at hl 1 rfl) ?_
        obtain ⟨z25, hc24, h⟩ := bd_some h
        refine cMv (runN (As := [.ref (Q_t 16), .int i23, .int x1]) (rest := []) C hK (mX8_put l D a hc24 H.size) lk_N_7_88 okN_X8_put ⟨Nat.le_of_ble_eq_true rfl, Nat.le_of_ble_eq_true rfl⟩ ⟨rfl, rfl⟩ (preM hK (P_of_map (wc := ra0 a (Q_t 16) 10 (gT z22 16)) hP [12] rfl) (hD.sub (ws' := ra0 a (Q_t 16) 10 (gT z22 16)) [12] (by decide) rfl)) hl.1 rfl (Nat.le_of_ble_eq_true rfl) dX7_orderLooks_118 ⟨Nat.le_of_ble_eq_true rfl, Nat.le_of_ble_eq_true rfl⟩) hP hD hS hA [12] [0, 1, 2, 3, 4, 5, 6, 7, 8, 9, 10, 11] [0, 1, 2, 3, 4, 5, 6, 7, 8, 9, 10, 11, 12] rfl rfl (by decide) (by decide) (fw := rc7 a q_t Q_t (sTf z22 16 z25)) rfl (by decide) (fun H locs hP hD hS => ?_)
        have hP : va_P D classes (rc7 a q_t Q_t (sTf z22 16 z25)) H := hP
        have hD : va_D A (rc7 a q_t Q_t (sTf z22 16 z25)) := hD
        refine lv_iinc (v := x1 + 1) (lv' := [(1, .int (x1 + 1)), (0, .ref q_t), (2, .int i23)]) hx hb dX7_orderLooks_121 hl (k := 1) rfl rfl (by decide) rfl (fun ls hl => ?_)
        refine lv_goto (tgt := 2) hx hb dX7_orderLooks_124 (by decide) ?_
        exact ih (sTf z22 16 z25) (x1 + 1) _ _ ls h hP hD hS (lv_sub hl [1, 0] rfl)

set_option maxHeartbeats 4000000 in
set_option maxRecDepth 100000 in
theorem mX7_orderLooks (l : Launch) (D : va_G) (a : Nat → ClassId) {q_t : Nat} {Q_t : Nat → Nat} {z_t : Sx} {y : Sx} (h : fX7_orderLooks z_t = some y) (sz : Nat) : CMv (S := Unit) l MX7_orderLooks 1 30 0 0 D a [.ref q_t] (rc7 a q_t Q_t z_t) sz (fun _ => True) (fun _ => rc7 a q_t Q_t y) := by
  unfold fX7_orderLooks at h
  refine entMv (by decide) (Nat.le_of_ble_eq_true rfl) ?_
  intro p e s m below meth c C hK A hA hP hD ls hl
  obtain ⟨hx, hb, hml, hown, hts, hr, hlocks, hnm⟩ := id C
  have hb : c.code = cX7_orderLooks := hb
  have hown : s.vm.findClass RX7 = some m.cls := hown
  have hS : va_S A s.heap s.heap [] := va_S.rf
  have hl : lv_has ls 3 [(0, .ref q_t)] := hl
  refine lv_iconst (v := 0) hx hb dX7_orderLooks_0 (by decide) ?_
  refine lv_istore_n (lv' := [(1, .int 0), (0, .ref q_t)]) hx hb dX7_orderLooks_1 rfl hl (by decide) rfl (fun ls hl => ?_)
  refine wX7_orderLooks_2 C hK hA FU z_t 0 _ _ ls h hP hD hS (lv_sub hl [1, 0] rfl)

def fX0_copyFrom (z_t : Sx) (z_p1 : Sx) : Option (Sx) := some (sTf (sI (sI (sI (sI (sI z_t 0 (gI z_p1 0)) 1 (gI z_p1 1)) 2 (gI z_p1 2)) 3 (gI z_p1 3)) 4 (gI z_p1 4)) 5 (va_cpy (gT z_p1 5) (gT (sI (sI (sI (sI (sI z_t 0 (gI z_p1 0)) 1 (gI z_p1 1)) 2 (gI z_p1 2)) 3 (gI z_p1 3)) 4 (gI z_p1 4)) 5) 0 0 10))

set_option maxHeartbeats 4000000 in
set_option maxRecDepth 100000 in
theorem mX0_copyFrom (l : Launch) (D : va_G) (a : Nat → ClassId) {q_t : Nat} {q_p1 : Nat} {Q_t : Nat → Nat} {z_t : Sx} {Q_p1 : Nat → Nat} {z_p1 : Sx} {y : Sx} (h : fX0_copyFrom z_t z_p1 = some y) (sz : Nat) : CMv (S := Unit) l MX0_copyFrom 1 60 0 0 D a [.ref q_t, .ref q_p1] (rc0 a q_t Q_t z_t ++ (rc0 a q_p1 Q_p1 z_p1)) sz (fun _ => True) (fun _ => rc0 a q_t Q_t y ++ (rc0 a q_p1 Q_p1 z_p1)) := by
  unfold fX0_copyFrom at h
  refine entMv (by decide) (Nat.le_of_ble_eq_true rfl) ?_
  intro p e s m below meth c C hK A hA hP hD ls hl
  obtain ⟨hx, hb, hml, hown, hts, hr, hlocks, hnm⟩ := id C
  have hb : c.code = cX0_copyFrom := hb
  have hown : s.vm.findClass RX0 = some m.cls := hown
  have hS : va_S A s.heap s.heap [] := va_S.rf
  have hl : lv_has ls 2 [(0, .ref q_t), (1, .ref q_p1)] := hl
  refine lv_aload_n hx hb dX0_copyFrom_0 rfl (lv_at hl 0 rfl) ?_
  refine lv_aload_n hx hb dX0_copyFrom_1 rfl (lv_at hl 1 rfl) ?_
  refine va_get (D := D) (v := .int (gI z_p1 0)) (C := RX0) (T := TX0) (N := 6) hx hb hts iX0 hown hK.1 hP 2 rfl rfl 0 (by decide) (hts _ t_130) (fun _ h9 => h9) rfl dX0_copyFrom_2 ?_
  refine va_put (D := D) (v := .int (gI z_p1 0)) (C := RX0) (T := TX0) (N := 6) hx hb hts iX0 tyX0 tyX0_ok nmX0 hown hK.1 hP hD hS 0 rfl rfl 0 (by decide) (hts _ t_130) (fun _ h9 => h9) rfl (tyX0_ok 0 (by decide)) rfl rfl (Nat.le_of_ble_eq_true rfl) dX0_copyFrom_5 (fun H locs hP hD hS => ?_)
  have hP : va_P D classes (rc0 a q_t Q_t (sI z_t 0 (gI z_p1 0)) ++ (rc0 a q_p1 Q_p1 z_p1)) H := hP
  have hD : va_D A (rc0 a q_t Q_t (sI z_t 0 (gI z_p1 0)) ++ (rc0 a q_p1 Q_p1 z_p1)) := hD
  refine lv_aload_n hx hb dX0_copyFrom_8 rfl (lv_at hl 0 rfl) ?_
  refine lv_aload_n hx hb dX0_copyFrom_9 rfl (lv_at hl 1 rfl) ?_
  refine va_get (D := D) (v := .int (gI z_p1 1)) (C := RX0) (T := TX0) (N := 6) hx hb hts iX0 hown hK.1 hP 2 rfl rfl 1 (by decide) (hts _ t_133) (fun _ h9 => h9) rfl dX0_copyFrom_10 ?_
  refine va_put (D := D) (v := .int (gI z_p1 1)) (C := RX0) (T := TX0) (N := 6) hx hb hts iX0 tyX0 tyX0_ok nmX0 hown hK.1 hP hD hS 0 rfl rfl 1 (by decide) (hts _ t_133) (fun _ h9 => h9) rfl (tyX0_ok 1 (by decide)) rfl rfl (Nat.le_of_ble_eq_true rfl) dX0_copyFrom_13 (fun H locs hP hD hS => ?_)
  have hP : va_P D classes (rc0 a q_t Q_t (sI (sI z_t 0 (gI z_p1 0)) 1 (gI z_p1 1)) ++ (rc0 a q_p1 Q_p1 z_p1)) H := hP
  have hD : va_D A (rc0 a q_t Q_t (sI (sI z_t 0 (gI z_p1 0)) 1 (gI z_p1 1)) ++ (rc0 a q_p1 Q_p1 z_p1)) := hD
  refine lv_aload_n hx hb dX0_copyFrom_16 rfl (lv_at hl 0 rfl) ?_
  refine lv_aload_n hx hb dX0_copyFrom_17 rfl (lv_at hl 1 rfl) ?_
  refine va_get (D := D) (v := .int (gI z_p1 2)) (C := RX0) (T := TX0) (N := 6) hx hb hts iX0 hown hK.1 hP 2 rfl rfl 2 (by decide) (hts _ t_136) (fun _ h9 => h9) rfl dX0_copyFrom_18 ?_
  refine va_put (D := D) (v := .int (gI z_p1 2)) (C := RX0) (T := TX0) (N := 6) hx hb hts iX0 tyX0 tyX0_ok nmX0 hown hK.1 hP hD hS 0 rfl rfl 2 (by decide) (hts _ t_136) (fun _ h9 => h9) rfl (tyX0_ok 2 (by decide)) rfl rfl (Nat.le_of_ble_eq_true rfl) dX0_copyFrom_21 (fun H locs hP hD hS => ?_)
  have hP : va_P D classes (rc0 a q_t Q_t (sI (sI (sI z_t 0 (gI z_p1 0)) 1 (gI z_p1 1)) 2 (gI z_p1 2)) ++ (rc0 a q_p1 Q_p1 z_p1)) H := hP
  have hD : va_D A (rc0 a q_t Q_t (sI (sI (sI z_t 0 (gI z_p1 0)) 1 (gI z_p1 1)) 2 (gI z_p1 2)) ++ (rc0 a q_p1 Q_p1 z_p1)) := hD
  refine lv_aload_n hx hb dX0_copyFrom_24 rfl (lv_at hl 0 rfl) ?_
  refine lv_aload_n hx hb dX0_copyFrom_25 rfl (lv_at hl 1 rfl) ?_
  refine va_get (D := D) (v := .int (gI z_p1 3)) (C := RX0) (T := TX0) (N := 6) hx hb hts iX0 hown hK.1 hP 2 rfl rfl 3 (by decide) (hts _ t_139) (fun _ h9 => h9) rfl dX0_copyFrom_26 ?_
  refine va_put (D := D) (v := .int (gI z_p1 3)) (C := RX0) (T := TX0) (N := 6) hx hb hts iX0 tyX0 tyX0_ok nmX0 hown hK.1 hP hD hS 0 rfl rfl 3 (by decide) (hts _ t_139) (fun _ h9 => h9) rfl (tyX0_ok 3 (by decide)) rfl rfl (Nat.le_of_ble_eq_true rfl) dX0_copyFrom_29 (fun H locs hP hD hS => ?_)
  have hP : va_P D classes (rc0 a q_t Q_t (sI (sI (sI (sI z_t 0 (gI z_p1 0)) 1 (gI z_p1 1)) 2 (gI z_p1 2)) 3 (gI z_p1 3)) ++ (rc0 a q_p1 Q_p1 z_p1)) H := hP
  have hD : va_D A (rc0 a q_t Q_t (sI (sI (sI (sI z_t 0 (gI z_p1 0)) 1 (gI z_p1 1)) 2 (gI z_p1 2)) 3 (gI z_p1 3)) ++ (rc0 a q_p1 Q_p1 z_p1)) := hD
  refine lv_aload_n hx hb dX0_copyFrom_32 rfl (lv_at hl 0 rfl) ?_
  refine lv_aload_n hx hb dX0_copyFrom_33 rfl (lv_at hl 1 rfl) ?_
  refine va_get (D := D) (v := .int (gI z_p1 4)) (C := RX0) (T := TX0) (N := 6) hx hb hts iX0 hown hK.1 hP 2 rfl rfl 4 (by decide) (hts _ t_142) (fun _ h9 => h9) rfl dX0_copyFrom_34 ?_
  refine va_put (D := D) (v := .int (gI z_p1 4)) (C := RX0) (T := TX0) (N := 6) hx hb hts iX0 tyX0 tyX0_ok nmX0 hown hK.1 hP hD hS 0 rfl rfl 4 (by decide) (hts _ t_142) (fun _ h9 => h9) rfl (tyX0_ok 4 (by decide)) rfl rfl (Nat.le_of_ble_eq_true rfl) dX0_copyFrom_37 (fun H locs hP hD hS => ?_)
  have hP : va_P D classes (rc0 a q_t Q_t (sI (sI (sI (sI (sI z_t 0 (gI z_p1 0)) 1 (gI z_p1 1)) 2 (gI z_p1 2)) 3 (gI z_p1 3)) 4 (gI z_p1 4)) ++ (rc0 a q_p1 Q_p1 z_p1)) H := hP
  have hD : va_D A (rc0 a q_t Q_t (sI (sI (sI (sI (sI z_t 0 (gI z_p1 0)) 1 (gI z_p1 1)) 2 (gI z_p1 2)) 3 (gI z_p1 3)) 4 (gI z_p1 4)) ++ (rc0 a q_p1 Q_p1 z_p1)) := hD
  refine lv_aload_n hx hb dX0_copyFrom_40 rfl (lv_at hl 1 rfl) ?_
  refine va_get (D := D) (v := .ref (Q_p1 5)) (C := RX0) (T := TX0) (N := 6) hx hb hts iX0 hown hK.1 hP 2 rfl rfl 5 (by decide) (hts _ t_144) (fun _ h9 => h9) rfl dX0_copyFrom_41 ?_
  refine lv_iconst (v := 0) hx hb dX0_copyFrom_44 (by decide) ?_
  refine lv_aload_n hx hb dX0_copyFrom_45 rfl (lv_at hl 0 rfl) ?_
  refine va_get (D := D) (v := .ref (Q_t 5)) (C := RX0) (T := TX0) (N := 6) hx hb hts iX0 hown hK.1 hP 0 rfl rfl 5 (by decide) (hts _ t_144) (fun _ h9 => h9) rfl dX0_copyFrom_46 ?_
  refine lv_iconst (v := 0) hx hb dX0_copyFrom_49 (by decide) ?_
  refine lv_bipush (v := 10) hx hb dX0_copyFrom_50 (by decide) ?_
  refine va_copyi hx hb (by rw [hml]; exact hl.1.symm) hown (hts _ t_740) (hts _ t_574) (hts _ t_573) (hts _ t_17) hK.1 hP hD hS 3 1 0 0 rfl rfl rfl rfl rfl (by decide) (by decide) (by decide) (by decide) (by decide) (fun _ _ => rfl) (Nat.le_of_ble_eq_true rfl) (Nat.le_of_ble_eq_true rfl) dX0_copyFrom_52 (fun H locs hP hD hS => ?_)
  have hP : va_P D classes (rc0 a q_t Q_t (sTf (sI (sI (sI (sI (sI z_t 0 (gI z_p1 0)) 1 (gI z_p1 1)) 2 (gI z_p1 2)) 3 (gI z_p1 3)) 4 (gI z_p1 4)) 5 (va_cpy (gT z_p1 5) (gT (sI (sI (sI (sI (sI z_t 0 (gI z_p1 0)) 1 (gI z_p1 1)) 2 (gI z_p1 2)) 3 (gI z_p1 3)) 4 (gI z_p1 4)) 5) 0 0 10)) ++ (rc0 a q_p1 Q_p1 z_p1)) H := hP
  have hD : va_D A (rc0 a q_t Q_t (sTf (sI (sI (sI (sI (sI z_t 0 (gI z_p1 0)) 1 (gI z_p1 1)) 2 (gI z_p1 2)) 3 (gI z_p1 3)) 4 (gI z_p1 4)) 5 (va_cpy (gT z_p1 5) (gT (sI (sI (sI (sI (sI z_t 0 (gI z_p1 0)) 1 (gI z_p1 1)) 2 (gI z_p1 2)) 3 (gI z_p1 3)) 4 (gI z_p1 4)) 5) 0 0 10)) ++ (rc0 a q_p1 Q_p1 z_p1)) := hD
  exact rMv C rfl h (g := fun y => rc0 a q_t Q_t y ++ (rc0 a q_p1 Q_p1 z_p1)) hP hD hS dX0_copyFrom_55

def fX5_copyFrom (z_t : Sx) (z_t_1 : Sx) (z_p1 : Sx) (z_p1_1 : Sx) : Option (Sx × Sx) := bd (fX0_copyFrom z_t_1 z_p1_1) (fun z2 => some (sTf (sI (sTf (sI (sI (sI z_t 2 (gI z_p1 2)) 3 (gI z_p1 3)) 4 (gI z_p1 4)) 5 (va_cpy (gT z_p1 5) (gT (sI (sI (sI z_t 2 (gI z_p1 2)) 3 (gI z_p1 3)) 4 (gI z_p1 4)) 5) 0 0 8)) 6 (gI z_p1 6)) 7 (va_cpy (gT z_p1 7) (gT (sI (sTf (sI (sI (sI z_t 2 (gI z_p1 2)) 3 (gI z_p1 3)) 4 (gI z_p1 4)) 5 (va_cpy (gT z_p1 5) (gT (sI (sI (sI z_t 2 (gI z_p1 2)) 3 (gI z_p1 3)) 4 (gI z_p1 4)) 5) 0 0 8)) 6 (gI z_p1 6)) 7) 0 0 8), z2))

set_option maxHeartbeats 4000000 in
set_option maxRecDepth 100000 in
theorem mX5_copyFrom (l : Launch) (D : va_G) (a : Nat → ClassId) {q_t : Nat} {q_p1 : Nat} {Q_t : Nat → Nat} {z_t : Sx} {Q_t_1 : Nat → Nat} {z_t_1 : Sx} {Q_p1 : Nat → Nat} {z_p1 : Sx} {Q_p1_1 : Nat → Nat} {z_p1_1 : Sx} {y : Sx × Sx} (h : fX5_copyFrom z_t z_t_1 z_p1 z_p1_1 = some y) (sz : Nat) : CMv (S := Unit) l MX5_copyFrom 2 81 0 0 D a [.ref q_t, .ref q_p1] (rc5 a q_t Q_t z_t ++ (rc0 a (Q_t 1) Q_t_1 z_t_1 ++ (rc5 a q_p1 Q_p1 z_p1 ++ (rc0 a (Q_p1 1) Q_p1_1 z_p1_1)))) sz (fun _ => True) (fun _ => rc5 a q_t (va_up Q_t 0 (Q_p1 0)) y.1 ++ (rc0 a (Q_t 1) Q_t_1 y.2 ++ (rc5 a q_p1 Q_p1 z_p1 ++ (rc0 a (Q_p1 1) Q_p1_1 z_p1_1)))) := by
  unfold fX5_copyFrom at h
  refine entMv (by decide) (Nat.le_of_ble_eq_true rfl) ?_
  intro p e s m below meth c C hK A hA hP hD ls hl
  obtain ⟨hx, hb, hml, hown, hts, hr, hlocks, hnm⟩ := id C
  have hb : c.code = cX5_copyFrom := hb
  have hown : s.vm.findClass RX5 = some m.cls := hown
  have hS : va_S A s.heap s.heap [] := va_S.rf
  have hl : lv_has ls 2 [(0, .ref q_t), (1, .ref q_p1)] := hl
  refine lv_aload_n hx hb dX5_copyFrom_0 rfl (lv_at hl 0 rfl) ?_
  refine lv_aload_n hx hb dX5_copyFrom_1 rfl (lv_at hl 1 rfl) ?_
  refine va_get (D := D) (v := .ref (Q_p1 0)) (C := RX5) (T := TX5) (N := 8) hx hb hts iX5 hown hK.1 hP 5 rfl rfl 0 (by decide) (hts _ t_160) (fun _ h9 => h9) rfl dX5_copyFrom_2 ?_
  refine va_put (D := D) (v := .ref (Q_p1 0)) (C := RX5) (T := TX5) (N := 8) hx hb hts iX5 tyX5 tyX5_ok nmX5 hown hK.1 hP hD hS 0 rfl rfl 0 (by decide) (hts _ t_160) (fun _ h9 => h9) rfl (tyX5_ok 0 (by decide)) rfl rfl (Nat.le_of_ble_eq_true rfl) dX5_copyFrom_5 (fun H locs hP hD hS => ?_)
  have hP : va_P D classes (rc5 a q_t (va_up Q_t 0 (Q_p1 0)) z_t ++ (rc0 a (Q_t 1) Q_t_1 z_t_1 ++ (rc5 a q_p1 Q_p1 z_p1 ++ (rc0 a (Q_p1 1) Q_p1_1 z_p1_1)))) H := hP
  have hD : va_D A (rc5 a q_t (va_up Q_t 0 (Q_p1 0)) z_t ++ (rc0 a (Q_t 1) Q_t_1 z_t_1 ++ (rc5 a q_p1 Q_p1 z_p1 ++ (rc0 a (Q_p1 1) Q_p1_1 z_p1_1)))) := hD
  refine lv_aload_n hx hb dX5_copyFrom_8 rfl (lv_at hl 0 rfl) ?_
  refine va_get (D := D) (v := .ref (Q_t 1)) (C := RX5) (T := TX5) (N := 8) hx hb hts iX5 hown hK.1 hP 0 rfl rfl 1 (by decide) (hts _ t_162) (fun _ h9 => h9) rfl dX5_copyFrom_9 ?_
  refine lv_aload_n hx hb dX5_copyFrom_12 rfl (lv_at hl 1 rfl) ?_
  refine va_get (D := D) (v := .ref (Q_p1 1)) (C := RX5) (T := TX5) (N := 8) hx hb hts iX5 hown hK.1 hP 5 rfl rfl 1 (by decide) (hts _ t_162) (fun _ h9 => h9) rfl dX5_copyFrom_13 ?_
  obtain ⟨z2, hc1, h⟩ := bd_some h
  refine cMv (runV (As := [.ref (Q_p1 1)]) (rest := []) C (mX0_copyFrom l D a hc1 H.size) lk_V_5_29 okN_X0_copyFrom ⟨Nat.le_of_ble_eq_true rfl, Nat.le_of_ble_eq_true rfl⟩ ⟨rfl, rfl⟩ (preV (preM hK (P_of_map (wc := rc0 a (Q_t 1) Q_t_1 z_t_1 ++ (rc0 a (Q_p1 1) Q_p1_1 z_p1_1)) hP [3, 4, 8, 9] rfl) (hD.sub (ws' := rc0 a (Q_t 1) Q_t_1 z_t_1 ++ (rc0 a (Q_p1 1) Q_p1_1 z_p1_1)) [3, 4, 8, 9] (by decide) rfl)) (recvOf hK hP 3 rfl (ci := 0) rfl)) hl.1 rfl (Nat.le_of_ble_eq_true rfl) dX5_copyFrom_16 ⟨Nat.le_of_ble_eq_true rfl, Nat.le_of_ble_eq_true rfl⟩) hP hD hS hA [3, 4, 8, 9] [0, 1, 2, 5, 6, 7] [0, 1, 2, 6, 7, 3, 4, 5, 8, 9] rfl rfl (by decide) (by decide) (fw := rc5 a q_t (va_up Q_t 0 (Q_p1 0)) z_t ++ (rc0 a (Q_t 1) Q_t_1 z2 ++ (rc5 a q_p1 Q_p1 z_p1 ++ (rc0 a (Q_p1 1) Q_p1_1 z_p1_1)))) rfl (by decide) (fun H locs hP hD hS => ?_)
  have hP : va_P D classes (rc5 a q_t (va_up Q_t 0 (Q_p1 0)) z_t ++ (rc0 a (Q_t 1) Q_t_1 z2 ++ (rc5 a q_p1 Q_p1 z_p1 ++ (rc0 a (Q_p1 1) Q_p1_1 z_p1_1)))) H := hP
  have hD : va_D A (rc5 a q_t (va_up Q_t 0 (Q_p1 0)) z_t ++ (rc0 a (Q_t 1) Q_t_1 z2 ++ (rc5 a q_p1 Q_p1 z_p1 ++ (rc0 a (Q_p1 1) Q_p1_1 z_p1_1)))) := hD
  refine lv_aload_n hx hb dX5_copyFrom_19 rfl (lv_at hl 0 rfl) ?_
  refine lv_aload_n hx hb dX5_copyFrom_20 rfl (lv_at hl 1 rfl) ?_
  refine va_get (D := D) (v := .int (gI z_p1 2)) (C := RX5) (T := TX5) (N := 8) hx hb hts iX5 hown hK.1 hP 5 rfl rfl 2 (by decide) (hts _ t_164) (fun _ h9 => h9) rfl dX5_copyFrom_21 ?_
  refine va_put (D := D) (v := .int (gI z_p1 2)) (C := RX5) (T := TX5) (N := 8) hx hb hts iX5 tyX5 tyX5_ok nmX5 hown hK.1 hP hD hS 0 rfl rfl 2 (by decide) (hts _ t_164) (fun _ h9 => h9) rfl (tyX5_ok 2 (by decide)) rfl rfl (Nat.le_of_ble_eq_true rfl) dX5_copyFrom_24 (fun H locs hP hD hS => ?_)
  have hP : va_P D classes (rc5 a q_t (va_up Q_t 0 (Q_p1 0)) (sI z_t 2 (gI z_p1 2)) ++ (rc0 a (Q_t 1) Q_t_1 z2 ++ (rc5 a q_p1 Q_p1 z_p1 ++ (rc0 a (Q_p1 1) Q_p1_1 z_p1_1)))) H := hP
  have hD : va_D A (rc5 a q_t (va_up Q_t 0 (Q_p1 0)) (sI z_t 2 (gI z_p1 2)) ++ (rc0 a (Q_t 1) Q_t_1 z2 ++ (rc5 a q_p1 Q_p1 z_p1 ++ (rc0 a (Q_p1 1) Q_p1_1 z_p1_1)))) := hD
  refine lv_aload_n hx hb dX5_copyFrom_27 rfl (lv_at hl 0 rfl) ?_
  refine lv_aload_n hx hb dX5_copyFrom_28 rfl (lv_at hl 1 rfl) ?_
  refine va_get (D := D) (v := .int (gI z_p1 3)) (C := RX5) (T := TX5) (N := 8) hx hb hts iX5 hown hK.1 hP 5 rfl rfl 3 (by decide) (hts _ t_166) (fun _ h9 => h9) rfl dX5_copyFrom_29 ?_
  refine va_put (D := D) (v := .int (gI z_p1 3)) (C := RX5) (T := TX5) (N := 8) hx hb hts iX5 tyX5 tyX5_ok nmX5 hown hK.1 hP hD hS 0 rfl rfl 3 (by decide) (hts _ t_166) (fun _ h9 => h9) rfl (tyX5_ok 3 (by decide)) rfl rfl (Nat.le_of_ble_eq_true rfl) dX5_copyFrom_32 (fun H locs hP hD hS => ?_)
  have hP : va_P D classes (rc5 a q_t (va_up Q_t 0 (Q_p1 0)) (sI (sI z_t 2 (gI z_p1 2)) 3 (gI z_p1 3)) ++ (rc0 a (Q_t 1) Q_t_1 z2 ++ (rc5 a q_p1 Q_p1 z_p1 ++ (rc0 a (Q_p1 1) Q_p1_1 z_p1_1)))) H := hP
  have hD : va_D A (rc5 a q_t (va_up Q_t 0 (Q_p1 0)) (sI (sI z_t 2 (gI z_p1 2)) 3 (gI z_p1 3)) ++ (rc0 a (Q_t 1) Q_t_1 z2 ++ (rc5 a q_p1 Q_p1 z_p1 ++ (rc0 a (Q_p1 1) Q_p1_1 z_p1_1)))) := hD
  refine lv_aload_n hx hb dX5_copyFrom_35 rfl (lv_at hl 0 rfl) ?_
  refine lv_aload_n hx hb dX5_copyFrom_36 rfl (lv_at hl 1 rfl) ?_
  refine va_get (D := D) (v := .int (gI z_p1 4)) (C := RX5) (T := TX5) (N := 8) hx hb hts iX5 hown hK.1 hP 5 rfl rfl 4 (by decide) (hts _ t_168) (fun _ h9 => h9) rfl dX5_copyFrom_37 ?_
  refine va_put (D := D) (v := .int (gI z_p1 4)) (C := RX5) (T := TX5) (N := 8) hx hb hts iX5 tyX5 tyX5_ok nmX5 hown hK.1 hP hD hS 0 rfl rfl 4 (by decide) (hts _ t_168) (fun _ h9 => h9) rfl (tyX5_ok 4 (by decide)) rfl rfl (Nat.le_of_ble_eq_true rfl) dX5_copyFrom_40 (fun H locs hP hD hS => ?_)
  have hP : va_P D classes (rc5 a q_t (va_up Q_t 0 (Q_p1 0)) (sI (sI (sI z_t 2 (gI z_p1 2)) 3 (gI z_p1 3)) 4 (gI z_p1 4)) ++ (rc0 a (Q_t 1) Q_t_1 z2 ++ (rc5 a q_p1 Q_p1 z_p1 ++ (rc0 a (Q_p1 1) Q_p1_1 z_p1_1)))) H := hP
  have hD : va_D A (rc5 a q_t (va_up Q_t 0 (Q_p1 0)) (sI (sI (sI z_t 2 (gI z_p1 2)) 3 (gI z_p1 3)) 4 (gI z_p1 4)) ++ (rc0 a (Q_t 1) Q_t_1 z2 ++ (rc5 a q_p1 Q_p1 z_p1 ++ (rc0 a (Q_p1 1) Q_p1_1 z_p1_1)))) := hD
  refine lv_aload_n hx hb dX5_copyFrom_43 rfl (lv_at hl 1 rfl) ?_
  refine va_get (D := D) (v := .ref (Q_p1 5)) (C := RX5) (T := TX5) (N := 8) hx hb hts iX5 hown hK.1 hP 5 rfl rfl 5 (by decide) (hts _ t_170) (fun _ h9 => h9) rfl dX5_copyFrom_44 ?_
  refine lv_iconst (v := 0) hx hb dX5_copyFrom_47 (by decide) ?_
  refine lv_aload_n hx hb dX5_copyFrom_48 rfl (lv_at hl 0 rfl) ?_
  refine va_get (D := D) (v := .ref (Q_t 5)) (C := RX5) (T := TX5) (N := 8) hx hb hts iX5 hown hK.1 hP 0 rfl rfl 5 (by decide) (hts _ t_170) (fun _ h9 => h9) rfl dX5_copyFrom_49 ?_
  refine lv_iconst (v := 0) hx hb dX5_copyFrom_52 (by decide) ?_
  refine lv_bipush (v := 8) hx hb dX5_copyFrom_53 (by decide) ?_
  refine va_copyi hx hb (by rw [hml]; exact hl.1.symm) hown (hts _ t_871) (hts _ t_574) (hts _ t_573) (hts _ t_17) hK.1 hP hD hS 6 1 0 0 rfl rfl rfl rfl rfl (by decide) (by decide) (by decide) (by decide) (by decide) (fun _ _ => rfl) (Nat.le_of_ble_eq_true rfl) (Nat.le_of_ble_eq_true rfl) dX5_copyFrom_55 (fun H locs hP hD hS => ?_)
  have hP : va_P D classes (rc5 a q_t (va_up Q_t 0 (Q_p1 0)) (sTf (sI (sI (sI z_t 2 (gI z_p1 2)) 3 (gI z_p1 3)) 4 (gI z_p1 4)) 5 (va_cpy (gT z_p1 5) (gT (sI (sI (sI z_t 2 (gI z_p1 2)) 3 (gI z_p1 3)) 4 (gI z_p1 4)) 5) 0 0 8)) ++ (rc0 a (Q_t 1) Q_t_1 z2 ++ (rc5 a q_p1 Q_p1 z_p1 ++ (rc0 a (Q_p1 1) Q_p1_1 z_p1_1)))) H := hP
  have hD : va_D A (rc5 a q_t (va_up Q_t 0 (Q_p1 0)) (sTf (sI (sI (sI z_t 2 (gI z_p1 2)) 3 (gI z_p1 3)) 4 (gI z_p1 4)) 5 (va_cpy (gT z_p1 5) (gT (sI (sI (sI z_t 2 (gI z_p1 2)) 3 (gI z_p1 3)) 4 (gI z_p1 4)) 5) 0 0 8)) ++ (rc0 a (Q_t 1) Q_t_1 z2 ++ (rc5 a q_p1 Q_p1 z_p1 ++ (rc0 a (Q_p1 1) Q_p1_1 z_p1_1)))) := hD
  refine lv_aload_n hx hb dX5_copyFrom_58 rfl (lv_at hl 0 rfl) ?_
  refine lv_aload_n hx hb dX5_copyFrom_59 rfl (lv_at hl 1 rfl) ?_
  refine va_get (D := D) (v := .int (gI z_p1 6)) (C := RX5) (T := TX5) (N := 8) hx hb hts iX5 hown hK.1 hP 5 rfl rfl 6 (by decide) (hts _ t_172) (fun _ h9 => h9) rfl dX5_copyFrom_60 ?_
  refine va_put (D := D) (v := .int (gI z_p1 6)) (C := RX5) (T := TX5) (N := 8) hx hb hts iX5 tyX5 tyX5_ok nmX5 hown hK.1 hP hD hS 0 rfl rfl 6 (by decide) (hts _ t_172) (fun _ h9 => h9) rfl (tyX5_ok 6 (by decide)) rfl rfl (Nat.le_of_ble_eq_true rfl) dX5_copyFrom_63 (fun H locs hP hD hS => ?_)
  have hP : va_P D classes (rc5 a q_t (va_up Q_t 0 (Q_p1 0)) (sI (sTf (sI (sI (sI z_t 2 (gI z_p1 2)) 3 (gI z_p1 3)) 4 (gI z_p1 4)) 5 (va_cpy (gT z_p1 5) (gT (sI (sI (sI z_t 2 (gI z_p1 2)) 3 (gI z_p1 3)) 4 (gI z_p1 4)) 5) 0 0 8)) 6 (gI z_p1 6)) ++ (rc0 a (Q_t 1) Q_t_1 z2 ++ (rc5 a q_p1 Q_p1 z_p1 ++ (rc0 a (Q_p1 1) Q_p1_1 z_p1_1)))) H := hP
  have hD : va_D A (rc5 a q_t (va_up Q_t 0 (Q_p1 0)) (sI (sTf (sI (sI (sI z_t 2 (gI z_p1 2)) 3 (gI z_p1 3)) 4 (gI z_p1 4)) 5 (va_cpy (gT z_p1 5) (gT (sI (sI (sI z_t 2 (gI z_p1 2)) 3 (gI z_p1 3)) 4 (gI z_p1 4)) 5) 0 0 8)) 6 (gI z_p1 6)) ++ (rc0 a (Q_t 1) Q_t_1 z2 ++ (rc5 a q_p1 Q_p1 z_p1 ++ (rc0 a (Q_p1 1) Q_p1_1 z_p1_1)))) := hD
  refine lv_aload_n hx hb dX5_copyFrom_66 rfl (lv_at hl 1 rfl) ?_
  refine va_get (D := D) (v := .ref (Q_p1 7)) (C := RX5) (T := TX5) (N := 8) hx hb hts iX5 hown hK.1 hP 5 rfl rfl 7 (by decide) (hts _ t_174) (fun _ h9 => h9) rfl dX5_copyFrom_67 ?_
  refine lv_iconst (v := 0) hx hb dX5_copyFrom_70 (by decide) ?_
  refine lv_aload_n hx hb dX5_copyFrom_71 rfl (lv_at hl 0 rfl) ?_
  refine va_get (D := D) (v := .ref (Q_t 7)) (C := RX5) (T := TX5) (N := 8) hx hb hts iX5 hown hK.1 hP 0 rfl rfl 7 (by decide) (hts _ t_174) (fun _ h9 => h9) rfl dX5_copyFrom_72 ?_
  refine lv_iconst (v := 0) hx hb dX5_copyFrom_75 (by decide) ?_
  refine lv_bipush (v := 8) hx hb dX5_copyFrom_76 (by decide) ?_
  refine va_copyi hx hb (by rw [hml]; exact hl.1.symm) hown (hts _ t_871) (hts _ t_574) (hts _ t_573) (hts _ t_17) hK.1 hP hD hS 7 2 0 0 rfl rfl rfl rfl rfl (by decide) (by decide) (by decide) (by decide) (by decide) (fun _ _ => rfl) (Nat.le_of_ble_eq_true rfl) (Nat.le_of_ble_eq_true rfl) dX5_copyFrom_78 (fun H locs hP hD hS => ?_)
  have hP : va_P D classes (rc5 a q_t (va_up Q_t 0 (Q_p1 0)) (sTf (sI (sTf (sI (sI (sI z_t 2 (gI z_p1 2)) 3 (gI z_p1 3)) 4 (gI z_p1 4)) 5 (va_cpy (gT z_p1 5) (gT (sI (sI (sI z_t 2 (gI z_p1 2)) 3 (gI z_p1 3)) 4 (gI z_p1 4)) 5) 0 0 8)) 6 (gI z_p1 6)) 7 (va_cpy (gT z_p1 7) (gT (sI (sTf (sI (sI (sI z_t 2 (gI z_p1 2)) 3 (gI z_p1 3)) 4 (gI z_p1 4)) 5 (va_cpy (gT z_p1 5) (gT (sI (sI (sI z_t 2 (gI z_p1 2)) 3 (gI z_p1 3)) 4 (gI z_p1 4)) 5) 0 0 8)) 6 (gI z_p1 6)) 7) 0 0 8)) ++ (rc0 a (Q_t 1) Q_t_1 z2 ++ (rc5 a q_p1 Q_p1 z_p1 ++ (rc0 a (Q_p1 1) Q_p1_1 z_p1_1)))) H := hP
  have hD : va_D A (rc5 a q_t (va_up Q_t 0 (Q_p1 0)) (sTf (sI (sTf (sI (sI (sI z_t 2 (gI z_p1 2)) 3 (gI z_p1 3)) 4 (gI z_p1 4)) 5 (va_cpy (gT z_p1 5) (gT (sI (sI (sI z_t 2 (gI z_p1 2)) 3 (gI z_p1 3)) 4 (gI z_p1 4)) 5) 0 0 8)) 6 (gI z_p1 6)) 7 (va_cpy (gT z_p1 7) (gT (sI (sTf (sI (sI (sI z_t 2 (gI z_p1 2)) 3 (gI z_p1 3)) 4 (gI z_p1 4)) 5 (va_cpy (gT z_p1 5) (gT (sI (sI (sI z_t 2 (gI z_p1 2)) 3 (gI z_p1 3)) 4 (gI z_p1 4)) 5) 0 0 8)) 6 (gI z_p1 6)) 7) 0 0 8)) ++ (rc0 a (Q_t 1) Q_t_1 z2 ++ (rc5 a q_p1 Q_p1 z_p1 ++ (rc0 a (Q_p1 1) Q_p1_1 z_p1_1)))) := hD
  exact rMv C rfl h (g := fun y => rc5 a q_t (va_up Q_t 0 (Q_p1 0)) y.1 ++ (rc0 a (Q_t 1) Q_t_1 y.2 ++ (rc5 a q_p1 Q_p1 z_p1 ++ (rc0 a (Q_p1 1) Q_p1_1 z_p1_1)))) hP hD hS dX5_copyFrom_81

def fX8_back_some (z_t : Sx) (z_t_5 : Sx) (z_t_5_1 : Sx) (B_t_6 : Nat → Option Nat) (z_R : Sx) (z_R_1 : Sx) (x1 : Int32) : Option (Int32 × Sx × Sx) := if x1 < 0 then none else if x1 < 4 then gd (inb x1 4) (bd2 (fX5_copyFrom z_t_5 z_t_5_1 z_R z_R_1) (fun z5 z6 => some (gI z5 4, z5, z6))) else none

set_option maxHeartbeats 4000000 in
set_option maxRecDepth 100000 in
theorem mX8_back_some (l : Launch) (D : va_G) (a : Nat → ClassId) {q_R : Nat} {q_t : Nat} {Q_t : Nat → Nat} {z_t : Sx} {Q_t_5 : Nat → Nat} {z_t_5 : Sx} {Q_t_5_1 : Nat → Nat} {z_t_5_1 : Sx} {B_t_6 : Nat → Option Nat} {Q_R : Nat → Nat} {z_R : Sx} {Q_R_1 : Nat → Nat} {z_R_1 : Sx} {x1 : Int32} (hm : B_t_6 x1.toNatClampNeg = some q_R) {y : Int32 × Sx × Sx} (h : fX8_back_some z_t z_t_5 z_t_5_1 B_t_6 z_R z_R_1 x1 = some y) (sz : Nat) : CMi (S := Unit) l MX8_back 3 102 0 0 D a [.ref q_t, .int x1] (rc8 a q_t Q_t z_t ++ (rc5 a (Q_t 5) Q_t_5 z_t_5 ++ (rc0 a (Q_t_5 1) Q_t_5_1 z_t_5_1 ++ (rb5 a (Q_t 6) 4 B_t_6 ++ (rc5 a q_R Q_R z_R ++ (rc0 a (Q_R 1) Q_R_1 z_R_1)))))) sz (fun r _ => r = y.1) (fun _ => rc8 a q_t Q_t z_t ++ (rc5 a (Q_t 5) (va_up Q_t_5 0 (Q_R 0)) y.2.1 ++ (rc0 a (Q_t_5 1) Q_t_5_1 y.2.2 ++ (rb5 a (Q_t 6) 4 B_t_6 ++ (rc5 a q_R Q_R z_R ++ (rc0 a (Q_R 1) Q_R_1 z_R_1)))))) := by
  unfold fX8_back_some at h
  refine entMi (by decide) (Nat.le_of_ble_eq_true rfl) ?_
  intro p e s m below meth c C hK A hA hP hD ls hl
  obtain ⟨hx, hb, hml, hown, hts, hr, hlocks, hnm⟩ := id C
  have hb : c.code = cX8_back := hb
  have hown : s.vm.findClass RX8 = some m.cls := hown
  have hS : va_S A s.heap s.heap [] := va_S.rf
  have hl : lv_has ls 3 [(0, .ref q_t), (1, .int x1)] := hl
  refine lv_iload_n hx hb dX8_back_0 rfl (lv_at hl 1 rfl) ?_
  refine lv_if_lt (tgt := 13) hx hb dX8_back_1 (by decide) (fun c1 => ?_) (fun c1 => ?_)
  · have h := ite_t c1 h
    cases h
  · have h := ite_f c1 h
    refine lv_iload_n hx hb dX8_back_4 rfl (lv_at hl 1 rfl) ?_
    refine lv_aload_n hx hb dX8_back_5 rfl (lv_at hl 0 rfl) ?_
    refine va_get (D := D) (v := .ref (Q_t 6)) (C := RX8) (T := TX8) (N := 11) hx hb hts iX8 hown hK.1 hP 0 rfl rfl 6 (by decide) (hts _ t_306) (fun _ h9 => h9) rfl dX8_back_6 ?_
    refine va_alen (v := 4) hx hb hK.1 hP 7 5 rfl rfl rfl dX8_back_9 ?_
    refine lv_icmp_lt (tgt := 15) hx hb dX8_back_10 (by decide) (fun c2 => ?_) (fun c2 => ?_)
    · have h := ite_t c2 h
      refine lv_aload_n hx hb dX8_back_15 rfl (lv_at hl 0 rfl) ?_
      refine va_get (D := D) (v := .ref (Q_t 6)) (C := RX8) (T := TX8) (N := 11) hx hb hts iX8 hown hK.1 hP 0 rfl rfl 6 (by decide) (hts _ t_306) (fun _ h9 => h9) rfl dX8_back_16 ?_
      refine lv_iload_n hx hb dX8_back_19 rfl (lv_at hl 1 rfl) ?_
      obtain ⟨g3, h⟩ := gd_some h
      refine ald_q hx hb hK.1 hP 7 5 rfl rfl x1.toNatClampNeg (ix_g g3) dX8_back_20 ?_
      rw [hm]
      refine lv_astore_n (lv' := [(2, .ref q_R), (0, .ref q_t), (1, .int x1)]) hx hb dX8_back_21 rfl hl (by decide) rfl (fun ls hl => ?_)
      refine lv_aload_n hx hb dX8_back_22 rfl (lv_at hl 0 rfl) ?_
      refine lv_ifnonnull (tgt := 28) hx hb dX8_back_23 (by decide) ?_
      refine lv_aload_n hx hb dX8_back_28 rfl (lv_at hl 1 rfl) ?_
      refine va_get (D := D) (v := .ref (Q_t 5)) (C := RX8) (T := TX8) (N := 11) hx hb hts iX8 hown hK.1 hP 0 rfl rfl 5 (by decide) (hts _ t_305) (fun _ h9 => h9) rfl dX8_back_29 ?_
      refine lv_aload_n hx hb dX8_back_32 rfl (lv_at hl 0 rfl) ?_
      obtain ⟨z5, z6, hc4, h⟩ := bd2_some h
      refine cMv (runV (As := [.ref q_R]) (rest := []) C (mX5_copyFrom l D a hc4 s.heap.size) lk_V_8_300 okN_X5_copyFrom ⟨Nat.le_of_ble_eq_true rfl, Nat.le_of_ble_eq_true rfl⟩ ⟨rfl, rfl⟩ (preV (preM hK (P_of_map (wc := rc5 a (Q_t 5) Q_t_5 z_t_5 ++ (rc0 a (Q_t_5 1) Q_t_5_1 z_t_5_1 ++ (rc5 a q_R Q_R z_R ++ (rc0 a (Q_R 1) Q_R_1 z_R_1)))) hP [2, 3, 4, 5, 6, 8, 9, 10, 11, 12] rfl) (hD.sub (ws' := rc5 a (Q_t 5) Q_t_5 z_t_5 ++ (rc0 a (Q_t_5 1) Q_t_5_1 z_t_5_1 ++ (rc5 a q_R Q_R z_R ++ (rc0 a (Q_R 1) Q_R_1 z_R_1)))) [2, 3, 4, 5, 6, 8, 9, 10, 11, 12] (by decide) rfl)) (recvOf hK hP 2 rfl (ci := 5) rfl)) hl.1 rfl (Nat.le_of_ble_eq_true rfl) dX8_back_33 ⟨Nat.le_of_ble_eq_true rfl, Nat.le_of_ble_eq_true rfl⟩) hP hD hS hA [2, 3, 4, 5, 6, 8, 9, 10, 11, 12] [0, 1, 7] [0, 1, 3, 4, 5, 6, 7, 2, 8, 9, 10, 11, 12] rfl rfl (by decide) (by decide) (fw := rc8 a q_t Q_t z_t ++ (rc5 a (Q_t 5) (va_up Q_t_5 0 (Q_R 0)) z5 ++ (rc0 a (Q_t_5 1) Q_t_5_1 z6 ++ (rb5 a (Q_t 6) 4 B_t_6 ++ (rc5 a q_R Q_R z_R ++ (rc0 a (Q_R 1) Q_R_1 z_R_1)))))) rfl (by decide) (fun H locs hP hD hS => ?_)
      have hP : va_P D classes (rc8 a q_t Q_t z_t ++ (rc5 a (Q_t 5) (va_up Q_t_5 0 (Q_R 0)) z5 ++ (rc0 a (Q_t_5 1) Q_t_5_1 z6 ++ (rb5 a (Q_t 6) 4 B_t_6 ++ (rc5 a q_R Q_R z_R ++ (rc0 a (Q_R 1) Q_R_1 z_R_1)))))) H := hP
      have hD : va_D A (rc8 a q_t Q_t z_t ++ (rc5 a (Q_t 5) (va_up Q_t_5 0 (Q_R 0)) z5 ++ (rc0 a (Q_t_5 1) Q_t_5_1 z6 ++ (rb5 a (Q_t 6) 4 B_t_6 ++ (rc5 a q_R Q_R z_R ++ (rc0 a (Q_R 1) Q_R_1 z_R_1)))))) := hD
      refine lv_aload_n hx hb dX8_back_36 rfl (lv_at hl 1 rfl) ?_
      refine va_get (D := D) (v := .ref (Q_t 5)) (C := RX8) (T := TX8) (N := 11) hx hb hts iX8 hown hK.1 hP 0 rfl rfl 5 (by decide) (hts _ t_305) (fun _ h9 => h9) rfl dX8_back_37 ?_
      refine va_get (D := D) (v := .int (gI z5 4)) (C := RX5) (T := TX5) (N := 8) hx hb hts iX5 hown hK.1 hP 2 rfl rfl 4 (by decide) (hts _ t_169) (fun _ h9 => h9) rfl dX8_back_40 ?_
      exact rMi C rfl h (g := fun y => rc8 a q_t Q_t z_t ++ (rc5 a (Q_t 5) (va_up Q_t_5 0 (Q_R 0)) y.2.1 ++ (rc0 a (Q_t_5 1) Q_t_5_1 y.2.2 ++ (rb5 a (Q_t 6) 4 B_t_6 ++ (rc5 a q_R Q_R z_R ++ (rc0 a (Q_R 1) Q_R_1 z_R_1)))))) (pr := fun y => y.1) hP hD hS dX8_back_43
    · have h := ite_f c2 h
      cases h

def fX8_hasWork (z_t : Sx) (z_t_5 : Sx) (z_t_5_0 : Sx) : Option (Int32) := if (gI z_t_5_0 3) ≤ 0 then some 0 else some 1

set_option maxHeartbeats 4000000 in
set_option maxRecDepth 100000 in
theorem mX8_hasWork (l : Launch) (D : va_G) (a : Nat → ClassId) {q_t : Nat} {Q_t : Nat → Nat} {z_t : Sx} {Q_t_5 : Nat → Nat} {z_t_5 : Sx} {Q_t_5_0 : Nat → Nat} {z_t_5_0 : Sx} {y : Int32} (h : fX8_hasWork z_t z_t_5 z_t_5_0 = some y) : CRi l MX8_hasWork 0 0 D a [.ref q_t] (rc8 a q_t Q_t z_t ++ (rc5 a (Q_t 5) Q_t_5 z_t_5 ++ (rc7 a (Q_t_5 0) Q_t_5_0 z_t_5_0))) (fun r => r = y) := by
  unfold fX8_hasWork at h
  refine entR (by decide) (Nat.le_of_ble_eq_true rfl) ?_
  intro p e s m below meth c C hK hP ls hl
  obtain ⟨hx, hb, hml, hown, hts, hr, hlocks, hnm⟩ := id C
  have hb : c.code = cX8_hasWork := hb
  have hown : s.vm.findClass RX8 = some m.cls := hown
  have hl : lv_has ls 1 [(0, .ref q_t)] := hl
  refine lv_aload_n hx hb dX8_hasWork_0 rfl (lv_at hl 0 rfl) ?_
  refine va_get (D := D) (v := .ref (Q_t 5)) (C := RX8) (T := TX8) (N := 11) hx hb hts iX8 hown hK.1 hP 0 rfl rfl 5 (by decide) (hts _ t_305) (fun _ h9 => h9) rfl dX8_hasWork_1 ?_
  refine va_get (D := D) (v := .ref (Q_t_5 0)) (C := RX5) (T := TX5) (N := 8) hx hb hts iX5 hown hK.1 hP 2 rfl rfl 0 (by decide) (hts _ t_161) (fun _ h9 => h9) rfl dX8_hasWork_4 ?_
  refine va_get (D := D) (v := .int (gI z_t_5_0 3)) (C := RX7) (T := TX7) (N := 18) hx hb hts iX7 hown hK.1 hP 5 rfl rfl 3 (by decide) (hts _ t_47) (fun _ h9 => h9) rfl dX8_hasWork_7 ?_
  refine lv_if_le (tgt := 17) hx hb dX8_hasWork_10 (by decide) (fun c1 => ?_) (fun c1 => ?_)
  · have h := ite_t c1 h
    refine lv_iconst (v := 0) hx hb dX8_hasWork_17 (by decide) ?_
    exact rRz C rfl (Or.inl rfl) (Option.some.inj h) dX8_hasWork_18
  · have h := ite_f c1 h
    refine lv_iconst (v := 1) hx hb dX8_hasWork_13 (by decide) ?_
    refine lv_goto (tgt := 18) hx hb dX8_hasWork_14 (by decide) ?_
    exact rRz C rfl (Or.inr rfl) (Option.some.inj h) dX8_hasWork_18

def fX8_ruleForWork (z_t : Sx) (B_t_2 : Nat → Option Nat) (z_t_5 : Sx) (z_t_5_0 : Sx) (x1 : Int32) : Option ((Option Nat)) := jn (fun (i2 : Int32) => if i2 = 0 then some none else gd (inb x1 6) (some (B_t_2 x1.toNatClampNeg))) (fun J1 => jn (J1 0) (fun J5 => if x1 < 0 then J5 else if (gI z_t 3) ≤ x1 then J5 else if 6 ≤ x1 then J5 else bd (fX8_hasWork z_t z_t_5 z_t_5_0) (fun r10 => if r10 = 0 then J5 else J1 1)))

set_option maxHeartbeats 4000000 in
set_option maxRecDepth 100000 in
theorem mX8_ruleForWork (l : Launch) (D : va_G) (a : Nat → ClassId) {q_t : Nat} {Q_t : Nat → Nat} {z_t : Sx} {B_t_2 : Nat → Option Nat} {Q_t_5 : Nat → Nat} {z_t_5 : Sx} {Q_t_5_0 : Nat → Nat} {z_t_5_0 : Sx} {x1 : Int32} {y : (Option Nat)} (h : fX8_ruleForWork z_t B_t_2 z_t_5 z_t_5_0 x1 = some y) : CRq l MX8_ruleForWork 1 20 D a [.ref q_t, .int x1] (rc8 a q_t Q_t z_t ++ (rb4 a (Q_t 2) 6 B_t_2 ++ (rc5 a (Q_t 5) Q_t_5 z_t_5 ++ (rc7 a (Q_t_5 0) Q_t_5_0 z_t_5_0)))) (fun r => r = y) := by
  unfold fX8_ruleForWork at h
  refine entR (by decide) (Nat.le_of_ble_eq_true rfl) ?_
  intro p e s m below meth c C hK hP ls hl
  obtain ⟨hx, hb, hml, hown, hts, hr, hlocks, hnm⟩ := id C
  have hb : c.code = cX8_ruleForWork := hb
  have hown : s.vm.findClass RX8 = some m.cls := hown
  have hl : lv_has ls 3 [(0, .ref q_t), (1, .int x1)] := hl
  refine lv_iload_n hx hb dX8_ruleForWork_0 rfl (lv_at hl 1 rfl) ?_
  obtain ⟨J1, eJ1, h⟩ := jn_some h
  have hJ1 : ∀ (i2 : Int32) (ls : Array Slot), J1 i2 = some y → lv_has ls 3 [(0, .ref q_t), (1, .int x1)] → W p l e (rmM 1 0 0 20) s m #[.ref q_t, .int x1] below meth c s.heap [] 0 0 (MQ below (va_Sq (fun r => r = y)) #[.ref q_t, .int x1] s 0 0 (fun _ => False)) (F0 m 33 ls [.int i2]) := by
    intro i2 ls h hl
    rw [eJ1] at h
    refine lv_istore_n (lv' := [(2, .int i2), (0, .ref q_t), (1, .int x1)]) hx hb dX8_ruleForWork_33 rfl hl (by decide) rfl (fun ls hl => ?_)
    refine lv_iload_n hx hb dX8_ruleForWork_34 rfl (lv_at hl 0 rfl) ?_
    refine lv_if_eq (tgt := 47) hx hb dX8_ruleForWork_35 (by decide) (fun c3 => ?_) (fun c3 => ?_)
    · have h := ite_t c3 h
      refine lv_null hx hb dX8_ruleForWork_47 ?_
      exact retRq (v := none) C rfl (Or.inl ⟨_, rfl⟩) (Option.some.inj h) dX8_ruleForWork_48
    · have h := ite_f c3 h
      refine lv_aload_n hx hb dX8_ruleForWork_38 rfl (lv_at hl 1 rfl) ?_
      refine va_get (D := D) (v := .ref (Q_t 2)) (C := RX8) (T := TX8) (N := 11) hx hb hts iX8 hown hK.1 hP 0 rfl rfl 2 (by decide) (hts _ t_302) (fun _ h9 => h9) rfl dX8_ruleForWork_39 ?_
      refine lv_iload_n hx hb dX8_ruleForWork_42 rfl (lv_at hl 2 rfl) ?_
      obtain ⟨g4, h⟩ := gd_some h
      refine ald_q hx hb hK.1 hP 2 4 rfl rfl x1.toNatClampNeg (ix_g g4) dX8_ruleForWork_43 ?_
      refine lv_goto (tgt := 48) hx hb dX8_ruleForWork_44 (by decide) ?_
      exact retRq (v := B_t_2 x1.toNatClampNeg) C rfl (Or.inl ⟨_, rfl⟩) (Option.some.inj h) dX8_ruleForWork_48
  obtain ⟨J5, eJ5, h⟩ := jn_some h
  have hJ5 : ∀ (ls : Array Slot), J5 = some y → lv_has ls 3 [(0, .ref q_t), (1, .int x1)] → W p l e (rmM 1 0 0 20) s m #[.ref q_t, .int x1] below meth c s.heap [] 0 0 (MQ below (va_Sq (fun r => r = y)) #[.ref q_t, .int x1] s 0 0 (fun _ => False)) (F0 m 32 ls []) := by
    intro ls h hl
    rw [eJ5] at h
    refine lv_iconst (v := 0) hx hb dX8_ruleForWork_32 (by decide) ?_
    exact hJ1 0 ls h (lv_sub hl [0, 1] rfl)
  refine lv_if_lt (tgt := 32) hx hb dX8_ruleForWork_1 (by decide) (fun c6 => ?_) (fun c6 => ?_)
  · have h := ite_t c6 h
    exact hJ5 ls h (lv_sub hl [0, 1] rfl)
  · have h := ite_f c6 h
    refine lv_iload_n hx hb dX8_ruleForWork_4 rfl (lv_at hl 1 rfl) ?_
    refine lv_aload_n hx hb dX8_ruleForWork_5 rfl (lv_at hl 0 rfl) ?_
    refine va_get (D := D) (v := .int (gI z_t 3)) (C := RX8) (T := TX8) (N := 11) hx hb hts iX8 hown hK.1 hP 0 rfl rfl 3 (by decide) (hts _ t_303) (fun _ h9 => h9) rfl dX8_ruleForWork_6 ?_
    refine lv_icmp_ge (tgt := 32) hx hb dX8_ruleForWork_9 (by decide) (fun c7 => ?_) (fun c7 => ?_)
    · have h := ite_t c7 h
      exact hJ5 ls h (lv_sub hl [0, 1] rfl)
    · have h := ite_f c7 h
      refine lv_iload_n hx hb dX8_ruleForWork_12 rfl (lv_at hl 1 rfl) ?_
      refine lv_aload_n hx hb dX8_ruleForWork_13 rfl (lv_at hl 0 rfl) ?_
      refine va_get (D := D) (v := .ref (Q_t 2)) (C := RX8) (T := TX8) (N := 11) hx hb hts iX8 hown hK.1 hP 0 rfl rfl 2 (by decide) (hts _ t_302) (fun _ h9 => h9) rfl dX8_ruleForWork_14 ?_
      refine va_alen (v := 6) hx hb hK.1 hP 2 4 rfl rfl rfl dX8_ruleForWork_17 ?_
      refine lv_icmp_ge (tgt := 32) hx hb dX8_ruleForWork_18 (by decide) (fun c8 => ?_) (fun c8 => ?_)
      · have h := ite_t c8 h
        exact hJ5 ls h (lv_sub hl [0, 1] rfl)
      · have h := ite_f c8 h
        refine lv_aload_n hx hb dX8_ruleForWork_21 rfl (lv_at hl 0 rfl) ?_
        obtain ⟨r10, hc9, h⟩ := bd_some h
        refine cRi (runV (As := []) (rest := []) C (mX8_hasWork l D a hc9) lk_V_8_213 okN_X8_hasWork ⟨Nat.le_of_ble_eq_true rfl, Nat.le_of_ble_eq_true rfl⟩ ⟨rfl, rfl⟩ (preV (preR hK (P_of_map (wc := rc8 a q_t Q_t z_t ++ (rc5 a (Q_t 5) Q_t_5 z_t_5 ++ (rc7 a (Q_t_5 0) Q_t_5_0 z_t_5_0))) hP [0, 1, 3, 4, 5, 6, 7, 8, 9, 10, 11, 12, 13, 14, 15, 16, 17, 18] rfl)) (recvOf hK hP 0 rfl (ci := 8) rfl)) hl.1 rfl (Nat.le_of_ble_eq_true rfl) dX8_ruleForWork_22 ⟨Nat.le_of_ble_eq_true rfl, Nat.le_of_ble_eq_true rfl⟩) ?_
        refine lv_if_eq (tgt := 32) hx hb dX8_ruleForWork_25 (by decide) (fun c11 => ?_) (fun c11 => ?_)
        · have h := ite_t c11 h
          exact hJ5 ls h (lv_sub hl [0, 1] rfl)
        · have h := ite_f c11 h
          refine lv_iconst (v := 1) hx hb dX8_ruleForWork_28 (by decide) ?_
          refine lv_goto (tgt := 33) hx hb dX8_ruleForWork_29 (by decide) ?_
          exact hJ1 1 ls h (lv_sub hl [0, 1] rfl)

def fX0_gone (z_t : Sx) : Option (Int32) := some ((gI z_t 2) ||| (gI z_t 3))

set_option maxHeartbeats 4000000 in
set_option maxRecDepth 100000 in
theorem mX0_gone (l : Launch) (D : va_G) (a : Nat → ClassId) {q_t : Nat} {Q_t : Nat → Nat} {z_t : Sx} {y : Int32} (h : fX0_gone z_t = some y) : CRi l MX0_gone 0 0 D a [.ref q_t] (rc0 a q_t Q_t z_t) (fun r => r = y) := by
  unfold fX0_gone at h
  refine entR (by decide) (Nat.le_of_ble_eq_true rfl) ?_
  intro p e s m below meth c C hK hP ls hl
  obtain ⟨hx, hb, hml, hown, hts, hr, hlocks, hnm⟩ := id C
  have hb : c.code = cX0_gone := hb
  have hown : s.vm.findClass RX0 = some m.cls := hown
  have hl : lv_has ls 1 [(0, .ref q_t)] := hl
  refine lv_aload_n hx hb dX0_gone_0 rfl (lv_at hl 0 rfl) ?_
  refine va_get (D := D) (v := .int (gI z_t 2)) (C := RX0) (T := TX0) (N := 6) hx hb hts iX0 hown hK.1 hP 0 rfl rfl 2 (by decide) (hts _ t_136) (fun _ h9 => h9) rfl dX0_gone_1 ?_
  refine lv_aload_n hx hb dX0_gone_4 rfl (lv_at hl 0 rfl) ?_
  refine va_get (D := D) (v := .int (gI z_t 3)) (C := RX0) (T := TX0) (N := 6) hx hb hts iX0 hown hK.1 hP 0 rfl rfl 3 (by decide) (hts _ t_139) (fun _ h9 => h9) rfl dX0_gone_5 ?_
  refine lv_ior hx hb dX0_gone_8 ?_
  exact rRi C rfl (Option.some.inj h) dX0_gone_9

def fJ6_bitCount_0f7a4 (x0 : Int32) : Option (Int32) := nm (x0 - (((x0.toUInt32 >>> (Int32.toUInt32 1 &&& Int32.toUInt32 31)).toInt32) &&& 1431655765) : Int32) (fun v1 => nm ((v1 &&& 858993459) + (((v1.toUInt32 >>> (Int32.toUInt32 2 &&& Int32.toUInt32 31)).toInt32) &&& 858993459) : Int32) (fun v2 => nm ((v2 + ((v2.toUInt32 >>> (Int32.toUInt32 4 &&& Int32.toUInt32 31)).toInt32)) &&& 252645135 : Int32) (fun v3 => nm (v3 + ((v3.toUInt32 >>> (Int32.toUInt32 8 &&& Int32.toUInt32 31)).toInt32) : Int32) (fun v4 => nm (v4 + ((v4.toUInt32 >>> (Int32.toUInt32 16 &&& Int32.toUInt32 31)).toInt32) : Int32) (fun v5 => some (v5 &&& 63))))))

set_option maxHeartbeats 4000000 in
set_option maxRecDepth 100000 in
theorem mJ6_bitCount_0f7a4 (l : Launch) (D : va_G) (a : Nat → ClassId) {x0 : Int32} {y : Int32} (h : fJ6_bitCount_0f7a4 x0 = some y) : CRi l MJ6_bitCount_0f7a4 0 0 D a [.int x0] ([]) (fun r => r = y) := by
  unfold fJ6_bitCount_0f7a4 at h
  refine entR (by decide) (Nat.le_of_ble_eq_true rfl) ?_
  intro p e s m below meth c C hK hP ls hl
  obtain ⟨hx, hb, hml, hown, hts, hr, hlocks, hnm⟩ := id C
  have hb : c.code = cJ6_bitCount_0f7a4 := hb
  have hown : s.vm.findClass RJ6 = some m.cls := hown
  have hl : lv_has ls 1 [(0, .int x0)] := hl
  refine lv_iload_n hx hb dJ6_bitCount_0f7a4_0 rfl (lv_at hl 0 rfl) ?_
  refine lv_iload_n hx hb dJ6_bitCount_0f7a4_1 rfl (lv_at hl 0 rfl) ?_
  refine lv_iconst (v := 1) hx hb dJ6_bitCount_0f7a4_2 (by decide) ?_
  refine lv_iushr (v := (x0.toUInt32 >>> (Int32.toUInt32 1 &&& Int32.toUInt32 31)).toInt32) hx hb dJ6_bitCount_0f7a4_3 rfl ?_
  refine lv_ldcw hx hb hown (hts _ t_633) dJ6_bitCount_0f7a4_4 ?_
  refine lv_iand hx hb dJ6_bitCount_0f7a4_7 ?_
  refine lv_isub hx hb dJ6_bitCount_0f7a4_8 ?_
  refine lv_topi (fun v1 ev1 => ?_)
  have h := nm_some h v1 ev1
  refine lv_istore_n (lv' := [(0, .int v1)]) hx hb dJ6_bitCount_0f7a4_9 rfl hl (by decide) rfl (fun ls hl => ?_)
  refine lv_iload_n hx hb dJ6_bitCount_0f7a4_10 rfl (lv_at hl 0 rfl) ?_
  refine lv_ldcw hx hb hown (hts _ t_634) dJ6_bitCount_0f7a4_11 ?_
  refine lv_iand hx hb dJ6_bitCount_0f7a4_14 ?_
  refine lv_iload_n hx hb dJ6_bitCount_0f7a4_15 rfl (lv_at hl 0 rfl) ?_
  refine lv_iconst (v := 2) hx hb dJ6_bitCount_0f7a4_16 (by decide) ?_
  refine lv_iushr (v := (v1.toUInt32 >>> (Int32.toUInt32 2 &&& Int32.toUInt32 31)).toInt32) hx hb dJ6_bitCount_0f7a4_17 rfl ?_
  refine lv_ldcw hx hb hown (hts _ t_634) dJ6_bitCount_0f7a4_18 ?_
  refine lv_iand hx hb dJ6_bitCount_0f7a4_21 ?_
  refine lv_iadd hx hb dJ6_bitCount_0f7a4_22 ?_
  refine lv_topi (fun v2 ev2 => ?_)
  have h := nm_some h v2 ev2
  refine lv_istore_n (lv' := [(0, .int v2)]) hx hb dJ6_bitCount_0f7a4_23 rfl hl (by decide) rfl (fun ls hl => ?_)
  refine lv_iload_n hx hb dJ6_bitCount_0f7a4_24 rfl (lv_at hl 0 rfl) ?_
  refine lv_iload_n hx hb dJ6_bitCount_0f7a4_25 rfl (lv_at hl 0 rfl) ?_
  refine lv_iconst (v := 4) hx hb dJ6_bitCount_0f7a4_26 (by decide) ?_
  refine lv_iushr (v := (v2.toUInt32 >>> (Int32.toUInt32 4 &&& Int32.toUInt32 31)).toInt32) hx hb dJ6_bitCount_0f7a4_27 rfl ?_
  refine lv_iadd hx hb dJ6_bitCount_0f7a4_28 ?_
  refine lv_ldcw hx hb hown (hts _ t_635) dJ6_bitCount_0f7a4_29 ?_
  refine lv_iand hx hb dJ6_bitCount_0f7a4_32 ?_
  refine lv_topi (fun v3 ev3 => ?_)
  have h := nm_some h v3 ev3
  refine lv_istore_n (lv' := [(0, .int v3)]) hx hb dJ6_bitCount_0f7a4_33 rfl hl (by decide) rfl (fun ls hl => ?_)
  refine lv_iload_n hx hb dJ6_bitCount_0f7a4_34 rfl (lv_at hl 0 rfl) ?_
  refine lv_iload_n hx hb dJ6_bitCount_0f7a4_35 rfl (lv_at hl 0 rfl) ?_
  refine lv_bipush (v := 8) hx hb dJ6_bitCount_0f7a4_36 (by decide) ?_
  refine lv_iushr (v := (v3.toUInt32 >>> (Int32.toUInt32 8 &&& Int32.toUInt32 31)).toInt32) hx hb dJ6_bitCount_0f7a4_38 rfl ?_
  refine lv_iadd hx hb dJ6_bitCount_0f7a4_39 ?_
  refine lv_topi (fun v4 ev4 => ?_)
  have h := nm_some h v4 ev4
  refine lv_istore_n (lv' := [(0, .int v4)]) hx hb dJ6_bitCount_0f7a4_40 rfl hl (by decide) rfl (fun ls hl => ?_)
  refine lv_iload_n hx hb dJ6_bitCount_0f7a4_41 rfl (lv_at hl 0 rfl) ?_
  refine lv_iload_n hx hb dJ6_bitCount_0f7a4_42 rfl (lv_at hl 0 rfl) ?_
  refine lv_bipush (v := 16) hx hb dJ6_bitCount_0f7a4_43 (by decide) ?_
  refine lv_iushr (v := (v4.toUInt32 >>> (Int32.toUInt32 16 &&& Int32.toUInt32 31)).toInt32) hx hb dJ6_bitCount_0f7a4_45 rfl ?_
  refine lv_iadd hx hb dJ6_bitCount_0f7a4_46 ?_
  refine lv_topi (fun v5 ev5 => ?_)
  have h := nm_some h v5 ev5
  refine lv_istore_n (lv' := [(0, .int v5)]) hx hb dJ6_bitCount_0f7a4_47 rfl hl (by decide) rfl (fun ls hl => ?_)
  refine lv_iload_n hx hb dJ6_bitCount_0f7a4_48 rfl (lv_at hl 0 rfl) ?_
  refine lv_bipush (v := 63) hx hb dJ6_bitCount_0f7a4_49 (by decide) ?_
  refine lv_iand hx hb dJ6_bitCount_0f7a4_51 ?_
  exact rRi C rfl (Option.some.inj h) dJ6_bitCount_0f7a4_52

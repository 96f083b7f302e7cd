def fX6_step (z_t : Sx) : Option (Sx) := if (gI z_t 4) < 0 then some z_t else if (gI z_t 3) ≤ (gI z_t 4) then some z_t else if 401 ≤ (gI z_t 4) then some z_t else gd (inb (gI z_t 4) 401) (nm (gT (sI z_t 5 (gT z_t 0 ((gI z_t 4).toNatClampNeg))) 1 ((gI z_t 4).toNatClampNeg) : Int32) (fun v5 => nm (gT (sI (sI z_t 5 (gT z_t 0 ((gI z_t 4).toNatClampNeg))) 6 v5) 2 ((gI z_t 4).toNatClampNeg) : Int32) (fun v6 => some (sI (sI (sI (sI z_t 5 (gT z_t 0 ((gI z_t 4).toNatClampNeg))) 6 v5) 7 v6) 4 ((gI z_t 4) + 1)))))

set_option maxHeartbeats 4000000 in
set_option maxRecDepth 100000 in
theorem mX6_step (l : Launch) (D : va_G) (a : Nat → ClassId) {q_t : Nat} {Q_t : Nat → Nat} {z_t : Sx} {y : Sx} (h : fX6_step z_t = some y) (sz : Nat) : CMv (S := Unit) l MX6_step 0 0 0 0 D a [.ref q_t] (rc6 a q_t Q_t z_t) sz (fun _ => True) (fun _ => rc6 a q_t Q_t y) := by
  unfold fX6_step at h
  refine entMv (by decide) (Nat.le_of_ble_eq_true rfl) ?_
  intro p e s m below meth c C hK A hA hP hD ls hl
  obtain ⟨hx, hb, hml, hown, hts, hr, hlocks, hnm⟩ := id C
  have hb : c.code = cX6_step := hb
  have hown : s.vm.findClass RX6 = some m.cls := hown
  have hS : va_S A s.heap s.heap [] := va_S.rf
  have hl : lv_has ls 1 [(0, .ref q_t)] := hl
  refine lv_aload_n hx hb dX6_step_0 rfl (lv_at hl 0 rfl) ?_
  refine va_get (D := D) (v := .int (gI z_t 4)) (C := RX6) (T := TX6) (N := 9) hx hb hts iX6 hown hK.1 hP 0 rfl rfl 4 (by decide) (hts _ t_212) (fun _ h9 => h9) rfl dX6_step_1 ?_
  refine lv_if_lt (tgt := 79) hx hb dX6_step_4 (by decide) (fun c1 => ?_) (fun c1 => ?_)
  · have h := ite_t c1 h
    exact rMv C rfl h (g := fun y => rc6 a q_t Q_t y) hP hD hS dX6_step_79
  · have h := ite_f c1 h
    refine lv_aload_n hx hb dX6_step_7 rfl (lv_at hl 0 rfl) ?_
    refine va_get (D := D) (v := .int (gI z_t 4)) (C := RX6) (T := TX6) (N := 9) hx hb hts iX6 hown hK.1 hP 0 rfl rfl 4 (by decide) (hts _ t_212) (fun _ h9 => h9) rfl dX6_step_8 ?_
    refine lv_aload_n hx hb dX6_step_11 rfl (lv_at hl 0 rfl) ?_
    refine va_get (D := D) (v := .int (gI z_t 3)) (C := RX6) (T := TX6) (N := 9) hx hb hts iX6 hown hK.1 hP 0 rfl rfl 3 (by decide) (hts _ t_211) (fun _ h9 => h9) rfl dX6_step_12 ?_
    refine lv_icmp_ge (tgt := 79) hx hb dX6_step_15 (by decide) (fun c2 => ?_) (fun c2 => ?_)
    · have h := ite_t c2 h
      exact rMv C rfl h (g := fun y => rc6 a q_t Q_t y) hP hD hS dX6_step_79
    · have h := ite_f c2 h
      refine lv_aload_n hx hb dX6_step_18 rfl (lv_at hl 0 rfl) ?_
      refine va_get (D := D) (v := .int (gI z_t 4)) (C := RX6) (T := TX6) (N := 9) hx hb hts iX6 hown hK.1 hP 0 rfl rfl 4 (by decide) (hts _ t_212) (fun _ h9 => h9) rfl dX6_step_19 ?_
      refine lv_aload_n hx hb dX6_step_22 rfl (lv_at hl 0 rfl) ?_
      refine va_get (D := D) (v := .ref (Q_t 0)) (C := RX6) (T := TX6) (N := 9) hx hb hts iX6 hown hK.1 hP 0 rfl rfl 0 (by decide) (hts _ t_208) (fun _ h9 => h9) rfl dX6_step_23 ?_
      refine va_alen (v := 401) hx hb hK.1 hP 1 0 rfl rfl rfl dX6_step_26 ?_
      refine lv_icmp_ge (tgt := 79) hx hb dX6_step_27 (by decide) (fun c3 => ?_) (fun c3 => ?_)
      · have h := ite_t c3 h
        exact rMv C rfl h (g := fun y => rc6 a q_t Q_t y) hP hD hS dX6_step_79
      · have h := ite_f c3 h
        refine lv_aload_n hx hb dX6_step_30 rfl (lv_at hl 0 rfl) ?_
        refine lv_aload_n hx hb dX6_step_31 rfl (lv_at hl 0 rfl) ?_
        refine va_get (D := D) (v := .ref (Q_t 0)) (C := RX6) (T := TX6) (N := 9) hx hb hts iX6 hown hK.1 hP 0 rfl rfl 0 (by decide) (hts _ t_208) (fun _ h9 => h9) rfl dX6_step_32 ?_
        refine lv_aload_n hx hb dX6_step_35 rfl (lv_at hl 0 rfl) ?_
        refine va_get (D := D) (v := .int (gI z_t 4)) (C := RX6) (T := TX6) (N := 9) hx hb hts iX6 hown hK.1 hP 0 rfl rfl 4 (by decide) (hts _ t_212) (fun _ h9 => h9) rfl dX6_step_36 ?_
        obtain ⟨g4, h⟩ := gd_some h
        refine ald_i hx hb hK.1 hP 1 0 rfl rfl ((gI z_t 4).toNatClampNeg) (ix_g g4) dX6_step_39 ?_
        refine va_put (D := D) (v := .int (gT z_t 0 ((gI z_t 4).toNatClampNeg))) (C := RX6) (T := TX6) (N := 9) hx hb hts iX6 tyX6 tyX6_ok nmX6 hown hK.1 hP hD hS 0 rfl rfl 5 (by decide) (hts _ t_215) (fun _ h9 => h9) rfl (tyX6_ok 5 (by decide)) rfl rfl (Nat.le_of_ble_eq_true rfl) dX6_step_40 (fun H locs hP hD hS => ?_)
        have hP : va_P D classes (rc6 a q_t Q_t (sI z_t 5 (gT z_t 0 ((gI z_t 4).toNatClampNeg)))) H := hP
        have hD : va_D A (rc6 a q_t Q_t (sI z_t 5 (gT z_t 0 ((gI z_t 4).toNatClampNeg)))) := hD
        refine lv_aload_n hx hb dX6_step_43 rfl (lv_at hl 0 rfl) ?_
        refine lv_aload_n hx hb dX6_step_44 rfl (lv_at hl 0 rfl) ?_
        refine va_get (D := D) (v := .ref (Q_t 1)) (C := RX6) (T := TX6) (N := 9) hx hb hts iX6 hown hK.1 hP 0 rfl rfl 1 (by decide) (hts _ t_209) (fun _ h9 => h9) rfl dX6_step_45 ?_
        refine lv_aload_n hx hb dX6_step_48 rfl (lv_at hl 0 rfl) ?_
        refine va_get (D := D) (v := .int (gI z_t 4)) (C := RX6) (T := TX6) (N := 9) hx hb hts iX6 hown hK.1 hP 0 rfl rfl 4 (by decide) (hts _ t_212) (fun _ h9 => h9) rfl dX6_step_49 ?_
        refine ald_i hx hb hK.1 hP 2 0 rfl rfl ((gI z_t 4).toNatClampNeg) (ix_g g4) dX6_step_52 ?_
        refine lv_topi (fun v5 ev5 => ?_)
        have h := nm_some h v5 ev5
        refine va_put (D := D) (v := .int v5) (C := RX6) (T := TX6) (N := 9) hx hb hts iX6 tyX6 tyX6_ok nmX6 hown hK.1 hP hD hS 0 rfl rfl 6 (by decide) (hts _ t_216) (fun _ h9 => h9) rfl (tyX6_ok 6 (by decide)) rfl rfl (Nat.le_of_ble_eq_true rfl) dX6_step_53 (fun H locs hP hD hS => ?_)
        have hP : va_P D classes (rc6 a q_t Q_t (sI (sI z_t 5 (gT z_t 0 ((gI z_t 4).toNatClampNeg))) 6 v5)) H := hP
        have hD : va_D A (rc6 a q_t Q_t (sI (sI z_t 5 (gT z_t 0 ((gI z_t 4).toNatClampNeg))) 6 v5)) := hD
        refine lv_aload_n hx hb dX6_step_56 rfl (lv_at hl 0 rfl) ?_
        refine lv_aload_n hx hb dX6_step_57 rfl (lv_at hl 0 rfl) ?_
        refine va_get (D := D) (v := .ref (Q_t 2)) (C := RX6) (T := TX6) (N := 9) hx hb hts iX6 hown hK.1 hP 0 rfl rfl 2 (by decide) (hts _ t_210) (fun _ h9 => h9) rfl dX6_step_58 ?_
        refine lv_aload_n hx hb dX6_step_61 rfl (lv_at hl 0 rfl) ?_
        refine va_get (D := D) (v := .int (gI z_t 4)) (C := RX6) (T := TX6) (N := 9) hx hb hts iX6 hown hK.1 hP 0 rfl rfl 4 (by decide) (hts _ t_212) (fun _ h9 => h9) rfl dX6_step_62 ?_
        refine ald_i hx hb hK.1 hP 3 0 rfl rfl ((gI z_t 4).toNatClampNeg) (ix_g g4) dX6_step_65 ?_
        refine lv_topi (fun v6 ev6 => ?_)
        have h := nm_some h v6 ev6
        refine va_put (D := D) (v := .int v6) (C := RX6) (T := TX6) (N := 9) hx hb hts iX6 tyX6 tyX6_ok nmX6 hown hK.1 hP hD hS 0 rfl rfl 7 (by decide) (hts _ t_218) (fun _ h9 => h9) rfl (tyX6_ok 7 (by decide)) rfl rfl (Nat.le_of_ble_eq_true rfl) dX6_step_66 (fun H locs hP hD hS => ?_)
        have hP : va_P D classes (rc6 a q_t Q_t (sI (sI (sI z_t 5 (gT z_t 0 ((gI z_t 4).toNatClampNeg))) 6 v5) 7 v6)) H := hP
        have hD : va_D A (rc6 a q_t Q_t (sI (sI (sI z_t 5 (gT z_t 0 ((gI z_t 4).toNatClampNeg))) 6 v5) 7 v6)) := hD
        refine lv_aload_n hx hb dX6_step_69 rfl (lv_at hl 0 rfl) ?_
        refine lv_dup hx hb dX6_step_70 rfl ?_
        refine va_get (D := D) (v := .int (gI z_t 4)) (C := RX6) (T := TX6) (N := 9) hx hb hts iX6 hown hK.1 hP 0 rfl rfl 4 (by decide) (hts _ t_212) (fun _ h9 => h9) rfl dX6_step_71 ?_
        refine lv_iconst (v := 1) hx hb dX6_step_74 (by decide) ?_
        refine lv_iadd hx hb dX6_step_75 ?_
        refine va_put (D := D) (v := .int ((gI z_t 4) + 1)) (C := RX6) (T := TX6) (N := 9) hx hb hts iX6 tyX6 tyX6_ok nmX6 hown hK.1 hP hD hS 0 rfl rfl 4 (by decide) (hts _ t_212) (fun _ h9 => h9) rfl (tyX6_ok 4 (by decide)) rfl rfl (Nat.le_of_ble_eq_true rfl) dX6_step_76 (fun H locs hP hD hS => ?_)
        have hP : va_P D classes (rc6 a q_t Q_t (sI (sI (sI (sI z_t 5 (gT z_t 0 ((gI z_t 4).toNatClampNeg))) 6 v5) 7 v6) 4 ((gI z_t 4) + 1))) H := hP
        have hD : va_D A (rc6 a q_t Q_t (sI (sI (sI (sI z_t 5 (gT z_t 0 ((gI z_t 4).toNatClampNeg))) 6 v5) 7 v6) 4 ((gI z_t 4) + 1))) := hD
        exact rMv C rfl h (g := fun y => rc6 a q_t Q_t y) hP hD hS dX6_step_79

def lX4_readTest_9 (rec : Sx → Sx → Int32 → Option (Sx × Sx)) (k133 : Sx → Sx → Int32 → Option (Sx × Sx)) (x1 : Int32) : Nat → Sx → Sx → Int32 → Int32 → Option (Sx × Sx)
  | 0, _, _, _, _ => none
  | n + 1, z_t, z_t_0, x2, x3 => if 400 ≤ x3 then k133 z_t z_t_0 x2 else if (gI z_t_0 8) = 0 then jn (fun (z7 : Sx) (z8 : Sx) => jn (fun (i10 : Int32) => jn (fun (z12 : Sx) (z13 : Sx) => jn (fun (i15 : Int32) => bd (fX6_step z13) (fun z17 => bd2 (rec z12 z17 x1) (fun z19 z20 => jn (fun (z22 : Sx) (z23 : Sx) => lX4_readTest_9 rec k133 x1 n z22 z23 i15 (x3 + 1)) (fun J21 => if i10 = 0 then bd (fX4_emit z19 (-310)) (fun z26 => J21 z26 z20) else J21 z19 z20)))) (fun J14 => jn (fun (z28 : Sx) (z29 : Sx) (i30 : Int32) => J14 1) (fun J27 => if x2 = 0 then if i10 = 0 then J14 0 else J27 z12 z13 x3 else J27 z12 z13 x3))) (fun J11 => if i10 = 0 then J11 z7 z8 else if x2 = 0 then J11 z7 z8 else bd (fX4_emit z7 (-309)) (fun z36 => J11 z36 z8))) (fun J9 => if (gI z8 5) = 309 then J9 1 else J9 0)) (fun J6 => if (gI z_t_0 5) = 309 then J6 z_t z_t_0 else if (gI z_t_0 5) = 310 then J6 z_t z_t_0 else k133 z_t z_t_0 x2) else k133 z_t z_t_0 x2
def fX4_readTest (rec : Sx → Sx → Int32 → Option (Sx × Sx)) (z_t : Sx) (z_t_0 : Sx) (x1 : Int32) : Option (Sx × Sx) := bd2 (rec z_t z_t_0 x1) (fun z2 z3 => lX4_readTest_9 rec (fun (z40 : Sx) (z41 : Sx) (i42 : Int32) => if i42 = 0 then some (z40, z41) else bd (fX4_emit z40 (-309)) (fun z45 => some (z45, z41))) x1 FU z2 z3 0 0)

set_option maxHeartbeats 4000000 in
set_option maxRecDepth 100000 in
theorem wX4_readTest_9 {p : Program} {l : Launch} {e : Env} {s : State} {m : MethodId} {below : List Frame} {meth : Method} {c : Code} {D : va_G} {a : Nat → ClassId} {A : Nat → Prop} {q_t : Nat} {Q_t : Nat → Nat} {Q_t_0 : Nat → Nat} {x10 : Int32} {x1 : Int32} (C : Cx p s m #[.ref q_t, .int x10] meth c MX4_readTest) (hK : KK D a s) (hA : ∀ q, s.heap.size ≤ q → A q) {F LO : Nat} {rec : Sx → Sx → Int32 → Option (Sx × Sx)} (hrec : ∀ {q_t : Nat} {Q_t : Nat → Nat} {z_t : Sx} {Q_t_0 : Nat → Nat} {z_t_0 : Sx} {x1 : Int32} {y9 : Sx × Sx}, rec z_t z_t_0 x1 = some y9 → ∀ (sz : Nat), CMv (S := Unit) l MX4_readFact F LO 0 0 D a [.ref q_t, .int x1] (rc4 a q_t Q_t z_t ++ (rc6 a (Q_t 0) Q_t_0 z_t_0)) sz (fun _ => True) (fun _ => rc4 a q_t Q_t y9.1 ++ (rc6 a (Q_t 0) Q_t_0 y9.2))) (hF : 1 ≤ F) (hL : 21 ≤ LO) {y : Sx × Sx} {k133 : Sx → Sx → Int32 → Option (Sx × Sx)} (hk133 : ∀ (z_tk : Sx) (z_t_0k : Sx) (x2k : Int32) (H : Heap) (locs : List Loc) (ls : Array Slot), k133 z_tk z_t_0k x2k = some y → va_P D classes (rc4 a q_t Q_t z_tk ++ (rc6 a (Q_t 0) Q_t_0 z_t_0k)) H → va_D A (rc4 a q_t Q_t z_tk ++ (rc6 a (Q_t 0) Q_t_0 z_t_0k)) → va_S A s.heap H locs → lv_has ls 5 [(0, .ref q_t), (2, .int x2k)] → W p l e (rmM (F + 1) 0 0 (LO + 22)) s m #[.ref q_t, .int x10] below meth c H locs 0 0 (MQ below (va_Qv (fun (_ : Unit) => True) (Bw D A (fun _ => rc4 a q_t Q_t y.1 ++ (rc6 a (Q_t 0) Q_t_0 y.2))) A) #[.ref q_t, .int x10] s 0 0 A) (F0 m 133 ls [])) : ∀ (n : Nat) (z_t : Sx) (z_t_0 : Sx) (x2 : Int32) (x3 : Int32) (H : Heap) (locs : List Loc) (ls : Array Slot), lX4_readTest_9 rec k133 x1 n z_t z_t_0 x2 x3 = some y → va_P D classes (rc4 a q_t Q_t z_t ++ (rc6 a (Q_t 0) Q_t_0 z_t_0)) H → va_D A (rc4 a q_t Q_t z_t ++ (rc6 a (Q_t 0) Q_t_0 z_t_0)) → va_S A s.heap H locs → lv_has ls 5 [(0, .ref q_t), (1, .int x1), (2, .int x2), (3, .int x3)] → W p l e (rmM (F + 1) 0 0 (LO + 22)) s m #[.ref q_t, .int x10] below meth c H locs 0 0 (MQ below (va_Qv (fun (_ : Unit) => True) (Bw D A (fun _ => rc4 a q_t Q_t y.1 ++ (rc6 a (Q_t 0) Q_t_0 y.2))) A) #[.ref q_t, .int x10] s 0 0 A) (F0 m 9 ls []) := by
  obtain ⟨hx, hb, hml, hown, hts, hr, hlocks, hnm⟩ := id C
  have hb : c.code = cX4_readTest := hb
  have hown : s.vm.findClass RX4 = some m.cls := hown
  intro n
  induction n with
  | zero => intro z_t z_t_0 x2 x3 H locs ls h; rw [lX4_readTest_9] at h; cases h
  | succ n ih =>
    intro z_t z_t_0 x2 x3 H locs ls h hP hD hS hl
    rw [lX4_readTest_9] at h
    refine lv_iload_n hx hb dX4_readTest_9 rfl (lv_at hl 3 rfl) ?_
    refine lv_sipush (v := 400) hx hb dX4_readTest_10 (by decide) ?_
    refine lv_icmp_ge (tgt := 133) hx hb dX4_readTest_13 (by decide) (fun c4 => ?_) (fun c4 => ?_)
    · have h := ite_t c4 h
      exact hk133 z_t z_t_0 x2 _ _ ls h hP hD hS (lv_sub hl [0, 2] rfl)
    · have h := ite_f c4 h
      refine lv_aload_n hx hb dX4_readTest_16 rfl (lv_at hl 0 rfl) ?_
      refine va_get (D := D) (v := .ref (Q_t 0)) (C := RX4) (T := TX4) (N := 8) hx hb hts iX4 hown hK.1 hP 0 rfl rfl 0 (by decide) (hts _ t_242) (fun _ h9 => h9) rfl dX4_readTest_17 ?_
      refine va_get (D := D) (v := .int (gI z_t_0 8)) (C := RX6) (T := TX6) (N := 9) hx hb hts iX6 hown hK.1 hP 5 rfl rfl 8 (by decide) (hts _ t_220) (fun _ h9 => h9) rfl dX4_readTest_20 ?_
      refine lv_if_ne (tgt := 133) hx hb dX4_readTest_23 (by decide) (fun c5 => ?_) (fun c5 => ?_)
      · have h := ite_f c5 h
        exact hk133 z_t z_t_0 x2 _ _ ls h hP hD hS (lv_sub hl [0, 2] rfl)
      · have h := ite_t c5 h
        refine lv_aload_n hx hb dX4_readTest_26 rfl (lv_at hl 0 rfl) ?_
        refine va_get (D := D) (v := .ref (Q_t 0)) (C := RX4) (T := TX4) (N := 8) hx hb hts iX4 hown hK.1 hP 0 rfl rfl 0 (by decide) (hts _ t_242) (fun _ h9 => h9) rfl dX4_readTest_27 ?_
        refine va_get (D := D) (v := .int (gI z_t_0 5)) (C := RX6) (T := TX6) (N := 9) hx hb hts iX6 hown hK.1 hP 5 rfl rfl 5 (by decide) (hts _ t_214) (fun _ h9 => h9) rfl dX4_readTest_30 ?_
        refine lv_sipush (v := 309) hx hb dX4_readTest_33 (by decide) ?_
        obtain ⟨J6, eJ6, h⟩ := jn_some h
        have hJ6 : ∀ (z7 : Sx) (z8 : Sx) (H : Heap) (locs : List Loc) (ls : Array Slot), J6 z7 z8 = some y → va_P D classes (rc4 a q_t Q_t z7 ++ (rc6 a (Q_t 0) Q_t_0 z8)) H → va_D A (rc4 a q_t Q_t z7 ++ (rc6 a (Q_t 0) Q_t_0 z8)) → va_S A s.heap H locs → lv_has ls 5 [(0, .ref q_t), (1, .int x1), (2, .int x2), (3, .int x3)] → W p l e (rmM (F + 1) 0 0 (LO + 22)) s m #[.ref q_t, .int x10] below meth c H locs 0 0 (MQ below (va_Qv (fun (_ : Unit) => True) (Bw D A (fun _ => rc4 a q_t Q_t y.1 ++ (rc6 a (Q_t 0) Q_t_0 y.2))) A) #[.ref q_t, .int x10] s 0 0 A) (F0 m 52 ls []) := by
          intro z7 z8 H locs ls h hP hD hS hl
          rw [eJ6] at h
          refine lv_aload_n hx hb dX4_readTest_52 rfl (lv_at hl 0 rfl) ?_
          refine va_get (D := D) (v := .ref (Q_t 0)) (C := RX4) (T := TX4) (N := 8) hx hb hts iX4 hown hK.1 hP 0 rfl rfl 0 (by decide) (hts _ t_242) (fun _ h9 => h9) rfl dX4_readTest_53 ?_
          refine va_get (D := D) (v := .int (gI z8 5)) (C := RX6) (T := TX6) (N := 9) hx hb hts iX6 hown hK.1 hP 5 rfl rfl 5 (by decide) (hts _ t_214) (fun _ h9 => h9) rfl dX4_readTest_56 ?_
          refine lv_sipush (v := 309) hx hb dX4_readTest_59 (by decide) ?_
          obtain ⟨J9, eJ9, h⟩ := jn_some h
          have hJ9 : ∀ (i10 : Int32) (H : Heap) (locs : List Loc) (ls : Array Slot), J9 i10 = some y → va_P D classes (rc4 a q_t Q_t z7 ++ (rc6 a (Q_t 0) Q_t_0 z8)) H → va_D A (rc4 a q_t Q_t z7 ++ (rc6 a (Q_t 0) Q_t_0 z8)) → va_S A s.heap H locs → lv_has ls 5 [(0, .ref q_t), (1, .int x1), (2, .int x2), (3, .int x3)] → W p l e (rmM (F + 1) 0 0 (LO + 22)) s m #[.ref q_t, .int x10] below meth c H locs 0 0 (MQ below (va_Qv (fun (_ : Unit) => True) (Bw D A (fun _ => rc4 a q_t Q_t y.1 ++ (rc6 a (Q_t 0) Q_t_0 y.2))) A) #[.ref q_t, .int x10] s 0 0 A) (F0 m 70 ls [.int i10]) := by
            intro i10 H locs ls h hP hD hS hl
            rw [eJ9] at h
            refine lv_istore (lv' := [(4, .int i10), (0, .ref q_t), (1, .int x1), (2, .int x2), (3, .int x3)]) hx hb dX4_readTest_70 hl (by decide) rfl (fun ls hl => ?_)
            refine lv_iload hx hb dX4_readTest_72 (lv_at hl 0 rfl) ?_
            obtain ⟨J11, eJ11, h⟩ := jn_some h
            have hJ11 : ∀ (z12 : Sx) (z13 : Sx) (H : Heap) (locs : List Loc) (ls : Array Slot), J11 z12 z13 = some y → va_P D classes (rc4 a q_t Q_t z12 ++ (rc6 a (Q_t 0) Q_t_0 z13)) H → va_D A (rc4 a q_t Q_t z12 ++ (rc6 a (Q_t 0) Q_t_0 z13)) → va_S A s.heap H locs → lv_has ls 5 [(0, .ref q_t), (1, .int x1), (2, .int x2), (3, .int x3), (4, .int i10)] → W p l e (rmM (F + 1) 0 0 (LO + 22)) s m #[.ref q_t, .int x10] below meth c H locs 0 0 (MQ below (va_Qv (fun (_ : Unit) => True) (Bw D A (fun _ => rc4 a q_t Q_t y.1 ++ (rc6 a (Q_t 0) Q_t_0 y.2))) A) #[.ref q_t, .int x10] s 0 0 A) (F0 m 88 ls []) := by
              intro z12 z13 H locs ls h hP hD hS hl
              rw [eJ11] at h
              refine lv_iload_n hx hb dX4_readTest_88 rfl (lv_at hl 2 rfl) ?_
              obtain ⟨J14, eJ14, h⟩ := jn_some h
              have hJ14 : ∀ (i15 : Int32) (H : Heap) (locs : List Loc) (ls : Array Slot), J14 i15 = some y → va_P D classes (rc4 a q_t Q_t z12 ++ (rc6 a (Q_t 0) Q_t_0 z13)) H → va_D A (rc4 a q_t Q_t z12 ++ (rc6 a (Q_t 0) Q_t_0 z13)) → va_S A s.heap H locs → lv_has ls 5 [(0, .ref q_t), (1, .int x1), (3, .int x3), (4, .int i10)] → W p l e (rmM (F + 1) 0 0 (LO + 22)) s m #[.ref q_t, .int x10] below meth c H locs 0 0 (MQ below (va_Qv (fun (_ : Unit) => True) (Bw D A (fun _ => rc4 a q_t Q_t y.1 ++ (rc6 a (Q_t 0) Q_t_0 y.2))) A) #[.ref q_t, .int x10] s 0 0 A) (F0 m 102 ls [.int i15]) := by
                intro i15 H locs ls h hP hD hS hl
                rw [eJ14] at h
                refine lv_istore_n (lv' := [(2, .int i15), (0, .ref q_t), (1, .int x1), (3, .int x3), (4, .int i10)]) hx hb dX4_readTest_102 rfl hl (by decide) rfl (fun ls hl => ?_)
                refine lv_aload_n hx hb dX4_readTest_103 rfl (lv_at hl 1 rfl) ?_
                refine va_get (D := D) (v := .ref (Q_t 0)) (C := RX4) (T := TX4) (N := 8) hx hb hts iX4 hown hK.1 hP 0 rfl rfl 0 (by decide) (hts _ t_242) (fun _ h9 => h9) rfl dX4_readTest_104 ?_
                obtain ⟨z17, hc16, h⟩ := bd_some h
                refine cMv (runV (As := []) (rest := []) C (mX6_step l D a hc16 H.size) lk_V_4_72 okN_X6_step (by constructor; (show 0 + 1 ≤ F + 1; omega); (show 8 + (1 + 11) + (0) ≤ LO + 22; omega)) ⟨rfl, rfl⟩ (preV (preM hK (P_of_map (wc := rc6 a (Q_t 0) Q_t_0 z13) hP [5, 6, 7, 8] rfl) (hD.sub (ws' := rc6 a (Q_t 0) Q_t_0 z13) [5, 6, 7, 8] (by decide) rfl)) (recvOf hK hP 5 rfl (ci := 6) rfl)) hl.1 rfl (Nat.le_of_ble_eq_true rfl) dX4_readTest_107 ⟨Nat.le_of_ble_eq_true rfl, Nat.le_of_ble_eq_true rfl⟩) hP hD hS hA [5, 6, 7, 8] [0, 1, 2, 3, 4] [0, 1, 2, 3, 4, 5, 6, 7, 8] rfl rfl (by decide) (by decide) (fw := rc4 a q_t Q_t z12 ++ (rc6 a (Q_t 0) Q_t_0 z17)) rfl (by decide) (fun H locs hP hD hS => ?_)
                have hP : va_P D classes (rc4 a q_t Q_t z12 ++ (rc6 a (Q_t 0) Q_t_0 z17)) H := hP
                have hD : va_D A (rc4 a q_t Q_t z12 ++ (rc6 a (Q_t 0) Q_t_0 z17)) := hD
                refine lv_aload_n hx hb dX4_readTest_110 rfl (lv_at hl 1 rfl) ?_
                refine lv_iload_n hx hb dX4_readTest_111 rfl (lv_at hl 2 rfl) ?_
                obtain ⟨z19, z20, hc18, h⟩ := bd2_some h
                refine cWv (runV (As := [.int x1]) (rest := []) C (hrec hc18 H.size) lk_V_4_88 okN_X4_readFact (by constructor; (show F + 0 + 1 ≤ F + 1; omega); (show 8 + (3 + 11) + (LO + 0) ≤ LO + 22; omega)) ⟨rfl, rfl⟩ (preV (preM hK hP hD) (recvOf hK hP 0 rfl (ci := 4) rfl)) hl.1 rfl (Nat.le_of_ble_eq_true rfl) dX4_readTest_112 ⟨Nat.le_of_ble_eq_true rfl, Nat.le_of_ble_eq_true rfl⟩) hP hD hS hA (fun H locs hP hD hS => ?_)
                have hP : va_P D classes (rc4 a q_t Q_t z19 ++ (rc6 a (Q_t 0) Q_t_0 z20)) H := hP
                have hD : va_D A (rc4 a q_t Q_t z19 ++ (rc6 a (Q_t 0) Q_t_0 z20)) := hD
                refine lv_iload hx hb dX4_readTest_115 (lv_at hl 4 rfl) ?_
                obtain ⟨J21, eJ21, h⟩ := jn_some h
                have hJ21 : ∀ (z22 : Sx) (z23 : Sx) (H : Heap) (locs : List Loc) (ls : Array Slot), J21 z22 z23 = some y → va_P D classes (rc4 a q_t Q_t z22 ++ (rc6 a (Q_t 0) Q_t_0 z23)) H → va_D A (rc4 a q_t Q_t z22 ++ (rc6 a (Q_t 0) Q_t_0 z23)) → va_S A s.heap H locs → lv_has ls 5 [(0, .ref q_t), (1, .int x1), (2, .int i15), (3, .int x3)] → W p l e (rmM (F + 1) 0 0 (LO + 22)) s m #[.ref q_t, .int x10] below meth c H locs 0 0 (MQ below (va_Qv (fun (_ : Unit) => True) (Bw D A (fun _ => rc4 a q_t Q_t y.1 ++ (rc6 a (Q_t 0) Q_t_0 y.2))) A) #[.ref q_t, .int x10] s 0 0 A) (F0 m 127 ls []) := by
                  intro z22 z23 H locs ls h hP hD hS hl
                  rw [eJ21] at h
                  refine lv_iinc (v := x3 + 1) (lv' := [(3, .int (x3 + 1)), (0, .ref q_t), (1, .int x1), (2, .int i15)]) hx hb dX4_readTest_127 hl (k := 3) rfl rfl (by decide) rfl (fun ls hl => ?_)
                  refine lv_goto (tgt := 9) hx hb dX4_readTest_130 (by decide) ?_
                  exact ih z22 z23 i15 (x3 + 1) _ _ ls h hP hD hS (lv_sub hl [1, 2, 3, 0] rfl)
                refine lv_if_ne (tgt := 127) hx hb dX4_readTest_117 (by decide) (fun c24 => ?_) (fun c24 => ?_)
                · have h := ite_f c24 h
                  exact hJ21 z19 z20 _ _ ls h hP hD hS (lv_sub hl [1, 2, 0, 3] rfl)
                · have h := ite_t c24 h
                  refine lv_aload_n hx hb dX4_readTest_120 rfl (lv_at hl 1 rfl) ?_
                  refine lv_sipush (v := (-310)) hx hb dX4_readTest_121 (by decide) ?_
                  obtain ⟨z26, hc25, h⟩ := bd_some h
                  refine cMv (runV (As := [.int (-310)]) (rest := []) C (mX4_emit l D a hc25 H.size) lk_V_4_91 okN_X4_emit (by constructor; (show 0 + 1 ≤ F + 1; omega); (show 8 + (2 + 11) + (0) ≤ LO + 22; omega)) ⟨rfl, rfl⟩ (preV (preM hK (P_of_map (wc := rc4 a q_t Q_t z19) hP [0, 1, 2, 3, 4] rfl) (hD.sub (ws' := rc4 a q_t Q_t z19) [0, 1, 2, 3, 4] (by decide) rfl)) (recvOf hK hP 0 rfl (ci := 4) rfl)) hl.1 rfl (Nat.le_of_ble_eq_true rfl) dX4_readTest_124 ⟨Nat.le_of_ble_eq_true rfl, Nat.le_of_ble_eq_true rfl⟩) hP hD hS hA [0, 1, 2, 3, 4] [5, 6, 7, 8] [4, 5, 6, 7, 8, 0, 1, 2, 3] rfl rfl (by decide) (by decide) (fw := rc4 a q_t Q_t z26 ++ (rc6 a (Q_t 0) Q_t_0 z20)) rfl (by decide) (fun H locs hP hD hS => ?_)
                  have hP : va_P D classes (rc4 a q_t Q_t z26 ++ (rc6 a (Q_t 0) Q_t_0 z20)) H := hP
                  have hD : va_D A (rc4 a q_t Q_t z26 ++ (rc6 a (Q_t 0) Q_t_0 z20)) := hD
                  exact hJ21 z26 z20 _ _ ls h hP hD hS (lv_sub hl [1, 2, 0, 3] rfl)
              obtain ⟨J27, eJ27, h⟩ := jn_some h
              have hJ27 : ∀ (z28 : Sx) (z29 : Sx) (i30 : Int32) (H : Heap) (locs : List Loc) (ls : Array Slot), J27 z28 z29 i30 = some y → va_P D classes (rc4 a q_t Q_t z28 ++ (rc6 a (Q_t 0) Q_t_0 z29)) H → va_D A (rc4 a q_t Q_t z28 ++ (rc6 a (Q_t 0) Q_t_0 z29)) → va_S A s.heap H locs → lv_has ls 5 [(0, .ref q_t), (1, .int x1), (3, .int i30), (4, .int i10)] → W p l e (rmM (F + 1) 0 0 (LO + 22)) s m #[.ref q_t, .int x10] below meth c H locs 0 0 (MQ below (va_Qv (fun (_ : Unit) => True) (Bw D A (fun _ => rc4 a q_t Q_t y.1 ++ (rc6 a (Q_t 0) Q_t_0 y.2))) A) #[.ref q_t, .int x10] s 0 0 A) (F0 m 97 ls []) := by
                intro z28 z29 i30 H locs ls h hP hD hS hl
                rw [eJ27] at h
                refine lv_iconst (v := 1) hx hb dX4_readTest_97 (by decide) ?_
                refine lv_goto (tgt := 102) hx hb dX4_readTest_98 (by decide) ?_
                exact hJ14 1 _ _ ls h hP hD hS (lv_sub hl [0, 1, 2, 3] rfl)
              refine lv_if_ne (tgt := 97) hx hb dX4_readTest_89 (by decide) (fun c31 => ?_) (fun c31 => ?_)
              · have h := ite_f c31 h
                exact hJ27 z12 z13 x3 _ _ ls h hP hD hS (lv_sub hl [0, 1, 3, 4] rfl)
              · have h := ite_t c31 h
                refine lv_iload hx hb dX4_readTest_92 (lv_at hl 4 rfl) ?_
                refine lv_if_eq (tgt := 101) hx hb dX4_readTest_94 (by decide) (fun c32 => ?_) (fun c32 => ?_)
                · have h := ite_t c32 h
                  refine lv_iconst (v := 0) hx hb dX4_readTest_101 (by decide) ?_
                  exact hJ14 0 _ _ ls h hP hD hS (lv_sub hl [0, 1, 3, 4] rfl)
                · have h := ite_f c32 h
                  exact hJ27 z12 z13 x3 _ _ ls h hP hD hS (lv_sub hl [0, 1, 3, 4] rfl)
            refine lv_if_eq (tgt := 88) hx hb dX4_readTest_74 (by decide) (fun c33 => ?_) (fun c33 => ?_)
            · have h := ite_t c33 h
              exact hJ11 z7 z8 _ _ ls h hP hD hS (lv_sub hl [1, 2, 3, 4, 0] rfl)
            · have h := ite_f c33 h
              refine lv_iload_n hx hb dX4_readTest_77 rfl (lv_at hl 3 rfl) ?_
              refine lv_if_eq (tgt := 88) hx hb dX4_readTest_78 (by decide) (fun c34 => ?_) (fun c34 => ?_)
              · have h := ite_t c34 h
                exact hJ11 z7 z8 _ _ ls h hP hD hS (lv_sub hl [1, 2, 3, 4, 0] rfl)
              · have h := ite_f c34 h
                refine lv_aload_n hx hb dX4_readTest_81 rfl (lv_at hl 1 rfl) ?_
                refine lv_sipush (v := (-309)) hx hb dX4_readTest_82 (by decide) ?_
                obtain ⟨z36, hc35, h⟩ := bd_some h
                refine cMv (runV (As := [.int (-309)]) (rest := []) C (mX4_emit l D a hc35 H.size) lk_V_4_91 okN_X4_emit (by constructor; (show 0 + 1 ≤ F + 1; omega); (show 8 + (2 + 11) + (0) ≤ LO + 22; omega)) ⟨rfl, rfl⟩ (preV (preM hK (P_of_map (wc := rc4 a q_t Q_t z7) hP [0, 1, 2, 3, 4] rfl) (hD.sub (ws' := rc4 a q_t Q_t z7) [0, 1, 2, 3, 4] (by decide) rfl)) (recvOf hK hP 0 rfl (ci := 4) rfl)) hl.1 rfl (Nat.le_of_ble_eq_true rfl) dX4_readTest_85 ⟨Nat.le_of_ble_eq_true rfl, Nat.le_of_ble_eq_true rfl⟩) hP hD hS hA [0, 1, 2, 3, 4] [5, 6, 7, 8] [4, 5, 6, 7, 8, 0, 1, 2, 3] rfl rfl (by decide) (by decide) (fw := rc4 a q_t Q_t z36 ++ (rc6 a (Q_t 0) Q_t_0 z8)) rfl (by decide) (fun H locs hP hD hS => ?_)
                have hP : va_P D classes (rc4 a q_t Q_t z36 ++ (rc6 a (Q_t 0) Q_t_0 z8)) H := hP
                have hD : va_D A (rc4 a q_t Q_t z36 ++ (rc6 a (Q_t 0) Q_t_0 z8)) := hD
                exact hJ11 z36 z8 _ _ ls h hP hD hS (lv_sub hl [1, 2, 3, 4, 0] rfl)
          refine lv_icmp_ne (tgt := 69) hx hb dX4_readTest_62 (by decide) (fun c37 => ?_) (fun c37 => ?_)
          · have h := ite_f c37 h
            refine lv_iconst (v := 0) hx hb dX4_readTest_69 (by decide) ?_
            exact hJ9 0 _ _ ls h hP hD hS (lv_sub hl [0, 1, 2, 3] rfl)
          · have h := ite_t c37 h
            refine lv_iconst (v := 1) hx hb dX4_readTest_65 (by decide) ?_
            refine lv_goto (tgt := 70) hx hb dX4_readTest_66 (by decide) ?_
            exact hJ9 1 _ _ ls h hP hD hS (lv_sub hl [0, 1, 2, 3] rfl)
        refine lv_icmp_eq (tgt := 52) hx hb dX4_readTest_36 (by decide) (fun c38 => ?_) (fun c38 => ?_)
        · have h := ite_t c38 h
          exact hJ6 z_t z_t_0 _ _ ls h hP hD hS (lv_sub hl [0, 1, 2, 3] rfl)
        · have h := ite_f c38 h
          refine lv_aload_n hx hb dX4_readTest_39 rfl (lv_at hl 0 rfl) ?_
          refine va_get (D := D) (v := .ref (Q_t 0)) (C := RX4) (T := TX4) (N := 8) hx hb hts iX4 hown hK.1 hP 0 rfl rfl 0 (by decide) (hts _ t_242) (fun _ h9 => h9) rfl dX4_readTest_40 ?_
          refine va_get (D := D) (v := .int (gI z_t_0 5)) (C := RX6) (T := TX6) (N := 9) hx hb hts iX6 hown hK.1 hP 5 rfl rfl 5 (by decide) (hts _ t_214) (fun _ h9 => h9) rfl dX4_readTest_43 ?_
          refine lv_sipush (v := 310) hx hb dX4_readTest_46 (by decide) ?_
          refine lv_icmp_ne (tgt := 133) hx hb dX4_readTest_49 (by decide) (fun c39 => ?_) (fun c39 => ?_)
          · have h := ite_f c39 h
            exact hk133 z_t z_t_0 x2 _ _ ls h hP hD hS (lv_sub hl [0, 2] rfl)
          · have h := ite_t c39 h
            exact hJ6 z_t z_t_0 _ _ ls h hP hD hS (lv_sub hl [0, 1, 2, 3] rfl)

set_option maxHeartbeats 4000000 in
set_option maxRecDepth 100000 in
theorem mX4_readTest (l : Launch) (D : va_G) (a : Nat → ClassId) {F LO : Nat} {rec : Sx → Sx → Int32 → Option (Sx × Sx)} (hrec : ∀ {q_t : Nat} {Q_t : Nat → Nat} {z_t : Sx} {Q_t_0 : Nat → Nat} {z_t_0 : Sx} {x1 : Int32} {y9 : Sx × Sx}, rec z_t z_t_0 x1 = some y9 → ∀ (sz : Nat), CMv (S := Unit) l MX4_readFact F LO 0 0 D a [.ref q_t, .int x1] (rc4 a q_t Q_t z_t ++ (rc6 a (Q_t 0) Q_t_0 z_t_0)) sz (fun _ => True) (fun _ => rc4 a q_t Q_t y9.1 ++ (rc6 a (Q_t 0) Q_t_0 y9.2))) (hF : 1 ≤ F) (hL : 21 ≤ LO) {q_t : Nat} {Q_t : Nat → Nat} {z_t : Sx} {Q_t_0 : Nat → Nat} {z_t_0 : Sx} {x1 : Int32} {y : Sx × Sx} (h : fX4_readTest rec z_t z_t_0 x1 = some y) (sz : Nat) : CMv (S := Unit) l MX4_readTest (F + 1) (LO + 22) 0 0 D a [.ref q_t, .int x1] (rc4 a q_t Q_t z_t ++ (rc6 a (Q_t 0) Q_t_0 z_t_0)) sz (fun _ => True) (fun _ => rc4 a q_t Q_t y.1 ++ (rc6 a (Q_t 0) Q_t_0 y.2)) := by
  unfold fX4_readTest at h
  refine entMv (by decide) (Nat.le_of_ble_eq_true rfl) ?_
  intro p e s m below meth c C hK A hA hP hD ls hl
  obtain ⟨hx, hb, hml, hown, hts, hr, hlocks, hnm⟩ := id C
  have hb : c.code = cX4_readTest := hb
  have hown : s.vm.findClass RX4 = some m.cls := hown
  have hS : va_S A s.heap s.heap [] := va_S.rf
  have hl : lv_has ls 5 [(0, .ref q_t), (1, .int x1)] := hl
  refine lv_iconst (v := 0) hx hb dX4_readTest_0 (by decide) ?_
  refine lv_istore_n (lv' := [(2, .int 0), (0, .ref q_t), (1, .int x1)]) hx hb dX4_readTest_1 rfl hl (by decide) rfl (fun ls hl => ?_)
  refine lv_aload_n hx hb dX4_readTest_2 rfl (lv_at hl 1 rfl) ?_
  refine lv_iload_n hx hb dX4_readTest_3 rfl (lv_at hl 2 rfl) ?_
  obtain ⟨z2, z3, hc1, h⟩ := bd2_some h
  refine cWv (runV (As := [.int x1]) (rest := []) C (hrec hc1 s.heap.size) lk_V_4_88 okN_X4_readFact (by constructor; (show F + 0 + 1 ≤ F + 1; omega); (show 8 + (3 + 11) + (LO + 0) ≤ LO + 22; omega)) ⟨rfl, rfl⟩ (preV (preM hK hP hD) (recvOf hK hP 0 rfl (ci := 4) rfl)) hl.1 rfl (Nat.le_of_ble_eq_true rfl) dX4_readTest_4 ⟨Nat.le_of_ble_eq_true rfl, Nat.le_of_ble_eq_true rfl⟩) hP hD hS hA (fun H locs hP hD hS => ?_)
  have hP : va_P D classes (rc4 a q_t Q_t z2 ++ (rc6 a (Q_t 0) Q_t_0 z3)) H := hP
  have hD : va_D A (rc4 a q_t Q_t z2 ++ (rc6 a (Q_t 0) Q_t_0 z3)) := hD
  refine lv_iconst (v := 0) hx hb dX4_readTest_7 (by decide) ?_
  refine lv_istore_n (lv' := [(3, .int 0), (2, .int 0), (0, .ref q_t), (1, .int x1)]) hx hb dX4_readTest_8 rfl hl (by decide) rfl (fun ls hl => ?_)
  refine wX4_readTest_9 C hK hA hrec hF hL ?_ FU z2 z3 0 0 _ _ ls h hP hD hS (lv_sub hl [2, 3, 1, 0] rfl)
  · intro z40 z41 i42 H locs ls h hP hD hS hl
    refine lv_iload_n hx hb dX4_readTest_133 rfl (lv_at hl 1 rfl) ?_
    refine lv_if_eq (tgt := 144) hx hb dX4_readTest_134 (by decide) (fun c43 => ?_) (fun c43 => ?_)
    · have h := ite_t c43 h
      exact rMv C rfl h (g := fun y => rc4 a q_t Q_t y.1 ++ (rc6 a (Q_t 0) Q_t_0 y.2)) hP hD hS dX4_readTest_144
    · have h := ite_f c43 h
      refine lv_aload_n hx hb dX4_readTest_137 rfl (lv_at hl 0 rfl) ?_
      refine lv_sipush (v := (-309)) hx hb dX4_readTest_138 (by decide) ?_
      obtain ⟨z45, hc44, h⟩ := bd_some h
      refine cMv (runV (As := [.int (-309)]) (rest := []) C (mX4_emit l D a hc44 H.size) lk_V_4_91 okN_X4_emit (by constructor; (show 0 + 1 ≤ F + 1; omega); (show 8 + (2 + 11) + (0) ≤ LO + 22; omega)) ⟨rfl, rfl⟩ (preV (preM hK (P_of_map (wc := rc4 a q_t Q_t z40) hP [0, 1, 2, 3, 4] rfl) (hD.sub (ws' := rc4 a q_t Q_t z40) [0, 1, 2, 3, 4] (by decide) rfl)) (recvOf hK hP 0 rfl (ci := 4) rfl)) hl.1 rfl (Nat.le_of_ble_eq_true rfl) dX4_readTest_141 ⟨Nat.le_of_ble_eq_true rfl, Nat.le_of_ble_eq_true rfl⟩) hP hD hS hA [0, 1, 2, 3, 4] [5, 6, 7, 8] [4, 5, 6, 7, 8, 0, 1, 2, 3] rfl rfl (by decide) (by decide) (fw := rc4 a q_t Q_t z45 ++ (rc6 a (Q_t 0) Q_t_0 z41)) rfl (by decide) (fun H locs hP hD hS => ?_)
      have hP : va_P D classes (rc4 a q_t Q_t z45 ++ (rc6 a (Q_t 0) Q_t_0 z41)) H := hP
      have hD : va_D A (rc4 a q_t Q_t z45 ++ (rc6 a (Q_t 0) Q_t_0 z41)) := hD
      exact rMv C rfl h (g := fun y => rc4 a q_t Q_t y.1 ++ (rc6 a (Q_t 0) Q_t_0 y.2)) hP hD hS dX4_readTest_144

def fX6_fail (z_t : Sx) (x1 : Int32) : Option (Sx) := if (gI z_t 8) = 0 then some (sI z_t 8 ((1 + (8 * (gI z_t 6))) + x1)) else some z_t

set_option maxHeartbeats 4000000 in
set_option maxRecDepth 100000 in
theorem mX6_fail (l : Launch) (D : va_G) (a : Nat → ClassId) {q_t : Nat} {Q_t : Nat → Nat} {z_t : Sx} {x1 : Int32} {y : Sx} (h : fX6_fail z_t x1 = some y) (sz : Nat) : CMv (S := Unit) l MX6_fail 0 0 0 0 D a [.ref q_t, .int x1] (rc6 a q_t Q_t z_t) sz (fun _ => True) (fun _ => rc6 a q_t Q_t y) := by
  unfold fX6_fail at h
  refine entMv (by decide) (Nat.le_of_ble_eq_true rfl) ?_
  intro p e s m below meth c C hK A hA hP hD ls hl
  obtain ⟨hx, hb, hml, hown, hts, hr, hlocks, hnm⟩ := id C
  have hb : c.code = cX6_fail := hb
  have hown : s.vm.findClass RX6 = some m.cls := hown
  have hS : va_S A s.heap s.heap [] := va_S.rf
  have hl : lv_has ls 2 [(0, .ref q_t), (1, .int x1)] := hl
  refine lv_aload_n hx hb dX6_fail_0 rfl (lv_at hl 0 rfl) ?_
  refine va_get (D := D) (v := .int (gI z_t 8)) (C := RX6) (T := TX6) (N := 9) hx hb hts iX6 hown hK.1 hP 0 rfl rfl 8 (by decide) (hts _ t_219) (fun _ h9 => h9) rfl dX6_fail_1 ?_
  refine lv_if_ne (tgt := 22) hx hb dX6_fail_4 (by decide) (fun c1 => ?_) (fun c1 => ?_)
  · have h := ite_f c1 h
    exact rMv C rfl h (g := fun y => rc6 a q_t Q_t y) hP hD hS dX6_fail_22
  · have h := ite_t c1 h
    refine lv_aload_n hx hb dX6_fail_7 rfl (lv_at hl 0 rfl) ?_
    refine lv_iconst (v := 1) hx hb dX6_fail_8 (by decide) ?_
    refine lv_bipush (v := 8) hx hb dX6_fail_9 (by decide) ?_
    refine lv_aload_n hx hb dX6_fail_11 rfl (lv_at hl 0 rfl) ?_
    refine va_get (D := D) (v := .int (gI z_t 6)) (C := RX6) (T := TX6) (N := 9) hx hb hts iX6 hown hK.1 hP 0 rfl rfl 6 (by decide) (hts _ t_216) (fun _ h9 => h9) rfl dX6_fail_12 ?_
    refine lv_imul hx hb dX6_fail_15 ?_
    refine lv_iadd hx hb dX6_fail_16 ?_
    refine lv_iload_n hx hb dX6_fail_17 rfl (lv_at hl 1 rfl) ?_
    refine lv_iadd hx hb dX6_fail_18 ?_
    refine va_put (D := D) (v := .int ((1 + (8 * (gI z_t 6))) + x1)) (C := RX6) (T := TX6) (N := 9) hx hb hts iX6 tyX6 tyX6_ok nmX6 hown hK.1 hP hD hS 0 rfl rfl 8 (by decide) (hts _ t_219) (fun _ h9 => h9) rfl (tyX6_ok 8 (by decide)) rfl rfl (Nat.le_of_ble_eq_true rfl) dX6_fail_19 (fun H locs hP hD hS => ?_)
    have hP : va_P D classes (rc6 a q_t Q_t (sI z_t 8 ((1 + (8 * (gI z_t 6))) + x1))) H := hP
    have hD : va_D A (rc6 a q_t Q_t (sI z_t 8 ((1 + (8 * (gI z_t 6))) + x1))) := hD
    exact rMv C rfl h (g := fun y => rc6 a q_t Q_t y) hP hD hS dX6_fail_22

def fX4_readValue (z_t : Sx) (z_t_0 : Sx) : Option (Sx × Sx) := jn (fun (i2 : Int32) => jn (fun (i4 : Int32) => jn (fun (z6 : Sx) (z7 : Sx) => if (gI z6 3) < 60 then jn (fun (i10 : Int32) => bd (fX4_emit (sI z6 3 ((gI z6 3) + 1)) i10) (fun z12 => bd (fX6_step z7) (fun z14 => some (z12, z14)))) (fun J9 => if i2 = 0 then J9 (-(gI z7 5)) else J9 (gI z7 7)) else bd (fX6_fail z7 3) (fun z17 => some (z6, z17))) (fun J5 => if i2 = 0 then if i4 = 0 then jn (fun (i21 : Int32) => bd (fX6_fail z_t_0 i21) (fun z23 => some (z_t, z23))) (fun J20 => if (gI z_t_0 5) = 302 then J20 1 else J20 0) else J5 z_t z_t_0 else J5 z_t z_t_0)) (fun J3 => jn (fun (z26 : Sx) (z27 : Sx) => J3 0) (fun J25 => if (gI z_t_0 5) < 312 then J25 z_t z_t_0 else if 320 < (gI z_t_0 5) then J25 z_t z_t_0 else J3 1))) (fun J1 => if (gI z_t_0 5) = 301 then J1 1 else J1 0)

set_option maxHeartbeats 4000000 in
set_option maxRecDepth 100000 in
theorem mX4_readValue (l : Launch) (D : va_G) (a : Nat → ClassId) {q_t : Nat} {Q_t : Nat → Nat} {z_t : Sx} {Q_t_0 : Nat → Nat} {z_t_0 : Sx} {y : Sx × Sx} (h : fX4_readValue z_t z_t_0 = some y) (sz : Nat) : CMv (S := Unit) l MX4_readValue 1 21 0 0 D a [.ref q_t] (rc4 a q_t Q_t z_t ++ (rc6 a (Q_t 0) Q_t_0 z_t_0)) sz (fun _ => True) (fun _ => rc4 a q_t Q_t y.1 ++ (rc6 a (Q_t 0) Q_t_0 y.2)) := by
  unfold fX4_readValue at h
  refine entMv (by decide) (Nat.le_of_ble_eq_true rfl) ?_
  intro p e s m below meth c C hK A hA hP hD ls hl
  obtain ⟨hx, hb, hml, hown, hts, hr, hlocks, hnm⟩ := id C
  have hb : c.code = cX4_readValue := hb
  have hown : s.vm.findClass RX4 = some m.cls := hown
  have hS : va_S A s.heap s.heap [] := va_S.rf
  have hl : lv_has ls 3 [(0, .ref q_t)] := hl
  refine lv_aload_n hx hb dX4_readValue_0 rfl (lv_at hl 0 rfl) ?_
  refine va_get (D := D) (v := .ref (Q_t 0)) (C := RX4) (T := TX4) (N := 8) hx hb hts iX4 hown hK.1 hP 0 rfl rfl 0 (by decide) (hts _ t_242) (fun _ h9 => h9) rfl dX4_readValue_1 ?_
  refine va_get (D := D) (v := .int (gI z_t_0 5)) (C := RX6) (T := TX6) (N := 9) hx hb hts iX6 hown hK.1 hP 5 rfl rfl 5 (by decide) (hts _ t_214) (fun _ h9 => h9) rfl dX4_readValue_4 ?_
  refine lv_sipush (v := 301) hx hb dX4_readValue_7 (by decide) ?_
  obtain ⟨J1, eJ1, h⟩ := jn_some h
  have hJ1 : ∀ (i2 : Int32) (H : Heap) (locs : List Loc) (ls : Array Slot), J1 i2 = some y → va_P D classes (rc4 a q_t Q_t z_t ++ (rc6 a (Q_t 0) Q_t_0 z_t_0)) H → va_D A (rc4 a q_t Q_t z_t ++ (rc6 a (Q_t 0) Q_t_0 z_t_0)) → va_S A s.heap H locs → lv_has ls 3 [(0, .ref q_t)] → W p l e (rmM 1 0 0 21) s m #[.ref q_t] below meth c H locs 0 0 (MQ below (va_Qv (fun (_ : Unit) => True) (Bw D A (fun _ => rc4 a q_t Q_t y.1 ++ (rc6 a (Q_t 0) Q_t_0 y.2))) A) #[.ref q_t] s 0 0 A) (F0 m 18 ls [.int i2]) := by
    intro i2 H locs ls h hP hD hS hl
    rw [eJ1] at h
    refine lv_istore_n (lv' := [(1, .int i2), (0, .ref q_t)]) hx hb dX4_readValue_18 rfl hl (by decide) rfl (fun ls hl => ?_)
    refine lv_aload_n hx hb dX4_readValue_19 rfl (lv_at hl 1 rfl) ?_
    refine va_get (D := D) (v := .ref (Q_t 0)) (C := RX4) (T := TX4) (N := 8) hx hb hts iX4 hown hK.1 hP 0 rfl rfl 0 (by decide) (hts _ t_242) (fun _ h9 => h9) rfl dX4_readValue_20 ?_
    refine va_get (D := D) (v := .int (gI z_t_0 5)) (C := RX6) (T := TX6) (N := 9) hx hb hts iX6 hown hK.1 hP 5 rfl rfl 5 (by decide) (hts _ t_214) (fun _ h9 => h9) rfl dX4_readValue_23 ?_
    refine lv_sipush (v := 312) hx hb dX4_readValue_26 (by decide) ?_
    obtain ⟨J3, eJ3, h⟩ := jn_some h
    have hJ3 : ∀ (i4 : Int32) (H : Heap) (locs : List Loc) (ls : Array Slot), J3 i4 = some y → va_P D classes (rc4 a q_t Q_t z_t ++ (rc6 a (Q_t 0) Q_t_0 z_t_0)) H → va_D A (rc4 a q_t Q_t z_t ++ (rc6 a (Q_t 0) Q_t_0 z_t_0)) → va_S A s.heap H locs → lv_has ls 3 [(0, .ref q_t), (1, .int i2)] → W p l e (rmM 1 0 0 21) s m #[.ref q_t] below meth c H locs 0 0 (MQ below (va_Qv (fun (_ : Unit) => True) (Bw D A (fun _ => rc4 a q_t Q_t y.1 ++ (rc6 a (Q_t 0) Q_t_0 y.2))) A) #[.ref q_t] s 0 0 A) (F0 m 50 ls [.int i4]) := by
      intro i4 H locs ls h hP hD hS hl
      rw [eJ3] at h
      refine lv_istore_n (lv' := [(2, .int i4), (0, .ref q_t), (1, .int i2)]) hx hb dX4_readValue_50 rfl hl (by decide) rfl (fun ls hl => ?_)
      refine lv_iload_n hx hb dX4_readValue_51 rfl (lv_at hl 2 rfl) ?_
      obtain ⟨J5, eJ5, h⟩ := jn_some h
      have hJ5 : ∀ (z6 : Sx) (z7 : Sx) (H : Heap) (locs : List Loc) (ls : Array Slot), J5 z6 z7 = some y → va_P D classes (rc4 a q_t Q_t z6 ++ (rc6 a (Q_t 0) Q_t_0 z7)) H → va_D A (rc4 a q_t Q_t z6 ++ (rc6 a (Q_t 0) Q_t_0 z7)) → va_S A s.heap H locs → lv_has ls 3 [(0, .ref q_t), (1, .int i2)] → W p l e (rmM 1 0 0 21) s m #[.ref q_t] below meth c H locs 0 0 (MQ below (va_Qv (fun (_ : Unit) => True) (Bw D A (fun _ => rc4 a q_t Q_t y.1 ++ (rc6 a (Q_t 0) Q_t_0 y.2))) A) #[.ref q_t] s 0 0 A) (F0 m 85 ls []) := by
        intro z6 z7 H locs ls h hP hD hS hl
        rw [eJ5] at h
        refine lv_aload_n hx hb dX4_readValue_85 rfl (lv_at hl 0 rfl) ?_
        refine va_get (D := D) (v := .int (gI z6 3)) (C := RX4) (T := TX4) (N := 8) hx hb hts iX4 hown hK.1 hP 0 rfl rfl 3 (by decide) (hts _ t_246) (fun _ h9 => h9) rfl dX4_readValue_86 ?_
        refine lv_bipush (v := 60) hx hb dX4_readValue_89 (by decide) ?_
        refine lv_icmp_lt (tgt := 103) hx hb dX4_readValue_91 (by decide) (fun c8 => ?_) (fun c8 => ?_)
        · have h := ite_t c8 h
          refine lv_aload_n hx hb dX4_readValue_103 rfl (lv_at hl 0 rfl) ?_
          refine lv_dup hx hb dX4_readValue_104 rfl ?_
          refine va_get (D := D) (v := .int (gI z6 3)) (C := RX4) (T := TX4) (N := 8) hx hb hts iX4 hown hK.1 hP 0 rfl rfl 3 (by decide) (hts _ t_246) (fun _ h9 => h9) rfl dX4_readValue_105 ?_
          refine lv_iconst (v := 1) hx hb dX4_readValue_108 (by decide) ?_
          refine lv_iadd hx hb dX4_readValue_109 ?_
          refine va_put (D := D) (v := .int ((gI z6 3) + 1)) (C := RX4) (T := TX4) (N := 8) hx hb hts iX4 tyX4 tyX4_ok nmX4 hown hK.1 hP hD hS 0 rfl rfl 3 (by decide) (hts _ t_246) (fun _ h9 => h9) rfl (tyX4_ok 3 (by decide)) rfl rfl (Nat.le_of_ble_eq_true rfl) dX4_readValue_110 (fun H locs hP hD hS => ?_)
          have hP : va_P D classes (rc4 a q_t Q_t (sI z6 3 ((gI z6 3) + 1)) ++ (rc6 a (Q_t 0) Q_t_0 z7)) H := hP
          have hD : va_D A (rc4 a q_t Q_t (sI z6 3 ((gI z6 3) + 1)) ++ (rc6 a (Q_t 0) Q_t_0 z7)) := hD
          refine lv_aload_n hx hb dX4_readValue_113 rfl (lv_at hl 0 rfl) ?_
          refine lv_iload_n hx hb dX4_readValue_114 rfl (lv_at hl 1 rfl) ?_
          obtain ⟨J9, eJ9, h⟩ := jn_some h
          have hJ9 : ∀ (i10 : Int32) (H : Heap) (locs : List Loc) (ls : Array Slot), J9 i10 = some y → va_P D classes (rc4 a q_t Q_t (sI z6 3 ((gI z6 3) + 1)) ++ (rc6 a (Q_t 0) Q_t_0 z7)) H → va_D A (rc4 a q_t Q_t (sI z6 3 ((gI z6 3) + 1)) ++ (rc6 a (Q_t 0) Q_t_0 z7)) → va_S A s.heap H locs → lv_has ls 3 [(0, .ref q_t)] → W p l e (rmM 1 0 0 21) s m #[.ref q_t] below meth c H locs 0 0 (MQ below (va_Qv (fun (_ : Unit) => True) (Bw D A (fun _ => rc4 a q_t Q_t y.1 ++ (rc6 a (Q_t 0) Q_t_0 y.2))) A) #[.ref q_t] s 0 0 A) (F0 m 136 ls [.int i10, .ref q_t]) := by
            intro i10 H locs ls h hP hD hS hl
            rw [eJ9] at h
            obtain ⟨z12, hc11, h⟩ := bd_some h
            refine cMv (runV (As := [.int i10]) (rest := []) C (mX4_emit l D a hc11 H.size) lk_V_4_91 okN_X4_emit ⟨Nat.le_of_ble_eq_true rfl, Nat.le_of_ble_eq_true rfl⟩ ⟨rfl, rfl⟩ (preV (preM hK (P_of_map (wc := rc4 a q_t Q_t (sI z6 3 ((gI z6 3) + 1))) hP [0, 1, 2, 3, 4] rfl) (hD.sub (ws' := rc4 a q_t Q_t (sI z6 3 ((gI z6 3) + 1))) [0, 1, 2, 3, 4] (by decide) rfl)) (recvOf hK hP 0 rfl (ci := 4) rfl)) hl.1 rfl (Nat.le_of_ble_eq_true rfl) dX4_readValue_136 ⟨Nat.le_of_ble_eq_true rfl, Nat.le_of_ble_eq_true rfl⟩) hP hD hS hA [0, 1, 2, 3, 4] [5, 6, 7, 8] [4, 5, 6, 7, 8, 0, 1, 2, 3] rfl rfl (by decide) (by decide) (fw := rc4 a q_t Q_t z12 ++ (rc6 a (Q_t 0) Q_t_0 z7)) rfl (by decide) (fun H locs hP hD hS => ?_)
            have hP : va_P D classes (rc4 a q_t Q_t z12 ++ (rc6 a (Q_t 0) Q_t_0 z7)) H := hP
            have hD : va_D A (rc4 a q_t Q_t z12 ++ (rc6 a (Q_t 0) Q_t_0 z7)) := hD
            refine lv_aload_n hx hb dX4_readValue_139 rfl (lv_at hl 0 rfl) ?_
            refine va_get (D := D) (v := .ref (Q_t 0)) (C := RX4) (T := TX4) (N := 8) hx hb hts iX4 hown hK.1 hP 0 rfl rfl 0 (by decide) (hts _ t_242) (fun _ h9 => h9) rfl dX4_readValue_140 ?_
            obtain ⟨z14, hc13, h⟩ := bd_some h
            refine cMv (runV (As := []) (rest := []) C (mX6_step l D a hc13 H.size) lk_V_4_72 okN_X6_step ⟨Nat.le_of_ble_eq_true rfl, Nat.le_of_ble_eq_true rfl⟩ ⟨rfl, rfl⟩ (preV (preM hK (P_of_map (wc := rc6 a (Q_t 0) Q_t_0 z7) hP [5, 6, 7, 8] rfl) (hD.sub (ws' := rc6 a (Q_t 0) Q_t_0 z7) [5, 6, 7, 8] (by decide) rfl)) (recvOf hK hP 5 rfl (ci := 6) rfl)) hl.1 rfl (Nat.le_of_ble_eq_true rfl) dX4_readValue_143 ⟨Nat.le_of_ble_eq_true rfl, Nat.le_of_ble_eq_true rfl⟩) hP hD hS hA [5, 6, 7, 8] [0, 1, 2, 3, 4] [0, 1, 2, 3, 4, 5, 6, 7, 8] rfl rfl (by decide) (by decide) (fw := rc4 a q_t Q_t z12 ++ (rc6 a (Q_t 0) Q_t_0 z14)) rfl (by decide) (fun H locs hP hD hS => ?_)
            have hP : va_P D classes (rc4 a q_t Q_t z12 ++ (rc6 a (Q_t 0) Q_t_0 z14)) H := hP
            have hD : va_D A (rc4 a q_t Q_t z12 ++ (rc6 a (Q_t 0) Q_t_0 z14)) := hD
            exact rMv C rfl h (g := fun y => rc4 a q_t Q_t y.1 ++ (rc6 a (Q_t 0) Q_t_0 y.2)) hP hD hS dX4_readValue_146
          refine lv_if_eq (tgt := 128) hx hb dX4_readValue_115 (by decide) (fun c15 => ?_) (fun c15 => ?_)
          · have h := ite_t c15 h
            refine lv_aload_n hx hb dX4_readValue_128 rfl (lv_at hl 0 rfl) ?_
            refine va_get (D := D) (v := .ref (Q_t 0)) (C := RX4) (T := TX4) (N := 8) hx hb hts iX4 hown hK.1 hP 0 rfl rfl 0 (by decide) (hts _ t_242) (fun _ h9 => h9) rfl dX4_readValue_129 ?_
            refine va_get (D := D) (v := .int (gI z7 5)) (C := RX6) (T := TX6) (N := 9) hx hb hts iX6 hown hK.1 hP 5 rfl rfl 5 (by decide) (hts _ t_214) (fun _ h9 => h9) rfl dX4_readValue_132 ?_
            refine lv_ineg hx hb dX4_readValue_135 ?_
            exact hJ9 (-(gI z7 5)) _ _ ls h hP hD hS (lv_sub hl [0] rfl)
          · have h := ite_f c15 h
            refine lv_aload_n hx hb dX4_readValue_118 rfl (lv_at hl 0 rfl) ?_
            refine va_get (D := D) (v := .ref (Q_t 0)) (C := RX4) (T := TX4) (N := 8) hx hb hts iX4 hown hK.1 hP 0 rfl rfl 0 (by decide) (hts _ t_242) (fun _ h9 => h9) rfl dX4_readValue_119 ?_
            refine va_get (D := D) (v := .int (gI z7 7)) (C := RX6) (T := TX6) (N := 9) hx hb hts iX6 hown hK.1 hP 5 rfl rfl 7 (by decide) (hts _ t_217) (fun _ h9 => h9) rfl dX4_readValue_122 ?_
            refine lv_goto (tgt := 136) hx hb dX4_readValue_125 (by decide) ?_
            exact hJ9 (gI z7 7) _ _ ls h hP hD hS (lv_sub hl [0] rfl)
        · have h := ite_f c8 h
          refine lv_aload_n hx hb dX4_readValue_94 rfl (lv_at hl 0 rfl) ?_
          refine va_get (D := D) (v := .ref (Q_t 0)) (C := RX4) (T := TX4) (N := 8) hx hb hts iX4 hown hK.1 hP 0 rfl rfl 0 (by decide) (hts _ t_242) (fun _ h9 => h9) rfl dX4_readValue_95 ?_
          refine lv_iconst (v := 3) hx hb dX4_readValue_98 (by decide) ?_
          obtain ⟨z17, hc16, h⟩ := bd_some h
          refine cMv (runV (As := [.int 3]) (rest := []) C (mX6_fail l D a hc16 H.size) lk_V_4_68 okN_X6_fail ⟨Nat.le_of_ble_eq_true rfl, Nat.le_of_ble_eq_true rfl⟩ ⟨rfl, rfl⟩ (preV (preM hK (P_of_map (wc := rc6 a (Q_t 0) Q_t_0 z7) hP [5, 6, 7, 8] rfl) (hD.sub (ws' := rc6 a (Q_t 0) Q_t_0 z7) [5, 6, 7, 8] (by decide) rfl)) (recvOf hK hP 5 rfl (ci := 6) rfl)) hl.1 rfl (Nat.le_of_ble_eq_true rfl) dX4_readValue_99 ⟨Nat.le_of_ble_eq_true rfl, Nat.le_of_ble_eq_true rfl⟩) hP hD hS hA [5, 6, 7, 8] [0, 1, 2, 3, 4] [0, 1, 2, 3, 4, 5, 6, 7, 8] rfl rfl (by decide) (by decide) (fw := rc4 a q_t Q_t z6 ++ (rc6 a (Q_t 0) Q_t_0 z17)) rfl (by decide) (fun H locs hP hD hS => ?_)
          have hP : va_P D classes (rc4 a q_t Q_t z6 ++ (rc6 a (Q_t 0) Q_t_0 z17)) H := hP
          have hD : va_D A (rc4 a q_t Q_t z6 ++ (rc6 a (Q_t 0) Q_t_0 z17)) := hD
          exact rMv C rfl h (g := fun y => rc4 a q_t Q_t y.1 ++ (rc6 a (Q_t 0) Q_t_0 y.2)) hP hD hS dX4_readValue_102
      refine lv_if_ne (tgt := 85) hx hb dX4_readValue_52 (by decide) (fun c18 => ?_) (fun c18 => ?_)
      · have h := ite_f c18 h
        exact hJ5 z_t z_t_0 _ _ ls h hP hD hS (lv_sub hl [1, 2] rfl)
      · have h := ite_t c18 h
        refine lv_iload_n hx hb dX4_readValue_55 rfl (lv_at hl 0 rfl) ?_
        refine lv_if_ne (tgt := 85) hx hb dX4_readValue_56 (by decide) (fun c19 => ?_) (fun c19 => ?_)
        · have h := ite_f c19 h
          exact hJ5 z_t z_t_0 _ _ ls h hP hD hS (lv_sub hl [1, 2] rfl)
        · have h := ite_t c19 h
          refine lv_aload_n hx hb dX4_readValue_59 rfl (lv_at hl 1 rfl) ?_
          refine va_get (D := D) (v := .ref (Q_t 0)) (C := RX4) (T := TX4) (N := 8) hx hb hts iX4 hown hK.1 hP 0 rfl rfl 0 (by decide) (hts _ t_242) (fun _ h9 => h9) rfl dX4_readValue_60 ?_
          refine lv_aload_n hx hb dX4_readValue_63 rfl (lv_at hl 1 rfl) ?_
          refine va_get (D := D) (v := .ref (Q_t 0)) (C := RX4) (T := TX4) (N := 8) hx hb hts iX4 hown hK.1 hP 0 rfl rfl 0 (by decide) (hts _ t_242) (fun _ h9 => h9) rfl dX4_readValue_64 ?_
          refine va_get (D := D) (v := .int (gI z_t_0 5)) (C := RX6) (T := TX6) (N := 9) hx hb hts iX6 hown hK.1 hP 5 rfl rfl 5 (by decide) (hts _ t_214) (fun _ h9 => h9) rfl dX4_readValue_67 ?_
          refine lv_sipush (v := 302) hx hb dX4_readValue_70 (by decide) ?_
          obtain ⟨J20, eJ20, h⟩ := jn_some h
          have hJ20 : ∀ (i21 : Int32) (H : Heap) (locs : List Loc) (ls : Array Slot), J20 i21 = some y → va_P D classes (rc4 a q_t Q_t z_t ++ (rc6 a (Q_t 0) Q_t_0 z_t_0)) H → va_D A (rc4 a q_t Q_t z_t ++ (rc6 a (Q_t 0) Q_t_0 z_t_0)) → va_S A s.heap H locs → lv_has ls 3 [] → W p l e (rmM 1 0 0 21) s m #[.ref q_t] below meth c H locs 0 0 (MQ below (va_Qv (fun (_ : Unit) => True) (Bw D A (fun _ => rc4 a q_t Q_t y.1 ++ (rc6 a (Q_t 0) Q_t_0 y.2))) A) #[.ref q_t] s 0 0 A) (F0 m 81 ls [.int i21, .ref (Q_t 0)]) := by
            intro i21 H locs ls h hP hD hS hl
            rw [eJ20] at h
            obtain ⟨z23, hc22, h⟩ := bd_some h
            refine cMv (runV (As := [.int i21]) (rest := []) C (mX6_fail l D a hc22 H.size) lk_V_4_68 okN_X6_fail ⟨Nat.le_of_ble_eq_true rfl, Nat.le_of_ble_eq_true rfl⟩ ⟨rfl, rfl⟩ (preV (preM hK (P_of_map (wc := rc6 a (Q_t 0) Q_t_0 z_t_0) hP [5, 6, 7, 8] rfl) (hD.sub (ws' := rc6 a (Q_t 0) Q_t_0 z_t_0) [5, 6, 7, 8] (by decide) rfl)) (recvOf hK hP 5 rfl (ci := 6) rfl)) hl.1 rfl (Nat.le_of_ble_eq_true rfl) dX4_readValue_81 ⟨Nat.le_of_ble_eq_true rfl, Nat.le_of_ble_eq_true rfl⟩) hP hD hS hA [5, 6, 7, 8] [0, 1, 2, 3, 4] [0, 1, 2, 3, 4, 5, 6, 7, 8] rfl rfl (by decide) (by decide) (fw := rc4 a q_t Q_t z_t ++ (rc6 a (Q_t 0) Q_t_0 z23)) rfl (by decide) (fun H locs hP hD hS => ?_)
            have hP : va_P D classes (rc4 a q_t Q_t z_t ++ (rc6 a (Q_t 0) Q_t_0 z23)) H := hP
            have hD : va_D A (rc4 a q_t Q_t z_t ++ (rc6 a (Q_t 0) Q_t_0 z23)) := hD
            exact rMv C rfl h (g := fun y => rc4 a q_t Q_t y.1 ++ (rc6 a (Q_t 0) Q_t_0 y.2)) hP hD hS dX4_readValue_84
          refine lv_icmp_ne (tgt := 80) hx hb dX4_readValue_73 (by decide) (fun c24 => ?_) (fun c24 => ?_)
          · have h := ite_f c24 h
            refine lv_iconst (v := 0) hx hb dX4_readValue_80 (by decide) ?_
            exact hJ20 0 _ _ ls h hP hD hS (lv_sub hl [] rfl)
          · have h := ite_t c24 h
            refine lv_iconst (v := 1) hx hb dX4_readValue_76 (by decide) ?_
            refine lv_goto (tgt := 81) hx hb dX4_readValue_77 (by decide) ?_
            exact hJ20 1 _ _ ls h hP hD hS (lv_sub hl [] rfl)
    obtain ⟨J25, eJ25, h⟩ := jn_some h
    have hJ25 : ∀ (z26 : Sx) (z27 : Sx) (H : Heap) (locs : List Loc) (ls : Array Slot), J25 z26 z27 = some y → va_P D classes (rc4 a q_t Q_t z26 ++ (rc6 a (Q_t 0) Q_t_0 z27)) H → va_D A (rc4 a q_t Q_t z26 ++ (rc6 a (Q_t 0) Q_t_0 z27)) → va_S A s.heap H locs → lv_has ls 3 [(0, .ref q_t), (1, .int i2)] → W p l e (rmM 1 0 0 21) s m #[.ref q_t] below meth c H locs 0 0 (MQ below (va_Qv (fun (_ : Unit) => True) (Bw D A (fun _ => rc4 a q_t Q_t y.1 ++ (rc6 a (Q_t 0) Q_t_0 y.2))) A) #[.ref q_t] s 0 0 A) (F0 m 49 ls []) := by
      intro z26 z27 H locs ls h hP hD hS hl
      rw [eJ25] at h
      refine lv_iconst (v := 0) hx hb dX4_readValue_49 (by decide) ?_
      exact hJ3 0 _ _ ls h hP hD hS (lv_sub hl [0, 1] rfl)
    refine lv_icmp_lt (tgt := 49) hx hb dX4_readValue_29 (by decide) (fun c28 => ?_) (fun c28 => ?_)
    · have h := ite_t c28 h
      exact hJ25 z_t z_t_0 _ _ ls h hP hD hS (lv_sub hl [1, 0] rfl)
    · have h := ite_f c28 h
      refine lv_aload_n hx hb dX4_readValue_32 rfl (lv_at hl 1 rfl) ?_
      refine va_get (D := D) (v := .ref (Q_t 0)) (C := RX4) (T := TX4) (N := 8) hx hb hts iX4 hown hK.1 hP 0 rfl rfl 0 (by decide) (hts _ t_242) (fun _ h9 => h9) rfl dX4_readValue_33 ?_
      refine va_get (D := D) (v := .int (gI z_t_0 5)) (C := RX6) (T := TX6) (N := 9) hx hb hts iX6 hown hK.1 hP 5 rfl rfl 5 (by decide) (hts _ t_214) (fun _ h9 => h9) rfl dX4_readValue_36 ?_
      refine lv_sipush (v := 320) hx hb dX4_readValue_39 (by decide) ?_
      refine lv_icmp_gt (tgt := 49) hx hb dX4_readValue_42 (by decide) (fun c29 => ?_) (fun c29 => ?_)
      · have h := ite_t c29 h
        exact hJ25 z_t z_t_0 _ _ ls h hP hD hS (lv_sub hl [1, 0] rfl)
      · have h := ite_f c29 h
        refine lv_iconst (v := 1) hx hb dX4_readValue_45 (by decide) ?_
        refine lv_goto (tgt := 50) hx hb dX4_readValue_46 (by decide) ?_
        exact hJ3 1 _ _ ls h hP hD hS (lv_sub hl [1, 0] rfl)
  refine lv_icmp_ne (tgt := 17) hx hb dX4_readValue_10 (by decide) (fun c30 => ?_) (fun c30 => ?_)
  · have h := ite_f c30 h
    refine lv_iconst (v := 0) hx hb dX4_readValue_17 (by decide) ?_
    exact hJ1 0 _ _ ls h hP hD hS (lv_sub hl [0] rfl)
  · have h := ite_t c30 h
    refine lv_iconst (v := 1) hx hb dX4_readValue_13 (by decide) ?_
    refine lv_goto (tgt := 18) hx hb dX4_readValue_14 (by decide) ?_
    exact hJ1 1 _ _ ls h hP hD hS (lv_sub hl [0] rfl)

def lX4_readSum_8 (k69 : Sx → Sx → Int32 → Option (Sx × Sx)) (k126 : Sx → Sx → Int32 → Option (Sx × Sx)) : Nat → Sx → Sx → Int32 → Int32 → Option (Sx × Sx)
  | 0, _, _, _, _ => none
  | n + 1, z_t, z_t_0, x1, x2 => if 400 ≤ x2 then k126 z_t z_t_0 x1 else if (gI z_t_0 8) = 0 then jn (fun (i7 : Int32) => jn (fun (z9 : Sx) (z10 : Sx) => jn (fun (z12 : Sx) (z13 : Sx) => jn (fun (i15 : Int32) => bd (fX6_step z13) (fun z17 => bd2 (fX4_readValue z12 z17) (fun z19 z20 => jn (fun (z22 : Sx) (z23 : Sx) => lX4_readSum_8 k69 k126 n z22 z23 i15 (x2 + 1)) (fun J21 => if i7 = 0 then J21 z19 z20 else bd (fX4_emit z19 (-(gI z_t_0 5))) (fun z26 => J21 z26 z20))))) (fun J14 => if i7 = 0 then J14 (gI z_t_0 5) else J14 x1)) (fun J11 => if i7 = 0 then if x1 = 0 then J11 z9 z10 else bd (fX4_emit z9 (-x1)) (fun z31 => J11 z31 z10) else J11 z9 z10)) (fun J8 => if i7 = 0 then if (gI z_t_0 5) = 43 then J8 z_t z_t_0 else if (gI z_t_0 5) = 45 then J8 z_t z_t_0 else k69 z_t z_t_0 x1 else J8 z_t z_t_0)) (fun J6 => jn (fun (z36 : Sx) (z37 : Sx) (i38 : Int32) (i39 : Int32) => J6 1) (fun J35 => if (gI z_t_0 5) = 42 then J35 z_t z_t_0 x1 x2 else if (gI z_t_0 5) = 47 then J35 z_t z_t_0 x1 x2 else J6 0)) else k126 z_t z_t_0 x1
def fX4_readSum (z_t : Sx) (z_t_0 : Sx) : Option (Sx × Sx) := bd2 (fX4_readValue z_t z_t_0) (fun z2 z3 => lX4_readSum_8 (fun (z42 : Sx) (z43 : Sx) (i44 : Int32) => if i44 = 0 then some (z42, z43) else bd (fX4_emit z42 (-i44)) (fun z47 => some (z47, z43))) (fun (z48 : Sx) (z49 : Sx) (i50 : Int32) => if i50 = 0 then some (z48, z49) else bd (fX4_emit z48 (-i50)) (fun z53 => some (z53, z49))) FU z2 z3 0 0)

set_option maxHeartbeats 4000000 in
set_option maxRecDepth 100000 in
theorem wX4_readSum_8 {p : Program} {l : Launch} {e : Env} {s : State} {m : MethodId} {below : List Frame} {meth : Method} {c : Code} {D : va_G} {a : Nat → ClassId} {A : Nat → Prop} {q_t : Nat} {Q_t : Nat → Nat} {Q_t_0 : Nat → Nat} (C : Cx p s m #[.ref q_t] meth c MX4_readSum) (hK : KK D a s) (hA : ∀ q, s.heap.size ≤ q → A q) {y : Sx × Sx} {k69 : Sx → Sx → Int32 → Option (Sx × Sx)} {k126 : Sx → Sx → Int32 → Option (Sx × Sx)} (hk69 : ∀ (z_tk : Sx) (z_t_0k : Sx) (x1k : Int32) (H : Heap) (locs : List Loc) (ls : Array Slot), k69 z_tk z_t_0k x1k = some y → va_P D classes (rc4 a q_t Q_t z_tk ++ (rc6 a (Q_t 0) Q_t_0 z_t_0k)) H → va_D A (rc4 a q_t Q_t z_tk ++ (rc6 a (Q_t 0) Q_t_0 z_t_0k)) → va_S A s.heap H locs → lv_has ls 5 [(0, .ref q_t), (1, .int x1k)] → W p l e (rmM 2 0 0 43) s m #[.ref q_t] below meth c H locs 0 0 (MQ below (va_Qv (fun (_ : Unit) => True) (Bw D A (fun _ => rc4 a q_t Q_t y.1 ++ (rc6 a (Q_t 0) Q_t_0 y.2))) A) #[.ref q_t] s 0 0 A) (F0 m 69 ls [])) (hk126 : ∀ (z_tk : Sx) (z_t_0k : Sx) (x1k : Int32) (H : Heap) (locs : List Loc) (ls : Array Slot), k126 z_tk z_t_0k x1k = some y → va_P D classes (rc4 a q_t Q_t z_tk ++ (rc6 a (Q_t 0) Q_t_0 z_t_0k)) H → va_D A (rc4 a q_t Q_t z_tk ++ (rc6 a (Q_t 0) Q_t_0 z_t_0k)) → va_S A s.heap H locs → lv_has ls 5 [(0, .ref q_t), (1, .int x1k)] → W p l e (rmM 2 0 0 43) s m #[.ref q_t] below meth c H locs 0 0 (MQ below (va_Qv (fun (_ : Unit) => True) (Bw D A (fun _ => rc4 a q_t Q_t y.1 ++ (rc6 a (Q_t 0) Q_t_0 y.2))) A) #[.ref q_t] s 0 0 A) (F0 m 126 ls [])) : ∀ (n : Nat) (z_t : Sx) (z_t_0 : Sx) (x1 : Int32) (x2 : Int32) (H : Heap) (locs : List Loc) (ls : Array Slot), lX4_readSum_8 k69 k126 n z_t z_t_0 x1 x2 = some y → va_P D classes (rc4 a q_t Q_t z_t ++ (rc6 a (Q_t 0) Q_t_0 z_t_0)) H → va_D A (rc4 a q_t Q_t z_t ++ (rc6 a (Q_t 0) Q_t_0 z_t_0)) → va_S A s.heap H locs → lv_has ls 5 [(0, .ref q_t), (1, .int x1), (2, .int x2)] → W p l e (rmM 2 0 0 43) s m #[.ref q_t] below meth c H locs 0 0 (MQ below (va_Qv (fun (_ : Unit) => True) (Bw D A (fun _ => rc4 a q_t Q_t y.1 ++ (rc6 a (Q_t 0) Q_t_0 y.2))) A) #[.ref q_t] s 0 0 A) (F0 m 8 ls []) := by
  obtain ⟨hx, hb, hml, hown, hts, hr, hlocks, hnm⟩ := id C
  have hb : c.code = cX4_readSum := hb
  have hown : s.vm.findClass RX4 = some m.cls := hown
  intro n
  induction n with
  | zero => intro z_t z_t_0 x1 x2 H locs ls h; rw [lX4_readSum_8] at h; cases h
  | succ n ih =>
    intro z_t z_t_0 x1 x2 H locs ls h hP hD hS hl
    rw [lX4_readSum_8] at h
    refine lv_iload_n hx hb dX4_readSum_8 rfl (lv_at hl 2 rfl) ?_
    refine lv_sipush (v := 400) hx hb dX4_readSum_9 (by decide) ?_
    refine lv_icmp_ge (tgt := 126) hx hb dX4_readSum_12 (by decide) (fun c4 => ?_) (fun c4 => ?_)
    · have h := ite_t c4 h
      exact hk126 z_t z_t_0 x1 _ _ ls h hP hD hS (lv_sub hl [0, 1] rfl)
    · have h := ite_f c4 h
      refine lv_aload_n hx hb dX4_readSum_15 rfl (lv_at hl 0 rfl) ?_
      refine va_get (D := D) (v := .ref (Q_t 0)) (C := RX4) (T := TX4) (N := 8) hx hb hts iX4 hown hK.1 hP 0 rfl rfl 0 (by decide) (hts _ t_242) (fun _ h9 => h9) rfl dX4_readSum_16 ?_
      refine va_get (D := D) (v := .int (gI z_t_0 8)) (C := RX6) (T := TX6) (N := 9) hx hb hts iX6 hown hK.1 hP 5 rfl rfl 8 (by decide) (hts _ t_220) (fun _ h9 => h9) rfl dX4_readSum_19 ?_
      refine lv_if_ne (tgt := 126) hx hb dX4_readSum_22 (by decide) (fun c5 => ?_) (fun c5 => ?_)
      · have h := ite_f c5 h
        exact hk126 z_t z_t_0 x1 _ _ ls h hP hD hS (lv_sub hl [0, 1] rfl)
      · have h := ite_t c5 h
        refine lv_aload_n hx hb dX4_readSum_25 rfl (lv_at hl 0 rfl) ?_
        refine va_get (D := D) (v := .ref (Q_t 0)) (C := RX4) (T := TX4) (N := 8) hx hb hts iX4 hown hK.1 hP 0 rfl rfl 0 (by decide) (hts _ t_242) (fun _ h9 => h9) rfl dX4_readSum_26 ?_
        refine va_get (D := D) (v := .int (gI z_t_0 5)) (C := RX6) (T := TX6) (N := 9) hx hb hts iX6 hown hK.1 hP 5 rfl rfl 5 (by decide) (hts _ t_214) (fun _ h9 => h9) rfl dX4_readSum_29 ?_
        refine lv_istore_n (lv' := [(3, .int (gI z_t_0 5)), (0, .ref q_t), (1, .int x1), (2, .int x2)]) hx hb dX4_readSum_32 rfl hl (by decide) rfl (fun ls hl => ?_)
        refine lv_iload_n hx hb dX4_readSum_33 rfl (lv_at hl 0 rfl) ?_
        refine lv_bipush (v := 42) hx hb dX4_readSum_34 (by decide) ?_
        obtain ⟨J6, eJ6, h⟩ := jn_some h
        have hJ6 : ∀ (i7 : Int32) (H : Heap) (locs : List Loc) (ls : Array Slot), J6 i7 = some y → va_P D classes (rc4 a q_t Q_t z_t ++ (rc6 a (Q_t 0) Q_t_0 z_t_0)) H → va_D A (rc4 a q_t Q_t z_t ++ (rc6 a (Q_t 0) Q_t_0 z_t_0)) → va_S A s.heap H locs → lv_has ls 5 [(0, .ref q_t), (1, .int x1), (2, .int x2), (3, .int (gI z_t_0 5))] → W p l e (rmM 2 0 0 43) s m #[.ref q_t] below meth c H locs 0 0 (MQ below (va_Qv (fun (_ : Unit) => True) (Bw D A (fun _ => rc4 a q_t Q_t y.1 ++ (rc6 a (Q_t 0) Q_t_0 y.2))) A) #[.ref q_t] s 0 0 A) (F0 m 50 ls [.int i7]) := by
          intro i7 H locs ls h hP hD hS hl
          rw [eJ6] at h
          refine lv_istore (lv' := [(4, .int i7), (0, .ref q_t), (1, .int x1), (2, .int x2), (3, .int (gI z_t_0 5))]) hx hb dX4_readSum_50 hl (by decide) rfl (fun ls hl => ?_)
          refine lv_iload hx hb dX4_readSum_52 (lv_at hl 0 rfl) ?_
          obtain ⟨J8, eJ8, h⟩ := jn_some h
          have hJ8 : ∀ (z9 : Sx) (z10 : Sx) (H : Heap) (locs : List Loc) (ls : Array Slot), J8 z9 z10 = some y → va_P D classes (rc4 a q_t Q_t z9 ++ (rc6 a (Q_t 0) Q_t_0 z10)) H → va_D A (rc4 a q_t Q_t z9 ++ (rc6 a (Q_t 0) Q_t_0 z10)) → va_S A s.heap H locs → lv_has ls 5 [(0, .ref q_t), (1, .int x1), (2, .int x2), (3, .int (gI z_t_0 5)), (4, .int i7)] → W p l e (rmM 2 0 0 43) s m #[.ref q_t] below meth c H locs 0 0 (MQ below (va_Qv (fun (_ : Unit) => True) (Bw D A (fun _ => rc4 a q_t Q_t y.1 ++ (rc6 a (Q_t 0) Q_t_0 y.2))) A) #[.ref q_t] s 0 0 A) (F0 m 72 ls []) := by
            intro z9 z10 H locs ls h hP hD hS hl
            rw [eJ8] at h
            refine lv_iload hx hb dX4_readSum_72 (lv_at hl 4 rfl) ?_
            obtain ⟨J11, eJ11, h⟩ := jn_some h
            have hJ11 : ∀ (z12 : Sx) (z13 : Sx) (H : Heap) (locs : List Loc) (ls : Array Slot), J11 z12 z13 = some y → va_P D classes (rc4 a q_t Q_t z12 ++ (rc6 a (Q_t 0) Q_t_0 z13)) H → va_D A (rc4 a q_t Q_t z12 ++ (rc6 a (Q_t 0) Q_t_0 z13)) → va_S A s.heap H locs → lv_has ls 5 [(0, .ref q_t), (1, .int x1), (2, .int x2), (3, .int (gI z_t_0 5)), (4, .int i7)] → W p l e (rmM 2 0 0 43) s m #[.ref q_t] below meth c H locs 0 0 (MQ below (va_Qv (fun (_ : Unit) => True) (Bw D A (fun _ => rc4 a q_t Q_t y.1 ++ (rc6 a (Q_t 0) Q_t_0 y.2))) A) #[.ref q_t] s 0 0 A) (F0 m 87 ls []) := by
              intro z12 z13 H locs ls h hP hD hS hl
              rw [eJ11] at h
              refine lv_iload hx hb dX4_readSum_87 (lv_at hl 4 rfl) ?_
              obtain ⟨J14, eJ14, h⟩ := jn_some h
              have hJ14 : ∀ (i15 : Int32) (H : Heap) (locs : List Loc) (ls : Array Slot), J14 i15 = some y → va_P D classes (rc4 a q_t Q_t z12 ++ (rc6 a (Q_t 0) Q_t_0 z13)) H → va_D A (rc4 a q_t Q_t z12 ++ (rc6 a (Q_t 0) Q_t_0 z13)) → va_S A s.heap H locs → lv_has ls 5 [(0, .ref q_t), (2, .int x2), (3, .int (gI z_t_0 5)), (4, .int i7)] → W p l e (rmM 2 0 0 43) s m #[.ref q_t] below meth c H locs 0 0 (MQ below (va_Qv (fun (_ : Unit) => True) (Bw D A (fun _ => rc4 a q_t Q_t y.1 ++ (rc6 a (Q_t 0) Q_t_0 y.2))) A) #[.ref q_t] s 0 0 A) (F0 m 97 ls [.int i15]) := by
                intro i15 H locs ls h hP hD hS hl
                rw [eJ14] at h
                refine lv_istore_n (lv' := [(1, .int i15), (0, .ref q_t), (2, .int x2), (3, .int (gI z_t_0 5)), (4, .int i7)]) hx hb dX4_readSum_97 rfl hl (by decide) rfl (fun ls hl => ?_)
                refine lv_aload_n hx hb dX4_readSum_98 rfl (lv_at hl 1 rfl) ?_
                refine va_get (D := D) (v := .ref (Q_t 0)) (C := RX4) (T := TX4) (N := 8) hx hb hts iX4 hown hK.1 hP 0 rfl rfl 0 (by decide) (hts _ t_242) (fun _ h9 => h9) rfl dX4_readSum_99 ?_
                obtain ⟨z17, hc16, h⟩ := bd_some h
                refine cMv (runV (As := []) (rest := []) C (mX6_step l D a hc16 H.size) lk_V_4_72 okN_X6_step ⟨Nat.le_of_ble_eq_true rfl, Nat.le_of_ble_eq_true rfl⟩ ⟨rfl, rfl⟩ (preV (preM hK (P_of_map (wc := rc6 a (Q_t 0) Q_t_0 z13) hP [5, 6, 7, 8] rfl) (hD.sub (ws' := rc6 a (Q_t 0) Q_t_0 z13) [5, 6, 7, 8] (by decide) rfl)) (recvOf hK hP 5 rfl (ci := 6) rfl)) hl.1 rfl (Nat.le_of_ble_eq_true rfl) dX4_readSum_102 ⟨Nat.le_of_ble_eq_true rfl, Nat.le_of_ble_eq_true rfl⟩) hP hD hS hA [5, 6, 7, 8] [0, 1, 2, 3, 4] [0, 1, 2, 3, 4, 5, 6, 7, 8] rfl rfl (by decide) (by decide) (fw := rc4 a q_t Q_t z12 ++ (rc6 a (Q_t 0) Q_t_0 z17)) rfl (by decide) (fun H locs hP hD hS => ?_)
                have hP : va_P D classes (rc4 a q_t Q_t z12 ++ (rc6 a (Q_t 0) Q_t_0 z17)) H := hP
                have hD : va_D A (rc4 a q_t Q_t z12 ++ (rc6 a (Q_t 0) Q_t_0 z17)) := hD
                refine lv_aload_n hx hb dX4_readSum_105 rfl (lv_at hl 1 rfl) ?_
                obtain ⟨z19, z20, hc18, h⟩ := bd2_some h
                refine cWv (runV (As := []) (rest := []) C (mX4_readValue l D a hc18 H.size) lk_V_4_97 okN_X4_readValue ⟨Nat.le_of_ble_eq_true rfl, Nat.le_of_ble_eq_true rfl⟩ ⟨rfl, rfl⟩ (preV (preM hK hP hD) (recvOf hK hP 0 rfl (ci := 4) rfl)) hl.1 rfl (Nat.le_of_ble_eq_true rfl) dX4_readSum_106 ⟨Nat.le_of_ble_eq_true rfl, Nat.le_of_ble_eq_true rfl⟩) hP hD hS hA (fun H locs hP hD hS => ?_)
                have hP : va_P D classes (rc4 a q_t Q_t z19 ++ (rc6 a (Q_t 0) Q_t_0 z20)) H := hP
                have hD : va_D A (rc4 a q_t Q_t z19 ++ (rc6 a (Q_t 0) Q_t_0 z20)) := hD
                refine lv_iload hx hb dX4_readSum_109 (lv_at hl 4 rfl) ?_
                obtain ⟨J21, eJ21, h⟩ := jn_some h
                have hJ21 : ∀ (z22 : Sx) (z23 : Sx) (H : Heap) (locs : List Loc) (ls : Array Slot), J21 z22 z23 = some y → va_P D classes (rc4 a q_t Q_t z22 ++ (rc6 a (Q_t 0) Q_t_0 z23)) H → va_D A (rc4 a q_t Q_t z22 ++ (rc6 a (Q_t 0) Q_t_0 z23)) → va_S A s.heap H locs → lv_has ls 5 [(0, .ref q_t), (1, .int i15), (2, .int x2)] → W p l e (rmM 2 0 0 43) s m #[.ref q_t] below meth c H locs 0 0 (MQ below (va_Qv (fun (_ : Unit) => True) (Bw D A (fun _ => rc4 a q_t Q_t y.1 ++ (rc6 a (Q_t 0) Q_t_0 y.2))) A) #[.ref q_t] s 0 0 A) (F0 m 120 ls []) := by
                  intro z22 z23 H locs ls h hP hD hS hl
                  rw [eJ21] at h
                  refine lv_iinc (v := x2 + 1) (lv' := [(2, .int (x2 + 1)), (0, .ref q_t), (1, .int i15)]) hx hb dX4_readSum_120 hl (k := 2) rfl rfl (by decide) rfl (fun ls hl => ?_)
                  refine lv_goto (tgt := 8) hx hb dX4_readSum_123 (by decide) ?_
                  exact ih z22 z23 i15 (x2 + 1) _ _ ls h hP hD hS (lv_sub hl [1, 2, 0] rfl)
                refine lv_if_eq (tgt := 120) hx hb dX4_readSum_111 (by decide) (fun c24 => ?_) (fun c24 => ?_)
                · have h := ite_t c24 h
                  exact hJ21 z19 z20 _ _ ls h hP hD hS (lv_sub hl [1, 0, 2] rfl)
                · have h := ite_f c24 h
                  refine lv_aload_n hx hb dX4_readSum_114 rfl (lv_at hl 1 rfl) ?_
                  refine lv_iload_n hx hb dX4_readSum_115 rfl (lv_at hl 3 rfl) ?_
                  refine lv_ineg hx hb dX4_readSum_116 ?_
                  obtain ⟨z26, hc25, h⟩ := bd_some h
                  refine cMv (runV (As := [.int (-(gI z_t_0 5))]) (rest := []) C (mX4_emit l D a hc25 H.size) lk_V_4_91 okN_X4_emit ⟨Nat.le_of_ble_eq_true rfl, Nat.le_of_ble_eq_true rfl⟩ ⟨rfl, rfl⟩ (preV (preM hK (P_of_map (wc := rc4 a q_t Q_t z19) hP [0, 1, 2, 3, 4] rfl) (hD.sub (ws' := rc4 a q_t Q_t z19) [0, 1, 2, 3, 4] (by decide) rfl)) (recvOf hK hP 0 rfl (ci := 4) rfl)) hl.1 rfl (Nat.le_of_ble_eq_true rfl) dX4_readSum_117 ⟨Nat.le_of_ble_eq_true rfl, Nat.le_of_ble_eq_true rfl⟩) hP hD hS hA [0, 1, 2, 3, 4] [5, 6, 7, 8] [4, 5, 6, 7, 8, 0, 1, 2, 3] rfl rfl (by decide) (by decide) (fw := rc4 a q_t Q_t z26 ++ (rc6 a (Q_t 0) Q_t_0 z20)) rfl (by decide) (fun H locs hP hD hS => ?_)
                  have hP : va_P D classes (rc4 a q_t Q_t z26 ++ (rc6 a (Q_t 0) Q_t_0 z20)) H := hP
                  have hD : va_D A (rc4 a q_t Q_t z26 ++ (rc6 a (Q_t 0) Q_t_0 z20)) := hD
                  exact hJ21 z26 z20 _ _ ls h hP hD hS (lv_sub hl [1, 0, 2] rfl)
              refine lv_if_eq (tgt := 96) hx hb dX4_readSum_89 (by decide) (fun c27 => ?_) (fun c27 => ?_)
              · have h := ite_t c27 h
                refine lv_iload_n hx hb dX4_readSum_96 rfl (lv_at hl 3 rfl) ?_
                exact hJ14 (gI z_t_0 5) _ _ ls h hP hD hS (lv_sub hl [0, 2, 3, 4] rfl)
              · have h := ite_f c27 h
                refine lv_iload_n hx hb dX4_readSum_92 rfl (lv_at hl 1 rfl) ?_
                refine lv_goto (tgt := 97) hx hb dX4_readSum_93 (by decide) ?_
                exact hJ14 x1 _ _ ls h hP hD hS (lv_sub hl [0, 2, 3, 4] rfl)
            refine lv_if_ne (tgt := 87) hx hb dX4_readSum_74 (by decide) (fun c28 => ?_) (fun c28 => ?_)
            · have h := ite_f c28 h
              exact hJ11 z9 z10 _ _ ls h hP hD hS (lv_sub hl [0, 1, 2, 3, 4] rfl)
            · have h := ite_t c28 h
              refine lv_iload_n hx hb dX4_readSum_77 rfl (lv_at hl 1 rfl) ?_
              refine lv_if_eq (tgt := 87) hx hb dX4_readSum_78 (by decide) (fun c29 => ?_) (fun c29 => ?_)
              · have h := ite_t c29 h
                exact hJ11 z9 z10 _ _ ls h hP hD hS (lv_sub hl [0, 1, 2, 3, 4] rfl)
              · have h := ite_f c29 h
                refine lv_aload_n hx hb dX4_readSum_81 rfl (lv_at hl 0 rfl) ?_
                refine lv_iload_n hx hb dX4_readSum_82 rfl (lv_at hl 1 rfl) ?_
                refine lv_ineg hx hb dX4_readSum_83 ?_
                obtain ⟨z31, hc30, h⟩ := bd_some h
                refine cMv (runV (As := [.int (-x1)]) (rest := []) C (mX4_emit l D a hc30 H.size) lk_V_4_91 okN_X4_emit ⟨Nat.le_of_ble_eq_true rfl, Nat.le_of_ble_eq_true rfl⟩ ⟨rfl, rfl⟩ (preV (preM hK (P_of_map (wc := rc4 a q_t Q_t z9) hP [0, 1, 2, 3, 4] rfl) (hD.sub (ws' := rc4 a q_t Q_t z9) [0, 1, 2, 3, 4] (by decide) rfl)) (recvOf hK hP 0 rfl (ci := 4) rfl)) hl.1 rfl (Nat.le_of_ble_eq_true rfl) dX4_readSum_84 ⟨Nat.le_of_ble_eq_true rfl, Nat.le_of_ble_eq_true rfl⟩) hP hD hS hA [0, 1, 2, 3, 4] [5, 6, 7, 8] [4, 5, 6, 7, 8, 0, 1, 2, 3] rfl rfl (by decide) (by decide) (fw := rc4 a q_t Q_t z31 ++ (rc6 a (Q_t 0) Q_t_0 z10)) rfl (by decide) (fun H locs hP hD hS => ?_)
                have hP : va_P D classes (rc4 a q_t Q_t z31 ++ (rc6 a (Q_t 0) Q_t_0 z10)) H := hP
                have hD : va_D A (rc4 a q_t Q_t z31 ++ (rc6 a (Q_t 0) Q_t_0 z10)) := hD
                exact hJ11 z31 z10 _ _ ls h hP hD hS (lv_sub hl [0, 1, 2, 3, 4] rfl)
          refine lv_if_ne (tgt := 72) hx hb dX4_readSum_54 (by decide) (fun c32 => ?_) (fun c32 => ?_)
          · have h := ite_f c32 h
            exact hJ8 z_t z_t_0 _ _ ls h hP hD hS (lv_sub hl [1, 2, 3, 4, 0] rfl)
          · have h := ite_t c32 h
            refine lv_iload_n hx hb dX4_readSum_57 rfl (lv_at hl 4 rfl) ?_
            refine lv_bipush (v := 43) hx hb dX4_readSum_58 (by decide) ?_
            refine lv_icmp_eq (tgt := 72) hx hb dX4_readSum_60 (by decide) (fun c33 => ?_) (fun c33 => ?_)
            · have h := ite_t c33 h
              exact hJ8 z_t z_t_0 _ _ ls h hP hD hS (lv_sub hl [1, 2, 3, 4, 0] rfl)
            · have h := ite_f c33 h
              refine lv_iload_n hx hb dX4_readSum_63 rfl (lv_at hl 4 rfl) ?_
              refine lv_bipush (v := 45) hx hb dX4_readSum_64 (by decide) ?_
              refine lv_icmp_eq (tgt := 72) hx hb dX4_readSum_66 (by decide) (fun c34 => ?_) (fun c34 => ?_)
              · have h := ite_t c34 h
                exact hJ8 z_t z_t_0 _ _ ls h hP hD hS (lv_sub hl [1, 2, 3, 4, 0] rfl)
              · have h := ite_f c34 h
                exact hk69 z_t z_t_0 x1 _ _ ls h hP hD hS (lv_sub hl [1, 2] rfl)
        obtain ⟨J35, eJ35, h⟩ := jn_some h
        have hJ35 : ∀ (z36 : Sx) (z37 : Sx) (i38 : Int32) (i39 : Int32) (H : Heap) (locs : List Loc) (ls : Array Slot), J35 z36 z37 i38 i39 = some y → va_P D classes (rc4 a q_t Q_t z36 ++ (rc6 a (Q_t 0) Q_t_0 z37)) H → va_D A (rc4 a q_t Q_t z36 ++ (rc6 a (Q_t 0) Q_t_0 z37)) → va_S A s.heap H locs → lv_has ls 5 [(0, .ref q_t), (1, .int i38), (2, .int i39), (3, .int (gI z_t_0 5))] → W p l e (rmM 2 0 0 43) s m #[.ref q_t] below meth c H locs 0 0 (MQ below (va_Qv (fun (_ : Unit) => True) (Bw D A (fun _ => rc4 a q_t Q_t y.1 ++ (rc6 a (Q_t 0) Q_t_0 y.2))) A) #[.ref q_t] s 0 0 A) (F0 m 45 ls []) := by
          intro z36 z37 i38 i39 H locs ls h hP hD hS hl
          rw [eJ35] at h
          refine lv_iconst (v := 1) hx hb dX4_readSum_45 (by decide) ?_
          refine lv_goto (tgt := 50) hx hb dX4_readSum_46 (by decide) ?_
          exact hJ6 1 _ _ ls h hP hD hS (lv_sub hl [0, 1, 2, 3] rfl)
        refine lv_icmp_eq (tgt := 45) hx hb dX4_readSum_36 (by decide) (fun c40 => ?_) (fun c40 => ?_)
        · have h := ite_t c40 h
          exact hJ35 z_t z_t_0 x1 x2 _ _ ls h hP hD hS (lv_sub hl [1, 2, 3, 0] rfl)
        · have h := ite_f c40 h
          refine lv_iload_n hx hb dX4_readSum_39 rfl (lv_at hl 0 rfl) ?_
          refine lv_bipush (v := 47) hx hb dX4_readSum_40 (by decide) ?_
          refine lv_icmp_ne (tgt := 49) hx hb dX4_readSum_42 (by decide) (fun c41 => ?_) (fun c41 => ?_)
          · have h := ite_f c41 h
            refine lv_iconst (v := 0) hx hb dX4_readSum_49 (by decide) ?_
            exact hJ6 0 _ _ ls h hP hD hS (lv_sub hl [1, 2, 3, 0] rfl)
          · have h := ite_t c41 h
            exact hJ35 z_t z_t_0 x1 x2 _ _ ls h hP hD hS (lv_sub hl [1, 2, 3, 0] rfl)

set_option maxHeartbeats 4000000 in
set_option maxRecDepth 100000 in
theorem mX4_readSum (l : Launch) (D : va_G) (a : Nat → ClassId) {q_t : Nat} {Q_t : Nat → Nat} {z_t : Sx} {Q_t_0 : Nat → Nat} {z_t_0 : Sx} {y : Sx × Sx} (h : fX4_readSum z_t z_t_0 = some y) (sz : Nat) : CMv (S := Unit) l MX4_readSum 2 43 0 0 D a [.ref q_t] (rc4 a q_t Q_t z_t ++ (rc6 a (Q_t 0) Q_t_0 z_t_0)) sz (fun _ => True) (fun _ => rc4 a q_t Q_t y.1 ++ (rc6 a (Q_t 0) Q_t_0 y.2)) := by
  unfold fX4_readSum at h
  refine entMv (by decide) (Nat.le_of_ble_eq_true rfl) ?_
  intro p e s m below meth c C hK A hA hP hD ls hl
  obtain ⟨hx, hb, hml, hown, hts, hr, hlocks, hnm⟩ := id C
  have hb : c.code = cX4_readSum := hb
  have hown : s.vm.findClass RX4 = some m.cls := hown
  have hS : va_S A s.heap s.heap [] := va_S.rf
  have hl : lv_has ls 5 [(0, .ref q_t)] := hl
  refine lv_iconst (v := 0) hx hb dX4_readSum_0 (by decide) ?_
  refine lv_istore_n (lv' := [(1, .int 0), (0, .ref q_t)]) hx hb dX4_readSum_1 rfl hl (by decide) rfl (fun ls hl => ?_)
  refine lv_aload_n hx hb dX4_readSum_2 rfl (lv_at hl 1 rfl) ?_
  obtain ⟨z2, z3, hc1, h⟩ := bd2_some h
  refine cWv (runV (As := []) (rest := []) C (mX4_readValue l D a hc1 s.heap.size) lk_V_4_97 okN_X4_readValue ⟨Nat.le_of_ble_eq_true rfl, Nat.le_of_ble_eq_true rfl⟩ ⟨rfl, rfl⟩ (preV (preM hK hP hD) (recvOf hK hP 0 rfl (ci := 4) rfl)) hl.1 rfl (Nat.le_of_ble_eq_true rfl) dX4_readSum_3 ⟨Nat.le_of_ble_eq_true rfl, Nat.le_of_ble_eq_true rfl⟩) hP hD hS hA (fun H locs hP hD hS => ?_)
  have hP : va_P D classes (rc4 a q_t Q_t z2 ++ (rc6 a (Q_t 0) Q_t_0 z3)) H := hP
  have hD : va_D A (rc4 a q_t Q_t z2 ++ (rc6 a (Q_t 0) Q_t_0 z3)) := hD
  refine lv_iconst (v := 0) hx hb dX4_readSum_6 (by decide) ?_
  refine lv_istore_n (lv' := [(2, .int 0), (1, .int 0), (0, .ref q_t)]) hx hb dX4_readSum_7 rfl hl (by decide) rfl (fun ls hl => ?_)
  refine wX4_readSum_8 C hK hA ?_ ?_ FU z2 z3 0 0 _ _ ls h hP hD hS (lv_sub hl [2, 1, 0] rfl)
  · intro z42 z43 i44 H locs ls h hP hD hS hl
    refine lv_goto (tgt := 126) hx hb dX4_readSum_69 (by decide) ?_
    refine lv_iload_n hx hb dX4_readSum_126 rfl (lv_at hl 1 rfl) ?_
    refine lv_if_eq (tgt := 136) hx hb dX4_readSum_127 (by decide) (fun c45 => ?_) (fun c45 => ?_)
    · have h := ite_t c45 h
      exact rMv C rfl h (g := fun y => rc4 a q_t Q_t y.1 ++ (rc6 a (Q_t 0) Q_t_0 y.2)) hP hD hS dX4_readSum_136
    · have h := ite_f c45 h
      refine lv_aload_n hx hb dX4_readSum_130 rfl (lv_at hl 0 rfl) ?_
      refine lv_iload_n hx hb dX4_readSum_131 rfl (lv_at hl 1 rfl) ?_
      refine lv_ineg hx hb dX4_readSum_132 ?_
      obtain ⟨z47, hc46, h⟩ := bd_some h
      refine cMv (runV (As := [.int (-i44)]) (rest := []) C (mX4_emit l D a hc46 H.size) lk_V_4_91 okN_X4_emit ⟨Nat.le_of_ble_eq_true rfl, Nat.le_of_ble_eq_true rfl⟩ ⟨rfl, rfl⟩ (preV (preM hK (P_of_map (wc := rc4 a q_t Q_t z42) hP [0, 1, 2, 3, 4] rfl) (hD.sub (ws' := rc4 a q_t Q_t z42) [0, 1, 2, 3, 4] (by decide) rfl)) (recvOf hK hP 0 rfl (ci := 4) rfl)) hl.1 rfl (Nat.le_of_ble_eq_true rfl) dX4_readSum_133 ⟨Nat.le_of_ble_eq_true rfl, Nat.le_of_ble_eq_true rfl⟩) hP hD hS hA [0, 1, 2, 3, 4] [5, 6, 7, 8] [4, 5, 6, 7, 8, 0, 1, 2, 3] rfl rfl (by decide) (by decide) (fw := rc4 a q_t Q_t z47 ++ (rc6 a (Q_t 0) Q_t_0 z43)) rfl (by decide) (fun H locs hP hD hS => ?_)
      have hP : va_P D classes (rc4 a q_t Q_t z47 ++ (rc6 a (Q_t 0) Q_t_0 z43)) H := hP
      have hD : va_D A (rc4 a q_t Q_t z47 ++ (rc6 a (Q_t 0) Q_t_0 z43)) := hD
      exact rMv C rfl h (g := fun y => rc4 a q_t Q_t y.1 ++ (rc6 a (Q_t 0) Q_t_0 y.2)) hP hD hS dX4_readSum_136
  · intro z48 z49 i50 H locs ls h hP hD hS hl
    refine lv_iload_n hx hb dX4_readSum_126 rfl (lv_at hl 1 rfl) ?_
    refine lv_if_eq (tgt := 136) hx hb dX4_readSum_127 (by decide) (fun c51 => ?_) (fun c51 => ?_)
    · have h := ite_t c51 h
      exact rMv C rfl h (g := fun y => rc4 a q_t Q_t y.1 ++ (rc6 a (Q_t 0) Q_t_0 y.2)) hP hD hS dX4_readSum_136
    · have h := ite_f c51 h
      refine lv_aload_n hx hb dX4_readSum_130 rfl (lv_at hl 0 rfl) ?_
      refine lv_iload_n hx hb dX4_readSum_131 rfl (lv_at hl 1 rfl) ?_
      refine lv_ineg hx hb dX4_readSum_132 ?_
      obtain ⟨z53, hc52, h⟩ := bd_some h
      refine cMv (runV (As := [.int (-i50)]) (rest := []) C (mX4_emit l D a hc52 H.size) lk_V_4_91 okN_X4_emit ⟨Nat.le_of_ble_eq_true rfl, Nat.le_of_ble_eq_true rfl⟩ ⟨rfl, rfl⟩ (preV (preM hK (P_of_map (wc := rc4 a q_t Q_t z48) hP [0, 1, 2, 3, 4] rfl) (hD.sub (ws' := rc4 a q_t Q_t z48) [0, 1, 2, 3, 4] (by decide) rfl)) (recvOf hK hP 0 rfl (ci := 4) rfl)) hl.1 rfl (Nat.le_of_ble_eq_true rfl) dX4_readSum_133 ⟨Nat.le_of_ble_eq_true rfl, Nat.le_of_ble_eq_true rfl⟩) hP hD hS hA [0, 1, 2, 3, 4] [5, 6, 7, 8] [4, 5, 6, 7, 8, 0, 1, 2, 3] rfl rfl (by decide) (by decide) (fw := rc4 a q_t Q_t z53 ++ (rc6 a (Q_t 0) Q_t_0 z49)) rfl (by decide) (fun H locs hP hD hS => ?_)
      have hP : va_P D classes (rc4 a q_t Q_t z53 ++ (rc6 a (Q_t 0) Q_t_0 z49)) H := hP
      have hD : va_D A (rc4 a q_t Q_t z53 ++ (rc6 a (Q_t 0) Q_t_0 z49)) := hD
      exact rMv C rfl h (g := fun y => rc4 a q_t Q_t y.1 ++ (rc6 a (Q_t 0) Q_t_0 y.2)) hP hD hS dX4_readSum_136

def fX4_readComparison (z_t : Sx) (z_t_0 : Sx) : Option (Sx × Sx) := bd2 (fX4_readSum z_t z_t_0) (fun z2 z3 => if (gI z3 8) = 0 then jn (fun (z6 : Sx) (z7 : Sx) => if (gI z6 3) < 60 then bd (fX6_step z7) (fun z10 => bd2 (fX4_readSum (sI z6 3 ((gI z6 3) + 1)) z10) (fun z12 z13 => bd (fX4_emit z12 (-(gI z3 5))) (fun z15 => some (z15, z13)))) else bd (fX6_fail z7 3) (fun z17 => some (z6, z17))) (fun J5 => if (gI z3 5) = 60 then J5 z2 z3 else if (gI z3 5) = 256 then J5 z2 z3 else if (gI z3 5) = 61 then J5 z2 z3 else if (gI z3 5) = 257 then J5 z2 z3 else if (gI z3 5) = 62 then J5 z2 z3 else bd (fX6_fail z3 0) (fun z24 => some (z2, z24))) else some (z2, z3))

set_option maxHeartbeats 4000000 in
set_option maxRecDepth 100000 in
theorem mX4_readComparison (l : Launch) (D : va_G) (a : Nat → ClassId) {q_t : Nat} {Q_t : Nat → Nat} {z_t : Sx} {Q_t_0 : Nat → Nat} {z_t_0 : Sx} {y : Sx × Sx} (h : fX4_readComparison z_t z_t_0 = some y) (sz : Nat) : CMv (S := Unit) l MX4_readComparison 3 67 0 0 D a [.ref q_t] (rc4 a q_t Q_t z_t ++ (rc6 a (Q_t 0) Q_t_0 z_t_0)) sz (fun _ => True) (fun _ => rc4 a q_t Q_t y.1 ++ (rc6 a (Q_t 0) Q_t_0 y.2)) := by
  unfold fX4_readComparison at h
  refine entMv (by decide) (Nat.le_of_ble_eq_true rfl) ?_
  intro p e s m below meth c C hK A hA hP hD ls hl
  obtain ⟨hx, hb, hml, hown, hts, hr, hlocks, hnm⟩ := id C
  have hb : c.code = cX4_readComparison := hb
  have hown : s.vm.findClass RX4 = some m.cls := hown
  have hS : va_S A s.heap s.heap [] := va_S.rf
  have hl : lv_has ls 2 [(0, .ref q_t)] := hl
  refine lv_aload_n hx hb dX4_readComparison_0 rfl (lv_at hl 0 rfl) ?_
  obtain ⟨z2, z3, hc1, h⟩ := bd2_some h
  refine cWv (runV (As := []) (rest := []) C (mX4_readSum l D a hc1 s.heap.size) lk_V_4_79 okN_X4_readSum ⟨Nat.le_of_ble_eq_true rfl, Nat.le_of_ble_eq_true rfl⟩ ⟨rfl, rfl⟩ (preV (preM hK hP hD) (recvOf hK hP 0 rfl (ci := 4) rfl)) hl.1 rfl (Nat.le_of_ble_eq_true rfl) dX4_readComparison_1 ⟨Nat.le_of_ble_eq_true rfl, Nat.le_of_ble_eq_true rfl⟩) hP hD hS hA (fun H locs hP hD hS => ?_)
  have hP : va_P D classes (rc4 a q_t Q_t z2 ++ (rc6 a (Q_t 0) Q_t_0 z3)) H := hP
  have hD : va_D A (rc4 a q_t Q_t z2 ++ (rc6 a (Q_t 0) Q_t_0 z3)) := hD
  refine lv_aload_n hx hb dX4_readComparison_4 rfl (lv_at hl 0 rfl) ?_
  refine va_get (D := D) (v := .ref (Q_t 0)) (C := RX4) (T := TX4) (N := 8) hx hb hts iX4 hown hK.1 hP 0 rfl rfl 0 (by decide) (hts _ t_242) (fun _ h9 => h9) rfl dX4_readComparison_5 ?_
  refine va_get (D := D) (v := .int (gI z3 8)) (C := RX6) (T := TX6) (N := 9) hx hb hts iX6 hown hK.1 hP 5 rfl rfl 8 (by decide) (hts _ t_220) (fun _ h9 => h9) rfl dX4_readComparison_8 ?_
  refine lv_if_eq (tgt := 15) hx hb dX4_readComparison_11 (by decide) (fun c4 => ?_) (fun c4 => ?_)
  · have h := ite_t c4 h
    refine lv_aload_n hx hb dX4_readComparison_15 rfl (lv_at hl 0 rfl) ?_
    refine va_get (D := D) (v := .ref (Q_t 0)) (C := RX4) (T := TX4) (N := 8) hx hb hts iX4 hown hK.1 hP 0 rfl rfl 0 (by decide) (hts _ t_242) (fun _ h9 => h9) rfl dX4_readComparison_16 ?_
    refine va_get (D := D) (v := .int (gI z3 5)) (C := RX6) (T := TX6) (N := 9) hx hb hts iX6 hown hK.1 hP 5 rfl rfl 5 (by decide) (hts _ t_214) (fun _ h9 => h9) rfl dX4_readComparison_19 ?_
    refine lv_istore_n (lv' := [(1, .int (gI z3 5)), (0, .ref q_t)]) hx hb dX4_readComparison_22 rfl hl (by decide) rfl (fun ls hl => ?_)
    refine lv_iload_n hx hb dX4_readComparison_23 rfl (lv_at hl 0 rfl) ?_
    refine lv_bipush (v := 60) hx hb dX4_readComparison_24 (by decide) ?_
    obtain ⟨J5, eJ5, h⟩ := jn_some h
    have hJ5 : ∀ (z6 : Sx) (z7 : Sx) (H : Heap) (locs : List Loc) (ls : Array Slot), J5 z6 z7 = some y → va_P D classes (rc4 a q_t Q_t z6 ++ (rc6 a (Q_t 0) Q_t_0 z7)) H → va_D A (rc4 a q_t Q_t z6 ++ (rc6 a (Q_t 0) Q_t_0 z7)) → va_S A s.heap H locs → lv_has ls 2 [(0, .ref q_t), (1, .int (gI z3 5))] → W p l e (rmM 3 0 0 67) s m #[.ref q_t] below meth c H locs 0 0 (MQ below (va_Qv (fun (_ : Unit) => True) (Bw D A (fun _ => rc4 a q_t Q_t y.1 ++ (rc6 a (Q_t 0) Q_t_0 y.2))) A) #[.ref q_t] s 0 0 A) (F0 m 64 ls []) := by
      intro z6 z7 H locs ls h hP hD hS hl
      rw [eJ5] at h
      refine lv_aload_n hx hb dX4_readComparison_64 rfl (lv_at hl 0 rfl) ?_
      refine va_get (D := D) (v := .int (gI z6 3)) (C := RX4) (T := TX4) (N := 8) hx hb hts iX4 hown hK.1 hP 0 rfl rfl 3 (by decide) (hts _ t_246) (fun _ h9 => h9) rfl dX4_readComparison_65 ?_
      refine lv_bipush (v := 60) hx hb dX4_readComparison_68 (by decide) ?_
      refine lv_icmp_lt (tgt := 82) hx hb dX4_readComparison_70 (by decide) (fun c8 => ?_) (fun c8 => ?_)
      · have h := ite_t c8 h
        refine lv_aload_n hx hb dX4_readComparison_82 rfl (lv_at hl 0 rfl) ?_
        refine lv_dup hx hb dX4_readComparison_83 rfl ?_
        refine va_get (D := D) (v := .int (gI z6 3)) (C := RX4) (T := TX4) (N := 8) hx hb hts iX4 hown hK.1 hP 0 rfl rfl 3 (by decide) (hts _ t_246) (fun _ h9 => h9) rfl dX4_readComparison_84 ?_
        refine lv_iconst (v := 1) hx hb dX4_readComparison_87 (by decide) ?_
        refine lv_iadd hx hb dX4_readComparison_88 ?_
        refine va_put (D := D) (v := .int ((gI z6 3) + 1)) (C := RX4) (T := TX4) (N := 8) hx hb hts iX4 tyX4 tyX4_ok nmX4 hown hK.1 hP hD hS 0 rfl rfl 3 (by decide) (hts _ t_246) (fun _ h9 => h9) rfl (tyX4_ok 3 (by decide)) rfl rfl (Nat.le_of_ble_eq_true rfl) dX4_readComparison_89 (fun H locs hP hD hS => ?_)
        have hP : va_P D classes (rc4 a q_t Q_t (sI z6 3 ((gI z6 3) + 1)) ++ (rc6 a (Q_t 0) Q_t_0 z7)) H := hP
        have hD : va_D A (rc4 a q_t Q_t (sI z6 3 ((gI z6 3) + 1)) ++ (rc6 a (Q_t 0) Q_t_0 z7)) := hD
        refine lv_aload_n hx hb dX4_readComparison_92 rfl (lv_at hl 0 rfl) ?_
        refine va_get (D := D) (v := .ref (Q_t 0)) (C := RX4) (T := TX4) (N := 8) hx hb hts iX4 hown hK.1 hP 0 rfl rfl 0 (by decide) (hts _ t_242) (fun _ h9 => h9) rfl dX4_readComparison_93 ?_
        obtain ⟨z10, hc9, h⟩ := bd_some h
        refine cMv (runV (As := []) (rest := []) C (mX6_step l D a hc9 H.size) lk_V_4_72 okN_X6_step ⟨Nat.le_of_ble_eq_true rfl, Nat.le_of_ble_eq_true rfl⟩ ⟨rfl, rfl⟩ (preV (preM hK (P_of_map (wc := rc6 a (Q_t 0) Q_t_0 z7) hP [5, 6, 7, 8] rfl) (hD.sub (ws' := rc6 a (Q_t 0) Q_t_0 z7) [5, 6, 7, 8] (by decide) rfl)) (recvOf hK hP 5 rfl (ci := 6) rfl)) hl.1 rfl (Nat.le_of_ble_eq_true rfl) dX4_readComparison_96 ⟨Nat.le_of_ble_eq_true rfl, Nat.le_of_ble_eq_true rfl⟩) hP hD hS hA [5, 6, 7, 8] [0, 1, 2, 3, 4] [0, 1, 2, 3, 4, 5, 6, 7, 8] rfl rfl (by decide) (by decide) (fw := rc4 a q_t Q_t (sI z6 3 ((gI z6 3) + 1)) ++ (rc6 a (Q_t 0) Q_t_0 z10)) rfl (by decide) (fun H locs hP hD hS => ?_)
        have hP : va_P D classes (rc4 a q_t Q_t (sI z6 3 ((gI z6 3) + 1)) ++ (rc6 a (Q_t 0) Q_t_0 z10)) H := hP
        have hD : va_D A (rc4 a q_t Q_t (sI z6 3 ((gI z6 3) + 1)) ++ (rc6 a (Q_t 0) Q_t_0 z10)) := hD
        refine lv_aload_n hx hb dX4_readComparison_99 rfl (lv_at hl 0 rfl) ?_
        obtain ⟨z12, z13, hc11, h⟩ := bd2_some h
        refine cWv (runV (As := []) (rest := []) C (mX4_readSum l D a hc11 H.size) lk_V_4_79 okN_X4_readSum ⟨Nat.le_of_ble_eq_true rfl, Nat.le_of_ble_eq_true rfl⟩ ⟨rfl, rfl⟩ (preV (preM hK hP hD) (recvOf hK hP 0 rfl (ci := 4) rfl)) hl.1 rfl (Nat.le_of_ble_eq_true rfl) dX4_readComparison_100 ⟨Nat.le_of_ble_eq_true rfl, Nat.le_of_ble_eq_true rfl⟩) hP hD hS hA (fun H locs hP hD hS => ?_)
        have hP : va_P D classes (rc4 a q_t Q_t z12 ++ (rc6 a (Q_t 0) Q_t_0 z13)) H := hP
        have hD : va_D A (rc4 a q_t Q_t z12 ++ (rc6 a (Q_t 0) Q_t_0 z13)) := hD
        refine lv_aload_n hx hb dX4_readComparison_103 rfl (lv_at hl 0 rfl) ?_
        refine lv_iload_n hx hb dX4_readComparison_104 rfl (lv_at hl 1 rfl) ?_
        refine lv_ineg hx hb dX4_readComparison_105 ?_
        obtain ⟨z15, hc14, h⟩ := bd_some h
        refine cMv (runV (As := [.int (-(gI z3 5))]) (rest := []) C (mX4_emit l D a hc14 H.size) lk_V_4_91 okN_X4_emit ⟨Nat.le_of_ble_eq_true rfl, Nat.le_of_ble_eq_true rfl⟩ ⟨rfl, rfl⟩ (preV (preM hK (P_of_map (wc := rc4 a q_t Q_t z12) hP [0, 1, 2, 3, 4] rfl) (hD.sub (ws' := rc4 a q_t Q_t z12) [0, 1, 2, 3, 4] (by decide) rfl)) (recvOf hK hP 0 rfl (ci := 4) rfl)) hl.1 rfl (Nat.le_of_ble_eq_true rfl) dX4_readComparison_106 ⟨Nat.le_of_ble_eq_true rfl, Nat.le_of_ble_eq_true rfl⟩) hP hD hS hA [0, 1, 2, 3, 4] [5, 6, 7, 8] [4, 5, 6, 7, 8, 0, 1, 2, 3] rfl rfl (by decide) (by decide) (fw := rc4 a q_t Q_t z15 ++ (rc6 a (Q_t 0) Q_t_0 z13)) rfl (by decide) (fun H locs hP hD hS => ?_)
        have hP : va_P D classes (rc4 a q_t Q_t z15 ++ (rc6 a (Q_t 0) Q_t_0 z13)) H := hP
        have hD : va_D A (rc4 a q_t Q_t z15 ++ (rc6 a (Q_t 0) Q_t_0 z13)) := hD
        exact rMv C rfl h (g := fun y => rc4 a q_t Q_t y.1 ++ (rc6 a (Q_t 0) Q_t_0 y.2)) hP hD hS dX4_readComparison_109
      · have h := ite_f c8 h
        refine lv_aload_n hx hb dX4_readComparison_73 rfl (lv_at hl 0 rfl) ?_
        refine va_get (D := D) (v := .ref (Q_t 0)) (C := RX4) (T := TX4) (N := 8) hx hb hts iX4 hown hK.1 hP 0 rfl rfl 0 (by decide) (hts _ t_242) (fun _ h9 => h9) rfl dX4_readComparison_74 ?_
        refine lv_iconst (v := 3) hx hb dX4_readComparison_77 (by decide) ?_
        obtain ⟨z17, hc16, h⟩ := bd_some h
        refine cMv (runV (As := [.int 3]) (rest := []) C (mX6_fail l D a hc16 H.size) lk_V_4_68 okN_X6_fail ⟨Nat.le_of_ble_eq_true rfl, Nat.le_of_ble_eq_true rfl⟩ ⟨rfl, rfl⟩ (preV (preM hK (P_of_map (wc := rc6 a (Q_t 0) Q_t_0 z7) hP [5, 6, 7, 8] rfl) (hD.sub (ws' := rc6 a (Q_t 0) Q_t_0 z7) [5, 6, 7, 8] (by decide) rfl)) (recvOf hK hP 5 rfl (ci := 6) rfl)) hl.1 rfl (Nat.le_of_ble_eq_true rfl) dX4_readComparison_78 ⟨Nat.le_of_ble_eq_true rfl, Nat.le_of_ble_eq_true rfl⟩) hP hD hS hA [5, 6, 7, 8] [0, 1, 2, 3, 4] [0, 1, 2, 3, 4, 5, 6, 7, 8] rfl rfl (by decide) (by decide) (fw := rc4 a q_t Q_t z6 ++ (rc6 a (Q_t 0) Q_t_0 z17)) rfl (by decide) (fun H locs hP hD hS => ?_)
        have hP : va_P D classes (rc4 a q_t Q_t z6 ++ (rc6 a (Q_t 0) Q_t_0 z17)) H := hP
        have hD : va_D A (rc4 a q_t Q_t z6 ++ (rc6 a (Q_t 0) Q_t_0 z17)) := hD
        exact rMv C rfl h (g := fun y => rc4 a q_t Q_t y.1 ++ (rc6 a (Q_t 0) Q_t_0 y.2)) hP hD hS dX4_readComparison_81
    refine lv_icmp_eq (tgt := 64) hx hb dX4_readComparison_26 (by decide) (fun c18 => ?_) (fun c18 => ?_)
    · have h := ite_t c18 h
      exact hJ5 z2 z3 _ _ ls h hP hD hS (lv_sub hl [1, 0] rfl)
    · have h := ite_f c18 h
      refine lv_iload_n hx hb dX4_readComparison_29 rfl (lv_at hl 0 rfl) ?_
      refine lv_sipush (v := 256) hx hb dX4_readComparison_30 (by decide) ?_
      refine lv_icmp_eq (tgt := 64) hx hb dX4_readComparison_33 (by decide) (fun c19 => ?_) (fun c19 => ?_)
      · have h := ite_t c19 h
        exact hJ5 z2 z3 _ _ ls h hP hD hS (lv_sub hl [1, 0] rfl)
      · have h := ite_f c19 h
        refine lv_iload_n hx hb dX4_readComparison_36 rfl (lv_at hl 0 rfl) ?_
        refine lv_bipush (v := 61) hx hb dX4_readComparison_37 (by decide) ?_
        refine lv_icmp_eq (tgt := 64) hx hb dX4_readComparison_39 (by decide) (fun c20 => ?_) (fun c20 => ?_)
        · have h := ite_t c20 h
          exact hJ5 z2 z3 _ _ ls h hP hD hS (lv_sub hl [1, 0] rfl)
        · have h := ite_f c20 h
          refine lv_iload_n hx hb dX4_readComparison_42 rfl (lv_at hl 0 rfl) ?_
          refine lv_sipush (v := 257) hx hb dX4_readComparison_43 (by decide) ?_
          refine lv_icmp_eq (tgt := 64) hx hb dX4_readComparison_46 (by decide) (fun c21 => ?_) (fun c21 => ?_)
          · have h := ite_t c21 h
            exact hJ5 z2 z3 _ _ ls h hP hD hS (lv_sub hl [1, 0] rfl)
          · have h := ite_f c21 h
            refine lv_iload_n hx hb dX4_readComparison_49 rfl (lv_at hl 0 rfl) ?_
            refine lv_bipush (v := 62) hx hb dX4_readComparison_50 (by decide) ?_
            refine lv_icmp_eq (tgt := 64) hx hb dX4_readComparison_52 (by decide) (fun c22 => ?_) (fun c22 => ?_)
            · have h := ite_t c22 h
              exact hJ5 z2 z3 _ _ ls h hP hD hS (lv_sub hl [1, 0] rfl)
            · have h := ite_f c22 h
              refine lv_aload_n hx hb dX4_readComparison_55 rfl (lv_at hl 1 rfl) ?_
              refine va_get (D := D) (v := .ref (Q_t 0)) (C := RX4) (T := TX4) (N := 8) hx hb hts iX4 hown hK.1 hP 0 rfl rfl 0 (by decide) (hts _ t_242) (fun _ h9 => h9) rfl dX4_readComparison_56 ?_
              refine lv_iconst (v := 0) hx hb dX4_readComparison_59 (by decide) ?_
              obtain ⟨z24, hc23, h⟩ := bd_some h
              refine cMv (runV (As := [.int 0]) (rest := []) C (mX6_fail l D a hc23 H.size) lk_V_4_68 okN_X6_fail ⟨Nat.le_of_ble_eq_true rfl, Nat.le_of_ble_eq_true rfl⟩ ⟨rfl, rfl⟩ (preV (preM hK (P_of_map (wc := rc6 a (Q_t 0) Q_t_0 z3) hP [5, 6, 7, 8] rfl) (hD.sub (ws' := rc6 a (Q_t 0) Q_t_0 z3) [5, 6, 7, 8] (by decide) rfl)) (recvOf hK hP 5 rfl (ci := 6) rfl)) hl.1 rfl (Nat.le_of_ble_eq_true rfl) dX4_readComparison_60 ⟨Nat.le_of_ble_eq_true rfl, Nat.le_of_ble_eq_true rfl⟩) hP hD hS hA [5, 6, 7, 8] [0, 1, 2, 3, 4] [0, 1, 2, 3, 4, 5, 6, 7, 8] rfl rfl (by decide) (by decide) (fw := rc4 a q_t Q_t z2 ++ (rc6 a (Q_t 0) Q_t_0 z24)) rfl (by decide) (fun H locs hP hD hS => ?_)
              have hP : va_P D classes (rc4 a q_t Q_t z2 ++ (rc6 a (Q_t 0) Q_t_0 z24)) H := hP
              have hD : va_D A (rc4 a q_t Q_t z2 ++ (rc6 a (Q_t 0) Q_t_0 z24)) := hD
              exact rMv C rfl h (g := fun y => rc4 a q_t Q_t y.1 ++ (rc6 a (Q_t 0) Q_t_0 y.2)) hP hD hS dX4_readComparison_63
  · have h := ite_f c4 h
    exact rMv C rfl h (g := fun y => rc4 a q_t Q_t y.1 ++ (rc6 a (Q_t 0) Q_t_0 y.2)) hP hD hS dX4_readComparison_14

def gX4_readFact (rec : Sx → Sx → Int32 → Option (Sx × Sx)) (z_t : Sx) (z_t_0 : Sx) (x1 : Int32) : Option (Sx × Sx) := jn (fun (i2 : Int32) => jn (fun (z4 : Sx) (z5 : Sx) => if x1 < 10 then bd (fX6_step z5) (fun z8 => if i2 = 0 then bd2 (fX4_readTest rec z4 z8 (x1 + 1)) (fun z11 z12 => jn (fun (z14 : Sx) (z15 : Sx) => bd (fX6_step z15) (fun z17 => some (z14, z17))) (fun J13 => if (gI z12 8) = 0 then if (gI z12 5) = 93 then J13 z11 z12 else bd (fX6_fail z12 0) (fun z21 => some (z11, z21)) else J13 z11 z12)) else bd2 (rec z4 z8 (x1 + 1)) (fun z23 z24 => bd (fX4_emit z23 (-311)) (fun z26 => some (z26, z24)))) else bd (fX6_fail z5 2) (fun z28 => some (z4, z28))) (fun J3 => if i2 = 0 then if (gI z_t_0 5) = 91 then J3 z_t z_t_0 else bd2 (fX4_readComparison z_t z_t_0) (fun z32 z33 => some (z32, z33)) else J3 z_t z_t_0)) (fun J1 => if (gI z_t_0 5) = 311 then J1 1 else J1 0)
def fX4_readFact : Nat → Sx → Sx → Int32 → Option (Sx × Sx)
  | 0 => fun _ _ _ => none
  | dp + 1 => gX4_readFact (fX4_readFact dp)

set_option maxHeartbeats 4000000 in
set_option maxRecDepth 100000 in
theorem gmX4_readFact (l : Launch) (D : va_G) (a : Nat → ClassId) {F LO : Nat} {rec : Sx → Sx → Int32 → Option (Sx × Sx)} (hrec : ∀ {q_t : Nat} {Q_t : Nat → Nat} {z_t : Sx} {Q_t_0 : Nat → Nat} {z_t_0 : Sx} {x1 : Int32} {y9 : Sx × Sx}, rec z_t z_t_0 x1 = some y9 → ∀ (sz : Nat), CMv (S := Unit) l MX4_readFact F LO 0 0 D a [.ref q_t, .int x1] (rc4 a q_t Q_t z_t ++ (rc6 a (Q_t 0) Q_t_0 z_t_0)) sz (fun _ => True) (fun _ => rc4 a q_t Q_t y9.1 ++ (rc6 a (Q_t 0) Q_t_0 y9.2))) (hF : 4 ≤ F) (hL : 88 ≤ LO) {q_t : Nat} {Q_t : Nat → Nat} {z_t : Sx} {Q_t_0 : Nat → Nat} {z_t_0 : Sx} {x1 : Int32} {y : Sx × Sx} (h : gX4_readFact rec z_t z_t_0 x1 = some y) (sz : Nat) : CMv (S := Unit) l MX4_readFact (F + 2) (LO + 46) 0 0 D a [.ref q_t, .int x1] (rc4 a q_t Q_t z_t ++ (rc6 a (Q_t 0) Q_t_0 z_t_0)) sz (fun _ => True) (fun _ => rc4 a q_t Q_t y.1 ++ (rc6 a (Q_t 0) Q_t_0 y.2)) := by
  unfold gX4_readFact at h
  refine entMv (by decide) (Nat.le_of_ble_eq_true rfl) ?_
  intro p e s m below meth c C hK A hA hP hD ls hl
  obtain ⟨hx, hb, hml, hown, hts, hr, hlocks, hnm⟩ := id C
  have hb : c.code = cX4_readFact := hb
  have hown : s.vm.findClass RX4 = some m.cls := hown
  have hS : va_S A s.heap s.heap [] := va_S.rf
  have hl : lv_has ls 3 [(0, .ref q_t), (1, .int x1)] := hl
  refine lv_aload_n hx hb dX4_readFact_0 rfl (lv_at hl 0 rfl) ?_
  refine va_get (D := D) (v := .ref (Q_t 0)) (C := RX4) (T := TX4) (N := 8) hx hb hts iX4 hown hK.1 hP 0 rfl rfl 0 (by decide) (hts _ t_242) (fun _ h9 => h9) rfl dX4_readFact_1 ?_
  refine va_get (D := D) (v := .int (gI z_t_0 5)) (C := RX6) (T := TX6) (N := 9) hx hb hts iX6 hown hK.1 hP 5 rfl rfl 5 (by decide) (hts _ t_214) (fun _ h9 => h9) rfl dX4_readFact_4 ?_
  refine lv_sipush (v := 311) hx hb dX4_readFact_7 (by decide) ?_
  obtain ⟨J1, eJ1, h⟩ := jn_some h
  have hJ1 : ∀ (i2 : Int32) (H : Heap) (locs : List Loc) (ls : Array Slot), J1 i2 = some y → va_P D classes (rc4 a q_t Q_t z_t ++ (rc6 a (Q_t 0) Q_t_0 z_t_0)) H → va_D A (rc4 a q_t Q_t z_t ++ (rc6 a (Q_t 0) Q_t_0 z_t_0)) → va_S A s.heap H locs → lv_has ls 3 [(0, .ref q_t), (1, .int x1)] → W p l e (rmM (F + 2) 0 0 (LO + 46)) s m #[.ref q_t, .int x1] below meth c H locs 0 0 (MQ below (va_Qv (fun (_ : Unit) => True) (Bw D A (fun _ => rc4 a q_t Q_t y.1 ++ (rc6 a (Q_t 0) Q_t_0 y.2))) A) #[.ref q_t, .int x1] s 0 0 A) (F0 m 18 ls [.int i2]) := by
    intro i2 H locs ls h hP hD hS hl
    rw [eJ1] at h
    refine lv_istore_n (lv' := [(2, .int i2), (0, .ref q_t), (1, .int x1)]) hx hb dX4_readFact_18 rfl hl (by decide) rfl (fun ls hl => ?_)
    refine lv_iload_n hx hb dX4_readFact_19 rfl (lv_at hl 0 rfl) ?_
    obtain ⟨J3, eJ3, h⟩ := jn_some h
    have hJ3 : ∀ (z4 : Sx) (z5 : Sx) (H : Heap) (locs : List Loc) (ls : Array Slot), J3 z4 z5 = some y → va_P D classes (rc4 a q_t Q_t z4 ++ (rc6 a (Q_t 0) Q_t_0 z5)) H → va_D A (rc4 a q_t Q_t z4 ++ (rc6 a (Q_t 0) Q_t_0 z5)) → va_S A s.heap H locs → lv_has ls 3 [(0, .ref q_t), (1, .int x1), (2, .int i2)] → W p l e (rmM (F + 2) 0 0 (LO + 46)) s m #[.ref q_t, .int x1] below meth c H locs 0 0 (MQ below (va_Qv (fun (_ : Unit) => True) (Bw D A (fun _ => rc4 a q_t Q_t y.1 ++ (rc6 a (Q_t 0) Q_t_0 y.2))) A) #[.ref q_t, .int x1] s 0 0 A) (F0 m 40 ls []) := by
      intro z4 z5 H locs ls h hP hD hS hl
      rw [eJ3] at h
      refine lv_iload_n hx hb dX4_readFact_40 rfl (lv_at hl 1 rfl) ?_
      refine lv_bipush (v := 10) hx hb dX4_readFact_41 (by decide) ?_
      refine lv_icmp_lt (tgt := 55) hx hb dX4_readFact_43 (by decide) (fun c6 => ?_) (fun c6 => ?_)
      · have h := ite_t c6 h
        refine lv_aload_n hx hb dX4_readFact_55 rfl (lv_at hl 0 rfl) ?_
        refine va_get (D := D) (v := .ref (Q_t 0)) (C := RX4) (T := TX4) (N := 8) hx hb hts iX4 hown hK.1 hP 0 rfl rfl 0 (by decide) (hts _ t_242) (fun _ h9 => h9) rfl dX4_readFact_56 ?_
        obtain ⟨z8, hc7, h⟩ := bd_some h
        refine cMv (runV (As := []) (rest := []) C (mX6_step l D a hc7 H.size) lk_V_4_72 okN_X6_step (by constructor; (show 0 + 1 ≤ F + 2; omega); (show 8 + (1 + 11) + (0) ≤ LO + 46; omega)) ⟨rfl, rfl⟩ (preV (preM hK (P_of_map (wc := rc6 a (Q_t 0) Q_t_0 z5) hP [5, 6, 7, 8] rfl) (hD.sub (ws' := rc6 a (Q_t 0) Q_t_0 z5) [5, 6, 7, 8] (by decide) rfl)) (recvOf hK hP 5 rfl (ci := 6) rfl)) hl.1 rfl (Nat.le_of_ble_eq_true rfl) dX4_readFact_59 ⟨Nat.le_of_ble_eq_true rfl, Nat.le_of_ble_eq_true rfl⟩) hP hD hS hA [5, 6, 7, 8] [0, 1, 2, 3, 4] [0, 1, 2, 3, 4, 5, 6, 7, 8] rfl rfl (by decide) (by decide) (fw := rc4 a q_t Q_t z4 ++ (rc6 a (Q_t 0) Q_t_0 z8)) rfl (by decide) (fun H locs hP hD hS => ?_)
        have hP : va_P D classes (rc4 a q_t Q_t z4 ++ (rc6 a (Q_t 0) Q_t_0 z8)) H := hP
        have hD : va_D A (rc4 a q_t Q_t z4 ++ (rc6 a (Q_t 0) Q_t_0 z8)) := hD
        refine lv_iload_n hx hb dX4_readFact_62 rfl (lv_at hl 2 rfl) ?_
        refine lv_if_eq (tgt := 81) hx hb dX4_readFact_63 (by decide) (fun c9 => ?_) (fun c9 => ?_)
        · have h := ite_t c9 h
          refine lv_aload_n hx hb dX4_readFact_81 rfl (lv_at hl 0 rfl) ?_
          refine lv_iload_n hx hb dX4_readFact_82 rfl (lv_at hl 1 rfl) ?_
          refine lv_iconst (v := 1) hx hb dX4_readFact_83 (by decide) ?_
          refine lv_iadd hx hb dX4_readFact_84 ?_
          obtain ⟨z11, z12, hc10, h⟩ := bd2_some h
          refine cWv (runV (As := [.int (x1 + 1)]) (rest := []) C (mX4_readTest l D a hrec (Nat.le_trans (by decide) hF) (Nat.le_trans (by decide) hL) hc10 H.size) lk_V_4_85 okN_X4_readTest (by constructor; (show F + 1 + 1 ≤ F + 2; omega); (show 8 + (5 + 11) + (LO + 22) ≤ LO + 46; omega)) ⟨rfl, rfl⟩ (preV (preM hK hP hD) (recvOf hK hP 0 rfl (ci := 4) rfl)) hl.1 rfl (Nat.le_of_ble_eq_true rfl) dX4_readFact_85 ⟨Nat.le_of_ble_eq_true rfl, Nat.le_of_ble_eq_true rfl⟩) hP hD hS hA (fun H locs hP hD hS => ?_)
          have hP : va_P D classes (rc4 a q_t Q_t z11 ++ (rc6 a (Q_t 0) Q_t_0 z12)) H := hP
          have hD : va_D A (rc4 a q_t Q_t z11 ++ (rc6 a (Q_t 0) Q_t_0 z12)) := hD
          refine lv_aload_n hx hb dX4_readFact_88 rfl (lv_at hl 0 rfl) ?_
          refine va_get (D := D) (v := .ref (Q_t 0)) (C := RX4) (T := TX4) (N := 8) hx hb hts iX4 hown hK.1 hP 0 rfl rfl 0 (by decide) (hts _ t_242) (fun _ h9 => h9) rfl dX4_readFact_89 ?_
          refine va_get (D := D) (v := .int (gI z12 8)) (C := RX6) (T := TX6) (N := 9) hx hb hts iX6 hown hK.1 hP 5 rfl rfl 8 (by decide) (hts _ t_220) (fun _ h9 => h9) rfl dX4_readFact_92 ?_
          obtain ⟨J13, eJ13, h⟩ := jn_some h
          have hJ13 : ∀ (z14 : Sx) (z15 : Sx) (H : Heap) (locs : List Loc) (ls : Array Slot), J13 z14 z15 = some y → va_P D classes (rc4 a q_t Q_t z14 ++ (rc6 a (Q_t 0) Q_t_0 z15)) H → va_D A (rc4 a q_t Q_t z14 ++ (rc6 a (Q_t 0) Q_t_0 z15)) → va_S A s.heap H locs → lv_has ls 3 [(0, .ref q_t)] → W p l e (rmM (F + 2) 0 0 (LO + 46)) s m #[.ref q_t, .int x1] below meth c H locs 0 0 (MQ below (va_Qv (fun (_ : Unit) => True) (Bw D A (fun _ => rc4 a q_t Q_t y.1 ++ (rc6 a (Q_t 0) Q_t_0 y.2))) A) #[.ref q_t, .int x1] s 0 0 A) (F0 m 119 ls []) := by
            intro z14 z15 H locs ls h hP hD hS hl
            rw [eJ13] at h
            refine lv_aload_n hx hb dX4_readFact_119 rfl (lv_at hl 0 rfl) ?_
            refine va_get (D := D) (v := .ref (Q_t 0)) (C := RX4) (T := TX4) (N := 8) hx hb hts iX4 hown hK.1 hP 0 rfl rfl 0 (by decide) (hts _ t_242) (fun _ h9 => h9) rfl dX4_readFact_120 ?_
            obtain ⟨z17, hc16, h⟩ := bd_some h
            refine cMv (runV (As := []) (rest := []) C (mX6_step l D a hc16 H.size) lk_V_4_72 okN_X6_step (by constructor; (show 0 + 1 ≤ F + 2; omega); (show 8 + (1 + 11) + (0) ≤ LO + 46; omega)) ⟨rfl, rfl⟩ (preV (preM hK (P_of_map (wc := rc6 a (Q_t 0) Q_t_0 z15) hP [5, 6, 7, 8] rfl) (hD.sub (ws' := rc6 a (Q_t 0) Q_t_0 z15) [5, 6, 7, 8] (by decide) rfl)) (recvOf hK hP 5 rfl (ci := 6) rfl)) hl.1 rfl (Nat.le_of_ble_eq_true rfl) dX4_readFact_123 ⟨Nat.le_of_ble_eq_true rfl, Nat.le_of_ble_eq_true rfl⟩) hP hD hS hA [5, 6, 7, 8] [0, 1, 2, 3, 4] [0, 1, 2, 3, 4, 5, 6, 7, 8] rfl rfl (by decide) (by decide) (fw := rc4 a q_t Q_t z14 ++ (rc6 a (Q_t 0) Q_t_0 z17)) rfl (by decide) (fun H locs hP hD hS => ?_)
            have hP : va_P D classes (rc4 a q_t Q_t z14 ++ (rc6 a (Q_t 0) Q_t_0 z17)) H := hP
            have hD : va_D A (rc4 a q_t Q_t z14 ++ (rc6 a (Q_t 0) Q_t_0 z17)) := hD
            exact rMv C rfl h (g := fun y => rc4 a q_t Q_t y.1 ++ (rc6 a (Q_t 0) Q_t_0 y.2)) hP hD hS dX4_readFact_126
          refine lv_if_ne (tgt := 119) hx hb dX4_readFact_95 (by decide) (fun c18 => ?_) (fun c18 => ?_)
          · have h := ite_f c18 h
            exact hJ13 z11 z12 _ _ ls h hP hD hS (lv_sub hl [0] rfl)
          · have h := ite_t c18 h
            refine lv_aload_n hx hb dX4_readFact_98 rfl (lv_at hl 0 rfl) ?_
            refine va_get (D := D) (v := .ref (Q_t 0)) (C := RX4) (T := TX4) (N := 8) hx hb hts iX4 hown hK.1 hP 0 rfl rfl 0 (by decide) (hts _ t_242) (fun _ h9 => h9) rfl dX4_readFact_99 ?_
            refine va_get (D := D) (v := .int (gI z12 5)) (C := RX6) (T := TX6) (N := 9) hx hb hts iX6 hown hK.1 hP 5 rfl rfl 5 (by decide) (hts _ t_214) (fun _ h9 => h9) rfl dX4_readFact_102 ?_
            refine lv_bipush (v := 93) hx hb dX4_readFact_105 (by decide) ?_
            refine lv_icmp_eq (tgt := 119) hx hb dX4_readFact_107 (by decide) (fun c19 => ?_) (fun c19 => ?_)
            · have h := ite_t c19 h
              exact hJ13 z11 z12 _ _ ls h hP hD hS (lv_sub hl [0] rfl)
            · have h := ite_f c19 h
              refine lv_aload_n hx hb dX4_readFact_110 rfl (lv_at hl 0 rfl) ?_
              refine va_get (D := D) (v := .ref (Q_t 0)) (C := RX4) (T := TX4) (N := 8) hx hb hts iX4 hown hK.1 hP 0 rfl rfl 0 (by decide) (hts _ t_242) (fun _ h9 => h9) rfl dX4_readFact_111 ?_
              refine lv_iconst (v := 0) hx hb dX4_readFact_114 (by decide) ?_
              obtain ⟨z21, hc20, h⟩ := bd_some h
              refine cMv (runV (As := [.int 0]) (rest := []) C (mX6_fail l D a hc20 H.size) lk_V_4_68 okN_X6_fail (by constructor; (show 0 + 1 ≤ F + 2; omega); (show 8 + (2 + 11) + (0) ≤ LO + 46; omega)) ⟨rfl, rfl⟩ (preV (preM hK (P_of_map (wc := rc6 a (Q_t 0) Q_t_0 z12) hP [5, 6, 7, 8] rfl) (hD.sub (ws' := rc6 a (Q_t 0) Q_t_0 z12) [5, 6, 7, 8] (by decide) rfl)) (recvOf hK hP 5 rfl (ci := 6) rfl)) hl.1 rfl (Nat.le_of_ble_eq_true rfl) dX4_readFact_115 ⟨Nat.le_of_ble_eq_true rfl, Nat.le_of_ble_eq_true rfl⟩) hP hD hS hA [5, 6, 7, 8] [0, 1, 2, 3, 4] [0, 1, 2, 3, 4, 5, 6, 7, 8] rfl rfl (by decide) (by decide) (fw := rc4 a q_t Q_t z11 ++ (rc6 a (Q_t 0) Q_t_0 z21)) rfl (by decide) (fun H locs hP hD hS => ?_)
              have hP : va_P D classes (rc4 a q_t Q_t z11 ++ (rc6 a (Q_t 0) Q_t_0 z21)) H := hP
              have hD : va_D A (rc4 a q_t Q_t z11 ++ (rc6 a (Q_t 0) Q_t_0 z21)) := hD
              exact rMv C rfl h (g := fun y => rc4 a q_t Q_t y.1 ++ (rc6 a (Q_t 0) Q_t_0 y.2)) hP hD hS dX4_readFact_118
        · have h := ite_f c9 h
          refine lv_aload_n hx hb dX4_readFact_66 rfl (lv_at hl 0 rfl) ?_
          refine lv_iload_n hx hb dX4_readFact_67 rfl (lv_at hl 1 rfl) ?_
          refine lv_iconst (v := 1) hx hb dX4_readFact_68 (by decide) ?_
          refine lv_iadd hx hb dX4_readFact_69 ?_
          obtain ⟨z23, z24, hc22, h⟩ := bd2_some h
          refine cWv (runV (As := [.int (x1 + 1)]) (rest := []) C (hrec hc22 H.size) lk_V_4_88 okN_X4_readFact (by constructor; (show F + 0 + 1 ≤ F + 2; omega); (show 8 + (3 + 11) + (LO + 0) ≤ LO + 46; omega)) ⟨rfl, rfl⟩ (preV (preM hK hP hD) (recvOf hK hP 0 rfl (ci := 4) rfl)) hl.1 rfl (Nat.le_of_ble_eq_true rfl) dX4_readFact_70 ⟨Nat.le_of_ble_eq_true rfl, Nat.le_of_ble_eq_true rfl⟩) hP hD hS hA (fun H locs hP hD hS => ?_)
          have hP : va_P D classes (rc4 a q_t Q_t z23 ++ (rc6 a (Q_t 0) Q_t_0 z24)) H := hP
          have hD : va_D A (rc4 a q_t Q_t z23 ++ (rc6 a (Q_t 0) Q_t_0 z24)) := hD
          refine lv_aload_n hx hb dX4_readFact_73 rfl (lv_at hl 0 rfl) ?_
          refine lv_sipush (v := (-311)) hx hb dX4_readFact_74 (by decide) ?_
          obtain ⟨z26, hc25, h⟩ := bd_some h
          refine cMv (runV (As := [.int (-311)]) (rest := []) C (mX4_emit l D a hc25 H.size) lk_V_4_91 okN_X4_emit (by constructor; (show 0 + 1 ≤ F + 2; omega); (show 8 + (2 + 11) + (0) ≤ LO + 46; omega)) ⟨rfl, rfl⟩ (preV (preM hK (P_of_map (wc := rc4 a q_t Q_t z23) hP [0, 1, 2, 3, 4] rfl) (hD.sub (ws' := rc4 a q_t Q_t z23) [0, 1, 2, 3, 4] (by decide) rfl)) (recvOf hK hP 0 rfl (ci := 4) rfl)) hl.1 rfl (Nat.le_of_ble_eq_true rfl) dX4_readFact_77 ⟨Nat.le_of_ble_eq_true rfl, Nat.le_of_ble_eq_true rfl⟩) hP hD hS hA [0, 1, 2, 3, 4] [5, 6, 7, 8] [4, 5, 6, 7, 8, 0, 1, 2, 3] rfl rfl (by decide) (by decide) (fw := rc4 a q_t Q_t z26 ++ (rc6 a (Q_t 0) Q_t_0 z24)) rfl (by decide) (fun H locs hP hD hS => ?_)
          have hP : va_P D classes (rc4 a q_t Q_t z26 ++ (rc6 a (Q_t 0) Q_t_0 z24)) H := hP
          have hD : va_D A (rc4 a q_t Q_t z26 ++ (rc6 a (Q_t 0) Q_t_0 z24)) := hD
          exact rMv C rfl h (g := fun y => rc4 a q_t Q_t y.1 ++ (rc6 a (Q_t 0) Q_t_0 y.2)) hP hD hS dX4_readFact_80
      · have h := ite_f c6 h
        refine lv_aload_n hx hb dX4_readFact_46 rfl (lv_at hl 0 rfl) ?_
        refine va_get (D := D) (v := .ref (Q_t 0)) (C := RX4) (T := TX4) (N := 8) hx hb hts iX4 hown hK.1 hP 0 rfl rfl 0 (by decide) (hts _ t_242) (fun _ h9 => h9) rfl dX4_readFact_47 ?_
        refine lv_iconst (v := 2) hx hb dX4_readFact_50 (by decide) ?_
        obtain ⟨z28, hc27, h⟩ := bd_some h
        refine cMv (runV (As := [.int 2]) (rest := []) C (mX6_fail l D a hc27 H.size) lk_V_4_68 okN_X6_fail (by constructor; (show 0 + 1 ≤ F + 2; omega); (show 8 + (2 + 11) + (0) ≤ LO + 46; omega)) ⟨rfl, rfl⟩ (preV (preM hK (P_of_map (wc := rc6 a (Q_t 0) Q_t_0 z5) hP [5, 6, 7, 8] rfl) (hD.sub (ws' := rc6 a (Q_t 0) Q_t_0 z5) [5, 6, 7, 8] (by decide) rfl)) (recvOf hK hP 5 rfl (ci := 6) rfl)) hl.1 rfl (Nat.le_of_ble_eq_true rfl) dX4_readFact_51 ⟨Nat.le_of_ble_eq_true rfl, Nat.le_of_ble_eq_true rfl⟩) hP hD hS hA [5, 6, 7, 8] [0, 1, 2, 3, 4] [0, 1, 2, 3, 4, 5, 6, 7, 8] rfl rfl (by decide) (by decide) (fw := rc4 a q_t Q_t z4 ++ (rc6 a (Q_t 0) Q_t_0 z28)) rfl (by decide) (fun H locs hP hD hS => ?_)
        have hP : va_P D classes (rc4 a q_t Q_t z4 ++ (rc6 a (Q_t 0) Q_t_0 z28)) H := hP
        have hD : va_D A (rc4 a q_t Q_t z4 ++ (rc6 a (Q_t 0) Q_t_0 z28)) := hD
        exact rMv C rfl h (g := fun y => rc4 a q_t Q_t y.1 ++ (rc6 a (Q_t 0) Q_t_0 y.2)) hP hD hS dX4_readFact_54
    refine lv_if_ne (tgt := 40) hx hb dX4_readFact_20 (by decide) (fun c29 => ?_) (fun c29 => ?_)
    · have h := ite_f c29 h
      exact hJ3 z_t z_t_0 _ _ ls h hP hD hS (lv_sub hl [1, 2, 0] rfl)
    · have h := ite_t c29 h
      refine lv_aload_n hx hb dX4_readFact_23 rfl (lv_at hl 1 rfl) ?_
      refine va_get (D := D) (v := .ref (Q_t 0)) (C := RX4) (T := TX4) (N := 8) hx hb hts iX4 hown hK.1 hP 0 rfl rfl 0 (by decide) (hts _ t_242) (fun _ h9 => h9) rfl dX4_readFact_24 ?_
      refine va_get (D := D) (v := .int (gI z_t_0 5)) (C := RX6) (T := TX6) (N := 9) hx hb hts iX6 hown hK.1 hP 5 rfl rfl 5 (by decide) (hts _ t_214) (fun _ h9 => h9) rfl dX4_readFact_27 ?_
      refine lv_bipush (v := 91) hx hb dX4_readFact_30 (by decide) ?_
      refine lv_icmp_eq (tgt := 40) hx hb dX4_readFact_32 (by decide) (fun c30 => ?_) (fun c30 => ?_)
      · have h := ite_t c30 h
        exact hJ3 z_t z_t_0 _ _ ls h hP hD hS (lv_sub hl [1, 2, 0] rfl)
      · have h := ite_f c30 h
        refine lv_aload_n hx hb dX4_readFact_35 rfl (lv_at hl 1 rfl) ?_
        obtain ⟨z32, z33, hc31, h⟩ := bd2_some h
        refine cWv (runV (As := []) (rest := []) C (mX4_readComparison l D a hc31 H.size) lk_V_4_94 okN_X4_readComparison (by constructor; (show 3 + 1 ≤ F + 2; omega); (show 8 + (2 + 11) + (67) ≤ LO + 46; omega)) ⟨rfl, rfl⟩ (preV (preM hK hP hD) (recvOf hK hP 0 rfl (ci := 4) rfl)) hl.1 rfl (Nat.le_of_ble_eq_true rfl) dX4_readFact_36 ⟨Nat.le_of_ble_eq_true rfl, Nat.le_of_ble_eq_true rfl⟩) hP hD hS hA (fun H locs hP hD hS => ?_)
        have hP : va_P D classes (rc4 a q_t Q_t z32 ++ (rc6 a (Q_t 0) Q_t_0 z33)) H := hP
        have hD : va_D A (rc4 a q_t Q_t z32 ++ (rc6 a (Q_t 0) Q_t_0 z33)) := hD
        exact rMv C rfl h (g := fun y => rc4 a q_t Q_t y.1 ++ (rc6 a (Q_t 0) Q_t_0 y.2)) hP hD hS dX4_readFact_39
  refine lv_icmp_ne (tgt := 17) hx hb dX4_readFact_10 (by decide) (fun c34 => ?_) (fun c34 => ?_)
  · have h := ite_f c34 h
    refine lv_iconst (v := 0) hx hb dX4_readFact_17 (by decide) ?_
    exact hJ1 0 _ _ ls h hP hD hS (lv_sub hl [0, 1] rfl)
  · have h := ite_t c34 h
    refine lv_iconst (v := 1) hx hb dX4_readFact_13 (by decide) ?_
    refine lv_goto (tgt := 18) hx hb dX4_readFact_14 (by decide) ?_
    exact hJ1 1 _ _ ls h hP hD hS (lv_sub hl [0, 1] rfl)

set_option maxHeartbeats 4000000 in
theorem mX4_readFact (l : Launch) (D : va_G) (a : Nat → ClassId) : ∀ (dp : Nat) {q_t : Nat} {Q_t : Nat → Nat} {z_t : Sx} {Q_t_0 : Nat → Nat} {z_t_0 : Sx} {x1 : Int32} {y : Sx × Sx}, fX4_readFact dp z_t z_t_0 x1 = some y → ∀ (sz : Nat), CMv (S := Unit) l MX4_readFact (4 + 2 * dp) (88 + 46 * dp) 0 0 D a [.ref q_t, .int x1] (rc4 a q_t Q_t z_t ++ (rc6 a (Q_t 0) Q_t_0 z_t_0)) sz (fun _ => True) (fun _ => rc4 a q_t Q_t y.1 ++ (rc6 a (Q_t 0) Q_t_0 y.2)) := by
  intro dp
  induction dp with
  | zero => intros; rename_i h _; cases h
  | succ dp ih =>
    intros
    rename_i h sz
    have e1 : 4 + 2 * (dp + 1) = 4 + 2 * dp + 2 := by omega
    have e2 : 88 + 46 * (dp + 1) = 88 + 46 * dp + 46 := by omega
    rw [e1, e2]
    exact gmX4_readFact l D a ih (by omega) (by omega) h sz

def fX4_readClause (z_t : Sx) (z_t_0 : Sx) : Option (Sx × Sx) := jn (fun (z2 : Sx) (z3 : Sx) => if (gI z2 4) < 12 then bd (fX6_step z3) (fun z6 => bd (fX8_put 12 (gT z2 5) (gI z2 4) (gI z2 2)) (fun z8 => jn (fun (i10 : Int32) => jn (fun (z12 : Sx) (z13 : Sx) (i14 : Int32) => bd (fX8_put 12 (gT z12 6) (gI z12 4) (gI z12 2)) (fun z16 => jn (fun (z18 : Sx) (z19 : Sx) => bd (fX8_put 12 (gT z18 7) (gI z18 4) (gI z18 2)) (fun z21 => some (sI (sTf z18 7 z21) 4 ((gI z18 4) + 1), z19))) (fun J17 => if i14 = 0 then J17 (sTf z12 6 z16) z13 else bd2 (fX4_readTest (fX4_readFact 16) (sTf z12 6 z16) z13 0) (fun z24 z25 => J17 z24 z25)))) (fun J11 => if (gI z_t_0 5) = 306 then bd2 (fX4_readSum (sTf z2 5 z8) z6) (fun z28 z29 => if (gI z29 8) = 0 then if (gI z29 5) = 307 then bd (fX6_step z29) (fun z33 => J11 z28 z33 1) else J11 z28 z29 i10 else J11 z28 z29 i10) else J11 (sTf z2 5 z8) z6 i10)) (fun J9 => if (gI z_t_0 5) = 308 then J9 1 else J9 0))) else bd (fX6_fail z3 4) (fun z36 => some (z2, z36))) (fun J1 => if (gI z_t_0 5) = 306 then J1 z_t z_t_0 else if (gI z_t_0 5) = 308 then J1 z_t z_t_0 else bd (fX6_fail z_t_0 0) (fun z40 => some (z_t, z40)))

set_option maxHeartbeats 4000000 in
set_option maxRecDepth 100000 in
theorem mX4_readClause (l : Launch) (D : va_G) (a : Nat → ClassId) {q_t : Nat} {Q_t : Nat → Nat} {z_t : Sx} {Q_t_0 : Nat → Nat} {z_t_0 : Sx} {y : Sx × Sx} (h : fX4_readClause z_t z_t_0 = some y) (sz : Nat) : CMv (S := Unit) l MX4_readClause 38 870 0 0 D a [.ref q_t] (rc4 a q_t Q_t z_t ++ (rc6 a (Q_t 0) Q_t_0 z_t_0)) sz (fun _ => True) (fun _ => rc4 a q_t Q_t y.1 ++ (rc6 a (Q_t 0) Q_t_0 y.2)) := by
  unfold fX4_readClause at h
  refine entMv (by decide) (Nat.le_of_ble_eq_true rfl) ?_
  intro p e s m below meth c C hK A hA hP hD ls hl
  obtain ⟨hx, hb, hml, hown, hts, hr, hlocks, hnm⟩ := id C
  have hb : c.code = cX4_readClause := hb
  have hown : s.vm.findClass RX4 = some m.cls := hown
  have hS : va_S A s.heap s.heap [] := va_S.rf
  have hl : lv_has ls 3 [(0, .ref q_t)] := hl
  refine lv_aload_n hx hb dX4_readClause_0 rfl (lv_at hl 0 rfl) ?_
  refine va_get (D := D) (v := .ref (Q_t 0)) (C := RX4) (T := TX4) (N := 8) hx hb hts iX4 hown hK.1 hP 0 rfl rfl 0 (by decide) (hts _ t_242) (fun _ h9 => h9) rfl dX4_readClause_1 ?_
  refine va_get (D := D) (v := .int (gI z_t_0 5)) (C := RX6) (T := TX6) (N := 9) hx hb hts iX6 hown hK.1 hP 5 rfl rfl 5 (by decide) (hts _ t_214) (fun _ h9 => h9) rfl dX4_readClause_4 ?_
  refine lv_istore_n (lv' := [(1, .int (gI z_t_0 5)), (0, .ref q_t)]) hx hb dX4_readClause_7 rfl hl (by decide) rfl (fun ls hl => ?_)
  refine lv_iload_n hx hb dX4_readClause_8 rfl (lv_at hl 0 rfl) ?_
  refine lv_sipush (v := 306) hx hb dX4_readClause_9 (by decide) ?_
  obtain ⟨J1, eJ1, h⟩ := jn_some h
  have hJ1 : ∀ (z2 : Sx) (z3 : Sx) (H : Heap) (locs : List Loc) (ls : Array Slot), J1 z2 z3 = some y → va_P D classes (rc4 a q_t Q_t z2 ++ (rc6 a (Q_t 0) Q_t_0 z3)) H → va_D A (rc4 a q_t Q_t z2 ++ (rc6 a (Q_t 0) Q_t_0 z3)) → va_S A s.heap H locs → lv_has ls 3 [(0, .ref q_t), (1, .int (gI z_t_0 5))] → W p l e (rmM 38 0 0 870) s m #[.ref q_t] below meth c H locs 0 0 (MQ below (va_Qv (fun (_ : Unit) => True) (Bw D A (fun _ => rc4 a q_t Q_t y.1 ++ (rc6 a (Q_t 0) Q_t_0 y.2))) A) #[.ref q_t] s 0 0 A) (F0 m 31 ls []) := by
    intro z2 z3 H locs ls h hP hD hS hl
    rw [eJ1] at h
    refine lv_aload_n hx hb dX4_readClause_31 rfl (lv_at hl 0 rfl) ?_
    refine va_get (D := D) (v := .int (gI z2 4)) (C := RX4) (T := TX4) (N := 8) hx hb hts iX4 hown hK.1 hP 0 rfl rfl 4 (by decide) (hts _ t_247) (fun _ h9 => h9) rfl dX4_readClause_32 ?_
    refine lv_bipush (v := 12) hx hb dX4_readClause_35 (by decide) ?_
    refine lv_icmp_lt (tgt := 49) hx hb dX4_readClause_37 (by decide) (fun c4 => ?_) (fun c4 => ?_)
    · have h := ite_t c4 h
      refine lv_aload_n hx hb dX4_readClause_49 rfl (lv_at hl 0 rfl) ?_
      refine va_get (D := D) (v := .ref (Q_t 0)) (C := RX4) (T := TX4) (N := 8) hx hb hts iX4 hown hK.1 hP 0 rfl rfl 0 (by decide) (hts _ t_242) (fun _ h9 => h9) rfl dX4_readClause_50 ?_
      obtain ⟨z6, hc5, h⟩ := bd_some h
      refine cMv (runV (As := []) (rest := []) C (mX6_step l D a hc5 H.size) lk_V_4_72 okN_X6_step ⟨Nat.le_of_ble_eq_true rfl, Nat.le_of_ble_eq_true rfl⟩ ⟨rfl, rfl⟩ (preV (preM hK (P_of_map (wc := rc6 a (Q_t 0) Q_t_0 z3) hP [5, 6, 7, 8] rfl) (hD.sub (ws' := rc6 a (Q_t 0) Q_t_0 z3) [5, 6, 7, 8] (by decide) rfl)) (recvOf hK hP 5 rfl (ci := 6) rfl)) hl.1 rfl (Nat.le_of_ble_eq_true rfl) dX4_readClause_53 ⟨Nat.le_of_ble_eq_true rfl, Nat.le_of_ble_eq_true rfl⟩) hP hD hS hA [5, 6, 7, 8] [0, 1, 2, 3, 4] [0, 1, 2, 3, 4, 5, 6, 7, 8] rfl rfl (by decide) (by decide) (fw := rc4 a q_t Q_t z2 ++ (rc6 a (Q_t 0) Q_t_0 z6)) rfl (by decide) (fun H locs hP hD hS => ?_)
      have hP : va_P D classes (rc4 a q_t Q_t z2 ++ (rc6 a (Q_t 0) Q_t_0 z6)) H := hP
      have hD : va_D A (rc4 a q_t Q_t z2 ++ (rc6 a (Q_t 0) Q_t_0 z6)) := hD
      refine lv_aload_n hx hb dX4_readClause_56 rfl (lv_at hl 0 rfl) ?_
      refine va_get (D := D) (v := .ref (Q_t 5)) (C := RX4) (T := TX4) (N := 8) hx hb hts iX4 hown hK.1 hP 0 rfl rfl 5 (by decide) (hts _ t_248) (fun _ h9 => h9) rfl dX4_readClause_57 ?_
      refine lv_aload_n hx hb dX4_readClause_60 rfl (lv_at hl 0 rfl) ?_
      refine va_get (D := D) (v := .int (gI z2 4)) (C := RX4) (T := TX4) (N := 8) hx hb hts iX4 hown hK.1 hP 0 rfl rfl 4 (by decide) (hts _ t_247) (fun _ h9 => h9) rfl dX4_readClause_61 ?_
      refine lv_aload_n hx hb dX4_readClause_64 rfl (lv_at hl 0 rfl) ?_
      refine va_get (D := D) (v := .int (gI z2 2)) (C := RX4) (T := TX4) (N := 8) hx hb hts iX4 hown hK.1 hP 0 rfl rfl 2 (by decide) (hts _ t_245) (fun _ h9 => h9) rfl dX4_readClause_65 ?_
      obtain ⟨z8, hc7, h⟩ := bd_some h
      refine cMv (runN (As := [.ref (Q_t 5), .int (gI z2 4), .int (gI z2 2)]) (rest := []) C hK (mX8_put l D a hc7 H.size) lk_N_4_75 okN_X8_put ⟨Nat.le_of_ble_eq_true rfl, Nat.le_of_ble_eq_true rfl⟩ ⟨rfl, rfl⟩ (preM hK (P_of_map (wc := ra0 a (Q_t 5) 12 (gT z2 5)) hP [2] rfl) (hD.sub (ws' := ra0 a (Q_t 5) 12 (gT z2 5)) [2] (by decide) rfl)) hl.1 rfl (Nat.le_of_ble_eq_true rfl) dX4_readClause_68 ⟨Nat.le_of_ble_eq_true rfl, Nat.le_of_ble_eq_true rfl⟩) hP hD hS hA [2] [0, 1, 3, 4, 5, 6, 7, 8] [0, 1, 8, 2, 3, 4, 5, 6, 7] rfl rfl (by decide) (by decide) (fw := rc4 a q_t Q_t (sTf z2 5 z8) ++ (rc6 a (Q_t 0) Q_t_0 z6)) rfl (by decide) (fun H locs hP hD hS => ?_)
      have hP : va_P D classes (rc4 a q_t Q_t (sTf z2 5 z8) ++ (rc6 a (Q_t 0) Q_t_0 z6)) H := hP
      have hD : va_D A (rc4 a q_t Q_t (sTf z2 5 z8) ++ (rc6 a (Q_t 0) Q_t_0 z6)) := hD
      refine lv_iload_n hx hb dX4_readClause_71 rfl (lv_at hl 1 rfl) ?_
      refine lv_sipush (v := 308) hx hb dX4_readClause_72 (by decide) ?_
      obtain ⟨J9, eJ9, h⟩ := jn_some h
      have hJ9 : ∀ (i10 : Int32) (H : Heap) (locs : List Loc) (ls : Array Slot), J9 i10 = some y → va_P D classes (rc4 a q_t Q_t (sTf z2 5 z8) ++ (rc6 a (Q_t 0) Q_t_0 z6)) H → va_D A (rc4 a q_t Q_t (sTf z2 5 z8) ++ (rc6 a (Q_t 0) Q_t_0 z6)) → va_S A s.heap H locs → lv_has ls 3 [(0, .ref q_t), (1, .int (gI z_t_0 5))] → W p l e (rmM 38 0 0 870) s m #[.ref q_t] below meth c H locs 0 0 (MQ below (va_Qv (fun (_ : Unit) => True) (Bw D A (fun _ => rc4 a q_t Q_t y.1 ++ (rc6 a (Q_t 0) Q_t_0 y.2))) A) #[.ref q_t] s 0 0 A) (F0 m 83 ls [.int i10]) := by
        intro i10 H locs ls h hP hD hS hl
        rw [eJ9] at h
        refine lv_istore_n (lv' := [(2, .int i10), (0, .ref q_t), (1, .int (gI z_t_0 5))]) hx hb dX4_readClause_83 rfl hl (by decide) rfl (fun ls hl => ?_)
        refine lv_iload_n hx hb dX4_readClause_84 rfl (lv_at hl 2 rfl) ?_
        refine lv_sipush (v := 306) hx hb dX4_readClause_85 (by decide) ?_
        obtain ⟨J11, eJ11, h⟩ := jn_some h
        have hJ11 : ∀ (z12 : Sx) (z13 : Sx) (i14 : Int32) (H : Heap) (locs : List Loc) (ls : Array Slot), J11 z12 z13 i14 = some y → va_P D classes (rc4 a q_t Q_t z12 ++ (rc6 a (Q_t 0) Q_t_0 z13)) H → va_D A (rc4 a q_t Q_t z12 ++ (rc6 a (Q_t 0) Q_t_0 z13)) → va_S A s.heap H locs → lv_has ls 3 [(0, .ref q_t), (2, .int i14)] → W p l e (rmM 38 0 0 870) s m #[.ref q_t] below meth c H locs 0 0 (MQ below (va_Qv (fun (_ : Unit) => True) (Bw D A (fun _ => rc4 a q_t Q_t y.1 ++ (rc6 a (Q_t 0) Q_t_0 y.2))) A) #[.ref q_t] s 0 0 A) (F0 m 127 ls []) := by
          intro z12 z13 i14 H locs ls h hP hD hS hl
          rw [eJ11] at h
          refine lv_aload_n hx hb dX4_readClause_127 rfl (lv_at hl 0 rfl) ?_
          refine va_get (D := D) (v := .ref (Q_t 6)) (C := RX4) (T := TX4) (N := 8) hx hb hts iX4 hown hK.1 hP 0 rfl rfl 6 (by decide) (hts _ t_249) (fun _ h9 => h9) rfl dX4_readClause_128 ?_
          refine lv_aload_n hx hb dX4_readClause_131 rfl (lv_at hl 0 rfl) ?_
          refine va_get (D := D) (v := .int (gI z12 4)) (C := RX4) (T := TX4) (N := 8) hx hb hts iX4 hown hK.1 hP 0 rfl rfl 4 (by decide) (hts _ t_247) (fun _ h9 => h9) rfl dX4_readClause_132 ?_
          refine lv_aload_n hx hb dX4_readClause_135 rfl (lv_at hl 0 rfl) ?_
          refine va_get (D := D) (v := .int (gI z12 2)) (C := RX4) (T := TX4) (N := 8) hx hb hts iX4 hown hK.1 hP 0 rfl rfl 2 (by decide) (hts _ t_245) (fun _ h9 => h9) rfl dX4_readClause_136 ?_
          obtain ⟨z16, hc15, h⟩ := bd_some h
          refine cMv (runN (As := [.ref (Q_t 6), .int (gI z12 4), .int (gI z12 2)]) (rest := []) C hK (mX8_put l D a hc15 H.size) lk_N_4_75 okN_X8_put ⟨Nat.le_of_ble_eq_true rfl, Nat.le_of_ble_eq_true rfl⟩ ⟨rfl, rfl⟩ (preM hK (P_of_map (wc := ra0 a (Q_t 6) 12 (gT z12 6)) hP [3] rfl) (hD.sub (ws' := ra0 a (Q_t 6) 12 (gT z12 6)) [3] (by decide) rfl)) hl.1 rfl (Nat.le_of_ble_eq_true rfl) dX4_readClause_139 ⟨Nat.le_of_ble_eq_true rfl, Nat.le_of_ble_eq_true rfl⟩) hP hD hS hA [3] [0, 1, 2, 4, 5, 6, 7, 8] [0, 1, 2, 8, 3, 4, 5, 6, 7] rfl rfl (by decide) (by decide) (fw := rc4 a q_t Q_t (sTf z12 6 z16) ++ (rc6 a (Q_t 0) Q_t_0 z13)) rfl (by decide) (fun H locs hP hD hS => ?_)
          have hP : va_P D classes (rc4 a q_t Q_t (sTf z12 6 z16) ++ (rc6 a (Q_t 0) Q_t_0 z13)) H := hP
          have hD : va_D A (rc4 a q_t Q_t (sTf z12 6 z16) ++ (rc6 a (Q_t 0) Q_t_0 z13)) := hD
          refine lv_iload_n hx hb dX4_readClause_142 rfl (lv_at hl 1 rfl) ?_
          obtain ⟨J17, eJ17, h⟩ := jn_some h
          have hJ17 : ∀ (z18 : Sx) (z19 : Sx) (H : Heap) (locs : List Loc) (ls : Array Slot), J17 z18 z19 = some y → va_P D classes (rc4 a q_t Q_t z18 ++ (rc6 a (Q_t 0) Q_t_0 z19)) H → va_D A (rc4 a q_t Q_t z18 ++ (rc6 a (Q_t 0) Q_t_0 z19)) → va_S A s.heap H locs → lv_has ls 3 [(0, .ref q_t)] → W p l e (rmM 38 0 0 870) s m #[.ref q_t] below meth c H locs 0 0 (MQ below (va_Qv (fun (_ : Unit) => True) (Bw D A (fun _ => rc4 a q_t Q_t y.1 ++ (rc6 a (Q_t 0) Q_t_0 y.2))) A) #[.ref q_t] s 0 0 A) (F0 m 151 ls []) := by
            intro z18 z19 H locs ls h hP hD hS hl
            rw [eJ17] at h
            refine lv_aload_n hx hb dX4_readClause_151 rfl (lv_at hl 0 rfl) ?_
            refine va_get (D := D) (v := .ref (Q_t 7)) (C := RX4) (T := TX4) (N := 8) hx hb hts iX4 hown hK.1 hP 0 rfl rfl 7 (by decide) (hts _ t_250) (fun _ h9 => h9) rfl dX4_readClause_152 ?_
            refine lv_aload_n hx hb dX4_readClause_155 rfl (lv_at hl 0 rfl) ?_
            refine va_get (D := D) (v := .int (gI z18 4)) (C := RX4) (T := TX4) (N := 8) hx hb hts iX4 hown hK.1 hP 0 rfl rfl 4 (by decide) (hts _ t_247) (fun _ h9 => h9) rfl dX4_readClause_156 ?_
            refine lv_aload_n hx hb dX4_readClause_159 rfl (lv_at hl 0 rfl) ?_
            refine va_get (D := D) (v := .int (gI z18 2)) (C := RX4) (T := TX4) (N := 8) hx hb hts iX4 hown hK.1 hP 0 rfl rfl 2 (by decide) (hts _ t_245) (fun _ h9 => h9) rfl dX4_readClause_160 ?_
            obtain ⟨z21, hc20, h⟩ := bd_some h
            refine cMv (runN (As := [.ref (Q_t 7), .int (gI z18 4), .int (gI z18 2)]) (rest := []) C hK (mX8_put l D a hc20 H.size) lk_N_4_75 okN_X8_put ⟨Nat.le_of_ble_eq_true rfl, Nat.le_of_ble_eq_true rfl⟩ ⟨rfl, rfl⟩ (preM hK (P_of_map (wc := ra0 a (Q_t 7) 12 (gT z18 7)) hP [4] rfl) (hD.sub (ws' := ra0 a (Q_t 7) 12 (gT z18 7)) [4] (by decide) rfl)) hl.1 rfl (Nat.le_of_ble_eq_true rfl) dX4_readClause_163 ⟨Nat.le_of_ble_eq_true rfl, Nat.le_of_ble_eq_true rfl⟩) hP hD hS hA [4] [0, 1, 2, 3, 5, 6, 7, 8] [0, 1, 2, 3, 8, 4, 5, 6, 7] rfl rfl (by decide) (by decide) (fw := rc4 a q_t Q_t (sTf z18 7 z21) ++ (rc6 a (Q_t 0) Q_t_0 z19)) rfl (by decide) (fun H locs hP hD hS => ?_)
            have hP : va_P D classes (rc4 a q_t Q_t (sTf z18 7 z21) ++ (rc6 a (Q_t 0) Q_t_0 z19)) H := hP
            have hD : va_D A (rc4 a q_t Q_t (sTf z18 7 z21) ++ (rc6 a (Q_t 0) Q_t_0 z19)) := hD
            refine lv_aload_n hx hb dX4_readClause_166 rfl (lv_at hl 0 rfl) ?_
            refine lv_dup hx hb dX4_readClause_167 rfl ?_
            refine va_get (D := D) (v := .int (gI z18 4)) (C := RX4) (T := TX4) (N := 8) hx hb hts iX4 hown hK.1 hP 0 rfl rfl 4 (by decide) (hts _ t_247) (fun _ h9 => h9) rfl dX4_readClause_168 ?_
            refine lv_iconst (v := 1) hx hb dX4_readClause_171 (by decide) ?_
            refine lv_iadd hx hb dX4_readClause_172 ?_
            refine va_put (D := D) (v := .int ((gI z18 4) + 1)) (C := RX4) (T := TX4) (N := 8) hx hb hts iX4 tyX4 tyX4_ok nmX4 hown hK.1 hP hD hS 0 rfl rfl 4 (by decide) (hts _ t_247) (fun _ h9 => h9) rfl (tyX4_ok 4 (by decide)) rfl rfl (Nat.le_of_ble_eq_true rfl) dX4_readClause_173 (fun H locs hP hD hS => ?_)
            have hP : va_P D classes (rc4 a q_t Q_t (sI (sTf z18 7 z21) 4 ((gI z18 4) + 1)) ++ (rc6 a (Q_t 0) Q_t_0 z19)) H := hP
            have hD : va_D A (rc4 a q_t Q_t (sI (sTf z18 7 z21) 4 ((gI z18 4) + 1)) ++ (rc6 a (Q_t 0) Q_t_0 z19)) := hD
            exact rMv C rfl h (g := fun y => rc4 a q_t Q_t y.1 ++ (rc6 a (Q_t 0) Q_t_0 y.2)) hP hD hS dX4_readClause_176
          refine lv_if_eq (tgt := 151) hx hb dX4_readClause_143 (by decide) (fun c22 => ?_) (fun c22 => ?_)
          · have h := ite_t c22 h
            exact hJ17 (sTf z12 6 z16) z13 _ _ ls h hP hD hS (lv_sub hl [0] rfl)
          · have h := ite_f c22 h
            refine lv_aload_n hx hb dX4_readClause_146 rfl (lv_at hl 0 rfl) ?_
            refine lv_iconst (v := 0) hx hb dX4_readClause_147 (by decide) ?_
            obtain ⟨z24, z25, hc23, h⟩ := bd2_some h
            refine cWv (runV (As := [.int 0]) (rest := []) C (mX4_readTest l D a (fun h => mX4_readFact l D a 16 h) (by decide) (by decide) hc23 H.size) lk_V_4_85 okN_X4_readTest ⟨Nat.le_of_ble_eq_true rfl, Nat.le_of_ble_eq_true rfl⟩ ⟨rfl, rfl⟩ (preV (preM hK hP hD) (recvOf hK hP 0 rfl (ci := 4) rfl)) hl.1 rfl (Nat.le_of_ble_eq_true rfl) dX4_readClause_148 ⟨Nat.le_of_ble_eq_true rfl, Nat.le_of_ble_eq_true rfl⟩) hP hD hS hA (fun H locs hP hD hS => ?_)
            have hP : va_P D classes (rc4 a q_t Q_t z24 ++ (rc6 a (Q_t 0) Q_t_0 z25)) H := hP
            have hD : va_D A (rc4 a q_t Q_t z24 ++ (rc6 a (Q_t 0) Q_t_0 z25)) := hD
            exact hJ17 z24 z25 _ _ ls h hP hD hS (lv_sub hl [0] rfl)
        refine lv_icmp_ne (tgt := 127) hx hb dX4_readClause_88 (by decide) (fun c26 => ?_) (fun c26 => ?_)
        · have h := ite_f c26 h
          exact hJ11 (sTf z2 5 z8) z6 i10 _ _ ls h hP hD hS (lv_sub hl [1, 0] rfl)
        · have h := ite_t c26 h
          refine lv_aload_n hx hb dX4_readClause_91 rfl (lv_at hl 1 rfl) ?_
          obtain ⟨z28, z29, hc27, h⟩ := bd2_some h
          refine cWv (runV (As := []) (rest := []) C (mX4_readSum l D a hc27 H.size) lk_V_4_79 okN_X4_readSum ⟨Nat.le_of_ble_eq_true rfl, Nat.le_of_ble_eq_true rfl⟩ ⟨rfl, rfl⟩ (preV (preM hK hP hD) (recvOf hK hP 0 rfl (ci := 4) rfl)) hl.1 rfl (Nat.le_of_ble_eq_true rfl) dX4_readClause_92 ⟨Nat.le_of_ble_eq_true rfl, Nat.le_of_ble_eq_true rfl⟩) hP hD hS hA (fun H locs hP hD hS => ?_)
          have hP : va_P D classes (rc4 a q_t Q_t z28 ++ (rc6 a (Q_t 0) Q_t_0 z29)) H := hP
          have hD : va_D A (rc4 a q_t Q_t z28 ++ (rc6 a (Q_t 0) Q_t_0 z29)) := hD
          refine lv_aload_n hx hb dX4_readClause_95 rfl (lv_at hl 1 rfl) ?_
          refine va_get (D := D) (v := .ref (Q_t 0)) (C := RX4) (T := TX4) (N := 8) hx hb hts iX4 hown hK.1 hP 0 rfl rfl 0 (by decide) (hts _ t_242) (fun _ h9 => h9) rfl dX4_readClause_96 ?_
          refine va_get (D := D) (v := .int (gI z29 8)) (C := RX6) (T := TX6) (N := 9) hx hb hts iX6 hown hK.1 hP 5 rfl rfl 8 (by decide) (hts _ t_220) (fun _ h9 => h9) rfl dX4_readClause_99 ?_
          refine lv_if_ne (tgt := 127) hx hb dX4_readClause_102 (by decide) (fun c30 => ?_) (fun c30 => ?_)
          · have h := ite_f c30 h
            exact hJ11 z28 z29 i10 _ _ ls h hP hD hS (lv_sub hl [1, 0] rfl)
          · have h := ite_t c30 h
            refine lv_aload_n hx hb dX4_readClause_105 rfl (lv_at hl 1 rfl) ?_
            refine va_get (D := D) (v := .ref (Q_t 0)) (C := RX4) (T := TX4) (N := 8) hx hb hts iX4 hown hK.1 hP 0 rfl rfl 0 (by decide) (hts _ t_242) (fun _ h9 => h9) rfl dX4_readClause_106 ?_
            refine va_get (D := D) (v := .int (gI z29 5)) (C := RX6) (T := TX6) (N := 9) hx hb hts iX6 hown hK.1 hP 5 rfl rfl 5 (by decide) (hts _ t_214) (fun _ h9 => h9) rfl dX4_readClause_109 ?_
            refine lv_sipush (v := 307) hx hb dX4_readClause_112 (by decide) ?_
            refine lv_icmp_ne (tgt := 127) hx hb dX4_readClause_115 (by decide) (fun c31 => ?_) (fun c31 => ?_)
            · have h := ite_f c31 h
              exact hJ11 z28 z29 i10 _ _ ls h hP hD hS (lv_sub hl [1, 0] rfl)
            · have h := ite_t c31 h
              refine lv_iconst (v := 1) hx hb dX4_readClause_118 (by decide) ?_
              refine lv_istore_n (lv' := [(2, .int 1), (0, .ref q_t), (1, .int (gI z_t_0 5))]) hx hb dX4_readClause_119 rfl hl (by decide) rfl (fun ls hl => ?_)
              refine lv_aload_n hx hb dX4_readClause_120 rfl (lv_at hl 1 rfl) ?_
              refine va_get (D := D) (v := .ref (Q_t 0)) (C := RX4) (T := TX4) (N := 8) hx hb hts iX4 hown hK.1 hP 0 rfl rfl 0 (by decide) (hts _ t_242) (fun _ h9 => h9) rfl dX4_readClause_121 ?_
              obtain ⟨z33, hc32, h⟩ := bd_some h
              refine cMv (runV (As := []) (rest := []) C (mX6_step l D a hc32 H.size) lk_V_4_72 okN_X6_step ⟨Nat.le_of_ble_eq_true rfl, Nat.le_of_ble_eq_true rfl⟩ ⟨rfl, rfl⟩ (preV (preM hK (P_of_map (wc := rc6 a (Q_t 0) Q_t_0 z29) hP [5, 6, 7, 8] rfl) (hD.sub (ws' := rc6 a (Q_t 0) Q_t_0 z29) [5, 6, 7, 8] (by decide) rfl)) (recvOf hK hP 5 rfl (ci := 6) rfl)) hl.1 rfl (Nat.le_of_ble_eq_true rfl) dX4_readClause_124 ⟨Nat.le_of_ble_eq_true rfl, Nat.le_of_ble_eq_true rfl⟩) hP hD hS hA [5, 6, 7, 8] [0, 1, 2, 3, 4] [0, 1, 2, 3, 4, 5, 6, 7, 8] rfl rfl (by decide) (by decide) (fw := rc4 a q_t Q_t z28 ++ (rc6 a (Q_t 0) Q_t_0 z33)) rfl (by decide) (fun H locs hP hD hS => ?_)
              have hP : va_P D classes (rc4 a q_t Q_t z28 ++ (rc6 a (Q_t 0) Q_t_0 z33)) H := hP
              have hD : va_D A (rc4 a q_t Q_t z28 ++ (rc6 a (Q_t 0) Q_t_0 z33)) := hD
              exact hJ11 z28 z33 1 _ _ ls h hP hD hS (lv_sub hl [1, 0] rfl)
      refine lv_icmp_ne (tgt := 82) hx hb dX4_readClause_75 (by decide) (fun c34 => ?_) (fun c34 => ?_)
      · have h := ite_f c34 h
        refine lv_iconst (v := 0) hx hb dX4_readClause_82 (by decide) ?_
        exact hJ9 0 _ _ ls h hP hD hS (lv_sub hl [0, 1] rfl)
      · have h := ite_t c34 h
        refine lv_iconst (v := 1) hx hb dX4_readClause_78 (by decide) ?_
        refine lv_goto (tgt := 83) hx hb dX4_readClause_79 (by decide) ?_
        exact hJ9 1 _ _ ls h hP hD hS (lv_sub hl [0, 1] rfl)
    · have h := ite_f c4 h
      refine lv_aload_n hx hb dX4_readClause_40 rfl (lv_at hl 0 rfl) ?_
      refine va_get (D := D) (v := .ref (Q_t 0)) (C := RX4) (T := TX4) (N := 8) hx hb hts iX4 hown hK.1 hP 0 rfl rfl 0 (by decide) (hts _ t_242) (fun _ h9 => h9) rfl dX4_readClause_41 ?_
      refine lv_iconst (v := 4) hx hb dX4_readClause_44 (by decide) ?_
      obtain ⟨z36, hc35, h⟩ := bd_some h
      refine cMv (runV (As := [.int 4]) (rest := []) C (mX6_fail l D a hc35 H.size) lk_V_4_68 okN_X6_fail ⟨Nat.le_of_ble_eq_true rfl, Nat.le_of_ble_eq_true rfl⟩ ⟨rfl, rfl⟩ (preV (preM hK (P_of_map (wc := rc6 a (Q_t 0) Q_t_0 z3) hP [5, 6, 7, 8] rfl) (hD.sub (ws' := rc6 a (Q_t 0) Q_t_0 z3) [5, 6, 7, 8] (by decide) rfl)) (recvOf hK hP 5 rfl (ci := 6) rfl)) hl.1 rfl (Nat.le_of_ble_eq_true rfl) dX4_readClause_45 ⟨Nat.le_of_ble_eq_true rfl, Nat.le_of_ble_eq_true rfl⟩) hP hD hS hA [5, 6, 7, 8] [0, 1, 2, 3, 4] [0, 1, 2, 3, 4, 5, 6, 7, 8] rfl rfl (by decide) (by decide) (fw := rc4 a q_t Q_t z2 ++ (rc6 a (Q_t 0) Q_t_0 z36)) rfl (by decide) (fun H locs hP hD hS => ?_)
      have hP : va_P D classes (rc4 a q_t Q_t z2 ++ (rc6 a (Q_t 0) Q_t_0 z36)) H := hP
      have hD : va_D A (rc4 a q_t Q_t z2 ++ (rc6 a (Q_t 0) Q_t_0 z36)) := hD
      exact rMv C rfl h (g := fun y => rc4 a q_t Q_t y.1 ++ (rc6 a (Q_t 0) Q_t_0 y.2)) hP hD hS dX4_readClause_48
  refine lv_icmp_eq (tgt := 31) hx hb dX4_readClause_12 (by decide) (fun c37 => ?_) (fun c37 => ?_)
  · have h := ite_t c37 h
    exact hJ1 z_t z_t_0 _ _ ls h hP hD hS (lv_sub hl [1, 0] rfl)
  · have h := ite_f c37 h
    refine lv_iload_n hx hb dX4_readClause_15 rfl (lv_at hl 0 rfl) ?_
    refine lv_sipush (v := 308) hx hb dX4_readClause_16 (by decide) ?_
    refine lv_icmp_eq (tgt := 31) hx hb dX4_readClause_19 (by decide) (fun c38 => ?_) (fun c38 => ?_)
    · have h := ite_t c38 h
      exact hJ1 z_t z_t_0 _ _ ls h hP hD hS (lv_sub hl [1, 0] rfl)
    · have h := ite_f c38 h
      refine lv_aload_n hx hb dX4_readClause_22 rfl (lv_at hl 1 rfl) ?_
      refine va_get (D := D) (v := .ref (Q_t 0)) (C := RX4) (T := TX4) (N := 8) hx hb hts iX4 hown hK.1 hP 0 rfl rfl 0 (by decide) (hts _ t_242) (fun _ h9 => h9) rfl dX4_readClause_23 ?_
      refine lv_iconst (v := 0) hx hb dX4_readClause_26 (by decide) ?_
      obtain ⟨z40, hc39, h⟩ := bd_some h
      refine cMv (runV (As := [.int 0]) (rest := []) C (mX6_fail l D a hc39 s.heap.size) lk_V_4_68 okN_X6_fail ⟨Nat.le_of_ble_eq_true rfl, Nat.le_of_ble_eq_true rfl⟩ ⟨rfl, rfl⟩ (preV (preM hK (P_of_map (wc := rc6 a (Q_t 0) Q_t_0 z_t_0) hP [5, 6, 7, 8] rfl) (hD.sub (ws' := rc6 a (Q_t 0) Q_t_0 z_t_0) [5, 6, 7, 8] (by decide) rfl)) (recvOf hK hP 5 rfl (ci := 6) rfl)) hl.1 rfl (Nat.le_of_ble_eq_true rfl) dX4_readClause_27 ⟨Nat.le_of_ble_eq_true rfl, Nat.le_of_ble_eq_true rfl⟩) hP hD hS hA [5, 6, 7, 8] [0, 1, 2, 3, 4] [0, 1, 2, 3, 4, 5, 6, 7, 8] rfl rfl (by decide) (by decide) (fw := rc4 a q_t Q_t z_t ++ (rc6 a (Q_t 0) Q_t_0 z40)) rfl (by decide) (fun H locs hP hD hS => ?_)
      have hP : va_P D classes (rc4 a q_t Q_t z_t ++ (rc6 a (Q_t 0) Q_t_0 z40)) H := hP
      have hD : va_D A (rc4 a q_t Q_t z_t ++ (rc6 a (Q_t 0) Q_t_0 z40)) := hD
      exact rMv C rfl h (g := fun y => rc4 a q_t Q_t y.1 ++ (rc6 a (Q_t 0) Q_t_0 y.2)) hP hD hS dX4_readClause_30

def fX4_start (z_t : Sx) : Option (Sx) := some (sI (sI (sI z_t 2 0) 3 0) 4 0)

set_option maxHeartbeats 4000000 in
set_option maxRecDepth 100000 in
theorem mX4_start (l : Launch) (D : va_G) (a : Nat → ClassId) {q_t : Nat} {Q_t : Nat → Nat} {z_t : Sx} {y : Sx} (h : fX4_start z_t = some y) (sz : Nat) : CMv (S := Unit) l MX4_start 0 0 0 0 D a [.ref q_t] (rc4 a q_t Q_t z_t) sz (fun _ => True) (fun _ => rc4 a q_t Q_t y) := by
  unfold fX4_start at h
  refine entMv (by decide) (Nat.le_of_ble_eq_true rfl) ?_
  intro p e s m below meth c C hK A hA hP hD ls hl
  obtain ⟨hx, hb, hml, hown, hts, hr, hlocks, hnm⟩ := id C
  have hb : c.code = cX4_start := hb
  have hown : s.vm.findClass RX4 = some m.cls := hown
  have hS : va_S A s.heap s.heap [] := va_S.rf
  have hl : lv_has ls 1 [(0, .ref q_t)] := hl
  refine lv_aload_n hx hb dX4_start_0 rfl (lv_at hl 0 rfl) ?_
  refine lv_iconst (v := 0) hx hb dX4_start_1 (by decide) ?_
  refine va_put (D := D) (v := .int 0) (C := RX4) (T := TX4) (N := 8) hx hb hts iX4 tyX4 tyX4_ok nmX4 hown hK.1 hP hD hS 0 rfl rfl 2 (by decide) (hts _ t_245) (fun _ h9 => h9) rfl (tyX4_ok 2 (by decide)) rfl rfl (Nat.le_of_ble_eq_true rfl) dX4_start_2 (fun H locs hP hD hS => ?_)
  have hP : va_P D classes (rc4 a q_t Q_t (sI z_t 2 0)) H := hP
  have hD : va_D A (rc4 a q_t Q_t (sI z_t 2 0)) := hD
  refine lv_aload_n hx hb dX4_start_5 rfl (lv_at hl 0 rfl) ?_
  refine lv_iconst (v := 0) hx hb dX4_start_6 (by decide) ?_
  refine va_put (D := D) (v := .int 0) (C := RX4) (T := TX4) (N := 8) hx hb hts iX4 tyX4 tyX4_ok nmX4 hown hK.1 hP hD hS 0 rfl rfl 3 (by decide) (hts _ t_246) (fun _ h9 => h9) rfl (tyX4_ok 3 (by decide)) rfl rfl (Nat.le_of_ble_eq_true rfl) dX4_start_7 (fun H locs hP hD hS => ?_)
  have hP : va_P D classes (rc4 a q_t Q_t (sI (sI z_t 2 0) 3 0)) H := hP
  have hD : va_D A (rc4 a q_t Q_t (sI (sI z_t 2 0) 3 0)) := hD
  refine lv_aload_n hx hb dX4_start_10 rfl (lv_at hl 0 rfl) ?_
  refine lv_iconst (v := 0) hx hb dX4_start_11 (by decide) ?_
  refine va_put (D := D) (v := .int 0) (C := RX4) (T := TX4) (N := 8) hx hb hts iX4 tyX4 tyX4_ok nmX4 hown hK.1 hP hD hS 0 rfl rfl 4 (by decide) (hts _ t_247) (fun _ h9 => h9) rfl (tyX4_ok 4 (by decide)) rfl rfl (Nat.le_of_ble_eq_true rfl) dX4_start_12 (fun H locs hP hD hS => ?_)
  have hP : va_P D classes (rc4 a q_t Q_t (sI (sI (sI z_t 2 0) 3 0) 4 0)) H := hP
  have hD : va_D A (rc4 a q_t Q_t (sI (sI (sI z_t 2 0) 3 0) 4 0)) := hD
  exact rMv C rfl h (g := fun y => rc4 a q_t Q_t y) hP hD hS dX4_start_15

def fX5_beginWork (z_t : Sx) (z_t_1 : Sx) (z_p1 : Sx) : Option (Sx × Sx) := bd (fX0_begin z_t_1 (gI z_p1 1)) (fun z2 => some (sI (sI (sI (sI (sJ z_t 0 0 q_p1) 2 0) 3 0) 4 0) 6 0, sI z2 3 0))

set_option maxHeartbeats 4000000 in
set_option maxRecDepth 100000 in
theorem mX5_beginWork (l : Launch) (D : va_G) (a : Nat → ClassId) {q_t : Nat} {q_p1 : Nat} {Q_t : Nat → Nat} {z_t : Sx} {Q_t_1 : Nat → Nat} {z_t_1 : Sx} {Q_p1 : Nat → Nat} {z_p1 : Sx} {y : Sx × Sx} (h : fX5_beginWork z_t z_t_1 z_p1 = some y) (sz : Nat) : CMv (S := Unit) l MX5_beginWork 2 44 0 0 D a [.ref q_t, .ref q_p1] (rc5 a q_t Q_t z_t ++ (rc0 a (Q_t 1) Q_t_1 z_t_1 ++ (rc7 a q_p1 Q_p1 z_p1))) sz (fun _ => True) (fun _ => rc5 a q_t Q_t y.1 ++ (rc0 a (Q_t 1) Q_t_1 y.2 ++ (rc7 a q_p1 Q_p1 z_p1))) := by
  unfold fX5_beginWork at h
  refine entMv (by decide) (Nat.le_of_ble_eq_true rfl) ?_
  intro p e s m below meth c C hK A hA hP hD ls hl
  obtain ⟨hx, hb, hml, hown, hts, hr, hlocks, hnm⟩ := id C
  have hb : c.code = cX5_beginWork := hb
  have hown : s.vm.findClass RX5 = some m.cls := hown
  have hS : va_S A s.heap s.heap [] := va_S.rf
  have hl : lv_has ls 2 [(0, .ref q_t), (1, .ref q_p1)] := hl
  refine lv_aload_n hx hb dX5_beginWork_0 rfl (lv_at hl 0 rfl) ?_
  refine lv_aload_n hx hb dX5_beginWork_1 rfl (lv_at hl 1 rfl) ?_
  refine va_put (D := D) (v := .ref q_p1) (C := RX5) (T := TX5) (N := 8) hx hb hts iX5 tyX5 tyX5_ok nmX5 hown hK.1 hP hD hS 0 rfl rfl 0 (by decide) (hts _ t_160) (fun _ h9 => h9) rfl (tyX5_ok 0 (by decide)) rfl rfl (Nat.le_of_ble_eq_true rfl) dX5_beginWork_2 (fun H locs hP hD hS => ?_)
  have hP : va_P D classes (rc5 a q_t Q_t (sJ z_t 0 0 q_p1) ++ (rc0 a (Q_t 1) Q_t_1 z_t_1 ++ (rc7 a q_p1 Q_p1 z_p1))) H := hP
  have hD : va_D A (rc5 a q_t Q_t (sJ z_t 0 0 q_p1) ++ (rc0 a (Q_t 1) Q_t_1 z_t_1 ++ (rc7 a q_p1 Q_p1 z_p1))) := hD
  refine lv_aload_n hx hb dX5_beginWork_5 rfl (lv_at hl 0 rfl) ?_
  refine va_get (D := D) (v := .ref (Q_t 1)) (C := RX5) (T := TX5) (N := 8) hx hb hts iX5 hown hK.1 hP 0 rfl rfl 1 (by decide) (hts _ t_162) (fun _ h9 => h9) rfl dX5_beginWork_6 ?_
  refine lv_aload_n hx hb dX5_beginWork_9 rfl (lv_at hl 1 rfl) ?_
  refine va_get (D := D) (v := .int (gI z_p1 1)) (C := RX7) (T := TX7) (N := 18) hx hb hts iX7 hown hK.1 hP 5 rfl rfl 1 (by decide) (hts _ t_40) (fun _ h9 => h9) rfl dX5_beginWork_10 ?_
  obtain ⟨z2, hc1, h⟩ := bd_some h
  refine cMv (runV (As := [.int (gI z_p1 1)]) (rest := []) C (mX0_begin l D a hc1 H.size) lk_V_5_57 okN_X0_begin ⟨Nat.le_of_ble_eq_true rfl, Nat.le_of_ble_eq_true rfl⟩ ⟨rfl, rfl⟩ (preV (preM hK (P_of_map (wc := rc0 a (Q_t 1) Q_t_1 z_t_1) hP [3, 4] rfl) (hD.sub (ws' := rc0 a (Q_t 1) Q_t_1 z_t_1) [3, 4] (by decide) rfl)) (recvOf hK hP 3 rfl (ci := 0) rfl)) hl.1 rfl (Nat.le_of_ble_eq_true rfl) dX5_beginWork_13 ⟨Nat.le_of_ble_eq_true rfl, Nat.le_of_ble_eq_true rfl⟩) hP hD hS hA [3, 4] [0, 1, 2, 5, 6, 7, 8, 9, 10, 11, 12, 13, 14, 15, 16, 17] [0, 1, 2, 16, 17, 3, 4, 5, 6, 7, 8, 9, 10, 11, 12, 13, 14, 15] rfl rfl (by decide) (by decide) (fw := rc5 a q_t Q_t (sJ z_t 0 0 q_p1) ++ (rc0 a (Q_t 1) Q_t_1 z2 ++ (rc7 a q_p1 Q_p1 z_p1))) rfl (by decide) (fun H locs hP hD hS => ?_)
  have hP : va_P D classes (rc5 a q_t Q_t (sJ z_t 0 0 q_p1) ++ (rc0 a (Q_t 1) Q_t_1 z2 ++ (rc7 a q_p1 Q_p1 z_p1))) H := hP
  have hD : va_D A (rc5 a q_t Q_t (sJ z_t 0 0 q_p1) ++ (rc0 a (Q_t 1) Q_t_1 z2 ++ (rc7 a q_p1 Q_p1 z_p1))) := hD
  refine lv_aload_n hx hb dX5_beginWork_16 rfl (lv_at hl 0 rfl) ?_
  refine va_get (D := D) (v := .ref (Q_t 1)) (C := RX5) (T := TX5) (N := 8) hx hb hts iX5 hown hK.1 hP 0 rfl rfl 1 (by decide) (hts _ t_162) (fun _ h9 => h9) rfl dX5_beginWork_17 ?_
  refine lv_iconst (v := 0) hx hb dX5_beginWork_20 (by decide) ?_
  refine va_put (D := D) (v := .int 0) (C := RX0) (T := TX0) (N := 6) hx hb hts iX0 tyX0 tyX0_ok nmX0 hown hK.1 hP hD hS 3 rfl rfl 3 (by decide) (hts _ t_140) (fun _ h9 => h9) rfl (tyX0_ok 3 (by decide)) rfl rfl (Nat.le_of_ble_eq_true rfl) dX5_beginWork_21 (fun H locs hP hD hS => ?_)
  have hP : va_P D classes (rc5 a q_t Q_t (sJ z_t 0 0 q_p1) ++ (rc0 a (Q_t 1) Q_t_1 (sI z2 3 0) ++ (rc7 a q_p1 Q_p1 z_p1))) H := hP
  have hD : va_D A (rc5 a q_t Q_t (sJ z_t 0 0 q_p1) ++ (rc0 a (Q_t 1) Q_t_1 (sI z2 3 0) ++ (rc7 a q_p1 Q_p1 z_p1))) := hD
  refine lv_aload_n hx hb dX5_beginWork_24 rfl (lv_at hl 0 rfl) ?_
  refine lv_iconst (v := 0) hx hb dX5_beginWork_25 (by decide) ?_
  refine va_put (D := D) (v := .int 0) (C := RX5) (T := TX5) (N := 8) hx hb hts iX5 tyX5 tyX5_ok nmX5 hown hK.1 hP hD hS 0 rfl rfl 2 (by decide) (hts _ t_164) (fun _ h9 => h9) rfl (tyX5_ok 2 (by decide)) rfl rfl (Nat.le_of_ble_eq_true rfl) dX5_beginWork_26 (fun H locs hP hD hS => ?_)
  have hP : va_P D classes (rc5 a q_t Q_t (sI (sJ z_t 0 0 q_p1) 2 0) ++ (rc0 a (Q_t 1) Q_t_1 (sI z2 3 0) ++ (rc7 a q_p1 Q_p1 z_p1))) H := hP
  have hD : va_D A (rc5 a q_t Q_t (sI (sJ z_t 0 0 q_p1) 2 0) ++ (rc0 a (Q_t 1) Q_t_1 (sI z2 3 0) ++ (rc7 a q_p1 Q_p1 z_p1))) := hD
  refine lv_aload_n hx hb dX5_beginWork_29 rfl (lv_at hl 0 rfl) ?_
  refine lv_iconst (v := 0) hx hb dX5_beginWork_30 (by decide) ?_
  refine va_put (D := D) (v := .int 0) (C := RX5) (T := TX5) (N := 8) hx hb hts iX5 tyX5 tyX5_ok nmX5 hown hK.1 hP hD hS 0 rfl rfl 3 (by decide) (hts _ t_166) (fun _ h9 => h9) rfl (tyX5_ok 3 (by decide)) rfl rfl (Nat.le_of_ble_eq_true rfl) dX5_beginWork_31 (fun H locs hP hD hS => ?_)
  have hP : va_P D classes (rc5 a q_t Q_t (sI (sI (sJ z_t 0 0 q_p1) 2 0) 3 0) ++ (rc0 a (Q_t 1) Q_t_1 (sI z2 3 0) ++ (rc7 a q_p1 Q_p1 z_p1))) H := hP
  have hD : va_D A (rc5 a q_t Q_t (sI (sI (sJ z_t 0 0 q_p1) 2 0) 3 0) ++ (rc0 a (Q_t 1) Q_t_1 (sI z2 3 0) ++ (rc7 a q_p1 Q_p1 z_p1))) := hD
  refine lv_aload_n hx hb dX5_beginWork_34 rfl (lv_at hl 0 rfl) ?_
  refine lv_iconst (v := 0) hx hb dX5_beginWork_35 (by decide) ?_
  refine va_put (D := D) (v := .int 0) (C := RX5) (T := TX5) (N := 8) hx hb hts iX5 tyX5 tyX5_ok nmX5 hown hK.1 hP hD hS 0 rfl rfl 4 (by decide) (hts _ t_168) (fun _ h9 => h9) rfl (tyX5_ok 4 (by decide)) rfl rfl (Nat.le_of_ble_eq_true rfl) dX5_beginWork_36 (fun H locs hP hD hS => ?_)
  have hP : va_P D classes (rc5 a q_t Q_t (sI (sI (sI (sJ z_t 0 0 q_p1) 2 0) 3 0) 4 0) ++ (rc0 a (Q_t 1) Q_t_1 (sI z2 3 0) ++ (rc7 a q_p1 Q_p1 z_p1))) H := hP
  have hD : va_D A (rc5 a q_t Q_t (sI (sI (sI (sJ z_t 0 0 q_p1) 2 0) 3 0) 4 0) ++ (rc0 a (Q_t 1) Q_t_1 (sI z2 3 0) ++ (rc7 a q_p1 Q_p1 z_p1))) := hD
  refine lv_aload_n hx hb dX5_beginWork_39 rfl (lv_at hl 0 rfl) ?_
  refine lv_iconst (v := 0) hx hb dX5_beginWork_40 (by decide) ?_
  refine va_put (D := D) (v := .int 0) (C := RX5) (T := TX5) (N := 8) hx hb hts iX5 tyX5 tyX5_ok nmX5 hown hK.1 hP hD hS 0 rfl rfl 6 (by decide) (hts _ t_172) (fun _ h9 => h9) rfl (tyX5_ok 6 (by decide)) rfl rfl (Nat.le_of_ble_eq_true rfl) dX5_beginWork_41 (fun H locs hP hD hS => ?_)
  have hP : va_P D classes (rc5 a q_t Q_t (sI (sI (sI (sI (sJ z_t 0 0 q_p1) 2 0) 3 0) 4 0) 6 0) ++ (rc0 a (Q_t 1) Q_t_1 (sI z2 3 0) ++ (rc7 a q_p1 Q_p1 z_p1))) H := hP
  have hD : va_D A (rc5 a q_t Q_t (sI (sI (sI (sI (sJ z_t 0 0 q_p1) 2 0) 3 0) 4 0) 6 0) ++ (rc0 a (Q_t 1) Q_t_1 (sI z2 3 0) ++ (rc7 a q_p1 Q_p1 z_p1))) := hD
  exact rMv C rfl h (g := fun y => rc5 a q_t Q_t y.1 ++ (rc0 a (Q_t 1) Q_t_1 y.2 ++ (rc7 a q_p1 Q_p1 z_p1))) hP hD hS dX5_beginWork_44

def fX5_copyFrom (z_t : Sx) (z_t_1 : Sx) (z_p1 : Sx) (z_p1_1 : Sx) : Option (Sx × Sx) := bd (fX0_copyFrom z_t_1 z_p1_1) (fun z2 => some (sTf (sI (sTf (sI (sI (sI (sJ z_t 0 0 (Q_p1 0)) 2 (gI z_p1 2)) 3 (gI z_p1 3)) 4 (gI z_p1 4)) 5 (va_cpy (gT z_p1 5) (gT (sI (sI (sI (sJ z_t 0 0 (Q_p1 0)) 2 (gI z_p1 2)) 3 (gI z_p1 3)) 4 (gI z_p1 4)) 5) 0 0 8)) 6 (gI z_p1 6)) 7 (va_cpy (gT z_p1 7) (gT (sI (sTf (sI (sI (sI (sJ z_t 0 0 (Q_p1 0)) 2 (gI z_p1 2)) 3 (gI z_p1 3)) 4 (gI z_p1 4)) 5 (va_cpy (gT z_p1 5) (gT (sI (sI (sI (sJ z_t 0 0 (Q_p1 0)) 2 (gI z_p1 2)) 3 (gI z_p1 3)) 4 (gI z_p1 4)) 5) 0 0 8)) 6 (gI z_p1 6)) 7) 0 0 8), z2))

set_option maxHeartbeats 4000000 in
set_option maxRecDepth 100000 in
theorem mX5_copyFrom (l : Launch) (D : va_G) (a : Nat → ClassId) {q_t : Nat} {q_p1 : Nat} {Q_t : Nat → Nat} {z_t : Sx} {Q_t_1 : Nat → Nat} {z_t_1 : Sx} {Q_p1 : Nat → Nat} {z_p1 : Sx} {Q_p1_1 : Nat → Nat} {z_p1_1 : Sx} {y : Sx × Sx} (h : fX5_copyFrom z_t z_t_1 z_p1 z_p1_1 = some y) (sz : Nat) : CMv (S := Unit) l MX5_copyFrom 2 81 0 0 D a [.ref q_t, .ref q_p1] (rc5 a q_t Q_t z_t ++ (rc0 a (Q_t 1) Q_t_1 z_t_1 ++ (rc5 a q_p1 Q_p1 z_p1 ++ (rc0 a (Q_p1 1) Q_p1_1 z_p1_1)))) sz (fun _ => True) (fun _ => rc5 a q_t Q_t y.1 ++ (rc0 a (Q_t 1) Q_t_1 y.2 ++ (rc5 a q_p1 Q_p1 z_p1 ++ (rc0 a (Q_p1 1) Q_p1_1 z_p1_1)))) := by
  unfold fX5_copyFrom at h
  refine entMv (by decide) (Nat.le_of_ble_eq_true rfl) ?_
  intro p e s m below meth c C hK A hA hP hD ls hl
  obtain ⟨hx, hb, hml, hown, hts, hr, hlocks, hnm⟩ := id C
  have hb : c.code = cX5_copyFrom := hb
  have hown : s.vm.findClass RX5 = some m.cls := hown
  have hS : va_S A s.heap s.heap [] := va_S.rf
  have hl : lv_has ls 2 [(0, .ref q_t), (1, .ref q_p1)] := hl
  refine lv_aload_n hx hb dX5_copyFrom_0 rfl (lv_at hl 0 rfl) ?_
  refine lv_aload_n hx hb dX5_copyFrom_1 rfl (lv_at hl 1 rfl) ?_
  refine va_get (D := D) (v := .ref (Q_p1 0)) (C := RX5) (T := TX5) (N := 8) hx hb hts iX5 hown hK.1 hP 5 rfl rfl 0 (by decide) (hts _ t_160) (fun _ h9 => h9) rfl dX5_copyFrom_2 ?_
  refine va_put (D := D) (v := .ref (Q_p1 0)) (C := RX5) (T := TX5) (N := 8) hx hb hts iX5 tyX5 tyX5_ok nmX5 hown hK.1 hP hD hS 0 rfl rfl 0 (by decide) (hts _ t_160) (fun _ h9 => h9) rfl (tyX5_ok 0 (by decide)) rfl rfl (Nat.le_of_ble_eq_true rfl) dX5_copyFrom_5 (fun H locs hP hD hS => ?_)
  have hP : va_P D classes (rc5 a q_t Q_t (sJ z_t 0 0 (Q_p1 0)) ++ (rc0 a (Q_t 1) Q_t_1 z_t_1 ++ (rc5 a q_p1 Q_p1 z_p1 ++ (rc0 a (Q_p1 1) Q_p1_1 z_p1_1)))) H := hP
  have hD : va_D A (rc5 a q_t Q_t (sJ z_t 0 0 (Q_p1 0)) ++ (rc0 a (Q_t 1) Q_t_1 z_t_1 ++ (rc5 a q_p1 Q_p1 z_p1 ++ (rc0 a (Q_p1 1) Q_p1_1 z_p1_1)))) := hD
  refine lv_aload_n hx hb dX5_copyFrom_8 rfl (lv_at hl 0 rfl) ?_
  refine va_get (D := D) (v := .ref (Q_t 1)) (C := RX5) (T := TX5) (N := 8) hx hb hts iX5 hown hK.1 hP 0 rfl rfl 1 (by decide) (hts _ t_162) (fun _ h9 => h9) rfl dX5_copyFrom_9 ?_
  refine lv_aload_n hx hb dX5_copyFrom_12 rfl (lv_at hl 1 rfl) ?_
  refine va_get (D := D) (v := .ref (Q_p1 1)) (C := RX5) (T := TX5) (N := 8) hx hb hts iX5 hown hK.1 hP 5 rfl rfl 1 (by decide) (hts _ t_162) (fun _ h9 => h9) rfl dX5_copyFrom_13 ?_
  obtain ⟨z2, hc1, h⟩ := bd_some h
  refine cMv (runV (As := [.ref (Q_p1 1)]) (rest := []) C (mX0_copyFrom l D a hc1 H.size) lk_V_5_29 okN_X0_copyFrom ⟨Nat.le_of_ble_eq_true rfl, Nat.le_of_ble_eq_true rfl⟩ ⟨rfl, rfl⟩ (preV (preM hK (P_of_map (wc := rc0 a (Q_t 1) Q_t_1 z_t_1 ++ (rc0 a (Q_p1 1) Q_p1_1 z_p1_1)) hP [3, 4, 8, 9] rfl) (hD.sub (ws' := rc0 a (Q_t 1) Q_t_1 z_t_1 ++ (rc0 a (Q_p1 1) Q_p1_1 z_p1_1)) [3, 4, 8, 9] (by decide) rfl)) (recvOf hK hP 3 rfl (ci := 0) rfl)) hl.1 rfl (Nat.le_of_ble_eq_true rfl) dX5_copyFrom_16 ⟨Nat.le_of_ble_eq_true rfl, Nat.le_of_ble_eq_true rfl⟩) hP hD hS hA [3, 4, 8, 9] [0, 1, 2, 5, 6, 7] [0, 1, 2, 6, 7, 3, 4, 5, 8, 9] rfl rfl (by decide) (by decide) (fw := rc5 a q_t Q_t (sJ z_t 0 0 (Q_p1 0)) ++ (rc0 a (Q_t 1) Q_t_1 z2 ++ (rc5 a q_p1 Q_p1 z_p1 ++ (rc0 a (Q_p1 1) Q_p1_1 z_p1_1)))) rfl (by decide) (fun H locs hP hD hS => ?_)
  have hP : va_P D classes (rc5 a q_t Q_t (sJ z_t 0 0 (Q_p1 0)) ++ (rc0 a (Q_t 1) Q_t_1 z2 ++ (rc5 a q_p1 Q_p1 z_p1 ++ (rc0 a (Q_p1 1) Q_p1_1 z_p1_1)))) H := hP
  have hD : va_D A (rc5 a q_t Q_t (sJ z_t 0 0 (Q_p1 0)) ++ (rc0 a (Q_t 1) Q_t_1 z2 ++ (rc5 a q_p1 Q_p1 z_p1 ++ (rc0 a (Q_p1 1) Q_p1_1 z_p1_1)))) := hD
  refine lv_aload_n hx hb dX5_copyFrom_19 rfl (lv_at hl 0 rfl) ?_
  refine lv_aload_n hx hb dX5_copyFrom_20 rfl (lv_at hl 1 rfl) ?_
  refine va_get (D := D) (v := .int (gI z_p1 2)) (C := RX5) (T := TX5) (N := 8) hx hb hts iX5 hown hK.1 hP 5 rfl rfl 2 (by decide) (hts _ t_164) (fun _ h9 => h9) rfl dX5_copyFrom_21 ?_
  refine va_put (D := D) (v := .int (gI z_p1 2)) (C := RX5) (T := TX5) (N := 8) hx hb hts iX5 tyX5 tyX5_ok nmX5 hown hK.1 hP hD hS 0 rfl rfl 2 (by decide) (hts _ t_164) (fun _ h9 => h9) rfl (tyX5_ok 2 (by decide)) rfl rfl (Nat.le_of_ble_eq_true rfl) dX5_copyFrom_24 (fun H locs hP hD hS => ?_)
  have hP : va_P D classes (rc5 a q_t Q_t (sI (sJ z_t 0 0 (Q_p1 0)) 2 (gI z_p1 2)) ++ (rc0 a (Q_t 1) Q_t_1 z2 ++ (rc5 a q_p1 Q_p1 z_p1 ++ (rc0 a (Q_p1 1) Q_p1_1 z_p1_1)))) H := hP
  have hD : va_D A (rc5 a q_t Q_t (sI (sJ z_t 0 0 (Q_p1 0)) 2 (gI z_p1 2)) ++ (rc0 a (Q_t 1) Q_t_1 z2 ++ (rc5 a q_p1 Q_p1 z_p1 ++ (rc0 a (Q_p1 1) Q_p1_1 z_p1_1)))) := hD
  refine lv_aload_n hx hb dX5_copyFrom_27 rfl (lv_at hl 0 rfl) ?_
  refine lv_aload_n hx hb dX5_copyFrom_28 rfl (lv_at hl 1 rfl) ?_
  refine va_get (D := D) (v := .int (gI z_p1 3)) (C := RX5) (T := TX5) (N := 8) hx hb hts iX5 hown hK.1 hP 5 rfl rfl 3 (by decide) (hts _ t_166) (fun _ h9 => h9) rfl dX5_copyFrom_29 ?_
  refine va_put (D := D) (v := .int (gI z_p1 3)) (C := RX5) (T := TX5) (N := 8) hx hb hts iX5 tyX5 tyX5_ok nmX5 hown hK.1 hP hD hS 0 rfl rfl 3 (by decide) (hts _ t_166) (fun _ h9 => h9) rfl (tyX5_ok 3 (by decide)) rfl rfl (Nat.le_of_ble_eq_true rfl) dX5_copyFrom_32 (fun H locs hP hD hS => ?_)
  have hP : va_P D classes (rc5 a q_t Q_t (sI (sI (sJ z_t 0 0 (Q_p1 0)) 2 (gI z_p1 2)) 3 (gI z_p1 3)) ++ (rc0 a (Q_t 1) Q_t_1 z2 ++ (rc5 a q_p1 Q_p1 z_p1 ++ (rc0 a (Q_p1 1) Q_p1_1 z_p1_1)))) H := hP
  have hD : va_D A (rc5 a q_t Q_t (sI (sI (sJ z_t 0 0 (Q_p1 0)) 2 (gI z_p1 2)) 3 (gI z_p1 3)) ++ (rc0 a (Q_t 1) Q_t_1 z2 ++ (rc5 a q_p1 Q_p1 z_p1 ++ (rc0 a (Q_p1 1) Q_p1_1 z_p1_1)))) := hD
  refine lv_aload_n hx hb dX5_copyFrom_35 rfl (lv_at hl 0 rfl) ?_
  refine lv_aload_n hx hb dX5_copyFrom_36 rfl (lv_at hl 1 rfl) ?_
  refine va_get (D := D) (v := .int (gI z_p1 4)) (C := RX5) (T := TX5) (N := 8) hx hb hts iX5 hown hK.1 hP 5 rfl rfl 4 (by decide) (hts _ t_168) (fun _ h9 => h9) rfl dX5_copyFrom_37 ?_
  refine va_put (D := D) (v := .int (gI z_p1 4)) (C := RX5) (T := TX5) (N := 8) hx hb hts iX5 tyX5 tyX5_ok nmX5 hown hK.1 hP hD hS 0 rfl rfl 4 (by decide) (hts _ t_168) (fun _ h9 => h9) rfl (tyX5_ok 4 (by decide)) rfl rfl (Nat.le_of_ble_eq_true rfl) dX5_copyFrom_40 (fun H locs hP hD hS => ?_)
  have hP : va_P D classes (rc5 a q_t Q_t (sI (sI (sI (sJ z_t 0 0 (Q_p1 0)) 2 (gI z_p1 2)) 3 (gI z_p1 3)) 4 (gI z_p1 4)) ++ (rc0 a (Q_t 1) Q_t_1 z2 ++ (rc5 a q_p1 Q_p1 z_p1 ++ (rc0 a (Q_p1 1) Q_p1_1 z_p1_1)))) H := hP
  have hD : va_D A (rc5 a q_t Q_t (sI (sI (sI (sJ z_t 0 0 (Q_p1 0)) 2 (gI z_p1 2)) 3 (gI z_p1 3)) 4 (gI z_p1 4)) ++ (rc0 a (Q_t 1) Q_t_1 z2 ++ (rc5 a q_p1 Q_p1 z_p1 ++ (rc0 a (Q_p1 1) Q_p1_1 z_p1_1)))) := hD
  refine lv_aload_n hx hb dX5_copyFrom_43 rfl (lv_at hl 1 rfl) ?_
  refine va_get (D := D) (v := .ref (Q_p1 5)) (C := RX5) (T := TX5) (N := 8) hx hb hts iX5 hown hK.1 hP 5 rfl rfl 5 (by decide) (hts _ t_170) (fun _ h9 => h9) rfl dX5_copyFrom_44 ?_
  refine lv_iconst (v := 0) hx hb dX5_copyFrom_47 (by decide) ?_
  refine lv_aload_n hx hb dX5_copyFrom_48 rfl (lv_at hl 0 rfl) ?_
  refine va_get (D := D) (v := .ref (Q_t 5)) (C := RX5) (T := TX5) (N := 8) hx hb hts iX5 hown hK.1 hP 0 rfl rfl 5 (by decide) (hts _ t_170) (fun _ h9 => h9) rfl dX5_copyFrom_49 ?_
  refine lv_iconst (v := 0) hx hb dX5_copyFrom_52 (by decide) ?_
  refine lv_bipush (v := 8) hx hb dX5_copyFrom_53 (by decide) ?_
  refine va_copyi hx hb (by rw [hml]; exact hl.1.symm) hown (hts _ t_871) (hts _ t_574) (hts _ t_573) (hts _ t_17) hK.1 hP hD hS 6 1 0 0 rfl rfl rfl rfl rfl (by decide) (by decide) (by decide) (by decide) (by decide) (fun _ _ => rfl) (Nat.le_of_ble_eq_true rfl) (Nat.le_of_ble_eq_true rfl) dX5_copyFrom_55 (fun H locs hP hD hS => ?_)
  have hP : va_P D classes (rc5 a q_t Q_t (sTf (sI (sI (sI (sJ z_t 0 0 (Q_p1 0)) 2 (gI z_p1 2)) 3 (gI z_p1 3)) 4 (gI z_p1 4)) 5 (va_cpy (gT z_p1 5) (gT (sI (sI (sI (sJ z_t 0 0 (Q_p1 0)) 2 (gI z_p1 2)) 3 (gI z_p1 3)) 4 (gI z_p1 4)) 5) 0 0 8)) ++ (rc0 a (Q_t 1) Q_t_1 z2 ++ (rc5 a q_p1 Q_p1 z_p1 ++ (rc0 a (Q_p1 1) Q_p1_1 z_p1_1)))) H := hP
  have hD : va_D A (rc5 a q_t Q_t (sTf (sI (sI (sI (sJ z_t 0 0 (Q_p1 0)) 2 (gI z_p1 2)) 3 (gI z_p1 3)) 4 (gI z_p1 4)) 5 (va_cpy (gT z_p1 5) (gT (sI (sI (sI (sJ z_t 0 0 (Q_p1 0)) 2 (gI z_p1 2)) 3 (gI z_p1 3)) 4 (gI z_p1 4)) 5) 0 0 8)) ++ (rc0 a (Q_t 1) Q_t_1 z2 ++ (rc5 a q_p1 Q_p1 z_p1 ++ (rc0 a (Q_p1 1) Q_p1_1 z_p1_1)))) := hD
  refine lv_aload_n hx hb dX5_copyFrom_58 rfl (lv_at hl 0 rfl) ?_
  refine lv_aload_n hx hb dX5_copyFrom_59 rfl (lv_at hl 1 rfl) ?_
  refine va_get (D := D) (v := .int (gI z_p1 6)) (C := RX5) (T := TX5) (N := 8) hx hb hts iX5 hown hK.1 hP 5 rfl rfl 6 (by decide) (hts _ t_172) (fun _ h9 => h9) rfl dX5_copyFrom_60 ?_
  refine va_put (D := D) (v := .int (gI z_p1 6)) (C := RX5) (T := TX5) (N := 8) hx hb hts iX5 tyX5 tyX5_ok nmX5 hown hK.1 hP hD hS 0 rfl rfl 6 (by decide) (hts _ t_172) (fun _ h9 => h9) rfl (tyX5_ok 6 (by decide)) rfl rfl (Nat.le_of_ble_eq_true rfl) dX5_copyFrom_63 (fun H locs hP hD hS => ?_)
  have hP : va_P D classes (rc5 a q_t Q_t (sI (sTf (sI (sI (sI (sJ z_t 0 0 (Q_p1 0)) 2 (gI z_p1 2)) 3 (gI z_p1 3)) 4 (gI z_p1 4)) 5 (va_cpy (gT z_p1 5) (gT (sI (sI (sI (sJ z_t 0 0 (Q_p1 0)) 2 (gI z_p1 2)) 3 (gI z_p1 3)) 4 (gI z_p1 4)) 5) 0 0 8)) 6 (gI z_p1 6)) ++ (rc0 a (Q_t 1) Q_t_1 z2 ++ (rc5 a q_p1 Q_p1 z_p1 ++ (rc0 a (Q_p1 1) Q_p1_1 z_p1_1)))) H := hP
  have hD : va_D A (rc5 a q_t Q_t (sI (sTf (sI (sI (sI (sJ z_t 0 0 (Q_p1 0)) 2 (gI z_p1 2)) 3 (gI z_p1 3)) 4 (gI z_p1 4)) 5 (va_cpy (gT z_p1 5) (gT (sI (sI (sI (sJ z_t 0 0 (Q_p1 0)) 2 (gI z_p1 2)) 3 (gI z_p1 3)) 4 (gI z_p1 4)) 5) 0 0 8)) 6 (gI z_p1 6)) ++ (rc0 a (Q_t 1) Q_t_1 z2 ++ (rc5 a q_p1 Q_p1 z_p1 ++ (rc0 a (Q_p1 1) Q_p1_1 z_p1_1)))) := hD
  refine lv_aload_n hx hb dX5_copyFrom_66 rfl (lv_at hl 1 rfl) ?_
  refine va_get (D := D) (v := .ref (Q_p1 7)) (C := RX5) (T := TX5) (N := 8) hx hb hts iX5 hown hK.1 hP 5 rfl rfl 7 (by decide) (hts _ t_174) (fun _ h9 => h9) rfl dX5_copyFrom_67 ?_
  refine lv_iconst (v := 0) hx hb dX5_copyFrom_70 (by decide) ?_
  refine lv_aload_n hx hb dX5_copyFrom_71 rfl (lv_at hl 0 rfl) ?_
  refine va_get (D := D) (v := .ref (Q_t 7)) (C := RX5) (T := TX5) (N := 8) hx hb hts iX5 hown hK.1 hP 0 rfl rfl 7 (by decide) (hts _ t_174) (fun _ h9 => h9) rfl dX5_copyFrom_72 ?_
  refine lv_iconst (v := 0) hx hb dX5_copyFrom_75 (by decide) ?_
  refine lv_bipush (v := 8) hx hb dX5_copyFrom_76 (by decide) ?_
  refine va_copyi hx hb (by rw [hml]; exact hl.1.symm) hown (hts _ t_871) (hts _ t_574) (hts _ t_573) (hts _ t_17) hK.1 hP hD hS 7 2 0 0 rfl rfl rfl rfl rfl (by decide) (by decide) (by decide) (by decide) (by decide) (fun _ _ => rfl) (Nat.le_of_ble_eq_true rfl) (Nat.le_of_ble_eq_true rfl) dX5_copyFrom_78 (fun H locs hP hD hS => ?_)
  have hP : va_P D classes (rc5 a q_t Q_t (sTf (sI (sTf (sI (sI (sI (sJ z_t 0 0 (Q_p1 0)) 2 (gI z_p1 2)) 3 (gI z_p1 3)) 4 (gI z_p1 4)) 5 (va_cpy (gT z_p1 5) (gT (sI (sI (sI (sJ z_t 0 0 (Q_p1 0)) 2 (gI z_p1 2)) 3 (gI z_p1 3)) 4 (gI z_p1 4)) 5) 0 0 8)) 6 (gI z_p1 6)) 7 (va_cpy (gT z_p1 7) (gT (sI (sTf (sI (sI (sI (sJ z_t 0 0 (Q_p1 0)) 2 (gI z_p1 2)) 3 (gI z_p1 3)) 4 (gI z_p1 4)) 5 (va_cpy (gT z_p1 5) (gT (sI (sI (sI (sJ z_t 0 0 (Q_p1 0)) 2 (gI z_p1 2)) 3 (gI z_p1 3)) 4 (gI z_p1 4)) 5) 0 0 8)) 6 (gI z_p1 6)) 7) 0 0 8)) ++ (rc0 a (Q_t 1) Q_t_1 z2 ++ (rc5 a q_p1 Q_p1 z_p1 ++ (rc0 a (Q_p1 1) Q_p1_1 z_p1_1)))) H := hP
  have hD : va_D A (rc5 a q_t Q_t (sTf (sI (sTf (sI (sI (sI (sJ z_t 0 0 (Q_p1 0)) 2 (gI z_p1 2)) 3 (gI z_p1 3)) 4 (gI z_p1 4)) 5 (va_cpy (gT z_p1 5) (gT (sI (sI (sI (sJ z_t 0 0 (Q_p1 0)) 2 (gI z_p1 2)) 3 (gI z_p1 3)) 4 (gI z_p1 4)) 5) 0 0 8)) 6 (gI z_p1 6)) 7 (va_cpy (gT z_p1 7) (gT (sI (sTf (sI (sI (sI (sJ z_t 0 0 (Q_p1 0)) 2 (gI z_p1 2)) 3 (gI z_p1 3)) 4 (gI z_p1 4)) 5 (va_cpy (gT z_p1 5) (gT (sI (sI (sI (sJ z_t 0 0 (Q_p1 0)) 2 (gI z_p1 2)) 3 (gI z_p1 3)) 4 (gI z_p1 4)) 5) 0 0 8)) 6 (gI z_p1 6)) 7) 0 0 8)) ++ (rc0 a (Q_t 1) Q_t_1 z2 ++ (rc5 a q_p1 Q_p1 z_p1 ++ (rc0 a (Q_p1 1) Q_p1_1 z_p1_1)))) := hD
  exact rMv C rfl h (g := fun y => rc5 a q_t Q_t y.1 ++ (rc0 a (Q_t 1) Q_t_1 y.2 ++ (rc5 a q_p1 Q_p1 z_p1 ++ (rc0 a (Q_p1 1) Q_p1_1 z_p1_1)))) hP hD hS dX5_copyFrom_81

def fX6_addToken (z_t : Sx) (x1 : Int32) (x2 : Int32) (x3 : Int32) : Option (Sx) := if (gI z_t 3) < 0 then some z_t else if 401 ≤ (gI z_t 3) then some z_t else gd (inb (gI z_t 3) 401) (some (sI (sT (sT (sT z_t 0 ((gI z_t 3).toNatClampNeg) x1) 1 ((gI z_t 3).toNatClampNeg) x2) 2 ((gI z_t 3).toNatClampNeg) x3) 3 ((gI z_t 3) + 1)))

set_option maxHeartbeats 4000000 in
set_option maxRecDepth 100000 in
theorem mX6_addToken (l : Launch) (D : va_G) (a : Nat → ClassId) {q_t : Nat} {Q_t : Nat → Nat} {z_t : Sx} {x1 : Int32} {x2 : Int32} {x3 : Int32} {y : Sx} (h : fX6_addToken z_t x1 x2 x3 = some y) (sz : Nat) : CMv (S := Unit) l MX6_addToken 0 0 0 0 D a [.ref q_t, .int x1, .int x2, .int x3] (rc6 a q_t Q_t z_t) sz (fun _ => True) (fun _ => rc6 a q_t Q_t y) := by
  unfold fX6_addToken at h
  refine entMv (by decide) (Nat.le_of_ble_eq_true rfl) ?_
  intro p e s m below meth c C hK A hA hP hD ls hl
  obtain ⟨hx, hb, hml, hown, hts, hr, hlocks, hnm⟩ := id C
  have hb : c.code = cX6_addToken := hb
  have hown : s.vm.findClass RX6 = some m.cls := hown
  have hS : va_S A s.heap s.heap [] := va_S.rf
  have hl : lv_has ls 4 [(0, .ref q_t), (1, .int x1), (2, .int x2), (3, .int x3)] := hl
  refine lv_aload_n hx hb dX6_addToken_0 rfl (lv_at hl 0 rfl) ?_
  refine va_get (D := D) (v := .int (gI z_t 3)) (C := RX6) (T := TX6) (N := 9) hx hb hts iX6 hown hK.1 hP 0 rfl rfl 3 (by decide) (hts _ t_211) (fun _ h9 => h9) rfl dX6_addToken_1 ?_
  refine lv_if_lt (tgt := 59) hx hb dX6_addToken_4 (by decide) (fun c1 => ?_) (fun c1 => ?_)
  · have h := ite_t c1 h
    exact rMv C rfl h (g := fun y => rc6 a q_t Q_t y) hP hD hS dX6_addToken_59
  · have h := ite_f c1 h
    refine lv_aload_n hx hb dX6_addToken_7 rfl (lv_at hl 0 rfl) ?_
    refine va_get (D := D) (v := .int (gI z_t 3)) (C := RX6) (T := TX6) (N := 9) hx hb hts iX6 hown hK.1 hP 0 rfl rfl 3 (by decide) (hts _ t_211) (fun _ h9 => h9) rfl dX6_addToken_8 ?_
    refine lv_aload_n hx hb dX6_addToken_11 rfl (lv_at hl 0 rfl) ?_
    refine va_get (D := D) (v := .ref (Q_t 0)) (C := RX6) (T := TX6) (N := 9) hx hb hts iX6 hown hK.1 hP 0 rfl rfl 0 (by decide) (hts _ t_208) (fun _ h9 => h9) rfl dX6_addToken_12 ?_
    refine va_alen (v := 401) hx hb hK.1 hP 1 0 rfl rfl rfl dX6_addToken_15 ?_
    refine lv_icmp_ge (tgt := 59) hx hb dX6_addToken_16 (by decide) (fun c2 => ?_) (fun c2 => ?_)
    · have h := ite_t c2 h
      exact rMv C rfl h (g := fun y => rc6 a q_t Q_t y) hP hD hS dX6_addToken_59
    · have h := ite_f c2 h
      refine lv_aload_n hx hb dX6_addToken_19 rfl (lv_at hl 0 rfl) ?_
      refine va_get (D := D) (v := .ref (Q_t 0)) (C := RX6) (T := TX6) (N := 9) hx hb hts iX6 hown hK.1 hP 0 rfl rfl 0 (by decide) (hts _ t_208) (fun _ h9 => h9) rfl dX6_addToken_20 ?_
      refine lv_aload_n hx hb dX6_addToken_23 rfl (lv_at hl 0 rfl) ?_
      refine va_get (D := D) (v := .int (gI z_t 3)) (C := RX6) (T := TX6) (N := 9) hx hb hts iX6 hown hK.1 hP 0 rfl rfl 3 (by decide) (hts _ t_211) (fun _ h9 => h9) rfl dX6_addToken_24 ?_
      refine lv_iload_n hx hb dX6_addToken_27 rfl (lv_at hl 1 rfl) ?_
      obtain ⟨g3, h⟩ := gd_some h
      refine ast_i hx hb hK.1 hP hD hS 1 0 rfl rfl ((gI z_t 3).toNatClampNeg) (ix_g g3) dX6_addToken_28 (fun H locs hP hD hS => ?_)
      have hP : va_P D classes (rc6 a q_t Q_t (sT z_t 0 ((gI z_t 3).toNatClampNeg) x1)) H := hP
      have hD : va_D A (rc6 a q_t Q_t (sT z_t 0 ((gI z_t 3).toNatClampNeg) x1)) := hD
      refine lv_aload_n hx hb dX6_addToken_29 rfl (lv_at hl 0 rfl) ?_
      refine va_get (D := D) (v := .ref (Q_t 1)) (C := RX6) (T := TX6) (N := 9) hx hb hts iX6 hown hK.1 hP 0 rfl rfl 1 (by decide) (hts _ t_209) (fun _ h9 => h9) rfl dX6_addToken_30 ?_
      refine lv_aload_n hx hb dX6_addToken_33 rfl (lv_at hl 0 rfl) ?_
      refine va_get (D := D) (v := .int (gI z_t 3)) (C := RX6) (T := TX6) (N := 9) hx hb hts iX6 hown hK.1 hP 0 rfl rfl 3 (by decide) (hts _ t_211) (fun _ h9 => h9) rfl dX6_addToken_34 ?_
      refine lv_iload_n hx hb dX6_addToken_37 rfl (lv_at hl 2 rfl) ?_
      refine ast_i hx hb hK.1 hP hD hS 2 0 rfl rfl ((gI z_t 3).toNatClampNeg) (ix_g g3) dX6_addToken_38 (fun H locs hP hD hS => ?_)
      have hP : va_P D classes (rc6 a q_t Q_t (sT (sT z_t 0 ((gI z_t 3).toNatClampNeg) x1) 1 ((gI z_t 3).toNatClampNeg) x2)) H := hP
      have hD : va_D A (rc6 a q_t Q_t (sT (sT z_t 0 ((gI z_t 3).toNatClampNeg) x1) 1 ((gI z_t 3).toNatClampNeg) x2)) := hD
      refine lv_aload_n hx hb dX6_addToken_39 rfl (lv_at hl 0 rfl) ?_
      refine va_get (D := D) (v := .ref (Q_t 2)) (C := RX6) (T := TX6) (N := 9) hx hb hts iX6 hown hK.1 hP 0 rfl rfl 2 (by decide) (hts _ t_210) (fun _ h9 => h9) rfl dX6_addToken_40 ?_
      refine lv_aload_n hx hb dX6_addToken_43 rfl (lv_at hl 0 rfl) ?_
      refine va_get (D := D) (v := .int (gI z_t 3)) (C := RX6) (T := TX6) (N := 9) hx hb hts iX6 hown hK.1 hP 0 rfl rfl 3 (by decide) (hts _ t_211) (fun _ h9 => h9) rfl dX6_addToken_44 ?_
      refine lv_iload_n hx hb dX6_addToken_47 rfl (lv_at hl 3 rfl) ?_
      refine ast_i hx hb hK.1 hP hD hS 3 0 rfl rfl ((gI z_t 3).toNatClampNeg) (ix_g g3) dX6_addToken_48 (fun H locs hP hD hS => ?_)
      have hP : va_P D classes (rc6 a q_t Q_t (sT (sT (sT z_t 0 ((gI z_t 3).toNatClampNeg) x1) 1 ((gI z_t 3).toNatClampNeg) x2) 2 ((gI z_t 3).toNatClampNeg) x3)) H := hP
      have hD : va_D A (rc6 a q_t Q_t (sT (sT (sT z_t 0 ((gI z_t 3).toNatClampNeg) x1) 1 ((gI z_t 3).toNatClampNeg) x2) 2 ((gI z_t 3).toNatClampNeg) x3)) := hD
      refine lv_aload_n hx hb dX6_addToken_49 rfl (lv_at hl 0 rfl) ?_
      refine lv_dup hx hb dX6_addToken_50 rfl ?_
      refine va_get (D := D) (v := .int (gI z_t 3)) (C := RX6) (T := TX6) (N := 9) hx hb hts iX6 hown hK.1 hP 0 rfl rfl 3 (by decide) (hts _ t_211) (fun _ h9 => h9) rfl dX6_addToken_51 ?_
      refine lv_iconst (v := 1) hx hb dX6_addToken_54 (by decide) ?_
      refine lv_iadd hx hb dX6_addToken_55 ?_
      refine va_put (D := D) (v := .int ((gI z_t 3) + 1)) (C := RX6) (T := TX6) (N := 9) hx hb hts iX6 tyX6 tyX6_ok nmX6 hown hK.1 hP hD hS 0 rfl rfl 3 (by decide) (hts _ t_211) (fun _ h9 => h9) rfl (tyX6_ok 3 (by decide)) rfl rfl (Nat.le_of_ble_eq_true rfl) dX6_addToken_56 (fun H locs hP hD hS => ?_)
      have hP : va_P D classes (rc6 a q_t Q_t (sI (sT (sT (sT z_t 0 ((gI z_t 3).toNatClampNeg) x1) 1 ((gI z_t 3).toNatClampNeg) x2) 2 ((gI z_t 3).toNatClampNeg) x3) 3 ((gI z_t 3) + 1))) H := hP
      have hD : va_D A (rc6 a q_t Q_t (sI (sT (sT (sT z_t 0 ((gI z_t 3).toNatClampNeg) x1) 1 ((gI z_t 3).toNatClampNeg) x2) 2 ((gI z_t 3).toNatClampNeg) x3) 3 ((gI z_t 3) + 1))) := hD
      exact rMv C rfl h (g := fun y => rc6 a q_t Q_t y) hP hD hS dX6_addToken_59

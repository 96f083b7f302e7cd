set_option maxHeartbeats 4000000 in
set_option maxRecDepth 100000 in
theorem wJ7_fill_53178_5 {p : Program} {l : Launch} {e : Env} {s : State} {m : MethodId} {below : List Frame} {meth : Method} {c : Code} {D : va_G} {a : Nat → ClassId} {A : Nat → Prop} {q_p0 : Nat} {n_p0 : Nat} {x10 : Int32} {x1 : Int32} {x3 : Int32} (C : Cx p s m #[.ref q_p0, .int x10] meth c MJ7_fill_53178) (hK : KK D a s) (hA : ∀ q, s.heap.size ≤ q → A q) {y : (Nat → Int32)} : ∀ (n : Nat) (f_p0 : Nat → Int32) (x2 : Int32) (H : Heap) (locs : List Loc) (ls : Array Slot), lJ7_fill_53178_5 n_p0 x1 x3 n f_p0 x2 = some y → va_P D classes (ra0 a q_p0 n_p0 f_p0) H → va_D A (ra0 a q_p0 n_p0 f_p0) → va_S A s.heap H locs → lv_has ls 4 [(0, .ref q_p0), (1, .int x1), (2, .int x2), (3, .int x3)] → W p l e (rmM 0 0 0 0) s m #[.ref q_p0, .int x10] below meth c H locs 0 0 (MQ below (va_Qv (fun (_ : Unit) => True) (Bw D A (fun _ => ra0 a q_p0 n_p0 y)) A) #[.ref q_p0, .int x10] s 0 0 A) (F0 m 5 ls []) := by
  obtain ⟨hx, hb, hml, hown, hts, hr, hlocks, hnm⟩ := id C
  have hb : c.code = cJ7_fill_53178 := hb
  have hown : s.vm.findClass RJ7 = some m.cls := hown
  intro n
  induction n with
  | zero => intro f_p0 x2 H locs ls h; rw [lJ7_fill_53178_5] at h; cases h
  | succ n ih =>
    intro f_p0 x2 H locs ls h hP hD hS hl
    rw [lJ7_fill_53178_5] at h
    refine lv_iload_n hx hb dJ7_fill_53178_5 rfl (lv_at hl 2 rfl) ?_
    refine lv_iload_n hx hb dJ7_fill_53178_6 rfl (lv_at hl 3 rfl) ?_
    refine lv_icmp_ge (tgt := 20) hx hb dJ7_fill_53178_7 (by decide) (fun c1 => ?_) (fun c1 => ?_)
    · have h := ite_t c1 h
      exact rMv C rfl h (g := fun y => ra0 a q_p0 n_p0 y) hP hD hS dJ7_fill_53178_20
    · have h := ite_f c1 h
      refine lv_aload_n hx hb dJ7_fill_53178_10 rfl (lv_at hl 0 rfl) ?_
      refine lv_iload_n hx hb dJ7_fill_53178_11 rfl (lv_at hl 2 rfl) ?_
      refine lv_iload_n hx hb dJ7_fill_53178_12 rfl (lv_at hl 1 rfl) ?_
      obtain ⟨g2, h⟩ := gd_some h
      refine ast_i hx hb hK.1 hP hD hS 0 0 rfl rfl x2.toNatClampNeg (ix_g g2) dJ7_fill_53178_13 (fun H locs hP hD hS => ?_)
      have hP : va_P D classes (ra0 a q_p0 n_p0 (upd f_p0 x2.toNatClampNeg x1)) H := hP
      have hD : va_D A (ra0 a q_p0 n_p0 (upd f_p0 x2.toNatClampNeg x1)) := hD
      refine lv_iinc (v := x2 + 1) (lv' := [(2, .int (x2 + 1)), (0, .ref q_p0), (1, .int x1), (3, .int x3)]) hx hb dJ7_fill_53178_14 hl (k := 2) rfl rfl (by decide) rfl (fun ls hl => ?_)
      refine lv_goto (tgt := 5) hx hb dJ7_fill_53178_17 (by decide) ?_
      exact ih (upd f_p0 x2.toNatClampNeg x1) (x2 + 1) _ _ ls h hP hD hS (lv_sub hl [1, 2, 0, 3] rfl)

set_option maxHeartbeats 4000000 in
set_option maxRecDepth 100000 in
theorem mJ7_fill_53178 (l : Launch) (D : va_G) (a : Nat → ClassId) {q_p0 : Nat} {n_p0 : Nat} {f_p0 : Nat → Int32} {x1 : Int32} {y : (Nat → Int32)} (h : fJ7_fill_53178 n_p0 f_p0 x1 = some y) (sz : Nat) : CMv (S := Unit) l MJ7_fill_53178 0 0 0 0 D a [.ref q_p0, .int x1] (ra0 a q_p0 n_p0 f_p0) sz (fun _ => True) (fun _ => ra0 a q_p0 n_p0 y) := by
  unfold fJ7_fill_53178 at h
  refine entMv (by decide) (Nat.le_of_ble_eq_true rfl) ?_
  intro p e s m below meth c C hK A hA hP hD ls hl
  obtain ⟨hx, hb, hml, hown, hts, hr, hlocks, hnm⟩ := id C
  have hb : c.code = cJ7_fill_53178 := hb
  have hown : s.vm.findClass RJ7 = some m.cls := hown
  have hS : va_S A s.heap s.heap [] := va_S.rf
  have hl : lv_has ls 4 [(0, .ref q_p0), (1, .int x1)] := hl
  refine lv_iconst (v := 0) hx hb dJ7_fill_53178_0 (by decide) ?_
  refine lv_istore_n (lv' := [(2, .int 0), (0, .ref q_p0), (1, .int x1)]) hx hb dJ7_fill_53178_1 rfl hl (by decide) rfl (fun ls hl => ?_)
  refine lv_aload_n hx hb dJ7_fill_53178_2 rfl (lv_at hl 1 rfl) ?_
  refine va_alen (v := nI n_p0) hx hb hK.1 hP 0 0 rfl rfl rfl dJ7_fill_53178_3 ?_
  refine lv_istore_n (lv' := [(3, .int (nI n_p0)), (2, .int 0), (0, .ref q_p0), (1, .int x1)]) hx hb dJ7_fill_53178_4 rfl hl (by decide) rfl (fun ls hl => ?_)
  refine wJ7_fill_53178_5 C hK hA FU f_p0 0 _ _ ls h hP hD hS (lv_sub hl [2, 3, 1, 0] rfl)

set_option maxHeartbeats 4000000 in
set_option maxRecDepth 100000 in
theorem mX0_begin (l : Launch) (D : va_G) (a : Nat → ClassId) {q_t : Nat} {Q_t : Nat → Nat} {z_t : Sx} {x1 : Int32} {y : Sx} (h : fX0_begin z_t x1 = some y) (sz : Nat) : CMv (S := Unit) l MX0_begin 1 23 0 0 D a [.ref q_t, .int x1] (rc0 a q_t Q_t z_t) sz (fun _ => True) (fun _ => rc0 a q_t Q_t y) := by
  unfold fX0_begin at h
  refine entMv (by decide) (Nat.le_of_ble_eq_true rfl) ?_
  intro p e s m below meth c C hK A hA hP hD ls hl
  obtain ⟨hx, hb, hml, hown, hts, hr, hlocks, hnm⟩ := id C
  have hb : c.code = cX0_begin := hb
  have hown : s.vm.findClass RX0 = some m.cls := hown
  have hS : va_S A s.heap s.heap [] := va_S.rf
  have hl : lv_has ls 2 [(0, .ref q_t), (1, .int x1)] := hl
  refine lv_aload_n hx hb dX0_begin_0 rfl (lv_at hl 0 rfl) ?_
  refine lv_iload_n hx hb dX0_begin_1 rfl (lv_at hl 1 rfl) ?_
  refine va_put (D := D) (v := .int x1) (C := RX0) (T := TX0) (N := 6) hx hb hts iX0 tyX0 tyX0_ok nmX0 hown hK.1 hP hD hS 0 rfl rfl 0 (by decide) (hts _ t_130) (fun _ h9 => h9) rfl (tyX0_ok 0 (by decide)) rfl rfl (Nat.le_of_ble_eq_true rfl) dX0_begin_2 (fun H locs hP hD hS => ?_)
  have hP : va_P D classes (rc0 a q_t Q_t (sI z_t 0 x1)) H := hP
  have hD : va_D A (rc0 a q_t Q_t (sI z_t 0 x1)) := hD
  refine lv_aload_n hx hb dX0_begin_5 rfl (lv_at hl 0 rfl) ?_
  refine lv_iconst (v := 0) hx hb dX0_begin_6 (by decide) ?_
  refine va_put (D := D) (v := .int 0) (C := RX0) (T := TX0) (N := 6) hx hb hts iX0 tyX0 tyX0_ok nmX0 hown hK.1 hP hD hS 0 rfl rfl 1 (by decide) (hts _ t_133) (fun _ h9 => h9) rfl (tyX0_ok 1 (by decide)) rfl rfl (Nat.le_of_ble_eq_true rfl) dX0_begin_7 (fun H locs hP hD hS => ?_)
  have hP : va_P D classes (rc0 a q_t Q_t (sI (sI z_t 0 x1) 1 0)) H := hP
  have hD : va_D A (rc0 a q_t Q_t (sI (sI z_t 0 x1) 1 0)) := hD
  refine lv_aload_n hx hb dX0_begin_10 rfl (lv_at hl 0 rfl) ?_
  refine lv_iconst (v := 0) hx hb dX0_begin_11 (by decide) ?_
  refine va_put (D := D) (v := .int 0) (C := RX0) (T := TX0) (N := 6) hx hb hts iX0 tyX0 tyX0_ok nmX0 hown hK.1 hP hD hS 0 rfl rfl 2 (by decide) (hts _ t_136) (fun _ h9 => h9) rfl (tyX0_ok 2 (by decide)) rfl rfl (Nat.le_of_ble_eq_true rfl) dX0_begin_12 (fun H locs hP hD hS => ?_)
  have hP : va_P D classes (rc0 a q_t Q_t (sI (sI (sI z_t 0 x1) 1 0) 2 0)) H := hP
  have hD : va_D A (rc0 a q_t Q_t (sI (sI (sI z_t 0 x1) 1 0) 2 0)) := hD
  refine lv_aload_n hx hb dX0_begin_15 rfl (lv_at hl 0 rfl) ?_
  refine va_get (D := D) (v := .ref (Q_t 5)) (C := RX0) (T := TX0) (N := 6) hx hb hts iX0 hown hK.1 hP 0 rfl rfl 5 (by decide) (hts _ t_144) (fun _ h9 => h9) rfl dX0_begin_16 ?_
  refine lv_iconst (v := 0) hx hb dX0_begin_19 (by decide) ?_
  obtain ⟨z2, hc1, h⟩ := bd_some h
  refine cMv (runS (As := [.ref (Q_t 5), .int 0]) (rest := []) C (mJ7_fill_53178 l D a (q_p0 := (Q_t 5)) hc1 H.size) lk_S_0_37 okN_J7_fill_53178 ⟨Nat.le_of_ble_eq_true rfl, Nat.le_of_ble_eq_true rfl⟩ ⟨rfl, rfl⟩ (preM hK (P_of_map (wc := ra0 a (Q_t 5) 10 (gT (sI (sI (sI z_t 0 x1) 1 0) 2 0) 5)) hP [1] rfl) (hD.sub (ws' := ra0 a (Q_t 5) 10 (gT (sI (sI (sI z_t 0 x1) 1 0) 2 0) 5)) [1] (by decide) rfl)) hl.1 rfl (Nat.le_of_ble_eq_true rfl) dX0_begin_20 ⟨Nat.le_of_ble_eq_true rfl, Nat.le_of_ble_eq_true rfl⟩) hP hD hS hA [1] [0] [0, 1] rfl rfl (by decide) (by decide) (fw := rc0 a q_t Q_t (sTf (sI (sI (sI z_t 0 x1) 1 0) 2 0) 5 z2)) rfl (by decide) (fun H locs hP hD hS => ?_)
  have hP : va_P D classes (rc0 a q_t Q_t (sTf (sI (sI (sI z_t 0 x1) 1 0) 2 0) 5 z2)) H := hP
  have hD : va_D A (rc0 a q_t Q_t (sTf (sI (sI (sI z_t 0 x1) 1 0) 2 0) 5 z2)) := hD
  exact rMv C rfl h (g := fun y => rc0 a q_t Q_t y) hP hD hS dX0_begin_23

set_option maxHeartbeats 4000000 in
set_option maxRecDepth 100000 in
theorem mX0_copyFrom (l : Launch) (D : va_G) (a : Nat → ClassId) {q_t : Nat} {q_p1 : Nat} {Q_t : Nat → Nat} {z_t : Sx} {Q_p1 : Nat → Nat} {z_p1 : Sx} {y : Sx} (h : fX0_copyFrom z_t z_p1 = some y) (sz : Nat) : CMv (S := Unit) l MX0_copyFrom 1 60 0 0 D a [.ref q_t, .ref q_p1] (rc0 a q_t Q_t z_t ++ (rc0 a q_p1 Q_p1 z_p1)) sz (fun _ => True) (fun _ => rc0 a q_t Q_t y ++ (rc0 a q_p1 Q_p1 z_p1)) := by
  unfold fX0_copyFrom at h
  refine entMv (by decide) (Nat.le_of_ble_eq_true rfl) ?_
  intro p e s m below meth c C hK A hA hP hD ls hl
  obtain ⟨hx, hb, hml, hown, hts, hr, hlocks, hnm⟩ := id C
  have hb : c.code = cX0_copyFrom := hb
  have hown : s.vm.findClass RX0 = some m.cls := hown
  have hS : va_S A s.heap s.heap [] := va_S.rf
  have hl : lv_has ls 2 [(0, .ref q_t), (1, .ref q_p1)] := hl
  refine lv_aload_n hx hb dX0_copyFrom_0 rfl (lv_at hl 0 rfl) ?_
  refine lv_aload_n hx hb dX0_copyFrom_1 rfl (lv_at hl 1 rfl) ?_
  refine va_get (D := D) (v := .int (gI z_p1 0)) (C := RX0) (T := TX0) (N := 6) hx hb hts iX0 hown hK.1 hP 2 rfl rfl 0 (by decide) (hts _ t_130) (fun _ h9 => h9) rfl dX0_copyFrom_2 ?_
  refine va_put (D := D) (v := .int (gI z_p1 0)) (C := RX0) (T := TX0) (N := 6) hx hb hts iX0 tyX0 tyX0_ok nmX0 hown hK.1 hP hD hS 0 rfl rfl 0 (by decide) (hts _ t_130) (fun _ h9 => h9) rfl (tyX0_ok 0 (by decide)) rfl rfl (Nat.le_of_ble_eq_true rfl) dX0_copyFrom_5 (fun H locs hP hD hS => ?_)
  have hP : va_P D classes (rc0 a q_t Q_t (sI z_t 0 (gI z_p1 0)) ++ (rc0 a q_p1 Q_p1 z_p1)) H := hP
  have hD : va_D A (rc0 a q_t Q_t (sI z_t 0 (gI z_p1 0)) ++ (rc0 a q_p1 Q_p1 z_p1)) := hD
  refine lv_aload_n hx hb dX0_copyFrom_8 rfl (lv_at hl 0 rfl) ?_
  refine lv_aload_n hx hb dX0_copyFrom_9 rfl (lv_at hl 1 rfl) ?_
  refine va_get (D := D) (v := .int (gI z_p1 1)) (C := RX0) (T := TX0) (N := 6) hx hb hts iX0 hown hK.1 hP 2 rfl rfl 1 (by decide) (hts _ t_133) (fun _ h9 => h9) rfl dX0_copyFrom_10 ?_
  refine va_put (D := D) (v := .int (gI z_p1 1)) (C := RX0) (T := TX0) (N := 6) hx hb hts iX0 tyX0 tyX0_ok nmX0 hown hK.1 hP hD hS 0 rfl rfl 1 (by decide) (hts _ t_133) (fun _ h9 => h9) rfl (tyX0_ok 1 (by decide)) rfl rfl (Nat.le_of_ble_eq_true rfl) dX0_copyFrom_13 (fun H locs hP hD hS => ?_)
  have hP : va_P D classes (rc0 a q_t Q_t (sI (sI z_t 0 (gI z_p1 0)) 1 (gI z_p1 1)) ++ (rc0 a q_p1 Q_p1 z_p1)) H := hP
  have hD : va_D A (rc0 a q_t Q_t (sI (sI z_t 0 (gI z_p1 0)) 1 (gI z_p1 1)) ++ (rc0 a q_p1 Q_p1 z_p1)) := hD
  refine lv_aload_n hx hb dX0_copyFrom_16 rfl (lv_at hl 0 rfl) ?_
  refine lv_aload_n hx hb dX0_copyFrom_17 rfl (lv_at hl 1 rfl) ?_
  refine va_get (D := D) (v := .int (gI z_p1 2)) (C := RX0) (T := TX0) (N := 6) hx hb hts iX0 hown hK.1 hP 2 rfl rfl 2 (by decide) (hts _ t_136) (fun _ h9 => h9) rfl dX0_copyFrom_18 ?_
  refine va_put (D := D) (v := .int (gI z_p1 2)) (C := RX0) (T := TX0) (N := 6) hx hb hts iX0 tyX0 tyX0_ok nmX0 hown hK.1 hP hD hS 0 rfl rfl 2 (by decide) (hts _ t_136) (fun _ h9 => h9) rfl (tyX0_ok 2 (by decide)) rfl rfl (Nat.le_of_ble_eq_true rfl) dX0_copyFrom_21 (fun H locs hP hD hS => ?_)
  have hP : va_P D classes (rc0 a q_t Q_t (sI (sI (sI z_t 0 (gI z_p1 0)) 1 (gI z_p1 1)) 2 (gI z_p1 2)) ++ (rc0 a q_p1 Q_p1 z_p1)) H := hP
  have hD : va_D A (rc0 a q_t Q_t (sI (sI (sI z_t 0 (gI z_p1 0)) 1 (gI z_p1 1)) 2 (gI z_p1 2)) ++ (rc0 a q_p1 Q_p1 z_p1)) := hD
  refine lv_aload_n hx hb dX0_copyFrom_24 rfl (lv_at hl 0 rfl) ?_
  refine lv_aload_n hx hb dX0_copyFrom_25 rfl (lv_at hl 1 rfl) ?_
  refine va_get (D := D) (v := .int (gI z_p1 3)) (C := RX0) (T := TX0) (N := 6) hx hb hts iX0 hown hK.1 hP 2 rfl rfl 3 (by decide) (hts _ t_139) (fun _ h9 => h9) rfl dX0_copyFrom_26 ?_
  refine va_put (D := D) (v := .int (gI z_p1 3)) (C := RX0) (T := TX0) (N := 6) hx hb hts iX0 tyX0 tyX0_ok nmX0 hown hK.1 hP hD hS 0 rfl rfl 3 (by decide) (hts _ t_139) (fun _ h9 => h9) rfl (tyX0_ok 3 (by decide)) rfl rfl (Nat.le_of_ble_eq_true rfl) dX0_copyFrom_29 (fun H locs hP hD hS => ?_)
  have hP : va_P D classes (rc0 a q_t Q_t (sI (sI (sI (sI z_t 0 (gI z_p1 0)) 1 (gI z_p1 1)) 2 (gI z_p1 2)) 3 (gI z_p1 3)) ++ (rc0 a q_p1 Q_p1 z_p1)) H := hP
  have hD : va_D A (rc0 a q_t Q_t (sI (sI (sI (sI z_t 0 (gI z_p1 0)) 1 (gI z_p1 1)) 2 (gI z_p1 2)) 3 (gI z_p1 3)) ++ (rc0 a q_p1 Q_p1 z_p1)) := hD
  refine lv_aload_n hx hb dX0_copyFrom_32 rfl (lv_at hl 0 rfl) ?_
  refine lv_aload_n hx hb dX0_copyFrom_33 rfl (lv_at hl 1 rfl) ?_
  refine va_get (D := D) (v := .int (gI z_p1 4)) (C := RX0) (T := TX0) (N := 6) hx hb hts iX0 hown hK.1 hP 2 rfl rfl 4 (by decide) (hts _ t_142) (fun _ h9 => h9) rfl dX0_copyFrom_34 ?_
  refine va_put (D := D) (v := .int (gI z_p1 4)) (C := RX0) (T := TX0) (N := 6) hx hb hts iX0 tyX0 tyX0_ok nmX0 hown hK.1 hP hD hS 0 rfl rfl 4 (by decide) (hts _ t_142) (fun _ h9 => h9) rfl (tyX0_ok 4 (by decide)) rfl rfl (Nat.le_of_ble_eq_true rfl) dX0_copyFrom_37 (fun H locs hP hD hS => ?_)
  have hP : va_P D classes (rc0 a q_t Q_t (sI (sI (sI (sI (sI z_t 0 (gI z_p1 0)) 1 (gI z_p1 1)) 2 (gI z_p1 2)) 3 (gI z_p1 3)) 4 (gI z_p1 4)) ++ (rc0 a q_p1 Q_p1 z_p1)) H := hP
  have hD : va_D A (rc0 a q_t Q_t (sI (sI (sI (sI (sI z_t 0 (gI z_p1 0)) 1 (gI z_p1 1)) 2 (gI z_p1 2)) 3 (gI z_p1 3)) 4 (gI z_p1 4)) ++ (rc0 a q_p1 Q_p1 z_p1)) := hD
  refine lv_aload_n hx hb dX0_copyFrom_40 rfl (lv_at hl 1 rfl) ?_
  refine va_get (D := D) (v := .ref (Q_p1 5)) (C := RX0) (T := TX0) (N := 6) hx hb hts iX0 hown hK.1 hP 2 rfl rfl 5 (by decide) (hts _ t_144) (fun _ h9 => h9) rfl dX0_copyFrom_41 ?_
  refine lv_iconst (v := 0) hx hb dX0_copyFrom_44 (by decide) ?_
  refine lv_aload_n hx hb dX0_copyFrom_45 rfl (lv_at hl 0 rfl) ?_
  refine va_get (D := D) (v := .ref (Q_t 5)) (C := RX0) (T := TX0) (N := 6) hx hb hts iX0 hown hK.1 hP 0 rfl rfl 5 (by decide) (hts _ t_144) (fun _ h9 => h9) rfl dX0_copyFrom_46 ?_
  refine lv_iconst (v := 0) hx hb dX0_copyFrom_49 (by decide) ?_
  refine lv_bipush (v := 10) hx hb dX0_copyFrom_50 (by decide) ?_
  refine va_copyi hx hb (by rw [hml]; exact hl.1.symm) hown (hts _ t_740) (hts _ t_574) (hts _ t_573) (hts _ t_17) hK.1 hP hD hS 3 1 0 0 rfl rfl rfl rfl rfl (by decide) (by decide) (by decide) (by decide) (by decide) (fun _ _ => rfl) (Nat.le_of_ble_eq_true rfl) (Nat.le_of_ble_eq_true rfl) dX0_copyFrom_52 (fun H locs hP hD hS => ?_)
  have hP : va_P D classes (rc0 a q_t Q_t (sTf (sI (sI (sI (sI (sI z_t 0 (gI z_p1 0)) 1 (gI z_p1 1)) 2 (gI z_p1 2)) 3 (gI z_p1 3)) 4 (gI z_p1 4)) 5 (va_cpy (gT z_p1 5) (gT (sI (sI (sI (sI (sI z_t 0 (gI z_p1 0)) 1 (gI z_p1 1)) 2 (gI z_p1 2)) 3 (gI z_p1 3)) 4 (gI z_p1 4)) 5) 0 0 10)) ++ (rc0 a q_p1 Q_p1 z_p1)) H := hP
  have hD : va_D A (rc0 a q_t Q_t (sTf (sI (sI (sI (sI (sI z_t 0 (gI z_p1 0)) 1 (gI z_p1 1)) 2 (gI z_p1 2)) 3 (gI z_p1 3)) 4 (gI z_p1 4)) 5 (va_cpy (gT z_p1 5) (gT (sI (sI (sI (sI (sI z_t 0 (gI z_p1 0)) 1 (gI z_p1 1)) 2 (gI z_p1 2)) 3 (gI z_p1 3)) 4 (gI z_p1 4)) 5) 0 0 10)) ++ (rc0 a q_p1 Q_p1 z_p1)) := hD
  exact rMv C rfl h (g := fun y => rc0 a q_t Q_t y ++ (rc0 a q_p1 Q_p1 z_p1)) hP hD hS dX0_copyFrom_55

set_option maxHeartbeats 4000000 in
set_option maxRecDepth 100000 in
theorem mX0_gone (l : Launch) (D : va_G) (a : Nat → ClassId) {q_t : Nat} {Q_t : Nat → Nat} {z_t : Sx} {y : Int32} (h : fX0_gone z_t = some y) : CRi l MX0_gone 0 0 D a [.ref q_t] (rc0 a q_t Q_t z_t) (fun r => r = y) := by
  unfold fX0_gone at h
  refine entR (by decide) (Nat.le_of_ble_eq_true rfl) ?_
  intro p e s m below meth c C hK hP ls hl
  obtain ⟨hx, hb, hml, hown, hts, hr, hlocks, hnm⟩ := id C
  have hb : c.code = cX0_gone := hb
  have hown : s.vm.findClass RX0 = some m.cls := hown
  have hl : lv_has ls 1 [(0, .ref q_t)] := hl
  refine lv_aload_n hx hb dX0_gone_0 rfl (lv_at hl 0 rfl) ?_
  refine va_get (D := D) (v := .int (gI z_t 2)) (C := RX0) (T := TX0) (N := 6) hx hb hts iX0 hown hK.1 hP 0 rfl rfl 2 (by decide) (hts _ t_136) (fun _ h9 => h9) rfl dX0_gone_1 ?_
  refine lv_aload_n hx hb dX0_gone_4 rfl (lv_at hl 0 rfl) ?_
  refine va_get (D := D) (v := .int (gI z_t 3)) (C := RX0) (T := TX0) (N := 6) hx hb hts iX0 hown hK.1 hP 0 rfl rfl 3 (by decide) (hts _ t_139) (fun _ h9 => h9) rfl dX0_gone_5 ?_
  refine lv_ior hx hb dX0_gone_8 ?_
  exact rRi C rfl (Option.some.inj h) dX0_gone_9

set_option maxHeartbeats 4000000 in
set_option maxRecDepth 100000 in
theorem mX8_at (l : Launch) (D : va_G) (a : Nat → ClassId) {q_p0 : Nat} {n_p0 : Nat} {f_p0 : Nat → Int32} {x1 : Int32} {y : Int32} (h : fX8_at n_p0 f_p0 x1 = some y) : CRi l MX8_at 0 0 D a [.ref q_p0, .int x1] (ra0 a q_p0 n_p0 f_p0) (fun r => r = y) := by
  unfold fX8_at at h
  refine entR (by decide) (Nat.le_of_ble_eq_true rfl) ?_
  intro p e s m below meth c C hK hP ls hl
  obtain ⟨hx, hb, hml, hown, hts, hr, hlocks, hnm⟩ := id C
  have hb : c.code = cX8_at := hb
  have hown : s.vm.findClass RX8 = some m.cls := hown
  have hl : lv_has ls 2 [(0, .ref q_p0), (1, .int x1)] := hl
  refine lv_iload_n hx hb dX8_at_0 rfl (lv_at hl 1 rfl) ?_
  refine lv_if_lt (tgt := 16) hx hb dX8_at_1 (by decide) (fun c1 => ?_) (fun c1 => ?_)
  · have h := ite_t c1 h
    refine lv_iconst (v := 0) hx hb dX8_at_16 (by decide) ?_
    exact rRi C rfl (Option.some.inj h) dX8_at_17
  · have h := ite_f c1 h
    refine lv_iload_n hx hb dX8_at_4 rfl (lv_at hl 1 rfl) ?_
    refine lv_aload_n hx hb dX8_at_5 rfl (lv_at hl 0 rfl) ?_
    refine va_alen (v := nI n_p0) hx hb hK.1 hP 0 0 rfl rfl rfl dX8_at_6 ?_
    refine lv_icmp_ge (tgt := 16) hx hb dX8_at_7 (by decide) (fun c2 => ?_) (fun c2 => ?_)
    · have h := ite_t c2 h
      refine lv_iconst (v := 0) hx hb dX8_at_16 (by decide) ?_
      exact rRi C rfl (Option.some.inj h) dX8_at_17
    · have h := ite_f c2 h
      refine lv_aload_n hx hb dX8_at_10 rfl (lv_at hl 0 rfl) ?_
      refine lv_iload_n hx hb dX8_at_11 rfl (lv_at hl 1 rfl) ?_
      obtain ⟨g3, h⟩ := gd_some h
      refine ald_i hx hb hK.1 hP 0 0 rfl rfl x1.toNatClampNeg (ix_g g3) dX8_at_12 ?_
      refine lv_goto (tgt := 17) hx hb dX8_at_13 (by decide) ?_
      exact rRi C rfl (Option.some.inj h) dX8_at_17

set_option maxHeartbeats 4000000 in
set_option maxRecDepth 100000 in
theorem mX8_put (l : Launch) (D : va_G) (a : Nat → ClassId) {q_p0 : Nat} {n_p0 : Nat} {f_p0 : Nat → Int32} {x1 : Int32} {x2 : Int32} {y : (Nat → Int32)} (h : fX8_put n_p0 f_p0 x1 x2 = some y) (sz : Nat) : CMv (S := Unit) l MX8_put 0 0 0 0 D a [.ref q_p0, .int x1, .int x2] (ra0 a q_p0 n_p0 f_p0) sz (fun _ => True) (fun _ => ra0 a q_p0 n_p0 y) := by
  unfold fX8_put at h
  refine entMv (by decide) (Nat.le_of_ble_eq_true rfl) ?_
  intro p e s m below meth c C hK A hA hP hD ls hl
  obtain ⟨hx, hb, hml, hown, hts, hr, hlocks, hnm⟩ := id C
  have hb : c.code = cX8_put := hb
  have hown : s.vm.findClass RX8 = some m.cls := hown
  have hS : va_S A s.heap s.heap [] := va_S.rf
  have hl : lv_has ls 3 [(0, .ref q_p0), (1, .int x1), (2, .int x2)] := hl
  refine lv_iload_n hx hb dX8_put_0 rfl (lv_at hl 1 rfl) ?_
  refine lv_if_lt (tgt := 14) hx hb dX8_put_1 (by decide) (fun c1 => ?_) (fun c1 => ?_)
  · have h := ite_t c1 h
    exact rMv C rfl h (g := fun y => ra0 a q_p0 n_p0 y) hP hD hS dX8_put_14
  · have h := ite_f c1 h
    refine lv_iload_n hx hb dX8_put_4 rfl (lv_at hl 1 rfl) ?_
    refine lv_aload_n hx hb dX8_put_5 rfl (lv_at hl 0 rfl) ?_
    refine va_alen (v := nI n_p0) hx hb hK.1 hP 0 0 rfl rfl rfl dX8_put_6 ?_
    refine lv_icmp_ge (tgt := 14) hx hb dX8_put_7 (by decide) (fun c2 => ?_) (fun c2 => ?_)
    · have h := ite_t c2 h
      exact rMv C rfl h (g := fun y => ra0 a q_p0 n_p0 y) hP hD hS dX8_put_14
    · have h := ite_f c2 h
      refine lv_aload_n hx hb dX8_put_10 rfl (lv_at hl 0 rfl) ?_
      refine lv_iload_n hx hb dX8_put_11 rfl (lv_at hl 1 rfl) ?_
      refine lv_iload_n hx hb dX8_put_12 rfl (lv_at hl 2 rfl) ?_
      obtain ⟨g3, h⟩ := gd_some h
      refine ast_i hx hb hK.1 hP hD hS 0 0 rfl rfl x1.toNatClampNeg (ix_g g3) dX8_put_13 (fun H locs hP hD hS => ?_)
      have hP : va_P D classes (ra0 a q_p0 n_p0 (upd f_p0 x1.toNatClampNeg x2)) H := hP
      have hD : va_D A (ra0 a q_p0 n_p0 (upd f_p0 x1.toNatClampNeg x2)) := hD
      exact rMv C rfl h (g := fun y => ra0 a q_p0 n_p0 y) hP hD hS dX8_put_14

set_option maxHeartbeats 4000000 in
set_option maxRecDepth 100000 in
theorem mX8_bit (l : Launch) (D : va_G) (a : Nat → ClassId) {x0 : Int32} {y : Int32} (h : fX8_bit x0 = some y) : CRi l MX8_bit 0 0 D a [.int x0] ([]) (fun r => r = y) := by
  unfold fX8_bit at h
  refine entR (by decide) (Nat.le_of_ble_eq_true rfl) ?_
  intro p e s m below meth c C hK hP ls hl
  obtain ⟨hx, hb, hml, hown, hts, hr, hlocks, hnm⟩ := id C
  have hb : c.code = cX8_bit := hb
  have hown : s.vm.findClass RX8 = some m.cls := hown
  have hl : lv_has ls 1 [(0, .int x0)] := hl
  refine lv_iconst (v := 1) hx hb dX8_bit_0 (by decide) ?_
  refine lv_iload_n hx hb dX8_bit_1 rfl (lv_at hl 0 rfl) ?_
  refine lv_ishl hx hb dX8_bit_2 ?_
  exact rRi C rfl (Option.some.inj h) dX8_bit_3

set_option maxHeartbeats 4000000 in
set_option maxRecDepth 100000 in
theorem mX0_lookFor (l : Launch) (D : va_G) (a : Nat → ClassId) {q_t : Nat} {q_p1 : Nat} {Q_t : Nat → Nat} {z_t : Sx} {Q_p1 : Nat → Nat} {z_p1 : Sx} {x2 : Int32} {y : Int32 × Sx} (h : fX0_lookFor z_t z_p1 x2 = some y) (sz : Nat) : CMi (S := Unit) l MX0_lookFor 1 22 0 0 D a [.ref q_t, .ref q_p1, .int x2] (rc0 a q_t Q_t z_t ++ (rc7 a q_p1 Q_p1 z_p1)) sz (fun r _ => r = y.1) (fun _ => rc0 a q_t Q_t y.2 ++ (rc7 a q_p1 Q_p1 z_p1)) := by
  unfold fX0_lookFor at h
  refine entMi (by decide) (Nat.le_of_ble_eq_true rfl) ?_
  intro p e s m below meth c C hK A hA hP hD ls hl
  obtain ⟨hx, hb, hml, hown, hts, hr, hlocks, hnm⟩ := id C
  have hb : c.code = cX0_lookFor := hb
  have hown : s.vm.findClass RX0 = some m.cls := hown
  have hS : va_S A s.heap s.heap [] := va_S.rf
  have hl : lv_has ls 3 [(0, .ref q_t), (1, .ref q_p1), (2, .int x2)] := hl
  refine lv_aload_n hx hb dX0_lookFor_0 rfl (lv_at hl 0 rfl) ?_
  refine lv_dup hx hb dX0_lookFor_1 rfl ?_
  refine va_get (D := D) (v := .int (gI z_t 0)) (C := RX0) (T := TX0) (N := 6) hx hb hts iX0 hown hK.1 hP 0 rfl rfl 0 (by decide) (hts _ t_130) (fun _ h9 => h9) rfl dX0_lookFor_2 ?_
  refine lv_aload_n hx hb dX0_lookFor_5 rfl (lv_at hl 1 rfl) ?_
  refine va_get (D := D) (v := .ref (Q_p1 9)) (C := RX7) (T := TX7) (N := 18) hx hb hts iX7 hown hK.1 hP 2 rfl rfl 9 (by decide) (hts _ t_61) (fun _ h9 => h9) rfl dX0_lookFor_6 ?_
  refine lv_iload_n hx hb dX0_lookFor_9 rfl (lv_at hl 2 rfl) ?_
  obtain ⟨r2, hc1, h⟩ := bd_some h
  refine cRi (runN (As := [.ref (Q_p1 9), .int x2]) (rest := [.int (gI z_t 0), .ref q_t]) C hK (mX8_at l D a (q_p0 := (Q_p1 9)) hc1) lk_N_0_48 okN_X8_at ⟨Nat.le_of_ble_eq_true rfl, Nat.le_of_ble_eq_true rfl⟩ ⟨rfl, rfl⟩ (preR hK (P_of_map (wc := ra0 a (Q_p1 9) 10 (gT z_p1 9)) hP [7] rfl)) hl.1 rfl (Nat.le_of_ble_eq_true rfl) dX0_lookFor_10 ⟨Nat.le_of_ble_eq_true rfl, Nat.le_of_ble_eq_true rfl⟩) ?_
  refine lv_isub hx hb dX0_lookFor_13 ?_
  refine va_put (D := D) (v := .int ((gI z_t 0) - r2)) (C := RX0) (T := TX0) (N := 6) hx hb hts iX0 tyX0 tyX0_ok nmX0 hown hK.1 hP hD hS 0 rfl rfl 0 (by decide) (hts _ t_130) (fun _ h9 => h9) rfl (tyX0_ok 0 (by decide)) rfl rfl (Nat.le_of_ble_eq_true rfl) dX0_lookFor_14 (fun H locs hP hD hS => ?_)
  have hP : va_P D classes (rc0 a q_t Q_t (sI z_t 0 ((gI z_t 0) - r2)) ++ (rc7 a q_p1 Q_p1 z_p1)) H := hP
  have hD : va_D A (rc0 a q_t Q_t (sI z_t 0 ((gI z_t 0) - r2)) ++ (rc7 a q_p1 Q_p1 z_p1)) := hD
  refine lv_aload_n hx hb dX0_lookFor_17 rfl (lv_at hl 0 rfl) ?_
  refine va_get (D := D) (v := .ref (Q_t 5)) (C := RX0) (T := TX0) (N := 6) hx hb hts iX0 hown hK.1 hP 0 rfl rfl 5 (by decide) (hts _ t_144) (fun _ h9 => h9) rfl dX0_lookFor_18 ?_
  refine lv_iload_n hx hb dX0_lookFor_21 rfl (lv_at hl 2 rfl) ?_
  refine lv_aload_n hx hb dX0_lookFor_22 rfl (lv_at hl 0 rfl) ?_
  refine va_get (D := D) (v := .ref (Q_t 5)) (C := RX0) (T := TX0) (N := 6) hx hb hts iX0 hown hK.1 hP 0 rfl rfl 5 (by decide) (hts _ t_144) (fun _ h9 => h9) rfl dX0_lookFor_23 ?_
  refine lv_iload_n hx hb dX0_lookFor_26 rfl (lv_at hl 2 rfl) ?_
  obtain ⟨r4, hc3, h⟩ := bd_some h
  refine cRi (runN (As := [.ref (Q_t 5), .int x2]) (rest := [.int x2, .ref (Q_t 5)]) C hK (mX8_at l D a (q_p0 := (Q_t 5)) hc3) lk_N_0_48 okN_X8_at ⟨Nat.le_of_ble_eq_true rfl, Nat.le_of_ble_eq_true rfl⟩ ⟨rfl, rfl⟩ (preR hK (P_of_map (wc := ra0 a (Q_t 5) 10 (gT (sI z_t 0 ((gI z_t 0) - r2)) 5)) hP [1] rfl)) hl.1 rfl (Nat.le_of_ble_eq_true rfl) dX0_lookFor_27 ⟨Nat.le_of_ble_eq_true rfl, Nat.le_of_ble_eq_true rfl⟩) ?_
  refine lv_iconst (v := 1) hx hb dX0_lookFor_30 (by decide) ?_
  refine lv_iadd hx hb dX0_lookFor_31 ?_
  obtain ⟨z6, hc5, h⟩ := bd_some h
  refine cMv (runN (As := [.ref (Q_t 5), .int x2, .int (r4 + 1)]) (rest := []) C hK (mX8_put l D a (q_p0 := (Q_t 5)) hc5 H.size) lk_N_0_52 okN_X8_put ⟨Nat.le_of_ble_eq_true rfl, Nat.le_of_ble_eq_true rfl⟩ ⟨rfl, rfl⟩ (preM hK (P_of_map (wc := ra0 a (Q_t 5) 10 (gT (sI z_t 0 ((gI z_t 0) - r2)) 5)) hP [1] rfl) (hD.sub (ws' := ra0 a (Q_t 5) 10 (gT (sI z_t 0 ((gI z_t 0) - r2)) 5)) [1] (by decide) rfl)) hl.1 rfl (Nat.le_of_ble_eq_true rfl) dX0_lookFor_32 ⟨Nat.le_of_ble_eq_true rfl, Nat.le_of_ble_eq_true rfl⟩) hP hD hS hA [1] [0, 2, 3, 4, 5, 6, 7, 8, 9, 10, 11, 12, 13, 14] [0, 14, 1, 2, 3, 4, 5, 6, 7, 8, 9, 10, 11, 12, 13] rfl rfl (by decide) (by decide) (fw := rc0 a q_t Q_t (sTf (sI z_t 0 ((gI z_t 0) - r2)) 5 z6) ++ (rc7 a q_p1 Q_p1 z_p1)) rfl (by decide) (fun H locs hP hD hS => ?_)
  have hP : va_P D classes (rc0 a q_t Q_t (sTf (sI z_t 0 ((gI z_t 0) - r2)) 5 z6) ++ (rc7 a q_p1 Q_p1 z_p1)) H := hP
  have hD : va_D A (rc0 a q_t Q_t (sTf (sI z_t 0 ((gI z_t 0) - r2)) 5 z6) ++ (rc7 a q_p1 Q_p1 z_p1)) := hD
  refine lv_aload_n hx hb dX0_lookFor_35 rfl (lv_at hl 0 rfl) ?_
  refine lv_aload_n hx hb dX0_lookFor_36 rfl (lv_at hl 0 rfl) ?_
  refine va_get (D := D) (v := .int (gI z_t 4)) (C := RX0) (T := TX0) (N := 6) hx hb hts iX0 hown hK.1 hP 0 rfl rfl 4 (by decide) (hts _ t_142) (fun _ h9 => h9) rfl dX0_lookFor_37 ?_
  refine lv_i2l (v := (gI z_t 4).toInt64) hx hb dX0_lookFor_40 rfl ?_
  refine lv_ldc2 hx hb hown (hts _ t_651) dX0_lookFor_41 ?_
  refine lv_lmul hx hb dX0_lookFor_44 ?_
  refine lv_ldc2 hx hb hown (hts _ t_652) dX0_lookFor_45 ?_
  refine lv_ladd hx hb dX0_lookFor_48 ?_
  refine lv_ldc2 hx hb hown (hts _ t_653) dX0_lookFor_49 ?_
  refine lv_land hx hb dX0_lookFor_52 ?_
  refine lv_l2i (v := (((((gI z_t 4).toInt64) * 1103515245) + 12345) &&& 2147483647).toInt32) hx hb dX0_lookFor_53 rfl ?_
  refine lv_topi (fun v7 ev7 => ?_)
  have h := nm_some h v7 ev7
  refine va_put (D := D) (v := .int v7) (C := RX0) (T := TX0) (N := 6) hx hb hts iX0 tyX0 tyX0_ok nmX0 hown hK.1 hP hD hS 0 rfl rfl 4 (by decide) (hts _ t_142) (fun _ h9 => h9) rfl (tyX0_ok 4 (by decide)) rfl rfl (Nat.le_of_ble_eq_true rfl) dX0_lookFor_54 (fun H locs hP hD hS => ?_)
  have hP : va_P D classes (rc0 a q_t Q_t (sI (sTf (sI z_t 0 ((gI z_t 0) - r2)) 5 z6) 4 v7) ++ (rc7 a q_p1 Q_p1 z_p1)) H := hP
  have hD : va_D A (rc0 a q_t Q_t (sI (sTf (sI z_t 0 ((gI z_t 0) - r2)) 5 z6) 4 v7) ++ (rc7 a q_p1 Q_p1 z_p1)) := hD
  refine lv_aload_n hx hb dX0_lookFor_57 rfl (lv_at hl 0 rfl) ?_
  refine va_get (D := D) (v := .int v7) (C := RX0) (T := TX0) (N := 6) hx hb hts iX0 hown hK.1 hP 0 rfl rfl 4 (by decide) (hts _ t_142) (fun _ h9 => h9) rfl dX0_lookFor_58 ?_
  refine lv_ldc hx hb hown (hts _ t_654) dX0_lookFor_61 ?_
  refine lv_idiv hx hb dX0_lookFor_63 (by decide) ?_
  refine lv_bipush (v := 100) hx hb dX0_lookFor_64 (by decide) ?_
  refine lv_irem hx hb dX0_lookFor_66 (by decide) ?_
  refine lv_aload_n hx hb dX0_lookFor_67 rfl (lv_at hl 1 rfl) ?_
  refine va_get (D := D) (v := .ref (Q_p1 10)) (C := RX7) (T := TX7) (N := 18) hx hb hts iX7 hown hK.1 hP 2 rfl rfl 10 (by decide) (hts _ t_65) (fun _ h9 => h9) rfl dX0_lookFor_68 ?_
  refine lv_iload_n hx hb dX0_lookFor_71 rfl (lv_at hl 2 rfl) ?_
  obtain ⟨r9, hc8, h⟩ := bd_some h
  refine cRi (runN (As := [.ref (Q_p1 10), .int x2]) (rest := [.int ((v7 / 65536) - (v7 / 65536) / 100 * 100)]) C hK (mX8_at l D a (q_p0 := (Q_p1 10)) hc8) lk_N_0_48 okN_X8_at ⟨Nat.le_of_ble_eq_true rfl, Nat.le_of_ble_eq_true rfl⟩ ⟨rfl, rfl⟩ (preR hK (P_of_map (wc := ra0 a (Q_p1 10) 10 (gT z_p1 10)) hP [8] rfl)) hl.1 rfl (Nat.le_of_ble_eq_true rfl) dX0_lookFor_72 ⟨Nat.le_of_ble_eq_true rfl, Nat.le_of_ble_eq_true rfl⟩) ?_
  refine lv_icmp_lt (tgt := 80) hx hb dX0_lookFor_75 (by decide) (fun c10 => ?_) (fun c10 => ?_)
  · have h := ite_t c10 h
    refine lv_aload_n hx hb dX0_lookFor_80 rfl (lv_at hl 0 rfl) ?_
    refine lv_dup hx hb dX0_lookFor_81 rfl ?_
    refine va_get (D := D) (v := .int (gI z_t 2)) (C := RX0) (T := TX0) (N := 6) hx hb hts iX0 hown hK.1 hP 0 rfl rfl 2 (by decide) (hts _ t_136) (fun _ h9 => h9) rfl dX0_lookFor_82 ?_
    refine lv_iload_n hx hb dX0_lookFor_85 rfl (lv_at hl 2 rfl) ?_
    obtain ⟨r12, hc11, h⟩ := bd_some h
    refine cRi (runN (As := [.int x2]) (rest := [.int (gI z_t 2), .ref q_t]) C hK (mX8_bit l D a hc11) lk_N_0_66 okN_X8_bit ⟨Nat.le_of_ble_eq_true rfl, Nat.le_of_ble_eq_true rfl⟩ ⟨rfl, rfl⟩ (preR hK (P_of_map (wc := []) hP [] rfl)) hl.1 rfl (Nat.le_of_ble_eq_true rfl) dX0_lookFor_86 ⟨Nat.le_of_ble_eq_true rfl, Nat.le_of_ble_eq_true rfl⟩) ?_
    refine lv_ior hx hb dX0_lookFor_89 ?_
    refine va_put (D := D) (v := .int ((gI z_t 2) ||| r12)) (C := RX0) (T := TX0) (N := 6) hx hb hts iX0 tyX0 tyX0_ok nmX0 hown hK.1 hP hD hS 0 rfl rfl 2 (by decide) (hts _ t_136) (fun _ h9 => h9) rfl (tyX0_ok 2 (by decide)) rfl rfl (Nat.le_of_ble_eq_true rfl) dX0_lookFor_90 (fun H locs hP hD hS => ?_)
    have hP : va_P D classes (rc0 a q_t Q_t (sI (sI (sTf (sI z_t 0 ((gI z_t 0) - r2)) 5 z6) 4 v7) 2 ((gI z_t 2) ||| r12)) ++ (rc7 a q_p1 Q_p1 z_p1)) H := hP
    have hD : va_D A (rc0 a q_t Q_t (sI (sI (sTf (sI z_t 0 ((gI z_t 0) - r2)) 5 z6) 4 v7) 2 ((gI z_t 2) ||| r12)) ++ (rc7 a q_p1 Q_p1 z_p1)) := hD
    refine lv_aload_n hx hb dX0_lookFor_93 rfl (lv_at hl 0 rfl) ?_
    refine lv_dup hx hb dX0_lookFor_94 rfl ?_
    refine va_get (D := D) (v := .int (gI z_t 1)) (C := RX0) (T := TX0) (N := 6) hx hb hts iX0 hown hK.1 hP 0 rfl rfl 1 (by decide) (hts _ t_133) (fun _ h9 => h9) rfl dX0_lookFor_95 ?_
    refine lv_aload_n hx hb dX0_lookFor_98 rfl (lv_at hl 1 rfl) ?_
    refine va_get (D := D) (v := .ref (Q_p1 12)) (C := RX7) (T := TX7) (N := 18) hx hb hts iX7 hown hK.1 hP 2 rfl rfl 12 (by decide) (hts _ t_72) (fun _ h9 => h9) rfl dX0_lookFor_99 ?_
    refine lv_iload_n hx hb dX0_lookFor_102 rfl (lv_at hl 2 rfl) ?_
    obtain ⟨r14, hc13, h⟩ := bd_some h
    refine cRi (runN (As := [.ref (Q_p1 12), .int x2]) (rest := [.int (gI z_t 1), .ref q_t]) C hK (mX8_at l D a (q_p0 := (Q_p1 12)) hc13) lk_N_0_48 okN_X8_at ⟨Nat.le_of_ble_eq_true rfl, Nat.le_of_ble_eq_true rfl⟩ ⟨rfl, rfl⟩ (preR hK (P_of_map (wc := ra0 a (Q_p1 12) 10 (gT z_p1 12)) hP [10] rfl)) hl.1 rfl (Nat.le_of_ble_eq_true rfl) dX0_lookFor_103 ⟨Nat.le_of_ble_eq_true rfl, Nat.le_of_ble_eq_true rfl⟩) ?_
    refine lv_iadd hx hb dX0_lookFor_106 ?_
    refine va_put (D := D) (v := .int ((gI z_t 1) + r14)) (C := RX0) (T := TX0) (N := 6) hx hb hts iX0 tyX0 tyX0_ok nmX0 hown hK.1 hP hD hS 0 rfl rfl 1 (by decide) (hts _ t_133) (fun _ h9 => h9) rfl (tyX0_ok 1 (by decide)) rfl rfl (Nat.le_of_ble_eq_true rfl) dX0_lookFor_107 (fun H locs hP hD hS => ?_)
    have hP : va_P D classes (rc0 a q_t Q_t (sI (sI (sI (sTf (sI z_t 0 ((gI z_t 0) - r2)) 5 z6) 4 v7) 2 ((gI z_t 2) ||| r12)) 1 ((gI z_t 1) + r14)) ++ (rc7 a q_p1 Q_p1 z_p1)) H := hP
    have hD : va_D A (rc0 a q_t Q_t (sI (sI (sI (sTf (sI z_t 0 ((gI z_t 0) - r2)) 5 z6) 4 v7) 2 ((gI z_t 2) ||| r12)) 1 ((gI z_t 1) + r14)) ++ (rc7 a q_p1 Q_p1 z_p1)) := hD
    refine lv_iconst (v := 1) hx hb dX0_lookFor_110 (by decide) ?_
    exact rMz C rfl (Or.inr rfl) h (g := fun y => rc0 a q_t Q_t y.2 ++ (rc7 a q_p1 Q_p1 z_p1)) (pr := fun y => y.1) hP hD hS dX0_lookFor_111
  · have h := ite_f c10 h
    refine lv_iconst (v := 0) hx hb dX0_lookFor_78 (by decide) ?_
    exact rMz C rfl (Or.inl rfl) h (g := fun y => rc0 a q_t Q_t y.2 ++ (rc7 a q_p1 Q_p1 z_p1)) (pr := fun y => y.1) hP hD hS dX0_lookFor_79

set_option maxHeartbeats 4000000 in
set_option maxRecDepth 100000 in
theorem mX7_isOpen (l : Launch) (D : va_G) (a : Nat → ClassId) {q_t : Nat} {Q_t : Nat → Nat} {z_t : Sx} {x1 : Int32} {x2 : Int32} {y : Int32} (h : fX7_isOpen z_t x1 x2 = some y) : CRi l MX7_isOpen 0 0 D a [.ref q_t, .int x1, .int x2] (rc7 a q_t Q_t z_t) (fun r => r = y) := by
  unfold fX7_isOpen at h
  refine entR (by decide) (Nat.le_of_ble_eq_true rfl) ?_
  intro p e s m below meth c C hK hP ls hl
  obtain ⟨hx, hb, hml, hown, hts, hr, hlocks, hnm⟩ := id C
  have hb : c.code = cX7_isOpen := hb
  have hown : s.vm.findClass RX7 = some m.cls := hown
  have hl : lv_has ls 4 [(0, .ref q_t), (1, .int x1), (2, .int x2)] := hl
  refine lv_iload_n hx hb dX7_isOpen_0 rfl (lv_at hl 1 rfl) ?_
  refine lv_if_lt (tgt := 21) hx hb dX7_isOpen_1 (by decide) (fun c1 => ?_) (fun c1 => ?_)
  · have h := ite_t c1 h
    refine lv_iconst (v := 0) hx hb dX7_isOpen_21 (by decide) ?_
    exact rRz C rfl (Or.inl rfl) (Option.some.inj h) dX7_isOpen_22
  · have h := ite_f c1 h
    refine lv_iload_n hx hb dX7_isOpen_4 rfl (lv_at hl 1 rfl) ?_
    refine lv_aload_n hx hb dX7_isOpen_5 rfl (lv_at hl 0 rfl) ?_
    refine va_get (D := D) (v := .ref (Q_t 11)) (C := RX7) (T := TX7) (N := 18) hx hb hts iX7 hown hK.1 hP 0 rfl rfl 11 (by decide) (hts _ t_68) (fun _ h9 => h9) rfl dX7_isOpen_6 ?_
    refine va_alen (v := 10) hx hb hK.1 hP 7 0 rfl rfl rfl dX7_isOpen_9 ?_
    refine lv_icmp_ge (tgt := 21) hx hb dX7_isOpen_10 (by decide) (fun c2 => ?_) (fun c2 => ?_)
    · have h := ite_t c2 h
      refine lv_iconst (v := 0) hx hb dX7_isOpen_21 (by decide) ?_
      exact rRz C rfl (Or.inl rfl) (Option.some.inj h) dX7_isOpen_22
    · have h := ite_f c2 h
      refine lv_iload_n hx hb dX7_isOpen_13 rfl (lv_at hl 2 rfl) ?_
      refine lv_iload_n hx hb dX7_isOpen_14 rfl (lv_at hl 1 rfl) ?_
      refine lv_ishr hx hb dX7_isOpen_15 ?_
      refine lv_iconst (v := 1) hx hb dX7_isOpen_16 (by decide) ?_
      refine lv_iand hx hb dX7_isOpen_17 ?_
      refine lv_if_eq (tgt := 23) hx hb dX7_isOpen_18 (by decide) (fun c3 => ?_) (fun c3 => ?_)
      · have h := ite_t c3 h
        refine lv_aload_n hx hb dX7_isOpen_23 rfl (lv_at hl 0 rfl) ?_
        refine va_get (D := D) (v := .ref (Q_t 11)) (C := RX7) (T := TX7) (N := 18) hx hb hts iX7 hown hK.1 hP 0 rfl rfl 11 (by decide) (hts _ t_68) (fun _ h9 => h9) rfl dX7_isOpen_24 ?_
        refine lv_iload_n hx hb dX7_isOpen_27 rfl (lv_at hl 1 rfl) ?_
        obtain ⟨g4, h⟩ := gd_some h
        refine ald_i hx hb hK.1 hP 7 0 rfl rfl x1.toNatClampNeg (ix_g g4) dX7_isOpen_28 ?_
        refine lv_istore_n (lv' := [(3, .int (gT z_t 11 x1.toNatClampNeg)), (0, .ref q_t), (1, .int x1), (2, .int x2)]) hx hb dX7_isOpen_29 rfl hl (by decide) rfl (fun ls hl => ?_)
        refine lv_iload_n hx hb dX7_isOpen_30 rfl (lv_at hl 0 rfl) ?_
        obtain ⟨J5, eJ5, h⟩ := jn_some h
        have hJ5 : ∀ (ls : Array Slot), J5 = some y → lv_has ls 4 [] → W p l e (rmM 0 0 0 0) s m #[.ref q_t, .int x1, .int x2] below meth c s.heap [] 0 0 (MQ below (vp_Si (fun r => r = y)) #[.ref q_t, .int x1, .int x2] s 0 0 (fun _ => False)) (F0 m 42 ls []) := by
          intro ls h hl
          rw [eJ5] at h
          refine lv_iconst (v := 1) hx hb dX7_isOpen_42 (by decide) ?_
          refine lv_goto (tgt := 47) hx hb dX7_isOpen_43 (by decide) ?_
          exact rRz C rfl (Or.inr rfl) (Option.some.inj h) dX7_isOpen_47
        refine lv_if_lt (tgt := 42) hx hb dX7_isOpen_31 (by decide) (fun c6 => ?_) (fun c6 => ?_)
        · have h := ite_t c6 h
          exact hJ5 ls h (lv_sub hl [] rfl)
        · have h := ite_f c6 h
          refine lv_iload_n hx hb dX7_isOpen_34 rfl (lv_at hl 3 rfl) ?_
          refine lv_iload_n hx hb dX7_isOpen_35 rfl (lv_at hl 0 rfl) ?_
          refine lv_ishr hx hb dX7_isOpen_36 ?_
          refine lv_iconst (v := 1) hx hb dX7_isOpen_37 (by decide) ?_
          refine lv_iand hx hb dX7_isOpen_38 ?_
          refine lv_if_eq (tgt := 46) hx hb dX7_isOpen_39 (by decide) (fun c7 => ?_) (fun c7 => ?_)
          · have h := ite_t c7 h
            refine lv_iconst (v := 0) hx hb dX7_isOpen_46 (by decide) ?_
            exact rRz C rfl (Or.inl rfl) (Option.some.inj h) dX7_isOpen_47
          · have h := ite_f c7 h
            exact hJ5 ls h (lv_sub hl [] rfl)
      · have h := ite_f c3 h
        refine lv_iconst (v := 0) hx hb dX7_isOpen_21 (by decide) ?_
        exact rRz C rfl (Or.inl rfl) (Option.some.inj h) dX7_isOpen_22

set_option maxHeartbeats 4000000 in
set_option maxRecDepth 100000 in
theorem wX8_hundreds_4 {p : Program} {l : Launch} {e : Env} {s : State} {m : MethodId} {below : List Frame} {meth : Method} {c : Code} {D : va_G} {a : Nat → ClassId} {x00 : Int32} {x0 : Int32} (C : Cx p s m #[.int x00] meth c MX8_hundreds) (hK : KK D a s) {y : Int64} (hP : va_P D classes ([]) s.heap) : ∀ (n : Nat) (x1 : Int64) (x3 : Int32) (ls : Array Slot), lX8_hundreds_4 x0 n x1 x3 = some y → lv_has ls 4 [(0, .int x0), (1, .long x1), (3, .int x3)] → W p l e (rmM 0 0 0 0) s m #[.int x00] below meth c s.heap [] 0 0 (MQ below (vp_Sl (fun r => r = y)) #[.int x00] s 0 0 (fun _ => False)) (F0 m 4 ls []) := by
  obtain ⟨hx, hb, hml, hown, hts, hr, hlocks, hnm⟩ := id C
  have hb : c.code = cX8_hundreds := hb
  have hown : s.vm.findClass RX8 = some m.cls := hown
  intro n
  induction n with
  | zero => intro x1 x3 ls h; rw [lX8_hundreds_4] at h; cases h
  | succ n ih =>
    intro x1 x3 ls h hl
    rw [lX8_hundreds_4] at h
    refine lv_iload_n hx hb dX8_hundreds_4 rfl (lv_at hl 2 rfl) ?_
    refine lv_iload_n hx hb dX8_hundreds_5 rfl (lv_at hl 0 rfl) ?_
    refine lv_icmp_ge (tgt := 27) hx hb dX8_hundreds_6 (by decide) (fun c1 => ?_) (fun c1 => ?_)
    · have h := ite_t c1 h
      refine lv_lload_n hx hb dX8_hundreds_27 rfl (lv_at hl 1 rfl) ?_
      exact rRl C rfl (Option.some.inj h) dX8_hundreds_28
    · have h := ite_f c1 h
      refine lv_iload_n hx hb dX8_hundreds_9 rfl (lv_at hl 2 rfl) ?_
      refine lv_bipush (v := 8) hx hb dX8_hundreds_10 (by decide) ?_
      refine lv_icmp_ge (tgt := 27) hx hb dX8_hundreds_12 (by decide) (fun c2 => ?_) (fun c2 => ?_)
      · have h := ite_t c2 h
        refine lv_lload_n hx hb dX8_hundreds_27 rfl (lv_at hl 1 rfl) ?_
        exact rRl C rfl (Option.some.inj h) dX8_hundreds_28
      · have h := ite_f c2 h
        refine lv_lload_n hx hb dX8_hundreds_15 rfl (lv_at hl 1 rfl) ?_
        refine lv_ldc2 hx hb hown (hts _ t_758) dX8_hundreds_16 ?_
        refine lv_lmul hx hb dX8_hundreds_19 ?_
        refine lv_lstore_n (lv' := [(1, .long (x1 * 100)), (0, .int x0), (3, .int x3)]) hx hb dX8_hundreds_20 rfl hl (by decide) rfl (fun ls hl => ?_)
        refine lv_iinc (v := x3 + 1) (lv' := [(3, .int (x3 + 1)), (1, .long (x1 * 100)), (0, .int x0)]) hx hb dX8_hundreds_21 hl (k := 2) rfl rfl (by decide) rfl (fun ls hl => ?_)
        refine lv_goto (tgt := 4) hx hb dX8_hundreds_24 (by decide) ?_
        exact ih (x1 * 100) (x3 + 1) ls h (lv_sub hl [2, 1, 0] rfl)

set_option maxHeartbeats 4000000 in
set_option maxRecDepth 100000 in
theorem mX8_hundreds (l : Launch) (D : va_G) (a : Nat → ClassId) {x0 : Int32} {y : Int64} (h : fX8_hundreds x0 = some y) : CRl l MX8_hundreds 0 0 D a [.int x0] ([]) (fun r => r = y) := by
  unfold fX8_hundreds at h
  refine entR (by decide) (Nat.le_of_ble_eq_true rfl) ?_
  intro p e s m below meth c C hK hP ls hl
  obtain ⟨hx, hb, hml, hown, hts, hr, hlocks, hnm⟩ := id C
  have hb : c.code = cX8_hundreds := hb
  have hown : s.vm.findClass RX8 = some m.cls := hown
  have hl : lv_has ls 4 [(0, .int x0)] := hl
  refine lv_lconst (v := 1) hx hb dX8_hundreds_0 (by decide) ?_
  refine lv_lstore_n (lv' := [(1, .long 1), (0, .int x0)]) hx hb dX8_hundreds_1 rfl hl (by decide) rfl (fun ls hl => ?_)
  refine lv_iconst (v := 0) hx hb dX8_hundreds_2 (by decide) ?_
  refine lv_istore_n (lv' := [(3, .int 0), (1, .long 1), (0, .int x0)]) hx hb dX8_hundreds_3 rfl hl (by decide) rfl (fun ls hl => ?_)
  refine wX8_hundreds_4 C hK hP FU 1 0 ls h (lv_sub hl [2, 1, 0] rfl)

set_option maxHeartbeats 4000000 in
set_option maxRecDepth 100000 in
theorem mX1_earnedBy (l : Launch) (D : va_G) (a : Nat → ClassId) {F LO : Nat} {rec : Sx → Sx → Int32 → Int32 → Int32 → Option (Int64 × Sx)} (hrec : ∀ {q_t : Nat} {q_p1 : Nat} {Q_t : Nat → Nat} {z_t : Sx} {Q_p1 : Nat → Nat} {z_p1 : Sx} {x2 : Int32} {x3 : Int32} {x4 : Int32} {y9 : Int64 × Sx}, rec z_t z_p1 x2 x3 x4 = some y9 → ∀ (sz : Nat), CMl (S := Unit) l MX1_mostEarned F LO 0 0 D a [.ref q_t, .ref q_p1, .int x2, .int x3, .int x4] (rc1 a q_t Q_t z_t ++ (rc7 a q_p1 Q_p1 z_p1)) sz (fun r _ => r = y9.1) (fun _ => rc1 a q_t Q_t y9.2 ++ (rc7 a q_p1 Q_p1 z_p1))) (hF : 1 ≤ F) (hL : 23 ≤ LO) {q_t : Nat} {q_p1 : Nat} {Q_t : Nat → Nat} {z_t : Sx} {Q_p1 : Nat → Nat} {z_p1 : Sx} {x2 : Int32} {x3 : Int32} {x4 : Int32} {x5 : Int32} {y : Int64 × Sx} (h : fX1_earnedBy rec z_t z_p1 x2 x3 x4 x5 = some y) (sz : Nat) : CMl (S := Unit) l MX1_earnedBy (F + 1) (LO + 31) 0 0 D a [.ref q_t, .ref q_p1, .int x2, .int x3, .int x4, .int x5] (rc1 a q_t Q_t z_t ++ (rc7 a q_p1 Q_p1 z_p1)) sz (fun r _ => r = y.1) (fun _ => rc1 a q_t Q_t y.2 ++ (rc7 a q_p1 Q_p1 z_p1)) := by
  unfold fX1_earnedBy at h
  refine entMl (by decide) (Nat.le_of_ble_eq_true rfl) ?_
  intro p e s m below meth c C hK A hA hP hD ls hl
  obtain ⟨hx, hb, hml, hown, hts, hr, hlocks, hnm⟩ := id C
  have hb : c.code = cX1_earnedBy := hb
  have hown : s.vm.findClass RX1 = some m.cls := hown
  have hS : va_S A s.heap s.heap [] := va_S.rf
  have hl : lv_has ls 12 [(0, .ref q_t), (1, .ref q_p1), (2, .int x2), (3, .int x3), (4, .int x4), (5, .int x5)] := hl
  refine lv_iload hx hb dX1_earnedBy_0 (lv_at hl 5 rfl) ?_
  refine lv_aload_n hx hb dX1_earnedBy_2 rfl (lv_at hl 1 rfl) ?_
  refine va_get (D := D) (v := .ref (Q_p1 9)) (C := RX7) (T := TX7) (N := 18) hx hb hts iX7 hown hK.1 hP 3 rfl rfl 9 (by decide) (hts _ t_59) (fun _ h9 => h9) rfl dX1_earnedBy_3 ?_
  refine lv_iload_n hx hb dX1_earnedBy_6 rfl (lv_at hl 2 rfl) ?_
  obtain ⟨r2, hc1, h⟩ := bd_some h
  refine cRi (runN (As := [.ref (Q_p1 9), .int x2]) (rest := [.int x5]) C hK (mX8_at l D a (q_p0 := (Q_p1 9)) hc1) lk_N_1_55 okN_X8_at (by constructor; (show 0 + 1 ≤ F + 1; omega); (show 8 + (2 + 11) + (0) ≤ LO + 31; omega)) ⟨rfl, rfl⟩ (preR hK (P_of_map (wc := ra0 a (Q_p1 9) 10 (gT z_p1 9)) hP [8] rfl)) hl.1 rfl (Nat.le_of_ble_eq_true rfl) dX1_earnedBy_7 ⟨Nat.le_of_ble_eq_true rfl, Nat.le_of_ble_eq_true rfl⟩) ?_
  refine lv_isub hx hb dX1_earnedBy_10 ?_
  refine lv_istore (lv' := [(6, .int (x5 - r2)), (0, .ref q_t), (1, .ref q_p1), (2, .int x2), (3, .int x3), (4, .int x4), (5, .int x5)]) hx hb dX1_earnedBy_11 hl (by decide) rfl (fun ls hl => ?_)
  refine lv_iload hx hb dX1_earnedBy_13 (lv_at hl 0 rfl) ?_
  refine lv_if_lt (tgt := 28) hx hb dX1_earnedBy_15 (by decide) (fun c3 => ?_) (fun c3 => ?_)
  · have h := ite_t c3 h
    refine lv_ldc2 hx hb hown (hts _ t_798) dX1_earnedBy_28 ?_
    exact rMl C rfl h (g := fun y => rc1 a q_t Q_t y.2 ++ (rc7 a q_p1 Q_p1 z_p1)) (pr := fun y => y.1) hP hD hS dX1_earnedBy_31
  · have h := ite_f c3 h
    refine lv_aload_n hx hb dX1_earnedBy_18 rfl (lv_at hl 2 rfl) ?_
    refine lv_iload_n hx hb dX1_earnedBy_19 rfl (lv_at hl 3 rfl) ?_
    refine lv_iload hx hb dX1_earnedBy_20 (lv_at hl 5 rfl) ?_
    obtain ⟨r5, hc4, h⟩ := bd_some h
    refine cRi (runV (As := [.int x2, .int x4]) (rest := []) C (mX7_isOpen l D a (q_t := q_p1) (Q_t := Q_p1) hc4) lk_V_1_59 okN_X7_isOpen (by constructor; (show 0 + 1 ≤ F + 1; omega); (show 8 + (4 + 11) + (0) ≤ LO + 31; omega)) ⟨rfl, rfl⟩ (preV (preR hK (P_of_map (wc := rc7 a q_p1 Q_p1 z_p1) hP [3, 4, 5, 6, 7, 8, 9, 10, 11, 12, 13, 14, 15] rfl)) (recvOf hK hP 3 rfl (ci := 7) rfl)) hl.1 rfl (Nat.le_of_ble_eq_true rfl) dX1_earnedBy_22 ⟨Nat.le_of_ble_eq_true rfl, Nat.le_of_ble_eq_true rfl⟩) ?_
    refine lv_if_ne (tgt := 32) hx hb dX1_earnedBy_25 (by decide) (fun c6 => ?_) (fun c6 => ?_)
    · have h := ite_f c6 h
      refine lv_aload_n hx hb dX1_earnedBy_32 rfl (lv_at hl 2 rfl) ?_
      refine va_get (D := D) (v := .ref (Q_p1 10)) (C := RX7) (T := TX7) (N := 18) hx hb hts iX7 hown hK.1 hP 3 rfl rfl 10 (by decide) (hts _ t_64) (fun _ h9 => h9) rfl dX1_earnedBy_33 ?_
      refine lv_iload_n hx hb dX1_earnedBy_36 rfl (lv_at hl 3 rfl) ?_
      obtain ⟨r8, hc7, h⟩ := bd_some h
      refine cRi (runN (As := [.ref (Q_p1 10), .int x2]) (rest := []) C hK (mX8_at l D a (q_p0 := (Q_p1 10)) hc7) lk_N_1_55 okN_X8_at (by constructor; (show 0 + 1 ≤ F + 1; omega); (show 8 + (2 + 11) + (0) ≤ LO + 31; omega)) ⟨rfl, rfl⟩ (preR hK (P_of_map (wc := ra0 a (Q_p1 10) 10 (gT z_p1 10)) hP [9] rfl)) hl.1 rfl (Nat.le_of_ble_eq_true rfl) dX1_earnedBy_37 ⟨Nat.le_of_ble_eq_true rfl, Nat.le_of_ble_eq_true rfl⟩) ?_
      refine lv_istore (lv' := [(7, .int r8), (6, .int (x5 - r2)), (0, .ref q_t), (1, .ref q_p1), (2, .int x2), (3, .int x3), (4, .int x4), (5, .int x5)]) hx hb dX1_earnedBy_40 hl (by decide) rfl (fun ls hl => ?_)
      refine lv_aload_n hx hb dX1_earnedBy_42 rfl (lv_at hl 3 rfl) ?_
      refine va_get (D := D) (v := .ref (Q_p1 12)) (C := RX7) (T := TX7) (N := 18) hx hb hts iX7 hown hK.1 hP 3 rfl rfl 12 (by decide) (hts _ t_71) (fun _ h9 => h9) rfl dX1_earnedBy_43 ?_
      refine lv_iload_n hx hb dX1_earnedBy_46 rfl (lv_at hl 4 rfl) ?_
      obtain ⟨r10, hc9, h⟩ := bd_some h
      refine cRi (runN (As := [.ref (Q_p1 12), .int x2]) (rest := []) C hK (mX8_at l D a (q_p0 := (Q_p1 12)) hc9) lk_N_1_55 okN_X8_at (by constructor; (show 0 + 1 ≤ F + 1; omega); (show 8 + (2 + 11) + (0) ≤ LO + 31; omega)) ⟨rfl, rfl⟩ (preR hK (P_of_map (wc := ra0 a (Q_p1 12) 10 (gT z_p1 12)) hP [11] rfl)) hl.1 rfl (Nat.le_of_ble_eq_true rfl) dX1_earnedBy_47 ⟨Nat.le_of_ble_eq_true rfl, Nat.le_of_ble_eq_true rfl⟩) ?_
      refine lv_i2l (v := r10.toInt64) hx hb dX1_earnedBy_50 rfl ?_
      refine lv_iload_n hx hb dX1_earnedBy_51 rfl (lv_at hl 5 rfl) ?_
      refine lv_iconst (v := 1) hx hb dX1_earnedBy_52 (by decide) ?_
      refine lv_isub hx hb dX1_earnedBy_53 ?_
      obtain ⟨r12, hc11, h⟩ := bd_some h
      refine cRl (runN (As := [.int (x3 - 1)]) (rest := [.long r10.toInt64]) C hK (mX8_hundreds l D a hc11) lk_N_1_71 okN_X8_hundreds (by constructor; (show 0 + 1 ≤ F + 1; omega); (show 8 + (4 + 11) + (0) ≤ LO + 31; omega)) ⟨rfl, rfl⟩ (preR hK (P_of_map (wc := []) hP [] rfl)) hl.1 rfl (Nat.le_of_ble_eq_true rfl) dX1_earnedBy_54 ⟨Nat.le_of_ble_eq_true rfl, Nat.le_of_ble_eq_true rfl⟩) ?_
      refine lv_lmul hx hb dX1_earnedBy_57 ?_
      refine lv_lstore (lv' := [(8, .long (r10.toInt64 * r12)), (7, .int r8), (6, .int (x5 - r2)), (0, .ref q_t), (1, .ref q_p1), (2, .int x2), (3, .int x3), (4, .int x4), (5, .int x5)]) hx hb dX1_earnedBy_58 hl (by decide) rfl (fun ls hl => ?_)
      refine lv_lload hx hb dX1_earnedBy_60 (lv_at hl 0 rfl) ?_
      refine lv_aload_n hx hb dX1_earnedBy_62 rfl (lv_at hl 3 rfl) ?_
      refine lv_aload_n hx hb dX1_earnedBy_63 rfl (lv_at hl 4 rfl) ?_
      refine lv_iload_n hx hb dX1_earnedBy_64 rfl (lv_at hl 6 rfl) ?_
      refine lv_iconst (v := 1) hx hb dX1_earnedBy_65 (by decide) ?_
      refine lv_isub hx hb dX1_earnedBy_66 ?_
      refine lv_iload hx hb dX1_earnedBy_67 (lv_at hl 7 rfl) ?_
      refine lv_iload_n hx hb dX1_earnedBy_69 rfl (lv_at hl 5 rfl) ?_
      obtain ⟨r14, hc13, h⟩ := bd_some h
      refine cRi (runN (As := [.int x2]) (rest := [.int x4, .int (x3 - 1), .ref q_p1, .ref q_t, .long (r10.toInt64 * r12)]) C hK (mX8_bit l D a hc13) lk_N_1_75 okN_X8_bit (by constructor; (show 0 + 1 ≤ F + 1; omega); (show 8 + (1 + 11) + (0) ≤ LO + 31; omega)) ⟨rfl, rfl⟩ (preR hK (P_of_map (wc := []) hP [] rfl)) hl.1 rfl (Nat.le_of_ble_eq_true rfl) dX1_earnedBy_70 ⟨Nat.le_of_ble_eq_true rfl, Nat.le_of_ble_eq_true rfl⟩) ?_
      refine lv_ior hx hb dX1_earnedBy_73 ?_
      refine lv_iload hx hb dX1_earnedBy_74 (lv_at hl 2 rfl) ?_
      obtain ⟨r16, z17, hc15, h⟩ := bd2_some h
      refine cWl (runV (As := [.ref q_p1, .int (x3 - 1), .int (x4 ||| r14), .int (x5 - r2)]) (rest := [.long (r10.toInt64 * r12)]) C (hrec (q_t := q_t) (q_p1 := q_p1) (Q_t := Q_t) (Q_p1 := Q_p1) hc15 s.heap.size) lk_V_1_79 okN_X1_mostEarned (by constructor; (show F + 0 + 1 ≤ F + 1; omega); (show 8 + (12 + 11) + (LO + 0) ≤ LO + 31; omega)) ⟨rfl, rfl⟩ (preV (preM hK hP hD) (recvOf hK hP 0 rfl (ci := 1) rfl)) hl.1 rfl (Nat.le_of_ble_eq_true rfl) dX1_earnedBy_76 ⟨Nat.le_of_ble_eq_true rfl, Nat.le_of_ble_eq_true rfl⟩) hP hD hS hA (fun H locs hP hD hS => ?_)
      have hP : va_P D classes (rc1 a q_t Q_t z17 ++ (rc7 a q_p1 Q_p1 z_p1)) H := hP
      have hD : va_D A (rc1 a q_t Q_t z17 ++ (rc7 a q_p1 Q_p1 z_p1)) := hD
      refine lv_ladd hx hb dX1_earnedBy_79 ?_
      refine lv_lstore (lv' := [(10, .long ((r10.toInt64 * r12) + r16)), (8, .long (r10.toInt64 * r12)), (7, .int r8), (6, .int (x5 - r2)), (0, .ref q_t), (1, .ref q_p1), (2, .int x2), (3, .int x3), (4, .int x4), (5, .int x5)]) hx hb dX1_earnedBy_80 hl (by decide) rfl (fun ls hl => ?_)
      refine lv_iload hx hb dX1_earnedBy_82 (lv_at hl 2 rfl) ?_
      refine lv_i2l (v := r8.toInt64) hx hb dX1_earnedBy_84 rfl ?_
      refine lv_lload hx hb dX1_earnedBy_85 (lv_at hl 0 rfl) ?_
      refine lv_lmul hx hb dX1_earnedBy_87 ?_
      refine lv_bipush (v := 100) hx hb dX1_earnedBy_88 (by decide) ?_
      refine lv_iload hx hb dX1_earnedBy_90 (lv_at hl 2 rfl) ?_
      refine lv_isub hx hb dX1_earnedBy_92 ?_
      refine lv_i2l (v := (100 - r8).toInt64) hx hb dX1_earnedBy_93 rfl ?_
      refine lv_aload_n hx hb dX1_earnedBy_94 rfl (lv_at hl 4 rfl) ?_
      refine lv_aload_n hx hb dX1_earnedBy_95 rfl (lv_at hl 5 rfl) ?_
      refine lv_iload_n hx hb dX1_earnedBy_96 rfl (lv_at hl 7 rfl) ?_
      refine lv_iconst (v := 1) hx hb dX1_earnedBy_97 (by decide) ?_
      refine lv_isub hx hb dX1_earnedBy_98 ?_
      refine lv_iload hx hb dX1_earnedBy_99 (lv_at hl 8 rfl) ?_
      refine lv_iload hx hb dX1_earnedBy_101 (lv_at hl 3 rfl) ?_
      obtain ⟨r19, z20, hc18, h⟩ := bd2_some h
      refine cWl (runV (As := [.ref q_p1, .int (x3 - 1), .int x4, .int (x5 - r2)]) (rest := [.long ((100 - r8).toInt64), .long (r8.toInt64 * ((r10.toInt64 * r12) + r16))]) C (hrec (q_t := q_t) (q_p1 := q_p1) (Q_t := Q_t) (Q_p1 := Q_p1) hc18 H.size) lk_V_1_79 okN_X1_mostEarned (by constructor; (show F + 0 + 1 ≤ F + 1; omega); (show 8 + (12 + 11) + (LO + 0) ≤ LO + 31; omega)) ⟨rfl, rfl⟩ (preV (preM hK hP hD) (recvOf hK hP 0 rfl (ci := 1) rfl)) hl.1 rfl (Nat.le_of_ble_eq_true rfl) dX1_earnedBy_103 ⟨Nat.le_of_ble_eq_true rfl, Nat.le_of_ble_eq_true rfl⟩) hP hD hS hA (fun H locs hP hD hS => ?_)
      have hP : va_P D classes (rc1 a q_t Q_t z20 ++ (rc7 a q_p1 Q_p1 z_p1)) H := hP
      have hD : va_D A (rc1 a q_t Q_t z20 ++ (rc7 a q_p1 Q_p1 z_p1)) := hD
      refine lv_lmul hx hb dX1_earnedBy_106 ?_
      refine lv_ladd hx hb dX1_earnedBy_107 ?_
      exact rMl C rfl h (g := fun y => rc1 a q_t Q_t y.2 ++ (rc7 a q_p1 Q_p1 z_p1)) (pr := fun y => y.1) hP hD hS dX1_earnedBy_108
    · have h := ite_t c6 h
      refine lv_ldc2 hx hb hown (hts _ t_798) dX1_earnedBy_28 ?_
      exact rMl C rfl h (g := fun y => rc1 a q_t Q_t y.2 ++ (rc7 a q_p1 Q_p1 z_p1)) (pr := fun y => y.1) hP hD hS dX1_earnedBy_31

set_option maxHeartbeats 4000000 in
set_option maxRecDepth 100000 in
theorem wX7_mostByOneLook_2 {p : Program} {l : Launch} {e : Env} {s : State} {m : MethodId} {below : List Frame} {meth : Method} {c : Code} {D : va_G} {a : Nat → ClassId} {q_t : Nat} {Q_t : Nat → Nat} {z_t : Sx} {x10 : Int32} {x20 : Int32} {x1 : Int32} {x2 : Int32} (C : Cx p s m #[.ref q_t, .int x10, .int x20] meth c MX7_mostByOneLook) (hK : KK D a s) {y : Int32} (hP : va_P D classes (rc7 a q_t Q_t z_t) s.heap) {k43 : Int32 → Option (Int32)} (hk43 : ∀ (x4k : Int32) (ls : Array Slot), k43 x4k = some y → lv_has ls 5 [(0, .ref q_t), (4, .int x4k)] → W p l e (rmM 1 0 0 23) s m #[.ref q_t, .int x10, .int x20] below meth c s.heap [] 0 0 (MQ below (vp_Si (fun r => r = y)) #[.ref q_t, .int x10, .int x20] s 0 0 (fun _ => False)) (F0 m 43 ls [])) : ∀ (n : Nat) (x3 : Int32) (ls : Array Slot), lX7_mostByOneLook_2 k43 z_t x1 x2 n x3 = some y → lv_has ls 5 [(0, .ref q_t), (1, .int x1), (2, .int x2), (3, .int x3)] → W p l e (rmM 1 0 0 23) s m #[.ref q_t, .int x10, .int x20] below meth c s.heap [] 0 0 (MQ below (vp_Si (fun r => r = y)) #[.ref q_t, .int x10, .int x20] s 0 0 (fun _ => False)) (F0 m 2 ls []) := by
  obtain ⟨hx, hb, hml, hown, hts, hr, hlocks, hnm⟩ := id C
  have hb : c.code = cX7_mostByOneLook := hb
  have hown : s.vm.findClass RX7 = some m.cls := hown
  intro n
  induction n with
  | zero => intro x3 ls h; rw [lX7_mostByOneLook_2] at h; cases h
  | succ n ih =>
    intro x3 ls h hl
    rw [lX7_mostByOneLook_2] at h
    refine lv_iload_n hx hb dX7_mostByOneLook_2 rfl (lv_at hl 3 rfl) ?_
    refine lv_aload_n hx hb dX7_mostByOneLook_3 rfl (lv_at hl 0 rfl) ?_
    refine va_get (D := D) (v := .int (gI z_t 3)) (C := RX7) (T := TX7) (N := 18) hx hb hts iX7 hown hK.1 hP 0 rfl rfl 3 (by decide) (hts _ t_44) (fun _ h9 => h9) rfl dX7_mostByOneLook_4 ?_
    refine lv_icmp_ge (tgt := 59) hx hb dX7_mostByOneLook_7 (by decide) (fun c1 => ?_) (fun c1 => ?_)
    · have h := ite_t c1 h
      refine lv_iconst (v := 0) hx hb dX7_mostByOneLook_59 (by decide) ?_
      exact rRi C rfl (Option.some.inj h) dX7_mostByOneLook_60
    · have h := ite_f c1 h
      refine lv_aload_n hx hb dX7_mostByOneLook_10 rfl (lv_at hl 0 rfl) ?_
      refine va_get (D := D) (v := .ref (Q_t 16)) (C := RX7) (T := TX7) (N := 18) hx hb hts iX7 hown hK.1 hP 0 rfl rfl 16 (by decide) (hts _ t_79) (fun _ h9 => h9) rfl dX7_mostByOneLook_11 ?_
      refine lv_iload_n hx hb dX7_mostByOneLook_14 rfl (lv_at hl 3 rfl) ?_
      obtain ⟨r3, hc2, h⟩ := bd_some h
      refine cRi (runN (As := [.ref (Q_t 16), .int x3]) (rest := []) C hK (mX8_at l D a (q_p0 := (Q_t 16)) hc2) lk_N_7_78 okN_X8_at ⟨Nat.le_of_ble_eq_true rfl, Nat.le_of_ble_eq_true rfl⟩ ⟨rfl, rfl⟩ (preR hK (P_of_map (wc := ra0 a (Q_t 16) 10 (gT z_t 16)) hP [12] rfl)) hl.1 rfl (Nat.le_of_ble_eq_true rfl) dX7_mostByOneLook_15 ⟨Nat.le_of_ble_eq_true rfl, Nat.le_of_ble_eq_true rfl⟩) ?_
      refine lv_istore (lv' := [(4, .int r3), (0, .ref q_t), (1, .int x1), (2, .int x2), (3, .int x3)]) hx hb dX7_mostByOneLook_18 hl (by decide) rfl (fun ls hl => ?_)
      refine lv_aload_n hx hb dX7_mostByOneLook_20 rfl (lv_at hl 1 rfl) ?_
      refine va_get (D := D) (v := .ref (Q_t 9)) (C := RX7) (T := TX7) (N := 18) hx hb hts iX7 hown hK.1 hP 0 rfl rfl 9 (by decide) (hts _ t_58) (fun _ h9 => h9) rfl dX7_mostByOneLook_21 ?_
      refine lv_iload hx hb dX7_mostByOneLook_24 (lv_at hl 0 rfl) ?_
      obtain ⟨r5, hc4, h⟩ := bd_some h
      refine cRi (runN (As := [.ref (Q_t 9), .int r3]) (rest := []) C hK (mX8_at l D a (q_p0 := (Q_t 9)) hc4) lk_N_7_78 okN_X8_at ⟨Nat.le_of_ble_eq_true rfl, Nat.le_of_ble_eq_true rfl⟩ ⟨rfl, rfl⟩ (preR hK (P_of_map (wc := ra0 a (Q_t 9) 10 (gT z_t 9)) hP [5] rfl)) hl.1 rfl (Nat.le_of_ble_eq_true rfl) dX7_mostByOneLook_26 ⟨Nat.le_of_ble_eq_true rfl, Nat.le_of_ble_eq_true rfl⟩) ?_
      refine lv_iload_n hx hb dX7_mostByOneLook_29 rfl (lv_at hl 3 rfl) ?_
      obtain ⟨J6, eJ6, h⟩ := jn_some h
      have hJ6 : ∀ (ls : Array Slot), J6 = some y → lv_has ls 5 [(0, .ref q_t), (1, .int x1), (2, .int x2), (3, .int x3)] → W p l e (rmM 1 0 0 23) s m #[.ref q_t, .int x10, .int x20] below meth c s.heap [] 0 0 (MQ below (vp_Si (fun r => r = y)) #[.ref q_t, .int x10, .int x20] s 0 0 (fun _ => False)) (F0 m 53 ls []) := by
        intro ls h hl
        rw [eJ6] at h
        refine lv_iinc (v := x3 + 1) (lv' := [(3, .int (x3 + 1)), (0, .ref q_t), (1, .int x1), (2, .int x2)]) hx hb dX7_mostByOneLook_53 hl (k := 3) rfl rfl (by decide) rfl (fun ls hl => ?_)
        refine lv_goto (tgt := 2) hx hb dX7_mostByOneLook_56 (by decide) ?_
        exact ih (x3 + 1) ls h (lv_sub hl [1, 2, 3, 0] rfl)
      refine lv_icmp_gt (tgt := 53) hx hb dX7_mostByOneLook_30 (by decide) (fun c7 => ?_) (fun c7 => ?_)
      · have h := ite_t c7 h
        exact hJ6 ls h (lv_sub hl [1, 2, 3, 4] rfl)
      · have h := ite_f c7 h
        refine lv_aload_n hx hb dX7_mostByOneLook_33 rfl (lv_at hl 1 rfl) ?_
        refine lv_iload hx hb dX7_mostByOneLook_34 (lv_at hl 0 rfl) ?_
        refine lv_iload_n hx hb dX7_mostByOneLook_36 rfl (lv_at hl 2 rfl) ?_
        obtain ⟨r9, hc8, h⟩ := bd_some h
        refine cRi (runV (As := [.int r3, .int x1]) (rest := []) C (mX7_isOpen l D a (q_t := q_t) (Q_t := Q_t) hc8) lk_V_7_118 okN_X7_isOpen ⟨Nat.le_of_ble_eq_true rfl, Nat.le_of_ble_eq_true rfl⟩ ⟨rfl, rfl⟩ (preV (preR hK hP) (recvOf hK hP 0 rfl (ci := 7) rfl)) hl.1 rfl (Nat.le_of_ble_eq_true rfl) dX7_mostByOneLook_37 ⟨Nat.le_of_ble_eq_true rfl, Nat.le_of_ble_eq_true rfl⟩) ?_
        refine lv_if_eq (tgt := 53) hx hb dX7_mostByOneLook_40 (by decide) (fun c10 => ?_) (fun c10 => ?_)
        · have h := ite_t c10 h
          exact hJ6 ls h (lv_sub hl [1, 2, 3, 4] rfl)
        · have h := ite_f c10 h
          exact hk43 r3 ls h (lv_sub hl [1, 0] rfl)

set_option maxHeartbeats 4000000 in
set_option maxRecDepth 100000 in
theorem mX7_mostByOneLook (l : Launch) (D : va_G) (a : Nat → ClassId) {q_t : Nat} {Q_t : Nat → Nat} {z_t : Sx} {x1 : Int32} {x2 : Int32} {y : Int32} (h : fX7_mostByOneLook z_t x1 x2 = some y) : CRi l MX7_mostByOneLook 1 23 D a [.ref q_t, .int x1, .int x2] (rc7 a q_t Q_t z_t) (fun r => r = y) := by
  unfold fX7_mostByOneLook at h
  refine entR (by decide) (Nat.le_of_ble_eq_true rfl) ?_
  intro p e s m below meth c C hK hP ls hl
  obtain ⟨hx, hb, hml, hown, hts, hr, hlocks, hnm⟩ := id C
  have hb : c.code = cX7_mostByOneLook := hb
  have hown : s.vm.findClass RX7 = some m.cls := hown
  have hl : lv_has ls 5 [(0, .ref q_t), (1, .int x1), (2, .int x2)] := hl
  refine lv_iconst (v := 0) hx hb dX7_mostByOneLook_0 (by decide) ?_
  refine lv_istore_n (lv' := [(3, .int 0), (0, .ref q_t), (1, .int x1), (2, .int x2)]) hx hb dX7_mostByOneLook_1 rfl hl (by decide) rfl (fun ls hl => ?_)
  refine wX7_mostByOneLook_2 C hK hP ?_ FU 0 ls h (lv_sub hl [1, 2, 3, 0] rfl)
  · intro i11 ls h hl
    refine lv_aload_n hx hb dX7_mostByOneLook_43 rfl (lv_at hl 0 rfl) ?_
    refine va_get (D := D) (v := .ref (Q_t 15)) (C := RX7) (T := TX7) (N := 18) hx hb hts iX7 hown hK.1 hP 0 rfl rfl 15 (by decide) (hts _ t_78) (fun _ h9 => h9) rfl dX7_mostByOneLook_44 ?_
    refine lv_iload hx hb dX7_mostByOneLook_47 (lv_at hl 1 rfl) ?_
    obtain ⟨r13, hc12, h⟩ := bd_some h
    refine cRi (runN (As := [.ref (Q_t 15), .int i11]) (rest := []) C hK (mX8_at l D a (q_p0 := (Q_t 15)) hc12) lk_N_7_78 okN_X8_at ⟨Nat.le_of_ble_eq_true rfl, Nat.le_of_ble_eq_true rfl⟩ ⟨rfl, rfl⟩ (preR hK (P_of_map (wc := ra0 a (Q_t 15) 10 (gT z_t 15)) hP [11] rfl)) hl.1 rfl (Nat.le_of_ble_eq_true rfl) dX7_mostByOneLook_49 ⟨Nat.le_of_ble_eq_true rfl, Nat.le_of_ble_eq_true rfl⟩) ?_
    exact rRi C rfl (Option.some.inj h) dX7_mostByOneLook_52

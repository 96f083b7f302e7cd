def lJ7_fill_53178_5 (n_p0 : Nat) (x1 : Int32) (x3 : Int32) : Nat → (Nat → Int32) → Int32 → Option ((Nat → Int32))
  | 0, _, _ => none
  | n + 1, f_p0, x2 => if x3 ≤ x2 then some f_p0 else gd (inb x2 n_p0) (lJ7_fill_53178_5 n_p0 x1 x3 n (upd f_p0 x2.toNatClampNeg x1) (x2 + 1))
def fJ7_fill_53178 (n_p0 : Nat) (f_p0 : Nat → Int32) (x1 : Int32) : Option ((Nat → Int32)) := lJ7_fill_53178_5 n_p0 x1 (nI n_p0) FU f_p0 0

set_option maxHeartbeats 4000000 in
set_option maxRecDepth 100000 in
theorem wJ7_fill_53178_5 {p : Program} {l : Launch} {e : Env} {s : State} {m : MethodId} {below : List Frame} {meth : Method} {c : Code} {D : va_G} {a : Nat → ClassId} {A : Nat → Prop} {q_p0 : Nat} {n_p0 : Nat} {x10 : Int32} {x1 : Int32} {x3 : Int32} (C : Cx p s m #[.ref q_p0, .int x10] meth c MJ7_fill_53178) (hK : KK D a s) (hA : ∀ q, s.heap.size ≤ q → A q) {y : (Nat → Int32)} : ∀ (n : Nat) (f_p0 : Nat → Int32) (x2 : Int32) (H : Heap) (locs : List Loc) (ls : Array Slot), lJ7_fill_53178_5 n_p0 x1 x3 n f_p0 x2 = some y → va_P D classes (ra0 a q_p0 n_p0 f_p0) H → va_D A (ra0 a q_p0 n_p0 f_p0) → va_S A s.heap H locs → lv_has ls 4 [(0, .ref q_p0), (1, .int x1), (2, .int x2), (3, .int x3)] → W p l e (rmM 0 0 0 0) s m #[.ref q_p0, .int x10] below meth c H locs 0 0 (MQ below (va_Qv (fun (_ : Unit) => True) (Bw D A (fun _ => ra0 a q_p0 n_p0 y)) A) #[.ref q_p0, .int x10] s 0 0 A) (F0 m 5 ls []) := by
  obtain ⟨hx, hb, hml, hown, hts, hr, hlocks, hnm⟩ := id C
  have hb : c.code = cJ7_fill_53178 := hb
  have hown : s.vm.findClass RJ7 = some m.cls := hown
  intro n
  induction n with
  | zero => intro f_p0 x2 H locs ls h; rw [lJ7_fill_53178_5] at h; cases h
  | succ n ih =>
    intro f_p0 x2 H locs ls h hP hD hS hl
    rw [lJ7_fill_53178_5] at h
    refine lv_iload_n hx hb dJ7_fill_53178_5 rfl (lv_at hl 2 rfl) ?_
    refine lv_iload_n hx hb dJ7_fill_53178_6 rfl (lv_at hl 3 rfl) ?_
    refine lv_icmp_ge (tgt := 20) hx hb dJ7_fill_53178_7 (by decide) (fun c1 => ?_) (fun c1 => ?_)
    · have h := ite_t c1 h
      exact rMv C rfl h (g := fun y => ra0 a q_p0 n_p0 y) hP hD hS dJ7_fill_53178_20
    · have h := ite_f c1 h
      refine lv_aload_n hx hb dJ7_fill_53178_10 rfl (lv_at hl 0 rfl) ?_
      refine lv_iload_n hx hb dJ7_fill_53178_11 rfl (lv_at hl 2 rfl) ?_
      refine lv_iload_n hx hb dJ7_fill_53178_12 rfl (lv_at hl 1 rfl) ?_
      obtain ⟨g2, h⟩ := gd_some h
      refine ast_i hx hb hK.1 hP hD hS 0 0 rfl rfl x2.toNatClampNeg (ix_g g2) dJ7_fill_53178_13 (fun H locs hP hD hS => ?_)
      have hP : va_P D classes (ra0 a q_p0 n_p0 (upd f_p0 x2.toNatClampNeg x1)) H := hP
      have hD : va_D A (ra0 a q_p0 n_p0 (upd f_p0 x2.toNatClampNeg x1)) := hD
      refine lv_iinc (v := x2 + 1) (lv' := [(2, .int (x2 + 1)), (0, .ref q_p0), (1, .int x1), (3, .int x3)]) hx hb dJ7_fill_53178_14 hl (k := 2) rfl rfl (by decide) rfl (fun ls hl => ?_)
      refine lv_goto (tgt := 5) hx hb dJ7_fill_53178_17 (by decide) ?_
      exact ih (upd f_p0 x2.toNatClampNeg x1) (x2 + 1) _ _ ls h hP hD hS (lv_sub hl [1, 2, 0, 3] rfl)

set_option maxHeartbeats 4000000 in
set_option maxRecDepth 100000 in
theorem mJ7_fill_53178 (l : Launch) (D : va_G) (a : Nat → ClassId) {q_p0 : Nat} {n_p0 : Nat} {f_p0 : Nat → Int32} {x1 : Int32} {y : (Nat → Int32)} (h : fJ7_fill_53178 n_p0 f_p0 x1 = some y) (sz : Nat) : CMv (S := Unit) l MJ7_fill_53178 0 0 0 0 D a [.ref q_p0, .int x1] (ra0 a q_p0 n_p0 f_p0) sz (fun _ => True) (fun _ => ra0 a q_p0 n_p0 y) := by
  unfold fJ7_fill_53178 at h
  refine entMv (by decide) (Nat.le_of_ble_eq_true rfl) ?_
  intro p e s m below meth c C hK A hA hP hD ls hl
  obtain ⟨hx, hb, hml, hown, hts, hr, hlocks, hnm⟩ := id C
  have hb : c.code = cJ7_fill_53178 := hb
  have hown : s.vm.findClass RJ7 = some m.cls := hown
  have hS : va_S A s.heap s.heap [] := va_S.rf
  have hl : lv_has ls 4 [(0, .ref q_p0), (1, .int x1)] := hl
  refine lv_iconst (v := 0) hx hb dJ7_fill_53178_0 (by decide) ?_
  refine lv_istore_n (lv' := [(2, .int 0), (0, .ref q_p0), (1, .int x1)]) hx hb dJ7_fill_53178_1 rfl hl (by decide) rfl (fun ls hl => ?_)
  refine lv_aload_n hx hb dJ7_fill_53178_2 rfl (lv_at hl 1 rfl) ?_
  refine va_alen (v := nI n_p0) hx hb hK.1 hP 0 0 rfl rfl rfl dJ7_fill_53178_3 ?_
  refine lv_istore_n (lv' := [(3, .int (nI n_p0)), (2, .int 0), (0, .ref q_p0), (1, .int x1)]) hx hb dJ7_fill_53178_4 rfl hl (by decide) rfl (fun ls hl => ?_)
  refine wJ7_fill_53178_5 C hK hA FU f_p0 0 _ _ ls h hP hD hS (lv_sub hl [2, 3, 1, 0] rfl)

def fX0_begin (z_t : Sx) (x1 : Int32) : Option (Sx) := bd (fJ7_fill_53178 10 (gT (sI (sI (sI z_t 0 x1) 1 0) 2 0) 5) 0) (fun z2 => some (sTf (sI (sI (sI z_t 0 x1) 1 0) 2 0) 5 z2))

set_option maxHeartbeats 4000000 in
set_option maxRecDepth 100000 in
theorem mX0_begin (l : Launch) (D : va_G) (a : Nat → ClassId) {q_t : Nat} {Q_t : Nat → Nat} {z_t : Sx} {x1 : Int32} {y : Sx} (h : fX0_begin z_t x1 = some y) (sz : Nat) : CMv (S := Unit) l MX0_begin 1 23 0 0 D a [.ref q_t, .int x1] (rc0 a q_t Q_t z_t) sz (fun _ => True) (fun _ => rc0 a q_t Q_t y) := by
  unfold fX0_begin at h
  refine entMv (by decide) (Nat.le_of_ble_eq_true rfl) ?_
  intro p e s m below meth c C hK A hA hP hD ls hl
  obtain ⟨hx, hb, hml, hown, hts, hr, hlocks, hnm⟩ := id C
  have hb : c.code = cX0_begin := hb
  have hown : s.vm.findClass RX0 = some m.cls := hown
  have hS : va_S A s.heap s.heap [] := va_S.rf
  have hl : lv_has ls 2 [(0, .ref q_t), (1, .int x1)] := hl
  refine lv_aload_n hx hb dX0_begin_0 rfl (lv_at hl 0 rfl) ?_
  refine lv_iload_n hx hb dX0_begin_1 rfl (lv_at hl 1 rfl) ?_
  refine va_put (D := D) (v := .int x1) (C := RX0) (T := TX0) (N := 6) hx hb hts iX0 tyX0 tyX0_ok nmX0 hown hK.1 hP hD hS 0 rfl rfl 0 (by decide) (hts _ t_130) (fun _ h9 => h9) rfl (tyX0_ok 0 (by decide)) rfl rfl (Nat.le_of_ble_eq_true rfl) dX0_begin_2 (fun H locs hP hD hS => ?_)
  have hP : va_P D classes (rc0 a q_t Q_t (sI z_t 0 x1)) H := hP
  have hD : va_D A (rc0 a q_t Q_t (sI z_t 0 x1)) := hD
  refine lv_aload_n hx hb dX0_begin_5 rfl (lv_at hl 0 rfl) ?_
  refine lv_iconst (v := 0) hx hb dX0_begin_6 (by decide) ?_
  refine va_put (D := D) (v := .int 0) (C := RX0) (T := TX0) (N := 6) hx hb hts iX0 tyX0 tyX0_ok nmX0 hown hK.1 hP hD hS 0 rfl rfl 1 (by decide) (hts _ t_133) (fun _ h9 => h9) rfl (tyX0_ok 1 (by decide)) rfl rfl (Nat.le_of_ble_eq_true rfl) dX0_begin_7 (fun H locs hP hD hS => ?_)
  have hP : va_P D classes (rc0 a q_t Q_t (sI (sI z_t 0 x1) 1 0)) H := hP
  have hD : va_D A (rc0 a q_t Q_t (sI (sI z_t 0 x1) 1 0)) := hD
  refine lv_aload_n hx hb dX0_begin_10 rfl (lv_at hl 0 rfl) ?_
  refine lv_iconst (v := 0) hx hb dX0_begin_11 (by decide) ?_
  refine va_put (D := D) (v := .int 0) (C := RX0) (T := TX0) (N := 6) hx hb hts iX0 tyX0 tyX0_ok nmX0 hown hK.1 hP hD hS 0 rfl rfl 2 (by decide) (hts _ t_136) (fun _ h9 => h9) rfl (tyX0_ok 2 (by decide)) rfl rfl (Nat.le_of_ble_eq_true rfl) dX0_begin_12 (fun H locs hP hD hS => ?_)
  have hP : va_P D classes (rc0 a q_t Q_t (sI (sI (sI z_t 0 x1) 1 0) 2 0)) H := hP
  have hD : va_D A (rc0 a q_t Q_t (sI (sI (sI z_t 0 x1) 1 0) 2 0)) := hD
  refine lv_aload_n hx hb dX0_begin_15 rfl (lv_at hl 0 rfl) ?_
  refine va_get (D := D) (v := .ref (Q_t 5)) (C := RX0) (T := TX0) (N := 6) hx hb hts iX0 hown hK.1 hP 0 rfl rfl 5 (by decide) (hts _ t_144) (fun _ h9 => h9) rfl dX0_begin_16 ?_
  refine lv_iconst (v := 0) hx hb dX0_begin_19 (by decide) ?_
  obtain ⟨z2, hc1, h⟩ := bd_some h
  refine cMv (runS (As := [.ref (Q_t 5), .int 0]) (rest := []) C (mJ7_fill_53178 l D a hc1 H.size) lk_S_0_37 okN_J7_fill_53178 ⟨Nat.le_of_ble_eq_true rfl, Nat.le_of_ble_eq_true rfl⟩ ⟨rfl, rfl⟩ (preM hK (P_of_map (wc := ra0 a (Q_t 5) 10 (gT (sI (sI (sI z_t 0 x1) 1 0) 2 0) 5)) hP [1] rfl) (hD.sub (ws' := ra0 a (Q_t 5) 10 (gT (sI (sI (sI z_t 0 x1) 1 0) 2 0) 5)) [1] (by decide) rfl)) hl.1 rfl (Nat.le_of_ble_eq_true rfl) dX0_begin_20 ⟨Nat.le_of_ble_eq_true rfl, Nat.le_of_ble_eq_true rfl⟩) hP hD hS hA [1] [0] [0, 1] rfl rfl (by decide) (by decide) (fw := rc0 a q_t Q_t (sTf (sI (sI (sI z_t 0 x1) 1 0) 2 0) 5 z2)) rfl (by decide) (fun H locs hP hD hS => ?_)
  have hP : va_P D classes (rc0 a q_t Q_t (sTf (sI (sI (sI z_t 0 x1) 1 0) 2 0) 5 z2)) H := hP
  have hD : va_D A (rc0 a q_t Q_t (sTf (sI (sI (sI z_t 0 x1) 1 0) 2 0) 5 z2)) := hD
  exact rMv C rfl h (g := fun y => rc0 a q_t Q_t y) hP hD hS dX0_begin_23

def fX5_beginWork (z_t : Sx) (z_t_1 : Sx) (z_p1 : Sx) : Option (Sx × Sx) := bd (fX0_begin z_t_1 (gI z_p1 1)) (fun z2 => some (sI (sI (sI (sI z_t 2 0) 3 0) 4 0) 6 0, sI z2 3 0))

set_option maxHeartbeats 4000000 in
set_option maxRecDepth 100000 in
theorem mX5_beginWork (l : Launch) (D : va_G) (a : Nat → ClassId) {q_t : Nat} {q_p1 : Nat} {Q_t : Nat → Nat} {z_t : Sx} {Q_t_1 : Nat → Nat} {z_t_1 : Sx} {Q_p1 : Nat → Nat} {z_p1 : Sx} {y : Sx × Sx} (h : fX5_beginWork z_t z_t_1 z_p1 = some y) (sz : Nat) : CMv (S := Unit) l MX5_beginWork 2 44 0 0 D a [.ref q_t, .ref q_p1] (rc5 a q_t Q_t z_t ++ (rc0 a (Q_t 1) Q_t_1 z_t_1 ++ (rc7 a q_p1 Q_p1 z_p1))) sz (fun _ => True) (fun _ => rc5 a q_t (va_up Q_t 0 q_p1) y.1 ++ (rc0 a (Q_t 1) Q_t_1 y.2 ++ (rc7 a q_p1 Q_p1 z_p1))) := by
  unfold fX5_beginWork at h
  refine entMv (by decide) (Nat.le_of_ble_eq_true rfl) ?_
  intro p e s m below meth c C hK A hA hP hD ls hl
  obtain ⟨hx, hb, hml, hown, hts, hr, hlocks, hnm⟩ := id C
  have hb : c.code = cX5_beginWork := hb
  have hown : s.vm.findClass RX5 = some m.cls := hown
  have hS : va_S A s.heap s.heap [] := va_S.rf
  have hl : lv_has ls 2 [(0, .ref q_t), (1, .ref q_p1)] := hl
  refine lv_aload_n hx hb dX5_beginWork_0 rfl (lv_at hl 0 rfl) ?_
  refine lv_aload_n hx hb dX5_beginWork_1 rfl (lv_at hl 1 rfl) ?_
  refine va_put (D := D) (v := .ref q_p1) (C := RX5) (T := TX5) (N := 8) hx hb hts iX5 tyX5 tyX5_ok nmX5 hown hK.1 hP hD hS 0 rfl rfl 0 (by decide) (hts _ t_160) (fun _ h9 => h9) rfl (tyX5_ok 0 (by decide)) rfl rfl (Nat.le_of_ble_eq_true rfl) dX5_beginWork_2 (fun H locs hP hD hS => ?_)
  have hP : va_P D classes (rc5 a q_t (va_up Q_t 0 q_p1) z_t ++ (rc0 a (Q_t 1) Q_t_1 z_t_1 ++ (rc7 a q_p1 Q_p1 z_p1))) H := hP
  have hD : va_D A (rc5 a q_t (va_up Q_t 0 q_p1) z_t ++ (rc0 a (Q_t 1) Q_t_1 z_t_1 ++ (rc7 a q_p1 Q_p1 z_p1))) := hD
  refine lv_aload_n hx hb dX5_beginWork_5 rfl (lv_at hl 0 rfl) ?_
  refine va_get (D := D) (v := .ref (Q_t 1)) (C := RX5) (T := TX5) (N := 8) hx hb hts iX5 hown hK.1 hP 0 rfl rfl 1 (by decide) (hts _ t_162) (fun _ h9 => h9) rfl dX5_beginWork_6 ?_
  refine lv_aload_n hx hb dX5_beginWork_9 rfl (lv_at hl 1 rfl) ?_
  refine va_get (D := D) (v := .int (gI z_p1 1)) (C := RX7) (T := TX7) (N := 18) hx hb hts iX7 hown hK.1 hP 5 rfl rfl 1 (by decide) (hts _ t_40) (fun _ h9 => h9) rfl dX5_beginWork_10 ?_
  obtain ⟨z2, hc1, h⟩ := bd_some h
  refine cMv (runV (As := [.int (gI z_p1 1)]) (rest := []) C (mX0_begin l D a hc1 H.size) lk_V_5_57 okN_X0_begin ⟨Nat.le_of_ble_eq_true rfl, Nat.le_of_ble_eq_true rfl⟩ ⟨rfl, rfl⟩ (preV (preM hK (P_of_map (wc := rc0 a (Q_t 1) Q_t_1 z_t_1) hP [3, 4] rfl) (hD.sub (ws' := rc0 a (Q_t 1) Q_t_1 z_t_1) [3, 4] (by decide) rfl)) (recvOf hK hP 3 rfl (ci := 0) rfl)) hl.1 rfl (Nat.le_of_ble_eq_true rfl) dX5_beginWork_13 ⟨Nat.le_of_ble_eq_true rfl, Nat.le_of_ble_eq_true rfl⟩) hP hD hS hA [3, 4] [0, 1, 2, 5, 6, 7, 8, 9, 10, 11, 12, 13, 14, 15, 16, 17] [0, 1, 2, 16, 17, 3, 4, 5, 6, 7, 8, 9, 10, 11, 12, 13, 14, 15] rfl rfl (by decide) (by decide) (fw := rc5 a q_t (va_up Q_t 0 q_p1) z_t ++ (rc0 a (Q_t 1) Q_t_1 z2 ++ (rc7 a q_p1 Q_p1 z_p1))) rfl (by decide) (fun H locs hP hD hS => ?_)
  have hP : va_P D classes (rc5 a q_t (va_up Q_t 0 q_p1) z_t ++ (rc0 a (Q_t 1) Q_t_1 z2 ++ (rc7 a q_p1 Q_p1 z_p1))) H := hP
  have hD : va_D A (rc5 a q_t (va_up Q_t 0 q_p1) z_t ++ (rc0 a (Q_t 1) Q_t_1 z2 ++ (rc7 a q_p1 Q_p1 z_p1))) := hD
  refine lv_aload_n hx hb dX5_beginWork_16 rfl (lv_at hl 0 rfl) ?_
  refine va_get (D := D) (v := .ref (Q_t 1)) (C := RX5) (T := TX5) (N := 8) hx hb hts iX5 hown hK.1 hP 0 rfl rfl 1 (by decide) (hts _ t_162) (fun _ h9 => h9) rfl dX5_beginWork_17 ?_
  refine lv_iconst (v := 0) hx hb dX5_beginWork_20 (by decide) ?_
  refine va_put (D := D) (v := .int 0) (C := RX0) (T := TX0) (N := 6) hx hb hts iX0 tyX0 tyX0_ok nmX0 hown hK.1 hP hD hS 3 rfl rfl 3 (by decide) (hts _ t_140) (fun _ h9 => h9) rfl (tyX0_ok 3 (by decide)) rfl rfl (Nat.le_of_ble_eq_true rfl) dX5_beginWork_21 (fun H locs hP hD hS => ?_)
  have hP : va_P D classes (rc5 a q_t (va_up Q_t 0 q_p1) z_t ++ (rc0 a (Q_t 1) Q_t_1 (sI z2 3 0) ++ (rc7 a q_p1 Q_p1 z_p1))) H := hP
  have hD : va_D A (rc5 a q_t (va_up Q_t 0 q_p1) z_t ++ (rc0 a (Q_t 1) Q_t_1 (sI z2 3 0) ++ (rc7 a q_p1 Q_p1 z_p1))) := hD
  refine lv_aload_n hx hb dX5_beginWork_24 rfl (lv_at hl 0 rfl) ?_
  refine lv_iconst (v := 0) hx hb dX5_beginWork_25 (by decide) ?_
  refine va_put (D := D) (v := .int 0) (C := RX5) (T := TX5) (N := 8) hx hb hts iX5 tyX5 tyX5_ok nmX5 hown hK.1 hP hD hS 0 rfl rfl 2 (by decide) (hts _ t_164) (fun _ h9 => h9) rfl (tyX5_ok 2 (by decide)) rfl rfl (Nat.le_of_ble_eq_true rfl) dX5_beginWork_26 (fun H locs hP hD hS => ?_)
  have hP : va_P D classes (rc5 a q_t (va_up Q_t 0 q_p1) (sI z_t 2 0) ++ (rc0 a (Q_t 1) Q_t_1 (sI z2 3 0) ++ (rc7 a q_p1 Q_p1 z_p1))) H := hP
  have hD : va_D A (rc5 a q_t (va_up Q_t 0 q_p1) (sI z_t 2 0) ++ (rc0 a (Q_t 1) Q_t_1 (sI z2 3 0) ++ (rc7 a q_p1 Q_p1 z_p1))) := hD
  refine lv_aload_n hx hb dX5_beginWork_29 rfl (lv_at hl 0 rfl) ?_
  refine lv_iconst (v := 0) hx hb dX5_beginWork_30 (by decide) ?_
  refine va_put (D := D) (v := .int 0) (C := RX5) (T := TX5) (N := 8) hx hb hts iX5 tyX5 tyX5_ok nmX5 hown hK.1 hP hD hS 0 rfl rfl 3 (by decide) (hts _ t_166) (fun _ h9 => h9) rfl (tyX5_ok 3 (by decide)) rfl rfl (Nat.le_of_ble_eq_true rfl) dX5_beginWork_31 (fun H locs hP hD hS => ?_)
  have hP : va_P D classes (rc5 a q_t (va_up Q_t 0 q_p1) (sI (sI z_t 2 0) 3 0) ++ (rc0 a (Q_t 1) Q_t_1 (sI z2 3 0) ++ (rc7 a q_p1 Q_p1 z_p1))) H := hP
  have hD : va_D A (rc5 a q_t (va_up Q_t 0 q_p1) (sI (sI z_t 2 0) 3 0) ++ (rc0 a (Q_t 1) Q_t_1 (sI z2 3 0) ++ (rc7 a q_p1 Q_p1 z_p1))) := hD
  refine lv_aload_n hx hb dX5_beginWork_34 rfl (lv_at hl 0 rfl) ?_
  refine lv_iconst (v := 0) hx hb dX5_beginWork_35 (by decide) ?_
  refine va_put (D := D) (v := .int 0) (C := RX5) (T := TX5) (N := 8) hx hb hts iX5 tyX5 tyX5_ok nmX5 hown hK.1 hP hD hS 0 rfl rfl 4 (by decide) (hts _ t_168) (fun _ h9 => h9) rfl (tyX5_ok 4 (by decide)) rfl rfl (Nat.le_of_ble_eq_true rfl) dX5_beginWork_36 (fun H locs hP hD hS => ?_)
  have hP : va_P D classes (rc5 a q_t (va_up Q_t 0 q_p1) (sI (sI (sI z_t 2 0) 3 0) 4 0) ++ (rc0 a (Q_t 1) Q_t_1 (sI z2 3 0) ++ (rc7 a q_p1 Q_p1 z_p1))) H := hP
  have hD : va_D A (rc5 a q_t (va_up Q_t 0 q_p1) (sI (sI (sI z_t 2 0) 3 0) 4 0) ++ (rc0 a (Q_t 1) Q_t_1 (sI z2 3 0) ++ (rc7 a q_p1 Q_p1 z_p1))) := hD
  refine lv_aload_n hx hb dX5_beginWork_39 rfl (lv_at hl 0 rfl) ?_
  refine lv_iconst (v := 0) hx hb dX5_beginWork_40 (by decide) ?_
  refine va_put (D := D) (v := .int 0) (C := RX5) (T := TX5) (N := 8) hx hb hts iX5 tyX5 tyX5_ok nmX5 hown hK.1 hP hD hS 0 rfl rfl 6 (by decide) (hts _ t_172) (fun _ h9 => h9) rfl (tyX5_ok 6 (by decide)) rfl rfl (Nat.le_of_ble_eq_true rfl) dX5_beginWork_41 (fun H locs hP hD hS => ?_)
  have hP : va_P D classes (rc5 a q_t (va_up Q_t 0 q_p1) (sI (sI (sI (sI z_t 2 0) 3 0) 4 0) 6 0) ++ (rc0 a (Q_t 1) Q_t_1 (sI z2 3 0) ++ (rc7 a q_p1 Q_p1 z_p1))) H := hP
  have hD : va_D A (rc5 a q_t (va_up Q_t 0 q_p1) (sI (sI (sI (sI z_t 2 0) 3 0) 4 0) 6 0) ++ (rc0 a (Q_t 1) Q_t_1 (sI z2 3 0) ++ (rc7 a q_p1 Q_p1 z_p1))) := hD
  exact rMv C rfl h (g := fun y => rc5 a q_t (va_up Q_t 0 q_p1) y.1 ++ (rc0 a (Q_t 1) Q_t_1 y.2 ++ (rc7 a q_p1 Q_p1 z_p1))) hP hD hS dX5_beginWork_44

def fX0_copyFrom (z_t : Sx) (z_p1 : Sx) : Option (Sx) := some (sTf (sI (sI (sI (sI (sI z_t 0 (gI z_p1 0)) 1 (gI z_p1 1)) 2 (gI z_p1 2)) 3 (gI z_p1 3)) 4 (gI z_p1 4)) 5 (va_cpy (gT z_p1 5) (gT (sI (sI (sI (sI (sI z_t 0 (gI z_p1 0)) 1 (gI z_p1 1)) 2 (gI z_p1 2)) 3 (gI z_p1 3)) 4 (gI z_p1 4)) 5) 0 0 10))

set_option maxHeartbeats 4000000 in
set_option maxRecDepth 100000 in
theorem mX0_copyFrom (l : Launch) (D : va_G) (a : Nat → ClassId) {q_t : Nat} {q_p1 : Nat} {Q_t : Nat → Nat} {z_t : Sx} {Q_p1 : Nat → Nat} {z_p1 : Sx} {y : Sx} (h : fX0_copyFrom z_t z_p1 = some y) (sz : Nat) : CMv (S := Unit) l MX0_copyFrom 1 60 0 0 D a [.ref q_t, .ref q_p1] (rc0 a q_t Q_t z_t ++ (rc0 a q_p1 Q_p1 z_p1)) sz (fun _ => True) (fun _ => rc0 a q_t Q_t y ++ (rc0 a q_p1 Q_p1 z_p1)) := by
  unfold fX0_copyFrom at h
  refine entMv (by decide) (Nat.le_of_ble_eq_true rfl) ?_
  intro p e s m below meth c C hK A hA hP hD ls hl
  obtain ⟨hx, hb, hml, hown, hts, hr, hlocks, hnm⟩ := id C
  have hb : c.code = cX0_copyFrom := hb
  have hown : s.vm.findClass RX0 = some m.cls := hown
  have hS : va_S A s.heap s.heap [] := va_S.rf
  have hl : lv_has ls 2 [(0, .ref q_t), (1, .ref q_p1)] := hl
  refine lv_aload_n hx hb dX0_copyFrom_0 rfl (lv_at hl 0 rfl) ?_
  refine lv_aload_n hx hb dX0_copyFrom_1 rfl (lv_at hl 1 rfl) ?_
  refine va_get (D := D) (v := .int (gI z_p1 0)) (C := RX0) (T := TX0) (N := 6) hx hb hts iX0 hown hK.1 hP 2 rfl rfl 0 (by decide) (hts _ t_130) (fun _ h9 => h9) rfl dX0_copyFrom_2 ?_
  refine va_put (D := D) (v := .int (gI z_p1 0)) (C := RX0) (T := TX0) (N := 6) hx hb hts iX0 tyX0 tyX0_ok nmX0 hown hK.1 hP hD hS 0 rfl rfl 0 (by decide) (hts _ t_130) (fun _ h9 => h9) rfl (tyX0_ok 0 (by decide)) rfl rfl (Nat.le_of_ble_eq_true rfl) dX0_copyFrom_5 (fun H locs hP hD hS => ?_)
  have hP : va_P D classes (rc0 a q_t Q_t (sI z_t 0 (gI z_p1 0)) ++ (rc0 a q_p1 Q_p1 z_p1)) H := hP
  have hD : va_D A (rc0 a q_t Q_t (sI z_t 0 (gI z_p1 0)) ++ (rc0 a q_p1 Q_p1 z_p1)) := hD
  refine lv_aload_n hx hb dX0_copyFrom_8 rfl (lv_at hl 0 rfl) ?_
  refine lv_aload_n hx hb dX0_copyFrom_9 rfl (lv_at hl 1 rfl) ?_
  refine va_get (D := D) (v := .int (gI z_p1 1)) (C := RX0) (T := TX0) (N := 6) hx hb hts iX0 hown hK.1 hP 2 rfl rfl 1 (by decide) (hts _ t_133) (fun _ h9 => h9) rfl dX0_copyFrom_10 ?_
  refine va_put (D := D) (v := .int (gI z_p1 1)) (C := RX0) (T := TX0) (N := 6) hx hb hts iX0 tyX0 tyX0_ok nmX0 hown hK.1 hP hD hS 0 rfl rfl 1 (by decide) (hts _ t_133) (fun _ h9 => h9) rfl (tyX0_ok 1 (by decide)) rfl rfl (Nat.le_of_ble_eq_true rfl) dX0_copyFrom_13 (fun H locs hP hD hS => ?_)
  have hP : va_P D classes (rc0 a q_t Q_t (sI (sI z_t 0 (gI z_p1 0)) 1 (gI z_p1 1)) ++ (rc0 a q_p1 Q_p1 z_p1)) H := hP
  have hD : va_D A (rc0 a q_t Q_t (sI (sI z_t 0 (gI z_p1 0)) 1 (gI z_p1 1)) ++ (rc0 a q_p1 Q_p1 z_p1)) := hD
  refine lv_aload_n hx hb dX0_copyFrom_16 rfl (lv_at hl 0 rfl) ?_
  refine lv_aload_n hx hb dX0_copyFrom_17 rfl (lv_at hl 1 rfl) ?_
  refine va_get (D := D) (v := .int (gI z_p1 2)) (C := RX0) (T := TX0) (N := 6) hx hb hts iX0 hown hK.1 hP 2 rfl rfl 2 (by decide) (hts _ t_136) (fun _ h9 => h9) rfl dX0_copyFrom_18 ?_
  refine va_put (D := D) (v := .int (gI z_p1 2)) (C := RX0) (T := TX0) (N := 6) hx hb hts iX0 tyX0 tyX0_ok nmX0 hown hK.1 hP hD hS 0 rfl rfl 2 (by decide) (hts _ t_136) (fun _ h9 => h9) rfl (tyX0_ok 2 (by decide)) rfl rfl (Nat.le_of_ble_eq_true rfl) dX0_copyFrom_21 (fun H locs hP hD hS => ?_)
  have hP : va_P D classes (rc0 a q_t Q_t (sI (sI (sI z_t 0 (gI z_p1 0)) 1 (gI z_p1 1)) 2 (gI z_p1 2)) ++ (rc0 a q_p1 Q_p1 z_p1)) H := hP
  have hD : va_D A (rc0 a q_t Q_t (sI (sI (sI z_t 0 (gI z_p1 0)) 1 (gI z_p1 1)) 2 (gI z_p1 2)) ++ (rc0 a q_p1 Q_p1 z_p1)) := hD
  refine lv_aload_n hx hb dX0_copyFrom_24 rfl (lv_at hl 0 rfl) ?_
  refine lv_aload_n hx hb dX0_copyFrom_25 rfl (lv_at hl 1 rfl) ?_
  refine va_get (D := D) (v := .int (gI z_p1 3)) (C := RX0) (T := TX0) (N := 6) hx hb hts iX0 hown hK.1 hP 2 rfl rfl 3 (by decide) (hts _ t_139) (fun _ h9 => h9) rfl dX0_copyFrom_26 ?_
  refine va_put (D := D) (v := .int (gI z_p1 3)) (C := RX0) (T := TX0) (N := 6) hx hb hts iX0 tyX0 tyX0_ok nmX0 hown hK.1 hP hD hS 0 rfl rfl 3 (by decide) (hts _ t_139) (fun _ h9 => h9) rfl (tyX0_ok 3 (by decide)) rfl rfl (Nat.le_of_ble_eq_true rfl) dX0_copyFrom_29 (fun H locs hP hD hS => ?_)
  have hP : va_P D classes (rc0 a q_t Q_t (sI (sI (sI (sI z_t 0 (gI z_p1 0)) 1 (gI z_p1 1)) 2 (gI z_p1 2)) 3 (gI z_p1 3)) ++ (rc0 a q_p1 Q_p1 z_p1)) H := hP
  have hD : va_D A (rc0 a q_t Q_t (sI (sI (sI (sI z_t 0 (gI z_p1 0)) 1 (gI z_p1 1)) 2 (gI z_p1 2)) 3 (gI z_p1 3)) ++ (rc0 a q_p1 Q_p1 z_p1)) := hD
  refine lv_aload_n hx hb dX0_copyFrom_32 rfl (lv_at hl 0 rfl) ?_
  refine lv_aload_n hx hb dX0_copyFrom_33 rfl (lv_at hl 1 rfl) ?_
  refine va_get (D := D) (v := .int (gI z_p1 4)) (C := RX0) (T := TX0) (N := 6) hx hb hts iX0 hown hK.1 hP 2 rfl rfl 4 (by decide) (hts _ t_142) (fun _ h9 => h9) rfl dX0_copyFrom_34 ?_
  refine va_put (D := D) (v := .int (gI z_p1 4)) (C := RX0) (T := TX0) (N := 6) hx hb hts iX0 tyX0 tyX0_ok nmX0 hown hK.1 hP hD hS 0 rfl rfl 4 (by decide) (hts _ t_142) (fun _ h9 => h9) rfl (tyX0_ok 4 (by decide)) rfl rfl (Nat.le_of_ble_eq_true rfl) dX0_copyFrom_37 (fun H locs hP hD hS => ?_)
  have hP : va_P D classes (rc0 a q_t Q_t (sI (sI (sI (sI (sI z_t 0 (gI z_p1 0)) 1 (gI z_p1 1)) 2 (gI z_p1 2)) 3 (gI z_p1 3)) 4 (gI z_p1 4)) ++ (rc0 a q_p1 Q_p1 z_p1)) H := hP
  have hD : va_D A (rc0 a q_t Q_t (sI (sI (sI (sI (sI z_t 0 (gI z_p1 0)) 1 (gI z_p1 1)) 2 (gI z_p1 2)) 3 (gI z_p1 3)) 4 (gI z_p1 4)) ++ (rc0 a q_p1 Q_p1 z_p1)) := hD
  refine lv_aload_n hx hb dX0_copyFrom_40 rfl (lv_at hl 1 rfl) ?_
  refine va_get (D := D) (v := .ref (Q_p1 5)) (C := RX0) (T := TX0) (N := 6) hx hb hts iX0 hown hK.1 hP 2 rfl rfl 5 (by decide) (hts _ t_144) (fun _ h9 => h9) rfl dX0_copyFrom_41 ?_
  refine lv_iconst (v := 0) hx hb dX0_copyFrom_44 (by decide) ?_
  refine lv_aload_n hx hb dX0_copyFrom_45 rfl (lv_at hl 0 rfl) ?_
  refine va_get (D := D) (v := .ref (Q_t 5)) (C := RX0) (T := TX0) (N := 6) hx hb hts iX0 hown hK.1 hP 0 rfl rfl 5 (by decide) (hts _ t_144) (fun _ h9 => h9) rfl dX0_copyFrom_46 ?_
  refine lv_iconst (v := 0) hx hb dX0_copyFrom_49 (by decide) ?_
  refine lv_bipush (v := 10) hx hb dX0_copyFrom_50 (by decide) ?_
  refine va_copyi hx hb (by rw [hml]; exact hl.1.symm) hown (hts _ t_740) (hts _ t_574) (hts _ t_573) (hts _ t_17) hK.1 hP hD hS 3 1 0 0 rfl rfl rfl rfl rfl (by decide) (by decide) (by decide) (by decide) (by decide) (fun _ _ => rfl) (Nat.le_of_ble_eq_true rfl) (Nat.le_of_ble_eq_true rfl) dX0_copyFrom_52 (fun H locs hP hD hS => ?_)
  have hP : va_P D classes (rc0 a q_t Q_t (sTf (sI (sI (sI (sI (sI z_t 0 (gI z_p1 0)) 1 (gI z_p1 1)) 2 (gI z_p1 2)) 3 (gI z_p1 3)) 4 (gI z_p1 4)) 5 (va_cpy (gT z_p1 5) (gT (sI (sI (sI (sI (sI z_t 0 (gI z_p1 0)) 1 (gI z_p1 1)) 2 (gI z_p1 2)) 3 (gI z_p1 3)) 4 (gI z_p1 4)) 5) 0 0 10)) ++ (rc0 a q_p1 Q_p1 z_p1)) H := hP
  have hD : va_D A (rc0 a q_t Q_t (sTf (sI (sI (sI (sI (sI z_t 0 (gI z_p1 0)) 1 (gI z_p1 1)) 2 (gI z_p1 2)) 3 (gI z_p1 3)) 4 (gI z_p1 4)) 5 (va_cpy (gT z_p1 5) (gT (sI (sI (sI (sI (sI z_t 0 (gI z_p1 0)) 1 (gI z_p1 1)) 2 (gI z_p1 2)) 3 (gI z_p1 3)) 4 (gI z_p1 4)) 5) 0 0 10)) ++ (rc0 a q_p1 Q_p1 z_p1)) := hD
  exact rMv C rfl h (g := fun y => rc0 a q_t Q_t y ++ (rc0 a q_p1 Q_p1 z_p1)) hP hD hS dX0_copyFrom_55

def fX5_copyFrom (z_t : Sx) (z_t_1 : Sx) (z_p1 : Sx) (z_p1_1 : Sx) : Option (Sx × Sx) := bd (fX0_copyFrom z_t_1 z_p1_1) (fun z2 => some (sTf (sI (sTf (sI (sI (sI z_t 2 (gI z_p1 2)) 3 (gI z_p1 3)) 4 (gI z_p1 4)) 5 (va_cpy (gT z_p1 5) (gT (sI (sI (sI z_t 2 (gI z_p1 2)) 3 (gI z_p1 3)) 4 (gI z_p1 4)) 5) 0 0 8)) 6 (gI z_p1 6)) 7 (va_cpy (gT z_p1 7) (gT (sI (sTf (sI (sI (sI z_t 2 (gI z_p1 2)) 3 (gI z_p1 3)) 4 (gI z_p1 4)) 5 (va_cpy (gT z_p1 5) (gT (sI (sI (sI z_t 2 (gI z_p1 2)) 3 (gI z_p1 3)) 4 (gI z_p1 4)) 5) 0 0 8)) 6 (gI z_p1 6)) 7) 0 0 8), z2))

set_option maxHeartbeats 4000000 in
set_option maxRecDepth 100000 in
theorem mX5_copyFrom (l : Launch) (D : va_G) (a : Nat → ClassId) {q_t : Nat} {q_p1 : Nat} {Q_t : Nat → Nat} {z_t : Sx} {Q_t_1 : Nat → Nat} {z_t_1 : Sx} {Q_p1 : Nat → Nat} {z_p1 : Sx} {Q_p1_1 : Nat → Nat} {z_p1_1 : Sx} {y : Sx × Sx} (h : fX5_copyFrom z_t z_t_1 z_p1 z_p1_1 = some y) (sz : Nat) : CMv (S := Unit) l MX5_copyFrom 2 81 0 0 D a [.ref q_t, .ref q_p1] (rc5 a q_t Q_t z_t ++ (rc0 a (Q_t 1) Q_t_1 z_t_1 ++ (rc5 a q_p1 Q_p1 z_p1 ++ (rc0 a (Q_p1 1) Q_p1_1 z_p1_1)))) sz (fun _ => True) (fun _ => rc5 a q_t (va_up Q_t 0 (Q_p1 0)) y.1 ++ (rc0 a (Q_t 1) Q_t_1 y.2 ++ (rc5 a q_p1 Q_p1 z_p1 ++ (rc0 a (Q_p1 1) Q_p1_1 z_p1_1)))) := by
  unfold fX5_copyFrom at h
  refine entMv (by decide) (Nat.le_of_ble_eq_true rfl) ?_
  intro p e s m below meth c C hK A hA hP hD ls hl
  obtain ⟨hx, hb, hml, hown, hts, hr, hlocks, hnm⟩ := id C
  have hb : c.code = cX5_copyFrom := hb
  have hown : s.vm.findClass RX5 = some m.cls := hown
  have hS : va_S A s.heap s.heap [] := va_S.rf
  have hl : lv_has ls 2 [(0, .ref q_t), (1, .ref q_p1)] := hl
  refine lv_aload_n hx hb dX5_copyFrom_0 rfl (lv_at hl 0 rfl) ?_
  refine lv_aload_n hx hb dX5_copyFrom_1 rfl (lv_at hl 1 rfl) ?_
  refine va_get (D := D) (v := .ref (Q_p1 0)) (C := RX5) (T := TX5) (N := 8) hx hb hts iX5 hown hK.1 hP 5 rfl rfl 0 (by decide) (hts _ t_160) (fun _ h9 => h9) rfl dX5_copyFrom_2 ?_
  refine va_put (D := D) (v := .ref (Q_p1 0)) (C := RX5) (T := TX5) (N := 8) hx hb hts iX5 tyX5 tyX5_ok nmX5 hown hK.1 hP hD hS 0 rfl rfl 0 (by decide) (hts _ t_160) (fun _ h9 => h9) rfl (tyX5_ok 0 (by decide)) rfl rfl (Nat.le_of_ble_eq_true rfl) dX5_copyFrom_5 (fun H locs hP hD hS => ?_)
  have hP : va_P D classes (rc5 a q_t (va_up Q_t 0 (Q_p1 0)) z_t ++ (rc0 a (Q_t 1) Q_t_1 z_t_1 ++ (rc5 a q_p1 Q_p1 z_p1 ++ (rc0 a (Q_p1 1) Q_p1_1 z_p1_1)))) H := hP
  have hD : va_D A (rc5 a q_t (va_up Q_t 0 (Q_p1 0)) z_t ++ (rc0 a (Q_t 1) Q_t_1 z_t_1 ++ (rc5 a q_p1 Q_p1 z_p1 ++ (rc0 a (Q_p1 1) Q_p1_1 z_p1_1)))) := hD
  refine lv_aload_n hx hb dX5_copyFrom_8 rfl (lv_at hl 0 rfl) ?_
  refine va_get (D := D) (v := .ref (Q_t 1)) (C := RX5) (T := TX5) (N := 8) hx hb hts iX5 hown hK.1 hP 0 rfl rfl 1 (by decide) (hts _ t_162) (fun _ h9 => h9) rfl dX5_copyFrom_9 ?_
  refine lv_aload_n hx hb dX5_copyFrom_12 rfl (lv_at hl 1 rfl) ?_
  refine va_get (D := D) (v := .ref (Q_p1 1)) (C := RX5) (T := TX5) (N := 8) hx hb hts iX5 hown hK.1 hP 5 rfl rfl 1 (by decide) (hts _ t_162) (fun _ h9 => h9) rfl dX5_copyFrom_13 ?_
  obtain ⟨z2, hc1, h⟩ := bd_some h
  refine cMv (runV (As := [.ref (Q_p1 1)]) (rest := []) C (mX0_copyFrom l D a hc1 H.size) lk_V_5_29 okN_X0_copyFrom ⟨Nat.le_of_ble_eq_true rfl, Nat.le_of_ble_eq_true rfl⟩ ⟨rfl, rfl⟩ (preV (preM hK (P_of_map (wc := rc0 a (Q_t 1) Q_t_1 z_t_1 ++ (rc0 a (Q_p1 1) Q_p1_1 z_p1_1)) hP [3, 4, 8, 9] rfl) (hD.sub (ws' := rc0 a (Q_t 1) Q_t_1 z_t_1 ++ (rc0 a (Q_p1 1) Q_p1_1 z_p1_1)) [3, 4, 8, 9] (by decide) rfl)) (recvOf hK hP 3 rfl (ci := 0) rfl)) hl.1 rfl (Nat.le_of_ble_eq_true rfl) dX5_copyFrom_16 ⟨Nat.le_of_ble_eq_true rfl, Nat.le_of_ble_eq_true rfl⟩) hP hD hS hA [3, 4, 8, 9] [0, 1, 2, 5, 6, 7] [0, 1, 2, 6, 7, 3, 4, 5, 8, 9] rfl rfl (by decide) (by decide) (fw := rc5 a q_t (va_up Q_t 0 (Q_p1 0)) z_t ++ (rc0 a (Q_t 1) Q_t_1 z2 ++ (rc5 a q_p1 Q_p1 z_p1 ++ (rc0 a (Q_p1 1) Q_p1_1 z_p1_1)))) rfl (by decide) (fun H locs hP hD hS => ?_)
  have hP : va_P D classes (rc5 a q_t (va_up Q_t 0 (Q_p1 0)) z_t ++ (rc0 a (Q_t 1) Q_t_1 z2 ++ (rc5 a q_p1 Q_p1 z_p1 ++ (rc0 a (Q_p1 1) Q_p1_1 z_p1_1)))) H := hP
  have hD : va_D A (rc5 a q_t (va_up Q_t 0 (Q_p1 0)) z_t ++ (rc0 a (Q_t 1) Q_t_1 z2 ++ (rc5 a q_p1 Q_p1 z_p1 ++ (rc0 a (Q_p1 1) Q_p1_1 z_p1_1)))) := hD
  refine lv_aload_n hx hb dX5_copyFrom_19 rfl (lv_at hl 0 rfl) ?_
  refine lv_aload_n hx hb dX5_copyFrom_20 rfl (lv_at hl 1 rfl) ?_
  refine va_get (D := D) (v := .int (gI z_p1 2)) (C := RX5) (T := TX5) (N := 8) hx hb hts iX5 hown hK.1 hP 5 rfl rfl 2 (by decide) (hts _ t_164) (fun _ h9 => h9) rfl dX5_copyFrom_21 ?_
  refine va_put (D := D) (v := .int (gI z_p1 2)) (C := RX5) (T := TX5) (N := 8) hx hb hts iX5 tyX5 tyX5_ok nmX5 hown hK.1 hP hD hS 0 rfl rfl 2 (by decide) (hts _ t_164) (fun _ h9 => h9) rfl (tyX5_ok 2 (by decide)) rfl rfl (Nat.le_of_ble_eq_true rfl) dX5_copyFrom_24 (fun H locs hP hD hS => ?_)
  have hP : va_P D classes (rc5 a q_t (va_up Q_t 0 (Q_p1 0)) (sI z_t 2 (gI z_p1 2)) ++ (rc0 a (Q_t 1) Q_t_1 z2 ++ (rc5 a q_p1 Q_p1 z_p1 ++ (rc0 a (Q_p1 1) Q_p1_1 z_p1_1)))) H := hP
  have hD : va_D A (rc5 a q_t (va_up Q_t 0 (Q_p1 0)) (sI z_t 2 (gI z_p1 2)) ++ (rc0 a (Q_t 1) Q_t_1 z2 ++ (rc5 a q_p1 Q_p1 z_p1 ++ (rc0 a (Q_p1 1) Q_p1_1 z_p1_1)))) := hD
  refine lv_aload_n hx hb dX5_copyFrom_27 rfl (lv_at hl 0 rfl) ?_
  refine lv_aload_n hx hb dX5_copyFrom_28 rfl (lv_at hl 1 rfl) ?_
  refine va_get (D := D) (v := .int (gI z_p1 3)) (C := RX5) (T := TX5) (N := 8) hx hb hts iX5 hown hK.1 hP 5 rfl rfl 3 (by decide) (hts _ t_166) (fun _ h9 => h9) rfl dX5_copyFrom_29 ?_
  refine va_put (D := D) (v := .int (gI z_p1 3)) (C := RX5) (T := TX5) (N := 8) hx hb hts iX5 tyX5 tyX5_ok nmX5 hown hK.1 hP hD hS 0 rfl rfl 3 (by decide) (hts _ t_166) (fun _ h9 => h9) rfl (tyX5_ok 3 (by decide)) rfl rfl (Nat.le_of_ble_eq_true rfl) dX5_copyFrom_32 (fun H locs hP hD hS => ?_)
  have hP : va_P D classes (rc5 a q_t (va_up Q_t 0 (Q_p1 0)) (sI (sI z_t 2 (gI z_p1 2)) 3 (gI z_p1 3)) ++ (rc0 a (Q_t 1) Q_t_1 z2 ++ (rc5 a q_p1 Q_p1 z_p1 ++ (rc0 a (Q_p1 1) Q_p1_1 z_p1_1)))) H := hP
  have hD : va_D A (rc5 a q_t (va_up Q_t 0 (Q_p1 0)) (sI (sI z_t 2 (gI z_p1 2)) 3 (gI z_p1 3)) ++ (rc0 a (Q_t 1) Q_t_1 z2 ++ (rc5 a q_p1 Q_p1 z_p1 ++ (rc0 a (Q_p1 1) Q_p1_1 z_p1_1)))) := hD
  refine lv_aload_n hx hb dX5_copyFrom_35 rfl (lv_at hl 0 rfl) ?_
  refine lv_aload_n hx hb dX5_copyFrom_36 rfl (lv_at hl 1 rfl) ?_
  refine va_get (D := D) (v := .int (gI z_p1 4)) (C := RX5) (T := TX5) (N := 8) hx hb hts iX5 hown hK.1 hP 5 rfl rfl 4 (by decide) (hts _ t_168) (fun _ h9 => h9) rfl dX5_copyFrom_37 ?_
  refine va_put (D := D) (v := .int (gI z_p1 4)) (C := RX5) (T := TX5) (N := 8) hx hb hts iX5 tyX5 tyX5_ok nmX5 hown hK.1 hP hD hS 0 rfl rfl 4 (by decide) (hts _ t_168) (fun _ h9 => h9) rfl (tyX5_ok 4 (by decide)) rfl rfl (Nat.le_of_ble_eq_true rfl) dX5_copyFrom_40 (fun H locs hP hD hS => ?_)
  have hP : va_P D classes (rc5 a q_t (va_up Q_t 0 (Q_p1 0)) (sI (sI (sI z_t 2 (gI z_p1 2)) 3 (gI z_p1 3)) 4 (gI z_p1 4)) ++ (rc0 a (Q_t 1) Q_t_1 z2 ++ (rc5 a q_p1 Q_p1 z_p1 ++ (rc0 a (Q_p1 1) Q_p1_1 z_p1_1)))) H := hP
  have hD : va_D A (rc5 a q_t (va_up Q_t 0 (Q_p1 0)) (sI (sI (sI z_t 2 (gI z_p1 2)) 3 (gI z_p1 3)) 4 (gI z_p1 4)) ++ (rc0 a (Q_t 1) Q_t_1 z2 ++ (rc5 a q_p1 Q_p1 z_p1 ++ (rc0 a (Q_p1 1) Q_p1_1 z_p1_1)))) := hD
  refine lv_aload_n hx hb dX5_copyFrom_43 rfl (lv_at hl 1 rfl) ?_
  refine va_get (D := D) (v := .ref (Q_p1 5)) (C := RX5) (T := TX5) (N := 8) hx hb hts iX5 hown hK.1 hP 5 rfl rfl 5 (by decide) (hts _ t_170) (fun _ h9 => h9) rfl dX5_copyFrom_44 ?_
  refine lv_iconst (v := 0) hx hb dX5_copyFrom_47 (by decide) ?_
  refine lv_aload_n hx hb dX5_copyFrom_48 rfl (lv_at hl 0 rfl) ?_
  refine va_get (D := D) (v := .ref (Q_t 5)) (C := RX5) (T := TX5) (N := 8) hx hb hts iX5 hown hK.1 hP 0 rfl rfl 5 (by decide) (hts _ t_170) (fun _ h9 => h9) rfl dX5_copyFrom_49 ?_
  refine lv_iconst (v := 0) hx hb dX5_copyFrom_52 (by decide) ?_
  refine lv_bipush (v := 8) hx hb dX5_copyFrom_53 (by decide) ?_
  refine va_copyi hx hb (by rw [hml]; exact hl.1.symm) hown (hts _ t_871) (hts _ t_574) (hts _ t_573) (hts _ t_17) hK.1 hP hD hS 6 1 0 0 rfl rfl rfl rfl rfl (by decide) (by decide) (by decide) (by decide) (by decide) (fun _ _ => rfl) (Nat.le_of_ble_eq_true rfl) (Nat.le_of_ble_eq_true rfl) dX5_copyFrom_55 (fun H locs hP hD hS => ?_)
  have hP : va_P D classes (rc5 a q_t (va_up Q_t 0 (Q_p1 0)) (sTf (sI (sI (sI z_t 2 (gI z_p1 2)) 3 (gI z_p1 3)) 4 (gI z_p1 4)) 5 (va_cpy (gT z_p1 5) (gT (sI (sI (sI z_t 2 (gI z_p1 2)) 3 (gI z_p1 3)) 4 (gI z_p1 4)) 5) 0 0 8)) ++ (rc0 a (Q_t 1) Q_t_1 z2 ++ (rc5 a q_p1 Q_p1 z_p1 ++ (rc0 a (Q_p1 1) Q_p1_1 z_p1_1)))) H := hP
  have hD : va_D A (rc5 a q_t (va_up Q_t 0 (Q_p1 0)) (sTf (sI (sI (sI z_t 2 (gI z_p1 2)) 3 (gI z_p1 3)) 4 (gI z_p1 4)) 5 (va_cpy (gT z_p1 5) (gT (sI (sI (sI z_t 2 (gI z_p1 2)) 3 (gI z_p1 3)) 4 (gI z_p1 4)) 5) 0 0 8)) ++ (rc0 a (Q_t 1) Q_t_1 z2 ++ (rc5 a q_p1 Q_p1 z_p1 ++ (rc0 a (Q_p1 1) Q_p1_1 z_p1_1)))) := hD
  refine lv_aload_n hx hb dX5_copyFrom_58 rfl (lv_at hl 0 rfl) ?_
  refine lv_aload_n hx hb dX5_copyFrom_59 rfl (lv_at hl 1 rfl) ?_
  refine va_get (D := D) (v := .int (gI z_p1 6)) (C := RX5) (T := TX5) (N := 8) hx hb hts iX5 hown hK.1 hP 5 rfl rfl 6 (by decide) (hts _ t_172) (fun _ h9 => h9) rfl dX5_copyFrom_60 ?_
  refine va_put (D := D) (v := .int (gI z_p1 6)) (C := RX5) (T := TX5) (N := 8) hx hb hts iX5 tyX5 tyX5_ok nmX5 hown hK.1 hP hD hS 0 rfl rfl 6 (by decide) (hts _ t_172) (fun _ h9 => h9) rfl (tyX5_ok 6 (by decide)) rfl rfl (Nat.le_of_ble_eq_true rfl) dX5_copyFrom_63 (fun H locs hP hD hS => ?_)
  have hP : va_P D classes (rc5 a q_t (va_up Q_t 0 (Q_p1 0)) (sI (sTf (sI (sI (sI z_t 2 (gI z_p1 2)) 3 (gI z_p1 3)) 4 (gI z_p1 4)) 5 (va_cpy (gT z_p1 5) (gT (sI (sI (sI z_t 2 (gI z_p1 2)) 3 (gI z_p1 3)) 4 (gI z_p1 4)) 5) 0 0 8)) 6 (gI z_p1 6)) ++ (rc0 a (Q_t 1) Q_t_1 z2 ++ (rc5 a q_p1 Q_p1 z_p1 ++ (rc0 a (Q_p1 1) Q_p1_1 z_p1_1)))) H := hP
  have hD : va_D A (rc5 a q_t (va_up Q_t 0 (Q_p1 0)) (sI (sTf (sI (sI (sI z_t 2 (gI z_p1 2)) 3 (gI z_p1 3)) 4 (gI z_p1 4)) 5 (va_cpy (gT z_p1 5) (gT (sI (sI (sI z_t 2 (gI z_p1 2)) 3 (gI z_p1 3)) 4 (gI z_p1 4)) 5) 0 0 8)) 6 (gI z_p1 6)) ++ (rc0 a (Q_t 1) Q_t_1 z2 ++ (rc5 a q_p1 Q_p1 z_p1 ++ (rc0 a (Q_p1 1) Q_p1_1 z_p1_1)))) := hD
  refine lv_aload_n hx hb dX5_copyFrom_66 rfl (lv_at hl 1 rfl) ?_
  refine va_get (D := D) (v := .ref (Q_p1 7)) (C := RX5) (T := TX5) (N := 8) hx hb hts iX5 hown hK.1 hP 5 rfl rfl 7 (by decide) (hts _ t_174) (fun _ h9 => h9) rfl dX5_copyFrom_67 ?_
  refine lv_iconst (v := 0) hx hb dX5_copyFrom_70 (by decide) ?_
  refine lv_aload_n hx hb dX5_copyFrom_71 rfl (lv_at hl 0 rfl) ?_
  refine va_get (D := D) (v := .ref (Q_t 7)) (C := RX5) (T := TX5) (N := 8) hx hb hts iX5 hown hK.1 hP 0 rfl rfl 7 (by decide) (hts _ t_174) (fun _ h9 => h9) rfl dX5_copyFrom_72 ?_
  refine lv_iconst (v := 0) hx hb dX5_copyFrom_75 (by decide) ?_
  refine lv_bipush (v := 8) hx hb dX5_copyFrom_76 (by decide) ?_
  refine va_copyi hx hb (by rw [hml]; exact hl.1.symm) hown (hts _ t_871) (hts _ t_574) (hts _ t_573) (hts _ t_17) hK.1 hP hD hS 7 2 0 0 rfl rfl rfl rfl rfl (by decide) (by decide) (by decide) (by decide) (by decide) (fun _ _ => rfl) (Nat.le_of_ble_eq_true rfl) (Nat.le_of_ble_eq_true rfl) dX5_copyFrom_78 (fun H locs hP hD hS => ?_)
  have hP : va_P D classes (rc5 a q_t (va_up Q_t 0 (Q_p1 0)) (sTf (sI (sTf (sI (sI (sI z_t 2 (gI z_p1 2)) 3 (gI z_p1 3)) 4 (gI z_p1 4)) 5 (va_cpy (gT z_p1 5) (gT (sI (sI (sI z_t 2 (gI z_p1 2)) 3 (gI z_p1 3)) 4 (gI z_p1 4)) 5) 0 0 8)) 6 (gI z_p1 6)) 7 (va_cpy (gT z_p1 7) (gT (sI (sTf (sI (sI (sI z_t 2 (gI z_p1 2)) 3 (gI z_p1 3)) 4 (gI z_p1 4)) 5 (va_cpy (gT z_p1 5) (gT (sI (sI (sI z_t 2 (gI z_p1 2)) 3 (gI z_p1 3)) 4 (gI z_p1 4)) 5) 0 0 8)) 6 (gI z_p1 6)) 7) 0 0 8)) ++ (rc0 a (Q_t 1) Q_t_1 z2 ++ (rc5 a q_p1 Q_p1 z_p1 ++ (rc0 a (Q_p1 1) Q_p1_1 z_p1_1)))) H := hP
  have hD : va_D A (rc5 a q_t (va_up Q_t 0 (Q_p1 0)) (sTf (sI (sTf (sI (sI (sI z_t 2 (gI z_p1 2)) 3 (gI z_p1 3)) 4 (gI z_p1 4)) 5 (va_cpy (gT z_p1 5) (gT (sI (sI (sI z_t 2 (gI z_p1 2)) 3 (gI z_p1 3)) 4 (gI z_p1 4)) 5) 0 0 8)) 6 (gI z_p1 6)) 7 (va_cpy (gT z_p1 7) (gT (sI (sTf (sI (sI (sI z_t 2 (gI z_p1 2)) 3 (gI z_p1 3)) 4 (gI z_p1 4)) 5 (va_cpy (gT z_p1 5) (gT (sI (sI (sI z_t 2 (gI z_p1 2)) 3 (gI z_p1 3)) 4 (gI z_p1 4)) 5) 0 0 8)) 6 (gI z_p1 6)) 7) 0 0 8)) ++ (rc0 a (Q_t 1) Q_t_1 z2 ++ (rc5 a q_p1 Q_p1 z_p1 ++ (rc0 a (Q_p1 1) Q_p1_1 z_p1_1)))) := hD
  exact rMv C rfl h (g := fun y => rc5 a q_t (va_up Q_t 0 (Q_p1 0)) y.1 ++ (rc0 a (Q_t 1) Q_t_1 y.2 ++ (rc5 a q_p1 Q_p1 z_p1 ++ (rc0 a (Q_p1 1) Q_p1_1 z_p1_1)))) hP hD hS dX5_copyFrom_81

def fX8_at (n_p0 : Nat) (f_p0 : Nat → Int32) (x1 : Int32) : Option (Int32) := if x1 < 0 then some 0 else if (nI n_p0) ≤ x1 then some 0 else gd (inb x1 n_p0) (some (f_p0 x1.toNatClampNeg))

set_option maxHeartbeats 4000000 in
set_option maxRecDepth 100000 in
theorem mX8_at (l : Launch) (D : va_G) (a : Nat → ClassId) {q_p0 : Nat} {n_p0 : Nat} {f_p0 : Nat → Int32} {x1 : Int32} {y : Int32} (h : fX8_at n_p0 f_p0 x1 = some y) : CRi l MX8_at 0 0 D a [.ref q_p0, .int x1] (ra0 a q_p0 n_p0 f_p0) (fun r => r = y) := by
  unfold fX8_at at h
  refine entR (by decide) (Nat.le_of_ble_eq_true rfl) ?_
  intro p e s m below meth c C hK hP ls hl
  obtain ⟨hx, hb, hml, hown, hts, hr, hlocks, hnm⟩ := id C
  have hb : c.code = cX8_at := hb
  have hown : s.vm.findClass RX8 = some m.cls := hown
  have hl : lv_has ls 2 [(0, .ref q_p0), (1, .int x1)] := hl
  refine lv_iload_n hx hb dX8_at_0 rfl (lv_at hl 1 rfl) ?_
  refine lv_if_lt (tgt := 16) hx hb dX8_at_1 (by decide) (fun c1 => ?_) (fun c1 => ?_)
  · have h := ite_t c1 h
    refine lv_iconst (v := 0) hx hb dX8_at_16 (by decide) ?_
    exact rRi C rfl (Option.some.inj h) dX8_at_17
  · have h := ite_f c1 h
    refine lv_iload_n hx hb dX8_at_4 rfl (lv_at hl 1 rfl) ?_
    refine lv_aload_n hx hb dX8_at_5 rfl (lv_at hl 0 rfl) ?_
    refine va_alen (v := nI n_p0) hx hb hK.1 hP 0 0 rfl rfl rfl dX8_at_6 ?_
    refine lv_icmp_ge (tgt := 16) hx hb dX8_at_7 (by decide) (fun c2 => ?_) (fun c2 => ?_)
    · have h := ite_t c2 h
      refine lv_iconst (v := 0) hx hb dX8_at_16 (by decide) ?_
      exact rRi C rfl (Option.some.inj h) dX8_at_17
    · have h := ite_f c2 h
      refine lv_aload_n hx hb dX8_at_10 rfl (lv_at hl 0 rfl) ?_
      refine lv_iload_n hx hb dX8_at_11 rfl (lv_at hl 1 rfl) ?_
      obtain ⟨g3, h⟩ := gd_some h
      refine ald_i hx hb hK.1 hP 0 0 rfl rfl x1.toNatClampNeg (ix_g g3) dX8_at_12 ?_
      refine lv_goto (tgt := 17) hx hb dX8_at_13 (by decide) ?_
      exact rRi C rfl (Option.some.inj h) dX8_at_17

def lX6_spells_15 (n_p0 : Nat) (f_p0 : Nat → Int32) (x1 : Int32) (w3 : Nat) : Nat → Int32 → Option (Int32)
  | 0, _ => none
  | n + 1, x4 => if (nI (slen.getD w3 0)) ≤ x4 then some 1 else bd (fX8_at n_p0 f_p0 (x1 + x4)) (fun r4 => gd (inb x4 (slen.getD w3 0)) (if r4 = (sch w3 x4.toNatClampNeg) then lX6_spells_15 n_p0 f_p0 x1 w3 n (x4 + 1) else some 0))
def fX6_spells (n_p0 : Nat) (f_p0 : Nat → Int32) (x1 : Int32) (x2 : Int32) (w3 : Nat) : Option (Int32) := if (x2 - x1) = (nI (slen.getD w3 0)) then lX6_spells_15 n_p0 f_p0 x1 w3 FU 0 else some 0

set_option maxHeartbeats 4000000 in
set_option maxRecDepth 100000 in
theorem wX6_spells_15 {p : Program} {l : Launch} {e : Env} {s : State} {m : MethodId} {below : List Frame} {meth : Method} {c : Code} {D : va_G} {a : Nat → ClassId} {adK adV : Nat → Nat} {w3 : Nat} {q_p0 : Nat} {n_p0 : Nat} {f_p0 : Nat → Int32} {x10 : Int32} {x20 : Int32} {x1 : Int32} (C : Cx p s m #[.ref q_p0, .int x10, .int x20, .ref (adK w3)] meth c MX6_spells) (hK : KK D a s) (hV : VV adK adV (fun _ => False) s s.heap) (hw3 : w3 < 17) {y : Int32} (hP : va_P D classes (ra0 a q_p0 n_p0 f_p0) s.heap) : ∀ (n : Nat) (x4 : Int32) (ls : Array Slot), lX6_spells_15 n_p0 f_p0 x1 w3 n x4 = some y → lv_has ls 5 [(0, .ref q_p0), (1, .int x1), (3, .ref (adK w3)), (4, .int x4)] → W p l e (rmM 4 0 0 100) s m #[.ref q_p0, .int x10, .int x20, .ref (adK w3)] below meth c s.heap [] 0 0 (MQ below (vp_Si (fun r => r = y)) #[.ref q_p0, .int x10, .int x20, .ref (adK w3)] s 0 0 (fun _ => False)) (F0 m 15 ls []) := by
  obtain ⟨hx, hb, hml, hown, hts, hr, hlocks, hnm⟩ := id C
  have hb : c.code = cX6_spells := hb
  have hown : s.vm.findClass RX6 = some m.cls := hown
  intro n
  induction n with
  | zero => intro x4 ls h; rw [lX6_spells_15] at h; cases h
  | succ n ih =>
    intro x4 ls h hl
    rw [lX6_spells_15] at h
    refine lv_iload hx hb dX6_spells_15 (lv_at hl 3 rfl) ?_
    refine lv_aload_n hx hb dX6_spells_17 rfl (lv_at hl 2 rfl) ?_
    refine cRi (runV (As := []) (rest := [.int x4]) C (mJ0_length l D a hw3) lk_V_6_102 okN_J0_length_8abf5 ⟨Nat.le_of_ble_eq_true rfl, Nat.le_of_ble_eq_true rfl⟩ ⟨rfl, rfl⟩ (preV (preRs (wc := []) hK (fun k q h => by simp at h) hV) (vk_recv (i := w3) hV.1 hw3 va_S.rf)) hl.1 rfl (Nat.le_of_ble_eq_true rfl) dX6_spells_18 ⟨Nat.le_of_ble_eq_true rfl, Nat.le_of_ble_eq_true rfl⟩) ?_
    refine lv_icmp_ge (tgt := 49) hx hb dX6_spells_21 (by decide) (fun c2 => ?_) (fun c2 => ?_)
    · have h := ite_t c2 h
      refine lv_iconst (v := 1) hx hb dX6_spells_49 (by decide) ?_
      exact rRz C rfl (Or.inr rfl) (Option.some.inj h) dX6_spells_50
    · have h := ite_f c2 h
      refine lv_aload_n hx hb dX6_spells_24 rfl (lv_at hl 0 rfl) ?_
      refine lv_iload_n hx hb dX6_spells_25 rfl (lv_at hl 1 rfl) ?_
      refine lv_iload hx hb dX6_spells_26 (lv_at hl 3 rfl) ?_
      refine lv_iadd hx hb dX6_spells_28 ?_
      obtain ⟨r4, hc3, h⟩ := bd_some h
      refine cRi (runN (As := [.ref q_p0, .int (x1 + x4)]) (rest := []) C hK (mX8_at l D a hc3) lk_N_6_42 okN_X8_at ⟨Nat.le_of_ble_eq_true rfl, Nat.le_of_ble_eq_true rfl⟩ ⟨rfl, rfl⟩ (preR hK hP) hl.1 rfl (Nat.le_of_ble_eq_true rfl) dX6_spells_29 ⟨Nat.le_of_ble_eq_true rfl, Nat.le_of_ble_eq_true rfl⟩) ?_
      refine lv_aload_n hx hb dX6_spells_32 rfl (lv_at hl 2 rfl) ?_
      refine lv_iload hx hb dX6_spells_33 (lv_at hl 3 rfl) ?_
      obtain ⟨g5, h⟩ := gd_some h
      refine cRi (runV (As := [.int x4]) (rest := [.int r4]) C (mJ0_charAt l D a hw3 g5) lk_V_6_108 okN_J0_charAt_5068e ⟨Nat.le_of_ble_eq_true rfl, Nat.le_of_ble_eq_true rfl⟩ ⟨rfl, rfl⟩ (preV (preRs (wc := []) hK (fun k q h => by simp at h) hV) (vk_recv (i := w3) hV.1 hw3 va_S.rf)) hl.1 rfl (Nat.le_of_ble_eq_true rfl) dX6_spells_35 ⟨Nat.le_of_ble_eq_true rfl, Nat.le_of_ble_eq_true rfl⟩) ?_
      refine lv_icmp_eq (tgt := 43) hx hb dX6_spells_38 (by decide) (fun c6 => ?_) (fun c6 => ?_)
      · have h := ite_t c6 h
        refine lv_iinc (v := x4 + 1) (lv' := [(4, .int (x4 + 1)), (0, .ref q_p0), (1, .int x1), (3, .ref (adK w3))]) hx hb dX6_spells_43 hl (k := 3) rfl rfl (by decide) rfl (fun ls hl => ?_)
        refine lv_goto (tgt := 15) hx hb dX6_spells_46 (by decide) ?_
        exact ih (x4 + 1) ls h (lv_sub hl [1, 2, 3, 0] rfl)
      · have h := ite_f c6 h
        refine lv_iconst (v := 0) hx hb dX6_spells_41 (by decide) ?_
        exact rRz C rfl (Or.inl rfl) (Option.some.inj h) dX6_spells_42

set_option maxHeartbeats 4000000 in
set_option maxRecDepth 100000 in
theorem mX6_spells (l : Launch) (D : va_G) (a : Nat → ClassId) {adK adV : Nat → Nat} {w3 : Nat} {q_p0 : Nat} {n_p0 : Nat} {f_p0 : Nat → Int32} {x1 : Int32} {x2 : Int32} (hw3 : w3 < 17) {y : Int32} (h : fX6_spells n_p0 f_p0 x1 x2 w3 = some y) : CRsi l MX6_spells 4 100 D a adK adV [.ref q_p0, .int x1, .int x2, .ref (adK w3)] (ra0 a q_p0 n_p0 f_p0) (fun r => r = y) := by
  unfold fX6_spells at h
  refine entRs (by decide) (Nat.le_of_ble_eq_true rfl) ?_
  intro p e s m below meth c C hK hP hV ls hl
  obtain ⟨hx, hb, hml, hown, hts, hr, hlocks, hnm⟩ := id C
  have hb : c.code = cX6_spells := hb
  have hown : s.vm.findClass RX6 = some m.cls := hown
  have hl : lv_has ls 5 [(0, .ref q_p0), (1, .int x1), (2, .int x2), (3, .ref (adK w3))] := hl
  refine lv_iload_n hx hb dX6_spells_0 rfl (lv_at hl 2 rfl) ?_
  refine lv_iload_n hx hb dX6_spells_1 rfl (lv_at hl 1 rfl) ?_
  refine lv_isub hx hb dX6_spells_2 ?_
  refine lv_aload_n hx hb dX6_spells_3 rfl (lv_at hl 3 rfl) ?_
  refine cRi (runV (As := []) (rest := [.int (x2 - x1)]) C (mJ0_length l D a hw3) lk_V_6_102 okN_J0_length_8abf5 ⟨Nat.le_of_ble_eq_true rfl, Nat.le_of_ble_eq_true rfl⟩ ⟨rfl, rfl⟩ (preV (preRs (wc := []) hK (fun k q h => by simp at h) hV) (vk_recv (i := w3) hV.1 hw3 va_S.rf)) hl.1 rfl (Nat.le_of_ble_eq_true rfl) dX6_spells_4 ⟨Nat.le_of_ble_eq_true rfl, Nat.le_of_ble_eq_true rfl⟩) ?_
  refine lv_icmp_eq (tgt := 12) hx hb dX6_spells_7 (by decide) (fun c1 => ?_) (fun c1 => ?_)
  · have h := ite_t c1 h
    refine lv_iconst (v := 0) hx hb dX6_spells_12 (by decide) ?_
    refine lv_istore (lv' := [(4, .int 0), (0, .ref q_p0), (1, .int x1), (2, .int x2), (3, .ref (adK w3))]) hx hb dX6_spells_13 hl (by decide) rfl (fun ls hl => ?_)
    refine wX6_spells_15 C hK hV hw3 hP FU 0 ls h (lv_sub hl [1, 2, 4, 0] rfl)
  · have h := ite_f c1 h
    refine lv_iconst (v := 0) hx hb dX6_spells_10 (by decide) ?_
    exact rRz C rfl (Or.inl rfl) (Option.some.inj h) dX6_spells_11

def fX6_clauseWord (n_p0 : Nat) (f_p0 : Nat → Int32) (x1 : Int32) (x2 : Int32) : Option (Int32) := bd (fX6_spells n_p0 f_p0 x1 x2 0) (fun r2 => if r2 = 0 then bd (fX6_spells n_p0 f_p0 x1 x2 1) (fun r5 => if r5 = 0 then bd (fX6_spells n_p0 f_p0 x1 x2 2) (fun r8 => if r8 = 0 then bd (fX6_spells n_p0 f_p0 x1 x2 3) (fun r11 => if r11 = 0 then bd (fX6_spells n_p0 f_p0 x1 x2 4) (fun r14 => if r14 = 0 then bd (fX6_spells n_p0 f_p0 x1 x2 5) (fun r17 => if r17 = 0 then bd (fX6_spells n_p0 f_p0 x1 x2 6) (fun r20 => if r20 = 0 then bd (fX6_spells n_p0 f_p0 x1 x2 7) (fun r23 => if r23 = 0 then some 303 else some 311) else some 310) else some 309) else some 308) else some 307) else some 306) else some 305) else some 304)

set_option maxHeartbeats 4000000 in
set_option maxRecDepth 100000 in
theorem mX6_clauseWord (l : Launch) (D : va_G) (a : Nat → ClassId) {adK adV : Nat → Nat} {q_p0 : Nat} {n_p0 : Nat} {f_p0 : Nat → Int32} {x1 : Int32} {x2 : Int32} {y : Int32} (h : fX6_clauseWord n_p0 f_p0 x1 x2 = some y) : CRsi l MX6_clauseWord 5 124 D a adK adV [.ref q_p0, .int x1, .int x2] (ra0 a q_p0 n_p0 f_p0) (fun r => r = y) := by
  unfold fX6_clauseWord at h
  refine entRs (by decide) (Nat.le_of_ble_eq_true rfl) ?_
  intro p e s m below meth c C hK hP hV ls hl
  obtain ⟨hx, hb, hml, hown, hts, hr, hlocks, hnm⟩ := id C
  have hb : c.code = cX6_clauseWord := hb
  have hown : s.vm.findClass RX6 = some m.cls := hown
  have hl : lv_has ls 3 [(0, .ref q_p0), (1, .int x1), (2, .int x2)] := hl
  refine lv_aload_n hx hb dX6_clauseWord_0 rfl (lv_at hl 0 rfl) ?_
  refine lv_iload_n hx hb dX6_clauseWord_1 rfl (lv_at hl 1 rfl) ?_
  refine lv_iload_n hx hb dX6_clauseWord_2 rfl (lv_at hl 2 rfl) ?_
  refine va_ldcS hx hb hown (hV.2.1 0 (by decide)) dX6_clauseWord_3 ?_
  obtain ⟨r2, hc1, h⟩ := bd_some h
  refine cRi (runS (As := [.ref q_p0, .int x1, .int x2, .ref (adK 0)]) (rest := []) C (mX6_spells l D a (by decide) hc1) lk_S_6_67 okN_X6_spells ⟨Nat.le_of_ble_eq_true rfl, Nat.le_of_ble_eq_true rfl⟩ ⟨rfl, rfl⟩ (preRs hK hP hV) hl.1 rfl (Nat.le_of_ble_eq_true rfl) dX6_clauseWord_5 ⟨Nat.le_of_ble_eq_true rfl, Nat.le_of_ble_eq_true rfl⟩) ?_
  refine lv_if_eq (tgt := 17) hx hb dX6_clauseWord_8 (by decide) (fun c3 => ?_) (fun c3 => ?_)
  · have h := ite_t c3 h
    refine lv_aload_n hx hb dX6_clauseWord_17 rfl (lv_at hl 0 rfl) ?_
    refine lv_iload_n hx hb dX6_clauseWord_18 rfl (lv_at hl 1 rfl) ?_
    refine lv_iload_n hx hb dX6_clauseWord_19 rfl (lv_at hl 2 rfl) ?_
    refine va_ldcS hx hb hown (hV.2.1 1 (by decide)) dX6_clauseWord_20 ?_
    obtain ⟨r5, hc4, h⟩ := bd_some h
    refine cRi (runS (As := [.ref q_p0, .int x1, .int x2, .ref (adK 1)]) (rest := []) C (mX6_spells l D a (by decide) hc4) lk_S_6_67 okN_X6_spells ⟨Nat.le_of_ble_eq_true rfl, Nat.le_of_ble_eq_true rfl⟩ ⟨rfl, rfl⟩ (preRs hK hP hV) hl.1 rfl (Nat.le_of_ble_eq_true rfl) dX6_clauseWord_22 ⟨Nat.le_of_ble_eq_true rfl, Nat.le_of_ble_eq_true rfl⟩) ?_
    refine lv_if_eq (tgt := 34) hx hb dX6_clauseWord_25 (by decide) (fun c6 => ?_) (fun c6 => ?_)
    · have h := ite_t c6 h
      refine lv_aload_n hx hb dX6_clauseWord_34 rfl (lv_at hl 0 rfl) ?_
      refine lv_iload_n hx hb dX6_clauseWord_35 rfl (lv_at hl 1 rfl) ?_
      refine lv_iload_n hx hb dX6_clauseWord_36 rfl (lv_at hl 2 rfl) ?_
      refine va_ldcS hx hb hown (hV.2.1 2 (by decide)) dX6_clauseWord_37 ?_
      obtain ⟨r8, hc7, h⟩ := bd_some h
      refine cRi (runS (As := [.ref q_p0, .int x1, .int x2, .ref (adK 2)]) (rest := []) C (mX6_spells l D a (by decide) hc7) lk_S_6_67 okN_X6_spells ⟨Nat.le_of_ble_eq_true rfl, Nat.le_of_ble_eq_true rfl⟩ ⟨rfl, rfl⟩ (preRs hK hP hV) hl.1 rfl (Nat.le_of_ble_eq_true rfl) dX6_clauseWord_39 ⟨Nat.le_of_ble_eq_true rfl, Nat.le_of_ble_eq_true rfl⟩) ?_
      refine lv_if_eq (tgt := 51) hx hb dX6_clauseWord_42 (by decide) (fun c9 => ?_) (fun c9 => ?_)
      · have h := ite_t c9 h
        refine lv_aload_n hx hb dX6_clauseWord_51 rfl (lv_at hl 0 rfl) ?_
        refine lv_iload_n hx hb dX6_clauseWord_52 rfl (lv_at hl 1 rfl) ?_
        refine lv_iload_n hx hb dX6_clauseWord_53 rfl (lv_at hl 2 rfl) ?_
        refine va_ldcS hx hb hown (hV.2.1 3 (by decide)) dX6_clauseWord_54 ?_
        obtain ⟨r11, hc10, h⟩ := bd_some h
        refine cRi (runS (As := [.ref q_p0, .int x1, .int x2, .ref (adK 3)]) (rest := []) C (mX6_spells l D a (by decide) hc10) lk_S_6_67 okN_X6_spells ⟨Nat.le_of_ble_eq_true rfl, Nat.le_of_ble_eq_true rfl⟩ ⟨rfl, rfl⟩ (preRs hK hP hV) hl.1 rfl (Nat.le_of_ble_eq_true rfl) dX6_clauseWord_56 ⟨Nat.le_of_ble_eq_true rfl, Nat.le_of_ble_eq_true rfl⟩) ?_
        refine lv_if_eq (tgt := 68) hx hb dX6_clauseWord_59 (by decide) (fun c12 => ?_) (fun c12 => ?_)
        · have h := ite_t c12 h
          refine lv_aload_n hx hb dX6_clauseWord_68 rfl (lv_at hl 0 rfl) ?_
          refine lv_iload_n hx hb dX6_clauseWord_69 rfl (lv_at hl 1 rfl) ?_
          refine lv_iload_n hx hb dX6_clauseWord_70 rfl (lv_at hl 2 rfl) ?_
          refine va_ldcS hx hb hown (hV.2.1 4 (by decide)) dX6_clauseWord_71 ?_
          obtain ⟨r14, hc13, h⟩ := bd_some h
          refine cRi (runS (As := [.ref q_p0, .int x1, .int x2, .ref (adK 4)]) (rest := []) C (mX6_spells l D a (by decide) hc13) lk_S_6_67 okN_X6_spells ⟨Nat.le_of_ble_eq_true rfl, Nat.le_of_ble_eq_true rfl⟩ ⟨rfl, rfl⟩ (preRs hK hP hV) hl.1 rfl (Nat.le_of_ble_eq_true rfl) dX6_clauseWord_73 ⟨Nat.le_of_ble_eq_true rfl, Nat.le_of_ble_eq_true rfl⟩) ?_
          refine lv_if_eq (tgt := 85) hx hb dX6_clauseWord_76 (by decide) (fun c15 => ?_) (fun c15 => ?_)
          · have h := ite_t c15 h
            refine lv_aload_n hx hb dX6_clauseWord_85 rfl (lv_at hl 0 rfl) ?_
            refine lv_iload_n hx hb dX6_clauseWord_86 rfl (lv_at hl 1 rfl) ?_
            refine lv_iload_n hx hb dX6_clauseWord_87 rfl (lv_at hl 2 rfl) ?_
            refine va_ldcS hx hb hown (hV.2.1 5 (by decide)) dX6_clauseWord_88 ?_
            obtain ⟨r17, hc16, h⟩ := bd_some h
            refine cRi (runS (As := [.ref q_p0, .int x1, .int x2, .ref (adK 5)]) (rest := []) C (mX6_spells l D a (by decide) hc16) lk_S_6_67 okN_X6_spells ⟨Nat.le_of_ble_eq_true rfl, Nat.le_of_ble_eq_true rfl⟩ ⟨rfl, rfl⟩ (preRs hK hP hV) hl.1 rfl (Nat.le_of_ble_eq_true rfl) dX6_clauseWord_90 ⟨Nat.le_of_ble_eq_true rfl, Nat.le_of_ble_eq_true rfl⟩) ?_
            refine lv_if_eq (tgt := 102) hx hb dX6_clauseWord_93 (by decide) (fun c18 => ?_) (fun c18 => ?_)
            · have h := ite_t c18 h
              refine lv_aload_n hx hb dX6_clauseWord_102 rfl (lv_at hl 0 rfl) ?_
              refine lv_iload_n hx hb dX6_clauseWord_103 rfl (lv_at hl 1 rfl) ?_
              refine lv_iload_n hx hb dX6_clauseWord_104 rfl (lv_at hl 2 rfl) ?_
              refine va_ldcS hx hb hown (hV.2.1 6 (by decide)) dX6_clauseWord_105 ?_
              obtain ⟨r20, hc19, h⟩ := bd_some h
              refine cRi (runS (As := [.ref q_p0, .int x1, .int x2, .ref (adK 6)]) (rest := []) C (mX6_spells l D a (by decide) hc19) lk_S_6_67 okN_X6_spells ⟨Nat.le_of_ble_eq_true rfl, Nat.le_of_ble_eq_true rfl⟩ ⟨rfl, rfl⟩ (preRs hK hP hV) hl.1 rfl (Nat.le_of_ble_eq_true rfl) dX6_clauseWord_107 ⟨Nat.le_of_ble_eq_true rfl, Nat.le_of_ble_eq_true rfl⟩) ?_
              refine lv_if_eq (tgt := 119) hx hb dX6_clauseWord_110 (by decide) (fun c21 => ?_) (fun c21 => ?_)
              · have h := ite_t c21 h
                refine lv_aload_n hx hb dX6_clauseWord_119 rfl (lv_at hl 0 rfl) ?_
                refine lv_iload_n hx hb dX6_clauseWord_120 rfl (lv_at hl 1 rfl) ?_
                refine lv_iload_n hx hb dX6_clauseWord_121 rfl (lv_at hl 2 rfl) ?_
                refine va_ldcS hx hb hown (hV.2.1 7 (by decide)) dX6_clauseWord_122 ?_
                obtain ⟨r23, hc22, h⟩ := bd_some h
                refine cRi (runS (As := [.ref q_p0, .int x1, .int x2, .ref (adK 7)]) (rest := []) C (mX6_spells l D a (by decide) hc22) lk_S_6_67 okN_X6_spells ⟨Nat.le_of_ble_eq_true rfl, Nat.le_of_ble_eq_true rfl⟩ ⟨rfl, rfl⟩ (preRs hK hP hV) hl.1 rfl (Nat.le_of_ble_eq_true rfl) dX6_clauseWord_124 ⟨Nat.le_of_ble_eq_true rfl, Nat.le_of_ble_eq_true rfl⟩) ?_
                refine lv_if_eq (tgt := 136) hx hb dX6_clauseWord_127 (by decide) (fun c24 => ?_) (fun c24 => ?_)
                · have h := ite_t c24 h
                  refine lv_sipush (v := 303) hx hb dX6_clauseWord_136 (by decide) ?_
                  exact rRi C rfl (Option.some.inj h) dX6_clauseWord_139
                · have h := ite_f c24 h
                  refine lv_sipush (v := 311) hx hb dX6_clauseWord_130 (by decide) ?_
                  refine lv_goto (tgt := 139) hx hb dX6_clauseWord_133 (by decide) ?_
                  exact rRi C rfl (Option.some.inj h) dX6_clauseWord_139
              · have h := ite_f c21 h
                refine lv_sipush (v := 310) hx hb dX6_clauseWord_113 (by decide) ?_
                refine lv_goto (tgt := 139) hx hb dX6_clauseWord_116 (by decide) ?_
                exact rRi C rfl (Option.some.inj h) dX6_clauseWord_139
            · have h := ite_f c18 h
              refine lv_sipush (v := 309) hx hb dX6_clauseWord_96 (by decide) ?_
              refine lv_goto (tgt := 139) hx hb dX6_clauseWord_99 (by decide) ?_
              exact rRi C rfl (Option.some.inj h) dX6_clauseWord_139
          · have h := ite_f c15 h
            refine lv_sipush (v := 308) hx hb dX6_clauseWord_79 (by decide) ?_
            refine lv_goto (tgt := 139) hx hb dX6_clauseWord_82 (by decide) ?_
            exact rRi C rfl (Option.some.inj h) dX6_clauseWord_139
        · have h := ite_f c12 h
          refine lv_sipush (v := 307) hx hb dX6_clauseWord_62 (by decide) ?_
          refine lv_goto (tgt := 139) hx hb dX6_clauseWord_65 (by decide) ?_
          exact rRi C rfl (Option.some.inj h) dX6_clauseWord_139
      · have h := ite_f c9 h
        refine lv_sipush (v := 306) hx hb dX6_clauseWord_45 (by decide) ?_
        refine lv_goto (tgt := 139) hx hb dX6_clauseWord_48 (by decide) ?_
        exact rRi C rfl (Option.some.inj h) dX6_clauseWord_139
    · have h := ite_f c6 h
      refine lv_sipush (v := 305) hx hb dX6_clauseWord_28 (by decide) ?_
      refine lv_goto (tgt := 139) hx hb dX6_clauseWord_31 (by decide) ?_
      exact rRi C rfl (Option.some.inj h) dX6_clauseWord_139
  · have h := ite_f c3 h
    refine lv_sipush (v := 304) hx hb dX6_clauseWord_11 (by decide) ?_
    refine lv_goto (tgt := 139) hx hb dX6_clauseWord_14 (by decide) ?_
    exact rRi C rfl (Option.some.inj h) dX6_clauseWord_139

def fX6_isDigit (x0 : Int32) : Option (Int32) := if x0 < 48 then some 0 else if 57 < x0 then some 0 else some 1

set_option maxHeartbeats 4000000 in
set_option maxRecDepth 100000 in
theorem mX6_isDigit (l : Launch) (D : va_G) (a : Nat → ClassId) {x0 : Int32} {y : Int32} (h : fX6_isDigit x0 = some y) : CRi l MX6_isDigit 0 0 D a [.int x0] ([]) (fun r => r = y) := by
  unfold fX6_isDigit at h
  refine entR (by decide) (Nat.le_of_ble_eq_true rfl) ?_
  intro p e s m below meth c C hK hP ls hl
  obtain ⟨hx, hb, hml, hown, hts, hr, hlocks, hnm⟩ := id C
  have hb : c.code = cX6_isDigit := hb
  have hown : s.vm.findClass RX6 = some m.cls := hown
  have hl : lv_has ls 1 [(0, .int x0)] := hl
  refine lv_iload_n hx hb dX6_isDigit_0 rfl (lv_at hl 0 rfl) ?_
  refine lv_bipush (v := 48) hx hb dX6_isDigit_1 (by decide) ?_
  refine lv_icmp_lt (tgt := 16) hx hb dX6_isDigit_3 (by decide) (fun c1 => ?_) (fun c1 => ?_)
  · have h := ite_t c1 h
    refine lv_iconst (v := 0) hx hb dX6_isDigit_16 (by decide) ?_
    exact rRz C rfl (Or.inl rfl) (Option.some.inj h) dX6_isDigit_17
  · have h := ite_f c1 h
    refine lv_iload_n hx hb dX6_isDigit_6 rfl (lv_at hl 0 rfl) ?_
    refine lv_bipush (v := 57) hx hb dX6_isDigit_7 (by decide) ?_
    refine lv_icmp_gt (tgt := 16) hx hb dX6_isDigit_9 (by decide) (fun c2 => ?_) (fun c2 => ?_)
    · have h := ite_t c2 h
      refine lv_iconst (v := 0) hx hb dX6_isDigit_16 (by decide) ?_
      exact rRz C rfl (Or.inl rfl) (Option.some.inj h) dX6_isDigit_17
    · have h := ite_f c2 h
      refine lv_iconst (v := 1) hx hb dX6_isDigit_12 (by decide) ?_
      refine lv_goto (tgt := 17) hx hb dX6_isDigit_13 (by decide) ?_
      exact rRz C rfl (Or.inr rfl) (Option.some.inj h) dX6_isDigit_17

def fX6_isLetter (x0 : Int32) : Option (Int32) := if x0 < 97 then some 0 else if 122 < x0 then some 0 else some 1

set_option maxHeartbeats 4000000 in
set_option maxRecDepth 100000 in
theorem mX6_isLetter (l : Launch) (D : va_G) (a : Nat → ClassId) {x0 : Int32} {y : Int32} (h : fX6_isLetter x0 = some y) : CRi l MX6_isLetter 0 0 D a [.int x0] ([]) (fun r => r = y) := by
  unfold fX6_isLetter at h
  refine entR (by decide) (Nat.le_of_ble_eq_true rfl) ?_
  intro p e s m below meth c C hK hP ls hl
  obtain ⟨hx, hb, hml, hown, hts, hr, hlocks, hnm⟩ := id C
  have hb : c.code = cX6_isLetter := hb
  have hown : s.vm.findClass RX6 = some m.cls := hown
  have hl : lv_has ls 1 [(0, .int x0)] := hl
  refine lv_iload_n hx hb dX6_isLetter_0 rfl (lv_at hl 0 rfl) ?_
  refine lv_bipush (v := 97) hx hb dX6_isLetter_1 (by decide) ?_
  refine lv_icmp_lt (tgt := 16) hx hb dX6_isLetter_3 (by decide) (fun c1 => ?_) (fun c1 => ?_)
  · have h := ite_t c1 h
    refine lv_iconst (v := 0) hx hb dX6_isLetter_16 (by decide) ?_
    exact rRz C rfl (Or.inl rfl) (Option.some.inj h) dX6_isLetter_17
  · have h := ite_f c1 h
    refine lv_iload_n hx hb dX6_isLetter_6 rfl (lv_at hl 0 rfl) ?_
    refine lv_bipush (v := 122) hx hb dX6_isLetter_7 (by decide) ?_
    refine lv_icmp_gt (tgt := 16) hx hb dX6_isLetter_9 (by decide) (fun c2 => ?_) (fun c2 => ?_)
    · have h := ite_t c2 h
      refine lv_iconst (v := 0) hx hb dX6_isLetter_16 (by decide) ?_
      exact rRz C rfl (Or.inl rfl) (Option.some.inj h) dX6_isLetter_17
    · have h := ite_f c2 h
      refine lv_iconst (v := 1) hx hb dX6_isLetter_12 (by decide) ?_
      refine lv_goto (tgt := 17) hx hb dX6_isLetter_13 (by decide) ?_
      exact rRz C rfl (Or.inr rfl) (Option.some.inj h) dX6_isLetter_17

def fX6_addToken (z_t : Sx) (x1 : Int32) (x2 : Int32) (x3 : Int32) : Option (Sx) := if (gI z_t 3) < 0 then some z_t else if 401 ≤ (gI z_t 3) then some z_t else gd (inb (gI z_t 3) 401) (some (sI (sT (sT (sT z_t 0 ((gI z_t 3).toNatClampNeg) x1) 1 ((gI z_t 3).toNatClampNeg) x2) 2 ((gI z_t 3).toNatClampNeg) x3) 3 ((gI z_t 3) + 1)))

set_option maxHeartbeats 4000000 in
set_option maxRecDepth 100000 in
theorem mX6_addToken (l : Launch) (D : va_G) (a : Nat → ClassId) {q_t : Nat} {Q_t : Nat → Nat} {z_t : Sx} {x1 : Int32} {x2 : Int32} {x3 : Int32} {y : Sx} (h : fX6_addToken z_t x1 x2 x3 = some y) (sz : Nat) : CMv (S := Unit) l MX6_addToken 0 0 0 0 D a [.ref q_t, .int x1, .int x2, .int x3] (rc6 a q_t Q_t z_t) sz (fun _ => True) (fun _ => rc6 a q_t Q_t y) := by
  unfold fX6_addToken at h
  refine entMv (by decide) (Nat.le_of_ble_eq_true rfl) ?_
  intro p e s m below meth c C hK A hA hP hD ls hl
  obtain ⟨hx, hb, hml, hown, hts, hr, hlocks, hnm⟩ := id C
  have hb : c.code = cX6_addToken := hb
  have hown : s.vm.findClass RX6 = some m.cls := hown
  have hS : va_S A s.heap s.heap [] := va_S.rf
  have hl : lv_has ls 4 [(0, .ref q_t), (1, .int x1), (2, .int x2), (3, .int x3)] := hl
  refine lv_aload_n hx hb dX6_addToken_0 rfl (lv_at hl 0 rfl) ?_
  refine va_get (D := D) (v := .int (gI z_t 3)) (C := RX6) (T := TX6) (N := 9) hx hb hts iX6 hown hK.1 hP 0 rfl rfl 3 (by decide) (hts _ t_211) (fun _ h9 => h9) rfl dX6_addToken_1 ?_
  refine lv_if_lt (tgt := 59) hx hb dX6_addToken_4 (by decide) (fun c1 => ?_) (fun c1 => ?_)
  · have h := ite_t c1 h
    exact rMv C rfl h (g := fun y => rc6 a q_t Q_t y) hP hD hS dX6_addToken_59
  · have h := ite_f c1 h
    refine lv_aload_n hx hb dX6_addToken_7 rfl (lv_at hl 0 rfl) ?_
    refine va_get (D := D) (v := .int (gI z_t 3)) (C := RX6) (T := TX6) (N := 9) hx hb hts iX6 hown hK.1 hP 0 rfl rfl 3 (by decide) (hts _ t_211) (fun _ h9 => h9) rfl dX6_addToken_8 ?_
    refine lv_aload_n hx hb dX6_addToken_11 rfl (lv_at hl 0 rfl) ?_
    refine va_get (D := D) (v := .ref (Q_t 0)) (C := RX6) (T := TX6) (N := 9) hx hb hts iX6 hown hK.1 hP 0 rfl rfl 0 (by decide) (hts _ t_208) (fun _ h9 => h9) rfl dX6_addToken_12 ?_
    refine va_alen (v := 401) hx hb hK.1 hP 1 0 rfl rfl rfl dX6_addToken_15 ?_
    refine lv_icmp_ge (tgt := 59) hx hb dX6_addToken_16 (by decide) (fun c2 => ?_) (fun c2 => ?_)
    · have h := ite_t c2 h
      exact rMv C rfl h (g := fun y => rc6 a q_t Q_t y) hP hD hS dX6_addToken_59
    · have h := ite_f c2 h
      refine lv_aload_n hx hb dX6_addToken_19 rfl (lv_at hl 0 rfl) ?_
      refine va_get (D := D) (v := .ref (Q_t 0)) (C := RX6) (T := TX6) (N := 9) hx hb hts iX6 hown hK.1 hP 0 rfl rfl 0 (by decide) (hts _ t_208) (fun _ h9 => h9) rfl dX6_addToken_20 ?_
      refine lv_aload_n hx hb dX6_addToken_23 rfl (lv_at hl 0 rfl) ?_
      refine va_get (D := D) (v := .int (gI z_t 3)) (C := RX6) (T := TX6) (N := 9) hx hb hts iX6 hown hK.1 hP 0 rfl rfl 3 (by decide) (hts _ t_211) (fun _ h9 => h9) rfl dX6_addToken_24 ?_
      refine lv_iload_n hx hb dX6_addToken_27 rfl (lv_at hl 1 rfl) ?_
      obtain ⟨g3, h⟩ := gd_some h
      refine ast_i hx hb hK.1 hP hD hS 1 0 rfl rfl ((gI z_t 3).toNatClampNeg) (ix_g g3) dX6_addToken_28 (fun H locs hP hD hS => ?_)
      have hP : va_P D classes (rc6 a q_t Q_t (sT z_t 0 ((gI z_t 3).toNatClampNeg) x1)) H := hP
      have hD : va_D A (rc6 a q_t Q_t (sT z_t 0 ((gI z_t 3).toNatClampNeg) x1)) := hD
      refine lv_aload_n hx hb dX6_addToken_29 rfl (lv_at hl 0 rfl) ?_
      refine va_get (D := D) (v := .ref (Q_t 1)) (C := RX6) (T := TX6) (N := 9) hx hb hts iX6 hown hK.1 hP 0 rfl rfl 1 (by decide) (hts _ t_209) (fun _ h9 => h9) rfl dX6_addToken_30 ?_
      refine lv_aload_n hx hb dX6_addToken_33 rfl (lv_at hl 0 rfl) ?_
      refine va_get (D := D) (v := .int (gI z_t 3)) (C := RX6) (T := TX6) (N := 9) hx hb hts iX6 hown hK.1 hP 0 rfl rfl 3 (by decide) (hts _ t_211) (fun _ h9 => h9) rfl dX6_addToken_34 ?_
      refine lv_iload_n hx hb dX6_addToken_37 rfl (lv_at hl 2 rfl) ?_
      refine ast_i hx hb hK.1 hP hD hS 2 0 rfl rfl ((gI z_t 3).toNatClampNeg) (ix_g g3) dX6_addToken_38 (fun H locs hP hD hS => ?_)
      have hP : va_P D classes (rc6 a q_t Q_t (sT (sT z_t 0 ((gI z_t 3).toNatClampNeg) x1) 1 ((gI z_t 3).toNatClampNeg) x2)) H := hP
      have hD : va_D A (rc6 a q_t Q_t (sT (sT z_t 0 ((gI z_t 3).toNatClampNeg) x1) 1 ((gI z_t 3).toNatClampNeg) x2)) := hD
      refine lv_aload_n hx hb dX6_addToken_39 rfl (lv_at hl 0 rfl) ?_
      refine va_get (D := D) (v := .ref (Q_t 2)) (C := RX6) (T := TX6) (N := 9) hx hb hts iX6 hown hK.1 hP 0 rfl rfl 2 (by decide) (hts _ t_210) (fun _ h9 => h9) rfl dX6_addToken_40 ?_
      refine lv_aload_n hx hb dX6_addToken_43 rfl (lv_at hl 0 rfl) ?_
      refine va_get (D := D) (v := .int (gI z_t 3)) (C := RX6) (T := TX6) (N := 9) hx hb hts iX6 hown hK.1 hP 0 rfl rfl 3 (by decide) (hts _ t_211) (fun _ h9 => h9) rfl dX6_addToken_44 ?_
      refine lv_iload_n hx hb dX6_addToken_47 rfl (lv_at hl 3 rfl) ?_
      refine ast_i hx hb hK.1 hP hD hS 3 0 rfl rfl ((gI z_t 3).toNatClampNeg) (ix_g g3) dX6_addToken_48 (fun H locs hP hD hS => ?_)
      have hP : va_P D classes (rc6 a q_t Q_t (sT (sT (sT z_t 0 ((gI z_t 3).toNatClampNeg) x1) 1 ((gI z_t 3).toNatClampNeg) x2) 2 ((gI z_t 3).toNatClampNeg) x3)) H := hP
      have hD : va_D A (rc6 a q_t Q_t (sT (sT (sT z_t 0 ((gI z_t 3).toNatClampNeg) x1) 1 ((gI z_t 3).toNatClampNeg) x2) 2 ((gI z_t 3).toNatClampNeg) x3)) := hD
      refine lv_aload_n hx hb dX6_addToken_49 rfl (lv_at hl 0 rfl) ?_
      refine lv_dup hx hb dX6_addToken_50 rfl ?_
      refine va_get (D := D) (v := .int (gI z_t 3)) (C := RX6) (T := TX6) (N := 9) hx hb hts iX6 hown hK.1 hP 0 rfl rfl 3 (by decide) (hts _ t_211) (fun _ h9 => h9) rfl dX6_addToken_51 ?_
      refine lv_iconst (v := 1) hx hb dX6_addToken_54 (by decide) ?_
      refine lv_iadd hx hb dX6_addToken_55 ?_
      refine va_put (D := D) (v := .int ((gI z_t 3) + 1)) (C := RX6) (T := TX6) (N := 9) hx hb hts iX6 tyX6 tyX6_ok nmX6 hown hK.1 hP hD hS 0 rfl rfl 3 (by decide) (hts _ t_211) (fun _ h9 => h9) rfl (tyX6_ok 3 (by decide)) rfl rfl (Nat.le_of_ble_eq_true rfl) dX6_addToken_56 (fun H locs hP hD hS => ?_)
      have hP : va_P D classes (rc6 a q_t Q_t (sI (sT (sT (sT z_t 0 ((gI z_t 3).toNatClampNeg) x1) 1 ((gI z_t 3).toNatClampNeg) x2) 2 ((gI z_t 3).toNatClampNeg) x3) 3 ((gI z_t 3) + 1))) H := hP
      have hD : va_D A (rc6 a q_t Q_t (sI (sT (sT (sT z_t 0 ((gI z_t 3).toNatClampNeg) x1) 1 ((gI z_t 3).toNatClampNeg) x2) 2 ((gI z_t 3).toNatClampNeg) x3) 3 ((gI z_t 3) + 1))) := hD
      exact rMv C rfl h (g := fun y => rc6 a q_t Q_t y) hP hD hS dX6_addToken_59

def fX6_valueWord (n_p0 : Nat) (f_p0 : Nat → Int32) (x1 : Int32) (x2 : Int32) : Option (Int32) := bd (fX6_spells n_p0 f_p0 x1 x2 8) (fun r2 => if r2 = 0 then bd (fX6_spells n_p0 f_p0 x1 x2 9) (fun r5 => if r5 = 0 then bd (fX6_spells n_p0 f_p0 x1 x2 10) (fun r8 => if r8 = 0 then bd (fX6_spells n_p0 f_p0 x1 x2 11) (fun r11 => if r11 = 0 then bd (fX6_spells n_p0 f_p0 x1 x2 12) (fun r14 => if r14 = 0 then bd (fX6_spells n_p0 f_p0 x1 x2 13) (fun r17 => if r17 = 0 then bd (fX6_spells n_p0 f_p0 x1 x2 14) (fun r20 => if r20 = 0 then bd (fX6_spells n_p0 f_p0 x1 x2 15) (fun r23 => if r23 = 0 then bd (fX6_spells n_p0 f_p0 x1 x2 16) (fun r26 => if r26 = 0 then some 303 else some 320) else some 319) else some 318) else some 317) else some 316) else some 315) else some 314) else some 313) else some 312)

set_option maxHeartbeats 4000000 in
set_option maxRecDepth 100000 in
theorem mX6_valueWord (l : Launch) (D : va_G) (a : Nat → ClassId) {adK adV : Nat → Nat} {q_p0 : Nat} {n_p0 : Nat} {f_p0 : Nat → Int32} {x1 : Int32} {x2 : Int32} {y : Int32} (h : fX6_valueWord n_p0 f_p0 x1 x2 = some y) : CRsi l MX6_valueWord 5 124 D a adK adV [.ref q_p0, .int x1, .int x2] (ra0 a q_p0 n_p0 f_p0) (fun r => r = y) := by
  unfold fX6_valueWord at h
  refine entRs (by decide) (Nat.le_of_ble_eq_true rfl) ?_
  intro p e s m below meth c C hK hP hV ls hl
  obtain ⟨hx, hb, hml, hown, hts, hr, hlocks, hnm⟩ := id C
  have hb : c.code = cX6_valueWord := hb
  have hown : s.vm.findClass RX6 = some m.cls := hown
  have hl : lv_has ls 3 [(0, .ref q_p0), (1, .int x1), (2, .int x2)] := hl
  refine lv_aload_n hx hb dX6_valueWord_0 rfl (lv_at hl 0 rfl) ?_
  refine lv_iload_n hx hb dX6_valueWord_1 rfl (lv_at hl 1 rfl) ?_
  refine lv_iload_n hx hb dX6_valueWord_2 rfl (lv_at hl 2 rfl) ?_
  refine va_ldcS hx hb hown (hV.2.1 8 (by decide)) dX6_valueWord_3 ?_
  obtain ⟨r2, hc1, h⟩ := bd_some h
  refine cRi (runS (As := [.ref q_p0, .int x1, .int x2, .ref (adK 8)]) (rest := []) C (mX6_spells l D a (by decide) hc1) lk_S_6_67 okN_X6_spells ⟨Nat.le_of_ble_eq_true rfl, Nat.le_of_ble_eq_true rfl⟩ ⟨rfl, rfl⟩ (preRs hK hP hV) hl.1 rfl (Nat.le_of_ble_eq_true rfl) dX6_valueWord_5 ⟨Nat.le_of_ble_eq_true rfl, Nat.le_of_ble_eq_true rfl⟩) ?_
  refine lv_if_eq (tgt := 17) hx hb dX6_valueWord_8 (by decide) (fun c3 => ?_) (fun c3 => ?_)
  · have h := ite_t c3 h
    refine lv_aload_n hx hb dX6_valueWord_17 rfl (lv_at hl 0 rfl) ?_
    refine lv_iload_n hx hb dX6_valueWord_18 rfl (lv_at hl 1 rfl) ?_
    refine lv_iload_n hx hb dX6_valueWord_19 rfl (lv_at hl 2 rfl) ?_
    refine va_ldcS hx hb hown (hV.2.1 9 (by decide)) dX6_valueWord_20 ?_
    obtain ⟨r5, hc4, h⟩ := bd_some h
    refine cRi (runS (As := [.ref q_p0, .int x1, .int x2, .ref (adK 9)]) (rest := []) C (mX6_spells l D a (by decide) hc4) lk_S_6_67 okN_X6_spells ⟨Nat.le_of_ble_eq_true rfl, Nat.le_of_ble_eq_true rfl⟩ ⟨rfl, rfl⟩ (preRs hK hP hV) hl.1 rfl (Nat.le_of_ble_eq_true rfl) dX6_valueWord_22 ⟨Nat.le_of_ble_eq_true rfl, Nat.le_of_ble_eq_true rfl⟩) ?_
    refine lv_if_eq (tgt := 34) hx hb dX6_valueWord_25 (by decide) (fun c6 => ?_) (fun c6 => ?_)
    · have h := ite_t c6 h
      refine lv_aload_n hx hb dX6_valueWord_34 rfl (lv_at hl 0 rfl) ?_
      refine lv_iload_n hx hb dX6_valueWord_35 rfl (lv_at hl 1 rfl) ?_
      refine lv_iload_n hx hb dX6_valueWord_36 rfl (lv_at hl 2 rfl) ?_
      refine va_ldcS hx hb hown (hV.2.1 10 (by decide)) dX6_valueWord_37 ?_
      obtain ⟨r8, hc7, h⟩ := bd_some h
      refine cRi (runS (As := [.ref q_p0, .int x1, .int x2, .ref (adK 10)]) (rest := []) C (mX6_spells l D a (by decide) hc7) lk_S_6_67 okN_X6_spells ⟨Nat.le_of_ble_eq_true rfl, Nat.le_of_ble_eq_true rfl⟩ ⟨rfl, rfl⟩ (preRs hK hP hV) hl.1 rfl (Nat.le_of_ble_eq_true rfl) dX6_valueWord_39 ⟨Nat.le_of_ble_eq_true rfl, Nat.le_of_ble_eq_true rfl⟩) ?_
      refine lv_if_eq (tgt := 51) hx hb dX6_valueWord_42 (by decide) (fun c9 => ?_) (fun c9 => ?_)
      · have h := ite_t c9 h
        refine lv_aload_n hx hb dX6_valueWord_51 rfl (lv_at hl 0 rfl) ?_
        refine lv_iload_n hx hb dX6_valueWord_52 rfl (lv_at hl 1 rfl) ?_
        refine lv_iload_n hx hb dX6_valueWord_53 rfl (lv_at hl 2 rfl) ?_
        refine va_ldcS hx hb hown (hV.2.1 11 (by decide)) dX6_valueWord_54 ?_
        obtain ⟨r11, hc10, h⟩ := bd_some h
        refine cRi (runS (As := [.ref q_p0, .int x1, .int x2, .ref (adK 11)]) (rest := []) C (mX6_spells l D a (by decide) hc10) lk_S_6_67 okN_X6_spells ⟨Nat.le_of_ble_eq_true rfl, Nat.le_of_ble_eq_true rfl⟩ ⟨rfl, rfl⟩ (preRs hK hP hV) hl.1 rfl (Nat.le_of_ble_eq_true rfl) dX6_valueWord_56 ⟨Nat.le_of_ble_eq_true rfl, Nat.le_of_ble_eq_true rfl⟩) ?_
        refine lv_if_eq (tgt := 68) hx hb dX6_valueWord_59 (by decide) (fun c12 => ?_) (fun c12 => ?_)
        · have h := ite_t c12 h
          refine lv_aload_n hx hb dX6_valueWord_68 rfl (lv_at hl 0 rfl) ?_
          refine lv_iload_n hx hb dX6_valueWord_69 rfl (lv_at hl 1 rfl) ?_
          refine lv_iload_n hx hb dX6_valueWord_70 rfl (lv_at hl 2 rfl) ?_
          refine va_ldcS hx hb hown (hV.2.1 12 (by decide)) dX6_valueWord_71 ?_
          obtain ⟨r14, hc13, h⟩ := bd_some h
          refine cRi (runS (As := [.ref q_p0, .int x1, .int x2, .ref (adK 12)]) (rest := []) C (mX6_spells l D a (by decide) hc13) lk_S_6_67 okN_X6_spells ⟨Nat.le_of_ble_eq_true rfl, Nat.le_of_ble_eq_true rfl⟩ ⟨rfl, rfl⟩ (preRs hK hP hV) hl.1 rfl (Nat.le_of_ble_eq_true rfl) dX6_valueWord_73 ⟨Nat.le_of_ble_eq_true rfl, Nat.le_of_ble_eq_true rfl⟩) ?_
          refine lv_if_eq (tgt := 85) hx hb dX6_valueWord_76 (by decide) (fun c15 => ?_) (fun c15 => ?_)
          · have h := ite_t c15 h
            refine lv_aload_n hx hb dX6_valueWord_85 rfl (lv_at hl 0 rfl) ?_
            refine lv_iload_n hx hb dX6_valueWord_86 rfl (lv_at hl 1 rfl) ?_
            refine lv_iload_n hx hb dX6_valueWord_87 rfl (lv_at hl 2 rfl) ?_
            refine va_ldcS hx hb hown (hV.2.1 13 (by decide)) dX6_valueWord_88 ?_
            obtain ⟨r17, hc16, h⟩ := bd_some h
            refine cRi (runS (As := [.ref q_p0, .int x1, .int x2, .ref (adK 13)]) (rest := []) C (mX6_spells l D a (by decide) hc16) lk_S_6_67 okN_X6_spells ⟨Nat.le_of_ble_eq_true rfl, Nat.le_of_ble_eq_true rfl⟩ ⟨rfl, rfl⟩ (preRs hK hP hV) hl.1 rfl (Nat.le_of_ble_eq_true rfl) dX6_valueWord_90 ⟨Nat.le_of_ble_eq_true rfl, Nat.le_of_ble_eq_true rfl⟩) ?_
            refine lv_if_eq (tgt := 102) hx hb dX6_valueWord_93 (by decide) (fun c18 => ?_) (fun c18 => ?_)
            · have h := ite_t c18 h
              refine lv_aload_n hx hb dX6_valueWord_102 rfl (lv_at hl 0 rfl) ?_
              refine lv_iload_n hx hb dX6_valueWord_103 rfl (lv_at hl 1 rfl) ?_
              refine lv_iload_n hx hb dX6_valueWord_104 rfl (lv_at hl 2 rfl) ?_
              refine va_ldcS hx hb hown (hV.2.1 14 (by decide)) dX6_valueWord_105 ?_
              obtain ⟨r20, hc19, h⟩ := bd_some h
              refine cRi (runS (As := [.ref q_p0, .int x1, .int x2, .ref (adK 14)]) (rest := []) C (mX6_spells l D a (by decide) hc19) lk_S_6_67 okN_X6_spells ⟨Nat.le_of_ble_eq_true rfl, Nat.le_of_ble_eq_true rfl⟩ ⟨rfl, rfl⟩ (preRs hK hP hV) hl.1 rfl (Nat.le_of_ble_eq_true rfl) dX6_valueWord_107 ⟨Nat.le_of_ble_eq_true rfl, Nat.le_of_ble_eq_true rfl⟩) ?_
              refine lv_if_eq (tgt := 119) hx hb dX6_valueWord_110 (by decide) (fun c21 => ?_) (fun c21 => ?_)
              · have h := ite_t c21 h
                refine lv_aload_n hx hb dX6_valueWord_119 rfl (lv_at hl 0 rfl) ?_
                refine lv_iload_n hx hb dX6_valueWord_120 rfl (lv_at hl 1 rfl) ?_
                refine lv_iload_n hx hb dX6_valueWord_121 rfl (lv_at hl 2 rfl) ?_
                refine va_ldcS hx hb hown (hV.2.1 15 (by decide)) dX6_valueWord_122 ?_
                obtain ⟨r23, hc22, h⟩ := bd_some h
                refine cRi (runS (As := [.ref q_p0, .int x1, .int x2, .ref (adK 15)]) (rest := []) C (mX6_spells l D a (by decide) hc22) lk_S_6_67 okN_X6_spells ⟨Nat.le_of_ble_eq_true rfl, Nat.le_of_ble_eq_true rfl⟩ ⟨rfl, rfl⟩ (preRs hK hP hV) hl.1 rfl (Nat.le_of_ble_eq_true rfl) dX6_valueWord_124 ⟨Nat.le_of_ble_eq_true rfl, Nat.le_of_ble_eq_true rfl⟩) ?_
                refine lv_if_eq (tgt := 136) hx hb dX6_valueWord_127 (by decide) (fun c24 => ?_) (fun c24 => ?_)
                · have h := ite_t c24 h
                  refine lv_aload_n hx hb dX6_valueWord_136 rfl (lv_at hl 0 rfl) ?_
                  refine lv_iload_n hx hb dX6_valueWord_137 rfl (lv_at hl 1 rfl) ?_
                  refine lv_iload_n hx hb dX6_valueWord_138 rfl (lv_at hl 2 rfl) ?_
                  refine va_ldcS hx hb hown (hV.2.1 16 (by decide)) dX6_valueWord_139 ?_
                  obtain ⟨r26, hc25, h⟩ := bd_some h
                  refine cRi (runS (As := [.ref q_p0, .int x1, .int x2, .ref (adK 16)]) (rest := []) C (mX6_spells l D a (by decide) hc25) lk_S_6_67 okN_X6_spells ⟨Nat.le_of_ble_eq_true rfl, Nat.le_of_ble_eq_true rfl⟩ ⟨rfl, rfl⟩ (preRs hK hP hV) hl.1 rfl (Nat.le_of_ble_eq_true rfl) dX6_valueWord_141 ⟨Nat.le_of_ble_eq_true rfl, Nat.le_of_ble_eq_true rfl⟩) ?_
                  refine lv_if_eq (tgt := 153) hx hb dX6_valueWord_144 (by decide) (fun c27 => ?_) (fun c27 => ?_)
                  · have h := ite_t c27 h
                    refine lv_sipush (v := 303) hx hb dX6_valueWord_153 (by decide) ?_
                    exact rRi C rfl (Option.some.inj h) dX6_valueWord_156
                  · have h := ite_f c27 h
                    refine lv_sipush (v := 320) hx hb dX6_valueWord_147 (by decide) ?_
                    refine lv_goto (tgt := 156) hx hb dX6_valueWord_150 (by decide) ?_
                    exact rRi C rfl (Option.some.inj h) dX6_valueWord_156
                · have h := ite_f c24 h
                  refine lv_sipush (v := 319) hx hb dX6_valueWord_130 (by decide) ?_
                  refine lv_goto (tgt := 156) hx hb dX6_valueWord_133 (by decide) ?_
                  exact rRi C rfl (Option.some.inj h) dX6_valueWord_156
              · have h := ite_f c21 h
                refine lv_sipush (v := 318) hx hb dX6_valueWord_113 (by decide) ?_
                refine lv_goto (tgt := 156) hx hb dX6_valueWord_116 (by decide) ?_
                exact rRi C rfl (Option.some.inj h) dX6_valueWord_156
            · have h := ite_f c18 h
              refine lv_sipush (v := 317) hx hb dX6_valueWord_96 (by decide) ?_
              refine lv_goto (tgt := 156) hx hb dX6_valueWord_99 (by decide) ?_
              exact rRi C rfl (Option.some.inj h) dX6_valueWord_156
          · have h := ite_f c15 h
            refine lv_sipush (v := 316) hx hb dX6_valueWord_79 (by decide) ?_
            refine lv_goto (tgt := 156) hx hb dX6_valueWord_82 (by decide) ?_
            exact rRi C rfl (Option.some.inj h) dX6_valueWord_156
        · have h := ite_f c12 h
          refine lv_sipush (v := 315) hx hb dX6_valueWord_62 (by decide) ?_
          refine lv_goto (tgt := 156) hx hb dX6_valueWord_65 (by decide) ?_
          exact rRi C rfl (Option.some.inj h) dX6_valueWord_156
      · have h := ite_f c9 h
        refine lv_sipush (v := 314) hx hb dX6_valueWord_45 (by decide) ?_
        refine lv_goto (tgt := 156) hx hb dX6_valueWord_48 (by decide) ?_
        exact rRi C rfl (Option.some.inj h) dX6_valueWord_156
    · have h := ite_f c6 h
      refine lv_sipush (v := 313) hx hb dX6_valueWord_28 (by decide) ?_
      refine lv_goto (tgt := 156) hx hb dX6_valueWord_31 (by decide) ?_
      exact rRi C rfl (Option.some.inj h) dX6_valueWord_156
  · have h := ite_f c3 h
    refine lv_sipush (v := 312) hx hb dX6_valueWord_11 (by decide) ?_
    refine lv_goto (tgt := 156) hx hb dX6_valueWord_14 (by decide) ?_
    exact rRi C rfl (Option.some.inj h) dX6_valueWord_156

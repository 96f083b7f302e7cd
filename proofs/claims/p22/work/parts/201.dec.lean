def lX6_cutWord_3 (k27 : Int32 → Option (Int32 × Sx)) (z_t : Sx) (n_p1 : Nat) (f_p1 : Nat → Int32) (x2 : Int32) (x3 : Int32) : Nat → Int32 → Option (Int32 × Sx)
  | 0, _ => none
  | n + 1, x4 => if x3 ≤ x4 then k27 x4 else bd (fX8_at n_p1 f_p1 x4) (fun r3 => bd (fX6_isLetter r3) (fun r5 => if r5 = 0 then k27 x4 else lX6_cutWord_3 k27 z_t n_p1 f_p1 x2 x3 n (x4 + 1)))
def fX6_cutWord (z_t : Sx) (n_p1 : Nat) (f_p1 : Nat → Int32) (x2 : Int32) (x3 : Int32) : Option (Int32 × Sx) := lX6_cutWord_3 (fun (i7 : Int32) => bd (fX6_clauseWord n_p1 f_p1 x2 i7) (fun r9 => jn (fun (i11 : Int32) => bd (fX6_addToken z_t i11 x2 0) (fun z13 => some (i7, z13))) (fun J10 => if r9 = 303 then bd (fX6_valueWord n_p1 f_p1 x2 i7) (fun r16 => J10 r16) else J10 r9))) z_t n_p1 f_p1 x2 x3 FU x2

set_option maxHeartbeats 4000000 in
set_option maxRecDepth 100000 in
theorem wX6_cutWord_3 {p : Program} {l : Launch} {e : Env} {s : State} {m : MethodId} {below : List Frame} {meth : Method} {c : Code} {D : va_G} {a : Nat → ClassId} {A : Nat → Prop} {adK adV : Nat → Nat} {q_t : Nat} {q_p1 : Nat} {Q_t : Nat → Nat} {z_t : Sx} {n_p1 : Nat} {f_p1 : Nat → Int32} {x20 : Int32} {x30 : Int32} {x2 : Int32} {x3 : Int32} (C : Cx p s m #[.ref q_t, .ref q_p1, .int x20, .int x30] meth c MX6_cutWord) (hK : KK D a s) (hA : ∀ q, s.heap.size ≤ q → A q) (hV : VV adK adV A s s.heap) {y : Int32 × Sx} {k27 : Int32 → Option (Int32 × Sx)} (hk27 : ∀ (x4k : Int32) (H : Heap) (locs : List Loc) (ls : Array Slot), k27 x4k = some y → va_P D classes (rc6 a q_t Q_t z_t ++ (ra0 a q_p1 n_p1 f_p1)) H → va_D A (rc6 a q_t Q_t z_t ++ (ra0 a q_p1 n_p1 f_p1)) → va_S A s.heap H locs → lv_has ls 6 [(0, .ref q_t), (1, .ref q_p1), (2, .int x2), (4, .int x4k)] → W p l e (rmM 6 0 0 146) s m #[.ref q_t, .ref q_p1, .int x20, .int x30] below meth c H locs 0 0 (MQ below (va_Qi (fun r (_ : Unit) => r = y.1) (Bw D A (fun _ => rc6 a q_t Q_t y.2 ++ (ra0 a q_p1 n_p1 f_p1))) A) #[.ref q_t, .ref q_p1, .int x20, .int x30] s 0 0 A) (F0 m 27 ls [])) : ∀ (n : Nat) (x4 : Int32) (H : Heap) (locs : List Loc) (ls : Array Slot), lX6_cutWord_3 k27 z_t n_p1 f_p1 x2 x3 n x4 = some y → va_P D classes (rc6 a q_t Q_t z_t ++ (ra0 a q_p1 n_p1 f_p1)) H → va_D A (rc6 a q_t Q_t z_t ++ (ra0 a q_p1 n_p1 f_p1)) → va_S A s.heap H locs → lv_has ls 6 [(0, .ref q_t), (1, .ref q_p1), (2, .int x2), (3, .int x3), (4, .int x4)] → W p l e (rmM 6 0 0 146) s m #[.ref q_t, .ref q_p1, .int x20, .int x30] below meth c H locs 0 0 (MQ below (va_Qi (fun r (_ : Unit) => r = y.1) (Bw D A (fun _ => rc6 a q_t Q_t y.2 ++ (ra0 a q_p1 n_p1 f_p1))) A) #[.ref q_t, .ref q_p1, .int x20, .int x30] s 0 0 A) (F0 m 3 ls []) := by
  obtain ⟨hx, hb, hml, hown, hts, hr, hlocks, hnm⟩ := id C
  have hb : c.code = cX6_cutWord := hb
  have hown : s.vm.findClass RX6 = some m.cls := hown
  intro n
  induction n with
  | zero => intro x4 H locs ls h; rw [lX6_cutWord_3] at h; cases h
  | succ n ih =>
    intro x4 H locs ls h hP hD hS hl
    rw [lX6_cutWord_3] at h
    refine lv_iload hx hb dX6_cutWord_3 (lv_at hl 4 rfl) ?_
    refine lv_iload_n hx hb dX6_cutWord_5 rfl (lv_at hl 3 rfl) ?_
    refine lv_icmp_ge (tgt := 27) hx hb dX6_cutWord_6 (by decide) (fun c1 => ?_) (fun c1 => ?_)
    · have h := ite_t c1 h
      exact hk27 x4 _ _ ls h hP hD hS (lv_sub hl [0, 1, 2, 4] rfl)
    · have h := ite_f c1 h
      refine lv_aload_n hx hb dX6_cutWord_9 rfl (lv_at hl 1 rfl) ?_
      refine lv_iload hx hb dX6_cutWord_10 (lv_at hl 4 rfl) ?_
      obtain ⟨r3, hc2, h⟩ := bd_some h
      refine cRi (runN (As := [.ref q_p1, .int x4]) (rest := []) C hK (mX8_at l D a hc2) lk_N_6_42 okN_X8_at ⟨Nat.le_of_ble_eq_true rfl, Nat.le_of_ble_eq_true rfl⟩ ⟨rfl, rfl⟩ (preR hK (P_of_map (wc := ra0 a q_p1 n_p1 f_p1) hP [4] rfl)) hl.1 rfl (Nat.le_of_ble_eq_true rfl) dX6_cutWord_12 ⟨Nat.le_of_ble_eq_true rfl, Nat.le_of_ble_eq_true rfl⟩) ?_
      obtain ⟨r5, hc4, h⟩ := bd_some h
      refine cRi (runS (As := [.int r3]) (rest := []) C (mX6_isLetter l D a hc4) lk_S_6_53 okN_X6_isLetter ⟨Nat.le_of_ble_eq_true rfl, Nat.le_of_ble_eq_true rfl⟩ ⟨rfl, rfl⟩ (preR hK (P_of_map (wc := []) hP [] rfl)) hl.1 rfl (Nat.le_of_ble_eq_true rfl) dX6_cutWord_15 ⟨Nat.le_of_ble_eq_true rfl, Nat.le_of_ble_eq_true rfl⟩) ?_
      refine lv_if_eq (tgt := 27) hx hb dX6_cutWord_18 (by decide) (fun c6 => ?_) (fun c6 => ?_)
      · have h := ite_t c6 h
        exact hk27 x4 _ _ ls h hP hD hS (lv_sub hl [0, 1, 2, 4] rfl)
      · have h := ite_f c6 h
        refine lv_iinc (v := x4 + 1) (lv' := [(4, .int (x4 + 1)), (0, .ref q_t), (1, .ref q_p1), (2, .int x2), (3, .int x3)]) hx hb dX6_cutWord_21 hl (k := 4) rfl rfl (by decide) rfl (fun ls hl => ?_)
        refine lv_goto (tgt := 3) hx hb dX6_cutWord_24 (by decide) ?_
        exact ih (x4 + 1) _ _ ls h hP hD hS (lv_sub hl [1, 2, 3, 4, 0] rfl)

set_option maxHeartbeats 4000000 in
set_option maxRecDepth 100000 in
theorem mX6_cutWord (l : Launch) (D : va_G) (a : Nat → ClassId) {adK adV : Nat → Nat} {q_t : Nat} {q_p1 : Nat} {Q_t : Nat → Nat} {z_t : Sx} {n_p1 : Nat} {f_p1 : Nat → Int32} {x2 : Int32} {x3 : Int32} {y : Int32 × Sx} (h : fX6_cutWord z_t n_p1 f_p1 x2 x3 = some y) (sz : Nat) : CMsi (S := Unit) l MX6_cutWord 6 146 0 0 D a adK adV [.ref q_t, .ref q_p1, .int x2, .int x3] (rc6 a q_t Q_t z_t ++ (ra0 a q_p1 n_p1 f_p1)) sz (fun r _ => r = y.1) (fun _ => rc6 a q_t Q_t y.2 ++ (ra0 a q_p1 n_p1 f_p1)) := by
  unfold fX6_cutWord at h
  refine entMsi (by decide) (Nat.le_of_ble_eq_true rfl) ?_
  intro p e s m below meth c C hK A hA hP hD hV ls hl
  obtain ⟨hx, hb, hml, hown, hts, hr, hlocks, hnm⟩ := id C
  have hb : c.code = cX6_cutWord := hb
  have hown : s.vm.findClass RX6 = some m.cls := hown
  have hS : va_S A s.heap s.heap [] := va_S.rf
  have hl : lv_has ls 6 [(0, .ref q_t), (1, .ref q_p1), (2, .int x2), (3, .int x3)] := hl
  refine lv_iload_n hx hb dX6_cutWord_0 rfl (lv_at hl 2 rfl) ?_
  refine lv_istore (lv' := [(4, .int x2), (0, .ref q_t), (1, .ref q_p1), (2, .int x2), (3, .int x3)]) hx hb dX6_cutWord_1 hl (by decide) rfl (fun ls hl => ?_)
  refine wX6_cutWord_3 C hK hA hV ?_ FU x2 _ _ ls h hP hD hS (lv_sub hl [1, 2, 3, 4, 0] rfl)
  · intro i7 H locs ls h hP hD hS hl
    refine lv_aload_n hx hb dX6_cutWord_27 rfl (lv_at hl 1 rfl) ?_
    refine lv_iload_n hx hb dX6_cutWord_28 rfl (lv_at hl 2 rfl) ?_
    refine lv_iload hx hb dX6_cutWord_29 (lv_at hl 3 rfl) ?_
    obtain ⟨r9, hc8, h⟩ := bd_some h
    refine cRi (runS (As := [.ref q_p1, .int x2, .int i7]) (rest := []) C (mX6_clauseWord l D a hc8) lk_S_6_59 okN_X6_clauseWord ⟨Nat.le_of_ble_eq_true rfl, Nat.le_of_ble_eq_true rfl⟩ ⟨rfl, rfl⟩ (preRs hK (P_of_map (wc := ra0 a q_p1 n_p1 f_p1) hP [4] rfl) ((hV.kept hS.2.1).narrow (fun _ h => h.elim))) hl.1 rfl (Nat.le_of_ble_eq_true rfl) dX6_cutWord_31 ⟨Nat.le_of_ble_eq_true rfl, Nat.le_of_ble_eq_true rfl⟩) ?_
    refine lv_istore (lv' := [(5, .int r9), (0, .ref q_t), (1, .ref q_p1), (2, .int x2), (4, .int i7)]) hx hb dX6_cutWord_34 hl (by decide) rfl (fun ls hl => ?_)
    refine lv_aload_n hx hb dX6_cutWord_36 rfl (lv_at hl 1 rfl) ?_
    refine lv_iload hx hb dX6_cutWord_37 (lv_at hl 0 rfl) ?_
    refine lv_sipush (v := 303) hx hb dX6_cutWord_39 (by decide) ?_
    obtain ⟨J10, eJ10, h⟩ := jn_some h
    have hJ10 : ∀ (i11 : Int32) (H : Heap) (locs : List Loc) (ls : Array Slot), J10 i11 = some y → va_P D classes (rc6 a q_t Q_t z_t ++ (ra0 a q_p1 n_p1 f_p1)) H → va_D A (rc6 a q_t Q_t z_t ++ (ra0 a q_p1 n_p1 f_p1)) → va_S A s.heap H locs → lv_has ls 6 [(2, .int x2), (4, .int i7)] → W p l e (rmM 6 0 0 146) s m #[.ref q_t, .ref q_p1, .int x2, .int x3] below meth c H locs 0 0 (MQ below (va_Qi (fun r (_ : Unit) => r = y.1) (Bw D A (fun _ => rc6 a q_t Q_t y.2 ++ (ra0 a q_p1 n_p1 f_p1))) A) #[.ref q_t, .ref q_p1, .int x2, .int x3] s 0 0 A) (F0 m 57 ls [.int i11, .ref q_t]) := by
      intro i11 H locs ls h hP hD hS hl
      rw [eJ10] at h
      refine lv_iload_n hx hb dX6_cutWord_57 rfl (lv_at hl 0 rfl) ?_
      refine lv_iconst (v := 0) hx hb dX6_cutWord_58 (by decide) ?_
      obtain ⟨z13, hc12, h⟩ := bd_some h
      refine cMv (runV (As := [.int i11, .int x2, .int 0]) (rest := []) C (mX6_addToken l D a hc12 H.size) lk_V_6_29 okN_X6_addToken ⟨Nat.le_of_ble_eq_true rfl, Nat.le_of_ble_eq_true rfl⟩ ⟨rfl, rfl⟩ (preV (preM hK (P_of_map (wc := rc6 a q_t Q_t z_t) hP [0, 1, 2, 3] rfl) (hD.sub (ws' := rc6 a q_t Q_t z_t) [0, 1, 2, 3] (by decide) rfl)) (recvOf hK hP 0 rfl (ci := 6) rfl)) hl.1 rfl (Nat.le_of_ble_eq_true rfl) dX6_cutWord_59 ⟨Nat.le_of_ble_eq_true rfl, Nat.le_of_ble_eq_true rfl⟩) hP hD hS hA [0, 1, 2, 3] [4] [1, 2, 3, 4, 0] rfl rfl (by decide) (by decide) (fw := rc6 a q_t Q_t z13 ++ (ra0 a q_p1 n_p1 f_p1)) rfl (by decide) (fun H locs hP hD hS => ?_)
      have hP : va_P D classes (rc6 a q_t Q_t z13 ++ (ra0 a q_p1 n_p1 f_p1)) H := hP
      have hD : va_D A (rc6 a q_t Q_t z13 ++ (ra0 a q_p1 n_p1 f_p1)) := hD
      refine lv_iload hx hb dX6_cutWord_62 (lv_at hl 1 rfl) ?_
      exact rMi C rfl h (g := fun y => rc6 a q_t Q_t y.2 ++ (ra0 a q_p1 n_p1 f_p1)) (pr := fun y => y.1) hP hD hS dX6_cutWord_64
    refine lv_icmp_ne (tgt := 55) hx hb dX6_cutWord_42 (by decide) (fun c14 => ?_) (fun c14 => ?_)
    · have h := ite_f c14 h
      refine lv_iload hx hb dX6_cutWord_55 (lv_at hl 0 rfl) ?_
      exact hJ10 r9 _ _ ls h hP hD hS (lv_sub hl [3, 4] rfl)
    · have h := ite_t c14 h
      refine lv_aload_n hx hb dX6_cutWord_45 rfl (lv_at hl 2 rfl) ?_
      refine lv_iload_n hx hb dX6_cutWord_46 rfl (lv_at hl 3 rfl) ?_
      refine lv_iload hx hb dX6_cutWord_47 (lv_at hl 4 rfl) ?_
      obtain ⟨r16, hc15, h⟩ := bd_some h
      refine cRi (runS (As := [.ref q_p1, .int x2, .int i7]) (rest := [.ref q_t]) C (mX6_valueWord l D a hc15) lk_S_6_62 okN_X6_valueWord ⟨Nat.le_of_ble_eq_true rfl, Nat.le_of_ble_eq_true rfl⟩ ⟨rfl, rfl⟩ (preRs hK (P_of_map (wc := ra0 a q_p1 n_p1 f_p1) hP [4] rfl) ((hV.kept hS.2.1).narrow (fun _ h => h.elim))) hl.1 rfl (Nat.le_of_ble_eq_true rfl) dX6_cutWord_49 ⟨Nat.le_of_ble_eq_true rfl, Nat.le_of_ble_eq_true rfl⟩) ?_
      refine lv_goto (tgt := 57) hx hb dX6_cutWord_52 (by decide) ?_
      exact hJ10 r16 _ _ ls h hP hD hS (lv_sub hl [3, 4] rfl)

def lX6_cutNumber_6 (k55 : Int32 → Int32 → Option (Int32 × Sx)) (z_t : Sx) (n_p1 : Nat) (f_p1 : Nat → Int32) (x2 : Int32) (x3 : Int32) : Nat → Int32 → Int32 → Option (Int32 × Sx)
  | 0, _, _ => none
  | n + 1, x4, x5 => if x3 ≤ x4 then k55 x4 x5 else bd (fX8_at n_p1 f_p1 x4) (fun r3 => bd (fX6_isDigit r3) (fun r5 => if r5 = 0 then k55 x4 x5 else jn (fun (i8 : Int32) => lX6_cutNumber_6 k55 z_t n_p1 f_p1 x2 x3 n (x4 + 1) i8) (fun J7 => if (x2 + 5) ≤ x4 then J7 x5 else bd (fX8_at n_p1 f_p1 x4) (fun r11 => J7 (((x5 * 10) + r11) - 48)))))
def fX6_cutNumber (z_t : Sx) (n_p1 : Nat) (f_p1 : Nat → Int32) (x2 : Int32) (x3 : Int32) : Option (Int32 × Sx) := lX6_cutNumber_6 (fun (i12 : Int32) (i13 : Int32) => jn (fun (i15 : Int32) => bd (fX6_addToken z_t i15 x2 i13) (fun z17 => some (i12, z17))) (fun J14 => if (i12 - x2) ≤ 5 then J14 301 else J14 302)) z_t n_p1 f_p1 x2 x3 FU x2 0

set_option maxHeartbeats 4000000 in
set_option maxRecDepth 100000 in
theorem wX6_cutNumber_6 {p : Program} {l : Launch} {e : Env} {s : State} {m : MethodId} {below : List Frame} {meth : Method} {c : Code} {D : va_G} {a : Nat → ClassId} {A : Nat → Prop} {q_t : Nat} {q_p1 : Nat} {Q_t : Nat → Nat} {z_t : Sx} {n_p1 : Nat} {f_p1 : Nat → Int32} {x20 : Int32} {x30 : Int32} {x2 : Int32} {x3 : Int32} (C : Cx p s m #[.ref q_t, .ref q_p1, .int x20, .int x30] meth c MX6_cutNumber) (hK : KK D a s) (hA : ∀ q, s.heap.size ≤ q → A q) {y : Int32 × Sx} {k55 : Int32 → Int32 → Option (Int32 × Sx)} (hk55 : ∀ (x4k : Int32) (x5k : Int32) (H : Heap) (locs : List Loc) (ls : Array Slot), k55 x4k x5k = some y → va_P D classes (rc6 a q_t Q_t z_t ++ (ra0 a q_p1 n_p1 f_p1)) H → va_D A (rc6 a q_t Q_t z_t ++ (ra0 a q_p1 n_p1 f_p1)) → va_S A s.heap H locs → lv_has ls 6 [(0, .ref q_t), (2, .int x2), (4, .int x4k), (5, .int x5k)] → W p l e (rmM 1 0 0 23) s m #[.ref q_t, .ref q_p1, .int x20, .int x30] below meth c H locs 0 0 (MQ below (va_Qi (fun r (_ : Unit) => r = y.1) (Bw D A (fun _ => rc6 a q_t Q_t y.2 ++ (ra0 a q_p1 n_p1 f_p1))) A) #[.ref q_t, .ref q_p1, .int x20, .int x30] s 0 0 A) (F0 m 55 ls [])) : ∀ (n : Nat) (x4 : Int32) (x5 : Int32) (H : Heap) (locs : List Loc) (ls : Array Slot), lX6_cutNumber_6 k55 z_t n_p1 f_p1 x2 x3 n x4 x5 = some y → va_P D classes (rc6 a q_t Q_t z_t ++ (ra0 a q_p1 n_p1 f_p1)) H → va_D A (rc6 a q_t Q_t z_t ++ (ra0 a q_p1 n_p1 f_p1)) → va_S A s.heap H locs → lv_has ls 6 [(0, .ref q_t), (1, .ref q_p1), (2, .int x2), (3, .int x3), (4, .int x4), (5, .int x5)] → W p l e (rmM 1 0 0 23) s m #[.ref q_t, .ref q_p1, .int x20, .int x30] below meth c H locs 0 0 (MQ below (va_Qi (fun r (_ : Unit) => r = y.1) (Bw D A (fun _ => rc6 a q_t Q_t y.2 ++ (ra0 a q_p1 n_p1 f_p1))) A) #[.ref q_t, .ref q_p1, .int x20, .int x30] s 0 0 A) (F0 m 6 ls []) := by
  obtain ⟨hx, hb, hml, hown, hts, hr, hlocks, hnm⟩ := id C
  have hb : c.code = cX6_cutNumber := hb
  have hown : s.vm.findClass RX6 = some m.cls := hown
  intro n
  induction n with
  | zero => intro x4 x5 H locs ls h; rw [lX6_cutNumber_6] at h; cases h
  | succ n ih =>
    intro x4 x5 H locs ls h hP hD hS hl
    rw [lX6_cutNumber_6] at h
    refine lv_iload hx hb dX6_cutNumber_6 (lv_at hl 4 rfl) ?_
    refine lv_iload_n hx hb dX6_cutNumber_8 rfl (lv_at hl 3 rfl) ?_
    refine lv_icmp_ge (tgt := 55) hx hb dX6_cutNumber_9 (by decide) (fun c1 => ?_) (fun c1 => ?_)
    · have h := ite_t c1 h
      exact hk55 x4 x5 _ _ ls h hP hD hS (lv_sub hl [0, 2, 4, 5] rfl)
    · have h := ite_f c1 h
      refine lv_aload_n hx hb dX6_cutNumber_12 rfl (lv_at hl 1 rfl) ?_
      refine lv_iload hx hb dX6_cutNumber_13 (lv_at hl 4 rfl) ?_
      obtain ⟨r3, hc2, h⟩ := bd_some h
      refine cRi (runN (As := [.ref q_p1, .int x4]) (rest := []) C hK (mX8_at l D a hc2) lk_N_6_42 okN_X8_at ⟨Nat.le_of_ble_eq_true rfl, Nat.le_of_ble_eq_true rfl⟩ ⟨rfl, rfl⟩ (preR hK (P_of_map (wc := ra0 a q_p1 n_p1 f_p1) hP [4] rfl)) hl.1 rfl (Nat.le_of_ble_eq_true rfl) dX6_cutNumber_15 ⟨Nat.le_of_ble_eq_true rfl, Nat.le_of_ble_eq_true rfl⟩) ?_
      obtain ⟨r5, hc4, h⟩ := bd_some h
      refine cRi (runS (As := [.int r3]) (rest := []) C (mX6_isDigit l D a hc4) lk_S_6_46 okN_X6_isDigit ⟨Nat.le_of_ble_eq_true rfl, Nat.le_of_ble_eq_true rfl⟩ ⟨rfl, rfl⟩ (preR hK (P_of_map (wc := []) hP [] rfl)) hl.1 rfl (Nat.le_of_ble_eq_true rfl) dX6_cutNumber_18 ⟨Nat.le_of_ble_eq_true rfl, Nat.le_of_ble_eq_true rfl⟩) ?_
      refine lv_if_eq (tgt := 55) hx hb dX6_cutNumber_21 (by decide) (fun c6 => ?_) (fun c6 => ?_)
      · have h := ite_t c6 h
        exact hk55 x4 x5 _ _ ls h hP hD hS (lv_sub hl [0, 2, 4, 5] rfl)
      · have h := ite_f c6 h
        refine lv_iload hx hb dX6_cutNumber_24 (lv_at hl 4 rfl) ?_
        refine lv_iload_n hx hb dX6_cutNumber_26 rfl (lv_at hl 2 rfl) ?_
        refine lv_iconst (v := 5) hx hb dX6_cutNumber_27 (by decide) ?_
        refine lv_iadd hx hb dX6_cutNumber_28 ?_
        obtain ⟨J7, eJ7, h⟩ := jn_some h
        have hJ7 : ∀ (i8 : Int32) (H : Heap) (locs : List Loc) (ls : Array Slot), J7 i8 = some y → va_P D classes (rc6 a q_t Q_t z_t ++ (ra0 a q_p1 n_p1 f_p1)) H → va_D A (rc6 a q_t Q_t z_t ++ (ra0 a q_p1 n_p1 f_p1)) → va_S A s.heap H locs → lv_has ls 6 [(0, .ref q_t), (1, .ref q_p1), (2, .int x2), (3, .int x3), (4, .int x4), (5, .int i8)] → W p l e (rmM 1 0 0 23) s m #[.ref q_t, .ref q_p1, .int x20, .int x30] below meth c H locs 0 0 (MQ below (va_Qi (fun r (_ : Unit) => r = y.1) (Bw D A (fun _ => rc6 a q_t Q_t y.2 ++ (ra0 a q_p1 n_p1 f_p1))) A) #[.ref q_t, .ref q_p1, .int x20, .int x30] s 0 0 A) (F0 m 49 ls []) := by
          intro i8 H locs ls h hP hD hS hl
          rw [eJ7] at h
          refine lv_iinc (v := x4 + 1) (lv' := [(4, .int (x4 + 1)), (0, .ref q_t), (1, .ref q_p1), (2, .int x2), (3, .int x3), (5, .int i8)]) hx hb dX6_cutNumber_49 hl (k := 4) rfl rfl (by decide) rfl (fun ls hl => ?_)
          refine lv_goto (tgt := 6) hx hb dX6_cutNumber_52 (by decide) ?_
          exact ih (x4 + 1) i8 _ _ ls h hP hD hS (lv_sub hl [1, 2, 3, 4, 0, 5] rfl)
        refine lv_icmp_ge (tgt := 49) hx hb dX6_cutNumber_29 (by decide) (fun c9 => ?_) (fun c9 => ?_)
        · have h := ite_t c9 h
          exact hJ7 x5 _ _ ls h hP hD hS (lv_sub hl [0, 1, 2, 3, 4, 5] rfl)
        · have h := ite_f c9 h
          refine lv_iload hx hb dX6_cutNumber_32 (lv_at hl 5 rfl) ?_
          refine lv_bipush (v := 10) hx hb dX6_cutNumber_34 (by decide) ?_
          refine lv_imul hx hb dX6_cutNumber_36 ?_
          refine lv_aload_n hx hb dX6_cutNumber_37 rfl (lv_at hl 1 rfl) ?_
          refine lv_iload hx hb dX6_cutNumber_38 (lv_at hl 4 rfl) ?_
          obtain ⟨r11, hc10, h⟩ := bd_some h
          refine cRi (runN (As := [.ref q_p1, .int x4]) (rest := [.int (x5 * 10)]) C hK (mX8_at l D a hc10) lk_N_6_42 okN_X8_at ⟨Nat.le_of_ble_eq_true rfl, Nat.le_of_ble_eq_true rfl⟩ ⟨rfl, rfl⟩ (preR hK (P_of_map (wc := ra0 a q_p1 n_p1 f_p1) hP [4] rfl)) hl.1 rfl (Nat.le_of_ble_eq_true rfl) dX6_cutNumber_40 ⟨Nat.le_of_ble_eq_true rfl, Nat.le_of_ble_eq_true rfl⟩) ?_
          refine lv_iadd hx hb dX6_cutNumber_43 ?_
          refine lv_bipush (v := 48) hx hb dX6_cutNumber_44 (by decide) ?_
          refine lv_isub hx hb dX6_cutNumber_46 ?_
          refine lv_istore (lv' := [(5, .int (((x5 * 10) + r11) - 48)), (0, .ref q_t), (1, .ref q_p1), (2, .int x2), (3, .int x3), (4, .int x4)]) hx hb dX6_cutNumber_47 hl (by decide) rfl (fun ls hl => ?_)
          exact hJ7 (((x5 * 10) + r11) - 48) _ _ ls h hP hD hS (lv_sub hl [1, 2, 3, 4, 5, 0] rfl)

set_option maxHeartbeats 4000000 in
set_option maxRecDepth 100000 in
theorem mX6_cutNumber (l : Launch) (D : va_G) (a : Nat → ClassId) {q_t : Nat} {q_p1 : Nat} {Q_t : Nat → Nat} {z_t : Sx} {n_p1 : Nat} {f_p1 : Nat → Int32} {x2 : Int32} {x3 : Int32} {y : Int32 × Sx} (h : fX6_cutNumber z_t n_p1 f_p1 x2 x3 = some y) (sz : Nat) : CMi (S := Unit) l MX6_cutNumber 1 23 0 0 D a [.ref q_t, .ref q_p1, .int x2, .int x3] (rc6 a q_t Q_t z_t ++ (ra0 a q_p1 n_p1 f_p1)) sz (fun r _ => r = y.1) (fun _ => rc6 a q_t Q_t y.2 ++ (ra0 a q_p1 n_p1 f_p1)) := by
  unfold fX6_cutNumber at h
  refine entMi (by decide) (Nat.le_of_ble_eq_true rfl) ?_
  intro p e s m below meth c C hK A hA hP hD ls hl
  obtain ⟨hx, hb, hml, hown, hts, hr, hlocks, hnm⟩ := id C
  have hb : c.code = cX6_cutNumber := hb
  have hown : s.vm.findClass RX6 = some m.cls := hown
  have hS : va_S A s.heap s.heap [] := va_S.rf
  have hl : lv_has ls 6 [(0, .ref q_t), (1, .ref q_p1), (2, .int x2), (3, .int x3)] := hl
  refine lv_iload_n hx hb dX6_cutNumber_0 rfl (lv_at hl 2 rfl) ?_
  refine lv_istore (lv' := [(4, .int x2), (0, .ref q_t), (1, .ref q_p1), (2, .int x2), (3, .int x3)]) hx hb dX6_cutNumber_1 hl (by decide) rfl (fun ls hl => ?_)
  refine lv_iconst (v := 0) hx hb dX6_cutNumber_3 (by decide) ?_
  refine lv_istore (lv' := [(5, .int 0), (4, .int x2), (0, .ref q_t), (1, .ref q_p1), (2, .int x2), (3, .int x3)]) hx hb dX6_cutNumber_4 hl (by decide) rfl (fun ls hl => ?_)
  refine wX6_cutNumber_6 C hK hA ?_ FU x2 0 _ _ ls h hP hD hS (lv_sub hl [2, 3, 4, 5, 1, 0] rfl)
  · intro i12 i13 H locs ls h hP hD hS hl
    refine lv_aload_n hx hb dX6_cutNumber_55 rfl (lv_at hl 0 rfl) ?_
    refine lv_iload hx hb dX6_cutNumber_56 (lv_at hl 2 rfl) ?_
    refine lv_iload_n hx hb dX6_cutNumber_58 rfl (lv_at hl 1 rfl) ?_
    refine lv_isub hx hb dX6_cutNumber_59 ?_
    refine lv_iconst (v := 5) hx hb dX6_cutNumber_60 (by decide) ?_
    obtain ⟨J14, eJ14, h⟩ := jn_some h
    have hJ14 : ∀ (i15 : Int32) (H : Heap) (locs : List Loc) (ls : Array Slot), J14 i15 = some y → va_P D classes (rc6 a q_t Q_t z_t ++ (ra0 a q_p1 n_p1 f_p1)) H → va_D A (rc6 a q_t Q_t z_t ++ (ra0 a q_p1 n_p1 f_p1)) → va_S A s.heap H locs → lv_has ls 6 [(2, .int x2), (4, .int i12), (5, .int i13)] → W p l e (rmM 1 0 0 23) s m #[.ref q_t, .ref q_p1, .int x2, .int x3] below meth c H locs 0 0 (MQ below (va_Qi (fun r (_ : Unit) => r = y.1) (Bw D A (fun _ => rc6 a q_t Q_t y.2 ++ (ra0 a q_p1 n_p1 f_p1))) A) #[.ref q_t, .ref q_p1, .int x2, .int x3] s 0 0 A) (F0 m 73 ls [.int i15, .ref q_t]) := by
      intro i15 H locs ls h hP hD hS hl
      rw [eJ14] at h
      refine lv_iload_n hx hb dX6_cutNumber_73 rfl (lv_at hl 0 rfl) ?_
      refine lv_iload hx hb dX6_cutNumber_74 (lv_at hl 2 rfl) ?_
      obtain ⟨z17, hc16, h⟩ := bd_some h
      refine cMv (runV (As := [.int i15, .int x2, .int i13]) (rest := []) C (mX6_addToken l D a hc16 H.size) lk_V_6_29 okN_X6_addToken ⟨Nat.le_of_ble_eq_true rfl, Nat.le_of_ble_eq_true rfl⟩ ⟨rfl, rfl⟩ (preV (preM hK (P_of_map (wc := rc6 a q_t Q_t z_t) hP [0, 1, 2, 3] rfl) (hD.sub (ws' := rc6 a q_t Q_t z_t) [0, 1, 2, 3] (by decide) rfl)) (recvOf hK hP 0 rfl (ci := 6) rfl)) hl.1 rfl (Nat.le_of_ble_eq_true rfl) dX6_cutNumber_76 ⟨Nat.le_of_ble_eq_true rfl, Nat.le_of_ble_eq_true rfl⟩) hP hD hS hA [0, 1, 2, 3] [4] [1, 2, 3, 4, 0] rfl rfl (by decide) (by decide) (fw := rc6 a q_t Q_t z17 ++ (ra0 a q_p1 n_p1 f_p1)) rfl (by decide) (fun H locs hP hD hS => ?_)
      have hP : va_P D classes (rc6 a q_t Q_t z17 ++ (ra0 a q_p1 n_p1 f_p1)) H := hP
      have hD : va_D A (rc6 a q_t Q_t z17 ++ (ra0 a q_p1 n_p1 f_p1)) := hD
      refine lv_iload hx hb dX6_cutNumber_79 (lv_at hl 1 rfl) ?_
      exact rMi C rfl h (g := fun y => rc6 a q_t Q_t y.2 ++ (ra0 a q_p1 n_p1 f_p1)) (pr := fun y => y.1) hP hD hS dX6_cutNumber_81
    refine lv_icmp_le (tgt := 70) hx hb dX6_cutNumber_61 (by decide) (fun c18 => ?_) (fun c18 => ?_)
    · have h := ite_t c18 h
      refine lv_sipush (v := 301) hx hb dX6_cutNumber_70 (by decide) ?_
      exact hJ14 301 _ _ ls h hP hD hS (lv_sub hl [1, 2, 3] rfl)
    · have h := ite_f c18 h
      refine lv_sipush (v := 302) hx hb dX6_cutNumber_64 (by decide) ?_
      refine lv_goto (tgt := 73) hx hb dX6_cutNumber_67 (by decide) ?_
      exact hJ14 302 _ _ ls h hP hD hS (lv_sub hl [1, 2, 3] rfl)

def fX6_cutToken (z_t : Sx) (n_p1 : Nat) (f_p1 : Nat → Int32) (x2 : Int32) (x3 : Int32) : Option (Int32 × Sx) := bd (fX8_at n_p1 f_p1 x2) (fun r2 => if r2 = 32 then some (x2 + 1, z_t) else bd (fX6_isDigit r2) (fun r5 => if r5 = 0 then bd (fX6_isLetter r2) (fun r8 => if r8 = 0 then jn (fun (i11 : Int32) => if i11 = 0 then bd (fX6_addToken z_t r2 x2 0) (fun z14 => some (x2 + 1, z14)) else jn (fun (i16 : Int32) => bd (fX6_addToken z_t i16 x2 0) (fun z18 => some (x2 + 2, z18))) (fun J15 => if r2 = 60 then J15 256 else J15 257)) (fun J10 => jn (J10 0) (fun J20 => jn (if x3 ≤ (x2 + 1) then J20 else bd (fX8_at n_p1 f_p1 (x2 + 1)) (fun r24 => if r24 = 61 then J10 1 else J20)) (fun J21 => if r2 = 60 then J21 else if r2 = 62 then J21 else J20))) else bd2 (fX6_cutWord z_t n_p1 f_p1 x2 x3) (fun r29 z30 => some (r29, z30))) else bd2 (fX6_cutNumber z_t n_p1 f_p1 x2 x3) (fun r32 z33 => some (r32, z33))))

set_option maxHeartbeats 4000000 in
set_option maxRecDepth 100000 in
theorem mX6_cutToken (l : Launch) (D : va_G) (a : Nat → ClassId) {adK adV : Nat → Nat} {q_t : Nat} {q_p1 : Nat} {Q_t : Nat → Nat} {z_t : Sx} {n_p1 : Nat} {f_p1 : Nat → Int32} {x2 : Int32} {x3 : Int32} {y : Int32 × Sx} (h : fX6_cutToken z_t n_p1 f_p1 x2 x3 = some y) (sz : Nat) : CMsi (S := Unit) l MX6_cutToken 7 171 0 0 D a adK adV [.ref q_t, .ref q_p1, .int x2, .int x3] (rc6 a q_t Q_t z_t ++ (ra0 a q_p1 n_p1 f_p1)) sz (fun r _ => r = y.1) (fun _ => rc6 a q_t Q_t y.2 ++ (ra0 a q_p1 n_p1 f_p1)) := by
  unfold fX6_cutToken at h
  refine entMsi (by decide) (Nat.le_of_ble_eq_true rfl) ?_
  intro p e s m below meth c C hK A hA hP hD hV ls hl
  obtain ⟨hx, hb, hml, hown, hts, hr, hlocks, hnm⟩ := id C
  have hb : c.code = cX6_cutToken := hb
  have hown : s.vm.findClass RX6 = some m.cls := hown
  have hS : va_S A s.heap s.heap [] := va_S.rf
  have hl : lv_has ls 6 [(0, .ref q_t), (1, .ref q_p1), (2, .int x2), (3, .int x3)] := hl
  refine lv_aload_n hx hb dX6_cutToken_0 rfl (lv_at hl 1 rfl) ?_
  refine lv_iload_n hx hb dX6_cutToken_1 rfl (lv_at hl 2 rfl) ?_
  obtain ⟨r2, hc1, h⟩ := bd_some h
  refine cRi (runN (As := [.ref q_p1, .int x2]) (rest := []) C hK (mX8_at l D a hc1) lk_N_6_42 okN_X8_at ⟨Nat.le_of_ble_eq_true rfl, Nat.le_of_ble_eq_true rfl⟩ ⟨rfl, rfl⟩ (preR hK (P_of_map (wc := ra0 a q_p1 n_p1 f_p1) hP [4] rfl)) hl.1 rfl (Nat.le_of_ble_eq_true rfl) dX6_cutToken_2 ⟨Nat.le_of_ble_eq_true rfl, Nat.le_of_ble_eq_true rfl⟩) ?_
  refine lv_istore (lv' := [(4, .int r2), (0, .ref q_t), (1, .ref q_p1), (2, .int x2), (3, .int x3)]) hx hb dX6_cutToken_5 hl (by decide) rfl (fun ls hl => ?_)
  refine lv_iload hx hb dX6_cutToken_7 (lv_at hl 0 rfl) ?_
  refine lv_bipush (v := 32) hx hb dX6_cutToken_9 (by decide) ?_
  refine lv_icmp_ne (tgt := 18) hx hb dX6_cutToken_11 (by decide) (fun c3 => ?_) (fun c3 => ?_)
  · have h := ite_f c3 h
    refine lv_iload hx hb dX6_cutToken_18 (lv_at hl 0 rfl) ?_
    obtain ⟨r5, hc4, h⟩ := bd_some h
    refine cRi (runS (As := [.int r2]) (rest := []) C (mX6_isDigit l D a hc4) lk_S_6_46 okN_X6_isDigit ⟨Nat.le_of_ble_eq_true rfl, Nat.le_of_ble_eq_true rfl⟩ ⟨rfl, rfl⟩ (preR hK (P_of_map (wc := []) hP [] rfl)) hl.1 rfl (Nat.le_of_ble_eq_true rfl) dX6_cutToken_20 ⟨Nat.le_of_ble_eq_true rfl, Nat.le_of_ble_eq_true rfl⟩) ?_
    refine lv_if_eq (tgt := 34) hx hb dX6_cutToken_23 (by decide) (fun c6 => ?_) (fun c6 => ?_)
    · have h := ite_t c6 h
      refine lv_iload hx hb dX6_cutToken_34 (lv_at hl 0 rfl) ?_
      obtain ⟨r8, hc7, h⟩ := bd_some h
      refine cRi (runS (As := [.int r2]) (rest := []) C (mX6_isLetter l D a hc7) lk_S_6_53 okN_X6_isLetter ⟨Nat.le_of_ble_eq_true rfl, Nat.le_of_ble_eq_true rfl⟩ ⟨rfl, rfl⟩ (preR hK (P_of_map (wc := []) hP [] rfl)) hl.1 rfl (Nat.le_of_ble_eq_true rfl) dX6_cutToken_36 ⟨Nat.le_of_ble_eq_true rfl, Nat.le_of_ble_eq_true rfl⟩) ?_
      refine lv_if_eq (tgt := 50) hx hb dX6_cutToken_39 (by decide) (fun c9 => ?_) (fun c9 => ?_)
      · have h := ite_t c9 h
        refine lv_iload hx hb dX6_cutToken_50 (lv_at hl 0 rfl) ?_
        refine lv_bipush (v := 60) hx hb dX6_cutToken_52 (by decide) ?_
        obtain ⟨J10, eJ10, h⟩ := jn_some h
        have hJ10 : ∀ (i11 : Int32) (H : Heap) (locs : List Loc) (ls : Array Slot), J10 i11 = some y → va_P D classes (rc6 a q_t Q_t z_t ++ (ra0 a q_p1 n_p1 f_p1)) H → va_D A (rc6 a q_t Q_t z_t ++ (ra0 a q_p1 n_p1 f_p1)) → va_S A s.heap H locs → lv_has ls 6 [(0, .ref q_t), (2, .int x2), (4, .int r2)] → W p l e (rmM 7 0 0 171) s m #[.ref q_t, .ref q_p1, .int x2, .int x3] below meth c H locs 0 0 (MQ below (va_Qi (fun r (_ : Unit) => r = y.1) (Bw D A (fun _ => rc6 a q_t Q_t y.2 ++ (ra0 a q_p1 n_p1 f_p1))) A) #[.ref q_t, .ref q_p1, .int x2, .int x3] s 0 0 A) (F0 m 88 ls [.int i11]) := by
          intro i11 H locs ls h hP hD hS hl
          rw [eJ10] at h
          refine lv_istore (lv' := [(5, .int i11), (0, .ref q_t), (2, .int x2), (4, .int r2)]) hx hb dX6_cutToken_88 hl (by decide) rfl (fun ls hl => ?_)
          refine lv_iload hx hb dX6_cutToken_90 (lv_at hl 0 rfl) ?_
          refine lv_if_eq (tgt := 121) hx hb dX6_cutToken_92 (by decide) (fun c12 => ?_) (fun c12 => ?_)
          · have h := ite_t c12 h
            refine lv_aload_n hx hb dX6_cutToken_121 rfl (lv_at hl 1 rfl) ?_
            refine lv_iload hx hb dX6_cutToken_122 (lv_at hl 3 rfl) ?_
            refine lv_iload_n hx hb dX6_cutToken_124 rfl (lv_at hl 2 rfl) ?_
            refine lv_iconst (v := 0) hx hb dX6_cutToken_125 (by decide) ?_
            obtain ⟨z14, hc13, h⟩ := bd_some h
            refine cMv (runV (As := [.int r2, .int x2, .int 0]) (rest := []) C (mX6_addToken l D a hc13 H.size) lk_V_6_29 okN_X6_addToken ⟨Nat.le_of_ble_eq_true rfl, Nat.le_of_ble_eq_true rfl⟩ ⟨rfl, rfl⟩ (preV (preM hK (P_of_map (wc := rc6 a q_t Q_t z_t) hP [0, 1, 2, 3] rfl) (hD.sub (ws' := rc6 a q_t Q_t z_t) [0, 1, 2, 3] (by decide) rfl)) (recvOf hK hP 0 rfl (ci := 6) rfl)) hl.1 rfl (Nat.le_of_ble_eq_true rfl) dX6_cutToken_126 ⟨Nat.le_of_ble_eq_true rfl, Nat.le_of_ble_eq_true rfl⟩) hP hD hS hA [0, 1, 2, 3] [4] [1, 2, 3, 4, 0] rfl rfl (by decide) (by decide) (fw := rc6 a q_t Q_t z14 ++ (ra0 a q_p1 n_p1 f_p1)) rfl (by decide) (fun H locs hP hD hS => ?_)
            have hP : va_P D classes (rc6 a q_t Q_t z14 ++ (ra0 a q_p1 n_p1 f_p1)) H := hP
            have hD : va_D A (rc6 a q_t Q_t z14 ++ (ra0 a q_p1 n_p1 f_p1)) := hD
            refine lv_iload_n hx hb dX6_cutToken_129 rfl (lv_at hl 2 rfl) ?_
            refine lv_iconst (v := 1) hx hb dX6_cutToken_130 (by decide) ?_
            refine lv_iadd hx hb dX6_cutToken_131 ?_
            exact rMi C rfl h (g := fun y => rc6 a q_t Q_t y.2 ++ (ra0 a q_p1 n_p1 f_p1)) (pr := fun y => y.1) hP hD hS dX6_cutToken_132
          · have h := ite_f c12 h
            refine lv_aload_n hx hb dX6_cutToken_95 rfl (lv_at hl 1 rfl) ?_
            refine lv_iload hx hb dX6_cutToken_96 (lv_at hl 3 rfl) ?_
            refine lv_bipush (v := 60) hx hb dX6_cutToken_98 (by decide) ?_
            obtain ⟨J15, eJ15, h⟩ := jn_some h
            have hJ15 : ∀ (i16 : Int32) (H : Heap) (locs : List Loc) (ls : Array Slot), J15 i16 = some y → va_P D classes (rc6 a q_t Q_t z_t ++ (ra0 a q_p1 n_p1 f_p1)) H → va_D A (rc6 a q_t Q_t z_t ++ (ra0 a q_p1 n_p1 f_p1)) → va_S A s.heap H locs → lv_has ls 6 [(2, .int x2)] → W p l e (rmM 7 0 0 171) s m #[.ref q_t, .ref q_p1, .int x2, .int x3] below meth c H locs 0 0 (MQ below (va_Qi (fun r (_ : Unit) => r = y.1) (Bw D A (fun _ => rc6 a q_t Q_t y.2 ++ (ra0 a q_p1 n_p1 f_p1))) A) #[.ref q_t, .ref q_p1, .int x2, .int x3] s 0 0 A) (F0 m 112 ls [.int i16, .ref q_t]) := by
              intro i16 H locs ls h hP hD hS hl
              rw [eJ15] at h
              refine lv_iload_n hx hb dX6_cutToken_112 rfl (lv_at hl 0 rfl) ?_
              refine lv_iconst (v := 0) hx hb dX6_cutToken_113 (by decide) ?_
              obtain ⟨z18, hc17, h⟩ := bd_some h
              refine cMv (runV (As := [.int i16, .int x2, .int 0]) (rest := []) C (mX6_addToken l D a hc17 H.size) lk_V_6_29 okN_X6_addToken ⟨Nat.le_of_ble_eq_true rfl, Nat.le_of_ble_eq_true rfl⟩ ⟨rfl, rfl⟩ (preV (preM hK (P_of_map (wc := rc6 a q_t Q_t z_t) hP [0, 1, 2, 3] rfl) (hD.sub (ws' := rc6 a q_t Q_t z_t) [0, 1, 2, 3] (by decide) rfl)) (recvOf hK hP 0 rfl (ci := 6) rfl)) hl.1 rfl (Nat.le_of_ble_eq_true rfl) dX6_cutToken_114 ⟨Nat.le_of_ble_eq_true rfl, Nat.le_of_ble_eq_true rfl⟩) hP hD hS hA [0, 1, 2, 3] [4] [1, 2, 3, 4, 0] rfl rfl (by decide) (by decide) (fw := rc6 a q_t Q_t z18 ++ (ra0 a q_p1 n_p1 f_p1)) rfl (by decide) (fun H locs hP hD hS => ?_)
              have hP : va_P D classes (rc6 a q_t Q_t z18 ++ (ra0 a q_p1 n_p1 f_p1)) H := hP
              have hD : va_D A (rc6 a q_t Q_t z18 ++ (ra0 a q_p1 n_p1 f_p1)) := hD
              refine lv_iload_n hx hb dX6_cutToken_117 rfl (lv_at hl 0 rfl) ?_
              refine lv_iconst (v := 2) hx hb dX6_cutToken_118 (by decide) ?_
              refine lv_iadd hx hb dX6_cutToken_119 ?_
              exact rMi C rfl h (g := fun y => rc6 a q_t Q_t y.2 ++ (ra0 a q_p1 n_p1 f_p1)) (pr := fun y => y.1) hP hD hS dX6_cutToken_120
            refine lv_icmp_ne (tgt := 109) hx hb dX6_cutToken_100 (by decide) (fun c19 => ?_) (fun c19 => ?_)
            · have h := ite_f c19 h
              refine lv_sipush (v := 257) hx hb dX6_cutToken_109 (by decide) ?_
              exact hJ15 257 _ _ ls h hP hD hS (lv_sub hl [2] rfl)
            · have h := ite_t c19 h
              refine lv_sipush (v := 256) hx hb dX6_cutToken_103 (by decide) ?_
              refine lv_goto (tgt := 112) hx hb dX6_cutToken_106 (by decide) ?_
              exact hJ15 256 _ _ ls h hP hD hS (lv_sub hl [2] rfl)
        obtain ⟨J20, eJ20, h⟩ := jn_some h
        have hJ20 : ∀ (H : Heap) (locs : List Loc) (ls : Array Slot), J20 = some y → va_P D classes (rc6 a q_t Q_t z_t ++ (ra0 a q_p1 n_p1 f_p1)) H → va_D A (rc6 a q_t Q_t z_t ++ (ra0 a q_p1 n_p1 f_p1)) → va_S A s.heap H locs → lv_has ls 6 [(0, .ref q_t), (2, .int x2), (4, .int r2)] → W p l e (rmM 7 0 0 171) s m #[.ref q_t, .ref q_p1, .int x2, .int x3] below meth c H locs 0 0 (MQ below (va_Qi (fun r (_ : Unit) => r = y.1) (Bw D A (fun _ => rc6 a q_t Q_t y.2 ++ (ra0 a q_p1 n_p1 f_p1))) A) #[.ref q_t, .ref q_p1, .int x2, .int x3] s 0 0 A) (F0 m 87 ls []) := by
          intro H locs ls h hP hD hS hl
          rw [eJ20] at h
          refine lv_iconst (v := 0) hx hb dX6_cutToken_87 (by decide) ?_
          exact hJ10 0 _ _ ls h hP hD hS (lv_sub hl [0, 1, 2] rfl)
        obtain ⟨J21, eJ21, h⟩ := jn_some h
        have hJ21 : ∀ (H : Heap) (locs : List Loc) (ls : Array Slot), J21 = some y → va_P D classes (rc6 a q_t Q_t z_t ++ (ra0 a q_p1 n_p1 f_p1)) H → va_D A (rc6 a q_t Q_t z_t ++ (ra0 a q_p1 n_p1 f_p1)) → va_S A s.heap H locs → lv_has ls 6 [(0, .ref q_t), (1, .ref q_p1), (2, .int x2), (3, .int x3), (4, .int r2)] → W p l e (rmM 7 0 0 171) s m #[.ref q_t, .ref q_p1, .int x2, .int x3] below meth c H locs 0 0 (MQ below (va_Qi (fun r (_ : Unit) => r = y.1) (Bw D A (fun _ => rc6 a q_t Q_t y.2 ++ (ra0 a q_p1 n_p1 f_p1))) A) #[.ref q_t, .ref q_p1, .int x2, .int x3] s 0 0 A) (F0 m 64 ls []) := by
          intro H locs ls h hP hD hS hl
          rw [eJ21] at h
          refine lv_iload_n hx hb dX6_cutToken_64 rfl (lv_at hl 2 rfl) ?_
          refine lv_iconst (v := 1) hx hb dX6_cutToken_65 (by decide) ?_
          refine lv_iadd hx hb dX6_cutToken_66 ?_
          refine lv_iload_n hx hb dX6_cutToken_67 rfl (lv_at hl 3 rfl) ?_
          refine lv_icmp_ge (tgt := 87) hx hb dX6_cutToken_68 (by decide) (fun c22 => ?_) (fun c22 => ?_)
          · have h := ite_t c22 h
            exact hJ20 _ _ ls h hP hD hS (lv_sub hl [0, 2, 4] rfl)
          · have h := ite_f c22 h
            refine lv_aload_n hx hb dX6_cutToken_71 rfl (lv_at hl 1 rfl) ?_
            refine lv_iload_n hx hb dX6_cutToken_72 rfl (lv_at hl 2 rfl) ?_
            refine lv_iconst (v := 1) hx hb dX6_cutToken_73 (by decide) ?_
            refine lv_iadd hx hb dX6_cutToken_74 ?_
            obtain ⟨r24, hc23, h⟩ := bd_some h
            refine cRi (runN (As := [.ref q_p1, .int (x2 + 1)]) (rest := []) C hK (mX8_at l D a hc23) lk_N_6_42 okN_X8_at ⟨Nat.le_of_ble_eq_true rfl, Nat.le_of_ble_eq_true rfl⟩ ⟨rfl, rfl⟩ (preR hK (P_of_map (wc := ra0 a q_p1 n_p1 f_p1) hP [4] rfl)) hl.1 rfl (Nat.le_of_ble_eq_true rfl) dX6_cutToken_75 ⟨Nat.le_of_ble_eq_true rfl, Nat.le_of_ble_eq_true rfl⟩) ?_
            refine lv_bipush (v := 61) hx hb dX6_cutToken_78 (by decide) ?_
            refine lv_icmp_ne (tgt := 87) hx hb dX6_cutToken_80 (by decide) (fun c25 => ?_) (fun c25 => ?_)
            · have h := ite_f c25 h
              exact hJ20 _ _ ls h hP hD hS (lv_sub hl [0, 2, 4] rfl)
            · have h := ite_t c25 h
              refine lv_iconst (v := 1) hx hb dX6_cutToken_83 (by decide) ?_
              refine lv_goto (tgt := 88) hx hb dX6_cutToken_84 (by decide) ?_
              exact hJ10 1 _ _ ls h hP hD hS (lv_sub hl [0, 2, 4] rfl)
        refine lv_icmp_eq (tgt := 64) hx hb dX6_cutToken_54 (by decide) (fun c26 => ?_) (fun c26 => ?_)
        · have h := ite_t c26 h
          exact hJ21 _ _ ls h hP hD hS (lv_sub hl [1, 2, 3, 4, 0] rfl)
        · have h := ite_f c26 h
          refine lv_iload hx hb dX6_cutToken_57 (lv_at hl 0 rfl) ?_
          refine lv_bipush (v := 62) hx hb dX6_cutToken_59 (by decide) ?_
          refine lv_icmp_ne (tgt := 87) hx hb dX6_cutToken_61 (by decide) (fun c27 => ?_) (fun c27 => ?_)
          · have h := ite_f c27 h
            exact hJ20 _ _ ls h hP hD hS (lv_sub hl [1, 3, 0] rfl)
          · have h := ite_t c27 h
            exact hJ21 _ _ ls h hP hD hS (lv_sub hl [1, 2, 3, 4, 0] rfl)
      · have h := ite_f c9 h
        refine lv_aload_n hx hb dX6_cutToken_42 rfl (lv_at hl 1 rfl) ?_
        refine lv_aload_n hx hb dX6_cutToken_43 rfl (lv_at hl 2 rfl) ?_
        refine lv_iload_n hx hb dX6_cutToken_44 rfl (lv_at hl 3 rfl) ?_
        refine lv_iload_n hx hb dX6_cutToken_45 rfl (lv_at hl 4 rfl) ?_
        obtain ⟨r29, z30, hc28, h⟩ := bd2_some h
        refine cWi (runV (As := [.ref q_p1, .int x2, .int x3]) (rest := []) C (mX6_cutWord l D a hc28 s.heap.size) lk_V_6_56 okN_X6_cutWord ⟨Nat.le_of_ble_eq_true rfl, Nat.le_of_ble_eq_true rfl⟩ ⟨rfl, rfl⟩ (preV (preMs hK hP hD ((hV.kept hS.2.1).narrow (free_all hD hS hA))) (recvOf hK hP 0 rfl (ci := 6) rfl)) hl.1 rfl (Nat.le_of_ble_eq_true rfl) dX6_cutToken_46 ⟨Nat.le_of_ble_eq_true rfl, Nat.le_of_ble_eq_true rfl⟩) hP hD hS hA (fun H locs hP hD hS => ?_)
        have hP : va_P D classes (rc6 a q_t Q_t z30 ++ (ra0 a q_p1 n_p1 f_p1)) H := hP
        have hD : va_D A (rc6 a q_t Q_t z30 ++ (ra0 a q_p1 n_p1 f_p1)) := hD
        exact rMi C rfl h (g := fun y => rc6 a q_t Q_t y.2 ++ (ra0 a q_p1 n_p1 f_p1)) (pr := fun y => y.1) hP hD hS dX6_cutToken_49
    · have h := ite_f c6 h
      refine lv_aload_n hx hb dX6_cutToken_26 rfl (lv_at hl 1 rfl) ?_
      refine lv_aload_n hx hb dX6_cutToken_27 rfl (lv_at hl 2 rfl) ?_
      refine lv_iload_n hx hb dX6_cutToken_28 rfl (lv_at hl 3 rfl) ?_
      refine lv_iload_n hx hb dX6_cutToken_29 rfl (lv_at hl 4 rfl) ?_
      obtain ⟨r32, z33, hc31, h⟩ := bd2_some h
      refine cWi (runV (As := [.ref q_p1, .int x2, .int x3]) (rest := []) C (mX6_cutNumber l D a hc31 s.heap.size) lk_V_6_50 okN_X6_cutNumber ⟨Nat.le_of_ble_eq_true rfl, Nat.le_of_ble_eq_true rfl⟩ ⟨rfl, rfl⟩ (preV (preM hK hP hD) (recvOf hK hP 0 rfl (ci := 6) rfl)) hl.1 rfl (Nat.le_of_ble_eq_true rfl) dX6_cutToken_30 ⟨Nat.le_of_ble_eq_true rfl, Nat.le_of_ble_eq_true rfl⟩) hP hD hS hA (fun H locs hP hD hS => ?_)
      have hP : va_P D classes (rc6 a q_t Q_t z33 ++ (ra0 a q_p1 n_p1 f_p1)) H := hP
      have hD : va_D A (rc6 a q_t Q_t z33 ++ (ra0 a q_p1 n_p1 f_p1)) := hD
      exact rMi C rfl h (g := fun y => rc6 a q_t Q_t y.2 ++ (ra0 a q_p1 n_p1 f_p1)) (pr := fun y => y.1) hP hD hS dX6_cutToken_33
  · have h := ite_t c3 h
    refine lv_iload_n hx hb dX6_cutToken_14 rfl (lv_at hl 3 rfl) ?_
    refine lv_iconst (v := 1) hx hb dX6_cutToken_15 (by decide) ?_
    refine lv_iadd hx hb dX6_cutToken_16 ?_
    exact rMi C rfl h (g := fun y => rc6 a q_t Q_t y.2 ++ (ra0 a q_p1 n_p1 f_p1)) (pr := fun y => y.1) hP hD hS dX6_cutToken_17

def fX6_step (z_t : Sx) : Option (Sx) := if (gI z_t 4) < 0 then some z_t else if (gI z_t 3) ≤ (gI z_t 4) then some z_t else if 401 ≤ (gI z_t 4) then some z_t else gd (inb (gI z_t 4) 401) (nm (gT (sI z_t 5 (gT z_t 0 ((gI z_t 4).toNatClampNeg))) 1 ((gI z_t 4).toNatClampNeg) : Int32) (fun v5 => nm (gT (sI (sI z_t 5 (gT z_t 0 ((gI z_t 4).toNatClampNeg))) 6 v5) 2 ((gI z_t 4).toNatClampNeg) : Int32) (fun v6 => some (sI (sI (sI (sI z_t 5 (gT z_t 0 ((gI z_t 4).toNatClampNeg))) 6 v5) 7 v6) 4 ((gI z_t 4) + 1)))))

set_option maxHeartbeats 4000000 in
set_option maxRecDepth 100000 in
theorem mX6_step (l : Launch) (D : va_G) (a : Nat → ClassId) {q_t : Nat} {Q_t : Nat → Nat} {z_t : Sx} {y : Sx} (h : fX6_step z_t = some y) (sz : Nat) : CMv (S := Unit) l MX6_step 0 0 0 0 D a [.ref q_t] (rc6 a q_t Q_t z_t) sz (fun _ => True) (fun _ => rc6 a q_t Q_t y) := by
  unfold fX6_step at h
  refine entMv (by decide) (Nat.le_of_ble_eq_true rfl) ?_
  intro p e s m below meth c C hK A hA hP hD ls hl
  obtain ⟨hx, hb, hml, hown, hts, hr, hlocks, hnm⟩ := id C
  have hb : c.code = cX6_step := hb
  have hown : s.vm.findClass RX6 = some m.cls := hown
  have hS : va_S A s.heap s.heap [] := va_S.rf
  have hl : lv_has ls 1 [(0, .ref q_t)] := hl
  refine lv_aload_n hx hb dX6_step_0 rfl (lv_at hl 0 rfl) ?_
  refine va_get (D := D) (v := .int (gI z_t 4)) (C := RX6) (T := TX6) (N := 9) hx hb hts iX6 hown hK.1 hP 0 rfl rfl 4 (by decide) (hts _ t_212) (fun _ h9 => h9) rfl dX6_step_1 ?_
  refine lv_if_lt (tgt := 79) hx hb dX6_step_4 (by decide) (fun c1 => ?_) (fun c1 => ?_)
  · have h := ite_t c1 h
    exact rMv C rfl h (g := fun y => rc6 a q_t Q_t y) hP hD hS dX6_step_79
  · have h := ite_f c1 h
    refine lv_aload_n hx hb dX6_step_7 rfl (lv_at hl 0 rfl) ?_
    refine va_get (D := D) (v := .int (gI z_t 4)) (C := RX6) (T := TX6) (N := 9) hx hb hts iX6 hown hK.1 hP 0 rfl rfl 4 (by decide) (hts _ t_212) (fun _ h9 => h9) rfl dX6_step_8 ?_
    refine lv_aload_n hx hb dX6_step_11 rfl (lv_at hl 0 rfl) ?_
    refine va_get (D := D) (v := .int (gI z_t 3)) (C := RX6) (T := TX6) (N := 9) hx hb hts iX6 hown hK.1 hP 0 rfl rfl 3 (by decide) (hts _ t_211) (fun _ h9 => h9) rfl dX6_step_12 ?_
    refine lv_icmp_ge (tgt := 79) hx hb dX6_step_15 (by decide) (fun c2 => ?_) (fun c2 => ?_)
    · have h := ite_t c2 h
      exact rMv C rfl h (g := fun y => rc6 a q_t Q_t y) hP hD hS dX6_step_79
    · have h := ite_f c2 h
      refine lv_aload_n hx hb dX6_step_18 rfl (lv_at hl 0 rfl) ?_
      refine va_get (D := D) (v := .int (gI z_t 4)) (C := RX6) (T := TX6) (N := 9) hx hb hts iX6 hown hK.1 hP 0 rfl rfl 4 (by decide) (hts _ t_212) (fun _ h9 => h9) rfl dX6_step_19 ?_
      refine lv_aload_n hx hb dX6_step_22 rfl (lv_at hl 0 rfl) ?_
      refine va_get (D := D) (v := .ref (Q_t 0)) (C := RX6) (T := TX6) (N := 9) hx hb hts iX6 hown hK.1 hP 0 rfl rfl 0 (by decide) (hts _ t_208) (fun _ h9 => h9) rfl dX6_step_23 ?_
      refine va_alen (v := 401) hx hb hK.1 hP 1 0 rfl rfl rfl dX6_step_26 ?_
      refine lv_icmp_ge (tgt := 79) hx hb dX6_step_27 (by decide) (fun c3 => ?_) (fun c3 => ?_)
      · have h := ite_t c3 h
        exact rMv C rfl h (g := fun y => rc6 a q_t Q_t y) hP hD hS dX6_step_79
      · have h := ite_f c3 h
        refine lv_aload_n hx hb dX6_step_30 rfl (lv_at hl 0 rfl) ?_
        refine lv_aload_n hx hb dX6_step_31 rfl (lv_at hl 0 rfl) ?_
        refine va_get (D := D) (v := .ref (Q_t 0)) (C := RX6) (T := TX6) (N := 9) hx hb hts iX6 hown hK.1 hP 0 rfl rfl 0 (by decide) (hts _ t_208) (fun _ h9 => h9) rfl dX6_step_32 ?_
        refine lv_aload_n hx hb dX6_step_35 rfl (lv_at hl 0 rfl) ?_
        refine va_get (D := D) (v := .int (gI z_t 4)) (C := RX6) (T := TX6) (N := 9) hx hb hts iX6 hown hK.1 hP 0 rfl rfl 4 (by decide) (hts _ t_212) (fun _ h9 => h9) rfl dX6_step_36 ?_
        obtain ⟨g4, h⟩ := gd_some h
        refine ald_i hx hb hK.1 hP 1 0 rfl rfl ((gI z_t 4).toNatClampNeg) (ix_g g4) dX6_step_39 ?_
        refine va_put (D := D) (v := .int (gT z_t 0 ((gI z_t 4).toNatClampNeg))) (C := RX6) (T := TX6) (N := 9) hx hb hts iX6 tyX6 tyX6_ok nmX6 hown hK.1 hP hD hS 0 rfl rfl 5 (by decide) (hts _ t_215) (fun _ h9 => h9) rfl (tyX6_ok 5 (by decide)) rfl rfl (Nat.le_of_ble_eq_true rfl) dX6_step_40 (fun H locs hP hD hS => ?_)
        have hP : va_P D classes (rc6 a q_t Q_t (sI z_t 5 (gT z_t 0 ((gI z_t 4).toNatClampNeg)))) H := hP
        have hD : va_D A (rc6 a q_t Q_t (sI z_t 5 (gT z_t 0 ((gI z_t 4).toNatClampNeg)))) := hD
        refine lv_aload_n hx hb dX6_step_43 rfl (lv_at hl 0 rfl) ?_
        refine lv_aload_n hx hb dX6_step_44 rfl (lv_at hl 0 rfl) ?_
        refine va_get (D := D) (v := .ref (Q_t 1)) (C := RX6) (T := TX6) (N := 9) hx hb hts iX6 hown hK.1 hP 0 rfl rfl 1 (by decide) (hts _ t_209) (fun _ h9 => h9) rfl dX6_step_45 ?_
        refine lv_aload_n hx hb dX6_step_48 rfl (lv_at hl 0 rfl) ?_
        refine va_get (D := D) (v := .int (gI z_t 4)) (C := RX6) (T := TX6) (N := 9) hx hb hts iX6 hown hK.1 hP 0 rfl rfl 4 (by decide) (hts _ t_212) (fun _ h9 => h9) rfl dX6_step_49 ?_
        refine ald_i hx hb hK.1 hP 2 0 rfl rfl ((gI z_t 4).toNatClampNeg) (ix_g g4) dX6_step_52 ?_
        refine lv_topi (fun v5 ev5 => ?_)
        have h := nm_some h v5 ev5
        refine va_put (D := D) (v := .int v5) (C := RX6) (T := TX6) (N := 9) hx hb hts iX6 tyX6 tyX6_ok nmX6 hown hK.1 hP hD hS 0 rfl rfl 6 (by decide) (hts _ t_216) (fun _ h9 => h9) rfl (tyX6_ok 6 (by decide)) rfl rfl (Nat.le_of_ble_eq_true rfl) dX6_step_53 (fun H locs hP hD hS => ?_)
        have hP : va_P D classes (rc6 a q_t Q_t (sI (sI z_t 5 (gT z_t 0 ((gI z_t 4).toNatClampNeg))) 6 v5)) H := hP
        have hD : va_D A (rc6 a q_t Q_t (sI (sI z_t 5 (gT z_t 0 ((gI z_t 4).toNatClampNeg))) 6 v5)) := hD
        refine lv_aload_n hx hb dX6_step_56 rfl (lv_at hl 0 rfl) ?_
        refine lv_aload_n hx hb dX6_step_57 rfl (lv_at hl 0 rfl) ?_
        refine va_get (D := D) (v := .ref (Q_t 2)) (C := RX6) (T := TX6) (N := 9) hx hb hts iX6 hown hK.1 hP 0 rfl rfl 2 (by decide) (hts _ t_210) (fun _ h9 => h9) rfl dX6_step_58 ?_
        refine lv_aload_n hx hb dX6_step_61 rfl (lv_at hl 0 rfl) ?_
        refine va_get (D := D) (v := .int (gI z_t 4)) (C := RX6) (T := TX6) (N := 9) hx hb hts iX6 hown hK.1 hP 0 rfl rfl 4 (by decide) (hts _ t_212) (fun _ h9 => h9) rfl dX6_step_62 ?_
        refine ald_i hx hb hK.1 hP 3 0 rfl rfl ((gI z_t 4).toNatClampNeg) (ix_g g4) dX6_step_65 ?_
        refine lv_topi (fun v6 ev6 => ?_)
        have h := nm_some h v6 ev6
        refine va_put (D := D) (v := .int v6) (C := RX6) (T := TX6) (N := 9) hx hb hts iX6 tyX6 tyX6_ok nmX6 hown hK.1 hP hD hS 0 rfl rfl 7 (by decide) (hts _ t_218) (fun _ h9 => h9) rfl (tyX6_ok 7 (by decide)) rfl rfl (Nat.le_of_ble_eq_true rfl) dX6_step_66 (fun H locs hP hD hS => ?_)
        have hP : va_P D classes (rc6 a q_t Q_t (sI (sI (sI z_t 5 (gT z_t 0 ((gI z_t 4).toNatClampNeg))) 6 v5) 7 v6)) H := hP
        have hD : va_D A (rc6 a q_t Q_t (sI (sI (sI z_t 5 (gT z_t 0 ((gI z_t 4).toNatClampNeg))) 6 v5) 7 v6)) := hD
        refine lv_aload_n hx hb dX6_step_69 rfl (lv_at hl 0 rfl) ?_
        refine lv_dup hx hb dX6_step_70 rfl ?_
        refine va_get (D := D) (v := .int (gI z_t 4)) (C := RX6) (T := TX6) (N := 9) hx hb hts iX6 hown hK.1 hP 0 rfl rfl 4 (by decide) (hts _ t_212) (fun _ h9 => h9) rfl dX6_step_71 ?_
        refine lv_iconst (v := 1) hx hb dX6_step_74 (by decide) ?_
        refine lv_iadd hx hb dX6_step_75 ?_
        refine va_put (D := D) (v := .int ((gI z_t 4) + 1)) (C := RX6) (T := TX6) (N := 9) hx hb hts iX6 tyX6 tyX6_ok nmX6 hown hK.1 hP hD hS 0 rfl rfl 4 (by decide) (hts _ t_212) (fun _ h9 => h9) rfl (tyX6_ok 4 (by decide)) rfl rfl (Nat.le_of_ble_eq_true rfl) dX6_step_76 (fun H locs hP hD hS => ?_)
        have hP : va_P D classes (rc6 a q_t Q_t (sI (sI (sI (sI z_t 5 (gT z_t 0 ((gI z_t 4).toNatClampNeg))) 6 v5) 7 v6) 4 ((gI z_t 4) + 1))) H := hP
        have hD : va_D A (rc6 a q_t Q_t (sI (sI (sI (sI z_t 5 (gT z_t 0 ((gI z_t 4).toNatClampNeg))) 6 v5) 7 v6) 4 ((gI z_t 4) + 1))) := hD
        exact rMv C rfl h (g := fun y => rc6 a q_t Q_t y) hP hD hS dX6_step_79

def lX6_open_10 (k37 : Sx → Option (Sx)) (n_p1 : Nat) (f_p1 : Nat → Int32) (x2 : Int32) : Nat → Sx → Int32 → Int32 → Option (Sx)
  | 0, _, _, _ => none
  | n + 1, z_t, x3, x4 => if 400 ≤ x4 then k37 z_t else if x2 ≤ x3 then k37 z_t else bd2 (fX6_cutToken z_t n_p1 f_p1 x3 x2) (fun r4 z5 => lX6_open_10 k37 n_p1 f_p1 x2 n z5 r4 (x4 + 1))
def fX6_open (z_t : Sx) (n_p1 : Nat) (f_p1 : Nat → Int32) (x2 : Int32) : Option (Sx) := lX6_open_10 (fun (z6 : Sx) => bd (fX6_addToken z6 300 x2 0) (fun z8 => bd (fX6_step (sI (sI z8 8 0) 4 0)) (fun z10 => some z10))) n_p1 f_p1 x2 FU (sI z_t 3 0) 0 0

set_option maxHeartbeats 4000000 in
set_option maxRecDepth 100000 in
theorem wX6_open_10 {p : Program} {l : Launch} {e : Env} {s : State} {m : MethodId} {below : List Frame} {meth : Method} {c : Code} {D : va_G} {a : Nat → ClassId} {A : Nat → Prop} {adK adV : Nat → Nat} {q_t : Nat} {q_p1 : Nat} {Q_t : Nat → Nat} {n_p1 : Nat} {f_p1 : Nat → Int32} {x20 : Int32} {x2 : Int32} (C : Cx p s m #[.ref q_t, .ref q_p1, .int x20] meth c MX6_open) (hK : KK D a s) (hA : ∀ q, s.heap.size ≤ q → A q) (hV : VV adK adV A s s.heap) {y : Sx} {k37 : Sx → Option (Sx)} (hk37 : ∀ (z_tk : Sx) (H : Heap) (locs : List Loc) (ls : Array Slot), k37 z_tk = some y → va_P D classes (rc6 a q_t Q_t z_tk ++ (ra0 a q_p1 n_p1 f_p1)) H → va_D A (rc6 a q_t Q_t z_tk ++ (ra0 a q_p1 n_p1 f_p1)) → va_S A s.heap H locs → lv_has ls 5 [(0, .ref q_t), (2, .int x2)] → W p l e (rmM 8 0 0 196) s m #[.ref q_t, .ref q_p1, .int x20] below meth c H locs 0 0 (MQ below (va_Qv (fun (_ : Unit) => True) (Bw D A (fun _ => rc6 a q_t Q_t y ++ (ra0 a q_p1 n_p1 f_p1))) A) #[.ref q_t, .ref q_p1, .int x20] s 0 0 A) (F0 m 37 ls [])) : ∀ (n : Nat) (z_t : Sx) (x3 : Int32) (x4 : Int32) (H : Heap) (locs : List Loc) (ls : Array Slot), lX6_open_10 k37 n_p1 f_p1 x2 n z_t x3 x4 = some y → va_P D classes (rc6 a q_t Q_t z_t ++ (ra0 a q_p1 n_p1 f_p1)) H → va_D A (rc6 a q_t Q_t z_t ++ (ra0 a q_p1 n_p1 f_p1)) → va_S A s.heap H locs → lv_has ls 5 [(0, .ref q_t), (1, .ref q_p1), (2, .int x2), (3, .int x3), (4, .int x4)] → W p l e (rmM 8 0 0 196) s m #[.ref q_t, .ref q_p1, .int x20] below meth c H locs 0 0 (MQ below (va_Qv (fun (_ : Unit) => True) (Bw D A (fun _ => rc6 a q_t Q_t y ++ (ra0 a q_p1 n_p1 f_p1))) A) #[.ref q_t, .ref q_p1, .int x20] s 0 0 A) (F0 m 10 ls []) := by
  obtain ⟨hx, hb, hml, hown, hts, hr, hlocks, hnm⟩ := id C
  have hb : c.code = cX6_open := hb
  have hown : s.vm.findClass RX6 = some m.cls := hown
  intro n
  induction n with
  | zero => intro z_t x3 x4 H locs ls h; rw [lX6_open_10] at h; cases h
  | succ n ih =>
    intro z_t x3 x4 H locs ls h hP hD hS hl
    rw [lX6_open_10] at h
    refine lv_iload hx hb dX6_open_10 (lv_at hl 4 rfl) ?_
    refine lv_sipush (v := 400) hx hb dX6_open_12 (by decide) ?_
    refine lv_icmp_ge (tgt := 37) hx hb dX6_open_15 (by decide) (fun c1 => ?_) (fun c1 => ?_)
    · have h := ite_t c1 h
      exact hk37 z_t _ _ ls h hP hD hS (lv_sub hl [0, 2] rfl)
    · have h := ite_f c1 h
      refine lv_iload_n hx hb dX6_open_18 rfl (lv_at hl 3 rfl) ?_
      refine lv_iload_n hx hb dX6_open_19 rfl (lv_at hl 2 rfl) ?_
      refine lv_icmp_ge (tgt := 37) hx hb dX6_open_20 (by decide) (fun c2 => ?_) (fun c2 => ?_)
      · have h := ite_t c2 h
        exact hk37 z_t _ _ ls h hP hD hS (lv_sub hl [0, 2] rfl)
      · have h := ite_f c2 h
        refine lv_aload_n hx hb dX6_open_23 rfl (lv_at hl 0 rfl) ?_
        refine lv_aload_n hx hb dX6_open_24 rfl (lv_at hl 1 rfl) ?_
        refine lv_iload_n hx hb dX6_open_25 rfl (lv_at hl 3 rfl) ?_
        refine lv_iload_n hx hb dX6_open_26 rfl (lv_at hl 2 rfl) ?_
        obtain ⟨r4, z5, hc3, h⟩ := bd2_some h
        refine cWi (runV (As := [.ref q_p1, .int x3, .int x2]) (rest := []) C (mX6_cutToken l D a hc3 H.size) lk_V_6_25 okN_X6_cutToken ⟨Nat.le_of_ble_eq_true rfl, Nat.le_of_ble_eq_true rfl⟩ ⟨rfl, rfl⟩ (preV (preMs hK hP hD ((hV.kept hS.2.1).narrow (free_all hD hS hA))) (recvOf hK hP 0 rfl (ci := 6) rfl)) hl.1 rfl (Nat.le_of_ble_eq_true rfl) dX6_open_27 ⟨Nat.le_of_ble_eq_true rfl, Nat.le_of_ble_eq_true rfl⟩) hP hD hS hA (fun H locs hP hD hS => ?_)
        have hP : va_P D classes (rc6 a q_t Q_t z5 ++ (ra0 a q_p1 n_p1 f_p1)) H := hP
        have hD : va_D A (rc6 a q_t Q_t z5 ++ (ra0 a q_p1 n_p1 f_p1)) := hD
        refine lv_istore_n (lv' := [(3, .int r4), (0, .ref q_t), (1, .ref q_p1), (2, .int x2), (4, .int x4)]) hx hb dX6_open_30 rfl hl (by decide) rfl (fun ls hl => ?_)
        refine lv_iinc (v := x4 + 1) (lv' := [(4, .int (x4 + 1)), (3, .int r4), (0, .ref q_t), (1, .ref q_p1), (2, .int x2)]) hx hb dX6_open_31 hl (k := 4) rfl rfl (by decide) rfl (fun ls hl => ?_)
        refine lv_goto (tgt := 10) hx hb dX6_open_34 (by decide) ?_
        exact ih z5 r4 (x4 + 1) _ _ ls h hP hD hS (lv_sub hl [2, 3, 4, 1, 0] rfl)

set_option maxHeartbeats 4000000 in
set_option maxRecDepth 100000 in
theorem mX6_open (l : Launch) (D : va_G) (a : Nat → ClassId) {adK adV : Nat → Nat} {q_t : Nat} {q_p1 : Nat} {Q_t : Nat → Nat} {z_t : Sx} {n_p1 : Nat} {f_p1 : Nat → Int32} {x2 : Int32} {y : Sx} (h : fX6_open z_t n_p1 f_p1 x2 = some y) (sz : Nat) : CMsv (S := Unit) l MX6_open 8 196 0 0 D a adK adV [.ref q_t, .ref q_p1, .int x2] (rc6 a q_t Q_t z_t ++ (ra0 a q_p1 n_p1 f_p1)) sz (fun _ => True) (fun _ => rc6 a q_t Q_t y ++ (ra0 a q_p1 n_p1 f_p1)) := by
  unfold fX6_open at h
  refine entMsv (by decide) (Nat.le_of_ble_eq_true rfl) ?_
  intro p e s m below meth c C hK A hA hP hD hV ls hl
  obtain ⟨hx, hb, hml, hown, hts, hr, hlocks, hnm⟩ := id C
  have hb : c.code = cX6_open := hb
  have hown : s.vm.findClass RX6 = some m.cls := hown
  have hS : va_S A s.heap s.heap [] := va_S.rf
  have hl : lv_has ls 5 [(0, .ref q_t), (1, .ref q_p1), (2, .int x2)] := hl
  refine lv_aload_n hx hb dX6_open_0 rfl (lv_at hl 0 rfl) ?_
  refine lv_iconst (v := 0) hx hb dX6_open_1 (by decide) ?_
  refine va_put (D := D) (v := .int 0) (C := RX6) (T := TX6) (N := 9) hx hb hts iX6 tyX6 tyX6_ok nmX6 hown hK.1 hP hD hS 0 rfl rfl 3 (by decide) (hts _ t_211) (fun _ h9 => h9) rfl (tyX6_ok 3 (by decide)) rfl rfl (Nat.le_of_ble_eq_true rfl) dX6_open_2 (fun H locs hP hD hS => ?_)
  have hP : va_P D classes (rc6 a q_t Q_t (sI z_t 3 0) ++ (ra0 a q_p1 n_p1 f_p1)) H := hP
  have hD : va_D A (rc6 a q_t Q_t (sI z_t 3 0) ++ (ra0 a q_p1 n_p1 f_p1)) := hD
  refine lv_iconst (v := 0) hx hb dX6_open_5 (by decide) ?_
  refine lv_istore_n (lv' := [(3, .int 0), (0, .ref q_t), (1, .ref q_p1), (2, .int x2)]) hx hb dX6_open_6 rfl hl (by decide) rfl (fun ls hl => ?_)
  refine lv_iconst (v := 0) hx hb dX6_open_7 (by decide) ?_
  refine lv_istore (lv' := [(4, .int 0), (3, .int 0), (0, .ref q_t), (1, .ref q_p1), (2, .int x2)]) hx hb dX6_open_8 hl (by decide) rfl (fun ls hl => ?_)
  refine wX6_open_10 C hK hA hV ?_ FU (sI z_t 3 0) 0 0 _ _ ls h hP hD hS (lv_sub hl [2, 3, 4, 1, 0] rfl)
  · intro z6 H locs ls h hP hD hS hl
    refine lv_aload_n hx hb dX6_open_37 rfl (lv_at hl 0 rfl) ?_
    refine lv_sipush (v := 300) hx hb dX6_open_38 (by decide) ?_
    refine lv_iload_n hx hb dX6_open_41 rfl (lv_at hl 1 rfl) ?_
    refine lv_iconst (v := 0) hx hb dX6_open_42 (by decide) ?_
    obtain ⟨z8, hc7, h⟩ := bd_some h
    refine cMv (runV (As := [.int 300, .int x2, .int 0]) (rest := []) C (mX6_addToken l D a hc7 H.size) lk_V_6_29 okN_X6_addToken ⟨Nat.le_of_ble_eq_true rfl, Nat.le_of_ble_eq_true rfl⟩ ⟨rfl, rfl⟩ (preV (preM hK (P_of_map (wc := rc6 a q_t Q_t z6) hP [0, 1, 2, 3] rfl) (hD.sub (ws' := rc6 a q_t Q_t z6) [0, 1, 2, 3] (by decide) rfl)) (recvOf hK hP 0 rfl (ci := 6) rfl)) hl.1 rfl (Nat.le_of_ble_eq_true rfl) dX6_open_43 ⟨Nat.le_of_ble_eq_true rfl, Nat.le_of_ble_eq_true rfl⟩) hP hD hS hA [0, 1, 2, 3] [4] [1, 2, 3, 4, 0] rfl rfl (by decide) (by decide) (fw := rc6 a q_t Q_t z8 ++ (ra0 a q_p1 n_p1 f_p1)) rfl (by decide) (fun H locs hP hD hS => ?_)
    have hP : va_P D classes (rc6 a q_t Q_t z8 ++ (ra0 a q_p1 n_p1 f_p1)) H := hP
    have hD : va_D A (rc6 a q_t Q_t z8 ++ (ra0 a q_p1 n_p1 f_p1)) := hD
    refine lv_aload_n hx hb dX6_open_46 rfl (lv_at hl 0 rfl) ?_
    refine lv_iconst (v := 0) hx hb dX6_open_47 (by decide) ?_
    refine va_put (D := D) (v := .int 0) (C := RX6) (T := TX6) (N := 9) hx hb hts iX6 tyX6 tyX6_ok nmX6 hown hK.1 hP hD hS 0 rfl rfl 8 (by decide) (hts _ t_219) (fun _ h9 => h9) rfl (tyX6_ok 8 (by decide)) rfl rfl (Nat.le_of_ble_eq_true rfl) dX6_open_48 (fun H locs hP hD hS => ?_)
    have hP : va_P D classes (rc6 a q_t Q_t (sI z8 8 0) ++ (ra0 a q_p1 n_p1 f_p1)) H := hP
    have hD : va_D A (rc6 a q_t Q_t (sI z8 8 0) ++ (ra0 a q_p1 n_p1 f_p1)) := hD
    refine lv_aload_n hx hb dX6_open_51 rfl (lv_at hl 0 rfl) ?_
    refine lv_iconst (v := 0) hx hb dX6_open_52 (by decide) ?_
    refine va_put (D := D) (v := .int 0) (C := RX6) (T := TX6) (N := 9) hx hb hts iX6 tyX6 tyX6_ok nmX6 hown hK.1 hP hD hS 0 rfl rfl 4 (by decide) (hts _ t_212) (fun _ h9 => h9) rfl (tyX6_ok 4 (by decide)) rfl rfl (Nat.le_of_ble_eq_true rfl) dX6_open_53 (fun H locs hP hD hS => ?_)
    have hP : va_P D classes (rc6 a q_t Q_t (sI (sI z8 8 0) 4 0) ++ (ra0 a q_p1 n_p1 f_p1)) H := hP
    have hD : va_D A (rc6 a q_t Q_t (sI (sI z8 8 0) 4 0) ++ (ra0 a q_p1 n_p1 f_p1)) := hD
    refine lv_aload_n hx hb dX6_open_56 rfl (lv_at hl 0 rfl) ?_
    obtain ⟨z10, hc9, h⟩ := bd_some h
    refine cMv (runV (As := []) (rest := []) C (mX6_step l D a hc9 H.size) lk_V_6_39 okN_X6_step ⟨Nat.le_of_ble_eq_true rfl, Nat.le_of_ble_eq_true rfl⟩ ⟨rfl, rfl⟩ (preV (preM hK (P_of_map (wc := rc6 a q_t Q_t (sI (sI z8 8 0) 4 0)) hP [0, 1, 2, 3] rfl) (hD.sub (ws' := rc6 a q_t Q_t (sI (sI z8 8 0) 4 0)) [0, 1, 2, 3] (by decide) rfl)) (recvOf hK hP 0 rfl (ci := 6) rfl)) hl.1 rfl (Nat.le_of_ble_eq_true rfl) dX6_open_57 ⟨Nat.le_of_ble_eq_true rfl, Nat.le_of_ble_eq_true rfl⟩) hP hD hS hA [0, 1, 2, 3] [4] [1, 2, 3, 4, 0] rfl rfl (by decide) (by decide) (fw := rc6 a q_t Q_t z10 ++ (ra0 a q_p1 n_p1 f_p1)) rfl (by decide) (fun H locs hP hD hS => ?_)
    have hP : va_P D classes (rc6 a q_t Q_t z10 ++ (ra0 a q_p1 n_p1 f_p1)) H := hP
    have hD : va_D A (rc6 a q_t Q_t z10 ++ (ra0 a q_p1 n_p1 f_p1)) := hD
    exact rMv C rfl h (g := fun y => rc6 a q_t Q_t y ++ (ra0 a q_p1 n_p1 f_p1)) hP hD hS dX6_open_60

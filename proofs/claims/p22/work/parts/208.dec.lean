def fJ6_bitCount_0f7a4 (x0 : Int32) : Option (Int32) := nm (x0 - (((x0.toUInt32 >>> (Int32.toUInt32 1 &&& Int32.toUInt32 31)).toInt32) &&& 1431655765) : Int32) (fun v1 => nm ((v1 &&& 858993459) + (((v1.toUInt32 >>> (Int32.toUInt32 2 &&& Int32.toUInt32 31)).toInt32) &&& 858993459) : Int32) (fun v2 => nm ((v2 + ((v2.toUInt32 >>> (Int32.toUInt32 4 &&& Int32.toUInt32 31)).toInt32)) &&& 252645135 : Int32) (fun v3 => nm (v3 + ((v3.toUInt32 >>> (Int32.toUInt32 8 &&& Int32.toUInt32 31)).toInt32) : Int32) (fun v4 => nm (v4 + ((v4.toUInt32 >>> (Int32.toUInt32 16 &&& Int32.toUInt32 31)).toInt32) : Int32) (fun v5 => some (v5 &&& 63))))))

set_option maxHeartbeats 4000000 in
set_option maxRecDepth 100000 in
theorem mJ6_bitCount_0f7a4 (l : Launch) (D : va_G) (a : Nat → ClassId) {x0 : Int32} {y : Int32} (h : fJ6_bitCount_0f7a4 x0 = some y) : CRi l MJ6_bitCount_0f7a4 0 0 D a [.int x0] ([]) (fun r => r = y) := by
  unfold fJ6_bitCount_0f7a4 at h
  refine entR (by decide) (Nat.le_of_ble_eq_true rfl) ?_
  intro p e s m below meth c C hK hP ls hl
  obtain ⟨hx, hb, hml, hown, hts, hr, hlocks, hnm⟩ := id C
  have hb : c.code = cJ6_bitCount_0f7a4 := hb
  have hown : s.vm.findClass RJ6 = some m.cls := hown
  have hl : lv_has ls 1 [(0, .int x0)] := hl
  refine lv_iload_n hx hb dJ6_bitCount_0f7a4_0 rfl (lv_at hl 0 rfl) ?_
  refine lv_iload_n hx hb dJ6_bitCount_0f7a4_1 rfl (lv_at hl 0 rfl) ?_
  refine lv_iconst (v := 1) hx hb dJ6_bitCount_0f7a4_2 (by decide) ?_
  refine lv_iushr (v := (x0.toUInt32 >>> (Int32.toUInt32 1 &&& Int32.toUInt32 31)).toInt32) hx hb dJ6_bitCount_0f7a4_3 rfl ?_
  refine lv_ldcw hx hb hown (hts _ t_633) dJ6_bitCount_0f7a4_4 ?_
  refine lv_iand hx hb dJ6_bitCount_0f7a4_7 ?_
  refine lv_isub hx hb dJ6_bitCount_0f7a4_8 ?_
  refine lv_topi (fun v1 ev1 => ?_)
  have h := nm_some h v1 ev1
  refine lv_istore_n (lv' := [(0, .int v1)]) hx hb dJ6_bitCount_0f7a4_9 rfl hl (by decide) rfl (fun ls hl => ?_)
  refine lv_iload_n hx hb dJ6_bitCount_0f7a4_10 rfl (lv_at hl 0 rfl) ?_
  refine lv_ldcw hx hb hown (hts _ t_634) dJ6_bitCount_0f7a4_11 ?_
  refine lv_iand hx hb dJ6_bitCount_0f7a4_14 ?_
  refine lv_iload_n hx hb dJ6_bitCount_0f7a4_15 rfl (lv_at hl 0 rfl) ?_
  refine lv_iconst (v := 2) hx hb dJ6_bitCount_0f7a4_16 (by decide) ?_
  refine lv_iushr (v := (v1.toUInt32 >>> (Int32.toUInt32 2 &&& Int32.toUInt32 31)).toInt32) hx hb dJ6_bitCount_0f7a4_17 rfl ?_
  refine lv_ldcw hx hb hown (hts _ t_634) dJ6_bitCount_0f7a4_18 ?_
  refine lv_iand hx hb dJ6_bitCount_0f7a4_21 ?_
  refine lv_iadd hx hb dJ6_bitCount_0f7a4_22 ?_
  refine lv_topi (fun v2 ev2 => ?_)
  have h := nm_some h v2 ev2
  refine lv_istore_n (lv' := [(0, .int v2)]) hx hb dJ6_bitCount_0f7a4_23 rfl hl (by decide) rfl (fun ls hl => ?_)
  refine lv_iload_n hx hb dJ6_bitCount_0f7a4_24 rfl (lv_at hl 0 rfl) ?_
  refine lv_iload_n hx hb dJ6_bitCount_0f7a4_25 rfl (lv_at hl 0 rfl) ?_
  refine lv_iconst (v := 4) hx hb dJ6_bitCount_0f7a4_26 (by decide) ?_
  refine lv_iushr (v := (v2.toUInt32 >>> (Int32.toUInt32 4 &&& Int32.toUInt32 31)).toInt32) hx hb dJ6_bitCount_0f7a4_27 rfl ?_
  refine lv_iadd hx hb dJ6_bitCount_0f7a4_28 ?_
  refine lv_ldcw hx hb hown (hts _ t_635) dJ6_bitCount_0f7a4_29 ?_
  refine lv_iand hx hb dJ6_bitCount_0f7a4_32 ?_
  refine lv_topi (fun v3 ev3 => ?_)
  have h := nm_some h v3 ev3
  refine lv_istore_n (lv' := [(0, .int v3)]) hx hb dJ6_bitCount_0f7a4_33 rfl hl (by decide) rfl (fun ls hl => ?_)
  refine lv_iload_n hx hb dJ6_bitCount_0f7a4_34 rfl (lv_at hl 0 rfl) ?_
  refine lv_iload_n hx hb dJ6_bitCount_0f7a4_35 rfl (lv_at hl 0 rfl) ?_
  refine lv_bipush (v := 8) hx hb dJ6_bitCount_0f7a4_36 (by decide) ?_
  refine lv_iushr (v := (v3.toUInt32 >>> (Int32.toUInt32 8 &&& Int32.toUInt32 31)).toInt32) hx hb dJ6_bitCount_0f7a4_38 rfl ?_
  refine lv_iadd hx hb dJ6_bitCount_0f7a4_39 ?_
  refine lv_topi (fun v4 ev4 => ?_)
  have h := nm_some h v4 ev4
  refine lv_istore_n (lv' := [(0, .int v4)]) hx hb dJ6_bitCount_0f7a4_40 rfl hl (by decide) rfl (fun ls hl => ?_)
  refine lv_iload_n hx hb dJ6_bitCount_0f7a4_41 rfl (lv_at hl 0 rfl) ?_
  refine lv_iload_n hx hb dJ6_bitCount_0f7a4_42 rfl (lv_at hl 0 rfl) ?_
  refine lv_bipush (v := 16) hx hb dJ6_bitCount_0f7a4_43 (by decide) ?_
  refine lv_iushr (v := (v4.toUInt32 >>> (Int32.toUInt32 16 &&& Int32.toUInt32 31)).toInt32) hx hb dJ6_bitCount_0f7a4_45 rfl ?_
  refine lv_iadd hx hb dJ6_bitCount_0f7a4_46 ?_
  refine lv_topi (fun v5 ev5 => ?_)
  have h := nm_some h v5 ev5
  refine lv_istore_n (lv' := [(0, .int v5)]) hx hb dJ6_bitCount_0f7a4_47 rfl hl (by decide) rfl (fun ls hl => ?_)
  refine lv_iload_n hx hb dJ6_bitCount_0f7a4_48 rfl (lv_at hl 0 rfl) ?_
  refine lv_bipush (v := 63) hx hb dJ6_bitCount_0f7a4_49 (by decide) ?_
  refine lv_iand hx hb dJ6_bitCount_0f7a4_51 ?_
  exact rRi C rfl (Option.some.inj h) dJ6_bitCount_0f7a4_52

def lJ7_fill_53178_5 (n_p0 : Nat) (x1 : Int32) (x3 : Int32) : Nat → (Nat → Int32) → Int32 → Option ((Nat → Int32))
  | 0, _, _ => none
  | n + 1, f_p0, x2 => if x3 ≤ x2 then some f_p0 else gd (inb x2 n_p0) (lJ7_fill_53178_5 n_p0 x1 x3 n (upd f_p0 x2.toNatClampNeg x1) (x2 + 1))
def fJ7_fill_53178 (n_p0 : Nat) (f_p0 : Nat → Int32) (x1 : Int32) : Option ((Nat → Int32)) := lJ7_fill_53178_5 n_p0 x1 (nI n_p0) FU f_p0 0

set_option maxHeartbeats 4000000 in
set_option maxRecDepth 100000 in
theorem wJ7_fill_53178_5 {p : Program} {l : Launch} {e : Env} {s : State} {m : MethodId} {below : List Frame} {meth : Method} {c : Code} {D : va_G} {a : Nat → ClassId} {A : Nat → Prop} {q_p0 : Nat} {n_p0 : Nat} {x10 : Int32} {x1 : Int32} {x3 : Int32} (C : Cx p s m #[.ref q_p0, .int x10] meth c MJ7_fill_53178) (hK : KK D a s) (hA : ∀ q, s.heap.size ≤ q → A q) {y : (Nat → Int32)} : ∀ (n : Nat) (f_p0 : Nat → Int32) (x2 : Int32) (H : Heap) (locs : List Loc) (ls : Array Slot), lJ7_fill_53178_5 n_p0 x1 x3 n f_p0 x2 = some y → va_P D classes (ra0 a q_p0 n_p0 f_p0) H → va_D A (ra0 a q_p0 n_p0 f_p0) → va_S A s.heap H locs → lv_has ls 4 [(0, .ref q_p0), (1, .int x1), (2, .int x2), (3, .int x3)] → W p l e (rmM 0 0 0 0) s m #[.ref q_p0, .int x10] below meth c H locs 0 0 (MQ below (va_Qv (fun (_ : Unit) => True) (Bw D A (fun _ => ra0 a q_p0 n_p0 y)) A) #[.ref q_p0, .int x10] s 0 0 A) (F0 m 5 ls []) := by
  obtain ⟨hx, hb, hml, hown, hts, hr, hlocks, hnm⟩ := id C
  have hb : c.code = cJ7_fill_53178 := hb
  have hown : s.vm.findClass RJ7 = some m.cls := hown
  intro n
  induction n with
  | zero => intro f_p0 x2 H locs ls h; rw [lJ7_fill_53178_5] at h; cases h
  | succ n ih =>
    intro f_p0 x2 H locs ls h hP hD hS hl
    rw [lJ7_fill_53178_5] at h
    refine lv_iload_n hx hb dJ7_fill_53178_5 rfl (lv_at hl 2 rfl) ?_
    refine lv_iload_n hx hb dJ7_fill_53178_6 rfl (lv_at hl 3 rfl) ?_
    refine lv_icmp_ge (tgt := 20) hx hb dJ7_fill_53178_7 (by decide) (fun c1 => ?_) (fun c1 => ?_)
    · have h := ite_t c1 h
      exact rMv C rfl h (g := fun y => ra0 a q_p0 n_p0 y) hP hD hS dJ7_fill_53178_20
    · have h := ite_f c1 h
      refine lv_aload_n hx hb dJ7_fill_53178_10 rfl (lv_at hl 0 rfl) ?_
      refine lv_iload_n hx hb dJ7_fill_53178_11 rfl (lv_at hl 2 rfl) ?_
      refine lv_iload_n hx hb dJ7_fill_53178_12 rfl (lv_at hl 1 rfl) ?_
      obtain ⟨g2, h⟩ := gd_some h
      refine ast_i hx hb hK.1 hP hD hS 0 0 rfl rfl x2.toNatClampNeg (ix_g g2) dJ7_fill_53178_13 (fun H locs hP hD hS => ?_)
      have hP : va_P D classes (ra0 a q_p0 n_p0 (upd f_p0 x2.toNatClampNeg x1)) H := hP
      have hD : va_D A (ra0 a q_p0 n_p0 (upd f_p0 x2.toNatClampNeg x1)) := hD
      refine lv_iinc (v := x2 + 1) (lv' := [(2, .int (x2 + 1)), (0, .ref q_p0), (1, .int x1), (3, .int x3)]) hx hb dJ7_fill_53178_14 hl (k := 2) rfl rfl (by decide) rfl (fun ls hl => ?_)
      refine lv_goto (tgt := 5) hx hb dJ7_fill_53178_17 (by decide) ?_
      exact ih (upd f_p0 x2.toNatClampNeg x1) (x2 + 1) _ _ ls h hP hD hS (lv_sub hl [1, 2, 0, 3] rfl)

set_option maxHeartbeats 4000000 in
set_option maxRecDepth 100000 in
theorem mJ7_fill_53178 (l : Launch) (D : va_G) (a : Nat → ClassId) {q_p0 : Nat} {n_p0 : Nat} {f_p0 : Nat → Int32} {x1 : Int32} {y : (Nat → Int32)} (h : fJ7_fill_53178 n_p0 f_p0 x1 = some y) (sz : Nat) : CMv (S := Unit) l MJ7_fill_53178 0 0 0 0 D a [.ref q_p0, .int x1] (ra0 a q_p0 n_p0 f_p0) sz (fun _ => True) (fun _ => ra0 a q_p0 n_p0 y) := by
  unfold fJ7_fill_53178 at h
  refine entMv (by decide) (Nat.le_of_ble_eq_true rfl) ?_
  intro p e s m below meth c C hK A hA hP hD ls hl
  obtain ⟨hx, hb, hml, hown, hts, hr, hlocks, hnm⟩ := id C
  have hb : c.code = cJ7_fill_53178 := hb
  have hown : s.vm.findClass RJ7 = some m.cls := hown
  have hS : va_S A s.heap s.heap [] := va_S.rf
  have hl : lv_has ls 4 [(0, .ref q_p0), (1, .int x1)] := hl
  refine lv_iconst (v := 0) hx hb dJ7_fill_53178_0 (by decide) ?_
  refine lv_istore_n (lv' := [(2, .int 0), (0, .ref q_p0), (1, .int x1)]) hx hb dJ7_fill_53178_1 rfl hl (by decide) rfl (fun ls hl => ?_)
  refine lv_aload_n hx hb dJ7_fill_53178_2 rfl (lv_at hl 1 rfl) ?_
  refine va_alen (v := nI n_p0) hx hb hK.1 hP 0 0 rfl rfl rfl dJ7_fill_53178_3 ?_
  refine lv_istore_n (lv' := [(3, .int (nI n_p0)), (2, .int 0), (0, .ref q_p0), (1, .int x1)]) hx hb dJ7_fill_53178_4 rfl hl (by decide) rfl (fun ls hl => ?_)
  refine wJ7_fill_53178_5 C hK hA FU f_p0 0 _ _ ls h hP hD hS (lv_sub hl [2, 3, 1, 0] rfl)

def fJ9_abs_067f4 (x0 : Int64) : Option (Int64) := if 0 ≤ x0 then some x0 else some (-x0)

set_option maxHeartbeats 4000000 in
set_option maxRecDepth 100000 in
theorem mJ9_abs_067f4 (l : Launch) (D : va_G) (a : Nat → ClassId) {x0 : Int64} {y : Int64} (h : fJ9_abs_067f4 x0 = some y) : CRl l MJ9_abs_067f4 0 0 D a [.long x0] ([]) (fun r => r = y) := by
  unfold fJ9_abs_067f4 at h
  refine entR (by decide) (Nat.le_of_ble_eq_true rfl) ?_
  intro p e s m below meth c C hK hP ls hl
  obtain ⟨hx, hb, hml, hown, hts, hr, hlocks, hnm⟩ := id C
  have hb : c.code = cJ9_abs_067f4 := hb
  have hown : s.vm.findClass RJ9 = some m.cls := hown
  have hl : lv_has ls 2 [(0, .long x0)] := hl
  refine lv_lload_n hx hb dJ9_abs_067f4_0 rfl (lv_at hl 0 rfl) ?_
  refine lv_lconst (v := 0) hx hb dJ9_abs_067f4_1 (by decide) ?_
  refine W.lcmp hx hb dJ9_abs_067f4_2 ?_
  refine lv_if_ge (tgt := 11) hx hb dJ9_abs_067f4_3 (by decide) (fun c1 => ?_) (fun c1 => ?_)
  · have h := ite_t ((lg_cmp_ge _ _).mp c1) h
    refine lv_lload_n hx hb dJ9_abs_067f4_11 rfl (lv_at hl 0 rfl) ?_
    exact rRl C rfl (Option.some.inj h) dJ9_abs_067f4_12
  · have h := ite_f (fun q => c1 ((lg_cmp_ge _ _).mpr q)) h
    refine lv_lload_n hx hb dJ9_abs_067f4_6 rfl (lv_at hl 0 rfl) ?_
    refine lv_lneg hx hb dJ9_abs_067f4_7 ?_
    refine lv_goto (tgt := 12) hx hb dJ9_abs_067f4_8 (by decide) ?_
    exact rRl C rfl (Option.some.inj h) dJ9_abs_067f4_12

def fJ9_abs_0f7a4 (x0 : Int32) : Option (Int32) := if 0 ≤ x0 then some x0 else some (-x0)

set_option maxHeartbeats 4000000 in
set_option maxRecDepth 100000 in
theorem mJ9_abs_0f7a4 (l : Launch) (D : va_G) (a : Nat → ClassId) {x0 : Int32} {y : Int32} (h : fJ9_abs_0f7a4 x0 = some y) : CRi l MJ9_abs_0f7a4 0 0 D a [.int x0] ([]) (fun r => r = y) := by
  unfold fJ9_abs_0f7a4 at h
  refine entR (by decide) (Nat.le_of_ble_eq_true rfl) ?_
  intro p e s m below meth c C hK hP ls hl
  obtain ⟨hx, hb, hml, hown, hts, hr, hlocks, hnm⟩ := id C
  have hb : c.code = cJ9_abs_0f7a4 := hb
  have hown : s.vm.findClass RJ9 = some m.cls := hown
  have hl : lv_has ls 1 [(0, .int x0)] := hl
  refine lv_iload_n hx hb dJ9_abs_0f7a4_0 rfl (lv_at hl 0 rfl) ?_
  refine lv_if_ge (tgt := 9) hx hb dJ9_abs_0f7a4_1 (by decide) (fun c1 => ?_) (fun c1 => ?_)
  · have h := ite_t c1 h
    refine lv_iload_n hx hb dJ9_abs_0f7a4_9 rfl (lv_at hl 0 rfl) ?_
    exact rRi C rfl (Option.some.inj h) dJ9_abs_0f7a4_10
  · have h := ite_f c1 h
    refine lv_iload_n hx hb dJ9_abs_0f7a4_4 rfl (lv_at hl 0 rfl) ?_
    refine lv_ineg hx hb dJ9_abs_0f7a4_5 ?_
    refine lv_goto (tgt := 10) hx hb dJ9_abs_0f7a4_6 (by decide) ?_
    exact rRi C rfl (Option.some.inj h) dJ9_abs_0f7a4_10

def fJ9_max_7cf53 (x0 : Int32) (x1 : Int32) : Option (Int32) := if x0 < x1 then some x1 else some x0

set_option maxHeartbeats 4000000 in
set_option maxRecDepth 100000 in
theorem mJ9_max_7cf53 (l : Launch) (D : va_G) (a : Nat → ClassId) {x0 : Int32} {x1 : Int32} {y : Int32} (h : fJ9_max_7cf53 x0 x1 = some y) : CRi l MJ9_max_7cf53 0 0 D a [.int x0, .int x1] ([]) (fun r => r = y) := by
  unfold fJ9_max_7cf53 at h
  refine entR (by decide) (Nat.le_of_ble_eq_true rfl) ?_
  intro p e s m below meth c C hK hP ls hl
  obtain ⟨hx, hb, hml, hown, hts, hr, hlocks, hnm⟩ := id C
  have hb : c.code = cJ9_max_7cf53 := hb
  have hown : s.vm.findClass RJ9 = some m.cls := hown
  have hl : lv_has ls 2 [(0, .int x0), (1, .int x1)] := hl
  refine lv_iload_n hx hb dJ9_max_7cf53_0 rfl (lv_at hl 0 rfl) ?_
  refine lv_iload_n hx hb dJ9_max_7cf53_1 rfl (lv_at hl 1 rfl) ?_
  refine lv_icmp_lt (tgt := 9) hx hb dJ9_max_7cf53_2 (by decide) (fun c1 => ?_) (fun c1 => ?_)
  · have h := ite_t c1 h
    refine lv_iload_n hx hb dJ9_max_7cf53_9 rfl (lv_at hl 1 rfl) ?_
    exact rRi C rfl (Option.some.inj h) dJ9_max_7cf53_10
  · have h := ite_f c1 h
    refine lv_iload_n hx hb dJ9_max_7cf53_5 rfl (lv_at hl 0 rfl) ?_
    refine lv_goto (tgt := 10) hx hb dJ9_max_7cf53_6 (by decide) ?_
    exact rRi C rfl (Option.some.inj h) dJ9_max_7cf53_10

def fJ9_max_f86c9 (x0 : Int64) (x2 : Int64) : Option (Int64) := if x0 < x2 then some x2 else some x0

set_option maxHeartbeats 4000000 in
set_option maxRecDepth 100000 in
theorem mJ9_max_f86c9 (l : Launch) (D : va_G) (a : Nat → ClassId) {x0 : Int64} {x2 : Int64} {y : Int64} (h : fJ9_max_f86c9 x0 x2 = some y) : CRl l MJ9_max_f86c9 0 0 D a [.long x0, .long x2] ([]) (fun r => r = y) := by
  unfold fJ9_max_f86c9 at h
  refine entR (by decide) (Nat.le_of_ble_eq_true rfl) ?_
  intro p e s m below meth c C hK hP ls hl
  obtain ⟨hx, hb, hml, hown, hts, hr, hlocks, hnm⟩ := id C
  have hb : c.code = cJ9_max_f86c9 := hb
  have hown : s.vm.findClass RJ9 = some m.cls := hown
  have hl : lv_has ls 4 [(0, .long x0), (2, .long x2)] := hl
  refine lv_lload_n hx hb dJ9_max_f86c9_0 rfl (lv_at hl 0 rfl) ?_
  refine lv_lload_n hx hb dJ9_max_f86c9_1 rfl (lv_at hl 1 rfl) ?_
  refine W.lcmp hx hb dJ9_max_f86c9_2 ?_
  refine lv_if_lt (tgt := 10) hx hb dJ9_max_f86c9_3 (by decide) (fun c1 => ?_) (fun c1 => ?_)
  · have h := ite_t ((lg_cmp_lt _ _).mp c1) h
    refine lv_lload_n hx hb dJ9_max_f86c9_10 rfl (lv_at hl 1 rfl) ?_
    exact rRl C rfl (Option.some.inj h) dJ9_max_f86c9_11
  · have h := ite_f (fun q => c1 ((lg_cmp_lt _ _).mpr q)) h
    refine lv_lload_n hx hb dJ9_max_f86c9_6 rfl (lv_at hl 0 rfl) ?_
    refine lv_goto (tgt := 11) hx hb dJ9_max_f86c9_7 (by decide) ?_
    exact rRl C rfl (Option.some.inj h) dJ9_max_f86c9_11

def fJ9_min_7cf53 (x0 : Int32) (x1 : Int32) : Option (Int32) := if x1 < x0 then some x1 else some x0

set_option maxHeartbeats 4000000 in
set_option maxRecDepth 100000 in
theorem mJ9_min_7cf53 (l : Launch) (D : va_G) (a : Nat → ClassId) {x0 : Int32} {x1 : Int32} {y : Int32} (h : fJ9_min_7cf53 x0 x1 = some y) : CRi l MJ9_min_7cf53 0 0 D a [.int x0, .int x1] ([]) (fun r => r = y) := by
  unfold fJ9_min_7cf53 at h
  refine entR (by decide) (Nat.le_of_ble_eq_true rfl) ?_
  intro p e s m below meth c C hK hP ls hl
  obtain ⟨hx, hb, hml, hown, hts, hr, hlocks, hnm⟩ := id C
  have hb : c.code = cJ9_min_7cf53 := hb
  have hown : s.vm.findClass RJ9 = some m.cls := hown
  have hl : lv_has ls 2 [(0, .int x0), (1, .int x1)] := hl
  refine lv_iload_n hx hb dJ9_min_7cf53_0 rfl (lv_at hl 0 rfl) ?_
  refine lv_iload_n hx hb dJ9_min_7cf53_1 rfl (lv_at hl 1 rfl) ?_
  refine lv_icmp_gt (tgt := 9) hx hb dJ9_min_7cf53_2 (by decide) (fun c1 => ?_) (fun c1 => ?_)
  · have h := ite_t c1 h
    refine lv_iload_n hx hb dJ9_min_7cf53_9 rfl (lv_at hl 1 rfl) ?_
    exact rRi C rfl (Option.some.inj h) dJ9_min_7cf53_10
  · have h := ite_f c1 h
    refine lv_iload_n hx hb dJ9_min_7cf53_5 rfl (lv_at hl 0 rfl) ?_
    refine lv_goto (tgt := 10) hx hb dJ9_min_7cf53_6 (by decide) ?_
    exact rRi C rfl (Option.some.inj h) dJ9_min_7cf53_10

def fX0_begin (z_t : Sx) (x1 : Int32) : Option (Sx) := bd (fJ7_fill_53178 10 (gT (sI (sI (sI z_t 0 x1) 1 0) 2 0) 5) 0) (fun z2 => some (sTf (sI (sI (sI z_t 0 x1) 1 0) 2 0) 5 z2))

set_option maxHeartbeats 4000000 in
set_option maxRecDepth 100000 in
theorem mX0_begin (l : Launch) (D : va_G) (a : Nat → ClassId) {q_t : Nat} {Q_t : Nat → Nat} {z_t : Sx} {x1 : Int32} {y : Sx} (h : fX0_begin z_t x1 = some y) (sz : Nat) : CMv (S := Unit) l MX0_begin 1 23 0 0 D a [.ref q_t, .int x1] (rc0 a q_t Q_t z_t) sz (fun _ => True) (fun _ => rc0 a q_t Q_t y) := by
  unfold fX0_begin at h
  refine entMv (by decide) (Nat.le_of_ble_eq_true rfl) ?_
  intro p e s m below meth c C hK A hA hP hD ls hl
  obtain ⟨hx, hb, hml, hown, hts, hr, hlocks, hnm⟩ := id C
  have hb : c.code = cX0_begin := hb
  have hown : s.vm.findClass RX0 = some m.cls := hown
  have hS : va_S A s.heap s.heap [] := va_S.rf
  have hl : lv_has ls 2 [(0, .ref q_t), (1, .int x1)] := hl
  refine lv_aload_n hx hb dX0_begin_0 rfl (lv_at hl 0 rfl) ?_
  refine lv_iload_n hx hb dX0_begin_1 rfl (lv_at hl 1 rfl) ?_
  refine va_put (D := D) (v := .int x1) (C := RX0) (T := TX0) (N := 6) hx hb hts iX0 tyX0 tyX0_ok nmX0 hown hK.1 hP hD hS 0 rfl rfl 0 (by decide) (hts _ t_130) (fun _ h9 => h9) rfl (tyX0_ok 0 (by decide)) rfl rfl (Nat.le_of_ble_eq_true rfl) dX0_begin_2 (fun H locs hP hD hS => ?_)
  have hP : va_P D classes (rc0 a q_t Q_t (sI z_t 0 x1)) H := hP
  have hD : va_D A (rc0 a q_t Q_t (sI z_t 0 x1)) := hD
  refine lv_aload_n hx hb dX0_begin_5 rfl (lv_at hl 0 rfl) ?_
  refine lv_iconst (v := 0) hx hb dX0_begin_6 (by decide) ?_
  refine va_put (D := D) (v := .int 0) (C := RX0) (T := TX0) (N := 6) hx hb hts iX0 tyX0 tyX0_ok nmX0 hown hK.1 hP hD hS 0 rfl rfl 1 (by decide) (hts _ t_133) (fun _ h9 => h9) rfl (tyX0_ok 1 (by decide)) rfl rfl (Nat.le_of_ble_eq_true rfl) dX0_begin_7 (fun H locs hP hD hS => ?_)
  have hP : va_P D classes (rc0 a q_t Q_t (sI (sI z_t 0 x1) 1 0)) H := hP
  have hD : va_D A (rc0 a q_t Q_t (sI (sI z_t 0 x1) 1 0)) := hD
  refine lv_aload_n hx hb dX0_begin_10 rfl (lv_at hl 0 rfl) ?_
  refine lv_iconst (v := 0) hx hb dX0_begin_11 (by decide) ?_
  refine va_put (D := D) (v := .int 0) (C := RX0) (T := TX0) (N := 6) hx hb hts iX0 tyX0 tyX0_ok nmX0 hown hK.1 hP hD hS 0 rfl rfl 2 (by decide) (hts _ t_136) (fun _ h9 => h9) rfl (tyX0_ok 2 (by decide)) rfl rfl (Nat.le_of_ble_eq_true rfl) dX0_begin_12 (fun H locs hP hD hS => ?_)
  have hP : va_P D classes (rc0 a q_t Q_t (sI (sI (sI z_t 0 x1) 1 0) 2 0)) H := hP
  have hD : va_D A (rc0 a q_t Q_t (sI (sI (sI z_t 0 x1) 1 0) 2 0)) := hD
  refine lv_aload_n hx hb dX0_begin_15 rfl (lv_at hl 0 rfl) ?_
  refine va_get (D := D) (v := .ref (Q_t 5)) (C := RX0) (T := TX0) (N := 6) hx hb hts iX0 hown hK.1 hP 0 rfl rfl 5 (by decide) (hts _ t_144) (fun _ h9 => h9) rfl dX0_begin_16 ?_
  refine lv_iconst (v := 0) hx hb dX0_begin_19 (by decide) ?_
  obtain ⟨z2, hc1, h⟩ := bd_some h
  refine cMv (runS (As := [.ref (Q_t 5), .int 0]) (rest := []) C (mJ7_fill_53178 l D a hc1 H.size) lk_S_0_37 okN_J7_fill_53178 ⟨Nat.le_of_ble_eq_true rfl, Nat.le_of_ble_eq_true rfl⟩ ⟨rfl, rfl⟩ (preM hK (P_of_map (wc := ra0 a (Q_t 5) 10 (gT (sI (sI (sI z_t 0 x1) 1 0) 2 0) 5)) hP [1] rfl) (hD.sub (ws' := ra0 a (Q_t 5) 10 (gT (sI (sI (sI z_t 0 x1) 1 0) 2 0) 5)) [1] (by decide) rfl)) hl.1 rfl (Nat.le_of_ble_eq_true rfl) dX0_begin_20 ⟨Nat.le_of_ble_eq_true rfl, Nat.le_of_ble_eq_true rfl⟩) hP hD hS hA [1] [0] [0, 1] rfl rfl (by decide) (by decide) (fw := rc0 a q_t Q_t (sTf (sI (sI (sI z_t 0 x1) 1 0) 2 0) 5 z2)) rfl (by decide) (fun H locs hP hD hS => ?_)
  have hP : va_P D classes (rc0 a q_t Q_t (sTf (sI (sI (sI z_t 0 x1) 1 0) 2 0) 5 z2)) H := hP
  have hD : va_D A (rc0 a q_t Q_t (sTf (sI (sI (sI z_t 0 x1) 1 0) 2 0) 5 z2)) := hD
  exact rMv C rfl h (g := fun y => rc0 a q_t Q_t y) hP hD hS dX0_begin_23

def fX0_copyFrom (z_t : Sx) (z_p1 : Sx) : Option (Sx) := some (sTf (sI (sI (sI (sI (sI z_t 0 (gI z_p1 0)) 1 (gI z_p1 1)) 2 (gI z_p1 2)) 3 (gI z_p1 3)) 4 (gI z_p1 4)) 5 (va_cpy (gT z_p1 5) (gT (sI (sI (sI (sI (sI z_t 0 (gI z_p1 0)) 1 (gI z_p1 1)) 2 (gI z_p1 2)) 3 (gI z_p1 3)) 4 (gI z_p1 4)) 5) 0 0 10))

set_option maxHeartbeats 4000000 in
set_option maxRecDepth 100000 in
theorem mX0_copyFrom (l : Launch) (D : va_G) (a : Nat → ClassId) {q_t : Nat} {q_p1 : Nat} {Q_t : Nat → Nat} {z_t : Sx} {Q_p1 : Nat → Nat} {z_p1 : Sx} {y : Sx} (h : fX0_copyFrom z_t z_p1 = some y) (sz : Nat) : CMv (S := Unit) l MX0_copyFrom 1 60 0 0 D a [.ref q_t, .ref q_p1] (rc0 a q_t Q_t z_t ++ (rc0 a q_p1 Q_p1 z_p1)) sz (fun _ => True) (fun _ => rc0 a q_t Q_t y ++ (rc0 a q_p1 Q_p1 z_p1)) := by
  unfold fX0_copyFrom at h
  refine entMv (by decide) (Nat.le_of_ble_eq_true rfl) ?_
  intro p e s m below meth c C hK A hA hP hD ls hl
  obtain ⟨hx, hb, hml, hown, hts, hr, hlocks, hnm⟩ := id C
  have hb : c.code = cX0_copyFrom := hb
  have hown : s.vm.findClass RX0 = some m.cls := hown
  have hS : va_S A s.heap s.heap [] := va_S.rf
  have hl : lv_has ls 2 [(0, .ref q_t), (1, .ref q_p1)] := hl
  refine lv_aload_n hx hb dX0_copyFrom_0 rfl (lv_at hl 0 rfl) ?_
  refine lv_aload_n hx hb dX0_copyFrom_1 rfl (lv_at hl 1 rfl) ?_
  refine va_get (D := D) (v := .int (gI z_p1 0)) (C := RX0) (T := TX0) (N := 6) hx hb hts iX0 hown hK.1 hP 2 rfl rfl 0 (by decide) (hts _ t_130) (fun _ h9 => h9) rfl dX0_copyFrom_2 ?_
  refine va_put (D := D) (v := .int (gI z_p1 0)) (C := RX0) (T := TX0) (N := 6) hx hb hts iX0 tyX0 tyX0_ok nmX0 hown hK.1 hP hD hS 0 rfl rfl 0 (by decide) (hts _ t_130) (fun _ h9 => h9) rfl (tyX0_ok 0 (by decide)) rfl rfl (Nat.le_of_ble_eq_true rfl) dX0_copyFrom_5 (fun H locs hP hD hS => ?_)
  have hP : va_P D classes (rc0 a q_t Q_t (sI z_t 0 (gI z_p1 0)) ++ (rc0 a q_p1 Q_p1 z_p1)) H := hP
  have hD : va_D A (rc0 a q_t Q_t (sI z_t 0 (gI z_p1 0)) ++ (rc0 a q_p1 Q_p1 z_p1)) := hD
  refine lv_aload_n hx hb dX0_copyFrom_8 rfl (lv_at hl 0 rfl) ?_
  refine lv_aload_n hx hb dX0_copyFrom_9 rfl (lv_at hl 1 rfl) ?_
  refine va_get (D := D) (v := .int (gI z_p1 1)) (C := RX0) (T := TX0) (N := 6) hx hb hts iX0 hown hK.1 hP 2 rfl rfl 1 (by decide) (hts _ t_133) (fun _ h9 => h9) rfl dX0_copyFrom_10 ?_
  refine va_put (D := D) (v := .int (gI z_p1 1)) (C := RX0) (T := TX0) (N := 6) hx hb hts iX0 tyX0 tyX0_ok nmX0 hown hK.1 hP hD hS 0 rfl rfl 1 (by decide) (hts _ t_133) (fun _ h9 => h9) rfl (tyX0_ok 1 (by decide)) rfl rfl (Nat.le_of_ble_eq_true rfl) dX0_copyFrom_13 (fun H locs hP hD hS => ?_)
  have hP : va_P D classes (rc0 a q_t Q_t (sI (sI z_t 0 (gI z_p1 0)) 1 (gI z_p1 1)) ++ (rc0 a q_p1 Q_p1 z_p1)) H := hP
  have hD : va_D A (rc0 a q_t Q_t (sI (sI z_t 0 (gI z_p1 0)) 1 (gI z_p1 1)) ++ (rc0 a q_p1 Q_p1 z_p1)) := hD
  refine lv_aload_n hx hb dX0_copyFrom_16 rfl (lv_at hl 0 rfl) ?_
  refine lv_aload_n hx hb dX0_copyFrom_17 rfl (lv_at hl 1 rfl) ?_
  refine va_get (D := D) (v := .int (gI z_p1 2)) (C := RX0) (T := TX0) (N := 6) hx hb hts iX0 hown hK.1 hP 2 rfl rfl 2 (by decide) (hts _ t_136) (fun _ h9 => h9) rfl dX0_copyFrom_18 ?_
  refine va_put (D := D) (v := .int (gI z_p1 2)) (C := RX0) (T := TX0) (N := 6) hx hb hts iX0 tyX0 tyX0_ok nmX0 hown hK.1 hP hD hS 0 rfl rfl 2 (by decide) (hts _ t_136) (fun _ h9 => h9) rfl (tyX0_ok 2 (by decide)) rfl rfl (Nat.le_of_ble_eq_true rfl) dX0_copyFrom_21 (fun H locs hP hD hS => ?_)
  have hP : va_P D classes (rc0 a q_t Q_t (sI (sI (sI z_t 0 (gI z_p1 0)) 1 (gI z_p1 1)) 2 (gI z_p1 2)) ++ (rc0 a q_p1 Q_p1 z_p1)) H := hP
  have hD : va_D A (rc0 a q_t Q_t (sI (sI (sI z_t 0 (gI z_p1 0)) 1 (gI z_p1 1)) 2 (gI z_p1 2)) ++ (rc0 a q_p1 Q_p1 z_p1)) := hD
  refine lv_aload_n hx hb dX0_copyFrom_24 rfl (lv_at hl 0 rfl) ?_
  refine lv_aload_n hx hb dX0_copyFrom_25 rfl (lv_at hl 1 rfl) ?_
  refine va_get (D := D) (v := .int (gI z_p1 3)) (C := RX0) (T := TX0) (N := 6) hx hb hts iX0 hown hK.1 hP 2 rfl rfl 3 (by decide) (hts _ t_139) (fun _ h9 => h9) rfl dX0_copyFrom_26 ?_
  refine va_put (D := D) (v := .int (gI z_p1 3)) (C := RX0) (T := TX0) (N := 6) hx hb hts iX0 tyX0 tyX0_ok nmX0 hown hK.1 hP hD hS 0 rfl rfl 3 (by decide) (hts _ t_139) (fun _ h9 => h9) rfl (tyX0_ok 3 (by decide)) rfl rfl (Nat.le_of_ble_eq_true rfl) dX0_copyFrom_29 (fun H locs hP hD hS => ?_)
  have hP : va_P D classes (rc0 a q_t Q_t (sI (sI (sI (sI z_t 0 (gI z_p1 0)) 1 (gI z_p1 1)) 2 (gI z_p1 2)) 3 (gI z_p1 3)) ++ (rc0 a q_p1 Q_p1 z_p1)) H := hP
  have hD : va_D A (rc0 a q_t Q_t (sI (sI (sI (sI z_t 0 (gI z_p1 0)) 1 (gI z_p1 1)) 2 (gI z_p1 2)) 3 (gI z_p1 3)) ++ (rc0 a q_p1 Q_p1 z_p1)) := hD
  refine lv_aload_n hx hb dX0_copyFrom_32 rfl (lv_at hl 0 rfl) ?_
  refine lv_aload_n hx hb dX0_copyFrom_33 rfl (lv_at hl 1 rfl) ?_
  refine va_get (D := D) (v := .int (gI z_p1 4)) (C := RX0) (T := TX0) (N := 6) hx hb hts iX0 hown hK.1 hP 2 rfl rfl 4 (by decide) (hts _ t_142) (fun _ h9 => h9) rfl dX0_copyFrom_34 ?_
  refine va_put (D := D) (v := .int (gI z_p1 4)) (C := RX0) (T := TX0) (N := 6) hx hb hts iX0 tyX0 tyX0_ok nmX0 hown hK.1 hP hD hS 0 rfl rfl 4 (by decide) (hts _ t_142) (fun _ h9 => h9) rfl (tyX0_ok 4 (by decide)) rfl rfl (Nat.le_of_ble_eq_true rfl) dX0_copyFrom_37 (fun H locs hP hD hS => ?_)
  have hP : va_P D classes (rc0 a q_t Q_t (sI (sI (sI (sI (sI z_t 0 (gI z_p1 0)) 1 (gI z_p1 1)) 2 (gI z_p1 2)) 3 (gI z_p1 3)) 4 (gI z_p1 4)) ++ (rc0 a q_p1 Q_p1 z_p1)) H := hP
  have hD : va_D A (rc0 a q_t Q_t (sI (sI (sI (sI (sI z_t 0 (gI z_p1 0)) 1 (gI z_p1 1)) 2 (gI z_p1 2)) 3 (gI z_p1 3)) 4 (gI z_p1 4)) ++ (rc0 a q_p1 Q_p1 z_p1)) := hD
  refine lv_aload_n hx hb dX0_copyFrom_40 rfl (lv_at hl 1 rfl) ?_
  refine va_get (D := D) (v := .ref (Q_p1 5)) (C := RX0) (T := TX0) (N := 6) hx hb hts iX0 hown hK.1 hP 2 rfl rfl 5 (by decide) (hts _ t_144) (fun _ h9 => h9) rfl dX0_copyFrom_41 ?_
  refine lv_iconst (v := 0) hx hb dX0_copyFrom_44 (by decide) ?_
  refine lv_aload_n hx hb dX0_copyFrom_45 rfl (lv_at hl 0 rfl) ?_
  refine va_get (D := D) (v := .ref (Q_t 5)) (C := RX0) (T := TX0) (N := 6) hx hb hts iX0 hown hK.1 hP 0 rfl rfl 5 (by decide) (hts _ t_144) (fun _ h9 => h9) rfl dX0_copyFrom_46 ?_
  refine lv_iconst (v := 0) hx hb dX0_copyFrom_49 (by decide) ?_
  refine lv_bipush (v := 10) hx hb dX0_copyFrom_50 (by decide) ?_
  refine va_copyi hx hb (by rw [hml]; exact hl.1.symm) hown (hts _ t_740) (hts _ t_574) (hts _ t_573) (hts _ t_17) hK.1 hP hD hS 3 1 0 0 rfl rfl rfl rfl rfl (by decide) (by decide) (by decide) (by decide) (by decide) (fun _ _ => rfl) (Nat.le_of_ble_eq_true rfl) (Nat.le_of_ble_eq_true rfl) dX0_copyFrom_52 (fun H locs hP hD hS => ?_)
  have hP : va_P D classes (rc0 a q_t Q_t (sTf (sI (sI (sI (sI (sI z_t 0 (gI z_p1 0)) 1 (gI z_p1 1)) 2 (gI z_p1 2)) 3 (gI z_p1 3)) 4 (gI z_p1 4)) 5 (va_cpy (gT z_p1 5) (gT (sI (sI (sI (sI (sI z_t 0 (gI z_p1 0)) 1 (gI z_p1 1)) 2 (gI z_p1 2)) 3 (gI z_p1 3)) 4 (gI z_p1 4)) 5) 0 0 10)) ++ (rc0 a q_p1 Q_p1 z_p1)) H := hP
  have hD : va_D A (rc0 a q_t Q_t (sTf (sI (sI (sI (sI (sI z_t 0 (gI z_p1 0)) 1 (gI z_p1 1)) 2 (gI z_p1 2)) 3 (gI z_p1 3)) 4 (gI z_p1 4)) 5 (va_cpy (gT z_p1 5) (gT (sI (sI (sI (sI (sI z_t 0 (gI z_p1 0)) 1 (gI z_p1 1)) 2 (gI z_p1 2)) 3 (gI z_p1 3)) 4 (gI z_p1 4)) 5) 0 0 10)) ++ (rc0 a q_p1 Q_p1 z_p1)) := hD
  exact rMv C rfl h (g := fun y => rc0 a q_t Q_t y ++ (rc0 a q_p1 Q_p1 z_p1)) hP hD hS dX0_copyFrom_55

def fX0_gone (z_t : Sx) : Option (Int32) := some ((gI z_t 2) ||| (gI z_t 3))

set_option maxHeartbeats 4000000 in
set_option maxRecDepth 100000 in
theorem mX0_gone (l : Launch) (D : va_G) (a : Nat → ClassId) {q_t : Nat} {Q_t : Nat → Nat} {z_t : Sx} {y : Int32} (h : fX0_gone z_t = some y) : CRi l MX0_gone 0 0 D a [.ref q_t] (rc0 a q_t Q_t z_t) (fun r => r = y) := by
  unfold fX0_gone at h
  refine entR (by decide) (Nat.le_of_ble_eq_true rfl) ?_
  intro p e s m below meth c C hK hP ls hl
  obtain ⟨hx, hb, hml, hown, hts, hr, hlocks, hnm⟩ := id C
  have hb : c.code = cX0_gone := hb
  have hown : s.vm.findClass RX0 = some m.cls := hown
  have hl : lv_has ls 1 [(0, .ref q_t)] := hl
  refine lv_aload_n hx hb dX0_gone_0 rfl (lv_at hl 0 rfl) ?_
  refine va_get (D := D) (v := .int (gI z_t 2)) (C := RX0) (T := TX0) (N := 6) hx hb hts iX0 hown hK.1 hP 0 rfl rfl 2 (by decide) (hts _ t_136) (fun _ h9 => h9) rfl dX0_gone_1 ?_
  refine lv_aload_n hx hb dX0_gone_4 rfl (lv_at hl 0 rfl) ?_
  refine va_get (D := D) (v := .int (gI z_t 3)) (C := RX0) (T := TX0) (N := 6) hx hb hts iX0 hown hK.1 hP 0 rfl rfl 3 (by decide) (hts _ t_139) (fun _ h9 => h9) rfl dX0_gone_5 ?_
  refine lv_ior hx hb dX0_gone_8 ?_
  exact rRi C rfl (Option.some.inj h) dX0_gone_9

def fX8_at (n_p0 : Nat) (f_p0 : Nat → Int32) (x1 : Int32) : Option (Int32) := if x1 < 0 then some 0 else if (nI n_p0) ≤ x1 then some 0 else gd (inb x1 n_p0) (some (f_p0 x1.toNatClampNeg))

set_option maxHeartbeats 4000000 in
set_option maxRecDepth 100000 in
theorem mX8_at (l : Launch) (D : va_G) (a : Nat → ClassId) {q_p0 : Nat} {n_p0 : Nat} {f_p0 : Nat → Int32} {x1 : Int32} {y : Int32} (h : fX8_at n_p0 f_p0 x1 = some y) : CRi l MX8_at 0 0 D a [.ref q_p0, .int x1] (ra0 a q_p0 n_p0 f_p0) (fun r => r = y) := by
  unfold fX8_at at h
  refine entR (by decide) (Nat.le_of_ble_eq_true rfl) ?_
  intro p e s m below meth c C hK hP ls hl
  obtain ⟨hx, hb, hml, hown, hts, hr, hlocks, hnm⟩ := id C
  have hb : c.code = cX8_at := hb
  have hown : s.vm.findClass RX8 = some m.cls := hown
  have hl : lv_has ls 2 [(0, .ref q_p0), (1, .int x1)] := hl
  refine lv_iload_n hx hb dX8_at_0 rfl (lv_at hl 1 rfl) ?_
  refine lv_if_lt (tgt := 16) hx hb dX8_at_1 (by decide) (fun c1 => ?_) (fun c1 => ?_)
  · have h := ite_t c1 h
    refine lv_iconst (v := 0) hx hb dX8_at_16 (by decide) ?_
    exact rRi C rfl (Option.some.inj h) dX8_at_17
  · have h := ite_f c1 h
    refine lv_iload_n hx hb dX8_at_4 rfl (lv_at hl 1 rfl) ?_
    refine lv_aload_n hx hb dX8_at_5 rfl (lv_at hl 0 rfl) ?_
    refine va_alen (v := nI n_p0) hx hb hK.1 hP 0 0 rfl rfl rfl dX8_at_6 ?_
    refine lv_icmp_ge (tgt := 16) hx hb dX8_at_7 (by decide) (fun c2 => ?_) (fun c2 => ?_)
    · have h := ite_t c2 h
      refine lv_iconst (v := 0) hx hb dX8_at_16 (by decide) ?_
      exact rRi C rfl (Option.some.inj h) dX8_at_17
    · have h := ite_f c2 h
      refine lv_aload_n hx hb dX8_at_10 rfl (lv_at hl 0 rfl) ?_
      refine lv_iload_n hx hb dX8_at_11 rfl (lv_at hl 1 rfl) ?_
      obtain ⟨g3, h⟩ := gd_some h
      refine ald_i hx hb hK.1 hP 0 0 rfl rfl x1.toNatClampNeg (ix_g g3) dX8_at_12 ?_
      refine lv_goto (tgt := 17) hx hb dX8_at_13 (by decide) ?_
      exact rRi C rfl (Option.some.inj h) dX8_at_17

def fX8_put (n_p0 : Nat) (f_p0 : Nat → Int32) (x1 : Int32) (x2 : Int32) : Option ((Nat → Int32)) := if x1 < 0 then some f_p0 else if (nI n_p0) ≤ x1 then some f_p0 else gd (inb x1 n_p0) (some (upd f_p0 x1.toNatClampNeg x2))

set_option maxHeartbeats 4000000 in
set_option maxRecDepth 100000 in
theorem mX8_put (l : Launch) (D : va_G) (a : Nat → ClassId) {q_p0 : Nat} {n_p0 : Nat} {f_p0 : Nat → Int32} {x1 : Int32} {x2 : Int32} {y : (Nat → Int32)} (h : fX8_put n_p0 f_p0 x1 x2 = some y) (sz : Nat) : CMv (S := Unit) l MX8_put 0 0 0 0 D a [.ref q_p0, .int x1, .int x2] (ra0 a q_p0 n_p0 f_p0) sz (fun _ => True) (fun _ => ra0 a q_p0 n_p0 y) := by
  unfold fX8_put at h
  refine entMv (by decide) (Nat.le_of_ble_eq_true rfl) ?_
  intro p e s m below meth c C hK A hA hP hD ls hl
  obtain ⟨hx, hb, hml, hown, hts, hr, hlocks, hnm⟩ := id C
  have hb : c.code = cX8_put := hb
  have hown : s.vm.findClass RX8 = some m.cls := hown
  have hS : va_S A s.heap s.heap [] := va_S.rf
  have hl : lv_has ls 3 [(0, .ref q_p0), (1, .int x1), (2, .int x2)] := hl
  refine lv_iload_n hx hb dX8_put_0 rfl (lv_at hl 1 rfl) ?_
  refine lv_if_lt (tgt := 14) hx hb dX8_put_1 (by decide) (fun c1 => ?_) (fun c1 => ?_)
  · have h := ite_t c1 h
    exact rMv C rfl h (g := fun y => ra0 a q_p0 n_p0 y) hP hD hS dX8_put_14
  · have h := ite_f c1 h
    refine lv_iload_n hx hb dX8_put_4 rfl (lv_at hl 1 rfl) ?_
    refine lv_aload_n hx hb dX8_put_5 rfl (lv_at hl 0 rfl) ?_
    refine va_alen (v := nI n_p0) hx hb hK.1 hP 0 0 rfl rfl rfl dX8_put_6 ?_
    refine lv_icmp_ge (tgt := 14) hx hb dX8_put_7 (by decide) (fun c2 => ?_) (fun c2 => ?_)
    · have h := ite_t c2 h
      exact rMv C rfl h (g := fun y => ra0 a q_p0 n_p0 y) hP hD hS dX8_put_14
    · have h := ite_f c2 h
      refine lv_aload_n hx hb dX8_put_10 rfl (lv_at hl 0 rfl) ?_
      refine lv_iload_n hx hb dX8_put_11 rfl (lv_at hl 1 rfl) ?_
      refine lv_iload_n hx hb dX8_put_12 rfl (lv_at hl 2 rfl) ?_
      obtain ⟨g3, h⟩ := gd_some h
      refine ast_i hx hb hK.1 hP hD hS 0 0 rfl rfl x1.toNatClampNeg (ix_g g3) dX8_put_13 (fun H locs hP hD hS => ?_)
      have hP : va_P D classes (ra0 a q_p0 n_p0 (upd f_p0 x1.toNatClampNeg x2)) H := hP
      have hD : va_D A (ra0 a q_p0 n_p0 (upd f_p0 x1.toNatClampNeg x2)) := hD
      exact rMv C rfl h (g := fun y => ra0 a q_p0 n_p0 y) hP hD hS dX8_put_14

set_option maxHeartbeats 4000000 in
set_option maxRecDepth 100000 in
theorem wX8_partOf_12 {p : Program} {l : Launch} {e : Env} {s : State} {m : MethodId} {below : List Frame} {meth : Method} {c : Code} {D : va_G} {a : Nat → ClassId} {x00 : Int64} {x20 : Int64} {x40 : Int32} {x0 : Int64} {x2 : Int64} {x4 : Int32} (C : Cx p s m #[.long x00, .long x20, .int x40] meth c MX8_partOf) (hK : KK D a s) {y : Int64} (hP : va_P D classes ([]) s.heap) {k47 : Int64 → Option (Int64)} (hk47 : ∀ (x5k : Int64) (ls : Array Slot), k47 x5k = some y → lv_has ls 12 [(0, .long x0), (2, .long x2), (4, .int x4), (5, .long x5k)] → W p l e (rmM 1 0 0 30) s m #[.long x00, .long x20, .int x40] below meth c s.heap [] 0 0 (MQ below (vp_Sl (fun r => r = y)) #[.long x00, .long x20, .int x40] s 0 0 (fun _ => False)) (F0 m 47 ls [])) : ∀ (n : Nat) (x5 : Int64) (x7 : Int64) (x9 : Int32) (ls : Array Slot), lX8_partOf_12 k47 x0 x2 x4 n x5 x7 x9 = some y → lv_has ls 12 [(0, .long x0), (2, .long x2), (4, .int x4), (5, .long x5), (7, .long x7), (9, .int x9)] → W p l e (rmM 1 0 0 30) s m #[.long x00, .long x20, .int x40] below meth c s.heap [] 0 0 (MQ below (vp_Sl (fun r => r = y)) #[.long x00, .long x20, .int x40] s 0 0 (fun _ => False)) (F0 m 12 ls []) := by
  obtain ⟨hx, hb, hml, hown, hts, hr, hlocks, hnm⟩ := id C
  have hb : c.code = cX8_partOf := hb
  have hown : s.vm.findClass RX8 = some m.cls := hown
  intro n
  induction n with
  | zero => intro x5 x7 x9 ls h; rw [lX8_partOf_12] at h; cases h
  | succ n ih =>
    intro x5 x7 x9 ls h hl
    rw [lX8_partOf_12] at h
    refine lv_iload hx hb dX8_partOf_12 (lv_at hl 5 rfl) ?_
    refine lv_bipush (v := 100) hx hb dX8_partOf_14 (by decide) ?_
    refine lv_icmp_ge (tgt := 47) hx hb dX8_partOf_16 (by decide) (fun c1 => ?_) (fun c1 => ?_)
    · have h := ite_t c1 h
      exact hk47 x5 ls h (lv_sub hl [0, 1, 2, 3] rfl)
    · have h := ite_f c1 h
      refine lv_lload hx hb dX8_partOf_19 (lv_at hl 4 rfl) ?_
      refine lv_lconst (v := 0) hx hb dX8_partOf_21 (by decide) ?_
      refine W.lcmp hx hb dX8_partOf_22 ?_
      refine lv_if_eq (tgt := 47) hx hb dX8_partOf_23 (by decide) (fun c2 => ?_) (fun c2 => ?_)
      · have h := ite_t ((lg_cmp_eq _ _).mp c2) h
        exact hk47 x5 ls h (lv_sub hl [0, 1, 2, 3] rfl)
      · have h := ite_f (fun q => c2 ((lg_cmp_eq _ _).mpr q)) h
        refine lv_lload hx hb dX8_partOf_26 (lv_at hl 3 rfl) ?_
        refine lv_lload hx hb dX8_partOf_28 (lv_at hl 4 rfl) ?_
        obtain ⟨g3, h⟩ := gd_some h
        refine lv_lrem hx hb dX8_partOf_30 g3 ?_
        refine lv_lstore (lv' := [(10, .long (x5 - x5 / x7 * x7)), (0, .long x0), (2, .long x2), (4, .int x4), (5, .long x5), (7, .long x7), (9, .int x9)]) hx hb dX8_partOf_31 hl (by decide) rfl (fun ls hl => ?_)
        refine lv_lload hx hb dX8_partOf_33 (lv_at hl 5 rfl) ?_
        refine lv_lstore (lv' := [(5, .long x7), (10, .long (x5 - x5 / x7 * x7)), (0, .long x0), (2, .long x2), (4, .int x4), (7, .long x7), (9, .int x9)]) hx hb dX8_partOf_35 hl (by decide) rfl (fun ls hl => ?_)
        refine lv_lload hx hb dX8_partOf_37 (lv_at hl 1 rfl) ?_
        refine lv_lstore (lv' := [(7, .long (x5 - x5 / x7 * x7)), (5, .long x7), (10, .long (x5 - x5 / x7 * x7)), (0, .long x0), (2, .long x2), (4, .int x4), (9, .int x9)]) hx hb dX8_partOf_39 hl (by decide) rfl (fun ls hl => ?_)
        refine lv_iinc (v := x9 + 1) (lv' := [(9, .int (x9 + 1)), (7, .long (x5 - x5 / x7 * x7)), (5, .long x7), (10, .long (x5 - x5 / x7 * x7)), (0, .long x0), (2, .long x2), (4, .int x4)]) hx hb dX8_partOf_41 hl (k := 6) rfl rfl (by decide) rfl (fun ls hl => ?_)
        refine lv_goto (tgt := 12) hx hb dX8_partOf_44 (by decide) ?_
        exact ih x7 (x5 - x5 / x7 * x7) (x9 + 1) ls h (lv_sub hl [4, 5, 6, 2, 1, 0] rfl)

set_option maxHeartbeats 4000000 in
set_option maxRecDepth 100000 in
theorem mX8_partOf (l : Launch) (D : va_G) (a : Nat → ClassId) {x0 : Int64} {x2 : Int64} {x4 : Int32} {y : Int64} (h : fX8_partOf x0 x2 x4 = some y) : CRl l MX8_partOf 1 30 D a [.long x0, .long x2, .int x4] ([]) (fun r => r = y) := by
  unfold fX8_partOf at h
  refine entR (by decide) (Nat.le_of_ble_eq_true rfl) ?_
  intro p e s m below meth c C hK hP ls hl
  obtain ⟨hx, hb, hml, hown, hts, hr, hlocks, hnm⟩ := id C
  have hb : c.code = cX8_partOf := hb
  have hown : s.vm.findClass RX8 = some m.cls := hown
  have hl : lv_has ls 12 [(0, .long x0), (2, .long x2), (4, .int x4)] := hl
  refine lv_lload_n hx hb dX8_partOf_0 rfl (lv_at hl 0 rfl) ?_
  refine va_mabs_long hx hb (by rw [hml]; exact hl.1.symm) hown (hts _ t_765) (hts _ t_766) (hts _ t_14) (hts _ t_767) (Nat.le_of_ble_eq_true rfl) (Nat.le_of_ble_eq_true rfl) (Nat.le_of_ble_eq_true rfl) (Nat.le_of_ble_eq_true rfl) dX8_partOf_1 ?_
  refine lv_lstore (lv' := [(5, .long (abL x0)), (0, .long x0), (2, .long x2), (4, .int x4)]) hx hb dX8_partOf_4 hl (by decide) rfl (fun ls hl => ?_)
  refine lv_lload_n hx hb dX8_partOf_6 rfl (lv_at hl 2 rfl) ?_
  refine lv_lstore (lv' := [(7, .long x2), (5, .long (abL x0)), (0, .long x0), (2, .long x2), (4, .int x4)]) hx hb dX8_partOf_7 hl (by decide) rfl (fun ls hl => ?_)
  refine lv_iconst (v := 0) hx hb dX8_partOf_9 (by decide) ?_
  refine lv_istore (lv' := [(9, .int 0), (7, .long x2), (5, .long (abL x0)), (0, .long x0), (2, .long x2), (4, .int x4)]) hx hb dX8_partOf_10 hl (by decide) rfl (fun ls hl => ?_)
  refine wX8_partOf_12 C hK hP ?_ FU (abL x0) x2 0 ls h (lv_sub hl [3, 4, 5, 2, 1, 0] rfl)
  · intro i4 ls h hl
    refine lv_lload hx hb dX8_partOf_47 (lv_at hl 3 rfl) ?_
    refine lv_lconst (v := 0) hx hb dX8_partOf_49 (by decide) ?_
    refine W.lcmp hx hb dX8_partOf_50 ?_
    refine lv_if_ne (tgt := 65) hx hb dX8_partOf_51 (by decide) (fun c5 => ?_) (fun c5 => ?_)
    · have h := ite_f (fun q => c5 ((lg_cmp_eq _ _).mpr q)) h
      refine lv_iload hx hb dX8_partOf_65 (lv_at hl 2 rfl) ?_
      obtain ⟨J6, eJ6, h⟩ := jn_some h
      have hJ6 : ∀ (i7 : Int64) (ls : Array Slot), J6 i7 = some y → lv_has ls 12 [(5, .long i4)] → W p l e (rmM 1 0 0 30) s m #[.long x0, .long x2, .int x4] below meth c s.heap [] 0 0 (MQ below (vp_Sl (fun r => r = y)) #[.long x0, .long x2, .int x4] s 0 0 (fun _ => False)) (F0 m 75 ls [.long i7]) := by
        intro i7 ls h hl
        rw [eJ6] at h
        refine lv_lload hx hb dX8_partOf_75 (lv_at hl 0 rfl) ?_
        obtain ⟨g8, h⟩ := gd_some h
        refine lv_ldiv hx hb dX8_partOf_77 g8 ?_
        exact rRl C rfl (Option.some.inj h) dX8_partOf_78
      refine lv_if_ne (tgt := 74) hx hb dX8_partOf_67 (by decide) (fun c9 => ?_) (fun c9 => ?_)
      · have h := ite_f c9 h
        refine lv_lload_n hx hb dX8_partOf_74 rfl (lv_at hl 1 rfl) ?_
        exact hJ6 x2 ls h (lv_sub hl [3] rfl)
      · have h := ite_t c9 h
        refine lv_lload_n hx hb dX8_partOf_70 rfl (lv_at hl 0 rfl) ?_
        refine lv_goto (tgt := 75) hx hb dX8_partOf_71 (by decide) ?_
        exact hJ6 x0 ls h (lv_sub hl [3] rfl)
    · have h := ite_t ((lg_cmp_eq _ _).mp c5) h
      refine lv_iload hx hb dX8_partOf_54 (lv_at hl 2 rfl) ?_
      refine lv_if_ne (tgt := 63) hx hb dX8_partOf_56 (by decide) (fun c10 => ?_) (fun c10 => ?_)
      · have h := ite_f c10 h
        refine lv_lload_n hx hb dX8_partOf_63 rfl (lv_at hl 1 rfl) ?_
        exact rRl C rfl (Option.some.inj h) dX8_partOf_64
      · have h := ite_t c10 h
        refine lv_lload_n hx hb dX8_partOf_59 rfl (lv_at hl 0 rfl) ?_
        refine lv_goto (tgt := 64) hx hb dX8_partOf_60 (by decide) ?_
        exact rRl C rfl (Option.some.inj h) dX8_partOf_64

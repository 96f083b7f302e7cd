set_option maxHeartbeats 4000000 in
set_option maxRecDepth 100000 in
theorem mX6_valueWord (l : Launch) (D : va_G) (a : Nat → ClassId) {adK adV : Nat → Nat} {q_p0 : Nat} {n_p0 : Nat} {f_p0 : Nat → Int32} {x1 : Int32} {x2 : Int32} {y : Int32} (h : fX6_valueWord n_p0 f_p0 x1 x2 = some y) : CRsi l MX6_valueWord 5 124 D a adK adV [.ref q_p0, .int x1, .int x2] (ra0 a q_p0 n_p0 f_p0) (fun r => r = y) := by
  unfold fX6_valueWord at h
  refine entRs (by decide) (Nat.le_of_ble_eq_true rfl) ?_
  intro p e s m below meth c C hK hP hV ls hl
  obtain ⟨hx, hb, hml, hown, hts, hr, hlocks, hnm⟩ := id C
  have hb : c.code = cX6_valueWord := hb
  have hown : s.vm.findClass RX6 = some m.cls := hown
  have hl : lv_has ls 3 [(0, .ref q_p0), (1, .int x1), (2, .int x2)] := hl
  refine lv_aload_n hx hb dX6_valueWord_0 rfl (lv_at hl 0 rfl) ?_
  refine lv_iload_n hx hb dX6_valueWord_1 rfl (lv_at hl 1 rfl) ?_
  refine lv_iload_n hx hb dX6_valueWord_2 rfl (lv_at hl 2 rfl) ?_
  refine va_ldcS hx hb hown (hV.2.1 8 (by decide)) dX6_valueWord_3 ?_
  obtain ⟨r2, hc1, h⟩ := bd_some h
  refine cRi (runS (As := [.ref q_p0, .int x1, .int x2, .ref (adK 8)]) (rest := []) C (mX6_spells l D a (q_p0 := q_p0) (by decide) hc1) lk_S_6_67 okN_X6_spells ⟨Nat.le_of_ble_eq_true rfl, Nat.le_of_ble_eq_true rfl⟩ ⟨rfl, rfl⟩ (preRs hK hP hV) hl.1 rfl (Nat.le_of_ble_eq_true rfl) dX6_valueWord_5 ⟨Nat.le_of_ble_eq_true rfl, Nat.le_of_ble_eq_true rfl⟩) ?_
  refine lv_if_eq (tgt := 17) hx hb dX6_valueWord_8 (by decide) (fun c3 => ?_) (fun c3 => ?_)
  · have h := ite_t c3 h
    refine lv_aload_n hx hb dX6_valueWord_17 rfl (lv_at hl 0 rfl) ?_
    refine lv_iload_n hx hb dX6_valueWord_18 rfl (lv_at hl 1 rfl) ?_
    refine lv_iload_n hx hb dX6_valueWord_19 rfl (lv_at hl 2 rfl) ?_
    refine va_ldcS hx hb hown (hV.2.1 9 (by decide)) dX6_valueWord_20 ?_
    obtain ⟨r5, hc4, h⟩ := bd_some h
    refine cRi (runS (As := [.ref q_p0, .int x1, .int x2, .ref (adK 9)]) (rest := []) C (mX6_spells l D a (q_p0 := q_p0) (by decide) hc4) lk_S_6_67 okN_X6_spells ⟨Nat.le_of_ble_eq_true rfl, Nat.le_of_ble_eq_true rfl⟩ ⟨rfl, rfl⟩ (preRs hK hP hV) hl.1 rfl (Nat.le_of_ble_eq_true rfl) dX6_valueWord_22 ⟨Nat.le_of_ble_eq_true rfl, Nat.le_of_ble_eq_true rfl⟩) ?_
    refine lv_if_eq (tgt := 34) hx hb dX6_valueWord_25 (by decide) (fun c6 => ?_) (fun c6 => ?_)
    · have h := ite_t c6 h
      refine lv_aload_n hx hb dX6_valueWord_34 rfl (lv_at hl 0 rfl) ?_
      refine lv_iload_n hx hb dX6_valueWord_35 rfl (lv_at hl 1 rfl) ?_
      refine lv_iload_n hx hb dX6_valueWord_36 rfl (lv_at hl 2 rfl) ?_
      refine va_ldcS hx hb hown (hV.2.1 10 (by decide)) dX6_valueWord_37 ?_
      obtain ⟨r8, hc7, h⟩ := bd_some h
      refine cRi (runS (As := [.ref q_p0, .int x1, .int x2, .ref (adK 10)]) (rest := []) C (mX6_spells l D a (q_p0 := q_p0) (by decide) hc7) lk_S_6_67 okN_X6_spells ⟨Nat.le_of_ble_eq_true rfl, Nat.le_of_ble_eq_true rfl⟩ ⟨rfl, rfl⟩ (preRs hK hP hV) hl.1 rfl (Nat.le_of_ble_eq_true rfl) dX6_valueWord_39 ⟨Nat.le_of_ble_eq_true rfl, Nat.le_of_ble_eq_true rfl⟩) ?_
      refine lv_if_eq (tgt := 51) hx hb dX6_valueWord_42 (by decide) (fun c9 => ?_) (fun c9 => ?_)
      · have h := ite_t c9 h
        refine lv_aload_n hx hb dX6_valueWord_51 rfl (lv_at hl 0 rfl) ?_
        refine lv_iload_n hx hb dX6_valueWord_52 rfl (lv_at hl 1 rfl) ?_
        refine lv_iload_n hx hb dX6_valueWord_53 rfl (lv_at hl 2 rfl) ?_
        refine va_ldcS hx hb hown (hV.2.1 11 (by decide)) dX6_valueWord_54 ?_
        obtain ⟨r11, hc10, h⟩ := bd_some h
        refine cRi (runS (As := [.ref q_p0, .int x1, .int x2, .ref (adK 11)]) (rest := []) C (mX6_spells l D a (q_p0 := q_p0) (by decide) hc10) lk_S_6_67 okN_X6_spells ⟨Nat.le_of_ble_eq_true rfl, Nat.le_of_ble_eq_true rfl⟩ ⟨rfl, rfl⟩ (preRs hK hP hV) hl.1 rfl (Nat.le_of_ble_eq_true rfl) dX6_valueWord_56 ⟨Nat.le_of_ble_eq_true rfl, Nat.le_of_ble_eq_true rfl⟩) ?_
        refine lv_if_eq (tgt := 68) hx hb dX6_valueWord_59 (by decide) (fun c12 => ?_) (fun c12 => ?_)
        · have h := ite_t c12 h
          refine lv_aload_n hx hb dX6_valueWord_68 rfl (lv_at hl 0 rfl) ?_
          refine lv_iload_n hx hb dX6_valueWord_69 rfl (lv_at hl 1 rfl) ?_
          refine lv_iload_n hx hb dX6_valueWord_70 rfl (lv_at hl 2 rfl) ?_
          refine va_ldcS hx hb hown (hV.2.1 12 (by decide)) dX6_valueWord_71 ?_
          obtain ⟨r14, hc13, h⟩ := bd_some h
          refine cRi (runS (As := [.ref q_p0, .int x1, .int x2, .ref (adK 12)]) (rest := []) C (mX6_spells l D a (q_p0 := q_p0) (by decide) hc13) lk_S_6_67 okN_X6_spells ⟨Nat.le_of_ble_eq_true rfl, Nat.le_of_ble_eq_true rfl⟩ ⟨rfl, rfl⟩ (preRs hK hP hV) hl.1 rfl (Nat.le_of_ble_eq_true rfl) dX6_valueWord_73 ⟨Nat.le_of_ble_eq_true rfl, Nat.le_of_ble_eq_true rfl⟩) ?_
          refine lv_if_eq (tgt := 85) hx hb dX6_valueWord_76 (by decide) (fun c15 => ?_) (fun c15 => ?_)
          · have h := ite_t c15 h
            refine lv_aload_n hx hb dX6_valueWord_85 rfl (lv_at hl 0 rfl) ?_
            refine lv_iload_n hx hb dX6_valueWord_86 rfl (lv_at hl 1 rfl) ?_
            refine lv_iload_n hx hb dX6_valueWord_87 rfl (lv_at hl 2 rfl) ?_
            refine va_ldcS hx hb hown (hV.2.1 13 (by decide)) dX6_valueWord_88 ?_
            obtain ⟨r17, hc16, h⟩ := bd_some h
            refine cRi (runS (As := [.ref q_p0, .int x1, .int x2, .ref (adK 13)]) (rest := []) C (mX6_spells l D a (q_p0 := q_p0) (by decide) hc16) lk_S_6_67 okN_X6_spells ⟨Nat.le_of_ble_eq_true rfl, Nat.le_of_ble_eq_true rfl⟩ ⟨rfl, rfl⟩ (preRs hK hP hV) hl.1 rfl (Nat.le_of_ble_eq_true rfl) dX6_valueWord_90 ⟨Nat.le_of_ble_eq_true rfl, Nat.le_of_ble_eq_true rfl⟩) ?_
            refine lv_if_eq (tgt := 102) hx hb dX6_valueWord_93 (by decide) (fun c18 => ?_) (fun c18 => ?_)
            · have h := ite_t c18 h
              refine lv_aload_n hx hb dX6_valueWord_102 rfl (lv_at hl 0 rfl) ?_
              refine lv_iload_n hx hb dX6_valueWord_103 rfl (lv_at hl 1 rfl) ?_
              refine lv_iload_n hx hb dX6_valueWord_104 rfl (lv_at hl 2 rfl) ?_
              refine va_ldcS hx hb hown (hV.2.1 14 (by decide)) dX6_valueWord_105 ?_
              obtain ⟨r20, hc19, h⟩ := bd_some h
              refine cRi (runS (As := [.ref q_p0, .int x1, .int x2, .ref (adK 14)]) (rest := []) C (mX6_spells l D a (q_p0 := q_p0) (by decide) hc19) lk_S_6_67 okN_X6_spells ⟨Nat.le_of_ble_eq_true rfl, Nat.le_of_ble_eq_true rfl⟩ ⟨rfl, rfl⟩ (preRs hK hP hV) hl.1 rfl (Nat.le_of_ble_eq_true rfl) dX6_valueWord_107 ⟨Nat.le_of_ble_eq_true rfl, Nat.le_of_ble_eq_true rfl⟩) ?_
              refine lv_if_eq (tgt := 119) hx hb dX6_valueWord_110 (by decide) (fun c21 => ?_) (fun c21 => ?_)
              · have h := ite_t c21 h
                refine lv_aload_n hx hb dX6_valueWord_119 rfl (lv_at hl 0 rfl) ?_
                refine lv_iload_n hx hb dX6_valueWord_120 rfl (lv_at hl 1 rfl) ?_
                refine lv_iload_n hx hb dX6_valueWord_121 rfl (lv_at hl 2 rfl) ?_
                refine va_ldcS hx hb hown (hV.2.1 15 (by decide)) dX6_valueWord_122 ?_
                obtain ⟨r23, hc22, h⟩ := bd_some h
                refine cRi (runS (As := [.ref q_p0, .int x1, .int x2, .ref (adK 15)]) (rest := []) C (mX6_spells l D a (q_p0 := q_p0) (by decide) hc22) lk_S_6_67 okN_X6_spells ⟨Nat.le_of_ble_eq_true rfl, Nat.le_of_ble_eq_true rfl⟩ ⟨rfl, rfl⟩ (preRs hK hP hV) hl.1 rfl (Nat.le_of_ble_eq_true rfl) dX6_valueWord_124 ⟨Nat.le_of_ble_eq_true rfl, Nat.le_of_ble_eq_true rfl⟩) ?_
                refine lv_if_eq (tgt := 136) hx hb dX6_valueWord_127 (by decide) (fun c24 => ?_) (fun c24 => ?_)
                · have h := ite_t c24 h
                  refine lv_aload_n hx hb dX6_valueWord_136 rfl (lv_at hl 0 rfl) ?_
                  refine lv_iload_n hx hb dX6_valueWord_137 rfl (lv_at hl 1 rfl) ?_
                  refine lv_iload_n hx hb dX6_valueWord_138 rfl (lv_at hl 2 rfl) ?_
                  refine va_ldcS hx hb hown (hV.2.1 16 (by decide)) dX6_valueWord_139 ?_
                  obtain ⟨r26, hc25, h⟩ := bd_some h
                  refine cRi (runS (As := [.ref q_p0, .int x1, .int x2, .ref (adK 16)]) (rest := []) C (mX6_spells l D a (q_p0 := q_p0) (by decide) hc25) lk_S_6_67 okN_X6_spells ⟨Nat.le_of_ble_eq_true rfl, Nat.le_of_ble_eq_true rfl⟩ ⟨rfl, rfl⟩ (preRs hK hP hV) hl.1 rfl (Nat.le_of_ble_eq_true rfl) dX6_valueWord_141 ⟨Nat.le_of_ble_eq_true rfl, Nat.le_of_ble_eq_true rfl⟩) ?_
                  refine lv_if_eq (tgt := 153) hx hb dX6_valueWord_144 (by decide) (fun c27 => ?_) (fun c27 => ?_)
                  · have h := ite_t c27 h
                    refine lv_sipush (v := 303) hx hb dX6_valueWord_153 (by decide) ?_
                    exact rRi C rfl (Option.some.inj h) dX6_valueWord_156
                  · have h := ite_f c27 h
                    refine lv_sipush (v := 320) hx hb dX6_valueWord_147 (by decide) ?_
                    refine lv_goto (tgt := 156) hx hb dX6_valueWord_150 (by decide) ?_
                    exact rRi C rfl (Option.some.inj h) dX6_valueWord_156
                · have h := ite_f c24 h
                  refine lv_sipush (v := 319) hx hb dX6_valueWord_130 (by decide) ?_
                  refine lv_goto (tgt := 156) hx hb dX6_valueWord_133 (by decide) ?_
                  exact rRi C rfl (Option.some.inj h) dX6_valueWord_156
              · have h := ite_f c21 h
                refine lv_sipush (v := 318) hx hb dX6_valueWord_113 (by decide) ?_
                refine lv_goto (tgt := 156) hx hb dX6_valueWord_116 (by decide) ?_
                exact rRi C rfl (Option.some.inj h) dX6_valueWord_156
            · have h := ite_f c18 h
              refine lv_sipush (v := 317) hx hb dX6_valueWord_96 (by decide) ?_
              refine lv_goto (tgt := 156) hx hb dX6_valueWord_99 (by decide) ?_
              exact rRi C rfl (Option.some.inj h) dX6_valueWord_156
          · have h := ite_f c15 h
            refine lv_sipush (v := 316) hx hb dX6_valueWord_79 (by decide) ?_
            refine lv_goto (tgt := 156) hx hb dX6_valueWord_82 (by decide) ?_
            exact rRi C rfl (Option.some.inj h) dX6_valueWord_156
        · have h := ite_f c12 h
          refine lv_sipush (v := 315) hx hb dX6_valueWord_62 (by decide) ?_
          refine lv_goto (tgt := 156) hx hb dX6_valueWord_65 (by decide) ?_
          exact rRi C rfl (Option.some.inj h) dX6_valueWord_156
      · have h := ite_f c9 h
        refine lv_sipush (v := 314) hx hb dX6_valueWord_45 (by decide) ?_
        refine lv_goto (tgt := 156) hx hb dX6_valueWord_48 (by decide) ?_
        exact rRi C rfl (Option.some.inj h) dX6_valueWord_156
    · have h := ite_f c6 h
      refine lv_sipush (v := 313) hx hb dX6_valueWord_28 (by decide) ?_
      refine lv_goto (tgt := 156) hx hb dX6_valueWord_31 (by decide) ?_
      exact rRi C rfl (Option.some.inj h) dX6_valueWord_156
  · have h := ite_f c3 h
    refine lv_sipush (v := 312) hx hb dX6_valueWord_11 (by decide) ?_
    refine lv_goto (tgt := 156) hx hb dX6_valueWord_14 (by decide) ?_
    exact rRi C rfl (Option.some.inj h) dX6_valueWord_156

set_option maxHeartbeats 4000000 in
set_option maxRecDepth 100000 in
theorem wX6_cutWord_3 {p : Program} {l : Launch} {e : Env} {s : State} {m : MethodId} {below : List Frame} {meth : Method} {c : Code} {D : va_G} {a : Nat → ClassId} {A : Nat → Prop} {adK adV : Nat → Nat} {q_t : Nat} {q_p1 : Nat} {Q_t : Nat → Nat} {z_t : Sx} {n_p1 : Nat} {f_p1 : Nat → Int32} {x20 : Int32} {x30 : Int32} {x2 : Int32} {x3 : Int32} (C : Cx p s m #[.ref q_t, .ref q_p1, .int x20, .int x30] meth c MX6_cutWord) (hK : KK D a s) (hA : ∀ q, s.heap.size ≤ q → A q) (hV : VV adK adV A s s.heap) {y : Int32 × Sx} {k27 : Int32 → Option (Int32 × Sx)} (hk27 : ∀ (x4k : Int32) (H : Heap) (locs : List Loc) (ls : Array Slot), k27 x4k = some y → va_P D classes (rc6 a q_t Q_t z_t ++ (ra0 a q_p1 n_p1 f_p1)) H → va_D A (rc6 a q_t Q_t z_t ++ (ra0 a q_p1 n_p1 f_p1)) → va_S A s.heap H locs → lv_has ls 6 [(0, .ref q_t), (1, .ref q_p1), (2, .int x2), (4, .int x4k)] → W p l e (rmM 6 0 0 146) s m #[.ref q_t, .ref q_p1, .int x20, .int x30] below meth c H locs 0 0 (MQ below (va_Qi (fun r (_ : Unit) => r = y.1) (Bw D A (fun _ => rc6 a q_t Q_t y.2 ++ (ra0 a q_p1 n_p1 f_p1))) A) #[.ref q_t, .ref q_p1, .int x20, .int x30] s 0 0 A) (F0 m 27 ls [])) : ∀ (n : Nat) (x4 : Int32) (H : Heap) (locs : List Loc) (ls : Array Slot), lX6_cutWord_3 k27 z_t n_p1 f_p1 x2 x3 n x4 = some y → va_P D classes (rc6 a q_t Q_t z_t ++ (ra0 a q_p1 n_p1 f_p1)) H → va_D A (rc6 a q_t Q_t z_t ++ (ra0 a q_p1 n_p1 f_p1)) → va_S A s.heap H locs → lv_has ls 6 [(0, .ref q_t), (1, .ref q_p1), (2, .int x2), (3, .int x3), (4, .int x4)] → W p l e (rmM 6 0 0 146) s m #[.ref q_t, .ref q_p1, .int x20, .int x30] below meth c H locs 0 0 (MQ below (va_Qi (fun r (_ : Unit) => r = y.1) (Bw D A (fun _ => rc6 a q_t Q_t y.2 ++ (ra0 a q_p1 n_p1 f_p1))) A) #[.ref q_t, .ref q_p1, .int x20, .int x30] s 0 0 A) (F0 m 3 ls []) := by
  obtain ⟨hx, hb, hml, hown, hts, hr, hlocks, hnm⟩ := id C
  have hb : c.code = cX6_cutWord := hb
  have hown : s.vm.findClass RX6 = some m.cls := hown
  intro n
  induction n with
  | zero => intro x4 H locs ls h; rw [lX6_cutWord_3] at h; cases h
  | succ n ih =>
    intro x4 H locs ls h hP hD hS hl
    rw [lX6_cutWord_3] at h
    refine lv_iload hx hb dX6_cutWord_3 (lv_at hl 4 rfl) ?_
    refine lv_iload_n hx hb dX6_cutWord_5 rfl (lv_at hl 3 rfl) ?_
    refine lv_icmp_ge (tgt := 27) hx hb dX6_cutWord_6 (by decide) (fun c1 => ?_) (fun c1 => ?_)
    · have h := ite_t c1 h
      exact hk27 x4 _ _ ls h hP hD hS (lv_sub hl [0, 1, 2, 4] rfl)
    · have h := ite_f c1 h
      refine lv_aload_n hx hb dX6_cutWord_9 rfl (lv_at hl 1 rfl) ?_
      refine lv_iload hx hb dX6_cutWord_10 (lv_at hl 4 rfl) ?_
      obtain ⟨r3, hc2, h⟩ := bd_some h
      refine cRi (runN (As := [.ref q_p1, .int x4]) (rest := []) C hK (mX8_at l D a (q_p0 := q_p1) hc2) lk_N_6_42 okN_X8_at ⟨Nat.le_of_ble_eq_true rfl, Nat.le_of_ble_eq_true rfl⟩ ⟨rfl, rfl⟩ (preR hK (P_of_map (wc := ra0 a q_p1 n_p1 f_p1) hP [4] rfl)) hl.1 rfl (Nat.le_of_ble_eq_true rfl) dX6_cutWord_12 ⟨Nat.le_of_ble_eq_true rfl, Nat.le_of_ble_eq_true rfl⟩) ?_
      obtain ⟨r5, hc4, h⟩ := bd_some h
      refine cRi (runS (As := [.int r3]) (rest := []) C (mX6_isLetter l D a hc4) lk_S_6_53 okN_X6_isLetter ⟨Nat.le_of_ble_eq_true rfl, Nat.le_of_ble_eq_true rfl⟩ ⟨rfl, rfl⟩ (preR hK (P_of_map (wc := []) hP [] rfl)) hl.1 rfl (Nat.le_of_ble_eq_true rfl) dX6_cutWord_15 ⟨Nat.le_of_ble_eq_true rfl, Nat.le_of_ble_eq_true rfl⟩) ?_
      refine lv_if_eq (tgt := 27) hx hb dX6_cutWord_18 (by decide) (fun c6 => ?_) (fun c6 => ?_)
      · have h := ite_t c6 h
        exact hk27 x4 _ _ ls h hP hD hS (lv_sub hl [0, 1, 2, 4] rfl)
      · have h := ite_f c6 h
        refine lv_iinc (v := x4 + 1) (lv' := [(4, .int (x4 + 1)), (0, .ref q_t), (1, .ref q_p1), (2, .int x2), (3, .int x3)]) hx hb dX6_cutWord_21 hl (k := 4) rfl rfl (by decide) rfl (fun ls hl => ?_)
        refine lv_goto (tgt := 3) hx hb dX6_cutWord_24 (by decide) ?_
        exact ih (x4 + 1) _ _ ls h hP hD hS (lv_sub hl [1, 2, 3, 4, 0] rfl)

set_option maxHeartbeats 4000000 in
set_option maxRecDepth 100000 in
theorem mX6_cutWord (l : Launch) (D : va_G) (a : Nat → ClassId) {adK adV : Nat → Nat} {q_t : Nat} {q_p1 : Nat} {Q_t : Nat → Nat} {z_t : Sx} {n_p1 : Nat} {f_p1 : Nat → Int32} {x2 : Int32} {x3 : Int32} {y : Int32 × Sx} (h : fX6_cutWord z_t n_p1 f_p1 x2 x3 = some y) (sz : Nat) : CMsi (S := Unit) l MX6_cutWord 6 146 0 0 D a adK adV [.ref q_t, .ref q_p1, .int x2, .int x3] (rc6 a q_t Q_t z_t ++ (ra0 a q_p1 n_p1 f_p1)) sz (fun r _ => r = y.1) (fun _ => rc6 a q_t Q_t y.2 ++ (ra0 a q_p1 n_p1 f_p1)) := by
  unfold fX6_cutWord at h
  refine entMsi (by decide) (Nat.le_of_ble_eq_true rfl) ?_
  intro p e s m below meth c C hK A hA hP hD hV ls hl
  obtain ⟨hx, hb, hml, hown, hts, hr, hlocks, hnm⟩ := id C
  have hb : c.code = cX6_cutWord := hb
  have hown : s.vm.findClass RX6 = some m.cls := hown
  have hS : va_S A s.heap s.heap [] := va_S.rf
  have hl : lv_has ls 6 [(0, .ref q_t), (1, .ref q_p1), (2, .int x2), (3, .int x3)] := hl
  refine lv_iload_n hx hb dX6_cutWord_0 rfl (lv_at hl 2 rfl) ?_
  refine lv_istore (lv' := [(4, .int x2), (0, .ref q_t), (1, .ref q_p1), (2, .int x2), (3, .int x3)]) hx hb dX6_cutWord_1 hl (by decide) rfl (fun ls hl => ?_)
  refine wX6_cutWord_3 C hK hA hV ?_ FU x2 _ _ ls h hP hD hS (lv_sub hl [1, 2, 3, 4, 0] rfl)
  · intro i7 H locs ls h hP hD hS hl
    refine lv_aload_n hx hb dX6_cutWord_27 rfl (lv_at hl 1 rfl) ?_
    refine lv_iload_n hx hb dX6_cutWord_28 rfl (lv_at hl 2 rfl) ?_
    refine lv_iload hx hb dX6_cutWord_29 (lv_at hl 3 rfl) ?_
    obtain ⟨r9, hc8, h⟩ := bd_some h
    refine cRi (runS (As := [.ref q_p1, .int x2, .int i7]) (rest := []) C (mX6_clauseWord l D a (q_p0 := q_p1) hc8) lk_S_6_59 okN_X6_clauseWord ⟨Nat.le_of_ble_eq_true rfl, Nat.le_of_ble_eq_true rfl⟩ ⟨rfl, rfl⟩ (preRs hK (P_of_map (wc := ra0 a q_p1 n_p1 f_p1) hP [4] rfl) ((hV.kept hS.2.1).narrow (fun _ h => h.elim))) hl.1 rfl (Nat.le_of_ble_eq_true rfl) dX6_cutWord_31 ⟨Nat.le_of_ble_eq_true rfl, Nat.le_of_ble_eq_true rfl⟩) ?_
    refine lv_istore (lv' := [(5, .int r9), (0, .ref q_t), (1, .ref q_p1), (2, .int x2), (4, .int i7)]) hx hb dX6_cutWord_34 hl (by decide) rfl (fun ls hl => ?_)
    refine lv_aload_n hx hb dX6_cutWord_36 rfl (lv_at hl 1 rfl) ?_
    refine lv_iload hx hb dX6_cutWord_37 (lv_at hl 0 rfl) ?_
    refine lv_sipush (v := 303) hx hb dX6_cutWord_39 (by decide) ?_
    obtain ⟨J10, eJ10, h⟩ := jn_some h
    have hJ10 : ∀ (i11 : Int32) (H : Heap) (locs : List Loc) (ls : Array Slot), J10 i11 = some y → va_P D classes (rc6 a q_t Q_t z_t ++ (ra0 a q_p1 n_p1 f_p1)) H → va_D A (rc6 a q_t Q_t z_t ++ (ra0 a q_p1 n_p1 f_p1)) → va_S A s.heap H locs → lv_has ls 6 [(2, .int x2), (4, .int i7)] → W p l e (rmM 6 0 0 146) s m #[.ref q_t, .ref q_p1, .int x2, .int x3] below meth c H locs 0 0 (MQ below (va_Qi (fun r (_ : Unit) => r = y.1) (Bw D A (fun _ => rc6 a q_t Q_t y.2 ++ (ra0 a q_p1 n_p1 f_p1))) A) #[.ref q_t, .ref q_p1, .int x2, .int x3] s 0 0 A) (F0 m 57 ls [.int i11, .ref q_t]) := by
      intro i11 H locs ls h hP hD hS hl
      rw [eJ10] at h
      refine lv_iload_n hx hb dX6_cutWord_57 rfl (lv_at hl 0 rfl) ?_
      refine lv_iconst (v := 0) hx hb dX6_cutWord_58 (by decide) ?_
      obtain ⟨z13, hc12, h⟩ := bd_some h
      refine cMv (runV (As := [.int i11, .int x2, .int 0]) (rest := []) C (mX6_addToken l D a (q_t := q_t) (Q_t := Q_t) hc12 H.size) lk_V_6_29 okN_X6_addToken ⟨Nat.le_of_ble_eq_true rfl, Nat.le_of_ble_eq_true rfl⟩ ⟨rfl, rfl⟩ (preV (preM hK (P_of_map (wc := rc6 a q_t Q_t z_t) hP [0, 1, 2, 3] rfl) (hD.sub (ws' := rc6 a q_t Q_t z_t) [0, 1, 2, 3] (by decide) rfl)) (recvOf hK hP 0 rfl (ci := 6) rfl)) hl.1 rfl (Nat.le_of_ble_eq_true rfl) dX6_cutWord_59 ⟨Nat.le_of_ble_eq_true rfl, Nat.le_of_ble_eq_true rfl⟩) hP hD hS hA [0, 1, 2, 3] [4] [1, 2, 3, 4, 0] rfl rfl (by decide) (by decide) (fw := rc6 a q_t Q_t z13 ++ (ra0 a q_p1 n_p1 f_p1)) rfl (by decide) (fun H locs hP hD hS => ?_)
      have hP : va_P D classes (rc6 a q_t Q_t z13 ++ (ra0 a q_p1 n_p1 f_p1)) H := hP
      have hD : va_D A (rc6 a q_t Q_t z13 ++ (ra0 a q_p1 n_p1 f_p1)) := hD
      refine lv_iload hx hb dX6_cutWord_62 (lv_at hl 1 rfl) ?_
      exact rMi C rfl h (g := fun y => rc6 a q_t Q_t y.2 ++ (ra0 a q_p1 n_p1 f_p1)) (pr := fun y => y.1) hP hD hS dX6_cutWord_64
    refine lv_icmp_ne (tgt := 55) hx hb dX6_cutWord_42 (by decide) (fun c14 => ?_) (fun c14 => ?_)
    · have h := ite_f c14 h
      refine lv_iload hx hb dX6_cutWord_55 (lv_at hl 0 rfl) ?_
      exact hJ10 r9 _ _ ls h hP hD hS (lv_sub hl [3, 4] rfl)
    · have h := ite_t c14 h
      refine lv_aload_n hx hb dX6_cutWord_45 rfl (lv_at hl 2 rfl) ?_
      refine lv_iload_n hx hb dX6_cutWord_46 rfl (lv_at hl 3 rfl) ?_
      refine lv_iload hx hb dX6_cutWord_47 (lv_at hl 4 rfl) ?_
      obtain ⟨r16, hc15, h⟩ := bd_some h
      refine cRi (runS (As := [.ref q_p1, .int x2, .int i7]) (rest := [.ref q_t]) C (mX6_valueWord l D a (q_p0 := q_p1) hc15) lk_S_6_62 okN_X6_valueWord ⟨Nat.le_of_ble_eq_true rfl, Nat.le_of_ble_eq_true rfl⟩ ⟨rfl, rfl⟩ (preRs hK (P_of_map (wc := ra0 a q_p1 n_p1 f_p1) hP [4] rfl) ((hV.kept hS.2.1).narrow (fun _ h => h.elim))) hl.1 rfl (Nat.le_of_ble_eq_true rfl) dX6_cutWord_49 ⟨Nat.le_of_ble_eq_true rfl, Nat.le_of_ble_eq_true rfl⟩) ?_
      refine lv_goto (tgt := 57) hx hb dX6_cutWord_52 (by decide) ?_
      exact hJ10 r16 _ _ ls h hP hD hS (lv_sub hl [3, 4] rfl)

set_option maxHeartbeats 4000000 in
set_option maxRecDepth 100000 in
theorem mX6_cutToken (l : Launch) (D : va_G) (a : Nat → ClassId) {adK adV : Nat → Nat} {q_t : Nat} {q_p1 : Nat} {Q_t : Nat → Nat} {z_t : Sx} {n_p1 : Nat} {f_p1 : Nat → Int32} {x2 : Int32} {x3 : Int32} {y : Int32 × Sx} (h : fX6_cutToken z_t n_p1 f_p1 x2 x3 = some y) (sz : Nat) : CMsi (S := Unit) l MX6_cutToken 7 171 0 0 D a adK adV [.ref q_t, .ref q_p1, .int x2, .int x3] (rc6 a q_t Q_t z_t ++ (ra0 a q_p1 n_p1 f_p1)) sz (fun r _ => r = y.1) (fun _ => rc6 a q_t Q_t y.2 ++ (ra0 a q_p1 n_p1 f_p1)) := by
  unfold fX6_cutToken at h
  refine entMsi (by decide) (Nat.le_of_ble_eq_true rfl) ?_
  intro p e s m below meth c C hK A hA hP hD hV ls hl
  obtain ⟨hx, hb, hml, hown, hts, hr, hlocks, hnm⟩ := id C
  have hb : c.code = cX6_cutToken := hb
  have hown : s.vm.findClass RX6 = some m.cls := hown
  have hS : va_S A s.heap s.heap [] := va_S.rf
  have hl : lv_has ls 6 [(0, .ref q_t), (1, .ref q_p1), (2, .int x2), (3, .int x3)] := hl
  refine lv_aload_n hx hb dX6_cutToken_0 rfl (lv_at hl 1 rfl) ?_
  refine lv_iload_n hx hb dX6_cutToken_1 rfl (lv_at hl 2 rfl) ?_
  obtain ⟨r2, hc1, h⟩ := bd_some h
  refine cRi (runN (As := [.ref q_p1, .int x2]) (rest := []) C hK (mX8_at l D a (q_p0 := q_p1) hc1) lk_N_6_42 okN_X8_at ⟨Nat.le_of_ble_eq_true rfl, Nat.le_of_ble_eq_true rfl⟩ ⟨rfl, rfl⟩ (preR hK (P_of_map (wc := ra0 a q_p1 n_p1 f_p1) hP [4] rfl)) hl.1 rfl (Nat.le_of_ble_eq_true rfl) dX6_cutToken_2 ⟨Nat.le_of_ble_eq_true rfl, Nat.le_of_ble_eq_true rfl⟩) ?_
  refine lv_istore (lv' := [(4, .int r2), (0, .ref q_t), (1, .ref q_p1), (2, .int x2), (3, .int x3)]) hx hb dX6_cutToken_5 hl (by decide) rfl (fun ls hl => ?_)
  refine lv_iload hx hb dX6_cutToken_7 (lv_at hl 0 rfl) ?_
  refine lv_bipush (v := 32) hx hb dX6_cutToken_9 (by decide) ?_
  refine lv_icmp_ne (tgt := 18) hx hb dX6_cutToken_11 (by decide) (fun c3 => ?_) (fun c3 => ?_)
  · have h := ite_f c3 h
    refine lv_iload hx hb dX6_cutToken_18 (lv_at hl 0 rfl) ?_
    obtain ⟨r5, hc4, h⟩ := bd_some h
    refine cRi (runS (As := [.int r2]) (rest := []) C (mX6_isDigit l D a hc4) lk_S_6_46 okN_X6_isDigit ⟨Nat.le_of_ble_eq_true rfl, Nat.le_of_ble_eq_true rfl⟩ ⟨rfl, rfl⟩ (preR hK (P_of_map (wc := []) hP [] rfl)) hl.1 rfl (Nat.le_of_ble_eq_true rfl) dX6_cutToken_20 ⟨Nat.le_of_ble_eq_true rfl, Nat.le_of_ble_eq_true rfl⟩) ?_
    refine lv_if_eq (tgt := 34) hx hb dX6_cutToken_23 (by decide) (fun c6 => ?_) (fun c6 => ?_)
    · have h := ite_t c6 h
      refine lv_iload hx hb dX6_cutToken_34 (lv_at hl 0 rfl) ?_
      obtain ⟨r8, hc7, h⟩ := bd_some h
      refine cRi (runS (As := [.int r2]) (rest := []) C (mX6_isLetter l D a hc7) lk_S_6_53 okN_X6_isLetter ⟨Nat.le_of_ble_eq_true rfl, Nat.le_of_ble_eq_true rfl⟩ ⟨rfl, rfl⟩ (preR hK (P_of_map (wc := []) hP [] rfl)) hl.1 rfl (Nat.le_of_ble_eq_true rfl) dX6_cutToken_36 ⟨Nat.le_of_ble_eq_true rfl, Nat.le_of_ble_eq_true rfl⟩) ?_
      refine lv_if_eq (tgt := 50) hx hb dX6_cutToken_39 (by decide) (fun c9 => ?_) (fun c9 => ?_)
      · have h := ite_t c9 h
        refine lv_iload hx hb dX6_cutToken_50 (lv_at hl 0 rfl) ?_
        refine lv_bipush (v := 60) hx hb dX6_cutToken_52 (by decide) ?_
        obtain ⟨J10, eJ10, h⟩ := jn_some h
        have hJ10 : ∀ (i11 : Int32) (H : Heap) (locs : List Loc) (ls : Array Slot), J10 i11 = some y → va_P D classes (rc6 a q_t Q_t z_t ++ (ra0 a q_p1 n_p1 f_p1)) H → va_D A (rc6 a q_t Q_t z_t ++ (ra0 a q_p1 n_p1 f_p1)) → va_S A s.heap H locs → lv_has ls 6 [(0, .ref q_t), (2, .int x2), (4, .int r2)] → W p l e (rmM 7 0 0 171) s m #[.ref q_t, .ref q_p1, .int x2, .int x3] below meth c H locs 0 0 (MQ below (va_Qi (fun r (_ : Unit) => r = y.1) (Bw D A (fun _ => rc6 a q_t Q_t y.2 ++ (ra0 a q_p1 n_p1 f_p1))) A) #[.ref q_t, .ref q_p1, .int x2, .int x3] s 0 0 A) (F0 m 88 ls [.int i11]) := by
          intro i11 H locs ls h hP hD hS hl
          rw [eJ10] at h
          refine lv_istore (lv' := [(5, .int i11), (0, .ref q_t), (2, .int x2), (4, .int r2)]) hx hb dX6_cutToken_88 hl (by decide) rfl (fun ls hl => ?_)
          refine lv_iload hx hb dX6_cutToken_90 (lv_at hl 0 rfl) ?_
          refine lv_if_eq (tgt := 121) hx hb dX6_cutToken_92 (by decide) (fun c12 => ?_) (fun c12 => ?_)
          · have h := ite_t c12 h
            refine lv_aload_n hx hb dX6_cutToken_121 rfl (lv_at hl 1 rfl) ?_
            refine lv_iload hx hb dX6_cutToken_122 (lv_at hl 3 rfl) ?_
            refine lv_iload_n hx hb dX6_cutToken_124 rfl (lv_at hl 2 rfl) ?_
            refine lv_iconst (v := 0) hx hb dX6_cutToken_125 (by decide) ?_
            obtain ⟨z14, hc13, h⟩ := bd_some h
            refine cMv (runV (As := [.int r2, .int x2, .int 0]) (rest := []) C (mX6_addToken l D a (q_t := q_t) (Q_t := Q_t) hc13 H.size) lk_V_6_29 okN_X6_addToken ⟨Nat.le_of_ble_eq_true rfl, Nat.le_of_ble_eq_true rfl⟩ ⟨rfl, rfl⟩ (preV (preM hK (P_of_map (wc := rc6 a q_t Q_t z_t) hP [0, 1, 2, 3] rfl) (hD.sub (ws' := rc6 a q_t Q_t z_t) [0, 1, 2, 3] (by decide) rfl)) (recvOf hK hP 0 rfl (ci := 6) rfl)) hl.1 rfl (Nat.le_of_ble_eq_true rfl) dX6_cutToken_126 ⟨Nat.le_of_ble_eq_true rfl, Nat.le_of_ble_eq_true rfl⟩) hP hD hS hA [0, 1, 2, 3] [4] [1, 2, 3, 4, 0] rfl rfl (by decide) (by decide) (fw := rc6 a q_t Q_t z14 ++ (ra0 a q_p1 n_p1 f_p1)) rfl (by decide) (fun H locs hP hD hS => ?_)
            have hP : va_P D classes (rc6 a q_t Q_t z14 ++ (ra0 a q_p1 n_p1 f_p1)) H := hP
            have hD : va_D A (rc6 a q_t Q_t z14 ++ (ra0 a q_p1 n_p1 f_p1)) := hD
            refine lv_iload_n hx hb dX6_cutToken_129 rfl (lv_at hl 2 rfl) ?_
            refine lv_iconst (v := 1) hx hb dX6_cutToken_130 (by decide) ?_
            refine lv_iadd hx hb dX6_cutToken_131 ?_
            exact rMi C rfl h (g := fun y => rc6 a q_t Q_t y.2 ++ (ra0 a q_p1 n_p1 f_p1)) (pr := fun y => y.1) hP hD hS dX6_cutToken_132
          · have h := ite_f c12 h
            refine lv_aload_n hx hb dX6_cutToken_95 rfl (lv_at hl 1 rfl) ?_
            refine lv_iload hx hb dX6_cutToken_96 (lv_at hl 3 rfl) ?_
            refine lv_bipush (v := 60) hx hb dX6_cutToken_98 (by decide) ?_
            obtain ⟨J15, eJ15, h⟩ := jn_some h
            have hJ15 : ∀ (i16 : Int32) (H : Heap) (locs : List Loc) (ls : Array Slot), J15 i16 = some y → va_P D classes (rc6 a q_t Q_t z_t ++ (ra0 a q_p1 n_p1 f_p1)) H → va_D A (rc6 a q_t Q_t z_t ++ (ra0 a q_p1 n_p1 f_p1)) → va_S A s.heap H locs → lv_has ls 6 [(2, .int x2)] → W p l e (rmM 7 0 0 171) s m #[.ref q_t, .ref q_p1, .int x2, .int x3] below meth c H locs 0 0 (MQ below (va_Qi (fun r (_ : Unit) => r = y.1) (Bw D A (fun _ => rc6 a q_t Q_t y.2 ++ (ra0 a q_p1 n_p1 f_p1))) A) #[.ref q_t, .ref q_p1, .int x2, .int x3] s 0 0 A) (F0 m 112 ls [.int i16, .ref q_t]) := by
              intro i16 H locs ls h hP hD hS hl
              rw [eJ15] at h
              refine lv_iload_n hx hb dX6_cutToken_112 rfl (lv_at hl 0 rfl) ?_
              refine lv_iconst (v := 0) hx hb dX6_cutToken_113 (by decide) ?_
              obtain ⟨z18, hc17, h⟩ := bd_some h
              refine cMv (runV (As := [.int i16, .int x2, .int 0]) (rest := []) C (mX6_addToken l D a (q_t := q_t) (Q_t := Q_t) hc17 H.size) lk_V_6_29 okN_X6_addToken ⟨Nat.le_of_ble_eq_true rfl, Nat.le_of_ble_eq_true rfl⟩ ⟨rfl, rfl⟩ (preV (preM hK (P_of_map (wc := rc6 a q_t Q_t z_t) hP [0, 1, 2, 3] rfl) (hD.sub (ws' := rc6 a q_t Q_t z_t) [0, 1, 2, 3] (by decide) rfl)) (recvOf hK hP 0 rfl (ci := 6) rfl)) hl.1 rfl (Nat.le_of_ble_eq_true rfl) dX6_cutToken_114 ⟨Nat.le_of_ble_eq_true rfl, Nat.le_of_ble_eq_true rfl⟩) hP hD hS hA [0, 1, 2, 3] [4] [1, 2, 3, 4, 0] rfl rfl (by decide) (by decide) (fw := rc6 a q_t Q_t z18 ++ (ra0 a q_p1 n_p1 f_p1)) rfl (by decide) (fun H locs hP hD hS => ?_)
              have hP : va_P D classes (rc6 a q_t Q_t z18 ++ (ra0 a q_p1 n_p1 f_p1)) H := hP
              have hD : va_D A (rc6 a q_t Q_t z18 ++ (ra0 a q_p1 n_p1 f_p1)) := hD
              refine lv_iload_n hx hb dX6_cutToken_117 rfl (lv_at hl 0 rfl) ?_
              refine lv_iconst (v := 2) hx hb dX6_cutToken_118 (by decide) ?_
              refine lv_iadd hx hb dX6_cutToken_119 ?_
              exact rMi C rfl h (g := fun y => rc6 a q_t Q_t y.2 ++ (ra0 a q_p1 n_p1 f_p1)) (pr := fun y => y.1) hP hD hS dX6_cutToken_120
            refine lv_icmp_ne (tgt := 109) hx hb dX6_cutToken_100 (by decide) (fun c19 => ?_) (fun c19 => ?_)
            · have h := ite_f c19 h
              refine lv_sipush (v := 257) hx hb dX6_cutToken_109 (by decide) ?_
              exact hJ15 257 _ _ ls h hP hD hS (lv_sub hl [2] rfl)
            · have h := ite_t c19 h
              refine lv_sipush (v := 256) hx hb dX6_cutToken_103 (by decide) ?_
              refine lv_goto (tgt := 112) hx hb dX6_cutToken_106 (by decide) ?_
              exact hJ15 256 _ _ ls h hP hD hS (lv_sub hl [2] rfl)
        obtain ⟨J20, eJ20, h⟩ := jn_some h
        have hJ20 : ∀ (H : Heap) (locs : List Loc) (ls : Array Slot), J20 = some y → va_P D classes (rc6 a q_t Q_t z_t ++ (ra0 a q_p1 n_p1 f_p1)) H → va_D A (rc6 a q_t Q_t z_t ++ (ra0 a q_p1 n_p1 f_p1)) → va_S A s.heap H locs → lv_has ls 6 [(0, .ref q_t), (2, .int x2), (4, .int r2)] → W p l e (rmM 7 0 0 171) s m #[.ref q_t, .ref q_p1, .int x2, .int x3] below meth c H locs 0 0 (MQ below (va_Qi (fun r (_ : Unit) => r = y.1) (Bw D A (fun _ => rc6 a q_t Q_t y.2 ++ (ra0 a q_p1 n_p1 f_p1))) A) #[.ref q_t, .ref q_p1, .int x2, .int x3] s 0 0 A) (F0 m 87 ls []) := by
          intro H locs ls h hP hD hS hl
          rw [eJ20] at h
          refine lv_iconst (v := 0) hx hb dX6_cutToken_87 (by decide) ?_
          exact hJ10 0 _ _ ls h hP hD hS (lv_sub hl [0, 1, 2] rfl)
        obtain ⟨J21, eJ21, h⟩ := jn_some h
        have hJ21 : ∀ (H : Heap) (locs : List Loc) (ls : Array Slot), J21 = some y → va_P D classes (rc6 a q_t Q_t z_t ++ (ra0 a q_p1 n_p1 f_p1)) H → va_D A (rc6 a q_t Q_t z_t ++ (ra0 a q_p1 n_p1 f_p1)) → va_S A s.heap H locs → lv_has ls 6 [(0, .ref q_t), (1, .ref q_p1), (2, .int x2), (3, .int x3), (4, .int r2)] → W p l e (rmM 7 0 0 171) s m #[.ref q_t, .ref q_p1, .int x2, .int x3] below meth c H locs 0 0 (MQ below (va_Qi (fun r (_ : Unit) => r = y.1) (Bw D A (fun _ => rc6 a q_t Q_t y.2 ++ (ra0 a q_p1 n_p1 f_p1))) A) #[.ref q_t, .ref q_p1, .int x2, .int x3] s 0 0 A) (F0 m 64 ls []) := by
          intro H locs ls h hP hD hS hl
          rw [eJ21] at h
          refine lv_iload_n hx hb dX6_cutToken_64 rfl (lv_at hl 2 rfl) ?_
          refine lv_iconst (v := 1) hx hb dX6_cutToken_65 (by decide) ?_
          refine lv_iadd hx hb dX6_cutToken_66 ?_
          refine lv_iload_n hx hb dX6_cutToken_67 rfl (lv_at hl 3 rfl) ?_
          refine lv_icmp_ge (tgt := 87) hx hb dX6_cutToken_68 (by decide) (fun c22 => ?_) (fun c22 => ?_)
          · have h := ite_t c22 h
            exact hJ20 _ _ ls h hP hD hS (lv_sub hl [0, 2, 4] rfl)
          · have h := ite_f c22 h
            refine lv_aload_n hx hb dX6_cutToken_71 rfl (lv_at hl 1 rfl) ?_
            refine lv_iload_n hx hb dX6_cutToken_72 rfl (lv_at hl 2 rfl) ?_
            refine lv_iconst (v := 1) hx hb dX6_cutToken_73 (by decide) ?_
            refine lv_iadd hx hb dX6_cutToken_74 ?_
            obtain ⟨r24, hc23, h⟩ := bd_some h
            refine cRi (runN (As := [.ref q_p1, .int (x2 + 1)]) (rest := []) C hK (mX8_at l D a (q_p0 := q_p1) hc23) lk_N_6_42 okN_X8_at ⟨Nat.le_of_ble_eq_true rfl, Nat.le_of_ble_eq_true rfl⟩ ⟨rfl, rfl⟩ (preR hK (P_of_map (wc := ra0 a q_p1 n_p1 f_p1) hP [4] rfl)) hl.1 rfl (Nat.le_of_ble_eq_true rfl) dX6_cutToken_75 ⟨Nat.le_of_ble_eq_true rfl, Nat.le_of_ble_eq_true rfl⟩) ?_
            refine lv_bipush (v := 61) hx hb dX6_cutToken_78 (by decide) ?_
            refine lv_icmp_ne (tgt := 87) hx hb dX6_cutToken_80 (by decide) (fun c25 => ?_) (fun c25 => ?_)
            · have h := ite_f c25 h
              exact hJ20 _ _ ls h hP hD hS (lv_sub hl [0, 2, 4] rfl)
            · have h := ite_t c25 h
              refine lv_iconst (v := 1) hx hb dX6_cutToken_83 (by decide) ?_
              refine lv_goto (tgt := 88) hx hb dX6_cutToken_84 (by decide) ?_
              exact hJ10 1 _ _ ls h hP hD hS (lv_sub hl [0, 2, 4] rfl)
        refine lv_icmp_eq (tgt := 64) hx hb dX6_cutToken_54 (by decide) (fun c26 => ?_) (fun c26 => ?_)
        · have h := ite_t c26 h
          exact hJ21 _ _ ls h hP hD hS (lv_sub hl [1, 2, 3, 4, 0] rfl)
        · have h := ite_f c26 h
          refine lv_iload hx hb dX6_cutToken_57 (lv_at hl 0 rfl) ?_
          refine lv_bipush (v := 62) hx hb dX6_cutToken_59 (by decide) ?_
          refine lv_icmp_ne (tgt := 87) hx hb dX6_cutToken_61 (by decide) (fun c27 => ?_) (fun c27 => ?_)
          · have h := ite_f c27 h
            exact hJ20 _ _ ls h hP hD hS (lv_sub hl [1, 3, 0] rfl)
          · have h := ite_t c27 h
            exact hJ21 _ _ ls h hP hD hS (lv_sub hl [1, 2, 3, 4, 0] rfl)
      · have h := ite_f c9 h
        refine lv_aload_n hx hb dX6_cutToken_42 rfl (lv_at hl 1 rfl) ?_
        refine lv_aload_n hx hb dX6_cutToken_43 rfl (lv_at hl 2 rfl) ?_
        refine lv_iload_n hx hb dX6_cutToken_44 rfl (lv_at hl 3 rfl) ?_
        refine lv_iload_n hx hb dX6_cutToken_45 rfl (lv_at hl 4 rfl) ?_
        obtain ⟨r29, z30, hc28, h⟩ := bd2_some h
        refine cWi (runV (As := [.ref q_p1, .int x2, .int x3]) (rest := []) C (mX6_cutWord l D a (q_t := q_t) (q_p1 := q_p1) (Q_t := Q_t) hc28 s.heap.size) lk_V_6_56 okN_X6_cutWord ⟨Nat.le_of_ble_eq_true rfl, Nat.le_of_ble_eq_true rfl⟩ ⟨rfl, rfl⟩ (preV (preMs hK hP hD ((hV.kept hS.2.1).narrow (free_all hD hS hA))) (recvOf hK hP 0 rfl (ci := 6) rfl)) hl.1 rfl (Nat.le_of_ble_eq_true rfl) dX6_cutToken_46 ⟨Nat.le_of_ble_eq_true rfl, Nat.le_of_ble_eq_true rfl⟩) hP hD hS hA (fun H locs hP hD hS => ?_)
        have hP : va_P D classes (rc6 a q_t Q_t z30 ++ (ra0 a q_p1 n_p1 f_p1)) H := hP
        have hD : va_D A (rc6 a q_t Q_t z30 ++ (ra0 a q_p1 n_p1 f_p1)) := hD
        exact rMi C rfl h (g := fun y => rc6 a q_t Q_t y.2 ++ (ra0 a q_p1 n_p1 f_p1)) (pr := fun y => y.1) hP hD hS dX6_cutToken_49
    · have h := ite_f c6 h
      refine lv_aload_n hx hb dX6_cutToken_26 rfl (lv_at hl 1 rfl) ?_
      refine lv_aload_n hx hb dX6_cutToken_27 rfl (lv_at hl 2 rfl) ?_
      refine lv_iload_n hx hb dX6_cutToken_28 rfl (lv_at hl 3 rfl) ?_
      refine lv_iload_n hx hb dX6_cutToken_29 rfl (lv_at hl 4 rfl) ?_
      obtain ⟨r32, z33, hc31, h⟩ := bd2_some h
      refine cWi (runV (As := [.ref q_p1, .int x2, .int x3]) (rest := []) C (mX6_cutNumber l D a (q_t := q_t) (q_p1 := q_p1) (Q_t := Q_t) hc31 s.heap.size) lk_V_6_50 okN_X6_cutNumber ⟨Nat.le_of_ble_eq_true rfl, Nat.le_of_ble_eq_true rfl⟩ ⟨rfl, rfl⟩ (preV (preM hK hP hD) (recvOf hK hP 0 rfl (ci := 6) rfl)) hl.1 rfl (Nat.le_of_ble_eq_true rfl) dX6_cutToken_30 ⟨Nat.le_of_ble_eq_true rfl, Nat.le_of_ble_eq_true rfl⟩) hP hD hS hA (fun H locs hP hD hS => ?_)
      have hP : va_P D classes (rc6 a q_t Q_t z33 ++ (ra0 a q_p1 n_p1 f_p1)) H := hP
      have hD : va_D A (rc6 a q_t Q_t z33 ++ (ra0 a q_p1 n_p1 f_p1)) := hD
      exact rMi C rfl h (g := fun y => rc6 a q_t Q_t y.2 ++ (ra0 a q_p1 n_p1 f_p1)) (pr := fun y => y.1) hP hD hS dX6_cutToken_33
  · have h := ite_t c3 h
    refine lv_iload_n hx hb dX6_cutToken_14 rfl (lv_at hl 3 rfl) ?_
    refine lv_iconst (v := 1) hx hb dX6_cutToken_15 (by decide) ?_
    refine lv_iadd hx hb dX6_cutToken_16 ?_
    exact rMi C rfl h (g := fun y => rc6 a q_t Q_t y.2 ++ (ra0 a q_p1 n_p1 f_p1)) (pr := fun y => y.1) hP hD hS dX6_cutToken_17

set_option maxHeartbeats 4000000 in
set_option maxRecDepth 100000 in
theorem wX6_open_10 {p : Program} {l : Launch} {e : Env} {s : State} {m : MethodId} {below : List Frame} {meth : Method} {c : Code} {D : va_G} {a : Nat → ClassId} {A : Nat → Prop} {adK adV : Nat → Nat} {q_t : Nat} {q_p1 : Nat} {Q_t : Nat → Nat} {n_p1 : Nat} {f_p1 : Nat → Int32} {x20 : Int32} {x2 : Int32} (C : Cx p s m #[.ref q_t, .ref q_p1, .int x20] meth c MX6_open) (hK : KK D a s) (hA : ∀ q, s.heap.size ≤ q → A q) (hV : VV adK adV A s s.heap) {y : Sx} {k37 : Sx → Option (Sx)} (hk37 : ∀ (z_tk : Sx) (H : Heap) (locs : List Loc) (ls : Array Slot), k37 z_tk = some y → va_P D classes (rc6 a q_t Q_t z_tk ++ (ra0 a q_p1 n_p1 f_p1)) H → va_D A (rc6 a q_t Q_t z_tk ++ (ra0 a q_p1 n_p1 f_p1)) → va_S A s.heap H locs → lv_has ls 5 [(0, .ref q_t), (2, .int x2)] → W p l e (rmM 8 0 0 196) s m #[.ref q_t, .ref q_p1, .int x20] below meth c H locs 0 0 (MQ below (va_Qv (fun (_ : Unit) => True) (Bw D A (fun _ => rc6 a q_t Q_t y ++ (ra0 a q_p1 n_p1 f_p1))) A) #[.ref q_t, .ref q_p1, .int x20] s 0 0 A) (F0 m 37 ls [])) : ∀ (n : Nat) (z_t : Sx) (x3 : Int32) (x4 : Int32) (H : Heap) (locs : List Loc) (ls : Array Slot), lX6_open_10 k37 n_p1 f_p1 x2 n z_t x3 x4 = some y → va_P D classes (rc6 a q_t Q_t z_t ++ (ra0 a q_p1 n_p1 f_p1)) H → va_D A (rc6 a q_t Q_t z_t ++ (ra0 a q_p1 n_p1 f_p1)) → va_S A s.heap H locs → lv_has ls 5 [(0, .ref q_t), (1, .ref q_p1), (2, .int x2), (3, .int x3), (4, .int x4)] → W p l e (rmM 8 0 0 196) s m #[.ref q_t, .ref q_p1, .int x20] below meth c H locs 0 0 (MQ below (va_Qv (fun (_ : Unit) => True) (Bw D A (fun _ => rc6 a q_t Q_t y ++ (ra0 a q_p1 n_p1 f_p1))) A) #[.ref q_t, .ref q_p1, .int x20] s 0 0 A) (F0 m 10 ls []) := by
  obtain ⟨hx, hb, hml, hown, hts, hr, hlocks, hnm⟩ := id C
  have hb : c.code = cX6_open := hb
  have hown : s.vm.findClass RX6 = some m.cls := hown
  intro n
  induction n with
  | zero => intro z_t x3 x4 H locs ls h; rw [lX6_open_10] at h; cases h
  | succ n ih =>
    intro z_t x3 x4 H locs ls h hP hD hS hl
    rw [lX6_open_10] at h
    refine lv_iload hx hb dX6_open_10 (lv_at hl 4 rfl) ?_
    refine lv_sipush (v := 400) hx hb dX6_open_12 (by decide) ?_
    refine lv_icmp_ge (tgt := 37) hx hb dX6_open_15 (by decide) (fun c1 => ?_) (fun c1 => ?_)
    · have h := ite_t c1 h
      exact hk37 z_t _ _ ls h hP hD hS (lv_sub hl [0, 2] rfl)
    · have h := ite_f c1 h
      refine lv_iload_n hx hb dX6_open_18 rfl (lv_at hl 3 rfl) ?_
      refine lv_iload_n hx hb dX6_open_19 rfl (lv_at hl 2 rfl) ?_
      refine lv_icmp_ge (tgt := 37) hx hb dX6_open_20 (by decide) (fun c2 => ?_) (fun c2 => ?_)
      · have h := ite_t c2 h
        exact hk37 z_t _ _ ls h hP hD hS (lv_sub hl [0, 2] rfl)
      · have h := ite_f c2 h
        refine lv_aload_n hx hb dX6_open_23 rfl (lv_at hl 0 rfl) ?_
        refine lv_aload_n hx hb dX6_open_24 rfl (lv_at hl 1 rfl) ?_
        refine lv_iload_n hx hb dX6_open_25 rfl (lv_at hl 3 rfl) ?_
        refine lv_iload_n hx hb dX6_open_26 rfl (lv_at hl 2 rfl) ?_
        obtain ⟨r4, z5, hc3, h⟩ := bd2_some h
        refine cWi (runV (As := [.ref q_p1, .int x3, .int x2]) (rest := []) C (mX6_cutToken l D a (q_t := q_t) (q_p1 := q_p1) (Q_t := Q_t) hc3 H.size) lk_V_6_25 okN_X6_cutToken ⟨Nat.le_of_ble_eq_true rfl, Nat.le_of_ble_eq_true rfl⟩ ⟨rfl, rfl⟩ (preV (preMs hK hP hD ((hV.kept hS.2.1).narrow (free_all hD hS hA))) (recvOf hK hP 0 rfl (ci := 6) rfl)) hl.1 rfl (Nat.le_of_ble_eq_true rfl) dX6_open_27 ⟨Nat.le_of_ble_eq_true rfl, Nat.le_of_ble_eq_true rfl⟩) hP hD hS hA (fun H locs hP hD hS => ?_)
        have hP : va_P D classes (rc6 a q_t Q_t z5 ++ (ra0 a q_p1 n_p1 f_p1)) H := hP
        have hD : va_D A (rc6 a q_t Q_t z5 ++ (ra0 a q_p1 n_p1 f_p1)) := hD
        refine lv_istore_n (lv' := [(3, .int r4), (0, .ref q_t), (1, .ref q_p1), (2, .int x2), (4, .int x4)]) hx hb dX6_open_30 rfl hl (by decide) rfl (fun ls hl => ?_)
        refine lv_iinc (v := x4 + 1) (lv' := [(4, .int (x4 + 1)), (3, .int r4), (0, .ref q_t), (1, .ref q_p1), (2, .int x2)]) hx hb dX6_open_31 hl (k := 4) rfl rfl (by decide) rfl (fun ls hl => ?_)
        refine lv_goto (tgt := 10) hx hb dX6_open_34 (by decide) ?_
        exact ih z5 r4 (x4 + 1) _ _ ls h hP hD hS (lv_sub hl [2, 3, 4, 1, 0] rfl)

set_option maxHeartbeats 4000000 in
set_option maxRecDepth 100000 in
theorem mX6_open (l : Launch) (D : va_G) (a : Nat → ClassId) {adK adV : Nat → Nat} {q_t : Nat} {q_p1 : Nat} {Q_t : Nat → Nat} {z_t : Sx} {n_p1 : Nat} {f_p1 : Nat → Int32} {x2 : Int32} {y : Sx} (h : fX6_open z_t n_p1 f_p1 x2 = some y) (sz : Nat) : CMsv (S := Unit) l MX6_open 8 196 0 0 D a adK adV [.ref q_t, .ref q_p1, .int x2] (rc6 a q_t Q_t z_t ++ (ra0 a q_p1 n_p1 f_p1)) sz (fun _ => True) (fun _ => rc6 a q_t Q_t y ++ (ra0 a q_p1 n_p1 f_p1)) := by
  unfold fX6_open at h
  refine entMsv (by decide) (Nat.le_of_ble_eq_true rfl) ?_
  intro p e s m below meth c C hK A hA hP hD hV ls hl
  obtain ⟨hx, hb, hml, hown, hts, hr, hlocks, hnm⟩ := id C
  have hb : c.code = cX6_open := hb
  have hown : s.vm.findClass RX6 = some m.cls := hown
  have hS : va_S A s.heap s.heap [] := va_S.rf
  have hl : lv_has ls 5 [(0, .ref q_t), (1, .ref q_p1), (2, .int x2)] := hl
  refine lv_aload_n hx hb dX6_open_0 rfl (lv_at hl 0 rfl) ?_
  refine lv_iconst (v := 0) hx hb dX6_open_1 (by decide) ?_
  refine va_put (D := D) (v := .int 0) (C := RX6) (T := TX6) (N := 9) hx hb hts iX6 tyX6 tyX6_ok nmX6 hown hK.1 hP hD hS 0 rfl rfl 3 (by decide) (hts _ t_211) (fun _ h9 => h9) rfl (tyX6_ok 3 (by decide)) rfl rfl (Nat.le_of_ble_eq_true rfl) dX6_open_2 (fun H locs hP hD hS => ?_)
  have hP : va_P D classes (rc6 a q_t Q_t (sI z_t 3 0) ++ (ra0 a q_p1 n_p1 f_p1)) H := hP
  have hD : va_D A (rc6 a q_t Q_t (sI z_t 3 0) ++ (ra0 a q_p1 n_p1 f_p1)) := hD
  refine lv_iconst (v := 0) hx hb dX6_open_5 (by decide) ?_
  refine lv_istore_n (lv' := [(3, .int 0), (0, .ref q_t), (1, .ref q_p1), (2, .int x2)]) hx hb dX6_open_6 rfl hl (by decide) rfl (fun ls hl => ?_)
  refine lv_iconst (v := 0) hx hb dX6_open_7 (by decide) ?_
  refine lv_istore (lv' := [(4, .int 0), (3, .int 0), (0, .ref q_t), (1, .ref q_p1), (2, .int x2)]) hx hb dX6_open_8 hl (by decide) rfl (fun ls hl => ?_)
  refine wX6_open_10 C hK hA hV ?_ FU (sI z_t 3 0) 0 0 _ _ ls h hP hD hS (lv_sub hl [2, 3, 4, 1, 0] rfl)
  · intro z6 H locs ls h hP hD hS hl
    refine lv_aload_n hx hb dX6_open_37 rfl (lv_at hl 0 rfl) ?_
    refine lv_sipush (v := 300) hx hb dX6_open_38 (by decide) ?_
    refine lv_iload_n hx hb dX6_open_41 rfl (lv_at hl 1 rfl) ?_
    refine lv_iconst (v := 0) hx hb dX6_open_42 (by decide) ?_
    obtain ⟨z8, hc7, h⟩ := bd_some h
    refine cMv (runV (As := [.int 300, .int x2, .int 0]) (rest := []) C (mX6_addToken l D a (q_t := q_t) (Q_t := Q_t) hc7 H.size) lk_V_6_29 okN_X6_addToken ⟨Nat.le_of_ble_eq_true rfl, Nat.le_of_ble_eq_true rfl⟩ ⟨rfl, rfl⟩ (preV (preM hK (P_of_map (wc := rc6 a q_t Q_t z6) hP [0, 1, 2, 3] rfl) (hD.sub (ws' := rc6 a q_t Q_t z6) [0, 1, 2, 3] (by decide) rfl)) (recvOf hK hP 0 rfl (ci := 6) rfl)) hl.1 rfl (Nat.le_of_ble_eq_true rfl) dX6_open_43 ⟨Nat.le_of_ble_eq_true rfl, Nat.le_of_ble_eq_true rfl⟩) hP hD hS hA [0, 1, 2, 3] [4] [1, 2, 3, 4, 0] rfl rfl (by decide) (by decide) (fw := rc6 a q_t Q_t z8 ++ (ra0 a q_p1 n_p1 f_p1)) rfl (by decide) (fun H locs hP hD hS => ?_)
    have hP : va_P D classes (rc6 a q_t Q_t z8 ++ (ra0 a q_p1 n_p1 f_p1)) H := hP
    have hD : va_D A (rc6 a q_t Q_t z8 ++ (ra0 a q_p1 n_p1 f_p1)) := hD
    refine lv_aload_n hx hb dX6_open_46 rfl (lv_at hl 0 rfl) ?_
    refine lv_iconst (v := 0) hx hb dX6_open_47 (by decide) ?_
    refine va_put (D := D) (v := .int 0) (C := RX6) (T := TX6) (N := 9) hx hb hts iX6 tyX6 tyX6_ok nmX6 hown hK.1 hP hD hS 0 rfl rfl 8 (by decide) (hts _ t_219) (fun _ h9 => h9) rfl (tyX6_ok 8 (by decide)) rfl rfl (Nat.le_of_ble_eq_true rfl) dX6_open_48 (fun H locs hP hD hS => ?_)
    have hP : va_P D classes (rc6 a q_t Q_t (sI z8 8 0) ++ (ra0 a q_p1 n_p1 f_p1)) H := hP
    have hD : va_D A (rc6 a q_t Q_t (sI z8 8 0) ++ (ra0 a q_p1 n_p1 f_p1)) := hD
    refine lv_aload_n hx hb dX6_open_51 rfl (lv_at hl 0 rfl) ?_
    refine lv_iconst (v := 0) hx hb dX6_open_52 (by decide) ?_
    refine va_put (D := D) (v := .int 0) (C := RX6) (T := TX6) (N := 9) hx hb hts iX6 tyX6 tyX6_ok nmX6 hown hK.1 hP hD hS 0 rfl rfl 4 (by decide) (hts _ t_212) (fun _ h9 => h9) rfl (tyX6_ok 4 (by decide)) rfl rfl (Nat.le_of_ble_eq_true rfl) dX6_open_53 (fun H locs hP hD hS => ?_)
    have hP : va_P D classes (rc6 a q_t Q_t (sI (sI z8 8 0) 4 0) ++ (ra0 a q_p1 n_p1 f_p1)) H := hP
    have hD : va_D A (rc6 a q_t Q_t (sI (sI z8 8 0) 4 0) ++ (ra0 a q_p1 n_p1 f_p1)) := hD
    refine lv_aload_n hx hb dX6_open_56 rfl (lv_at hl 0 rfl) ?_
    obtain ⟨z10, hc9, h⟩ := bd_some h
    refine cMv (runV (As := []) (rest := []) C (mX6_step l D a (q_t := q_t) (Q_t := Q_t) hc9 H.size) lk_V_6_39 okN_X6_step ⟨Nat.le_of_ble_eq_true rfl, Nat.le_of_ble_eq_true rfl⟩ ⟨rfl, rfl⟩ (preV (preM hK (P_of_map (wc := rc6 a q_t Q_t (sI (sI z8 8 0) 4 0)) hP [0, 1, 2, 3] rfl) (hD.sub (ws' := rc6 a q_t Q_t (sI (sI z8 8 0) 4 0)) [0, 1, 2, 3] (by decide) rfl)) (recvOf hK hP 0 rfl (ci := 6) rfl)) hl.1 rfl (Nat.le_of_ble_eq_true rfl) dX6_open_57 ⟨Nat.le_of_ble_eq_true rfl, Nat.le_of_ble_eq_true rfl⟩) hP hD hS hA [0, 1, 2, 3] [4] [1, 2, 3, 4, 0] rfl rfl (by decide) (by decide) (fw := rc6 a q_t Q_t z10 ++ (ra0 a q_p1 n_p1 f_p1)) rfl (by decide) (fun H locs hP hD hS => ?_)
    have hP : va_P D classes (rc6 a q_t Q_t z10 ++ (ra0 a q_p1 n_p1 f_p1)) H := hP
    have hD : va_D A (rc6 a q_t Q_t z10 ++ (ra0 a q_p1 n_p1 f_p1)) := hD
    exact rMv C rfl h (g := fun y => rc6 a q_t Q_t y ++ (ra0 a q_p1 n_p1 f_p1)) hP hD hS dX6_open_60

set_option maxHeartbeats 4000000 in
set_option maxRecDepth 100000 in
theorem mX6_takeNumber (l : Launch) (D : va_G) (a : Nat → ClassId) {q_t : Nat} {Q_t : Nat → Nat} {z_t : Sx} {x1 : Int32} {x2 : Int32} {y : Int32 × Sx} (h : fX6_takeNumber z_t x1 x2 = some y) (sz : Nat) : CMi (S := Unit) l MX6_takeNumber 1 21 0 0 D a [.ref q_t, .int x1, .int x2] (rc6 a q_t Q_t z_t) sz (fun r _ => r = y.1) (fun _ => rc6 a q_t Q_t y.2) := by
  unfold fX6_takeNumber at h
  refine entMi (by decide) (Nat.le_of_ble_eq_true rfl) ?_
  intro p e s m below meth c C hK A hA hP hD ls hl
  obtain ⟨hx, hb, hml, hown, hts, hr, hlocks, hnm⟩ := id C
  have hb : c.code = cX6_takeNumber := hb
  have hown : s.vm.findClass RX6 = some m.cls := hown
  have hS : va_S A s.heap s.heap [] := va_S.rf
  have hl : lv_has ls 4 [(0, .ref q_t), (1, .int x1), (2, .int x2)] := hl
  refine lv_aload_n hx hb dX6_takeNumber_0 rfl (lv_at hl 0 rfl) ?_
  refine va_get (D := D) (v := .int (gI z_t 7)) (C := RX6) (T := TX6) (N := 9) hx hb hts iX6 hown hK.1 hP 0 rfl rfl 7 (by decide) (hts _ t_218) (fun _ h9 => h9) rfl dX6_takeNumber_1 ?_
  refine lv_istore_n (lv' := [(3, .int (gI z_t 7)), (0, .ref q_t), (1, .int x1), (2, .int x2)]) hx hb dX6_takeNumber_4 rfl hl (by decide) rfl (fun ls hl => ?_)
  refine lv_aload_n hx hb dX6_takeNumber_5 rfl (lv_at hl 1 rfl) ?_
  refine va_get (D := D) (v := .int (gI z_t 8)) (C := RX6) (T := TX6) (N := 9) hx hb hts iX6 hown hK.1 hP 0 rfl rfl 8 (by decide) (hts _ t_219) (fun _ h9 => h9) rfl dX6_takeNumber_6 ?_
  refine lv_if_eq (tgt := 14) hx hb dX6_takeNumber_9 (by decide) (fun c1 => ?_) (fun c1 => ?_)
  · have h := ite_t c1 h
    refine lv_aload_n hx hb dX6_takeNumber_14 rfl (lv_at hl 1 rfl) ?_
    refine va_get (D := D) (v := .int (gI z_t 5)) (C := RX6) (T := TX6) (N := 9) hx hb hts iX6 hown hK.1 hP 0 rfl rfl 5 (by decide) (hts _ t_215) (fun _ h9 => h9) rfl dX6_takeNumber_15 ?_
    refine lv_sipush (v := 301) hx hb dX6_takeNumber_18 (by decide) ?_
    obtain ⟨J2, eJ2, h⟩ := jn_some h
    have hJ2 : ∀ (H : Heap) (locs : List Loc) (ls : Array Slot), J2 = some y → va_P D classes (rc6 a q_t Q_t z_t) H → va_D A (rc6 a q_t Q_t z_t) → va_S A s.heap H locs → lv_has ls 4 [(0, .ref q_t), (3, .int (gI z_t 7))] → W p l e (rmM 1 0 0 21) s m #[.ref q_t, .int x1, .int x2] below meth c H locs 0 0 (MQ below (va_Qi (fun r (_ : Unit) => r = y.1) (Bw D A (fun _ => rc6 a q_t Q_t y.2)) A) #[.ref q_t, .int x1, .int x2] s 0 0 A) (F0 m 41 ls []) := by
      intro H locs ls h hP hD hS hl
      rw [eJ2] at h
      refine lv_aload_n hx hb dX6_takeNumber_41 rfl (lv_at hl 0 rfl) ?_
      refine lv_aload_n hx hb dX6_takeNumber_42 rfl (lv_at hl 0 rfl) ?_
      refine va_get (D := D) (v := .int (gI z_t 5)) (C := RX6) (T := TX6) (N := 9) hx hb hts iX6 hown hK.1 hP 0 rfl rfl 5 (by decide) (hts _ t_215) (fun _ h9 => h9) rfl dX6_takeNumber_43 ?_
      refine lv_sipush (v := 301) hx hb dX6_takeNumber_46 (by decide) ?_
      obtain ⟨J3, eJ3, h⟩ := jn_some h
      have hJ3 : ∀ (i4 : Int32) (H : Heap) (locs : List Loc) (ls : Array Slot), J3 i4 = some y → va_P D classes (rc6 a q_t Q_t z_t) H → va_D A (rc6 a q_t Q_t z_t) → va_S A s.heap H locs → lv_has ls 4 [(3, .int (gI z_t 7))] → W p l e (rmM 1 0 0 21) s m #[.ref q_t, .int x1, .int x2] below meth c H locs 0 0 (MQ below (va_Qi (fun r (_ : Unit) => r = y.1) (Bw D A (fun _ => rc6 a q_t Q_t y.2)) A) #[.ref q_t, .int x1, .int x2] s 0 0 A) (F0 m 67 ls [.int i4, .ref q_t]) := by
        intro i4 H locs ls h hP hD hS hl
        rw [eJ3] at h
        obtain ⟨z6, hc5, h⟩ := bd_some h
        refine cWv (runV (As := [.int i4]) (rest := []) C (mX6_fail l D a (q_t := q_t) (Q_t := Q_t) hc5 H.size) lk_V_6_121 okN_X6_fail ⟨Nat.le_of_ble_eq_true rfl, Nat.le_of_ble_eq_true rfl⟩ ⟨rfl, rfl⟩ (preV (preM hK hP hD) (recvOf hK hP 0 rfl (ci := 6) rfl)) hl.1 rfl (Nat.le_of_ble_eq_true rfl) dX6_takeNumber_67 ⟨Nat.le_of_ble_eq_true rfl, Nat.le_of_ble_eq_true rfl⟩) hP hD hS hA (fun H locs hP hD hS => ?_)
        have hP : va_P D classes (rc6 a q_t Q_t z6) H := hP
        have hD : va_D A (rc6 a q_t Q_t z6) := hD
        refine lv_iload_n hx hb dX6_takeNumber_70 rfl (lv_at hl 0 rfl) ?_
        exact rMi C rfl h (g := fun y => rc6 a q_t Q_t y.2) (pr := fun y => y.1) hP hD hS dX6_takeNumber_71
      obtain ⟨J7, eJ7, h⟩ := jn_some h
      have hJ7 : ∀ (H : Heap) (locs : List Loc) (ls : Array Slot), J7 = some y → va_P D classes (rc6 a q_t Q_t z_t) H → va_D A (rc6 a q_t Q_t z_t) → va_S A s.heap H locs → lv_has ls 4 [(3, .int (gI z_t 7))] → W p l e (rmM 1 0 0 21) s m #[.ref q_t, .int x1, .int x2] below meth c H locs 0 0 (MQ below (va_Qi (fun r (_ : Unit) => r = y.1) (Bw D A (fun _ => rc6 a q_t Q_t y.2)) A) #[.ref q_t, .int x1, .int x2] s 0 0 A) (F0 m 62 ls [.ref q_t]) := by
        intro H locs ls h hP hD hS hl
        rw [eJ7] at h
        refine lv_iconst (v := 1) hx hb dX6_takeNumber_62 (by decide) ?_
        refine lv_goto (tgt := 67) hx hb dX6_takeNumber_63 (by decide) ?_
        exact hJ3 1 _ _ ls h hP hD hS (lv_sub hl [0] rfl)
      refine lv_icmp_eq (tgt := 62) hx hb dX6_takeNumber_49 (by decide) (fun c8 => ?_) (fun c8 => ?_)
      · have h := ite_t c8 h
        exact hJ7 _ _ ls h hP hD hS (lv_sub hl [1] rfl)
      · have h := ite_f c8 h
        refine lv_aload_n hx hb dX6_takeNumber_52 rfl (lv_at hl 0 rfl) ?_
        refine va_get (D := D) (v := .int (gI z_t 5)) (C := RX6) (T := TX6) (N := 9) hx hb hts iX6 hown hK.1 hP 0 rfl rfl 5 (by decide) (hts _ t_215) (fun _ h9 => h9) rfl dX6_takeNumber_53 ?_
        refine lv_sipush (v := 302) hx hb dX6_takeNumber_56 (by decide) ?_
        refine lv_icmp_ne (tgt := 66) hx hb dX6_takeNumber_59 (by decide) (fun c9 => ?_) (fun c9 => ?_)
        · have h := ite_f c9 h
          refine lv_iconst (v := 0) hx hb dX6_takeNumber_66 (by decide) ?_
          exact hJ3 0 _ _ ls h hP hD hS (lv_sub hl [1] rfl)
        · have h := ite_t c9 h
          exact hJ7 _ _ ls h hP hD hS (lv_sub hl [1] rfl)
    refine lv_icmp_ne (tgt := 41) hx hb dX6_takeNumber_21 (by decide) (fun c10 => ?_) (fun c10 => ?_)
    · have h := ite_f c10 h
      exact hJ2 _ _ ls h hP hD hS (lv_sub hl [1, 0] rfl)
    · have h := ite_t c10 h
      refine lv_iload_n hx hb dX6_takeNumber_24 rfl (lv_at hl 0 rfl) ?_
      refine lv_iload_n hx hb dX6_takeNumber_25 rfl (lv_at hl 2 rfl) ?_
      refine lv_icmp_lt (tgt := 41) hx hb dX6_takeNumber_26 (by decide) (fun c11 => ?_) (fun c11 => ?_)
      · have h := ite_t c11 h
        exact hJ2 _ _ ls h hP hD hS (lv_sub hl [1, 0] rfl)
      · have h := ite_f c11 h
        refine lv_iload_n hx hb dX6_takeNumber_29 rfl (lv_at hl 0 rfl) ?_
        refine lv_iload_n hx hb dX6_takeNumber_30 rfl (lv_at hl 3 rfl) ?_
        refine lv_icmp_gt (tgt := 41) hx hb dX6_takeNumber_31 (by decide) (fun c12 => ?_) (fun c12 => ?_)
        · have h := ite_t c12 h
          exact hJ2 _ _ ls h hP hD hS (lv_sub hl [1, 0] rfl)
        · have h := ite_f c12 h
          refine lv_aload_n hx hb dX6_takeNumber_34 rfl (lv_at hl 1 rfl) ?_
          obtain ⟨z14, hc13, h⟩ := bd_some h
          refine cWv (runV (As := []) (rest := []) C (mX6_step l D a (q_t := q_t) (Q_t := Q_t) hc13 s.heap.size) lk_V_6_39 okN_X6_step ⟨Nat.le_of_ble_eq_true rfl, Nat.le_of_ble_eq_true rfl⟩ ⟨rfl, rfl⟩ (preV (preM hK hP hD) (recvOf hK hP 0 rfl (ci := 6) rfl)) hl.1 rfl (Nat.le_of_ble_eq_true rfl) dX6_takeNumber_35 ⟨Nat.le_of_ble_eq_true rfl, Nat.le_of_ble_eq_true rfl⟩) hP hD hS hA (fun H locs hP hD hS => ?_)
          have hP : va_P D classes (rc6 a q_t Q_t z14) H := hP
          have hD : va_D A (rc6 a q_t Q_t z14) := hD
          refine lv_goto (tgt := 70) hx hb dX6_takeNumber_38 (by decide) ?_
          refine lv_iload_n hx hb dX6_takeNumber_70 rfl (lv_at hl 0 rfl) ?_
          exact rMi C rfl h (g := fun y => rc6 a q_t Q_t y.2) (pr := fun y => y.1) hP hD hS dX6_takeNumber_71
  · have h := ite_f c1 h
    refine lv_iconst (v := 0) hx hb dX6_takeNumber_12 (by decide) ?_
    exact rMi C rfl h (g := fun y => rc6 a q_t Q_t y.2) (pr := fun y => y.1) hP hD hS dX6_takeNumber_13

set_option maxHeartbeats 4000000 in
set_option maxRecDepth 100000 in
theorem wX7_couldBeFound_5 {p : Program} {l : Launch} {e : Env} {s : State} {m : MethodId} {below : List Frame} {meth : Method} {c : Code} {D : va_G} {a : Nat → ClassId} {q_t : Nat} {Q_t : Nat → Nat} {z_t : Sx} {x10 : Int32} {x20 : Int32} {x1 : Int32} {x2 : Int32} (C : Cx p s m #[.ref q_t, .int x10, .int x20] meth c MX7_couldBeFound) (hK : KK D a s) {y : Int32} (hP : va_P D classes (rc7 a q_t Q_t z_t) s.heap) {k103 : Int32 → Option (Int32)} (hk103 : ∀ (x3k : Int32) (ls : Array Slot), k103 x3k = some y → lv_has ls 7 [(0, .ref q_t), (3, .int x3k)] → W p l e (rmM 1 0 0 21) s m #[.ref q_t, .int x10, .int x20] below meth c s.heap [] 0 0 (MQ below (vp_Si (fun r => r = y)) #[.ref q_t, .int x10, .int x20] s 0 0 (fun _ => False)) (F0 m 103 ls [])) : ∀ (n : Nat) (x3 : Int32) (x4 : Int32) (ls : Array Slot), lX7_couldBeFound_5 k103 z_t x1 x2 n x3 x4 = some y → lv_has ls 7 [(0, .ref q_t), (1, .int x1), (2, .int x2), (3, .int x3), (4, .int x4)] → W p l e (rmM 1 0 0 21) s m #[.ref q_t, .int x10, .int x20] below meth c s.heap [] 0 0 (MQ below (vp_Si (fun r => r = y)) #[.ref q_t, .int x10, .int x20] s 0 0 (fun _ => False)) (F0 m 5 ls []) := by
  obtain ⟨hx, hb, hml, hown, hts, hr, hlocks, hnm⟩ := id C
  have hb : c.code = cX7_couldBeFound := hb
  have hown : s.vm.findClass RX7 = some m.cls := hown
  intro n
  induction n with
  | zero => intro x3 x4 ls h; rw [lX7_couldBeFound_5] at h; cases h
  | succ n ih =>
    intro x3 x4 ls h hl
    rw [lX7_couldBeFound_5] at h
    refine lv_iload hx hb dX7_couldBeFound_5 (lv_at hl 4 rfl) ?_
    refine lv_aload_n hx hb dX7_couldBeFound_7 rfl (lv_at hl 0 rfl) ?_
    refine va_get (D := D) (v := .int (gI z_t 3)) (C := RX7) (T := TX7) (N := 18) hx hb hts iX7 hown hK.1 hP 0 rfl rfl 3 (by decide) (hts _ t_44) (fun _ h9 => h9) rfl dX7_couldBeFound_8 ?_
    refine lv_icmp_ge (tgt := 103) hx hb dX7_couldBeFound_11 (by decide) (fun c1 => ?_) (fun c1 => ?_)
    · have h := ite_t c1 h
      exact hk103 x3 ls h (lv_sub hl [0, 3] rfl)
    · have h := ite_f c1 h
      refine lv_iload_n hx hb dX7_couldBeFound_14 rfl (lv_at hl 1 rfl) ?_
      refine lv_iload hx hb dX7_couldBeFound_15 (lv_at hl 4 rfl) ?_
      obtain ⟨r3, hc2, h⟩ := bd_some h
      refine cRi (runN (As := [.int x1, .int x4]) (rest := []) C hK (mX8_has l D a hc2) lk_N_7_125 okN_X8_has ⟨Nat.le_of_ble_eq_true rfl, Nat.le_of_ble_eq_true rfl⟩ ⟨rfl, rfl⟩ (preR hK (P_of_map (wc := []) hP [] rfl)) hl.1 rfl (Nat.le_of_ble_eq_true rfl) dX7_couldBeFound_17 ⟨Nat.le_of_ble_eq_true rfl, Nat.le_of_ble_eq_true rfl⟩) ?_
      obtain ⟨J4, eJ4, h⟩ := jn_some h
      have hJ4 : ∀ (i5 : Int32) (ls : Array Slot), J4 i5 = some y → lv_has ls 7 [(0, .ref q_t), (1, .int x1), (2, .int x2), (3, .int i5), (4, .int x4)] → W p l e (rmM 1 0 0 21) s m #[.ref q_t, .int x10, .int x20] below meth c s.heap [] 0 0 (MQ below (vp_Si (fun r => r = y)) #[.ref q_t, .int x10, .int x20] s 0 0 (fun _ => False)) (F0 m 97 ls []) := by
        intro i5 ls h hl
        rw [eJ4] at h
        refine lv_iinc (v := x4 + 1) (lv' := [(4, .int (x4 + 1)), (0, .ref q_t), (1, .int x1), (2, .int x2), (3, .int i5)]) hx hb dX7_couldBeFound_97 hl (k := 4) rfl rfl (by decide) rfl (fun ls hl => ?_)
        refine lv_goto (tgt := 5) hx hb dX7_couldBeFound_100 (by decide) ?_
        exact ih i5 (x4 + 1) ls h (lv_sub hl [1, 2, 3, 4, 0] rfl)
      refine lv_if_eq (tgt := 97) hx hb dX7_couldBeFound_20 (by decide) (fun c6 => ?_) (fun c6 => ?_)
      · have h := ite_t c6 h
        exact hJ4 x3 ls h (lv_sub hl [0, 1, 2, 3, 4] rfl)
      · have h := ite_f c6 h
        refine lv_aload_n hx hb dX7_couldBeFound_23 rfl (lv_at hl 0 rfl) ?_
        refine va_get (D := D) (v := .ref (Q_t 11)) (C := RX7) (T := TX7) (N := 18) hx hb hts iX7 hown hK.1 hP 0 rfl rfl 11 (by decide) (hts _ t_68) (fun _ h9 => h9) rfl dX7_couldBeFound_24 ?_
        refine lv_iload hx hb dX7_couldBeFound_27 (lv_at hl 4 rfl) ?_
        obtain ⟨r8, hc7, h⟩ := bd_some h
        refine cRi (runN (As := [.ref (Q_t 11), .int x4]) (rest := []) C hK (mX8_at l D a (q_p0 := (Q_t 11)) hc7) lk_N_7_78 okN_X8_at ⟨Nat.le_of_ble_eq_true rfl, Nat.le_of_ble_eq_true rfl⟩ ⟨rfl, rfl⟩ (preR hK (P_of_map (wc := ra0 a (Q_t 11) 10 (gT z_t 11)) hP [7] rfl)) hl.1 rfl (Nat.le_of_ble_eq_true rfl) dX7_couldBeFound_29 ⟨Nat.le_of_ble_eq_true rfl, Nat.le_of_ble_eq_true rfl⟩) ?_
        refine lv_istore (lv' := [(5, .int r8), (0, .ref q_t), (1, .int x1), (2, .int x2), (3, .int x3), (4, .int x4)]) hx hb dX7_couldBeFound_32 hl (by decide) rfl (fun ls hl => ?_)
        refine lv_iload hx hb dX7_couldBeFound_34 (lv_at hl 0 rfl) ?_
        obtain ⟨J9, eJ9, h⟩ := jn_some h
        have hJ9 : ∀ (i10 : Int32) (ls : Array Slot), J9 i10 = some y → lv_has ls 7 [(0, .ref q_t), (1, .int x1), (2, .int x2), (3, .int x3), (4, .int x4)] → W p l e (rmM 1 0 0 21) s m #[.ref q_t, .int x10, .int x20] below meth c s.heap [] 0 0 (MQ below (vp_Si (fun r => r = y)) #[.ref q_t, .int x10, .int x20] s 0 0 (fun _ => False)) (F0 m 55 ls [.int i10]) := by
          intro i10 ls h hl
          rw [eJ9] at h
          refine lv_istore (lv' := [(6, .int i10), (0, .ref q_t), (1, .int x1), (2, .int x2), (3, .int x3), (4, .int x4)]) hx hb dX7_couldBeFound_55 hl (by decide) rfl (fun ls hl => ?_)
          refine lv_iload_n hx hb dX7_couldBeFound_57 rfl (lv_at hl 3 rfl) ?_
          refine lv_iload hx hb dX7_couldBeFound_58 (lv_at hl 5 rfl) ?_
          obtain ⟨r12, hc11, h⟩ := bd_some h
          refine cRi (runN (As := [.int x2, .int x4]) (rest := []) C hK (mX8_has l D a hc11) lk_N_7_125 okN_X8_has ⟨Nat.le_of_ble_eq_true rfl, Nat.le_of_ble_eq_true rfl⟩ ⟨rfl, rfl⟩ (preR hK (P_of_map (wc := []) hP [] rfl)) hl.1 rfl (Nat.le_of_ble_eq_true rfl) dX7_couldBeFound_60 ⟨Nat.le_of_ble_eq_true rfl, Nat.le_of_ble_eq_true rfl⟩) ?_
          refine lv_if_ne (tgt := 83) hx hb dX7_couldBeFound_63 (by decide) (fun c13 => ?_) (fun c13 => ?_)
          · have h := ite_f c13 h
            refine lv_iconst (v := 0) hx hb dX7_couldBeFound_83 (by decide) ?_
            exact rRz C rfl (Or.inl rfl) (Option.some.inj h) dX7_couldBeFound_84
          · have h := ite_t c13 h
            refine lv_aload_n hx hb dX7_couldBeFound_66 rfl (lv_at hl 1 rfl) ?_
            refine va_get (D := D) (v := .ref (Q_t 10)) (C := RX7) (T := TX7) (N := 18) hx hb hts iX7 hown hK.1 hP 0 rfl rfl 10 (by decide) (hts _ t_63) (fun _ h9 => h9) rfl dX7_couldBeFound_67 ?_
            refine lv_iload hx hb dX7_couldBeFound_70 (lv_at hl 5 rfl) ?_
            obtain ⟨r15, hc14, h⟩ := bd_some h
            refine cRi (runN (As := [.ref (Q_t 10), .int x4]) (rest := []) C hK (mX8_at l D a (q_p0 := (Q_t 10)) hc14) lk_N_7_78 okN_X8_at ⟨Nat.le_of_ble_eq_true rfl, Nat.le_of_ble_eq_true rfl⟩ ⟨rfl, rfl⟩ (preR hK (P_of_map (wc := ra0 a (Q_t 10) 10 (gT z_t 10)) hP [6] rfl)) hl.1 rfl (Nat.le_of_ble_eq_true rfl) dX7_couldBeFound_72 ⟨Nat.le_of_ble_eq_true rfl, Nat.le_of_ble_eq_true rfl⟩) ?_
            refine lv_if_eq (tgt := 83) hx hb dX7_couldBeFound_75 (by decide) (fun c16 => ?_) (fun c16 => ?_)
            · have h := ite_t c16 h
              refine lv_iconst (v := 0) hx hb dX7_couldBeFound_83 (by decide) ?_
              exact rRz C rfl (Or.inl rfl) (Option.some.inj h) dX7_couldBeFound_84
            · have h := ite_f c16 h
              refine lv_iload hx hb dX7_couldBeFound_78 (lv_at hl 0 rfl) ?_
              refine lv_if_eq (tgt := 85) hx hb dX7_couldBeFound_80 (by decide) (fun c17 => ?_) (fun c17 => ?_)
              · have h := ite_t c17 h
                refine lv_iload_n hx hb dX7_couldBeFound_85 rfl (lv_at hl 4 rfl) ?_
                refine lv_aload_n hx hb dX7_couldBeFound_86 rfl (lv_at hl 1 rfl) ?_
                refine va_get (D := D) (v := .ref (Q_t 9)) (C := RX7) (T := TX7) (N := 18) hx hb hts iX7 hown hK.1 hP 0 rfl rfl 9 (by decide) (hts _ t_58) (fun _ h9 => h9) rfl dX7_couldBeFound_87 ?_
                refine lv_iload hx hb dX7_couldBeFound_90 (lv_at hl 5 rfl) ?_
                obtain ⟨r19, hc18, h⟩ := bd_some h
                refine cRi (runN (As := [.ref (Q_t 9), .int x4]) (rest := [.int x3]) C hK (mX8_at l D a (q_p0 := (Q_t 9)) hc18) lk_N_7_78 okN_X8_at ⟨Nat.le_of_ble_eq_true rfl, Nat.le_of_ble_eq_true rfl⟩ ⟨rfl, rfl⟩ (preR hK (P_of_map (wc := ra0 a (Q_t 9) 10 (gT z_t 9)) hP [5] rfl)) hl.1 rfl (Nat.le_of_ble_eq_true rfl) dX7_couldBeFound_92 ⟨Nat.le_of_ble_eq_true rfl, Nat.le_of_ble_eq_true rfl⟩) ?_
                refine lv_iadd hx hb dX7_couldBeFound_95 ?_
                refine lv_istore_n (lv' := [(3, .int (x3 + r19)), (6, .int i10), (0, .ref q_t), (1, .int x1), (2, .int x2), (4, .int x4)]) hx hb dX7_couldBeFound_96 rfl hl (by decide) rfl (fun ls hl => ?_)
                exact hJ4 (x3 + r19) ls h (lv_sub hl [2, 3, 4, 0, 5] rfl)
              · have h := ite_f c17 h
                refine lv_iconst (v := 0) hx hb dX7_couldBeFound_83 (by decide) ?_
                exact rRz C rfl (Or.inl rfl) (Option.some.inj h) dX7_couldBeFound_84
        obtain ⟨J20, eJ20, h⟩ := jn_some h
        have hJ20 : ∀ (ls : Array Slot), J20 = some y → lv_has ls 7 [(0, .ref q_t), (1, .int x1), (2, .int x2), (3, .int x3), (4, .int x4)] → W p l e (rmM 1 0 0 21) s m #[.ref q_t, .int x10, .int x20] below meth c s.heap [] 0 0 (MQ below (vp_Si (fun r => r = y)) #[.ref q_t, .int x10, .int x20] s 0 0 (fun _ => False)) (F0 m 54 ls []) := by
          intro ls h hl
          rw [eJ20] at h
          refine lv_iconst (v := 0) hx hb dX7_couldBeFound_54 (by decide) ?_
          exact hJ9 0 ls h (lv_sub hl [0, 1, 2, 3, 4] rfl)
        refine lv_if_lt (tgt := 54) hx hb dX7_couldBeFound_36 (by decide) (fun c21 => ?_) (fun c21 => ?_)
        · have h := ite_t c21 h
          exact hJ20 ls h (lv_sub hl [1, 2, 3, 4, 5] rfl)
        · have h := ite_f c21 h
          refine lv_iload_n hx hb dX7_couldBeFound_39 rfl (lv_at hl 2 rfl) ?_
          refine lv_iload_n hx hb dX7_couldBeFound_40 rfl (lv_at hl 3 rfl) ?_
          refine lv_ior hx hb dX7_couldBeFound_41 ?_
          refine lv_iload hx hb dX7_couldBeFound_42 (lv_at hl 0 rfl) ?_
          obtain ⟨r23, hc22, h⟩ := bd_some h
          refine cRi (runN (As := [.int (x1 ||| x2), .int r8]) (rest := []) C hK (mX8_has l D a hc22) lk_N_7_125 okN_X8_has ⟨Nat.le_of_ble_eq_true rfl, Nat.le_of_ble_eq_true rfl⟩ ⟨rfl, rfl⟩ (preR hK (P_of_map (wc := []) hP [] rfl)) hl.1 rfl (Nat.le_of_ble_eq_true rfl) dX7_couldBeFound_44 ⟨Nat.le_of_ble_eq_true rfl, Nat.le_of_ble_eq_true rfl⟩) ?_
          refine lv_if_ne (tgt := 54) hx hb dX7_couldBeFound_47 (by decide) (fun c24 => ?_) (fun c24 => ?_)
          · have h := ite_f c24 h
            exact hJ20 ls h (lv_sub hl [1, 2, 3, 4, 5] rfl)
          · have h := ite_t c24 h
            refine lv_iconst (v := 1) hx hb dX7_couldBeFound_50 (by decide) ?_
            refine lv_goto (tgt := 55) hx hb dX7_couldBeFound_51 (by decide) ?_
            exact hJ9 1 ls h (lv_sub hl [1, 2, 3, 4, 5] rfl)

set_option maxHeartbeats 4000000 in
set_option maxRecDepth 100000 in
theorem mX7_couldBeFound (l : Launch) (D : va_G) (a : Nat → ClassId) {q_t : Nat} {Q_t : Nat → Nat} {z_t : Sx} {x1 : Int32} {x2 : Int32} {y : Int32} (h : fX7_couldBeFound z_t x1 x2 = some y) : CRi l MX7_couldBeFound 1 21 D a [.ref q_t, .int x1, .int x2] (rc7 a q_t Q_t z_t) (fun r => r = y) := by
  unfold fX7_couldBeFound at h
  refine entR (by decide) (Nat.le_of_ble_eq_true rfl) ?_
  intro p e s m below meth c C hK hP ls hl
  obtain ⟨hx, hb, hml, hown, hts, hr, hlocks, hnm⟩ := id C
  have hb : c.code = cX7_couldBeFound := hb
  have hown : s.vm.findClass RX7 = some m.cls := hown
  have hl : lv_has ls 7 [(0, .ref q_t), (1, .int x1), (2, .int x2)] := hl
  refine lv_iconst (v := 0) hx hb dX7_couldBeFound_0 (by decide) ?_
  refine lv_istore_n (lv' := [(3, .int 0), (0, .ref q_t), (1, .int x1), (2, .int x2)]) hx hb dX7_couldBeFound_1 rfl hl (by decide) rfl (fun ls hl => ?_)
  refine lv_iconst (v := 0) hx hb dX7_couldBeFound_2 (by decide) ?_
  refine lv_istore (lv' := [(4, .int 0), (3, .int 0), (0, .ref q_t), (1, .int x1), (2, .int x2)]) hx hb dX7_couldBeFound_3 hl (by decide) rfl (fun ls hl => ?_)
  refine wX7_couldBeFound_5 C hK hP ?_ FU 0 0 ls h (lv_sub hl [2, 3, 4, 1, 0] rfl)
  · intro i25 ls h hl
    refine lv_iload_n hx hb dX7_couldBeFound_103 rfl (lv_at hl 1 rfl) ?_
    refine lv_aload_n hx hb dX7_couldBeFound_104 rfl (lv_at hl 0 rfl) ?_
    refine va_get (D := D) (v := .int (gI z_t 1)) (C := RX7) (T := TX7) (N := 18) hx hb hts iX7 hown hK.1 hP 0 rfl rfl 1 (by decide) (hts _ t_39) (fun _ h9 => h9) rfl dX7_couldBeFound_105 ?_
    refine lv_icmp_gt (tgt := 115) hx hb dX7_couldBeFound_108 (by decide) (fun c26 => ?_) (fun c26 => ?_)
    · have h := ite_t c26 h
      refine lv_iconst (v := 0) hx hb dX7_couldBeFound_115 (by decide) ?_
      exact rRz C rfl (Or.inl rfl) (Option.some.inj h) dX7_couldBeFound_116
    · have h := ite_f c26 h
      refine lv_iconst (v := 1) hx hb dX7_couldBeFound_111 (by decide) ?_
      refine lv_goto (tgt := 116) hx hb dX7_couldBeFound_112 (by decide) ?_
      exact rRz C rfl (Or.inr rfl) (Option.some.inj h) dX7_couldBeFound_116

set_option maxHeartbeats 4000000 in
set_option maxRecDepth 100000 in
theorem wX7_orderLooks_56 {p : Program} {l : Launch} {e : Env} {s : State} {m : MethodId} {below : List Frame} {meth : Method} {c : Code} {D : va_G} {a : Nat → ClassId} {A : Nat → Prop} {q_t : Nat} {Q_t : Nat → Nat} {x1 : Int32} (C : Cx p s m #[.ref q_t] meth c MX7_orderLooks) (hK : KK D a s) (hA : ∀ q, s.heap.size ≤ q → A q) {y : Sx} {k112 : Sx → Int32 → Option (Sx)} (hk112 : ∀ (z_tk : Sx) (x2k : Int32) (H : Heap) (locs : List Loc) (ls : Array Slot), k112 z_tk x2k = some y → va_P D classes (rc7 a q_t Q_t z_tk) H → va_D A (rc7 a q_t Q_t z_tk) → va_S A s.heap H locs → lv_has ls 3 [(0, .ref q_t), (1, .int x1), (2, .int x2k)] → W p l e (rmM 1 0 0 30) s m #[.ref q_t] below meth c H locs 0 0 (MQ below (va_Qv (fun (_ : Unit) => True) (Bw D A (fun _ => rc7 a q_t Q_t y)) A) #[.ref q_t] s 0 0 A) (F0 m 112 ls [])) : ∀ (n : Nat) (z_t : Sx) (x2 : Int32) (H : Heap) (locs : List Loc) (ls : Array Slot), lX7_orderLooks_56 k112 x1 n z_t x2 = some y → va_P D classes (rc7 a q_t Q_t z_t) H → va_D A (rc7 a q_t Q_t z_t) → va_S A s.heap H locs → lv_has ls 3 [(0, .ref q_t), (1, .int x1), (2, .int x2)] → W p l e (rmM 1 0 0 30) s m #[.ref q_t] below meth c H locs 0 0 (MQ below (va_Qv (fun (_ : Unit) => True) (Bw D A (fun _ => rc7 a q_t Q_t y)) A) #[.ref q_t] s 0 0 A) (F0 m 56 ls []) := by
  obtain ⟨hx, hb, hml, hown, hts, hr, hlocks, hnm⟩ := id C
  have hb : c.code = cX7_orderLooks := hb
  have hown : s.vm.findClass RX7 = some m.cls := hown
  intro n
  induction n with
  | zero => intro z_t x2 H locs ls h; rw [lX7_orderLooks_56] at h; cases h
  | succ n ih =>
    intro z_t x2 H locs ls h hP hD hS hl
    rw [lX7_orderLooks_56] at h
    refine lv_iload_n hx hb dX7_orderLooks_56 rfl (lv_at hl 2 rfl) ?_
    refine lv_if_le (tgt := 112) hx hb dX7_orderLooks_57 (by decide) (fun c10 => ?_) (fun c10 => ?_)
    · have h := ite_t c10 h
      exact hk112 z_t x2 _ _ ls h hP hD hS (lv_sub hl [0, 1, 2] rfl)
    · have h := ite_f c10 h
      refine lv_aload_n hx hb dX7_orderLooks_60 rfl (lv_at hl 0 rfl) ?_
      refine va_get (D := D) (v := .ref (Q_t 15)) (C := RX7) (T := TX7) (N := 18) hx hb hts iX7 hown hK.1 hP 0 rfl rfl 15 (by decide) (hts _ t_78) (fun _ h9 => h9) rfl dX7_orderLooks_61 ?_
      refine lv_aload_n hx hb dX7_orderLooks_64 rfl (lv_at hl 0 rfl) ?_
      refine va_get (D := D) (v := .ref (Q_t 16)) (C := RX7) (T := TX7) (N := 18) hx hb hts iX7 hown hK.1 hP 0 rfl rfl 16 (by decide) (hts _ t_79) (fun _ h9 => h9) rfl dX7_orderLooks_65 ?_
      refine lv_iload_n hx hb dX7_orderLooks_68 rfl (lv_at hl 2 rfl) ?_
      refine lv_iconst (v := 1) hx hb dX7_orderLooks_69 (by decide) ?_
      refine lv_isub hx hb dX7_orderLooks_70 ?_
      obtain ⟨r12, hc11, h⟩ := bd_some h
      refine cRi (runN (As := [.ref (Q_t 16), .int (x2 - 1)]) (rest := [.ref (Q_t 15)]) C hK (mX8_at l D a (q_p0 := (Q_t 16)) hc11) lk_N_7_78 okN_X8_at ⟨Nat.le_of_ble_eq_true rfl, Nat.le_of_ble_eq_true rfl⟩ ⟨rfl, rfl⟩ (preR hK (P_of_map (wc := ra0 a (Q_t 16) 10 (gT z_t 16)) hP [12] rfl)) hl.1 rfl (Nat.le_of_ble_eq_true rfl) dX7_orderLooks_71 ⟨Nat.le_of_ble_eq_true rfl, Nat.le_of_ble_eq_true rfl⟩) ?_
      obtain ⟨r14, hc13, h⟩ := bd_some h
      refine cRi (runN (As := [.ref (Q_t 15), .int r12]) (rest := []) C hK (mX8_at l D a (q_p0 := (Q_t 15)) hc13) lk_N_7_78 okN_X8_at ⟨Nat.le_of_ble_eq_true rfl, Nat.le_of_ble_eq_true rfl⟩ ⟨rfl, rfl⟩ (preR hK (P_of_map (wc := ra0 a (Q_t 15) 10 (gT z_t 15)) hP [11] rfl)) hl.1 rfl (Nat.le_of_ble_eq_true rfl) dX7_orderLooks_74 ⟨Nat.le_of_ble_eq_true rfl, Nat.le_of_ble_eq_true rfl⟩) ?_
      refine lv_aload_n hx hb dX7_orderLooks_77 rfl (lv_at hl 0 rfl) ?_
      refine va_get (D := D) (v := .ref (Q_t 15)) (C := RX7) (T := TX7) (N := 18) hx hb hts iX7 hown hK.1 hP 0 rfl rfl 15 (by decide) (hts _ t_78) (fun _ h9 => h9) rfl dX7_orderLooks_78 ?_
      refine lv_iload_n hx hb dX7_orderLooks_81 rfl (lv_at hl 1 rfl) ?_
      obtain ⟨r16, hc15, h⟩ := bd_some h
      refine cRi (runN (As := [.ref (Q_t 15), .int x1]) (rest := [.int r14]) C hK (mX8_at l D a (q_p0 := (Q_t 15)) hc15) lk_N_7_78 okN_X8_at ⟨Nat.le_of_ble_eq_true rfl, Nat.le_of_ble_eq_true rfl⟩ ⟨rfl, rfl⟩ (preR hK (P_of_map (wc := ra0 a (Q_t 15) 10 (gT z_t 15)) hP [11] rfl)) hl.1 rfl (Nat.le_of_ble_eq_true rfl) dX7_orderLooks_82 ⟨Nat.le_of_ble_eq_true rfl, Nat.le_of_ble_eq_true rfl⟩) ?_
      refine lv_icmp_ge (tgt := 112) hx hb dX7_orderLooks_85 (by decide) (fun c17 => ?_) (fun c17 => ?_)
      · have h := ite_t c17 h
        exact hk112 z_t x2 _ _ ls h hP hD hS (lv_sub hl [0, 1, 2] rfl)
      · have h := ite_f c17 h
        refine lv_aload_n hx hb dX7_orderLooks_88 rfl (lv_at hl 0 rfl) ?_
        refine va_get (D := D) (v := .ref (Q_t 16)) (C := RX7) (T := TX7) (N := 18) hx hb hts iX7 hown hK.1 hP 0 rfl rfl 16 (by decide) (hts _ t_79) (fun _ h9 => h9) rfl dX7_orderLooks_89 ?_
        refine lv_iload_n hx hb dX7_orderLooks_92 rfl (lv_at hl 2 rfl) ?_
        refine lv_aload_n hx hb dX7_orderLooks_93 rfl (lv_at hl 0 rfl) ?_
        refine va_get (D := D) (v := .ref (Q_t 16)) (C := RX7) (T := TX7) (N := 18) hx hb hts iX7 hown hK.1 hP 0 rfl rfl 16 (by decide) (hts _ t_79) (fun _ h9 => h9) rfl dX7_orderLooks_94 ?_
        refine lv_iload_n hx hb dX7_orderLooks_97 rfl (lv_at hl 2 rfl) ?_
        refine lv_iconst (v := 1) hx hb dX7_orderLooks_98 (by decide) ?_
        refine lv_isub hx hb dX7_orderLooks_99 ?_
        obtain ⟨r19, hc18, h⟩ := bd_some h
        refine cRi (runN (As := [.ref (Q_t 16), .int (x2 - 1)]) (rest := [.int x2, .ref (Q_t 16)]) C hK (mX8_at l D a (q_p0 := (Q_t 16)) hc18) lk_N_7_78 okN_X8_at ⟨Nat.le_of_ble_eq_true rfl, Nat.le_of_ble_eq_true rfl⟩ ⟨rfl, rfl⟩ (preR hK (P_of_map (wc := ra0 a (Q_t 16) 10 (gT z_t 16)) hP [12] rfl)) hl.1 rfl (Nat.le_of_ble_eq_true rfl) dX7_orderLooks_100 ⟨Nat.le_of_ble_eq_true rfl, Nat.le_of_ble_eq_true rfl⟩) ?_
        obtain ⟨z21, hc20, h⟩ := bd_some h
        refine cMv (runN (As := [.ref (Q_t 16), .int x2, .int r19]) (rest := []) C hK (mX8_put l D a (q_p0 := (Q_t 16)) hc20 H.size) lk_N_7_88 okN_X8_put ⟨Nat.le_of_ble_eq_true rfl, Nat.le_of_ble_eq_true rfl⟩ ⟨rfl, rfl⟩ (preM hK (P_of_map (wc := ra0 a (Q_t 16) 10 (gT z_t 16)) hP [12] rfl) (hD.sub (ws' := ra0 a (Q_t 16) 10 (gT z_t 16)) [12] (by decide) rfl)) hl.1 rfl (Nat.le_of_ble_eq_true rfl) dX7_orderLooks_103 ⟨Nat.le_of_ble_eq_true rfl, Nat.le_of_ble_eq_true rfl⟩) hP hD hS hA [12] [0, 1, 2, 3, 4, 5, 6, 7, 8, 9, 10, 11] [0, 1, 2, 3, 4, 5, 6, 7, 8, 9, 10, 11, 12] rfl rfl (by decide) (by decide) (fw := rc7 a q_t Q_t (sTf z_t 16 z21)) rfl (by decide) (fun H locs hP hD hS => ?_)
        have hP : va_P D classes (rc7 a q_t Q_t (sTf z_t 16 z21)) H := hP
        have hD : va_D A (rc7 a q_t Q_t (sTf z_t 16 z21)) := hD
        refine lv_iinc (v := x2 + (-1)) (lv' := [(2, .int (x2 + (-1))), (0, .ref q_t), (1, .int x1)]) hx hb dX7_orderLooks_106 hl (k := 2) rfl rfl (by decide) rfl (fun ls hl => ?_)
        refine lv_goto (tgt := 56) hx hb dX7_orderLooks_109 (by decide) ?_
        exact ih (sTf z_t 16 z21) (x2 + (-1)) _ _ ls h hP hD hS (lv_sub hl [1, 2, 0] rfl)

set_option maxHeartbeats 4000000 in
set_option maxRecDepth 100000 in
theorem wX7_orderLooks_2 {p : Program} {l : Launch} {e : Env} {s : State} {m : MethodId} {below : List Frame} {meth : Method} {c : Code} {D : va_G} {a : Nat → ClassId} {A : Nat → Prop} {q_t : Nat} {Q_t : Nat → Nat} (C : Cx p s m #[.ref q_t] meth c MX7_orderLooks) (hK : KK D a s) (hA : ∀ q, s.heap.size ≤ q → A q) {y : Sx} : ∀ (n : Nat) (z_t : Sx) (x1 : Int32) (H : Heap) (locs : List Loc) (ls : Array Slot), lX7_orderLooks_2 n z_t x1 = some y → va_P D classes (rc7 a q_t Q_t z_t) H → va_D A (rc7 a q_t Q_t z_t) → va_S A s.heap H locs → lv_has ls 3 [(0, .ref q_t), (1, .int x1)] → W p l e (rmM 1 0 0 30) s m #[.ref q_t] below meth c H locs 0 0 (MQ below (va_Qv (fun (_ : Unit) => True) (Bw D A (fun _ => rc7 a q_t Q_t y)) A) #[.ref q_t] s 0 0 A) (F0 m 2 ls []) := by
  obtain ⟨hx, hb, hml, hown, hts, hr, hlocks, hnm⟩ := id C
  have hb : c.code = cX7_orderLooks := hb
  have hown : s.vm.findClass RX7 = some m.cls := hown
  intro n
  induction n with
  | zero => intro z_t x1 H locs ls h; rw [lX7_orderLooks_2] at h; cases h
  | succ n ih =>
    intro z_t x1 H locs ls h hP hD hS hl
    rw [lX7_orderLooks_2] at h
    refine lv_iload_n hx hb dX7_orderLooks_2 rfl (lv_at hl 1 rfl) ?_
    refine lv_aload_n hx hb dX7_orderLooks_3 rfl (lv_at hl 0 rfl) ?_
    refine va_get (D := D) (v := .int (gI z_t 3)) (C := RX7) (T := TX7) (N := 18) hx hb hts iX7 hown hK.1 hP 0 rfl rfl 3 (by decide) (hts _ t_44) (fun _ h9 => h9) rfl dX7_orderLooks_4 ?_
    refine lv_icmp_ge (tgt := 127) hx hb dX7_orderLooks_7 (by decide) (fun c1 => ?_) (fun c1 => ?_)
    · have h := ite_t c1 h
      exact rMv C rfl h (g := fun y => rc7 a q_t Q_t y) hP hD hS dX7_orderLooks_127
    · have h := ite_f c1 h
      refine lv_aload_n hx hb dX7_orderLooks_10 rfl (lv_at hl 0 rfl) ?_
      refine lv_aload_n hx hb dX7_orderLooks_11 rfl (lv_at hl 0 rfl) ?_
      refine va_get (D := D) (v := .int (gI z_t 17)) (C := RX7) (T := TX7) (N := 18) hx hb hts iX7 hown hK.1 hP 0 rfl rfl 17 (by decide) (hts _ t_81) (fun _ h9 => h9) rfl dX7_orderLooks_12 ?_
      refine lv_aload_n hx hb dX7_orderLooks_15 rfl (lv_at hl 0 rfl) ?_
      refine va_get (D := D) (v := .ref (Q_t 9)) (C := RX7) (T := TX7) (N := 18) hx hb hts iX7 hown hK.1 hP 0 rfl rfl 9 (by decide) (hts _ t_58) (fun _ h9 => h9) rfl dX7_orderLooks_16 ?_
      refine lv_iload_n hx hb dX7_orderLooks_19 rfl (lv_at hl 1 rfl) ?_
      obtain ⟨r3, hc2, h⟩ := bd_some h
      refine cRi (runN (As := [.ref (Q_t 9), .int x1]) (rest := [.int (gI z_t 17), .ref q_t]) C hK (mX8_at l D a (q_p0 := (Q_t 9)) hc2) lk_N_7_78 okN_X8_at ⟨Nat.le_of_ble_eq_true rfl, Nat.le_of_ble_eq_true rfl⟩ ⟨rfl, rfl⟩ (preR hK (P_of_map (wc := ra0 a (Q_t 9) 10 (gT z_t 9)) hP [5] rfl)) hl.1 rfl (Nat.le_of_ble_eq_true rfl) dX7_orderLooks_20 ⟨Nat.le_of_ble_eq_true rfl, Nat.le_of_ble_eq_true rfl⟩) ?_
      refine va_mmax hx hb (by rw [hml]; exact hl.1.symm) hown (hts _ t_496) (hts _ t_497) (hts _ t_14) (hts _ t_498) (Nat.le_of_ble_eq_true rfl) (Nat.le_of_ble_eq_true rfl) (Nat.le_of_ble_eq_true rfl) (Nat.le_of_ble_eq_true rfl) dX7_orderLooks_23 ?_
      refine va_put (D := D) (v := .int (mxI (gI z_t 17) r3)) (C := RX7) (T := TX7) (N := 18) hx hb hts iX7 tyX7 tyX7_ok nmX7 hown hK.1 hP hD hS 0 rfl rfl 17 (by decide) (hts _ t_81) (fun _ h9 => h9) rfl (tyX7_ok 17 (by decide)) rfl rfl (Nat.le_of_ble_eq_true rfl) dX7_orderLooks_26 (fun H locs hP hD hS => ?_)
      have hP : va_P D classes (rc7 a q_t Q_t (sI z_t 17 (mxI (gI z_t 17) r3))) H := hP
      have hD : va_D A (rc7 a q_t Q_t (sI z_t 17 (mxI (gI z_t 17) r3))) := hD
      refine lv_aload_n hx hb dX7_orderLooks_29 rfl (lv_at hl 0 rfl) ?_
      refine va_get (D := D) (v := .ref (Q_t 15)) (C := RX7) (T := TX7) (N := 18) hx hb hts iX7 hown hK.1 hP 0 rfl rfl 15 (by decide) (hts _ t_78) (fun _ h9 => h9) rfl dX7_orderLooks_30 ?_
      refine lv_iload_n hx hb dX7_orderLooks_33 rfl (lv_at hl 1 rfl) ?_
      refine lv_aload_n hx hb dX7_orderLooks_34 rfl (lv_at hl 0 rfl) ?_
      refine va_get (D := D) (v := .ref (Q_t 10)) (C := RX7) (T := TX7) (N := 18) hx hb hts iX7 hown hK.1 hP 0 rfl rfl 10 (by decide) (hts _ t_63) (fun _ h9 => h9) rfl dX7_orderLooks_35 ?_
      refine lv_iload_n hx hb dX7_orderLooks_38 rfl (lv_at hl 1 rfl) ?_
      obtain ⟨r5, hc4, h⟩ := bd_some h
      refine cRi (runN (As := [.ref (Q_t 10), .int x1]) (rest := [.int x1, .ref (Q_t 15)]) C hK (mX8_at l D a (q_p0 := (Q_t 10)) hc4) lk_N_7_78 okN_X8_at ⟨Nat.le_of_ble_eq_true rfl, Nat.le_of_ble_eq_true rfl⟩ ⟨rfl, rfl⟩ (preR hK (P_of_map (wc := ra0 a (Q_t 10) 10 (gT (sI z_t 17 (mxI (gI z_t 17) r3)) 10)) hP [6] rfl)) hl.1 rfl (Nat.le_of_ble_eq_true rfl) dX7_orderLooks_39 ⟨Nat.le_of_ble_eq_true rfl, Nat.le_of_ble_eq_true rfl⟩) ?_
      refine lv_aload_n hx hb dX7_orderLooks_42 rfl (lv_at hl 0 rfl) ?_
      refine va_get (D := D) (v := .ref (Q_t 12)) (C := RX7) (T := TX7) (N := 18) hx hb hts iX7 hown hK.1 hP 0 rfl rfl 12 (by decide) (hts _ t_70) (fun _ h9 => h9) rfl dX7_orderLooks_43 ?_
      refine lv_iload_n hx hb dX7_orderLooks_46 rfl (lv_at hl 1 rfl) ?_
      obtain ⟨r7, hc6, h⟩ := bd_some h
      refine cRi (runN (As := [.ref (Q_t 12), .int x1]) (rest := [.int r5, .int x1, .ref (Q_t 15)]) C hK (mX8_at l D a (q_p0 := (Q_t 12)) hc6) lk_N_7_78 okN_X8_at ⟨Nat.le_of_ble_eq_true rfl, Nat.le_of_ble_eq_true rfl⟩ ⟨rfl, rfl⟩ (preR hK (P_of_map (wc := ra0 a (Q_t 12) 10 (gT (sI z_t 17 (mxI (gI z_t 17) r3)) 12)) hP [8] rfl)) hl.1 rfl (Nat.le_of_ble_eq_true rfl) dX7_orderLooks_47 ⟨Nat.le_of_ble_eq_true rfl, Nat.le_of_ble_eq_true rfl⟩) ?_
      refine lv_imul hx hb dX7_orderLooks_50 ?_
      obtain ⟨z9, hc8, h⟩ := bd_some h
      refine cMv (runN (As := [.ref (Q_t 15), .int x1, .int (r5 * r7)]) (rest := []) C hK (mX8_put l D a (q_p0 := (Q_t 15)) hc8 H.size) lk_N_7_88 okN_X8_put ⟨Nat.le_of_ble_eq_true rfl, Nat.le_of_ble_eq_true rfl⟩ ⟨rfl, rfl⟩ (preM hK (P_of_map (wc := ra0 a (Q_t 15) 10 (gT (sI z_t 17 (mxI (gI z_t 17) r3)) 15)) hP [11] rfl) (hD.sub (ws' := ra0 a (Q_t 15) 10 (gT (sI z_t 17 (mxI (gI z_t 17) r3)) 15)) [11] (by decide) rfl)) hl.1 rfl (Nat.le_of_ble_eq_true rfl) dX7_orderLooks_51 ⟨Nat.le_of_ble_eq_true rfl, Nat.le_of_ble_eq_true rfl⟩) hP hD hS hA [11] [0, 1, 2, 3, 4, 5, 6, 7, 8, 9, 10, 12] [0, 1, 2, 3, 4, 5, 6, 7, 8, 9, 10, 12, 11] rfl rfl (by decide) (by decide) (fw := rc7 a q_t Q_t (sTf (sI z_t 17 (mxI (gI z_t 17) r3)) 15 z9)) rfl (by decide) (fun H locs hP hD hS => ?_)
      have hP : va_P D classes (rc7 a q_t Q_t (sTf (sI z_t 17 (mxI (gI z_t 17) r3)) 15 z9)) H := hP
      have hD : va_D A (rc7 a q_t Q_t (sTf (sI z_t 17 (mxI (gI z_t 17) r3)) 15 z9)) := hD
      refine lv_iload_n hx hb dX7_orderLooks_54 rfl (lv_at hl 1 rfl) ?_
      refine lv_istore_n (lv' := [(2, .int x1), (0, .ref q_t), (1, .int x1)]) hx hb dX7_orderLooks_55 rfl hl (by decide) rfl (fun ls hl => ?_)
      refine wX7_orderLooks_56 C hK hA ?_ FU (sTf (sI z_t 17 (mxI (gI z_t 17) r3)) 15 z9) x1 _ _ ls h hP hD hS (lv_sub hl [1, 2, 0] rfl)
      · intro z22 i23 H locs ls h hP hD hS hl
        refine lv_aload_n hx hb dX7_orderLooks_112 rfl (lv_at hl 0 rfl) ?_
        refine va_get (D := D) (v := .ref (Q_t 16)) (C := RX7) (T := TX7) (N := 18) hx hb hts iX7 hown hK.1 hP 0 rfl rfl 16 (by decide) (hts _ t_79) (fun _ h9 => h9) rfl dX7_orderLooks_113 ?_
        refine lv_iload_n hx hb dX7_orderLooks_116 rfl (lv_at hl 2 rfl) ?_
        refine lv_iload_n hx hb dX7_orderLooks_117 rfl (lv_at hl 1 rfl) ?_
        obtain ⟨z25, hc24, h⟩ := bd_some h
        refine cMv (runN (As := [.ref (Q_t 16), .int i23, .int x1]) (rest := []) C hK (mX8_put l D a (q_p0 := (Q_t 16)) hc24 H.size) lk_N_7_88 okN_X8_put ⟨Nat.le_of_ble_eq_true rfl, Nat.le_of_ble_eq_true rfl⟩ ⟨rfl, rfl⟩ (preM hK (P_of_map (wc := ra0 a (Q_t 16) 10 (gT z22 16)) hP [12] rfl) (hD.sub (ws' := ra0 a (Q_t 16) 10 (gT z22 16)) [12] (by decide) rfl)) hl.1 rfl (Nat.le_of_ble_eq_true rfl) dX7_orderLooks_118 ⟨Nat.le_of_ble_eq_true rfl, Nat.le_of_ble_eq_true rfl⟩) hP hD hS hA [12] [0, 1, 2, 3, 4, 5, 6, 7, 8, 9, 10, 11] [0, 1, 2, 3, 4, 5, 6, 7, 8, 9, 10, 11, 12] rfl rfl (by decide) (by decide) (fw := rc7 a q_t Q_t (sTf z22 16 z25)) rfl (by decide) (fun H locs hP hD hS => ?_)
        have hP : va_P D classes (rc7 a q_t Q_t (sTf z22 16 z25)) H := hP
        have hD : va_D A (rc7 a q_t Q_t (sTf z22 16 z25)) := hD
        refine lv_iinc (v := x1 + 1) (lv' := [(1, .int (x1 + 1)), (0, .ref q_t), (2, .int i23)]) hx hb dX7_orderLooks_121 hl (k := 1) rfl rfl (by decide) rfl (fun ls hl => ?_)
        refine lv_goto (tgt := 2) hx hb dX7_orderLooks_124 (by decide) ?_
        exact ih (sTf z22 16 z25) (x1 + 1) _ _ ls h hP hD hS (lv_sub hl [1, 0] rfl)

set_option maxHeartbeats 4000000 in
set_option maxRecDepth 100000 in
theorem mX7_orderLooks (l : Launch) (D : va_G) (a : Nat → ClassId) {q_t : Nat} {Q_t : Nat → Nat} {z_t : Sx} {y : Sx} (h : fX7_orderLooks z_t = some y) (sz : Nat) : CMv (S := Unit) l MX7_orderLooks 1 30 0 0 D a [.ref q_t] (rc7 a q_t Q_t z_t) sz (fun _ => True) (fun _ => rc7 a q_t Q_t y) := by
  unfold fX7_orderLooks at h
  refine entMv (by decide) (Nat.le_of_ble_eq_true rfl) ?_
  intro p e s m below meth c C hK A hA hP hD ls hl
  obtain ⟨hx, hb, hml, hown, hts, hr, hlocks, hnm⟩ := id C
  have hb : c.code = cX7_orderLooks := hb
  have hown : s.vm.findClass RX7 = some m.cls := hown
  have hS : va_S A s.heap s.heap [] := va_S.rf
  have hl : lv_has ls 3 [(0, .ref q_t)] := hl
  refine lv_iconst (v := 0) hx hb dX7_orderLooks_0 (by decide) ?_
  refine lv_istore_n (lv' := [(1, .int 0), (0, .ref q_t)]) hx hb dX7_orderLooks_1 rfl hl (by decide) rfl (fun ls hl => ?_)
  refine wX7_orderLooks_2 C hK hA FU z_t 0 _ _ ls h hP hD hS (lv_sub hl [1, 0] rfl)

set_option maxHeartbeats 4000000 in
set_option maxRecDepth 100000 in
theorem mX7_payOf (l : Launch) (D : va_G) (a : Nat → ClassId) {q_t : Nat} {Q_t : Nat → Nat} {z_t : Sx} {x1 : Int32} {y : Int32} (h : fX7_payOf z_t x1 = some y) : CRi l MX7_payOf 2 45 D a [.ref q_t, .int x1] (rc7 a q_t Q_t z_t) (fun r => r = y) := by
  unfold fX7_payOf at h
  refine entR (by decide) (Nat.le_of_ble_eq_true rfl) ?_
  intro p e s m below meth c C hK hP ls hl
  obtain ⟨hx, hb, hml, hown, hts, hr, hlocks, hnm⟩ := id C
  have hb : c.code = cX7_payOf := hb
  have hown : s.vm.findClass RX7 = some m.cls := hown
  have hl : lv_has ls 2 [(0, .ref q_t), (1, .int x1)] := hl
  refine lv_aload_n hx hb dX7_payOf_0 rfl (lv_at hl 0 rfl) ?_
  refine lv_aload_n hx hb dX7_payOf_1 rfl (lv_at hl 0 rfl) ?_
  refine va_get (D := D) (v := .ref (Q_t 12)) (C := RX7) (T := TX7) (N := 18) hx hb hts iX7 hown hK.1 hP 0 rfl rfl 12 (by decide) (hts _ t_70) (fun _ h9 => h9) rfl dX7_payOf_2 ?_
  refine lv_iload_n hx hb dX7_payOf_5 rfl (lv_at hl 1 rfl) ?_
  obtain ⟨r2, hc1, h⟩ := bd_some h
  refine cRi (runV (As := [.ref (Q_t 12), .int x1]) (rest := []) C (mX7_together l D a (q_t := q_t) (q_p1 := (Q_t 12)) (Q_t := Q_t) hc1) lk_V_7_122 okN_X7_together ⟨Nat.le_of_ble_eq_true rfl, Nat.le_of_ble_eq_true rfl⟩ ⟨rfl, rfl⟩ (preV (preR hK (P_of_map (wc := rc7 a q_t Q_t z_t ++ (ra0 a (Q_t 12) 10 (gT z_t 12))) hP [0, 1, 2, 3, 4, 5, 6, 7, 8, 9, 10, 11, 12, 8] rfl)) (recvOf hK hP 0 rfl (ci := 7) rfl)) hl.1 rfl (Nat.le_of_ble_eq_true rfl) dX7_payOf_6 ⟨Nat.le_of_ble_eq_true rfl, Nat.le_of_ble_eq_true rfl⟩) ?_
  exact rRi C rfl (Option.some.inj h) dX7_payOf_9

set_option maxHeartbeats 4000000 in
set_option maxRecDepth 100000 in
theorem mX7_readFault (l : Launch) (D : va_G) (a : Nat → ClassId) {q_t : Nat} {q_p1 : Nat} {Q_t : Nat → Nat} {z_t : Sx} {Q_p1 : Nat → Nat} {z_p1 : Sx} {y : Sx × Sx} (h : fX7_readFault z_t z_p1 = some y) (sz : Nat) : CMv (S := Unit) l MX7_readFault 2 44 0 0 D a [.ref q_t, .ref q_p1] (rc7 a q_t Q_t z_t ++ (rc6 a q_p1 Q_p1 z_p1)) sz (fun _ => True) (fun _ => rc7 a q_t Q_t y.1 ++ (rc6 a q_p1 Q_p1 y.2)) := by
  unfold fX7_readFault at h
  refine entMv (by decide) (Nat.le_of_ble_eq_true rfl) ?_
  intro p e s m below meth c C hK A hA hP hD ls hl
  obtain ⟨hx, hb, hml, hown, hts, hr, hlocks, hnm⟩ := id C
  have hb : c.code = cX7_readFault := hb
  have hown : s.vm.findClass RX7 = some m.cls := hown
  have hS : va_S A s.heap s.heap [] := va_S.rf
  have hl : lv_has ls 3 [(0, .ref q_t), (1, .ref q_p1)] := hl
  refine lv_aload_n hx hb dX7_readFault_0 rfl (lv_at hl 1 rfl) ?_
  refine lv_iconst (v := 0) hx hb dX7_readFault_1 (by decide) ?_
  refine lv_aload_n hx hb dX7_readFault_2 rfl (lv_at hl 0 rfl) ?_
  refine va_get (D := D) (v := .int (gI z_t 2)) (C := RX7) (T := TX7) (N := 18) hx hb hts iX7 hown hK.1 hP 0 rfl rfl 2 (by decide) (hts _ t_42) (fun _ h9 => h9) rfl dX7_readFault_3 ?_
  refine lv_iconst (v := 1) hx hb dX7_readFault_6 (by decide) ?_
  refine lv_isub hx hb dX7_readFault_7 ?_
  obtain ⟨r2, z3, hc1, h⟩ := bd2_some h
  refine cMi (runV (As := [.int 0, .int ((gI z_t 2) - 1)]) (rest := []) C (mX6_takeNumber l D a (q_t := q_p1) (Q_t := Q_p1) hc1 s.heap.size) lk_V_7_105 okN_X6_takeNumber ⟨Nat.le_of_ble_eq_true rfl, Nat.le_of_ble_eq_true rfl⟩ ⟨rfl, rfl⟩ (preV (preM hK (P_of_map (wc := rc6 a q_p1 Q_p1 z_p1) hP [13, 14, 15, 16] rfl) (hD.sub (ws' := rc6 a q_p1 Q_p1 z_p1) [13, 14, 15, 16] (by decide) rfl)) (recvOf hK hP 13 rfl (ci := 6) rfl)) hl.1 rfl (Nat.le_of_ble_eq_true rfl) dX7_readFault_8 ⟨Nat.le_of_ble_eq_true rfl, Nat.le_of_ble_eq_true rfl⟩) hP hD hS hA [13, 14, 15, 16] [0, 1, 2, 3, 4, 5, 6, 7, 8, 9, 10, 11, 12] [0, 1, 2, 3, 4, 5, 6, 7, 8, 9, 10, 11, 12, 13, 14, 15, 16] rfl rfl (by decide) (by decide) (fw := rc7 a q_t Q_t z_t ++ (rc6 a q_p1 Q_p1 z3)) rfl (by decide) (fun H locs hP hD hS => ?_)
  have hP : va_P D classes (rc7 a q_t Q_t z_t ++ (rc6 a q_p1 Q_p1 z3)) H := hP
  have hD : va_D A (rc7 a q_t Q_t z_t ++ (rc6 a q_p1 Q_p1 z3)) := hD
  refine lv_istore_n (lv' := [(2, .int r2), (0, .ref q_t), (1, .ref q_p1)]) hx hb dX7_readFault_11 rfl hl (by decide) rfl (fun ls hl => ?_)
  refine lv_aload_n hx hb dX7_readFault_12 rfl (lv_at hl 1 rfl) ?_
  refine va_get (D := D) (v := .ref (Q_t 8)) (C := RX7) (T := TX7) (N := 18) hx hb hts iX7 hown hK.1 hP 0 rfl rfl 8 (by decide) (hts _ t_55) (fun _ h9 => h9) rfl dX7_readFault_13 ?_
  refine lv_aload_n hx hb dX7_readFault_16 rfl (lv_at hl 1 rfl) ?_
  refine va_get (D := D) (v := .int (gI z_t 3)) (C := RX7) (T := TX7) (N := 18) hx hb hts iX7 hown hK.1 hP 0 rfl rfl 3 (by decide) (hts _ t_44) (fun _ h9 => h9) rfl dX7_readFault_17 ?_
  refine lv_iload_n hx hb dX7_readFault_20 rfl (lv_at hl 0 rfl) ?_
  obtain ⟨z5, hc4, h⟩ := bd_some h
  refine cMv (runN (As := [.ref (Q_t 8), .int (gI z_t 3), .int r2]) (rest := []) C hK (mX8_put l D a (q_p0 := (Q_t 8)) hc4 H.size) lk_N_7_88 okN_X8_put ⟨Nat.le_of_ble_eq_true rfl, Nat.le_of_ble_eq_true rfl⟩ ⟨rfl, rfl⟩ (preM hK (P_of_map (wc := ra0 a (Q_t 8) 10 (gT z_t 8)) hP [4] rfl) (hD.sub (ws' := ra0 a (Q_t 8) 10 (gT z_t 8)) [4] (by decide) rfl)) hl.1 rfl (Nat.le_of_ble_eq_true rfl) dX7_readFault_21 ⟨Nat.le_of_ble_eq_true rfl, Nat.le_of_ble_eq_true rfl⟩) hP hD hS hA [4] [0, 1, 2, 3, 5, 6, 7, 8, 9, 10, 11, 12, 13, 14, 15, 16] [0, 1, 2, 3, 16, 4, 5, 6, 7, 8, 9, 10, 11, 12, 13, 14, 15] rfl rfl (by decide) (by decide) (fw := rc7 a q_t Q_t (sTf z_t 8 z5) ++ (rc6 a q_p1 Q_p1 z3)) rfl (by decide) (fun H locs hP hD hS => ?_)
  have hP : va_P D classes (rc7 a q_t Q_t (sTf z_t 8 z5) ++ (rc6 a q_p1 Q_p1 z3)) H := hP
  have hD : va_D A (rc7 a q_t Q_t (sTf z_t 8 z5) ++ (rc6 a q_p1 Q_p1 z3)) := hD
  refine lv_aload_n hx hb dX7_readFault_24 rfl (lv_at hl 1 rfl) ?_
  refine va_get (D := D) (v := .ref (Q_t 9)) (C := RX7) (T := TX7) (N := 18) hx hb hts iX7 hown hK.1 hP 0 rfl rfl 9 (by decide) (hts _ t_58) (fun _ h9 => h9) rfl dX7_readFault_25 ?_
  refine lv_aload_n hx hb dX7_readFault_28 rfl (lv_at hl 1 rfl) ?_
  refine va_get (D := D) (v := .int (gI z_t 3)) (C := RX7) (T := TX7) (N := 18) hx hb hts iX7 hown hK.1 hP 0 rfl rfl 3 (by decide) (hts _ t_44) (fun _ h9 => h9) rfl dX7_readFault_29 ?_
  refine lv_aload_n hx hb dX7_readFault_32 rfl (lv_at hl 2 rfl) ?_
  refine lv_iconst (v := 1) hx hb dX7_readFault_33 (by decide) ?_
  refine lv_bipush (v := 99) hx hb dX7_readFault_34 (by decide) ?_
  obtain ⟨r7, z8, hc6, h⟩ := bd2_some h
  refine cMi (runV (As := [.int 1, .int 99]) (rest := [.int (gI z_t 3), .ref (Q_t 9)]) C (mX6_takeNumber l D a (q_t := q_p1) (Q_t := Q_p1) hc6 H.size) lk_V_7_105 okN_X6_takeNumber ⟨Nat.le_of_ble_eq_true rfl, Nat.le_of_ble_eq_true rfl⟩ ⟨rfl, rfl⟩ (preV (preM hK (P_of_map (wc := rc6 a q_p1 Q_p1 z3) hP [13, 14, 15, 16] rfl) (hD.sub (ws' := rc6 a q_p1 Q_p1 z3) [13, 14, 15, 16] (by decide) rfl)) (recvOf hK hP 13 rfl (ci := 6) rfl)) hl.1 rfl (Nat.le_of_ble_eq_true rfl) dX7_readFault_36 ⟨Nat.le_of_ble_eq_true rfl, Nat.le_of_ble_eq_true rfl⟩) hP hD hS hA [13, 14, 15, 16] [0, 1, 2, 3, 4, 5, 6, 7, 8, 9, 10, 11, 12] [0, 1, 2, 3, 4, 5, 6, 7, 8, 9, 10, 11, 12, 13, 14, 15, 16] rfl rfl (by decide) (by decide) (fw := rc7 a q_t Q_t (sTf z_t 8 z5) ++ (rc6 a q_p1 Q_p1 z8)) rfl (by decide) (fun H locs hP hD hS => ?_)
  have hP : va_P D classes (rc7 a q_t Q_t (sTf z_t 8 z5) ++ (rc6 a q_p1 Q_p1 z8)) H := hP
  have hD : va_D A (rc7 a q_t Q_t (sTf z_t 8 z5) ++ (rc6 a q_p1 Q_p1 z8)) := hD
  obtain ⟨z10, hc9, h⟩ := bd_some h
  refine cMv (runN (As := [.ref (Q_t 9), .int (gI z_t 3), .int r7]) (rest := []) C hK (mX8_put l D a (q_p0 := (Q_t 9)) hc9 H.size) lk_N_7_88 okN_X8_put ⟨Nat.le_of_ble_eq_true rfl, Nat.le_of_ble_eq_true rfl⟩ ⟨rfl, rfl⟩ (preM hK (P_of_map (wc := ra0 a (Q_t 9) 10 (gT (sTf z_t 8 z5) 9)) hP [5] rfl) (hD.sub (ws' := ra0 a (Q_t 9) 10 (gT (sTf z_t 8 z5) 9)) [5] (by decide) rfl)) hl.1 rfl (Nat.le_of_ble_eq_true rfl) dX7_readFault_39 ⟨Nat.le_of_ble_eq_true rfl, Nat.le_of_ble_eq_true rfl⟩) hP hD hS hA [5] [0, 1, 2, 3, 4, 6, 7, 8, 9, 10, 11, 12, 13, 14, 15, 16] [0, 1, 2, 3, 4, 16, 5, 6, 7, 8, 9, 10, 11, 12, 13, 14, 15] rfl rfl (by decide) (by decide) (fw := rc7 a q_t Q_t (sTf (sTf z_t 8 z5) 9 z10) ++ (rc6 a q_p1 Q_p1 z8)) rfl (by decide) (fun H locs hP hD hS => ?_)
  have hP : va_P D classes (rc7 a q_t Q_t (sTf (sTf z_t 8 z5) 9 z10) ++ (rc6 a q_p1 Q_p1 z8)) H := hP
  have hD : va_D A (rc7 a q_t Q_t (sTf (sTf z_t 8 z5) 9 z10) ++ (rc6 a q_p1 Q_p1 z8)) := hD
  refine lv_aload_n hx hb dX7_readFault_42 rfl (lv_at hl 1 rfl) ?_
  refine va_get (D := D) (v := .ref (Q_t 10)) (C := RX7) (T := TX7) (N := 18) hx hb hts iX7 hown hK.1 hP 0 rfl rfl 10 (by decide) (hts _ t_63) (fun _ h9 => h9) rfl dX7_readFault_43 ?_
  refine lv_aload_n hx hb dX7_readFault_46 rfl (lv_at hl 1 rfl) ?_
  refine va_get (D := D) (v := .int (gI z_t 3)) (C := RX7) (T := TX7) (N := 18) hx hb hts iX7 hown hK.1 hP 0 rfl rfl 3 (by decide) (hts _ t_44) (fun _ h9 => h9) rfl dX7_readFault_47 ?_
  refine lv_aload_n hx hb dX7_readFault_50 rfl (lv_at hl 2 rfl) ?_
  refine lv_iconst (v := 0) hx hb dX7_readFault_51 (by decide) ?_
  refine lv_bipush (v := 100) hx hb dX7_readFault_52 (by decide) ?_
  obtain ⟨r12, z13, hc11, h⟩ := bd2_some h
  refine cMi (runV (As := [.int 0, .int 100]) (rest := [.int (gI z_t 3), .ref (Q_t 10)]) C (mX6_takeNumber l D a (q_t := q_p1) (Q_t := Q_p1) hc11 H.size) lk_V_7_105 okN_X6_takeNumber ⟨Nat.le_of_ble_eq_true rfl, Nat.le_of_ble_eq_true rfl⟩ ⟨rfl, rfl⟩ (preV (preM hK (P_of_map (wc := rc6 a q_p1 Q_p1 z8) hP [13, 14, 15, 16] rfl) (hD.sub (ws' := rc6 a q_p1 Q_p1 z8) [13, 14, 15, 16] (by decide) rfl)) (recvOf hK hP 13 rfl (ci := 6) rfl)) hl.1 rfl (Nat.le_of_ble_eq_true rfl) dX7_readFault_54 ⟨Nat.le_of_ble_eq_true rfl, Nat.le_of_ble_eq_true rfl⟩) hP hD hS hA [13, 14, 15, 16] [0, 1, 2, 3, 4, 5, 6, 7, 8, 9, 10, 11, 12] [0, 1, 2, 3, 4, 5, 6, 7, 8, 9, 10, 11, 12, 13, 14, 15, 16] rfl rfl (by decide) (by decide) (fw := rc7 a q_t Q_t (sTf (sTf z_t 8 z5) 9 z10) ++ (rc6 a q_p1 Q_p1 z13)) rfl (by decide) (fun H locs hP hD hS => ?_)
  have hP : va_P D classes (rc7 a q_t Q_t (sTf (sTf z_t 8 z5) 9 z10) ++ (rc6 a q_p1 Q_p1 z13)) H := hP
  have hD : va_D A (rc7 a q_t Q_t (sTf (sTf z_t 8 z5) 9 z10) ++ (rc6 a q_p1 Q_p1 z13)) := hD
  obtain ⟨z15, hc14, h⟩ := bd_some h
  refine cMv (runN (As := [.ref (Q_t 10), .int (gI z_t 3), .int r12]) (rest := []) C hK (mX8_put l D a (q_p0 := (Q_t 10)) hc14 H.size) lk_N_7_88 okN_X8_put ⟨Nat.le_of_ble_eq_true rfl, Nat.le_of_ble_eq_true rfl⟩ ⟨rfl, rfl⟩ (preM hK (P_of_map (wc := ra0 a (Q_t 10) 10 (gT (sTf (sTf z_t 8 z5) 9 z10) 10)) hP [6] rfl) (hD.sub (ws' := ra0 a (Q_t 10) 10 (gT (sTf (sTf z_t 8 z5) 9 z10) 10)) [6] (by decide) rfl)) hl.1 rfl (Nat.le_of_ble_eq_true rfl) dX7_readFault_57 ⟨Nat.le_of_ble_eq_true rfl, Nat.le_of_ble_eq_true rfl⟩) hP hD hS hA [6] [0, 1, 2, 3, 4, 5, 7, 8, 9, 10, 11, 12, 13, 14, 15, 16] [0, 1, 2, 3, 4, 5, 16, 6, 7, 8, 9, 10, 11, 12, 13, 14, 15] rfl rfl (by decide) (by decide) (fw := rc7 a q_t Q_t (sTf (sTf (sTf z_t 8 z5) 9 z10) 10 z15) ++ (rc6 a q_p1 Q_p1 z13)) rfl (by decide) (fun H locs hP hD hS => ?_)
  have hP : va_P D classes (rc7 a q_t Q_t (sTf (sTf (sTf z_t 8 z5) 9 z10) 10 z15) ++ (rc6 a q_p1 Q_p1 z13)) H := hP
  have hD : va_D A (rc7 a q_t Q_t (sTf (sTf (sTf z_t 8 z5) 9 z10) 10 z15) ++ (rc6 a q_p1 Q_p1 z13)) := hD
  refine lv_aload_n hx hb dX7_readFault_60 rfl (lv_at hl 1 rfl) ?_
  refine va_get (D := D) (v := .ref (Q_t 11)) (C := RX7) (T := TX7) (N := 18) hx hb hts iX7 hown hK.1 hP 0 rfl rfl 11 (by decide) (hts _ t_68) (fun _ h9 => h9) rfl dX7_readFault_61 ?_
  refine lv_aload_n hx hb dX7_readFault_64 rfl (lv_at hl 1 rfl) ?_
  refine va_get (D := D) (v := .int (gI z_t 3)) (C := RX7) (T := TX7) (N := 18) hx hb hts iX7 hown hK.1 hP 0 rfl rfl 3 (by decide) (hts _ t_44) (fun _ h9 => h9) rfl dX7_readFault_65 ?_
  refine lv_iconst (v := (-1)) hx hb dX7_readFault_68 (by decide) ?_
  obtain ⟨z17, hc16, h⟩ := bd_some h
  refine cMv (runN (As := [.ref (Q_t 11), .int (gI z_t 3), .int (-1)]) (rest := []) C hK (mX8_put l D a (q_p0 := (Q_t 11)) hc16 H.size) lk_N_7_88 okN_X8_put ⟨Nat.le_of_ble_eq_true rfl, Nat.le_of_ble_eq_true rfl⟩ ⟨rfl, rfl⟩ (preM hK (P_of_map (wc := ra0 a (Q_t 11) 10 (gT (sTf (sTf (sTf z_t 8 z5) 9 z10) 10 z15) 11)) hP [7] rfl) (hD.sub (ws' := ra0 a (Q_t 11) 10 (gT (sTf (sTf (sTf z_t 8 z5) 9 z10) 10 z15) 11)) [7] (by decide) rfl)) hl.1 rfl (Nat.le_of_ble_eq_true rfl) dX7_readFault_69 ⟨Nat.le_of_ble_eq_true rfl, Nat.le_of_ble_eq_true rfl⟩) hP hD hS hA [7] [0, 1, 2, 3, 4, 5, 6, 8, 9, 10, 11, 12, 13, 14, 15, 16] [0, 1, 2, 3, 4, 5, 6, 16, 7, 8, 9, 10, 11, 12, 13, 14, 15] rfl rfl (by decide) (by decide) (fw := rc7 a q_t Q_t (sTf (sTf (sTf (sTf z_t 8 z5) 9 z10) 10 z15) 11 z17) ++ (rc6 a q_p1 Q_p1 z13)) rfl (by decide) (fun H locs hP hD hS => ?_)
  have hP : va_P D classes (rc7 a q_t Q_t (sTf (sTf (sTf (sTf z_t 8 z5) 9 z10) 10 z15) 11 z17) ++ (rc6 a q_p1 Q_p1 z13)) H := hP
  have hD : va_D A (rc7 a q_t Q_t (sTf (sTf (sTf (sTf z_t 8 z5) 9 z10) 10 z15) 11 z17) ++ (rc6 a q_p1 Q_p1 z13)) := hD
  refine lv_aload_n hx hb dX7_readFault_72 rfl (lv_at hl 2 rfl) ?_
  refine va_get (D := D) (v := .int (gI z13 8)) (C := RX6) (T := TX6) (N := 9) hx hb hts iX6 hown hK.1 hP 13 rfl rfl 8 (by decide) (hts _ t_222) (fun _ h9 => h9) rfl dX7_readFault_73 ?_
  obtain ⟨J18, eJ18, h⟩ := jn_some h
  have hJ18 : ∀ (z19 : Sx) (z20 : Sx) (H : Heap) (locs : List Loc) (ls : Array Slot), J18 z19 z20 = some y → va_P D classes (rc7 a q_t Q_t z19 ++ (rc6 a q_p1 Q_p1 z20)) H → va_D A (rc7 a q_t Q_t z19 ++ (rc6 a q_p1 Q_p1 z20)) → va_S A s.heap H locs → lv_has ls 3 [(0, .ref q_t), (2, .int r2)] → W p l e (rmM 2 0 0 44) s m #[.ref q_t, .ref q_p1] below meth c H locs 0 0 (MQ below (va_Qv (fun (_ : Unit) => True) (Bw D A (fun _ => rc7 a q_t Q_t y.1 ++ (rc6 a q_p1 Q_p1 y.2))) A) #[.ref q_t, .ref q_p1] s 0 0 A) (F0 m 115 ls []) := by
    intro z19 z20 H locs ls h hP hD hS hl
    rw [eJ18] at h
    refine lv_aload_n hx hb dX7_readFault_115 rfl (lv_at hl 0 rfl) ?_
    refine va_get (D := D) (v := .ref (Q_t 12)) (C := RX7) (T := TX7) (N := 18) hx hb hts iX7 hown hK.1 hP 0 rfl rfl 12 (by decide) (hts _ t_70) (fun _ h9 => h9) rfl dX7_readFault_116 ?_
    refine lv_aload_n hx hb dX7_readFault_119 rfl (lv_at hl 0 rfl) ?_
    refine va_get (D := D) (v := .int (gI z19 3)) (C := RX7) (T := TX7) (N := 18) hx hb hts iX7 hown hK.1 hP 0 rfl rfl 3 (by decide) (hts _ t_44) (fun _ h9 => h9) rfl dX7_readFault_120 ?_
    refine lv_aload_n hx hb dX7_readFault_123 rfl (lv_at hl 0 rfl) ?_
    refine va_get (D := D) (v := .ref (Q_t 5)) (C := RX7) (T := TX7) (N := 18) hx hb hts iX7 hown hK.1 hP 0 rfl rfl 5 (by decide) (hts _ t_49) (fun _ h9 => h9) rfl dX7_readFault_124 ?_
    refine lv_iload_n hx hb dX7_readFault_127 rfl (lv_at hl 1 rfl) ?_
    obtain ⟨r22, hc21, h⟩ := bd_some h
    refine cRi (runN (As := [.ref (Q_t 5), .int r2]) (rest := [.int (gI z19 3), .ref (Q_t 12)]) C hK (mX8_at l D a (q_p0 := (Q_t 5)) hc21) lk_N_7_78 okN_X8_at ⟨Nat.le_of_ble_eq_true rfl, Nat.le_of_ble_eq_true rfl⟩ ⟨rfl, rfl⟩ (preR hK (P_of_map (wc := ra0 a (Q_t 5) 6 (gT z19 5)) hP [1] rfl)) hl.1 rfl (Nat.le_of_ble_eq_true rfl) dX7_readFault_128 ⟨Nat.le_of_ble_eq_true rfl, Nat.le_of_ble_eq_true rfl⟩) ?_
    obtain ⟨z24, hc23, h⟩ := bd_some h
    refine cMv (runN (As := [.ref (Q_t 12), .int (gI z19 3), .int r22]) (rest := []) C hK (mX8_put l D a (q_p0 := (Q_t 12)) hc23 H.size) lk_N_7_88 okN_X8_put ⟨Nat.le_of_ble_eq_true rfl, Nat.le_of_ble_eq_true rfl⟩ ⟨rfl, rfl⟩ (preM hK (P_of_map (wc := ra0 a (Q_t 12) 10 (gT z19 12)) hP [8] rfl) (hD.sub (ws' := ra0 a (Q_t 12) 10 (gT z19 12)) [8] (by decide) rfl)) hl.1 rfl (Nat.le_of_ble_eq_true rfl) dX7_readFault_131 ⟨Nat.le_of_ble_eq_true rfl, Nat.le_of_ble_eq_true rfl⟩) hP hD hS hA [8] [0, 1, 2, 3, 4, 5, 6, 7, 9, 10, 11, 12, 13, 14, 15, 16] [0, 1, 2, 3, 4, 5, 6, 7, 16, 8, 9, 10, 11, 12, 13, 14, 15] rfl rfl (by decide) (by decide) (fw := rc7 a q_t Q_t (sTf z19 12 z24) ++ (rc6 a q_p1 Q_p1 z20)) rfl (by decide) (fun H locs hP hD hS => ?_)
    have hP : va_P D classes (rc7 a q_t Q_t (sTf z19 12 z24) ++ (rc6 a q_p1 Q_p1 z20)) H := hP
    have hD : va_D A (rc7 a q_t Q_t (sTf z19 12 z24) ++ (rc6 a q_p1 Q_p1 z20)) := hD
    refine lv_aload_n hx hb dX7_readFault_134 rfl (lv_at hl 0 rfl) ?_
    refine va_get (D := D) (v := .ref (Q_t 13)) (C := RX7) (T := TX7) (N := 18) hx hb hts iX7 hown hK.1 hP 0 rfl rfl 13 (by decide) (hts _ t_75) (fun _ h9 => h9) rfl dX7_readFault_135 ?_
    refine lv_aload_n hx hb dX7_readFault_138 rfl (lv_at hl 0 rfl) ?_
    refine va_get (D := D) (v := .int (gI z19 3)) (C := RX7) (T := TX7) (N := 18) hx hb hts iX7 hown hK.1 hP 0 rfl rfl 3 (by decide) (hts _ t_44) (fun _ h9 => h9) rfl dX7_readFault_139 ?_
    refine lv_aload_n hx hb dX7_readFault_142 rfl (lv_at hl 0 rfl) ?_
    refine va_get (D := D) (v := .ref (Q_t 6)) (C := RX7) (T := TX7) (N := 18) hx hb hts iX7 hown hK.1 hP 0 rfl rfl 6 (by decide) (hts _ t_51) (fun _ h9 => h9) rfl dX7_readFault_143 ?_
    refine lv_iload_n hx hb dX7_readFault_146 rfl (lv_at hl 1 rfl) ?_
    obtain ⟨r26, hc25, h⟩ := bd_some h
    refine cRi (runN (As := [.ref (Q_t 6), .int r2]) (rest := [.int (gI z19 3), .ref (Q_t 13)]) C hK (mX8_at l D a (q_p0 := (Q_t 6)) hc25) lk_N_7_78 okN_X8_at ⟨Nat.le_of_ble_eq_true rfl, Nat.le_of_ble_eq_true rfl⟩ ⟨rfl, rfl⟩ (preR hK (P_of_map (wc := ra0 a (Q_t 6) 6 (gT (sTf z19 12 z24) 6)) hP [2] rfl)) hl.1 rfl (Nat.le_of_ble_eq_true rfl) dX7_readFault_147 ⟨Nat.le_of_ble_eq_true rfl, Nat.le_of_ble_eq_true rfl⟩) ?_
    obtain ⟨z28, hc27, h⟩ := bd_some h
    refine cMv (runN (As := [.ref (Q_t 13), .int (gI z19 3), .int r26]) (rest := []) C hK (mX8_put l D a (q_p0 := (Q_t 13)) hc27 H.size) lk_N_7_88 okN_X8_put ⟨Nat.le_of_ble_eq_true rfl, Nat.le_of_ble_eq_true rfl⟩ ⟨rfl, rfl⟩ (preM hK (P_of_map (wc := ra0 a (Q_t 13) 10 (gT (sTf z19 12 z24) 13)) hP [9] rfl) (hD.sub (ws' := ra0 a (Q_t 13) 10 (gT (sTf z19 12 z24) 13)) [9] (by decide) rfl)) hl.1 rfl (Nat.le_of_ble_eq_true rfl) dX7_readFault_150 ⟨Nat.le_of_ble_eq_true rfl, Nat.le_of_ble_eq_true rfl⟩) hP hD hS hA [9] [0, 1, 2, 3, 4, 5, 6, 7, 8, 10, 11, 12, 13, 14, 15, 16] [0, 1, 2, 3, 4, 5, 6, 7, 8, 16, 9, 10, 11, 12, 13, 14, 15] rfl rfl (by decide) (by decide) (fw := rc7 a q_t Q_t (sTf (sTf z19 12 z24) 13 z28) ++ (rc6 a q_p1 Q_p1 z20)) rfl (by decide) (fun H locs hP hD hS => ?_)
    have hP : va_P D classes (rc7 a q_t Q_t (sTf (sTf z19 12 z24) 13 z28) ++ (rc6 a q_p1 Q_p1 z20)) H := hP
    have hD : va_D A (rc7 a q_t Q_t (sTf (sTf z19 12 z24) 13 z28) ++ (rc6 a q_p1 Q_p1 z20)) := hD
    refine lv_aload_n hx hb dX7_readFault_153 rfl (lv_at hl 0 rfl) ?_
    refine va_get (D := D) (v := .ref (Q_t 14)) (C := RX7) (T := TX7) (N := 18) hx hb hts iX7 hown hK.1 hP 0 rfl rfl 14 (by decide) (hts _ t_76) (fun _ h9 => h9) rfl dX7_readFault_154 ?_
    refine lv_aload_n hx hb dX7_readFault_157 rfl (lv_at hl 0 rfl) ?_
    refine va_get (D := D) (v := .int (gI z19 3)) (C := RX7) (T := TX7) (N := 18) hx hb hts iX7 hown hK.1 hP 0 rfl rfl 3 (by decide) (hts _ t_44) (fun _ h9 => h9) rfl dX7_readFault_158 ?_
    refine lv_aload_n hx hb dX7_readFault_161 rfl (lv_at hl 0 rfl) ?_
    refine va_get (D := D) (v := .ref (Q_t 7)) (C := RX7) (T := TX7) (N := 18) hx hb hts iX7 hown hK.1 hP 0 rfl rfl 7 (by decide) (hts _ t_53) (fun _ h9 => h9) rfl dX7_readFault_162 ?_
    refine lv_iload_n hx hb dX7_readFault_165 rfl (lv_at hl 1 rfl) ?_
    obtain ⟨r30, hc29, h⟩ := bd_some h
    refine cRi (runN (As := [.ref (Q_t 7), .int r2]) (rest := [.int (gI z19 3), .ref (Q_t 14)]) C hK (mX8_at l D a (q_p0 := (Q_t 7)) hc29) lk_N_7_78 okN_X8_at ⟨Nat.le_of_ble_eq_true rfl, Nat.le_of_ble_eq_true rfl⟩ ⟨rfl, rfl⟩ (preR hK (P_of_map (wc := ra0 a (Q_t 7) 6 (gT (sTf (sTf z19 12 z24) 13 z28) 7)) hP [3] rfl)) hl.1 rfl (Nat.le_of_ble_eq_true rfl) dX7_readFault_166 ⟨Nat.le_of_ble_eq_true rfl, Nat.le_of_ble_eq_true rfl⟩) ?_
    obtain ⟨z32, hc31, h⟩ := bd_some h
    refine cMv (runN (As := [.ref (Q_t 14), .int (gI z19 3), .int r30]) (rest := []) C hK (mX8_put l D a (q_p0 := (Q_t 14)) hc31 H.size) lk_N_7_88 okN_X8_put ⟨Nat.le_of_ble_eq_true rfl, Nat.le_of_ble_eq_true rfl⟩ ⟨rfl, rfl⟩ (preM hK (P_of_map (wc := ra0 a (Q_t 14) 10 (gT (sTf (sTf z19 12 z24) 13 z28) 14)) hP [10] rfl) (hD.sub (ws' := ra0 a (Q_t 14) 10 (gT (sTf (sTf z19 12 z24) 13 z28) 14)) [10] (by decide) rfl)) hl.1 rfl (Nat.le_of_ble_eq_true rfl) dX7_readFault_169 ⟨Nat.le_of_ble_eq_true rfl, Nat.le_of_ble_eq_true rfl⟩) hP hD hS hA [10] [0, 1, 2, 3, 4, 5, 6, 7, 8, 9, 11, 12, 13, 14, 15, 16] [0, 1, 2, 3, 4, 5, 6, 7, 8, 9, 16, 10, 11, 12, 13, 14, 15] rfl rfl (by decide) (by decide) (fw := rc7 a q_t Q_t (sTf (sTf (sTf z19 12 z24) 13 z28) 14 z32) ++ (rc6 a q_p1 Q_p1 z20)) rfl (by decide) (fun H locs hP hD hS => ?_)
    have hP : va_P D classes (rc7 a q_t Q_t (sTf (sTf (sTf z19 12 z24) 13 z28) 14 z32) ++ (rc6 a q_p1 Q_p1 z20)) H := hP
    have hD : va_D A (rc7 a q_t Q_t (sTf (sTf (sTf z19 12 z24) 13 z28) 14 z32) ++ (rc6 a q_p1 Q_p1 z20)) := hD
    refine lv_aload_n hx hb dX7_readFault_172 rfl (lv_at hl 0 rfl) ?_
    refine lv_dup hx hb dX7_readFault_173 rfl ?_
    refine va_get (D := D) (v := .int (gI z19 3)) (C := RX7) (T := TX7) (N := 18) hx hb hts iX7 hown hK.1 hP 0 rfl rfl 3 (by decide) (hts _ t_44) (fun _ h9 => h9) rfl dX7_readFault_174 ?_
    refine lv_iconst (v := 1) hx hb dX7_readFault_177 (by decide) ?_
    refine lv_iadd hx hb dX7_readFault_178 ?_
    refine va_put (D := D) (v := .int ((gI z19 3) + 1)) (C := RX7) (T := TX7) (N := 18) hx hb hts iX7 tyX7 tyX7_ok nmX7 hown hK.1 hP hD hS 0 rfl rfl 3 (by decide) (hts _ t_44) (fun _ h9 => h9) rfl (tyX7_ok 3 (by decide)) rfl rfl (Nat.le_of_ble_eq_true rfl) dX7_readFault_179 (fun H locs hP hD hS => ?_)
    have hP : va_P D classes (rc7 a q_t Q_t (sI (sTf (sTf (sTf z19 12 z24) 13 z28) 14 z32) 3 ((gI z19 3) + 1)) ++ (rc6 a q_p1 Q_p1 z20)) H := hP
    have hD : va_D A (rc7 a q_t Q_t (sI (sTf (sTf (sTf z19 12 z24) 13 z28) 14 z32) 3 ((gI z19 3) + 1)) ++ (rc6 a q_p1 Q_p1 z20)) := hD
    exact rMv C rfl h (g := fun y => rc7 a q_t Q_t y.1 ++ (rc6 a q_p1 Q_p1 y.2)) hP hD hS dX7_readFault_182
  refine lv_if_ne (tgt := 115) hx hb dX7_readFault_76 (by decide) (fun c33 => ?_) (fun c33 => ?_)
  · have h := ite_f c33 h
    exact hJ18 (sTf (sTf (sTf (sTf z_t 8 z5) 9 z10) 10 z15) 11 z17) z13 _ _ ls h hP hD hS (lv_sub hl [1, 0] rfl)
  · have h := ite_t c33 h
    refine lv_aload_n hx hb dX7_readFault_79 rfl (lv_at hl 2 rfl) ?_
    refine va_get (D := D) (v := .int (gI z13 5)) (C := RX6) (T := TX6) (N := 9) hx hb hts iX6 hown hK.1 hP 13 rfl rfl 5 (by decide) (hts _ t_213) (fun _ h9 => h9) rfl dX7_readFault_80 ?_
    refine lv_sipush (v := 305) hx hb dX7_readFault_83 (by decide) ?_
    refine lv_icmp_ne (tgt := 115) hx hb dX7_readFault_86 (by decide) (fun c34 => ?_) (fun c34 => ?_)
    · have h := ite_f c34 h
      exact hJ18 (sTf (sTf (sTf (sTf z_t 8 z5) 9 z10) 10 z15) 11 z17) z13 _ _ ls h hP hD hS (lv_sub hl [1, 0] rfl)
    · have h := ite_t c34 h
      refine lv_aload_n hx hb dX7_readFault_89 rfl (lv_at hl 2 rfl) ?_
      obtain ⟨z36, hc35, h⟩ := bd_some h
      refine cMv (runV (As := []) (rest := []) C (mX6_step l D a (q_t := q_p1) (Q_t := Q_p1) hc35 H.size) lk_V_7_102 okN_X6_step ⟨Nat.le_of_ble_eq_true rfl, Nat.le_of_ble_eq_true rfl⟩ ⟨rfl, rfl⟩ (preV (preM hK (P_of_map (wc := rc6 a q_p1 Q_p1 z13) hP [13, 14, 15, 16] rfl) (hD.sub (ws' := rc6 a q_p1 Q_p1 z13) [13, 14, 15, 16] (by decide) rfl)) (recvOf hK hP 13 rfl (ci := 6) rfl)) hl.1 rfl (Nat.le_of_ble_eq_true rfl) dX7_readFault_90 ⟨Nat.le_of_ble_eq_true rfl, Nat.le_of_ble_eq_true rfl⟩) hP hD hS hA [13, 14, 15, 16] [0, 1, 2, 3, 4, 5, 6, 7, 8, 9, 10, 11, 12] [0, 1, 2, 3, 4, 5, 6, 7, 8, 9, 10, 11, 12, 13, 14, 15, 16] rfl rfl (by decide) (by decide) (fw := rc7 a q_t Q_t (sTf (sTf (sTf (sTf z_t 8 z5) 9 z10) 10 z15) 11 z17) ++ (rc6 a q_p1 Q_p1 z36)) rfl (by decide) (fun H locs hP hD hS => ?_)
      have hP : va_P D classes (rc7 a q_t Q_t (sTf (sTf (sTf (sTf z_t 8 z5) 9 z10) 10 z15) 11 z17) ++ (rc6 a q_p1 Q_p1 z36)) H := hP
      have hD : va_D A (rc7 a q_t Q_t (sTf (sTf (sTf (sTf z_t 8 z5) 9 z10) 10 z15) 11 z17) ++ (rc6 a q_p1 Q_p1 z36)) := hD
      refine lv_aload_n hx hb dX7_readFault_93 rfl (lv_at hl 1 rfl) ?_
      refine va_get (D := D) (v := .ref (Q_t 11)) (C := RX7) (T := TX7) (N := 18) hx hb hts iX7 hown hK.1 hP 0 rfl rfl 11 (by decide) (hts _ t_68) (fun _ h9 => h9) rfl dX7_readFault_94 ?_
      refine lv_aload_n hx hb dX7_readFault_97 rfl (lv_at hl 1 rfl) ?_
      refine va_get (D := D) (v := .int (gI z_t 3)) (C := RX7) (T := TX7) (N := 18) hx hb hts iX7 hown hK.1 hP 0 rfl rfl 3 (by decide) (hts _ t_44) (fun _ h9 => h9) rfl dX7_readFault_98 ?_
      refine lv_aload_n hx hb dX7_readFault_101 rfl (lv_at hl 2 rfl) ?_
      refine lv_iconst (v := 0) hx hb dX7_readFault_102 (by decide) ?_
      refine lv_aload_n hx hb dX7_readFault_103 rfl (lv_at hl 1 rfl) ?_
      refine va_get (D := D) (v := .int (gI z_t 3)) (C := RX7) (T := TX7) (N := 18) hx hb hts iX7 hown hK.1 hP 0 rfl rfl 3 (by decide) (hts _ t_44) (fun _ h9 => h9) rfl dX7_readFault_104 ?_
      refine lv_iconst (v := 1) hx hb dX7_readFault_107 (by decide) ?_
      refine lv_isub hx hb dX7_readFault_108 ?_
      obtain ⟨r38, z39, hc37, h⟩ := bd2_some h
      refine cMi (runV (As := [.int 0, .int ((gI z_t 3) - 1)]) (rest := [.int (gI z_t 3), .ref (Q_t 11)]) C (mX6_takeNumber l D a (q_t := q_p1) (Q_t := Q_p1) hc37 H.size) lk_V_7_105 okN_X6_takeNumber ⟨Nat.le_of_ble_eq_true rfl, Nat.le_of_ble_eq_true rfl⟩ ⟨rfl, rfl⟩ (preV (preM hK (P_of_map (wc := rc6 a q_p1 Q_p1 z36) hP [13, 14, 15, 16] rfl) (hD.sub (ws' := rc6 a q_p1 Q_p1 z36) [13, 14, 15, 16] (by decide) rfl)) (recvOf hK hP 13 rfl (ci := 6) rfl)) hl.1 rfl (Nat.le_of_ble_eq_true rfl) dX7_readFault_109 ⟨Nat.le_of_ble_eq_true rfl, Nat.le_of_ble_eq_true rfl⟩) hP hD hS hA [13, 14, 15, 16] [0, 1, 2, 3, 4, 5, 6, 7, 8, 9, 10, 11, 12] [0, 1, 2, 3, 4, 5, 6, 7, 8, 9, 10, 11, 12, 13, 14, 15, 16] rfl rfl (by decide) (by decide) (fw := rc7 a q_t Q_t (sTf (sTf (sTf (sTf z_t 8 z5) 9 z10) 10 z15) 11 z17) ++ (rc6 a q_p1 Q_p1 z39)) rfl (by decide) (fun H locs hP hD hS => ?_)
      have hP : va_P D classes (rc7 a q_t Q_t (sTf (sTf (sTf (sTf z_t 8 z5) 9 z10) 10 z15) 11 z17) ++ (rc6 a q_p1 Q_p1 z39)) H := hP
      have hD : va_D A (rc7 a q_t Q_t (sTf (sTf (sTf (sTf z_t 8 z5) 9 z10) 10 z15) 11 z17) ++ (rc6 a q_p1 Q_p1 z39)) := hD
      obtain ⟨z41, hc40, h⟩ := bd_some h
      refine cMv (runN (As := [.ref (Q_t 11), .int (gI z_t 3), .int r38]) (rest := []) C hK (mX8_put l D a (q_p0 := (Q_t 11)) hc40 H.size) lk_N_7_88 okN_X8_put ⟨Nat.le_of_ble_eq_true rfl, Nat.le_of_ble_eq_true rfl⟩ ⟨rfl, rfl⟩ (preM hK (P_of_map (wc := ra0 a (Q_t 11) 10 (gT (sTf (sTf (sTf (sTf z_t 8 z5) 9 z10) 10 z15) 11 z17) 11)) hP [7] rfl) (hD.sub (ws' := ra0 a (Q_t 11) 10 (gT (sTf (sTf (sTf (sTf z_t 8 z5) 9 z10) 10 z15) 11 z17) 11)) [7] (by decide) rfl)) hl.1 rfl (Nat.le_of_ble_eq_true rfl) dX7_readFault_112 ⟨Nat.le_of_ble_eq_true rfl, Nat.le_of_ble_eq_true rfl⟩) hP hD hS hA [7] [0, 1, 2, 3, 4, 5, 6, 8, 9, 10, 11, 12, 13, 14, 15, 16] [0, 1, 2, 3, 4, 5, 6, 16, 7, 8, 9, 10, 11, 12, 13, 14, 15] rfl rfl (by decide) (by decide) (fw := rc7 a q_t Q_t (sTf (sTf (sTf (sTf (sTf z_t 8 z5) 9 z10) 10 z15) 11 z17) 11 z41) ++ (rc6 a q_p1 Q_p1 z39)) rfl (by decide) (fun H locs hP hD hS => ?_)
      have hP : va_P D classes (rc7 a q_t Q_t (sTf (sTf (sTf (sTf (sTf z_t 8 z5) 9 z10) 10 z15) 11 z17) 11 z41) ++ (rc6 a q_p1 Q_p1 z39)) H := hP
      have hD : va_D A (rc7 a q_t Q_t (sTf (sTf (sTf (sTf (sTf z_t 8 z5) 9 z10) 10 z15) 11 z17) 11 z41) ++ (rc6 a q_p1 Q_p1 z39)) := hD
      exact hJ18 (sTf (sTf (sTf (sTf (sTf z_t 8 z5) 9 z10) 10 z15) 11 z17) 11 z41) z39 _ _ ls h hP hD hS (lv_sub hl [1, 0] rfl)

set_option maxHeartbeats 4000000 in
set_option maxRecDepth 100000 in
theorem mX7_readKind (l : Launch) (D : va_G) (a : Nat → ClassId) {q_t : Nat} {q_p1 : Nat} {Q_t : Nat → Nat} {z_t : Sx} {Q_p1 : Nat → Nat} {z_p1 : Sx} {y : Sx × Sx} (h : fX7_readKind z_t z_p1 = some y) (sz : Nat) : CMv (S := Unit) l MX7_readKind 2 44 0 0 D a [.ref q_t, .ref q_p1] (rc7 a q_t Q_t z_t ++ (rc6 a q_p1 Q_p1 z_p1)) sz (fun _ => True) (fun _ => rc7 a q_t Q_t y.1 ++ (rc6 a q_p1 Q_p1 y.2)) := by
  unfold fX7_readKind at h
  refine entMv (by decide) (Nat.le_of_ble_eq_true rfl) ?_
  intro p e s m below meth c C hK A hA hP hD ls hl
  obtain ⟨hx, hb, hml, hown, hts, hr, hlocks, hnm⟩ := id C
  have hb : c.code = cX7_readKind := hb
  have hown : s.vm.findClass RX7 = some m.cls := hown
  have hS : va_S A s.heap s.heap [] := va_S.rf
  have hl : lv_has ls 2 [(0, .ref q_t), (1, .ref q_p1)] := hl
  refine lv_aload_n hx hb dX7_readKind_0 rfl (lv_at hl 0 rfl) ?_
  refine va_get (D := D) (v := .ref (Q_t 5)) (C := RX7) (T := TX7) (N := 18) hx hb hts iX7 hown hK.1 hP 0 rfl rfl 5 (by decide) (hts _ t_49) (fun _ h9 => h9) rfl dX7_readKind_1 ?_
  refine lv_aload_n hx hb dX7_readKind_4 rfl (lv_at hl 0 rfl) ?_
  refine va_get (D := D) (v := .int (gI z_t 2)) (C := RX7) (T := TX7) (N := 18) hx hb hts iX7 hown hK.1 hP 0 rfl rfl 2 (by decide) (hts _ t_42) (fun _ h9 => h9) rfl dX7_readKind_5 ?_
  refine lv_aload_n hx hb dX7_readKind_8 rfl (lv_at hl 1 rfl) ?_
  refine lv_iconst (v := 0) hx hb dX7_readKind_9 (by decide) ?_
  refine lv_bipush (v := 99) hx hb dX7_readKind_10 (by decide) ?_
  obtain ⟨r2, z3, hc1, h⟩ := bd2_some h
  refine cMi (runV (As := [.int 0, .int 99]) (rest := [.int (gI z_t 2), .ref (Q_t 5)]) C (mX6_takeNumber l D a (q_t := q_p1) (Q_t := Q_p1) hc1 s.heap.size) lk_V_7_105 okN_X6_takeNumber ⟨Nat.le_of_ble_eq_true rfl, Nat.le_of_ble_eq_true rfl⟩ ⟨rfl, rfl⟩ (preV (preM hK (P_of_map (wc := rc6 a q_p1 Q_p1 z_p1) hP [13, 14, 15, 16] rfl) (hD.sub (ws' := rc6 a q_p1 Q_p1 z_p1) [13, 14, 15, 16] (by decide) rfl)) (recvOf hK hP 13 rfl (ci := 6) rfl)) hl.1 rfl (Nat.le_of_ble_eq_true rfl) dX7_readKind_12 ⟨Nat.le_of_ble_eq_true rfl, Nat.le_of_ble_eq_true rfl⟩) hP hD hS hA [13, 14, 15, 16] [0, 1, 2, 3, 4, 5, 6, 7, 8, 9, 10, 11, 12] [0, 1, 2, 3, 4, 5, 6, 7, 8, 9, 10, 11, 12, 13, 14, 15, 16] rfl rfl (by decide) (by decide) (fw := rc7 a q_t Q_t z_t ++ (rc6 a q_p1 Q_p1 z3)) rfl (by decide) (fun H locs hP hD hS => ?_)
  have hP : va_P D classes (rc7 a q_t Q_t z_t ++ (rc6 a q_p1 Q_p1 z3)) H := hP
  have hD : va_D A (rc7 a q_t Q_t z_t ++ (rc6 a q_p1 Q_p1 z3)) := hD
  obtain ⟨z5, hc4, h⟩ := bd_some h
  refine cMv (runN (As := [.ref (Q_t 5), .int (gI z_t 2), .int r2]) (rest := []) C hK (mX8_put l D a (q_p0 := (Q_t 5)) hc4 H.size) lk_N_7_88 okN_X8_put ⟨Nat.le_of_ble_eq_true rfl, Nat.le_of_ble_eq_true rfl⟩ ⟨rfl, rfl⟩ (preM hK (P_of_map (wc := ra0 a (Q_t 5) 6 (gT z_t 5)) hP [1] rfl) (hD.sub (ws' := ra0 a (Q_t 5) 6 (gT z_t 5)) [1] (by decide) rfl)) hl.1 rfl (Nat.le_of_ble_eq_true rfl) dX7_readKind_15 ⟨Nat.le_of_ble_eq_true rfl, Nat.le_of_ble_eq_true rfl⟩) hP hD hS hA [1] [0, 2, 3, 4, 5, 6, 7, 8, 9, 10, 11, 12, 13, 14, 15, 16] [0, 16, 1, 2, 3, 4, 5, 6, 7, 8, 9, 10, 11, 12, 13, 14, 15] rfl rfl (by decide) (by decide) (fw := rc7 a q_t Q_t (sTf z_t 5 z5) ++ (rc6 a q_p1 Q_p1 z3)) rfl (by decide) (fun H locs hP hD hS => ?_)
  have hP : va_P D classes (rc7 a q_t Q_t (sTf z_t 5 z5) ++ (rc6 a q_p1 Q_p1 z3)) H := hP
  have hD : va_D A (rc7 a q_t Q_t (sTf z_t 5 z5) ++ (rc6 a q_p1 Q_p1 z3)) := hD
  refine lv_aload_n hx hb dX7_readKind_18 rfl (lv_at hl 0 rfl) ?_
  refine va_get (D := D) (v := .ref (Q_t 6)) (C := RX7) (T := TX7) (N := 18) hx hb hts iX7 hown hK.1 hP 0 rfl rfl 6 (by decide) (hts _ t_51) (fun _ h9 => h9) rfl dX7_readKind_19 ?_
  refine lv_aload_n hx hb dX7_readKind_22 rfl (lv_at hl 0 rfl) ?_
  refine va_get (D := D) (v := .int (gI z_t 2)) (C := RX7) (T := TX7) (N := 18) hx hb hts iX7 hown hK.1 hP 0 rfl rfl 2 (by decide) (hts _ t_42) (fun _ h9 => h9) rfl dX7_readKind_23 ?_
  refine lv_aload_n hx hb dX7_readKind_26 rfl (lv_at hl 1 rfl) ?_
  refine lv_iconst (v := 0) hx hb dX7_readKind_27 (by decide) ?_
  refine lv_bipush (v := 99) hx hb dX7_readKind_28 (by decide) ?_
  obtain ⟨r7, z8, hc6, h⟩ := bd2_some h
  refine cMi (runV (As := [.int 0, .int 99]) (rest := [.int (gI z_t 2), .ref (Q_t 6)]) C (mX6_takeNumber l D a (q_t := q_p1) (Q_t := Q_p1) hc6 H.size) lk_V_7_105 okN_X6_takeNumber ⟨Nat.le_of_ble_eq_true rfl, Nat.le_of_ble_eq_true rfl⟩ ⟨rfl, rfl⟩ (preV (preM hK (P_of_map (wc := rc6 a q_p1 Q_p1 z3) hP [13, 14, 15, 16] rfl) (hD.sub (ws' := rc6 a q_p1 Q_p1 z3) [13, 14, 15, 16] (by decide) rfl)) (recvOf hK hP 13 rfl (ci := 6) rfl)) hl.1 rfl (Nat.le_of_ble_eq_true rfl) dX7_readKind_30 ⟨Nat.le_of_ble_eq_true rfl, Nat.le_of_ble_eq_true rfl⟩) hP hD hS hA [13, 14, 15, 16] [0, 1, 2, 3, 4, 5, 6, 7, 8, 9, 10, 11, 12] [0, 1, 2, 3, 4, 5, 6, 7, 8, 9, 10, 11, 12, 13, 14, 15, 16] rfl rfl (by decide) (by decide) (fw := rc7 a q_t Q_t (sTf z_t 5 z5) ++ (rc6 a q_p1 Q_p1 z8)) rfl (by decide) (fun H locs hP hD hS => ?_)
  have hP : va_P D classes (rc7 a q_t Q_t (sTf z_t 5 z5) ++ (rc6 a q_p1 Q_p1 z8)) H := hP
  have hD : va_D A (rc7 a q_t Q_t (sTf z_t 5 z5) ++ (rc6 a q_p1 Q_p1 z8)) := hD
  obtain ⟨z10, hc9, h⟩ := bd_some h
  refine cMv (runN (As := [.ref (Q_t 6), .int (gI z_t 2), .int r7]) (rest := []) C hK (mX8_put l D a (q_p0 := (Q_t 6)) hc9 H.size) lk_N_7_88 okN_X8_put ⟨Nat.le_of_ble_eq_true rfl, Nat.le_of_ble_eq_true rfl⟩ ⟨rfl, rfl⟩ (preM hK (P_of_map (wc := ra0 a (Q_t 6) 6 (gT (sTf z_t 5 z5) 6)) hP [2] rfl) (hD.sub (ws' := ra0 a (Q_t 6) 6 (gT (sTf z_t 5 z5) 6)) [2] (by decide) rfl)) hl.1 rfl (Nat.le_of_ble_eq_true rfl) dX7_readKind_33 ⟨Nat.le_of_ble_eq_true rfl, Nat.le_of_ble_eq_true rfl⟩) hP hD hS hA [2] [0, 1, 3, 4, 5, 6, 7, 8, 9, 10, 11, 12, 13, 14, 15, 16] [0, 1, 16, 2, 3, 4, 5, 6, 7, 8, 9, 10, 11, 12, 13, 14, 15] rfl rfl (by decide) (by decide) (fw := rc7 a q_t Q_t (sTf (sTf z_t 5 z5) 6 z10) ++ (rc6 a q_p1 Q_p1 z8)) rfl (by decide) (fun H locs hP hD hS => ?_)
  have hP : va_P D classes (rc7 a q_t Q_t (sTf (sTf z_t 5 z5) 6 z10) ++ (rc6 a q_p1 Q_p1 z8)) H := hP
  have hD : va_D A (rc7 a q_t Q_t (sTf (sTf z_t 5 z5) 6 z10) ++ (rc6 a q_p1 Q_p1 z8)) := hD
  refine lv_aload_n hx hb dX7_readKind_36 rfl (lv_at hl 0 rfl) ?_
  refine va_get (D := D) (v := .ref (Q_t 7)) (C := RX7) (T := TX7) (N := 18) hx hb hts iX7 hown hK.1 hP 0 rfl rfl 7 (by decide) (hts _ t_53) (fun _ h9 => h9) rfl dX7_readKind_37 ?_
  refine lv_aload_n hx hb dX7_readKind_40 rfl (lv_at hl 0 rfl) ?_
  refine va_get (D := D) (v := .int (gI z_t 2)) (C := RX7) (T := TX7) (N := 18) hx hb hts iX7 hown hK.1 hP 0 rfl rfl 2 (by decide) (hts _ t_42) (fun _ h9 => h9) rfl dX7_readKind_41 ?_
  refine lv_aload_n hx hb dX7_readKind_44 rfl (lv_at hl 1 rfl) ?_
  refine lv_iconst (v := 0) hx hb dX7_readKind_45 (by decide) ?_
  refine lv_bipush (v := 99) hx hb dX7_readKind_46 (by decide) ?_
  obtain ⟨r12, z13, hc11, h⟩ := bd2_some h
  refine cMi (runV (As := [.int 0, .int 99]) (rest := [.int (gI z_t 2), .ref (Q_t 7)]) C (mX6_takeNumber l D a (q_t := q_p1) (Q_t := Q_p1) hc11 H.size) lk_V_7_105 okN_X6_takeNumber ⟨Nat.le_of_ble_eq_true rfl, Nat.le_of_ble_eq_true rfl⟩ ⟨rfl, rfl⟩ (preV (preM hK (P_of_map (wc := rc6 a q_p1 Q_p1 z8) hP [13, 14, 15, 16] rfl) (hD.sub (ws' := rc6 a q_p1 Q_p1 z8) [13, 14, 15, 16] (by decide) rfl)) (recvOf hK hP 13 rfl (ci := 6) rfl)) hl.1 rfl (Nat.le_of_ble_eq_true rfl) dX7_readKind_48 ⟨Nat.le_of_ble_eq_true rfl, Nat.le_of_ble_eq_true rfl⟩) hP hD hS hA [13, 14, 15, 16] [0, 1, 2, 3, 4, 5, 6, 7, 8, 9, 10, 11, 12] [0, 1, 2, 3, 4, 5, 6, 7, 8, 9, 10, 11, 12, 13, 14, 15, 16] rfl rfl (by decide) (by decide) (fw := rc7 a q_t Q_t (sTf (sTf z_t 5 z5) 6 z10) ++ (rc6 a q_p1 Q_p1 z13)) rfl (by decide) (fun H locs hP hD hS => ?_)
  have hP : va_P D classes (rc7 a q_t Q_t (sTf (sTf z_t 5 z5) 6 z10) ++ (rc6 a q_p1 Q_p1 z13)) H := hP
  have hD : va_D A (rc7 a q_t Q_t (sTf (sTf z_t 5 z5) 6 z10) ++ (rc6 a q_p1 Q_p1 z13)) := hD
  obtain ⟨z15, hc14, h⟩ := bd_some h
  refine cMv (runN (As := [.ref (Q_t 7), .int (gI z_t 2), .int r12]) (rest := []) C hK (mX8_put l D a (q_p0 := (Q_t 7)) hc14 H.size) lk_N_7_88 okN_X8_put ⟨Nat.le_of_ble_eq_true rfl, Nat.le_of_ble_eq_true rfl⟩ ⟨rfl, rfl⟩ (preM hK (P_of_map (wc := ra0 a (Q_t 7) 6 (gT (sTf (sTf z_t 5 z5) 6 z10) 7)) hP [3] rfl) (hD.sub (ws' := ra0 a (Q_t 7) 6 (gT (sTf (sTf z_t 5 z5) 6 z10) 7)) [3] (by decide) rfl)) hl.1 rfl (Nat.le_of_ble_eq_true rfl) dX7_readKind_51 ⟨Nat.le_of_ble_eq_true rfl, Nat.le_of_ble_eq_true rfl⟩) hP hD hS hA [3] [0, 1, 2, 4, 5, 6, 7, 8, 9, 10, 11, 12, 13, 14, 15, 16] [0, 1, 2, 16, 3, 4, 5, 6, 7, 8, 9, 10, 11, 12, 13, 14, 15] rfl rfl (by decide) (by decide) (fw := rc7 a q_t Q_t (sTf (sTf (sTf z_t 5 z5) 6 z10) 7 z15) ++ (rc6 a q_p1 Q_p1 z13)) rfl (by decide) (fun H locs hP hD hS => ?_)
  have hP : va_P D classes (rc7 a q_t Q_t (sTf (sTf (sTf z_t 5 z5) 6 z10) 7 z15) ++ (rc6 a q_p1 Q_p1 z13)) H := hP
  have hD : va_D A (rc7 a q_t Q_t (sTf (sTf (sTf z_t 5 z5) 6 z10) 7 z15) ++ (rc6 a q_p1 Q_p1 z13)) := hD
  refine lv_aload_n hx hb dX7_readKind_54 rfl (lv_at hl 0 rfl) ?_
  refine lv_dup hx hb dX7_readKind_55 rfl ?_
  refine va_get (D := D) (v := .int (gI z_t 2)) (C := RX7) (T := TX7) (N := 18) hx hb hts iX7 hown hK.1 hP 0 rfl rfl 2 (by decide) (hts _ t_42) (fun _ h9 => h9) rfl dX7_readKind_56 ?_
  refine lv_iconst (v := 1) hx hb dX7_readKind_59 (by decide) ?_
  refine lv_iadd hx hb dX7_readKind_60 ?_
  refine va_put (D := D) (v := .int ((gI z_t 2) + 1)) (C := RX7) (T := TX7) (N := 18) hx hb hts iX7 tyX7 tyX7_ok nmX7 hown hK.1 hP hD hS 0 rfl rfl 2 (by decide) (hts _ t_42) (fun _ h9 => h9) rfl (tyX7_ok 2 (by decide)) rfl rfl (Nat.le_of_ble_eq_true rfl) dX7_readKind_61 (fun H locs hP hD hS => ?_)
  have hP : va_P D classes (rc7 a q_t Q_t (sI (sTf (sTf (sTf z_t 5 z5) 6 z10) 7 z15) 2 ((gI z_t 2) + 1)) ++ (rc6 a q_p1 Q_p1 z13)) H := hP
  have hD : va_D A (rc7 a q_t Q_t (sI (sTf (sTf (sTf z_t 5 z5) 6 z10) 7 z15) 2 ((gI z_t 2) + 1)) ++ (rc6 a q_p1 Q_p1 z13)) := hD
  exact rMv C rfl h (g := fun y => rc7 a q_t Q_t y.1 ++ (rc6 a q_p1 Q_p1 y.2)) hP hD hS dX7_readKind_64

set_option maxHeartbeats 4000000 in
set_option maxRecDepth 100000 in
theorem mX7_readClause (l : Launch) (D : va_G) (a : Nat → ClassId) {q_t : Nat} {q_p1 : Nat} {Q_t : Nat → Nat} {z_t : Sx} {Q_p1 : Nat → Nat} {z_p1 : Sx} {x2 : Int32} {y : Sx × Sx} (h : fX7_readClause z_t z_p1 x2 = some y) (sz : Nat) : CMv (S := Unit) l MX7_readClause 3 66 0 0 D a [.ref q_t, .ref q_p1, .int x2] (rc7 a q_t Q_t z_t ++ (rc6 a q_p1 Q_p1 z_p1)) sz (fun _ => True) (fun _ => rc7 a q_t Q_t y.1 ++ (rc6 a q_p1 Q_p1 y.2)) := by
  unfold fX7_readClause at h
  refine entMv (by decide) (Nat.le_of_ble_eq_true rfl) ?_
  intro p e s m below meth c C hK A hA hP hD ls hl
  obtain ⟨hx, hb, hml, hown, hts, hr, hlocks, hnm⟩ := id C
  have hb : c.code = cX7_readClause := hb
  have hown : s.vm.findClass RX7 = some m.cls := hown
  have hS : va_S A s.heap s.heap [] := va_S.rf
  have hl : lv_has ls 5 [(0, .ref q_t), (1, .ref q_p1), (2, .int x2)] := hl
  refine lv_aload_n hx hb dX7_readClause_0 rfl (lv_at hl 1 rfl) ?_
  refine va_get (D := D) (v := .int (gI z_p1 5)) (C := RX6) (T := TX6) (N := 9) hx hb hts iX6 hown hK.1 hP 13 rfl rfl 5 (by decide) (hts _ t_213) (fun _ h9 => h9) rfl dX7_readClause_1 ?_
  refine lv_istore_n (lv' := [(3, .int (gI z_p1 5)), (0, .ref q_t), (1, .ref q_p1), (2, .int x2)]) hx hb dX7_readClause_4 rfl hl (by decide) rfl (fun ls hl => ?_)
  refine lv_iload_n hx hb dX7_readClause_5 rfl (lv_at hl 0 rfl) ?_
  refine lv_sipush (v := 304) hx hb dX7_readClause_6 (by decide) ?_
  obtain ⟨J1, eJ1, h⟩ := jn_some h
  have hJ1 : ∀ (H : Heap) (locs : List Loc) (ls : Array Slot), J1 = some y → va_P D classes (rc7 a q_t Q_t z_t ++ (rc6 a q_p1 Q_p1 z_p1)) H → va_D A (rc7 a q_t Q_t z_t ++ (rc6 a q_p1 Q_p1 z_p1)) → va_S A s.heap H locs → lv_has ls 5 [(0, .ref q_t), (1, .ref q_p1), (2, .int x2), (3, .int (gI z_p1 5))] → W p l e (rmM 3 0 0 66) s m #[.ref q_t, .ref q_p1, .int x2] below meth c H locs 0 0 (MQ below (va_Qv (fun (_ : Unit) => True) (Bw D A (fun _ => rc7 a q_t Q_t y.1 ++ (rc6 a q_p1 Q_p1 y.2))) A) #[.ref q_t, .ref q_p1, .int x2] s 0 0 A) (F0 m 32 ls []) := by
    intro H locs ls h hP hD hS hl
    rw [eJ1] at h
    refine lv_iload_n hx hb dX7_readClause_32 rfl (lv_at hl 3 rfl) ?_
    refine lv_sipush (v := 304) hx hb dX7_readClause_33 (by decide) ?_
    obtain ⟨J2, eJ2, h⟩ := jn_some h
    have hJ2 : ∀ (i3 : Int32) (H : Heap) (locs : List Loc) (ls : Array Slot), J2 i3 = some y → va_P D classes (rc7 a q_t Q_t z_t ++ (rc6 a q_p1 Q_p1 z_p1)) H → va_D A (rc7 a q_t Q_t z_t ++ (rc6 a q_p1 Q_p1 z_p1)) → va_S A s.heap H locs → lv_has ls 5 [(0, .ref q_t), (1, .ref q_p1), (2, .int x2), (3, .int (gI z_p1 5))] → W p l e (rmM 3 0 0 66) s m #[.ref q_t, .ref q_p1, .int x2] below meth c H locs 0 0 (MQ below (va_Qv (fun (_ : Unit) => True) (Bw D A (fun _ => rc7 a q_t Q_t y.1 ++ (rc6 a q_p1 Q_p1 y.2))) A) #[.ref q_t, .ref q_p1, .int x2] s 0 0 A) (F0 m 84 ls [.int i3]) := by
      intro i3 H locs ls h hP hD hS hl
      rw [eJ2] at h
      refine lv_istore (lv' := [(4, .int i3), (0, .ref q_t), (1, .ref q_p1), (2, .int x2), (3, .int (gI z_p1 5))]) hx hb dX7_readClause_84 hl (by decide) rfl (fun ls hl => ?_)
      refine lv_iload hx hb dX7_readClause_86 (lv_at hl 0 rfl) ?_
      obtain ⟨J4, eJ4, h⟩ := jn_some h
      have hJ4 : ∀ (H : Heap) (locs : List Loc) (ls : Array Slot), J4 = some y → va_P D classes (rc7 a q_t Q_t z_t ++ (rc6 a q_p1 Q_p1 z_p1)) H → va_D A (rc7 a q_t Q_t z_t ++ (rc6 a q_p1 Q_p1 z_p1)) → va_S A s.heap H locs → lv_has ls 5 [(1, .ref q_p1)] → W p l e (rmM 3 0 0 66) s m #[.ref q_t, .ref q_p1, .int x2] below meth c H locs 0 0 (MQ below (va_Qv (fun (_ : Unit) => True) (Bw D A (fun _ => rc7 a q_t Q_t y.1 ++ (rc6 a q_p1 Q_p1 y.2))) A) #[.ref q_t, .ref q_p1, .int x2] s 0 0 A) (F0 m 97 ls []) := by
        intro H locs ls h hP hD hS hl
        rw [eJ4] at h
        refine lv_aload_n hx hb dX7_readClause_97 rfl (lv_at hl 0 rfl) ?_
        refine lv_iconst (v := 4) hx hb dX7_readClause_98 (by decide) ?_
        obtain ⟨z6, hc5, h⟩ := bd_some h
        refine cMv (runV (As := [.int 4]) (rest := []) C (mX6_fail l D a (q_t := q_p1) (Q_t := Q_p1) hc5 H.size) lk_V_7_68 okN_X6_fail ⟨Nat.le_of_ble_eq_true rfl, Nat.le_of_ble_eq_true rfl⟩ ⟨rfl, rfl⟩ (preV (preM hK (P_of_map (wc := rc6 a q_p1 Q_p1 z_p1) hP [13, 14, 15, 16] rfl) (hD.sub (ws' := rc6 a q_p1 Q_p1 z_p1) [13, 14, 15, 16] (by decide) rfl)) (recvOf hK hP 13 rfl (ci := 6) rfl)) hl.1 rfl (Nat.le_of_ble_eq_true rfl) dX7_readClause_99 ⟨Nat.le_of_ble_eq_true rfl, Nat.le_of_ble_eq_true rfl⟩) hP hD hS hA [13, 14, 15, 16] [0, 1, 2, 3, 4, 5, 6, 7, 8, 9, 10, 11, 12] [0, 1, 2, 3, 4, 5, 6, 7, 8, 9, 10, 11, 12, 13, 14, 15, 16] rfl rfl (by decide) (by decide) (fw := rc7 a q_t Q_t z_t ++ (rc6 a q_p1 Q_p1 z6)) rfl (by decide) (fun H locs hP hD hS => ?_)
        have hP : va_P D classes (rc7 a q_t Q_t z_t ++ (rc6 a q_p1 Q_p1 z6)) H := hP
        have hD : va_D A (rc7 a q_t Q_t z_t ++ (rc6 a q_p1 Q_p1 z6)) := hD
        exact rMv C rfl h (g := fun y => rc7 a q_t Q_t y.1 ++ (rc6 a q_p1 Q_p1 y.2)) hP hD hS dX7_readClause_102
      refine lv_if_ne (tgt := 97) hx hb dX7_readClause_88 (by decide) (fun c7 => ?_) (fun c7 => ?_)
      · have h := ite_f c7 h
        exact hJ4 _ _ ls h hP hD hS (lv_sub hl [2] rfl)
      · have h := ite_t c7 h
        refine lv_iload_n hx hb dX7_readClause_91 rfl (lv_at hl 3 rfl) ?_
        refine lv_bipush (v := 24) hx hb dX7_readClause_92 (by decide) ?_
        refine lv_icmp_lt (tgt := 103) hx hb dX7_readClause_94 (by decide) (fun c8 => ?_) (fun c8 => ?_)
        · have h := ite_t c8 h
          refine lv_aload_n hx hb dX7_readClause_103 rfl (lv_at hl 2 rfl) ?_
          obtain ⟨z10, hc9, h⟩ := bd_some h
          refine cMv (runV (As := []) (rest := []) C (mX6_step l D a (q_t := q_p1) (Q_t := Q_p1) hc9 H.size) lk_V_7_102 okN_X6_step ⟨Nat.le_of_ble_eq_true rfl, Nat.le_of_ble_eq_true rfl⟩ ⟨rfl, rfl⟩ (preV (preM hK (P_of_map (wc := rc6 a q_p1 Q_p1 z_p1) hP [13, 14, 15, 16] rfl) (hD.sub (ws' := rc6 a q_p1 Q_p1 z_p1) [13, 14, 15, 16] (by decide) rfl)) (recvOf hK hP 13 rfl (ci := 6) rfl)) hl.1 rfl (Nat.le_of_ble_eq_true rfl) dX7_readClause_104 ⟨Nat.le_of_ble_eq_true rfl, Nat.le_of_ble_eq_true rfl⟩) hP hD hS hA [13, 14, 15, 16] [0, 1, 2, 3, 4, 5, 6, 7, 8, 9, 10, 11, 12] [0, 1, 2, 3, 4, 5, 6, 7, 8, 9, 10, 11, 12, 13, 14, 15, 16] rfl rfl (by decide) (by decide) (fw := rc7 a q_t Q_t z_t ++ (rc6 a q_p1 Q_p1 z10)) rfl (by decide) (fun H locs hP hD hS => ?_)
          have hP : va_P D classes (rc7 a q_t Q_t z_t ++ (rc6 a q_p1 Q_p1 z10)) H := hP
          have hD : va_D A (rc7 a q_t Q_t z_t ++ (rc6 a q_p1 Q_p1 z10)) := hD
          refine lv_iload_n hx hb dX7_readClause_107 rfl (lv_at hl 4 rfl) ?_
          refine lv_sipush (v := 304) hx hb dX7_readClause_108 (by decide) ?_
          refine lv_icmp_ne (tgt := 134) hx hb dX7_readClause_111 (by decide) (fun c11 => ?_) (fun c11 => ?_)
          · have h := ite_f c11 h
            refine lv_iload_n hx hb dX7_readClause_134 rfl (lv_at hl 4 rfl) ?_
            refine lv_sipush (v := 313) hx hb dX7_readClause_135 (by decide) ?_
            refine lv_icmp_ne (tgt := 149) hx hb dX7_readClause_138 (by decide) (fun c12 => ?_) (fun c12 => ?_)
            · have h := ite_f c12 h
              refine lv_aload_n hx hb dX7_readClause_149 rfl (lv_at hl 1 rfl) ?_
              refine lv_aload_n hx hb dX7_readClause_150 rfl (lv_at hl 2 rfl) ?_
              obtain ⟨z14, z15, hc13, h⟩ := bd2_some h
              refine cWv (runV (As := [.ref q_p1]) (rest := []) C (mX7_readFault l D a (q_t := q_t) (q_p1 := q_p1) (Q_t := Q_t) (Q_p1 := Q_p1) hc13 H.size) lk_V_7_112 okN_X7_readFault ⟨Nat.le_of_ble_eq_true rfl, Nat.le_of_ble_eq_true rfl⟩ ⟨rfl, rfl⟩ (preV (preM hK hP hD) (recvOf hK hP 0 rfl (ci := 7) rfl)) hl.1 rfl (Nat.le_of_ble_eq_true rfl) dX7_readClause_151 ⟨Nat.le_of_ble_eq_true rfl, Nat.le_of_ble_eq_true rfl⟩) hP hD hS hA (fun H locs hP hD hS => ?_)
              have hP : va_P D classes (rc7 a q_t Q_t z14 ++ (rc6 a q_p1 Q_p1 z15)) H := hP
              have hD : va_D A (rc7 a q_t Q_t z14 ++ (rc6 a q_p1 Q_p1 z15)) := hD
              exact rMv C rfl h (g := fun y => rc7 a q_t Q_t y.1 ++ (rc6 a q_p1 Q_p1 y.2)) hP hD hS dX7_readClause_154
            · have h := ite_t c12 h
              refine lv_aload_n hx hb dX7_readClause_141 rfl (lv_at hl 1 rfl) ?_
              refine lv_aload_n hx hb dX7_readClause_142 rfl (lv_at hl 2 rfl) ?_
              obtain ⟨z17, z18, hc16, h⟩ := bd2_some h
              refine cWv (runV (As := [.ref q_p1]) (rest := []) C (mX7_readKind l D a (q_t := q_t) (q_p1 := q_p1) (Q_t := Q_t) (Q_p1 := Q_p1) hc16 H.size) lk_V_7_108 okN_X7_readKind ⟨Nat.le_of_ble_eq_true rfl, Nat.le_of_ble_eq_true rfl⟩ ⟨rfl, rfl⟩ (preV (preM hK hP hD) (recvOf hK hP 0 rfl (ci := 7) rfl)) hl.1 rfl (Nat.le_of_ble_eq_true rfl) dX7_readClause_143 ⟨Nat.le_of_ble_eq_true rfl, Nat.le_of_ble_eq_true rfl⟩) hP hD hS hA (fun H locs hP hD hS => ?_)
              have hP : va_P D classes (rc7 a q_t Q_t z17 ++ (rc6 a q_p1 Q_p1 z18)) H := hP
              have hD : va_D A (rc7 a q_t Q_t z17 ++ (rc6 a q_p1 Q_p1 z18)) := hD
              refine lv_goto (tgt := 154) hx hb dX7_readClause_146 (by decide) ?_
              exact rMv C rfl h (g := fun y => rc7 a q_t Q_t y.1 ++ (rc6 a q_p1 Q_p1 y.2)) hP hD hS dX7_readClause_154
          · have h := ite_t c11 h
            refine lv_aload_n hx hb dX7_readClause_114 rfl (lv_at hl 1 rfl) ?_
            refine lv_iconst (v := 1) hx hb dX7_readClause_115 (by decide) ?_
            refine va_put (D := D) (v := .int 1) (C := RX7) (T := TX7) (N := 18) hx hb hts iX7 tyX7 tyX7_ok nmX7 hown hK.1 hP hD hS 0 rfl rfl 4 (by decide) (hts _ t_48) (fun _ h9 => h9) rfl (tyX7_ok 4 (by decide)) rfl rfl (Nat.le_of_ble_eq_true rfl) dX7_readClause_116 (fun H locs hP hD hS => ?_)
            have hP : va_P D classes (rc7 a q_t Q_t (sI z_t 4 1) ++ (rc6 a q_p1 Q_p1 z10)) H := hP
            have hD : va_D A (rc7 a q_t Q_t (sI z_t 4 1) ++ (rc6 a q_p1 Q_p1 z10)) := hD
            refine lv_aload_n hx hb dX7_readClause_119 rfl (lv_at hl 1 rfl) ?_
            refine lv_aload_n hx hb dX7_readClause_120 rfl (lv_at hl 2 rfl) ?_
            refine lv_iconst (v := 1) hx hb dX7_readClause_121 (by decide) ?_
            refine lv_sipush (v := 480) hx hb dX7_readClause_122 (by decide) ?_
            obtain ⟨r20, z21, hc19, h⟩ := bd2_some h
            refine cMi (runV (As := [.int 1, .int 480]) (rest := [.ref q_t]) C (mX6_takeNumber l D a (q_t := q_p1) (Q_t := Q_p1) hc19 H.size) lk_V_7_105 okN_X6_takeNumber ⟨Nat.le_of_ble_eq_true rfl, Nat.le_of_ble_eq_true rfl⟩ ⟨rfl, rfl⟩ (preV (preM hK (P_of_map (wc := rc6 a q_p1 Q_p1 z10) hP [13, 14, 15, 16] rfl) (hD.sub (ws' := rc6 a q_p1 Q_p1 z10) [13, 14, 15, 16] (by decide) rfl)) (recvOf hK hP 13 rfl (ci := 6) rfl)) hl.1 rfl (Nat.le_of_ble_eq_true rfl) dX7_readClause_125 ⟨Nat.le_of_ble_eq_true rfl, Nat.le_of_ble_eq_true rfl⟩) hP hD hS hA [13, 14, 15, 16] [0, 1, 2, 3, 4, 5, 6, 7, 8, 9, 10, 11, 12] [0, 1, 2, 3, 4, 5, 6, 7, 8, 9, 10, 11, 12, 13, 14, 15, 16] rfl rfl (by decide) (by decide) (fw := rc7 a q_t Q_t (sI z_t 4 1) ++ (rc6 a q_p1 Q_p1 z21)) rfl (by decide) (fun H locs hP hD hS => ?_)
            have hP : va_P D classes (rc7 a q_t Q_t (sI z_t 4 1) ++ (rc6 a q_p1 Q_p1 z21)) H := hP
            have hD : va_D A (rc7 a q_t Q_t (sI z_t 4 1) ++ (rc6 a q_p1 Q_p1 z21)) := hD
            refine va_put (D := D) (v := .int r20) (C := RX7) (T := TX7) (N := 18) hx hb hts iX7 tyX7 tyX7_ok nmX7 hown hK.1 hP hD hS 0 rfl rfl 1 (by decide) (hts _ t_39) (fun _ h9 => h9) rfl (tyX7_ok 1 (by decide)) rfl rfl (Nat.le_of_ble_eq_true rfl) dX7_readClause_128 (fun H locs hP hD hS => ?_)
            have hP : va_P D classes (rc7 a q_t Q_t (sI (sI z_t 4 1) 1 r20) ++ (rc6 a q_p1 Q_p1 z21)) H := hP
            have hD : va_D A (rc7 a q_t Q_t (sI (sI z_t 4 1) 1 r20) ++ (rc6 a q_p1 Q_p1 z21)) := hD
            refine lv_goto (tgt := 154) hx hb dX7_readClause_131 (by decide) ?_
            exact rMv C rfl h (g := fun y => rc7 a q_t Q_t y.1 ++ (rc6 a q_p1 Q_p1 y.2)) hP hD hS dX7_readClause_154
        · have h := ite_f c8 h
          exact hJ4 _ _ ls h hP hD hS (lv_sub hl [2] rfl)
    refine lv_icmp_ne (tgt := 46) hx hb dX7_readClause_36 (by decide) (fun c22 => ?_) (fun c22 => ?_)
    · have h := ite_f c22 h
      refine lv_iload_n hx hb dX7_readClause_46 rfl (lv_at hl 3 rfl) ?_
      refine lv_sipush (v := 313) hx hb dX7_readClause_47 (by decide) ?_
      refine lv_icmp_ne (tgt := 70) hx hb dX7_readClause_50 (by decide) (fun c23 => ?_) (fun c23 => ?_)
      · have h := ite_f c23 h
        refine lv_aload_n hx hb dX7_readClause_70 rfl (lv_at hl 0 rfl) ?_
        refine va_get (D := D) (v := .int (gI z_t 3)) (C := RX7) (T := TX7) (N := 18) hx hb hts iX7 hown hK.1 hP 0 rfl rfl 3 (by decide) (hts _ t_44) (fun _ h9 => h9) rfl dX7_readClause_71 ?_
        refine lv_bipush (v := 10) hx hb dX7_readClause_74 (by decide) ?_
        refine lv_icmp_lt (tgt := 83) hx hb dX7_readClause_76 (by decide) (fun c24 => ?_) (fun c24 => ?_)
        · have h := ite_t c24 h
          refine lv_iconst (v := 0) hx hb dX7_readClause_83 (by decide) ?_
          exact hJ2 0 _ _ ls h hP hD hS (lv_sub hl [0, 1, 2, 3] rfl)
        · have h := ite_f c24 h
          refine lv_iconst (v := 1) hx hb dX7_readClause_79 (by decide) ?_
          refine lv_goto (tgt := 84) hx hb dX7_readClause_80 (by decide) ?_
          exact hJ2 1 _ _ ls h hP hD hS (lv_sub hl [0, 1, 2, 3] rfl)
      · have h := ite_t c23 h
        refine lv_aload_n hx hb dX7_readClause_53 rfl (lv_at hl 0 rfl) ?_
        refine va_get (D := D) (v := .int (gI z_t 2)) (C := RX7) (T := TX7) (N := 18) hx hb hts iX7 hown hK.1 hP 0 rfl rfl 2 (by decide) (hts _ t_42) (fun _ h9 => h9) rfl dX7_readClause_54 ?_
        refine lv_bipush (v := 6) hx hb dX7_readClause_57 (by decide) ?_
        refine lv_icmp_lt (tgt := 66) hx hb dX7_readClause_59 (by decide) (fun c25 => ?_) (fun c25 => ?_)
        · have h := ite_t c25 h
          refine lv_iconst (v := 0) hx hb dX7_readClause_66 (by decide) ?_
          refine lv_goto (tgt := 84) hx hb dX7_readClause_67 (by decide) ?_
          exact hJ2 0 _ _ ls h hP hD hS (lv_sub hl [0, 1, 2, 3] rfl)
        · have h := ite_f c25 h
          refine lv_iconst (v := 1) hx hb dX7_readClause_62 (by decide) ?_
          refine lv_goto (tgt := 84) hx hb dX7_readClause_63 (by decide) ?_
          exact hJ2 1 _ _ ls h hP hD hS (lv_sub hl [0, 1, 2, 3] rfl)
    · have h := ite_t c22 h
      refine lv_aload_n hx hb dX7_readClause_39 rfl (lv_at hl 0 rfl) ?_
      refine va_get (D := D) (v := .int (gI z_t 4)) (C := RX7) (T := TX7) (N := 18) hx hb hts iX7 hown hK.1 hP 0 rfl rfl 4 (by decide) (hts _ t_48) (fun _ h9 => h9) rfl dX7_readClause_40 ?_
      refine lv_goto (tgt := 84) hx hb dX7_readClause_43 (by decide) ?_
      exact hJ2 (gI z_t 4) _ _ ls h hP hD hS (lv_sub hl [0, 1, 2, 3] rfl)
  refine lv_icmp_eq (tgt := 32) hx hb dX7_readClause_9 (by decide) (fun c26 => ?_) (fun c26 => ?_)
  · have h := ite_t c26 h
    exact hJ1 _ _ ls h hP hD hS (lv_sub hl [1, 2, 3, 0] rfl)
  · have h := ite_f c26 h
    refine lv_iload_n hx hb dX7_readClause_12 rfl (lv_at hl 0 rfl) ?_
    refine lv_sipush (v := 313) hx hb dX7_readClause_13 (by decide) ?_
    refine lv_icmp_eq (tgt := 32) hx hb dX7_readClause_16 (by decide) (fun c27 => ?_) (fun c27 => ?_)
    · have h := ite_t c27 h
      exact hJ1 _ _ ls h hP hD hS (lv_sub hl [1, 2, 3, 0] rfl)
    · have h := ite_f c27 h
      refine lv_iload_n hx hb dX7_readClause_19 rfl (lv_at hl 0 rfl) ?_
      refine lv_sipush (v := 312) hx hb dX7_readClause_20 (by decide) ?_
      refine lv_icmp_eq (tgt := 32) hx hb dX7_readClause_23 (by decide) (fun c28 => ?_) (fun c28 => ?_)
      · have h := ite_t c28 h
        exact hJ1 _ _ ls h hP hD hS (lv_sub hl [1, 2, 3, 0] rfl)
      · have h := ite_f c28 h
        refine lv_aload_n hx hb dX7_readClause_26 rfl (lv_at hl 2 rfl) ?_
        refine lv_iconst (v := 0) hx hb dX7_readClause_27 (by decide) ?_
        obtain ⟨z30, hc29, h⟩ := bd_some h
        refine cMv (runV (As := [.int 0]) (rest := []) C (mX6_fail l D a (q_t := q_p1) (Q_t := Q_p1) hc29 s.heap.size) lk_V_7_68 okN_X6_fail ⟨Nat.le_of_ble_eq_true rfl, Nat.le_of_ble_eq_true rfl⟩ ⟨rfl, rfl⟩ (preV (preM hK (P_of_map (wc := rc6 a q_p1 Q_p1 z_p1) hP [13, 14, 15, 16] rfl) (hD.sub (ws' := rc6 a q_p1 Q_p1 z_p1) [13, 14, 15, 16] (by decide) rfl)) (recvOf hK hP 13 rfl (ci := 6) rfl)) hl.1 rfl (Nat.le_of_ble_eq_true rfl) dX7_readClause_28 ⟨Nat.le_of_ble_eq_true rfl, Nat.le_of_ble_eq_true rfl⟩) hP hD hS hA [13, 14, 15, 16] [0, 1, 2, 3, 4, 5, 6, 7, 8, 9, 10, 11, 12] [0, 1, 2, 3, 4, 5, 6, 7, 8, 9, 10, 11, 12, 13, 14, 15, 16] rfl rfl (by decide) (by decide) (fw := rc7 a q_t Q_t z_t ++ (rc6 a q_p1 Q_p1 z30)) rfl (by decide) (fun H locs hP hD hS => ?_)
        have hP : va_P D classes (rc7 a q_t Q_t z_t ++ (rc6 a q_p1 Q_p1 z30)) H := hP
        have hD : va_D A (rc7 a q_t Q_t z_t ++ (rc6 a q_p1 Q_p1 z30)) := hD
        exact rMv C rfl h (g := fun y => rc7 a q_t Q_t y.1 ++ (rc6 a q_p1 Q_p1 y.2)) hP hD hS dX7_readClause_31

set_option maxHeartbeats 4000000 in
set_option maxRecDepth 100000 in
theorem wX7_readFrom_10 {p : Program} {l : Launch} {e : Env} {s : State} {m : MethodId} {below : List Frame} {meth : Method} {c : Code} {D : va_G} {a : Nat → ClassId} {A : Nat → Prop} {q_t : Nat} {q_p1 : Nat} {Q_t : Nat → Nat} {Q_p1 : Nat → Nat} (C : Cx p s m #[.ref q_t, .ref q_p1] meth c MX7_readFrom) (hK : KK D a s) (hA : ∀ q, s.heap.size ≤ q → A q) {y : Sx × Sx} {k37 : Sx → Sx → Option (Sx × Sx)} (hk37 : ∀ (z_tk : Sx) (z_p1k : Sx) (H : Heap) (locs : List Loc) (ls : Array Slot), k37 z_tk z_p1k = some y → va_P D classes (rc7 a q_t Q_t z_tk ++ (rc6 a q_p1 Q_p1 z_p1k)) H → va_D A (rc7 a q_t Q_t z_tk ++ (rc6 a q_p1 Q_p1 z_p1k)) → va_S A s.heap H locs → lv_has ls 4 [(0, .ref q_t), (1, .ref q_p1)] → W p l e (rmM 4 0 0 90) s m #[.ref q_t, .ref q_p1] below meth c H locs 0 0 (MQ below (va_Qv (fun (_ : Unit) => True) (Bw D A (fun _ => rc7 a q_t Q_t y.1 ++ (rc6 a q_p1 Q_p1 y.2))) A) #[.ref q_t, .ref q_p1] s 0 0 A) (F0 m 37 ls [])) : ∀ (n : Nat) (z_t : Sx) (z_p1 : Sx) (x2 : Int32) (x3 : Int32) (H : Heap) (locs : List Loc) (ls : Array Slot), lX7_readFrom_10 k37 n z_t z_p1 x2 x3 = some y → va_P D classes (rc7 a q_t Q_t z_t ++ (rc6 a q_p1 Q_p1 z_p1)) H → va_D A (rc7 a q_t Q_t z_t ++ (rc6 a q_p1 Q_p1 z_p1)) → va_S A s.heap H locs → lv_has ls 4 [(0, .ref q_t), (1, .ref q_p1), (2, .int x2), (3, .int x3)] → W p l e (rmM 4 0 0 90) s m #[.ref q_t, .ref q_p1] below meth c H locs 0 0 (MQ below (va_Qv (fun (_ : Unit) => True) (Bw D A (fun _ => rc7 a q_t Q_t y.1 ++ (rc6 a q_p1 Q_p1 y.2))) A) #[.ref q_t, .ref q_p1] s 0 0 A) (F0 m 10 ls []) := by
  obtain ⟨hx, hb, hml, hown, hts, hr, hlocks, hnm⟩ := id C
  have hb : c.code = cX7_readFrom := hb
  have hown : s.vm.findClass RX7 = some m.cls := hown
  intro n
  induction n with
  | zero => intro z_t z_p1 x2 x3 H locs ls h; rw [lX7_readFrom_10] at h; cases h
  | succ n ih =>
    intro z_t z_p1 x2 x3 H locs ls h hP hD hS hl
    rw [lX7_readFrom_10] at h
    refine lv_iload_n hx hb dX7_readFrom_10 rfl (lv_at hl 2 rfl) ?_
    refine lv_if_eq (tgt := 37) hx hb dX7_readFrom_11 (by decide) (fun c1 => ?_) (fun c1 => ?_)
    · have h := ite_t c1 h
      exact hk37 z_t z_p1 _ _ ls h hP hD hS (lv_sub hl [0, 1] rfl)
    · have h := ite_f c1 h
      refine lv_iload_n hx hb dX7_readFrom_14 rfl (lv_at hl 3 rfl) ?_
      refine lv_bipush (v := 24) hx hb dX7_readFrom_15 (by decide) ?_
      refine lv_icmp_gt (tgt := 37) hx hb dX7_readFrom_17 (by decide) (fun c2 => ?_) (fun c2 => ?_)
      · have h := ite_t c2 h
        exact hk37 z_t z_p1 _ _ ls h hP hD hS (lv_sub hl [0, 1] rfl)
      · have h := ite_f c2 h
        refine lv_aload_n hx hb dX7_readFrom_20 rfl (lv_at hl 0 rfl) ?_
        refine lv_aload_n hx hb dX7_readFrom_21 rfl (lv_at hl 1 rfl) ?_
        refine lv_iload_n hx hb dX7_readFrom_22 rfl (lv_at hl 3 rfl) ?_
        obtain ⟨z4, z5, hc3, h⟩ := bd2_some h
        refine cWv (runV (As := [.ref q_p1, .int x3]) (rest := []) C (mX7_readClause l D a (q_t := q_t) (q_p1 := q_p1) (Q_t := Q_t) (Q_p1 := Q_p1) hc3 H.size) lk_V_7_55 okN_X7_readClause ⟨Nat.le_of_ble_eq_true rfl, Nat.le_of_ble_eq_true rfl⟩ ⟨rfl, rfl⟩ (preV (preM hK hP hD) (recvOf hK hP 0 rfl (ci := 7) rfl)) hl.1 rfl (Nat.le_of_ble_eq_true rfl) dX7_readFrom_23 ⟨Nat.le_of_ble_eq_true rfl, Nat.le_of_ble_eq_true rfl⟩) hP hD hS hA (fun H locs hP hD hS => ?_)
        have hP : va_P D classes (rc7 a q_t Q_t z4 ++ (rc6 a q_p1 Q_p1 z5)) H := hP
        have hD : va_D A (rc7 a q_t Q_t z4 ++ (rc6 a q_p1 Q_p1 z5)) := hD
        refine lv_aload_n hx hb dX7_readFrom_26 rfl (lv_at hl 1 rfl) ?_
        obtain ⟨r7, z8, hc6, h⟩ := bd2_some h
        refine cMi (runV (As := []) (rest := []) C (mX6_anotherClause l D a (q_t := q_p1) (Q_t := Q_p1) hc6 H.size) lk_V_7_59 okN_X6_anotherClause ⟨Nat.le_of_ble_eq_true rfl, Nat.le_of_ble_eq_true rfl⟩ ⟨rfl, rfl⟩ (preV (preM hK (P_of_map (wc := rc6 a q_p1 Q_p1 z5) hP [13, 14, 15, 16] rfl) (hD.sub (ws' := rc6 a q_p1 Q_p1 z5) [13, 14, 15, 16] (by decide) rfl)) (recvOf hK hP 13 rfl (ci := 6) rfl)) hl.1 rfl (Nat.le_of_ble_eq_true rfl) dX7_readFrom_27 ⟨Nat.le_of_ble_eq_true rfl, Nat.le_of_ble_eq_true rfl⟩) hP hD hS hA [13, 14, 15, 16] [0, 1, 2, 3, 4, 5, 6, 7, 8, 9, 10, 11, 12] [0, 1, 2, 3, 4, 5, 6, 7, 8, 9, 10, 11, 12, 13, 14, 15, 16] rfl rfl (by decide) (by decide) (fw := rc7 a q_t Q_t z4 ++ (rc6 a q_p1 Q_p1 z8)) rfl (by decide) (fun H locs hP hD hS => ?_)
        have hP : va_P D classes (rc7 a q_t Q_t z4 ++ (rc6 a q_p1 Q_p1 z8)) H := hP
        have hD : va_D A (rc7 a q_t Q_t z4 ++ (rc6 a q_p1 Q_p1 z8)) := hD
        refine lv_istore_n (lv' := [(2, .int r7), (0, .ref q_t), (1, .ref q_p1), (3, .int x3)]) hx hb dX7_readFrom_30 rfl hl (by decide) rfl (fun ls hl => ?_)
        refine lv_iinc (v := x3 + 1) (lv' := [(3, .int (x3 + 1)), (2, .int r7), (0, .ref q_t), (1, .ref q_p1)]) hx hb dX7_readFrom_31 hl (k := 3) rfl rfl (by decide) rfl (fun ls hl => ?_)
        refine lv_goto (tgt := 10) hx hb dX7_readFrom_34 (by decide) ?_
        exact ih z4 z8 r7 (x3 + 1) _ _ ls h hP hD hS (lv_sub hl [2, 3, 1, 0] rfl)

set_option maxHeartbeats 4000000 in
set_option maxRecDepth 100000 in
theorem mX7_readFrom (l : Launch) (D : va_G) (a : Nat → ClassId) {q_t : Nat} {q_p1 : Nat} {Q_t : Nat → Nat} {z_t : Sx} {Q_p1 : Nat → Nat} {z_p1 : Sx} {y : Sx × Sx} (h : fX7_readFrom z_t z_p1 = some y) (sz : Nat) : CMv (S := Unit) l MX7_readFrom 4 90 0 0 D a [.ref q_t, .ref q_p1] (rc7 a q_t Q_t z_t ++ (rc6 a q_p1 Q_p1 z_p1)) sz (fun _ => True) (fun _ => rc7 a q_t Q_t y.1 ++ (rc6 a q_p1 Q_p1 y.2)) := by
  unfold fX7_readFrom at h
  refine entMv (by decide) (Nat.le_of_ble_eq_true rfl) ?_
  intro p e s m below meth c C hK A hA hP hD ls hl
  obtain ⟨hx, hb, hml, hown, hts, hr, hlocks, hnm⟩ := id C
  have hb : c.code = cX7_readFrom := hb
  have hown : s.vm.findClass RX7 = some m.cls := hown
  have hS : va_S A s.heap s.heap [] := va_S.rf
  have hl : lv_has ls 4 [(0, .ref q_t), (1, .ref q_p1)] := hl
  refine lv_aload_n hx hb dX7_readFrom_0 rfl (lv_at hl 0 rfl) ?_
  refine lv_bipush (v := 60) hx hb dX7_readFrom_1 (by decide) ?_
  refine va_put (D := D) (v := .int 60) (C := RX7) (T := TX7) (N := 18) hx hb hts iX7 tyX7 tyX7_ok nmX7 hown hK.1 hP hD hS 0 rfl rfl 1 (by decide) (hts _ t_39) (fun _ h9 => h9) rfl (tyX7_ok 1 (by decide)) rfl rfl (Nat.le_of_ble_eq_true rfl) dX7_readFrom_3 (fun H locs hP hD hS => ?_)
  have hP : va_P D classes (rc7 a q_t Q_t (sI z_t 1 60) ++ (rc6 a q_p1 Q_p1 z_p1)) H := hP
  have hD : va_D A (rc7 a q_t Q_t (sI z_t 1 60) ++ (rc6 a q_p1 Q_p1 z_p1)) := hD
  refine lv_iconst (v := 1) hx hb dX7_readFrom_6 (by decide) ?_
  refine lv_istore_n (lv' := [(2, .int 1), (0, .ref q_t), (1, .ref q_p1)]) hx hb dX7_readFrom_7 rfl hl (by decide) rfl (fun ls hl => ?_)
  refine lv_iconst (v := 0) hx hb dX7_readFrom_8 (by decide) ?_
  refine lv_istore_n (lv' := [(3, .int 0), (2, .int 1), (0, .ref q_t), (1, .ref q_p1)]) hx hb dX7_readFrom_9 rfl hl (by decide) rfl (fun ls hl => ?_)
  refine wX7_readFrom_10 C hK hA ?_ FU (sI z_t 1 60) z_p1 1 0 _ _ ls h hP hD hS (lv_sub hl [2, 3, 1, 0] rfl)
  · intro z9 z10 H locs ls h hP hD hS hl
    refine lv_aload_n hx hb dX7_readFrom_37 rfl (lv_at hl 0 rfl) ?_
    refine va_get (D := D) (v := .int (gI z9 3)) (C := RX7) (T := TX7) (N := 18) hx hb hts iX7 hown hK.1 hP 0 rfl rfl 3 (by decide) (hts _ t_44) (fun _ h9 => h9) rfl dX7_readFrom_38 ?_
    obtain ⟨J11, eJ11, h⟩ := jn_some h
    have hJ11 : ∀ (z12 : Sx) (z13 : Sx) (H : Heap) (locs : List Loc) (ls : Array Slot), J11 z12 z13 = some y → va_P D classes (rc7 a q_t Q_t z12 ++ (rc6 a q_p1 Q_p1 z13)) H → va_D A (rc7 a q_t Q_t z12 ++ (rc6 a q_p1 Q_p1 z13)) → va_S A s.heap H locs → lv_has ls 4 [(0, .ref q_t)] → W p l e (rmM 4 0 0 90) s m #[.ref q_t, .ref q_p1] below meth c H locs 0 0 (MQ below (va_Qv (fun (_ : Unit) => True) (Bw D A (fun _ => rc7 a q_t Q_t y.1 ++ (rc6 a q_p1 Q_p1 y.2))) A) #[.ref q_t, .ref q_p1] s 0 0 A) (F0 m 49 ls []) := by
      intro z12 z13 H locs ls h hP hD hS hl
      rw [eJ11] at h
      refine lv_aload_n hx hb dX7_readFrom_49 rfl (lv_at hl 0 rfl) ?_
      obtain ⟨z15, hc14, h⟩ := bd_some h
      refine cMv (runV (As := []) (rest := []) C (mX7_orderLooks l D a (q_t := q_t) (Q_t := Q_t) hc14 H.size) lk_V_7_72 okN_X7_orderLooks ⟨Nat.le_of_ble_eq_true rfl, Nat.le_of_ble_eq_true rfl⟩ ⟨rfl, rfl⟩ (preV (preM hK (P_of_map (wc := rc7 a q_t Q_t z12) hP [0, 1, 2, 3, 4, 5, 6, 7, 8, 9, 10, 11, 12] rfl) (hD.sub (ws' := rc7 a q_t Q_t z12) [0, 1, 2, 3, 4, 5, 6, 7, 8, 9, 10, 11, 12] (by decide) rfl)) (recvOf hK hP 0 rfl (ci := 7) rfl)) hl.1 rfl (Nat.le_of_ble_eq_true rfl) dX7_readFrom_50 ⟨Nat.le_of_ble_eq_true rfl, Nat.le_of_ble_eq_true rfl⟩) hP hD hS hA [0, 1, 2, 3, 4, 5, 6, 7, 8, 9, 10, 11, 12] [13, 14, 15, 16] [4, 5, 6, 7, 8, 9, 10, 11, 12, 13, 14, 15, 16, 0, 1, 2, 3] rfl rfl (by decide) (by decide) (fw := rc7 a q_t Q_t z15 ++ (rc6 a q_p1 Q_p1 z13)) rfl (by decide) (fun H locs hP hD hS => ?_)
      have hP : va_P D classes (rc7 a q_t Q_t z15 ++ (rc6 a q_p1 Q_p1 z13)) H := hP
      have hD : va_D A (rc7 a q_t Q_t z15 ++ (rc6 a q_p1 Q_p1 z13)) := hD
      exact rMv C rfl h (g := fun y => rc7 a q_t Q_t y.1 ++ (rc6 a q_p1 Q_p1 y.2)) hP hD hS dX7_readFrom_53
    refine lv_if_ne (tgt := 49) hx hb dX7_readFrom_41 (by decide) (fun c16 => ?_) (fun c16 => ?_)
    · have h := ite_f c16 h
      exact hJ11 z9 z10 _ _ ls h hP hD hS (lv_sub hl [0] rfl)
    · have h := ite_t c16 h
      refine lv_aload_n hx hb dX7_readFrom_44 rfl (lv_at hl 1 rfl) ?_
      refine lv_iconst (v := 0) hx hb dX7_readFrom_45 (by decide) ?_
      obtain ⟨z18, hc17, h⟩ := bd_some h
      refine cMv (runV (As := [.int 0]) (rest := []) C (mX6_fail l D a (q_t := q_p1) (Q_t := Q_p1) hc17 H.size) lk_V_7_68 okN_X6_fail ⟨Nat.le_of_ble_eq_true rfl, Nat.le_of_ble_eq_true rfl⟩ ⟨rfl, rfl⟩ (preV (preM hK (P_of_map (wc := rc6 a q_p1 Q_p1 z10) hP [13, 14, 15, 16] rfl) (hD.sub (ws' := rc6 a q_p1 Q_p1 z10) [13, 14, 15, 16] (by decide) rfl)) (recvOf hK hP 13 rfl (ci := 6) rfl)) hl.1 rfl (Nat.le_of_ble_eq_true rfl) dX7_readFrom_46 ⟨Nat.le_of_ble_eq_true rfl, Nat.le_of_ble_eq_true rfl⟩) hP hD hS hA [13, 14, 15, 16] [0, 1, 2, 3, 4, 5, 6, 7, 8, 9, 10, 11, 12] [0, 1, 2, 3, 4, 5, 6, 7, 8, 9, 10, 11, 12, 13, 14, 15, 16] rfl rfl (by decide) (by decide) (fw := rc7 a q_t Q_t z9 ++ (rc6 a q_p1 Q_p1 z18)) rfl (by decide) (fun H locs hP hD hS => ?_)
      have hP : va_P D classes (rc7 a q_t Q_t z9 ++ (rc6 a q_p1 Q_p1 z18)) H := hP
      have hD : va_D A (rc7 a q_t Q_t z9 ++ (rc6 a q_p1 Q_p1 z18)) := hD
      exact hJ11 z9 z18 _ _ ls h hP hD hS (lv_sub hl [0] rfl)

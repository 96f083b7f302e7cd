set_option maxHeartbeats 4000000 in
theorem mJ0_coder (l : Launch) (D : va_G) (a : Nat → ClassId) {adK adV : Nat → Nat} {i : Nat} (hi : i < 17) : CRsi l MJ0_coder_7d493 0 0 D a adK adV [.ref (adK i)] [] (fun r => r = 0) := by
  refine entRs (by decide) (Nat.le_of_ble_eq_true rfl) ?_
  intro p e s m below meth c C hK hP hV ls hl
  obtain ⟨hx, hb, hml, hown, hts, hr, hlocks, hnm⟩ := id C
  have hb : c.code = cJ0_coder_7d493 := hb
  have hown : s.vm.findClass RJ0 = some m.cls := hown
  have hS : va_S (fun _ => False) s.heap s.heap [] := va_S.rf
  have hl : lv_has ls 1 [(0, .ref (adK i))] := hl
  refine va_gets hx hb hV.2.2.1 hS hown (hts _ t_397) (fun _ h => h) dJ0_coder_7d493_0 ?_
  refine lv_if_eq (tgt := 13) hx hb dJ0_coder_7d493_3 (by decide) (fun c9 => absurd c9 (by decide)) (fun c9 => ?_)
  refine lv_aload_n hx hb dJ0_coder_7d493_6 rfl (lv_at hl 0 rfl) ?_
  refine vk_getf hx hb (hV.1.1 i hi).2.1 hS hown (hts _ t_1405) (fun _ h => h) dJ0_coder_7d493_7 ?_
  refine lv_goto (tgt := 14) hx hb dJ0_coder_7d493_10 (by decide) ?_
  exact retRn C rfl (by decide) rfl dJ0_coder_7d493_14
set_option maxHeartbeats 4000000 in
theorem mJ0_isLatin1 (l : Launch) (D : va_G) (a : Nat → ClassId) {adK adV : Nat → Nat} {i : Nat} (hi : i < 17) : CRsi l MJ0_isLatin1_aae02 0 0 D a adK adV [.ref (adK i)] [] (fun r => r = 1) := by
  refine entRs (by decide) (Nat.le_of_ble_eq_true rfl) ?_
  intro p e s m below meth c C hK hP hV ls hl
  obtain ⟨hx, hb, hml, hown, hts, hr, hlocks, hnm⟩ := id C
  have hb : c.code = cJ0_isLatin1_aae02 := hb
  have hown : s.vm.findClass RJ0 = some m.cls := hown
  have hS : va_S (fun _ => False) s.heap s.heap [] := va_S.rf
  have hl : lv_has ls 1 [(0, .ref (adK i))] := hl
  refine va_gets hx hb hV.2.2.1 hS hown (hts _ t_397) (fun _ h => h) dJ0_isLatin1_aae02_0 ?_
  refine lv_if_eq (tgt := 17) hx hb dJ0_isLatin1_aae02_3 (by decide) (fun c9 => absurd c9 (by decide)) (fun c9 => ?_)
  refine lv_aload_n hx hb dJ0_isLatin1_aae02_6 rfl (lv_at hl 0 rfl) ?_
  refine vk_getf hx hb (hV.1.1 i hi).2.1 hS hown (hts _ t_1405) (fun _ h => h) dJ0_isLatin1_aae02_7 ?_
  refine lv_if_ne (tgt := 17) hx hb dJ0_isLatin1_aae02_10 (by decide) (fun c9 => absurd rfl c9) (fun c9 => ?_)
  refine lv_iconst (v := 1) hx hb dJ0_isLatin1_aae02_13 (by decide) ?_
  refine lv_goto (tgt := 18) hx hb dJ0_isLatin1_aae02_14 (by decide) ?_
  exact retRn C rfl (by decide) rfl dJ0_isLatin1_aae02_18
set_option maxHeartbeats 4000000 in
theorem mJ3_checkIndex (l : Launch) (D : va_G) (a : Nat → ClassId) {adK adV : Nat → Nat} {n : Nat} (hn : n < 2 ^ 31) {x : Int32} (hk : inb x n) (v : Value) (hv : v = .null ∨ ∃ t : Nat, v = .ref t) : CRsi l MJ3_checkIndex_8e157 0 0 D a adK adV [.int x, .int (Int32.ofNat n), v] [] (fun r => r = x) := by
  refine entRs (by decide) (by rcases hv with h | ⟨t, h⟩ <;> rw [h] <;> exact Nat.le_of_ble_eq_true rfl) ?_
  intro p e s m below meth c C hK hP hV ls hl
  obtain ⟨hx, hb, hml, hown, hts, hr, hlocks, hnm⟩ := id C
  have hb : c.code = cJ3_checkIndex_8e157 := hb
  have hl : lv_has ls 3 [(0, .int x), (1, .int (Int32.ofNat n)), (2, v)] := hl
  refine lv_iload_n hx hb dJ3_checkIndex_8e157_0 rfl (lv_at hl 0 rfl) ?_
  refine lv_if_lt (tgt := 9) hx hb dJ3_checkIndex_8e157_1 (by decide) (fun c9 => absurd c9 hk.1) (fun c9 => ?_)
  refine lv_iload_n hx hb dJ3_checkIndex_8e157_4 rfl (lv_at hl 0 rfl) ?_
  refine lv_iload_n hx hb dJ3_checkIndex_8e157_5 rfl (lv_at hl 1 rfl) ?_
  refine lv_icmp_lt (tgt := 16) hx hb dJ3_checkIndex_8e157_6 (by decide) (fun c9 => ?_) (fun c9 => absurd (inb_lt hk hn) c9)
  refine lv_iload_n hx hb dJ3_checkIndex_8e157_16 rfl (lv_at hl 0 rfl) ?_
  exact rRi C rfl rfl dJ3_checkIndex_8e157_17
set_option maxHeartbeats 4000000 in
theorem mJ0_checkIndex (l : Launch) (D : va_G) (a : Nat → ClassId) {adK adV : Nat → Nat} {n : Nat} (hn : n < 2 ^ 31) {x : Int32} (hk : inb x n) : Met l MJ0_checkIndex_df160.1 (WS MJ0_checkIndex_df160) (rmM 1 0 0 22) (PRs D a adK adV [.int x, .int (Int32.ofNat n)] []) (va_Sv (fun _ => True)) 0 0 (fun _ => False) := by
  refine entRs (M := MJ0_checkIndex_df160) (by decide) (Nat.le_of_ble_eq_true rfl) ?_
  intro p e s m below meth c C hK hP hV ls hl
  obtain ⟨hx, hb, hml, hown, hts, hr, hlocks, hnm⟩ := id C
  have hb : c.code = cJ0_checkIndex_df160 := hb
  have hr : meth.sig.returnType = none := hr
  have hown : s.vm.findClass RJ0 = some m.cls := hown
  have hS : va_S (fun _ => False) s.heap s.heap [] := va_S.rf
  have hl : lv_has ls 2 [(0, .int x), (1, .int (Int32.ofNat n))] := hl
  refine lv_iload_n hx hb dJ0_checkIndex_df160_0 rfl (lv_at hl 0 rfl) ?_
  refine lv_iload_n hx hb dJ0_checkIndex_df160_1 rfl (lv_at hl 1 rfl) ?_
  rcases hV.2.2.2 with hz | ⟨t, hz⟩
  · refine va_gets hx hb hz hS hown (hts _ t_413) (fun _ h => h) dJ0_checkIndex_df160_2 ?_
    refine cRi (runS (As := [.int x, .int (Int32.ofNat n), .null]) (rest := []) C (mJ3_checkIndex l D a hn hk _ (Or.inl rfl)) lk_S_J0_1059 okN_J3_checkIndex_8e157 ⟨Nat.le_of_ble_eq_true rfl, Nat.le_of_ble_eq_true rfl⟩ ⟨rfl, rfl⟩ (preRs (wc := []) hK (fun k q h => by simp at h) hV) hl.1 rfl (Nat.le_of_ble_eq_true rfl) dJ0_checkIndex_df160_5 ⟨Nat.le_of_ble_eq_true rfl, Nat.le_of_ble_eq_true rfl⟩) ?_
    refine lv_pop hx hb dJ0_checkIndex_df160_8 rfl ?_
    exact W.vret hx hb hr (fun t ht hW => ⟨rfl, trivial, ht⟩) (fun _ h => by cases h) dJ0_checkIndex_df160_9
  · refine va_gets hx hb hz hS hown (hts _ t_413) (fun _ h => h) dJ0_checkIndex_df160_2 ?_
    refine cRi (runS (As := [.int x, .int (Int32.ofNat n), .ref t]) (rest := []) C (mJ3_checkIndex l D a hn hk _ (Or.inr ⟨t, rfl⟩)) lk_S_J0_1059 okN_J3_checkIndex_8e157 ⟨Nat.le_of_ble_eq_true rfl, Nat.le_of_ble_eq_true rfl⟩ ⟨rfl, rfl⟩ (preRs (wc := []) hK (fun k q h => by simp at h) hV) hl.1 rfl (Nat.le_of_ble_eq_true rfl) dJ0_checkIndex_df160_5 ⟨Nat.le_of_ble_eq_true rfl, Nat.le_of_ble_eq_true rfl⟩) ?_
    refine lv_pop hx hb dJ0_checkIndex_df160_8 rfl ?_
    exact W.vret hx hb hr (fun t ht hW => ⟨rfl, trivial, ht⟩) (fun _ h => by cases h) dJ0_checkIndex_df160_9
set_option maxHeartbeats 4000000 in
theorem mJ1_charAt (l : Launch) (D : va_G) (a : Nat → ClassId) {adK adV : Nat → Nat} {i : Nat} (hi : i < 17) {x : Int32} (hk : inb x (slen.getD i 0)) : CRsi l MJ1_charAt_3b067 2 43 D a adK adV [.ref (adV i), .int x] [] (fun r => r = sch i x.toNatClampNeg) := by
  refine entRs (by decide) (Nat.le_of_ble_eq_true rfl) ?_
  intro p e s m below meth c C hK hP hV ls hl
  obtain ⟨hx, hb, hml, hown, hts, hr, hlocks, hnm⟩ := id C
  have hb : c.code = cJ1_charAt_3b067 := hb
  have hown : s.vm.findClass RJ1 = some m.cls := hown
  have hS : va_S (fun _ => False) s.heap s.heap [] := va_S.rf
  have hl : lv_has ls 2 [(0, .ref (adV i)), (1, .int x)] := hl
  have hT := (hV.1.1 i hi).2.2.2
  have hlen := (s_all i hi).2.1
  refine lv_iload_n hx hb dJ1_charAt_3b067_0 rfl (lv_at hl 1 rfl) ?_
  refine lv_aload_n hx hb dJ1_charAt_3b067_1 rfl (lv_at hl 0 rfl) ?_
  refine va_tlen hx hb hT hS rfl dJ1_charAt_3b067_2 ?_
  refine va_csv (runS (As := [.int x, .int (Int32.ofNat (slen.getD i 0))]) (rest := []) C (mJ0_checkIndex l D a hlen hk) lk_S_J1_9 okN_J0_checkIndex_df160 ⟨Nat.le_of_ble_eq_true rfl, Nat.le_of_ble_eq_true rfl⟩ ⟨rfl, rfl⟩ (preRs (wc := []) hK (fun k q h => by simp at h) hV) hl.1 rfl (Nat.le_of_ble_eq_true rfl) dJ1_charAt_3b067_3 ⟨Nat.le_of_ble_eq_true rfl, Nat.le_of_ble_eq_true rfl⟩).run (fun _ => ?_)
  refine lv_aload_n hx hb dJ1_charAt_3b067_6 rfl (lv_at hl 0 rfl) ?_
  refine lv_iload_n hx hb dJ1_charAt_3b067_7 rfl (lv_at hl 1 rfl) ?_
  refine va_tb hx hb hT hS (ix_g hk).vin rfl dJ1_charAt_3b067_8 ?_
  refine lv_sipush (v := 255) hx hb dJ1_charAt_3b067_9 (by decide) ?_
  refine lv_iand hx hb dJ1_charAt_3b067_12 ?_
  refine lv_i2c (v := sch i x.toNatClampNeg) hx hb dJ1_charAt_3b067_13 (sc_c2 _) ?_
  exact retRn C rfl (sc_nar _) rfl dJ1_charAt_3b067_14
set_option maxHeartbeats 4000000 in
theorem mJ0_length (l : Launch) (D : va_G) (a : Nat → ClassId) {adK adV : Nat → Nat} {i : Nat} (hi : i < 17) : CRsi l MJ0_length_8abf5 1 20 D a adK adV [.ref (adK i)] [] (fun r => r = nI (slen.getD i 0)) := by
  refine entRs (by decide) (Nat.le_of_ble_eq_true rfl) ?_
  intro p e s m below meth c C hK hP hV ls hl
  obtain ⟨hx, hb, hml, hown, hts, hr, hlocks, hnm⟩ := id C
  have hb : c.code = cJ0_length_8abf5 := hb
  have hown : s.vm.findClass RJ0 = some m.cls := hown
  have hS : va_S (fun _ => False) s.heap s.heap [] := va_S.rf
  have hl : lv_has ls 1 [(0, .ref (adK i))] := hl
  have hT := (hV.1.1 i hi).2.2.2
  refine lv_aload_n hx hb dJ0_length_8abf5_0 rfl (lv_at hl 0 rfl) ?_
  refine vk_getf hx hb (hV.1.1 i hi).2.2.1 hS hown (hts _ t_1404) (fun _ h => h) dJ0_length_8abf5_1 ?_
  refine va_tlen hx hb hT hS rfl dJ0_length_8abf5_4 ?_
  refine lv_aload_n hx hb dJ0_length_8abf5_5 rfl (lv_at hl 0 rfl) ?_
  refine cRi (runV (As := []) (rest := [.int (Int32.ofNat (slen.getD i 0))]) C (mJ0_coder l D a hi) lk_V_J0_335 okN_J0_coder_7d493 ⟨Nat.le_of_ble_eq_true rfl, Nat.le_of_ble_eq_true rfl⟩ ⟨rfl, rfl⟩ (preV (preRs (wc := []) hK (fun k q h => by simp at h) hV) (vk_recv (i := i) hV.1 hi hS)) hl.1 rfl (Nat.le_of_ble_eq_true rfl) dJ0_length_8abf5_6 ⟨Nat.le_of_ble_eq_true rfl, Nat.le_of_ble_eq_true rfl⟩) ?_
  refine lv_ishr hx hb dJ0_length_8abf5_9 ?_
  exact rRi C rfl (sb_shr0 _) dJ0_length_8abf5_10
set_option maxHeartbeats 4000000 in
theorem mJ0_charAt (l : Launch) (D : va_G) (a : Nat → ClassId) {adK adV : Nat → Nat} {i : Nat} (hi : i < 17) {x : Int32} (hk : inb x (slen.getD i 0)) : CRsi l MJ0_charAt_5068e 3 64 D a adK adV [.ref (adK i), .int x] [] (fun r => r = sch i x.toNatClampNeg) := by
  refine entRs (by decide) (Nat.le_of_ble_eq_true rfl) ?_
  intro p e s m below meth c C hK hP hV ls hl
  obtain ⟨hx, hb, hml, hown, hts, hr, hlocks, hnm⟩ := id C
  have hb : c.code = cJ0_charAt_5068e := hb
  have hown : s.vm.findClass RJ0 = some m.cls := hown
  have hS : va_S (fun _ => False) s.heap s.heap [] := va_S.rf
  have hl : lv_has ls 2 [(0, .ref (adK i)), (1, .int x)] := hl
  refine lv_aload_n hx hb dJ0_charAt_5068e_0 rfl (lv_at hl 0 rfl) ?_
  refine cRi (runV (As := []) (rest := []) C (mJ0_isLatin1 l D a hi) lk_V_J0_492 okN_J0_isLatin1_aae02 ⟨Nat.le_of_ble_eq_true rfl, Nat.le_of_ble_eq_true rfl⟩ ⟨rfl, rfl⟩ (preV (preRs (wc := []) hK (fun k q h => by simp at h) hV) (vk_recv (i := i) hV.1 hi hS)) hl.1 rfl (Nat.le_of_ble_eq_true rfl) dJ0_charAt_5068e_1 ⟨Nat.le_of_ble_eq_true rfl, Nat.le_of_ble_eq_true rfl⟩) ?_
  refine lv_if_eq (tgt := 16) hx hb dJ0_charAt_5068e_4 (by decide) (fun c9 => absurd c9 (by decide)) (fun c9 => ?_)
  refine lv_aload_n hx hb dJ0_charAt_5068e_7 rfl (lv_at hl 0 rfl) ?_
  refine vk_getf hx hb (hV.1.1 i hi).2.2.1 hS hown (hts _ t_1404) (fun _ h => h) dJ0_charAt_5068e_8 ?_
  refine lv_iload_n hx hb dJ0_charAt_5068e_11 rfl (lv_at hl 1 rfl) ?_
  refine cRi (runS (As := [.ref (adV i), .int x]) (rest := []) C (mJ1_charAt l D a hi hk) lk_S_J0_495 okN_J1_charAt_3b067 ⟨Nat.le_of_ble_eq_true rfl, Nat.le_of_ble_eq_true rfl⟩ ⟨rfl, rfl⟩ (preRs (wc := []) hK (fun k q h => by simp at h) hV) hl.1 rfl (Nat.le_of_ble_eq_true rfl) dJ0_charAt_5068e_12 ⟨Nat.le_of_ble_eq_true rfl, Nat.le_of_ble_eq_true rfl⟩) ?_
  exact retRn C rfl (sc_nar _) rfl dJ0_charAt_5068e_15

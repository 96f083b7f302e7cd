theorem inst0 : Cond.instantiable RX0 6 ∈ TBg := t_125
theorem inst1 : Cond.instantiable RX1 4 ∈ TBg := t_280
theorem inst2 : Cond.instantiable RX2 1 ∈ TBg := t_269
theorem inst3 : Cond.instantiable RX3 5 ∈ TBg := t_560
theorem inst4 : Cond.instantiable RX4 8 ∈ TBg := t_197
theorem inst5 : Cond.instantiable RX5 8 ∈ TBg := t_30
theorem inst6 : Cond.instantiable RX6 9 ∈ TBg := t_203
theorem inst7 : Cond.instantiable RX7 18 ∈ TBg := t_32
theorem inst8 : Cond.instantiable RX8 11 ∈ TBg := t_20
theorem inst9 : Cond.instantiable RX9 36 ∈ TBg := t_877
theorem acI : Cond.arrayClass .int ∈ TBg := t_119
theorem acJ : Cond.arrayClass .long ∈ TBg := t_278
theorem acB : Cond.arrayClass .byte ∈ TBg := t_510
theorem acZ : Cond.arrayClass .boolean ∈ TBg := t_991
theorem NWs_in : ∀ w ∈ NWs, w ∈ tables_1 := by decide +kernel
theorem AO3_in : Cond.arrayOver (.object RX3) ∈ tables_1 := by decide +kernel
theorem AO5_in : Cond.arrayOver (.object RX5) ∈ tables_1 := by decide +kernel
theorem CC_in : Cond.castable "[I" "java/lang/Cloneable" ∈ tables_1 := by decide +kernel
theorem ao_of {s : State} {args : Array Value} {ty : FieldType} (hty : ∀ C, ty ≠ .object C) (hra : ∀ c, va_RA s c ty ↔ s.vm.findClass ("[" ++ ty.toString) = some c) (h : (Cond.arrayClass ty).before args s = true) : ∃ c : ClassId, ArrOfT s c ty ∧ va_RA s c ty := by
  obtain ⟨c, k, comp, h1, h2, h3⟩ := Cond.arrayClass_spec h
  exact ⟨c, fun N z => ⟨(fun k h => by cases h), k, h2, comp, h3⟩, (hra c).mpr h1⟩
theorem ao_obj {s : State} {args : Array Value} {C : String} (h : (Cond.arrayOver (.object C)).before args s = true) : ∃ c : ClassId, ArrOfT s c (.object C) ∧ va_RA s c (.object C) := by
  obtain ⟨comp, c, k, h1, h2, h3, h4, h5⟩ := Cond.arrayOver_spec h
  exact ⟨c, fun N z => ⟨(fun k h => by cases h), k, h3, comp, h4⟩, k, comp, h3, h4, h1, h5⟩
/-- what the tables give at the law's entry: the classes, the array classes, the nest words -/
theorem kk_start {s : State} {b : Nat} (hts : ∀ w ∈ lw_tbl, w.before #[Value.ref b] s = true) : ∃ (D : va_G) (a : Nat → ClassId), KK D a s := by
  have hT : ∀ w ∈ tables_1, w.before #[Value.ref b] s = true := fun w h => hts w (List.mem_append_right _ h)
  have hB : ∀ w ∈ TBg, w.before #[Value.ref b] s = true := fun w h => hts w (List.mem_filter.mp h).1
  obtain ⟨c0, i0, k0⟩ := u_known hB iX0 (hB _ inst0)
  obtain ⟨c1, i1, k1⟩ := u_known hB iX1 (hB _ inst1)
  obtain ⟨c2, i2, k2⟩ := u_known hB iX2 (hB _ inst2)
  obtain ⟨c3, i3, k3⟩ := u_known hB iX3 (hB _ inst3)
  obtain ⟨c4, i4, k4⟩ := u_known hB iX4 (hB _ inst4)
  obtain ⟨c5, i5, k5⟩ := u_known hB iX5 (hB _ inst5)
  obtain ⟨c6, i6, k6⟩ := u_known hB iX6 (hB _ inst6)
  obtain ⟨c7, i7, k7⟩ := u_known hB iX7 (hB _ inst7)
  obtain ⟨c8, i8, k8⟩ := u_known hB iX8 (hB _ inst8)
  obtain ⟨c9, i9, k9⟩ := u_known hB iX9 (hB _ inst9)
  obtain ⟨a0, r0⟩ := ao_of (by intro C h; cases h) (ra_int s) (hB _ acI)
  obtain ⟨a1, r1⟩ := ao_of (by intro C h; cases h) (ra_long s) (hB _ acJ)
  obtain ⟨a2, r2⟩ := ao_of (by intro C h; cases h) (ra_byte s) (hB _ acB)
  obtain ⟨a3, r3⟩ := ao_of (by intro C h; cases h) (ra_bool s) (hB _ acZ)
  obtain ⟨a4, r4⟩ := ao_obj (hT _ AO3_in)
  obtain ⟨a5, r5⟩ := ao_obj (hT _ AO5_in)
  refine ⟨(fun k => [c0, c1, c2, c3, c4, c5, c6, c7, c8, c9].getD k c0, fun k => [i0, i1, i2, i3, i4, i5, i6, i7, i8, i9].getD k i0), fun k => [a0, a1, a2, a3, a4, a5].getD k a0, ⟨?_, ?_⟩, ?_, va_AO.of (hT _ AO3_in), va_AO.of (hT _ AO5_in), va_Nw.of rfl (hT _ CC_in)⟩
  · intro k q hq
    match k, hq with
    | 0, hq => cases hq; exact k0
    | 1, hq => cases hq; exact k1
    | 2, hq => cases hq; exact k2
    | 3, hq => cases hq; exact k3
    | 4, hq => cases hq; exact k4
    | 5, hq => cases hq; exact k5
    | 6, hq => cases hq; exact k6
    | 7, hq => cases hq; exact k7
    | 8, hq => cases hq; exact k8
    | 9, hq => cases hq; exact k9
    | k + 10, hq => simp [classes] at hq
  · intro k q hq
    match k, hq with
    | 0, hq => cases hq; exact r0
    | 1, hq => cases hq; exact r1
    | 2, hq => cases hq; exact r2
    | 3, hq => cases hq; exact r3
    | 4, hq => cases hq; exact r4
    | 5, hq => cases hq; exact r5
    | k + 6, hq => simp [TY] at hq
  · intro w hw
    obtain ⟨x1, x2, x3, x4, e⟩ := NM_shape (List.all_eq_true.mp NWs_nm w hw)
    have h1 := hT w (NWs_in w hw)
    subst e
    exact va_Nw.of rfl h1

/-! Calls whose outcome may be one of several; numbers behind branches; the law's script. -/
abbrev SS : Type := Nat × List Nat × List Int32 × List Int64 × List (Nat → Int32) × List (Nat → Int64)
abbrev pk (l : List va_W) (i : Nat) : va_W := l.getD i []
section LRUN2
variable {p : Program} {l : Launch} {e : Env} {R : Room} {s : State} {m : MethodId} {args : Array Value} {below : List Frame} {meth : Method} {c : Code} {H : Heap} {locs : List Loc} {cells slots : Nat} {Q : State → Prop}
variable {mc ms : Nat} {rest st0 : List Value} {ls : Array Slot} {pc : Nat}
variable {D : va_G} {A : Nat → Prop} {ws wc wr : va_W}
theorem afMi {S : Type} {post : Int32 → S → Prop} {g : S → va_W} {av : Array Value} (hr : va_Run p l e R s m args below meth c H locs cells slots mc ms (F0 m pc ls st0) rest (va_Qi post (Bw D (va_A wc H.size) g) (va_A wc H.size) av) (va_A wc H.size)) (hP : va_P D classes ws H) (hD : va_D A ws) (hS : va_S A s.heap H locs) (hA : ∀ q, s.heap.size ≤ q → A q) (isC isR : List Nat) (hC : isC.map (fun i => ws[i]?) = wc.map some) (hRr : isR.map (fun i => ws[i]?) = wr.map some) (hn : va_nd isR = true) (hdis : ∀ i ∈ isR, i ∉ isC)
    (kk : ∀ (r : Int32) (u : S) (H1 : Heap) (locs1 : List Loc), post r u → va_P D classes (wr ++ g u) H1 → va_D A (wr ++ g u) → va_S A s.heap H1 locs1 → W p l e R s m args below meth c H1 locs1 (cells + mc) (slots + ms) Q (F0 m (pc + 3) ls (.int r :: rest))) : W p l e R s m args below meth c H locs cells slots Q (F0 m pc ls st0) := by
  have hF := va_free (wc := wc) hD hS hA isC hC
  refine va_calli hr hS (fun q _ h => hF q h) hF (fun r u t H1 locs1 ht hvm hw hB hz1 hk1 hS1 => ?_)
  have hB1 := hB.1
  rw [ht] at hB1
  obtain ⟨h1, h2⟩ := va_join hP hD isC isR hC hRr hn hdis hk1 hF hB1 hB.2
  exact kk r u H1 locs1 hw h1 h2 hS1
theorem afMl {S : Type} {post : Int64 → S → Prop} {g : S → va_W} {av : Array Value} (hr : va_Run p l e R s m args below meth c H locs cells slots mc ms (F0 m pc ls st0) rest (va_Ql post (Bw D (va_A wc H.size) g) (va_A wc H.size) av) (va_A wc H.size)) (hP : va_P D classes ws H) (hD : va_D A ws) (hS : va_S A s.heap H locs) (hA : ∀ q, s.heap.size ≤ q → A q) (isC isR : List Nat) (hC : isC.map (fun i => ws[i]?) = wc.map some) (hRr : isR.map (fun i => ws[i]?) = wr.map some) (hn : va_nd isR = true) (hdis : ∀ i ∈ isR, i ∉ isC)
    (kk : ∀ (r : Int64) (u : S) (H1 : Heap) (locs1 : List Loc), post r u → va_P D classes (wr ++ g u) H1 → va_D A (wr ++ g u) → va_S A s.heap H1 locs1 → W p l e R s m args below meth c H1 locs1 (cells + mc) (slots + ms) Q (F0 m (pc + 3) ls (.long r :: rest))) : W p l e R s m args below meth c H locs cells slots Q (F0 m pc ls st0) := by
  have hF := va_free (wc := wc) hD hS hA isC hC
  refine va_calll hr hS (fun q _ h => hF q h) hF (fun r u t H1 locs1 ht hvm hw hB hz1 hk1 hS1 => ?_)
  have hB1 := hB.1
  rw [ht] at hB1
  obtain ⟨h1, h2⟩ := va_join hP hD isC isR hC hRr hn hdis hk1 hF hB1 hB.2
  exact kk r u H1 locs1 hw h1 h2 hS1
theorem afMv {S : Type} {post : S → Prop} {g : S → va_W} {av : Array Value} (hr : va_Run p l e R s m args below meth c H locs cells slots mc ms (F0 m pc ls st0) rest (va_Qv post (Bw D (va_A wc H.size) g) (va_A wc H.size) av) (va_A wc H.size)) (hP : va_P D classes ws H) (hD : va_D A ws) (hS : va_S A s.heap H locs) (hA : ∀ q, s.heap.size ≤ q → A q) (isC isR : List Nat) (hC : isC.map (fun i => ws[i]?) = wc.map some) (hRr : isR.map (fun i => ws[i]?) = wr.map some) (hn : va_nd isR = true) (hdis : ∀ i ∈ isR, i ∉ isC)
    (kk : ∀ (u : S) (H1 : Heap) (locs1 : List Loc), post u → va_P D classes (wr ++ g u) H1 → va_D A (wr ++ g u) → va_S A s.heap H1 locs1 → W p l e R s m args below meth c H1 locs1 (cells + mc) (slots + ms) Q (F0 m (pc + 3) ls rest)) : W p l e R s m args below meth c H locs cells slots Q (F0 m pc ls st0) := by
  have hF := va_free (wc := wc) hD hS hA isC hC
  refine va_callv hr hS (fun q _ h => hF q h) hF (fun u t H1 locs1 ht hvm hw hB hz1 hk1 hS1 => ?_)
  have hB1 := hB.1
  rw [ht] at hB1
  obtain ⟨h1, h2⟩ := va_join hP hD isC isR hC hRr hn hdis hk1 hF hB1 hB.2
  exact kk u H1 locs1 hw h1 h2 hS1
theorem sld {cc : ByteArray} {H0 : Heap} (hexec : p.tables.exec = Jvm.exec) (hb : c.code = cc) {b L : Nat} {xs : Nat → Int32} (hX : va_X b L xs s H0) (hbl : b < H0.size) (hbA : ¬ A b) (hS : va_S A H0 H locs) {i : Int32} (k : Nat) (hi : IX i k L) (hdg : decode cc pc = .ok (.iaload, 1))
    (kk : W p l e R s m args below meth c H locs cells slots Q (F0 m (pc + 1) ls (.int (xs k) :: rest))) : W p l e R s m args below meth c H locs cells slots Q (F0 m pc ls (.int i :: .ref b :: rest)) := by
  refine va_sld hexec hb hX hbl hbA hS hi.vin hdg ?_
  rw [hi.1]; exact kk
theorem sldE {cc : ByteArray} {H0 : Heap} (hexec : p.tables.exec = Jvm.exec) (hb : c.code = cc) {b L : Nat} {xs : Nat → Int32} (hX : va_X b L xs s H0) (hbl : b < H0.size) (hbA : ¬ A b) (hS : va_S A H0 H locs) {i v : Int32} (k : Nat) (hi : IX i k L) (hv : v = xs k) (hdg : decode cc pc = .ok (.iaload, 1))
    (kk : W p l e R s m args below meth c H locs cells slots Q (F0 m (pc + 1) ls (.int v :: rest))) : W p l e R s m args below meth c H locs cells slots Q (F0 m pc ls (.int i :: .ref b :: rest)) := by
  refine sld hexec hb hX hbl hbA hS k hi hdg ?_
  rw [← hv]; exact kk
end LRUN2
section NUMS
variable {x y : Int32} {a b : Int}
theorem i32_lt (x y : Int32) : x < y ↔ x.toInt < y.toInt := Int32.lt_iff_toInt_lt
theorem i32_le (x y : Int32) : x ≤ y ↔ x.toInt ≤ y.toInt := Int32.le_iff_toInt_le
theorem bI_eq (ha : x.toInt = a) (hb : y.toInt = b) (h : x = y) : a = b := by rw [← ha, ← hb, h]
theorem bI_neq (ha : x.toInt = a) (hb : y.toInt = b) (h : ¬ x = y) : a ≠ b := fun e => h (Int32.toInt.inj (by rw [ha, hb, e]))
theorem bI_ne (ha : x.toInt = a) (hb : y.toInt = b) (h : ¬ x = y) : a ≠ b := bI_neq ha hb h
theorem bI_nne (ha : x.toInt = a) (hb : y.toInt = b) (h : x = y) : a = b := bI_eq ha hb h
theorem bI_lt (ha : x.toInt = a) (hb : y.toInt = b) (h : x < y) : a < b := by rw [← ha, ← hb]; exact (i32_lt x y).mp h
theorem bI_nlt (ha : x.toInt = a) (hb : y.toInt = b) (h : ¬ x < y) : a ≥ b := by rw [← ha, ← hb]; exact Int.not_lt.mp (fun q => h ((i32_lt x y).mpr q))
theorem bI_ge (ha : x.toInt = a) (hb : y.toInt = b) (h : y ≤ x) : a ≥ b := by rw [← ha, ← hb]; exact (i32_le y x).mp h
theorem bI_nge (ha : x.toInt = a) (hb : y.toInt = b) (h : ¬ y ≤ x) : a < b := by rw [← ha, ← hb]; exact Int.not_le.mp (fun q => h ((i32_le y x).mpr q))
theorem bI_gt (ha : x.toInt = a) (hb : y.toInt = b) (h : y < x) : a > b := by rw [← ha, ← hb]; exact (i32_lt y x).mp h
theorem bI_ngt (ha : x.toInt = a) (hb : y.toInt = b) (h : ¬ y < x) : a ≤ b := by rw [← ha, ← hb]; exact Int.not_lt.mp (fun q => h ((i32_lt y x).mpr q))
theorem bI_le (ha : x.toInt = a) (hb : y.toInt = b) (h : x ≤ y) : a ≤ b := by rw [← ha, ← hb]; exact (i32_le x y).mp h
theorem bI_nle (ha : x.toInt = a) (hb : y.toInt = b) (h : ¬ x ≤ y) : a > b := by rw [← ha, ← hb]; exact Int.not_le.mp (fun q => h ((i32_le x y).mpr q))
end NUMS
section NUML
variable {x y : Int64} {a b : Int}
theorem i64_lt (x y : Int64) : x < y ↔ x.toInt < y.toInt := Int64.lt_iff_toInt_lt
theorem i64_le (x y : Int64) : x ≤ y ↔ x.toInt ≤ y.toInt := Int64.le_iff_toInt_le
theorem cI_eq (ha : x.toInt = a) (hb : y.toInt = b) (h : lg_cmp x y = 0) : a = b := by rw [← ha, ← hb, (lg_cmp_eq x y).mp h]
theorem cI_neq (ha : x.toInt = a) (hb : y.toInt = b) (h : ¬ lg_cmp x y = 0) : a ≠ b := fun e => h ((lg_cmp_eq x y).mpr (Int64.toInt.inj (by rw [ha, hb, e])))
theorem cI_ne (ha : x.toInt = a) (hb : y.toInt = b) (h : ¬ lg_cmp x y = 0) : a ≠ b := cI_neq ha hb h
theorem cI_nne (ha : x.toInt = a) (hb : y.toInt = b) (h : lg_cmp x y = 0) : a = b := cI_eq ha hb h
theorem cI_lt (ha : x.toInt = a) (hb : y.toInt = b) (h : lg_cmp x y < 0) : a < b := by rw [← ha, ← hb]; exact (i64_lt x y).mp ((lg_cmp_lt x y).mp h)
theorem cI_nlt (ha : x.toInt = a) (hb : y.toInt = b) (h : ¬ lg_cmp x y < 0) : a ≥ b := by rw [← ha, ← hb]; exact Int.not_lt.mp (fun q => h ((lg_cmp_lt x y).mpr ((i64_lt x y).mpr q)))
theorem cI_ge (ha : x.toInt = a) (hb : y.toInt = b) (h : 0 ≤ lg_cmp x y) : a ≥ b := by rw [← ha, ← hb]; exact (i64_le y x).mp ((lg_cmp_ge x y).mp h)
theorem cI_nge (ha : x.toInt = a) (hb : y.toInt = b) (h : ¬ 0 ≤ lg_cmp x y) : a < b := by rw [← ha, ← hb]; exact Int.not_le.mp (fun q => h ((lg_cmp_ge x y).mpr ((i64_le y x).mpr q)))
theorem cI_gt (ha : x.toInt = a) (hb : y.toInt = b) (h : 0 < lg_cmp x y) : a > b := by rw [← ha, ← hb]; exact (i64_lt y x).mp ((lg_cmp_gt x y).mp h)
theorem cI_ngt (ha : x.toInt = a) (hb : y.toInt = b) (h : ¬ 0 < lg_cmp x y) : a ≤ b := by rw [← ha, ← hb]; exact Int.not_lt.mp (fun q => h ((lg_cmp_gt x y).mpr ((i64_lt y x).mpr q)))
theorem cI_le (ha : x.toInt = a) (hb : y.toInt = b) (h : lg_cmp x y ≤ 0) : a ≤ b := by rw [← ha, ← hb]; exact (i64_le x y).mp ((lg_cmp_le x y).mp h)
theorem cI_nle (ha : x.toInt = a) (hb : y.toInt = b) (h : ¬ lg_cmp x y ≤ 0) : a > b := by rw [← ha, ← hb]; exact Int.not_le.mp (fun q => h ((lg_cmp_le x y).mpr ((i64_le x y).mpr q)))
end NUML
theorem ix_of {i : Int32} {n : Nat} (h0 : 0 ≤ i.toInt) (h1 : i.toInt < n) : IX i i.toNatClampNeg n := by
  have e : (i.toNatClampNeg : Int) = i.toInt := by
    rw [Int32.toNatClampNeg]; exact Int.toNat_of_nonneg h0
  refine ⟨rfl, fun q => ?_, by omega⟩
  have := (i32_lt i 0).mp q
  have e2 : (0 : Int32).toInt = 0 := by decide
  omega
theorem i32_add {i j : Int32} {a b : Int} (ha : i.toInt = a) (hb : j.toInt = b) (h0 : -2147483648 ≤ a + b) (h1 : a + b < 2147483648) : (i + j).toInt = a + b := by
  rw [Int32.toInt_add, ha, hb]
  exact Int.bmod_eq_of_le (by simpa using h0) (by simpa using h1)
theorem ix_add {i j : Int32} {n : Nat} {a b : Int} (ha : i.toInt = a) (hb : j.toInt = b) (h0 : 0 ≤ a + b) (h1 : a + b < n) (hn : n < 2147483648) : IX (i + j) (i + j).toNatClampNeg n := by
  have e := i32_add ha hb (by omega) (by omega)
  exact ix_of (by rw [e]; exact h0) (by rw [e]; exact h1)
theorem cpy00 (a b n : Nat) : va_cpy (fun _ => (0 : Int32)) (fun _ => 0) a b n = (fun _ => 0) := by
  funext j
  by_cases h : b ≤ j ∧ j < b + n
  · exact pk_cpy_in h.1 h.2
  · exact pk_cpy_out (by omega)
theorem ix_img {x1 : Int32} (h0 : x1.toInt ≥ 0) (h3 : x1.toInt ≤ 3) {i : Nat} (hi : i < 104) : IX (104 * x1 + nI i) (104 * x1 + nI i).toNatClampNeg 416 := by
  have e1 : (104 * x1).toInt = 104 * x1.toInt := by
    have e : (104 : Int32).toInt = 104 := by decide
    rw [Int32.toInt_mul, e]
    exact Int.bmod_eq_of_le (by omega) (by omega)
  exact ix_add e1 (nI_toInt (by omega)) (by omega) (by omega) (by decide)

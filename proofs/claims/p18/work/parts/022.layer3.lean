/-! Pure functions with answers, and the machine's rows over them. -/
abbrev Sx : Type := (Nat → Int32) × (Nat → Nat → Int32) × (Nat → Nat → Int64)
def gI (z : Sx) (k : Nat) : Int32 := z.1 k
def gT (z : Sx) (k : Nat) : Nat → Int32 := z.2.1 k
def gJ (z : Sx) (k : Nat) : Nat → Int64 := z.2.2 k
def sI (z : Sx) (k : Nat) (v : Int32) : Sx := (upd z.1 k v, z.2)
def sTf (z : Sx) (k : Nat) (f : Nat → Int32) : Sx := (z.1, va_up z.2.1 k f, z.2.2)
def sJf (z : Sx) (k : Nat) (f : Nat → Int64) : Sx := (z.1, z.2.1, va_up z.2.2 k f)
def sT (z : Sx) (k j : Nat) (v : Int32) : Sx := sTf z k (upd (gT z k) j v)
def sJ (z : Sx) (k j : Nat) (v : Int64) : Sx := sJf z k (vp_updL (gJ z k) j v)
abbrev ra0 (a : Nat → ClassId) (q n : Nat) (f : Nat → Int32) : va_W := [(q, .inl (a 0, n, .inl f))]
abbrev ra1 (a : Nat → ClassId) (q n : Nat) (f : Nat → Int64) : va_W := [(q, .inl (a 1, n, .inr (.inl f)))]
abbrev ra2 (a : Nat → ClassId) (q n : Nat) (f : Nat → Int32) : va_W := [(q, .inl (a 2, n, .inl f))]
abbrev rb4 (a : Nat → ClassId) (q n : Nat) (f : Nat → Option Nat) : va_W := [(q, .inl (a 4, n, .inr (.inr (.inr (.inr f)))))]
abbrev rb5 (a : Nat → ClassId) (q n : Nat) (f : Nat → Option Nat) : va_W := [(q, .inl (a 5, n, .inr (.inr (.inr (.inr f)))))]
abbrev mxI (x y : Int32) : Int32 := if x < y then y else x
abbrev mnI (x y : Int32) : Int32 := if y < x then y else x
abbrev abI (x : Int32) : Int32 := if 0 ≤ x then x else 0 - x
abbrev abL (x : Int64) : Int64 := if 0 < x then x else -x
abbrev mxL (x y : Int64) : Int64 := if y < x then x else y
def FU : Nat := 18446744073709551616
abbrev inb (i : Int32) (n : Nat) : Prop := ¬ i < 0 ∧ i.toNatClampNeg < n
theorem ix_g {i : Int32} {n : Nat} (h : ¬ i < 0 ∧ i.toNatClampNeg < n) : IX i i.toNatClampNeg n := ⟨rfl, h.1, h.2⟩
section OPT
variable {α β γ δ ε : Type}
def gd (c : Prop) [Decidable c] (x : Option α) : Option α := if c then x else none
theorem gd_some {c : Prop} [Decidable c] {x : Option α} {y : α} (h : gd c x = some y) : c ∧ x = some y := by
  unfold gd at h
  by_cases hc : c
  · rw [if_pos hc] at h; exact ⟨hc, h⟩
  · rw [if_neg hc] at h; cases h
theorem gd_pos {c : Prop} [Decidable c] {x : Option α} (hc : c) : gd c x = x := if_pos hc
def bd (x : Option α) (f : α → Option β) : Option β := match x with
  | none => none
  | some a => f a
theorem bd_some {x : Option α} {f : α → Option β} {y : β} (h : bd x f = some y) : ∃ a, x = some a ∧ f a = some y := by
  cases x with
  | none => cases h
  | some a => exact ⟨a, rfl, h⟩
theorem bd_eq {x : Option α} {f : α → Option β} {a : α} (h : x = some a) : bd x f = f a := by rw [h]; rfl
def bd2 (x : Option (α × β)) (f : α → β → Option γ) : Option γ := match x with
  | none => none
  | some (a, b) => f a b
theorem bd2_some {x : Option (α × β)} {f : α → β → Option γ} {y : γ} (h : bd2 x f = some y) : ∃ a b, x = some (a, b) ∧ f a b = some y := by
  cases x with
  | none => cases h
  | some a => exact ⟨a.1, a.2, rfl, h⟩
theorem bd2_eq {x : Option (α × β)} {f : α → β → Option γ} {a : α} {b : β} (h : x = some (a, b)) : bd2 x f = f a b := by rw [h]; rfl
def bd3 (x : Option (α × β × γ)) (f : α → β → γ → Option δ) : Option δ := match x with
  | none => none
  | some (a, b, c) => f a b c
theorem bd3_some {x : Option (α × β × γ)} {f : α → β → γ → Option δ} {y : δ} (h : bd3 x f = some y) : ∃ a b c, x = some (a, b, c) ∧ f a b c = some y := by
  cases x with
  | none => cases h
  | some a => exact ⟨a.1, a.2.1, a.2.2, rfl, h⟩
theorem bd3_eq {x : Option (α × β × γ)} {f : α → β → γ → Option δ} {a : α} {b : β} {c : γ} (h : x = some (a, b, c)) : bd3 x f = f a b c := by rw [h]; rfl
def bd4 (x : Option (α × β × γ × δ)) (f : α → β → γ → δ → Option ε) : Option ε := match x with
  | none => none
  | some (a, b, c, d) => f a b c d
theorem bd4_some {x : Option (α × β × γ × δ)} {f : α → β → γ → δ → Option ε} {y : ε} (h : bd4 x f = some y) : ∃ a b c d, x = some (a, b, c, d) ∧ f a b c d = some y := by
  cases x with
  | none => cases h
  | some a => exact ⟨a.1, a.2.1, a.2.2.1, a.2.2.2, rfl, h⟩
theorem ite_t {c : Prop} [Decidable c] {x z : Option α} {y : α} (hc : c) (h : (if c then x else z) = some y) : x = some y := by rwa [if_pos hc] at h
theorem ite_f {c : Prop} [Decidable c] {x z : Option α} {y : α} (hc : ¬ c) (h : (if c then x else z) = some y) : z = some y := by rwa [if_neg hc] at h
end OPT
def jn {κ : Type} {α : Type} (K : κ) (b : κ → Option α) : Option α := b K
theorem jn_some {κ : Type} {α : Type} {K : κ} {b : κ → Option α} {y : α} (h : jn K b = some y) : ∃ J, J = K ∧ b J = some y := ⟨K, rfl, h⟩
def nm {κ : Type} {α : Type} (v : κ) (b : κ → Option α) : Option α := b v
theorem nm_some {κ : Type} {α : Type} {v : κ} {b : κ → Option α} {y : α} (h : nm v b = some y) (x : κ) (e : x = v) : b x = some y := by rw [e]; exact h
section LRUN3
variable {p : Program} {l : Launch} {e : Env} {R : Room} {s : State} {m : MethodId} {args : Array Value} {below : List Frame} {meth : Method} {c : Code} {H : Heap} {locs : List Loc} {cells slots : Nat} {Q : State → Prop}
variable {rest st0 : List Value} {ls : Array Slot} {pc : Nat} {M0 : Mt}
variable {D : va_G} {A : Nat → Prop} {ws wc w' : va_W} {av : Array Value}
theorem cRi {y : Int32} (hr : va_Run p l e R s m args below meth c H locs cells slots 0 0 (F0 m pc ls st0) rest (vp_Si (fun r => r = y) av) (fun _ => False)) (kk : W p l e R s m args below meth c H locs cells slots Q (F0 m (pc + 3) ls (.int y :: rest))) : W p l e R s m args below meth c H locs cells slots Q (F0 m pc ls st0) := aftRi hr (fun r h => by rw [h]; exact kk)
theorem cRl {y : Int64} (hr : va_Run p l e R s m args below meth c H locs cells slots 0 0 (F0 m pc ls st0) rest (vp_Sl (fun r => r = y) av) (fun _ => False)) (kk : W p l e R s m args below meth c H locs cells slots Q (F0 m (pc + 3) ls (.long y :: rest))) : W p l e R s m args below meth c H locs cells slots Q (F0 m pc ls st0) := aftRl hr (fun r h => by rw [h]; exact kk)
theorem cRq {y : Option Nat} (hr : va_Run p l e R s m args below meth c H locs cells slots 0 0 (F0 m pc ls st0) rest (va_Sq (fun r => r = y) av) (fun _ => False)) (kk : W p l e R s m args below meth c H locs cells slots Q (F0 m (pc + 3) ls (va_rf y :: rest))) : W p l e R s m args below meth c H locs cells slots Q (F0 m pc ls st0) := aftRq hr (fun r h => by rw [h]; exact kk)
theorem free_all (hD : va_D A ws) (hS : va_S A s.heap H locs) (hA : ∀ q, s.heap.size ≤ q → A q) : ∀ q, va_A ws H.size q → A q := by
  intro q h
  rcases h with ⟨k, e, h⟩ | h
  · exact hD.2 k _ h
  · exact hA q (Nat.le_trans hS.1 h)
theorem cWi {y : Int32} (hr : va_Run p l e R s m args below meth c H locs cells slots 0 0 (F0 m pc ls st0) rest (va_Qi (fun r (_ : Unit) => r = y) (Bw D (va_A ws H.size) (fun _ => w')) (va_A ws H.size) av) (va_A ws H.size)) (hP : va_P D classes ws H) (hD : va_D A ws) (hS : va_S A s.heap H locs) (hA : ∀ q, s.heap.size ≤ q → A q)
    (kk : ∀ (H1 : Heap) (locs1 : List Loc), va_P D classes w' H1 → va_D A w' → va_S A s.heap H1 locs1 → W p l e R s m args below meth c H1 locs1 cells slots Q (F0 m (pc + 3) ls (.int y :: rest))) : W p l e R s m args below meth c H locs cells slots Q (F0 m pc ls st0) := by
  have hF := free_all hD hS hA
  refine va_calli hr hS (fun q _ h => hF q h) hF (fun r u t H1 locs1 ht hvm hw hB hz1 hk1 hS1 => ?_)
  have hB1 := hB.1
  rw [ht] at hB1
  rw [hw]
  exact kk H1 locs1 hB1 ⟨hB.2.1, fun k q h => hF _ (hB.2.2 k q h)⟩ hS1
theorem cWl {y : Int64} (hr : va_Run p l e R s m args below meth c H locs cells slots 0 0 (F0 m pc ls st0) rest (va_Ql (fun r (_ : Unit) => r = y) (Bw D (va_A ws H.size) (fun _ => w')) (va_A ws H.size) av) (va_A ws H.size)) (hP : va_P D classes ws H) (hD : va_D A ws) (hS : va_S A s.heap H locs) (hA : ∀ q, s.heap.size ≤ q → A q)
    (kk : ∀ (H1 : Heap) (locs1 : List Loc), va_P D classes w' H1 → va_D A w' → va_S A s.heap H1 locs1 → W p l e R s m args below meth c H1 locs1 cells slots Q (F0 m (pc + 3) ls (.long y :: rest))) : W p l e R s m args below meth c H locs cells slots Q (F0 m pc ls st0) := by
  have hF := free_all hD hS hA
  refine va_calll hr hS (fun q _ h => hF q h) hF (fun r u t H1 locs1 ht hvm hw hB hz1 hk1 hS1 => ?_)
  have hB1 := hB.1
  rw [ht] at hB1
  rw [hw]
  exact kk H1 locs1 hB1 ⟨hB.2.1, fun k q h => hF _ (hB.2.2 k q h)⟩ hS1
theorem cWv (hr : va_Run p l e R s m args below meth c H locs cells slots 0 0 (F0 m pc ls st0) rest (va_Qv (fun (_ : Unit) => True) (Bw D (va_A ws H.size) (fun _ => w')) (va_A ws H.size) av) (va_A ws H.size)) (hP : va_P D classes ws H) (hD : va_D A ws) (hS : va_S A s.heap H locs) (hA : ∀ q, s.heap.size ≤ q → A q)
    (kk : ∀ (H1 : Heap) (locs1 : List Loc), va_P D classes w' H1 → va_D A w' → va_S A s.heap H1 locs1 → W p l e R s m args below meth c H1 locs1 cells slots Q (F0 m (pc + 3) ls rest)) : W p l e R s m args below meth c H locs cells slots Q (F0 m pc ls st0) := by
  have hF := free_all hD hS hA
  refine va_callv hr hS (fun q _ h => hF q h) hF (fun u t H1 locs1 ht hvm hw hB hz1 hk1 hS1 => ?_)
  have hB1 := hB.1
  rw [ht] at hB1
  exact kk H1 locs1 hB1 ⟨hB.2.1, fun k q h => hF _ (hB.2.2 k q h)⟩ hS1
theorem cMi {y : Int32} {fw : va_W} (hr : va_Run p l e R s m args below meth c H locs cells slots 0 0 (F0 m pc ls st0) rest (va_Qi (fun r (_ : Unit) => r = y) (Bw D (va_A wc H.size) (fun _ => w')) (va_A wc H.size) av) (va_A wc H.size)) (hP : va_P D classes ws H) (hD : va_D A ws) (hS : va_S A s.heap H locs) (hA : ∀ q, s.heap.size ≤ q → A q) (isC isR pm : List Nat) (hC : isC.map (fun i => ws[i]?) = wc.map some) (hRr : isR.map (fun i => ws[i]?) = (isR.filterMap (fun i => ws[i]?)).map some) (hn : va_nd isR = true) (hdis : ∀ i ∈ isR, i ∉ isC) (hpm : pm.map (fun i => (isR.filterMap (fun i => ws[i]?) ++ w')[i]?) = fw.map some) (hnp : va_nd pm = true)
    (kk : ∀ (H1 : Heap) (locs1 : List Loc), va_P D classes fw H1 → va_D A fw → va_S A s.heap H1 locs1 → W p l e R s m args below meth c H1 locs1 cells slots Q (F0 m (pc + 3) ls (.int y :: rest))) : W p l e R s m args below meth c H locs cells slots Q (F0 m pc ls st0) :=
  aftMi hr hP hD hS hA isC isR pm hC hRr hn hdis (fw := fun _ => fw) (fun _ => hpm) hnp (fun r u H1 locs1 h h1 h2 h3 => by rw [h]; exact kk H1 locs1 h1 h2 h3)
theorem cMl {y : Int64} {fw : va_W} (hr : va_Run p l e R s m args below meth c H locs cells slots 0 0 (F0 m pc ls st0) rest (va_Ql (fun r (_ : Unit) => r = y) (Bw D (va_A wc H.size) (fun _ => w')) (va_A wc H.size) av) (va_A wc H.size)) (hP : va_P D classes ws H) (hD : va_D A ws) (hS : va_S A s.heap H locs) (hA : ∀ q, s.heap.size ≤ q → A q) (isC isR pm : List Nat) (hC : isC.map (fun i => ws[i]?) = wc.map some) (hRr : isR.map (fun i => ws[i]?) = (isR.filterMap (fun i => ws[i]?)).map some) (hn : va_nd isR = true) (hdis : ∀ i ∈ isR, i ∉ isC) (hpm : pm.map (fun i => (isR.filterMap (fun i => ws[i]?) ++ w')[i]?) = fw.map some) (hnp : va_nd pm = true)
    (kk : ∀ (H1 : Heap) (locs1 : List Loc), va_P D classes fw H1 → va_D A fw → va_S A s.heap H1 locs1 → W p l e R s m args below meth c H1 locs1 cells slots Q (F0 m (pc + 3) ls (.long y :: rest))) : W p l e R s m args below meth c H locs cells slots Q (F0 m pc ls st0) :=
  aftMl hr hP hD hS hA isC isR pm hC hRr hn hdis (fw := fun _ => fw) (fun _ => hpm) hnp (fun r u H1 locs1 h h1 h2 h3 => by rw [h]; exact kk H1 locs1 h1 h2 h3)
theorem cMv {fw : va_W} (hr : va_Run p l e R s m args below meth c H locs cells slots 0 0 (F0 m pc ls st0) rest (va_Qv (fun (_ : Unit) => True) (Bw D (va_A wc H.size) (fun _ => w')) (va_A wc H.size) av) (va_A wc H.size)) (hP : va_P D classes ws H) (hD : va_D A ws) (hS : va_S A s.heap H locs) (hA : ∀ q, s.heap.size ≤ q → A q) (isC isR pm : List Nat) (hC : isC.map (fun i => ws[i]?) = wc.map some) (hRr : isR.map (fun i => ws[i]?) = (isR.filterMap (fun i => ws[i]?)).map some) (hn : va_nd isR = true) (hdis : ∀ i ∈ isR, i ∉ isC) (hpm : pm.map (fun i => (isR.filterMap (fun i => ws[i]?) ++ w')[i]?) = fw.map some) (hnp : va_nd pm = true)
    (kk : ∀ (H1 : Heap) (locs1 : List Loc), va_P D classes fw H1 → va_D A fw → va_S A s.heap H1 locs1 → W p l e R s m args below meth c H1 locs1 cells slots Q (F0 m (pc + 3) ls rest)) : W p l e R s m args below meth c H locs cells slots Q (F0 m pc ls st0) :=
  aftMv hr hP hD hS hA isC isR pm hC hRr hn hdis (fw := fun _ => fw) (fun _ => hpm) hnp (fun u H1 locs1 h h1 h2 h3 => kk H1 locs1 h1 h2 h3)
theorem rRi {y v : Int32} (C : Cx p s m args meth c M0) (hri : M0.2.2.2 = some .int) (hv : v = y) (hdg : decode M0.2.1 pc = .ok (.ireturn, 1)) : W p l e R s m args below meth c s.heap [] 0 0 (MQ below (vp_Si (fun r => r = y)) args s 0 0 (fun _ => False)) (F0 m pc ls [.int v]) := retRi C hri hv hdg
theorem rRz {y v : Int32} (C : Cx p s m args meth c M0) (hri : M0.2.2.2 = some .boolean) (hz : v = 0 ∨ v = 1) (hv : v = y) (hdg : decode M0.2.1 pc = .ok (.ireturn, 1)) : W p l e R s m args below meth c s.heap [] 0 0 (MQ below (vp_Si (fun r => r = y)) args s 0 0 (fun _ => False)) (F0 m pc ls [.int v]) := retRz C hri hz hv hdg
theorem rRl {y v : Int64} (C : Cx p s m args meth c M0) (hri : M0.2.2.2 = some .long) (hv : v = y) (hdg : decode M0.2.1 pc = .ok (.lreturn, 1)) : W p l e R s m args below meth c s.heap [] 0 0 (MQ below (vp_Sl (fun r => r = y)) args s 0 0 (fun _ => False)) (F0 m pc ls [.long v]) := retRl C hri hv hdg
theorem rMi {β : Type} {g : β → va_W} {pr : β → Int32} {y yy : β} (C : Cx p s m args meth c M0) (hri : M0.2.2.2 = some .int) (h : some yy = some y) (hP : va_P D classes (g yy) H) (hD : va_D A (g yy)) (hS : va_S A s.heap H locs) (hdg : decode M0.2.1 pc = .ok (.ireturn, 1)) : W p l e R s m args below meth c H locs 0 0 (MQ below (va_Qi (fun r (_ : Unit) => r = pr y) (Bw D A (fun _ => g y)) A) args s 0 0 A) (F0 m pc ls [.int (pr yy)]) := by
  cases h
  exact retMi C hri () rfl hP hD hS (Nat.le_refl 0) (Nat.le_refl 0) hdg
theorem rMz {β : Type} {g : β → va_W} {pr : β → Int32} {y yy : β} (C : Cx p s m args meth c M0) (hri : M0.2.2.2 = some .boolean) (hz : pr yy = 0 ∨ pr yy = 1) (h : some yy = some y) (hP : va_P D classes (g yy) H) (hD : va_D A (g yy)) (hS : va_S A s.heap H locs) (hdg : decode M0.2.1 pc = .ok (.ireturn, 1)) : W p l e R s m args below meth c H locs 0 0 (MQ below (va_Qi (fun r (_ : Unit) => r = pr y) (Bw D A (fun _ => g y)) A) args s 0 0 A) (F0 m pc ls [.int (pr yy)]) := by
  cases h
  exact retMz C hri hz () rfl hP hD hS (Nat.le_refl 0) (Nat.le_refl 0) hdg
theorem rMl {β : Type} {g : β → va_W} {pr : β → Int64} {y yy : β} (C : Cx p s m args meth c M0) (hri : M0.2.2.2 = some .long) (h : some yy = some y) (hP : va_P D classes (g yy) H) (hD : va_D A (g yy)) (hS : va_S A s.heap H locs) (hdg : decode M0.2.1 pc = .ok (.lreturn, 1)) : W p l e R s m args below meth c H locs 0 0 (MQ below (va_Ql (fun r (_ : Unit) => r = pr y) (Bw D A (fun _ => g y)) A) args s 0 0 A) (F0 m pc ls [.long (pr yy)]) := by
  cases h
  exact retMl C hri () rfl hP hD hS (Nat.le_refl 0) (Nat.le_refl 0) hdg
theorem rMv {β : Type} {g : β → va_W} {y yy : β} (C : Cx p s m args meth c M0) (hri : M0.2.2.2 = none) (h : some yy = some y) (hP : va_P D classes (g yy) H) (hD : va_D A (g yy)) (hS : va_S A s.heap H locs) (hdg : decode M0.2.1 pc = .ok (.return_, 1)) : W p l e R s m args below meth c H locs 0 0 (MQ below (va_Qv (fun (_ : Unit) => True) (Bw D A (fun _ => g y)) A) args s 0 0 A) (F0 m pc ls []) := by
  cases h
  exact retMv C hri () trivial hP hD hS (Nat.le_refl 0) (Nat.le_refl 0) hdg
end LRUN3
abbrev rc0 (a : Nat → ClassId) (q : Nat) (Q : Nat → Nat) (z : Sx) : va_W := [(q, .inr (0, [.int (gI z 0), .int (gI z 1), .int (gI z 2), .int (gI z 3), .int (gI z 4), .ref (Q 5)])), (Q 5, .inl (a 0, 10, .inl (gT z 5)))]
abbrev rc1 (a : Nat → ClassId) (q : Nat) (Q : Nat → Nat) (z : Sx) : va_W := [(q, .inr (1, [.ref (Q 0), .ref (Q 1), .int (gI z 2), .long (gJ z 3 0)])), (Q 0, .inl (a 1, 2048, .inr (.inl (gJ z 0)))), (Q 1, .inl (a 1, 2048, .inr (.inl (gJ z 1))))]
abbrev rc2 (a : Nat → ClassId) (q : Nat) (Q : Nat → Nat) (z : Sx) : va_W := [(q, .inr (2, [.ref (Q 0)])), (Q 0, .inl (a 1, 32, .inr (.inl (gJ z 0))))]
abbrev rc3 (a : Nat → ClassId) (q : Nat) (Q : Nat → Nat) (nc : Nat) (z : Sx) : va_W := [(q, .inr (3, [.ref (Q 0), .int (gI z 1), .ref (Q 2), .ref (Q 3), .ref (Q 4)])), (Q 0, .inl (a 0, nc, .inl (gT z 0))), (Q 2, .inl (a 0, 12, .inl (gT z 2))), (Q 3, .inl (a 0, 12, .inl (gT z 3))), (Q 4, .inl (a 0, 12, .inl (gT z 4)))]
abbrev rc4 (a : Nat → ClassId) (q : Nat) (Q : Nat → Nat) (z : Sx) : va_W := [(q, .inr (4, [.ref (Q 0), .ref (Q 1), .int (gI z 2), .int (gI z 3), .int (gI z 4), .ref (Q 5), .ref (Q 6), .ref (Q 7)])), (Q 1, .inl (a 0, 400, .inl (gT z 1))), (Q 5, .inl (a 0, 12, .inl (gT z 5))), (Q 6, .inl (a 0, 12, .inl (gT z 6))), (Q 7, .inl (a 0, 12, .inl (gT z 7)))]
abbrev rc5 (a : Nat → ClassId) (q : Nat) (Q : Nat → Nat) (z : Sx) : va_W := [(q, .inr (5, [.ref (Q 0), .ref (Q 1), .int (gI z 2), .int (gI z 3), .int (gI z 4), .ref (Q 5), .int (gI z 6), .ref (Q 7)])), (Q 5, .inl (a 0, 8, .inl (gT z 5))), (Q 7, .inl (a 0, 8, .inl (gT z 7)))]
abbrev rc6 (a : Nat → ClassId) (q : Nat) (Q : Nat → Nat) (z : Sx) : va_W := [(q, .inr (6, [.ref (Q 0), .ref (Q 1), .ref (Q 2), .int (gI z 3), .int (gI z 4), .int (gI z 5), .int (gI z 6), .int (gI z 7), .int (gI z 8)])), (Q 0, .inl (a 0, 401, .inl (gT z 0))), (Q 1, .inl (a 0, 401, .inl (gT z 1))), (Q 2, .inl (a 0, 401, .inl (gT z 2)))]
abbrev rc7 (a : Nat → ClassId) (q : Nat) (Q : Nat → Nat) (z : Sx) : va_W := [(q, .inr (7, [.int (gI z 0), .int (gI z 1), .int (gI z 2), .int (gI z 3), .int (gI z 4), .ref (Q 5), .ref (Q 6), .ref (Q 7), .ref (Q 8), .ref (Q 9), .ref (Q 10), .ref (Q 11), .ref (Q 12), .ref (Q 13), .ref (Q 14), .ref (Q 15), .ref (Q 16), .int (gI z 17)])), (Q 5, .inl (a 0, 6, .inl (gT z 5))), (Q 6, .inl (a 0, 6, .inl (gT z 6))), (Q 7, .inl (a 0, 6, .inl (gT z 7))), (Q 8, .inl (a 0, 10, .inl (gT z 8))), (Q 9, .inl (a 0, 10, .inl (gT z 9))), (Q 10, .inl (a 0, 10, .inl (gT z 10))), (Q 11, .inl (a 0, 10, .inl (gT z 11))), (Q 12, .inl (a 0, 10, .inl (gT z 12))), (Q 13, .inl (a 0, 10, .inl (gT z 13))), (Q 14, .inl (a 0, 10, .inl (gT z 14))), (Q 15, .inl (a 0, 10, .inl (gT z 15))), (Q 16, .inl (a 0, 10, .inl (gT z 16)))]
abbrev rc8 (a : Nat → ClassId) (q : Nat) (Q : Nat → Nat) (z : Sx) : va_W := [(q, .inr (8, [.ref (Q 0), .int (gI z 1), .ref (Q 2), .int (gI z 3), .int (gI z 4), .ref (Q 5), .ref (Q 6), .ref (Q 7), .ref (Q 8), .ref (Q 9), .ref (Q 10)])), (Q 0, .inl (a 0, 400, .inl (gT z 0)))]
abbrev rc9 (a : Nat → ClassId) (q : Nat) (Q : Nat → Nat) (z : Sx) : va_W := [(q, .inr (9, [.ref (Q 0), .int (gI z 1), .int (gI z 2), .ref (Q 3), .ref (Q 4), .ref (Q 5), .ref (Q 6), .int (gI z 7), .int (gI z 8), .int (gI z 9), .ref (Q 10), .ref (Q 11), .int (gI z 12), .int (gI z 13), .int (gI z 14), .int (gI z 15), .int (gI z 16), .int (gI z 17), .int (gI z 18), .ref (Q 19), .int (gI z 20), .ref (Q 21), .int (gI z 22), .ref (Q 23), .ref (Q 24), .ref (Q 25), .ref (Q 26), .ref (Q 27), .ref (Q 28), .ref (Q 29), .ref (Q 30), .ref (Q 31), .ref (Q 32), .ref (Q 33), .ref (Q 34), .ref (Q 35)])), (Q 0, .inl (a 2, 400, .inl (gT z 0))), (Q 3, .inl (a 0, 2400, .inl (gT z 3))), (Q 4, .inl (a 0, 7, .inl (gT z 4))), (Q 5, .inl (a 0, 360, .inl (gT z 5))), (Q 6, .inl (a 0, 6, .inl (gT z 6))), (Q 10, .inl (a 0, 18, .inl (gT z 10))), (Q 11, .inl (a 0, 40, .inl (gT z 11))), (Q 19, .inl (a 0, 400, .inl (gT z 19))), (Q 21, .inl (a 1, 64, .inr (.inl (gJ z 21)))), (Q 23, .inl (a 1, 9, .inr (.inl (gJ z 23)))), (Q 24, .inl (a 0, 104, .inl (gT z 24))), (Q 25, .inl (a 0, 104, .inl (gT z 25))), (Q 26, .inl (a 0, 6, .inl (gT z 26))), (Q 27, .inl (a 3, 6, .inl (gT z 27))), (Q 28, .inl (a 1, 6, .inr (.inl (gJ z 28)))), (Q 29, .inl (a 1, 6, .inr (.inl (gJ z 29)))), (Q 30, .inl (a 1, 6, .inr (.inl (gJ z 30)))), (Q 31, .inl (a 1, 6, .inr (.inl (gJ z 31)))), (Q 32, .inl (a 0, 6, .inl (gT z 32))), (Q 33, .inl (a 0, 6, .inl (gT z 33))), (Q 34, .inl (a 0, 416, .inl (gT z 34))), (Q 35, .inl (a 3, 4, .inl (gT z 35)))]
theorem u9_0 (a : Nat → ClassId) (q : Nat) (Q : Nat → Nat) (z : Sx) (k : Nat) (x : Int32) : (rc9 a q Q z).set 1 (Q 0, .inl (a 2, 400, .inl (upd (gT z 0) k x))) = rc9 a q Q (sT z 0 k x) := rfl
theorem u9_1 (a : Nat → ClassId) (q : Nat) (Q : Nat → Nat) (z : Sx) (v : Int32) : (rc9 a q Q z).set 0 (q, .inr (9, List.set [.ref (Q 0), .int (gI z 1), .int (gI z 2), .ref (Q 3), .ref (Q 4), .ref (Q 5), .ref (Q 6), .int (gI z 7), .int (gI z 8), .int (gI z 9), .ref (Q 10), .ref (Q 11), .int (gI z 12), .int (gI z 13), .int (gI z 14), .int (gI z 15), .int (gI z 16), .int (gI z 17), .int (gI z 18), .ref (Q 19), .int (gI z 20), .ref (Q 21), .int (gI z 22), .ref (Q 23), .ref (Q 24), .ref (Q 25), .ref (Q 26), .ref (Q 27), .ref (Q 28), .ref (Q 29), .ref (Q 30), .ref (Q 31), .ref (Q 32), .ref (Q 33), .ref (Q 34), .ref (Q 35)] 1 (.int v))) = rc9 a q Q (sI z 1 v) := rfl
theorem u9_2 (a : Nat → ClassId) (q : Nat) (Q : Nat → Nat) (z : Sx) (v : Int32) : (rc9 a q Q z).set 0 (q, .inr (9, List.set [.ref (Q 0), .int (gI z 1), .int (gI z 2), .ref (Q 3), .ref (Q 4), .ref (Q 5), .ref (Q 6), .int (gI z 7), .int (gI z 8), .int (gI z 9), .ref (Q 10), .ref (Q 11), .int (gI z 12), .int (gI z 13), .int (gI z 14), .int (gI z 15), .int (gI z 16), .int (gI z 17), .int (gI z 18), .ref (Q 19), .int (gI z 20), .ref (Q 21), .int (gI z 22), .ref (Q 23), .ref (Q 24), .ref (Q 25), .ref (Q 26), .ref (Q 27), .ref (Q 28), .ref (Q 29), .ref (Q 30), .ref (Q 31), .ref (Q 32), .ref (Q 33), .ref (Q 34), .ref (Q 35)] 2 (.int v))) = rc9 a q Q (sI z 2 v) := rfl
theorem u9_3 (a : Nat → ClassId) (q : Nat) (Q : Nat → Nat) (z : Sx) (k : Nat) (x : Int32) : (rc9 a q Q z).set 2 (Q 3, .inl (a 0, 2400, .inl (upd (gT z 3) k x))) = rc9 a q Q (sT z 3 k x) := rfl
theorem u9_4 (a : Nat → ClassId) (q : Nat) (Q : Nat → Nat) (z : Sx) (k : Nat) (x : Int32) : (rc9 a q Q z).set 3 (Q 4, .inl (a 0, 7, .inl (upd (gT z 4) k x))) = rc9 a q Q (sT z 4 k x) := rfl
theorem u9_5 (a : Nat → ClassId) (q : Nat) (Q : Nat → Nat) (z : Sx) (k : Nat) (x : Int32) : (rc9 a q Q z).set 4 (Q 5, .inl (a 0, 360, .inl (upd (gT z 5) k x))) = rc9 a q Q (sT z 5 k x) := rfl
theorem u9_6 (a : Nat → ClassId) (q : Nat) (Q : Nat → Nat) (z : Sx) (k : Nat) (x : Int32) : (rc9 a q Q z).set 5 (Q 6, .inl (a 0, 6, .inl (upd (gT z 6) k x))) = rc9 a q Q (sT z 6 k x) := rfl
theorem u9_7 (a : Nat → ClassId) (q : Nat) (Q : Nat → Nat) (z : Sx) (v : Int32) : (rc9 a q Q z).set 0 (q, .inr (9, List.set [.ref (Q 0), .int (gI z 1), .int (gI z 2), .ref (Q 3), .ref (Q 4), .ref (Q 5), .ref (Q 6), .int (gI z 7), .int (gI z 8), .int (gI z 9), .ref (Q 10), .ref (Q 11), .int (gI z 12), .int (gI z 13), .int (gI z 14), .int (gI z 15), .int (gI z 16), .int (gI z 17), .int (gI z 18), .ref (Q 19), .int (gI z 20), .ref (Q 21), .int (gI z 22), .ref (Q 23), .ref (Q 24), .ref (Q 25), .ref (Q 26), .ref (Q 27), .ref (Q 28), .ref (Q 29), .ref (Q 30), .ref (Q 31), .ref (Q 32), .ref (Q 33), .ref (Q 34), .ref (Q 35)] 7 (.int v))) = rc9 a q Q (sI z 7 v) := rfl
theorem u9_8 (a : Nat → ClassId) (q : Nat) (Q : Nat → Nat) (z : Sx) (v : Int32) : (rc9 a q Q z).set 0 (q, .inr (9, List.set [.ref (Q 0), .int (gI z 1), .int (gI z 2), .ref (Q 3), .ref (Q 4), .ref (Q 5), .ref (Q 6), .int (gI z 7), .int (gI z 8), .int (gI z 9), .ref (Q 10), .ref (Q 11), .int (gI z 12), .int (gI z 13), .int (gI z 14), .int (gI z 15), .int (gI z 16), .int (gI z 17), .int (gI z 18), .ref (Q 19), .int (gI z 20), .ref (Q 21), .int (gI z 22), .ref (Q 23), .ref (Q 24), .ref (Q 25), .ref (Q 26), .ref (Q 27), .ref (Q 28), .ref (Q 29), .ref (Q 30), .ref (Q 31), .ref (Q 32), .ref (Q 33), .ref (Q 34), .ref (Q 35)] 8 (.int v))) = rc9 a q Q (sI z 8 v) := rfl
theorem u9_9 (a : Nat → ClassId) (q : Nat) (Q : Nat → Nat) (z : Sx) (v : Int32) : (rc9 a q Q z).set 0 (q, .inr (9, List.set [.ref (Q 0), .int (gI z 1), .int (gI z 2), .ref (Q 3), .ref (Q 4), .ref (Q 5), .ref (Q 6), .int (gI z 7), .int (gI z 8), .int (gI z 9), .ref (Q 10), .ref (Q 11), .int (gI z 12), .int (gI z 13), .int (gI z 14), .int (gI z 15), .int (gI z 16), .int (gI z 17), .int (gI z 18), .ref (Q 19), .int (gI z 20), .ref (Q 21), .int (gI z 22), .ref (Q 23), .ref (Q 24), .ref (Q 25), .ref (Q 26), .ref (Q 27), .ref (Q 28), .ref (Q 29), .ref (Q 30), .ref (Q 31), .ref (Q 32), .ref (Q 33), .ref (Q 34), .ref (Q 35)] 9 (.int v))) = rc9 a q Q (sI z 9 v) := rfl
theorem u9_10 (a : Nat → ClassId) (q : Nat) (Q : Nat → Nat) (z : Sx) (k : Nat) (x : Int32) : (rc9 a q Q z).set 6 (Q 10, .inl (a 0, 18, .inl (upd (gT z 10) k x))) = rc9 a q Q (sT z 10 k x) := rfl
theorem u9_11 (a : Nat → ClassId) (q : Nat) (Q : Nat → Nat) (z : Sx) (k : Nat) (x : Int32) : (rc9 a q Q z).set 7 (Q 11, .inl (a 0, 40, .inl (upd (gT z 11) k x))) = rc9 a q Q (sT z 11 k x) := rfl
theorem u9_12 (a : Nat → ClassId) (q : Nat) (Q : Nat → Nat) (z : Sx) (v : Int32) : (rc9 a q Q z).set 0 (q, .inr (9, List.set [.ref (Q 0), .int (gI z 1), .int (gI z 2), .ref (Q 3), .ref (Q 4), .ref (Q 5), .ref (Q 6), .int (gI z 7), .int (gI z 8), .int (gI z 9), .ref (Q 10), .ref (Q 11), .int (gI z 12), .int (gI z 13), .int (gI z 14), .int (gI z 15), .int (gI z 16), .int (gI z 17), .int (gI z 18), .ref (Q 19), .int (gI z 20), .ref (Q 21), .int (gI z 22), .ref (Q 23), .ref (Q 24), .ref (Q 25), .ref (Q 26), .ref (Q 27), .ref (Q 28), .ref (Q 29), .ref (Q 30), .ref (Q 31), .ref (Q 32), .ref (Q 33), .ref (Q 34), .ref (Q 35)] 12 (.int v))) = rc9 a q Q (sI z 12 v) := rfl
theorem u9_13 (a : Nat → ClassId) (q : Nat) (Q : Nat → Nat) (z : Sx) (v : Int32) : (rc9 a q Q z).set 0 (q, .inr (9, List.set [.ref (Q 0), .int (gI z 1), .int (gI z 2), .ref (Q 3), .ref (Q 4), .ref (Q 5), .ref (Q 6), .int (gI z 7), .int (gI z 8), .int (gI z 9), .ref (Q 10), .ref (Q 11), .int (gI z 12), .int (gI z 13), .int (gI z 14), .int (gI z 15), .int (gI z 16), .int (gI z 17), .int (gI z 18), .ref (Q 19), .int (gI z 20), .ref (Q 21), .int (gI z 22), .ref (Q 23), .ref (Q 24), .ref (Q 25), .ref (Q 26), .ref (Q 27), .ref (Q 28), .ref (Q 29), .ref (Q 30), .ref (Q 31), .ref (Q 32), .ref (Q 33), .ref (Q 34), .ref (Q 35)] 13 (.int v))) = rc9 a q Q (sI z 13 v) := rfl
theorem u9_14 (a : Nat → ClassId) (q : Nat) (Q : Nat → Nat) (z : Sx) (v : Int32) : (rc9 a q Q z).set 0 (q, .inr (9, List.set [.ref (Q 0), .int (gI z 1), .int (gI z 2), .ref (Q 3), .ref (Q 4), .ref (Q 5), .ref (Q 6), .int (gI z 7), .int (gI z 8), .int (gI z 9), .ref (Q 10), .ref (Q 11), .int (gI z 12), .int (gI z 13), .int (gI z 14), .int (gI z 15), .int (gI z 16), .int (gI z 17), .int (gI z 18), .ref (Q 19), .int (gI z 20), .ref (Q 21), .int (gI z 22), .ref (Q 23), .ref (Q 24), .ref (Q 25), .ref (Q 26), .ref (Q 27), .ref (Q 28), .ref (Q 29), .ref (Q 30), .ref (Q 31), .ref (Q 32), .ref (Q 33), .ref (Q 34), .ref (Q 35)] 14 (.int v))) = rc9 a q Q (sI z 14 v) := rfl
theorem u9_15 (a : Nat → ClassId) (q : Nat) (Q : Nat → Nat) (z : Sx) (v : Int32) : (rc9 a q Q z).set 0 (q, .inr (9, List.set [.ref (Q 0), .int (gI z 1), .int (gI z 2), .ref (Q 3), .ref (Q 4), .ref (Q 5), .ref (Q 6), .int (gI z 7), .int (gI z 8), .int (gI z 9), .ref (Q 10), .ref (Q 11), .int (gI z 12), .int (gI z 13), .int (gI z 14), .int (gI z 15), .int (gI z 16), .int (gI z 17), .int (gI z 18), .ref (Q 19), .int (gI z 20), .ref (Q 21), .int (gI z 22), .ref (Q 23), .ref (Q 24), .ref (Q 25), .ref (Q 26), .ref (Q 27), .ref (Q 28), .ref (Q 29), .ref (Q 30), .ref (Q 31), .ref (Q 32), .ref (Q 33), .ref (Q 34), .ref (Q 35)] 15 (.int v))) = rc9 a q Q (sI z 15 v) := rfl
theorem u9_16 (a : Nat → ClassId) (q : Nat) (Q : Nat → Nat) (z : Sx) (v : Int32) : (rc9 a q Q z).set 0 (q, .inr (9, List.set [.ref (Q 0), .int (gI z 1), .int (gI z 2), .ref (Q 3), .ref (Q 4), .ref (Q 5), .ref (Q 6), .int (gI z 7), .int (gI z 8), .int (gI z 9), .ref (Q 10), .ref (Q 11), .int (gI z 12), .int (gI z 13), .int (gI z 14), .int (gI z 15), .int (gI z 16), .int (gI z 17), .int (gI z 18), .ref (Q 19), .int (gI z 20), .ref (Q 21), .int (gI z 22), .ref (Q 23), .ref (Q 24), .ref (Q 25), .ref (Q 26), .ref (Q 27), .ref (Q 28), .ref (Q 29), .ref (Q 30), .ref (Q 31), .ref (Q 32), .ref (Q 33), .ref (Q 34), .ref (Q 35)] 16 (.int v))) = rc9 a q Q (sI z 16 v) := rfl
theorem u9_17 (a : Nat → ClassId) (q : Nat) (Q : Nat → Nat) (z : Sx) (v : Int32) : (rc9 a q Q z).set 0 (q, .inr (9, List.set [.ref (Q 0), .int (gI z 1), .int (gI z 2), .ref (Q 3), .ref (Q 4), .ref (Q 5), .ref (Q 6), .int (gI z 7), .int (gI z 8), .int (gI z 9), .ref (Q 10), .ref (Q 11), .int (gI z 12), .int (gI z 13), .int (gI z 14), .int (gI z 15), .int (gI z 16), .int (gI z 17), .int (gI z 18), .ref (Q 19), .int (gI z 20), .ref (Q 21), .int (gI z 22), .ref (Q 23), .ref (Q 24), .ref (Q 25), .ref (Q 26), .ref (Q 27), .ref (Q 28), .ref (Q 29), .ref (Q 30), .ref (Q 31), .ref (Q 32), .ref (Q 33), .ref (Q 34), .ref (Q 35)] 17 (.int v))) = rc9 a q Q (sI z 17 v) := rfl
theorem u9_18 (a : Nat → ClassId) (q : Nat) (Q : Nat → Nat) (z : Sx) (v : Int32) : (rc9 a q Q z).set 0 (q, .inr (9, List.set [.ref (Q 0), .int (gI z 1), .int (gI z 2), .ref (Q 3), .ref (Q 4), .ref (Q 5), .ref (Q 6), .int (gI z 7), .int (gI z 8), .int (gI z 9), .ref (Q 10), .ref (Q 11), .int (gI z 12), .int (gI z 13), .int (gI z 14), .int (gI z 15), .int (gI z 16), .int (gI z 17), .int (gI z 18), .ref (Q 19), .int (gI z 20), .ref (Q 21), .int (gI z 22), .ref (Q 23), .ref (Q 24), .ref (Q 25), .ref (Q 26), .ref (Q 27), .ref (Q 28), .ref (Q 29), .ref (Q 30), .ref (Q 31), .ref (Q 32), .ref (Q 33), .ref (Q 34), .ref (Q 35)] 18 (.int v))) = rc9 a q Q (sI z 18 v) := rfl
theorem u9_19 (a : Nat → ClassId) (q : Nat) (Q : Nat → Nat) (z : Sx) (k : Nat) (x : Int32) : (rc9 a q Q z).set 8 (Q 19, .inl (a 0, 400, .inl (upd (gT z 19) k x))) = rc9 a q Q (sT z 19 k x) := rfl
theorem u9_20 (a : Nat → ClassId) (q : Nat) (Q : Nat → Nat) (z : Sx) (v : Int32) : (rc9 a q Q z).set 0 (q, .inr (9, List.set [.ref (Q 0), .int (gI z 1), .int (gI z 2), .ref (Q 3), .ref (Q 4), .ref (Q 5), .ref (Q 6), .int (gI z 7), .int (gI z 8), .int (gI z 9), .ref (Q 10), .ref (Q 11), .int (gI z 12), .int (gI z 13), .int (gI z 14), .int (gI z 15), .int (gI z 16), .int (gI z 17), .int (gI z 18), .ref (Q 19), .int (gI z 20), .ref (Q 21), .int (gI z 22), .ref (Q 23), .ref (Q 24), .ref (Q 25), .ref (Q 26), .ref (Q 27), .ref (Q 28), .ref (Q 29), .ref (Q 30), .ref (Q 31), .ref (Q 32), .ref (Q 33), .ref (Q 34), .ref (Q 35)] 20 (.int v))) = rc9 a q Q (sI z 20 v) := rfl
theorem u9_21 (a : Nat → ClassId) (q : Nat) (Q : Nat → Nat) (z : Sx) (k : Nat) (x : Int64) : (rc9 a q Q z).set 9 (Q 21, .inl (a 1, 64, .inr (.inl (vp_updL (gJ z 21) k x)))) = rc9 a q Q (sJ z 21 k x) := rfl
theorem u9_22 (a : Nat → ClassId) (q : Nat) (Q : Nat → Nat) (z : Sx) (v : Int32) : (rc9 a q Q z).set 0 (q, .inr (9, List.set [.ref (Q 0), .int (gI z 1), .int (gI z 2), .ref (Q 3), .ref (Q 4), .ref (Q 5), .ref (Q 6), .int (gI z 7), .int (gI z 8), .int (gI z 9), .ref (Q 10), .ref (Q 11), .int (gI z 12), .int (gI z 13), .int (gI z 14), .int (gI z 15), .int (gI z 16), .int (gI z 17), .int (gI z 18), .ref (Q 19), .int (gI z 20), .ref (Q 21), .int (gI z 22), .ref (Q 23), .ref (Q 24), .ref (Q 25), .ref (Q 26), .ref (Q 27), .ref (Q 28), .ref (Q 29), .ref (Q 30), .ref (Q 31), .ref (Q 32), .ref (Q 33), .ref (Q 34), .ref (Q 35)] 22 (.int v))) = rc9 a q Q (sI z 22 v) := rfl
theorem u9_23 (a : Nat → ClassId) (q : Nat) (Q : Nat → Nat) (z : Sx) (k : Nat) (x : Int64) : (rc9 a q Q z).set 10 (Q 23, .inl (a 1, 9, .inr (.inl (vp_updL (gJ z 23) k x)))) = rc9 a q Q (sJ z 23 k x) := rfl
theorem u9_24 (a : Nat → ClassId) (q : Nat) (Q : Nat → Nat) (z : Sx) (k : Nat) (x : Int32) : (rc9 a q Q z).set 11 (Q 24, .inl (a 0, 104, .inl (upd (gT z 24) k x))) = rc9 a q Q (sT z 24 k x) := rfl
theorem u9_25 (a : Nat → ClassId) (q : Nat) (Q : Nat → Nat) (z : Sx) (k : Nat) (x : Int32) : (rc9 a q Q z).set 12 (Q 25, .inl (a 0, 104, .inl (upd (gT z 25) k x))) = rc9 a q Q (sT z 25 k x) := rfl
theorem u9_26 (a : Nat → ClassId) (q : Nat) (Q : Nat → Nat) (z : Sx) (k : Nat) (x : Int32) : (rc9 a q Q z).set 13 (Q 26, .inl (a 0, 6, .inl (upd (gT z 26) k x))) = rc9 a q Q (sT z 26 k x) := rfl
theorem u9_27 (a : Nat → ClassId) (q : Nat) (Q : Nat → Nat) (z : Sx) (k : Nat) (x : Int32) : (rc9 a q Q z).set 14 (Q 27, .inl (a 3, 6, .inl (upd (gT z 27) k x))) = rc9 a q Q (sT z 27 k x) := rfl
theorem u9_28 (a : Nat → ClassId) (q : Nat) (Q : Nat → Nat) (z : Sx) (k : Nat) (x : Int64) : (rc9 a q Q z).set 15 (Q 28, .inl (a 1, 6, .inr (.inl (vp_updL (gJ z 28) k x)))) = rc9 a q Q (sJ z 28 k x) := rfl
theorem u9_29 (a : Nat → ClassId) (q : Nat) (Q : Nat → Nat) (z : Sx) (k : Nat) (x : Int64) : (rc9 a q Q z).set 16 (Q 29, .inl (a 1, 6, .inr (.inl (vp_updL (gJ z 29) k x)))) = rc9 a q Q (sJ z 29 k x) := rfl
theorem u9_30 (a : Nat → ClassId) (q : Nat) (Q : Nat → Nat) (z : Sx) (k : Nat) (x : Int64) : (rc9 a q Q z).set 17 (Q 30, .inl (a 1, 6, .inr (.inl (vp_updL (gJ z 30) k x)))) = rc9 a q Q (sJ z 30 k x) := rfl
theorem u9_31 (a : Nat → ClassId) (q : Nat) (Q : Nat → Nat) (z : Sx) (k : Nat) (x : Int64) : (rc9 a q Q z).set 18 (Q 31, .inl (a 1, 6, .inr (.inl (vp_updL (gJ z 31) k x)))) = rc9 a q Q (sJ z 31 k x) := rfl
theorem u9_32 (a : Nat → ClassId) (q : Nat) (Q : Nat → Nat) (z : Sx) (k : Nat) (x : Int32) : (rc9 a q Q z).set 19 (Q 32, .inl (a 0, 6, .inl (upd (gT z 32) k x))) = rc9 a q Q (sT z 32 k x) := rfl
theorem u9_33 (a : Nat → ClassId) (q : Nat) (Q : Nat → Nat) (z : Sx) (k : Nat) (x : Int32) : (rc9 a q Q z).set 20 (Q 33, .inl (a 0, 6, .inl (upd (gT z 33) k x))) = rc9 a q Q (sT z 33 k x) := rfl
theorem u9_34 (a : Nat → ClassId) (q : Nat) (Q : Nat → Nat) (z : Sx) (k : Nat) (x : Int32) : (rc9 a q Q z).set 21 (Q 34, .inl (a 0, 416, .inl (upd (gT z 34) k x))) = rc9 a q Q (sT z 34 k x) := rfl
theorem u9_35 (a : Nat → ClassId) (q : Nat) (Q : Nat → Nat) (z : Sx) (k : Nat) (x : Int32) : (rc9 a q Q z).set 22 (Q 35, .inl (a 3, 4, .inl (upd (gT z 35) k x))) = rc9 a q Q (sT z 35 k x) := rfl

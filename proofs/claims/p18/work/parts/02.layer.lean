/-! The words of the tables that hold on (good words); contracts over them; rows of calls and returns. -/
def TBg : List Cond := lw_tbl.filter goodWord
theorem tb_of {w : Cond} (h : w ∈ tables_1) (g : goodWord w = true) : w ∈ TBg := List.mem_filter.mpr ⟨List.mem_append_right _ h, g⟩
theorem tb_sel {q : MethodName × Nat} (h : q ∈ lw_privs) : Cond.selects q.1.cls q.1 q.1 ∈ TBg := List.mem_filter.mpr ⟨List.mem_append_left _ (List.mem_map.mpr ⟨q, h, rfl⟩), rfl⟩
abbrev Mt : Type := MethodName × ByteArray × Nat × Option FieldType
def cw (M : Mt) : Cond := .code M.1 M.2.1 M.2.2.1 M.2.2.2
def WS (M : Mt) : List Cond := cw M :: TBg
theorem gWS {M : Mt} (h : cw M ∈ TBg) : GoodIn TBg (WS M) := by
  intro w hw
  have hm : w ∈ TBg := by
    rcases List.mem_cons.mp hw with h2 | h2
    · rw [h2]; exact h
    · exact h2
  exact ⟨hm, good_of_word (List.mem_filter.mp hm).2⟩
abbrev classes : List vw_C := [(RX0, TX0, 6), (RX1, TX1, 4), (RX2, TX2, 1), (RX3, TX3, 5), (RX4, TX4, 8), (RX5, TX5, 8), (RX6, TX6, 9), (RX7, TX7, 18), (RX8, TX8, 11), (RX9, TX9, 36)]
abbrev TY (a : Nat → ClassId) : List (ClassId × FieldType) := [(a 0, .int), (a 1, .long), (a 2, .byte), (a 3, .boolean), (a 4, .object RX3), (a 5, .object RX5)]
def NWs : List Cond := [.methodLinkNest RX6 42 yX8_at RX8, .methodLinkNest RX7 88 yX8_put RX8, .methodLinkNest RX7 78 yX8_at RX8, .methodLinkNest RX4 75 yX8_put RX8, .methodLinkNest RX0 48 yX8_at RX8, .methodLinkNest RX0 52 yX8_put RX8, .methodLinkNest RX0 66 yX8_bit RX8, .methodLinkNest RX7 125 yX8_has RX8, .methodLinkNest RX2 47 yX8_at RX8, .methodLinkNest RX1 55 yX8_at RX8, .methodLinkNest RX1 71 yX8_hundreds RX8, .methodLinkNest RX1 75 yX8_bit RX8, .methodLinkNest RX1 112 yX8_has RX8]
def isNM : Cond → Bool
  | .methodLinkNest _ _ _ _ => true
  | _ => false
theorem NWs_nm : NWs.all isNM = true := by decide +kernel
theorem NM_shape {w : Cond} (h : isNM w = true) : ∃ a i x b, w = .methodLinkNest a i x b := by
  cases w <;> first | exact ⟨_, _, _, _, rfl⟩ | (exfalso; revert h; simp [isNM])
theorem NW_warm {s U : State} (hW : s.WarmedH U.vm) (h : ∀ w ∈ NWs, va_Nw w s) : ∀ w ∈ NWs, va_Nw w U := by
  intro w hw
  obtain ⟨a, i, x, b, e⟩ := NM_shape (List.all_eq_true.mp NWs_nm w hw)
  have h1 := h w hw
  subst e
  exact va_Nw.warmM hW h1
theorem NW_same {s U : State} (hv : s.vm = U.vm) (h : ∀ w ∈ NWs, va_Nw w s) : ∀ w ∈ NWs, va_Nw w U := by
  intro w hw
  obtain ⟨a, i, x, b, e⟩ := NM_shape (List.all_eq_true.mp NWs_nm w hw)
  have h1 := h w hw
  subst e
  exact va_Nw.same rfl hv h1
def KK (D : va_G) (a : Nat → ClassId) (U : State) : Prop := va_K D classes (TY a) U ∧ (∀ w ∈ NWs, va_Nw w U) ∧ va_AO RX3 U ∧ va_AO RX5 U ∧ va_Nw (.castable "[I" "java/lang/Cloneable") U
theorem KK.warm {D : va_G} {a : Nat → ClassId} {s U : State} (hW : s.WarmedH U.vm) (h : KK D a s) : KK D a U := ⟨va_K.moved hW.alike h.1, NW_warm hW h.2.1, va_AO.moved hW.alike h.2.2.1, va_AO.moved hW.alike h.2.2.2.1, va_Nw.warmC hW h.2.2.2.2⟩
theorem KK.calling {D : va_G} {a : Nat → ClassId} {U : State} {g : JFrame} {mk : MethodId} {av : Array Value} (h : KK D a U) : KK D a (U.calling g mk av) := ⟨va_K.moved (u := U) (U := U.calling g mk av) (Vm.Alike.refl U.vm) h.1, NW_same (s := U) (U := U.calling g mk av) rfl h.2.1, va_AO.moved (u := U) (U := U.calling g mk av) (Vm.Alike.refl U.vm) h.2.2.1, va_AO.moved (u := U) (U := U.calling g mk av) (Vm.Alike.refl U.vm) h.2.2.2.1, va_Nw.same (u := U) (U := U.calling g mk av) rfl rfl h.2.2.2.2⟩
/-! contracts: R reads only, M may write -/
abbrev rmM (f c z lo : Nat) : Room := { frames := f, cells := c, slots := z, locals := lo }
def PR (D : va_G) (a : Nat → ClassId) (As : List Value) (wc : va_W) : Array Value → State → Prop := va_Pc As (fun U => va_P D classes wc U.heap ∧ KK D a U)
def PM (D : va_G) (a : Nat → ClassId) (As : List Value) (wc : va_W) (sz : Nat) : Array Value → State → Prop := va_Pc As (fun U => U.heap.size = sz ∧ va_P D classes wc U.heap ∧ KK D a U ∧ va_D (fun _ => True) wc)
def Bw {S : Type} (D : va_G) (A : Nat → Prop) (g : S → va_W) (u : S) (t : State) : Prop := va_P D classes (g u) t.heap ∧ va_D A (g u)
def CRi (l : Launch) (M : Mt) (f lo : Nat) (D : va_G) (a : Nat → ClassId) (As : List Value) (wc : va_W) (post : Int32 → Prop) : Prop := Met l M.1 (WS M) (rmM f 0 0 lo) (PR D a As wc) (vp_Si post) 0 0 (fun _ => False)
def CRl (l : Launch) (M : Mt) (f lo : Nat) (D : va_G) (a : Nat → ClassId) (As : List Value) (wc : va_W) (post : Int64 → Prop) : Prop := Met l M.1 (WS M) (rmM f 0 0 lo) (PR D a As wc) (vp_Sl post) 0 0 (fun _ => False)
def CRq (l : Launch) (M : Mt) (f lo : Nat) (D : va_G) (a : Nat → ClassId) (As : List Value) (wc : va_W) (post : Option Nat → Prop) : Prop := Met l M.1 (WS M) (rmM f 0 0 lo) (PR D a As wc) (va_Sq post) 0 0 (fun _ => False)
def CMi {S : Type} (l : Launch) (M : Mt) (f lo mc ms : Nat) (D : va_G) (a : Nat → ClassId) (As : List Value) (wc : va_W) (sz : Nat) (post : Int32 → S → Prop) (g : S → va_W) : Prop := Met l M.1 (WS M) (rmM f mc ms lo) (PM D a As wc sz) (va_Qi post (Bw D (va_A wc sz) g) (va_A wc sz)) mc ms (va_A wc sz)
def CMl {S : Type} (l : Launch) (M : Mt) (f lo mc ms : Nat) (D : va_G) (a : Nat → ClassId) (As : List Value) (wc : va_W) (sz : Nat) (post : Int64 → S → Prop) (g : S → va_W) : Prop := Met l M.1 (WS M) (rmM f mc ms lo) (PM D a As wc sz) (va_Ql post (Bw D (va_A wc sz) g) (va_A wc sz)) mc ms (va_A wc sz)
def CMv {S : Type} (l : Launch) (M : Mt) (f lo mc ms : Nat) (D : va_G) (a : Nat → ClassId) (As : List Value) (wc : va_W) (sz : Nat) (post : S → Prop) (g : S → va_W) : Prop := Met l M.1 (WS M) (rmM f mc ms lo) (PM D a As wc sz) (va_Qv post (Bw D (va_A wc sz) g) (va_A wc sz)) mc ms (va_A wc sz)
def CMq {S : Type} (l : Launch) (M : Mt) (f lo mc ms : Nat) (D : va_G) (a : Nat → ClassId) (As : List Value) (wc : va_W) (sz : Nat) (post : Option Nat → S → Prop) (g : S → va_W) : Prop := Met l M.1 (WS M) (rmM f mc ms lo) (PM D a As wc sz) (va_Qq post (Bw D (va_A wc sz) g) (va_A wc sz)) mc ms (va_A wc sz)
/-- what holds all along a method -/
def Cx (p : Program) (s : State) (m : MethodId) (args : Array Value) (meth : Method) (c : Code) (M : Mt) : Prop :=
  p.tables.exec = Jvm.exec ∧ c.code = M.2.1 ∧ c.maxLocals = M.2.2.1 ∧ s.vm.findClass M.1.cls = some m.cls ∧ (∀ w ∈ TBg, w.before args s = true) ∧ meth.sig.returnType = M.2.2.2 ∧ meth.locks = false ∧ (M.1.name = "<init>" → meth.name = "<init>")
theorem entW {l : Launch} {M : Mt} {rm : Room} {As : List Value} {B : State → Prop} {Qc : Array Value → State → Outcome → State → Prop} {mc ms : Nat} {free : Addr → Prop} (hp : plainName M.1.cls = true) (hlen : (lg_sl As).length ≤ M.2.2.1)
    (body : ∀ (p : Program) (e : Env) (s : State) (m : MethodId) (below : List Frame) (meth : Method) (c : Code), Cx p s m As.toArray meth c M → B s → ∀ ls : Array Slot, lv_has ls M.2.2.1 (lv_args 0 As) → W p l e rm s m As.toArray below meth c s.heap [] 0 0 (MQ below Qc As.toArray s mc ms free) (F0 m 0 ls [])) : Met l M.1 (WS M) rm (va_Pc As B) Qc mc ms free := by
  refine Met.ofW (cc := M.2.1) (maxL := M.2.2.1) (ret := M.2.2.2) hp rfl ?_
  intro p e s m args below meth c s₁ B' hml hv
  obtain ⟨rfl, hB⟩ := hv
  have hts := atoms_spec (ws := WS M) B'.pre
  have hl := lv_entry As (n := M.2.2.1) hlen
  rw [lg_entry_eq]
  exact body p e s m below meth c ⟨B'.exec, B'.bytes, hml, findClass_of_methodNamed B'.named, fun w h => hts w (List.mem_cons_of_mem _ h), B'.returns, B'.notSynchronized, fun h => ((name_of_methodNamed B'.named B'.method).1).trans h⟩ hB _ hl
theorem entR {l : Launch} {M : Mt} {rm : Room} {D : va_G} {a : Nat → ClassId} {As : List Value} {wc : va_W} {Qc : Array Value → State → Outcome → State → Prop} {mc ms : Nat} {free : Addr → Prop} (hp : plainName M.1.cls = true) (hlen : (lg_sl As).length ≤ M.2.2.1)
    (body : ∀ (p : Program) (e : Env) (s : State) (m : MethodId) (below : List Frame) (meth : Method) (c : Code), Cx p s m As.toArray meth c M → KK D a s → va_P D classes wc s.heap → ∀ ls : Array Slot, lv_has ls M.2.2.1 (lv_args 0 As) → W p l e rm s m As.toArray below meth c s.heap [] 0 0 (MQ below Qc As.toArray s mc ms free) (F0 m 0 ls [])) : Met l M.1 (WS M) rm (PR D a As wc) Qc mc ms free :=
  entW hp hlen (fun p e s m below meth c C h ls hl => body p e s m below meth c C h.2 h.1 ls hl)
theorem entM {l : Launch} {M : Mt} {rm : Room} {D : va_G} {a : Nat → ClassId} {As : List Value} {wc : va_W} {sz : Nat} {Qf : (Nat → Prop) → Array Value → State → Outcome → State → Prop} {mc ms : Nat} (hp : plainName M.1.cls = true) (hlen : (lg_sl As).length ≤ M.2.2.1)
    (body : ∀ (p : Program) (e : Env) (s : State) (m : MethodId) (below : List Frame) (meth : Method) (c : Code), Cx p s m As.toArray meth c M → KK D a s → ∀ A : Nat → Prop, (∀ q, s.heap.size ≤ q → A q) → va_P D classes wc s.heap → va_D A wc → ∀ ls : Array Slot, lv_has ls M.2.2.1 (lv_args 0 As) → W p l e rm s m As.toArray below meth c s.heap [] 0 0 (MQ below (Qf A) As.toArray s mc ms A) (F0 m 0 ls [])) : Met l M.1 (WS M) rm (PM D a As wc sz) (Qf (va_A wc sz)) mc ms (va_A wc sz) := by
  refine entW hp hlen (fun p e s m below meth c C h ls hl => ?_)
  obtain ⟨hsz, hP, hK, hD⟩ := h
  subst hsz
  exact body p e s m below meth c C hK (va_A wc s.heap.size) (fun q h => Or.inr h) hP hD.self ls hl
theorem entMi {S : Type} {l : Launch} {M : Mt} {f lo mc ms : Nat} {D : va_G} {a : Nat → ClassId} {As : List Value} {wc : va_W} {sz : Nat} {post : Int32 → S → Prop} {g : S → va_W} (hp : plainName M.1.cls = true) (hlen : (lg_sl As).length ≤ M.2.2.1)
    (body : ∀ (p : Program) (e : Env) (s : State) (m : MethodId) (below : List Frame) (meth : Method) (c : Code), Cx p s m As.toArray meth c M → KK D a s → ∀ A : Nat → Prop, (∀ q, s.heap.size ≤ q → A q) → va_P D classes wc s.heap → va_D A wc → ∀ ls : Array Slot, lv_has ls M.2.2.1 (lv_args 0 As) → W p l e (rmM f mc ms lo) s m As.toArray below meth c s.heap [] 0 0 (MQ below (va_Qi post (Bw D A g) A) As.toArray s mc ms A) (F0 m 0 ls [])) : CMi l M f lo mc ms D a As wc sz post g :=
  entM (Qf := fun A => va_Qi post (Bw D A g) A) hp hlen body
theorem entMl {S : Type} {l : Launch} {M : Mt} {f lo mc ms : Nat} {D : va_G} {a : Nat → ClassId} {As : List Value} {wc : va_W} {sz : Nat} {post : Int64 → S → Prop} {g : S → va_W} (hp : plainName M.1.cls = true) (hlen : (lg_sl As).length ≤ M.2.2.1)
    (body : ∀ (p : Program) (e : Env) (s : State) (m : MethodId) (below : List Frame) (meth : Method) (c : Code), Cx p s m As.toArray meth c M → KK D a s → ∀ A : Nat → Prop, (∀ q, s.heap.size ≤ q → A q) → va_P D classes wc s.heap → va_D A wc → ∀ ls : Array Slot, lv_has ls M.2.2.1 (lv_args 0 As) → W p l e (rmM f mc ms lo) s m As.toArray below meth c s.heap [] 0 0 (MQ below (va_Ql post (Bw D A g) A) As.toArray s mc ms A) (F0 m 0 ls [])) : CMl l M f lo mc ms D a As wc sz post g :=
  entM (Qf := fun A => va_Ql post (Bw D A g) A) hp hlen body
theorem entMv {S : Type} {l : Launch} {M : Mt} {f lo mc ms : Nat} {D : va_G} {a : Nat → ClassId} {As : List Value} {wc : va_W} {sz : Nat} {post : S → Prop} {g : S → va_W} (hp : plainName M.1.cls = true) (hlen : (lg_sl As).length ≤ M.2.2.1)
    (body : ∀ (p : Program) (e : Env) (s : State) (m : MethodId) (below : List Frame) (meth : Method) (c : Code), Cx p s m As.toArray meth c M → KK D a s → ∀ A : Nat → Prop, (∀ q, s.heap.size ≤ q → A q) → va_P D classes wc s.heap → va_D A wc → ∀ ls : Array Slot, lv_has ls M.2.2.1 (lv_args 0 As) → W p l e (rmM f mc ms lo) s m As.toArray below meth c s.heap [] 0 0 (MQ below (va_Qv post (Bw D A g) A) As.toArray s mc ms A) (F0 m 0 ls [])) : CMv l M f lo mc ms D a As wc sz post g :=
  entM (Qf := fun A => va_Qv post (Bw D A g) A) hp hlen body
/-- a method's number of arguments -/
def okN (M : Mt) (n : Nat) : Prop := M.1.cls ≠ "java/lang/invoke/MethodHandle" ∧ M.1.cls ≠ "java/lang/invoke/VarHandle" ∧ (parseMethodDescriptor M.1.desc).map (fun d => d.parameters.length) = some n
def LkS (own : String) (i : Nat) (M : Mt) : Prop := cw M ∈ TBg ∧ .initialized M.1.cls ∈ TBg ∧ .methodLink own i M.1 ∈ TBg ∧ .static M.1 ∈ TBg
def LkV (own : String) (i : Nat) (M : Mt) : Prop := cw M ∈ TBg ∧ .initialized M.1.cls ∈ TBg ∧ .methodLink own i M.1 ∈ TBg ∧ .instanceMethod M.1 ∈ TBg ∧ .selects M.1.cls M.1 M.1 ∈ TBg
def LkI (own : String) (i : Nat) (M : Mt) : Prop := cw M ∈ TBg ∧ .initialized M.1.cls ∈ TBg ∧ .methodLink own i M.1 ∈ TBg ∧ .instanceMethod M.1 ∈ TBg ∧ M.1.name = "<init>" ∧ M.2.2.2 = none
def LkN (own : String) (i : Nat) (M : Mt) : Prop := cw M ∈ TBg ∧ .initialized M.1.cls ∈ TBg ∧ .static M.1 ∈ TBg ∧ .methodLinkNest own i M.1 RX8 ∈ NWs
theorem P_of_map {D : va_G} {ws wc : va_W} {H : Heap} (h : va_P D classes ws H) (is : List Nat) (hs : is.map (fun i => ws[i]?) = wc.map some) : va_P D classes wc H := by
  intro k q hq
  have h1 : (is.map (fun i => ws[i]?))[k]? = some (some q) := by rw [hs, List.getElem?_map, hq]; rfl
  rw [List.getElem?_map] at h1
  cases hi : is[k]? with
  | none => rw [hi] at h1; cases h1
  | some i => rw [hi] at h1; exact h i q (Option.some.inj h1)
section LRUN
variable {p : Program} {l : Launch} {e : Env} {R : Room} {s : State} {m : MethodId} {args : Array Value} {below : List Frame} {meth : Method} {c : Code} {H : Heap} {locs : List Loc} {cells slots : Nat} {Q : State → Prop}
variable {M0 M : Mt} {rm : Room} {Pc : Array Value → State → Prop} {Qc : Array Value → State → Outcome → State → Prop} {mc ms i : Nat} {free : Addr → Prop} {As rest st0 : List Value} {ls : Array Slot} {pc b : Nat}
variable {D : va_G} {a : Nat → ClassId} {A : Nat → Prop} {ws wc wr : va_W}
theorem runS (C : Cx p s m args meth c M0) (hM : Met l M.1 (WS M) rm Pc Qc mc ms free) (L : LkS M0.1.cls i M) (hok : okN M As.length) (hR : rm.frames + 1 ≤ R.frames ∧ 8 + (M.2.2.1 + 11) + rm.locals ≤ R.locals) (hrm : rm.cells = mc ∧ rm.slots = ms) (hp : PreS s H Pc As) (hls : ls.size = M0.2.2.1) (hst : st0 = As.reverse ++ rest) (hW : (rest.map fun v => v.category).sum ≤ 8) (hdg : decode M0.2.1 pc = .ok (.invokestatic i, 3)) (hf : cells + mc ≤ R.cells ∧ slots + ms ≤ R.slots) : va_Run p l e R s m args below meth c H locs cells slots mc ms (F0 m pc ls st0) rest (Qc As.toArray) free := by
  obtain ⟨hx, hb, hml, hown, hts, -⟩ := C
  exact va_runS (Ts := TBg) (own := M0.1.cls) (nL := M0.2.2.1) ⟨hx, hb, hml, hown, hts⟩ hM ⟨callB_of As.length hts (gWS L.1) rfl hrm.1 hrm.2 (hts _ L.2.1) (hts _ L.2.2.1) hok hR, hts _ L.2.2.2⟩ hp rfl rfl hls hst (lv_room hW) hdg hf
theorem runV (C : Cx p s m args meth c M0) (hM : Met l M.1 (WS M) rm Pc Qc mc ms free) (L : LkV M0.1.cls i M) (hok : okN M As.length) (hR : rm.frames + 1 ≤ R.frames ∧ 8 + (M.2.2.1 + 11) + rm.locals ≤ R.locals) (hrm : rm.cells = mc ∧ rm.slots = ms) (hp : PreV s H M.1.cls b Pc As) (hls : ls.size = M0.2.2.1) (hst : st0 = As.reverse ++ .ref b :: rest) (hW : (rest.map fun v => v.category).sum ≤ 8) (hdg : decode M0.2.1 pc = .ok (.invokevirtual i, 3)) (hf : cells + mc ≤ R.cells ∧ slots + ms ≤ R.slots) : va_Run p l e R s m args below meth c H locs cells slots mc ms (F0 m pc ls st0) rest (Qc (Value.ref b :: As).toArray) free := by
  obtain ⟨hx, hb, hml, hown, hts, -⟩ := C
  exact va_runV (Ts := TBg) (own := M0.1.cls) (nL := M0.2.2.1) ⟨hx, hb, hml, hown, hts⟩ hM ⟨callB_of As.length hts (gWS L.1) rfl hrm.1 hrm.2 (hts _ L.2.1) (hts _ L.2.2.1) hok hR, hts _ L.2.2.2.1, hts _ L.2.2.2.2⟩ hp rfl rfl hls hst (lv_room hW) hdg hf
theorem runI (C : Cx p s m args meth c M0) (hM : Met l M.1 (WS M) rm Pc Qc mc ms free) (L : LkI M0.1.cls i M) (hok : okN M As.length) (hR : rm.frames + 1 ≤ R.frames ∧ 8 + (M.2.2.1 + 11) + rm.locals ≤ R.locals) (hrm : rm.cells = mc ∧ rm.slots = ms) (hp : PreS s H Pc (.ref b :: As)) (hls : ls.size = M0.2.2.1) (hst : st0 = As.reverse ++ .ref b :: rest) (hW : (rest.map fun v => v.category).sum ≤ 8) (hdg : decode M0.2.1 pc = .ok (.invokespecial i, 3)) (hf : cells + mc ≤ R.cells ∧ slots + ms ≤ R.slots) : va_Run p l e R s m args below meth c H locs cells slots mc ms (F0 m pc ls st0) rest (Qc (Value.ref b :: As).toArray) free := by
  obtain ⟨hx, hb, hml, hown, hts, -⟩ := C
  obtain ⟨y, cc, n, ret⟩ := M
  obtain ⟨h1, h2, h3, h4, h5, h6⟩ := L
  dsimp only at h6
  subst h6
  exact va_runI (Ts := TBg) (own := M0.1.cls) (nL := M0.2.2.1) ⟨hx, hb, hml, hown, hts⟩ hM ⟨callB_of As.length hts (gWS h1) rfl hrm.1 hrm.2 (hts _ h2) (hts _ h3) hok hR, h5, hts _ h4⟩ hp rfl rfl hls hst (lv_room hW) hdg hf
theorem runN (C : Cx p s m args meth c M0) (hK : KK D a s) (hM : Met l M.1 (WS M) rm Pc Qc mc ms free) (L : LkN M0.1.cls i M) (hok : okN M As.length) (hR : rm.frames + 1 ≤ R.frames ∧ 8 + (M.2.2.1 + 11) + rm.locals ≤ R.locals) (hrm : rm.cells = mc ∧ rm.slots = ms) (hp : PreS s H Pc As) (hls : ls.size = M0.2.2.1) (hst : st0 = As.reverse ++ rest) (hW : (rest.map fun v => v.category).sum ≤ 8) (hdg : decode M0.2.1 pc = .ok (.invokestatic i, 3)) (hf : cells + mc ≤ R.cells ∧ slots + ms ≤ R.slots) : va_Run p l e R s m args below meth c H locs cells slots mc ms (F0 m pc ls st0) rest (Qc As.toArray) free := by
  obtain ⟨hx, hb, hml, hown, hts, -⟩ := C
  exact va_runSN (Ts := TBg) (own := M0.1.cls) (nL := M0.2.2.1) ⟨hx, hb, hml, hown, hts⟩ hM ⟨va_cnB As.length hts (gWS L.1) rfl hrm.1 hrm.2 (hK.2.1 _ L.2.2.2) (hts _ L.2.1) hok hR, hts _ L.2.2.1, trivial⟩ hp rfl rfl hls hst (lv_room hW) hdg hf
theorem preR (hK : KK D a s) (hP : va_P D classes wc H) : PreS s H (PR D a As wc) As :=
  ⟨fun _ _ _ _ q => ⟨q.1, q.2.1, q.2.2.calling⟩, fun U hU hW => ⟨rfl, by rw [hU]; exact hP, hK.warm hW⟩⟩
theorem preM (hK : KK D a s) (hP : va_P D classes wc H) (hD : va_D A wc) : PreS s H (PM D a As wc H.size) As :=
  ⟨fun _ _ _ _ q => ⟨q.1, q.2.1, q.2.2.1, q.2.2.2.1.calling, q.2.2.2.2⟩, fun U hU hW => ⟨rfl, by rw [hU], by rw [hU]; exact hP, hK.warm hW, hD.weaken (fun _ _ _ _ => trivial)⟩⟩
theorem recvOf {ci : Nat} {r : vw_C} {fs : List Value} (hK : KK D a s) (hP : va_P D classes ws H) (q0 : Nat) (he : ws[q0]? = some (b, .inr (ci, fs))) (hc : classes[ci]? = some r) : ∃ cell : Cell, H[b]? = some cell ∧ cell.vm.isStatics = false ∧ s.vm.findClass r.1 = some cell.cls := va_recv hK.1 hP hc he
theorem preV {C : String} {Pc : Array Value → State → Prop} (h : PreS s H Pc (.ref b :: As)) (hr : ∃ cell : Cell, H[b]? = some cell ∧ cell.vm.isStatics = false ∧ s.vm.findClass C = some cell.cls) : PreV s H C b Pc As := ⟨h.1, hr, h.2⟩
/-- behind a call that only reads -/
theorem aftRi {post : Int32 → Prop} {av : Array Value} (hr : va_Run p l e R s m args below meth c H locs cells slots 0 0 (F0 m pc ls st0) rest (vp_Si post av) (fun _ => False)) (kk : ∀ r : Int32, post r → W p l e R s m args below meth c H locs cells slots Q (F0 m (pc + 3) ls (.int r :: rest))) : W p l e R s m args below meth c H locs cells slots Q (F0 m pc ls st0) := vp_callSi hr.run kk
theorem aftRl {post : Int64 → Prop} {av : Array Value} (hr : va_Run p l e R s m args below meth c H locs cells slots 0 0 (F0 m pc ls st0) rest (vp_Sl post av) (fun _ => False)) (kk : ∀ r : Int64, post r → W p l e R s m args below meth c H locs cells slots Q (F0 m (pc + 3) ls (.long r :: rest))) : W p l e R s m args below meth c H locs cells slots Q (F0 m pc ls st0) := vp_callSl hr.run kk
theorem aftRq {post : Option Nat → Prop} {av : Array Value} (hr : va_Run p l e R s m args below meth c H locs cells slots 0 0 (F0 m pc ls st0) rest (va_Sq post av) (fun _ => False)) (kk : ∀ r : Option Nat, post r → W p l e R s m args below meth c H locs cells slots Q (F0 m (pc + 3) ls (va_rf r :: rest))) : W p l e R s m args below meth c H locs cells slots Q (F0 m pc ls st0) := va_csq hr.run kk
/-- the worlds behind a call that writes: the rest, and what came back, in the order that is wanted -/
theorem joinM {S : Type} {g : S → va_W} {H1 : Heap} (u : S) (hP : va_P D classes ws H) (hD : va_D A ws) (isC isR pm : List Nat) (hC : isC.map (fun i => ws[i]?) = wc.map some) (hRr : isR.map (fun i => ws[i]?) = wr.map some) (hn : va_nd isR = true) (hdis : ∀ i ∈ isR, i ∉ isC) {fw : S → va_W} (hpm : ∀ u, pm.map (fun i => (wr ++ g u)[i]?) = (fw u).map some) (hnp : va_nd pm = true) (hF : ∀ q, va_A wc H.size q → A q) (hk : ∀ q : Nat, q < H.size → ¬ va_A wc H.size q → H1[q]? = H[q]?) (hP1 : va_P D classes (g u) H1) (hD1 : va_D (va_A wc H.size) (g u)) : va_P D classes (fw u) H1 ∧ va_D A (fw u) := by
  obtain ⟨h1, h2⟩ := va_join hP hD isC isR hC hRr hn hdis hk hF hP1 hD1
  exact ⟨P_of_map h1 pm (hpm u), h2.sub pm hnp (hpm u)⟩
theorem aftMi {S : Type} {post : Int32 → S → Prop} {g : S → va_W} {av : Array Value} (hr : va_Run p l e R s m args below meth c H locs cells slots mc ms (F0 m pc ls st0) rest (va_Qi post (Bw D (va_A wc H.size) g) (va_A wc H.size) av) (va_A wc H.size)) (hP : va_P D classes ws H) (hD : va_D A ws) (hS : va_S A s.heap H locs) (hA : ∀ q, s.heap.size ≤ q → A q) (isC isR pm : List Nat) (hC : isC.map (fun i => ws[i]?) = wc.map some) (hRr : isR.map (fun i => ws[i]?) = wr.map some) (hn : va_nd isR = true) (hdis : ∀ i ∈ isR, i ∉ isC) {fw : S → va_W} (hpm : ∀ u, pm.map (fun i => (wr ++ g u)[i]?) = (fw u).map some) (hnp : va_nd pm = true)
    (kk : ∀ (r : Int32) (u : S) (H1 : Heap) (locs1 : List Loc), post r u → va_P D classes (fw u) H1 → va_D A (fw u) → va_S A s.heap H1 locs1 → W p l e R s m args below meth c H1 locs1 (cells + mc) (slots + ms) Q (F0 m (pc + 3) ls (.int r :: rest))) : W p l e R s m args below meth c H locs cells slots Q (F0 m pc ls st0) := by
  have hF := va_free (wc := wc) hD hS hA isC hC
  refine va_calli hr hS (fun q _ h => hF q h) hF (fun r u t H1 locs1 ht hvm hw hB hz1 hk1 hS1 => ?_)
  have hB1 := hB.1
  rw [ht] at hB1
  obtain ⟨h1, h2⟩ := joinM u hP hD isC isR pm hC hRr hn hdis hpm hnp hF hk1 hB1 hB.2
  exact kk r u H1 locs1 hw h1 h2 hS1
theorem aftMl {S : Type} {post : Int64 → S → Prop} {g : S → va_W} {av : Array Value} (hr : va_Run p l e R s m args below meth c H locs cells slots mc ms (F0 m pc ls st0) rest (va_Ql post (Bw D (va_A wc H.size) g) (va_A wc H.size) av) (va_A wc H.size)) (hP : va_P D classes ws H) (hD : va_D A ws) (hS : va_S A s.heap H locs) (hA : ∀ q, s.heap.size ≤ q → A q) (isC isR pm : List Nat) (hC : isC.map (fun i => ws[i]?) = wc.map some) (hRr : isR.map (fun i => ws[i]?) = wr.map some) (hn : va_nd isR = true) (hdis : ∀ i ∈ isR, i ∉ isC) {fw : S → va_W} (hpm : ∀ u, pm.map (fun i => (wr ++ g u)[i]?) = (fw u).map some) (hnp : va_nd pm = true)
    (kk : ∀ (r : Int64) (u : S) (H1 : Heap) (locs1 : List Loc), post r u → va_P D classes (fw u) H1 → va_D A (fw u) → va_S A s.heap H1 locs1 → W p l e R s m args below meth c H1 locs1 (cells + mc) (slots + ms) Q (F0 m (pc + 3) ls (.long r :: rest))) : W p l e R s m args below meth c H locs cells slots Q (F0 m pc ls st0) := by
  have hF := va_free (wc := wc) hD hS hA isC hC
  refine va_calll hr hS (fun q _ h => hF q h) hF (fun r u t H1 locs1 ht hvm hw hB hz1 hk1 hS1 => ?_)
  have hB1 := hB.1
  rw [ht] at hB1
  obtain ⟨h1, h2⟩ := joinM u hP hD isC isR pm hC hRr hn hdis hpm hnp hF hk1 hB1 hB.2
  exact kk r u H1 locs1 hw h1 h2 hS1
theorem aftMv {S : Type} {post : S → Prop} {g : S → va_W} {av : Array Value} (hr : va_Run p l e R s m args below meth c H locs cells slots mc ms (F0 m pc ls st0) rest (va_Qv post (Bw D (va_A wc H.size) g) (va_A wc H.size) av) (va_A wc H.size)) (hP : va_P D classes ws H) (hD : va_D A ws) (hS : va_S A s.heap H locs) (hA : ∀ q, s.heap.size ≤ q → A q) (isC isR pm : List Nat) (hC : isC.map (fun i => ws[i]?) = wc.map some) (hRr : isR.map (fun i => ws[i]?) = wr.map some) (hn : va_nd isR = true) (hdis : ∀ i ∈ isR, i ∉ isC) {fw : S → va_W} (hpm : ∀ u, pm.map (fun i => (wr ++ g u)[i]?) = (fw u).map some) (hnp : va_nd pm = true)
    (kk : ∀ (u : S) (H1 : Heap) (locs1 : List Loc), post u → va_P D classes (fw u) H1 → va_D A (fw u) → va_S A s.heap H1 locs1 → W p l e R s m args below meth c H1 locs1 (cells + mc) (slots + ms) Q (F0 m (pc + 3) ls rest)) : W p l e R s m args below meth c H locs cells slots Q (F0 m pc ls st0) := by
  have hF := va_free (wc := wc) hD hS hA isC hC
  refine va_callv hr hS (fun q _ h => hF q h) hF (fun u t H1 locs1 ht hvm hw hB hz1 hk1 hS1 => ?_)
  have hB1 := hB.1
  rw [ht] at hB1
  obtain ⟨h1, h2⟩ := joinM u hP hD isC isR pm hC hRr hn hdis hpm hnp hF hk1 hB1 hB.2
  exact kk u H1 locs1 hw h1 h2 hS1
/-- returns -/
theorem retMi {S : Type} {post : Int32 → S → Prop} {g : S → va_W} {v : Int32} (C : Cx p s m args meth c M0) (hri : M0.2.2.2 = some .int) (u : S) (hp : post v u) (hP : va_P D classes (g u) H) (hD : va_D A (g u)) (hS : va_S A s.heap H locs) (hc : cells ≤ mc) (hs : slots ≤ ms) (hdg : decode M0.2.1 pc = .ok (.ireturn, 1)) : W p l e R s m args below meth c H locs cells slots (MQ below (va_Qi post (Bw D A g) A) args s mc ms A) (F0 m pc ls [.int v]) := by
  obtain ⟨hx, hb, -, -, -, hr, hlocks, -⟩ := C
  refine W.widen hc hs ?_
  exact W.iret hx hb (hr.trans hri) (fun t ht hW => ⟨⟨v, u, rfl, hp, by rw [ht]; exact hP, hD⟩, hS.F ht⟩) hS.2.2 hdg hlocks
theorem retMz {S : Type} {post : Int32 → S → Prop} {g : S → va_W} {v : Int32} (C : Cx p s m args meth c M0) (hri : M0.2.2.2 = some .boolean) (hz : v = 0 ∨ v = 1) (u : S) (hp : post v u) (hP : va_P D classes (g u) H) (hD : va_D A (g u)) (hS : va_S A s.heap H locs) (hc : cells ≤ mc) (hs : slots ≤ ms) (hdg : decode M0.2.1 pc = .ok (.ireturn, 1)) : W p l e R s m args below meth c H locs cells slots (MQ below (va_Qi post (Bw D A g) A) args s mc ms A) (F0 m pc ls [.int v]) := by
  obtain ⟨hx, hb, -, -, -, hr, hlocks, -⟩ := C
  refine W.widen hc hs ?_
  exact W.zret hx hb (hr.trans hri) (by rcases hz with h | h <;> rw [h] <;> decide) (fun t ht hW => ⟨⟨v, u, rfl, hp, by rw [ht]; exact hP, hD⟩, hS.F ht⟩) hS.2.2 hdg hlocks
theorem retMl {S : Type} {post : Int64 → S → Prop} {g : S → va_W} {v : Int64} (C : Cx p s m args meth c M0) (hri : M0.2.2.2 = some .long) (u : S) (hp : post v u) (hP : va_P D classes (g u) H) (hD : va_D A (g u)) (hS : va_S A s.heap H locs) (hc : cells ≤ mc) (hs : slots ≤ ms) (hdg : decode M0.2.1 pc = .ok (.lreturn, 1)) : W p l e R s m args below meth c H locs cells slots (MQ below (va_Ql post (Bw D A g) A) args s mc ms A) (F0 m pc ls [.long v]) := by
  obtain ⟨hx, hb, -, -, -, hr, hlocks, -⟩ := C
  refine W.widen hc hs ?_
  exact W.lret hx hb (hr.trans hri) (fun t ht hW => ⟨⟨v, u, rfl, hp, by rw [ht]; exact hP, hD⟩, hS.F ht⟩) hS.2.2 hdg hlocks
theorem retMv {S : Type} {post : S → Prop} {g : S → va_W} (C : Cx p s m args meth c M0) (hri : M0.2.2.2 = none) (u : S) (hp : post u) (hP : va_P D classes (g u) H) (hD : va_D A (g u)) (hS : va_S A s.heap H locs) (hc : cells ≤ mc) (hs : slots ≤ ms) (hdg : decode M0.2.1 pc = .ok (.return_, 1)) : W p l e R s m args below meth c H locs cells slots (MQ below (va_Qv post (Bw D A g) A) args s mc ms A) (F0 m pc ls []) := by
  obtain ⟨hx, hb, -, -, -, hr, hlocks, -⟩ := C
  refine W.widen hc hs ?_
  exact W.vret hx hb (hr.trans hri) (fun t ht hW => ⟨⟨u, rfl, hp, by rw [ht]; exact hP, hD⟩, hS.F ht⟩) hS.2.2 hdg hlocks
theorem retRi {post : Int32 → Prop} {v : Int32} (C : Cx p s m args meth c M0) (hri : M0.2.2.2 = some .int) (hp : post v) (hdg : decode M0.2.1 pc = .ok (.ireturn, 1)) : W p l e R s m args below meth c s.heap [] 0 0 (MQ below (vp_Si post) args s 0 0 (fun _ => False)) (F0 m pc ls [.int v]) := by
  obtain ⟨hx, hb, -, -, -, hr, hlocks, -⟩ := C
  exact W.iret hx hb (hr.trans hri) (fun t ht hW => ⟨v, rfl, hp, ht⟩) (fun _ h => by cases h) hdg hlocks
theorem retRz {post : Int32 → Prop} {v : Int32} (C : Cx p s m args meth c M0) (hri : M0.2.2.2 = some .boolean) (hz : v = 0 ∨ v = 1) (hp : post v) (hdg : decode M0.2.1 pc = .ok (.ireturn, 1)) : W p l e R s m args below meth c s.heap [] 0 0 (MQ below (vp_Si post) args s 0 0 (fun _ => False)) (F0 m pc ls [.int v]) := by
  obtain ⟨hx, hb, -, -, -, hr, hlocks, -⟩ := C
  exact W.zret hx hb (hr.trans hri) (by rcases hz with h | h <;> rw [h] <;> decide) (fun t ht hW => ⟨v, rfl, hp, ht⟩) (fun _ h => by cases h) hdg hlocks
theorem retRl {post : Int64 → Prop} {v : Int64} (C : Cx p s m args meth c M0) (hri : M0.2.2.2 = some .long) (hp : post v) (hdg : decode M0.2.1 pc = .ok (.lreturn, 1)) : W p l e R s m args below meth c s.heap [] 0 0 (MQ below (vp_Sl post) args s 0 0 (fun _ => False)) (F0 m pc ls [.long v]) := by
  obtain ⟨hx, hb, -, -, -, hr, hlocks, -⟩ := C
  exact W.lret hx hb (hr.trans hri) (fun t ht hW => ⟨v, rfl, hp, ht⟩) (fun _ h => by cases h) hdg hlocks
theorem retRq {post : Option Nat → Prop} {v : Option Nat} {rt : FieldType} (C : Cx p s m args meth c M0) (hri : M0.2.2.2 = some rt) (hrt : (∃ n, rt = .object n) ∨ ∃ t, rt = .array t) (hp : post v) (hdg : decode M0.2.1 pc = .ok (.areturn, 1)) : W p l e R s m args below meth c s.heap [] 0 0 (MQ below (va_Sq post) args s 0 0 (fun _ => False)) (F0 m pc ls [va_rf v]) := by
  obtain ⟨hx, hb, -, -, -, hr, hlocks, -⟩ := C
  exact W.aret hx hb (hr.trans hri) hrt (by cases v with | none => exact Or.inl rfl | some x => exact Or.inr ⟨x, rfl⟩) (fun t ht hW => ⟨v, rfl, hp, ht⟩) (fun _ h => by cases h) hdg hlocks
/-- new arrays, of a class that is known already -/
theorem newA {ty : FieldType} {atype : ArrayType} {n : Int32} {N' : Nat} {a0 : vp_A} {cc : ByteArray} (hexec : p.tables.exec = Jvm.exec) (hb : c.code = cc) (hK : KK D a s) (t0 : Nat) {cA : ClassId} (ht : (TY a)[t0]? = some (cA, ty)) (hpr : ∀ U c', va_RA U c' ty ↔ U.vm.findClass ("[" ++ ty.toString) = some c') (harr : (Cond.arrayClass (newarray.typeOf atype)).before args s = true) (hty : newarray.typeOf atype = ty) (hP : va_P D classes ws H) (hD : va_D A ws) (hS : va_S A s.heap H locs) (hA : ∀ q, s.heap.size ≤ q → A q) (ha : ∀ cA : ClassId, vp_cell cA a0 = arrV cA N' (fun _ => defaultValue ty)) (hn : ¬ n < 0) (hN : n.toNatClampNeg = N') (hbytes : N' * componentBytes ty ≤ 536870912) (hcells : cells + 1 ≤ R.cells) (hslots : slots + N' ≤ R.slots) (hdg : decode cc pc = .ok (.newarray atype, 2))
    (kk : ∀ (q : Nat) (H1 : Heap), va_P D classes (ws ++ [(q, .inl (cA, a0))]) H1 → va_D A (ws ++ [(q, .inl (cA, a0))]) → va_S A s.heap H1 locs → W p l e R s m args below meth c H1 locs (cells + 1) (slots + N') Q (F0 m (pc + 2) ls (.ref q :: rest))) : W p l e R s m args below meth c H locs cells slots Q (F0 m pc ls (.int n :: rest)) := by
  refine va_newa hexec hb harr hty hK.1 hP hD hS hA ha hn hN hbytes hcells hslots hdg (fun q cB H1 hK1 hP1 hD1 hS1 => ?_)
  have e1 := (hpr _ _).mp (hK.1.2 t0 _ ht).2
  have e2 := (hpr _ _).mp (hK1.2 (TY a).length (cB, ty) rfl).2
  have e3 : cB = cA := Option.some.inj (e2.symm.trans e1)
  subst e3
  exact kk q H1 hP1 hD1 hS1
theorem newQ {E : String} {i : Nat} {n : Int32} {N' : Nat} {cc : ByteArray} {own : String} (hexec : p.tables.exec = Jvm.exec) (hb : c.code = cc) (hown : s.vm.findClass own = some m.cls) (hcl : (Cond.classLink own i E).before args s = true) (hov : va_AO E s) (hK : KK D a s) (t0 : Nat) {cA : ClassId} (ht : (TY a)[t0]? = some (cA, .object E)) (hP : va_P D classes ws H) (hD : va_D A ws) (hS : va_S A s.heap H locs) (hA : ∀ q, s.heap.size ≤ q → A q) (hn : ¬ n < 0) (hN : n.toNatClampNeg = N') (hbytes : N' * 4 ≤ 536870912) (hcells : cells + 1 ≤ R.cells) (hslots : slots + N' ≤ R.slots) (hdg : decode cc pc = .ok (.anewarray i, 3))
    (kk : ∀ (q : Nat) (H1 : Heap), va_P D classes (ws ++ [(q, .inl (cA, N', .inr (.inr (.inr (.inr (fun _ => none))))))]) H1 → va_D A (ws ++ [(q, .inl (cA, N', .inr (.inr (.inr (.inr (fun _ => none))))))]) → va_S A s.heap H1 locs → W p l e R s m args below meth c H1 locs (cells + 1) (slots + N') Q (F0 m (pc + 3) ls (.ref q :: rest))) : W p l e R s m args below meth c H locs cells slots Q (F0 m pc ls (.int n :: rest)) := by
  refine va_newq hexec hb hown hcl hov hK.1 hP hD hS hA hn hN hbytes hcells hslots hdg (fun q cB H1 hK1 hP1 hD1 hS1 => ?_)
  obtain ⟨-, -, -, -, -, e1⟩ := (hK.1.2 t0 _ ht).2
  obtain ⟨-, -, -, -, -, e2⟩ := (hK1.2 (TY a).length (cB, .object E) rfl).2
  have e3 : cB = cA := Option.some.inj (e2.symm.trans e1)
  subst e3
  exact kk q H1 hP1 hD1 hS1
end LRUN
theorem ra_int (U : State) (c : ClassId) : va_RA U c .int ↔ U.vm.findClass ("[" ++ FieldType.toString .int) = some c := Iff.rfl
theorem ra_long (U : State) (c : ClassId) : va_RA U c .long ↔ U.vm.findClass ("[" ++ FieldType.toString .long) = some c := Iff.rfl
theorem ra_byte (U : State) (c : ClassId) : va_RA U c .byte ↔ U.vm.findClass ("[" ++ FieldType.toString .byte) = some c := Iff.rfl
theorem ra_bool (U : State) (c : ClassId) : va_RA U c .boolean ↔ U.vm.findClass ("[" ++ FieldType.toString .boolean) = some c := Iff.rfl
/-- an index, as a number -/
def IX (i : Int32) (k n : Nat) : Prop := i.toNatClampNeg = k ∧ ¬ i < 0 ∧ k < n
theorem ix_lit {i : Int32} {k n : Nat} (h : decide (i.toNatClampNeg = k ∧ ¬ i < 0 ∧ k < n) = true) : IX i k n := by
  have h2 : i.toNatClampNeg = k ∧ ¬ i < 0 ∧ k < n := of_decide_eq_true h
  exact h2
theorem ix_nI {k n : Nat} (h : k < n) (hn : n < 2 ^ 31) : IX (nI k) k n := ⟨nI_clamp (Nat.lt_trans h hn), nI_pos (Nat.lt_trans h hn), h⟩
theorem IX.vin {i : Int32} {k n : Nat} (h : IX i k n) : vp_in i n := by
  intro q
  rcases q with q | q
  · exact h.2.1 q
  · rw [h.1] at q; exact absurd h.2.2 (Nat.not_lt.mpr q)
section LARR
variable {p : Program} {l : Launch} {e : Env} {R : Room} {s : State} {m : MethodId} {args : Array Value} {below : List Frame} {meth : Method} {c : Code} {H : Heap} {locs : List Loc} {cells slots : Nat} {Q : State → Prop}
variable {cc : ByteArray} {pc : Nat} {ls : Array Slot} {rest : List Value} {D : va_G} {cl : List vw_C} {A : Nat → Prop} {a : Nat} {tys : List (ClassId × FieldType)} {ws : va_W} {H0 : Heap}
theorem ald_i (hexec : p.tables.exec = Jvm.exec) (hb : c.code = cc) (hK : va_K D cl tys s) (hP : va_P D cl ws H) (q0 t0 : Nat) {cA : ClassId} {n : Nat} {f : Nat → Int32} (ha : ws[q0]? = some (a, .inl (cA, n, .inl f))) (ht : tys[t0]? = some (cA, .int)) {i : Int32} (k : Nat) (hi : IX i k n) (hdg : decode cc pc = .ok (.iaload, 1)) (kk : W p l e R s m args below meth c H locs cells slots Q (F0 m (pc + 1) ls (.int (f k) :: rest))) : W p l e R s m args below meth c H locs cells slots Q (F0 m pc ls (.int i :: .ref a :: rest)) := by
  refine va_iald hexec hb hK hP q0 t0 ha ht hi.vin hdg ?_
  rw [hi.1]; exact kk
theorem ald_b (hexec : p.tables.exec = Jvm.exec) (hb : c.code = cc) (hK : va_K D cl tys s) (hP : va_P D cl ws H) (q0 t0 : Nat) {cA : ClassId} {n : Nat} {f : Nat → Int32} (ha : ws[q0]? = some (a, .inl (cA, n, .inl f))) (ht : tys[t0]? = some (cA, .byte)) {i : Int32} (k : Nat) (hi : IX i k n) (hdg : decode cc pc = .ok (.baload, 1)) (kk : W p l e R s m args below meth c H locs cells slots Q (F0 m (pc + 1) ls (.int (f k) :: rest))) : W p l e R s m args below meth c H locs cells slots Q (F0 m pc ls (.int i :: .ref a :: rest)) := by
  refine va_bald hexec hb hK hP q0 t0 ha ht hi.vin hdg ?_
  rw [hi.1]; exact kk
theorem ald_z (hexec : p.tables.exec = Jvm.exec) (hb : c.code = cc) (hK : va_K D cl tys s) (hP : va_P D cl ws H) (q0 t0 : Nat) {cA : ClassId} {n : Nat} {f : Nat → Int32} (ha : ws[q0]? = some (a, .inl (cA, n, .inl f))) (ht : tys[t0]? = some (cA, .boolean)) {i : Int32} (k : Nat) (hi : IX i k n) (hdg : decode cc pc = .ok (.baload, 1)) (kk : W p l e R s m args below meth c H locs cells slots Q (F0 m (pc + 1) ls (.int (f k) :: rest))) : W p l e R s m args below meth c H locs cells slots Q (F0 m pc ls (.int i :: .ref a :: rest)) := by
  refine va_zald hexec hb hK hP q0 t0 ha ht hi.vin hdg ?_
  rw [hi.1]; exact kk
theorem ald_l (hexec : p.tables.exec = Jvm.exec) (hb : c.code = cc) (hK : va_K D cl tys s) (hP : va_P D cl ws H) (q0 t0 : Nat) {cA : ClassId} {n : Nat} {f : Nat → Int64} (ha : ws[q0]? = some (a, .inl (cA, n, .inr (.inl f)))) (ht : tys[t0]? = some (cA, .long)) {i : Int32} (k : Nat) (hi : IX i k n) (hdg : decode cc pc = .ok (.laload, 1)) (kk : W p l e R s m args below meth c H locs cells slots Q (F0 m (pc + 1) ls (.long (f k) :: rest))) : W p l e R s m args below meth c H locs cells slots Q (F0 m pc ls (.int i :: .ref a :: rest)) := by
  refine va_lald hexec hb hK hP q0 t0 ha ht hi.vin hdg ?_
  rw [hi.1]; exact kk
theorem ald_q (hexec : p.tables.exec = Jvm.exec) (hb : c.code = cc) (hK : va_K D cl tys s) (hP : va_P D cl ws H) (q0 t0 : Nat) {cA : ClassId} {E : String} {n : Nat} {f : Nat → Option Nat} (ha : ws[q0]? = some (a, .inl (cA, n, .inr (.inr (.inr (.inr f)))))) (ht : tys[t0]? = some (cA, .object E)) {i : Int32} (k : Nat) (hi : IX i k n) (hdg : decode cc pc = .ok (.aaload, 1)) (kk : W p l e R s m args below meth c H locs cells slots Q (F0 m (pc + 1) ls (va_rf (f k) :: rest))) : W p l e R s m args below meth c H locs cells slots Q (F0 m pc ls (.int i :: .ref a :: rest)) := by
  refine va_aldq hexec hb hK hP q0 t0 ha ht hi.vin hdg ?_
  rw [hi.1]; exact kk
theorem ast_i (hexec : p.tables.exec = Jvm.exec) (hb : c.code = cc) (hK : va_K D cl tys s) (hP : va_P D cl ws H) (hD : va_D A ws) (hS : va_S A H0 H locs) (q0 t0 : Nat) {cA : ClassId} {n : Nat} {f : Nat → Int32} (ha : ws[q0]? = some (a, .inl (cA, n, .inl f))) (ht : tys[t0]? = some (cA, .int)) {i : Int32} {x : Int32} (k : Nat) (hi : IX i k n) (hdg : decode cc pc = .ok (.iastore, 1)) (kk : ∀ (H1 : Heap) (locs1 : List Loc), va_P D cl (ws.set q0 (a, .inl (cA, n, .inl (upd f k x)))) H1 → va_D A (ws.set q0 (a, .inl (cA, n, .inl (upd f k x)))) → va_S A H0 H1 locs1 → W p l e R s m args below meth c H1 locs1 cells slots Q (F0 m (pc + 1) ls rest)) : W p l e R s m args below meth c H locs cells slots Q (F0 m pc ls (.int x :: .int i :: .ref a :: rest)) := by
  refine va_iast hexec hb hK hP hD hS q0 t0 ha ht hi.vin hdg ?_
  rw [hi.1]; exact kk
theorem ast_b (hexec : p.tables.exec = Jvm.exec) (hb : c.code = cc) (hK : va_K D cl tys s) (hP : va_P D cl ws H) (hD : va_D A ws) (hS : va_S A H0 H locs) (q0 t0 : Nat) {cA : ClassId} {n : Nat} {f : Nat → Int32} (ha : ws[q0]? = some (a, .inl (cA, n, .inl f))) (ht : tys[t0]? = some (cA, .byte)) {i : Int32} {x : Int32} (k : Nat) (hi : IX i k n) (hdg : decode cc pc = .ok (.bastore, 1)) (kk : ∀ (H1 : Heap) (locs1 : List Loc), va_P D cl (ws.set q0 (a, .inl (cA, n, .inl (upd f k (vp_nar .byte x))))) H1 → va_D A (ws.set q0 (a, .inl (cA, n, .inl (upd f k (vp_nar .byte x))))) → va_S A H0 H1 locs1 → W p l e R s m args below meth c H1 locs1 cells slots Q (F0 m (pc + 1) ls rest)) : W p l e R s m args below meth c H locs cells slots Q (F0 m pc ls (.int x :: .int i :: .ref a :: rest)) := by
  refine va_bast hexec hb hK hP hD hS q0 t0 ha ht hi.vin hdg ?_
  rw [hi.1]; exact kk
theorem ast_z (hexec : p.tables.exec = Jvm.exec) (hb : c.code = cc) (hK : va_K D cl tys s) (hP : va_P D cl ws H) (hD : va_D A ws) (hS : va_S A H0 H locs) (q0 t0 : Nat) {cA : ClassId} {n : Nat} {f : Nat → Int32} (ha : ws[q0]? = some (a, .inl (cA, n, .inl f))) (ht : tys[t0]? = some (cA, .boolean)) {i : Int32} {x : Int32} (k : Nat) (hi : IX i k n) (hdg : decode cc pc = .ok (.bastore, 1)) (kk : ∀ (H1 : Heap) (locs1 : List Loc), va_P D cl (ws.set q0 (a, .inl (cA, n, .inl (upd f k (vp_nar .boolean x))))) H1 → va_D A (ws.set q0 (a, .inl (cA, n, .inl (upd f k (vp_nar .boolean x))))) → va_S A H0 H1 locs1 → W p l e R s m args below meth c H1 locs1 cells slots Q (F0 m (pc + 1) ls rest)) : W p l e R s m args below meth c H locs cells slots Q (F0 m pc ls (.int x :: .int i :: .ref a :: rest)) := by
  refine va_zast hexec hb hK hP hD hS q0 t0 ha ht hi.vin hdg ?_
  rw [hi.1]; exact kk
theorem ast_l (hexec : p.tables.exec = Jvm.exec) (hb : c.code = cc) (hK : va_K D cl tys s) (hP : va_P D cl ws H) (hD : va_D A ws) (hS : va_S A H0 H locs) (q0 t0 : Nat) {cA : ClassId} {n : Nat} {f : Nat → Int64} (ha : ws[q0]? = some (a, .inl (cA, n, .inr (.inl f)))) (ht : tys[t0]? = some (cA, .long)) {i : Int32} {x : Int64} (k : Nat) (hi : IX i k n) (hdg : decode cc pc = .ok (.lastore, 1)) (kk : ∀ (H1 : Heap) (locs1 : List Loc), va_P D cl (ws.set q0 (a, .inl (cA, n, .inr (.inl (vp_updL f k x))))) H1 → va_D A (ws.set q0 (a, .inl (cA, n, .inr (.inl (vp_updL f k x))))) → va_S A H0 H1 locs1 → W p l e R s m args below meth c H1 locs1 cells slots Q (F0 m (pc + 1) ls rest)) : W p l e R s m args below meth c H locs cells slots Q (F0 m pc ls (.long x :: .int i :: .ref a :: rest)) := by
  refine va_last hexec hb hK hP hD hS q0 t0 ha ht hi.vin hdg ?_
  rw [hi.1]; exact kk
theorem ast_q (hexec : p.tables.exec = Jvm.exec) (hb : c.code = cc) (hK : va_K D cl tys s) (hP : va_P D cl ws H) (hD : va_D A ws) (hS : va_S A H0 H locs) (q0 t0 qk ci : Nat) {cA : ClassId} {r : vw_C} {n v : Nat} {vs : List Value} {f : Nat → Option Nat} (ha : ws[q0]? = some (a, .inl (cA, n, .inr (.inr (.inr (.inr f)))))) (ht : tys[t0]? = some (cA, .object r.1)) (hv : ws[qk]? = some (v, .inr (ci, vs))) (hc : cl[ci]? = some r) {i : Int32} (k : Nat) (hi : IX i k n) (hdg : decode cc pc = .ok (.aastore, 1)) (kk : ∀ (H1 : Heap) (locs1 : List Loc), va_P D cl (ws.set q0 (a, .inl (cA, n, .inr (.inr (.inr (.inr (va_up f k (some v)))))))) H1 → va_D A (ws.set q0 (a, .inl (cA, n, .inr (.inr (.inr (.inr (va_up f k (some v)))))))) → va_S A H0 H1 locs1 → W p l e R s m args below meth c H1 locs1 cells slots Q (F0 m (pc + 1) ls rest)) : W p l e R s m args below meth c H locs cells slots Q (F0 m pc ls (.ref v :: .int i :: .ref a :: rest)) := by
  refine va_astq hexec hb hK hP hD hS q0 t0 qk ci ha ht hv hc hi.vin hdg ?_
  rw [hi.1]; exact kk
end LARR

/-! The String constants of the Text, and what is read of them. -/
def slen : List Nat := [4, 5, 4, 2, 4, 2, 3, 3, 5, 4, 3, 4, 7, 4, 5, 5, 6]
def sbyt : List (List Int32) := [[116, 105, 109, 101], [117, 110, 100, 101, 114], [108, 111, 111, 107], [105, 102], [115, 116, 111, 112], [111, 114], [97, 110, 100], [110, 111, 116], [102, 97, 117, 108, 116], [107, 105, 110, 100], [112, 97, 121], [111, 100, 100, 115], [109, 105, 110, 117, 116, 101, 115], [108, 101, 102, 116], [102, 111, 117, 110, 100], [116, 114, 105, 101, 115], [101, 97, 114, 110, 101, 100]]
def sidx : List Nat := [65, 71, 73, 75, 77, 79, 81, 83, 85, 86, 88, 90, 92, 94, 96, 98, 100]
def stx : List String := ["time", "under", "look", "if", "stop", "or", "and", "not", "fault", "kind", "pay", "odds", "minutes", "left", "found", "tries", "earned"]
def sch (w k : Nat) : Int32 := (sbyt.getD w []).getD k 0 &&& 255
def VV (adK adV : Nat → Nat) (A : Nat → Prop) (U : State) (H : Heap) : Prop := vk_S 17 slen sbyt adK adV A U H ∧ (∀ i, i < 17 → vk_R RX6 (sidx.getD i 0) (stx.getD i "") (adK i) U) ∧ va_Z "java/lang/String" "COMPACT_STRINGS" "Z" (.int 1) A U H ∧ va_Zq "jdk/internal/util/Preconditions" "SIOOBE_FORMATTER" "Ljava/util/function/BiFunction;" A U H
theorem VV.kept {adK adV : Nat → Nat} {A : Nat → Prop} {U : State} {H H1 : Heap} (h : VV adK adV A U H) (hq : ∀ a : Nat, a < H.size → ¬ A a → H1[a]? = H[a]?) : VV adK adV A U H1 := ⟨h.1.kept hq, h.2.1, h.2.2.1.kept hq, h.2.2.2.kept hq⟩
theorem VV.narrow {adK adV : Nat → Nat} {A B : Nat → Prop} {U : State} {H : Heap} (h : VV adK adV A U H) (hAB : ∀ q, B q → A q) : VV adK adV B U H := ⟨h.1.narrow hAB, h.2.1, h.2.2.1.narrow hAB, h.2.2.2.narrow hAB⟩
theorem VV.warm {adK adV : Nat → Nat} {A : Nat → Prop} {s U : State} {H : Heap} (hW : s.WarmedH U.vm) (h : VV adK adV A s H) : VV adK adV A U H := ⟨vk_S.moved hW.alike h.1, fun i hi => vk_R.warm hW (h.2.1 i hi), va_Z.moved hW.alike h.2.2.1, va_Zq.moved hW.alike h.2.2.2⟩
theorem VV.calling {adK adV : Nat → Nat} {A : Nat → Prop} {U : State} {H : Heap} {g : JFrame} {mk : MethodId} {av : Array Value} (h : VV adK adV A U H) : VV adK adV A (U.calling g mk av) H := ⟨vk_S.moved (u := U) (U := U.calling g mk av) (Vm.Alike.refl U.vm) h.1, fun i hi => vk_R.same (u := U) (U := U.calling g mk av) rfl (h.2.1 i hi), va_Z.moved (u := U) (U := U.calling g mk av) (Vm.Alike.refl U.vm) h.2.2.1, va_Zq.moved (u := U) (U := U.calling g mk av) (Vm.Alike.refl U.vm) h.2.2.2⟩
def PRs (D : va_G) (a : Nat → ClassId) (adK adV : Nat → Nat) (As : List Value) (wc : va_W) : Array Value → State → Prop := va_Pc As (fun U => va_P D classes wc U.heap ∧ KK D a U ∧ VV adK adV (fun _ => False) U U.heap)
def PMs (D : va_G) (a : Nat → ClassId) (adK adV : Nat → Nat) (As : List Value) (wc : va_W) (sz : Nat) : Array Value → State → Prop := va_Pc As (fun U => U.heap.size = sz ∧ va_P D classes wc U.heap ∧ KK D a U ∧ va_D (fun _ => True) wc ∧ VV adK adV (va_A wc sz) U U.heap)
def CRsi (l : Launch) (M : Mt) (f lo : Nat) (D : va_G) (a : Nat → ClassId) (adK adV : Nat → Nat) (As : List Value) (wc : va_W) (post : Int32 → Prop) : Prop := Met l M.1 (WS M) (rmM f 0 0 lo) (PRs D a adK adV As wc) (vp_Si post) 0 0 (fun _ => False)
def CMsi {S : Type} (l : Launch) (M : Mt) (f lo mc ms : Nat) (D : va_G) (a : Nat → ClassId) (adK adV : Nat → Nat) (As : List Value) (wc : va_W) (sz : Nat) (post : Int32 → S → Prop) (g : S → va_W) : Prop := Met l M.1 (WS M) (rmM f mc ms lo) (PMs D a adK adV As wc sz) (va_Qi post (Bw D (va_A wc sz) g) (va_A wc sz)) mc ms (va_A wc sz)
def CMsv {S : Type} (l : Launch) (M : Mt) (f lo mc ms : Nat) (D : va_G) (a : Nat → ClassId) (adK adV : Nat → Nat) (As : List Value) (wc : va_W) (sz : Nat) (post : S → Prop) (g : S → va_W) : Prop := Met l M.1 (WS M) (rmM f mc ms lo) (PMs D a adK adV As wc sz) (va_Qv post (Bw D (va_A wc sz) g) (va_A wc sz)) mc ms (va_A wc sz)
theorem entRs {l : Launch} {M : Mt} {rm : Room} {D : va_G} {a : Nat → ClassId} {adK adV : Nat → Nat} {As : List Value} {wc : va_W} {Qc : Array Value → State → Outcome → State → Prop} {mc ms : Nat} {free : Addr → Prop} (hp : plainName M.1.cls = true) (hlen : (lg_sl As).length ≤ M.2.2.1)
    (body : ∀ (p : Program) (e : Env) (s : State) (m : MethodId) (below : List Frame) (meth : Method) (c : Code), Cx p s m As.toArray meth c M → KK D a s → va_P D classes wc s.heap → VV adK adV (fun _ => False) s s.heap → ∀ ls : Array Slot, lv_has ls M.2.2.1 (lv_args 0 As) → W p l e rm s m As.toArray below meth c s.heap [] 0 0 (MQ below Qc As.toArray s mc ms free) (F0 m 0 ls [])) : Met l M.1 (WS M) rm (PRs D a adK adV As wc) Qc mc ms free :=
  entW hp hlen (fun p e s m below meth c C h ls hl => body p e s m below meth c C h.2.1 h.1 h.2.2 ls hl)
theorem entMs {l : Launch} {M : Mt} {rm : Room} {D : va_G} {a : Nat → ClassId} {adK adV : Nat → Nat} {As : List Value} {wc : va_W} {sz : Nat} {Qf : (Nat → Prop) → Array Value → State → Outcome → State → Prop} {mc ms : Nat} (hp : plainName M.1.cls = true) (hlen : (lg_sl As).length ≤ M.2.2.1)
    (body : ∀ (p : Program) (e : Env) (s : State) (m : MethodId) (below : List Frame) (meth : Method) (c : Code), Cx p s m As.toArray meth c M → KK D a s → ∀ A : Nat → Prop, (∀ q, s.heap.size ≤ q → A q) → va_P D classes wc s.heap → va_D A wc → VV adK adV A s s.heap → ∀ ls : Array Slot, lv_has ls M.2.2.1 (lv_args 0 As) → W p l e rm s m As.toArray below meth c s.heap [] 0 0 (MQ below (Qf A) As.toArray s mc ms A) (F0 m 0 ls [])) : Met l M.1 (WS M) rm (PMs D a adK adV As wc sz) (Qf (va_A wc sz)) mc ms (va_A wc sz) := by
  refine entW hp hlen (fun p e s m below meth c C h ls hl => ?_)
  obtain ⟨hsz, hP, hK, hD, hV⟩ := h
  subst hsz
  exact body p e s m below meth c C hK (va_A wc s.heap.size) (fun q h => Or.inr h) hP hD.self hV ls hl
theorem entMsi {S : Type} {l : Launch} {M : Mt} {f lo mc ms : Nat} {D : va_G} {a : Nat → ClassId} {adK adV : Nat → Nat} {As : List Value} {wc : va_W} {sz : Nat} {post : Int32 → S → Prop} {g : S → va_W} (hp : plainName M.1.cls = true) (hlen : (lg_sl As).length ≤ M.2.2.1)
    (body : ∀ (p : Program) (e : Env) (s : State) (m : MethodId) (below : List Frame) (meth : Method) (c : Code), Cx p s m As.toArray meth c M → KK D a s → ∀ A : Nat → Prop, (∀ q, s.heap.size ≤ q → A q) → va_P D classes wc s.heap → va_D A wc → VV adK adV A s s.heap → ∀ ls : Array Slot, lv_has ls M.2.2.1 (lv_args 0 As) → W p l e (rmM f mc ms lo) s m As.toArray below meth c s.heap [] 0 0 (MQ below (va_Qi post (Bw D A g) A) As.toArray s mc ms A) (F0 m 0 ls [])) : CMsi l M f lo mc ms D a adK adV As wc sz post g :=
  entMs (Qf := fun A => va_Qi post (Bw D A g) A) hp hlen body
theorem entMsv {S : Type} {l : Launch} {M : Mt} {f lo mc ms : Nat} {D : va_G} {a : Nat → ClassId} {adK adV : Nat → Nat} {As : List Value} {wc : va_W} {sz : Nat} {post : S → Prop} {g : S → va_W} (hp : plainName M.1.cls = true) (hlen : (lg_sl As).length ≤ M.2.2.1)
    (body : ∀ (p : Program) (e : Env) (s : State) (m : MethodId) (below : List Frame) (meth : Method) (c : Code), Cx p s m As.toArray meth c M → KK D a s → ∀ A : Nat → Prop, (∀ q, s.heap.size ≤ q → A q) → va_P D classes wc s.heap → va_D A wc → VV adK adV A s s.heap → ∀ ls : Array Slot, lv_has ls M.2.2.1 (lv_args 0 As) → W p l e (rmM f mc ms lo) s m As.toArray below meth c s.heap [] 0 0 (MQ below (va_Qv post (Bw D A g) A) As.toArray s mc ms A) (F0 m 0 ls [])) : CMsv l M f lo mc ms D a adK adV As wc sz post g :=
  entMs (Qf := fun A => va_Qv post (Bw D A g) A) hp hlen body
section LSTR
variable {p : Program} {l : Launch} {e : Env} {R : Room} {s : State} {m : MethodId} {args : Array Value} {below : List Frame} {meth : Method} {c : Code} {H : Heap} {locs : List Loc} {cells slots : Nat} {Q : State → Prop}
variable {M0 : Mt} {As : List Value} {ls : Array Slot} {pc : Nat} {D : va_G} {a : Nat → ClassId} {adK adV : Nat → Nat} {A : Nat → Prop} {wc : va_W}
theorem preRs (hK : KK D a s) (hP : va_P D classes wc H) (hV : VV adK adV (fun _ => False) s H) : PreS s H (PRs D a adK adV As wc) As :=
  ⟨fun _ _ _ _ q => ⟨q.1, q.2.1, q.2.2.1.calling, q.2.2.2.calling⟩, fun U hU hW => ⟨rfl, by rw [hU]; exact hP, hK.warm hW, by rw [hU]; exact hV.warm hW⟩⟩
theorem preMs (hK : KK D a s) (hP : va_P D classes wc H) (hD : va_D A wc) (hV : VV adK adV (va_A wc H.size) s H) : PreS s H (PMs D a adK adV As wc H.size) As :=
  ⟨fun _ _ _ _ q => ⟨q.1, q.2.1, q.2.2.1, q.2.2.2.1.calling, q.2.2.2.2.1, q.2.2.2.2.2.calling⟩, fun U hU hW => ⟨rfl, by rw [hU], by rw [hU]; exact hP, hK.warm hW, hD.weaken (fun _ _ _ _ => trivial), by rw [hU]; exact hV.warm hW⟩⟩
theorem retRn {post : Int32 → Prop} {v : Int32} {ty : FieldType} (C : Cx p s m args meth c M0) (hri : M0.2.2.2 = some ty) (hn : narrow ty (.int v) = .int v) (hp : post v) (hdg : decode M0.2.1 pc = .ok (.ireturn, 1)) : W p l e R s m args below meth c s.heap [] 0 0 (MQ below (vp_Si post) args s 0 0 (fun _ => False)) (F0 m pc ls [.int v]) := by
  obtain ⟨hx, hb, -, -, -, hr, hlocks, -⟩ := C
  exact W.zret hx hb (hr.trans hri) hn (fun t ht hW => ⟨v, rfl, hp, ht⟩) (fun _ h => by cases h) hdg hlocks
end LSTR
theorem s_all : ∀ i, i < 17 → (slen.getD i 0 = (sbyt.getD i []).length ∧ slen.getD i 0 < 2 ^ 31 ∧ ∀ b ∈ sbyt.getD i [], b.toInt8.toInt32 = b) := by decide +kernel
theorem inb_lt {x : Int32} {n : Nat} (h : inb x n) (hn : n < 2 ^ 31) : x < Int32.ofNat n := by
  obtain ⟨j, hj, rfl⟩ := nI_of h.1
  have h2 := h.2
  rw [nI_clamp hj] at h2
  exact nI_lt h2 hn

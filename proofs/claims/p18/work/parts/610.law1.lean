/-! The law's walk: worlds by pieces, calls over a piece of a world. -/
theorem fm_mem {α β : Type} (f : α → List β) {l : List α} {x : α} (h : x ∈ l) : ∃ l' : List α, (l.flatMap f).Perm (f x ++ l'.flatMap f) ∧ (∀ y ∈ l', y ∈ l) ∧ ∀ y ∈ l, y = x ∨ y ∈ l' := by
  obtain ⟨l1, l2, rfl⟩ := List.append_of_mem h
  refine ⟨l1 ++ l2, ?_, fun y hy => ?_, fun y hy => ?_⟩
  · rw [List.flatMap_append, List.flatMap_append, List.flatMap_cons, ← List.append_assoc, ← List.append_assoc]
    exact List.Perm.append_right _ List.perm_append_comm
  · rcases List.mem_append.1 hy with h | h
    · exact List.mem_append_left _ h
    · exact List.mem_append_right _ (List.mem_cons_of_mem _ h)
  · rcases List.mem_append.1 hy with h | h
    · exact Or.inr (List.mem_append_left _ h)
    · rcases List.mem_cons.1 h with h | h
      · exact Or.inl h
      · exact Or.inr (List.mem_append_right _ h)
theorem P_mem {D : va_G} {ws wc : va_W} {H : Heap} (h : va_P D classes ws H) (hs : ∀ q ∈ wc, q ∈ ws) : va_P D classes wc H := by
  intro k q hk
  obtain ⟨i, hi⟩ := List.getElem?_of_mem (hs q (List.mem_of_getElem? hk))
  exact h i q hi
theorem P_l {D : va_G} {wc wr : va_W} {H : Heap} (h : va_P D classes (wc ++ wr) H) : va_P D classes wc H := P_mem h (fun _ hq => List.mem_append_left _ hq)
theorem D_l {A : Nat → Prop} {wc wr : va_W} (h : va_D A (wc ++ wr)) : va_D A wc := by
  have h1 := nd_of_D h
  rw [List.map_append] at h1
  refine D_of_nd (List.nodup_append.1 h1).1 (fun q hq => ?_)
  obtain ⟨i, hi⟩ := List.getElem?_of_mem (List.mem_append_left wr hq)
  exact h.2 i q hi
theorem F_l {A : Nat → Prop} {wc wr : va_W} {H0 H : Heap} {locs : List Loc} (hD : va_D A (wc ++ wr)) (hS : va_S A H0 H locs) (hA : ∀ q, H0.size ≤ q → A q) : ∀ q, va_A wc H.size q → A q :=
  va_free (wc := wc) hD hS hA (List.range wc.length) (rg_l wc wr)
section LAWR
variable {p : Program} {l : Launch} {e : Env} {R : Room} {s : State} {m : MethodId} {args : Array Value} {below : List Frame} {meth : Method} {c : Code} {H : Heap} {locs : List Loc} {cells slots : Nat} {Q : State → Prop}
variable {M0 M : Mt} {f lo mc ms i : Nat} {As rest st0 : List Value} {ls : Array Slot} {pc b : Nat}
variable {D : va_G} {a : Nat → ClassId} {A : Nat → Prop} {w wc wr : va_W} {adK adV : Nat → Nat}
theorem recvW {ci : Nat} {r : vw_C} {fs : List Value} (hK : KK D a s) (hP : va_P D classes w H) (hm : (b, Sum.inr (ci, fs)) ∈ w) (hc : classes[ci]? = some r) : ∃ cell : Cell, H[b]? = some cell ∧ cell.vm.isStatics = false ∧ s.vm.findClass r.1 = some cell.cls := by
  obtain ⟨k, hk⟩ := List.getElem?_of_mem hm
  exact recvOf hK hP k hk hc
theorem runRi {y : Int32} (C : Cx p s m args meth c M0) (hK : KK D a s) (hP : va_P D classes w H) (hp : w.Perm (wc ++ wr)) (hM : CRi l M f lo D a (.ref b :: As) wc (fun r => r = y)) (hv : ∃ cell : Cell, H[b]? = some cell ∧ cell.vm.isStatics = false ∧ s.vm.findClass M.1.cls = some cell.cls) (L : LkV M0.1.cls i M) (hok : okN M As.length) (hR : f + 1 ≤ R.frames ∧ 8 + (M.2.2.1 + 11) + lo ≤ R.locals) (hls : ls.size = M0.2.2.1) (hst : st0 = As.reverse ++ .ref b :: rest) (hW : (rest.map fun v => v.category).sum ≤ 8) (hdg : decode M0.2.1 pc = .ok (.invokevirtual i, 3)) (hf : cells ≤ R.cells ∧ slots ≤ R.slots)
    (kk : W p l e R s m args below meth c H locs cells slots Q (F0 m (pc + 3) ls (.int y :: rest))) : W p l e R s m args below meth c H locs cells slots Q (F0 m pc ls st0) :=
  cRi (runV (As := As) C hM L hok hR ⟨rfl, rfl⟩ (preV (preR hK (P_l (P_perm hP hp))) hv) hls hst hW hdg hf) kk
theorem runRl {y : Int64} (C : Cx p s m args meth c M0) (hK : KK D a s) (hP : va_P D classes w H) (hp : w.Perm (wc ++ wr)) (hM : CRl l M f lo D a (.ref b :: As) wc (fun r => r = y)) (hv : ∃ cell : Cell, H[b]? = some cell ∧ cell.vm.isStatics = false ∧ s.vm.findClass M.1.cls = some cell.cls) (L : LkV M0.1.cls i M) (hok : okN M As.length) (hR : f + 1 ≤ R.frames ∧ 8 + (M.2.2.1 + 11) + lo ≤ R.locals) (hls : ls.size = M0.2.2.1) (hst : st0 = As.reverse ++ .ref b :: rest) (hW : (rest.map fun v => v.category).sum ≤ 8) (hdg : decode M0.2.1 pc = .ok (.invokevirtual i, 3)) (hf : cells ≤ R.cells ∧ slots ≤ R.slots)
    (kk : W p l e R s m args below meth c H locs cells slots Q (F0 m (pc + 3) ls (.long y :: rest))) : W p l e R s m args below meth c H locs cells slots Q (F0 m pc ls st0) :=
  cRl (runV (As := As) C hM L hok hR ⟨rfl, rfl⟩ (preV (preR hK (P_l (P_perm hP hp))) hv) hls hst hW hdg hf) kk
theorem runMi {S : Type} {post : Int32 → S → Prop} {g : S → va_W} (C : Cx p s m args meth c M0) (hK : KK D a s) (hP : va_P D classes w H) (hD : va_D A w) (hS : va_S A s.heap H locs) (hA : ∀ q, s.heap.size ≤ q → A q) (hp : w.Perm (wc ++ wr)) (hM : CMi l M f lo mc ms D a (.ref b :: As) wc H.size post g) (hv : ∃ cell : Cell, H[b]? = some cell ∧ cell.vm.isStatics = false ∧ s.vm.findClass M.1.cls = some cell.cls) (L : LkV M0.1.cls i M) (hok : okN M As.length) (hR : f + 1 ≤ R.frames ∧ 8 + (M.2.2.1 + 11) + lo ≤ R.locals) (hls : ls.size = M0.2.2.1) (hst : st0 = As.reverse ++ .ref b :: rest) (hW : (rest.map fun v => v.category).sum ≤ 8) (hdg : decode M0.2.1 pc = .ok (.invokevirtual i, 3)) (hf : cells + mc ≤ R.cells ∧ slots + ms ≤ R.slots)
    (kk : ∀ (r : Int32) (u : S) (H1 : Heap) (locs1 : List Loc), post r u → va_P D classes (g u ++ wr) H1 → va_D A (g u ++ wr) → va_S A s.heap H1 locs1 → W p l e R s m args below meth c H1 locs1 (cells + mc) (slots + ms) Q (F0 m (pc + 3) ls (.int r :: rest))) : W p l e R s m args below meth c H locs cells slots Q (F0 m pc ls st0) := by
  have hP1 := P_perm hP hp
  have hD1 := D_perm hD hp
  have hF := F_l hD1 hS hA
  refine va_calli (runV (As := As) C hM L hok hR ⟨rfl, rfl⟩ (preV (preM hK (P_l hP1) (D_l hD1)) hv) hls hst hW hdg hf) hS (fun q _ h => hF q h) hF (fun r u t H1 locs1 ht hvm hw hB hz1 hk1 hS1 => ?_)
  have hB1 := hB.1
  rw [ht] at hB1
  obtain ⟨h1, h2⟩ := joinP hP1 hD1 hk1 hF hB1 hB.2
  exact kk r u H1 locs1 hw h1 h2 hS1
theorem runMl {S : Type} {post : Int64 → S → Prop} {g : S → va_W} (C : Cx p s m args meth c M0) (hK : KK D a s) (hP : va_P D classes w H) (hD : va_D A w) (hS : va_S A s.heap H locs) (hA : ∀ q, s.heap.size ≤ q → A q) (hp : w.Perm (wc ++ wr)) (hM : CMl l M f lo mc ms D a (.ref b :: As) wc H.size post g) (hv : ∃ cell : Cell, H[b]? = some cell ∧ cell.vm.isStatics = false ∧ s.vm.findClass M.1.cls = some cell.cls) (L : LkV M0.1.cls i M) (hok : okN M As.length) (hR : f + 1 ≤ R.frames ∧ 8 + (M.2.2.1 + 11) + lo ≤ R.locals) (hls : ls.size = M0.2.2.1) (hst : st0 = As.reverse ++ .ref b :: rest) (hW : (rest.map fun v => v.category).sum ≤ 8) (hdg : decode M0.2.1 pc = .ok (.invokevirtual i, 3)) (hf : cells + mc ≤ R.cells ∧ slots + ms ≤ R.slots)
    (kk : ∀ (r : Int64) (u : S) (H1 : Heap) (locs1 : List Loc), post r u → va_P D classes (g u ++ wr) H1 → va_D A (g u ++ wr) → va_S A s.heap H1 locs1 → W p l e R s m args below meth c H1 locs1 (cells + mc) (slots + ms) Q (F0 m (pc + 3) ls (.long r :: rest))) : W p l e R s m args below meth c H locs cells slots Q (F0 m pc ls st0) := by
  have hP1 := P_perm hP hp
  have hD1 := D_perm hD hp
  have hF := F_l hD1 hS hA
  refine va_calll (runV (As := As) C hM L hok hR ⟨rfl, rfl⟩ (preV (preM hK (P_l hP1) (D_l hD1)) hv) hls hst hW hdg hf) hS (fun q _ h => hF q h) hF (fun r u t H1 locs1 ht hvm hw hB hz1 hk1 hS1 => ?_)
  have hB1 := hB.1
  rw [ht] at hB1
  obtain ⟨h1, h2⟩ := joinP hP1 hD1 hk1 hF hB1 hB.2
  exact kk r u H1 locs1 hw h1 h2 hS1
theorem runMsi {S : Type} {post : Int32 → S → Prop} {g : S → va_W} (C : Cx p s m args meth c M0) (hK : KK D a s) (hV : VV adK adV A s s.heap) (hP : va_P D classes w H) (hD : va_D A w) (hS : va_S A s.heap H locs) (hA : ∀ q, s.heap.size ≤ q → A q) (hp : w.Perm (wc ++ wr)) (hM : CMsi l M f lo mc ms D a adK adV (.ref b :: As) wc H.size post g) (hv : ∃ cell : Cell, H[b]? = some cell ∧ cell.vm.isStatics = false ∧ s.vm.findClass M.1.cls = some cell.cls) (L : LkV M0.1.cls i M) (hok : okN M As.length) (hR : f + 1 ≤ R.frames ∧ 8 + (M.2.2.1 + 11) + lo ≤ R.locals) (hls : ls.size = M0.2.2.1) (hst : st0 = As.reverse ++ .ref b :: rest) (hW : (rest.map fun v => v.category).sum ≤ 8) (hdg : decode M0.2.1 pc = .ok (.invokevirtual i, 3)) (hf : cells + mc ≤ R.cells ∧ slots + ms ≤ R.slots)
    (kk : ∀ (r : Int32) (u : S) (H1 : Heap) (locs1 : List Loc), post r u → va_P D classes (g u ++ wr) H1 → va_D A (g u ++ wr) → va_S A s.heap H1 locs1 → W p l e R s m args below meth c H1 locs1 (cells + mc) (slots + ms) Q (F0 m (pc + 3) ls (.int r :: rest))) : W p l e R s m args below meth c H locs cells slots Q (F0 m pc ls st0) := by
  have hP1 := P_perm hP hp
  have hD1 := D_perm hD hp
  have hF := F_l hD1 hS hA
  refine va_calli (runV (As := As) C hM L hok hR ⟨rfl, rfl⟩ (preV (preMs hK (P_l hP1) (D_l hD1) ((hV.kept hS.2.1).narrow hF)) hv) hls hst hW hdg hf) hS (fun q _ h => hF q h) hF (fun r u t H1 locs1 ht hvm hw hB hz1 hk1 hS1 => ?_)
  have hB1 := hB.1
  rw [ht] at hB1
  obtain ⟨h1, h2⟩ := joinP hP1 hD1 hk1 hF hB1 hB.2
  exact kk r u H1 locs1 hw h1 h2 hS1
end LAWR

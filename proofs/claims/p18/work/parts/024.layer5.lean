/-! Makers: what is new behind a call, and references that come back. -/
def Z0 : Sx := (fun _ => 0, fun _ _ => 0, fun _ _ => 0)
def ruleN (z : Sx) : Nat := (mxI 0 (mnI (gI z 2) 400)).toNatClampNeg
def ruleZ (z : Sx) : Sx := sTf (sTf (sTf (sTf (sI Z0 1 (gI z 4)) 0 (gT z 1)) 2 (gT z 5)) 3 (gT z 6)) 4 (gT z 7)
theorem rule_sz (v : Int32) : ¬ mxI 0 (mnI v 400) < 0 ∧ (mxI 0 (mnI v 400)).toNatClampNeg ≤ 400 := by
  by_cases h : (400 : Int32) < v
  · have e : mnI v 400 = 400 := if_pos h
    rw [e]; decide
  · have e : mnI v 400 = v := if_neg h
    rw [e]
    by_cases h0 : (0 : Int32) < v
    · have e2 : mxI 0 v = v := if_pos h0
      rw [e2]
      have h1 := (i32_lt 0 v).mp h0
      have h2 : v.toInt ≤ 400 := bI_ngt rfl (by decide) h
      have e0 : (0 : Int32).toInt = 0 := by decide
      refine ⟨fun q => ?_, ?_⟩
      · have := (i32_lt v 0).mp q; omega
      · show v.toInt.toNat ≤ 400; omega
    · have e2 : mxI 0 v = 0 := if_neg h0
      rw [e2]; decide
theorem cell_congr {cA : ClassId} {f g : Nat → Int32} {n : Nat} (h : ∀ k, k < n → f k = g k) : vp_cell cA (n, .inl f) = vp_cell cA (n, .inl g) := by
  rw [vp_cell_i, vp_cell_i]
  unfold arrV
  have e : (fun j : Fin n => Value.int (f j.val)) = (fun j : Fin n => Value.int (g j.val)) := by
    funext j; rw [h j.val j.isLt]
  rw [e]
theorem fit_int {cA : ClassId} {n : Nat} {f : Nat → Int32} {i : Nat} {v : Value} (h : (vp_cell cA (n, .inl f)).slots[i]? = some v) : fits .int v = true := by
  rw [vp_cell_i] at h
  by_cases hi : i < n
  · rw [arrV_read cA _ hi] at h; cases h; rfl
  · have : (arrV cA n (fun j => Value.int (f j))).slots[i]? = none := Array.getElem?_eq_none (by rw [arrV_size]; omega)
    rw [this] at h; cases h
section LNEW
variable {p : Program} {l : Launch} {e : Env} {R : Room} {s : State} {m : MethodId} {args : Array Value} {below : List Frame} {meth : Method} {c : Code} {H : Heap} {locs : List Loc} {cells slots : Nat} {Q : State → Prop}
variable {rest st0 : List Value} {ls : Array Slot} {pc mc ms : Nat} {M0 : Mt}
variable {D : va_G} {A : Nat → Prop} {ws wc : va_W} {av : Array Value}
theorem cNq {S : Type} {g fw : S → va_W} {ad : S → Nat} (hr : va_Run p l e R s m args below meth c H locs cells slots mc ms (F0 m pc ls st0) rest (va_Qq (fun r u => r = some (ad u)) (Bw D (va_A wc H.size) g) (va_A wc H.size) av) (va_A wc H.size)) (hP : va_P D classes ws H) (hD : va_D A ws) (hS : va_S A s.heap H locs) (hA : ∀ q, s.heap.size ≤ q → A q) (isC isR pm : List Nat) (hC : isC.map (fun i => ws[i]?) = wc.map some) (hRr : isR.map (fun i => ws[i]?) = (isR.filterMap (fun i => ws[i]?)).map some) (hn : va_nd isR = true) (hdis : ∀ i ∈ isR, i ∉ isC) (hpm : ∀ u, pm.map (fun i => (isR.filterMap (fun i => ws[i]?) ++ g u)[i]?) = (fw u).map some) (hnp : va_nd pm = true)
    (kk : ∀ (u : S) (H1 : Heap) (locs1 : List Loc), va_P D classes (fw u) H1 → va_D A (fw u) → va_S A s.heap H1 locs1 → W p l e R s m args below meth c H1 locs1 (cells + mc) (slots + ms) Q (F0 m (pc + 3) ls (.ref (ad u) :: rest))) : W p l e R s m args below meth c H locs cells slots Q (F0 m pc ls st0) := by
  have hF := va_free (wc := wc) hD hS hA isC hC
  refine va_callq hr hS (fun q _ h => hF q h) hF (fun r u t H1 locs1 ht hvm hw hB hz1 hk1 hS1 => ?_)
  have hB1 := hB.1
  rw [ht] at hB1
  obtain ⟨h1, h2⟩ := joinM u hP hD isC isR pm hC hRr hn hdis hpm hnp hF hk1 hB1 hB.2
  rw [hw]
  exact kk u H1 locs1 h1 h2 hS1
theorem retMq {S : Type} {post : Option Nat → S → Prop} {g : S → va_W} {v : Option Nat} {rt : FieldType} (C : Cx p s m args meth c M0) (hri : M0.2.2.2 = some rt) (hrt : (∃ n, rt = .object n) ∨ ∃ t, rt = .array t) (u : S) (hp : post v u) (hP : va_P D classes (g u) H) (hD : va_D A (g u)) (hS : va_S A s.heap H locs) (hc : cells ≤ mc) (hs : slots ≤ ms) (hdg : decode M0.2.1 pc = .ok (.areturn, 1)) : W p l e R s m args below meth c H locs cells slots (MQ below (va_Qq post (Bw D A g) A) args s mc ms A) (F0 m pc ls [va_rf v]) := by
  obtain ⟨hx, hb, -, -, -, hr, hlocks, -⟩ := C
  refine W.widen hc hs ?_
  exact W.aret hx hb (hr.trans hri) hrt (by cases v with | none => exact Or.inl rfl | some x => exact Or.inr ⟨x, rfl⟩) (fun t ht hW => ⟨⟨v, u, rfl, hp, by rw [ht]; exact hP, hD⟩, hS.F ht⟩) hS.2.2 hdg hlocks
end LNEW

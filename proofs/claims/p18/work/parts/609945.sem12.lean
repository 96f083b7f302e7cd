/-! A RULE's clauses, on both sides. -/
/-- what a RULE's words come to -/
def WD9 (v : Nat → Int64) : Int32 → Int64 := fun x => v (x.toInt - 312).toNat
theorem wd9 {v : Nat → Int64} {w : Nat} (h : w < 9) : WD9 v (nI (312 + w)) = v w := by
  unfold WD9
  rw [nI_toInt (by omega), show (((312 + w : Nat) : Int) - 312).toNat = w by omega]
/-- a RULE as both keep it -/
def RREL (nR : Nat) (zR z9 : Sx) (k : Nat) : Prop := k < 6 ∧ nR ≤ 400 ∧ (∀ i : Nat, i < nR → CM (gT zR 0 i) (gT z9 3 (400 * k + i))) ∧ ∃ C : Nat, C ≤ 12 ∧ gI zR 1 = nI C ∧ gT z9 6 k = nI C ∧ ∀ c : Nat, c < C → ∃ b m e : Nat, gT zR 2 c = nI b ∧ gT zR 3 c = nI m ∧ gT zR 4 c = nI e ∧ b ≤ m ∧ m ≤ e ∧ e ≤ nR ∧ ((gT z9 5 (60 * k + 5 * c) = 0 ∧ b < m ∧ gT z9 5 (60 * k + 5 * c + 1) = nI b ∧ gT z9 5 (60 * k + 5 * c + 2) = nI m ∧ SGL (gT zR 0) b m 3 1 TR ∧ ((gT z9 5 (60 * k + 5 * c + 3) = -1 ∧ m = e) ∨ (gT z9 5 (60 * k + 5 * c + 3) = nI m ∧ gT z9 5 (60 * k + 5 * c + 4) = nI e ∧ m < e ∧ SGL (gT zR 0) m e 26 1 P01))) ∨ (gT z9 5 (60 * k + 5 * c) = 1 ∧ b = m ∧ gT z9 5 (60 * k + 5 * c + 3) = nI m ∧ gT z9 5 (60 * k + 5 * c + 4) = nI e ∧ m < e ∧ SGL (gT zR 0) m e 26 1 P01))
section S12
variable {zw zd zR z9 z : Sx} {v : Nat → Int64} {nR k : Nat} {x6 : Int32}
/-- both reckon a stretch -/
theorem seg_both {b e m : Nat} {P : Int64 → Prop} {z2 : Sx} (hs : SGL (gT zR 0) b e m 1 P) (hm : m ≤ 32) (he : e ≤ nR) (hn : nR ≤ 400) (hk : k < 6) (hcm : ∀ i : Nat, i < nR → CM (gT zR 0 i) (gT z9 3 (400 * k + i))) (hW : ∀ w : Nat, w < 9 → fX2_wordOf zw zd (nI (312 + w)) x6 = some (v w)) (hV : ∀ w : Nat, w < 9 → gJ z9 23 w = v w) : ∃ r y2 y9, P r ∧ fX2_reckon z2 nR (gT zR 0) zw zd (nI b) (nI e) x6 = some (r, y2) ∧ fX9_reckons z9 (nI k) (nI b) (nI e) = some (r, y9) ∧ FrL [21, 22] z9 y9 := by
  obtain ⟨L, h1, h2, h3⟩ := hs.2 (WD9 v) [] (by rw [List.length_nil]; omega)
  rw [List.append_nil] at h3
  match L, h1, h2, h3 with
  | [r], _, h2, h3 =>
    obtain ⟨y2, e1⟩ := reckon_class (z := z2) (zw := zw) (zd := zd) (x6 := x6) hs.1 he (by omega) (fun w hw => by rw [wd9 hw]; exact hW w hw) (fun i hi => ⟨_, hcm i (by omega)⟩) h3
    obtain ⟨y9, e2, e3⟩ := reckon_ref (z := z9) (t := k) hs.1 (by omega) hk (fun w hw => by rw [wd9 hw]; exact hV w hw) (fun j hj => hcm j (by omega)) h3
    exact ⟨r, y2, y9, h2 r List.mem_cons_self, e1, e2, e3⟩
  | [], h1, _, _ => cases h1
  | a :: b :: L2, h1, _, _ => rw [List.length_cons, List.length_cons] at h1; omega
theorem rrel_fr {L : List Nat} {y : Sx} (h : RREL nR zR z9 k) (hf : FrL L z9 y) (hL : (L.contains 3 || L.contains 5 || L.contains 6) = false) : RREL nR zR y k := by
  simp only [Bool.or_eq_false_iff] at hL
  unfold RREL
  rw [(hf 3 hL.1.1).2.1, (hf 5 hL.1.2).2.1, (hf 6 hL.2).2.1]
  exact h
theorem i60 {k c : Nat} (hk : k < 6) (hc : c < 12) : (60 * nI k : Int32) + (5 * nI c) = nI (60 * k + 5 * c) := by
  have e60 : (60 * nI k : Int32) = nI (60 * k) := Int32.toInt_inj.1 (by rw [i32_mul (show (60 : Int32).toInt = 60 by decide) (nI_toInt (n := k) (by omega)) (by omega) (by omega), nI_toInt (by omega)]; omega)
  have e5 : (5 * nI c : Int32) = nI (5 * c) := Int32.toInt_inj.1 (by rw [i32_mul (show (5 : Int32).toInt = 5 by decide) (nI_toInt (n := c) (by omega)) (by omega) (by omega), nI_toInt (by omega)]; omega)
  rw [e60, e5, nI_add]
/-- which clause looks -/
theorem clause_k (hR : RREL nR zR z9 k) (hW : ∀ w : Nat, w < 9 → fX2_wordOf zw zd (nI (312 + w)) x6 = some (v w)) {C : Nat} (hC : gI zR 1 = nI C) (hC12 : C ≤ 12) : ∀ (g c n m : Nat) (z2 y9 : Sx), C - c = g → c ≤ C → g < n → g < m → FrL [21, 22] z9 y9 → (∀ w : Nat, w < 9 → gJ y9 23 w = v w) → ∃ r r9 w2 w9, lX2_lookClause_3 zw nR zR zd x6 n z2 (nI c) = some (r, w2) ∧ lX9_clauseFor_7 (nI k) m y9 (nI c) = some (r9, w9) ∧ FrL [21, 22] z9 w9 ∧ ((r = -1 ∧ r9 = -1) ∨ ∃ d : Nat, d < C ∧ r = nI d ∧ r9 = nI (60 * k + 5 * d) ∧ gT z9 5 (60 * k + 5 * d) = 0) := by
  intro g
  obtain ⟨hk, hn, hcm, C2, hC2, q1, q2, hcl⟩ := id hR
  have eC : C2 = C := (nI_eq (by omega) (by omega)).1 (q1.symm.trans hC)
  subst eC
  have ik : inb (nI k) 6 := in_n hk (by omega)
  have ck : (nI k).toNatClampNeg = k := nI_clamp (by omega)
  induction g with
  | zero =>
    intro c n m z2 y9 hg hc hn2 hm hf hV
    obtain ⟨n, rfl⟩ : ∃ j, n = j + 1 := ⟨n - 1, by omega⟩
    obtain ⟨m, rfl⟩ : ∃ j, m = j + 1 := ⟨m - 1, by omega⟩
    have t6 : gT y9 6 k = nI C2 := by rw [(hf 6 (by decide)).2.1]; exact q2
    refine ⟨-1, -1, z2, y9, ?_, ?_, hf, Or.inl ⟨rfl, rfl⟩⟩
    · rw [lX2_lookClause_3, hC, if_pos (nI_le (by omega) (by omega))]
    · rw [lX9_clauseFor_7, gd_pos ik, ck, t6, if_pos (nI_le (by omega) (by omega))]
  | succ g ih =>
    intro c n m z2 y9 hg hc hn2 hm hf hV
    obtain ⟨n, rfl⟩ : ∃ j, n = j + 1 := ⟨n - 1, by omega⟩
    obtain ⟨m, rfl⟩ : ∃ j, m = j + 1 := ⟨m - 1, by omega⟩
    have t6 : gT y9 6 k = nI C2 := by rw [(hf 6 (by decide)).2.1]; exact q2
    have t5 : gT y9 5 = gT z9 5 := (hf 5 (by decide)).2.1
    have ci : (nI c).toInt = c := nI_toInt (by omega)
    have e5 := i60 (k := k) (c := c) hk (by omega)
    have a3 : nI (60 * k + 5 * c) + 3 = nI (60 * k + 5 * c + 3) := nI_add (60 * k + 5 * c) 3
    have a4 : nI (60 * k + 5 * c) + 4 = nI (60 * k + 5 * c + 4) := nI_add (60 * k + 5 * c) 4
    have c0 : (nI (60 * k + 5 * c)).toNatClampNeg = 60 * k + 5 * c := nI_clamp (by omega)
    have c3 : (nI (60 * k + 5 * c + 3)).toNatClampNeg = 60 * k + 5 * c + 3 := nI_clamp (by omega)
    have c4 : (nI (60 * k + 5 * c + 4)).toNatClampNeg = 60 * k + 5 * c + 4 := nI_clamp (by omega)
    obtain ⟨b, mm, e, h2, h3, h4, hbm, hme, heN, hcase⟩ := hcl c (by omega)
    have eA : lX2_lookClause_3 zw nR zR zd x6 (n + 1) z2 (nI c) = (if nI mm ≤ nI b then lX2_lookClause_3 zw nR zR zd x6 n z2 (nI (c + 1)) else if nI mm = nI e then some (nI c, z2) else bd2 (fX2_reckon z2 nR (gT zR 0) zw zd (nI mm) (nI e) x6) (fun r15 z16 => if r15 = 0 then lX2_lookClause_3 zw nR zR zd x6 n z16 (nI (c + 1)) else some (nI c, z16))) := by
      rw [lX2_lookClause_3, hC, if_neg (nI_ge (by omega) (by omega)), bd_eq (at_k ci (by omega) (by decide)), bd_eq (at_k ci (by omega) (by decide)), bd_eq (at_k ci (by omega) (by decide)), h2, h3, h4, nI_1]
      simp only [jn]
      by_cases q : nI mm ≤ nI b
      · rw [if_pos q, if_pos q, if_pos trivial]
      · rw [if_neg q, if_neg q, if_neg one0]
    have eB : lX9_clauseFor_7 (nI k) (m + 1) y9 (nI c) = (if gT z9 5 (60 * k + 5 * c) = 0 then (if gT z9 5 (60 * k + 5 * c + 3) < 0 then some (nI (60 * k + 5 * c), y9) else bd2 (fX9_reckons y9 (nI k) (gT z9 5 (60 * k + 5 * c + 3)) (gT z9 5 (60 * k + 5 * c + 4))) (fun r13 z14 => if r13 = 1 then some (nI (60 * k + 5 * c), z14) else lX9_clauseFor_7 (nI k) m z14 (nI (c + 1)))) else lX9_clauseFor_7 (nI k) m y9 (nI (c + 1))) := by
      rw [lX9_clauseFor_7, gd_pos ik, ck, t6, if_neg (nI_ge (by omega) (by omega)), e5, gd_pos (in_n (by omega) (by omega)), c0, t5, nI_1]
      simp only [jn]
      by_cases q : gT z9 5 (60 * k + 5 * c) = 0
      · rw [if_pos q, if_pos q, a3, a4, gd_pos (in_n (by omega) (by omega)), c3]
        by_cases r : gT z9 5 (60 * k + 5 * c + 3) < 0
        · rw [if_pos r, if_pos r]
        · rw [if_neg r, if_neg r, gd_pos (in_n (by omega) (by omega)), c4]
      · rw [if_neg q, if_neg q]
    rw [eA, eB]
    have hWy : ∀ y : Sx, FrL [21, 22] y9 y → ∀ w : Nat, w < 9 → gJ y 23 w = v w := fun y hy w hw => by rw [(hy 23 (by decide)).2.2]; exact hV w hw
    have hcmy : ∀ i : Nat, i < nR → CM (gT zR 0 i) (gT y9 3 (400 * k + i)) := fun i hi => by rw [(hf 3 (by decide)).2.1]; exact hcm i hi
    rcases hcase with ⟨k0, kb, k1, k2, ksg, hc3⟩ | ⟨k0, kb, k3, k4, klt, ksg⟩
    · rw [if_neg (nI_ge kb (by omega)), if_pos k0]
      rcases hc3 with ⟨m1, m2⟩ | ⟨m1, m2, m3, m4⟩
      · rw [m2, if_pos rfl, if_pos (show gT z9 5 (60 * k + 5 * c + 3) < 0 by rw [m1]; decide)]
        exact ⟨nI c, nI (60 * k + 5 * c), z2, y9, rfl, rfl, hf, Or.inr ⟨c, by omega, rfl, rfl, k0⟩⟩
      · rw [if_neg (fun q => by have := (nI_eq (by omega) (by omega)).1 q; omega), m1, m2, if_neg (nI_pos (by omega))]
        obtain ⟨r, y2, w9, r1, r2, r3, r4⟩ := seg_both (z2 := z2) (z9 := y9) (k := k) (zw := zw) (zd := zd) (x6 := x6) m4 (by omega) heN hn hk hcmy hW hV
        rw [bd2_eq r2, bd2_eq r3]
        rcases r1 with rfl | rfl
        · rw [if_pos rfl, if_neg (by decide)]
          exact ih (c + 1) n m y2 w9 (by omega) (by omega) (by omega) (by omega) (fr_tr hf r4 (by decide)) (hWy w9 r4)
        · rw [if_neg (by decide), if_pos rfl]
          exact ⟨nI c, nI (60 * k + 5 * c), y2, w9, rfl, rfl, fr_tr hf r4 (by decide), Or.inr ⟨c, by omega, rfl, rfl, k0⟩⟩
    · rw [kb, if_pos (nI_le (Nat.le_refl _) (by omega)), if_neg (by rw [k0]; decide)]
      exact ih (c + 1) n m z2 y9 (by omega) (by omega) (by omega) (by omega) hf hV
/-- whether one stops -/
theorem stops_k (hR : RREL nR zR z9 k) (hW : ∀ w : Nat, w < 9 → fX2_wordOf zw zd (nI (312 + w)) x6 = some (v w)) {C : Nat} (hC : gI zR 1 = nI C) (hC12 : C ≤ 12) : ∀ (g c n m : Nat) (z2 y9 : Sx), C - c = g → c ≤ C → g < n → g < m → FrL [21, 22] z9 y9 → (∀ w : Nat, w < 9 → gJ y9 23 w = v w) → ∃ r w2 w9, (r = 0 ∨ r = 1) ∧ lX2_stopsAt_3 zw nR zR zd x6 n z2 (nI c) = some (r, w2) ∧ lX9_stops_7 (nI k) m y9 (nI c) = some (r, w9) ∧ FrL [21, 22] z9 w9 := by
  intro g
  obtain ⟨hk, hn, hcm, C2, hC2, q1, q2, hcl⟩ := id hR
  have eC : C2 = C := (nI_eq (by omega) (by omega)).1 (q1.symm.trans hC)
  subst eC
  have ik : inb (nI k) 6 := in_n hk (by omega)
  have ck : (nI k).toNatClampNeg = k := nI_clamp (by omega)
  induction g with
  | zero =>
    intro c n m z2 y9 hg hc hn2 hm hf hV
    obtain ⟨n, rfl⟩ : ∃ j, n = j + 1 := ⟨n - 1, by omega⟩
    obtain ⟨m, rfl⟩ : ∃ j, m = j + 1 := ⟨m - 1, by omega⟩
    have t6 : gT y9 6 k = nI C2 := by rw [(hf 6 (by decide)).2.1]; exact q2
    refine ⟨0, z2, y9, Or.inl rfl, ?_, ?_, hf⟩
    · rw [lX2_stopsAt_3, hC, if_pos (nI_le (by omega) (by omega))]
    · rw [lX9_stops_7, gd_pos ik, ck, t6, if_pos (nI_le (by omega) (by omega))]
  | succ g ih =>
    intro c n m z2 y9 hg hc hn2 hm hf hV
    obtain ⟨n, rfl⟩ : ∃ j, n = j + 1 := ⟨n - 1, by omega⟩
    obtain ⟨m, rfl⟩ : ∃ j, m = j + 1 := ⟨m - 1, by omega⟩
    have t6 : gT y9 6 k = nI C2 := by rw [(hf 6 (by decide)).2.1]; exact q2
    have t5 : gT y9 5 = gT z9 5 := (hf 5 (by decide)).2.1
    have ci : (nI c).toInt = c := nI_toInt (by omega)
    have e5 := i60 (k := k) (c := c) hk (by omega)
    have a3 : nI (60 * k + 5 * c) + 3 = nI (60 * k + 5 * c + 3) := nI_add (60 * k + 5 * c) 3
    have a4 : nI (60 * k + 5 * c) + 4 = nI (60 * k + 5 * c + 4) := nI_add (60 * k + 5 * c) 4
    have c0 : (nI (60 * k + 5 * c)).toNatClampNeg = 60 * k + 5 * c := nI_clamp (by omega)
    have c3 : (nI (60 * k + 5 * c + 3)).toNatClampNeg = 60 * k + 5 * c + 3 := nI_clamp (by omega)
    have c4 : (nI (60 * k + 5 * c + 4)).toNatClampNeg = 60 * k + 5 * c + 4 := nI_clamp (by omega)
    obtain ⟨b, mm, e, h2, h3, h4, hbm, hme, heN, hcase⟩ := hcl c (by omega)
    have eA : lX2_stopsAt_3 zw nR zR zd x6 (n + 1) z2 (nI c) = (if nI b = nI mm then bd2 (fX2_reckon z2 nR (gT zR 0) zw zd (nI mm) (nI e) x6) (fun r14 z15 => if r14 = 0 then lX2_stopsAt_3 zw nR zR zd x6 n z15 (nI (c + 1)) else some (1, z15)) else lX2_stopsAt_3 zw nR zR zd x6 n z2 (nI (c + 1))) := by
      rw [lX2_stopsAt_3, hC, if_neg (nI_ge (by omega) (by omega)), bd_eq (at_k ci (by omega) (by decide)), bd_eq (at_k ci (by omega) (by decide)), h2, h3, nI_1]
      simp only [jn]
      by_cases q : nI b = nI mm
      · rw [if_pos q, if_pos q, if_neg one0, bd_eq (at_k ci (by omega) (by decide)), h4]
      · rw [if_neg q, if_neg q, if_pos trivial]
    have eB : lX9_stops_7 (nI k) (m + 1) y9 (nI c) = (if gT z9 5 (60 * k + 5 * c) = 1 then bd2 (fX9_reckons y9 (nI k) (gT z9 5 (60 * k + 5 * c + 3)) (gT z9 5 (60 * k + 5 * c + 4))) (fun r12 z13 => if r12 = 1 then some (1, z13) else lX9_stops_7 (nI k) m z13 (nI (c + 1))) else lX9_stops_7 (nI k) m y9 (nI (c + 1))) := by
      rw [lX9_stops_7, gd_pos ik, ck, t6, if_neg (nI_ge (by omega) (by omega)), e5, gd_pos (in_n (by omega) (by omega)), c0, t5, nI_1]
      simp only [jn]
      by_cases q : gT z9 5 (60 * k + 5 * c) = 1
      · rw [if_pos q, if_pos q, a3, a4, gd_pos (in_n (by omega) (by omega)), gd_pos (in_n (by omega) (by omega)), c3, c4]
      · rw [if_neg q, if_neg q]
    rw [eA, eB]
    have hWy : ∀ y : Sx, FrL [21, 22] y9 y → ∀ w : Nat, w < 9 → gJ y 23 w = v w := fun y hy w hw => by rw [(hy 23 (by decide)).2.2]; exact hV w hw
    have hcmy : ∀ i : Nat, i < nR → CM (gT zR 0 i) (gT y9 3 (400 * k + i)) := fun i hi => by rw [(hf 3 (by decide)).2.1]; exact hcm i hi
    rcases hcase with ⟨k0, kb, k1, k2, ksg, hc3⟩ | ⟨k0, kb, k3, k4, klt, ksg⟩
    · rw [if_neg (fun q => by have := (nI_eq (by omega) (by omega)).1 q; omega), if_neg (by rw [k0]; decide)]
      exact ih (c + 1) n m z2 y9 (by omega) (by omega) (by omega) (by omega) hf hV
    · rw [if_pos (by rw [kb]), if_pos k0, k3, k4]
      obtain ⟨r, y2, w9, r1, r2, r3, r4⟩ := seg_both (z2 := z2) (z9 := y9) (k := k) (zw := zw) (zd := zd) (x6 := x6) ksg (by omega) heN hn hk hcmy hW hV
      rw [bd2_eq r2, bd2_eq r3]
      rcases r1 with rfl | rfl
      · rw [if_pos rfl, if_neg (by decide)]
        exact ih (c + 1) n m y2 w9 (by omega) (by omega) (by omega) (by omega) (fr_tr hf r4 (by decide)) (hWy w9 r4)
      · rw [if_neg (by decide), if_pos rfl]
        exact ⟨1, y2, w9, Or.inr rfl, rfl, rfl, fr_tr hf r4 (by decide)⟩
end S12

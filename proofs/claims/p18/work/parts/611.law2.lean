/-! What the law keeps between two calls: the class's objects, the reference's, the lists of WORKs, RULEs and images. -/
abbrev WT : Type := Nat × (Nat → Nat) × Sx
abbrev RT : Type := Nat × (Nat → Nat) × Nat × Sx
abbrev IT : Type := Nat × (Nat → Nat) × Sx × (Nat → Nat) × Sx
def F7 (a : Nat → ClassId) (x : WT) : va_W := rc7 a x.1 x.2.1 x.2.2
def F3 (a : Nat → ClassId) (x : RT) : va_W := rc3 a x.1 x.2.1 x.2.2.1 x.2.2.2
def F5 (a : Nat → ClassId) (x : IT) : va_W := rc5 a x.1 x.2.1 x.2.2.1 ++ rc0 a (x.2.1 1) x.2.2.2.1 x.2.2.2.2
def WO (a : Nat → ClassId) (q8 q9 : Nat) (Q8 : Nat → Nat) (z8 : Sx) (B2 : Nat → Option Nat) (B6 : Nat → Option Nat) (Q5 : Nat → Nat) (z5 : Sx) (Qd : Nat → Nat) (zd : Sx) (Qt : Nat → Nat) (zt : Sx) (Q4 : Nat → Nat) (z4 : Sx) (Q6 : Nat → Nat) (z6 : Sx) (Q2 : Nat → Nat) (z2 : Sx) (Q1 : Nat → Nat) (z1 : Sx) (Q9 : Nat → Nat) (z9 : Sx) (wk : List WT) (ru : List RT) (im : List IT) : va_W := rc8 a q8 Q8 z8 ++ (rb4 a (Q8 2) 6 B2 ++ (rb5 a (Q8 6) 4 B6 ++ (rc5 a (Q8 5) Q5 z5 ++ (rc0 a (Q5 1) Qd zd ++ (rc0 a (Q8 7) Qt zt ++ (rc4 a (Q8 8) Q4 z4 ++ (rc6 a (Q4 0) Q6 z6 ++ (rc2 a (Q8 9) Q2 z2 ++ (rc1 a (Q8 10) Q1 z1 ++ (rc9 a q9 Q9 z9 ++ (wk.flatMap (F7 a) ++ (ru.flatMap (F3 a) ++ (im.flatMap (F5 a))))))))))))))
def LI (B2 B6 : Nat → Option Nat) (Q5 : Nat → Nat) (z9 : Sx) (wk : List WT) (ru : List RT) (im : List IT) : Prop := (∃ x ∈ wk, x.1 = Q5 0) ∧ (∀ x ∈ wk, 0 ≤ (gI x.2.2 3).toInt ∧ (gI x.2.2 3).toInt ≤ 10) ∧ (∀ (k q : Nat), B2 k = some q → ∃ x ∈ ru, x.1 = q) ∧ (∀ x ∈ ru, x.2.2.1 < 2147483648) ∧ (∀ (k q : Nat), B6 k = some q → ∃ x ∈ im, x.1 = q) ∧ (∀ x ∈ im, ∃ y ∈ wk, y.1 = x.2.1 0) ∧ RI z9
abbrev CT : Type := (Nat → Option Nat) → (Nat → Option Nat) → (Nat → Nat) → Sx → Sx → Sx → Sx → Sx → List WT → List RT → List IT → Prop
def Gd (a : Nat → ClassId) (q8 q9 : Nat) (J : CT) (w : va_W) : Prop := ∃ (Q8 : Nat → Nat) (z8 : Sx) (B2 : Nat → Option Nat) (B6 : Nat → Option Nat) (Q5 : Nat → Nat) (z5 : Sx) (Qd : Nat → Nat) (zd : Sx) (Qt : Nat → Nat) (zt : Sx) (Q4 : Nat → Nat) (z4 : Sx) (Q6 : Nat → Nat) (z6 : Sx) (Q2 : Nat → Nat) (z2 : Sx) (Q1 : Nat → Nat) (z1 : Sx) (Q9 : Nat → Nat) (z9 : Sx) (wk : List WT) (ru : List RT) (im : List IT), w = WO a q8 q9 Q8 z8 B2 B6 Q5 z5 Qd zd Qt zt Q4 z4 Q6 z6 Q2 z2 Q1 z1 Q9 z9 wk ru im ∧ LI B2 B6 Q5 z9 wk ru im ∧ J B2 B6 Q5 z8 z5 zd z1 z9 wk ru im
theorem gd_imp {a : Nat → ClassId} {q8 q9 : Nat} {J J1 : CT} {w : va_W} (h : ∀ B2 B6 Q5 z8 z5 zd z1 z9 wk ru im, J B2 B6 Q5 z8 z5 zd z1 z9 wk ru im → J1 B2 B6 Q5 z8 z5 zd z1 z9 wk ru im) (hG : Gd a q8 q9 J w) : Gd a q8 q9 J1 w := by
  obtain ⟨Q8, z8, B2, B6, Q5, z5, Qd, zd, Qt, zt, Q4, z4, Q6, z6, Q2, z2, Q1, z1, Q9, z9, wk, ru, im, e, hI, hJ⟩ := hG
  exact ⟨Q8, z8, B2, B6, Q5, z5, Qd, zd, Qt, zt, Q4, z4, Q6, z6, Q2, z2, Q1, z1, Q9, z9, wk, ru, im, e, hI, h _ _ _ _ _ _ _ _ _ _ _ hJ⟩
section LIS
variable {B2 B6 : Nat → Option Nat} {Q5 : Nat → Nat} {z9 : Sx} {wk : List WT} {ru : List RT} {im : List IT}
theorem li_9 {z : Sx} (h : LI B2 B6 Q5 z9 wk ru im) (hR : RI z) : LI B2 B6 Q5 z wk ru im := ⟨h.1, h.2.1, h.2.2.1, h.2.2.2.1, h.2.2.2.2.1, h.2.2.2.2.2.1, hR⟩
theorem up0 {Q : Nat → Nat} {v : Nat} : va_up Q 0 v 0 = v := va_up_self Q 0 v
theorem li_work {qn : Nat} {Qn : Nat → Nat} {zn : Sx} (h : LI B2 B6 Q5 z9 wk ru im) (h3 : 0 ≤ (gI zn 3).toInt ∧ (gI zn 3).toInt ≤ 10) : LI B2 B6 (va_up Q5 0 qn) z9 ((qn, Qn, zn) :: wk) ru im := by
  obtain ⟨h1, h2, g3, h4, h5, h6, h7⟩ := h
  refine ⟨⟨(qn, Qn, zn), List.mem_cons_self, up0.symm⟩, fun x hx => ?_, g3, h4, h5, fun x hx => ?_, h7⟩
  · rcases List.mem_cons.1 hx with rfl | hx
    · exact h3
    · exact h2 x hx
  · obtain ⟨y, hy, e⟩ := h6 x hx
    exact ⟨y, List.mem_cons_of_mem _ hy, e⟩
theorem li_rule {k qn : Nat} {Qn : Nat → Nat} {zz zn : Sx} (h : LI B2 B6 Q5 z9 wk ru im) : LI (va_up B2 k (some qn)) B6 Q5 z9 wk ((qn, Qn, ruleN zz, zn) :: ru) im := by
  obtain ⟨h1, h2, g3, h4, h5, h6, h7⟩ := h
  refine ⟨h1, h2, fun j q hj => ?_, fun x hx => ?_, h5, h6, h7⟩
  · by_cases e : j = k
    · subst e
      rw [va_up_self] at hj
      exact ⟨_, List.mem_cons_self, Option.some.inj hj⟩
    · rw [va_up_ne _ _ e] at hj
      obtain ⟨x, hx, e⟩ := g3 j q hj
      exact ⟨x, List.mem_cons_of_mem _ hx, e⟩
  · rcases List.mem_cons.1 hx with rfl | hx
    · have hz := (rule_sz (gI zz 2)).2
      show ruleN zz < 2147483648
      unfold ruleN
      omega
    · exact h4 x hx
theorem li_image {k qn : Nat} {Qn Qe : Nat → Nat} {zn ze : Sx} (h : LI B2 B6 Q5 z9 wk ru im) : LI B2 (va_up B6 k (some qn)) Q5 z9 wk ru ((qn, va_up Qn 0 (Q5 0), zn, Qe, ze) :: im) := by
  obtain ⟨h1, h2, g3, h4, h5, h6, h7⟩ := h
  refine ⟨h1, h2, g3, h4, fun j q hj => ?_, fun x hx => ?_, h7⟩
  · by_cases e : j = k
    · subst e
      rw [va_up_self] at hj
      exact ⟨_, List.mem_cons_self, Option.some.inj hj⟩
    · rw [va_up_ne _ _ e] at hj
      obtain ⟨x, hx, e⟩ := h5 j q hj
      exact ⟨x, List.mem_cons_of_mem _ hx, e⟩
  · rcases List.mem_cons.1 hx with rfl | hx
    · obtain ⟨y, hy, e⟩ := h1
      exact ⟨y, hy, e.trans (up0 (Q := Qn) (v := Q5 0)).symm⟩
    · exact h6 x hx
theorem li_image2 {qR : Nat} {QR QE Qn : Nat → Nat} {zR zE zn ze : Sx} {imr : List IT} (h : LI B2 B6 Q5 z9 wk ru im) (him : (qR, QR, zR, QE, zE) ∈ im) (hi1 : ∀ y ∈ imr, y ∈ im) (hi2 : ∀ y ∈ im, y = (qR, QR, zR, QE, zE) ∨ y ∈ imr) : LI B2 B6 Q5 z9 wk ru ((qR, va_up QR 0 (Q5 0), zn, Qn, ze) :: imr) := by
  obtain ⟨h1, h2, g3, h4, h5, h6, h7⟩ := h
  refine ⟨h1, h2, g3, h4, fun j q hj => ?_, fun x hx => ?_, h7⟩
  · obtain ⟨x, hx, e⟩ := h5 j q hj
    rcases hi2 x hx with rfl | hx
    · exact ⟨_, List.mem_cons_self, e⟩
    · exact ⟨x, List.mem_cons_of_mem _ hx, e⟩
  · rcases List.mem_cons.1 hx with rfl | hx
    · obtain ⟨y, hy, e⟩ := h1
      exact ⟨y, hy, e.trans (up0 (Q := QR) (v := Q5 0)).symm⟩
    · exact h6 x (hi1 x hx)
theorem li_back {qR : Nat} {QR QE : Nat → Nat} {zR zE : Sx} (h : LI B2 B6 Q5 z9 wk ru im) (him : (qR, QR, zR, QE, zE) ∈ im) : LI B2 B6 (va_up Q5 0 (QR 0)) z9 wk ru im := by
  obtain ⟨h1, h2, g3, h4, h5, h6, h7⟩ := h
  obtain ⟨y, hy, e⟩ := h6 _ him
  exact ⟨⟨y, hy, e.trans up0.symm⟩, h2, g3, h4, h5, h6, h7⟩
end LIS
theorem rfw {z : Sx} {B : Nat → Option Nat} {z5 zw : Sx} {x1 : Int32} {q : Nat} (h : fX8_ruleForWork z B z5 zw x1 = some (some q)) : B x1.toNatClampNeg = some q := by
  have e0 : (if (0 : Int32) = 0 then some none else gd (inb x1 6) (some (B x1.toNatClampNeg))) ≠ some (some q) := by
    rw [if_pos rfl]; intro h; cases h
  have e1 : (if (1 : Int32) = 0 then some none else gd (inb x1 6) (some (B x1.toNatClampNeg))) = some (some q) → B x1.toNatClampNeg = some q := by
    rw [if_neg (by decide)]; intro h; exact Option.some.inj (gd_some h).2
  unfold fX8_ruleForWork at h
  simp only [jn] at h
  by_cases c1 : x1 < 0
  · rw [if_pos c1] at h; exact absurd h e0
  rw [if_neg c1] at h
  by_cases c2 : gI z 3 ≤ x1
  · rw [if_pos c2] at h; exact absurd h e0
  rw [if_neg c2] at h
  by_cases c3 : (6 : Int32) ≤ x1
  · rw [if_pos c3] at h; exact absurd h e0
  rw [if_neg c3] at h
  obtain ⟨r, -, h⟩ := bd_some h
  by_cases c4 : r = 0
  · rw [if_pos c4] at h; exact absurd h e0
  rw [if_neg c4] at h
  exact e1 h
theorem ix_s {n k L : Nat} (hn : 6 * n + 6 ≤ L) (hL : L ≤ 3072) (hk : k < 6) : IX (nI (6 * n) + nI k) (6 * n + k) L := by
  rw [nI_add]; exact ⟨nI_clamp (by omega), nI_pos (by omega), by omega⟩
theorem ix_s0 {n L : Nat} (hn : 6 * n + 6 ≤ L) (hL : L ≤ 3072) : IX (nI (6 * n)) (6 * n) L := ⟨nI_clamp (by omega), nI_pos (by omega), by omega⟩
theorem ix_s1 {n L : Nat} (hn : 6 * n + 6 ≤ L) (hL : L ≤ 3072) : IX (nI (6 * n) + 1) (6 * n + 1) L := ix_s (k := 1) hn hL (by decide)
theorem ix_s2 {n L : Nat} (hn : 6 * n + 6 ≤ L) (hL : L ≤ 3072) : IX (nI (6 * n) + 2) (6 * n + 2) L := ix_s (k := 2) hn hL (by decide)
theorem ix_s3 {n L : Nat} (hn : 6 * n + 6 ≤ L) (hL : L ≤ 3072) : IX (nI (6 * n) + 3) (6 * n + 3) L := ix_s (k := 3) hn hL (by decide)
theorem ix_s4 {n L : Nat} (hn : 6 * n + 6 ≤ L) (hL : L ≤ 3072) : IX (nI (6 * n) + 4) (6 * n + 4) L := ix_s (k := 4) hn hL (by decide)
theorem ix_s5 {n L : Nat} (hn : 6 * n + 6 ≤ L) (hL : L ≤ 3072) : IX (nI (6 * n) + 5) (6 * n + 5) L := ix_s (k := 5) hn hL (by decide)
theorem ck_last {x1 x2 : Int32} (h0 : x2.toInt ≥ 0) (h1 : x2.toInt ≤ 9999) : x1 * (100 - 100) ≤ x2 * 100 := by
  have e0 : x1 * (100 - 100) = 0 := by
    have : (100 - 100 : Int32) = 0 := by decide
    rw [this, Int32.mul_zero]
  rw [e0, i32_le, Int32.toInt_mul]
  have e1 : (100 : Int32).toInt = 100 := by decide
  have e2 : (0 : Int32).toInt = 0 := by decide
  rw [e1, e2]
  have : (x2.toInt * 100).bmod (2 ^ 32) = x2.toInt * 100 := Int.bmod_eq_of_le (by omega) (by omega)
  omega
theorem ck_loops {x1 x2 : Int32} (h0 : x2.toInt ≥ 0) (h1 : x2.toInt ≤ 9999) : ∀ (n : Nat) (x3 : Int32), 0 ≤ x3.toInt → x3.toInt ≤ 100 → lX8_checks_26 x1 x2 n x3 = lX9_checks_28 x1 x2 n x3 := by
  intro n
  induction n with
  | zero => intro x3 _ _; rfl
  | succ n ih =>
    intro x3 h2 h3
    have e1 : (100 : Int32).toInt = 100 := by decide
    rw [lX8_checks_26, lX9_checks_28]
    by_cases c1 : (100 : Int32) ≤ x3
    · have c1i := bI_le e1 rfl c1
      have e : x3 = 100 := Int32.toInt_inj.1 (by omega)
      subst e
      rw [if_pos c1, if_pos (ck_last h0 h1)]
    · have c1i := bI_nle e1 rfl c1
      have e4 : (x3 + 1).toInt = x3.toInt + 1 := i32_add rfl (show (1 : Int32).toInt = 1 by decide) (by omega) (by omega)
      rw [if_neg c1]
      by_cases c2 : x1 * (100 - x3) ≤ x2 * x3
      · rw [if_pos c2, if_pos c2]
      · rw [if_neg c2, if_neg c2]
        exact ih (x3 + 1) (by omega) (by omega)
theorem in_9999 (x : Int32) : fX9_in x.toInt64 0 9999 = some (if x < 0 then 0 else if 9999 < x then 0 else 1) := by
  have e0 : (0 : Int64).toInt = 0 := by decide
  have e9 : (9999 : Int64).toInt = 9999 := by decide
  have f0 : (0 : Int32).toInt = 0 := by decide
  have f9 : (9999 : Int32).toInt = 9999 := by decide
  unfold fX9_in
  by_cases c1 : x < 0
  · have c1i := bI_lt rfl f0 c1
    rw [if_pos c1, if_pos ((i64_lt _ _).2 (by rw [Int32.toInt_toInt64, e0]; exact c1i))]
  · have c1i := bI_nlt rfl f0 c1
    rw [if_neg c1, if_neg (fun h => by have := (i64_lt _ _).1 h; rw [Int32.toInt_toInt64, e0] at this; omega)]
    by_cases c2 : 9999 < x
    · have c2i := bI_lt f9 rfl c2
      rw [if_pos c2, if_pos ((i64_lt _ _).2 (by rw [Int32.toInt_toInt64, e9]; exact c2i))]
    · have c2i := bI_nlt f9 rfl c2
      rw [if_neg c2, if_neg (fun h => by have := (i64_lt _ _).1 h; rw [Int32.toInt_toInt64, e9] at this; omega)]
theorem checks_fn (x1 x2 : Int32) : fX8_checks x1 x2 = fX9_checks x1 x2 := by
  have f0 : (0 : Int32).toInt = 0 := by decide
  have f9 : (9999 : Int32).toInt = 9999 := by decide
  unfold fX8_checks fX9_checks
  rw [bd_eq (in_9999 x1)]
  by_cases c1 : x1 < 0
  · rw [if_pos c1, if_pos c1, if_pos rfl]
  rw [if_neg c1, if_neg c1]
  by_cases c2 : 9999 < x1
  · rw [if_pos c2, if_pos c2, if_pos rfl]
  rw [if_neg c2, if_neg c2, if_neg (show ¬ (1 : Int32) = 0 by decide), bd_eq (in_9999 x2)]
  by_cases c3 : x2 < 0
  · rw [if_pos c3, if_pos c3, if_pos rfl]
  rw [if_neg c3, if_neg c3]
  have c3i := bI_nlt rfl f0 c3
  by_cases c4 : 9999 < x2
  · have c4i := bI_lt f9 rfl c4
    rw [if_pos c4, if_pos (show (0 : Int32) = 0 from rfl), if_neg (show ¬ x2 ≤ 9999 from fun h => by have := bI_le rfl f9 h; omega)]
  · have c4i := bI_nlt f9 rfl c4
    rw [if_neg c4, if_neg (show ¬ (1 : Int32) = 0 by decide), if_pos ((i32_le _ _).2 (show x2.toInt ≤ (9999 : Int32).toInt by omega))]
    exact ck_loops (by omega) (by omega) FU 0 (by omega) (by omega)
theorem checks_eq {x1 x2 r8 r9 : Int32} (h8 : fX8_checks x1 x2 = some r8) (h9 : fX9_checks x1 x2 = some r9) : r8 = r9 := by
  rw [checks_fn, h9] at h8; exact (Option.some.inj h8).symm
theorem recv8 {s : State} {H : Heap} {D : va_G} {a : Nat → ClassId} {q8 q9 : Nat} {Q8 : Nat → Nat} {z8 : Sx} {B2 : Nat → Option Nat} {B6 : Nat → Option Nat} {Q5 : Nat → Nat} {z5 : Sx} {Qd : Nat → Nat} {zd : Sx} {Qt : Nat → Nat} {zt : Sx} {Q4 : Nat → Nat} {z4 : Sx} {Q6 : Nat → Nat} {z6 : Sx} {Q2 : Nat → Nat} {z2 : Sx} {Q1 : Nat → Nat} {z1 : Sx} {Q9 : Nat → Nat} {z9 : Sx} {wk : List WT} {ru : List RT} {im : List IT} (hK : KK D a s) (hP : va_P D classes (WO a q8 q9 Q8 z8 B2 B6 Q5 z5 Qd zd Qt zt Q4 z4 Q6 z6 Q2 z2 Q1 z1 Q9 z9 wk ru im) H) : ∃ cell : Cell, H[q8]? = some cell ∧ cell.vm.isStatics = false ∧ s.vm.findClass RX8 = some cell.cls := recvOf hK hP 0 rfl (ci := 8) rfl
theorem recv9 {s : State} {H : Heap} {D : va_G} {a : Nat → ClassId} {q8 q9 : Nat} {Q8 : Nat → Nat} {z8 : Sx} {B2 : Nat → Option Nat} {B6 : Nat → Option Nat} {Q5 : Nat → Nat} {z5 : Sx} {Qd : Nat → Nat} {zd : Sx} {Qt : Nat → Nat} {zt : Sx} {Q4 : Nat → Nat} {z4 : Sx} {Q6 : Nat → Nat} {z6 : Sx} {Q2 : Nat → Nat} {z2 : Sx} {Q1 : Nat → Nat} {z1 : Sx} {Q9 : Nat → Nat} {z9 : Sx} {wk : List WT} {ru : List RT} {im : List IT} (hK : KK D a s) (hP : va_P D classes (WO a q8 q9 Q8 z8 B2 B6 Q5 z5 Qd zd Qt zt Q4 z4 Q6 z6 Q2 z2 Q1 z1 Q9 z9 wk ru im) H) : ∃ cell : Cell, H[q9]? = some cell ∧ cell.vm.isStatics = false ∧ s.vm.findClass RX9 = some cell.cls := recvOf hK hP 25 rfl (ci := 9) rfl
theorem fm_nd {a : Nat → ClassId} : ∀ {l : List IT}, ((l.flatMap (F5 a)).map Prod.fst).Nodup → ∀ x ∈ l, ∀ y ∈ l, x.1 = y.1 → x = y
  | [], _, x, hx, _, _, _ => by cases hx
  | n :: l, h, x, hx, y, hy, e => by
    rw [List.flatMap_cons, List.map_append, List.nodup_append] at h
    have hin : ∀ v : IT, v ∈ l → v.1 ∈ (l.flatMap (F5 a)).map Prod.fst := fun v hv => List.mem_map.2 ⟨_, List.mem_flatMap.2 ⟨v, hv, List.mem_cons_self⟩, rfl⟩
    have hn : n.1 ∈ (F5 a n).map Prod.fst := List.mem_cons_self
    rcases List.mem_cons.1 hx with h1 | h1 <;> rcases List.mem_cons.1 hy with h2 | h2
    · rw [h1, h2]
    · rw [h1] at e; exact absurd e (h.2.2 _ hn _ (hin y h2))
    · rw [h2] at e; exact absurd e.symm (h.2.2 _ hn _ (hin x h1))
    · exact fm_nd h.2.1 x h1 y h2 e
theorem nd_im {A : Nat → Prop} {a : Nat → ClassId} {q8 q9 : Nat} {Q8 : Nat → Nat} {z8 : Sx} {B2 : Nat → Option Nat} {B6 : Nat → Option Nat} {Q5 : Nat → Nat} {z5 : Sx} {Qd : Nat → Nat} {zd : Sx} {Qt : Nat → Nat} {zt : Sx} {Q4 : Nat → Nat} {z4 : Sx} {Q6 : Nat → Nat} {z6 : Sx} {Q2 : Nat → Nat} {z2 : Sx} {Q1 : Nat → Nat} {z1 : Sx} {Q9 : Nat → Nat} {z9 : Sx} {wk : List WT} {ru : List RT} {im : List IT} (hD : va_D A (WO a q8 q9 Q8 z8 B2 B6 Q5 z5 Qd zd Qt zt Q4 z4 Q6 z6 Q2 z2 Q1 z1 Q9 z9 wk ru im)) : ((im.flatMap (F5 a)).map Prod.fst).Nodup := by
  have hs : (im.flatMap (F5 a)).Sublist (WO a q8 q9 Q8 z8 B2 B6 Q5 z5 Qd zd Qt zt Q4 z4 Q6 z6 Q2 z2 Q1 z1 Q9 z9 wk ru im) := (List.sublist_append_right _ _).trans ((List.sublist_append_right _ _).trans ((List.sublist_append_right _ _).trans ((List.sublist_append_right _ _).trans ((List.sublist_append_right _ _).trans ((List.sublist_append_right _ _).trans ((List.sublist_append_right _ _).trans ((List.sublist_append_right _ _).trans ((List.sublist_append_right _ _).trans ((List.sublist_append_right _ _).trans ((List.sublist_append_right _ _).trans ((List.sublist_append_right _ _).trans (List.sublist_append_right _ _))))))))))))
  exact (hs.map Prod.fst).nodup (nd_of_D hD)
theorem uniq_im {A : Nat → Prop} {a : Nat → ClassId} {q8 q9 : Nat} {Q8 : Nat → Nat} {z8 : Sx} {B2 : Nat → Option Nat} {B6 : Nat → Option Nat} {Q5 : Nat → Nat} {z5 : Sx} {Qd : Nat → Nat} {zd : Sx} {Qt : Nat → Nat} {zt : Sx} {Q4 : Nat → Nat} {z4 : Sx} {Q6 : Nat → Nat} {z6 : Sx} {Q2 : Nat → Nat} {z2 : Sx} {Q1 : Nat → Nat} {z1 : Sx} {Q9 : Nat → Nat} {z9 : Sx} {wk : List WT} {ru : List RT} {im : List IT} {v : IT} (hD : va_D A (WO a q8 q9 Q8 z8 B2 B6 Q5 z5 Qd zd Qt zt Q4 z4 Q6 z6 Q2 z2 Q1 z1 Q9 z9 wk ru im)) (hv : v ∈ im) : ∀ x ∈ im, x.1 = v.1 → x = v := fun x hx e => fm_nd (nd_im hD) x hx v hv e
theorem fresh_im {A : Nat → Prop} {a : Nat → ClassId} {q8 q9 : Nat} {Q8 : Nat → Nat} {z8 : Sx} {B2 : Nat → Option Nat} {B6 : Nat → Option Nat} {Q5 : Nat → Nat} {z5 : Sx} {Qd : Nat → Nat} {zd : Sx} {Qt : Nat → Nat} {zt : Sx} {Q4 : Nat → Nat} {z4 : Sx} {Q6 : Nat → Nat} {z6 : Sx} {Q2 : Nat → Nat} {z2 : Sx} {Q1 : Nat → Nat} {z1 : Sx} {Q9 : Nat → Nat} {z9 : Sx} {wk : List WT} {ru : List RT} {im : List IT} {v : IT} (hD : va_D A (WO a q8 q9 Q8 z8 B2 B6 Q5 z5 Qd zd Qt zt Q4 z4 Q6 z6 Q2 z2 Q1 z1 Q9 z9 wk ru (v :: im))) : ∀ x ∈ im, ¬ x.1 = v.1 := by
  have h := nd_im hD
  rw [List.flatMap_cons, List.map_append, List.nodup_append] at h
  intro x hx e
  have hn : v.1 ∈ (F5 a v).map Prod.fst := List.mem_cons_self
  exact h.2.2 _ hn _ (List.mem_map.2 ⟨_, List.mem_flatMap.2 ⟨x, hx, List.mem_cons_self⟩, rfl⟩) e.symm
theorem fw_nd {a : Nat → ClassId} : ∀ {l : List WT}, ((l.flatMap (F7 a)).map Prod.fst).Nodup → ∀ x ∈ l, ∀ y ∈ l, x.1 = y.1 → x = y
  | [], _, x, hx, _, _, _ => by cases hx
  | n :: l, h, x, hx, y, hy, e => by
    rw [List.flatMap_cons, List.map_append, List.nodup_append] at h
    have hin : ∀ v : WT, v ∈ l → v.1 ∈ (l.flatMap (F7 a)).map Prod.fst := fun v hv => List.mem_map.2 ⟨_, List.mem_flatMap.2 ⟨v, hv, List.mem_cons_self⟩, rfl⟩
    have hn : n.1 ∈ (F7 a n).map Prod.fst := List.mem_cons_self
    rcases List.mem_cons.1 hx with h1 | h1 <;> rcases List.mem_cons.1 hy with h2 | h2
    · rw [h1, h2]
    · rw [h1] at e; exact absurd e (h.2.2 _ hn _ (hin y h2))
    · rw [h2] at e; exact absurd e.symm (h.2.2 _ hn _ (hin x h1))
    · exact fw_nd h.2.1 x h1 y h2 e
theorem nd_wk {A : Nat → Prop} {a : Nat → ClassId} {q8 q9 : Nat} {Q8 : Nat → Nat} {z8 : Sx} {B2 : Nat → Option Nat} {B6 : Nat → Option Nat} {Q5 : Nat → Nat} {z5 : Sx} {Qd : Nat → Nat} {zd : Sx} {Qt : Nat → Nat} {zt : Sx} {Q4 : Nat → Nat} {z4 : Sx} {Q6 : Nat → Nat} {z6 : Sx} {Q2 : Nat → Nat} {z2 : Sx} {Q1 : Nat → Nat} {z1 : Sx} {Q9 : Nat → Nat} {z9 : Sx} {wk : List WT} {ru : List RT} {im : List IT} (hD : va_D A (WO a q8 q9 Q8 z8 B2 B6 Q5 z5 Qd zd Qt zt Q4 z4 Q6 z6 Q2 z2 Q1 z1 Q9 z9 wk ru im)) : ((wk.flatMap (F7 a)).map Prod.fst).Nodup := by
  have hs : (wk.flatMap (F7 a)).Sublist (WO a q8 q9 Q8 z8 B2 B6 Q5 z5 Qd zd Qt zt Q4 z4 Q6 z6 Q2 z2 Q1 z1 Q9 z9 wk ru im) := (List.sublist_append_left _ _).trans ((List.sublist_append_right _ _).trans ((List.sublist_append_right _ _).trans ((List.sublist_append_right _ _).trans ((List.sublist_append_right _ _).trans ((List.sublist_append_right _ _).trans ((List.sublist_append_right _ _).trans ((List.sublist_append_right _ _).trans ((List.sublist_append_right _ _).trans ((List.sublist_append_right _ _).trans ((List.sublist_append_right _ _).trans (List.sublist_append_right _ _)))))))))))
  exact (hs.map Prod.fst).nodup (nd_of_D hD)
theorem uniq_wk {A : Nat → Prop} {a : Nat → ClassId} {q8 q9 : Nat} {Q8 : Nat → Nat} {z8 : Sx} {B2 : Nat → Option Nat} {B6 : Nat → Option Nat} {Q5 : Nat → Nat} {z5 : Sx} {Qd : Nat → Nat} {zd : Sx} {Qt : Nat → Nat} {zt : Sx} {Q4 : Nat → Nat} {z4 : Sx} {Q6 : Nat → Nat} {z6 : Sx} {Q2 : Nat → Nat} {z2 : Sx} {Q1 : Nat → Nat} {z1 : Sx} {Q9 : Nat → Nat} {z9 : Sx} {wk : List WT} {ru : List RT} {im : List IT} {v : WT} (hD : va_D A (WO a q8 q9 Q8 z8 B2 B6 Q5 z5 Qd zd Qt zt Q4 z4 Q6 z6 Q2 z2 Q1 z1 Q9 z9 wk ru im)) (hv : v ∈ wk) : ∀ x ∈ wk, x.1 = v.1 → x = v := fun x hx e => fw_nd (nd_wk hD) x hx v hv e
theorem fresh_wk {A : Nat → Prop} {a : Nat → ClassId} {q8 q9 : Nat} {Q8 : Nat → Nat} {z8 : Sx} {B2 : Nat → Option Nat} {B6 : Nat → Option Nat} {Q5 : Nat → Nat} {z5 : Sx} {Qd : Nat → Nat} {zd : Sx} {Qt : Nat → Nat} {zt : Sx} {Q4 : Nat → Nat} {z4 : Sx} {Q6 : Nat → Nat} {z6 : Sx} {Q2 : Nat → Nat} {z2 : Sx} {Q1 : Nat → Nat} {z1 : Sx} {Q9 : Nat → Nat} {z9 : Sx} {wk : List WT} {ru : List RT} {im : List IT} {v : WT} (hD : va_D A (WO a q8 q9 Q8 z8 B2 B6 Q5 z5 Qd zd Qt zt Q4 z4 Q6 z6 Q2 z2 Q1 z1 Q9 z9 (v :: wk) ru im)) : ∀ x ∈ wk, ¬ x.1 = v.1 := by
  have h := nd_wk hD
  rw [List.flatMap_cons, List.map_append, List.nodup_append] at h
  intro x hx e
  have hn : v.1 ∈ (F7 a v).map Prod.fst := List.mem_cons_self
  exact h.2.2 _ hn _ (List.mem_map.2 ⟨_, List.mem_flatMap.2 ⟨x, hx, List.mem_cons_self⟩, rfl⟩) e.symm
theorem fr_nd {a : Nat → ClassId} : ∀ {l : List RT}, ((l.flatMap (F3 a)).map Prod.fst).Nodup → ∀ x ∈ l, ∀ y ∈ l, x.1 = y.1 → x = y
  | [], _, x, hx, _, _, _ => by cases hx
  | n :: l, h, x, hx, y, hy, e => by
    rw [List.flatMap_cons, List.map_append, List.nodup_append] at h
    have hin : ∀ v : RT, v ∈ l → v.1 ∈ (l.flatMap (F3 a)).map Prod.fst := fun v hv => List.mem_map.2 ⟨_, List.mem_flatMap.2 ⟨v, hv, List.mem_cons_self⟩, rfl⟩
    have hn : n.1 ∈ (F3 a n).map Prod.fst := List.mem_cons_self
    rcases List.mem_cons.1 hx with h1 | h1 <;> rcases List.mem_cons.1 hy with h2 | h2
    · rw [h1, h2]
    · rw [h1] at e; exact absurd e (h.2.2 _ hn _ (hin y h2))
    · rw [h2] at e; exact absurd e.symm (h.2.2 _ hn _ (hin x h1))
    · exact fr_nd h.2.1 x h1 y h2 e
theorem nd_ru {A : Nat → Prop} {a : Nat → ClassId} {q8 q9 : Nat} {Q8 : Nat → Nat} {z8 : Sx} {B2 : Nat → Option Nat} {B6 : Nat → Option Nat} {Q5 : Nat → Nat} {z5 : Sx} {Qd : Nat → Nat} {zd : Sx} {Qt : Nat → Nat} {zt : Sx} {Q4 : Nat → Nat} {z4 : Sx} {Q6 : Nat → Nat} {z6 : Sx} {Q2 : Nat → Nat} {z2 : Sx} {Q1 : Nat → Nat} {z1 : Sx} {Q9 : Nat → Nat} {z9 : Sx} {wk : List WT} {ru : List RT} {im : List IT} (hD : va_D A (WO a q8 q9 Q8 z8 B2 B6 Q5 z5 Qd zd Qt zt Q4 z4 Q6 z6 Q2 z2 Q1 z1 Q9 z9 wk ru im)) : ((ru.flatMap (F3 a)).map Prod.fst).Nodup := by
  have hs : (ru.flatMap (F3 a)).Sublist (WO a q8 q9 Q8 z8 B2 B6 Q5 z5 Qd zd Qt zt Q4 z4 Q6 z6 Q2 z2 Q1 z1 Q9 z9 wk ru im) := (List.sublist_append_left _ _).trans ((List.sublist_append_right _ _).trans ((List.sublist_append_right _ _).trans ((List.sublist_append_right _ _).trans ((List.sublist_append_right _ _).trans ((List.sublist_append_right _ _).trans ((List.sublist_append_right _ _).trans ((List.sublist_append_right _ _).trans ((List.sublist_append_right _ _).trans ((List.sublist_append_right _ _).trans ((List.sublist_append_right _ _).trans ((List.sublist_append_right _ _).trans (List.sublist_append_right _ _))))))))))))
  exact (hs.map Prod.fst).nodup (nd_of_D hD)
theorem uniq_ru {A : Nat → Prop} {a : Nat → ClassId} {q8 q9 : Nat} {Q8 : Nat → Nat} {z8 : Sx} {B2 : Nat → Option Nat} {B6 : Nat → Option Nat} {Q5 : Nat → Nat} {z5 : Sx} {Qd : Nat → Nat} {zd : Sx} {Qt : Nat → Nat} {zt : Sx} {Q4 : Nat → Nat} {z4 : Sx} {Q6 : Nat → Nat} {z6 : Sx} {Q2 : Nat → Nat} {z2 : Sx} {Q1 : Nat → Nat} {z1 : Sx} {Q9 : Nat → Nat} {z9 : Sx} {wk : List WT} {ru : List RT} {im : List IT} {v : RT} (hD : va_D A (WO a q8 q9 Q8 z8 B2 B6 Q5 z5 Qd zd Qt zt Q4 z4 Q6 z6 Q2 z2 Q1 z1 Q9 z9 wk ru im)) (hv : v ∈ ru) : ∀ x ∈ ru, x.1 = v.1 → x = v := fun x hx e => fr_nd (nd_ru hD) x hx v hv e
theorem fresh_ru {A : Nat → Prop} {a : Nat → ClassId} {q8 q9 : Nat} {Q8 : Nat → Nat} {z8 : Sx} {B2 : Nat → Option Nat} {B6 : Nat → Option Nat} {Q5 : Nat → Nat} {z5 : Sx} {Qd : Nat → Nat} {zd : Sx} {Qt : Nat → Nat} {zt : Sx} {Q4 : Nat → Nat} {z4 : Sx} {Q6 : Nat → Nat} {z6 : Sx} {Q2 : Nat → Nat} {z2 : Sx} {Q1 : Nat → Nat} {z1 : Sx} {Q9 : Nat → Nat} {z9 : Sx} {wk : List WT} {ru : List RT} {im : List IT} {v : RT} (hD : va_D A (WO a q8 q9 Q8 z8 B2 B6 Q5 z5 Qd zd Qt zt Q4 z4 Q6 z6 Q2 z2 Q1 z1 Q9 z9 wk (v :: ru) im)) : ∀ x ∈ ru, ¬ x.1 = v.1 := by
  have h := nd_ru hD
  rw [List.flatMap_cons, List.map_append, List.nodup_append] at h
  intro x hx e
  have hn : v.1 ∈ (F3 a v).map Prod.fst := List.mem_cons_self
  exact h.2.2 _ hn _ (List.mem_map.2 ⟨_, List.mem_flatMap.2 ⟨x, hx, List.mem_cons_self⟩, rfl⟩) e.symm

/-! A VALUE, on both sides. -/
theorem nvl_rng {f : Nat → Int32} {q : Nat} : ∀ k : Nat, k ≤ 5 → (∀ i : Nat, i < k → isD (f (q + i)) = true) → 0 ≤ (nvl f q k).toInt ∧ (nvl f q k).toInt < 10 ^ k := by
  intro k
  induction k with
  | zero => intro _ _; exact ⟨show 0 ≤ (0 : Int32).toInt by decide, show (0 : Int32).toInt < 10 ^ 0 by decide⟩
  | succ k ih =>
    intro hk hd
    obtain ⟨h1, h2⟩ := ih (by omega) (fun i hi => hd i (by omega))
    have h3 := isD_i.1 (hd k (by omega))
    have hp : (10 : Int) ^ k ≤ 10 ^ 4 := by
      have : (10 : Nat) ^ k ≤ 10 ^ 4 := Nat.pow_le_pow_right (by decide) (by omega)
      exact_mod_cast this
    have hs : (10 : Int) ^ (k + 1) = 10 ^ k * 10 := Int.pow_succ 10 k
    have e1 : (nvl f q k * 10).toInt = (nvl f q k).toInt * 10 := i32_mul rfl (show (10 : Int32).toInt = 10 by decide) (by omega) (by omega)
    have e2 : (nvl f q k * 10 + f (q + k)).toInt = (nvl f q k).toInt * 10 + (f (q + k)).toInt := i32_add e1 rfl (by omega) (by omega)
    have e3 : (nvl f q k * 10 + f (q + k) - 48).toInt = (nvl f q k).toInt * 10 + (f (q + k)).toInt - 48 := i32_sub e2 (show (48 : Int32).toInt = 48 by decide) (by omega) (by omega)
    show 0 ≤ (nvl f q k * 10 + f (q + k) - 48).toInt ∧ (nvl f q k * 10 + f (q + k) - 48).toInt < 10 ^ (k + 1)
    rw [e3, hs]
    omega
/-- both stand at p of the same text, with the same codes written -/
def RS (f : Nat → Int32) (N : Nat) (z4 z6 z9 : Sx) (t l p : Nat) : Prop := AT f N z6 p ∧ gI z6 8 = 0 ∧ T9 f N z9 p ∧ gI z9 13 = 0 ∧ EM z4 z9 t l ∧ gI z4 3 = gI z9 16 ∧ (0 ≤ (gI z9 16).toInt ∧ (gI z9 16).toInt ≤ 60)
/-- both refuse, with the same number -/
def BDD (A : Option (Sx × Sx)) (B : Option (Int32 × Sx)) : Prop := ∃ w4 w6 w9 : Sx, A = some (w4, w6) ∧ B = some (0, w9) ∧ ¬ gI w6 8 = 0 ∧ gI w9 13 = gI w6 8
def GUD (f : Nat → Int32) (N : Nat) (z4 z9 : Sx) (A : Option (Sx × Sx)) (B : Option (Int32 × Sx)) (t l p : Nat) : Prop := ∃ (w4 w6 w9 : Sx) (p1 : Nat), A = some (w4, w6) ∧ B = some (1, w9) ∧ RS f N w4 w6 w9 t l p1 ∧ p < p1 ∧ p1 ≤ N ∧ FrL [1, 2, 3] z4 w4 ∧ FrL [3, 4, 12, 14, 16] z9 w9
theorem makes_ok {z : Sx} {x : Int32} (h : (gI z 16).toInt < 60) : fX9_makes z x = some (1, sI z 16 (gI z 16 + 1)) := by
  unfold fX9_makes
  rw [if_neg (fun q => by have := congrArg Int32.toInt q; rw [show (60 : Int32).toInt = 60 by decide] at this; omega)]
theorem makes_no {z : Sx} {q : Nat} (h : (gI z 16).toInt = 60) (h13 : gI z 13 = 0) : fX9_makes z (nI q) = some (0, sI z 13 (flt q 3)) := by
  unfold fX9_makes
  rw [if_pos (Int32.toInt_inj.1 (by rw [h]; decide)), bd2_eq fails9, gd_pos (Or.inl rfl), failz_e h13]
section VB
variable {f : Nat → Int32} {N p t l : Nat} {z4 z6 z9 : Sx}
/-- where a value was seen: it is made, or there are too many -/
theorem made_both {u9 v9 : Sx} {G : Sx → Option (Int32 × Sx)} {q p1 : Nat} {c x1 x2 : Int32} (h : RS f N z4 z6 z9 t l p) (hl : l ≤ q) (hqN : q < N) (hpq : p ≤ q) (u16 : gI u9 16 = gI z9 16) (u13 : gI u9 13 = 0) (hG : G (sI u9 16 (gI u9 16 + 1)) = bd (fX9_puts v9 x1 x2) (fun z32 => some (1, z32))) (hu : T9 f N v9 p1) (hp1 : q < p1) (hf : FrL [12, 14, 16] z9 v9) (hv16 : gI v9 16 = gI z9 16 + 1) (h6 : gI z6 6 = nI q) (hc : CM c (x1 + (16 * x2))) (hs : ∃ w6, fX6_step z6 = some w6 ∧ AT f N w6 p1 ∧ gI w6 8 = gI z6 8) :
    GUD f N z4 z9 (if (gI z4 3) < 60 then bd (fX4_emit (sI z4 3 ((gI z4 3) + 1)) c) (fun z10 => bd (fX6_step z6) (fun z12 => some (z10, z12))) else bd (fX6_fail z6 3) (fun z15 => some (z4, z15))) (bd2 (fX9_makes u9 (nI q)) (fun r28 z29 => if r28 = 0 then some (0, z29) else G z29)) t (l + 1) p ∨
    BDD (if (gI z4 3) < 60 then bd (fX4_emit (sI z4 3 ((gI z4 3) + 1)) c) (fun z10 => bd (fX6_step z6) (fun z12 => some (z10, z12))) else bd (fX6_fail z6 3) (fun z15 => some (z4, z15))) (bd2 (fX9_makes u9 (nI q)) (fun r28 z29 => if r28 = 0 then some (0, z29) else G z29)) := by
  obtain ⟨hA, h8, h9, h13, hE, h3, hm0, hm1⟩ := h
  obtain ⟨w6, s1, s2, s3⟩ := hs
  have hN := h9.2.2.2.1
  have z60 : (60 : Int32).toInt = 60 := by decide
  by_cases c60 : (gI z9 16).toInt < 60
  · left
    have cl : gI z4 3 < 60 := (i32_lt _ _).2 (by rw [h3, z60]; exact c60)
    rw [if_pos cl, bd2_eq (makes_ok (z := u9) (x := nI q) (by rw [u16]; exact c60)), if_neg one0, hG]
    have hE2 : EM (sI z4 3 (gI z4 3 + 1)) v9 t l := em_9 (em_4 hE (L := [3]) (fr_I fr_rf (by decide)) (by decide)) hf (by decide)
    obtain ⟨w4, w9, a1, a2, a3, a4, a5⟩ := emit_both (c := c) (x1 := x1) (x2 := x2) hE2 (by omega) hc
    rw [bd_eq a1, bd_eq s1, bd_eq a2]
    have f9 : FrL [3, 4, 12, 14, 16] z9 w9 := fr_tr (fr_tr fr_rf hf (by decide)) a5 (by decide)
    have f4 : FrL [1, 2, 3] z4 w4 := fr_tr (fr_I fr_rf (by decide)) a4 (by decide)
    have em : (gI z9 16 + 1).toInt = (gI z9 16).toInt + 1 := i32_add rfl (show (1 : Int32).toInt = 1 by decide) (by omega) (by omega)
    have k16 : gI w9 16 = gI z9 16 + 1 := ((a5 16 (by decide)).1).trans hv16
    have k3 : gI w4 3 = gI z4 3 + 1 := (a4 3 (by decide)).1
    refine ⟨w4, w6, w9, p1, rfl, rfl, ⟨s2, s3.trans h8, ?_, (f9 13 (by decide)).1.trans h13, a3, by rw [k3, k16, h3], by rw [k16]; omega⟩, by omega, hu.2.2.1, f4, f9⟩
    exact ⟨(a5 1 (by decide)).1.trans hu.1, (a5 12 (by decide)).1.trans hu.2.1, hu.2.2.1, hN, by rw [(a5 0 (by decide)).2.1]; exact hu.2.2.2.2⟩
  · right
    have cl : ¬ gI z4 3 < 60 := fun k => by have := (i32_lt _ _).1 k; rw [h3, z60] at this; omega
    rw [if_neg cl, bd_eq (fail6 h8 h6), bd2_eq (makes_no (z := u9) (q := q) (by rw [u16]; omega) u13), if_pos rfl]
    exact ⟨z4, _, _, rfl, rfl, flt_n0 (a := 3) (by decide) (by decide) (by omega), rfl⟩
end VB

/-! BEST: the most that a number of LOOKS earns, as a pure number. -/
def bs_op (zw : Sx) (g a : Nat) : Bool := !(a.testBit g) && (decide (gT zw 11 g < 0) || a.testBit (gT zw 11 g).toNatClampNeg)
def bs_eb (zw : Sx) (rc : Nat → Int → Int64) (n a : Nat) (l : Int) (g : Nat) : Int64 := if (gT zw 9 g).toInt ≤ l ∧ bs_op zw g a = true then (gT zw 10 g).toInt64 * ((gT zw 12 g).toInt64 * hh100 n + rc (a ||| 2 ^ g) (l - (gT zw 9 g).toInt)) + (100 - gT zw 10 g).toInt64 * rc a (l - (gT zw 9 g).toInt) else -1
def bs_mx (e : Nat → Int64) : Nat → Int64
  | 0 => 0
  | k + 1 => mxL (bs_mx e k) (e k)
def bs_ix (e : Nat → Int64) : Nat → Option Nat
  | 0 => none
  | k + 1 => if bs_mx e k < e k then some k else bs_ix e k
def bs_ME (zw : Sx) (F : Nat) : Nat → Nat → Int → Int64
  | 0, _, _ => 0
  | n + 1, a, l => bs_mx (bs_eb zw (bs_ME zw F n) n a l) F
section BSM
variable {e e2 : Nat → Int64}
theorem bs_i0 : (0 : Int64).toInt = 0 := by decide
theorem bs_i1 : (-1 : Int64).toInt = -1 := by decide
theorem mx_s (k : Nat) : bs_mx e (k + 1) = if bs_mx e k < e k then e k else bs_mx e k := by
  show (if e k < bs_mx e k then bs_mx e k else e k) = _
  by_cases c : e k < bs_mx e k
  · have ci := (i64_lt _ _).1 c
    rw [if_pos c, if_neg (fun q => by have := (i64_lt _ _).1 q; omega)]
  · rw [if_neg c]
    by_cases d : bs_mx e k < e k
    · rw [if_pos d]
    · rw [if_neg d]
      refine Int64.toInt_inj.1 ?_
      have h1 : ¬ (e k).toInt < (bs_mx e k).toInt := fun q => c ((i64_lt _ _).2 q)
      have h2 : ¬ (bs_mx e k).toInt < (e k).toInt := fun q => d ((i64_lt _ _).2 q)
      omega
theorem mx_cg : ∀ k : Nat, (∀ g : Nat, g < k → e2 g = e g) → bs_mx e2 k = bs_mx e k := by
  intro k
  induction k with
  | zero => intro _; rfl
  | succ k ih => intro h; rw [mx_s, mx_s, ih (fun g hg => h g (by omega)), h k (by omega)]
theorem ix_cg : ∀ k : Nat, (∀ g : Nat, g < k → e2 g = e g) → bs_ix e2 k = bs_ix e k := by
  intro k
  induction k with
  | zero => intro _; rfl
  | succ k ih =>
    intro h
    show (if bs_mx e2 k < e2 k then some k else bs_ix e2 k) = if bs_mx e k < e k then some k else bs_ix e k
    rw [ih (fun g hg => h g (by omega)), mx_cg k (fun g hg => h g (by omega)), h k (by omega)]
theorem mx_nn : ∀ k : Nat, 0 ≤ (bs_mx e k).toInt := by
  intro k
  induction k with
  | zero => show 0 ≤ (0 : Int64).toInt; rw [bs_i0]; omega
  | succ k ih =>
    rw [mx_s]
    by_cases c : bs_mx e k < e k
    · rw [if_pos c]; have := (i64_lt _ _).1 c; omega
    · rw [if_neg c]; exact ih
theorem mx_up : ∀ k : Nat, (bs_mx e k).toInt ≤ (bs_mx e (k + 1)).toInt := by
  intro k
  rw [mx_s]
  by_cases c : bs_mx e k < e k
  · rw [if_pos c]; have := (i64_lt _ _).1 c; omega
  · rw [if_neg c]; omega
theorem mx_mono {k : Nat} : ∀ m : Nat, (bs_mx e k).toInt ≤ (bs_mx e (k + m)).toInt := by
  intro m
  induction m with
  | zero => exact Int.le_refl _
  | succ m ih => exact Int.le_trans ih (mx_up (k + m))
theorem mx_ge {k g : Nat} (h : g < k) : (e g).toInt ≤ (bs_mx e k).toInt := by
  have h1 : (e g).toInt ≤ (bs_mx e (g + 1)).toInt := by
    rw [mx_s]
    by_cases c : bs_mx e g < e g
    · rw [if_pos c]; omega
    · rw [if_neg c]
      have : ¬ (bs_mx e g).toInt < (e g).toInt := fun q => c ((i64_lt _ _).2 q)
      omega
  have h2 := mx_mono (e := e) (k := g + 1) (k - (g + 1))
  rw [show g + 1 + (k - (g + 1)) = k by omega] at h2
  omega
theorem mx_at : ∀ k : Nat, bs_mx e k = 0 ∨ ∃ g : Nat, g < k ∧ e g = bs_mx e k := by
  intro k
  induction k with
  | zero => exact Or.inl rfl
  | succ k ih =>
    rw [mx_s]
    by_cases c : bs_mx e k < e k
    · rw [if_pos c]; exact Or.inr ⟨k, by omega, rfl⟩
    · rw [if_neg c]
      rcases ih with h | ⟨g, hg, h⟩
      · exact Or.inl h
      · exact Or.inr ⟨g, by omega, h⟩
/-- the greatest number, by what it is -/
theorem mx_is {k : Nat} {v : Int64} (h0 : 0 ≤ v.toInt) (h1 : ∀ g : Nat, g < k → (e g).toInt ≤ v.toInt) (h2 : v = 0 ∨ ∃ g : Nat, g < k ∧ e g = v) : bs_mx e k = v := by
  refine Int64.toInt_inj.1 ?_
  have a := mx_nn (e := e) k
  have lo : v.toInt ≤ (bs_mx e k).toInt := by
    rcases h2 with h | ⟨g, hg, h⟩
    · rw [h, bs_i0]; exact a
    · rw [← h]; exact mx_ge hg
  have hi : (bs_mx e k).toInt ≤ v.toInt := by
    rcases mx_at (e := e) k with h | ⟨g, hg, h⟩
    · rw [h, bs_i0]; exact h0
    · rw [← h]; exact h1 g hg
  omega
theorem ix_none : ∀ k : Nat, bs_ix e k = none → bs_mx e k = 0 := by
  intro k
  induction k with
  | zero => intro _; rfl
  | succ k ih =>
    intro h
    have h : (if bs_mx e k < e k then some k else bs_ix e k) = none := h
    rw [mx_s]
    by_cases c : bs_mx e k < e k
    · rw [if_pos c] at h; cases h
    · rw [if_neg c] at h ⊢; exact ih h
theorem ix_some {g : Nat} : ∀ k : Nat, bs_ix e k = some g → g < k ∧ e g = bs_mx e k ∧ 0 < (bs_mx e k).toInt ∧ ∀ j : Nat, j < g → ¬ e j = bs_mx e k := by
  intro k
  induction k with
  | zero => intro h; cases h
  | succ k ih =>
    intro h
    have h : (if bs_mx e k < e k then some k else bs_ix e k) = some g := h
    rw [mx_s]
    by_cases c : bs_mx e k < e k
    · rw [if_pos c] at h ⊢
      obtain rfl := Option.some.inj h
      have ci := (i64_lt _ _).1 c
      have := mx_nn (e := e) k
      exact ⟨by omega, rfl, by omega, fun j hj q => by
        have := mx_ge (e := e) hj
        rw [q] at this
        omega⟩
    · rw [if_neg c] at h ⊢
      obtain ⟨a, b, d, f⟩ := ih h
      exact ⟨by omega, b, d, f⟩
/-- numbers that are no better are passed over -/
theorem mx_skip {k : Nat} (h : (e k).toInt ≤ 0) : bs_mx e (k + 1) = bs_mx e k ∧ bs_ix e (k + 1) = bs_ix e k := by
  have a := mx_nn (e := e) k
  have c : ¬ bs_mx e k < e k := fun q => by have := (i64_lt _ _).1 q; omega
  refine ⟨by rw [mx_s, if_neg c], ?_⟩
  show (if bs_mx e k < e k then some k else bs_ix e k) = _
  rw [if_neg c]
end BSM
/-- what is known of a WORK that was told -/
def BW (zw : Sx) (F : Nat) : Prop := gI zw 3 = nI F ∧ F ≤ 10 ∧ (∀ g : Nat, g < F → (1 ≤ (gT zw 9 g).toInt ∧ (gT zw 9 g).toInt ≤ 99) ∧ (0 ≤ (gT zw 10 g).toInt ∧ (gT zw 10 g).toInt ≤ 100) ∧ (-1 ≤ (gT zw 11 g).toInt ∧ (gT zw 11 g).toInt < g) ∧ (0 ≤ (gT zw 12 g).toInt ∧ (gT zw 12 g).toInt ≤ 99) ∧ (gT zw 9 g).toInt ≤ (gI zw 17).toInt ∧ gT zw 15 g = gT zw 10 g * gT zw 12 g) ∧ (0 ≤ (gI zw 17).toInt ∧ (gI zw 17).toInt ≤ 99) ∧ (∀ i : Nat, i < F → ∃ g : Nat, g < F ∧ gT zw 16 i = nI g) ∧ (∀ g : Nat, g < F → ∃ i : Nat, i < F ∧ gT zw 16 i = nI g) ∧ (∀ i j : Nat, i ≤ j → j < F → (gT zw 15 (gT zw 16 j).toNatClampNeg).toInt ≤ (gT zw 15 (gT zw 16 i).toNatClampNeg).toInt)
section BS
variable {zw : Sx} {F : Nat}
theorem eb_cg {rc rc2 : Nat → Int → Int64} {n a g : Nat} {l l2 : Int} (hc : (gT zw 9 g).toInt ≤ l2 ↔ (gT zw 9 g).toInt ≤ l) (h1 : (gT zw 9 g).toInt ≤ l → ∀ a : Nat, rc2 a (l2 - (gT zw 9 g).toInt) = rc a (l - (gT zw 9 g).toInt)) : bs_eb zw rc2 n a l2 g = bs_eb zw rc n a l g := by
  unfold bs_eb
  by_cases c : (gT zw 9 g).toInt ≤ l ∧ bs_op zw g a = true
  · rw [if_pos c, if_pos ⟨hc.2 c.1, c.2⟩, h1 c.1, h1 c.1]
  · rw [if_neg c, if_neg (fun q => c ⟨hc.1 q.1, q.2⟩)]
/-- more minutes than so many LOOKS can take are as good as just these -/
theorem me_cl (hb : BW zw F) : ∀ (n a : Nat) (l l2 : Int), (l2 = l ∨ ((n : Int) * (gI zw 17).toInt ≤ l ∧ (n : Int) * (gI zw 17).toInt ≤ l2)) → bs_ME zw F n a l2 = bs_ME zw F n a l := by
  obtain ⟨h3, hF, hg, h17, -⟩ := hb
  intro n
  induction n with
  | zero => intro a l l2 _; rfl
  | succ n ih =>
    intro a l l2 h
    rcases h with h | ⟨h1, h2⟩
    · rw [h]
    · have e1 : ((n + 1 : Nat) : Int) * (gI zw 17).toInt = (n : Int) * (gI zw 17).toInt + (gI zw 17).toInt := by
        rw [Int.natCast_add, Int.add_mul]
        show _ + 1 * _ = _
        rw [Int.one_mul]
      have n0 : 0 ≤ (n : Int) * (gI zw 17).toInt := Int.mul_nonneg (by omega) h17.1
      rw [e1] at h1 h2
      show bs_mx _ F = bs_mx _ F
      refine mx_cg F (fun g hgF => ?_)
      have hm := (hg g hgF).2.2.2.2.1
      exact eb_cg ⟨fun _ => by omega, fun _ => by omega⟩ (fun _ a => ih a _ _ (Or.inr ⟨by omega, by omega⟩))
theorem bo_run {g a : Nat} (hb : BW zw F) (hg : g < F) (ha : a < 1024) : fX7_isOpen zw (nI g) (nI a) = some (if bs_op zw g a = true then 1 else 0) := by
  obtain ⟨h3, hF, hq, -⟩ := hb
  have i0 : (0 : Int32).toInt = 0 := by decide
  obtain ⟨-, -, hu, -⟩ := hq g hg
  unfold fX7_isOpen bs_op
  rw [if_neg (nI_pos (by omega)), if_neg (show ¬ (10 : Int32) ≤ nI g from nI_ge (b := 10) (by omega) (by decide))]
  by_cases c : a.testBit g = false
  · rw [if_pos ((shr_n ha (by omega)).2 c), gd_pos (in_n (by omega) (by omega)), nI_clamp (by omega), c]
    simp only [jn]
    by_cases cu : gT zw 11 g < 0
    · rw [if_pos cu, decide_eq_true cu]; rfl
    · have cui := bI_nlt rfl i0 cu
      obtain ⟨k, hk⟩ : ∃ k : Nat, (gT zw 11 g).toInt = k := ⟨(gT zw 11 g).toInt.toNat, by omega⟩
      have eu : gT zw 11 g = nI k := Int32.toInt_inj.1 (by rw [hk, nI_toInt (by omega)])
      rw [if_neg cu, decide_eq_false cu, eu, nI_clamp (by omega)]
      by_cases d : a.testBit k = false
      · rw [if_pos ((shr_n ha (by omega)).2 d), d]; rfl
      · rw [if_neg (fun q => d ((shr_n ha (by omega)).1 q))]
        cases q : a.testBit k with
        | false => exact absurd q d
        | true => rfl
  · rw [if_neg (fun q => c ((shr_n ha (by omega)).1 q))]
    cases q : a.testBit g with
    | false => exact absurd q c
    | true => rfl
/-- one LOOK -/
theorem one_eb {g a : Nat} {l : Int} (hb : BW zw F) (hg : g < F) : bs_eb zw (bs_ME zw F 0) 0 a l g = if (gT zw 9 g).toInt ≤ l ∧ bs_op zw g a = true then (gT zw 15 g).toInt64 else -1 := by
  obtain ⟨h3, hF, hq, -⟩ := hb
  obtain ⟨-, ho, -, hp, -, h15⟩ := hq g hg
  unfold bs_eb
  by_cases c : (gT zw 9 g).toInt ≤ l ∧ bs_op zw g a = true
  · rw [if_pos c, if_pos c]
    show (gT zw 10 g).toInt64 * ((gT zw 12 g).toInt64 * 1 + 0) + (100 - gT zw 10 g).toInt64 * 0 = _
    rw [Int64.mul_one, Int64.add_zero, Int64.mul_zero, Int64.add_zero, h15]
    have b0 : 0 ≤ (gT zw 10 g).toInt * (gT zw 12 g).toInt := Int.mul_nonneg ho.1 hp.1
    have b1 : (gT zw 10 g).toInt * (gT zw 12 g).toInt ≤ 100 * 99 := Int.mul_le_mul ho.2 hp.2 hp.1 (by omega)
    refine Int64.toInt_inj.1 ?_
    rw [i64_mul (l64_of rfl) (l64_of rfl) (by omega) (by omega), l64_of (i32_mul rfl rfl (by omega) (by omega))]
  · rw [if_neg c, if_neg c]
theorem mb_run {a : Nat} {x : Int32} (hb : BW zw F) (ha : a < 1024) : ∀ (q i n : Nat), F - i = q → i ≤ F → q < n → (∀ j : Nat, j < i → ¬ ((gT zw 9 (gT zw 16 j).toNatClampNeg).toInt ≤ x.toInt ∧ bs_op zw (gT zw 16 j).toNatClampNeg a = true)) → ∃ r, lX7_mostByOneLook_2 (fun (i11 : Int32) => bd (fX8_at 10 (gT zw 15) i11) (fun r13 => some r13)) zw (nI a) x n (nI i) = some r ∧ r.toInt64 = bs_ME zw F 1 a x.toInt := by
  obtain ⟨h3, hF, hq, h17, hp1, hp2, hso⟩ := id hb
  intro q
  induction q with
  | zero =>
    intro i n hqi hi hn hno
    obtain ⟨n, rfl⟩ : ∃ k, n = k + 1 := ⟨n - 1, by omega⟩
    obtain rfl : i = F := by omega
    refine ⟨0, by rw [lX7_mostByOneLook_2, h3, if_pos (nI_le (Nat.le_refl _) (by omega))], ?_⟩
    show (0 : Int64) = bs_mx _ i
    symm
    refine mx_is (by rw [bs_i0]; omega) (fun g hg => ?_) (Or.inl rfl)
    obtain ⟨j, hj, hgj⟩ := hp2 g hg
    have := hno j hj
    rw [hgj, nI_clamp (by omega)] at this
    rw [one_eb hb hg, if_neg this, bs_i1, bs_i0]; omega
  | succ q ih =>
    intro i n hqi hi hn hno
    obtain ⟨n, rfl⟩ : ∃ k, n = k + 1 := ⟨n - 1, by omega⟩
    obtain ⟨g, hg, eg⟩ := hp1 i (by omega)
    have gi : (nI g).toInt = g := nI_toInt (by omega)
    have e16 : fX8_at 10 (gT zw 16) (nI i) = some (nI g) := by rw [at_k (nI_toInt (n := i) (by omega)) (by omega) (by decide), eg]
    have e9 : fX8_at 10 (gT zw 9) (nI g) = some (gT zw 9 g) := at_k gi (by omega) (by decide)
    have e15 : fX8_at 10 (gT zw 15) (nI g) = some (gT zw 15 g) := at_k gi (by omega) (by decide)
    rw [lX7_mostByOneLook_2, h3, if_neg (nI_ge (by omega) (by omega)), bd_eq e16, bd_eq e9, nI_1]
    simp only [jn]
    by_cases c : (gT zw 9 g).toInt ≤ x.toInt ∧ bs_op zw g a = true
    · refine ⟨gT zw 15 g, ?_, ?_⟩
      · rw [if_neg (fun u => by have := bI_lt rfl rfl u; omega), bd_eq (bo_run hb hg ha), if_pos c.2, if_neg one0, bd_eq e15]
      · have b := hq g hg
        have b0 : 0 ≤ (gT zw 10 g).toInt * (gT zw 12 g).toInt := Int.mul_nonneg b.2.1.1 b.2.2.2.1.1
        have b1 : (gT zw 10 g).toInt * (gT zw 12 g).toInt ≤ 100 * 99 := Int.mul_le_mul b.2.1.2 b.2.2.2.1.2 b.2.2.2.1.1 (by omega)
        have v0 : 0 ≤ (gT zw 15 g).toInt := by rw [b.2.2.2.2.2, i32_mul rfl rfl (by omega) (by omega)]; exact b0
        show _ = bs_mx _ F
        symm
        refine mx_is (by rw [l64_of rfl]; exact v0) (fun k hk => ?_) (Or.inr ⟨g, hg, by rw [one_eb hb hg, if_pos c]⟩)
        rw [one_eb hb hk, l64_of rfl]
        by_cases d : (gT zw 9 k).toInt ≤ x.toInt ∧ bs_op zw k a = true
        · rw [if_pos d, l64_of rfl]
          obtain ⟨j, hj, hkj⟩ := hp2 k hk
          have hij : i ≤ j := by
            by_cases w : i ≤ j
            · exact w
            · have := hno j (by omega)
              rw [hkj, nI_clamp (by omega)] at this
              exact absurd d this
          have := hso i j hij hj
          rw [hkj, eg, nI_clamp (by omega), nI_clamp (by omega)] at this
          exact this
        · rw [if_neg d, bs_i1]; omega
    · have go := ih (i + 1) n (by omega) (by omega) (by omega) (fun j hj => by
        by_cases w : j = i
        · rw [w, eg, nI_clamp (by omega)]; exact c
        · exact hno j (by omega))
      by_cases d : x < gT zw 9 g
      · rw [if_pos d]; exact go
      · rw [if_neg d, bd_eq (bo_run hb hg ha)]
        have di := bI_nlt rfl rfl d
        rw [if_neg (fun u => c ⟨by omega, u⟩), if_pos rfl]
        exact go
theorem mb_eq {a : Nat} {x : Int32} (hb : BW zw F) (ha : a < 1024) : ∃ r, fX7_mostByOneLook zw (nI a) x = some r ∧ r.toInt64 = bs_ME zw F 1 a x.toInt := mb_run hb ha F 0 FU (by omega) (by omega) (FU_lt (by have := hb.2.1; omega)) (fun j hj => by omega)
end BS

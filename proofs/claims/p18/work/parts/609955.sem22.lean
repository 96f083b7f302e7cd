/-! BEST: the class's table of what was reckoned before, and what it reckons. -/
def kyv (s n a u : Nat) : Int64 := (((((nI s).toInt64 * 8) + (nI n).toInt64) <<< (Int32.toInt64 19 &&& 63)) ||| ((nI a <<< (9 &&& 31)).toInt64)) ||| ((nI u).toInt64)
theorem shl19 {x : Nat} (h : x < 4200) : lN x <<< (Int32.toInt64 19 &&& 63) = lN (x * 524288) := by
  have k : (List.range 4200).all (fun x => decide (lN x <<< (Int32.toInt64 19 &&& 63) = lN (x * 524288))) = true := by decide +kernel
  exact of_decide_eq_true (List.all_eq_true.1 k x (List.mem_range.2 h))
theorem shl9 {a : Nat} (h : a < 1024) : (nI a <<< (9 &&& 31)).toInt64 = lN (a * 512) := by
  have k : (List.range 1024).all (fun a => decide ((nI a <<< (9 &&& 31)).toInt64 = lN (a * 512))) = true := by decide +kernel
  exact of_decide_eq_true (List.all_eq_true.1 k a (List.mem_range.2 h))
theorem or_l {a b : Nat} : lN a ||| lN b = lN (a ||| b) := by
  refine Int64.toBitVec_inj.1 ?_
  show BitVec.ofNat 64 a ||| BitVec.ofNat 64 b = BitVec.ofNat 64 (a ||| b)
  exact (BitVec.ofNat_or).symm
theorem kyv_eq {s n a u : Nat} (hs : s ≤ 513) (hn : n < 8) (ha : a < 1024) (hu : u < 512) : kyv s n a u = lN ((s * 8 + n) * 524288 + (a * 512 + u)) := by
  have e1 : a * 512 ||| u = a * 512 + u := by
    have := Nat.two_pow_add_eq_or_of_lt (i := 9) (b := u) (show u < 512 from hu) a
    have e : 2 ^ 9 * a = a * 512 := Nat.mul_comm _ _
    rw [e] at this
    exact this.symm
  have e2 : (s * 8 + n) * 524288 ||| (a * 512 + u) = (s * 8 + n) * 524288 + (a * 512 + u) := by
    have := Nat.two_pow_add_eq_or_of_lt (i := 19) (b := a * 512 + u) (show a * 512 + u < 524288 by omega) (s * 8 + n)
    have e : 2 ^ 19 * (s * 8 + n) = (s * 8 + n) * 524288 := Nat.mul_comm _ _
    rw [e] at this
    exact this.symm
  unfold kyv
  rw [nI_l (show s < 2 ^ 31 by omega), nI_l (show n < 2 ^ 31 by omega), nI_l (show u < 2 ^ 31 by omega), show (8 : Int64) = lN 8 from rfl, lN_mul, lN_add, shl19 (by omega), shl9 ha, or_l, or_l, Nat.or_assoc, e1, e2]
theorem kyv_inj {s n a u s2 n2 a2 u2 : Nat} (hs : s ≤ 513) (hn : n < 8) (ha : a < 1024) (hu : u < 512) (hs2 : s2 ≤ 513) (hn2 : n2 < 8) (ha2 : a2 < 1024) (hu2 : u2 < 512) (h : kyv s n a u = kyv s2 n2 a2 u2) : s = s2 ∧ n = n2 ∧ a = a2 ∧ u = u2 := by
  rw [kyv_eq hs hn ha hu, kyv_eq hs2 hn2 ha2 hu2] at h
  have h1 := congrArg Int64.toInt h
  unfold lN at h1
  rw [Int64.toInt_ofNat_of_lt (by omega), Int64.toInt_ofNat_of_lt (by omega)] at h1
  omega
theorem kyv_0 {s n a u : Nat} (hs : s ≤ 513) (h2 : 2 ≤ n) (hn : n < 8) (ha : a < 1024) (hu : u < 512) : ¬ kyv s n a u = 0 := by
  intro h
  rw [kyv_eq hs hn ha hu] at h
  have h1 := congrArg Int64.toInt h
  unfold lN at h1
  rw [Int64.toInt_ofNat_of_lt (by omega), bs_i0] at h1
  omega
/-- what the table keeps is right -/
def BT (K : Sx → Prop) (z : Sx) : Prop := ∀ s : Nat, s < 2048 → gJ z 0 s = 0 ∨ ∃ v : Sx, K v ∧ ∃ S G n a u : Nat, gI v 0 = nI S ∧ S ≤ 513 ∧ gI v 3 = nI G ∧ G ≤ 10 ∧ 2 ≤ n ∧ n ≤ 5 ∧ a < 1024 ∧ u < 512 ∧ gJ z 0 s = kyv S n a u ∧ gJ z 1 s = bs_ME v G n a (u : Int)
theorem bt_imp {K K2 : Sx → Prop} {z : Sx} (h : BT K z) (k : ∀ v, K v → K2 v) : BT K2 z := fun s hs => by
  rcases h s hs with a | ⟨v, hv, r⟩
  · exact Or.inl a
  · exact Or.inr ⟨v, k v hv, r⟩
theorem bt_2 {K : Sx → Prop} {z : Sx} {v : Int32} (h : BT K z) : BT K (sI z 2 v) := fun s hs => h s hs
theorem bt_3 {K : Sx → Prop} {z : Sx} {v : Int64} (h : BT K z) : BT K (sJ z 3 0 v) := fun s hs => h s hs
theorem bt_put {K : Sx → Prop} {z v : Sx} {t S G n a u : Nat} {k w : Int64} (h : BT K z) (hv : K v) (hS : gI v 0 = nI S) (hS5 : S ≤ 513) (hG : gI v 3 = nI G) (hG10 : G ≤ 10) (h2 : 2 ≤ n) (h5 : n ≤ 5) (ha : a < 1024) (hu : u < 512) (ek : k = kyv S n a u) (ew : w = bs_ME v G n a (u : Int)) : BT K (sJ (sJ z 0 t k) 1 t w) := by
  intro s hs
  have e0 : gJ (sJ (sJ z 0 t k) 1 t w) 0 s = if s = t then k else gJ z 0 s := rfl
  have e1 : gJ (sJ (sJ z 0 t k) 1 t w) 1 s = if s = t then w else gJ z 1 s := rfl
  rw [e0, e1]
  by_cases c : s = t
  · rw [if_pos c, if_pos c]
    exact Or.inr ⟨v, hv, S, G, n, a, u, hS, hS5, hG, hG10, h2, h5, ha, hu, ek, ew⟩
  · rw [if_neg c, if_neg c]
    exact h s hs
theorem nm_g {κ : Type} {α : Type} {v : κ} {b : κ → Option α} {Q : Option α → Prop} (h : ∀ w, w = v → Q (b w)) : Q (nm v b) := h v rfl
section B22
variable {zw : Sx} {F : Nat} {K : Sx → Prop}
theorem eb_run {rc : Sx → Sx → Int32 → Int32 → Int32 → Option (Int64 × Sx)} {n : Nat} {P : Sx → Prop} (hn : n ≤ 7) (hb : BW zw F) (hrec : ∀ (a : Nat) (z : Sx) (x : Int32), a < 1024 → 0 ≤ x.toInt → x.toInt ≤ 480 → P z → ∃ z2, rc z zw (nI n) (nI a) x = some (bs_ME zw F n a x.toInt, z2) ∧ P z2) {g a : Nat} {z : Sx} {x : Int32} (hg : g < F) (ha : a < 1024) (h0 : 0 ≤ x.toInt) (h1 : x.toInt ≤ 480) (hz : P z) : ∃ z2, fX1_earnedBy rc z zw (nI g) (nI (n + 1)) (nI a) x = some (bs_eb zw (bs_ME zw F n) n a x.toInt g, z2) ∧ P z2 := by
  obtain ⟨h3, hF, hq, -⟩ := id hb
  obtain ⟨hm, ho, -⟩ := hq g hg
  have i0 : (0 : Int32).toInt = 0 := by decide
  have gi : (nI g).toInt = g := nI_toInt (by omega)
  have e9 : fX8_at 10 (gT zw 9) (nI g) = some (gT zw 9 g) := at_k gi (by omega) (by decide)
  have e10 : fX8_at 10 (gT zw 10) (nI g) = some (gT zw 10 g) := at_k gi (by omega) (by decide)
  have e12 : fX8_at 10 (gT zw 12) (nI g) = some (gT zw 12 g) := at_k gi (by omega) (by decide)
  have es : (x - gT zw 9 g).toInt = x.toInt - (gT zw 9 g).toInt := i32_sub rfl rfl (by omega) (by omega)
  have eb : fX8_bit (nI g) = some (nI (2 ^ g)) := by
    unfold fX8_bit
    rw [bit_f ⟨g, by omega⟩]
  have en : nI (n + 1) - 1 = nI n := nI_pred n
  have ha2 : a ||| 2 ^ g < 1024 := Nat.or_lt_two_pow (n := 10) ha (Nat.pow_lt_pow_right (by decide) (by omega))
  unfold fX1_earnedBy
  rw [bd_eq e9]
  unfold bs_eb
  by_cases c : (x - gT zw 9 g) < 0
  · have ci := bI_lt es i0 c
    rw [if_pos c, if_neg (fun q => by have := q.1; omega)]
    exact ⟨z, rfl, hz⟩
  · have ci := bI_nlt es i0 c
    rw [if_neg c, bd_eq (bo_run hb hg ha)]
    by_cases d : bs_op zw g a = true
    · obtain ⟨z2, r1, p2⟩ := hrec (a ||| 2 ^ g) z (x - gT zw 9 g) ha2 (by omega) (by omega) hz
      obtain ⟨z3, r2, p3⟩ := hrec a z2 (x - gT zw 9 g) ha (by omega) (by omega) p2
      rw [es] at r1 r2
      refine ⟨z3, ?_, p3⟩
      rw [if_pos d, if_neg one0, bd_eq e10, bd_eq e12, en, bd_eq (hun8_eq (by omega)), bd_eq eb, or_n, bd2_eq r1, bd2_eq r2, if_pos ⟨by omega, d⟩]
    · rw [if_neg d, if_pos rfl, if_neg (fun q => d q.2)]
      exact ⟨z, rfl, hz⟩
theorem ml_run {rc : Sx → Sx → Int32 → Int32 → Int32 → Option (Int64 × Sx)} {k9 : Sx → Int64 → Option (Int64 × Sx)} {n a u : Nat} {k6 : Int64} {v8 : Int32} {P : Sx → Prop} (hn : n ≤ 7) (hb : BW zw F) (hrec : ∀ (a : Nat) (z : Sx) (x : Int32), a < 1024 → 0 ≤ x.toInt → x.toInt ≤ 480 → P z → ∃ z2, rc z zw (nI n) (nI a) x = some (bs_ME zw F n a x.toInt, z2) ∧ P z2) (ha : a < 1024) (hu : u ≤ 480) : ∀ (q g m : Nat) (z : Sx), F - g = q → g ≤ F → q < m → P z → ∃ z2, lX1_mostEarned_106 rc k9 zw (nI (n + 1)) (nI a) (nI u) k6 v8 m z (bs_mx (bs_eb zw (bs_ME zw F n) n a (u : Int)) g) (nI g) = k9 z2 (bs_mx (bs_eb zw (bs_ME zw F n) n a (u : Int)) F) ∧ P z2 := by
  obtain ⟨h3, hF, hq, -⟩ := id hb
  have ui : (nI u).toInt = u := nI_toInt (by omega)
  intro q
  induction q with
  | zero =>
    intro g m z hqg hg hm hz
    obtain ⟨m, rfl⟩ : ∃ k, m = k + 1 := ⟨m - 1, by omega⟩
    obtain rfl : g = F := by omega
    exact ⟨z, by rw [lX1_mostEarned_106, h3, if_pos (nI_le (Nat.le_refl _) (by omega))], hz⟩
  | succ q ih =>
    intro g m z hqg hg hm hz
    obtain ⟨m, rfl⟩ : ∃ k, m = k + 1 := ⟨m - 1, by omega⟩
    obtain ⟨z2, r1, p2⟩ := eb_run (z := z) (x := nI u) hn hb hrec (show g < F by omega) ha (by omega) (by omega) hz
    rw [ui] at r1
    obtain ⟨z3, r2, p3⟩ := ih (g + 1) m z2 (by omega) (by omega) (by omega) p2
    refine ⟨z3, ?_, p3⟩
    rw [lX1_mostEarned_106, h3, if_neg (nI_ge (by omega) (by omega)), bd2_eq r1, nI_1]
    exact r2
/-- the class's reckoning of the most -/
theorem me_run {S : Nat} (hk : K zw) (huq : ∀ v w : Sx, K v → K w → gI v 0 = gI w 0 → v = w) (hb : BW zw F) (hS : gI zw 0 = nI S) (hS5 : S ≤ 513) : ∀ (n dp a : Nat) (z : Sx) (x : Int32), n < dp → n ≤ 5 → a < 1024 → 0 ≤ x.toInt → x.toInt ≤ 480 → BT K z → ∃ z2, fX1_mostEarned dp z zw (nI n) (nI a) x = some (bs_ME zw F n a x.toInt, z2) ∧ BT K z2 := by
  obtain ⟨h3, hF, hq, h17, -⟩ := id hb
  intro n
  induction n with
  | zero =>
    intro dp a z x hdp _ ha h0 h1 hz
    obtain ⟨dp, rfl⟩ : ∃ k, dp = k + 1 := ⟨dp - 1, by omega⟩
    refine ⟨z, ?_, hz⟩
    show gX1_mostEarned (fX1_mostEarned dp) z zw (nI 0) (nI a) x = some (0, z)
    unfold gX1_mostEarned
    rw [if_neg (show ¬ (1 : Int32) < nI 0 by decide), if_neg (show ¬ nI 0 = 1 by decide)]
  | succ n ih =>
    intro dp a z x hdp hn5 ha h0 h1 hz
    obtain ⟨dp, rfl⟩ : ∃ k, dp = k + 1 := ⟨dp - 1, by omega⟩
    show ∃ z2, gX1_mostEarned (fX1_mostEarned dp) z zw (nI (n + 1)) (nI a) x = some (bs_ME zw F (n + 1) a x.toInt, z2) ∧ BT K z2
    by_cases c1 : n = 0
    · subst c1
      obtain ⟨r, r1, r2⟩ := mb_eq (x := x) hb ha
      refine ⟨z, ?_, hz⟩
      unfold gX1_mostEarned
      rw [if_neg (show ¬ (1 : Int32) < nI (0 + 1) by decide), if_pos (show nI (0 + 1) = 1 by decide), bd_eq r1, r2]
    · have p0 : 0 ≤ ((n + 1 : Nat) : Int) * (gI zw 17).toInt := Int.mul_nonneg (by omega) h17.1
      have p1 : ((n + 1 : Nat) : Int) * (gI zw 17).toInt ≤ 5 * 99 := Int.mul_le_mul (by omega) h17.2 h17.1 (by omega)
      have ep : (nI (n + 1) * gI zw 17).toInt = ((n + 1 : Nat) : Int) * (gI zw 17).toInt := i32_mul (nI_toInt (by omega)) rfl (by omega) (by omega)
      obtain ⟨u, hu, eu, hcl⟩ : ∃ u : Nat, u ≤ 480 ∧ mnI x (nI (n + 1) * gI zw 17) = nI u ∧ bs_ME zw F (n + 1) a (u : Int) = bs_ME zw F (n + 1) a x.toInt := by
        by_cases c : nI (n + 1) * gI zw 17 < x
        · have ci := bI_lt ep rfl c
          refine ⟨(((n + 1 : Nat) : Int) * (gI zw 17).toInt).toNat, by omega, ?_, me_cl hb (n + 1) a x.toInt _ (Or.inr ⟨by omega, by omega⟩)⟩
          rw [mnI, if_pos c]
          exact Int32.toInt_inj.1 (by rw [ep, nI_toInt (by omega)]; omega)
        · refine ⟨x.toInt.toNat, by omega, ?_, me_cl hb (n + 1) a x.toInt _ (Or.inl (by omega))⟩
          rw [mnI, if_neg c]
          exact Int32.toInt_inj.1 (by rw [nI_toInt (by omega)]; omega)
      have l1 : (1 : Int32) < nI (n + 1) := nI_lt (a := 1) (by omega) (by omega)
      unfold gX1_mostEarned
      rw [if_pos l1, eu, hS]
      refine nm_g (Q := fun o => ∃ z2, o = some (bs_ME zw F (n + 1) a x.toInt, z2) ∧ BT K z2) (fun k ek => ?_)
      have ek : k = kyv S (n + 1) a u := ek
      refine nm_g (Q := fun o => ∃ z2, o = some (bs_ME zw F (n + 1) a x.toInt, z2) ∧ BT K z2) (fun v3 ev3 => ?_)
      have hin := inb_and ev3
      rw [gd_pos hin]
      by_cases hit : gJ z 0 v3.toNatClampNeg = k
      · rw [if_pos hit]
        refine ⟨z, ?_, hz⟩
        rcases hz _ hin.2 with h | ⟨v, hv, S2, G, n2, a2, u2, g1, g2, g3, g4, g5, g6, g7, g8, g9, g10⟩
        · exact absurd (ek.symm.trans (hit.symm.trans h)) (kyv_0 hS5 (by omega) (by omega) ha (by omega))
        · obtain ⟨i1, i2, i3, i4⟩ := kyv_inj g2 (by omega) g7 g8 hS5 (by omega) ha (by omega) (g9.symm.trans (hit.trans ek))
          subst i1 i2 i3 i4
          have ev : v = zw := huq v zw hv hk (g1.trans hS.symm)
          subst ev
          have eG : G = F := (nI_eq (by omega) (by omega)).1 (g3.symm.trans h3)
          subst eG
          rw [g10, hcl]
      · rw [if_neg hit]
        obtain ⟨z2, r1, p2⟩ := ml_run (rc := fX1_mostEarned dp) (k9 := fun (z10 : Sx) (i11 : Int64) => some (i11, sJ (sJ z10 0 v3.toNatClampNeg k) 1 v3.toNatClampNeg i11)) (k6 := k) (v8 := v3) (P := BT K) (n := n) (a := a) (u := u) (by omega) hb (fun a z x b1 b2 b3 b4 => ih dp a z x (by omega) (by omega) b1 b2 b3 b4) ha hu F 0 FU z (by omega) (by omega) (FU_lt (by omega)) hz
        refine ⟨sJ (sJ z2 0 v3.toNatClampNeg k) 1 v3.toNatClampNeg (bs_mx (bs_eb zw (bs_ME zw F n) n a (u : Int)) F), ?_, bt_put p2 hk hS hS5 h3 hF (by omega) hn5 ha (by omega) ek rfl⟩
        rw [← hcl]
        exact r1
/-- the first of the best -/
def bs_ch (zw : Sx) (F : Nat) : Nat → Nat → Int → Option Nat
  | 0, _, _ => none
  | n + 1, a, l => bs_ix (bs_eb zw (bs_ME zw F n) n a l) F
def bs_ic : Option Nat → Int32
  | none => -2
  | some g => nI g
theorem cl_run {n a g : Nat} {x : Int32} {P : Sx → Prop} (hn : n ≤ 7) (hb : BW zw F) (hrec : ∀ (a : Nat) (z : Sx) (x : Int32), a < 1024 → 0 ≤ x.toInt → x.toInt ≤ 480 → P z → ∃ z2, fX1_mostEarned 16 z zw (nI n) (nI a) x = some (bs_ME zw F n a x.toInt, z2) ∧ P z2) (ha : a < 1024) (h0 : 0 ≤ x.toInt) (h1 : x.toInt ≤ 480) (hg : g < F) (hgm : bs_eb zw (bs_ME zw F n) n a x.toInt g = bs_mx (bs_eb zw (bs_ME zw F n) n a x.toInt) F) (hgl : ∀ j : Nat, j < g → ¬ bs_eb zw (bs_ME zw F n) n a x.toInt j = bs_mx (bs_eb zw (bs_ME zw F n) n a x.toInt) F) : ∀ (q j m : Nat) (z : Sx), g - j = q → j ≤ g → q < m → P z → ∃ z2, lX1_choice_24 zw (nI (n + 1)) (nI a) x (bs_mx (bs_eb zw (bs_ME zw F n) n a x.toInt) F) m z (nI j) = some (nI g, z2) ∧ P z2 := by
  obtain ⟨h3, hF, hq, -⟩ := id hb
  intro q
  induction q with
  | zero =>
    intro j m z hqj hj hm hz
    obtain ⟨m, rfl⟩ : ∃ k, m = k + 1 := ⟨m - 1, by omega⟩
    obtain rfl : j = g := by omega
    obtain ⟨z2, r1, p2⟩ := eb_run (z := z) (x := x) hn hb hrec hg ha h0 h1 hz
    exact ⟨z2, by rw [lX1_choice_24, h3, if_neg (nI_ge (by omega) (by omega)), bd2_eq r1, if_pos hgm], p2⟩
  | succ q ih =>
    intro j m z hqj hj hm hz
    obtain ⟨m, rfl⟩ : ∃ k, m = k + 1 := ⟨m - 1, by omega⟩
    obtain ⟨z2, r1, p2⟩ := eb_run (z := z) (x := x) hn hb hrec (show j < F by omega) ha h0 h1 hz
    obtain ⟨z3, r2, p3⟩ := ih (j + 1) m z2 (by omega) (by omega) (by omega) p2
    refine ⟨z3, ?_, p3⟩
    rw [lX1_choice_24, h3, if_neg (nI_ge (by omega) (by omega)), bd2_eq r1, if_neg (hgl j (by omega)), nI_1]
    exact r2
theorem ch_run {S : Nat} (hk : K zw) (huq : ∀ v w : Sx, K v → K w → gI v 0 = gI w 0 → v = w) (hb : BW zw F) (hS : gI zw 0 = nI S) (hS5 : S ≤ 513) {n a : Nat} {z : Sx} {x : Int32} (hn : n ≤ 5) (ha : a < 1024) (h0 : 0 ≤ x.toInt) (h1 : x.toInt ≤ 480) (hz : BT K z) : ∃ z2, fX1_choice z zw (nI n) (nI a) x = some (bs_ic (bs_ch zw F n a x.toInt), z2) ∧ BT K z2 := by
  have hF := hb.2.1
  obtain ⟨z2, r1, p2⟩ := me_run hk huq hb hS hS5 n 16 a z x (by omega) hn ha h0 h1 hz
  unfold fX1_choice
  rw [bd2_eq r1]
  cases n with
  | zero => exact ⟨z2, by rw [show bs_ME zw F 0 a x.toInt = 0 from rfl, if_neg (by decide)]; rfl, p2⟩
  | succ n =>
    have e1 : bs_ME zw F (n + 1) a x.toInt = bs_mx (bs_eb zw (bs_ME zw F n) n a x.toInt) F := rfl
    have e2 : bs_ch zw F (n + 1) a x.toInt = bs_ix (bs_eb zw (bs_ME zw F n) n a x.toInt) F := rfl
    rw [e1, e2]
    cases q : bs_ix (bs_eb zw (bs_ME zw F n) n a x.toInt) F with
    | none => exact ⟨z2, by rw [ix_none F q, if_neg (by decide)]; rfl, p2⟩
    | some g =>
      obtain ⟨g1, g2, g3, g4⟩ := ix_some F q
      rw [if_pos ((i64_lt _ _).2 (by rw [bs_i0]; exact g3))]
      exact cl_run (P := BT K) (by omega) hb (fun a z x b1 b2 b3 b4 => me_run hk huq hb hS hS5 n 16 a z x (by omega) (by omega) b1 b2 b3 b4) ha h0 h1 g1 g2 g4 g 0 FU z2 (by omega) (by omega) (FU_lt (by omega)) p2
theorem eb_pos {rc : Nat → Int → Int64} {n a g : Nat} {l : Int} (h : 0 < (bs_eb zw rc n a l g).toInt) : (gT zw 9 g).toInt ≤ l ∧ bs_op zw g a = true := by
  by_cases c : (gT zw 9 g).toInt ≤ l ∧ bs_op zw g a = true
  · exact c
  · unfold bs_eb at h
    rw [if_neg c, bs_i1] at h
    omega
/-- what stays hidden -/
def bs_hd (zw : Sx) (a : Nat) : Nat → Int32
  | 0 => 0
  | g + 1 => if a.testBit g = true then bs_hd zw a g else bs_hd zw a g + gT zw 13 g
theorem hd_run {a : Nat} (ha : a < 1024) (h3 : gI zw 3 = nI F) (dF : F ≤ 10) : ∀ (n g : Nat), g ≤ F → F - g < n → lX7_together_5 zw 10 (gT zw 13) (nI a ^^^ (-1)) n (bs_hd zw a g) (nI g) = some (bs_hd zw a F) := by
  intro n
  induction n with
  | zero => intro g _ hm; omega
  | succ n ih =>
    intro g hg hm
    rw [lX7_together_5, h3]
    by_cases c : g = F
    · rw [c, if_pos (nI_le (Nat.le_refl F) (by omega))]
    · have st : bs_hd zw a (g + 1) = if a.testBit g = true then bs_hd zw a g else bs_hd zw a g + gT zw 13 g := rfl
      rw [if_neg (nI_ge (by omega) (by omega)), bd_eq (cpl_n ha (by omega)), nI_1]
      simp only [jn]
      by_cases q : a.testBit g = true
      · rw [if_pos q, if_pos rfl]
        rw [if_pos q] at st
        rw [← st]
        exact ih (g + 1) (by omega) (by omega)
      · rw [if_neg q, if_neg one0, bd_eq (at_k (nI_toInt (n := g) (by omega)) (by omega) (by decide))]
        rw [if_neg q] at st
        rw [← st]
        exact ih (g + 1) (by omega) (by omega)
theorem hd_eq {a : Nat} (ha : a < 1024) (hb : BW zw F) : fX7_hiddenCoins zw (nI a) = some (bs_hd zw a F) := by
  unfold fX7_hiddenCoins fX7_together
  have e : lX7_together_5 zw 10 (gT zw 13) (nI a ^^^ (-1)) FU 0 0 = some (bs_hd zw a F) := hd_run ha hb.1 hb.2.1 FU 0 (by omega) (FU_lt (by have := hb.2.1; omega))
  rw [bd_eq e]
def bs_HM (zw : Sx) (F : Nat) : Nat → Nat → Int → Int64
  | 0, a, _ => (bs_hd zw a F).toInt64 * hh100 0
  | n + 1, a, l => match bs_ix (bs_eb zw (bs_ME zw F n) n a l) F with
    | none => (bs_hd zw a F).toInt64 * hh100 (n + 1)
    | some g => (gT zw 10 g).toInt64 * bs_HM zw F n (a ||| 2 ^ g) (l - (gT zw 9 g).toInt) + (100 - gT zw 10 g).toInt64 * bs_HM zw F n a (l - (gT zw 9 g).toInt)
theorem hm_none {n a : Nat} {l : Int} (h : bs_ix (bs_eb zw (bs_ME zw F n) n a l) F = none) : bs_HM zw F (n + 1) a l = (bs_hd zw a F).toInt64 * hh100 (n + 1) := by
  rw [bs_HM, h]
theorem hm_some {n a g : Nat} {l : Int} (h : bs_ix (bs_eb zw (bs_ME zw F n) n a l) F = some g) : bs_HM zw F (n + 1) a l = (gT zw 10 g).toInt64 * bs_HM zw F n (a ||| 2 ^ g) (l - (gT zw 9 g).toInt) + (100 - gT zw 10 g).toInt64 * bs_HM zw F n a (l - (gT zw 9 g).toInt) := by
  rw [bs_HM, h]
/-- the class's reckoning of what stays hidden on the mean -/
theorem hm_run {S : Nat} (hk : K zw) (huq : ∀ v w : Sx, K v → K w → gI v 0 = gI w 0 → v = w) (hb : BW zw F) (hS : gI zw 0 = nI S) (hS5 : S ≤ 513) : ∀ (n dp a : Nat) (z : Sx) (x : Int32), n < dp → n ≤ 5 → a < 1024 → 0 ≤ x.toInt → x.toInt ≤ 480 → BT K z → ∃ z2, fX1_hiddenMean dp z zw (nI n) (nI a) x = some (bs_HM zw F n a x.toInt, z2) ∧ BT K z2 := by
  obtain ⟨h3, hF, hq, -⟩ := id hb
  intro n
  induction n with
  | zero =>
    intro dp a z x hdp hn ha h0 h1 hz
    obtain ⟨dp, rfl⟩ : ∃ k, dp = k + 1 := ⟨dp - 1, by omega⟩
    obtain ⟨z2, r1, p2⟩ := ch_run (n := 0) hk huq hb hS hS5 hn ha h0 h1 hz
    refine ⟨z2, ?_, p2⟩
    show gX1_hiddenMean (fX1_hiddenMean dp) z zw (nI 0) (nI a) x = _
    unfold gX1_hiddenMean
    rw [bd2_eq r1, show bs_ic (bs_ch zw F 0 a x.toInt) = -2 from rfl, if_neg (by decide), bd_eq (hd_eq ha hb), bd_eq (hun8_eq (by omega))]
    rfl
  | succ n ih =>
    intro dp a z x hdp hn ha h0 h1 hz
    obtain ⟨dp, rfl⟩ : ∃ k, dp = k + 1 := ⟨dp - 1, by omega⟩
    obtain ⟨z2, r1, p2⟩ := ch_run (n := n + 1) hk huq hb hS hS5 hn ha h0 h1 hz
    show ∃ z2, gX1_hiddenMean (fX1_hiddenMean dp) z zw (nI (n + 1)) (nI a) x = some (bs_HM zw F (n + 1) a x.toInt, z2) ∧ BT K z2
    unfold gX1_hiddenMean
    rw [bd2_eq r1]
    have e2 : bs_ch zw F (n + 1) a x.toInt = bs_ix (bs_eb zw (bs_ME zw F n) n a x.toInt) F := rfl
    rw [e2]
    cases q : bs_ix (bs_eb zw (bs_ME zw F n) n a x.toInt) F with
    | none =>
      refine ⟨z2, ?_, p2⟩
      rw [hm_none q, show bs_ic none = -2 from rfl, if_neg (by decide), bd_eq (hd_eq ha hb), bd_eq (hun8_eq (by omega))]
    | some g =>
      obtain ⟨g1, g2, g3, g4⟩ := ix_some F q
      obtain ⟨c1, c2⟩ := eb_pos (by rw [g2]; exact g3)
      have hm := (hq g g1).1
      have gi : (nI g).toInt = g := nI_toInt (by omega)
      have e9 : fX8_at 10 (gT zw 9) (nI g) = some (gT zw 9 g) := at_k gi (by omega) (by decide)
      have e10 : fX8_at 10 (gT zw 10) (nI g) = some (gT zw 10 g) := at_k gi (by omega) (by decide)
      have es : (x - gT zw 9 g).toInt = x.toInt - (gT zw 9 g).toInt := i32_sub rfl rfl (by omega) (by omega)
      have eb : fX8_bit (nI g) = some (nI (2 ^ g)) := by
        unfold fX8_bit
        rw [bit_f ⟨g, by omega⟩]
      have en : nI (n + 1) - 1 = nI n := nI_pred n
      have ha2 : a ||| 2 ^ g < 1024 := Nat.or_lt_two_pow (n := 10) ha (Nat.pow_lt_pow_right (by decide) (by omega))
      obtain ⟨z3, r2, p3⟩ := ih dp (a ||| 2 ^ g) z2 (x - gT zw 9 g) (by omega) (by omega) ha2 (by omega) (by omega) p2
      obtain ⟨z4, r3, p4⟩ := ih dp a z3 (x - gT zw 9 g) (by omega) (by omega) ha (by omega) (by omega) p3
      rw [es] at r2 r3
      refine ⟨z4, ?_, p4⟩
      rw [hm_some q, show bs_ic (some g) = nI g from rfl, if_pos (nI_ge0 (by omega)), bd_eq e9, bd_eq e10, bd_eq eb, en, or_n, bd2_eq r2, bd2_eq r3]
end B22

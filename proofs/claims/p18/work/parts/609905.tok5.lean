/-! Words: the reference holds up to seven letters as one number. -/
def pkv (f : Nat → Int32) (q : Nat) : Nat → Int64
  | 0 => 0
  | j + 1 => (pkv f q j <<< (Int32.toInt64 8 &&& 63)) ||| (f (q + j)).toInt64
def pkn (f : Nat → Int32) (q : Nat) : Nat → Nat
  | 0 => 0
  | j + 1 => pkn f q j * 256 + (f (q + j)).toInt.toNat
theorem bv64 {x : Int64} {a : Nat} (hx : x.toInt = a) (ha : a < 2 ^ 63) : x.toBitVec = BitVec.ofNat 64 a := by
  have h1 : x.toBitVec.toInt = a := hx
  apply BitVec.eq_of_toNat_eq
  rw [BitVec.toNat_ofNat]
  rw [BitVec.toInt_eq_toNat_cond] at h1
  have h2 := x.toBitVec.isLt
  split at h1 <;> omega
theorem sh8 {x : Int64} {y : Int32} {a c : Nat} (hx : x.toInt = a) (ha : a < 2 ^ 48) (hy : y.toInt = c) (hc : c < 256) : ((x <<< (Int32.toInt64 8 &&& 63)) ||| y.toInt64).toInt = ((a * 256 + c : Nat) : Int) := by
  have e8 : (Int32.toInt64 8 &&& 63) = 8 := by decide
  have hx1 := bv64 hx (by omega)
  have hy1 : y.toInt64.toBitVec = BitVec.ofNat 64 c := bv64 (by rw [Int32.toInt_toInt64]; exact hy) (by omega)
  rw [e8]
  have hb : ((x <<< (8 : Int64)) ||| y.toInt64).toBitVec = BitVec.ofNat 64 (a * 256 + c) := by
    rw [Int64.toBitVec_or, Int64.toBitVec_shiftLeft, hx1, hy1]
    have e9 : ((8 : Int64).toBitVec.smod 64) = 8#64 := by decide
    rw [e9]
    apply BitVec.eq_of_toNat_eq
    rw [BitVec.toNat_or, BitVec.toNat_ofNat, BitVec.toNat_ofNat]
    have e1 : (BitVec.ofNat 64 a <<< 8#64).toNat = a <<< 8 := by
      rw [BitVec.shiftLeft_eq', BitVec.toNat_shiftLeft, BitVec.toNat_ofNat]
      have : (8#64).toNat = 8 := rfl
      rw [this, Nat.mod_eq_of_lt (show a < 2 ^ 64 by omega), Nat.shiftLeft_eq]
      exact Nat.mod_eq_of_lt (by omega)
    rw [e1, Nat.mod_eq_of_lt (show c < 2 ^ 64 by omega), ← Nat.shiftLeft_add_eq_or_of_lt (show c < 2 ^ 8 by omega), Nat.shiftLeft_eq]
    exact (Nat.mod_eq_of_lt (by omega)).symm
  show ((x <<< (8 : Int64)) ||| y.toInt64).toBitVec.toInt = _
  rw [hb, BitVec.toInt_eq_toNat_cond, BitVec.toNat_ofNat, Nat.mod_eq_of_lt (show a * 256 + c < 2 ^ 64 by omega)]
  split <;> omega
theorem pkv_i {f : Nat → Int32} {q : Nat} : ∀ j : Nat, j ≤ 7 → (∀ i : Nat, i < j → 0 ≤ (f (q + i)).toInt ∧ (f (q + i)).toInt < 128) → (pkv f q j).toInt = (pkn f q j : Int) ∧ pkn f q j < 256 ^ j := by
  intro j
  induction j with
  | zero => intro _ _; exact ⟨show (0 : Int64).toInt = ((0 : Nat) : Int) by decide, show 0 < 256 ^ 0 by decide⟩
  | succ j ih =>
    intro hj hd
    obtain ⟨h1, h2⟩ := ih (by omega) (fun i hi => hd i (by omega))
    have h3 := hd j (by omega)
    have hp : (256 : Nat) ^ j ≤ 256 ^ 6 := Nat.pow_le_pow_right (by decide) (by omega)
    have hc : (f (q + j)).toInt = ((f (q + j)).toInt.toNat : Int) := by omega
    refine ⟨sh8 h1 (by omega) hc (by omega), ?_⟩
    show pkn f q j * 256 + (f (q + j)).toInt.toNat < 256 ^ (j + 1)
    rw [Nat.pow_succ]
    omega
theorem pkn_inj {f g : Nat → Int32} {q r : Nat} : ∀ (j i : Nat), (∀ t : Nat, t < j → 0 < (f (q + t)).toInt ∧ (f (q + t)).toInt < 256) → (∀ t : Nat, t < i → 0 < (g (r + t)).toInt ∧ (g (r + t)).toInt < 256) → pkn f q j = pkn g r i → j = i ∧ ∀ t : Nat, t < j → f (q + t) = g (r + t) := by
  intro j
  induction j with
  | zero =>
    intro i _ hg e
    cases i with
    | zero => exact ⟨rfl, fun t ht => by omega⟩
    | succ i =>
      have h1 := hg i (by omega)
      have e : 0 = pkn g r i * 256 + (g (r + i)).toInt.toNat := e
      omega
  | succ j ih =>
    intro i hf hg e
    have h0 := hf j (by omega)
    cases i with
    | zero =>
      have e : pkn f q j * 256 + (f (q + j)).toInt.toNat = 0 := e
      omega
    | succ i =>
      have h1 := hg i (by omega)
      have e : pkn f q j * 256 + (f (q + j)).toInt.toNat = pkn g r i * 256 + (g (r + i)).toInt.toNat := e
      have e1 : pkn f q j = pkn g r i := by omega
      have e2 : f (q + j) = g (r + i) := Int32.toInt_inj.1 (by omega)
      obtain ⟨a, b⟩ := ih i (fun t ht => hf t (by omega)) (fun t ht => hg t (by omega)) e1
      subst a
      refine ⟨rfl, fun t ht => ?_⟩
      by_cases c : t = j
      · subst c; exact e2
      · exact b t (by omega)
theorem pkn_cg {f g : Nat → Int32} {q r : Nat} : ∀ n : Nat, (∀ t : Nat, t < n → f (q + t) = g (r + t)) → pkn f q n = pkn g r n := by
  intro n
  induction n with
  | zero => intro _; rfl
  | succ n ih =>
    intro h
    show pkn f q n * 256 + (f (q + n)).toInt.toNat = pkn g r n * 256 + (g (r + n)).toInt.toNat
    rw [ih (fun t ht => h t (by omega)), h n (by omega)]
def wcst : List Int64 := [1953066341, 504363246962, 1819242347, 26982, 1937010544, 28530, 6385252, 7237492, 439721749620, 1802071652, 7364985, 1868850291, 30796695599342963, 1818584692, 439956631140, 500135716211, 111469206070628]
theorem wc_ok : ∀ w : Fin 17, (wcst.getD w.val 0).toInt = (pkn (sch w.val) 0 (slen.getD w.val 0) : Int) ∧ 1 ≤ slen.getD w.val 0 ∧ slen.getD w.val 0 ≤ 7 := by decide +kernel
theorem sc_ok : ∀ w : Fin 17, ∀ t : Fin 7, t.val < slen.getD w.val 0 → 97 ≤ (sch w.val t.val).toInt ∧ (sch w.val t.val).toInt ≤ 122 := by decide +kernel
section ISW
variable {f : Nat → Int32} {N p : Nat} {z : Sx}
theorem isw_run {k : Int64 → Int32 → Option (Int32 × Sx)} {x1 : Int64} {q : Nat} (h : T9 f N z q) : ∀ (n j : Nat) (v : Int64), q + j ≤ N → v = pkv f q (min 8 j) → N - (q + j) < n → lX9_isWord_10 k z x1 n v (nI j) = k (pkv f q (min 8 (rnP isL f N (q + j) - q))) (nI (rnP isL f N (q + j) - q)) := by
  obtain ⟨h1, h12, hp, hN, hb⟩ := id h
  intro n
  induction n with
  | zero => intro j v _ _ hm; omega
  | succ n ih =>
    intro j v hj hv hm
    rw [lX9_isWord_10, h12, nI_add, bd_eq (ilt9 h hj)]
    by_cases c : q + j < N ∧ isL (f (q + j)) = true
    · rw [if_pos c, if_neg one0, rq_step c, nI_1, Nat.add_assoc]
      simp only [jn, nm]
      by_cases g : 8 ≤ j
      · rw [if_pos (show (8 : Int32) ≤ nI j from nI_le (a := 8) g (by omega))]
        exact ih (j + 1) v (by omega) (by rw [hv, show min 8 j = 8 by omega, show min 8 (j + 1) = 8 by omega]) (by omega)
      · have hs := hb (q + j) c.1
        have hd := isL_i.1 c.2
        have es : gT z 0 (q + j) = f (q + j) := Int32.toInt_inj.1 (hs.2.2.1 (by omega))
        rw [if_neg (show ¬ (8 : Int32) ≤ nI j from nI_ge (b := 8) (by omega) (by decide)), gd_pos ⟨nI_pos (by omega), by rw [nI_clamp (by omega)]; omega⟩, nI_clamp (by omega), es]
        refine ih (j + 1) _ (by omega) ?_ (by omega)
        rw [hv, show min 8 j = j by omega, show min 8 (j + 1) = j + 1 by omega]
        rfl
    · rw [if_neg c, if_pos rfl, rq_stop c, hv, Nat.add_sub_cancel_left]
theorem isw9 {w : Nat} (hw : w < 17) (h : T9 f N z p) : (SPW f (rnP isB f N p) (rnP isL f N (rnP isB f N p)) w → fX9_isWord z (wcst.getD w 0) = some (1, sI z 12 (nI (rnP isB f N p)))) ∧ (¬ SPW f (rnP isB f N p) (rnP isL f N (rnP isB f N p)) w → fX9_isWord z (wcst.getD w 0) = some (0, sI z 12 (nI (rnP isB f N p)))) := by
  obtain ⟨h1, h12, hp, hN, hb⟩ := id h
  have hq := rq_le (P := isB) (b := f) (N := N) hp
  have he := rq_ge (P := isL) (b := f) (N := N) (p := rnP isB f N p)
  have hl := rq_le (P := isL) (b := f) (N := N) hq
  have run := isw_run (k := fun (i12 : Int64) (i13 : Int32) => if i13 ≤ 0 then some ((0 : Int32), sI z 12 (nI (rnP isB f N p))) else if 8 ≤ i13 then some (0, sI z 12 (nI (rnP isB f N p))) else if i12 = wcst.getD w 0 then some (1, sI z 12 (nI (rnP isB f N p))) else some (0, sI z 12 (nI (rnP isB f N p)))) (x1 := wcst.getD w 0) (t9_p h hq) FU 0 0 (by omega) rfl (FU_lt (by omega))
  have e0 : fX9_isWord z (wcst.getD w 0) = lX9_isWord_10 (fun (i12 : Int64) (i13 : Int32) => if i13 ≤ 0 then some ((0 : Int32), sI z 12 (nI (rnP isB f N p))) else if 8 ≤ i13 then some (0, sI z 12 (nI (rnP isB f N p))) else if i12 = wcst.getD w 0 then some (1, sI z 12 (nI (rnP isB f N p))) else some (0, sI z 12 (nI (rnP isB f N p)))) (sI z 12 (nI (rnP isB f N p))) (wcst.getD w 0) FU 0 0 := by
    unfold fX9_isWord
    rw [bd2_eq (see9 h)]
  rw [nI_0, Nat.add_zero] at run
  rw [e0, run]
  have hin : ∀ i : Nat, i < rnP isL f N (rnP isB f N p) - rnP isB f N p → 97 ≤ (f (rnP isB f N p + i)).toInt ∧ (f (rnP isB f N p + i)).toInt ≤ 122 := fun i hi => isL_i.1 (rq_in (P := isL) (b := f) (N := N) (p := rnP isB f N p) (i := rnP isB f N p + i) (by omega) (by omega)).2
  obtain ⟨w1, w2, w3⟩ := wc_ok ⟨w, hw⟩
  have w1 : (wcst.getD w 0).toInt = (pkn (sch w) 0 (slen.getD w 0) : Int) := w1
  have w2 : 1 ≤ slen.getD w 0 := w2
  have w3 : slen.getD w 0 ≤ 7 := w3
  have hsc : ∀ t : Nat, t < slen.getD w 0 → 97 ≤ (sch w (0 + t)).toInt ∧ (sch w (0 + t)).toInt ≤ 122 := fun t ht => by
    rw [Nat.zero_add]; exact sc_ok ⟨w, hw⟩ ⟨t, by omega⟩ ht
  have hpk := pkv_i (f := f) (q := rnP isB f N p)
  refine ⟨fun s => ?_, fun s => ?_⟩
  · have hlen := s.1
    rw [hlen, if_neg (nI_nle (by omega) (by omega)), if_neg (show ¬ (8 : Int32) ≤ nI (slen.getD w 0) from nI_ge (b := 8) (by omega) (by decide)), if_pos ?_]
    rw [show min 8 (slen.getD w 0) = slen.getD w 0 by omega]
    refine Int64.toInt.inj ?_
    rw [(hpk (slen.getD w 0) w3 (fun i hi => by have := hin i (by omega); omega)).1, w1, pkn_cg (g := sch w) (r := 0) (slen.getD w 0) (fun i hi => by rw [Nat.zero_add]; exact s.2 i hi)]
  · by_cases l0 : rnP isL f N (rnP isB f N p) - rnP isB f N p = 0
    · rw [l0, if_pos (by decide)]
    · rw [if_neg (nI_nle (by omega) (by omega))]
      by_cases l8 : 8 ≤ rnP isL f N (rnP isB f N p) - rnP isB f N p
      · rw [if_pos (show (8 : Int32) ≤ nI (rnP isL f N (rnP isB f N p) - rnP isB f N p) from nI_le (a := 8) l8 (by omega))]
      · rw [if_neg (show ¬ (8 : Int32) ≤ nI (rnP isL f N (rnP isB f N p) - rnP isB f N p) from nI_ge (b := 8) (by omega) (by decide)), if_neg ?_]
        intro e
        refine s ?_
        rw [show min 8 (rnP isL f N (rnP isB f N p) - rnP isB f N p) = rnP isL f N (rnP isB f N p) - rnP isB f N p by omega] at e
        have e1 := congrArg Int64.toInt e
        rw [(hpk _ (by omega) (fun i hi => by have := hin i hi; omega)).1, w1] at e1
        obtain ⟨a, b⟩ := pkn_inj _ _ (fun t ht => by have := hin t ht; omega) (fun t ht => by have := hsc t ht; omega) (Int.ofNat_inj.1 e1)
        exact ⟨a, fun i hi => by have := b i (by omega); rw [Nat.zero_add] at this; exact this⟩
end ISW

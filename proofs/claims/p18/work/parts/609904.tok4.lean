/-! The reference sees the same signs. -/
def SB (f s : Int32) : Prop := 0 ≤ f.toInt ∧ f.toInt ≤ 255 ∧ (f.toInt < 128 → s.toInt = f.toInt) ∧ (128 ≤ f.toInt → s.toInt = f.toInt - 256)
theorem sb_and {f s : Int32} (h : SB f s) : s &&& 255 = f := by
  obtain ⟨h0, h1, h2, h3⟩ := h
  obtain ⟨k, hk, rfl⟩ := i32_cases (x := f) (n := 256) (by decide) h0 (by omega)
  have ek : (nI k).toInt = k := nI_toInt (by omega)
  by_cases c : k < 128
  · have es : s = nI k := Int32.toInt_inj.1 (h2 (by omega))
    rw [es]
    have : ∀ k : Fin 256, nI k.val &&& 255 = nI k.val := by decide +kernel
    exact this ⟨k, hk⟩
  · have e1 : (nI k - 256).toInt = (k : Int) - 256 := i32_sub ek (show (256 : Int32).toInt = 256 by decide) (by omega) (by omega)
    have es : s = nI k - 256 := Int32.toInt_inj.1 (by rw [h3 (by omega), e1, ek])
    rw [es]
    have : ∀ k : Fin 256, (nI k.val - 256) &&& 255 = nI k.val := by decide +kernel
    exact this ⟨k, hk⟩
theorem sb_32 {f s : Int32} (h : SB f s) : s = 32 ↔ f = 32 := by
  obtain ⟨h0, h1, h2, h3⟩ := h
  have e : (32 : Int32).toInt = 32 := by decide
  constructor
  · intro q; exact Int32.toInt_inj.1 (by have := congrArg Int32.toInt q; omega)
  · intro q; exact Int32.toInt_inj.1 (by have := congrArg Int32.toInt q; omega)
theorem isD_i {x : Int32} : isD x = true ↔ 48 ≤ x.toInt ∧ x.toInt ≤ 57 := by
  unfold isD
  rw [decide_eq_true_iff, i32_le, i32_le, show (48 : Int32).toInt = 48 by decide, show (57 : Int32).toInt = 57 by decide]
theorem isL_i {x : Int32} : isL x = true ↔ 97 ≤ x.toInt ∧ x.toInt ≤ 122 := by
  unfold isL
  rw [decide_eq_true_iff, i32_le, i32_le, show (97 : Int32).toInt = 97 by decide, show (122 : Int32).toInt = 122 by decide]
theorem sI_self {z : Sx} {k : Nat} : sI z k (gI z k) = z := by
  have e : upd z.1 k (z.1 k) = z.1 := by
    funext j
    by_cases c : j = k
    · subst c; exact if_pos rfl
    · exact if_neg c
  show (upd z.1 k (z.1 k), z.2) = z
  rw [e]
theorem sI_sI {z : Sx} {k : Nat} {a b : Int32} : sI (sI z k a) k b = sI z k b := by
  have e : upd (upd z.1 k a) k b = upd z.1 k b := by
    funext j
    by_cases c : j = k
    · rw [show upd (upd z.1 k a) k b j = b from if_pos c, show upd z.1 k b j = b from if_pos c]
    · rw [show upd (upd z.1 k a) k b j = upd z.1 k a j from if_neg c, show upd z.1 k b j = z.1 j from if_neg c]
      exact if_neg c
  show (upd (upd z.1 k a) k b, z.2) = (upd z.1 k b, z.2)
  rw [e]
/-- the reference stands at p of the same signs -/
def T9 (f : Nat → Int32) (N : Nat) (z : Sx) (p : Nat) : Prop := gI z 1 = nI N ∧ gI z 12 = nI p ∧ p ≤ N ∧ N ≤ 400 ∧ ∀ i : Nat, i < N → SB (f i) (gT z 0 i)
section T9S
variable {f : Nat → Int32} {N p : Nat} {z : Sx}
theorem t9_p {q : Nat} (h : T9 f N z p) (hq : q ≤ N) : T9 f N (sI z 12 (nI q)) q := ⟨h.1, rfl, hq, h.2.2.2.1, h.2.2.2.2⟩
theorem t9_I {k : Nat} {v : Int32} (h : T9 f N z p) (h1 : ¬ 1 = k) (h2 : ¬ 12 = k) : T9 f N (sI z k v) p := ⟨(show upd z.1 k v 1 = z.1 1 from if_neg h1).trans h.1, (show upd z.1 k v 12 = z.1 12 from if_neg h2).trans h.2.1, h.2.2.1, h.2.2.2.1, h.2.2.2.2⟩
theorem t9_T {k i : Nat} {v : Int32} (h : T9 f N z p) (h0 : ¬ 0 = k) : T9 f N (sT z k i v) p := ⟨h.1, h.2.1, h.2.2.1, h.2.2.2.1, by rw [show gT (sT z k i v) 0 = gT z 0 from if_neg h0]; exact h.2.2.2.2⟩
theorem idg9 {j : Nat} (h : T9 f N z p) (hj : j ≤ N) : fX9_isDigit z (nI j) = some (if j < N ∧ isD (f j) = true then 1 else 0) := by
  obtain ⟨h1, -, -, hN, hb⟩ := h
  unfold fX9_isDigit
  rw [h1]
  by_cases c : j < N
  · have hs := hb j c
    have hi := isD_i (x := f j)
    obtain ⟨s0, s1, s2, s3⟩ := hs
    rw [if_neg (nI_ge c (by omega)), gd_pos ⟨nI_pos (by omega), by rw [nI_clamp (by omega)]; omega⟩, nI_clamp (by omega)]
    have e48 : (48 : Int32).toInt = 48 := by decide
    have e57 : (57 : Int32).toInt = 57 := by decide
    by_cases c1 : gT z 0 j < 48
    · have c1i := bI_lt rfl e48 c1
      rw [if_pos c1, if_neg (fun q => by have := hi.1 q.2; omega)]
    · have c1i := bI_nlt rfl e48 c1
      rw [if_neg c1]
      by_cases c2 : 57 < gT z 0 j
      · have c2i := bI_lt e57 rfl c2
        rw [if_pos c2, if_neg (fun q => by have := hi.1 q.2; omega)]
      · have c2i := bI_nlt e57 rfl c2
        rw [if_neg c2, if_pos ⟨c, hi.2 (by omega)⟩]
  · rw [if_pos (nI_le (by omega) (by omega)), if_neg (fun q => c q.1)]
theorem ilt9 {j : Nat} (h : T9 f N z p) (hj : j ≤ N) : fX9_isLetter z (nI j) = some (if j < N ∧ isL (f j) = true then 1 else 0) := by
  obtain ⟨h1, -, -, hN, hb⟩ := h
  unfold fX9_isLetter
  rw [h1]
  by_cases c : j < N
  · have hs := hb j c
    have hi := isL_i (x := f j)
    obtain ⟨s0, s1, s2, s3⟩ := hs
    rw [if_neg (nI_ge c (by omega)), gd_pos ⟨nI_pos (by omega), by rw [nI_clamp (by omega)]; omega⟩, nI_clamp (by omega)]
    have e48 : (97 : Int32).toInt = 97 := by decide
    have e57 : (122 : Int32).toInt = 122 := by decide
    by_cases c1 : gT z 0 j < 97
    · have c1i := bI_lt rfl e48 c1
      rw [if_pos c1, if_neg (fun q => by have := hi.1 q.2; omega)]
    · have c1i := bI_nlt rfl e48 c1
      rw [if_neg c1]
      by_cases c2 : 122 < gT z 0 j
      · have c2i := bI_lt e57 rfl c2
        rw [if_pos c2, if_neg (fun q => by have := hi.1 q.2; omega)]
      · have c2i := bI_nlt e57 rfl c2
        rw [if_neg c2, if_pos ⟨c, hi.2 (by omega)⟩]
  · rw [if_pos (nI_le (by omega) (by omega)), if_neg (fun q => c q.1)]
theorem see_run {k : Sx → Option (Int32 × Sx)} : ∀ (n p : Nat) (z : Sx), T9 f N z p → N - p < n → lX9_see_0 k n z = k (sI z 12 (nI (rnP isB f N p))) := by
  intro n
  induction n with
  | zero => intro p z _ hm; omega
  | succ n ih =>
    intro p z h hm
    obtain ⟨h1, h12, hp, hN, hb⟩ := id h
    have hself : sI z 12 (nI p) = z := by rw [← h12]; exact sI_self
    rw [lX9_see_0, h1, h12]
    by_cases c : p < N
    · rw [if_neg (nI_ge c (by omega)), gd_pos ⟨nI_pos (by omega), by rw [nI_clamp (by omega)]; omega⟩, nI_clamp (by omega)]
      by_cases d : f p = 32
      · rw [if_pos ((sb_32 (hb p c)).2 d), nI_1, ih (p + 1) _ (t9_p h (by omega)) (by omega), sI_sI, rq_step ⟨c, isB_iff.2 d⟩]
      · rw [if_neg (fun q => d ((sb_32 (hb p c)).1 q)), rq_stop (fun q => d (isB_iff.1 q.2)), hself]
    · rw [if_pos (nI_le (by omega) (by omega)), rq_stop (fun q => c q.1), hself]
theorem see9 (h : T9 f N z p) : fX9_see z = some (if rnP isB f N p < N then f (rnP isB f N p) else -1, sI z 12 (nI (rnP isB f N p))) := by
  obtain ⟨h1, h12, hp, hN, hb⟩ := id h
  unfold fX9_see
  rw [see_run FU p z h (FU_lt (by omega))]
  have hq := rq_le (P := isB) (b := f) (N := N) hp
  show (if gI z 1 ≤ nI (rnP isB f N p) then some ((-1 : Int32), sI z 12 (nI (rnP isB f N p))) else gd (inb (nI (rnP isB f N p)) 400) (some ((gT z 0 (nI (rnP isB f N p)).toNatClampNeg) &&& 255, sI z 12 (nI (rnP isB f N p))))) = _
  rw [h1]
  by_cases c : rnP isB f N p < N
  · rw [if_neg (nI_ge c (by omega)), gd_pos ⟨nI_pos (by omega), by rw [nI_clamp (by omega)]; omega⟩, nI_clamp (by omega), sb_and (hb _ c), if_pos c]
  · rw [if_pos (nI_le (by omega) (by omega)), if_neg c]
theorem pass_run : ∀ (n p : Nat) (z : Sx), T9 f N z p → N - p < n → lX9_passWord_0 n z = some (sI z 12 (nI (rnP isL f N p))) := by
  intro n
  induction n with
  | zero => intro p z _ hm; omega
  | succ n ih =>
    intro p z h hm
    obtain ⟨h1, h12, hp, hN, hb⟩ := id h
    have hself : sI z 12 (nI p) = z := by rw [← h12]; exact sI_self
    rw [lX9_passWord_0, h12, bd_eq (ilt9 h hp)]
    by_cases c : p < N ∧ isL (f p) = true
    · rw [if_pos c, if_neg one0, nI_1, ih (p + 1) _ (t9_p h (by omega)) (by omega), sI_sI, rq_step c]
    · rw [if_neg c, if_pos rfl, rq_stop c, hself]
theorem pass9 (h : T9 f N z p) : fX9_passWord z = some (sI z 12 (nI (rnP isL f N p))) := by
  have hN := h.2.2.2.1
  unfold fX9_passWord
  exact pass_run FU p z h (FU_lt (by omega))
theorem num_run {k : Sx → Int32 → Option (Int32 × Sx)} {x1 x2 : Int32} {q : Nat} : ∀ (n p : Nat) (v : Int32) (z : Sx), T9 f N z p → q ≤ p → v = nvl f q (min 5 (p - q)) → N - p < n → lX9_numberHere_34 k x1 x2 (nI q) n z v = k (sI z 12 (nI (rnP isD f N p))) (nvl f q (min 5 (rnP isD f N p - q))) := by
  intro n
  induction n with
  | zero => intro p v z _ _ _ hm; omega
  | succ n ih =>
    intro p v z h hq hv hm
    obtain ⟨h1, h12, hp, hN, hb⟩ := id h
    have hself : sI z 12 (nI p) = z := by rw [← h12]; exact sI_self
    rw [lX9_numberHere_34, h12, bd_eq (idg9 h hp)]
    by_cases c : p < N ∧ isD (f p) = true
    · rw [if_pos c, if_neg one0, nI_1, nI_sub hq]
      have hr : rnP isD f N p = rnP isD f N (p + 1) := rq_step c
      simp only [jn]
      by_cases g : 5 ≤ p - q
      · rw [if_pos (show (5 : Int32) ≤ nI (p - q) from nI_le (a := 5) g (by omega)), ih (p + 1) v _ (t9_p h (by omega)) (by omega) (by rw [hv, show min 5 (p - q) = 5 by omega, show min 5 (p + 1 - q) = 5 by omega]) (by omega), sI_sI, hr]
      · have hs := hb p c.1
        have hd := isD_i.1 c.2
        have es : gT z 0 p = f p := Int32.toInt_inj.1 (hs.2.2.1 (by omega))
        rw [if_neg (show ¬ (5 : Int32) ≤ nI (p - q) from nI_ge (b := 5) (by omega) (by decide)), gd_pos ⟨nI_pos (by omega), by rw [nI_clamp (by omega)]; omega⟩, nI_clamp (by omega), es]
        rw [ih (p + 1) _ _ (t9_p h (by omega)) (by omega) (by rw [hv, show min 5 (p + 1 - q) = p + 1 - q by omega, show min 5 (p - q) = p - q by omega, nvl_s hq, Int32.mul_comm]) (by omega), sI_sI, hr]
    · rw [if_neg c, if_pos rfl, rq_stop c, hself, hv]
end T9S

/-! BEST: the reference goes through all LOOKS. -/
theorem up_at {α : Type} {f : Nat → α} {k : Nat} {a : α} : va_up f k a k = a := va_up_self f k a
theorem upd_upd (f : Nat → Int32) (i : Nat) (a b : Int32) : upd (upd f i a) i b = upd f i b := by
  funext j
  show (if j = i then b else if j = i then a else f j) = if j = i then b else f j
  by_cases c : j = i
  · rw [if_pos c, if_pos c]
  · rw [if_neg c, if_neg c, if_neg c]
theorem upd_id (f : Nat → Int32) (i : Nat) : upd f i (f i) = f := by
  funext j
  show (if j = i then f i else f j) = f j
  by_cases c : j = i
  · rw [if_pos c, c]
  · rw [if_neg c]
theorem sT_sT (z : Sx) (k i : Nat) (a b : Int32) : sT (sT z k i a) k i b = sT z k i b := by
  have e : gT (sT z k i a) k = upd (gT z k) i a := up_at (f := z.2.1)
  unfold sT sTf at e ⊢
  rw [e, upd_upd]
  exact congrArg (fun x => (z.1, x, z.2.2)) (up_up z.2.1 k _ _)
theorem sT_id {z : Sx} {k i : Nat} {a : Int32} (h : gT z k i = a) : sT z k i a = z := by
  subst h
  unfold sT sTf
  rw [upd_id]
  exact congrArg (fun x => (z.1, x, z.2.2)) (up_id z.2.1 k)
/-- what is kept of the places before d -/
def FR (d : Nat) (z z2 : Sx) : Prop := gT z2 25 = gT z 25 ∧ ∀ i : Nat, i < d → gT z2 26 i = gT z 26 i ∧ gT z2 27 i = gT z 27 i ∧ gT z2 32 i = gT z 32 i ∧ gT z2 33 i = gT z 33 i ∧ gJ z2 28 i = gJ z 28 i ∧ gJ z2 29 i = gJ z 29 i ∧ gJ z2 30 i = gJ z 30 i ∧ gJ z2 31 i = gJ z 31 i
theorem fr9_rf {d : Nat} {z : Sx} : FR d z z := ⟨rfl, fun _ _ => ⟨rfl, rfl, rfl, rfl, rfl, rfl, rfl, rfl⟩⟩
theorem fr9_tr {d : Nat} {z z2 z3 : Sx} (h : FR d z z2) (k : FR d z2 z3) : FR d z z3 := by
  refine ⟨k.1.trans h.1, fun i hi => ?_⟩
  obtain ⟨a1, a2, a3, a4, a5, a6, a7, a8⟩ := h.2 i hi
  obtain ⟨b1, b2, b3, b4, b5, b6, b7, b8⟩ := k.2 i hi
  exact ⟨b1.trans a1, b2.trans a2, b3.trans a3, b4.trans a4, b5.trans a5, b6.trans a6, b7.trans a7, b8.trans a8⟩
theorem fr9_le {d d2 : Nat} {z z2 : Sx} (h : FR d2 z z2) (hd : d ≤ d2) : FR d z z2 := ⟨h.1, fun i hi => h.2 i (by omega)⟩
def bs_gn (T : Nat → Int32) (F : Nat) : Nat := bmf T 1 F ||| bmf T 2 F
def tas (z : Sx) (d g : Nat) (b : Int32) : Sx := sT (sT (sT z 27 d b) 24 3 (gT z 33 d - gT z 24 (44 + 6 * g + 1))) 24 (44 + 6 * g + 4) b
theorem tas_T {z : Sx} {d g : Nat} {b : Int32} (i : Nat) : gT (tas z d g b) 24 i = if i = 44 + 6 * g + 4 then b else if i = 3 then gT z 33 d - gT z 24 (44 + 6 * g + 1) else gT z 24 i := rfl
theorem tas_27 {z : Sx} {d g : Nat} {b : Int32} (i : Nat) : gT (tas z d g b) 27 i = if i = d then b else gT z 27 i := rfl
theorem tas_fr {z : Sx} {d g : Nat} {b : Int32} : FR d z (tas z d g b) := ⟨rfl, fun i hi => ⟨rfl, by rw [tas_27, if_neg (by omega)], rfl, rfl, rfl, rfl, rfl, rfl⟩⟩
section S23
variable {zw z z2 : Sx} {F L m : Nat}
theorem gzr_24 (h : GZr zw F L z) (e : gT z2 24 = gT z 24) : GZr zw F L z2 := by
  unfold GZr
  rw [e]
  exact h
theorem gn_1024 {T : Nat → Int32} (h : F ≤ 10) : bs_gn T F < 1024 := gone_lt h
theorem hs_hd {T : Nat → Int32} (d7 : ∀ g : Nat, g < F → T (44 + 6 * g + 4) = 0 ∨ T (44 + 6 * g + 4) = 1 ∨ T (44 + 6 * g + 4) = 2) : ∀ g : Nat, g ≤ F → hsum T zw g = bs_hd zw (bs_gn T F) g := by
  intro g
  induction g with
  | zero => intro _; rfl
  | succ g ih =>
    intro hg
    have e1 : hsum T zw (g + 1) = if T (44 + 6 * g + 4) = 0 then hsum T zw g + gT zw 13 g else hsum T zw g := rfl
    have e2 : bs_hd zw (bs_gn T F) (g + 1) = if (bs_gn T F).testBit g = true then bs_hd zw (bs_gn T F) g else bs_hd zw (bs_gn T F) g + gT zw 13 g := rfl
    have e3 : (bs_gn T F).testBit g = decide (¬ T (44 + 6 * g + 4) = 0) := gone_bit (by omega) (d7 g (by omega))
    rw [e1, e2, e3, ih (by omega)]
    by_cases c : T (44 + 6 * g + 4) = 0
    · rw [if_pos c, decide_eq_false (fun q => q c), if_neg (by decide)]
    · rw [if_neg c, decide_eq_true c, if_pos rfl]
theorem hid_eq (hz : GZr zw F L z) : fX9_hidden z = some (bs_hd zw (bs_gn (gT z 24) F) F) := by
  obtain ⟨hw, d0, dF, d8, dL, d7, dr⟩ := hz
  unfold fX9_hidden
  rw [← hs_hd d7 F (Nat.le_refl F)]
  exact hid_ref hw d0 dF FU 0 (by omega) (FU_lt (by omega))
theorem cl_eq {g : Nat} (hb : BW zw F) (hz : GZr zw F L z) (hg : g < F) : fX9_canLook z (nI g) = some (if (gT zw 9 g).toInt ≤ (gT z 24 3).toInt ∧ bs_op zw g (bs_gn (gT z 24) F) = true then 1 else 0) ∧ (bs_op zw g (bs_gn (gT z 24) F) = true → gT z 24 (44 + 6 * g + 4) = 0) := by
  obtain ⟨r, o1, o2, o3, o4⟩ := can_k hz hg
  have o5 := bo_run hb hg (gn_1024 (T := gT z 24) hz.2.2.1)
  have er : r = if bs_op zw g (bs_gn (gT z 24) F) = true then 1 else 0 := Option.some.inj (o1.symm.trans o5)
  by_cases c : bs_op zw g (bs_gn (gT z 24) F) = true
  · rw [if_pos c] at er
    rw [er] at o3 o4
    refine ⟨?_, fun _ => o4 one0⟩
    rw [o3, if_neg one0]
    by_cases d : gT zw 9 g ≤ gT z 24 3
    · rw [if_pos d, if_pos ⟨(i32_le _ _).1 d, c⟩]
    · rw [if_neg d, if_neg (fun q => d ((i32_le _ _).2 q.1))]
  · rw [if_neg c] at er
    rw [er] at o3
    refine ⟨?_, fun q => absurd q c⟩
    rw [o3, if_pos rfl, if_neg (fun q => c q.2)]
theorem kd_eq {g : Nat} (hz : GZr zw F L z) (hg : g < F) : fX9_kindOf z (nI g) 0 = some (gT zw 12 g) ∧ fX9_kindOf z (nI g) 2 = some (gT zw 14 g) := by
  obtain ⟨hw, d0, dF, d8, dL, d7, dr⟩ := hz
  have hFi : (gT z 24 0).toInt = F := by rw [d0, nI_toInt (by omega)]
  obtain ⟨b1, b2, b3, b4, b5, b6, b7, b8, b9, b10, b11⟩ := hw.2.2.2.2 g (by omega)
  have ck := clampI (x := gT zw 8 g) b5.1
  have h6 := hw.1.2.2
  obtain ⟨p1, p2, p3, -⟩ := hw.2.2.2.1 (gT zw 8 g).toNatClampNeg (by omega)
  have hk : gT z 24 (44 + 6 * g) = nI (gT zw 8 g).toNatClampNeg := by
    rw [← b1]
    exact Int32.toInt_inj.1 (by rw [nI_toInt (by omega)]; omega)
  constructor
  · rw [b9, p1]
    exact ko_eq (j := 0) (by omega) hk (by omega) (by omega)
  · rw [b11, p3]
    exact ko_eq (j := 2) (by omega) hk (by omega) (by omega)
theorem tas_eq {d g : Nat} {b : Int32} (hd : d < 6) (hg : g < 10) (h26 : gT z 26 d = nI g) (hb : b = 0 ∨ b = 1) : fX9_triesAs z (nI d) b = some (tas z d g b) := by
  have cd : (nI d).toNatClampNeg = d := nI_clamp (by omega)
  have e6 : (6 * nI g : Int32) = nI (6 * g) := Int32.toInt_inj.1 (by rw [i32_mul (show (6 : Int32).toInt = 6 by decide) (nI_toInt (n := g) (by omega)) (by omega) (by omega), nI_toInt (by omega)]; omega)
  have e44 : (44 : Int32) + nI (6 * g) = nI (44 + 6 * g) := nI_add 44 (6 * g)
  have a4 : nI (44 + 6 * g) + 4 = nI (44 + 6 * g + 4) := nI_add (44 + 6 * g) 4
  have c4 : (nI (44 + 6 * g + 4)).toNatClampNeg = 44 + 6 * g + 4 := nI_clamp (by omega)
  have ef : ∀ v : Int32, fX9_faultOf (sT z 27 d v) (nI g) 1 = some (gT z 24 (44 + 6 * g + 1)) := fun v => fo_eq (z := sT z 27 d v) (j := 1) hg (by omega)
  unfold fX9_triesAs
  rw [gd_pos (in_n hd (by omega)), cd, h26, bd_eq (ef _), e6, e44, a4]
  simp only [nm, jn]
  rcases hb with rfl | rfl
  · rw [if_pos rfl, gd_pos (in_n (by omega) (by omega)), c4, show (vp_nar .boolean 0 : Int32) = 0 by decide]
    rfl
  · rw [if_neg one0, gd_pos (in_n (by omega) (by omega)), c4, show (vp_nar .boolean 1 : Int32) = 1 by decide]
    rfl
/-- a place is begun -/
def CTd (zw : Sx) (F m d : Nat) (z : Sx) : Prop := gT z 26 d = -1 ∧ gT z 33 d = gT z 24 3 ∧ gJ z 30 d = 0 ∧ gJ z 31 d = (bs_hd zw (bs_gn (gT z 24) F) F).toInt64 * hh100 (m - d) ∧ gT z 32 d = -2
theorem ct_eq {d : Nat} (hm : m ≤ 5) (hd : d ≤ m) (hz : GZr zw F L z) : ∃ z2, fX9_comesTo z (nI d) (nI m) = some z2 ∧ FR d z z2 ∧ gT z2 24 = gT z 24 ∧ CTd zw F m d z2 := by
  have cd : (nI d).toNatClampNeg = d := nI_clamp (by omega)
  have es : nI m - nI d = nI (m - d) := nI_sub hd
  obtain ⟨y, ey⟩ : ∃ y : Sx, y = sJ (sT (sT z 26 d (-1)) 33 d (gT (sT z 26 d (-1)) 24 3)) 30 d 0 := ⟨_, rfl⟩
  have y24 : gT y 24 = gT z 24 := by rw [ey]; rfl
  have eh : fX9_hidden y = some (bs_hd zw (bs_gn (gT z 24) F) F) := by
    rw [← y24]
    exact hid_eq (gzr_24 hz y24)
  refine ⟨sT (sJ y 31 d ((bs_hd zw (bs_gn (gT z 24) F) F).toInt64 * hh100 (m - d))) 32 d (-2), ?_, ?_, ?_, ?_⟩
  · unfold fX9_comesTo
    rw [gd_pos (in_n (by omega) (by omega)), cd, ← ey, bd_eq eh, es, bd_eq (hun9_eq (by omega))]
  · subst ey
    refine ⟨rfl, fun i hi => ⟨?_, rfl, ?_, ?_, rfl, rfl, ?_, ?_⟩⟩
    · exact if_neg (show ¬ i = d by omega)
    · exact if_neg (show ¬ i = d by omega)
    · exact if_neg (show ¬ i = d by omega)
    · exact if_neg (show ¬ i = d by omega)
    · exact if_neg (show ¬ i = d by omega)
  · exact y24
  · have k24 : gT (sT (sJ y 31 d ((bs_hd zw (bs_gn (gT z 24) F) F).toInt64 * hh100 (m - d))) 32 d (-2)) 24 = gT z 24 := y24
    unfold CTd
    rw [k24]
    subst ey
    exact ⟨if_pos rfl, if_pos rfl, if_pos rfl, if_pos rfl, if_pos rfl⟩
def bs_cl (zw : Sx) (F : Nat) (T : Nat → Int32) (g : Nat) : Prop := (gT zw 9 g).toInt ≤ (T 3).toInt ∧ bs_op zw g (bs_gn T F) = true
theorem tn_run {d : Nat} {T : Nat → Int32} (hb : BW zw F) (hd : d < 6) : ∀ (q t n : Nat) (z : Sx), F - t = q → t ≤ F → q < n → GZr zw F L z → gT z 24 = T → gT z 26 d = nI t → ∃ t2 : Nat, t ≤ t2 ∧ t2 ≤ F ∧ (∀ j : Nat, t ≤ j → j < t2 → ¬ bs_cl zw F T j) ∧ (t2 < F → bs_cl zw F T t2) ∧ lX9_triesNext_10 (fun (z7 : Sx) => if (gT z7 24 0) ≤ (gT z7 26 (nI d).toNatClampNeg) then some (0, z7) else some (1, z7)) (nI d) n z = some (if t2 < F then 1 else 0, sT z 26 d (nI t2)) := by
  have cd : (nI d).toNatClampNeg = d := nI_clamp (by omega)
  have hF := hb.2.1
  rw [cd]
  intro q
  induction q with
  | zero =>
    intro t n z hq ht hn hz hT h26
    obtain ⟨n, rfl⟩ : ∃ k, n = k + 1 := ⟨n - 1, by omega⟩
    obtain rfl : t = F := by omega
    refine ⟨t, by omega, by omega, fun j _ _ => by omega, fun _ => by omega, ?_⟩
    rw [lX9_triesNext_10, gd_pos (in_n hd (by omega)), cd, h26, hz.2.1, if_pos (nI_le (Nat.le_refl _) (by omega)), if_pos (nI_le (Nat.le_refl _) (by omega)), if_neg (by omega), sT_id h26]
  | succ q ih =>
    intro t n z hq ht hn hz hT h26
    obtain ⟨n, rfl⟩ : ∃ k, n = k + 1 := ⟨n - 1, by omega⟩
    have c0 := (cl_eq hb hz (show t < F by omega)).1
    by_cases c : bs_cl zw F T t
    · refine ⟨t, by omega, by omega, fun j _ _ => by omega, fun _ => c, ?_⟩
      rw [hT, if_pos (show (gT zw 9 t).toInt ≤ (T 3).toInt ∧ bs_op zw t (bs_gn T F) = true from c)] at c0
      rw [lX9_triesNext_10, gd_pos (in_n hd (by omega)), cd, h26, hz.2.1, if_neg (nI_ge (by omega) (by omega)), bd_eq c0, if_neg one0, if_neg (nI_ge (by omega) (by omega)), if_pos (by omega), sT_id h26]
    · rw [hT, if_neg (show ¬ ((gT zw 9 t).toInt ≤ (T 3).toInt ∧ bs_op zw t (bs_gn T F) = true) from c)] at c0
      have e26 : gT (sT z 26 d (nI (t + 1))) 26 d = nI (t + 1) := if_pos rfl
      obtain ⟨t2, a1, a2, a3, a4, a5⟩ := ih (t + 1) n (sT z 26 d (nI (t + 1))) (by omega) (by omega) (by omega) (gzr_24 hz rfl) hT e26
      rw [sT_sT] at a5
      refine ⟨t2, by omega, a2, fun j h1 h2 => ?_, a4, ?_⟩
      · by_cases w : j = t
        · rw [w]; exact c
        · exact a3 j (by omega) h2
      · rw [lX9_triesNext_10, gd_pos (in_n hd (by omega)), cd, h26, hz.2.1, if_neg (nI_ge (by omega) (by omega)), bd_eq c0, if_pos rfl, nI_1]
        exact a5
theorem tn_eq {d t : Nat} (hb : BW zw F) (hd : d < 6) (ht : t ≤ F) (hz : GZr zw F L z) (h26 : gT z 26 d + 1 = nI t) : ∃ t2 : Nat, t ≤ t2 ∧ t2 ≤ F ∧ (∀ j : Nat, t ≤ j → j < t2 → ¬ bs_cl zw F (gT z 24) j) ∧ (t2 < F → bs_cl zw F (gT z 24) t2) ∧ fX9_triesNext z (nI d) = some (if t2 < F then 1 else 0, sT z 26 d (nI t2)) := by
  have cd : (nI d).toNatClampNeg = d := nI_clamp (by omega)
  have hF := hb.2.1
  have e26 : gT (sT z 26 d (nI t)) 26 d = nI t := if_pos rfl
  obtain ⟨t2, a1, a2, a3, a4, a5⟩ := tn_run (T := gT z 24) hb hd (F - t) t FU (sT z 26 d (nI t)) (by omega) ht (FU_lt (by omega)) (gzr_24 hz rfl) rfl e26
  rw [sT_sT] at a5
  refine ⟨t2, a1, a2, a3, a4, ?_⟩
  unfold fX9_triesNext
  rw [gd_pos (in_n hd (by omega))]
  rw [cd] at a5 ⊢
  rw [h26]
  exact a5
theorem tk_found {d g : Nat} {B H : Int64} (hm : m ≤ 5) (hd : d < m) (hz : GZr zw F L z) (hg : g < F) (h26 : gT z 26 d = nI g) (h27 : gT z 27 d = 1) : fX9_takes z (nI d) (nI m) B H = some (tas (sJ (sJ z 28 d ((gT zw 12 g).toInt64 * hh100 (m - (d + 1)) + B)) 29 d H) d g 0) := by
  have cd : (nI d).toNatClampNeg = d := nI_clamp (by omega)
  have hF := hz.2.2.1
  have es : nI m - nI d - 1 = nI (m - (d + 1)) := by
    rw [nI_sub (by omega)]
    have : nI (m - d) - nI 1 = nI (m - d - 1) := nI_sub (by omega)
    rw [show m - (d + 1) = m - d - 1 by omega]
    exact this
  unfold fX9_takes
  rw [gd_pos (in_n (by omega) (by omega)), cd, h27, if_neg one0, h26, bd_eq (kd_eq hz hg).1, es, bd_eq (hun9_eq (by omega)), bd_eq (tas_eq (z := sJ (sJ z 28 d ((gT zw 12 g).toInt64 * hh100 (m - (d + 1)) + B)) 29 d H) (by omega) (by omega) h26 (Or.inl rfl))]
theorem tk_miss {d g : Nat} {B H : Int64} (hd : d < 6) (hz : GZr zw F L z) (hg : g < F) (h26 : gT z 26 d = nI g) (h27 : gT z 27 d = 0) : fX9_takes z (nI d) (nI m) B H = some (if gJ z 30 d < (gT zw 10 g).toInt64 * gJ z 28 d + (100 - gT zw 10 g).toInt64 * B then sT (sJ (sJ (sT z 24 3 (gT z 33 d)) 30 d ((gT zw 10 g).toInt64 * gJ z 28 d + (100 - gT zw 10 g).toInt64 * B)) 31 d ((gT zw 10 g).toInt64 * gJ z 29 d + (100 - gT zw 10 g).toInt64 * H)) 32 d (nI g) else sT z 24 3 (gT z 33 d)) := by
  have cd : (nI d).toNatClampNeg = d := nI_clamp (by omega)
  obtain ⟨hw, d0, dF, d8, dL, d7, dr⟩ := hz
  have hFi : (gT z 24 0).toInt = F := by rw [d0, nI_toInt (by omega)]
  have eo : fX9_faultOf z (nI g) 2 = some (gT zw 10 g) := by rw [(hw.2.2.2.2 g (by omega)).2.2.1]; exact fo_eq (j := 2) (by omega) (by omega)
  unfold fX9_takes
  rw [gd_pos (in_n (by omega) (by omega)), cd, h27, if_pos rfl, h26, bd_eq eo]
  simp only [nm]
  have e30 : ∀ v : Int32, gJ (sT z 24 3 v) 30 d = gJ z 30 d := fun _ => rfl
  have e29 : ∀ (v : Int32) (w : Int64), gJ (sJ (sT z 24 3 v) 30 d w) 29 d = gJ z 29 d := fun _ _ => rfl
  rw [e30, e29]
  by_cases c : gJ z 30 d < (gT zw 10 g).toInt64 * gJ z 28 d + (100 - gT zw 10 g).toInt64 * B
  · rw [if_pos c, if_pos c]
  · rw [if_neg c, if_neg c]
/-- the reference goes back from a place -/
def gpop (x1 : Int32) (n d : Nat) (z5 : Sx) : Option Sx := match d with
  | 0 => some z5
  | d + 1 => bd (fX9_takes z5 (nI d) x1 (gJ z5 30 (d + 1)) (gJ z5 31 (d + 1))) (fun z10 => if gT z5 27 d = 0 then lX9_goesThrough_10 x1 n z10 (nI d) 1 else bd (fX9_comesTo z10 (nI (d + 1)) x1) (fun z15 => lX9_goesThrough_10 x1 n z15 (nI (d + 1)) 1))
def gtry (x1 : Int32) (n d : Nat) (z : Sx) : Option Sx := bd (fX9_triesAs z (nI d) 1) (fun z21 => bd (fX9_comesTo z21 (nI (d + 1)) x1) (fun z23 => lX9_goesThrough_10 x1 n z23 (nI (d + 1)) 1))
theorem pop_e {x1 : Int32} {n d : Nat} {z5 : Sx} (hd : d < 6) : gd (inb (nI d) 6) (if 0 ≤ (nI d + (-1)) then gd (inb (nI d + (-1)) 6) (bd (fX9_takes z5 (nI d + (-1)) x1 (gJ z5 30 (nI d).toNatClampNeg) (gJ z5 31 (nI d).toNatClampNeg)) (fun z10 => jn (fun (i12 : Int32) => if i12 = 0 then bd (fX9_comesTo z10 ((nI d + (-1)) + 1) x1) (fun z15 => lX9_goesThrough_10 x1 n z15 ((nI d + (-1)) + 1) 1) else lX9_goesThrough_10 x1 n z10 (nI d + (-1)) i12) (fun J11 => if (gT z5 27 ((nI d + (-1)).toNatClampNeg)) = 0 then J11 1 else J11 0))) else some z5) = gpop x1 n d z5 := by
  rw [gd_pos (in_n hd (by omega)), nI_clamp (by omega)]
  cases d with
  | zero => rw [if_neg (by decide)]; rfl
  | succ d =>
    have e1 : nI (d + 1) + (-1) = nI d := (Int32.sub_eq_add_neg (nI (d + 1)) 1).symm.trans (nI_pred d)
    rw [e1, if_pos (nI_ge0 (by omega)), gd_pos (in_n (by omega) (by omega)), nI_clamp (by omega), nI_1]
    simp only [jn]
    show _ = bd _ _
    congr 1
theorem lp_end {n : Nat} (hm : m ≤ 5) : lX9_goesThrough_10 (nI m) (n + 1) z (nI m) 1 = gpop (nI m) n m z := by
  rw [lX9_goesThrough_10, if_neg (nI_pos (by omega)), jn_e, if_pos rfl]
  exact pop_e (by omega)
theorem lp_try {n d t2 : Nat} (hm : m ≤ 5) (hd : d < m) (h : fX9_triesNext z (nI d) = some (if t2 < F then 1 else 0, z2)) : lX9_goesThrough_10 (nI m) (n + 1) z (nI d) 1 = if t2 < F then gtry (nI m) n d z2 else gpop (nI m) n d z2 := by
  rw [lX9_goesThrough_10, if_neg (nI_pos (by omega)), jn_e, if_neg (fun q => by have := (nI_eq (by omega) (by omega)).1 q; omega), jn_e, if_neg one0, bd2_eq h]
  by_cases c : t2 < F
  · rw [if_pos c, if_pos c, if_neg one0, nI_1]
    rfl
  · rw [if_neg c, if_neg c, if_pos rfl]
    exact pop_e (by omega)
end S23

/-! BEST: what the reference finds on its way through all LOOKS. -/
def stB : Nat → Nat
  | 0 => 1
  | k + 1 => 1 + 10 * (1 + 2 * stB k)
theorem stB_f : ∀ k : Fin 6, stB k.val ≤ 10000000 := by decide +kernel
def bs_HB (zw : Sx) (F k a : Nat) (l : Int) (t : Nat) : Int64 := match bs_ix (bs_eb zw (bs_ME zw F k) k a l) t with
  | none => (bs_hd zw a F).toInt64 * hh100 (k + 1)
  | some g => (gT zw 10 g).toInt64 * bs_HM zw F k (a ||| 2 ^ g) (l - (gT zw 9 g).toInt) + (100 - gT zw 10 g).toInt64 * bs_HM zw F k a (l - (gT zw 9 g).toInt)
theorem gpop_s {x1 : Int32} {n d : Nat} {z5 : Sx} : gpop x1 n (d + 1) z5 = bd (fX9_takes z5 (nI d) x1 (gJ z5 30 (d + 1)) (gJ z5 31 (d + 1))) (fun z10 => if gT z5 27 d = 0 then lX9_goesThrough_10 x1 n z10 (nI d) 1 else bd (fX9_comesTo z10 (nI (d + 1)) x1) (fun z15 => lX9_goesThrough_10 x1 n z15 (nI (d + 1)) 1)) := rfl
theorem mx_skips {e : Nat → Int64} : ∀ (q t : Nat), (∀ j : Nat, t ≤ j → j < t + q → (e j).toInt ≤ 0) → bs_mx e (t + q) = bs_mx e t ∧ bs_ix e (t + q) = bs_ix e t := by
  intro q
  induction q with
  | zero => intro t _; exact ⟨rfl, rfl⟩
  | succ q ih =>
    intro t h
    obtain ⟨a1, a2⟩ := ih t (fun j h1 h2 => h j h1 (by omega))
    obtain ⟨b1, b2⟩ := mx_skip (e := e) (k := t + q) (h (t + q) (by omega) (by omega))
    exact ⟨b1.trans a1, b2.trans a2⟩
theorem gn_set {T T2 : Nat → Int32} {F g : Nat} (hg : g < F) (h0 : T (44 + 6 * g + 4) = 0) (e : ∀ j : Nat, ¬ j = g → T2 (44 + 6 * j + 4) = T (44 + 6 * j + 4)) (e1 : T2 (44 + 6 * g + 4) = 1) : bs_gn T2 F = bs_gn T F ||| 2 ^ g := by
  have k1 : bmf T2 1 F = bmf T 1 F ||| 2 ^ g := bm_set hg (fun j hj => by
    by_cases c : j = g
    · rw [c, e1]
      exact ⟨fun _ => Or.inl rfl, fun _ => rfl⟩
    · rw [e j c]
      exact ⟨fun q => Or.inr q, fun q => q.elim (fun k => absurd k c) id⟩)
  have k2 : bmf T2 2 F = bmf T 2 F := bm_cg F (fun j hj => by
    by_cases c : j = g
    · rw [c, e1, h0]
      exact ⟨fun q => by revert q; decide, fun q => by revert q; decide⟩
    · rw [e j c])
  unfold bs_gn
  rw [k1, k2, Nat.or_assoc, Nat.or_comm (2 ^ g), ← Nat.or_assoc]
theorem gn_cg {T T2 : Nat → Int32} {F : Nat} (e : ∀ j : Nat, j < F → T2 (44 + 6 * j + 4) = T (44 + 6 * j + 4)) : bs_gn T2 F = bs_gn T F := by
  unfold bs_gn
  rw [bm_cg (s := 1) F (fun j hj => by rw [e j hj]), bm_cg (s := 2) F (fun j hj => by rw [e j hj])]
section S24
variable {zw z z2 : Sx} {F L m : Nat}
def LVL (zw : Sx) (F L m k : Nat) : Prop := ∀ (d : Nat) (z : Sx), d + k = m → GZr zw F L z → 0 ≤ (gT z 24 3).toInt → (gT z 24 3).toInt ≤ 480 → CTd zw F m d z → ∃ (s : Nat) (z2 : Sx), s ≤ stB k ∧ FR d z z2 ∧ gT z2 24 = gT z 24 ∧ gJ z2 30 d = bs_ME zw F k (bs_gn (gT z 24) F) (gT z 24 3).toInt ∧ gJ z2 31 d = bs_HM zw F k (bs_gn (gT z 24) F) (gT z 24 3).toInt ∧ gT z2 32 d = bs_ic (bs_ch zw F k (bs_gn (gT z 24) F) (gT z 24 3).toInt) ∧ ∀ n : Nat, lX9_goesThrough_10 (nI m) (n + s) z (nI d) 1 = gpop (nI m) n d z2
theorem lvl_0 (hm : m ≤ 5) : LVL zw F L m 0 := by
  intro d z hd hz h0 h1 hc
  obtain rfl : d = m := by omega
  obtain ⟨c1, c2, c3, c4, c5⟩ := hc
  rw [Nat.sub_self] at c4
  exact ⟨1, z, Nat.le_refl 1, fr9_rf, rfl, c3, c4, c5, fun n => lp_end hm⟩
theorem try_one {k d g : Nat} {T : Nat → Int32} (hm : m ≤ 5) (hb : BW zw F) (hL : LVL zw F L m k) (hd : d + (k + 1) = m) (hz : GZr zw F L z) (hT : gT z 24 = T) (h0 : 0 ≤ (T 3).toInt) (h1 : (T 3).toInt ≤ 480) (h33 : gT z 33 d = T 3) (hg : g < F) (hc : bs_cl zw F T g) (h26 : gT z 26 d = nI g) : ∃ (s : Nat) (z7 : Sx), s ≤ 2 * stB k ∧ FR d z z7 ∧ gT z7 24 = T ∧ gT z7 26 d = nI g ∧ gT z7 33 d = T 3 ∧ gJ z7 30 d = (if gJ z 30 d < bs_eb zw (bs_ME zw F k) k (bs_gn T F) (T 3).toInt g then bs_eb zw (bs_ME zw F k) k (bs_gn T F) (T 3).toInt g else gJ z 30 d) ∧ gJ z7 31 d = (if gJ z 30 d < bs_eb zw (bs_ME zw F k) k (bs_gn T F) (T 3).toInt g then (gT zw 10 g).toInt64 * bs_HM zw F k (bs_gn T F ||| 2 ^ g) ((T 3).toInt - (gT zw 9 g).toInt) + (100 - gT zw 10 g).toInt64 * bs_HM zw F k (bs_gn T F) ((T 3).toInt - (gT zw 9 g).toInt) else gJ z 31 d) ∧ gT z7 32 d = (if gJ z 30 d < bs_eb zw (bs_ME zw F k) k (bs_gn T F) (T 3).toInt g then nI g else gT z 32 d) ∧ ∀ n : Nat, gtry (nI m) (n + s) d z = lX9_goesThrough_10 (nI m) n z7 (nI d) 1 := by
  have hF := hb.2.1
  have hmn := (hb.2.2.1 g hg).1
  have hl := hc.1
  have st0 : T (44 + 6 * g + 4) = 0 := by
    have := (cl_eq hb hz hg).2
    rw [hT] at this
    exact this hc.2
  have hFi : (gT z 24 0).toInt = F := by rw [hz.2.1, nI_toInt (by omega)]
  have eM : T (44 + 6 * g + 1) = gT zw 9 g := by
    rw [← hT]
    exact (hz.1.2.2.2.2 g (by omega)).2.1.symm
  have e3 : (T 3 - T (44 + 6 * g + 1)).toInt = (T 3).toInt - (gT zw 9 g).toInt := i32_sub rfl (by rw [eM]) (by omega) (by omega)
  have st7 : ∀ j : Nat, j < F → T (44 + 6 * j + 4) = 0 ∨ T (44 + 6 * j + 4) = 1 ∨ T (44 + 6 * j + 4) = 2 := by
    rw [← hT]
    exact hz.2.2.2.2.2.1
  have a1 : fX9_triesAs z (nI d) 1 = some (tas z d g 1) := tas_eq (by omega) (by omega) h26 (Or.inr rfl)
  have T1 : ∀ i : Nat, gT (tas z d g 1) 24 i = if i = 44 + 6 * g + 4 then 1 else if i = 3 then T 3 - T (44 + 6 * g + 1) else T i := fun i => by rw [tas_T, h33, hT]
  have z1G : GZr zw F L (tas z d g 1) := gzr_eq hz (fun i hi => by rw [T1, if_neg (fun u => hi (by unfold DZ; omega)), if_neg (fun u => hi (by unfold DZ; omega)), hT]) (fun j hj => by
    by_cases c : j = g
    · right; rw [T1, if_pos (by omega)]
    · left; rw [T1, if_neg (by omega), if_neg (by omega), hT])
  have g1 : bs_gn (gT (tas z d g 1) 24) F = bs_gn T F ||| 2 ^ g := gn_set hg st0 (fun j hj => by rw [T1, if_neg (by omega), if_neg (by omega)]) (by rw [T1, if_pos rfl])
  have l1 : (gT (tas z d g 1) 24 3).toInt = (T 3).toInt - (gT zw 9 g).toInt := by rw [T1, if_neg (by omega), if_pos rfl, e3]
  obtain ⟨y2, c1, f2, t2, ct2⟩ := ct_eq (d := d + 1) hm (by omega) z1G
  obtain ⟨s1, z3, b1, f3, t3, v30, v31, -, lp1⟩ := hL (d + 1) y2 (by omega) (gzr_24 z1G t2) (by rw [t2, l1]; omega) (by rw [t2, l1]; omega) ct2
  rw [t2, g1, l1] at v30 v31
  obtain ⟨p1, p2, p3, p4, p5, p6, p7, p8⟩ := f2.2 d (by omega)
  obtain ⟨r1, r2, r3, r4, r5, r6, r7, r8⟩ := f3.2 d (by omega)
  have z3G : GZr zw F L z3 := gzr_24 (gzr_24 z1G t2) t3
  have q26 : gT z3 26 d = nI g := (r1.trans p1).trans h26
  have q27 : gT z3 27 d = 1 := (r2.trans p2).trans (by rw [tas_27, if_pos rfl])
  have q33 : gT z3 33 d = T 3 := (r4.trans p4).trans h33
  have k1 := tk_found (B := gJ z3 30 (d + 1)) (H := gJ z3 31 (d + 1)) hm (by omega) z3G hg q26 q27
  obtain ⟨y4, ey4⟩ : ∃ y4 : Sx, y4 = tas (sJ (sJ z3 28 d ((gT zw 12 g).toInt64 * hh100 (m - (d + 1)) + gJ z3 30 (d + 1))) 29 d (gJ z3 31 (d + 1))) d g 0 := ⟨_, rfl⟩
  rw [← ey4] at k1
  have t24 : ∀ i : Nat, gT z3 24 i = gT (tas z d g 1) 24 i := fun i => by rw [t3, t2]
  have T4 : ∀ i : Nat, gT y4 24 i = if i = 44 + 6 * g + 4 then 0 else if i = 3 then T 3 - T (44 + 6 * g + 1) else T i := fun i => by
    have e : gT y4 24 i = if i = 44 + 6 * g + 4 then 0 else if i = 3 then gT z3 33 d - gT z3 24 (44 + 6 * g + 1) else gT z3 24 i := by rw [ey4]; rfl
    have e1 : gT z3 24 (44 + 6 * g + 1) = T (44 + 6 * g + 1) := by rw [t24, T1, if_neg (by omega), if_neg (by omega)]
    rw [e, q33, e1]
    by_cases c : i = 44 + 6 * g + 4
    · rw [if_pos c, if_pos c]
    · rw [if_neg c, if_neg c]
      by_cases c2 : i = 3
      · rw [if_pos c2, if_pos c2]
      · rw [if_neg c2, if_neg c2, t24, T1, if_neg c, if_neg c2]
  have S4 : ∀ j : Nat, gT y4 24 (44 + 6 * j + 4) = T (44 + 6 * j + 4) := fun j => by
    by_cases c : j = g
    · rw [c, T4, if_pos rfl, st0]
    · rw [T4, if_neg (by omega), if_neg (by omega)]
  have z4G : GZr zw F L y4 := gzr_eq hz (fun i hi => by rw [T4, if_neg (fun u => hi (by unfold DZ; omega)), if_neg (fun u => hi (by unfold DZ; omega)), hT]) (fun j hj => Or.inl (by rw [S4, hT]))
  have g4 : bs_gn (gT y4 24) F = bs_gn T F := gn_cg (fun j _ => S4 j)
  have l4 : (gT y4 24 3).toInt = (T 3).toInt - (gT zw 9 g).toInt := by rw [T4, if_neg (by omega), if_pos rfl, e3]
  have f4 : FR d z3 y4 := by
    rw [ey4]
    refine ⟨rfl, fun i hi => ⟨rfl, ?_, rfl, rfl, ?_, ?_, rfl, rfl⟩⟩
    · exact if_neg (show ¬ i = d by omega)
    · exact if_neg (show ¬ i = d by omega)
    · exact if_neg (show ¬ i = d by omega)
  have w26 : gT y4 26 d = nI g := by rw [ey4]; exact q26
  have w27 : gT y4 27 d = 0 := by rw [ey4]; exact if_pos rfl
  have w33 : gT y4 33 d = T 3 := by rw [ey4]; exact q33
  have w32 : gT y4 32 d = gT z 32 d := by rw [ey4]; exact r3.trans p3
  have w28 : gJ y4 28 d = (gT zw 12 g).toInt64 * hh100 (m - (d + 1)) + gJ z3 30 (d + 1) := by rw [ey4]; exact if_pos rfl
  have w29 : gJ y4 29 d = gJ z3 31 (d + 1) := by rw [ey4]; exact if_pos rfl
  have w30 : gJ y4 30 d = gJ z 30 d := by rw [ey4]; exact r7.trans p7
  have w31 : gJ y4 31 d = gJ z 31 d := by rw [ey4]; exact r8.trans p8
  obtain ⟨y5, c5, f5, t5, ct5⟩ := ct_eq (d := d + 1) hm (by omega) z4G
  obtain ⟨s2, z6, b2, f6, t6, u30, u31, -, lp2⟩ := hL (d + 1) y5 (by omega) (gzr_24 z4G t5) (by rw [t5, l4]; omega) (by rw [t5, l4]; omega) ct5
  rw [t5, g4, l4] at u30 u31
  obtain ⟨i1, i2, i3, i4, i5, i6, i7, i8⟩ := f5.2 d (by omega)
  obtain ⟨j1, j2, j3, j4, j5, j6, j7, j8⟩ := f6.2 d (by omega)
  have z6G : GZr zw F L z6 := gzr_24 (gzr_24 z4G t5) t6
  have x26 : gT z6 26 d = nI g := (j1.trans i1).trans w26
  have x27 : gT z6 27 d = 0 := (j2.trans i2).trans w27
  have x33 : gT z6 33 d = T 3 := (j4.trans i4).trans w33
  have x32 : gT z6 32 d = gT z 32 d := (j3.trans i3).trans w32
  have x28 : gJ z6 28 d = (gT zw 12 g).toInt64 * hh100 k + bs_ME zw F k (bs_gn T F ||| 2 ^ g) ((T 3).toInt - (gT zw 9 g).toInt) := by
    rw [(j5.trans i5).trans w28, v30, show m - (d + 1) = k by omega]
  have x29 : gJ z6 29 d = bs_HM zw F k (bs_gn T F ||| 2 ^ g) ((T 3).toInt - (gT zw 9 g).toInt) := by rw [(j6.trans i6).trans w29, v31]
  have x30 : gJ z6 30 d = gJ z 30 d := (j7.trans i7).trans w30
  have x31 : gJ z6 31 d = gJ z 31 d := (j8.trans i8).trans w31
  have k2 := tk_miss (m := m) (B := gJ z6 30 (d + 1)) (H := gJ z6 31 (d + 1)) (show d < 6 by omega) z6G hg x26 x27
  have eV : (gT zw 10 g).toInt64 * gJ z6 28 d + (100 - gT zw 10 g).toInt64 * gJ z6 30 (d + 1) = bs_eb zw (bs_ME zw F k) k (bs_gn T F) (T 3).toInt g := by
    rw [x28, u30]
    unfold bs_eb
    rw [if_pos (show (gT zw 9 g).toInt ≤ (T 3).toInt ∧ bs_op zw g (bs_gn T F) = true from hc)]
  rw [eV, x30, x29, u31, x33] at k2
  have T6 : ∀ i : Nat, gT (sT z6 24 3 (T 3)) 24 i = T i := fun i => by
    have e : gT (sT z6 24 3 (T 3)) 24 i = if i = 3 then T 3 else gT z6 24 i := rfl
    rw [e]
    by_cases c : i = 3
    · rw [if_pos c, c]
    · rw [if_neg c, t6, t5, T4]
      by_cases c2 : i = 44 + 6 * g + 4
      · rw [if_pos c2, c2, st0]
      · rw [if_neg c2, if_neg c]
  have fr6 : FR d z z6 := fr9_tr (fr9_tr (fr9_tr (fr9_tr (fr9_tr tas_fr (fr9_le f2 (by omega))) (fr9_le f3 (by omega))) f4) (fr9_le f5 (by omega))) (fr9_le f6 (by omega))
  have lp : ∀ (n : Nat) (z7 : Sx), fX9_takes z6 (nI d) (nI m) (gJ z6 30 (d + 1)) (bs_HM zw F k (bs_gn T F) ((T 3).toInt - (gT zw 9 g).toInt)) = some z7 → gtry (nI m) (n + (s2 + s1)) d z = lX9_goesThrough_10 (nI m) n z7 (nI d) 1 := fun n z7 e8 => by
    have e7 : fX9_takes z6 (nI d) (nI m) (gJ z6 30 (d + 1)) (gJ z6 31 (d + 1)) = some z7 := by rw [u31]; exact e8
    unfold gtry
    rw [bd_eq a1, bd_eq c1, show n + (s2 + s1) = (n + s2) + s1 by omega, lp1 (n + s2), gpop_s, bd_eq k1, if_neg (by rw [q27]; exact one0), bd_eq c5, lp2 n, gpop_s, bd_eq e7, if_pos x27]
  by_cases cc : gJ z 30 d < bs_eb zw (bs_ME zw F k) k (bs_gn T F) (T 3).toInt g
  · rw [if_pos cc] at k2
    rw [if_pos cc, if_pos cc, if_pos cc]
    refine ⟨s2 + s1, _, by omega, ?_, ?_, ?_, ?_, ?_, ?_, ?_, fun n => lp n _ k2⟩
    · refine fr9_tr fr6 ⟨rfl, fun i hi => ⟨rfl, rfl, ?_, rfl, rfl, rfl, ?_, ?_⟩⟩
      · exact if_neg (show ¬ i = d by omega)
      · exact if_neg (show ¬ i = d by omega)
      · exact if_neg (show ¬ i = d by omega)
    · exact funext T6
    · exact x26
    · exact x33
    · exact if_pos rfl
    · exact if_pos rfl
    · exact if_pos rfl
  · rw [if_neg cc] at k2
    rw [if_neg cc, if_neg cc, if_neg cc]
    exact ⟨s2 + s1, sT z6 24 3 (T 3), by omega, fr9_tr fr6 ⟨rfl, fun i hi => ⟨rfl, rfl, rfl, rfl, rfl, rfl, rfl, rfl⟩⟩, funext T6, x26, x33, x30, x31, x32, fun n => lp n _ k2⟩
theorem lv_in {k d : Nat} {T : Nat → Int32} (hm : m ≤ 5) (hb : BW zw F) (hL : LVL zw F L m k) (hd : d + (k + 1) = m) (h0 : 0 ≤ (T 3).toInt) (h1 : (T 3).toInt ≤ 480) : ∀ (q t : Nat) (z : Sx), F - t ≤ q → t ≤ F → GZr zw F L z → gT z 24 = T → gT z 33 d = T 3 → gT z 26 d + 1 = nI t → gJ z 30 d = bs_mx (bs_eb zw (bs_ME zw F k) k (bs_gn T F) (T 3).toInt) t → gJ z 31 d = bs_HB zw F k (bs_gn T F) (T 3).toInt t → gT z 32 d = bs_ic (bs_ix (bs_eb zw (bs_ME zw F k) k (bs_gn T F) (T 3).toInt) t) → ∃ (s : Nat) (z2 : Sx), s ≤ 1 + (F - t) * (1 + 2 * stB k) ∧ FR d z z2 ∧ gT z2 24 = T ∧ gJ z2 30 d = bs_mx (bs_eb zw (bs_ME zw F k) k (bs_gn T F) (T 3).toInt) F ∧ gJ z2 31 d = bs_HB zw F k (bs_gn T F) (T 3).toInt F ∧ gT z2 32 d = bs_ic (bs_ix (bs_eb zw (bs_ME zw F k) k (bs_gn T F) (T 3).toInt) F) ∧ ∀ n : Nat, lX9_goesThrough_10 (nI m) (n + s) z (nI d) 1 = gpop (nI m) n d z2 := by
  have hF := hb.2.1
  have none_e : ∀ j : Nat, ¬ bs_cl zw F T j → (bs_eb zw (bs_ME zw F k) k (bs_gn T F) (T 3).toInt j).toInt ≤ 0 := fun j hj => by
    unfold bs_eb
    rw [if_neg (show ¬ ((gT zw 9 j).toInt ≤ (T 3).toInt ∧ bs_op zw j (bs_gn T F) = true) from hj), bs_i1]
    omega
  intro q
  induction q with
  | zero =>
    intro t z hq ht hz hT h33 h26 h30 h31 h32
    obtain rfl : t = F := by omega
    obtain ⟨t2, a1, a2, a3, a4, a5⟩ := tn_eq hb (show d < 6 by omega) (Nat.le_refl t) hz h26
    obtain rfl : t2 = t := by omega
    refine ⟨1, sT z 26 d (nI t2), by omega, ⟨rfl, fun i hi => ⟨if_neg (show ¬ i = d by omega), rfl, rfl, rfl, rfl, rfl, rfl, rfl⟩⟩, hT, h30, h31, h32, fun n => ?_⟩
    rw [lp_try hm (by omega) a5, if_neg (by omega)]
  | succ q ih =>
    intro t z hq ht hz hT h33 h26 h30 h31 h32
    obtain ⟨t2, a1, a2, a3, a4, a5⟩ := tn_eq hb (show d < 6 by omega) ht hz h26
    rw [hT] at a3 a4
    obtain ⟨m1, m2⟩ := mx_skips (e := bs_eb zw (bs_ME zw F k) k (bs_gn T F) (T 3).toInt) (t2 - t) t (fun j h1 h2 => none_e j (a3 j h1 (by omega)))
    rw [show t + (t2 - t) = t2 by omega] at m1 m2
    have m3 : bs_HB zw F k (bs_gn T F) (T 3).toInt t2 = bs_HB zw F k (bs_gn T F) (T 3).toInt t := by
      unfold bs_HB
      rw [m2]
    by_cases c : t2 < F
    · have hz0 : GZr zw F L (sT z 26 d (nI t2)) := gzr_24 hz rfl
      obtain ⟨s1, z7, b1, b2, b3, b4, b5, b6, b7, b8, b9⟩ := try_one (z := sT z 26 d (nI t2)) hm hb hL hd hz0 hT h0 h1 h33 c (a4 c) (if_pos rfl)
      have e30 : gJ (sT z 26 d (nI t2)) 30 d = bs_mx (bs_eb zw (bs_ME zw F k) k (bs_gn T F) (T 3).toInt) t2 := h30.trans m1.symm
      have e31 : gJ (sT z 26 d (nI t2)) 31 d = bs_HB zw F k (bs_gn T F) (T 3).toInt t2 := h31.trans m3.symm
      have e32 : gT (sT z 26 d (nI t2)) 32 d = bs_ic (bs_ix (bs_eb zw (bs_ME zw F k) k (bs_gn T F) (T 3).toInt) t2) := by rw [m2]; exact h32
      rw [e30] at b6 b7 b8
      rw [e31] at b7
      rw [e32] at b8
      have hz7 : GZr zw F L z7 := gzr_24 hz (b3.trans hT.symm)
      have n26 : gT z7 26 d + 1 = nI (t2 + 1) := by rw [b4, nI_1]
      have ex : bs_ix (bs_eb zw (bs_ME zw F k) k (bs_gn T F) (T 3).toInt) (t2 + 1) = if bs_mx (bs_eb zw (bs_ME zw F k) k (bs_gn T F) (T 3).toInt) t2 < bs_eb zw (bs_ME zw F k) k (bs_gn T F) (T 3).toInt t2 then some t2 else bs_ix (bs_eb zw (bs_ME zw F k) k (bs_gn T F) (T 3).toInt) t2 := rfl
      have n31 : gJ z7 31 d = bs_HB zw F k (bs_gn T F) (T 3).toInt (t2 + 1) := by
        rw [b7]
        unfold bs_HB
        rw [ex]
        by_cases cc : bs_mx (bs_eb zw (bs_ME zw F k) k (bs_gn T F) (T 3).toInt) t2 < bs_eb zw (bs_ME zw F k) k (bs_gn T F) (T 3).toInt t2
        · rw [if_pos cc, if_pos cc]
        · rw [if_neg cc, if_neg cc]
      have n32 : gT z7 32 d = bs_ic (bs_ix (bs_eb zw (bs_ME zw F k) k (bs_gn T F) (T 3).toInt) (t2 + 1)) := by
        rw [b8, ex]
        by_cases cc : bs_mx (bs_eb zw (bs_ME zw F k) k (bs_gn T F) (T 3).toInt) t2 < bs_eb zw (bs_ME zw F k) k (bs_gn T F) (T 3).toInt t2
        · rw [if_pos cc, if_pos cc]; rfl
        · rw [if_neg cc, if_neg cc]
      obtain ⟨s2, z9, d1, d2, d3, d4, d5, d6, d7⟩ := ih (t2 + 1) z7 (by omega) (by omega) hz7 b3 b5 n26 (b6.trans (mx_s t2).symm) n31 n32
      have hs : (F - t2) * (1 + 2 * stB k) = (F - (t2 + 1)) * (1 + 2 * stB k) + (1 + 2 * stB k) := by
        rw [show F - t2 = (F - (t2 + 1)) + 1 by omega, Nat.succ_mul]
      have hs2 : (F - t2) * (1 + 2 * stB k) ≤ (F - t) * (1 + 2 * stB k) := Nat.mul_le_mul_right _ (by omega)
      refine ⟨s2 + s1 + 1, z9, by omega, fr9_tr (fr9_tr (show FR d z (sT z 26 d (nI t2)) from ⟨rfl, fun i hi => ⟨if_neg (show ¬ i = d by omega), rfl, rfl, rfl, rfl, rfl, rfl, rfl⟩⟩) b2) d2, d3, d4, d5, d6, fun n => ?_⟩
      rw [show n + (s2 + s1 + 1) = ((n + s2) + s1) + 1 by omega, lp_try hm (by omega) a5, if_pos c, b9 (n + s2), d7 n]
    · obtain rfl : t2 = F := by omega
      refine ⟨1, sT z 26 d (nI t2), by omega, ⟨rfl, fun i hi => ⟨if_neg (show ¬ i = d by omega), rfl, rfl, rfl, rfl, rfl, rfl, rfl⟩⟩, hT, h30.trans m1.symm, h31.trans m3.symm, by rw [m2]; exact h32, fun n => ?_⟩
      rw [lp_try hm (by omega) a5, if_neg (by omega)]
theorem lvl_s {k : Nat} (hm : m ≤ 5) (hb : BW zw F) (hL : LVL zw F L m k) : LVL zw F L m (k + 1) := by
  intro d z hd hz h0 h1 hc
  obtain ⟨c1, c2, c3, c4, c5⟩ := hc
  have hF := hb.2.1
  rw [show m - d = k + 1 by omega] at c4
  obtain ⟨s, z2, a1, a2, a3, a4, a5, a6, a7⟩ := lv_in (T := gT z 24) hm hb hL hd h0 h1 F 0 z (by omega) (by omega) hz rfl c2 (by rw [c1]; decide) c3 c4 c5
  refine ⟨s, z2, ?_, a2, a3, a4, ?_, a6, a7⟩
  · show s ≤ 1 + 10 * (1 + 2 * stB k)
    have : (F - 0) * (1 + 2 * stB k) ≤ 10 * (1 + 2 * stB k) := Nat.mul_le_mul_right _ (by omega)
    omega
  · rw [a5]
    cases q : bs_ix (bs_eb zw (bs_ME zw F k) k (bs_gn (gT z 24) F) (gT z 24 3).toInt) F with
    | none => rw [hm_none q]; unfold bs_HB; rw [q]
    | some g => rw [hm_some q]; unfold bs_HB; rw [q]
theorem lvl_all (hm : m ≤ 5) (hb : BW zw F) : ∀ k : Nat, LVL zw F L m k := by
  intro k
  induction k with
  | zero => exact lvl_0 hm
  | succ k ih => exact lvl_s hm hb ih
/-- the reference's way through all LOOKS -/
theorem go_eq (hm : m ≤ 5) (hb : BW zw F) (hz : GZr zw F L z) (h0 : 0 ≤ (gT z 24 3).toInt) (h1 : (gT z 24 3).toInt ≤ 480) : ∃ z2, fX9_goesThrough z (nI m) = some z2 ∧ gT z2 24 = gT z 24 ∧ gT z2 25 = gT z 25 ∧ gJ z2 30 0 = bs_ME zw F m (bs_gn (gT z 24) F) (gT z 24 3).toInt ∧ gJ z2 31 0 = bs_HM zw F m (bs_gn (gT z 24) F) (gT z 24 3).toInt ∧ gT z2 32 0 = bs_ic (bs_ch zw F m (bs_gn (gT z 24) F) (gT z 24 3).toInt) := by
  obtain ⟨y, c1, f1, t1, ct⟩ := ct_eq (d := 0) hm (by omega) hz
  obtain ⟨s, z2, a1, a2, a3, a4, a5, a6, a7⟩ := lvl_all hm hb m 0 y (by omega) (gzr_24 hz t1) (by rw [t1]; exact h0) (by rw [t1]; exact h1) ct
  rw [t1] at a3 a4 a5 a6
  have hs : stB m ≤ 10000000 := stB_f ⟨m, by omega⟩
  refine ⟨z2, ?_, a3, a2.1.trans f1.1, a4, a5, a6⟩
  have c1 : fX9_comesTo z 0 (nI m) = some y := c1
  have e : FU = (FU - s) + s := by
    have : FU = 18446744073709551616 := rfl
    omega
  unfold fX9_goesThrough
  rw [bd_eq c1, e]
  exact a7 (FU - s)
end S24

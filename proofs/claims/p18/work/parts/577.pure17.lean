/-- six DAYS by a RULE, again and again -/
def WI (o K : Sx) (z : Sx) : Prop := FrL [21, 22, 23, 24, 25] o z ∧ gT z 25 = gT K 25 ∧ SOK (gT z 24)
set_option maxHeartbeats 1000000 in
theorem tl_weeks {o K : Sx} {x1 x2 x3 : Int32} {k : Sx → Int32 → Option (Int32 × Sx)} {t : Nat} {P : Int32 × Sx → Prop} (pt : x1.toInt = t) (hR : RK o t) (hx : 1 ≤ x2.toInt ∧ x2.toInt ≤ 20) (hk : ∀ z v, WI o K z → okP (k z v) P) : ∀ (n : Nat) (z : Sx) (x4 x5 : Int32), WI o K z → 0 ≤ x5.toInt → (120 - x5.toInt).toNat < n → okP (lX9_weeks_51 k x1 x2 x3 n z x4 x5) P := by
  intro n
  induction n with
  | zero => intro _ _ _ _ _ hm; omega
  | succ n ih =>
    intro z x4 x5 hi h0 hm
    obtain ⟨a1, a2, a3⟩ := id hi
    have e6 : (6 * x2).toInt = 6 * x2.toInt := i32_mul (show (6 : Int32).toInt = 6 by decide) rfl (by omega) (by omega)
    rw [lX9_weeks_51]
    refine ok_ite (fun _ => hk z x4 hi) (fun c => ?_)
    have ci := bI_nle e6 rfl c
    have e1 : (x5 + 1).toInt = x5.toInt + 1 := i32_add rfl (show (1 : Int32).toInt = 1 by decide) (by omega) (by omega)
    refine ok_bd (t_fX9_begins a3) (fun z17 q => ?_)
    obtain ⟨f17, s17, -⟩ := q
    have fr17 : FrL [21, 22, 23, 24, 25] o z17 := fr_tr a1 f17 (by decide)
    refine ok_bd2 (t_fX9_passes (t := t) pt s17 (rk_fr fr17 (by decide) hR)) (fun r19 z20 q => ?_)
    obtain ⟨f20, s20, -⟩ := q
    have f20 : FrL [21, 22, 23, 24] z17 z20 := f20
    have s20 : SOK (gT z20 24) := s20
    have hi20 : WI o K z20 := ⟨fr_tr fr17 f20 (by decide), (f20 25 (by decide)).2.1.trans ((f17 25 (by decide)).2.1.trans a2), s20⟩
    refine ok_jn2 (Q := fun J => ∀ (a b : Int32), okP (J a b) P) ?_ (fun J HJ => ?_)
    · intro a b
      exact ih z20 _ (x5 + 1) hi20 (by omega) (by omega)
    · refine ok_ite (fun _ => HJ _ _) (fun _ => ?_)
      refine ok_ite (fun _ => ?_) (fun _ => ok_bd (t_fX9_hidden s20) (fun r _ => HJ r _))
      exact ok_bd (t_fX9_thatAre s20) (fun r _ => ok_bd t_fX9_bits (fun r2 _ => HJ r2 _))
theorem r_weeks {z_t : Sx} {x1 x2 x3 : Int32} (h : RI z_t) : okP (fX9_weeks z_t x1 x2 x3) (fun y => RI y.2) := by
  unfold fX9_weeks
  have z0 : okP (some (((-1) : Int32), z_t)) (fun y : Int32 × Sx => RI y.2) := ok_some h
  refine wk_ok (if0 z0) (fun _ => if1 ?_)
  refine rl_ok (if0 z0) (fun r0 r1 => if1 ?_)
  refine in_ok (if0 z0) (fun i0 i1 => if1 ?_)
  refine in_ok (if0 z0) (fun _ _ => if1 ?_)
  have e1 : (1 : Int64).toInt = 1 := by decide
  have e20 : (20 : Int64).toInt = 20 := by decide
  have ex : x2.toInt64.toInt = x2.toInt := Int32.toInt_toInt64 x2
  have n0 : (0 : Int32).toInt = 0 := by decide
  have hS := h.2.1
  have hc := clampI r0
  have rk : RK z_t x1.toNatClampNeg := h.2.2.1.2.2 _ (by omega)
  refine ok_bd (t_fX9_keeps hS) (fun z14 q => ?_)
  obtain ⟨f14, e14⟩ := q
  have hK : SOK (gT z14 25) := sok_eq e14 hS
  refine tl_weeks (o := z_t) (K := z14) (t := x1.toNatClampNeg) hc.symm rk (by omega) (fun z32 v hi => ?_) FU z14 0 0 ⟨fr_tr fr_rf f14 (by decide), rfl, so_fr f14 (by decide) hS⟩ (by omega) (FU_lt (by omega))
  obtain ⟨a1, a2, a3⟩ := hi
  refine ok_bd (t_fX9_putsBack (by rw [a2]; exact hK)) (fun z35 q => ?_)
  obtain ⟨f35, -, s35⟩ := q
  exact ok_some (ri_fr h (fr_tr a1 f35 (by decide)) (by decide) s35)
/-- images: one place is written, or read -/
theorem tl_image {o : Sx} {x1 : Int32} {c : Nat} {k : Sx → Option (Int32 × Sx)} {P : Int32 × Sx → Prop} (hx : x1.toInt = c) (hc : c < 4) (hk : ∀ z, FrL [34] o z → (∀ i : Nat, i < 104 → gT z 34 (104 * c + i) = gT o 24 i) → (∀ j : Nat, (j < 104 * c ∨ 104 * c + 104 ≤ j) → gT z 34 j = gT o 34 j) → okP (k z) P) : ∀ (n : Nat) (z : Sx) (x2 : Int32), FrL [34] o z → 0 ≤ x2.toInt → x2.toInt ≤ 104 → (∀ i : Nat, (i : Int) < x2.toInt → gT z 34 (104 * c + i) = gT o 24 i) → (∀ j : Nat, (j < 104 * c ∨ 104 * c + 104 ≤ j) → gT z 34 j = gT o 34 j) → (104 - x2.toInt).toNat < n → okP (lX9_image_23 k x1 n z x2) P := by
  intro n
  induction n with
  | zero => intro _ _ _ _ _ _ _ hm; omega
  | succ n ih =>
    intro z x2 fr h0 h1 ha hb hm
    have hcl := clampI h0
    rw [lX9_image_23]
    refine ok_ite (fun c1 => ?_) (fun c1 => ?_)
    · have ci := bI_le (show (104 : Int32).toInt = 104 by decide) rfl c1
      exact hk z fr (fun i hi => ha i (by omega)) hb
    · have ci := bI_nle (show (104 : Int32).toInt = 104 by decide) rfl c1
      have e1 : (104 * x1).toInt = 104 * (c : Int) := by rw [i32_mul (show (104 : Int32).toInt = 104 by decide) hx (by omega) (by omega)]
      have e2 : ((104 * x1) + x2).toInt = 104 * (c : Int) + x2.toInt := i32_add e1 rfl (by omega) (by omega)
      have n2 : ((104 * x1) + x2).toNatClampNeg = 104 * c + x2.toNatClampNeg := n_cl (by rw [e2]; omega)
      refine ok_gd (inb_of (by omega) (by omega)) ?_
      refine ok_gd (inb_of (by omega) (by omega)) ?_
      rw [n2]
      have e3 : (x2 + 1).toInt = x2.toInt + 1 := i32_add rfl (show (1 : Int32).toInt = 1 by decide) (by omega) (by omega)
      have e24 : gT z 24 = gT o 24 := (fr 24 (by decide)).2.1
      have un : ∀ j, j ≠ 104 * c + x2.toNatClampNeg → gT (sT z 34 (104 * c + x2.toNatClampNeg) (gT z 24 x2.toNatClampNeg)) 34 j = gT z 34 j := fun j h => if_neg h
      have up : gT (sT z 34 (104 * c + x2.toNatClampNeg) (gT z 24 x2.toNatClampNeg)) 34 (104 * c + x2.toNatClampNeg) = gT z 24 x2.toNatClampNeg := if_pos rfl
      refine ih _ (x2 + 1) (fr_T fr (by decide)) (by omega) (by omega) (fun i hi => ?_) (fun j hj => (un j (by omega)).trans (hb j hj)) (by omega)
      by_cases q : i = x2.toNatClampNeg
      · subst q; rw [up, e24]
      · rw [un _ (by omega)]; exact ha i (by omega)
theorem r_image {z_t : Sx} {x1 : Int32} (h : RI z_t) : okP (fX9_image z_t x1) (fun y => RI y.2) := by
  unfold fX9_image
  refine in_ok (if0 (ok_some h)) (fun i0 i1 => if1 ?_)
  have e0 : (0 : Int64).toInt = 0 := by decide
  have e3 : (3 : Int64).toInt = 3 := by decide
  have ex : x1.toInt64.toInt = x1.toInt := Int32.toInt_toInt64 x1
  have n0 : (0 : Int32).toInt = 0 := by decide
  obtain ⟨c, hc⟩ : ∃ c : Nat, x1.toInt = c := ⟨x1.toInt.toNat, by omega⟩
  have hcn : x1.toNatClampNeg = c := n_cl hc
  refine ok_gd (inb_of (by omega) (by omega)) ?_
  rw [hcn]
  obtain ⟨w, hw⟩ : ∃ w, w = vp_nar .boolean 1 := ⟨_, rfl⟩
  rw [← hw]
  refine tl_image (o := sT z_t 35 c w) (c := c) hc (by omega) (fun z8 f8 ha hb => ?_) FU (sT z_t 35 c w) 0 fr_rf (by omega) (by omega) (fun i hi => by omega) (fun _ _ => rfl) (FU_lt (by omega))
  have fr8 : FrL [34, 35] z_t z8 := fr_tr (fr_T fr_rf (by decide)) f8 (by decide)
  obtain ⟨h1, h2, h3, h4⟩ := id h
  have e2 : gI z8 2 = gI z_t 2 := (fr8 2 (by decide)).1
  have e1 : gI z8 1 = gI z_t 1 := (fr8 1 (by decide)).1
  have ru : RU z8 := by
    unfold RU; rw [e2]
    exact ⟨h3.1, h3.2.1, fun t ht => rk_fr fr8 (by decide) (h3.2.2 t ht)⟩
  have e35 : gT z8 35 = upd (gT z_t 35) c w := (f8 35 (by decide)).2.1
  refine ok_some ⟨by rw [e1]; exact h1, so_fr fr8 (by decide) h2, ru, fun k hk hne => ?_⟩
  by_cases q : k = c
  · subst q
    exact sok_eq (fun i hi => ha i hi) h2
  · have hne2 : ¬ gT z_t 35 k = 0 := by
      rw [e35] at hne
      have e : upd (gT z_t 35) c w k = gT z_t 35 k := if_neg q
      rw [e] at hne; exact hne
    refine sok_eq (fun i hi => ?_) (h4 k hk hne2)
    show gT z8 34 (104 * k + i) = gT z_t 34 (104 * k + i)
    exact hb _ (by omega)
theorem tl_back {o : Sx} {x1 : Int32} {c : Nat} {k : Sx → Option (Int32 × Sx)} {P : Int32 × Sx → Prop} (hx : x1.toInt = c) (hc : c < 4) (hk : ∀ z, FrL [24] o z → E104 (gT z 24) (fun i => gT o 34 (104 * c + i)) → okP (k z) P) : ∀ (n : Nat) (z : Sx) (x2 : Int32), FrL [24] o z → 0 ≤ x2.toInt → x2.toInt ≤ 104 → (∀ i : Nat, (i : Int) < x2.toInt → gT z 24 i = gT o 34 (104 * c + i)) → (104 - x2.toInt).toNat < n → okP (lX9_back_25 k x1 n z x2) P := by
  intro n
  induction n with
  | zero => intro _ _ _ _ _ _ hm; omega
  | succ n ih =>
    intro z x2 fr h0 h1 ha hm
    have hcl := clampI h0
    rw [lX9_back_25]
    refine ok_ite (fun c1 => ?_) (fun c1 => ?_)
    · have ci := bI_le (show (104 : Int32).toInt = 104 by decide) rfl c1
      exact hk z fr (fun i hi => ha i (by omega))
    · have ci := bI_nle (show (104 : Int32).toInt = 104 by decide) rfl c1
      have e1 : (104 * x1).toInt = 104 * (c : Int) := by rw [i32_mul (show (104 : Int32).toInt = 104 by decide) hx (by omega) (by omega)]
      have e2 : ((104 * x1) + x2).toInt = 104 * (c : Int) + x2.toInt := i32_add e1 rfl (by omega) (by omega)
      have n2 : ((104 * x1) + x2).toNatClampNeg = 104 * c + x2.toNatClampNeg := n_cl (by rw [e2]; omega)
      refine ok_gd (inb_of (by omega) (by omega)) ?_
      refine ok_gd (inb_of (by omega) (by omega)) ?_
      rw [n2]
      have e3 : (x2 + 1).toInt = x2.toInt + 1 := i32_add rfl (show (1 : Int32).toInt = 1 by decide) (by omega) (by omega)
      have e34 : gT z 34 = gT o 34 := (fr 34 (by decide)).2.1
      refine ih _ (x2 + 1) (fr_T fr (by decide)) (by omega) (by omega) (fun i hi => ?_) (by omega)
      by_cases q : i = x2.toNatClampNeg
      · subst q
        exact (show upd (gT z 24) x2.toNatClampNeg (gT z 34 (104 * c + x2.toNatClampNeg)) x2.toNatClampNeg = gT z 34 (104 * c + x2.toNatClampNeg) from if_pos rfl).trans (by rw [e34])
      · exact (show upd (gT z 24) x2.toNatClampNeg (gT z 34 (104 * c + x2.toNatClampNeg)) i = gT z 24 i from if_neg q).trans (ha i (by omega))
theorem r_back {z_t : Sx} {x1 : Int32} (h : RI z_t) : okP (fX9_back z_t x1) (fun y => RI y.2) := by
  unfold fX9_back
  refine in_ok (if0 (ok_some h)) (fun i0 i1 => if1 ?_)
  have e0 : (0 : Int64).toInt = 0 := by decide
  have e3 : (3 : Int64).toInt = 3 := by decide
  have ex : x1.toInt64.toInt = x1.toInt := Int32.toInt_toInt64 x1
  have n0 : (0 : Int32).toInt = 0 := by decide
  obtain ⟨c, hc⟩ : ∃ c : Nat, x1.toInt = c := ⟨x1.toInt.toNat, by omega⟩
  have hcn : x1.toNatClampNeg = c := n_cl hc
  refine ok_gd (inb_of (by omega) (by omega)) ?_
  rw [hcn]
  refine ok_ite (fun _ => ok_some h) (fun cm => ?_)
  refine tl_back (o := z_t) (c := c) hc (by omega) (fun z9 f9 he => ?_) FU z_t 0 fr_rf (by omega) (by omega) (fun i hi => by omega) (FU_lt (by omega))
  exact ok_some (ri_fr h f9 (by decide) (sok_eq he (h.2.2.2 c (by omega) cm)))

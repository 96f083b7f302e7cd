theorem tl_m47 {z : Sx} {x1 x2 x3 : Int32} {k : Int32 → Option (Int64 × Sx)} {P : Int64 × Sx → Prop} (hn : (gT z 24 0).toInt ≤ 10) (hk : ∀ v, okP (k v) P) : ∀ (n : Nat) (x4 x5 : Int32), 0 ≤ x5.toInt → (10 - x5.toInt).toNat < n → okP (lX9_master_47 k z x1 x2 x3 n x4 x5) P := by
  intro n
  induction n with
  | zero => intro _ _ _ hm; omega
  | succ n ih =>
    intro x4 x5 h0 hm
    rw [lX9_master_47]
    refine ok_ite (fun _ => hk x4) (fun c => ?_)
    have ci := bI_nle rfl rfl c
    have e1 : (x5 + 1).toInt = x5.toInt + 1 := i32_add rfl (show (1 : Int32).toInt = 1 by decide) (by omega) (by omega)
    refine ok_bd t_fX9_isOf (fun r14 _ => ?_)
    refine ok_jn2 (Q := fun J => ∀ a b : Int32, okP (J a b) P) (fun a b => ih _ (x5 + 1) (by omega) (by omega)) (fun J15 HJ => ?_)
    refine ok_jn ?_
    refine ok_ite (fun _ => HJ _ _) (fun _ => ?_)
    refine ok_bd t_fX9_bits (fun r22 _ => ?_)
    exact ok_ite (fun _ => HJ _ _) (fun _ => HJ _ _)
/-- sets being mended, on trial -/
def NI (o K : Sx) (z : Sx) : Prop := FrL [24, 25, 26, 27, 28, 29, 30, 31, 32, 33] o z ∧ gT z 25 = gT K 25 ∧ SOK (gT z 24) ∧ (gT z 24 0).toInt = (gT K 25 0).toInt
set_option maxHeartbeats 1000000 in
theorem tl_m141 {o K : Sx} {x1 x2 x4 x5 x8 : Int32} {x6 : Int64} {k : Sx → Int64 → Option (Int64 × Sx)} {P : Int64 × Sx → Prop} (hk : ∀ z v, NI o K z → okP (k z v) P) : ∀ (n : Nat) (z : Sx) (x9 : Int64) (x11 : Int32), NI o K z → 0 ≤ x11.toInt → (10 - x11.toInt).toNat < n → okP (lX9_master_141 k x1 x2 x4 x5 x6 x8 n z x9 x11) P := by
  intro n
  induction n with
  | zero => intro _ _ _ _ _ hm; omega
  | succ n ih =>
    intro z x9 x11 hi h0 hm
    obtain ⟨a1, a2, a3, a4⟩ := id hi
    have hn := a3.1
    have hc := clampI h0
    rw [lX9_master_141]
    refine ok_ite (fun _ => hk z x9 hi) (fun c => ?_)
    have ci := bI_nle rfl rfl c
    have e1 : (x11 + 1).toInt = x11.toInt + 1 := i32_add rfl (show (1 : Int32).toInt = 1 by decide) (by omega) (by omega)
    refine ok_bd t_fX9_isOf (fun r35 _ => ?_)
    refine ok_jn2 (Q := fun J => ∀ (z37 : Sx) (v : Int64), NI o K z37 → okP (J z37 v) P) (fun z37 v h37 => ih z37 v (x11 + 1) h37 (by omega) (by omega)) (fun J HJ => ?_)
    refine ok_ite (fun _ => HJ z x9 hi) (fun _ => ?_)
    have e6 : (6 * x11).toInt = 6 * x11.toInt := i32_mul (show (6 : Int32).toInt = 6 by decide) rfl (by omega) (by omega)
    have e44 : (44 + (6 * x11)).toInt = 44 + 6 * x11.toInt := i32_add (show (44 : Int32).toInt = 44 by decide) e6 (by omega) (by omega)
    have e4 : ((44 + (6 * x11)) + 4).toInt = 44 + 6 * x11.toInt + 4 := i32_add e44 (show (4 : Int32).toInt = 4 by decide) (by omega) (by omega)
    have n4 : ((44 + (6 * x11)) + 4).toNatClampNeg = 44 + 6 * x11.toNatClampNeg + 4 := n_cl (by rw [e4]; omega)
    refine ok_gd (inb_of (by omega) (by omega)) ?_
    rw [n4]
    have s2 : SOK (gT (sT z 24 (44 + 6 * x11.toNatClampNeg + 4) 2) 24) := so_T a3 (by unfold freeix; omega)
    have z2 : (gT (sT z 24 (44 + 6 * x11.toNatClampNeg + 4) 2) 24 0).toInt = (gT z 24 0).toInt := congrArg Int32.toInt (show upd (gT z 24) (44 + 6 * x11.toNatClampNeg + 4) 2 0 = gT z 24 0 from if_neg (by omega))
    refine ok_bd (t_fX9_kindOf (by omega) (by decide) s2) (fun r42 _ => ?_)
    exact HJ _ _ ⟨fr_T a1 (by decide), a2, s2, by omega⟩
set_option maxHeartbeats 1000000 in
theorem tl_m109 {o K : Sx} {x1 x2 x4 : Int32} {k : Sx → Int32 → Int64 → Option (Int64 × Sx)} {P : Int64 × Sx → Prop} (hx : 0 ≤ x1.toInt ∧ x1.toInt ≤ 4) (hK : SOK (gT K 25)) (hk : ∀ z a b, NI o K z → okP (k z a b) P) : ∀ (n : Nat) (z : Sx) (x5 : Int32) (x6 : Int64) (x8 : Int32), NI o K z → 0 ≤ x8.toInt → (1024 - x8.toInt).toNat < n → okP (lX9_master_109 k x1 x2 x4 n z x5 x6 x8) P := by
  intro n
  induction n with
  | zero => intro _ _ _ _ _ _ hm; omega
  | succ n ih =>
    intro z x5 x6 x8 hi h0 hm
    obtain ⟨a1, a2, a3, a4⟩ := id hi
    have hn := a3.1
    have hs := shl_rng (x := gT z 24 0) hn.1 hn.2
    rw [lX9_master_109]
    refine ok_ite (fun _ => hk z x5 x6 hi) (fun c => ?_)
    have ci := bI_nle rfl rfl c
    have e1 : (x8 + 1).toInt = x8.toInt + 1 := i32_add rfl (show (1 : Int32).toInt = 1 by decide) (by omega) (by omega)
    refine ok_jn2 (Q := fun J => ∀ (z29 : Sx) (a : Int32) (b : Int64), NI o K z29 → okP (J z29 a b) P) (fun z29 a b h29 => ih z29 a b (x8 + 1) h29 (by omega) (by omega)) (fun J HJ => ?_)
    refine ok_ite (fun _ => ?_) (fun _ => HJ z x5 x6 hi)
    have z0 : (0 : Int32).toInt = 0 := by decide
    refine tl_m141 (o := o) (K := K) (fun z43 i44 h43 => ?_) FU z 0 0 hi (by omega) (FU_lt (by omega))
    obtain ⟨b1, b2, b3, b4⟩ := h43
    refine ok_bd (t_fX9_goesThrough (by omega) b3) (fun z46 q => ?_)
    obtain ⟨f46, -, -⟩ := q
    have e25 : gT z46 25 = gT K 25 := (f46 25 (by decide)).2.1.trans b2
    refine ok_bd (t_fX9_putsBack (by rw [e25]; exact hK)) (fun z48 q => ?_)
    obtain ⟨f48, e48, s48⟩ := q
    have h48 : NI o K z48 := ⟨fr_tr (fr_tr b1 f46 (by decide)) f48 (by decide), (f48 25 (by decide)).2.1.trans e25, s48, by rw [e48 0 (by decide), e25]⟩
    refine ok_bd (t_fX9_hundreds (by omega)) (fun r50 _ => ?_)
    refine ok_jn ?_
    refine ok_ite (fun _ => HJ _ _ _ h48) (fun _ => ?_)
    refine ok_ite (fun _ => HJ _ _ _ h48) (fun _ => ?_)
    refine ok_ite (fun _ => ?_) (fun _ => HJ _ _ _ h48)
    refine ok_bd t_fX9_bits (fun r56 _ => ok_bd t_fX9_bits (fun r58 _ => ?_))
    exact ok_ite (fun _ => HJ _ _ _ h48) (fun _ => HJ _ _ _ h48)
theorem r_master {z_t : Sx} {x1 x2 : Int32} (h : RI z_t) : okP (fX9_master z_t x1 x2) (fun y => RI y.2) := by
  unfold fX9_master
  have z0 : okP (some (((-1000000000000) : Int64), z_t)) (fun y : Int64 × Sx => RI y.2) := ok_some h
  refine wk_ok (if0 z0) (fun _ => if1 ?_)
  refine in_ok (if0 z0) (fun i0 i1 => if1 ?_)
  refine in_ok (if0 z0) (fun _ _ => if1 ?_)
  have e0 : (0 : Int64).toInt = 0 := by decide
  have e4 : (4 : Int64).toInt = 4 := by decide
  have ex : x1.toInt64.toInt = x1.toInt := Int32.toInt_toInt64 x1
  have n0 : (0 : Int32).toInt = 0 := by decide
  have hS := h.2.1
  have hn := hS.1
  refine ok_bd (t_fX9_thatAre hS) (fun r11 _ => ?_)
  refine tl_m47 hn.2 (fun i24 => ?_) FU 0 0 (by omega) (FU_lt (by omega))
  refine ok_bd (t_fX9_keeps hS) (fun z26 q => ?_)
  obtain ⟨f26, e26⟩ := q
  have hK : SOK (gT z26 25) := sok_eq e26 hS
  have s26 : SOK (gT z26 24) := so_fr f26 (by decide) hS
  have h26 : NI z_t z26 z26 := ⟨fr_tr fr_rf f26 (by decide), rfl, s26, by rw [(f26 24 (by decide)).2.1, e26 0 (by decide)]⟩
  refine tl_m109 (o := z_t) (K := z26) (by omega) hK (fun z60 a b h60 => ?_) FU z26 (-1) 0 0 h26 (by omega) (FU_lt (by omega))
  have hr : RI z60 := ri_fr h h60.1 (by decide) h60.2.2.1
  refine ok_ite (fun _ => ok_some hr) (fun _ => ?_)
  refine ok_bd (t_fX9_hundreds (by omega)) (fun r65 q => ?_)
  have q : 1 ≤ r65.toInt ∧ r65.toInt ≤ 10000000000000000 := q
  exact ok_bd (t_fX9_partOf (by omega)) (fun r67 _ => ok_some hr)
theorem ri_24 {z z' : Sx} (h : RI z) (hf : FrL [24] z z') (hs : SOK (gT z' 24)) : RI z' := ri_fr h hf (by decide) hs
theorem r_look {z_t : Sx} {x1 : Int32} (h : RI z_t) : okP (fX9_look z_t x1) (fun y => RI y.2) := ok_imp (t_fX9_look h.2.1) (fun _ q => ri_24 h q.1 q.2.1)
theorem r_fine {z_t : Sx} {x1 : Int32} (h : RI z_t) : okP (fX9_fine z_t x1) (fun y => RI y.2) := ok_imp (t_fX9_fine h.2.1) (fun _ q => ri_24 h q.1 q.2.1)
theorem r_mend {z_t : Sx} {x1 : Int32} (h : RI z_t) : okP (fX9_mend z_t x1) (fun y => RI y.2) := ok_imp (t_fX9_mend h.2.1) (fun _ q => ri_24 h q.1 q.2.1)
theorem r_dawn {z_t : Sx} (h : RI z_t) : okP (fX9_dawn z_t) (fun y => RI y.2) := ok_imp (t_fX9_dawn h.2.1) (fun _ q => ri_24 h q.1 q.2.1)
theorem r_day {z_t : Sx} {x1 : Int32} (h : RI z_t) : okP (fX9_day z_t x1) (fun y => RI y.2) := ok_imp (t_fX9_day h.2.2.1 h.2.1) (fun _ q => ri_fr h q.1 (by decide) q.2.1)
theorem r_row {z_t : Sx} {x1 : Int32} (h : RI z_t) : okP (fX9_row z_t x1) (fun y => RI y.2) := ok_imp (t_fX9_row h.2.1) (fun _ q => ri_24 h q.1 q.2)
theorem r_game {z_t : Sx} {x1 x2 : Int32} (h : RI z_t) : okP (fX9_game z_t x1 x2) (fun y => RI y.2) := ok_imp (t_fX9_game h.2.1) (fun _ q => ri_24 h q.1 q.2.1)
theorem r_seed {z_t : Sx} {x1 : Int32} (h : RI z_t) : okP (fX9_seed z_t x1) (fun y => RI y.2) := ok_imp (t_fX9_seed h.2.1) (fun _ q => ri_24 h q.1 q.2.1)
theorem ri_tp {L : List Nat} {z z' : Sx} (h : RI z) (hf : FrL L z z') (hL : (L.contains 2 || L.contains 3 || L.contains 5 || L.contains 6 || L.contains 24 || L.contains 34 || L.contains 35) = false) (ht : 0 ≤ (gI z' 1).toInt ∧ (gI z' 1).toInt ≤ 400) : RI z' := by
  simp only [Bool.or_eq_false_iff] at hL
  obtain ⟨⟨⟨⟨⟨⟨l2, l3⟩, l5⟩, l6⟩, l24⟩, l34⟩, l35⟩ := hL
  obtain ⟨h1, h2, h3, h4⟩ := h
  have e2 : gI z' 2 = gI z 2 := (hf 2 l2).1
  refine ⟨ht, so_fr hf l24 h2, ?_, img_fr hf l34 l35 h4⟩
  unfold RU; rw [e2]
  exact ⟨h3.1, h3.2.1, fun t ht => rk_eq (hf 3 l3).2.1 (hf 5 l5).2.1 (hf 6 l6).2.1 (h3.2.2 t ht)⟩
theorem r_feed {z_t : Sx} {x1 x2 x3 x4 x5 : Int32} (h : RI z_t) : okP (fX9_feed z_t x1 x2 x3 x4 x5) (fun y => RI y.2) := ok_imp (t_fX9_feed h.1) (fun _ q => ri_tp h q.1 (by decide) q.2)
theorem r_end {z_t : Sx} {x1 : Int32} (h : RI z_t) : okP (fX9_end z_t x1) (fun y => RI y.2) := ok_imp (t_fX9_end h.1) (fun _ q => ri_tp h q.1 (by decide) q.2)
/-- a new object -/
theorem ri_new : RI (fun _ => 0, fun _ _ => 0, fun _ _ => 0) := by
  have z0 : (0 : Int32).toInt = 0 := by decide
  have g : ∀ k, gT (((fun _ => 0), (fun _ _ => 0), (fun _ _ => 0)) : Sx) k = fun _ => 0 := fun _ => rfl
  have i : ∀ k, gI (((fun _ => 0), (fun _ _ => 0), (fun _ _ => 0)) : Sx) k = 0 := fun _ => rfl
  have so : SOK (fun _ => 0) := by
    refine ⟨⟨by decide, by decide⟩, ⟨by decide, by decide⟩, ⟨by decide, by decide⟩, fun f _ => (show 0 ≤ (0 : Int32).toInt ∧ (0 : Int32).toInt ≤ 5 ∧ -1 ≤ (0 : Int32).toInt ∧ (0 : Int32).toInt ≤ 9 by decide), fun k hk => ?_, fun k _ => (show -99 ≤ (0 : Int32).toInt ∧ (0 : Int32).toInt ≤ 99 by decide)⟩
    have hk2 : (k : Int) < (0 : Int32).toInt := hk
    omega
  refine ⟨?_, ?_, ?_, ?_⟩
  · rw [i]; exact ⟨by decide, by decide⟩
  · rw [g]; exact so
  · unfold RU; rw [i]
    exact ⟨by decide, by decide, fun t ht => by omega⟩
  · intro k _ hne
    exact absurd rfl hne

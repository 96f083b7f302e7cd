/-! What each call of the reference leaves of a WORK, of the ROW, of the number of DAYS, and of its images. -/
def KI (i : Nat) : Prop := i < 104 ∧ ¬ DY i ∧ ¬ (18 ≤ i ∧ i < 26)
def V9 (o z : Sx) : Prop := (∀ i : Nat, KI i → gT z 24 i = gT o 24 i) ∧ gT z 34 = gT o 34 ∧ gT z 35 = gT o 35
theorem v9_rf {z : Sx} : V9 z z := ⟨fun _ _ => rfl, rfl, rfl⟩
theorem v9_kx {L : List Nat} {o z : Sx} (hf : FrL L o z) (hk : KX o z) (hL : (L.contains 34 || L.contains 35) = false) : V9 o z := by
  simp only [Bool.or_eq_false_iff] at hL
  exact ⟨fun i hi => hk.2.2 i hi.2.1, (hf 34 hL.1).2.1, (hf 35 hL.2).2.1⟩
theorem v9_fr {L : List Nat} {o z : Sx} (hf : FrL L o z) (hL : (L.contains 24 || L.contains 34 || L.contains 35) = false) : V9 o z := by
  simp only [Bool.or_eq_false_iff] at hL
  exact ⟨fun i _ => by rw [(hf 24 hL.1.1).2.1], (hf 34 hL.1.2).2.1, (hf 35 hL.2).2.1⟩
theorem v9_e {L : List Nat} {o z : Sx} (hf : FrL L o z) (he : E104 (gT z 24) (gT o 24)) (hL : (L.contains 34 || L.contains 35) = false) : V9 o z := by
  simp only [Bool.or_eq_false_iff] at hL
  exact ⟨fun i hi => he i hi.1, (hf 34 hL.1).2.1, (hf 35 hL.2).2.1⟩
section V9S
variable {z_t : Sx} {x1 x2 x3 x4 x5 : Int32}
theorem v_feed (h : RI z_t) : okP (fX9_feed z_t x1 x2 x3 x4 x5) (fun y => V9 z_t y.2) := ok_imp (t_fX9_feed h.1) (fun _ q => v9_fr q.1 (by decide))
theorem v_end (h : RI z_t) : okP (fX9_end z_t x1) (fun y => V9 z_t y.2) := ok_imp (t_fX9_end h.1) (fun _ q => v9_fr q.1 (by decide))
theorem v_rule (h : RI z_t) : okP (fX9_rule z_t) (fun y => V9 z_t y.2) := by
  unfold fX9_rule
  obtain ⟨h1, h2, ⟨h3, h4, h5⟩, h6⟩ := id h
  refine ok_ite (fun c => ok_some v9_rf) (fun c => ?_)
  have ci := bI_neq rfl (show (6 : Int32).toInt = 6 by decide) c
  refine ok_gd (inb_of (by omega) (by omega)) ?_
  obtain ⟨t, ht⟩ : ∃ t : Nat, (gI z_t 2).toInt = t := ⟨(gI z_t 2).toInt.toNat, by omega⟩
  have htn : (gI z_t 2).toNatClampNeg = t := n_cl ht
  simp only [htn]
  refine ok_bd2 (t_readsR (t := t) (z_t := sT (sI z_t 15 (gI z_t 2)) 6 t 0) ⟨ht, by omega⟩ h1 (by
    have e : gT (sT (sI z_t 15 (gI z_t 2)) 6 t 0) 6 t = 0 := if_pos rfl
    rw [e]; decide)) (fun r4 z5 q => ?_)
  have a1 : FrL [1, 3, 4, 5, 6, 12, 13, 14, 16, 17, 18, 19, 20] (sT (sI z_t 15 (gI z_t 2)) 6 t 0) z5 := q.1
  have fr5 : FrL [1, 3, 4, 5, 6, 12, 13, 14, 15, 16, 17, 18, 19, 20] z_t z5 := fr_tr (fr_T (fr_I fr_rf (by decide)) (by decide)) a1 (by decide)
  have g5 : V9 z_t z5 := v9_fr fr5 (by decide)
  exact ok_ite (fun _ => ok_some g5) (fun _ => ok_some g5)
theorem v_look (h : RI z_t) : okP (fX9_look z_t x1) (fun y => V9 z_t y.2) := ok_imp (k_fX9_look h.2.1) (fun _ q => v9_kx q.1 q.2.2 (by decide))
theorem v_fine (h : RI z_t) : okP (fX9_fine z_t x1) (fun y => V9 z_t y.2) := ok_imp (k_fX9_fine h.2.1) (fun _ q => v9_kx q.1 q.2.2 (by decide))
theorem v_mend (h : RI z_t) : okP (fX9_mend z_t x1) (fun y => V9 z_t y.2) := ok_imp (k_fX9_mend h.2.1) (fun _ q => v9_kx q.1 q.2.2 (by decide))
theorem v_seed (h : RI z_t) : okP (fX9_seed z_t x1) (fun y => V9 z_t y.2) := ok_imp (k_fX9_seed h.2.1) (fun _ q => v9_kx q.1 q.2.2 (by decide))
theorem v_day (h : RI z_t) : okP (fX9_day z_t x1) (fun y => V9 z_t y.2) := ok_imp (k_fX9_day h.2.2.1 h.2.1) (fun _ q => v9_kx q.1 q.2.2 (by decide))
theorem v_would (h : RI z_t) : okP (fX9_would z_t x1 x2) (fun y => V9 z_t y.2) := by
  unfold fX9_would
  have z0 : okP (some (((-1000000) : Int32), z_t)) (fun y : Int32 × Sx => V9 z_t y.2) := ok_some v9_rf
  refine wk_ok (ok_jn (if0 z0)) (fun _ => ok_jn (if1 ?_))
  refine rl_ok (if0 z0) (fun r0 r1 => if1 ?_)
  refine in_ok (if0 z0) (fun i0 i1 => if1 ?_)
  have hS := h.2.1
  refine ok_bd (t_fX9_keeps hS) (fun z12 q => ?_)
  obtain ⟨f12, e12⟩ := q
  have s12 : SOK (gT z12 24) := so_fr f12 (by decide) hS
  have hc := clampI r0
  have rk : RK z_t x1.toNatClampNeg := h.2.2.1.2.2 _ (by omega)
  refine ok_bd2 (t_fX9_passes (t := x1.toNatClampNeg) hc.symm s12 (rk_fr f12 (by decide) rk)) (fun r14 z15 q => ?_)
  obtain ⟨f15, s15, -⟩ := q
  have f15 : FrL [21, 22, 23, 24] z12 z15 := f15
  have s15 : SOK (gT z15 24) := s15
  have e25 : gT z15 25 = gT z12 25 := (f15 25 (by decide)).2.1
  have k25 : SOK (gT z15 25) := by rw [e25]; exact sok_eq e12 hS
  refine ok_jn2 (Q := fun J => ∀ v : Int32, okP (J v) (fun y : Int32 × Sx => V9 z_t y.2)) ?_ (fun J HJ => ?_)
  · intro v
    refine ok_bd (t_fX9_putsBack k25) (fun z19 q => ?_)
    obtain ⟨f19, e19, s19⟩ := q
    exact ok_some (v9_e (fr_tr (L := [21, 22, 23, 24, 25]) (fr_tr (fr_tr fr_rf f12 (by decide)) f15 (by decide)) f19 (by decide)) (fun i hi => (e19 i hi).trans (by rw [e25]; exact e12 i hi)) (by decide))
  · refine ok_ite (fun _ => HJ _) (fun _ => ?_)
    refine ok_ite (fun _ => ok_bd (t_fX9_thatAre s15) (fun r _ => HJ r)) (fun _ => ?_)
    refine ok_ite (fun _ => HJ _) (fun _ => ?_)
    exact ok_ite (fun _ => ok_bd (t_fX9_hidden s15) (fun r _ => HJ r)) (fun _ => HJ _)
theorem v_best (h : RI z_t) : okP (fX9_best z_t x1 x2) (fun y => V9 z_t y.2) := by
  unfold fX9_best
  have z0 : okP (some (((-1) : Int64), z_t)) (fun y : Int64 × Sx => V9 z_t y.2) := ok_some v9_rf
  refine wk_ok (if0 z0) (fun _ => if1 ?_)
  refine in_ok (if0 z0) (fun i0 i1 => if1 ?_)
  refine in_ok (if0 z0) (fun i2 i3 => if1 ?_)
  have e0 : (0 : Int64).toInt = 0 := by decide
  have e5 : (5 : Int64).toInt = 5 := by decide
  have ex : x1.toInt64.toInt = x1.toInt := Int32.toInt_toInt64 x1
  have hS := h.2.1
  refine ok_bd (t_fX9_keeps hS) (fun z11 q => ?_)
  obtain ⟨f11, e11⟩ := q
  have s11 : SOK (gT z11 24) := so_fr f11 (by decide) hS
  refine ok_bd (t_fX9_goesThrough (by omega) s11) (fun z13 q => ?_)
  obtain ⟨f13, -, -⟩ := q
  have e25 : gT z13 25 = gT z11 25 := (f13 25 (by decide)).2.1
  have k25 : SOK (gT z13 25) := by rw [e25]; exact sok_eq e11 hS
  refine ok_bd (t_fX9_putsBack k25) (fun z15 q => ?_)
  obtain ⟨f15, e15, s15⟩ := q
  have hr : V9 z_t z15 := v9_e (fr_tr (L := [24, 25, 26, 27, 28, 29, 30, 31, 32, 33]) (fr_tr (fr_tr fr_rf f11 (by decide)) f13 (by decide)) f15 (by decide)) (fun i hi => (e15 i hi).trans (by rw [e25]; exact e11 i hi)) (by decide)
  refine ok_ite (fun _ => ok_some hr) (fun _ => ?_)
  refine ok_bd (t_fX9_hundreds (by omega)) (fun r18 q => ?_)
  have q : 1 ≤ r18.toInt ∧ r18.toInt ≤ 10000000000000000 := q
  exact ok_bd (t_fX9_partOf (by omega)) (fun r20 _ => ok_some hr)
theorem v_worth (h : RI z_t) : okP (fX9_worth z_t x1) (fun y => V9 z_t y.2) := by
  unfold fX9_worth
  have z0 : okP (some (((-1) : Int64), z_t)) (fun y : Int64 × Sx => V9 z_t y.2) := ok_some v9_rf
  refine wk_ok (if0 z0) (fun _ => if1 ?_)
  refine in_ok (if0 z0) (fun i0 i1 => if1 ?_)
  refine ok_bd2 (k_meanOf (by decide) h.2.1) (fun r8 z9 q => ?_)
  obtain ⟨f9, s9, e9⟩ := q
  have h8 := s9.2.2.1
  have hr : V9 z_t z9 := v9_e f9 e9 (by decide)
  refine ok_bd (t_fX9_hundreds (show (gT z9 24 8).toInt ≤ 8 from h8.2)) (fun r11 q => ?_)
  have q : 1 ≤ r11.toInt ∧ r11.toInt ≤ 10000000000000000 := q
  exact ok_bd (t_fX9_partOf (by omega)) (fun r13 _ => ok_some hr)
theorem v_seen (h : RI z_t) : okP (fX9_seen z_t x1 x2) (fun y => V9 z_t y.2) := by
  unfold fX9_seen
  have z0 : okP (some (((-1) : Int64), z_t)) (fun y : Int64 × Sx => V9 z_t y.2) := ok_some v9_rf
  have hn := h.2.1.1
  refine fl_ok (if0 z0) (fun r0 r1 => if1 ?_)
  refine in_ok (if0 z0) (fun i0 i1 => if1 ?_)
  refine ok_bd2 (k_meanOf (by omega) h.2.1) (fun r8 z9 q => ?_)
  obtain ⟨f9, s9, e9⟩ := q
  have h8 := s9.2.2.1
  have hr : V9 z_t z9 := v9_e f9 e9 (by decide)
  refine ok_bd (t_fX9_hundreds (show (gT z9 24 8).toInt ≤ 8 from h8.2)) (fun r11 q => ?_)
  have q : 1 ≤ r11.toInt ∧ r11.toInt ≤ 10000000000000000 := q
  exact ok_bd (t_fX9_partOf (by omega)) (fun r13 _ => ok_some hr)
theorem v_weeks (h : RI z_t) : okP (fX9_weeks z_t x1 x2 x3) (fun y => V9 z_t y.2) := by
  unfold fX9_weeks
  have z0 : okP (some (((-1) : Int32), z_t)) (fun y : Int32 × Sx => V9 z_t y.2) := ok_some v9_rf
  refine wk_ok (if0 z0) (fun _ => if1 ?_)
  refine rl_ok (if0 z0) (fun r0 r1 => if1 ?_)
  refine in_ok (if0 z0) (fun i0 i1 => if1 ?_)
  refine in_ok (if0 z0) (fun _ _ => if1 ?_)
  have e1 : (1 : Int64).toInt = 1 := by decide
  have e20 : (20 : Int64).toInt = 20 := by decide
  have ex : x2.toInt64.toInt = x2.toInt := Int32.toInt_toInt64 x2
  have n0 : (0 : Int32).toInt = 0 := by decide
  have hS := h.2.1
  have hc := clampI r0
  have rk : RK z_t x1.toNatClampNeg := h.2.2.1.2.2 _ (by omega)
  refine ok_bd (t_fX9_keeps hS) (fun z14 q => ?_)
  obtain ⟨f14, e14⟩ := q
  have hK : SOK (gT z14 25) := sok_eq e14 hS
  refine tl_weeks (o := z_t) (K := z14) (t := x1.toNatClampNeg) hc.symm rk (by omega) (fun z32 v hi => ?_) FU z14 0 0 ⟨fr_tr fr_rf f14 (by decide), rfl, so_fr f14 (by decide) hS⟩ (by omega) (FU_lt (by omega))
  obtain ⟨a1, a2, a3⟩ := hi
  refine ok_bd (t_fX9_putsBack (by rw [a2]; exact hK)) (fun z35 q => ?_)
  obtain ⟨f35, e35, s35⟩ := q
  exact ok_some (v9_e (fr_tr a1 f35 (by decide)) (fun i hi => (e35 i hi).trans (by rw [a2]; exact e14 i hi)) (by decide))
theorem v_master (h : RI z_t) : okP (fX9_master z_t x1 x2) (fun y => V9 z_t y.2) := by
  unfold fX9_master
  have z0 : okP (some (((-1000000000000) : Int64), z_t)) (fun y : Int64 × Sx => V9 z_t y.2) := ok_some v9_rf
  refine wk_ok (if0 z0) (fun _ => if1 ?_)
  refine in_ok (if0 z0) (fun i0 i1 => if1 ?_)
  refine in_ok (if0 z0) (fun _ _ => if1 ?_)
  have e0 : (0 : Int64).toInt = 0 := by decide
  have e4 : (4 : Int64).toInt = 4 := by decide
  have ex : x1.toInt64.toInt = x1.toInt := Int32.toInt_toInt64 x1
  have n0 : (0 : Int32).toInt = 0 := by decide
  have hS := h.2.1
  have hn := hS.1
  refine ok_bd (t_fX9_thatAre hS) (fun r11 _ => ?_)
  refine tl_m47 hn.2 (fun i24 => ?_) FU 0 0 (by omega) (FU_lt (by omega))
  refine ok_bd (t_fX9_keeps hS) (fun z26 q => ?_)
  obtain ⟨f26, e26⟩ := q
  have hK : SOK (gT z26 25) := sok_eq e26 hS
  have s26 : SOK (gT z26 24) := so_fr f26 (by decide) hS
  have e24 : gT z26 24 = gT z_t 24 := (f26 24 (by decide)).2.1
  have h26 : NJ z_t z26 z26 := ⟨⟨fr_tr fr_rf f26 (by decide), rfl, s26, by rw [(f26 24 (by decide)).2.1, e26 0 (by decide)]⟩, fun i hi => by rw [e24]; exact (e26 i hi).symm⟩
  refine tk_m109 (o := z_t) (K := z26) (by omega) hK (fun z60 a b h60 => ?_) FU z26 (-1) 0 0 h26 (by omega) (FU_lt (by omega))
  have hr : V9 z_t z60 := v9_e h60.1.1 (fun i hi => (h60.2 i hi).trans (e26 i hi)) (by decide)
  refine ok_ite (fun _ => ok_some hr) (fun _ => ?_)
  refine ok_bd (t_fX9_hundreds (by omega)) (fun r65 q => ?_)
  have q : 1 ≤ r65.toInt ∧ r65.toInt ≤ 10000000000000000 := q
  exact ok_bd (t_fX9_partOf (by omega)) (fun r67 _ => ok_some hr)
theorem v_game : okP (fX9_game z_t x1 x2) (fun y => V9 z_t y.2) := ok_imp game9 (fun y q => by
  rcases q with q | q
  · rw [q.2.2]; exact v9_rf
  · rw [q.2.2]
    have hc := clampI (x := x1) q.1.1
    have h7 := q.1.2.1
    refine ⟨fun i hi => if_neg (fun k => hi.2.2 (by omega)), rfl, rfl⟩)
theorem image9a : okP (fX9_image z_t x1) (fun y => (¬ IC x1 ∧ y.1 = -1) ∨ (IC x1 ∧ y.1 = gT z_t 24 7)) := by
  unfold fX9_image
  have e0 : (0 : Int64).toInt = 0 := by decide
  have e3 : (3 : Int64).toInt = 3 := by decide
  have ex : x1.toInt64.toInt = x1.toInt := Int32.toInt_toInt64 x1
  refine ok_bd t_fX9_in (fun r q => ?_)
  rcases q.2 with w | w
  · have hr : ¬ r = 0 := fun e => by rw [e] at w; exact absurd w.1 (by decide)
    refine ok_ite (fun c => absurd c hr) (fun _ => ?_)
    have n0 : (0 : Int32).toInt = 0 := by decide
    obtain ⟨c, hc⟩ : ∃ c : Nat, x1.toInt = c := ⟨x1.toInt.toNat, by omega⟩
    have hcn : x1.toNatClampNeg = c := n_cl hc
    refine ok_gd (inb_of (by omega) (by omega)) ?_
    rw [hcn]
    obtain ⟨v, hv⟩ : ∃ v, v = vp_nar .boolean 1 := ⟨_, rfl⟩
    rw [← hv]
    refine tl_image (o := sT z_t 35 c v) (c := c) hc (by omega) (fun z8 f8 ha hb => ?_) FU (sT z_t 35 c v) 0 fr_rf (by omega) (by omega) (fun i hi => by omega) (fun _ _ => rfl) (FU_lt (by omega))
    have e24 : gT z8 24 = gT z_t 24 := (f8 24 (by decide)).2.1
    refine ok_some (Or.inr ⟨⟨by omega, by omega⟩, ?_⟩)
    show gT z8 24 7 = gT z_t 24 7
    rw [e24]
  · have hr : r = 0 := Int32.toInt_inj.1 (by rw [w.1]; decide)
    refine ok_ite (fun _ => ok_some (Or.inl ⟨fun h => ?_, rfl⟩)) (fun c => absurd hr c)
    unfold IC at h
    omega
theorem back9a : okP (fX9_back z_t x1) (fun y => ((¬ IC x1 ∨ gT z_t 35 x1.toNatClampNeg = 0) ∧ y.1 = -1) ∨ (IC x1 ∧ ¬ gT z_t 35 x1.toNatClampNeg = 0 ∧ y.1 = gT y.2 24 7)) := by
  unfold fX9_back
  have e0 : (0 : Int64).toInt = 0 := by decide
  have e3 : (3 : Int64).toInt = 3 := by decide
  have ex : x1.toInt64.toInt = x1.toInt := Int32.toInt_toInt64 x1
  refine ok_bd t_fX9_in (fun r q => ?_)
  rcases q.2 with w | w
  · have hr : ¬ r = 0 := fun e => by rw [e] at w; exact absurd w.1 (by decide)
    refine ok_ite (fun c => absurd c hr) (fun _ => ?_)
    have n0 : (0 : Int32).toInt = 0 := by decide
    obtain ⟨c, hc⟩ : ∃ c : Nat, x1.toInt = c := ⟨x1.toInt.toNat, by omega⟩
    have hcn : x1.toNatClampNeg = c := n_cl hc
    refine ok_gd (inb_of (by omega) (by omega)) ?_
    rw [hcn]
    refine ok_ite (fun h0 => ok_some (Or.inl ⟨Or.inr h0, rfl⟩)) (fun cm => ?_)
    refine tl_back (o := z_t) (c := c) hc (by omega) (fun z9 f9 he => ?_) FU z_t 0 fr_rf (by omega) (by omega) (fun i hi => by omega) (FU_lt (by omega))
    exact ok_some (Or.inr ⟨⟨by omega, by omega⟩, cm, rfl⟩)
  · have hr : r = 0 := Int32.toInt_inj.1 (by rw [w.1]; decide)
    refine ok_ite (fun _ => ok_some (Or.inl ⟨Or.inl (fun h => ?_), rfl⟩)) (fun c => absurd hr c)
    unfold IC at h
    omega
theorem t24_eq {z : Sx} {i : Nat} {v : Int32} : gT (sT z 24 i v) 24 i = v := (show upd (gT z 24) i v i = v from if_pos rfl)
theorem dawn9 (h : RI z_t) : okP (fX9_dawn z_t) (fun y => ((gT z_t 24 0).toInt ≤ 0 ∧ y.2 = z_t) ∨ (0 < (gT z_t 24 0).toInt ∧ (∀ i : Nat, KI i → ¬ i = 7 → gT y.2 24 i = gT z_t 24 i) ∧ gT y.2 24 7 = gT z_t 24 7 + 1 ∧ gT y.2 34 = gT z_t 34 ∧ gT y.2 35 = gT z_t 35)) := by
  have hS := h.2.1
  unfold fX9_dawn fX9_isWork
  have z0 : (0 : Int32).toInt = 0 := by decide
  by_cases c : gT z_t 24 0 ≤ 0
  · rw [if_pos c, bd_eq rfl, if_pos rfl]
    exact ok_some (Or.inl ⟨by have := bI_le rfl z0 c; omega, rfl⟩)
  · rw [if_neg c, bd_eq rfl, if_neg one0]
    refine ok_bd (t_fX9_hidden hS) (fun r5 _ => ?_)
    refine ok_nm ?_
    refine ok_nm ?_
    refine ok_bd (k_fX9_begins (so_T (so_T (so_T hS (by unfold freeix; omega)) (by unfold freeix; omega)) (by unfold freeix; omega))) (fun z9 q => ?_)
    refine ok_some (Or.inr ⟨by have := bI_nle rfl z0 c; omega, fun i hi h7 => ?_, ?_, (q.1 34 (by decide)).2.1, (q.1 35 (by decide)).2.1⟩)
    · have hd := hi.2.1
      refine (q.2.2.2.2 i hd).trans ?_
      exact (t24_ne h7).trans ((t24_ne (fun k => hd (by unfold DY; omega))).trans (t24_ne (fun k => hd (by unfold DY; omega))))
    · refine (q.2.2.2.2 7 (by unfold DY; omega)).trans ?_
      refine t24_eq.trans ?_
      exact congrArg (· + 1) ((t24_ne (by decide)).trans (t24_ne (by decide)))
end V9S

/-! GAME: what each call of the reference does to its eight numbers, and to those of its images. -/
theorem ok_get {α : Type} {x : Option α} {P : α → Prop} {y : α} (h : okP x P) (e : x = some y) : P y := by
  obtain ⟨z, hz, hp⟩ := h
  rw [e] at hz
  obtain rfl := Option.some.inj hz
  exact hp
theorem t24_ne {z : Sx} {i j : Nat} {v : Int32} (h : ¬ j = i) : gT (sT z 24 i v) 24 j = gT z 24 j := if_neg h
def G9 (o z : Sx) : Prop := (∀ j : Nat, j < 8 → gT z 24 (18 + j) = gT o 24 (18 + j)) ∧ gT z 34 = gT o 34 ∧ gT z 35 = gT o 35
theorem g9_rf {z : Sx} : G9 z z := ⟨fun _ _ => rfl, rfl, rfl⟩
theorem g9_kx {L : List Nat} {o z : Sx} (hf : FrL L o z) (hk : KX o z) (hL : (L.contains 34 || L.contains 35) = false) : G9 o z := by
  simp only [Bool.or_eq_false_iff] at hL
  exact ⟨fun j hj => hk.2.2 (18 + j) (by unfold DY; omega), (hf 34 hL.1).2.1, (hf 35 hL.2).2.1⟩
theorem g9_fr {L : List Nat} {o z : Sx} (hf : FrL L o z) (hL : (L.contains 24 || L.contains 34 || L.contains 35) = false) : G9 o z := by
  simp only [Bool.or_eq_false_iff] at hL
  exact ⟨fun j hj => by rw [(hf 24 hL.1.1).2.1], (hf 34 hL.1.2).2.1, (hf 35 hL.2).2.1⟩
theorem g9_e {L : List Nat} {o z : Sx} (hf : FrL L o z) (he : E104 (gT z 24) (gT o 24)) (hL : (L.contains 34 || L.contains 35) = false) : G9 o z := by
  simp only [Bool.or_eq_false_iff] at hL
  exact ⟨fun j hj => he (18 + j) (by omega), (hf 34 hL.1).2.1, (hf 35 hL.2).2.1⟩
section G9S
variable {z_t : Sx} {x1 x2 x3 x4 x5 : Int32}
theorem g_feed (h : RI z_t) : okP (fX9_feed z_t x1 x2 x3 x4 x5) (fun y => G9 z_t y.2) := ok_imp (t_fX9_feed h.1) (fun _ q => g9_fr q.1 (by decide))
theorem g_end (h : RI z_t) : okP (fX9_end z_t x1) (fun y => G9 z_t y.2) := ok_imp (t_fX9_end h.1) (fun _ q => g9_fr q.1 (by decide))
theorem g_look (h : RI z_t) : okP (fX9_look z_t x1) (fun y => G9 z_t y.2) := ok_imp (k_fX9_look h.2.1) (fun _ q => g9_kx q.1 q.2.2 (by decide))
theorem g_fine (h : RI z_t) : okP (fX9_fine z_t x1) (fun y => G9 z_t y.2) := ok_imp (k_fX9_fine h.2.1) (fun _ q => g9_kx q.1 q.2.2 (by decide))
theorem g_mend (h : RI z_t) : okP (fX9_mend z_t x1) (fun y => G9 z_t y.2) := ok_imp (k_fX9_mend h.2.1) (fun _ q => g9_kx q.1 q.2.2 (by decide))
theorem g_seed (h : RI z_t) : okP (fX9_seed z_t x1) (fun y => G9 z_t y.2) := ok_imp (k_fX9_seed h.2.1) (fun _ q => g9_kx q.1 q.2.2 (by decide))
theorem g_day (h : RI z_t) : okP (fX9_day z_t x1) (fun y => G9 z_t y.2) := ok_imp (k_fX9_day h.2.2.1 h.2.1) (fun _ q => g9_kx q.1 q.2.2 (by decide))
theorem g_dawn (h : RI z_t) : okP (fX9_dawn z_t) (fun y => G9 z_t y.2) := by
  have hS := h.2.1
  unfold fX9_dawn
  refine ok_bd t_fX9_isWork (fun r2 _ => ?_)
  refine ok_ite (fun _ => ok_some g9_rf) (fun _ => ?_)
  refine ok_bd (t_fX9_hidden hS) (fun r5 _ => ?_)
  refine ok_nm ?_
  refine ok_nm ?_
  refine ok_bd (k_fX9_begins (so_T (so_T (so_T hS (by unfold freeix; omega)) (by unfold freeix; omega)) (by unfold freeix; omega))) (fun z9 q => ?_)
  refine ok_some ⟨fun j hj => ?_, (q.1 34 (by decide)).2.1, (q.1 35 (by decide)).2.1⟩
  refine (q.2.2.2.2 (18 + j) (by unfold DY; omega)).trans ?_
  exact (t24_ne (by omega)).trans ((t24_ne (by omega)).trans (t24_ne (by omega)))
theorem g_row (h : RI z_t) : okP (fX9_row z_t x1) (fun y => G9 z_t y.2) := by
  have hS := h.2.1
  unfold fX9_row
  refine ok_ite (fun _ => ok_some ⟨fun j hj => t24_ne (by omega), rfl, rfl⟩) (fun _ => ?_)
  refine ok_bd t_fX9_isFault (fun r3 _ => ?_)
  refine ok_ite (fun _ => ok_some g9_rf) (fun _ => ?_)
  refine ok_ite (fun _ => ok_some g9_rf) (fun c => ?_)
  have h8 := hS.2.2.1
  have ci := bI_neq rfl (show (8 : Int32).toInt = 8 by decide) c
  have e10 : (10 + gT z_t 24 8).toInt = 10 + (gT z_t 24 8).toInt := i32_add (show (10 : Int32).toInt = 10 by decide) rfl (by omega) (by omega)
  have n10 : ((10 + gT z_t 24 8).toNatClampNeg : Int) = (10 + gT z_t 24 8).toInt := clampI (by omega)
  refine ok_gd (inb_of (by omega) (by omega)) ?_
  refine ok_nm ?_
  exact ok_some ⟨fun j hj => (t24_ne (by omega)).trans (t24_ne (by omega)), rfl, rfl⟩
theorem g_rule (h : RI z_t) : okP (fX9_rule z_t) (fun y => G9 z_t y.2) := by
  unfold fX9_rule
  obtain ⟨h1, h2, ⟨h3, h4, h5⟩, h6⟩ := id h
  refine ok_ite (fun c => ok_some g9_rf) (fun c => ?_)
  have ci := bI_neq rfl (show (6 : Int32).toInt = 6 by decide) c
  refine ok_gd (inb_of (by omega) (by omega)) ?_
  obtain ⟨t, ht⟩ : ∃ t : Nat, (gI z_t 2).toInt = t := ⟨(gI z_t 2).toInt.toNat, by omega⟩
  have htn : (gI z_t 2).toNatClampNeg = t := n_cl ht
  simp only [htn]
  refine ok_bd2 (t_readsR (t := t) (z_t := sT (sI z_t 15 (gI z_t 2)) 6 t 0) ⟨ht, by omega⟩ h1 (by
    have e : gT (sT (sI z_t 15 (gI z_t 2)) 6 t 0) 6 t = 0 := if_pos rfl
    rw [e]; decide)) (fun r4 z5 q => ?_)
  have a1 : FrL [1, 3, 4, 5, 6, 12, 13, 14, 16, 17, 18, 19, 20] (sT (sI z_t 15 (gI z_t 2)) 6 t 0) z5 := q.1
  have fr5 : FrL [1, 3, 4, 5, 6, 12, 13, 14, 15, 16, 17, 18, 19, 20] z_t z5 := fr_tr (fr_T (fr_I fr_rf (by decide)) (by decide)) a1 (by decide)
  have g5 : G9 z_t z5 := g9_fr fr5 (by decide)
  exact ok_ite (fun _ => ok_some g5) (fun _ => ok_some g5)
set_option maxHeartbeats 1000000 in
theorem g_work (h : RI z_t) : okP (fX9_work z_t) (fun y => G9 z_t y.2) := by
  unfold fX9_work
  obtain ⟨h1, h2, h3, h6⟩ := id h
  have z0 : (0 : Int32).toInt = 0 := by decide
  refine ok_bd2 (t_readsW (z_t := sI (sI (sI (sI z_t 15 6) 7 (-1)) 8 0) 9 0) rfl h1 z0 z0) (fun r2 z3 q => ?_)
  obtain ⟨a1, a3, a4⟩ := q
  have a1 : FrL [1, 4, 7, 8, 9, 10, 11, 12, 13, 14, 16, 18] (sI (sI (sI (sI z_t 15 6) 7 (-1)) 8 0) 9 0) z3 := a1
  have fr3 : FrL [1, 4, 7, 8, 9, 10, 11, 12, 13, 14, 15, 16, 18] z_t z3 := fr_tr (fr_I (fr_I (fr_I (fr_I fr_rf (by decide)) (by decide)) (by decide)) (by decide)) a1 (by decide)
  have g3 : G9 z_t z3 := g9_fr fr3 (by decide)
  refine ok_ite (fun c => ok_some g3) (fun c => ?_)
  have hw : WKI z3 := by
    rcases a4 with q | q
    · exact absurd q c
    · exact q.2
  obtain ⟨w1, w2, w3, w4, w5⟩ := id hw
  have two : (2 : Int32).toInt = 2 := by decide
  have tn : (2 : Int32).toNatClampNeg = 2 := by decide
  have go : ∀ (v6 : Int32), okP (gd (inb 2 104) (nm (gT (sT (sT (sT z3 24 0 (gI z3 9)) 24 1 (gI z3 8)) 24 ((2 : Int32).toNatClampNeg) v6) 24 2 : Int32) (fun v9 => lX9_work_92 (fun (z12 : Sx) => lX9_work_113 (fun (z16 : Sx) => lX9_work_146 (fun (z24 : Sx) => some (gI z24 9, z24)) FU z16 0) FU z12 0) FU (sT (sT (sT (sT z3 24 0 (gI z3 9)) 24 1 (gI z3 8)) 24 ((2 : Int32).toNatClampNeg) v6) 24 3 v9) 4))) (fun y => G9 z_t y.2) := by
    intro v6
    refine ok_gd (inb_of (by omega) (by omega)) ?_
    rw [tn]
    refine ok_nm2 (fun v9 _ => ?_)
    have ws0 : WSD z3 (gI z3 9) (gI z3 8) (sT (sT (sT (sT z3 24 0 (gI z3 9)) 24 1 (gI z3 8)) 24 2 v6) 24 3 v9) := by
      refine wsd_T (wsd_T ⟨fr_T (fr_T fr_rf (by decide)) (by decide), rfl, rfl, fun j hj => ?_⟩ (by omega)) (by omega)
      exact (show upd (upd (gT z3 24) 0 (gI z3 9)) 1 (gI z3 8) (18 + j) = upd (gT z3 24) 0 (gI z3 9) (18 + j) from if_neg (by omega)).trans (if_neg (by omega))
    have four : (4 : Int32).toInt = 4 := by decide
    refine tl_work92 (o := z3) (n := gI z3 9) (k := gI z3 8) (fun z12 ws12 e12 => ?_) FU _ 4 ws0 (by omega) (by omega) (fun q => by omega) (FU_lt (by omega))
    refine tl_work113 (o := z3) (n := gI z3 9) (k := gI z3 8) ⟨w1, w2⟩ (fun z16 ws16 e16 => ?_) FU z12 0 ws12 e12 (by omega) (FU_lt (by omega))
    have n0 : (0 : Int32).toNatClampNeg = 0 := by decide
    have wf0 : WF z3 (0 : Int32).toNatClampNeg z16 := fun g hg => by rw [n0] at hg; omega
    refine tl_work146 (o := z3) (n := gI z3 9) (k := gI z3 8) ⟨w3, w4⟩ (fun z24 ws24 e24 wf24 => ?_) FU z16 0 ws16 e16 (by omega) (by omega) wf0 (FU_lt (by omega))
    obtain ⟨f24, s0, s1, sg⟩ := ws24
    exact ok_some ⟨fun j hj => (sg j hj).trans (g3.1 j hj), (f24 34 (by decide)).2.1.trans g3.2.1, (f24 35 (by decide)).2.1.trans g3.2.2⟩
  refine ok_jn ?_
  exact ok_ite (fun _ => go _) (fun _ => go _)
theorem g_would (h : RI z_t) : okP (fX9_would z_t x1 x2) (fun y => G9 z_t y.2) := by
  unfold fX9_would
  have z0 : okP (some (((-1000000) : Int32), z_t)) (fun y : Int32 × Sx => G9 z_t y.2) := ok_some g9_rf
  refine wk_ok (ok_jn (if0 z0)) (fun _ => ok_jn (if1 ?_))
  refine rl_ok (if0 z0) (fun r0 r1 => if1 ?_)
  refine in_ok (if0 z0) (fun i0 i1 => if1 ?_)
  have hS := h.2.1
  refine ok_bd (t_fX9_keeps hS) (fun z12 q => ?_)
  obtain ⟨f12, e12⟩ := q
  have s12 : SOK (gT z12 24) := so_fr f12 (by decide) hS
  have hc := clampI r0
  have rk : RK z_t x1.toNatClampNeg := h.2.2.1.2.2 _ (by omega)
  refine ok_bd2 (t_fX9_passes (t := x1.toNatClampNeg) hc.symm s12 (rk_fr f12 (by decide) rk)) (fun r14 z15 q => ?_)
  obtain ⟨f15, s15, -⟩ := q
  have f15 : FrL [21, 22, 23, 24] z12 z15 := f15
  have s15 : SOK (gT z15 24) := s15
  have e25 : gT z15 25 = gT z12 25 := (f15 25 (by decide)).2.1
  have k25 : SOK (gT z15 25) := by rw [e25]; exact sok_eq e12 hS
  refine ok_jn2 (Q := fun J => ∀ v : Int32, okP (J v) (fun y : Int32 × Sx => G9 z_t y.2)) ?_ (fun J HJ => ?_)
  · intro v
    refine ok_bd (t_fX9_putsBack k25) (fun z19 q => ?_)
    obtain ⟨f19, e19, s19⟩ := q
    exact ok_some (g9_e (fr_tr (L := [21, 22, 23, 24, 25]) (fr_tr (fr_tr fr_rf f12 (by decide)) f15 (by decide)) f19 (by decide)) (fun i hi => (e19 i hi).trans (by rw [e25]; exact e12 i hi)) (by decide))
  · refine ok_ite (fun _ => HJ _) (fun _ => ?_)
    refine ok_ite (fun _ => ok_bd (t_fX9_thatAre s15) (fun r _ => HJ r)) (fun _ => ?_)
    refine ok_ite (fun _ => HJ _) (fun _ => ?_)
    exact ok_ite (fun _ => ok_bd (t_fX9_hidden s15) (fun r _ => HJ r)) (fun _ => HJ _)
theorem g_best (h : RI z_t) : okP (fX9_best z_t x1 x2) (fun y => G9 z_t y.2) := by
  unfold fX9_best
  have z0 : okP (some (((-1) : Int64), z_t)) (fun y : Int64 × Sx => G9 z_t y.2) := ok_some g9_rf
  refine wk_ok (if0 z0) (fun _ => if1 ?_)
  refine in_ok (if0 z0) (fun i0 i1 => if1 ?_)
  refine in_ok (if0 z0) (fun i2 i3 => if1 ?_)
  have e0 : (0 : Int64).toInt = 0 := by decide
  have e5 : (5 : Int64).toInt = 5 := by decide
  have ex : x1.toInt64.toInt = x1.toInt := Int32.toInt_toInt64 x1
  have hS := h.2.1
  refine ok_bd (t_fX9_keeps hS) (fun z11 q => ?_)
  obtain ⟨f11, e11⟩ := q
  have s11 : SOK (gT z11 24) := so_fr f11 (by decide) hS
  refine ok_bd (t_fX9_goesThrough (by omega) s11) (fun z13 q => ?_)
  obtain ⟨f13, -, -⟩ := q
  have e25 : gT z13 25 = gT z11 25 := (f13 25 (by decide)).2.1
  have k25 : SOK (gT z13 25) := by rw [e25]; exact sok_eq e11 hS
  refine ok_bd (t_fX9_putsBack k25) (fun z15 q => ?_)
  obtain ⟨f15, e15, s15⟩ := q
  have hr : G9 z_t z15 := g9_e (fr_tr (L := [24, 25, 26, 27, 28, 29, 30, 31, 32, 33]) (fr_tr (fr_tr fr_rf f11 (by decide)) f13 (by decide)) f15 (by decide)) (fun i hi => (e15 i hi).trans (by rw [e25]; exact e11 i hi)) (by decide)
  refine ok_ite (fun _ => ok_some hr) (fun _ => ?_)
  refine ok_bd (t_fX9_hundreds (by omega)) (fun r18 q => ?_)
  have q : 1 ≤ r18.toInt ∧ r18.toInt ≤ 10000000000000000 := q
  exact ok_bd (t_fX9_partOf (by omega)) (fun r20 _ => ok_some hr)
theorem k_meanOf (hx : x1.toInt ≤ 9) (hS : SOK (gT z_t 24)) : okP (fX9_meanOf z_t x1) (fun y => FrL [24, 25] z_t y.2 ∧ SOK (gT y.2 24) ∧ E104 (gT y.2 24) (gT z_t 24)) := by
  unfold fX9_meanOf
  refine ok_bd (t_fX9_keeps hS) (fun z2 q => ?_)
  obtain ⟨f2, e2⟩ := q
  have hK : SOK (gT z2 25) := sok_eq e2 hS
  have e24 : gT z2 24 = gT z_t 24 := (f2 24 (by decide)).2.1
  have z0 : (0 : Int32).toInt = 0 := by decide
  refine ok_imp (tl_mean (o := z_t) (K := z2) hx hK FU z2 0 0 ⟨fr_tr fr_rf f2 (by decide), rfl, fun i hi => by rw [e24]; exact (e2 i hi).symm⟩ (by omega) (FU_lt (by omega))) (fun y q => ⟨q.1, sok_eq q.2.2 hK, fun i hi => (q.2.2 i hi).trans (e2 i hi)⟩)
theorem g_worth (h : RI z_t) : okP (fX9_worth z_t x1) (fun y => G9 z_t y.2) := by
  unfold fX9_worth
  have z0 : okP (some (((-1) : Int64), z_t)) (fun y : Int64 × Sx => G9 z_t y.2) := ok_some g9_rf
  refine wk_ok (if0 z0) (fun _ => if1 ?_)
  refine in_ok (if0 z0) (fun i0 i1 => if1 ?_)
  refine ok_bd2 (k_meanOf (by decide) h.2.1) (fun r8 z9 q => ?_)
  obtain ⟨f9, s9, e9⟩ := q
  have h8 := s9.2.2.1
  have hr : G9 z_t z9 := g9_e f9 e9 (by decide)
  refine ok_bd (t_fX9_hundreds (show (gT z9 24 8).toInt ≤ 8 from h8.2)) (fun r11 q => ?_)
  have q : 1 ≤ r11.toInt ∧ r11.toInt ≤ 10000000000000000 := q
  exact ok_bd (t_fX9_partOf (by omega)) (fun r13 _ => ok_some hr)
theorem g_seen (h : RI z_t) : okP (fX9_seen z_t x1 x2) (fun y => G9 z_t y.2) := by
  unfold fX9_seen
  have z0 : okP (some (((-1) : Int64), z_t)) (fun y : Int64 × Sx => G9 z_t y.2) := ok_some g9_rf
  have hn := h.2.1.1
  refine fl_ok (if0 z0) (fun r0 r1 => if1 ?_)
  refine in_ok (if0 z0) (fun i0 i1 => if1 ?_)
  refine ok_bd2 (k_meanOf (by omega) h.2.1) (fun r8 z9 q => ?_)
  obtain ⟨f9, s9, e9⟩ := q
  have h8 := s9.2.2.1
  have hr : G9 z_t z9 := g9_e f9 e9 (by decide)
  refine ok_bd (t_fX9_hundreds (show (gT z9 24 8).toInt ≤ 8 from h8.2)) (fun r11 q => ?_)
  have q : 1 ≤ r11.toInt ∧ r11.toInt ≤ 10000000000000000 := q
  exact ok_bd (t_fX9_partOf (by omega)) (fun r13 _ => ok_some hr)
theorem g_weeks (h : RI z_t) : okP (fX9_weeks z_t x1 x2 x3) (fun y => G9 z_t y.2) := by
  unfold fX9_weeks
  have z0 : okP (some (((-1) : Int32), z_t)) (fun y : Int32 × Sx => G9 z_t y.2) := ok_some g9_rf
  refine wk_ok (if0 z0) (fun _ => if1 ?_)
  refine rl_ok (if0 z0) (fun r0 r1 => if1 ?_)
  refine in_ok (if0 z0) (fun i0 i1 => if1 ?_)
  refine in_ok (if0 z0) (fun _ _ => if1 ?_)
  have e1 : (1 : Int64).toInt = 1 := by decide
  have e20 : (20 : Int64).toInt = 20 := by decide
  have ex : x2.toInt64.toInt = x2.toInt := Int32.toInt_toInt64 x2
  have n0 : (0 : Int32).toInt = 0 := by decide
  have hS := h.2.1
  have hc := clampI r0
  have rk : RK z_t x1.toNatClampNeg := h.2.2.1.2.2 _ (by omega)
  refine ok_bd (t_fX9_keeps hS) (fun z14 q => ?_)
  obtain ⟨f14, e14⟩ := q
  have hK : SOK (gT z14 25) := sok_eq e14 hS
  refine tl_weeks (o := z_t) (K := z14) (t := x1.toNatClampNeg) hc.symm rk (by omega) (fun z32 v hi => ?_) FU z14 0 0 ⟨fr_tr fr_rf f14 (by decide), rfl, so_fr f14 (by decide) hS⟩ (by omega) (FU_lt (by omega))
  obtain ⟨a1, a2, a3⟩ := hi
  refine ok_bd (t_fX9_putsBack (by rw [a2]; exact hK)) (fun z35 q => ?_)
  obtain ⟨f35, e35, s35⟩ := q
  exact ok_some (g9_e (fr_tr a1 f35 (by decide)) (fun i hi => (e35 i hi).trans (by rw [a2]; exact e14 i hi)) (by decide))
end G9S
def NJ (o K : Sx) (z : Sx) : Prop := NI o K z ∧ E104 (gT z 24) (gT K 25)
set_option maxHeartbeats 1000000 in
theorem tk_m109 {o K : Sx} {x1 x2 x4 : Int32} {k : Sx → Int32 → Int64 → Option (Int64 × Sx)} {P : Int64 × Sx → Prop} (hx : 0 ≤ x1.toInt ∧ x1.toInt ≤ 4) (hK : SOK (gT K 25)) (hk : ∀ z a b, NJ o K z → okP (k z a b) P) : ∀ (n : Nat) (z : Sx) (x5 : Int32) (x6 : Int64) (x8 : Int32), NJ o K z → 0 ≤ x8.toInt → (1024 - x8.toInt).toNat < n → okP (lX9_master_109 k x1 x2 x4 n z x5 x6 x8) P := by
  intro n
  induction n with
  | zero => intro _ _ _ _ _ _ hm; omega
  | succ n ih =>
    intro z x5 x6 x8 hj h0 hm
    have hi := hj.1
    obtain ⟨a1, a2, a3, a4⟩ := id hi
    have hn := a3.1
    have hs := shl_rng (x := gT z 24 0) hn.1 hn.2
    rw [lX9_master_109]
    refine ok_ite (fun _ => hk z x5 x6 hj) (fun c => ?_)
    have ci := bI_nle rfl rfl c
    have e1 : (x8 + 1).toInt = x8.toInt + 1 := i32_add rfl (show (1 : Int32).toInt = 1 by decide) (by omega) (by omega)
    refine ok_jn2 (Q := fun J => ∀ (z29 : Sx) (a : Int32) (b : Int64), NJ o K z29 → okP (J z29 a b) P) (fun z29 a b h29 => ih z29 a b (x8 + 1) h29 (by omega) (by omega)) (fun J HJ => ?_)
    refine ok_ite (fun _ => ?_) (fun _ => HJ z x5 x6 hj)
    have z0 : (0 : Int32).toInt = 0 := by decide
    refine tl_m141 (o := o) (K := K) (fun z43 i44 h43 => ?_) FU z 0 0 hi (by omega) (FU_lt (by omega))
    obtain ⟨b1, b2, b3, b4⟩ := h43
    refine ok_bd (t_fX9_goesThrough (by omega) b3) (fun z46 q => ?_)
    obtain ⟨f46, -, -⟩ := q
    have e25 : gT z46 25 = gT K 25 := (f46 25 (by decide)).2.1.trans b2
    refine ok_bd (t_fX9_putsBack (by rw [e25]; exact hK)) (fun z48 q => ?_)
    obtain ⟨f48, e48, s48⟩ := q
    have h48 : NJ o K z48 := ⟨⟨fr_tr (fr_tr b1 f46 (by decide)) f48 (by decide), (f48 25 (by decide)).2.1.trans e25, s48, by rw [e48 0 (by decide), e25]⟩, fun i hi => (e48 i hi).trans (by rw [e25])⟩
    refine ok_bd (t_fX9_hundreds (by omega)) (fun r50 _ => ?_)
    refine ok_jn ?_
    refine ok_ite (fun _ => HJ _ _ _ h48) (fun _ => ?_)
    refine ok_ite (fun _ => HJ _ _ _ h48) (fun _ => ?_)
    refine ok_ite (fun _ => ?_) (fun _ => HJ _ _ _ h48)
    refine ok_bd t_fX9_bits (fun r56 _ => ok_bd t_fX9_bits (fun r58 _ => ?_))
    exact ok_ite (fun _ => HJ _ _ _ h48) (fun _ => HJ _ _ _ h48)
theorem g_master {z_t : Sx} {x1 x2 : Int32} (h : RI z_t) : okP (fX9_master z_t x1 x2) (fun y => G9 z_t y.2) := by
  unfold fX9_master
  have z0 : okP (some (((-1000000000000) : Int64), z_t)) (fun y : Int64 × Sx => G9 z_t y.2) := ok_some g9_rf
  refine wk_ok (if0 z0) (fun _ => if1 ?_)
  refine in_ok (if0 z0) (fun i0 i1 => if1 ?_)
  refine in_ok (if0 z0) (fun _ _ => if1 ?_)
  have e0 : (0 : Int64).toInt = 0 := by decide
  have e4 : (4 : Int64).toInt = 4 := by decide
  have ex : x1.toInt64.toInt = x1.toInt := Int32.toInt_toInt64 x1
  have n0 : (0 : Int32).toInt = 0 := by decide
  have hS := h.2.1
  have hn := hS.1
  refine ok_bd (t_fX9_thatAre hS) (fun r11 _ => ?_)
  refine tl_m47 hn.2 (fun i24 => ?_) FU 0 0 (by omega) (FU_lt (by omega))
  refine ok_bd (t_fX9_keeps hS) (fun z26 q => ?_)
  obtain ⟨f26, e26⟩ := q
  have hK : SOK (gT z26 25) := sok_eq e26 hS
  have s26 : SOK (gT z26 24) := so_fr f26 (by decide) hS
  have e24 : gT z26 24 = gT z_t 24 := (f26 24 (by decide)).2.1
  have h26 : NJ z_t z26 z26 := ⟨⟨fr_tr fr_rf f26 (by decide), rfl, s26, by rw [(f26 24 (by decide)).2.1, e26 0 (by decide)]⟩, fun i hi => by rw [e24]; exact (e26 i hi).symm⟩
  refine tk_m109 (o := z_t) (K := z26) (by omega) hK (fun z60 a b h60 => ?_) FU z26 (-1) 0 0 h26 (by omega) (FU_lt (by omega))
  have hr : G9 z_t z60 := g9_e h60.1.1 (fun i hi => (h60.2 i hi).trans (e26 i hi)) (by decide)
  refine ok_ite (fun _ => ok_some hr) (fun _ => ?_)
  refine ok_bd (t_fX9_hundreds (by omega)) (fun r65 q => ?_)
  have q : 1 ≤ r65.toInt ∧ r65.toInt ≤ 10000000000000000 := q
  exact ok_bd (t_fX9_partOf (by omega)) (fun r67 _ => ok_some hr)
/-- an image's number -/
def IC (x1 : Int32) : Prop := 0 ≤ x1.toInt ∧ x1.toInt < 4
theorem image9 {z_t : Sx} {x1 : Int32} : okP (fX9_image z_t x1) (fun y => (¬ IC x1 ∧ y.2 = z_t) ∨ (IC x1 ∧ FrL [34, 35] z_t y.2 ∧ (∀ i : Nat, i < 104 → gT y.2 34 (104 * x1.toNatClampNeg + i) = gT z_t 24 i) ∧ (∀ j : Nat, (j < 104 * x1.toNatClampNeg ∨ 104 * x1.toNatClampNeg + 104 ≤ j) → gT y.2 34 j = gT z_t 34 j) ∧ gT y.2 35 x1.toNatClampNeg = vp_nar .boolean 1 ∧ ∀ j : Nat, ¬ j = x1.toNatClampNeg → gT y.2 35 j = gT z_t 35 j)) := by
  unfold fX9_image
  have e0 : (0 : Int64).toInt = 0 := by decide
  have e3 : (3 : Int64).toInt = 3 := by decide
  have ex : x1.toInt64.toInt = x1.toInt := Int32.toInt_toInt64 x1
  refine ok_bd t_fX9_in (fun r q => ?_)
  rcases q.2 with w | w
  · have hr : ¬ r = 0 := fun e => by rw [e] at w; exact absurd w.1 (by decide)
    refine ok_ite (fun c => absurd c hr) (fun _ => ?_)
    have n0 : (0 : Int32).toInt = 0 := by decide
    obtain ⟨c, hc⟩ : ∃ c : Nat, x1.toInt = c := ⟨x1.toInt.toNat, by omega⟩
    have hcn : x1.toNatClampNeg = c := n_cl hc
    refine ok_gd (inb_of (by omega) (by omega)) ?_
    rw [hcn]
    obtain ⟨v, hv⟩ : ∃ v, v = vp_nar .boolean 1 := ⟨_, rfl⟩
    rw [← hv]
    refine tl_image (o := sT z_t 35 c v) (c := c) hc (by omega) (fun z8 f8 ha hb => ?_) FU (sT z_t 35 c v) 0 fr_rf (by omega) (by omega) (fun i hi => by omega) (fun _ _ => rfl) (FU_lt (by omega))
    have fr8 : FrL [34, 35] z_t z8 := fr_tr (fr_T fr_rf (by decide)) f8 (by decide)
    have e35 : gT z8 35 = upd (gT z_t 35) c v := (f8 35 (by decide)).2.1
    refine ok_some (Or.inr ⟨⟨by omega, by omega⟩, fr8, ha, hb, ?_, fun j hj => ?_⟩)
    · show gT z8 35 c = v
      rw [e35]; exact if_pos rfl
    · show gT z8 35 j = gT z_t 35 j
      rw [e35]; exact if_neg hj
  · have hr : r = 0 := Int32.toInt_inj.1 (by rw [w.1]; decide)
    refine ok_ite (fun _ => ok_some (Or.inl ⟨fun h => ?_, rfl⟩)) (fun c => absurd hr c)
    unfold IC at h
    omega
theorem back9 {z_t : Sx} {x1 : Int32} : okP (fX9_back z_t x1) (fun y => ((¬ IC x1 ∨ gT z_t 35 x1.toNatClampNeg = 0) ∧ y.2 = z_t) ∨ (IC x1 ∧ ¬ gT z_t 35 x1.toNatClampNeg = 0 ∧ FrL [24] z_t y.2 ∧ ∀ i : Nat, i < 104 → gT y.2 24 i = gT z_t 34 (104 * x1.toNatClampNeg + i))) := by
  unfold fX9_back
  have e0 : (0 : Int64).toInt = 0 := by decide
  have e3 : (3 : Int64).toInt = 3 := by decide
  have ex : x1.toInt64.toInt = x1.toInt := Int32.toInt_toInt64 x1
  refine ok_bd t_fX9_in (fun r q => ?_)
  rcases q.2 with w | w
  · have hr : ¬ r = 0 := fun e => by rw [e] at w; exact absurd w.1 (by decide)
    refine ok_ite (fun c => absurd c hr) (fun _ => ?_)
    have n0 : (0 : Int32).toInt = 0 := by decide
    obtain ⟨c, hc⟩ : ∃ c : Nat, x1.toInt = c := ⟨x1.toInt.toNat, by omega⟩
    have hcn : x1.toNatClampNeg = c := n_cl hc
    refine ok_gd (inb_of (by omega) (by omega)) ?_
    rw [hcn]
    refine ok_ite (fun h0 => ok_some (Or.inl ⟨Or.inr h0, rfl⟩)) (fun cm => ?_)
    refine tl_back (o := z_t) (c := c) hc (by omega) (fun z9 f9 he => ?_) FU z_t 0 fr_rf (by omega) (by omega) (fun i hi => by omega) (FU_lt (by omega))
    exact ok_some (Or.inr ⟨⟨by omega, by omega⟩, cm, f9, he⟩)
  · have hr : r = 0 := Int32.toInt_inj.1 (by rw [w.1]; decide)
    refine ok_ite (fun _ => ok_some (Or.inl ⟨Or.inl (fun h => ?_), rfl⟩)) (fun c => absurd hr c)
    unfold IC at h
    omega
/-- a place and a number of GAME -/
def GC (x1 x2 : Int32) : Prop := 0 ≤ x1.toInt ∧ x1.toInt ≤ 7 ∧ -99 ≤ x2.toInt ∧ x2.toInt ≤ 99
theorem game9 {z_t : Sx} {x1 x2 : Int32} : okP (fX9_game z_t x1 x2) (fun y => (¬ GC x1 x2 ∧ y.1 = -1000 ∧ y.2 = z_t) ∨ (GC x1 x2 ∧ y.1 = gT z_t 24 (18 + x1.toNatClampNeg) ∧ y.2 = sT z_t 24 (18 + x1.toNatClampNeg) x2)) := by
  unfold fX9_game
  have e0 : (0 : Int64).toInt = 0 := by decide
  have e7 : (7 : Int64).toInt = 7 := by decide
  have em : (-99 : Int64).toInt = -99 := by decide
  have ep : (99 : Int64).toInt = 99 := by decide
  have ex : x1.toInt64.toInt = x1.toInt := Int32.toInt_toInt64 x1
  have ey : x2.toInt64.toInt = x2.toInt := Int32.toInt_toInt64 x2
  refine ok_bd t_fX9_in (fun r q => ?_)
  rcases q.2 with w | w
  · have hr : ¬ r = 0 := fun e => by rw [e] at w; exact absurd w.1 (by decide)
    refine ok_ite (fun c => absurd c hr) (fun _ => ?_)
    refine ok_bd t_fX9_in (fun r5 q5 => ?_)
    rcases q5.2 with v | v
    · have hr5 : ¬ r5 = 0 := fun e => by rw [e] at v; exact absurd v.1 (by decide)
      refine ok_ite (fun c => absurd c hr5) (fun _ => ?_)
      have e18 : (18 + x1).toInt = 18 + x1.toInt := i32_add (show (18 : Int32).toInt = 18 by decide) rfl (by omega) (by omega)
      have hcl := clampI (x := x1) (by omega)
      have n18 : (18 + x1).toNatClampNeg = 18 + x1.toNatClampNeg := n_cl (by rw [e18]; omega)
      refine ok_gd (inb_of (by omega) (by omega)) ?_
      rw [n18]
      exact ok_some (Or.inr ⟨⟨by omega, by omega, by omega, by omega⟩, rfl, rfl⟩)
    · have hr5 : r5 = 0 := Int32.toInt_inj.1 (by rw [v.1]; decide)
      refine ok_ite (fun _ => ok_some (Or.inl ⟨fun h => ?_, rfl, rfl⟩)) (fun c => absurd hr5 c)
      unfold GC at h
      omega
  · have hr : r = 0 := Int32.toInt_inj.1 (by rw [w.1]; decide)
    refine ok_ite (fun _ => ok_some (Or.inl ⟨fun h => ?_, rfl, rfl⟩)) (fun c => absurd hr c)
    unfold GC at h
    omega
theorem game8 {z_t z_t_5 : Sx} {x1 x2 : Int32} : okP (fX8_game z_t z_t_5 x1 x2) (fun y => (¬ GC x1 x2 ∧ y.1 = -1000 ∧ y.2 = z_t_5) ∨ (GC x1 x2 ∧ y.1 = gT z_t_5 7 x1.toNatClampNeg ∧ y.2 = sT z_t_5 7 x1.toNatClampNeg x2)) := by
  unfold fX8_game
  have e0 : (0 : Int32).toInt = 0 := by decide
  have e8 : (8 : Int32).toInt = 8 := by decide
  have em : (-99 : Int32).toInt = -99 := by decide
  have ep : (99 : Int32).toInt = 99 := by decide
  refine ok_ite (fun c => ok_some (Or.inl ⟨fun h => ?_, rfl, rfl⟩)) (fun c1 => ?_)
  · have := bI_lt rfl e0 c; unfold GC at h; omega
  have c1i := bI_nlt rfl e0 c1
  refine ok_ite (fun c => ok_some (Or.inl ⟨fun h => ?_, rfl, rfl⟩)) (fun c2 => ?_)
  · have := bI_le e8 rfl c; unfold GC at h; omega
  have c2i := bI_nle e8 rfl c2
  refine ok_ite (fun c => ok_some (Or.inl ⟨fun h => ?_, rfl, rfl⟩)) (fun c3 => ?_)
  · have := bI_lt rfl em c; unfold GC at h; omega
  have c3i := bI_nlt rfl em c3
  refine ok_ite (fun c4 => ?_) (fun c => ok_some (Or.inl ⟨fun h => ?_, rfl, rfl⟩))
  · have c4i := bI_le rfl ep c4
    refine ok_gd (inb_of (by omega) (by omega)) ?_
    exact ok_some (Or.inr ⟨⟨by omega, by omega, by omega, by omega⟩, rfl, rfl⟩)
  · have := bI_nle rfl ep c; unfold GC at h; omega
theorem copy7 {z_t z_t_1 z_p1 z_p1_1 : Sx} : okP (fX5_copyFrom z_t z_t_1 z_p1 z_p1_1) (fun y => ∀ i : Nat, i < 8 → gT y.1 7 i = gT z_p1 7 i) := by
  unfold fX5_copyFrom
  refine ok_bd t_fX0_copyFrom (fun z2 _ => ok_some (fun i hi => ?_))
  exact (pk_cpy_in (Nat.zero_le i) (by omega)).trans (by rw [Nat.sub_zero, Nat.zero_add])

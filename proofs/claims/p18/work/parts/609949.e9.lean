/-! Calls of the reference that leave its table as it was; what each leaves of the RULES. -/
def R9 (o z : Sx) : Prop := gT z 3 = gT o 3 ∧ gT z 5 = gT o 5 ∧ gT z 6 = gT o 6
def E9 (o z : Sx) : Prop := (∀ i : Nat, i < 104 → gT z 24 i = gT o 24 i) ∧ gT z 34 = gT o 34 ∧ gT z 35 = gT o 35 ∧ R9 o z
theorem r9_rf {z : Sx} : R9 z z := ⟨rfl, rfl, rfl⟩
theorem r9_fr {L : List Nat} {o z : Sx} (hf : FrL L o z) (hL : (L.contains 3 || L.contains 5 || L.contains 6) = false) : R9 o z := by
  simp only [Bool.or_eq_false_iff] at hL
  exact ⟨(hf 3 hL.1.1).2.1, (hf 5 hL.1.2).2.1, (hf 6 hL.2).2.1⟩
theorem r9_kx {L : List Nat} {o z : Sx} (hf : FrL L o z) (_ : KX o z) (hL : (L.contains 3 || L.contains 5 || L.contains 6) = false) : R9 o z := r9_fr hf hL
theorem e9_rf {z : Sx} : E9 z z := ⟨fun _ _ => rfl, rfl, rfl, r9_rf⟩
theorem e9_fr {L : List Nat} {o z : Sx} (hf : FrL L o z) (hL : (L.contains 24 || L.contains 34 || L.contains 35 || (L.contains 3 || L.contains 5 || L.contains 6)) = false) : E9 o z := by
  obtain ⟨q1, q2⟩ := Bool.or_eq_false_iff.1 hL
  simp only [Bool.or_eq_false_iff] at q1
  exact ⟨fun i _ => by rw [(hf 24 q1.1.1).2.1], (hf 34 q1.1.2).2.1, (hf 35 q1.2).2.1, r9_fr hf q2⟩
theorem e9_e {L : List Nat} {o z : Sx} (hf : FrL L o z) (he : E104 (gT z 24) (gT o 24)) (hL : (L.contains 34 || L.contains 35 || (L.contains 3 || L.contains 5 || L.contains 6)) = false) : E9 o z := by
  obtain ⟨q1, q2⟩ := Bool.or_eq_false_iff.1 hL
  simp only [Bool.or_eq_false_iff] at q1
  exact ⟨he, (hf 34 q1.1).2.1, (hf 35 q1.2).2.1, r9_fr hf q2⟩
section E9S
variable {z_t : Sx} {x1 x2 x3 x4 x5 : Int32}
theorem e_feed (h : RI z_t) : okP (fX9_feed z_t x1 x2 x3 x4 x5) (fun y => E9 z_t y.2) := ok_imp (t_fX9_feed h.1) (fun _ q => e9_fr q.1 (by decide))
theorem e_end (h : RI z_t) : okP (fX9_end z_t x1) (fun y => E9 z_t y.2) := ok_imp (t_fX9_end h.1) (fun _ q => e9_fr q.1 (by decide))
theorem e_would (h : RI z_t) : okP (fX9_would z_t x1 x2) (fun y => E9 z_t y.2) := by
  unfold fX9_would
  have z0 : okP (some (((-1000000) : Int32), z_t)) (fun y : Int32 × Sx => E9 z_t y.2) := ok_some e9_rf
  refine wk_ok (ok_jn (if0 z0)) (fun _ => ok_jn (if1 ?_))
  refine rl_ok (if0 z0) (fun r0 r1 => if1 ?_)
  refine in_ok (if0 z0) (fun i0 i1 => if1 ?_)
  have hS := h.2.1
  refine ok_bd (t_fX9_keeps hS) (fun z12 q => ?_)
  obtain ⟨f12, e12⟩ := q
  have s12 : SOK (gT z12 24) := so_fr f12 (by decide) hS
  have hc := clampI r0
  have rk : RK z_t x1.toNatClampNeg := h.2.2.1.2.2 _ (by omega)
  refine ok_bd2 (t_fX9_passes (t := x1.toNatClampNeg) hc.symm s12 (rk_fr f12 (by decide) rk)) (fun r14 z15 q => ?_)
  obtain ⟨f15, s15, -⟩ := q
  have f15 : FrL [21, 22, 23, 24] z12 z15 := f15
  have s15 : SOK (gT z15 24) := s15
  have e25 : gT z15 25 = gT z12 25 := (f15 25 (by decide)).2.1
  have k25 : SOK (gT z15 25) := by rw [e25]; exact sok_eq e12 hS
  refine ok_jn2 (Q := fun J => ∀ v : Int32, okP (J v) (fun y : Int32 × Sx => E9 z_t y.2)) ?_ (fun J HJ => ?_)
  · intro v
    refine ok_bd (t_fX9_putsBack k25) (fun z19 q => ?_)
    obtain ⟨f19, e19, s19⟩ := q
    exact ok_some (e9_e (fr_tr (L := [21, 22, 23, 24, 25]) (fr_tr (fr_tr fr_rf f12 (by decide)) f15 (by decide)) f19 (by decide)) (fun i hi => (e19 i hi).trans (by rw [e25]; exact e12 i hi)) (by decide))
  · refine ok_ite (fun _ => HJ _) (fun _ => ?_)
    refine ok_ite (fun _ => ok_bd (t_fX9_thatAre s15) (fun r _ => HJ r)) (fun _ => ?_)
    refine ok_ite (fun _ => HJ _) (fun _ => ?_)
    exact ok_ite (fun _ => ok_bd (t_fX9_hidden s15) (fun r _ => HJ r)) (fun _ => HJ _)
theorem e_best (h : RI z_t) : okP (fX9_best z_t x1 x2) (fun y => E9 z_t y.2) := by
  unfold fX9_best
  have z0 : okP (some (((-1) : Int64), z_t)) (fun y : Int64 × Sx => E9 z_t y.2) := ok_some e9_rf
  refine wk_ok (if0 z0) (fun _ => if1 ?_)
  refine in_ok (if0 z0) (fun i0 i1 => if1 ?_)
  refine in_ok (if0 z0) (fun i2 i3 => if1 ?_)
  have e0 : (0 : Int64).toInt = 0 := by decide
  have e5 : (5 : Int64).toInt = 5 := by decide
  have ex : x1.toInt64.toInt = x1.toInt := Int32.toInt_toInt64 x1
  have hS := h.2.1
  refine ok_bd (t_fX9_keeps hS) (fun z11 q => ?_)
  obtain ⟨f11, e11⟩ := q
  have s11 : SOK (gT z11 24) := so_fr f11 (by decide) hS
  refine ok_bd (t_fX9_goesThrough (by omega) s11) (fun z13 q => ?_)
  obtain ⟨f13, -, -⟩ := q
  have e25 : gT z13 25 = gT z11 25 := (f13 25 (by decide)).2.1
  have k25 : SOK (gT z13 25) := by rw [e25]; exact sok_eq e11 hS
  refine ok_bd (t_fX9_putsBack k25) (fun z15 q => ?_)
  obtain ⟨f15, e15, s15⟩ := q
  have hr : E9 z_t z15 := e9_e (fr_tr (L := [24, 25, 26, 27, 28, 29, 30, 31, 32, 33]) (fr_tr (fr_tr fr_rf f11 (by decide)) f13 (by decide)) f15 (by decide)) (fun i hi => (e15 i hi).trans (by rw [e25]; exact e11 i hi)) (by decide)
  refine ok_ite (fun _ => ok_some hr) (fun _ => ?_)
  refine ok_bd (t_fX9_hundreds (by omega)) (fun r18 q => ?_)
  have q : 1 ≤ r18.toInt ∧ r18.toInt ≤ 10000000000000000 := q
  exact ok_bd (t_fX9_partOf (by omega)) (fun r20 _ => ok_some hr)
theorem e_worth (h : RI z_t) : okP (fX9_worth z_t x1) (fun y => E9 z_t y.2) := by
  unfold fX9_worth
  have z0 : okP (some (((-1) : Int64), z_t)) (fun y : Int64 × Sx => E9 z_t y.2) := ok_some e9_rf
  refine wk_ok (if0 z0) (fun _ => if1 ?_)
  refine in_ok (if0 z0) (fun i0 i1 => if1 ?_)
  refine ok_bd2 (k_meanOf (by decide) h.2.1) (fun r8 z9 q => ?_)
  obtain ⟨f9, s9, e9⟩ := q
  have h8 := s9.2.2.1
  have hr : E9 z_t z9 := e9_e f9 e9 (by decide)
  refine ok_bd (t_fX9_hundreds (show (gT z9 24 8).toInt ≤ 8 from h8.2)) (fun r11 q => ?_)
  have q : 1 ≤ r11.toInt ∧ r11.toInt ≤ 10000000000000000 := q
  exact ok_bd (t_fX9_partOf (by omega)) (fun r13 _ => ok_some hr)
theorem e_seen (h : RI z_t) : okP (fX9_seen z_t x1 x2) (fun y => E9 z_t y.2) := by
  unfold fX9_seen
  have z0 : okP (some (((-1) : Int64), z_t)) (fun y : Int64 × Sx => E9 z_t y.2) := ok_some e9_rf
  have hn := h.2.1.1
  refine fl_ok (if0 z0) (fun r0 r1 => if1 ?_)
  refine in_ok (if0 z0) (fun i0 i1 => if1 ?_)
  refine ok_bd2 (k_meanOf (by omega) h.2.1) (fun r8 z9 q => ?_)
  obtain ⟨f9, s9, e9⟩ := q
  have h8 := s9.2.2.1
  have hr : E9 z_t z9 := e9_e f9 e9 (by decide)
  refine ok_bd (t_fX9_hundreds (show (gT z9 24 8).toInt ≤ 8 from h8.2)) (fun r11 q => ?_)
  have q : 1 ≤ r11.toInt ∧ r11.toInt ≤ 10000000000000000 := q
  exact ok_bd (t_fX9_partOf (by omega)) (fun r13 _ => ok_some hr)
theorem e_weeks (h : RI z_t) : okP (fX9_weeks z_t x1 x2 x3) (fun y => E9 z_t y.2) := by
  unfold fX9_weeks
  have z0 : okP (some (((-1) : Int32), z_t)) (fun y : Int32 × Sx => E9 z_t y.2) := ok_some e9_rf
  refine wk_ok (if0 z0) (fun _ => if1 ?_)
  refine rl_ok (if0 z0) (fun r0 r1 => if1 ?_)
  refine in_ok (if0 z0) (fun i0 i1 => if1 ?_)
  refine in_ok (if0 z0) (fun _ _ => if1 ?_)
  have e1 : (1 : Int64).toInt = 1 := by decide
  have e20 : (20 : Int64).toInt = 20 := by decide
  have ex : x2.toInt64.toInt = x2.toInt := Int32.toInt_toInt64 x2
  have n0 : (0 : Int32).toInt = 0 := by decide
  have hS := h.2.1
  have hc := clampI r0
  have rk : RK z_t x1.toNatClampNeg := h.2.2.1.2.2 _ (by omega)
  refine ok_bd (t_fX9_keeps hS) (fun z14 q => ?_)
  obtain ⟨f14, e14⟩ := q
  have hK : SOK (gT z14 25) := sok_eq e14 hS
  refine tl_weeks (o := z_t) (K := z14) (t := x1.toNatClampNeg) hc.symm rk (by omega) (fun z32 v hi => ?_) FU z14 0 0 ⟨fr_tr fr_rf f14 (by decide), rfl, so_fr f14 (by decide) hS⟩ (by omega) (FU_lt (by omega))
  obtain ⟨a1, a2, a3⟩ := hi
  refine ok_bd (t_fX9_putsBack (by rw [a2]; exact hK)) (fun z35 q => ?_)
  obtain ⟨f35, e35, s35⟩ := q
  exact ok_some (e9_e (fr_tr a1 f35 (by decide)) (fun i hi => (e35 i hi).trans (by rw [a2]; exact e14 i hi)) (by decide))
theorem e_master (h : RI z_t) : okP (fX9_master z_t x1 x2) (fun y => E9 z_t y.2) := by
  unfold fX9_master
  have z0 : okP (some (((-1000000000000) : Int64), z_t)) (fun y : Int64 × Sx => E9 z_t y.2) := ok_some e9_rf
  refine wk_ok (if0 z0) (fun _ => if1 ?_)
  refine in_ok (if0 z0) (fun i0 i1 => if1 ?_)
  refine in_ok (if0 z0) (fun _ _ => if1 ?_)
  have e0 : (0 : Int64).toInt = 0 := by decide
  have e4 : (4 : Int64).toInt = 4 := by decide
  have ex : x1.toInt64.toInt = x1.toInt := Int32.toInt_toInt64 x1
  have n0 : (0 : Int32).toInt = 0 := by decide
  have hS := h.2.1
  have hn := hS.1
  refine ok_bd (t_fX9_thatAre hS) (fun r11 _ => ?_)
  refine tl_m47 hn.2 (fun i24 => ?_) FU 0 0 (by omega) (FU_lt (by omega))
  refine ok_bd (t_fX9_keeps hS) (fun z26 q => ?_)
  obtain ⟨f26, e26⟩ := q
  have hK : SOK (gT z26 25) := sok_eq e26 hS
  have s26 : SOK (gT z26 24) := so_fr f26 (by decide) hS
  have e24 : gT z26 24 = gT z_t 24 := (f26 24 (by decide)).2.1
  have h26 : NJ z_t z26 z26 := ⟨⟨fr_tr fr_rf f26 (by decide), rfl, s26, by rw [(f26 24 (by decide)).2.1, e26 0 (by decide)]⟩, fun i hi => by rw [e24]; exact (e26 i hi).symm⟩
  refine tk_m109 (o := z_t) (K := z26) (by omega) hK (fun z60 a b h60 => ?_) FU z26 (-1) 0 0 h26 (by omega) (FU_lt (by omega))
  have hr : E9 z_t z60 := e9_e h60.1.1 (fun i hi => (h60.2 i hi).trans (e26 i hi)) (by decide)
  refine ok_ite (fun _ => ok_some hr) (fun _ => ?_)
  refine ok_bd (t_fX9_hundreds (by omega)) (fun r65 q => ?_)
  have q : 1 ≤ r65.toInt ∧ r65.toInt ≤ 10000000000000000 := q
  exact ok_bd (t_fX9_partOf (by omega)) (fun r67 _ => ok_some hr)
theorem r9_look (h : RI z_t) : okP (fX9_look z_t x1) (fun y => R9 z_t y.2) := ok_imp (k_fX9_look h.2.1) (fun _ q => r9_kx q.1 q.2.2 (by decide))
theorem r9_fine (h : RI z_t) : okP (fX9_fine z_t x1) (fun y => R9 z_t y.2) := ok_imp (k_fX9_fine h.2.1) (fun _ q => r9_kx q.1 q.2.2 (by decide))
theorem r9_mend (h : RI z_t) : okP (fX9_mend z_t x1) (fun y => R9 z_t y.2) := ok_imp (k_fX9_mend h.2.1) (fun _ q => r9_kx q.1 q.2.2 (by decide))
theorem r9_seed (h : RI z_t) : okP (fX9_seed z_t x1) (fun y => R9 z_t y.2) := ok_imp (k_fX9_seed h.2.1) (fun _ q => r9_kx q.1 q.2.2 (by decide))
theorem r9_day (h : RI z_t) : okP (fX9_day z_t x1) (fun y => R9 z_t y.2) := ok_imp (k_fX9_day h.2.2.1 h.2.1) (fun _ q => r9_kx q.1 q.2.2 (by decide))
theorem r9_dawn (h : RI z_t) : okP (fX9_dawn z_t) (fun y => R9 z_t y.2) := by
  have hS := h.2.1
  unfold fX9_dawn
  refine ok_bd t_fX9_isWork (fun r2 _ => ?_)
  refine ok_ite (fun _ => ok_some r9_rf) (fun _ => ?_)
  refine ok_bd (t_fX9_hidden hS) (fun r5 _ => ?_)
  refine ok_nm ?_
  refine ok_nm ?_
  refine ok_bd (k_fX9_begins (so_T (so_T (so_T hS (by unfold freeix; omega)) (by unfold freeix; omega)) (by unfold freeix; omega))) (fun z9 q => ?_)
  exact ok_some ⟨(q.1 3 (by decide)).2.1, (q.1 5 (by decide)).2.1, (q.1 6 (by decide)).2.1⟩
theorem r9_row (h : RI z_t) : okP (fX9_row z_t x1) (fun y => R9 z_t y.2) := by
  have hS := h.2.1
  unfold fX9_row
  refine ok_ite (fun _ => ok_some ⟨rfl, rfl, rfl⟩) (fun _ => ?_)
  refine ok_bd t_fX9_isFault (fun r3 _ => ?_)
  refine ok_ite (fun _ => ok_some r9_rf) (fun _ => ?_)
  refine ok_ite (fun _ => ok_some r9_rf) (fun c => ?_)
  have h8 := hS.2.2.1
  have ci := bI_neq rfl (show (8 : Int32).toInt = 8 by decide) c
  have e10 : (10 + gT z_t 24 8).toInt = 10 + (gT z_t 24 8).toInt := i32_add (show (10 : Int32).toInt = 10 by decide) rfl (by omega) (by omega)
  have n10 : ((10 + gT z_t 24 8).toNatClampNeg : Int) = (10 + gT z_t 24 8).toInt := clampI (by omega)
  refine ok_gd (inb_of (by omega) (by omega)) ?_
  refine ok_nm ?_
  exact ok_some ⟨rfl, rfl, rfl⟩
set_option maxHeartbeats 1000000 in
theorem r9_work (h : RI z_t) : okP (fX9_work z_t) (fun y => R9 z_t y.2) := by
  unfold fX9_work
  obtain ⟨h1, h2, h3, h6⟩ := id h
  have z0 : (0 : Int32).toInt = 0 := by decide
  refine ok_bd2 (t_readsW (z_t := sI (sI (sI (sI z_t 15 6) 7 (-1)) 8 0) 9 0) rfl h1 z0 z0) (fun r2 z3 q => ?_)
  obtain ⟨a1, a3, a4⟩ := q
  have a1 : FrL [1, 4, 7, 8, 9, 10, 11, 12, 13, 14, 16, 18] (sI (sI (sI (sI z_t 15 6) 7 (-1)) 8 0) 9 0) z3 := a1
  have fr3 : FrL [1, 4, 7, 8, 9, 10, 11, 12, 13, 14, 15, 16, 18] z_t z3 := fr_tr (fr_I (fr_I (fr_I (fr_I fr_rf (by decide)) (by decide)) (by decide)) (by decide)) a1 (by decide)
  have g3 : R9 z_t z3 := r9_fr fr3 (by decide)
  refine ok_ite (fun c => ok_some g3) (fun c => ?_)
  have hw : WKI z3 := by
    rcases a4 with q | q
    · exact absurd q c
    · exact q.2
  obtain ⟨w1, w2, w3, w4, w5⟩ := id hw
  have two : (2 : Int32).toInt = 2 := by decide
  have tn : (2 : Int32).toNatClampNeg = 2 := by decide
  have go : ∀ (v6 : Int32), okP (gd (inb 2 104) (nm (gT (sT (sT (sT z3 24 0 (gI z3 9)) 24 1 (gI z3 8)) 24 ((2 : Int32).toNatClampNeg) v6) 24 2 : Int32) (fun v9 => lX9_work_92 (fun (z12 : Sx) => lX9_work_113 (fun (z16 : Sx) => lX9_work_146 (fun (z24 : Sx) => some (gI z24 9, z24)) FU z16 0) FU z12 0) FU (sT (sT (sT (sT z3 24 0 (gI z3 9)) 24 1 (gI z3 8)) 24 ((2 : Int32).toNatClampNeg) v6) 24 3 v9) 4))) (fun y => R9 z_t y.2) := by
    intro v6
    refine ok_gd (inb_of (by omega) (by omega)) ?_
    rw [tn]
    refine ok_nm2 (fun v9 _ => ?_)
    have ws0 : WSD z3 (gI z3 9) (gI z3 8) (sT (sT (sT (sT z3 24 0 (gI z3 9)) 24 1 (gI z3 8)) 24 2 v6) 24 3 v9) := by
      refine wsd_T (wsd_T ⟨fr_T (fr_T fr_rf (by decide)) (by decide), rfl, rfl, fun j hj => ?_⟩ (by omega)) (by omega)
      exact (show upd (upd (gT z3 24) 0 (gI z3 9)) 1 (gI z3 8) (18 + j) = upd (gT z3 24) 0 (gI z3 9) (18 + j) from if_neg (by omega)).trans (if_neg (by omega))
    have four : (4 : Int32).toInt = 4 := by decide
    refine tl_work92 (o := z3) (n := gI z3 9) (k := gI z3 8) (fun z12 ws12 e12 => ?_) FU _ 4 ws0 (by omega) (by omega) (fun q => by omega) (FU_lt (by omega))
    refine tl_work113 (o := z3) (n := gI z3 9) (k := gI z3 8) ⟨w1, w2⟩ (fun z16 ws16 e16 => ?_) FU z12 0 ws12 e12 (by omega) (FU_lt (by omega))
    have n0 : (0 : Int32).toNatClampNeg = 0 := by decide
    have wf0 : WF z3 (0 : Int32).toNatClampNeg z16 := fun g hg => by rw [n0] at hg; omega
    refine tl_work146 (o := z3) (n := gI z3 9) (k := gI z3 8) ⟨w3, w4⟩ (fun z24 ws24 e24 wf24 => ?_) FU z16 0 ws16 e16 (by omega) (by omega) wf0 (FU_lt (by omega))
    obtain ⟨f24, s0, s1, sg⟩ := ws24
    exact ok_some ⟨(f24 3 (by decide)).2.1.trans g3.1, (f24 5 (by decide)).2.1.trans g3.2.1, (f24 6 (by decide)).2.1.trans g3.2.2⟩
  refine ok_jn ?_
  exact ok_ite (fun _ => go _) (fun _ => go _)
theorem r9_image : okP (fX9_image z_t x1) (fun y => R9 z_t y.2) := ok_imp image9 (fun y q => by
  rcases q with q | q
  · rw [q.2]; exact r9_rf
  · exact r9_fr q.2.1 (by decide))
theorem r9_back : okP (fX9_back z_t x1) (fun y => R9 z_t y.2) := ok_imp back9 (fun y q => by
  rcases q with q | q
  · rw [q.2]; exact r9_rf
  · exact r9_fr q.2.2.1 (by decide))
theorem r9_game : okP (fX9_game z_t x1 x2) (fun y => R9 z_t y.2) := ok_imp game9 (fun y q => by
  rcases q with q | q
  · rw [q.2.2]; exact r9_rf
  · rw [q.2.2]; exact ⟨rfl, rfl, rfl⟩)
end E9S

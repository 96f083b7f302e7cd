/-! What each call of the reference leaves of its text, and of the number of its RULES. -/
def U9 (o z : Sx) : Prop := gI z 1 = gI o 1 ∧ gI z 2 = gI o 2 ∧ gT z 0 = gT o 0
theorem u9_rf {z : Sx} : U9 z z := ⟨rfl, rfl, rfl⟩
theorem u9_fr {L : List Nat} {o z : Sx} (hf : FrL L o z) (hL : (L.contains 0 || L.contains 1 || L.contains 2) = false) : U9 o z := by
  simp only [Bool.or_eq_false_iff] at hL
  exact ⟨(hf 1 hL.1.2).1, (hf 2 hL.2).1, (hf 0 hL.1.1).2.1⟩
theorem u9_kx {L : List Nat} {o z : Sx} (hf : FrL L o z) (_ : KX o z) (hL : (L.contains 0 || L.contains 1 || L.contains 2) = false) : U9 o z := u9_fr hf hL
theorem u9_e {L : List Nat} {o z : Sx} (hf : FrL L o z) (_ : E104 (gT z 24) (gT o 24)) (hL : (L.contains 0 || L.contains 1 || L.contains 2) = false) : U9 o z := u9_fr hf hL
section U9S
variable {z_t : Sx} {x1 x2 x3 x4 x5 : Int32}
theorem u_look (h : RI z_t) : okP (fX9_look z_t x1) (fun y => U9 z_t y.2) := ok_imp (k_fX9_look h.2.1) (fun _ q => u9_kx q.1 q.2.2 (by decide))
theorem u_fine (h : RI z_t) : okP (fX9_fine z_t x1) (fun y => U9 z_t y.2) := ok_imp (k_fX9_fine h.2.1) (fun _ q => u9_kx q.1 q.2.2 (by decide))
theorem u_mend (h : RI z_t) : okP (fX9_mend z_t x1) (fun y => U9 z_t y.2) := ok_imp (k_fX9_mend h.2.1) (fun _ q => u9_kx q.1 q.2.2 (by decide))
theorem u_seed (h : RI z_t) : okP (fX9_seed z_t x1) (fun y => U9 z_t y.2) := ok_imp (k_fX9_seed h.2.1) (fun _ q => u9_kx q.1 q.2.2 (by decide))
theorem u_day (h : RI z_t) : okP (fX9_day z_t x1) (fun y => U9 z_t y.2) := ok_imp (k_fX9_day h.2.2.1 h.2.1) (fun _ q => u9_kx q.1 q.2.2 (by decide))
theorem u_dawn (h : RI z_t) : okP (fX9_dawn z_t) (fun y => U9 z_t y.2) := by
  have hS := h.2.1
  unfold fX9_dawn
  refine ok_bd t_fX9_isWork (fun r2 _ => ?_)
  refine ok_ite (fun _ => ok_some u9_rf) (fun _ => ?_)
  refine ok_bd (t_fX9_hidden hS) (fun r5 _ => ?_)
  refine ok_nm ?_
  refine ok_nm ?_
  refine ok_bd (k_fX9_begins (so_T (so_T (so_T hS (by unfold freeix; omega)) (by unfold freeix; omega)) (by unfold freeix; omega))) (fun z9 q => ?_)
  exact ok_some ⟨(q.1 1 (by decide)).1, (q.1 2 (by decide)).1, (q.1 0 (by decide)).2.1⟩
theorem u_row (h : RI z_t) : okP (fX9_row z_t x1) (fun y => U9 z_t y.2) := by
  have hS := h.2.1
  unfold fX9_row
  refine ok_ite (fun _ => ok_some ⟨rfl, rfl, rfl⟩) (fun _ => ?_)
  refine ok_bd t_fX9_isFault (fun r3 _ => ?_)
  refine ok_ite (fun _ => ok_some u9_rf) (fun _ => ?_)
  refine ok_ite (fun _ => ok_some u9_rf) (fun c => ?_)
  have h8 := hS.2.2.1
  have ci := bI_neq rfl (show (8 : Int32).toInt = 8 by decide) c
  have e10 : (10 + gT z_t 24 8).toInt = 10 + (gT z_t 24 8).toInt := i32_add (show (10 : Int32).toInt = 10 by decide) rfl (by omega) (by omega)
  have n10 : ((10 + gT z_t 24 8).toNatClampNeg : Int) = (10 + gT z_t 24 8).toInt := clampI (by omega)
  refine ok_gd (inb_of (by omega) (by omega)) ?_
  refine ok_nm ?_
  exact ok_some ⟨rfl, rfl, rfl⟩
theorem u_would (h : RI z_t) : okP (fX9_would z_t x1 x2) (fun y => U9 z_t y.2) := by
  unfold fX9_would
  have z0 : okP (some (((-1000000) : Int32), z_t)) (fun y : Int32 × Sx => U9 z_t y.2) := ok_some u9_rf
  refine wk_ok (ok_jn (if0 z0)) (fun _ => ok_jn (if1 ?_))
  refine rl_ok (if0 z0) (fun r0 r1 => if1 ?_)
  refine in_ok (if0 z0) (fun i0 i1 => if1 ?_)
  have hS := h.2.1
  refine ok_bd (t_fX9_keeps hS) (fun z12 q => ?_)
  obtain ⟨f12, e12⟩ := q
  have s12 : SOK (gT z12 24) := so_fr f12 (by decide) hS
  have hc := clampI r0
  have rk : RK z_t x1.toNatClampNeg := h.2.2.1.2.2 _ (by omega)
  refine ok_bd2 (t_fX9_passes (t := x1.toNatClampNeg) hc.symm s12 (rk_fr f12 (by decide) rk)) (fun r14 z15 q => ?_)
  obtain ⟨f15, s15, -⟩ := q
  have f15 : FrL [21, 22, 23, 24] z12 z15 := f15
  have s15 : SOK (gT z15 24) := s15
  have e25 : gT z15 25 = gT z12 25 := (f15 25 (by decide)).2.1
  have k25 : SOK (gT z15 25) := by rw [e25]; exact sok_eq e12 hS
  refine ok_jn2 (Q := fun J => ∀ v : Int32, okP (J v) (fun y : Int32 × Sx => U9 z_t y.2)) ?_ (fun J HJ => ?_)
  · intro v
    refine ok_bd (t_fX9_putsBack k25) (fun z19 q => ?_)
    obtain ⟨f19, e19, s19⟩ := q
    exact ok_some (u9_e (fr_tr (L := [21, 22, 23, 24, 25]) (fr_tr (fr_tr fr_rf f12 (by decide)) f15 (by decide)) f19 (by decide)) (fun i hi => (e19 i hi).trans (by rw [e25]; exact e12 i hi)) (by decide))
  · refine ok_ite (fun _ => HJ _) (fun _ => ?_)
    refine ok_ite (fun _ => ok_bd (t_fX9_thatAre s15) (fun r _ => HJ r)) (fun _ => ?_)
    refine ok_ite (fun _ => HJ _) (fun _ => ?_)
    exact ok_ite (fun _ => ok_bd (t_fX9_hidden s15) (fun r _ => HJ r)) (fun _ => HJ _)
theorem u_best (h : RI z_t) : okP (fX9_best z_t x1 x2) (fun y => U9 z_t y.2) := by
  unfold fX9_best
  have z0 : okP (some (((-1) : Int64), z_t)) (fun y : Int64 × Sx => U9 z_t y.2) := ok_some u9_rf
  refine wk_ok (if0 z0) (fun _ => if1 ?_)
  refine in_ok (if0 z0) (fun i0 i1 => if1 ?_)
  refine in_ok (if0 z0) (fun i2 i3 => if1 ?_)
  have e0 : (0 : Int64).toInt = 0 := by decide
  have e5 : (5 : Int64).toInt = 5 := by decide
  have ex : x1.toInt64.toInt = x1.toInt := Int32.toInt_toInt64 x1
  have hS := h.2.1
  refine ok_bd (t_fX9_keeps hS) (fun z11 q => ?_)
  obtain ⟨f11, e11⟩ := q
  have s11 : SOK (gT z11 24) := so_fr f11 (by decide) hS
  refine ok_bd (t_fX9_goesThrough (by omega) s11) (fun z13 q => ?_)
  obtain ⟨f13, -, -⟩ := q
  have e25 : gT z13 25 = gT z11 25 := (f13 25 (by decide)).2.1
  have k25 : SOK (gT z13 25) := by rw [e25]; exact sok_eq e11 hS
  refine ok_bd (t_fX9_putsBack k25) (fun z15 q => ?_)
  obtain ⟨f15, e15, s15⟩ := q
  have hr : U9 z_t z15 := u9_e (fr_tr (L := [24, 25, 26, 27, 28, 29, 30, 31, 32, 33]) (fr_tr (fr_tr fr_rf f11 (by decide)) f13 (by decide)) f15 (by decide)) (fun i hi => (e15 i hi).trans (by rw [e25]; exact e11 i hi)) (by decide)
  refine ok_ite (fun _ => ok_some hr) (fun _ => ?_)
  refine ok_bd (t_fX9_hundreds (by omega)) (fun r18 q => ?_)
  have q : 1 ≤ r18.toInt ∧ r18.toInt ≤ 10000000000000000 := q
  exact ok_bd (t_fX9_partOf (by omega)) (fun r20 _ => ok_some hr)
theorem u_worth (h : RI z_t) : okP (fX9_worth z_t x1) (fun y => U9 z_t y.2) := by
  unfold fX9_worth
  have z0 : okP (some (((-1) : Int64), z_t)) (fun y : Int64 × Sx => U9 z_t y.2) := ok_some u9_rf
  refine wk_ok (if0 z0) (fun _ => if1 ?_)
  refine in_ok (if0 z0) (fun i0 i1 => if1 ?_)
  refine ok_bd2 (k_meanOf (by decide) h.2.1) (fun r8 z9 q => ?_)
  obtain ⟨f9, s9, e9⟩ := q
  have h8 := s9.2.2.1
  have hr : U9 z_t z9 := u9_e f9 e9 (by decide)
  refine ok_bd (t_fX9_hundreds (show (gT z9 24 8).toInt ≤ 8 from h8.2)) (fun r11 q => ?_)
  have q : 1 ≤ r11.toInt ∧ r11.toInt ≤ 10000000000000000 := q
  exact ok_bd (t_fX9_partOf (by omega)) (fun r13 _ => ok_some hr)
theorem u_seen (h : RI z_t) : okP (fX9_seen z_t x1 x2) (fun y => U9 z_t y.2) := by
  unfold fX9_seen
  have z0 : okP (some (((-1) : Int64), z_t)) (fun y : Int64 × Sx => U9 z_t y.2) := ok_some u9_rf
  have hn := h.2.1.1
  refine fl_ok (if0 z0) (fun r0 r1 => if1 ?_)
  refine in_ok (if0 z0) (fun i0 i1 => if1 ?_)
  refine ok_bd2 (k_meanOf (by omega) h.2.1) (fun r8 z9 q => ?_)
  obtain ⟨f9, s9, e9⟩ := q
  have h8 := s9.2.2.1
  have hr : U9 z_t z9 := u9_e f9 e9 (by decide)
  refine ok_bd (t_fX9_hundreds (show (gT z9 24 8).toInt ≤ 8 from h8.2)) (fun r11 q => ?_)
  have q : 1 ≤ r11.toInt ∧ r11.toInt ≤ 10000000000000000 := q
  exact ok_bd (t_fX9_partOf (by omega)) (fun r13 _ => ok_some hr)
theorem u_weeks (h : RI z_t) : okP (fX9_weeks z_t x1 x2 x3) (fun y => U9 z_t y.2) := by
  unfold fX9_weeks
  have z0 : okP (some (((-1) : Int32), z_t)) (fun y : Int32 × Sx => U9 z_t y.2) := ok_some u9_rf
  refine wk_ok (if0 z0) (fun _ => if1 ?_)
  refine rl_ok (if0 z0) (fun r0 r1 => if1 ?_)
  refine in_ok (if0 z0) (fun i0 i1 => if1 ?_)
  refine in_ok (if0 z0) (fun _ _ => if1 ?_)
  have e1 : (1 : Int64).toInt = 1 := by decide
  have e20 : (20 : Int64).toInt = 20 := by decide
  have ex : x2.toInt64.toInt = x2.toInt := Int32.toInt_toInt64 x2
  have n0 : (0 : Int32).toInt = 0 := by decide
  have hS := h.2.1
  have hc := clampI r0
  have rk : RK z_t x1.toNatClampNeg := h.2.2.1.2.2 _ (by omega)
  refine ok_bd (t_fX9_keeps hS) (fun z14 q => ?_)
  obtain ⟨f14, e14⟩ := q
  have hK : SOK (gT z14 25) := sok_eq e14 hS
  refine tl_weeks (o := z_t) (K := z14) (t := x1.toNatClampNeg) hc.symm rk (by omega) (fun z32 v hi => ?_) FU z14 0 0 ⟨fr_tr fr_rf f14 (by decide), rfl, so_fr f14 (by decide) hS⟩ (by omega) (FU_lt (by omega))
  obtain ⟨a1, a2, a3⟩ := hi
  refine ok_bd (t_fX9_putsBack (by rw [a2]; exact hK)) (fun z35 q => ?_)
  obtain ⟨f35, e35, s35⟩ := q
  exact ok_some (u9_e (fr_tr a1 f35 (by decide)) (fun i hi => (e35 i hi).trans (by rw [a2]; exact e14 i hi)) (by decide))
theorem u_master (h : RI z_t) : okP (fX9_master z_t x1 x2) (fun y => U9 z_t y.2) := by
  unfold fX9_master
  have z0 : okP (some (((-1000000000000) : Int64), z_t)) (fun y : Int64 × Sx => U9 z_t y.2) := ok_some u9_rf
  refine wk_ok (if0 z0) (fun _ => if1 ?_)
  refine in_ok (if0 z0) (fun i0 i1 => if1 ?_)
  refine in_ok (if0 z0) (fun _ _ => if1 ?_)
  have e0 : (0 : Int64).toInt = 0 := by decide
  have e4 : (4 : Int64).toInt = 4 := by decide
  have ex : x1.toInt64.toInt = x1.toInt := Int32.toInt_toInt64 x1
  have n0 : (0 : Int32).toInt = 0 := by decide
  have hS := h.2.1
  have hn := hS.1
  refine ok_bd (t_fX9_thatAre hS) (fun r11 _ => ?_)
  refine tl_m47 hn.2 (fun i24 => ?_) FU 0 0 (by omega) (FU_lt (by omega))
  refine ok_bd (t_fX9_keeps hS) (fun z26 q => ?_)
  obtain ⟨f26, e26⟩ := q
  have hK : SOK (gT z26 25) := sok_eq e26 hS
  have s26 : SOK (gT z26 24) := so_fr f26 (by decide) hS
  have e24 : gT z26 24 = gT z_t 24 := (f26 24 (by decide)).2.1
  have h26 : NJ z_t z26 z26 := ⟨⟨fr_tr fr_rf f26 (by decide), rfl, s26, by rw [(f26 24 (by decide)).2.1, e26 0 (by decide)]⟩, fun i hi => by rw [e24]; exact (e26 i hi).symm⟩
  refine tk_m109 (o := z_t) (K := z26) (by omega) hK (fun z60 a b h60 => ?_) FU z26 (-1) 0 0 h26 (by omega) (FU_lt (by omega))
  have hr : U9 z_t z60 := u9_e h60.1.1 (fun i hi => (h60.2 i hi).trans (e26 i hi)) (by decide)
  refine ok_ite (fun _ => ok_some hr) (fun _ => ?_)
  refine ok_bd (t_fX9_hundreds (by omega)) (fun r65 q => ?_)
  have q : 1 ≤ r65.toInt ∧ r65.toInt ≤ 10000000000000000 := q
  exact ok_bd (t_fX9_partOf (by omega)) (fun r67 _ => ok_some hr)
theorem u_image : okP (fX9_image z_t x1) (fun y => U9 z_t y.2) := ok_imp image9 (fun y q => by
  rcases q with q | q
  · rw [q.2]; exact u9_rf
  · exact u9_fr q.2.1 (by decide))
theorem u_back : okP (fX9_back z_t x1) (fun y => U9 z_t y.2) := ok_imp back9 (fun y q => by
  rcases q with q | q
  · rw [q.2]; exact u9_rf
  · exact u9_fr q.2.2.1 (by decide))
theorem u_game : okP (fX9_game z_t x1 x2) (fun y => U9 z_t y.2) := ok_imp game9 (fun y q => by
  rcases q with q | q
  · rw [q.2.2]; exact u9_rf
  · rw [q.2.2]; exact ⟨rfl, rfl, rfl⟩)
end U9S

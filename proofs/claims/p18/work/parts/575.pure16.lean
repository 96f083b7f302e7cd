/-! What holds of the reference between calls, call by call. -/
theorem ri_fr {L : List Nat} {z z' : Sx} (h : RI z) (hf : FrL L z z') (hL : (L.contains 1 || L.contains 2 || L.contains 3 || L.contains 5 || L.contains 6 || L.contains 34 || L.contains 35) = false) (hs : SOK (gT z' 24)) : RI z' := by
  simp only [Bool.or_eq_false_iff] at hL
  obtain ⟨⟨⟨⟨⟨⟨l1, l2⟩, l3⟩, l5⟩, l6⟩, l34⟩, l35⟩ := hL
  obtain ⟨h1, h2, h3, h4⟩ := h
  have e1 : gI z' 1 = gI z 1 := (hf 1 l1).1
  have e2 : gI z' 2 = gI z 2 := (hf 2 l2).1
  refine ⟨by rw [e1]; exact h1, hs, ?_, img_fr hf l34 l35 h4⟩
  unfold RU; rw [e2]
  exact ⟨h3.1, h3.2.1, fun t ht => rk_eq (hf 3 l3).2.1 (hf 5 l5).2.1 (hf 6 l6).2.1 (h3.2.2 t ht)⟩
theorem in_ok {x0 x2 x4 : Int64} {β : Type} {f : Int32 → Option β} {P : β → Prop} (h0 : okP (f 0) P) (h1 : x2.toInt ≤ x0.toInt → x0.toInt ≤ x4.toInt → okP (f 1) P) : okP (bd (fX9_in x0 x2 x4) f) P := by
  refine ok_bd t_fX9_in (fun r q => ?_)
  rcases q.1 with e | e
  · rw [e]; exact h0
  · rw [e] at q ⊢
    rcases q.2 with w | w
    · exact h1 w.2.1 w.2.2
    · exact absurd w.1 (by decide)
theorem wk_ok {z : Sx} {β : Type} {f : Int32 → Option β} {P : β → Prop} (h0 : okP (f 0) P) (h1 : 0 < (gT z 24 0).toInt → okP (f 1) P) : okP (bd (fX9_isWork z) f) P := by
  refine ok_bd t_fX9_isWork (fun r q => ?_)
  rcases q.1 with e | e
  · rw [e]; exact h0
  · rw [e] at q ⊢
    rcases q.2 with w | w
    · exact h1 w.2
    · exact absurd w (by decide)
theorem rl_ok {z : Sx} {x : Int32} {β : Type} {f : Int32 → Option β} {P : β → Prop} (h0 : okP (f 0) P) (h1 : 0 ≤ x.toInt → x.toInt < (gI z 2).toInt → okP (f 1) P) : okP (bd (fX9_isRule z x) f) P := by
  refine ok_bd t_fX9_isRule (fun r q => ?_)
  rcases q.1 with e | e
  · rw [e]; exact h0
  · rw [e] at q ⊢
    rcases q.2 with w | w
    · exact h1 w.2.1 w.2.2
    · exact absurd w (by decide)
theorem fl_ok {z : Sx} {x : Int32} {β : Type} {f : Int32 → Option β} {P : β → Prop} (h0 : okP (f 0) P) (h1 : 0 ≤ x.toInt → x.toInt < (gT z 24 0).toInt → okP (f 1) P) : okP (bd (fX9_isFault z x) f) P := by
  refine ok_bd t_fX9_isFault (fun r q => ?_)
  rcases q.1 with e | e
  · rw [e]; exact h0
  · rw [e] at q ⊢
    rcases q.2 with w | w
    · exact h1 w.2.1 w.2.2
    · exact absurd w (by decide)
theorem if0 {β : Type} {a b : Option β} {P : β → Prop} (h : okP a P) : okP (if (0 : Int32) = 0 then a else b) P := ok_ite (fun _ => h) (fun c => absurd rfl c)
theorem if1 {β : Type} {a b : Option β} {P : β → Prop} (h : okP b P) : okP (if (1 : Int32) = 0 then a else b) P := ok_ite (fun c => absurd c (by decide)) (fun _ => h)
theorem r_would {z_t : Sx} {x1 x2 : Int32} (h : RI z_t) : okP (fX9_would z_t x1 x2) (fun y => RI y.2) := by
  unfold fX9_would
  have z0 : okP (some (((-1000000) : Int32), z_t)) (fun y : Int32 × Sx => RI y.2) := ok_some h
  refine wk_ok (ok_jn (if0 z0)) (fun _ => ok_jn (if1 ?_))
  refine rl_ok (if0 z0) (fun r0 r1 => if1 ?_)
  refine in_ok (if0 z0) (fun i0 i1 => if1 ?_)
  have hS := h.2.1
  refine ok_bd (t_fX9_keeps hS) (fun z12 q => ?_)
  obtain ⟨f12, e12⟩ := q
  have s12 : SOK (gT z12 24) := so_fr f12 (by decide) hS
  have hc := clampI r0
  have rk : RK z_t x1.toNatClampNeg := h.2.2.1.2.2 _ (by omega)
  refine ok_bd2 (t_fX9_passes (t := x1.toNatClampNeg) hc.symm s12 (rk_fr f12 (by decide) rk)) (fun r14 z15 q => ?_)
  obtain ⟨f15, s15, -⟩ := q
  have f15 : FrL [21, 22, 23, 24] z12 z15 := f15
  have s15 : SOK (gT z15 24) := s15
  have k25 : SOK (gT z15 25) := by rw [(f15 25 (by decide)).2.1]; exact sok_eq e12 hS
  refine ok_jn2 (Q := fun J => ∀ v : Int32, okP (J v) (fun y : Int32 × Sx => RI y.2)) ?_ (fun J HJ => ?_)
  · intro v
    refine ok_bd (t_fX9_putsBack k25) (fun z19 q => ?_)
    obtain ⟨f19, -, s19⟩ := q
    exact ok_some (ri_fr h (fr_tr (L := [21, 22, 23, 24, 25]) (fr_tr (fr_tr fr_rf f12 (by decide)) f15 (by decide)) f19 (by decide)) (by decide) s19)
  · refine ok_ite (fun _ => HJ _) (fun _ => ?_)
    refine ok_ite (fun _ => ok_bd (t_fX9_thatAre s15) (fun r _ => HJ r)) (fun _ => ?_)
    refine ok_ite (fun _ => HJ _) (fun _ => ?_)
    exact ok_ite (fun _ => ok_bd (t_fX9_hidden s15) (fun r _ => HJ r)) (fun _ => HJ _)
theorem r_best {z_t : Sx} {x1 x2 : Int32} (h : RI z_t) : okP (fX9_best z_t x1 x2) (fun y => RI y.2) := by
  unfold fX9_best
  have z0 : okP (some (((-1) : Int64), z_t)) (fun y : Int64 × Sx => RI y.2) := ok_some h
  refine wk_ok (if0 z0) (fun _ => if1 ?_)
  refine in_ok (if0 z0) (fun i0 i1 => if1 ?_)
  refine in_ok (if0 z0) (fun i2 i3 => if1 ?_)
  have e0 : (0 : Int64).toInt = 0 := by decide
  have e5 : (5 : Int64).toInt = 5 := by decide
  have ex : x1.toInt64.toInt = x1.toInt := Int32.toInt_toInt64 x1
  have hS := h.2.1
  refine ok_bd (t_fX9_keeps hS) (fun z11 q => ?_)
  obtain ⟨f11, e11⟩ := q
  have s11 : SOK (gT z11 24) := so_fr f11 (by decide) hS
  refine ok_bd (t_fX9_goesThrough (by omega) s11) (fun z13 q => ?_)
  obtain ⟨f13, -, -⟩ := q
  have k25 : SOK (gT z13 25) := by rw [(f13 25 (by decide)).2.1]; exact sok_eq e11 hS
  refine ok_bd (t_fX9_putsBack k25) (fun z15 q => ?_)
  obtain ⟨f15, -, s15⟩ := q
  have hr : RI z15 := ri_fr h (fr_tr (L := [24, 25, 26, 27, 28, 29, 30, 31, 32, 33]) (fr_tr (fr_tr fr_rf f11 (by decide)) f13 (by decide)) f15 (by decide)) (by decide) s15
  refine ok_ite (fun _ => ok_some hr) (fun _ => ?_)
  refine ok_bd (t_fX9_hundreds (by omega)) (fun r18 q => ?_)
  have q : 1 ≤ r18.toInt ∧ r18.toInt ≤ 10000000000000000 := q
  exact ok_bd (t_fX9_partOf (by omega)) (fun r20 _ => ok_some hr)
theorem shl_rng8 {x : Int32} (h0 : 0 ≤ x.toInt) (h1 : x.toInt ≤ 8) : 1 ≤ ((1 : Int32) <<< (x &&& 31)).toInt ∧ ((1 : Int32) <<< (x &&& 31)).toInt ≤ 256 := by
  obtain ⟨k, hk, rfl⟩ := i32_cases (n := 9) (by decide) h0 (by omega)
  have : ∀ k : Fin 9, 1 ≤ ((1 : Int32) <<< (nI k.val &&& 31)).toInt ∧ ((1 : Int32) <<< (nI k.val &&& 31)).toInt ≤ 256 := by decide
  exact this ⟨k, hk⟩
/-- a state whose ROW was reckoned through and put back -/
def MI (o K : Sx) (z : Sx) : Prop := FrL [24, 25] o z ∧ gT z 25 = gT K 25 ∧ E104 (gT z 24) (gT K 25)
set_option maxHeartbeats 1000000 in
theorem tl_mean {o K : Sx} {x1 : Int32} (hx : x1.toInt ≤ 9) (hK : SOK (gT K 25)) : ∀ (n : Nat) (z : Sx) (x2 : Int64) (x4 : Int32), MI o K z → 0 ≤ x4.toInt → (256 - x4.toInt).toNat < n → okP (lX9_meanOf_9 x1 n z x2 x4) (fun y => MI o K y.2) := by
  intro n
  induction n with
  | zero => intro _ _ _ _ _ hm; omega
  | succ n ih =>
    intro z x2 x4 hi h0 hm
    obtain ⟨a1, a2, a3⟩ := id hi
    have so : SOK (gT z 24) := sok_eq a3 hK
    have h8 := so.2.2.1
    have hs := shl_rng8 (x := gT z 24 8) h8.1 h8.2
    rw [lX9_meanOf_9]
    refine ok_ite (fun _ => ok_some hi) (fun c => ?_)
    have ci := bI_nle rfl rfl c
    refine ok_bd2 (t_fX9_comesOut so) (fun r5 z6 q => ?_)
    obtain ⟨f6, s6, -⟩ := q
    have f6 : FrL [24] z z6 := f6
    have s6 : SOK (gT z6 24) := s6
    have e25 : gT z6 25 = gT K 25 := (f6 25 (by decide)).2.1.trans a2
    have e1 : (x4 + 1).toInt = x4.toInt + 1 := i32_add rfl (show (1 : Int32).toInt = 1 by decide) (by omega) (by omega)
    refine ok_jn2 (Q := fun J => ∀ (i8 : Int32) (i9 i10 : Int64), okP (J i8 i9 i10) (fun y => MI o K y.2)) ?_ (fun J HJ => ?_)
    · intro i8 i9 i10
      refine ok_bd (t_fX9_putsBack (by rw [e25]; exact hK)) (fun z12 q => ?_)
      obtain ⟨f12, e12, -⟩ := q
      refine ih z12 _ (x4 + 1) ⟨fr_tr (fr_tr a1 f6 (by decide)) f12 (by decide), (f12 25 (by decide)).2.1.trans e25, fun i hi => ?_⟩ (by omega) (by omega)
      rw [e12 i hi, e25]
    · refine ok_ite (fun c2 => ?_) (fun _ => HJ _ _ _)
      have c2i := bI_le (show (0 : Int32).toInt = 0 by decide) rfl c2
      refine ok_bd (t_fX9_faultOf (by omega) (by decide)) (fun r15 _ => ?_)
      exact ok_ite (fun _ => HJ _ _ _) (fun _ => HJ _ _ _)
theorem t_fX9_meanOf {z_t : Sx} {x1 : Int32} (hx : x1.toInt ≤ 9) (hS : SOK (gT z_t 24)) : okP (fX9_meanOf z_t x1) (fun y => FrL [24, 25] z_t y.2 ∧ SOK (gT y.2 24)) := by
  unfold fX9_meanOf
  refine ok_bd (t_fX9_keeps hS) (fun z2 q => ?_)
  obtain ⟨f2, e2⟩ := q
  have hK : SOK (gT z2 25) := sok_eq e2 hS
  have e24 : gT z2 24 = gT z_t 24 := (f2 24 (by decide)).2.1
  have z0 : (0 : Int32).toInt = 0 := by decide
  refine ok_imp (tl_mean (o := z_t) (K := z2) hx hK FU z2 0 0 ⟨fr_tr fr_rf f2 (by decide), rfl, fun i hi => by rw [e24]; exact (e2 i hi).symm⟩ (by omega) (FU_lt (by omega))) (fun y q => ⟨q.1, sok_eq q.2.2 hK⟩)
theorem r_worth {z_t : Sx} {x1 : Int32} (h : RI z_t) : okP (fX9_worth z_t x1) (fun y => RI y.2) := by
  unfold fX9_worth
  have z0 : okP (some (((-1) : Int64), z_t)) (fun y : Int64 × Sx => RI y.2) := ok_some h
  refine wk_ok (if0 z0) (fun _ => if1 ?_)
  refine in_ok (if0 z0) (fun i0 i1 => if1 ?_)
  refine ok_bd2 (t_fX9_meanOf (by decide) h.2.1) (fun r8 z9 q => ?_)
  obtain ⟨f9, s9⟩ := q
  have h8 := s9.2.2.1
  have hr : RI z9 := ri_fr h f9 (by decide) s9
  refine ok_bd (t_fX9_hundreds (show (gT z9 24 8).toInt ≤ 8 from h8.2)) (fun r11 q => ?_)
  have q : 1 ≤ r11.toInt ∧ r11.toInt ≤ 10000000000000000 := q
  exact ok_bd (t_fX9_partOf (by omega)) (fun r13 _ => ok_some hr)
theorem r_seen {z_t : Sx} {x1 x2 : Int32} (h : RI z_t) : okP (fX9_seen z_t x1 x2) (fun y => RI y.2) := by
  unfold fX9_seen
  have z0 : okP (some (((-1) : Int64), z_t)) (fun y : Int64 × Sx => RI y.2) := ok_some h
  have hn := h.2.1.1
  refine fl_ok (if0 z0) (fun r0 r1 => if1 ?_)
  refine in_ok (if0 z0) (fun i0 i1 => if1 ?_)
  refine ok_bd2 (t_fX9_meanOf (by omega) h.2.1) (fun r8 z9 q => ?_)
  obtain ⟨f9, s9⟩ := q
  have h8 := s9.2.2.1
  have hr : RI z9 := ri_fr h f9 (by decide) s9
  refine ok_bd (t_fX9_hundreds (show (gT z9 24 8).toInt ≤ 8 from h8.2)) (fun r11 q => ?_)
  have q : 1 ≤ r11.toInt ∧ r11.toInt ≤ 10000000000000000 := q
  exact ok_bd (t_fX9_partOf (by omega)) (fun r13 _ => ok_some hr)

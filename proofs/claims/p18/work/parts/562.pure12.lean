def CHR (t : Nat) (o : Sx) (y : Int32 × Sx) : Prop := FrL [3, 4, 5, 6, 12, 13, 14, 16, 17, 18, 19, 20] o y.2 ∧ OLD t o y.2 ∧ (gI o 12).toInt ≤ (gI y.2 12).toInt ∧ (gI y.2 12).toInt ≤ (gI o 1).toInt ∧ ((y.1 = 0 ∧ (gI y.2 13).toInt ≠ 0) ∨ (y.1 = 1 ∧ RPI t y.2 ∧ (gT y.2 6 t).toInt ≤ (gI y.2 18).toInt ∧ (gI y.2 18).toInt ≤ 12 ∧ 0 ≤ (gT y.2 4 t).toInt ∧ (gT y.2 4 t).toInt ≤ (gI y.2 12).toInt ∧ 0 ≤ (gI y.2 16).toInt ∧ (gI y.2 16).toInt ≤ 60))
theorem rpi_eq {t : Nat} {z z' : Sx} (h3 : gT z' 3 = gT z 3) (h4 : gT z' 4 = gT z 4) (h5 : gT z' 5 = gT z 5) (h6 : gT z' 6 = gT z 6) (h : RPI t z) : RPI t z' := by
  unfold RPI; rw [h3, h4, h5, h6]; exact h
theorem chr_fail {t : Nat} {o z z' : Sx} {r : Int32} (hf : FrL [12] o z) (hq : FrL [13] z z') (h12 : (gI o 12).toInt ≤ (gI z 12).toInt) (h1 : (gI z 12).toInt ≤ (gI o 1).toInt) (hr : r.toInt = 0) (hw : (gI z' 13).toInt ≠ 0) : CHR t o (r, z') := by
  have e12 : (gI z' 12).toInt = (gI z 12).toInt := congrArg Int32.toInt (hq 12 (by decide)).1
  have fr : FrL [12, 13] o z' := fr_tr (fr_tr fr_rf hf (by decide)) hq (by decide)
  exact ⟨fr_tr fr_rf fr (by decide), old_eq (fr 3 (by decide)).2.1 (fr 5 (by decide)).2.1 (fr 6 (by decide)).2.1, show (gI o 12).toInt ≤ (gI z' 12).toInt by omega, show (gI z' 12).toInt ≤ (gI o 1).toInt by omega, Or.inl ⟨show r = 0 from Int32.toInt.inj (by rw [hr]; decide), hw⟩⟩
set_option maxHeartbeats 2000000 in
theorem t_clauseR {z_t : Sx} {t : Nat} (pt : (gI z_t 15).toInt = t ∧ t < 6) (p1 : 0 ≤ (gI z_t 12).toInt ∧ (gI z_t 12).toInt ≤ (gI z_t 1).toInt ∧ (gI z_t 1).toInt ≤ 400) (pL : 0 ≤ (gT z_t 4 t).toInt ∧ (gT z_t 4 t).toInt ≤ (gI z_t 12).toInt) (hm : 0 ≤ (gI z_t 16).toInt ∧ (gI z_t 16).toInt ≤ 60) (hrp : RPI t z_t) (hln : (gT z_t 6 t).toInt ≤ (gI z_t 18).toInt ∧ (gI z_t 18).toInt ≤ 12) : okP (fX9_clauseHere z_t) (CHR t z_t) := by
  unfold fX9_clauseHere
  refine ok_bd2 (t_fX9_see (by omega)) (fun r2 z3 q => ?_)
  have f3 : FrL [12] z_t z3 := q.1
  have n3 : (gI z_t 12).toInt ≤ (gI z3 12).toInt ∧ (gI z3 12).toInt ≤ (gI z_t 1).toInt := q.2.1
  clear q
  have e1 : (gI z3 1).toInt = (gI z_t 1).toInt := congrArg Int32.toInt (f3 1 (by decide)).1
  have e15 : (gI z3 15).toInt = t := (congrArg Int32.toInt (f3 15 (by decide)).1).trans pt.1
  have hc0 := hrp.1
  refine ok_jn ?_
  refine ok_ite (fun c => ?_) (fun c => ?_)
  · have ci := bI_eq rfl (show (6 : Int32).toInt = 6 by decide) c
    omega
  refine ok_jn2 (Q := fun J => ∀ z7, FrL [12] z_t z7 → (gI z_t 12).toInt ≤ (gI z7 12).toInt → (gI z7 12).toInt ≤ (gI z_t 1).toInt → okP (J z7 0) (CHR t z_t) ∧ okP (J z7 1) (CHR t z_t)) ?_ (fun J6 HJ => ?_)
  · intro z7 f7 h12 h1
    have fl : okP (bd2 (fX9_fails z7 0 (gI z3 12)) (fun r51 z52 => gd (r51 = 0 ∨ r51 = 1) (some (r51, z52)))) (CHR t z_t) := by
      refine ok_bd2 (t_fX9_fails (by have : (0 : Int32).toInt = 0 := by decide
                                     omega)) (fun r51 z52 q => ?_)
      have q1 : r51 = 0 ∨ r51 = 1 := q.1
      refine ok_gd q1 ?_
      exact ok_some (chr_fail f7 q.2.1 h12 h1 q.2.2.1 q.2.2.2)
    refine ⟨?_, ?_⟩
    · exact ok_ite (fun _ => fl) (fun c => absurd rfl c)
    refine ok_ite (fun c => absurd c (by decide)) (fun _ => ?_)
    refine ok_jn ?_
    refine ok_ite (fun _ => ?_) (fun c => absurd rfl c)
    have g18 : (gI z7 18).toInt = (gI z_t 18).toInt := congrArg Int32.toInt (f7 18 (by decide)).1
    refine ok_ite (fun c2 => ?_) (fun c2 => ?_)
    · refine ok_bd2 (t_fX9_fails (by have : (4 : Int32).toInt = 4 := by decide
                                     omega)) (fun r51 z52 q => ?_)
      have q1 : r51 = 0 ∨ r51 = 1 := q.1
      refine ok_gd q1 ?_
      exact ok_some (chr_fail f7 q.2.1 h12 h1 q.2.2.1 q.2.2.2)
    have c2i := bI_neq rfl (show (12 : Int32).toInt = 12 by decide) c2
    refine ok_ite (fun _ => ?_) (fun c => absurd rfl c)
    have g1 : (gI z7 1).toInt = (gI z_t 1).toInt := congrArg Int32.toInt (f7 1 (by decide)).1
    have ev : (gI z7 18 + 1).toInt = (gI z7 18).toInt + 1 := i32_add rfl (show (1 : Int32).toInt = 1 by decide) (by omega) (by omega)
    refine ok_bd2 (t_fX9_isWord (z_t := sI z7 18 (gI z7 18 + 1)) (show 0 ≤ (gI z7 12).toInt ∧ (gI z7 12).toInt ≤ (gI z7 1).toInt ∧ (gI z7 1).toInt ≤ 400 by omega)) (fun r36 z37 q => ?_)
    have f37 : FrL [12] (sI z7 18 (gI z7 18 + 1)) z37 := q.2.1
    have n37 : (gI z7 12).toInt ≤ (gI z37 12).toInt ∧ (gI z37 12).toInt ≤ (gI z7 1).toInt := q.2.2.1
    clear q
    have fr37 : FrL [12, 18] z_t z37 := fr_tr (fr_I (fr_tr fr_rf f7 (by decide)) (by decide)) f37 (by decide)
    have h18 : (gI z37 18).toInt = (gI z7 18).toInt + 1 := (congrArg Int32.toInt (f37 18 (by decide)).1).trans ev
    have k1 : (gI z37 1).toInt = (gI z_t 1).toInt := congrArg Int32.toInt (fr37 1 (by decide)).1
    have k16 : (gI z37 16).toInt = (gI z_t 16).toInt := congrArg Int32.toInt (fr37 16 (by decide)).1
    have k15 : (gI z37 15).toInt = t := (congrArg Int32.toInt (fr37 15 (by decide)).1).trans pt.1
    have k3 : gT z37 3 = gT z_t 3 := (fr37 3 (by decide)).2.1
    have k4 : gT z37 4 = gT z_t 4 := (fr37 4 (by decide)).2.1
    have k5 : gT z37 5 = gT z_t 5 := (fr37 5 (by decide)).2.1
    have k6 : gT z37 6 = gT z_t 6 := (fr37 6 (by decide)).2.1
    have dh : ∀ x : Int32, (x = 0 ∨ x = 1) → okP (bd2 (fX9_isDoingHere z37 x) (fun r41 z42 => gd (r41 = 0 ∨ r41 = 1) (some (r41, z42)))) (CHR t z_t) := by
      intro x hx
      refine ok_bd2 (t_fX9_isDoingHere (t := t) ⟨k15, pt.2⟩ (by omega) (by rw [k4]; omega) (by omega) (rpi_eq k3 k4 k5 k6 hrp) (by rw [k6]; omega) hx) (fun r41 z42 q => ?_)
      obtain ⟨a1, a2, a3, a4, a5⟩ := q
      have a1 : FrL [3, 4, 5, 6, 12, 13, 14, 16, 17, 19, 20] z37 z42 := a1
      have a2 : OLD t z37 z42 := a2
      have a3 : (gI z37 12).toInt ≤ (gI z42 12).toInt := a3
      have a4 : (gI z42 12).toInt ≤ (gI z37 1).toInt := a4
      have b18 : (gI z42 18).toInt = (gI z37 18).toInt := congrArg Int32.toInt (a1 18 (by decide)).1
      have fr42 : FrL [3, 4, 5, 6, 12, 13, 14, 16, 17, 18, 19, 20] z_t z42 := fr_tr (fr_tr fr_rf fr37 (by decide)) a1 (by decide)
      have ol : OLD t z_t z42 := old_tr (old_eq k3 k5 k6) a2
      rcases a5 with q | q
      · have q0 : r41 = 0 := q.1
        refine ok_gd (Or.inl q0) ?_
        exact ok_some ⟨fr42, ol, show (gI z_t 12).toInt ≤ (gI z42 12).toInt by omega, show (gI z42 12).toInt ≤ (gI z_t 1).toInt by omega, Or.inl ⟨q0, q.2⟩⟩
      · obtain ⟨q0, q1, q2, q3, q4, q5, q6⟩ := q
        have q0 : r41 = 1 := q0
        have q2 : (gT z42 6 t).toInt = (gT z37 6 t).toInt + 1 := q2
        rw [k6] at q2
        refine ok_gd (Or.inr q0) ?_
        exact ok_some ⟨fr42, ol, show (gI z_t 12).toInt ≤ (gI z42 12).toInt by omega, show (gI z42 12).toInt ≤ (gI z_t 1).toInt by omega, Or.inr ⟨q0, q1, show (gT z42 6 t).toInt ≤ (gI z42 18).toInt by omega, show (gI z42 18).toInt ≤ 12 by omega, q3, q4, q5, q6⟩⟩
    refine ok_jn ?_
    exact ok_ite (fun _ => dh 1 (Or.inr rfl)) (fun _ => dh 0 (Or.inl rfl))
  refine ok_ite (fun _ => ?_) (fun c => absurd rfl c)
  refine ok_bd2 (t_fX9_isWord (by omega)) (fun r56 z57 q => ?_)
  have f57 : FrL [12] z3 z57 := q.2.1
  have n57 : (gI z3 12).toInt ≤ (gI z57 12).toInt ∧ (gI z57 12).toInt ≤ (gI z3 1).toInt := q.2.2.1
  clear q
  have e571 : (gI z57 1).toInt = (gI z3 1).toInt := congrArg Int32.toInt (f57 1 (by decide)).1
  have fr57 : FrL [12] z_t z57 := fr_tr (fr_tr fr_rf f3 (by decide)) f57 (by decide)
  refine ok_jn ?_
  refine ok_ite (fun _ => ?_) (fun _ => (HJ z57 fr57 (by omega) (by omega)).2)
  refine ok_bd2 (t_fX9_isWord (by omega)) (fun r62 z63 q => ?_)
  have f63 : FrL [12] z57 z63 := q.2.1
  have n63 : (gI z57 12).toInt ≤ (gI z63 12).toInt ∧ (gI z63 12).toInt ≤ (gI z57 1).toInt := q.2.2.1
  clear q
  have fr63 : FrL [12] z_t z63 := fr_tr fr57 f63 (by decide)
  exact ok_ite (fun _ => (HJ z63 fr63 (by omega) (by omega)).1) (fun _ => (HJ z63 fr63 (by omega) (by omega)).2)
def RAR (t : Nat) (o : Sx) (y : Int32 × Sx) : Prop := FrL [1, 3, 4, 5, 6, 12, 13, 14, 16, 17, 18, 19, 20] o y.2 ∧ OLD t o y.2 ∧ (gI y.2 1).toInt = 0 ∧ (y.1 = 0 ∨ (y.1 = 1 ∧ RK y.2 t))
theorem rk_rpi {t : Nat} {z : Sx} (t6 : t < 6) (h : RPI t z) (h12 : (gT z 6 t).toInt ≤ 12) : RK z t := by
  refine ⟨t6, h.1, h12, fun c hc => ?_⟩
  have q := h.2 c hc
  exact ⟨fun e => ⟨(q.1 e).1.1, (q.1 e).2.imp id (fun w => w.1)⟩, fun e => (q.2 e).1⟩
theorem rar_end {t : Nat} {o z : Sx} (t6 : t < 6) (hf : FrL [3, 4, 5, 6, 12, 13, 14, 16, 17, 18, 19, 20] o z) (ho : OLD t o z) (hg : (gI z 13).toInt ≠ 0 ∨ RPI t z ∧ (gT z 6 t).toInt ≤ 12) : okP (if (gI z 13) = 0 then some ((1 : Int32), sI z 1 0) else some (0, sI z 1 0)) (RAR t o) := by
  refine ok_ite (fun c => ?_) (fun c => ?_)
  · have ci := bI_eq rfl (show (0 : Int32).toInt = 0 by decide) c
    rcases hg with q | q
    · exact absurd ci q
    · exact ok_some ⟨fr_I (fr_tr fr_rf hf (by decide)) (by decide), ho, show (0 : Int32).toInt = 0 by decide, Or.inr ⟨rfl, rk_I (rk_rpi t6 q.1 q.2)⟩⟩
  · exact ok_some ⟨fr_I (fr_tr fr_rf hf (by decide)) (by decide), ho, show (0 : Int32).toInt = 0 by decide, Or.inl rfl⟩
def GOOD (t : Nat) (z : Sx) : Prop := RPI t z ∧ (gT z 6 t).toInt ≤ (gI z 18).toInt ∧ (gI z 18).toInt ≤ 12 ∧ 0 ≤ (gT z 4 t).toInt ∧ (gT z 4 t).toInt ≤ (gI z 12).toInt ∧ 0 ≤ (gI z 16).toInt ∧ (gI z 16).toInt ≤ 60
set_option maxHeartbeats 2000000 in
theorem tl_readsR {t : Nat} {o : Sx} {k : Sx → Int32 → Option (Int32 × Sx)} (pt : (gI o 15).toInt = t ∧ t < 6) (p1 : (gI o 1).toInt ≤ 400) (hk : ∀ z x, FrL [3, 4, 5, 6, 12, 13, 14, 16, 17, 18, 19, 20] o z → OLD t o z → 0 ≤ (gI z 12).toInt → (gI z 12).toInt ≤ (gI o 1).toInt → (x = 0 ∧ (gI z 13).toInt ≠ 0 ∨ x = 1 ∧ GOOD t z) → okP (k z x) (RAR t o)) : ∀ (n : Nat) (z : Sx) (x : Int32), FrL [3, 4, 5, 6, 12, 13, 14, 16, 17, 18, 19, 20] o z → OLD t o z → 0 ≤ (gI z 12).toInt → (gI z 12).toInt ≤ (gI o 1).toInt → (x = 0 ∧ (gI z 13).toInt ≠ 0 ∨ x = 1 ∧ GOOD t z) → ((gI o 1).toInt - (gI z 12).toInt).toNat < n → okP (lX9_readsAll_35 k n z x) (RAR t o) := by
  intro n
  induction n with
  | zero => intro _ _ _ _ _ _ _ hm; omega
  | succ n ih =>
    intro z x fr ol h0 h1 hx hm
    rw [lX9_readsAll_35]
    refine ok_ite (fun c => hk z x fr ol h0 h1 hx) (fun c => ?_)
    have hg : x = 1 ∧ GOOD t z := hx.resolve_left (fun q => c q.1)
    obtain ⟨hx1, g1, g2, g3, g4, g5, g6, g7⟩ := hg
    have e1 : (gI z 1).toInt = (gI o 1).toInt := congrArg Int32.toInt (fr 1 (by decide)).1
    refine ok_bd2 (t_fX9_see (by omega)) (fun r7 z8 q => ?_)
    have f8 : FrL [12] z z8 := q.1
    have n8 : (gI z 12).toInt ≤ (gI z8 12).toInt ∧ (gI z8 12).toInt ≤ (gI z 1).toInt := q.2.1
    have r8 : r7.toInt = -1 ∨ (0 ≤ r7.toInt ∧ (gI z8 12).toInt < (gI z 1).toInt) := q.2.2.1
    clear q
    have k1 : (gI z8 1).toInt = (gI z 1).toInt := congrArg Int32.toInt (f8 1 (by decide)).1
    have k16 : (gI z8 16).toInt = (gI z 16).toInt := congrArg Int32.toInt (f8 16 (by decide)).1
    have k18 : (gI z8 18).toInt = (gI z 18).toInt := congrArg Int32.toInt (f8 18 (by decide)).1
    have k3 : gT z8 3 = gT z 3 := (f8 3 (by decide)).2.1
    have k4 : gT z8 4 = gT z 4 := (f8 4 (by decide)).2.1
    have k5 : gT z8 5 = gT z 5 := (f8 5 (by decide)).2.1
    have k6 : gT z8 6 = gT z 6 := (f8 6 (by decide)).2.1
    have fr8 : FrL [3, 4, 5, 6, 12, 13, 14, 16, 17, 18, 19, 20] o z8 := fr_tr fr f8 (by decide)
    have ol8 : OLD t o z8 := old_tr ol (old_eq k3 k5 k6)
    have k15 : (gI z8 15).toInt = t := (congrArg Int32.toInt (fr8 15 (by decide)).1).trans pt.1
    have rp8 : RPI t z8 := rpi_eq k3 k4 k5 k6 g1
    refine ok_ite (fun c2 => ?_) (fun c2 => ?_)
    · have c2i := bI_eq rfl (show (59 : Int32).toInt = 59 by decide) c2
      have en : (gI z8 12 + 1).toInt = (gI z8 12).toInt + 1 := i32_add rfl (show (1 : Int32).toInt = 1 by decide) (by omega) (by omega)
      refine ok_bd2 (t_clauseR (t := t) (z_t := sI z8 12 (gI z8 12 + 1)) ⟨k15, pt.2⟩ (show 0 ≤ (gI z8 12 + 1).toInt ∧ (gI z8 12 + 1).toInt ≤ (gI z8 1).toInt ∧ (gI z8 1).toInt ≤ 400 by omega) (show 0 ≤ (gT z8 4 t).toInt ∧ (gT z8 4 t).toInt ≤ (gI z8 12 + 1).toInt by rw [k4]; omega) (show 0 ≤ (gI z8 16).toInt ∧ (gI z8 16).toInt ≤ 60 by omega) (rpi_eq (z := z8) rfl rfl rfl rfl rp8) (show (gT z8 6 t).toInt ≤ (gI z8 18).toInt ∧ (gI z8 18).toInt ≤ 12 by rw [k6]; omega)) (fun r11 z12 q => ?_)
      obtain ⟨a1, a2, a3, a4, a5⟩ := q
      have a1 : FrL [3, 4, 5, 6, 12, 13, 14, 16, 17, 18, 19, 20] (sI z8 12 (gI z8 12 + 1)) z12 := a1
      have a2 : OLD t z8 z12 := a2
      have a3 : (gI z8 12 + 1).toInt ≤ (gI z12 12).toInt := a3
      have a4 : (gI z12 12).toInt ≤ (gI z8 1).toInt := a4
      exact ih z12 r11 (fr_tr (fr_I fr8 (by decide)) a1 (by decide)) (old_tr ol8 a2) (by omega) (by omega) a5 (by omega)
    · refine hk z8 x fr8 ol8 (by omega) (by omega) (Or.inr ⟨hx1, rp8, ?_, ?_, ?_, ?_, ?_, ?_⟩)
      · rw [k6]; omega
      · omega
      · rw [k4]; omega
      · rw [k4]; omega
      · omega
      · omega
set_option maxHeartbeats 2000000 in
theorem t_readsR {z_t : Sx} {t : Nat} (pt : (gI z_t 15).toInt = t ∧ t < 6) (p1 : 0 ≤ (gI z_t 1).toInt ∧ (gI z_t 1).toInt ≤ 400) (h6 : (gT z_t 6 t).toInt = 0) : okP (fX9_readsAll z_t) (RAR t z_t) := by
  unfold fX9_readsAll
  have z0 : (0 : Int32).toInt = 0 := by decide
  have e15n : (gI z_t 15).toNatClampNeg = t := n_cl pt.1
  refine ok_gd (inb_of (by omega) (by omega)) ?_
  simp only [e15n]
  obtain ⟨zi, hzi⟩ : ∃ zi, zi = sI (sI (sI (sI (sT z_t 4 t 0) 18 0) 12 0) 13 0) 16 0 := ⟨_, rfl⟩
  have l0 : gT zi 4 t = 0 := by rw [hzi]; exact (show upd (gT z_t 4) t 0 t = 0 from if_pos rfl)
  have i6 : gT zi 6 = gT z_t 6 := by rw [hzi]; rfl
  have i12 : (gI zi 12).toInt = 0 := by rw [hzi]; exact z0
  have i16 : (gI zi 16).toInt = 0 := by rw [hzi]; exact z0
  have i18 : (gI zi 18).toInt = 0 := by rw [hzi]; exact z0
  have i1 : (gI zi 1).toInt = (gI z_t 1).toInt := by rw [hzi]; rfl
  have i15 : (gI zi 15).toInt = t := by rw [hzi]; exact pt.1
  have fri : FrL [3, 4, 5, 6, 12, 13, 14, 16, 17, 18, 19, 20] z_t zi := by rw [hzi]; exact fr_I (fr_I (fr_I (fr_I (fr_T fr_rf (by decide)) (by decide)) (by decide)) (by decide)) (by decide)
  have oli : OLD t z_t zi := by rw [hzi]; exact old_rf
  have l0i : (gT zi 4 t).toInt = 0 := by rw [l0]; exact z0
  rw [← hzi]
  have rpi : RPI t zi := ⟨by rw [i6]; omega, fun c hc => by rw [i6] at hc; omega⟩
  refine ok_bd2 (t_clauseR (t := t) ⟨i15, pt.2⟩ (by omega) (by omega) (by omega) rpi (by rw [i6]; omega)) (fun r3 z4 q => ?_)
  obtain ⟨a1, a2, a3, a4, a5⟩ := q
  have a1 : FrL [3, 4, 5, 6, 12, 13, 14, 16, 17, 18, 19, 20] zi z4 := a1
  have a2 : OLD t zi z4 := a2
  have a3 : (gI zi 12).toInt ≤ (gI z4 12).toInt := a3
  have a4 : (gI z4 12).toInt ≤ (gI zi 1).toInt := a4
  refine tl_readsR (o := z_t) pt p1.2 (fun z13 i14 fr ol h0 h1 hx => ?_) FU z4 r3 (fr_tr fri a1 (by decide)) (old_tr oli a2) (by omega) (by omega) a5 (FU_lt (by omega))
  have e1 : (gI z13 1).toInt = (gI z_t 1).toInt := congrArg Int32.toInt (fr 1 (by decide)).1
  refine ok_jn2 (Q := fun J => ∀ z16 i17, FrL [3, 4, 5, 6, 12, 13, 14, 16, 17, 18, 19, 20] z_t z16 → OLD t z_t z16 → ((gI z16 13).toInt ≠ 0 ∨ RPI t z16 ∧ (gT z16 6 t).toInt ≤ 12) → okP (J z16 i17) (RAR t z_t)) ?_ (fun J15 HJ => ?_)
  · intro z16 i17 f16 o16 hg
    refine ok_jn ?_
    refine ok_ite (fun _ => rar_end pt.2 f16 o16 hg) (fun _ => ?_)
    refine ok_ite (fun c => ?_) (fun _ => rar_end pt.2 f16 o16 hg)
    have ci := bI_eq rfl (show (6 : Int32).toInt = 6 by decide) c
    have k15 : (gI z16 15).toInt = t := (congrArg Int32.toInt (f16 15 (by decide)).1).trans pt.1
    omega
  · refine ok_ite (fun c => ?_) (fun c => ?_)
    · refine HJ z13 i14 fr ol (Or.inl ?_)
      rcases hx with q | q
      · exact q.2
      · rw [q.1] at c; exact absurd c (by decide)
    · have hg : i14 = 1 ∧ GOOD t z13 := hx.resolve_left (fun q => c q.1)
      obtain ⟨hx1, g1, g2, g3, g4, g5, g6, g7⟩ := hg
      refine ok_bd2 (t_fX9_see (by omega)) (fun r29 z30 q => ?_)
      have f30 : FrL [12] z13 z30 := q.1
      have n30 : (gI z13 12).toInt ≤ (gI z30 12).toInt ∧ (gI z30 12).toInt ≤ (gI z13 1).toInt := q.2.1
      clear q
      have k3 : gT z30 3 = gT z13 3 := (f30 3 (by decide)).2.1
      have k4 : gT z30 4 = gT z13 4 := (f30 4 (by decide)).2.1
      have k5 : gT z30 5 = gT z13 5 := (f30 5 (by decide)).2.1
      have k6 : gT z30 6 = gT z13 6 := (f30 6 (by decide)).2.1
      refine ok_ite (fun c2 => ?_) (fun c2 => ?_)
      · exact HJ z30 i14 (fr_tr fr f30 (by decide)) (old_tr ol (old_eq k3 k5 k6)) (Or.inr ⟨rpi_eq k3 k4 k5 k6 g1, by rw [k6]; omega⟩)
      · refine ok_bd2 (t_fX9_fails (by omega)) (fun r33 z34 q => ?_)
        have q2 : FrL [13] z30 z34 := q.2.1
        have q4 : (gI z34 13).toInt ≠ 0 := q.2.2.2
        exact HJ z34 r33 (fr_tr (fr_tr fr f30 (by decide)) q2 (by decide)) (old_tr (old_tr ol (old_eq k3 k5 k6)) (old_eq (q2 3 (by decide)).2.1 (q2 5 (by decide)).2.1 (q2 6 (by decide)).2.1)) (Or.inl q4)
/-- what holds of the reference between calls -/
def RI (z : Sx) : Prop := (0 ≤ (gI z 1).toInt ∧ (gI z 1).toInt ≤ 400) ∧ SOK (gT z 24) ∧ RU z ∧ IMG z
theorem img_fr {L : List Nat} {z z' : Sx} (hf : FrL L z z') (h34 : L.contains 34 = false) (h35 : L.contains 35 = false) (h : IMG z) : IMG z' := by
  unfold IMG; rw [(hf 34 h34).2.1, (hf 35 h35).2.1]; exact h
set_option maxHeartbeats 1000000 in
theorem t_fX9_rule {z_t : Sx} (h : RI z_t) : okP (fX9_rule z_t) (fun y => RI y.2) := by
  unfold fX9_rule
  obtain ⟨h1, h2, ⟨h3, h4, h5⟩, h6⟩ := id h
  refine ok_ite (fun c => ok_some h) (fun c => ?_)
  have ci := bI_neq rfl (show (6 : Int32).toInt = 6 by decide) c
  refine ok_gd (inb_of (by omega) (by omega)) ?_
  obtain ⟨t, ht⟩ : ∃ t : Nat, (gI z_t 2).toInt = t := ⟨(gI z_t 2).toInt.toNat, by omega⟩
  have htn : (gI z_t 2).toNatClampNeg = t := n_cl ht
  simp only [htn]
  refine ok_bd2 (t_readsR (t := t) (z_t := sT (sI z_t 15 (gI z_t 2)) 6 t 0) ⟨ht, by omega⟩ h1 (by
    have e : gT (sT (sI z_t 15 (gI z_t 2)) 6 t 0) 6 t = 0 := if_pos rfl
    rw [e]; decide)) (fun r4 z5 q => ?_)
  obtain ⟨a1, a2, a3, a4⟩ := q
  have a1 : FrL [1, 3, 4, 5, 6, 12, 13, 14, 16, 17, 18, 19, 20] (sT (sI z_t 15 (gI z_t 2)) 6 t 0) z5 := a1
  have a2 : OLD t (sT (sI z_t 15 (gI z_t 2)) 6 t 0) z5 := a2
  have fr5 : FrL [1, 3, 4, 5, 6, 12, 13, 14, 15, 16, 17, 18, 19, 20] z_t z5 := fr_tr (fr_T (fr_I fr_rf (by decide)) (by decide)) a1 (by decide)
  have e2 : (gI z5 2).toInt = t := (congrArg Int32.toInt (fr5 2 (by decide)).1).trans ht
  have a3 : (gI z5 1).toInt = 0 := a3
  have old : ∀ t' : Nat, t' < t → RK z5 t' := fun t' ht' => by
    refine rk_old a2 ht' ?_
    refine rk_old (z := z_t) (t := t) ⟨fun i _ => rfl, fun i _ => rfl, fun i hi => ?_⟩ ht' (h5 t' (by omega))
    exact (show upd (gT z_t 6) t 0 i = gT z_t 6 i from if_neg (by omega))
  have s5 : SOK (gT z5 24) := so_fr fr5 (by decide) h2
  have m5 : IMG z5 := img_fr fr5 (by decide) (by decide) h6
  refine ok_ite (fun c2 => ?_) (fun c2 => ?_)
  · have ru : RU z5 := ⟨by omega, by omega, fun t' ht' => old t' (by omega)⟩
    exact ok_some ⟨show 0 ≤ (gI z5 1).toInt ∧ (gI z5 1).toInt ≤ 400 by omega, s5, ru, m5⟩
  · have hk : RK z5 t := by
      rcases a4 with q | q
      · exact absurd q c2
      · exact q.2
    have ev : (gI z5 2 + 1).toInt = (gI z5 2).toInt + 1 := i32_add rfl (show (1 : Int32).toInt = 1 by decide) (by omega) (by omega)
    refine ok_some ⟨show 0 ≤ (gI z5 1).toInt ∧ (gI z5 1).toInt ≤ 400 by omega, s5, ⟨show 0 ≤ (gI z5 2 + 1).toInt by omega, show (gI z5 2 + 1).toInt ≤ 6 by omega, fun t' ht' => ?_⟩, m5⟩
    have ht2 : (t' : Int) < (gI z5 2 + 1).toInt := ht'
    by_cases e : t' = t
    · subst e; exact hk
    · exact old t' (by omega)

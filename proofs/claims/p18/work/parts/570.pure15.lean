set_option maxHeartbeats 1000000 in
theorem t_fX9_triesAs {z_t : Sx} {x1 x2 : Int32} (pd : 0 ≤ x1.toInt ∧ x1.toInt ≤ 5) (pt : 0 ≤ (gT z_t 26 x1.toNatClampNeg).toInt ∧ (gT z_t 26 x1.toNatClampNeg).toInt < (gT z_t 24 0).toInt) (px : x2 = 0 ∨ x2 = 1) (hS : SOK (gT z_t 24)) : okP (fX9_triesAs z_t x1 x2) (fun y => (FrL [24, 27] z_t y) ∧ (SOK (gT y 24)) ∧ (KC z_t y) ∧ (∀ k : Nat, k ≠ x1.toNatClampNeg → gT y 27 k = gT z_t 27 k) ∧ (gT y 27 x1.toNatClampNeg = x2)) := by
  unfold fX9_triesAs
  rw [nar01 px]
  have hn := hS.1
  refine ok_gd (inb_of (by omega) (by omega)) ?_
  refine ok_bd (t_fX9_faultOf (by omega) (by decide)) (fun r3 _ => ?_)
  refine ok_nm2 (fun v4 _ => ?_)
  obtain ⟨f, hf⟩ : ∃ f : Nat, (gT z_t 26 x1.toNatClampNeg).toInt = f := ⟨(gT z_t 26 x1.toNatClampNeg).toInt.toNat, by omega⟩
  have e6 : (6 * gT z_t 26 x1.toNatClampNeg).toInt = 6 * (f : Int) := by rw [i32_mul (show (6 : Int32).toInt = 6 by decide) hf (by omega) (by omega)]
  have e44 : (44 + 6 * gT z_t 26 x1.toNatClampNeg).toInt = 44 + 6 * (f : Int) := i32_add (show (44 : Int32).toInt = 44 by decide) e6 (by omega) (by omega)
  have e4 : ((44 + 6 * gT z_t 26 x1.toNatClampNeg) + 4).toInt = 44 + 6 * (f : Int) + 4 := i32_add e44 (show (4 : Int32).toInt = 4 by decide) (by omega) (by omega)
  have n4 : ((44 + 6 * gT z_t 26 x1.toNatClampNeg) + 4).toNatClampNeg = 44 + 6 * f + 4 := n_cl (by rw [e4]; omega)
  have fin : ∀ v : Int32, okP (gd (inb ((44 + 6 * gT z_t 26 x1.toNatClampNeg) + 4) 104) (some (sT (sT (sT z_t 27 x1.toNatClampNeg x2) 24 3 v4) 24 (((44 + 6 * gT z_t 26 x1.toNatClampNeg) + 4).toNatClampNeg) v))) (fun y => (FrL [24, 27] z_t y) ∧ (SOK (gT y 24)) ∧ (KC z_t y) ∧ (∀ k : Nat, k ≠ x1.toNatClampNeg → gT y 27 k = gT z_t 27 k) ∧ (gT y 27 x1.toNatClampNeg = x2)) := by
    intro v
    refine ok_gd (inb_of (by omega) (by omega)) ?_
    rw [n4]
    exact ok_some ⟨fr_T (fr_T (fr_T fr_rf (by decide)) (by decide)) (by decide), so_T (so_T (so_Tn hS (by decide)) (by unfold freeix; omega)) (by unfold freeix; omega), kc_T (kc_T (kc_Tn kc_rf (by decide)) (by omega) (by omega)) (by omega) (by omega), fun k hk => if_neg hk, if_pos rfl⟩
  refine ok_jn ?_
  exact ok_ite (fun _ => fin 0) (fun _ => fin 1)
set_option maxHeartbeats 1000000 in
theorem tl_triesNext {o : Sx} {x1 : Int32} {k : Sx → Option (Int32 × Sx)} {P : Int32 × Sx → Prop} (pd : 0 ≤ x1.toInt ∧ x1.toInt ≤ 5) (hS : SOK (gT o 24)) (hk : ∀ z, FrL [26] o z → (∀ j : Nat, j ≠ x1.toNatClampNeg → gT z 26 j = gT o 26 j) → 0 ≤ (gT z 26 x1.toNatClampNeg).toInt → (gT z 26 x1.toNatClampNeg).toInt ≤ (gT o 24 0).toInt → (gT o 26 x1.toNatClampNeg).toInt + 1 ≤ (gT z 26 x1.toNatClampNeg).toInt → okP (k z) P) : ∀ (n : Nat) (z : Sx), FrL [26] o z → (∀ j : Nat, j ≠ x1.toNatClampNeg → gT z 26 j = gT o 26 j) → 0 ≤ (gT z 26 x1.toNatClampNeg).toInt → (gT z 26 x1.toNatClampNeg).toInt ≤ (gT o 24 0).toInt → (gT o 26 x1.toNatClampNeg).toInt + 1 ≤ (gT z 26 x1.toNatClampNeg).toInt → ((gT o 24 0).toInt - (gT z 26 x1.toNatClampNeg).toInt).toNat < n → okP (lX9_triesNext_10 k x1 n z) P := by
  intro n
  induction n with
  | zero => intro _ _ _ _ _ _ hm; omega
  | succ n ih =>
    intro z fr hj h0 h1 h2 hm
    have hn := hS.1
    have e24 : gT z 24 = gT o 24 := (fr 24 (by decide)).2.1
    rw [lX9_triesNext_10]
    refine ok_gd (inb_of (by omega) (by omega)) ?_
    rw [e24]
    refine ok_ite (fun c => hk z fr hj h0 h1 h2) (fun c => ?_)
    have ci := bI_nle rfl rfl c
    refine ok_bd (t_fX9_canLook (by rw [e24]; omega) (by rw [e24]; exact hS)) (fun r5 _ => ?_)
    refine ok_ite (fun c2 => ?_) (fun c2 => hk z fr hj h0 h1 h2)
    have ev : (gT z 26 x1.toNatClampNeg + 1).toInt = (gT z 26 x1.toNatClampNeg).toInt + 1 := i32_add rfl (show (1 : Int32).toInt = 1 by decide) (by omega) (by omega)
    have up : gT (sT z 26 x1.toNatClampNeg (gT z 26 x1.toNatClampNeg + 1)) 26 x1.toNatClampNeg = gT z 26 x1.toNatClampNeg + 1 := if_pos rfl
    have un : ∀ j, j ≠ x1.toNatClampNeg → gT (sT z 26 x1.toNatClampNeg (gT z 26 x1.toNatClampNeg + 1)) 26 j = gT z 26 j := fun j h => if_neg h
    refine ih _ (fr_T fr (by decide)) (fun j h => (un j h).trans (hj j h)) ?_ ?_ ?_ ?_ <;> rw [up] <;> omega
theorem t_fX9_triesNext {z_t : Sx} {x1 : Int32} (pd : 0 ≤ x1.toInt ∧ x1.toInt ≤ 5) (pt : -1 ≤ (gT z_t 26 x1.toNatClampNeg).toInt ∧ (gT z_t 26 x1.toNatClampNeg).toInt < (gT z_t 24 0).toInt) (hS : SOK (gT z_t 24)) : okP (fX9_triesNext z_t x1) (fun y => (y.1 = 0 ∨ y.1 = 1) ∧ (FrL [26] z_t y.2) ∧ (∀ k : Nat, k ≠ x1.toNatClampNeg → gT y.2 26 k = gT z_t 26 k) ∧ ((gT z_t 26 x1.toNatClampNeg).toInt + 1 ≤ (gT y.2 26 x1.toNatClampNeg).toInt ∧ (gT y.2 26 x1.toNatClampNeg).toInt ≤ (gT z_t 24 0).toInt) ∧ (y.1.toInt = 1 → (gT y.2 26 x1.toNatClampNeg).toInt < (gT z_t 24 0).toInt)) := by
  unfold fX9_triesNext
  have hn := hS.1
  refine ok_gd (inb_of (by omega) (by omega)) ?_
  have ev : (gT z_t 26 x1.toNatClampNeg + 1).toInt = (gT z_t 26 x1.toNatClampNeg).toInt + 1 := i32_add rfl (show (1 : Int32).toInt = 1 by decide) (by omega) (by omega)
  have up : gT (sT z_t 26 x1.toNatClampNeg (gT z_t 26 x1.toNatClampNeg + 1)) 26 x1.toNatClampNeg = gT z_t 26 x1.toNatClampNeg + 1 := if_pos rfl
  have un : ∀ j, j ≠ x1.toNatClampNeg → gT (sT z_t 26 x1.toNatClampNeg (gT z_t 26 x1.toNatClampNeg + 1)) 26 j = gT z_t 26 j := fun j h => if_neg h
  refine tl_triesNext (o := z_t) pd hS (fun z fr hj h0 h1 h2 => ?_) FU _ (fr_T fr_rf (by decide)) un (by rw [up]; omega) (by rw [up]; omega) (by rw [up]; omega) (FU_lt (by rw [up]; omega))
  have e24 : gT z 24 = gT z_t 24 := (fr 24 (by decide)).2.1
  rw [e24]
  refine ok_ite (fun c => ?_) (fun c => ?_)
  · exact ok_some ⟨Or.inl rfl, fr, hj, ⟨h2, h1⟩, show (0 : Int32).toInt = 1 → _ from fun q => absurd q (by decide)⟩
  · have ci := bI_nle rfl rfl c
    exact ok_some ⟨Or.inr rfl, fr, hj, ⟨h2, h1⟩, fun _ => show (gT z 26 x1.toNatClampNeg).toInt < (gT z_t 24 0).toInt by omega⟩
set_option maxHeartbeats 1000000 in
theorem t_fX9_takes {z_t : Sx} {x1 x2 : Int32} {x3 x5 : Int64} (pd : 0 ≤ x1.toInt ∧ x1.toInt < x2.toInt ∧ x2.toInt ≤ 5) (pt : 0 ≤ (gT z_t 26 x1.toNatClampNeg).toInt ∧ (gT z_t 26 x1.toNatClampNeg).toInt < (gT z_t 24 0).toInt) (hS : SOK (gT z_t 24)) : okP (fX9_takes z_t x1 x2 x3 x5) (fun y => (FrL [24, 27, 28, 29, 30, 31, 32] z_t y) ∧ (SOK (gT y 24)) ∧ (KC z_t y) ∧ (∀ k : Nat, k ≠ x1.toNatClampNeg → gT y 27 k = gT z_t 27 k) ∧ (gT y 27 x1.toNatClampNeg = 0)) := by
  unfold fX9_takes
  have hn := hS.1
  refine ok_gd (inb_of (by omega) (by omega)) ?_
  refine ok_ite (fun c => ?_) (fun c => ?_)
  · refine ok_bd (t_fX9_faultOf (by omega) (by decide)) (fun r4 _ => ?_)
    refine ok_nm ?_
    refine ok_ite (fun _ => ?_) (fun _ => ?_)
    · refine ok_nm ?_
      exact ok_some ⟨fr_T (fr_J (fr_J (fr_T fr_rf (by decide)) (by decide)) (by decide)) (by decide), so_Tn (so_J (so_J (so_T hS (by unfold freeix; omega)))) (by decide), kc_Tn (kc_J (kc_J (kc_T kc_rf (by omega) (by omega)))) (by decide), fun k _ => rfl, c⟩
    · exact ok_some ⟨fr_T fr_rf (by decide), so_T hS (by unfold freeix; omega), kc_T kc_rf (by omega) (by omega), fun k _ => rfl, c⟩
  · refine ok_bd (t_fX9_kindOf pt (by decide) hS) (fun r9 _ => ?_)
    have e1 : (x2 - x1).toInt = x2.toInt - x1.toInt := i32_sub rfl rfl (by omega) (by omega)
    have e2 : ((x2 - x1) - 1).toInt = x2.toInt - x1.toInt - 1 := i32_sub e1 (show (1 : Int32).toInt = 1 by decide) (by omega) (by omega)
    refine ok_bd (t_fX9_hundreds (by omega)) (fun r11 _ => ?_)
    refine ok_bd (t_fX9_triesAs (z_t := sJ (sJ z_t 28 x1.toNatClampNeg (r9.toInt64 * r11 + x3)) 29 x1.toNatClampNeg x5) (x2 := 0) ⟨pd.1, by omega⟩ pt (Or.inl rfl) (so_J (so_J hS))) (fun z13 q => ?_)
    obtain ⟨q1, q2, q3, q4, q5⟩ := q
    exact ok_some ⟨fr_tr (fr_J (fr_J fr_rf (by decide)) (by decide)) q1 (by decide), q2, kc_tr (kc_J (kc_J kc_rf)) q3, q4, q5⟩
/-- progress through the tries -/
def dgz (z : Sx) (s0 : Int) (k : Nat) : Nat := (2 * (s0 - (gT z 26 k).toInt) - (if gT z 27 k = 0 then 1 else 0)).toNat
def dgs (z : Sx) (s0 : Int) : Nat → Nat
  | 0 => 0
  | k + 1 => dgs z s0 k + dgz z s0 k * 32 ^ (5 - k)
theorem dgs_eq {z z' : Sx} {s0 : Int} : ∀ d : Nat, (∀ k, k < d → gT z' 26 k = gT z 26 k) → (∀ k, k < d → gT z' 27 k = gT z 27 k) → dgs z' s0 d = dgs z s0 d := by
  intro d
  induction d with
  | zero => intro _ _; rfl
  | succ d ih =>
    intro h1 h2
    show dgs z' s0 d + dgz z' s0 d * 32 ^ (5 - d) = dgs z s0 d + dgz z s0 d * 32 ^ (5 - d)
    have e : dgz z' s0 d = dgz z s0 d := by unfold dgz; rw [h1 d (by omega), h2 d (by omega)]
    rw [ih (fun k hk => h1 k (by omega)) (fun k hk => h2 k (by omega)), e]
def hdz (z : Sx) (s0 : Int) (d : Nat) : Nat := (2 * (s0 - 1 - (gT z 26 d).toInt) + 1).toNat
def GM (z : Sx) (s0 : Int) (d : Nat) : Nat := dgs z s0 d + hdz z s0 d * 32 ^ (5 - d)
theorem pw (d : Nat) (h : d < 5) : 32 ^ (5 - d) = 32 * 32 ^ (5 - (d + 1)) := by
  have e : 5 - d = (5 - (d + 1)) + 1 := by omega
  rw [e, Nat.pow_succ, Nat.mul_comm]
theorem pw1 (d : Nat) : 1 ≤ 32 ^ (5 - d) := Nat.le_trans Nat.one_le_two_pow (Nat.pow_le_pow_left (show 2 ≤ 32 by decide) (5 - d))
/-- a try begins: one level deeper -/
theorem gm_in {S dg hd hd' w w' : Nat} (hw : w = 32 * w') (h1 : 1 ≤ w') (hdg : dg + 1 ≤ hd) (h21 : hd' ≤ 21) : S + dg * w + hd' * w' < S + hd * w := by
  have a : (dg + 1) * w ≤ hd * w := Nat.mul_le_mul_right _ hdg
  have b : hd' * w' ≤ 21 * w' := Nat.mul_le_mul_right _ h21
  have c : (dg + 1) * w = dg * w + w := Nat.succ_mul dg w
  omega
/-- a try comes back and goes on as not found -/
theorem gm_nf {S dg dg' hd hd' w w' : Nat} (hw : w = 32 * w') (h1 : 1 ≤ w') (hdg : dg' + 1 = dg) (h21 : hd' ≤ 21) : S + dg' * w + hd' * w' < S + dg * w + hd * w' := by
  have b : hd' * w' ≤ 21 * w' := Nat.mul_le_mul_right _ h21
  have c : dg * w = dg' * w + w := by rw [← hdg]; exact Nat.succ_mul dg' w
  omega
theorem gm_out {S dg hd w w' : Nat} (h1 : 1 ≤ w') (hhd : 1 ≤ hd) : S + dg * w < S + dg * w + hd * w' := by
  have b : 1 * w' ≤ hd * w' := Nat.mul_le_mul_right _ hhd
  omega

set_option maxHeartbeats 200000 in
theorem tl_goes {o : Sx} {x1 : Int32} {s0 : Int} {n : Nat} (hx : x1.toInt = n) (hn5 : n ≤ 5) (hs0 : (gT o 24 0).toInt = s0) (h10 : 0 ≤ s0 ∧ s0 ≤ 10) : ∀ (m : Nat) (z : Sx) (x2 : Int32) (d : Nat), x2.toInt = d → d ≤ n → FrL [24, 26, 27, 28, 29, 30, 31, 32, 33] o z → SOK (gT z 24) → KC o z → (∀ k : Nat, k < d → 0 ≤ (gT z 26 k).toInt ∧ (gT z 26 k).toInt < s0) → (-1 ≤ (gT z 26 d).toInt ∧ (gT z 26 d).toInt < s0) → GM z s0 d < m → okP (lX9_goesThrough_10 x1 m z x2 1) (fun y => FrL [24, 26, 27, 28, 29, 30, 31, 32, 33] o y ∧ SOK (gT y 24) ∧ KC o y) := by
  intro m
  induction m with
  | zero => intro _ _ _ _ _ _ _ _ _ _ hm; omega
  | succ m ih =>
    intro z x2 d hd hdn fr so kc hlv htd hm
    have hdc : x2.toNatClampNeg = d := n_cl hd
    have kz : (gT z 24 0).toInt = s0 := kc.1.trans hs0
    rw [lX9_goesThrough_10]
    refine ok_ite (fun c => ?_) (fun _ => ?_)
    · have ci := bI_lt rfl (show (0 : Int32).toInt = 0 by decide) c
      omega
    refine ok_jn2 (Q := fun J => ∀ z5 : Sx, FrL [24, 26, 27, 28, 29, 30, 31, 32, 33] o z5 → SOK (gT z5 24) → KC o z5 → (∀ k : Nat, k < d → gT z5 26 k = gT z 26 k) → (∀ k : Nat, k < d → gT z5 27 k = gT z 27 k) → okP (J z5) (fun y => FrL [24, 26, 27, 28, 29, 30, 31, 32, 33] o y ∧ SOK (gT y 24) ∧ KC o y)) ?_ (fun J4 HJ => ?_)
    · intro z5 fr5 so5 kc5 s26 s27
      have kz5 : (gT z5 24 0).toInt = s0 := kc5.1.trans hs0
      refine ok_gd (inb_of (by omega) (by omega)) ?_
      have em0 : (x2 + (-1)).toInt = (d : Int) + (-1) := i32_add hd (show (-1 : Int32).toInt = -1 by decide) (by omega) (by omega)
      generalize x2 + (-1) = y at em0 ⊢
      have em := em0
      clear em0
      refine ok_ite (fun c => ?_) (fun c => ok_some ⟨fr5, so5, kc5⟩)
      have ci := bI_le (show (0 : Int32).toInt = 0 by decide) em c
      obtain ⟨d', rfl⟩ : ∃ d' : Nat, d = d' + 1 := ⟨d - 1, by omega⟩
      have em2 : y.toInt = d' := by omega
      have emn : y.toNatClampNeg = d' := n_cl em2
      refine ok_gd (inb_of (by omega) (by omega)) ?_
      have hl' := hlv d' (by omega)
      have t5 : gT z5 26 d' = gT z 26 d' := s26 d' (by omega)
      have i5 : gT z5 27 d' = gT z 27 d' := s27 d' (by omega)
      refine ok_bd (t_fX9_takes ⟨by omega, by omega, by omega⟩ (by rw [emn, t5, kz5]; exact hl') so5) (fun z10 q => ?_)
      obtain ⟨q1, q2, q3, q4, q5⟩ := q
      rw [emn] at q4 q5
      have r26 : gT z10 26 = gT z5 26 := (q1 26 (by decide)).2.1
      have fr10 : FrL [24, 26, 27, 28, 29, 30, 31, 32, 33] o z10 := fr_tr fr5 q1 (by decide)
      have kc10 : KC o z10 := kc_tr kc5 q3
      have lv10 : ∀ k : Nat, k < d' + 1 → gT z10 26 k = gT z 26 k := fun k hk => by rw [r26]; exact s26 k hk
      have fd10 : ∀ k : Nat, k < d' → gT z10 27 k = gT z 27 k := fun k hk => (q4 k (by omega)).trans (s27 k (by omega))
      have eS : dgs z10 s0 d' = dgs z s0 d' := dgs_eq d' (fun k hk => lv10 k (by omega)) fd10
      have hm2 : dgs z s0 d' + dgz z s0 d' * 32 ^ (5 - d') + hdz z s0 (d' + 1) * 32 ^ (5 - (d' + 1)) < m + 1 := hm
      have hw := pw d' (by omega)
      have h1w := pw1 (d' + 1)
      simp only [emn]
      refine ok_jn ?_
      refine ok_ite (fun c2 => ?_) (fun c2 => ?_)
      · refine ok_ite (fun c3 => absurd c3 (by decide)) (fun _ => ?_)
        rw [i5] at c2
        have eh : hdz z10 s0 d' = dgz z s0 d' := by
          unfold hdz dgz
          rw [lv10 d' (by omega), if_pos c2]; omega
        have hhd : 1 ≤ hdz z s0 (d' + 1) := by unfold hdz; omega
        have hlt := gm_out (S := dgs z s0 d') (dg := dgz z s0 d') (hd := hdz z s0 (d' + 1)) (w := 32 ^ (5 - d')) h1w hhd
        refine ih z10 y d' em2 (by omega) fr10 q2 kc10 (fun k hk => by rw [lv10 k (by omega)]; exact hlv k (by omega)) (by rw [lv10 d' (by omega)]; omega) ?_
        show dgs z10 s0 d' + hdz z10 s0 d' * 32 ^ (5 - d') < m
        rw [eS, eh]; omega
      · refine ok_ite (fun _ => ?_) (fun c3 => absurd rfl c3)
        rw [i5] at c2
        have ep0 : (y + 1).toInt = (d' : Int) + 1 := i32_add em2 (show (1 : Int32).toInt = 1 by decide) (by omega) (by omega)
        generalize y + 1 = y1 at ep0 ⊢
        have ep : y1.toInt = ((d' + 1 : Nat) : Int) := by omega
        have epn : y1.toNatClampNeg = d' + 1 := n_cl ep
        refine ok_bd (t_fX9_comesTo (by omega) (by omega) q2) (fun z15 q => ?_)
        obtain ⟨p1, p2, p3⟩ := q
        rw [epn] at p2 p3
        have p24 : gT z15 24 = gT z10 24 := (p1 24 (by decide)).2.1
        have p27 : gT z15 27 = gT z10 27 := (p1 27 (by decide)).2.1
        have lv15 : ∀ k : Nat, k < d' + 1 → gT z15 26 k = gT z 26 k := fun k hk => (p2 k (by omega)).trans (lv10 k hk)
        have eS2 : dgs z15 s0 d' = dgs z s0 d' := dgs_eq d' (fun k hk => lv15 k (by omega)) (fun k hk => by rw [p27]; exact fd10 k hk)
        have edg : dgz z15 s0 d' + 1 = dgz z s0 d' := by
          unfold dgz
          rw [lv15 d' (by omega), p27, q5, if_pos rfl, if_neg c2]; omega
        have eneg : (-1 : Int32).toInt = -1 := by decide
        have h21 : hdz z15 s0 (d' + 1) ≤ 21 := by unfold hdz; rw [p3, eneg]; omega
        have hlt := gm_nf (S := dgs z s0 d') (hd := hdz z s0 (d' + 1)) hw h1w edg h21
        refine ih z15 y1 (d' + 1) ep hdn (fr_tr fr10 p1 (by decide)) (by rw [p24]; exact q2) (kc_fr kc10 p1 (by decide)) (fun k hk => by rw [lv15 k hk]; exact hlv k hk) (by rw [p3, eneg]; omega) ?_
        show dgs z15 s0 d' + dgz z15 s0 d' * 32 ^ (5 - d') + hdz z15 s0 (d' + 1) * 32 ^ (5 - (d' + 1)) < m
        rw [eS2]; omega
    refine ok_ite (fun c => HJ z fr so kc (fun _ _ => rfl) (fun _ _ => rfl)) (fun c => ?_)
    have cne : d ≠ n := fun e => c (Int32.toInt.inj (by omega))
    refine ok_jn ?_
    refine ok_ite (fun c3 => absurd c3 (by decide)) (fun _ => ?_)
    refine ok_bd2 (t_fX9_triesNext (by omega) (by rw [hdc, kz]; exact htd) so) (fun r26 z27 q => ?_)
    obtain ⟨q1, q2, q3, q4, q5⟩ := q
    have q1 : r26 = 0 ∨ r26 = 1 := q1
    have q2 : FrL [26] z z27 := q2
    rw [hdc] at q3 q4 q5
    rw [kz] at q4 q5
    have q3 : ∀ k : Nat, k ≠ d → gT z27 26 k = gT z 26 k := q3
    have q4 : (gT z 26 d).toInt + 1 ≤ (gT z27 26 d).toInt ∧ (gT z27 26 d).toInt ≤ s0 := q4
    have q5 : r26.toInt = 1 → (gT z27 26 d).toInt < s0 := q5
    have b27 : gT z27 27 = gT z 27 := (q2 27 (by decide)).2.1
    have b24 : gT z27 24 = gT z 24 := (q2 24 (by decide)).2.1
    have fr27 : FrL [24, 26, 27, 28, 29, 30, 31, 32, 33] o z27 := fr_tr fr q2 (by decide)
    have kc27 : KC o z27 := kc_fr kc q2 (by decide)
    have so27 : SOK (gT z27 24) := by rw [b24]; exact so
    refine ok_ite (fun c4 => HJ z27 fr27 so27 kc27 (fun k hk => q3 k (by omega)) (fun k _ => by rw [b27])) (fun c4 => ?_)
    have hone : r26.toInt = 1 := by
      rcases q1 with e | e
      · exact absurd e c4
      · rw [e]; decide
    have q6 := q5 hone
    refine ok_bd (t_fX9_triesAs (by omega) (by rw [hdc, b24, kz]; omega) (Or.inr rfl) so27) (fun z21 q => ?_)
    obtain ⟨p1, p2, p3, p4, p5⟩ := q
    rw [hdc] at p4 p5
    have a26 : gT z21 26 = gT z27 26 := (p1 26 (by decide)).2.1
    have ep0 : (x2 + 1).toInt = (d : Int) + 1 := i32_add hd (show (1 : Int32).toInt = 1 by decide) (by omega) (by omega)
    generalize x2 + 1 = y1 at ep0 ⊢
    have ep : y1.toInt = ((d + 1 : Nat) : Int) := by omega
    have epn : y1.toNatClampNeg = d + 1 := n_cl ep
    refine ok_bd (t_fX9_comesTo (by omega) (by omega) p2) (fun z23 q => ?_)
    obtain ⟨w1, w2, w3⟩ := q
    rw [epn] at w2 w3
    have v24 : gT z23 24 = gT z21 24 := (w1 24 (by decide)).2.1
    have v27 : gT z23 27 = gT z21 27 := (w1 27 (by decide)).2.1
    have lvd : gT z23 26 d = gT z27 26 d := by rw [w2 d (by omega), a26]
    have lvk : ∀ k : Nat, k < d → gT z23 26 k = gT z 26 k := fun k hk => by rw [w2 k (by omega), a26]; exact q3 k (by omega)
    have fdk : ∀ k : Nat, k < d → gT z23 27 k = gT z 27 k := fun k hk => by rw [v27, p4 k (by omega), b27]
    have eS : dgs z23 s0 d = dgs z s0 d := dgs_eq d lvk fdk
    have eneg : (-1 : Int32).toInt = -1 := by decide
    have h21 : hdz z23 s0 (d + 1) ≤ 21 := by unfold hdz; rw [w3, eneg]; omega
    have hdg : dgz z23 s0 d + 1 ≤ hdz z s0 d := by
      unfold dgz hdz
      rw [lvd, v27, p5, if_neg (by decide)]; omega
    have hlt := gm_in (S := dgs z s0 d) (w := 32 ^ (5 - d)) (pw d (by omega)) (pw1 (d + 1)) hdg h21
    have hm2 : dgs z s0 d + hdz z s0 d * 32 ^ (5 - d) < m + 1 := hm
    refine ih z23 y1 (d + 1) ep (by omega) (fr_tr (fr_tr fr27 p1 (by decide)) w1 (by decide)) (by rw [v24]; exact p2) (kc_fr (kc_tr kc27 p3) w1 (by decide)) (fun k hk => ?_) (by rw [w3, eneg]; omega) ?_
    · by_cases e : k = d
      · subst e; rw [lvd]; omega
      · rw [lvk k (by omega)]; exact hlv k (by omega)
    · show dgs z23 s0 d + dgz z23 s0 d * 32 ^ (5 - d) + hdz z23 s0 (d + 1) * 32 ^ (5 - (d + 1)) < m
      rw [eS]; omega
theorem t_fX9_goesThrough {z_t : Sx} {x1 : Int32} (pn : 0 ≤ x1.toInt ∧ x1.toInt ≤ 5) (hS : SOK (gT z_t 24)) : okP (fX9_goesThrough z_t x1) (fun y => (FrL [24, 26, 27, 28, 29, 30, 31, 32, 33] z_t y) ∧ (SOK (gT y 24)) ∧ (KC z_t y)) := by
  unfold fX9_goesThrough
  have hn := hS.1
  obtain ⟨n, hnn⟩ : ∃ n : Nat, x1.toInt = n := ⟨x1.toInt.toNat, by omega⟩
  have z0 : (0 : Int32).toInt = 0 := by decide
  have n0 : (0 : Int32).toNatClampNeg = 0 := by decide
  refine ok_bd (t_fX9_comesTo (by omega) pn hS) (fun z2 q => ?_)
  obtain ⟨p1, p2, p3⟩ := q
  rw [n0] at p3
  have p24 : gT z2 24 = gT z_t 24 := (p1 24 (by decide)).2.1
  have eneg : (-1 : Int32).toInt = -1 := by decide
  refine tl_goes (s0 := (gT z_t 24 0).toInt) (n := n) hnn (by omega) rfl hn FU z2 0 0 z0 (by omega) (fr_tr fr_rf p1 (by decide)) (by rw [p24]; exact hS) (kc_fr kc_rf p1 (by decide)) (fun k hk => by omega) (by rw [p3, eneg]; omega) (FU_lt ?_)
  show 0 + hdz z2 (gT z_t 24 0).toInt 0 * 32 ^ (5 - 0) < _
  have h21 : hdz z2 (gT z_t 24 0).toInt 0 ≤ 21 := by unfold hdz; rw [p3, eneg]; omega
  have hb : hdz z2 (gT z_t 24 0).toInt 0 * 32 ^ (5 - 0) ≤ 21 * 32 ^ (5 - 0) := Nat.mul_le_mul_right _ h21
  have hc : 21 * 32 ^ (5 - 0) = 704643072 := by decide
  omega

set_option maxHeartbeats 400000 in
set_option maxRecDepth 20000 in
theorem t_fJ6_bitCount_0f7a4 {x0 : Int32} : okP (fJ6_bitCount_0f7a4 x0) (fun _ => True) := by
  unfold fJ6_bitCount_0f7a4
  refine ok_nm ?_
  refine ok_nm ?_
  refine ok_nm ?_
  refine ok_nm ?_
  refine ok_nm ?_
  exact ok_some trivial

set_option maxHeartbeats 400000 in
set_option maxRecDepth 20000 in
theorem tl_lJ7_fill_53178_5 {n_p0 : Nat} {x1 : Int32} {x3 : Int32} (hnn_p0 : n_p0 < 2147483648) : ∀ (n : Nat) (f_p0 : Nat → Int32) (x2 : Int32), (0 ≤ x2.toInt) → (x3.toInt ≤ n_p0) → (x3.toInt + 0 - x2.toInt).toNat < n → okP (lJ7_fill_53178_5 n_p0 x1 x3 n f_p0 x2) (fun _ => True) := by
  intro n
  induction n with
  | zero => intro _ _ _ _ hm; omega
  | succ n ih =>
    intro f_p0 x2 i0 i1 hm
    rw [lJ7_fill_53178_5]
    refine ok_ite (fun c_1 => ?_) (fun c_1 => ?_)
    · skip
      have r_2 := n_rng x3
      have r_3 := n_rng x2
      have c_1i : x3.toInt ≤ x2.toInt := bI_le rfl rfl c_1
      exact ok_some trivial
    · skip
      have r_4 := n_rng x3
      have r_5 := n_rng x2
      have c_1i : x3.toInt > x2.toInt := bI_nle rfl rfl c_1
      refine ok_gd (inb_of (by omega) (by omega)) ?_
      try have e_6 : (x2 + 1).toInt = (x2.toInt + 1) := (i32_add rfl (show (1 : Int32).toInt = 1 by decide) (by omega) (by omega))
      exact ih (upd f_p0 x2.toNatClampNeg x1) (x2 + 1) (by first | omega | assumption | decide) (by first | omega | assumption | decide) (by omega)
set_option maxHeartbeats 400000 in
set_option maxRecDepth 20000 in
theorem t_fJ7_fill_53178 {n_p0 : Nat} {f_p0 : Nat → Int32} {x1 : Int32} (hnn_p0 : n_p0 < 2147483648) : okP (fJ7_fill_53178 n_p0 f_p0 x1) (fun _ => True) := by
  unfold fJ7_fill_53178
  try have e_1 : (0 : Int32).toInt = 0 := (show (0 : Int32).toInt = 0 by decide)
  refine tl_lJ7_fill_53178_5 (by first | omega | assumption | decide) FU f_p0 0 (by first | omega | assumption | decide) (by have := nI_toInt (n := n_p0) (by omega); omega) (FU_lt (by have := nI_toInt (n := n_p0) (by omega); omega))

set_option maxHeartbeats 400000 in
set_option maxRecDepth 20000 in
theorem t_fX0_begin {z_t : Sx} {x1 : Int32} : okP (fX0_begin z_t x1) (fun y => (FrL [0, 1, 2, 5] z_t y)) := by
  unfold fX0_begin
  refine ok_bd (t_fJ7_fill_53178 (by first | omega | assumption | decide | (show (10 : Nat) < 2147483648; first | omega | assumption))) (fun z2 q_1 => ?_)
  exact ok_some (fr_Tf (fr_I (fr_I (fr_I fr_rf (by decide)) (by decide)) (by decide)) (by decide))

set_option maxHeartbeats 400000 in
set_option maxRecDepth 20000 in
theorem t_fX0_copyFrom {z_t : Sx} {z_p1 : Sx} : okP (fX0_copyFrom z_t z_p1) (fun y => (FrL [0, 1, 2, 3, 4, 5] z_t y)) := by
  unfold fX0_copyFrom
  exact ok_some (fr_Tf (fr_I (fr_I (fr_I (fr_I (fr_I fr_rf (by decide)) (by decide)) (by decide)) (by decide)) (by decide)) (by decide))

set_option maxHeartbeats 400000 in
set_option maxRecDepth 20000 in
theorem t_fX0_gone {z_t : Sx} : okP (fX0_gone z_t) (fun _ => True) := by
  unfold fX0_gone
  exact ok_some trivial

set_option maxHeartbeats 400000 in
set_option maxRecDepth 20000 in
theorem t_fX8_at {n_p0 : Nat} {f_p0 : Nat → Int32} {x1 : Int32} (hnn_p0 : n_p0 < 2147483648) : okP (fX8_at n_p0 f_p0 x1) (fun _ => True) := by
  unfold fX8_at
  refine ok_ite (fun c_1 => ?_) (fun c_1 => ?_)
  · skip
    have r_2 := n_rng x1
    have c_1i : x1.toInt < 0 := bI_lt rfl (show (0 : Int32).toInt = 0 by decide) c_1
    exact ok_some trivial
  · skip
    have r_3 := n_rng x1
    have c_1i : x1.toInt ≥ 0 := bI_nlt rfl (show (0 : Int32).toInt = 0 by decide) c_1
    refine ok_ite (fun c_4 => ?_) (fun c_4 => ?_)
    · skip
      try have c_4i : (n_p0 : Int) ≤ x1.toInt := bI_le (nI_toInt (by omega)) rfl c_4
      exact ok_some trivial
    · skip
      try have c_4i : (n_p0 : Int) > x1.toInt := bI_nle (nI_toInt (by omega)) rfl c_4
      refine ok_gd (inb_of (by omega) (by omega)) ?_
      exact ok_some trivial

set_option maxHeartbeats 400000 in
set_option maxRecDepth 20000 in
theorem t_fX8_put {n_p0 : Nat} {f_p0 : Nat → Int32} {x1 : Int32} {x2 : Int32} (hnn_p0 : n_p0 < 2147483648) : okP (fX8_put n_p0 f_p0 x1 x2) (fun _ => True) := by
  unfold fX8_put
  refine ok_ite (fun c_1 => ?_) (fun c_1 => ?_)
  · skip
    have r_2 := n_rng x1
    have c_1i : x1.toInt < 0 := bI_lt rfl (show (0 : Int32).toInt = 0 by decide) c_1
    exact ok_some trivial
  · skip
    have r_3 := n_rng x1
    have c_1i : x1.toInt ≥ 0 := bI_nlt rfl (show (0 : Int32).toInt = 0 by decide) c_1
    refine ok_ite (fun c_4 => ?_) (fun c_4 => ?_)
    · skip
      try have c_4i : (n_p0 : Int) ≤ x1.toInt := bI_le (nI_toInt (by omega)) rfl c_4
      exact ok_some trivial
    · skip
      try have c_4i : (n_p0 : Int) > x1.toInt := bI_nle (nI_toInt (by omega)) rfl c_4
      refine ok_gd (inb_of (by omega) (by omega)) ?_
      exact ok_some trivial

set_option maxHeartbeats 400000 in
set_option maxRecDepth 20000 in
theorem t_fX8_bit {x0 : Int32} : okP (fX8_bit x0) (fun y => (y = (1 : Int32) <<< (x0 &&& 31))) := by
  unfold fX8_bit
  exact ok_some (show ((1 : Int32) <<< (x0 &&& 31)) = (1 : Int32) <<< (x0 &&& 31) by rfl)

set_option maxHeartbeats 400000 in
set_option maxRecDepth 20000 in
theorem t_fX0_lookFor {z_t : Sx} {z_p1 : Sx} {x2 : Int32} : okP (fX0_lookFor z_t z_p1 x2) (fun y => (y.1 = 0 ∨ y.1 = 1) ∧ (FrL [0, 1, 2, 4, 5] z_t y.2)) := by
  unfold fX0_lookFor
  refine ok_bd (t_fX8_at (by first | omega | assumption | decide | (show (10 : Nat) < 2147483648; first | omega | assumption))) (fun r2 q_1 => ?_)
  refine ok_bd (t_fX8_at (by first | omega | assumption | decide | (show (10 : Nat) < 2147483648; first | omega | assumption))) (fun r4 q_2 => ?_)
  refine ok_bd (t_fX8_put (by first | omega | assumption | decide | (show (10 : Nat) < 2147483648; first | omega | assumption))) (fun z6 q_3 => ?_)
  refine ok_nm ?_
  refine ok_bd (t_fX8_at (by first | omega | assumption | decide | (show (10 : Nat) < 2147483648; first | omega | assumption))) (fun r9 q_4 => ?_)
  refine ok_ite (fun c_5 => ?_) (fun c_5 => ?_)
  · skip
    have r_6 := n_rng (((((gI z_t 4).toInt64 * 1103515245) + 12345) &&& 2147483647).toInt32 / 65536)
    have r_7 := n_rng ((((((gI z_t 4).toInt64 * 1103515245) + 12345) &&& 2147483647).toInt32 / 65536) / 100)
    have r_8 := n_rng r9
    try have c_5i : ((((((gI z_t 4).toInt64 * 1103515245) + 12345) &&& 2147483647).toInt32 / 65536).toInt - (((((((gI z_t 4).toInt64 * 1103515245) + 12345) &&& 2147483647).toInt32 / 65536) / 100).toInt * 100)) < r9.toInt := bI_lt (i32_sub rfl (i32_mul rfl (show (100 : Int32).toInt = 100 by decide) (by omega) (by omega)) (by omega) (by omega)) rfl c_5
    refine ok_bd (t_fX8_bit) (fun r12 q_9 => ?_)
    have h_10 : r12 = (1 : Int32) <<< (x2 &&& 31) := q_9
    clear q_9
    refine ok_bd (t_fX8_at (by first | omega | assumption | decide | (show (10 : Nat) < 2147483648; first | omega | assumption))) (fun r14 q_11 => ?_)
    exact ok_some ⟨Or.inr rfl, (fr_I (fr_I (fr_I (fr_Tf (fr_I fr_rf (by decide)) (by decide)) (by decide)) (by decide)) (by decide))⟩
  · skip
    have r_12 := n_rng (((((gI z_t 4).toInt64 * 1103515245) + 12345) &&& 2147483647).toInt32 / 65536)
    have r_13 := n_rng ((((((gI z_t 4).toInt64 * 1103515245) + 12345) &&& 2147483647).toInt32 / 65536) / 100)
    have r_14 := n_rng r9
    try have c_5i : ((((((gI z_t 4).toInt64 * 1103515245) + 12345) &&& 2147483647).toInt32 / 65536).toInt - (((((((gI z_t 4).toInt64 * 1103515245) + 12345) &&& 2147483647).toInt32 / 65536) / 100).toInt * 100)) ≥ r9.toInt := bI_nlt (i32_sub rfl (i32_mul rfl (show (100 : Int32).toInt = 100 by decide) (by omega) (by omega)) (by omega) (by omega)) rfl c_5
    exact ok_some ⟨Or.inl rfl, (fr_I (fr_Tf (fr_I fr_rf (by decide)) (by decide)) (by decide))⟩

set_option maxHeartbeats 400000 in
set_option maxRecDepth 20000 in
theorem t_fX7_isOpen {z_t : Sx} {x1 : Int32} {x2 : Int32} : okP (fX7_isOpen z_t x1 x2) (fun y => (y = 0 ∨ y = 1)) := by
  unfold fX7_isOpen
  refine ok_ite (fun c_1 => ?_) (fun c_1 => ?_)
  · skip
    have r_2 := n_rng x1
    have c_1i : x1.toInt < 0 := bI_lt rfl (show (0 : Int32).toInt = 0 by decide) c_1
    exact ok_some (Or.inl rfl)
  · skip
    have r_3 := n_rng x1
    have c_1i : x1.toInt ≥ 0 := bI_nlt rfl (show (0 : Int32).toInt = 0 by decide) c_1
    refine ok_ite (fun c_4 => ?_) (fun c_4 => ?_)
    · skip
      have c_4i : 10 ≤ x1.toInt := bI_le (show (10 : Int32).toInt = 10 by decide) rfl c_4
      exact ok_some (Or.inl rfl)
    · skip
      have c_4i : 10 > x1.toInt := bI_nle (show (10 : Int32).toInt = 10 by decide) rfl c_4
      refine ok_ite (fun c_5 => ?_) (fun c_5 => ?_)
      · skip
        have r_6 := n_rng ((x2 >>> (x1 &&& 31)) &&& 1)
        have c_5i : ((x2 >>> (x1 &&& 31)) &&& 1).toInt = 0 := bI_eq rfl (show (0 : Int32).toInt = 0 by decide) c_5
        refine ok_gd (inb_of (by omega) (by omega)) ?_
        refine ok_jn ?_
        refine ok_ite (fun c_7 => ?_) (fun c_7 => ?_)
        · skip
          have r_8 := n_rng (gT z_t 11 x1.toNatClampNeg)
          have c_7i : (gT z_t 11 x1.toNatClampNeg).toInt < 0 := bI_lt rfl (show (0 : Int32).toInt = 0 by decide) c_7
          exact ok_some (Or.inr rfl)
        · skip
          have r_9 := n_rng (gT z_t 11 x1.toNatClampNeg)
          have c_7i : (gT z_t 11 x1.toNatClampNeg).toInt ≥ 0 := bI_nlt rfl (show (0 : Int32).toInt = 0 by decide) c_7
          refine ok_ite (fun c_10 => ?_) (fun c_10 => ?_)
          · skip
            have r_11 := n_rng ((x2 >>> ((gT z_t 11 x1.toNatClampNeg) &&& 31)) &&& 1)
            have c_10i : ((x2 >>> ((gT z_t 11 x1.toNatClampNeg) &&& 31)) &&& 1).toInt = 0 := bI_eq rfl (show (0 : Int32).toInt = 0 by decide) c_10
            exact ok_some (Or.inl rfl)
          · skip
            have r_12 := n_rng ((x2 >>> ((gT z_t 11 x1.toNatClampNeg) &&& 31)) &&& 1)
            have c_10i : ((x2 >>> ((gT z_t 11 x1.toNatClampNeg) &&& 31)) &&& 1).toInt ≠ 0 := bI_neq rfl (show (0 : Int32).toInt = 0 by decide) c_10
            exact ok_some (Or.inr rfl)
      · skip
        have r_13 := n_rng ((x2 >>> (x1 &&& 31)) &&& 1)
        have c_5i : ((x2 >>> (x1 &&& 31)) &&& 1).toInt ≠ 0 := bI_neq rfl (show (0 : Int32).toInt = 0 by decide) c_5
        exact ok_some (Or.inl rfl)

set_option maxHeartbeats 400000 in
set_option maxRecDepth 20000 in
theorem tl_lX8_hundreds_4 {x0 : Int32} : ∀ (n : Nat) (x1 : Int64) (x3 : Int32), (8 - x3.toInt).toNat < n → okP (lX8_hundreds_4 x0 n x1 x3) (fun _ => True) := by
  intro n
  induction n with
  | zero => intro _ _ hm; omega
  | succ n ih =>
    intro x1 x3 hm
    rw [lX8_hundreds_4]
    refine ok_ite (fun c_1 => ?_) (fun c_1 => ?_)
    · skip
      have r_2 := n_rng x0
      have r_3 := n_rng x3
      have c_1i : x0.toInt ≤ x3.toInt := bI_le rfl rfl c_1
      exact ok_some trivial
    · skip
      have r_4 := n_rng x0
      have r_5 := n_rng x3
      have c_1i : x0.toInt > x3.toInt := bI_nle rfl rfl c_1
      refine ok_ite (fun c_6 => ?_) (fun c_6 => ?_)
      · skip
        have c_6i : 8 ≤ x3.toInt := bI_le (show (8 : Int32).toInt = 8 by decide) rfl c_6
        exact ok_some trivial
      · skip
        have c_6i : 8 > x3.toInt := bI_nle (show (8 : Int32).toInt = 8 by decide) rfl c_6
        try have e_7 : (x3 + 1).toInt = (x3.toInt + 1) := (i32_add rfl (show (1 : Int32).toInt = 1 by decide) (by omega) (by omega))
        exact ih (x1 * 100) (x3 + 1)  (by omega)
set_option maxHeartbeats 400000 in
set_option maxRecDepth 20000 in
theorem t_fX8_hundreds {x0 : Int32} : okP (fX8_hundreds x0) (fun _ => True) := by
  unfold fX8_hundreds
  try have e_1 : (0 : Int32).toInt = 0 := (show (0 : Int32).toInt = 0 by decide)
  refine tl_lX8_hundreds_4  FU 1 0  (FU_lt (by omega))

set_option maxHeartbeats 400000 in
set_option maxRecDepth 20000 in
theorem t_fX1_earnedBy {rec : Sx → Sx → Int32 → Int32 → Int32 → Option (Int64 × Sx)} {z_t : Sx} {z_p1 : Sx} {x2 : Int32} {x3 : Int32} {x4 : Int32} {x5 : Int32} {d : Nat} (hrec : ∀ (z_t : Sx) (z_p1 : Sx) (x2 : Int32) (x3 : Int32) (x4 : Int32), (1 ≤ d ∧ x2.toInt ≤ d) → okP (rec z_t z_p1 x2 x3 x4) (fun y => (FrL [0, 1] z_t y.2) ∧ (x2.toInt ≤ 0 → y.1.toInt = 0))) (d0 : 1 ≤ d ∧ x3.toInt ≤ d + 1 ∧ -1000 ≤ x3.toInt) : okP (fX1_earnedBy rec z_t z_p1 x2 x3 x4 x5) (fun y => (FrL [0, 1] z_t y.2)) := by
  unfold fX1_earnedBy
  refine ok_bd (t_fX8_at (by first | omega | assumption | decide | (show (10 : Nat) < 2147483648; first | omega | assumption))) (fun r2 q_1 => ?_)
  refine ok_ite (fun c_2 => ?_) (fun c_2 => ?_)
  · skip
    have r_3 := n_rng x5
    have r_4 := n_rng r2
    try have c_2i : (x5.toInt - r2.toInt) < 0 := bI_lt (i32_sub rfl rfl (by omega) (by omega)) (show (0 : Int32).toInt = 0 by decide) c_2
    exact ok_some fr_rf
  · skip
    have r_5 := n_rng x5
    have r_6 := n_rng r2
    try have c_2i : (x5.toInt - r2.toInt) ≥ 0 := bI_nlt (i32_sub rfl rfl (by omega) (by omega)) (show (0 : Int32).toInt = 0 by decide) c_2
    refine ok_bd (t_fX7_isOpen) (fun r5 q_7 => ?_)
    have h_8 : r5 = 0 ∨ r5 = 1 := q_7
    have h_8i := bool_i h_8
    clear q_7
    refine ok_ite (fun c_9 => ?_) (fun c_9 => ?_)
    · skip
      have r_10 := n_rng r5
      have c_9i : r5.toInt = 0 := bI_eq rfl (show (0 : Int32).toInt = 0 by decide) c_9
      exact ok_some fr_rf
    · skip
      have r_11 := n_rng r5
      have c_9i : r5.toInt ≠ 0 := bI_neq rfl (show (0 : Int32).toInt = 0 by decide) c_9
      refine ok_bd (t_fX8_at (by first | omega | assumption | decide | (show (10 : Nat) < 2147483648; first | omega | assumption))) (fun r8 q_12 => ?_)
      refine ok_bd (t_fX8_at (by first | omega | assumption | decide | (show (10 : Nat) < 2147483648; first | omega | assumption))) (fun r10 q_13 => ?_)
      refine ok_bd (t_fX8_hundreds) (fun r12 q_14 => ?_)
      refine ok_bd (t_fX8_bit) (fun r14 q_15 => ?_)
      have h_16 : r14 = (1 : Int32) <<< (x2 &&& 31) := q_15
      clear q_15
      have r_18 := n_rng x3
      have e_19 : (x3 - 1).toInt = (x3.toInt - 1) := (i32_sub rfl (show (1 : Int32).toInt = 1 by decide) (by omega) (by omega))
      refine ok_bd2 (hrec _ _ _ _ _ (by first | omega | assumption | decide | (show 1 ≤ d ∧ (x3 - 1).toInt ≤ d; first | omega | assumption))) (fun r16 z17 q_17 => ?_)
      have h_20 : FrL [0, 1] z_t z17 := q_17.1
      have h_21 : (x3 - 1).toInt ≤ 0 → r16.toInt = 0 := q_17.2
      clear q_17
      refine ok_bd2 (hrec _ _ _ _ _ (by first | omega | assumption | decide | (show 1 ≤ d ∧ (x3 - 1).toInt ≤ d; first | omega | assumption))) (fun r19 z20 q_22 => ?_)
      have h_23 : FrL [0, 1] z17 z20 := q_22.1
      have h_24 : (x3 - 1).toInt ≤ 0 → r19.toInt = 0 := q_22.2
      clear q_22
      exact ok_some (fr_tr (fr_tr fr_rf h_20 (by decide)) h_23 (by decide))

set_option maxHeartbeats 400000 in
set_option maxRecDepth 20000 in
theorem tl_lX7_mostByOneLook_2 {k43 : Int32 → Option (Int32)} {z_t : Sx} {x1 : Int32} {x2 : Int32} (Hk43 : ∀ (y0 : Int32), okP (k43 y0) (fun _ => True)) : ∀ (n : Nat) (x3 : Int32), ((gI z_t 3).toInt + 0 - x3.toInt).toNat < n → okP (lX7_mostByOneLook_2 k43 z_t x1 x2 n x3) (fun _ => True) := by
  intro n
  induction n with
  | zero => intro _ hm; omega
  | succ n ih =>
    intro x3 hm
    rw [lX7_mostByOneLook_2]
    refine ok_ite (fun c_1 => ?_) (fun c_1 => ?_)
    · skip
      have r_2 := n_rng (gI z_t 3)
      have r_3 := n_rng x3
      have c_1i : (gI z_t 3).toInt ≤ x3.toInt := bI_le rfl rfl c_1
      exact ok_some trivial
    · skip
      have r_4 := n_rng (gI z_t 3)
      have r_5 := n_rng x3
      have c_1i : (gI z_t 3).toInt > x3.toInt := bI_nle rfl rfl c_1
      refine ok_bd (t_fX8_at (by first | omega | assumption | decide | (show (10 : Nat) < 2147483648; first | omega | assumption))) (fun r3 q_6 => ?_)
      refine ok_bd (t_fX8_at (by first | omega | assumption | decide | (show (10 : Nat) < 2147483648; first | omega | assumption))) (fun r5 q_7 => ?_)
      refine ok_jn ?_
      refine ok_ite (fun c_8 => ?_) (fun c_8 => ?_)
      · skip
        have r_9 := n_rng x2
        have r_10 := n_rng r5
        have c_8i : x2.toInt < r5.toInt := bI_lt rfl rfl c_8
        try have e_11 : (x3 + 1).toInt = (x3.toInt + 1) := (i32_add rfl (show (1 : Int32).toInt = 1 by decide) (by omega) (by omega))
        exact ih (x3 + 1)  (by omega)
      · skip
        have r_12 := n_rng x2
        have r_13 := n_rng r5
        have c_8i : x2.toInt ≥ r5.toInt := bI_nlt rfl rfl c_8
        refine ok_bd (t_fX7_isOpen) (fun r9 q_14 => ?_)
        have h_15 : r9 = 0 ∨ r9 = 1 := q_14
        have h_15i := bool_i h_15
        clear q_14
        refine ok_ite (fun c_16 => ?_) (fun c_16 => ?_)
        · skip
          have r_17 := n_rng r9
          have c_16i : r9.toInt = 0 := bI_eq rfl (show (0 : Int32).toInt = 0 by decide) c_16
          try have e_18 : (x3 + 1).toInt = (x3.toInt + 1) := (i32_add rfl (show (1 : Int32).toInt = 1 by decide) (by omega) (by omega))
          exact ih (x3 + 1)  (by omega)
        · skip
          have r_19 := n_rng r9
          have c_16i : r9.toInt ≠ 0 := bI_neq rfl (show (0 : Int32).toInt = 0 by decide) c_16
          exact Hk43 r3 
set_option maxHeartbeats 400000 in
set_option maxRecDepth 20000 in
theorem t_fX7_mostByOneLook {z_t : Sx} {x1 : Int32} {x2 : Int32} : okP (fX7_mostByOneLook z_t x1 x2) (fun _ => True) := by
  unfold fX7_mostByOneLook
  try have e_1 : (0 : Int32).toInt = 0 := (show (0 : Int32).toInt = 0 by decide)
  refine tl_lX7_mostByOneLook_2 (fun i11 => ?_) FU 0  (FU_lt (by have := n_rng (gI z_t 3); omega))
  · skip
    refine ok_bd (t_fX8_at (by first | omega | assumption | decide | (show (10 : Nat) < 2147483648; first | omega | assumption))) (fun r13 q_2 => ?_)
    exact ok_some trivial

set_option maxHeartbeats 400000 in
set_option maxRecDepth 20000 in
theorem tl_lX1_mostEarned_106 {o_z_t : Sx} {o_x2 : Int32} {rec : Sx → Sx → Int32 → Int32 → Int32 → Option (Int64 × Sx)} {k139 : Sx → Int64 → Option (Int64 × Sx)} {z_p1 : Sx} {x2 : Int32} {x3 : Int32} {x5 : Int32} {x6 : Int64} {x8 : Int32} {d : Nat} (hrec : ∀ (z_t : Sx) (z_p1 : Sx) (x2 : Int32) (x3 : Int32) (x4 : Int32), (1 ≤ d ∧ x2.toInt ≤ d) → okP (rec z_t z_p1 x2 x3 x4) (fun y => (FrL [0, 1] z_t y.2) ∧ (x2.toInt ≤ 0 → y.1.toInt = 0))) (Hk139 : ∀ (y0 : Sx) (y1 : Int64), (FrL [0, 1] o_z_t y0) → okP (k139 y0 y1) (fun y => (FrL [0, 1] o_z_t y.2) ∧ (o_x2.toInt ≤ 0 → y.1.toInt = 0))) (hx : 1 < x2.toInt ∧ x2.toInt ≤ d + 1) (hq : 1 < o_x2.toInt) : ∀ (n : Nat) (z_t : Sx) (x9 : Int64) (x11 : Int32), (FrL [0, 1] o_z_t z_t) → ((gI z_p1 3).toInt + 0 - x11.toInt).toNat < n → okP (lX1_mostEarned_106 rec k139 z_p1 x2 x3 x5 x6 x8 n z_t x9 x11) (fun y => (FrL [0, 1] o_z_t y.2) ∧ (o_x2.toInt ≤ 0 → y.1.toInt = 0)) := by
  intro n
  induction n with
  | zero => intro _ _ _ _ hm; omega
  | succ n ih =>
    intro z_t x9 x11 frz_t hm
    rw [lX1_mostEarned_106]
    refine ok_ite (fun c_1 => ?_) (fun c_1 => ?_)
    · skip
      have r_2 := n_rng (gI z_p1 3)
      have r_3 := n_rng x11
      have c_1i : (gI z_p1 3).toInt ≤ x11.toInt := bI_le rfl rfl c_1
      exact Hk139 z_t x9 frz_t
    · skip
      have r_4 := n_rng (gI z_p1 3)
      have r_5 := n_rng x11
      have c_1i : (gI z_p1 3).toInt > x11.toInt := bI_nle rfl rfl c_1
      refine ok_bd2 (t_fX1_earnedBy hrec (by first | omega | assumption | decide | (show 1 ≤ d ∧ x2.toInt ≤ d + 1 ∧ -1000 ≤ x2.toInt; first | omega | assumption))) (fun r8 z9 q_6 => ?_)
      have h_7 : FrL [0, 1] z_t z9 := q_6
      clear q_6
      try have e_8 : (x11 + 1).toInt = (x11.toInt + 1) := (i32_add rfl (show (1 : Int32).toInt = 1 by decide) (by omega) (by omega))
      exact ih z9 (mxL x9 r8) (x11 + 1) (fr_tr frz_t h_7 (by decide)) (by omega)
set_option maxHeartbeats 400000 in
set_option maxRecDepth 20000 in
theorem t_gX1_mostEarned {rec : Sx → Sx → Int32 → Int32 → Int32 → Option (Int64 × Sx)} {z_t : Sx} {z_p1 : Sx} {x2 : Int32} {x3 : Int32} {x4 : Int32} {d : Nat} (hrec : ∀ (z_t : Sx) (z_p1 : Sx) (x2 : Int32) (x3 : Int32) (x4 : Int32), (1 ≤ d ∧ x2.toInt ≤ d) → okP (rec z_t z_p1 x2 x3 x4) (fun y => (FrL [0, 1] z_t y.2) ∧ (x2.toInt ≤ 0 → y.1.toInt = 0))) (d0 : x2.toInt ≤ d + 1) : okP (gX1_mostEarned rec z_t z_p1 x2 x3 x4) (fun y => (FrL [0, 1] z_t y.2) ∧ (x2.toInt ≤ 0 → y.1.toInt = 0)) := by
  unfold gX1_mostEarned
  refine ok_ite (fun c_1 => ?_) (fun c_1 => ?_)
  · skip
    have r_2 := n_rng x2
    have c_1i : 1 < x2.toInt := bI_lt (show (1 : Int32).toInt = 1 by decide) rfl c_1
    refine ok_nm2 (fun v2 ev2 => ?_)
    refine ok_nm2 (fun v3 ev3 => ?_)
    refine ok_gd (inb_and ev3) ?_
    refine ok_ite (fun c_3 => ?_) (fun c_3 => ?_)
    · skip
      have c_3i : (gJ z_t 0 v3.toNatClampNeg).toInt = v2.toInt := lI_eq rfl rfl c_3
      exact ok_some ⟨fr_rf, (show x2.toInt ≤ 0 → (gJ z_t 1 v3.toNatClampNeg).toInt = 0 by first | (intro q; omega) | (intro _; decide))⟩
    · skip
      have c_3i : (gJ z_t 0 v3.toNatClampNeg).toInt ≠ v2.toInt := lI_neq rfl rfl c_3
      try have e_5 : (0 : Int32).toInt = 0 := (show (0 : Int32).toInt = 0 by decide)
      refine tl_lX1_mostEarned_106 hrec (fun z10 i11 k_4 => ?_) (by first | omega | assumption | decide) (by first | omega | assumption | decide) FU z_t 0 0 fr_rf (FU_lt (by have := n_rng (gI z_p1 3); omega))
      · skip
        exact ok_some ⟨(fr_J (fr_J k_4 (by decide)) (by decide)), (show x2.toInt ≤ 0 → i11.toInt = 0 by first | (intro q; omega) | (intro _; decide))⟩
  · skip
    have r_6 := n_rng x2
    have c_1i : 1 ≥ x2.toInt := bI_nlt (show (1 : Int32).toInt = 1 by decide) rfl c_1
    refine ok_ite (fun c_7 => ?_) (fun c_7 => ?_)
    · skip
      have c_7i : x2.toInt = 1 := bI_eq rfl (show (1 : Int32).toInt = 1 by decide) c_7
      refine ok_bd (t_fX7_mostByOneLook) (fun r14 q_8 => ?_)
      have r_9 := n_rng r14
      try have e_10 : r14.toInt64.toInt = r14.toInt := (l64_of rfl)
      exact ok_some ⟨fr_rf, (show x2.toInt ≤ 0 → r14.toInt64.toInt = 0 by first | (intro q; omega) | (intro _; decide))⟩
    · skip
      have c_7i : x2.toInt ≠ 1 := bI_neq rfl (show (1 : Int32).toInt = 1 by decide) c_7
      try have e_11 : (0 : Int64).toInt = 0 := (show (0 : Int64).toInt = 0 by decide)
      exact ok_some ⟨fr_rf, (show x2.toInt ≤ 0 → (0 : Int64).toInt = 0 by first | (intro q; omega) | (intro _; decide))⟩

set_option maxHeartbeats 400000 in
set_option maxRecDepth 20000 in
theorem t_fX1_mostEarned : ∀ (dp : Nat) (z_t : Sx) (z_p1 : Sx) (x2 : Int32) (x3 : Int32) (x4 : Int32), (1 ≤ dp ∧ x2.toInt ≤ dp) → okP (fX1_mostEarned dp z_t z_p1 x2 x3 x4) (fun y => (FrL [0, 1] z_t y.2) ∧ (x2.toInt ≤ 0 → y.1.toInt = 0)) := by
  intro dp
  induction dp with
  | zero => intro z_t z_p1 x2 x3 x4 d0; exfalso; omega
  | succ dp ih =>
    intro z_t z_p1 x2 x3 x4 d0
    exact t_gX1_mostEarned (d := dp) (fun z_t z_p1 x2 x3 x4 d0 => ih z_t z_p1 x2 x3 x4 (by omega)) (by omega)

set_option maxHeartbeats 400000 in
set_option maxRecDepth 20000 in
theorem tl_lX1_choice_24 {o_z_t : Sx} {o_x2 : Int32} {z_p1 : Sx} {x2 : Int32} {x3 : Int32} {x4 : Int32} {x5 : Int64} (hx : 0 ≤ x2.toInt ∧ x2.toInt ≤ 16) (hp : 0 < o_x2.toInt) : ∀ (n : Nat) (z_t : Sx) (x7 : Int32), (FrL [0, 1] o_z_t z_t) → ((gI z_p1 3).toInt + 0 - x7.toInt).toNat < n → okP (lX1_choice_24 z_p1 x2 x3 x4 x5 n z_t x7) (fun y => (FrL [0, 1] o_z_t y.2) ∧ (0 ≤ y.1.toInt → 0 < o_x2.toInt)) := by
  intro n
  induction n with
  | zero => intro _ _ _ hm; omega
  | succ n ih =>
    intro z_t x7 frz_t hm
    rw [lX1_choice_24]
    refine ok_ite (fun c_1 => ?_) (fun c_1 => ?_)
    · skip
      have r_2 := n_rng (gI z_p1 3)
      have r_3 := n_rng x7
      have c_1i : (gI z_p1 3).toInt ≤ x7.toInt := bI_le rfl rfl c_1
      try have e_4 : (-2 : Int32).toInt = (-2) := (show (-2 : Int32).toInt = -2 by decide)
      exact ok_some ⟨frz_t, (show 0 ≤ (-2 : Int32).toInt → 0 < o_x2.toInt by first | (intro q; exact absurd q (by decide)) | (intro _; omega) | assumption | omega | trivial)⟩
    · skip
      have r_5 := n_rng (gI z_p1 3)
      have r_6 := n_rng x7
      have c_1i : (gI z_p1 3).toInt > x7.toInt := bI_nle rfl rfl c_1
      refine ok_bd2 (t_fX1_earnedBy (d := 16) (fun _ _ _ _ _ h1 => t_fX1_mostEarned 16 _ _ _ _ _ h1) (by first | omega | assumption | decide | (show 1 ≤ d ∧ x2.toInt ≤ d + 1 ∧ -1000 ≤ x2.toInt; first | omega | assumption))) (fun r7 z8 q_7 => ?_)
      have h_8 : FrL [0, 1] z_t z8 := q_7
      clear q_7
      refine ok_ite (fun c_9 => ?_) (fun c_9 => ?_)
      · skip
        have c_9i : r7.toInt = x5.toInt := lI_eq rfl rfl c_9
        exact ok_some ⟨(fr_tr frz_t h_8 (by decide)), (show 0 ≤ x7.toInt → 0 < o_x2.toInt by first | (intro q; exact absurd q (by decide)) | (intro _; omega) | assumption | omega | trivial)⟩
      · skip
        have c_9i : r7.toInt ≠ x5.toInt := lI_neq rfl rfl c_9
        try have e_10 : (x7 + 1).toInt = (x7.toInt + 1) := (i32_add rfl (show (1 : Int32).toInt = 1 by decide) (by omega) (by omega))
        exact ih z8 (x7 + 1) (fr_tr frz_t h_8 (by decide)) (by omega)
set_option maxHeartbeats 400000 in
set_option maxRecDepth 20000 in
theorem t_fX1_choice {z_t : Sx} {z_p1 : Sx} {x2 : Int32} {x3 : Int32} {x4 : Int32} (d0 : 0 ≤ x2.toInt ∧ x2.toInt ≤ 16) : okP (fX1_choice z_t z_p1 x2 x3 x4) (fun y => (FrL [0, 1] z_t y.2) ∧ (0 ≤ y.1.toInt → 0 < x2.toInt)) := by
  unfold fX1_choice
  refine ok_bd2 (t_fX1_mostEarned _ _ _ _ _ _ (by first | omega | assumption | decide | (show 1 ≤ d ∧ x2.toInt ≤ d; first | omega | assumption))) (fun r2 z3 q_1 => ?_)
  have h_2 : FrL [0, 1] z_t z3 := q_1.1
  have h_3 : x2.toInt ≤ 0 → r2.toInt = 0 := q_1.2
  clear q_1
  refine ok_ite (fun c_4 => ?_) (fun c_4 => ?_)
  · skip
    have c_4i : 0 < r2.toInt := lI_lt (show (0 : Int64).toInt = 0 by decide) rfl c_4
    try have e_5 : (0 : Int32).toInt = 0 := (show (0 : Int32).toInt = 0 by decide)
    refine tl_lX1_choice_24 (by first | omega | assumption | decide) (by first | omega | assumption | decide) FU z3 0 (fr_tr fr_rf h_2 (by decide)) (FU_lt (by have := n_rng (gI z_p1 3); omega))
  · skip
    have c_4i : 0 ≥ r2.toInt := lI_nlt (show (0 : Int64).toInt = 0 by decide) rfl c_4
    try have e_6 : (-2 : Int32).toInt = (-2) := (show (-2 : Int32).toInt = -2 by decide)
    exact ok_some ⟨(fr_tr fr_rf h_2 (by decide)), (show 0 ≤ (-2 : Int32).toInt → 0 < x2.toInt by first | (intro q; exact absurd q (by decide)) | (intro _; omega) | assumption | omega | trivial)⟩

set_option maxHeartbeats 400000 in
set_option maxRecDepth 20000 in
theorem t_fX8_has {x0 : Int32} {x1 : Int32} : okP (fX8_has x0 x1) (fun y => (y = 0 ∨ y = 1)) := by
  unfold fX8_has
  refine ok_ite (fun c_1 => ?_) (fun c_1 => ?_)
  · skip
    have r_2 := n_rng (x0 &&& ((1 : Int32) <<< (x1 &&& 31)))
    have c_1i : (x0 &&& ((1 : Int32) <<< (x1 &&& 31))).toInt = 0 := bI_eq rfl (show (0 : Int32).toInt = 0 by decide) c_1
    exact ok_some (Or.inl rfl)
  · skip
    have r_3 := n_rng (x0 &&& ((1 : Int32) <<< (x1 &&& 31)))
    have c_1i : (x0 &&& ((1 : Int32) <<< (x1 &&& 31))).toInt ≠ 0 := bI_neq rfl (show (0 : Int32).toInt = 0 by decide) c_1
    exact ok_some (Or.inr rfl)

set_option maxHeartbeats 400000 in
set_option maxRecDepth 20000 in
theorem tl_lX7_together_5 {z_t : Sx} {n_p1 : Nat} {f_p1 : Nat → Int32} {x2 : Int32} (hnn_p1 : n_p1 < 2147483648) : ∀ (n : Nat) (x3 : Int32) (x4 : Int32), ((gI z_t 3).toInt + 0 - x4.toInt).toNat < n → okP (lX7_together_5 z_t n_p1 f_p1 x2 n x3 x4) (fun _ => True) := by
  intro n
  induction n with
  | zero => intro _ _ hm; omega
  | succ n ih =>
    intro x3 x4 hm
    rw [lX7_together_5]
    refine ok_ite (fun c_1 => ?_) (fun c_1 => ?_)
    · skip
      have r_2 := n_rng (gI z_t 3)
      have r_3 := n_rng x4
      have c_1i : (gI z_t 3).toInt ≤ x4.toInt := bI_le rfl rfl c_1
      exact ok_some trivial
    · skip
      have r_4 := n_rng (gI z_t 3)
      have r_5 := n_rng x4
      have c_1i : (gI z_t 3).toInt > x4.toInt := bI_nle rfl rfl c_1
      refine ok_bd (t_fX8_has) (fun r3 q_6 => ?_)
      have h_7 : r3 = 0 ∨ r3 = 1 := q_6
      have h_7i := bool_i h_7
      clear q_6
      refine ok_jn ?_
      refine ok_ite (fun c_8 => ?_) (fun c_8 => ?_)
      · skip
        have r_9 := n_rng r3
        have c_8i : r3.toInt = 0 := bI_eq rfl (show (0 : Int32).toInt = 0 by decide) c_8
        try have e_10 : (x4 + 1).toInt = (x4.toInt + 1) := (i32_add rfl (show (1 : Int32).toInt = 1 by decide) (by omega) (by omega))
        exact ih x3 (x4 + 1)  (by omega)
      · skip
        have r_11 := n_rng r3
        have c_8i : r3.toInt ≠ 0 := bI_neq rfl (show (0 : Int32).toInt = 0 by decide) c_8
        refine ok_bd (t_fX8_at (by first | omega | assumption | decide | (show n_p1 < 2147483648; first | omega | assumption))) (fun r8 q_12 => ?_)
        have r_13 := n_rng x3
        have r_14 := n_rng r8
        try have e_15 : (x3 + r8).toInt = (x3.toInt + r8.toInt) := (i32_add rfl rfl (by omega) (by omega))
        try have e_16 : (x4 + 1).toInt = (x4.toInt + 1) := (i32_add rfl (show (1 : Int32).toInt = 1 by decide) (by omega) (by omega))
        exact ih (x3 + r8) (x4 + 1)  (by omega)
set_option maxHeartbeats 400000 in
set_option maxRecDepth 20000 in
theorem t_fX7_together {z_t : Sx} {n_p1 : Nat} {f_p1 : Nat → Int32} {x2 : Int32} (hnn_p1 : n_p1 < 2147483648) : okP (fX7_together z_t n_p1 f_p1 x2) (fun _ => True) := by
  unfold fX7_together
  try have e_1 : (0 : Int32).toInt = 0 := (show (0 : Int32).toInt = 0 by decide)
  refine tl_lX7_together_5 (by first | omega | assumption | decide) FU 0 0  (FU_lt (by have := n_rng (gI z_t 3); omega))

set_option maxHeartbeats 400000 in
set_option maxRecDepth 20000 in
theorem t_fX7_hiddenCoins {z_t : Sx} {x1 : Int32} : okP (fX7_hiddenCoins z_t x1) (fun _ => True) := by
  unfold fX7_hiddenCoins
  refine ok_bd (t_fX7_together (by first | omega | assumption | decide | (show (10 : Nat) < 2147483648; first | omega | assumption))) (fun r2 q_1 => ?_)
  exact ok_some trivial

set_option maxHeartbeats 400000 in
set_option maxRecDepth 20000 in
theorem t_gX1_hiddenMean {rec : Sx → Sx → Int32 → Int32 → Int32 → Option (Int64 × Sx)} {z_t : Sx} {z_p1 : Sx} {x2 : Int32} {x3 : Int32} {x4 : Int32} {d : Nat} (hrec : ∀ (z_t : Sx) (z_p1 : Sx) (x2 : Int32) (x3 : Int32) (x4 : Int32), (0 ≤ x2.toInt ∧ x2.toInt ≤ 5 ∧ x2.toInt < d) → okP (rec z_t z_p1 x2 x3 x4) (fun y => (FrL [0, 1] z_t y.2))) (d0 : 0 ≤ x2.toInt ∧ x2.toInt ≤ 5 ∧ x2.toInt < d + 1) : okP (gX1_hiddenMean rec z_t z_p1 x2 x3 x4) (fun y => (FrL [0, 1] z_t y.2)) := by
  unfold gX1_hiddenMean
  refine ok_bd2 (t_fX1_choice (by first | omega | assumption | decide | (show 0 ≤ x2.toInt ∧ x2.toInt ≤ 16; first | omega | assumption))) (fun r2 z3 q_1 => ?_)
  have h_2 : FrL [0, 1] z_t z3 := q_1.1
  have h_3 : 0 ≤ r2.toInt → 0 < x2.toInt := q_1.2
  clear q_1
  refine ok_ite (fun c_4 => ?_) (fun c_4 => ?_)
  · skip
    have r_5 := n_rng r2
    have c_4i : 0 ≤ r2.toInt := bI_le (show (0 : Int32).toInt = 0 by decide) rfl c_4
    refine ok_bd (t_fX8_at (by first | omega | assumption | decide | (show (10 : Nat) < 2147483648; first | omega | assumption))) (fun r6 q_6 => ?_)
    refine ok_bd (t_fX8_at (by first | omega | assumption | decide | (show (10 : Nat) < 2147483648; first | omega | assumption))) (fun r8 q_7 => ?_)
    refine ok_bd (t_fX8_bit) (fun r10 q_8 => ?_)
    have h_9 : r10 = (1 : Int32) <<< (r2 &&& 31) := q_8
    clear q_8
    have r_11 := n_rng x2
    have e_12 : (x2 - 1).toInt = (x2.toInt - 1) := (i32_sub rfl (show (1 : Int32).toInt = 1 by decide) (by omega) (by omega))
    refine ok_bd2 (hrec _ _ _ _ _ (by first | omega | assumption | decide | (show 0 ≤ (x2 - 1).toInt ∧ (x2 - 1).toInt ≤ 5 ∧ (x2 - 1).toInt < d; first | omega | assumption))) (fun r12 z13 q_10 => ?_)
    have h_13 : FrL [0, 1] z3 z13 := q_10
    clear q_10
    refine ok_bd2 (hrec _ _ _ _ _ (by first | omega | assumption | decide | (show 0 ≤ (x2 - 1).toInt ∧ (x2 - 1).toInt ≤ 5 ∧ (x2 - 1).toInt < d; first | omega | assumption))) (fun r15 z16 q_14 => ?_)
    have h_15 : FrL [0, 1] z13 z16 := q_14
    clear q_14
    exact ok_some (fr_tr (fr_tr (fr_tr fr_rf h_2 (by decide)) h_13 (by decide)) h_15 (by decide))
  · skip
    have r_16 := n_rng r2
    have c_4i : 0 > r2.toInt := bI_nle (show (0 : Int32).toInt = 0 by decide) rfl c_4
    refine ok_bd (t_fX7_hiddenCoins) (fun r18 q_17 => ?_)
    refine ok_bd (t_fX8_hundreds) (fun r20 q_18 => ?_)
    exact ok_some (fr_tr fr_rf h_2 (by decide))

set_option maxHeartbeats 400000 in
set_option maxRecDepth 20000 in
theorem t_fX1_hiddenMean : ∀ (dp : Nat) (z_t : Sx) (z_p1 : Sx) (x2 : Int32) (x3 : Int32) (x4 : Int32), (0 ≤ x2.toInt ∧ x2.toInt ≤ 5 ∧ x2.toInt < dp) → okP (fX1_hiddenMean dp z_t z_p1 x2 x3 x4) (fun y => (FrL [0, 1] z_t y.2)) := by
  intro dp
  induction dp with
  | zero => intro z_t z_p1 x2 x3 x4 d0; exfalso; omega
  | succ dp ih =>
    intro z_t z_p1 x2 x3 x4 d0
    exact t_gX1_hiddenMean (d := dp) (fun z_t z_p1 x2 x3 x4 d0 => ih z_t z_p1 x2 x3 x4 (by omega)) (by omega)

set_option maxHeartbeats 400000 in
set_option maxRecDepth 20000 in
theorem tl_lX1_leastFree_5 {z_p1 : Sx} {x2 : Int32} (hf : (gI z_p1 3).toInt ≤ 10) : ∀ (n : Nat) (x3 : Int32) (x4 : Int32), (0 ≤ x4.toInt) → (0 ≤ x3.toInt ∧ x3.toInt < 1024) → ((gI z_p1 3).toInt + 0 - x4.toInt).toNat < n → okP (lX1_leastFree_5 z_p1 x2 n x3 x4) (fun y => (0 ≤ y.toInt ∧ y.toInt < 1024)) := by
  intro n
  induction n with
  | zero => intro _ _ _ _ hm; omega
  | succ n ih =>
    intro x3 x4 i0 i1 hm
    rw [lX1_leastFree_5]
    refine ok_ite (fun c_1 => ?_) (fun c_1 => ?_)
    · skip
      have r_2 := n_rng (gI z_p1 3)
      have r_3 := n_rng x4
      have c_1i : (gI z_p1 3).toInt ≤ x4.toInt := bI_le rfl rfl c_1
      exact ok_some (show 0 ≤ x3.toInt ∧ x3.toInt < 1024 by omega)
    · skip
      have r_4 := n_rng (gI z_p1 3)
      have r_5 := n_rng x4
      have c_1i : (gI z_p1 3).toInt > x4.toInt := bI_nle rfl rfl c_1
      refine ok_bd (t_fJ6_bitCount_0f7a4) (fun r3 q_6 => ?_)
      refine ok_ite (fun c_7 => ?_) (fun c_7 => ?_)
      · skip
        have r_8 := n_rng r3
        have c_7i : 6 ≤ r3.toInt := bI_le (show (6 : Int32).toInt = 6 by decide) rfl c_7
        exact ok_some (show 0 ≤ x3.toInt ∧ x3.toInt < 1024 by omega)
      · skip
        have r_9 := n_rng r3
        have c_7i : 6 > r3.toInt := bI_nle (show (6 : Int32).toInt = 6 by decide) rfl c_7
        refine ok_bd (t_fX8_has) (fun r6 q_10 => ?_)
        have h_11 : r6 = 0 ∨ r6 = 1 := q_10
        have h_11i := bool_i h_11
        clear q_10
        refine ok_jn ?_
        refine ok_ite (fun c_12 => ?_) (fun c_12 => ?_)
        · skip
          have r_13 := n_rng r6
          have c_12i : r6.toInt = 0 := bI_eq rfl (show (0 : Int32).toInt = 0 by decide) c_12
          refine ok_bd (t_fX8_bit) (fun r11 q_14 => ?_)
          have h_15 : r11 = (1 : Int32) <<< (x4 &&& 31) := q_14
          clear q_14
          try have e_16 : (x4 + 1).toInt = (x4.toInt + 1) := (i32_add rfl (show (1 : Int32).toInt = 1 by decide) (by omega) (by omega))
          exact ih (x3 ||| r11) (x4 + 1) (by first | omega | assumption | decide) (by first | omega | (have hs := shl_rng (x := x4) (by omega) (by omega); exact or_rng (n := 10) (by decide) (by omega) (by omega) (by subst_vars; omega) (by subst_vars; omega))) (by omega)
        · skip
          have r_17 := n_rng r6
          have c_12i : r6.toInt ≠ 0 := bI_neq rfl (show (0 : Int32).toInt = 0 by decide) c_12
          try have e_18 : (x4 + 1).toInt = (x4.toInt + 1) := (i32_add rfl (show (1 : Int32).toInt = 1 by decide) (by omega) (by omega))
          exact ih x3 (x4 + 1) (by first | omega | assumption | decide) (by first | omega | (have hs := shl_rng (x := x4) (by omega) (by omega); exact or_rng (n := 10) (by decide) (by omega) (by omega) (by subst_vars; omega) (by subst_vars; omega))) (by omega)
set_option maxHeartbeats 400000 in
set_option maxRecDepth 20000 in
theorem t_fX1_leastFree {z_p1 : Sx} {x2 : Int32} (hf : (gI z_p1 3).toInt ≤ 10) : okP (fX1_leastFree z_p1 x2) (fun y => (0 ≤ y.toInt ∧ y.toInt < 1024)) := by
  unfold fX1_leastFree
  try have e_1 : (0 : Int32).toInt = 0 := (show (0 : Int32).toInt = 0 by decide)
  refine tl_lX1_leastFree_5 (by first | omega | assumption | decide) FU 0 0 (by first | omega | assumption | decide) (by first | omega | (have hs := shl_rng (x := x4) (by omega) (by omega); exact or_rng (n := 10) (by decide) (by omega) (by omega) (by subst_vars; omega) (by subst_vars; omega))) (FU_lt (by have := n_rng (gI z_p1 3); omega))

set_option maxHeartbeats 400000 in
set_option maxRecDepth 20000 in
theorem t_fX7_mendingOf {z_t : Sx} {x1 : Int32} : okP (fX7_mendingOf z_t x1) (fun _ => True) := by
  unfold fX7_mendingOf
  refine ok_bd (t_fX7_together (by first | omega | assumption | decide | (show (10 : Nat) < 2147483648; first | omega | assumption))) (fun r2 q_1 => ?_)
  exact ok_some trivial

set_option maxHeartbeats 400000 in
set_option maxRecDepth 20000 in
theorem tl_lX1_weighSets_29 {o_z_t : Sx} {z_p1 : Sx} {x2 : Int32} {x3 : Int32} {x4 : Int32} {x5 : Int32} (hx : 0 ≤ x2.toInt ∧ x2.toInt ≤ 5) (h5 : x5.toInt < 1024) : ∀ (n : Nat) (z_t : Sx) (x6 : Int32), (FrL [0, 1, 2, 3] o_z_t z_t) → (x5.toInt + 1 - x6.toInt).toNat < n → okP (lX1_weighSets_29 z_p1 x2 x3 x4 x5 n z_t x6) (fun y => (FrL [0, 1, 2, 3] o_z_t y)) := by
  intro n
  induction n with
  | zero => intro _ _ _ hm; omega
  | succ n ih =>
    intro z_t x6 frz_t hm
    rw [lX1_weighSets_29]
    refine ok_ite (fun c_1 => ?_) (fun c_1 => ?_)
    · skip
      have r_2 := n_rng x5
      have r_3 := n_rng x6
      have c_1i : x5.toInt < x6.toInt := bI_lt rfl rfl c_1
      exact ok_some frz_t
    · skip
      have r_4 := n_rng x5
      have r_5 := n_rng x6
      have c_1i : x5.toInt ≥ x6.toInt := bI_nlt rfl rfl c_1
      refine ok_jn ?_
      refine ok_ite (fun c_6 => ?_) (fun c_6 => ?_)
      · skip
        have r_7 := n_rng (x6 &&& (x5 ^^^ (-1)))
        have c_6i : (x6 &&& (x5 ^^^ (-1))).toInt = 0 := bI_eq rfl (show (0 : Int32).toInt = 0 by decide) c_6
        refine ok_bd2 (t_fX1_hiddenMean _ _ _ _ _ _ (by first | omega | assumption | decide | (show 0 ≤ x2.toInt ∧ x2.toInt ≤ 5 ∧ x2.toInt < d; first | omega | assumption))) (fun r11 z12 q_8 => ?_)
        have h_9 : FrL [0, 1] z_t z12 := q_8
        clear q_8
        refine ok_bd (t_fX7_mendingOf) (fun r14 q_10 => ?_)
        refine ok_bd (t_fX8_hundreds) (fun r16 q_11 => ?_)
        refine ok_bd (t_fJ6_bitCount_0f7a4) (fun r18 q_12 => ?_)
        refine ok_bd (t_fJ6_bitCount_0f7a4) (fun r20 q_13 => ?_)
        refine ok_jn ?_
        refine ok_ite (fun c_14 => ?_) (fun c_14 => ?_)
        · skip
          have r_15 := n_rng r20
          have r_16 := n_rng r18
          have c_14i : r20.toInt ≤ r18.toInt := bI_le rfl rfl c_14
          refine ok_jn ?_
          refine ok_ite (fun c_17 => ?_) (fun c_17 => ?_)
          · skip
            try have c_17i : (gJ z12 3 0).toInt < (r11.toInt - (r14.toInt64 * r16).toInt) := lI_lt rfl (i64_sub rfl rfl (by omega) (by omega)) c_17
            try have e_18 : (x6 + 1).toInt = (x6.toInt + 1) := (i32_add rfl (show (1 : Int32).toInt = 1 by decide) (by omega) (by omega))
            exact ih (sJ (sI z12 2 x6) 3 0 (r11 - (r14.toInt64 * r16))) (x6 + 1) (fr_J (fr_I (fr_tr frz_t h_9 (by decide)) (by decide)) (by decide)) (by omega)
          · skip
            try have c_17i : (gJ z12 3 0).toInt ≥ (r11.toInt - (r14.toInt64 * r16).toInt) := lI_nlt rfl (i64_sub rfl rfl (by omega) (by omega)) c_17
            refine ok_ite (fun c_19 => ?_) (fun c_19 => ?_)
            · skip
              try have c_19i : (r11.toInt - (r14.toInt64 * r16).toInt) = (gJ z12 3 0).toInt := lI_eq (i64_sub rfl rfl (by omega) (by omega)) rfl c_19
              refine ok_ite (fun c_20 => ?_) (fun c_20 => ?_)
              · skip
                try have e_21 : (x6 + 1).toInt = (x6.toInt + 1) := (i32_add rfl (show (1 : Int32).toInt = 1 by decide) (by omega) (by omega))
                exact ih z12 (x6 + 1) (fr_tr frz_t h_9 (by decide)) (by omega)
              · skip
                exact absurd (by decide) c_20
            · skip
              try have c_19i : (r11.toInt - (r14.toInt64 * r16).toInt) ≠ (gJ z12 3 0).toInt := lI_neq (i64_sub rfl rfl (by omega) (by omega)) rfl c_19
              try have e_22 : (x6 + 1).toInt = (x6.toInt + 1) := (i32_add rfl (show (1 : Int32).toInt = 1 by decide) (by omega) (by omega))
              exact ih z12 (x6 + 1) (fr_tr frz_t h_9 (by decide)) (by omega)
        · skip
          have r_23 := n_rng r20
          have r_24 := n_rng r18
          have c_14i : r20.toInt > r18.toInt := bI_nle rfl rfl c_14
          refine ok_jn ?_
          refine ok_ite (fun c_25 => ?_) (fun c_25 => ?_)
          · skip
            try have c_25i : (gJ z12 3 0).toInt < (r11.toInt - (r14.toInt64 * r16).toInt) := lI_lt rfl (i64_sub rfl rfl (by omega) (by omega)) c_25
            try have e_26 : (x6 + 1).toInt = (x6.toInt + 1) := (i32_add rfl (show (1 : Int32).toInt = 1 by decide) (by omega) (by omega))
            exact ih (sJ (sI z12 2 x6) 3 0 (r11 - (r14.toInt64 * r16))) (x6 + 1) (fr_J (fr_I (fr_tr frz_t h_9 (by decide)) (by decide)) (by decide)) (by omega)
          · skip
            try have c_25i : (gJ z12 3 0).toInt ≥ (r11.toInt - (r14.toInt64 * r16).toInt) := lI_nlt rfl (i64_sub rfl rfl (by omega) (by omega)) c_25
            refine ok_ite (fun c_27 => ?_) (fun c_27 => ?_)
            · skip
              try have c_27i : (r11.toInt - (r14.toInt64 * r16).toInt) = (gJ z12 3 0).toInt := lI_eq (i64_sub rfl rfl (by omega) (by omega)) rfl c_27
              refine ok_ite (fun c_28 => ?_) (fun c_28 => ?_)
              · skip
                exact absurd c_28 (by decide)
              · skip
                try have e_29 : (x6 + 1).toInt = (x6.toInt + 1) := (i32_add rfl (show (1 : Int32).toInt = 1 by decide) (by omega) (by omega))
                exact ih (sJ (sI z12 2 x6) 3 0 (r11 - (r14.toInt64 * r16))) (x6 + 1) (fr_J (fr_I (fr_tr frz_t h_9 (by decide)) (by decide)) (by decide)) (by omega)
            · skip
              try have c_27i : (r11.toInt - (r14.toInt64 * r16).toInt) ≠ (gJ z12 3 0).toInt := lI_neq (i64_sub rfl rfl (by omega) (by omega)) rfl c_27
              try have e_30 : (x6 + 1).toInt = (x6.toInt + 1) := (i32_add rfl (show (1 : Int32).toInt = 1 by decide) (by omega) (by omega))
              exact ih z12 (x6 + 1) (fr_tr frz_t h_9 (by decide)) (by omega)
      · skip
        have r_31 := n_rng (x6 &&& (x5 ^^^ (-1)))
        have c_6i : (x6 &&& (x5 ^^^ (-1))).toInt ≠ 0 := bI_neq rfl (show (0 : Int32).toInt = 0 by decide) c_6
        try have e_32 : (x6 + 1).toInt = (x6.toInt + 1) := (i32_add rfl (show (1 : Int32).toInt = 1 by decide) (by omega) (by omega))
        exact ih z_t (x6 + 1) frz_t (by omega)
set_option maxHeartbeats 400000 in
set_option maxRecDepth 20000 in
theorem t_fX1_weighSets {z_t : Sx} {z_p1 : Sx} {x2 : Int32} {x3 : Int32} {x4 : Int32} (hf : (gI z_p1 3).toInt ≤ 10) (hx : 0 ≤ x2.toInt ∧ x2.toInt ≤ 5) : okP (fX1_weighSets z_t z_p1 x2 x3 x4) (fun y => (FrL [0, 1, 2, 3] z_t y)) := by
  unfold fX1_weighSets
  refine ok_bd (t_fX1_leastFree (by first | omega | assumption | decide | (show (gI z_p1 3).toInt ≤ 10; first | omega | assumption))) (fun r2 q_1 => ?_)
  have h_2 : 0 ≤ r2.toInt ∧ r2.toInt < 1024 := q_1
  clear q_1
  refine ok_bd2 (t_fX1_hiddenMean _ _ _ _ _ _ (by first | omega | assumption | decide | (show 0 ≤ x2.toInt ∧ x2.toInt ≤ 5 ∧ x2.toInt < d; first | omega | assumption))) (fun r4 z5 q_3 => ?_)
  have h_4 : FrL [0, 1] (sI z_t 2 0) z5 := q_3
  clear q_3
  try have e_5 : (1 : Int32).toInt = 1 := (show (1 : Int32).toInt = 1 by decide)
  refine tl_lX1_weighSets_29 (by first | omega | assumption | decide) (by first | omega | assumption | decide) FU (sJ z5 3 0 r4) 1 (fr_J (fr_tr (fr_I fr_rf (by decide)) h_4 (by decide)) (by decide)) (FU_lt (by have := n_rng r2; omega))

set_option maxHeartbeats 400000 in
set_option maxRecDepth 20000 in
theorem t_fX2_compares {x0 : Int32} {x1 : Int64} {x3 : Int64} : okP (fX2_compares x0 x1 x3) (fun y => (y = 0 ∨ y = 1)) := by
  unfold fX2_compares
  refine ok_ite (fun c_1 => ?_) (fun c_1 => ?_)
  · skip
    have r_2 := n_rng x0
    have c_1i : x0.toInt = 60 := bI_eq rfl (show (60 : Int32).toInt = 60 by decide) c_1
    refine ok_ite (fun c_3 => ?_) (fun c_3 => ?_)
    · skip
      have c_3i : x3.toInt ≤ x1.toInt := lI_le rfl rfl c_3
      exact ok_some (Or.inl rfl)
    · skip
      have c_3i : x3.toInt > x1.toInt := lI_nle rfl rfl c_3
      exact ok_some (Or.inr rfl)
  · skip
    have r_4 := n_rng x0
    have c_1i : x0.toInt ≠ 60 := bI_neq rfl (show (60 : Int32).toInt = 60 by decide) c_1
    refine ok_ite (fun c_5 => ?_) (fun c_5 => ?_)
    · skip
      have c_5i : x0.toInt = 61 := bI_eq rfl (show (61 : Int32).toInt = 61 by decide) c_5
      refine ok_ite (fun c_6 => ?_) (fun c_6 => ?_)
      · skip
        have c_6i : x1.toInt = x3.toInt := lI_eq rfl rfl c_6
        exact ok_some (Or.inr rfl)
      · skip
        have c_6i : x1.toInt ≠ x3.toInt := lI_neq rfl rfl c_6
        exact ok_some (Or.inl rfl)
    · skip
      have c_5i : x0.toInt ≠ 61 := bI_neq rfl (show (61 : Int32).toInt = 61 by decide) c_5
      refine ok_ite (fun c_7 => ?_) (fun c_7 => ?_)
      · skip
        have c_7i : x0.toInt = 256 := bI_eq rfl (show (256 : Int32).toInt = 256 by decide) c_7
        refine ok_ite (fun c_8 => ?_) (fun c_8 => ?_)
        · skip
          have c_8i : x3.toInt < x1.toInt := lI_lt rfl rfl c_8
          exact ok_some (Or.inl rfl)
        · skip
          have c_8i : x3.toInt ≥ x1.toInt := lI_nlt rfl rfl c_8
          exact ok_some (Or.inr rfl)
      · skip
        have c_7i : x0.toInt ≠ 256 := bI_neq rfl (show (256 : Int32).toInt = 256 by decide) c_7
        refine ok_ite (fun c_9 => ?_) (fun c_9 => ?_)
        · skip
          have c_9i : x0.toInt = 257 := bI_eq rfl (show (257 : Int32).toInt = 257 by decide) c_9
          refine ok_ite (fun c_10 => ?_) (fun c_10 => ?_)
          · skip
            have c_10i : x1.toInt < x3.toInt := lI_lt rfl rfl c_10
            exact ok_some (Or.inl rfl)
          · skip
            have c_10i : x1.toInt ≥ x3.toInt := lI_nlt rfl rfl c_10
            exact ok_some (Or.inr rfl)
        · skip
          have c_9i : x0.toInt ≠ 257 := bI_neq rfl (show (257 : Int32).toInt = 257 by decide) c_9
          refine ok_ite (fun c_11 => ?_) (fun c_11 => ?_)
          · skip
            have c_11i : x1.toInt ≤ x3.toInt := lI_le rfl rfl c_11
            exact ok_some (Or.inl rfl)
          · skip
            have c_11i : x1.toInt > x3.toInt := lI_nle rfl rfl c_11
            exact ok_some (Or.inr rfl)

set_option maxHeartbeats 400000 in
set_option maxRecDepth 20000 in
theorem t_fX2_join {x0 : Int32} {x1 : Int64} {x3 : Int64} : okP (fX2_join x0 x1 x3) (fun _ => True) := by
  unfold fX2_join
  refine ok_ite (fun c_1 => ?_) (fun c_1 => ?_)
  · skip
    have r_2 := n_rng x0
    have c_1i : x0.toInt = 42 := bI_eq rfl (show (42 : Int32).toInt = 42 by decide) c_1
    exact ok_some trivial
  · skip
    have r_3 := n_rng x0
    have c_1i : x0.toInt ≠ 42 := bI_neq rfl (show (42 : Int32).toInt = 42 by decide) c_1
    refine ok_ite (fun c_4 => ?_) (fun c_4 => ?_)
    · skip
      have c_4i : x0.toInt = 43 := bI_eq rfl (show (43 : Int32).toInt = 43 by decide) c_4
      exact ok_some trivial
    · skip
      have c_4i : x0.toInt ≠ 43 := bI_neq rfl (show (43 : Int32).toInt = 43 by decide) c_4
      refine ok_ite (fun c_5 => ?_) (fun c_5 => ?_)
      · skip
        have c_5i : x0.toInt = 45 := bI_eq rfl (show (45 : Int32).toInt = 45 by decide) c_5
        exact ok_some trivial
      · skip
        have c_5i : x0.toInt ≠ 45 := bI_neq rfl (show (45 : Int32).toInt = 45 by decide) c_5
        refine ok_ite (fun c_6 => ?_) (fun c_6 => ?_)
        · skip
          have c_6i : x0.toInt = 47 := bI_eq rfl (show (47 : Int32).toInt = 47 by decide) c_6
          refine ok_ite (fun c_7 => ?_) (fun c_7 => ?_)
          · skip
            have c_7i : x3.toInt = 0 := lI_eq rfl (show (0 : Int64).toInt = 0 by decide) c_7
            exact ok_some trivial
          · skip
            have c_7i : x3.toInt ≠ 0 := lI_neq rfl (show (0 : Int64).toInt = 0 by decide) c_7
            refine ok_gd (by assumption) ?_
            exact ok_some trivial
        · skip
          have c_6i : x0.toInt ≠ 47 := bI_neq rfl (show (47 : Int32).toInt = 47 by decide) c_6
          refine ok_ite (fun c_8 => ?_) (fun c_8 => ?_)
          · skip
            have c_8i : x0.toInt = 309 := bI_eq rfl (show (309 : Int32).toInt = 309 by decide) c_8
            exact ok_some trivial
          · skip
            have c_8i : x0.toInt ≠ 309 := bI_neq rfl (show (309 : Int32).toInt = 309 by decide) c_8
            refine ok_ite (fun c_9 => ?_) (fun c_9 => ?_)
            · skip
              have c_9i : x0.toInt = 310 := bI_eq rfl (show (310 : Int32).toInt = 310 by decide) c_9
              exact ok_some trivial
            · skip
              have c_9i : x0.toInt ≠ 310 := bI_neq rfl (show (310 : Int32).toInt = 310 by decide) c_9
              refine ok_bd (t_fX2_compares) (fun r5 q_10 => ?_)
              have h_11 : r5 = 0 ∨ r5 = 1 := q_10
              have h_11i := bool_i h_11
              clear q_10
              refine ok_ite (fun c_12 => ?_) (fun c_12 => ?_)
              · skip
                have r_13 := n_rng r5
                have c_12i : r5.toInt = 0 := bI_eq rfl (show (0 : Int32).toInt = 0 by decide) c_12
                exact ok_some trivial
              · skip
                have r_14 := n_rng r5
                have c_12i : r5.toInt ≠ 0 := bI_neq rfl (show (0 : Int32).toInt = 0 by decide) c_12
                exact ok_some trivial

set_option maxHeartbeats 400000 in
set_option maxRecDepth 20000 in
theorem t_fX2_wordOf {z_p1 : Sx} {z_p2 : Sx} {x0 : Int32} {x3 : Int32} : okP (fX2_wordOf z_p1 z_p2 x0 x3) (fun _ => True) := by
  unfold fX2_wordOf
  refine ok_ite (fun c_1 => ?_) (fun c_1 => ?_)
  · skip
    have r_2 := n_rng x0
    have c_1i : x0.toInt = 312 := bI_eq rfl (show (312 : Int32).toInt = 312 by decide) c_1
    exact ok_some trivial
  · skip
    have r_3 := n_rng x0
    have c_1i : x0.toInt ≠ 312 := bI_neq rfl (show (312 : Int32).toInt = 312 by decide) c_1
    refine ok_ite (fun c_4 => ?_) (fun c_4 => ?_)
    · skip
      have c_4i : x0.toInt = 313 := bI_eq rfl (show (313 : Int32).toInt = 313 by decide) c_4
      refine ok_bd (t_fX8_at (by first | omega | assumption | decide | (show (10 : Nat) < 2147483648; first | omega | assumption))) (fun r3 q_5 => ?_)
      exact ok_some trivial
    · skip
      have c_4i : x0.toInt ≠ 313 := bI_neq rfl (show (313 : Int32).toInt = 313 by decide) c_4
      refine ok_ite (fun c_6 => ?_) (fun c_6 => ?_)
      · skip
        have c_6i : x0.toInt = 314 := bI_eq rfl (show (314 : Int32).toInt = 314 by decide) c_6
        refine ok_bd (t_fX8_at (by first | omega | assumption | decide | (show (10 : Nat) < 2147483648; first | omega | assumption))) (fun r5 q_7 => ?_)
        exact ok_some trivial
      · skip
        have c_6i : x0.toInt ≠ 314 := bI_neq rfl (show (314 : Int32).toInt = 314 by decide) c_6
        refine ok_ite (fun c_8 => ?_) (fun c_8 => ?_)
        · skip
          have c_8i : x0.toInt = 315 := bI_eq rfl (show (315 : Int32).toInt = 315 by decide) c_8
          refine ok_bd (t_fX8_at (by first | omega | assumption | decide | (show (10 : Nat) < 2147483648; first | omega | assumption))) (fun r7 q_9 => ?_)
          exact ok_some trivial
        · skip
          have c_8i : x0.toInt ≠ 315 := bI_neq rfl (show (315 : Int32).toInt = 315 by decide) c_8
          refine ok_ite (fun c_10 => ?_) (fun c_10 => ?_)
          · skip
            have c_10i : x0.toInt = 316 := bI_eq rfl (show (316 : Int32).toInt = 316 by decide) c_10
            refine ok_bd (t_fX8_at (by first | omega | assumption | decide | (show (10 : Nat) < 2147483648; first | omega | assumption))) (fun r9 q_11 => ?_)
            exact ok_some trivial
          · skip
            have c_10i : x0.toInt ≠ 316 := bI_neq rfl (show (316 : Int32).toInt = 316 by decide) c_10
            refine ok_ite (fun c_12 => ?_) (fun c_12 => ?_)
            · skip
              have c_12i : x0.toInt = 317 := bI_eq rfl (show (317 : Int32).toInt = 317 by decide) c_12
              exact ok_some trivial
            · skip
              have c_12i : x0.toInt ≠ 317 := bI_neq rfl (show (317 : Int32).toInt = 317 by decide) c_12
              refine ok_ite (fun c_13 => ?_) (fun c_13 => ?_)
              · skip
                have c_13i : x0.toInt = 318 := bI_eq rfl (show (318 : Int32).toInt = 318 by decide) c_13
                refine ok_bd (t_fJ6_bitCount_0f7a4) (fun r11 q_14 => ?_)
                exact ok_some trivial
              · skip
                have c_13i : x0.toInt ≠ 318 := bI_neq rfl (show (318 : Int32).toInt = 318 by decide) c_13
                refine ok_ite (fun c_15 => ?_) (fun c_15 => ?_)
                · skip
                  have c_15i : x0.toInt = 319 := bI_eq rfl (show (319 : Int32).toInt = 319 by decide) c_15
                  refine ok_bd (t_fX8_at (by first | omega | assumption | decide | (show (10 : Nat) < 2147483648; first | omega | assumption))) (fun r13 q_16 => ?_)
                  exact ok_some trivial
                · skip
                  have c_15i : x0.toInt ≠ 319 := bI_neq rfl (show (319 : Int32).toInt = 319 by decide) c_15
                  exact ok_some trivial

set_option maxHeartbeats 400000 in
set_option maxRecDepth 20000 in
theorem tl_lX2_reckon_10 {o_z_t : Sx} {k170 : Sx → Int32 → Option (Int64 × Sx)} {n_p1 : Nat} {f_p1 : Nat → Int32} {z_p4 : Sx} {z_p5 : Sx} {x3 : Int32} {x6 : Int32} (Hk170 : ∀ (y0 : Sx) (y1 : Int32), (FrL [0] o_z_t y0) → (-1 ≤ y1.toInt ∧ y1.toInt < 32) → okP (k170 y0 y1) (fun y => (FrL [0] o_z_t y.2))) (hnn_p1 : n_p1 < 2147483648) : ∀ (n : Nat) (z_t : Sx) (x7 : Int32) (x8 : Int32), (FrL [0] o_z_t z_t) → (-1 ≤ x7.toInt ∧ x7.toInt < 32) → (0 ≤ x8.toInt) → (n_p1 - x8.toInt).toNat < n → okP (lX2_reckon_10 k170 n_p1 f_p1 z_p4 z_p5 x3 x6 n z_t x7 x8) (fun y => (FrL [0] o_z_t y.2)) := by
  intro n
  induction n with
  | zero => intro _ _ _ _ _ _ hm; omega
  | succ n ih =>
    intro z_t x7 x8 frz_t i7 i8 hm
    rw [lX2_reckon_10]
    refine ok_ite (fun c_1 => ?_) (fun c_1 => ?_)
    · skip
      have r_2 := n_rng x3
      have r_3 := n_rng x8
      have c_1i : x3.toInt ≤ x8.toInt := bI_le rfl rfl c_1
      exact Hk170 z_t x7 frz_t (by first | omega | assumption | decide)
    · skip
      have r_4 := n_rng x3
      have r_5 := n_rng x8
      have c_1i : x3.toInt > x8.toInt := bI_nle rfl rfl c_1
      refine ok_ite (fun c_6 => ?_) (fun c_6 => ?_)
      · skip
        try have c_6i : (n_p1 : Int) ≤ x8.toInt := bI_le (nI_toInt (by omega)) rfl c_6
        exact Hk170 z_t x7 frz_t (by first | omega | assumption | decide)
      · skip
        try have c_6i : (n_p1 : Int) > x8.toInt := bI_nle (nI_toInt (by omega)) rfl c_6
        refine ok_gd (inb_of (by omega) (by omega)) ?_
        refine ok_jn ?_
        refine ok_jn ?_
        refine ok_ite (fun c_7 => ?_) (fun c_7 => ?_)
        · skip
          have r_8 := n_rng (f_p1 x8.toNatClampNeg)
          have c_7i : 0 ≤ (f_p1 x8.toNatClampNeg).toInt := bI_le (show (0 : Int32).toInt = 0 by decide) rfl c_7
          refine ok_ite (fun c_9 => ?_) (fun c_9 => ?_)
          · skip
            have r_10 := n_rng x7
            try have c_9i : (x7.toInt + 1) < 32 := bI_lt (i32_add rfl (show (1 : Int32).toInt = 1 by decide) (by omega) (by omega)) (show (32 : Int32).toInt = 32 by decide) c_9
            refine ok_jn ?_
            refine ok_ite (fun c_11 => ?_) (fun c_11 => ?_)
            · skip
              have c_11i : (f_p1 x8.toNatClampNeg).toInt < 0 := bI_lt rfl (show (0 : Int32).toInt = 0 by decide) c_11
              refine ok_bd (t_fX2_wordOf) (fun r15 q_12 => ?_)
              have e_13 : (x7 + 1).toInt = (x7.toInt + 1) := (i32_add rfl (show (1 : Int32).toInt = 1 by decide) (by omega) (by omega))
              refine ok_gd (inb_of (by omega) (by omega)) ?_
              try have e_14 : (x8 + 1).toInt = (x8.toInt + 1) := (i32_add rfl (show (1 : Int32).toInt = 1 by decide) (by omega) (by omega))
              exact ih (sJ z_t 0 (x7 + 1).toNatClampNeg r15) (x7 + 1) (x8 + 1) (fr_J frz_t (by decide)) (by first | omega | assumption | decide) (by first | omega | assumption | decide) (by omega)
            · skip
              have c_11i : (f_p1 x8.toNatClampNeg).toInt ≥ 0 := bI_nlt rfl (show (0 : Int32).toInt = 0 by decide) c_11
              have e_15 : (x7 + 1).toInt = (x7.toInt + 1) := (i32_add rfl (show (1 : Int32).toInt = 1 by decide) (by omega) (by omega))
              refine ok_gd (inb_of (by omega) (by omega)) ?_
              try have e_16 : (x8 + 1).toInt = (x8.toInt + 1) := (i32_add rfl (show (1 : Int32).toInt = 1 by decide) (by omega) (by omega))
              exact ih (sJ z_t 0 (x7 + 1).toNatClampNeg (f_p1 x8.toNatClampNeg).toInt64) (x7 + 1) (x8 + 1) (fr_J frz_t (by decide)) (by first | omega | assumption | decide) (by first | omega | assumption | decide) (by omega)
          · skip
            have r_17 := n_rng x7
            try have c_9i : (x7.toInt + 1) ≥ 32 := bI_nlt (i32_add rfl (show (1 : Int32).toInt = 1 by decide) (by omega) (by omega)) (show (32 : Int32).toInt = 32 by decide) c_9
            exact ok_some frz_t
        · skip
          have r_18 := n_rng (f_p1 x8.toNatClampNeg)
          have c_7i : 0 > (f_p1 x8.toNatClampNeg).toInt := bI_nle (show (0 : Int32).toInt = 0 by decide) rfl c_7
          refine ok_ite (fun c_19 => ?_) (fun c_19 => ?_)
          · skip
            have c_19i : (-312) < (f_p1 x8.toNatClampNeg).toInt := bI_lt (show (-312 : Int32).toInt = -312 by decide) rfl c_19
            refine ok_ite (fun c_20 => ?_) (fun c_20 => ?_)
            · skip
              have c_20i : (f_p1 x8.toNatClampNeg).toInt = (-311) := bI_eq rfl (show (-311 : Int32).toInt = -311 by decide) c_20
              refine ok_ite (fun c_21 => ?_) (fun c_21 => ?_)
              · skip
                have r_22 := n_rng x7
                have c_21i : 0 ≤ x7.toInt := bI_le (show (0 : Int32).toInt = 0 by decide) rfl c_21
                refine ok_gd (inb_of (by omega) (by omega)) ?_
                try have e_23 : (x8 + 1).toInt = (x8.toInt + 1) := (i32_add rfl (show (1 : Int32).toInt = 1 by decide) (by omega) (by omega))
                exact ih (sJ z_t 0 x7.toNatClampNeg (1 - (gJ z_t 0 x7.toNatClampNeg))) x7 (x8 + 1) (fr_J frz_t (by decide)) (by first | omega | assumption | decide) (by first | omega | assumption | decide) (by omega)
              · skip
                have r_24 := n_rng x7
                have c_21i : 0 > x7.toInt := bI_nle (show (0 : Int32).toInt = 0 by decide) rfl c_21
                exact ok_some frz_t
            · skip
              have c_20i : (f_p1 x8.toNatClampNeg).toInt ≠ (-311) := bI_neq rfl (show (-311 : Int32).toInt = -311 by decide) c_20
              refine ok_ite (fun c_25 => ?_) (fun c_25 => ?_)
              · skip
                have r_26 := n_rng x7
                have c_25i : 1 ≤ x7.toInt := bI_le (show (1 : Int32).toInt = 1 by decide) rfl c_25
                have e_27 : (x7 + (-1)).toInt = (x7.toInt + (-1)) := (i32_add rfl (show (-1 : Int32).toInt = -1 by decide) (by omega) (by omega))
                refine ok_gd (inb_of (by omega) (by omega)) ?_
                have e_28 : ((x7 + (-1)) + 1).toInt = ((x7.toInt + (-1)) + 1) := (i32_add (i32_add rfl (show (-1 : Int32).toInt = -1 by decide) (by omega) (by omega)) (show (1 : Int32).toInt = 1 by decide) (by omega) (by omega))
                refine ok_gd (inb_of (by omega) (by omega)) ?_
                refine ok_bd (t_fX2_join) (fun r23 q_29 => ?_)
                try have e_30 : (x8 + 1).toInt = (x8.toInt + 1) := (i32_add rfl (show (1 : Int32).toInt = 1 by decide) (by omega) (by omega))
                exact ih (sJ z_t 0 (x7 + (-1)).toNatClampNeg r23) (x7 + (-1)) (x8 + 1) (fr_J frz_t (by decide)) (by first | omega | assumption | decide) (by first | omega | assumption | decide) (by omega)
              · skip
                have r_31 := n_rng x7
                have c_25i : 1 > x7.toInt := bI_nle (show (1 : Int32).toInt = 1 by decide) rfl c_25
                exact ok_some frz_t
          · skip
            have c_19i : (-312) ≥ (f_p1 x8.toNatClampNeg).toInt := bI_nlt (show (-312 : Int32).toInt = -312 by decide) rfl c_19
            refine ok_ite (fun c_32 => ?_) (fun c_32 => ?_)
            · skip
              have r_33 := n_rng x7
              try have c_32i : (x7.toInt + 1) < 32 := bI_lt (i32_add rfl (show (1 : Int32).toInt = 1 by decide) (by omega) (by omega)) (show (32 : Int32).toInt = 32 by decide) c_32
              refine ok_jn ?_
              refine ok_ite (fun c_34 => ?_) (fun c_34 => ?_)
              · skip
                have c_34i : (f_p1 x8.toNatClampNeg).toInt < 0 := bI_lt rfl (show (0 : Int32).toInt = 0 by decide) c_34
                refine ok_bd (t_fX2_wordOf) (fun r15 q_35 => ?_)
                have e_36 : (x7 + 1).toInt = (x7.toInt + 1) := (i32_add rfl (show (1 : Int32).toInt = 1 by decide) (by omega) (by omega))
                refine ok_gd (inb_of (by omega) (by omega)) ?_
                try have e_37 : (x8 + 1).toInt = (x8.toInt + 1) := (i32_add rfl (show (1 : Int32).toInt = 1 by decide) (by omega) (by omega))
                exact ih (sJ z_t 0 (x7 + 1).toNatClampNeg r15) (x7 + 1) (x8 + 1) (fr_J frz_t (by decide)) (by first | omega | assumption | decide) (by first | omega | assumption | decide) (by omega)
              · skip
                have c_34i : (f_p1 x8.toNatClampNeg).toInt ≥ 0 := bI_nlt rfl (show (0 : Int32).toInt = 0 by decide) c_34
                have e_38 : (x7 + 1).toInt = (x7.toInt + 1) := (i32_add rfl (show (1 : Int32).toInt = 1 by decide) (by omega) (by omega))
                refine ok_gd (inb_of (by omega) (by omega)) ?_
                try have e_39 : (x8 + 1).toInt = (x8.toInt + 1) := (i32_add rfl (show (1 : Int32).toInt = 1 by decide) (by omega) (by omega))
                exact ih (sJ z_t 0 (x7 + 1).toNatClampNeg (f_p1 x8.toNatClampNeg).toInt64) (x7 + 1) (x8 + 1) (fr_J frz_t (by decide)) (by first | omega | assumption | decide) (by first | omega | assumption | decide) (by omega)
            · skip
              have r_40 := n_rng x7
              try have c_32i : (x7.toInt + 1) ≥ 32 := bI_nlt (i32_add rfl (show (1 : Int32).toInt = 1 by decide) (by omega) (by omega)) (show (32 : Int32).toInt = 32 by decide) c_32
              exact ok_some frz_t
set_option maxHeartbeats 400000 in
set_option maxRecDepth 20000 in
theorem t_fX2_reckon {z_t : Sx} {n_p1 : Nat} {f_p1 : Nat → Int32} {z_p4 : Sx} {z_p5 : Sx} {x2 : Int32} {x3 : Int32} {x6 : Int32} (hnn_p1 : n_p1 < 2147483648) : okP (fX2_reckon z_t n_p1 f_p1 z_p4 z_p5 x2 x3 x6) (fun y => (FrL [0] z_t y.2)) := by
  unfold fX2_reckon
  try have e_3 : (-1 : Int32).toInt = (-1) := (show (-1 : Int32).toInt = -1 by decide)
  have r_4 := n_rng x2
  try have e_5 : (mxI x2 0).toInt = (max x2.toInt 0) := (mxI_toInt rfl (show (0 : Int32).toInt = 0 by decide))
  refine tl_lX2_reckon_10 (fun z26 i27 k_1 k_2 => ?_) (by first | omega | assumption | decide) FU z_t (-1) (mxI x2 0) fr_rf (by first | omega | assumption | decide) (by rw [mxI_toInt rfl (show (0 : Int32).toInt = 0 by decide)]; omega) (FU_lt (by have := mxI_toInt (x := x2) (y := 0) rfl (show (0 : Int32).toInt = 0 by decide); omega))
  · skip
    refine ok_ite (fun c_6 => ?_) (fun c_6 => ?_)
    · skip
      have r_7 := n_rng i27
      have c_6i : 0 ≤ i27.toInt := bI_le (show (0 : Int32).toInt = 0 by decide) rfl c_6
      refine ok_gd (inb_of (by omega) (by omega)) ?_
      exact ok_some k_1
    · skip
      have r_8 := n_rng i27
      have c_6i : 0 > i27.toInt := bI_nle (show (0 : Int32).toInt = 0 by decide) rfl c_6
      exact ok_some k_1

set_option maxHeartbeats 400000 in
set_option maxRecDepth 20000 in
theorem tl_lX2_lookClause_3 {o_z_t : Sx} {z_p1 : Sx} {nc_p2 : Nat} {z_p2 : Sx} {z_p3 : Sx} {x4 : Int32} (hnnc_p2 : nc_p2 < 2147483648) : ∀ (n : Nat) (z_t : Sx) (x5 : Int32), (FrL [0] o_z_t z_t) → ((gI z_p2 1).toInt + 0 - x5.toInt).toNat < n → okP (lX2_lookClause_3 z_p1 nc_p2 z_p2 z_p3 x4 n z_t x5) (fun y => (FrL [0] o_z_t y.2)) := by
  intro n
  induction n with
  | zero => intro _ _ _ hm; omega
  | succ n ih =>
    intro z_t x5 frz_t hm
    rw [lX2_lookClause_3]
    refine ok_ite (fun c_1 => ?_) (fun c_1 => ?_)
    · skip
      have r_2 := n_rng (gI z_p2 1)
      have r_3 := n_rng x5
      have c_1i : (gI z_p2 1).toInt ≤ x5.toInt := bI_le rfl rfl c_1
      exact ok_some frz_t
    · skip
      have r_4 := n_rng (gI z_p2 1)
      have r_5 := n_rng x5
      have c_1i : (gI z_p2 1).toInt > x5.toInt := bI_nle rfl rfl c_1
      refine ok_bd (t_fX8_at (by first | omega | assumption | decide | (show (12 : Nat) < 2147483648; first | omega | assumption))) (fun r3 q_6 => ?_)
      refine ok_bd (t_fX8_at (by first | omega | assumption | decide | (show (12 : Nat) < 2147483648; first | omega | assumption))) (fun r5 q_7 => ?_)
      refine ok_bd (t_fX8_at (by first | omega | assumption | decide | (show (12 : Nat) < 2147483648; first | omega | assumption))) (fun r7 q_8 => ?_)
      refine ok_jn ?_
      refine ok_ite (fun c_9 => ?_) (fun c_9 => ?_)
      · skip
        have r_10 := n_rng r3
        have r_11 := n_rng r7
        have c_9i : r3.toInt ≤ r7.toInt := bI_le rfl rfl c_9
        refine ok_jn ?_
        refine ok_ite (fun c_12 => ?_) (fun c_12 => ?_)
        · skip
          try have e_13 : (x5 + 1).toInt = (x5.toInt + 1) := (i32_add rfl (show (1 : Int32).toInt = 1 by decide) (by omega) (by omega))
          exact ih z_t (x5 + 1) frz_t (by omega)
        · skip
          exact absurd (by decide) c_12
      · skip
        have r_14 := n_rng r3
        have r_15 := n_rng r7
        have c_9i : r3.toInt > r7.toInt := bI_nle rfl rfl c_9
        refine ok_jn ?_
        refine ok_ite (fun c_16 => ?_) (fun c_16 => ?_)
        · skip
          exact absurd c_16 (by decide)
        · skip
          refine ok_ite (fun c_17 => ?_) (fun c_17 => ?_)
          · skip
            have r_18 := n_rng r5
            have c_17i : r3.toInt = r5.toInt := bI_eq rfl rfl c_17
            exact ok_some frz_t
          · skip
            have r_19 := n_rng r5
            have c_17i : r3.toInt ≠ r5.toInt := bI_neq rfl rfl c_17
            refine ok_bd2 (t_fX2_reckon (by first | omega | assumption | decide | (show nc_p2 < 2147483648; first | omega | assumption))) (fun r15 z16 q_20 => ?_)
            have h_21 : FrL [0] z_t z16 := q_20
            clear q_20
            refine ok_ite (fun c_22 => ?_) (fun c_22 => ?_)
            · skip
              have c_22i : r15.toInt = 0 := lI_eq rfl (show (0 : Int64).toInt = 0 by decide) c_22
              try have e_23 : (x5 + 1).toInt = (x5.toInt + 1) := (i32_add rfl (show (1 : Int32).toInt = 1 by decide) (by omega) (by omega))
              exact ih z16 (x5 + 1) (fr_tr frz_t h_21 (by decide)) (by omega)
            · skip
              have c_22i : r15.toInt ≠ 0 := lI_neq rfl (show (0 : Int64).toInt = 0 by decide) c_22
              exact ok_some (fr_tr frz_t h_21 (by decide))
set_option maxHeartbeats 400000 in
set_option maxRecDepth 20000 in
theorem t_fX2_lookClause {z_t : Sx} {z_p1 : Sx} {nc_p2 : Nat} {z_p2 : Sx} {z_p3 : Sx} {x4 : Int32} (hnnc_p2 : nc_p2 < 2147483648) : okP (fX2_lookClause z_t z_p1 nc_p2 z_p2 z_p3 x4) (fun y => (FrL [0] z_t y.2)) := by
  unfold fX2_lookClause
  try have e_1 : (0 : Int32).toInt = 0 := (show (0 : Int32).toInt = 0 by decide)
  refine tl_lX2_lookClause_3 (by first | omega | assumption | decide) FU z_t 0 fr_rf (FU_lt (by have := n_rng (gI z_p2 1); omega))

set_option maxHeartbeats 400000 in
set_option maxRecDepth 20000 in
theorem tl_lX2_nextFault_9 {o_z_t : Sx} {z_p1 : Sx} {nc_p2 : Nat} {z_p2 : Sx} {z_p3 : Sx} (hnnc_p2 : nc_p2 < 2147483648) : ∀ (n : Nat) (z_t : Sx) (x4 : Int32) (x5 : Int64) (x7 : Int32), (FrL [0] o_z_t z_t) → ((gI z_p1 3).toInt + 0 - x7.toInt).toNat < n → okP (lX2_nextFault_9 z_p1 nc_p2 z_p2 z_p3 n z_t x4 x5 x7) (fun y => (FrL [0] o_z_t y.2)) := by
  intro n
  induction n with
  | zero => intro _ _ _ _ _ hm; omega
  | succ n ih =>
    intro z_t x4 x5 x7 frz_t hm
    rw [lX2_nextFault_9]
    refine ok_ite (fun c_1 => ?_) (fun c_1 => ?_)
    · skip
      have r_2 := n_rng (gI z_p1 3)
      have r_3 := n_rng x7
      have c_1i : (gI z_p1 3).toInt ≤ x7.toInt := bI_le rfl rfl c_1
      exact ok_some frz_t
    · skip
      have r_4 := n_rng (gI z_p1 3)
      have r_5 := n_rng x7
      have c_1i : (gI z_p1 3).toInt > x7.toInt := bI_nle rfl rfl c_1
      refine ok_bd (t_fX0_gone) (fun r3 q_6 => ?_)
      refine ok_bd (t_fX7_isOpen) (fun r5 q_7 => ?_)
      have h_8 : r5 = 0 ∨ r5 = 1 := q_7
      have h_8i := bool_i h_8
      clear q_7
      refine ok_jn ?_
      refine ok_jn ?_
      refine ok_ite (fun c_9 => ?_) (fun c_9 => ?_)
      · skip
        have r_10 := n_rng r5
        have c_9i : r5.toInt = 0 := bI_eq rfl (show (0 : Int32).toInt = 0 by decide) c_9
        refine ok_jn ?_
        refine ok_ite (fun c_11 => ?_) (fun c_11 => ?_)
        · skip
          refine ok_jn ?_
          refine ok_ite (fun c_12 => ?_) (fun c_12 => ?_)
          · skip
            try have e_13 : (x7 + 1).toInt = (x7.toInt + 1) := (i32_add rfl (show (1 : Int32).toInt = 1 by decide) (by omega) (by omega))
            exact ih z_t x4 x5 (x7 + 1) frz_t (by omega)
          · skip
            exact absurd (by decide) c_12
        · skip
          exact absurd (by decide) c_11
      · skip
        have r_14 := n_rng r5
        have c_9i : r5.toInt ≠ 0 := bI_neq rfl (show (0 : Int32).toInt = 0 by decide) c_9
        refine ok_bd (t_fX8_at (by first | omega | assumption | decide | (show (10 : Nat) < 2147483648; first | omega | assumption))) (fun r33 q_15 => ?_)
        refine ok_ite (fun c_16 => ?_) (fun c_16 => ?_)
        · skip
          have r_17 := n_rng (gI z_p3 0)
          have r_18 := n_rng r33
          have c_16i : (gI z_p3 0).toInt < r33.toInt := bI_lt rfl rfl c_16
          refine ok_jn ?_
          refine ok_ite (fun c_19 => ?_) (fun c_19 => ?_)
          · skip
            refine ok_jn ?_
            refine ok_ite (fun c_20 => ?_) (fun c_20 => ?_)
            · skip
              try have e_21 : (x7 + 1).toInt = (x7.toInt + 1) := (i32_add rfl (show (1 : Int32).toInt = 1 by decide) (by omega) (by omega))
              exact ih z_t x4 x5 (x7 + 1) frz_t (by omega)
            · skip
              exact absurd (by decide) c_20
          · skip
            exact absurd (by decide) c_19
        · skip
          have r_22 := n_rng (gI z_p3 0)
          have r_23 := n_rng r33
          have c_16i : (gI z_p3 0).toInt ≥ r33.toInt := bI_nlt rfl rfl c_16
          refine ok_jn ?_
          refine ok_ite (fun c_24 => ?_) (fun c_24 => ?_)
          · skip
            exact absurd c_24 (by decide)
          · skip
            refine ok_bd2 (t_fX2_lookClause (by first | omega | assumption | decide | (show nc_p2 < 2147483648; first | omega | assumption))) (fun r28 z29 q_25 => ?_)
            have h_26 : FrL [0] z_t z29 := q_25
            clear q_25
            refine ok_jn ?_
            refine ok_ite (fun c_27 => ?_) (fun c_27 => ?_)
            · skip
              have r_28 := n_rng r28
              have c_27i : r28.toInt < 0 := bI_lt rfl (show (0 : Int32).toInt = 0 by decide) c_27
              try have e_29 : (x7 + 1).toInt = (x7.toInt + 1) := (i32_add rfl (show (1 : Int32).toInt = 1 by decide) (by omega) (by omega))
              exact ih z29 x4 x5 (x7 + 1) (fr_tr frz_t h_26 (by decide)) (by omega)
            · skip
              have r_30 := n_rng r28
              have c_27i : r28.toInt ≥ 0 := bI_nlt rfl (show (0 : Int32).toInt = 0 by decide) c_27
              refine ok_bd (t_fX8_at (by first | omega | assumption | decide | (show (12 : Nat) < 2147483648; first | omega | assumption))) (fun r17 q_31 => ?_)
              refine ok_bd (t_fX8_at (by first | omega | assumption | decide | (show (12 : Nat) < 2147483648; first | omega | assumption))) (fun r19 q_32 => ?_)
              refine ok_bd2 (t_fX2_reckon (by first | omega | assumption | decide | (show nc_p2 < 2147483648; first | omega | assumption))) (fun r21 z22 q_33 => ?_)
              have h_34 : FrL [0] z29 z22 := q_33
              clear q_33
              refine ok_jn ?_
              refine ok_ite (fun c_35 => ?_) (fun c_35 => ?_)
              · skip
                have r_36 := n_rng x4
                have c_35i : x4.toInt < 0 := bI_lt rfl (show (0 : Int32).toInt = 0 by decide) c_35
                try have e_37 : (x7 + 1).toInt = (x7.toInt + 1) := (i32_add rfl (show (1 : Int32).toInt = 1 by decide) (by omega) (by omega))
                exact ih z22 x7 r21 (x7 + 1) (fr_tr (fr_tr frz_t h_26 (by decide)) h_34 (by decide)) (by omega)
              · skip
                have r_38 := n_rng x4
                have c_35i : x4.toInt ≥ 0 := bI_nlt rfl (show (0 : Int32).toInt = 0 by decide) c_35
                refine ok_ite (fun c_39 => ?_) (fun c_39 => ?_)
                · skip
                  have c_39i : x5.toInt ≤ r21.toInt := lI_le rfl rfl c_39
                  try have e_40 : (x7 + 1).toInt = (x7.toInt + 1) := (i32_add rfl (show (1 : Int32).toInt = 1 by decide) (by omega) (by omega))
                  exact ih z22 x4 x5 (x7 + 1) (fr_tr (fr_tr frz_t h_26 (by decide)) h_34 (by decide)) (by omega)
                · skip
                  have c_39i : x5.toInt > r21.toInt := lI_nle rfl rfl c_39
                  try have e_41 : (x7 + 1).toInt = (x7.toInt + 1) := (i32_add rfl (show (1 : Int32).toInt = 1 by decide) (by omega) (by omega))
                  exact ih z22 x7 r21 (x7 + 1) (fr_tr (fr_tr frz_t h_26 (by decide)) h_34 (by decide)) (by omega)
set_option maxHeartbeats 400000 in
set_option maxRecDepth 20000 in
theorem t_fX2_nextFault {z_t : Sx} {z_p1 : Sx} {nc_p2 : Nat} {z_p2 : Sx} {z_p3 : Sx} (hnnc_p2 : nc_p2 < 2147483648) : okP (fX2_nextFault z_t z_p1 nc_p2 z_p2 z_p3) (fun y => (FrL [0] z_t y.2)) := by
  unfold fX2_nextFault
  try have e_1 : (-1 : Int32).toInt = (-1) := (show (-1 : Int32).toInt = -1 by decide)
  try have e_2 : (0 : Int32).toInt = 0 := (show (0 : Int32).toInt = 0 by decide)
  refine tl_lX2_nextFault_9 (by first | omega | assumption | decide) FU z_t (-1) 0 0 fr_rf (FU_lt (by have := n_rng (gI z_p1 3); omega))

set_option maxHeartbeats 400000 in
set_option maxRecDepth 20000 in
theorem tl_lX2_stopsAt_3 {o_z_t : Sx} {z_p1 : Sx} {nc_p2 : Nat} {z_p2 : Sx} {z_p3 : Sx} {x4 : Int32} (hnnc_p2 : nc_p2 < 2147483648) : ∀ (n : Nat) (z_t : Sx) (x5 : Int32), (FrL [0] o_z_t z_t) → ((gI z_p2 1).toInt + 0 - x5.toInt).toNat < n → okP (lX2_stopsAt_3 z_p1 nc_p2 z_p2 z_p3 x4 n z_t x5) (fun y => (y.1 = 0 ∨ y.1 = 1) ∧ (FrL [0] o_z_t y.2)) := by
  intro n
  induction n with
  | zero => intro _ _ _ hm; omega
  | succ n ih =>
    intro z_t x5 frz_t hm
    rw [lX2_stopsAt_3]
    refine ok_ite (fun c_1 => ?_) (fun c_1 => ?_)
    · skip
      have r_2 := n_rng (gI z_p2 1)
      have r_3 := n_rng x5
      have c_1i : (gI z_p2 1).toInt ≤ x5.toInt := bI_le rfl rfl c_1
      exact ok_some ⟨Or.inl rfl, frz_t⟩
    · skip
      have r_4 := n_rng (gI z_p2 1)
      have r_5 := n_rng x5
      have c_1i : (gI z_p2 1).toInt > x5.toInt := bI_nle rfl rfl c_1
      refine ok_bd (t_fX8_at (by first | omega | assumption | decide | (show (12 : Nat) < 2147483648; first | omega | assumption))) (fun r3 q_6 => ?_)
      refine ok_bd (t_fX8_at (by first | omega | assumption | decide | (show (12 : Nat) < 2147483648; first | omega | assumption))) (fun r5 q_7 => ?_)
      refine ok_jn ?_
      refine ok_ite (fun c_8 => ?_) (fun c_8 => ?_)
      · skip
        have r_9 := n_rng r5
        have r_10 := n_rng r3
        have c_8i : r5.toInt = r3.toInt := bI_eq rfl rfl c_8
        refine ok_jn ?_
        refine ok_ite (fun c_11 => ?_) (fun c_11 => ?_)
        · skip
          exact absurd c_11 (by decide)
        · skip
          refine ok_bd (t_fX8_at (by first | omega | assumption | decide | (show (12 : Nat) < 2147483648; first | omega | assumption))) (fun r12 q_12 => ?_)
          refine ok_bd2 (t_fX2_reckon (by first | omega | assumption | decide | (show nc_p2 < 2147483648; first | omega | assumption))) (fun r14 z15 q_13 => ?_)
          have h_14 : FrL [0] z_t z15 := q_13
          clear q_13
          refine ok_ite (fun c_15 => ?_) (fun c_15 => ?_)
          · skip
            have c_15i : r14.toInt = 0 := lI_eq rfl (show (0 : Int64).toInt = 0 by decide) c_15
            try have e_16 : (x5 + 1).toInt = (x5.toInt + 1) := (i32_add rfl (show (1 : Int32).toInt = 1 by decide) (by omega) (by omega))
            exact ih z15 (x5 + 1) (fr_tr frz_t h_14 (by decide)) (by omega)
          · skip
            have c_15i : r14.toInt ≠ 0 := lI_neq rfl (show (0 : Int64).toInt = 0 by decide) c_15
            exact ok_some ⟨Or.inr rfl, (fr_tr frz_t h_14 (by decide))⟩
      · skip
        have r_17 := n_rng r5
        have r_18 := n_rng r3
        have c_8i : r5.toInt ≠ r3.toInt := bI_neq rfl rfl c_8
        refine ok_jn ?_
        refine ok_ite (fun c_19 => ?_) (fun c_19 => ?_)
        · skip
          try have e_20 : (x5 + 1).toInt = (x5.toInt + 1) := (i32_add rfl (show (1 : Int32).toInt = 1 by decide) (by omega) (by omega))
          exact ih z_t (x5 + 1) frz_t (by omega)
        · skip
          exact absurd (by decide) c_19
set_option maxHeartbeats 400000 in
set_option maxRecDepth 20000 in
theorem t_fX2_stopsAt {z_t : Sx} {z_p1 : Sx} {nc_p2 : Nat} {z_p2 : Sx} {z_p3 : Sx} {x4 : Int32} (hnnc_p2 : nc_p2 < 2147483648) : okP (fX2_stopsAt z_t z_p1 nc_p2 z_p2 z_p3 x4) (fun y => (y.1 = 0 ∨ y.1 = 1) ∧ (FrL [0] z_t y.2)) := by
  unfold fX2_stopsAt
  try have e_1 : (0 : Int32).toInt = 0 := (show (0 : Int32).toInt = 0 by decide)
  refine tl_lX2_stopsAt_3 (by first | omega | assumption | decide) FU z_t 0 fr_rf (FU_lt (by have := n_rng (gI z_p2 1); omega))

set_option maxHeartbeats 400000 in
set_option maxRecDepth 20000 in
theorem tl_lX2_play_3 {o_z_t : Sx} {o_z_p3 : Sx} {z_p1 : Sx} {nc_p2 : Nat} {z_p2 : Sx} (hnnc_p2 : nc_p2 < 2147483648) : ∀ (n : Nat) (z_t : Sx) (z_p3 : Sx) (x4 : Int32), (FrL [0] o_z_t z_t) → (FrL [0, 1, 2, 4, 5] o_z_p3 z_p3) → (200 + 0 - x4.toInt).toNat < n → okP (lX2_play_3 z_p1 nc_p2 z_p2 n z_t z_p3 x4) (fun y => (FrL [0] o_z_t y.2.1) ∧ (FrL [0, 1, 2, 4, 5] o_z_p3 y.2.2)) := by
  intro n
  induction n with
  | zero => intro _ _ _ _ _ hm; omega
  | succ n ih =>
    intro z_t z_p3 x4 frz_t frz_p3 hm
    rw [lX2_play_3]
    refine ok_ite (fun c_1 => ?_) (fun c_1 => ?_)
    · skip
      have r_2 := n_rng x4
      have c_1i : 200 ≤ x4.toInt := bI_le (show (200 : Int32).toInt = 200 by decide) rfl c_1
      exact ok_some ⟨frz_t, frz_p3⟩
    · skip
      have r_3 := n_rng x4
      have c_1i : 200 > x4.toInt := bI_nle (show (200 : Int32).toInt = 200 by decide) rfl c_1
      refine ok_bd2 (t_fX2_nextFault (by first | omega | assumption | decide | (show nc_p2 < 2147483648; first | omega | assumption))) (fun r3 z4 q_4 => ?_)
      have h_5 : FrL [0] z_t z4 := q_4
      clear q_4
      refine ok_ite (fun c_6 => ?_) (fun c_6 => ?_)
      · skip
        have r_7 := n_rng r3
        have c_6i : r3.toInt < 0 := bI_lt rfl (show (0 : Int32).toInt = 0 by decide) c_6
        exact ok_some ⟨(fr_tr frz_t h_5 (by decide)), frz_p3⟩
      · skip
        have r_8 := n_rng r3
        have c_6i : r3.toInt ≥ 0 := bI_nlt rfl (show (0 : Int32).toInt = 0 by decide) c_6
        refine ok_bd2 (t_fX2_stopsAt (by first | omega | assumption | decide | (show nc_p2 < 2147483648; first | omega | assumption))) (fun r7 z8 q_9 => ?_)
        have h_10 : r7 = 0 ∨ r7 = 1 := q_9.1
        have h_10i := bool_i h_10
        have h_11 : FrL [0] z4 z8 := q_9.2
        clear q_9
        refine ok_ite (fun c_12 => ?_) (fun c_12 => ?_)
        · skip
          have r_13 := n_rng r7
          have c_12i : r7.toInt = 0 := bI_eq rfl (show (0 : Int32).toInt = 0 by decide) c_12
          refine ok_bd2 (t_fX0_lookFor) (fun r11 z12 q_14 => ?_)
          have h_15 : r11 = 0 ∨ r11 = 1 := q_14.1
          have h_15i := bool_i h_15
          have h_16 : FrL [0, 1, 2, 4, 5] z_p3 z12 := q_14.2
          clear q_14
          try have e_17 : (x4 + 1).toInt = (x4.toInt + 1) := (i32_add rfl (show (1 : Int32).toInt = 1 by decide) (by omega) (by omega))
          exact ih z8 z12 (x4 + 1) (fr_tr (fr_tr frz_t h_5 (by decide)) h_11 (by decide)) (fr_tr frz_p3 h_16 (by decide)) (by omega)
        · skip
          have r_18 := n_rng r7
          have c_12i : r7.toInt ≠ 0 := bI_neq rfl (show (0 : Int32).toInt = 0 by decide) c_12
          exact ok_some ⟨(fr_tr (fr_tr frz_t h_5 (by decide)) h_11 (by decide)), frz_p3⟩
set_option maxHeartbeats 400000 in
set_option maxRecDepth 20000 in
theorem t_fX2_play {z_t : Sx} {z_p1 : Sx} {nc_p2 : Nat} {z_p2 : Sx} {z_p3 : Sx} (hnnc_p2 : nc_p2 < 2147483648) : okP (fX2_play z_t z_p1 nc_p2 z_p2 z_p3) (fun y => (FrL [0] z_t y.2.1) ∧ (FrL [0, 1, 2, 4, 5] z_p3 y.2.2)) := by
  unfold fX2_play
  try have e_1 : (0 : Int32).toInt = 0 := (show (0 : Int32).toInt = 0 by decide)
  refine tl_lX2_play_3 (by first | omega | assumption | decide) FU z_t z_p3 0 fr_rf fr_rf (FU_lt (by omega))

set_option maxHeartbeats 400000 in
set_option maxRecDepth 20000 in
theorem t_fX4_emit {z_t : Sx} {x1 : Int32} : okP (fX4_emit z_t x1) (fun y => (FrL [1, 2] z_t y)) := by
  unfold fX4_emit
  refine ok_ite (fun c_1 => ?_) (fun c_1 => ?_)
  · skip
    have r_2 := n_rng (gI z_t 2)
    have c_1i : (gI z_t 2).toInt < 0 := bI_lt rfl (show (0 : Int32).toInt = 0 by decide) c_1
    exact ok_some fr_rf
  · skip
    have r_3 := n_rng (gI z_t 2)
    have c_1i : (gI z_t 2).toInt ≥ 0 := bI_nlt rfl (show (0 : Int32).toInt = 0 by decide) c_1
    refine ok_ite (fun c_4 => ?_) (fun c_4 => ?_)
    · skip
      have c_4i : 400 ≤ (gI z_t 2).toInt := bI_le (show (400 : Int32).toInt = 400 by decide) rfl c_4
      exact ok_some fr_rf
    · skip
      have c_4i : 400 > (gI z_t 2).toInt := bI_nle (show (400 : Int32).toInt = 400 by decide) rfl c_4
      refine ok_gd (inb_of (by omega) (by omega)) ?_
      exact ok_some (fr_I (fr_T fr_rf (by decide)) (by decide))

set_option maxHeartbeats 400000 in
set_option maxRecDepth 20000 in
theorem t_fX6_step {z_t : Sx} : okP (fX6_step z_t) (fun y => (FrL [4, 5, 6, 7] z_t y)) := by
  unfold fX6_step
  refine ok_ite (fun c_1 => ?_) (fun c_1 => ?_)
  · skip
    have r_2 := n_rng (gI z_t 4)
    have c_1i : (gI z_t 4).toInt < 0 := bI_lt rfl (show (0 : Int32).toInt = 0 by decide) c_1
    exact ok_some fr_rf
  · skip
    have r_3 := n_rng (gI z_t 4)
    have c_1i : (gI z_t 4).toInt ≥ 0 := bI_nlt rfl (show (0 : Int32).toInt = 0 by decide) c_1
    refine ok_ite (fun c_4 => ?_) (fun c_4 => ?_)
    · skip
      have r_5 := n_rng (gI z_t 3)
      have c_4i : (gI z_t 3).toInt ≤ (gI z_t 4).toInt := bI_le rfl rfl c_4
      exact ok_some fr_rf
    · skip
      have r_6 := n_rng (gI z_t 3)
      have c_4i : (gI z_t 3).toInt > (gI z_t 4).toInt := bI_nle rfl rfl c_4
      refine ok_ite (fun c_7 => ?_) (fun c_7 => ?_)
      · skip
        have c_7i : 401 ≤ (gI z_t 4).toInt := bI_le (show (401 : Int32).toInt = 401 by decide) rfl c_7
        exact ok_some fr_rf
      · skip
        have c_7i : 401 > (gI z_t 4).toInt := bI_nle (show (401 : Int32).toInt = 401 by decide) rfl c_7
        refine ok_gd (inb_of (by omega) (by omega)) ?_
        refine ok_nm ?_
        refine ok_nm ?_
        exact ok_some (fr_I (fr_I (fr_I (fr_I fr_rf (by decide)) (by decide)) (by decide)) (by decide))

set_option maxHeartbeats 400000 in
set_option maxRecDepth 20000 in
theorem tl_lX4_readTest_9 {o_z_t : Sx} {o_z_t_0 : Sx} {rec : Sx → Sx → Int32 → Option (Sx × Sx)} {k133 : Sx → Sx → Int32 → Option (Sx × Sx)} {x1 : Int32} {d : Nat} (hrec : ∀ (z_t : Sx) (z_t_0 : Sx) (x1 : Int32), (0 ≤ x1.toInt ∧ x1.toInt ≤ 10 ∧ 11 ≤ x1.toInt + d) → okP (rec z_t z_t_0 x1) (fun y => (FrL [1, 2, 3] z_t y.1) ∧ (FrL [4, 5, 6, 7, 8] z_t_0 y.2))) (Hk133 : ∀ (y0 : Sx) (y1 : Sx) (y2 : Int32), (FrL [1, 2, 3] o_z_t y0) → (FrL [4, 5, 6, 7, 8] o_z_t_0 y1) → okP (k133 y0 y1 y2) (fun y => (FrL [1, 2, 3] o_z_t y.1) ∧ (FrL [4, 5, 6, 7, 8] o_z_t_0 y.2))) (d0 : 0 ≤ x1.toInt ∧ x1.toInt ≤ 10 ∧ 11 ≤ x1.toInt + d) : ∀ (n : Nat) (z_t : Sx) (z_t_0 : Sx) (x2 : Int32) (x3 : Int32), (FrL [1, 2, 3] o_z_t z_t) → (FrL [4, 5, 6, 7, 8] o_z_t_0 z_t_0) → (400 + 0 - x3.toInt).toNat < n → okP (lX4_readTest_9 rec k133 x1 n z_t z_t_0 x2 x3) (fun y => (FrL [1, 2, 3] o_z_t y.1) ∧ (FrL [4, 5, 6, 7, 8] o_z_t_0 y.2)) := by
  intro n
  induction n with
  | zero => intro _ _ _ _ _ _ hm; omega
  | succ n ih =>
    intro z_t z_t_0 x2 x3 frz_t frz_t_0 hm
    rw [lX4_readTest_9]
    refine ok_ite (fun c_1 => ?_) (fun c_1 => ?_)
    · skip
      have r_2 := n_rng x3
      have c_1i : 400 ≤ x3.toInt := bI_le (show (400 : Int32).toInt = 400 by decide) rfl c_1
      exact Hk133 z_t z_t_0 x2 frz_t frz_t_0
    · skip
      have r_3 := n_rng x3
      have c_1i : 400 > x3.toInt := bI_nle (show (400 : Int32).toInt = 400 by decide) rfl c_1
      refine ok_ite (fun c_4 => ?_) (fun c_4 => ?_)
      · skip
        have r_5 := n_rng (gI z_t_0 8)
        have c_4i : (gI z_t_0 8).toInt = 0 := bI_eq rfl (show (0 : Int32).toInt = 0 by decide) c_4
        refine ok_jn ?_
        refine ok_ite (fun c_6 => ?_) (fun c_6 => ?_)
        · skip
          have r_7 := n_rng (gI z_t_0 5)
          have c_6i : (gI z_t_0 5).toInt = 309 := bI_eq rfl (show (309 : Int32).toInt = 309 by decide) c_6
          refine ok_jn ?_
          refine ok_ite (fun c_8 => ?_) (fun c_8 => ?_)
          · skip
            have c_8i : (gI z_t_0 5).toInt = 309 := bI_eq rfl (show (309 : Int32).toInt = 309 by decide) c_8
            refine ok_jn ?_
            refine ok_ite (fun c_9 => ?_) (fun c_9 => ?_)
            · skip
              exact absurd c_9 (by decide)
            · skip
              refine ok_ite (fun c_10 => ?_) (fun c_10 => ?_)
              · skip
                have r_11 := n_rng x2
                have c_10i : x2.toInt = 0 := bI_eq rfl (show (0 : Int32).toInt = 0 by decide) c_10
                refine ok_jn ?_
                refine ok_jn ?_
                refine ok_ite (fun c_12 => ?_) (fun c_12 => ?_)
                · skip
                  have c_12i : x2.toInt = 0 := bI_eq rfl (show (0 : Int32).toInt = 0 by decide) c_12
                  refine ok_ite (fun c_13 => ?_) (fun c_13 => ?_)
                  · skip
                    exact absurd c_13 (by decide)
                  · skip
                    refine ok_bd (t_fX6_step) (fun z15 q_14 => ?_)
                    have h_15 : FrL [4, 5, 6, 7] z_t_0 z15 := q_14
                    clear q_14
                    refine ok_bd2 (hrec _ _ _ (by first | omega | assumption | decide | (show 0 ≤ x1.toInt ∧ x1.toInt ≤ 10 ∧ 11 ≤ x1.toInt + d; first | omega | assumption))) (fun z17 z18 q_16 => ?_)
                    have h_17 : FrL [1, 2, 3] z_t z17 := q_16.1
                    have h_18 : FrL [4, 5, 6, 7, 8] z15 z18 := q_16.2
                    clear q_16
                    refine ok_jn ?_
                    refine ok_ite (fun c_19 => ?_) (fun c_19 => ?_)
                    · skip
                      exact absurd c_19 (by decide)
                    · skip
                      try have e_20 : (1 : Int32).toInt = 1 := (show (1 : Int32).toInt = 1 by decide)
                      try have e_21 : (x3 + 1).toInt = (x3.toInt + 1) := (i32_add rfl (show (1 : Int32).toInt = 1 by decide) (by omega) (by omega))
                      exact ih z17 z18 1 (x3 + 1) (fr_tr frz_t h_17 (by decide)) (fr_tr (fr_tr frz_t_0 h_15 (by decide)) h_18 (by decide)) (by omega)
                · skip
                  have c_12i : x2.toInt ≠ 0 := bI_neq rfl (show (0 : Int32).toInt = 0 by decide) c_12
                  refine ok_bd (t_fX6_step) (fun z15 q_22 => ?_)
                  have h_23 : FrL [4, 5, 6, 7] z_t_0 z15 := q_22
                  clear q_22
                  refine ok_bd2 (hrec _ _ _ (by first | omega | assumption | decide | (show 0 ≤ x1.toInt ∧ x1.toInt ≤ 10 ∧ 11 ≤ x1.toInt + d; first | omega | assumption))) (fun z17 z18 q_24 => ?_)
                  have h_25 : FrL [1, 2, 3] z_t z17 := q_24.1
                  have h_26 : FrL [4, 5, 6, 7, 8] z15 z18 := q_24.2
                  clear q_24
                  refine ok_jn ?_
                  refine ok_ite (fun c_27 => ?_) (fun c_27 => ?_)
                  · skip
                    exact absurd c_27 (by decide)
                  · skip
                    try have e_28 : (1 : Int32).toInt = 1 := (show (1 : Int32).toInt = 1 by decide)
                    try have e_29 : (x3 + 1).toInt = (x3.toInt + 1) := (i32_add rfl (show (1 : Int32).toInt = 1 by decide) (by omega) (by omega))
                    exact ih z17 z18 1 (x3 + 1) (fr_tr frz_t h_25 (by decide)) (fr_tr (fr_tr frz_t_0 h_23 (by decide)) h_26 (by decide)) (by omega)
              · skip
                have r_30 := n_rng x2
                have c_10i : x2.toInt ≠ 0 := bI_neq rfl (show (0 : Int32).toInt = 0 by decide) c_10
                refine ok_bd (t_fX4_emit) (fun z31 q_31 => ?_)
                have h_32 : FrL [1, 2] z_t z31 := q_31
                clear q_31
                refine ok_jn ?_
                refine ok_jn ?_
                refine ok_ite (fun c_33 => ?_) (fun c_33 => ?_)
                · skip
                  have c_33i : x2.toInt = 0 := bI_eq rfl (show (0 : Int32).toInt = 0 by decide) c_33
                  refine ok_ite (fun c_34 => ?_) (fun c_34 => ?_)
                  · skip
                    exact absurd c_34 (by decide)
                  · skip
                    refine ok_bd (t_fX6_step) (fun z15 q_35 => ?_)
                    have h_36 : FrL [4, 5, 6, 7] z_t_0 z15 := q_35
                    clear q_35
                    refine ok_bd2 (hrec _ _ _ (by first | omega | assumption | decide | (show 0 ≤ x1.toInt ∧ x1.toInt ≤ 10 ∧ 11 ≤ x1.toInt + d; first | omega | assumption))) (fun z17 z18 q_37 => ?_)
                    have h_38 : FrL [1, 2, 3] z31 z17 := q_37.1
                    have h_39 : FrL [4, 5, 6, 7, 8] z15 z18 := q_37.2
                    clear q_37
                    refine ok_jn ?_
                    refine ok_ite (fun c_40 => ?_) (fun c_40 => ?_)
                    · skip
                      exact absurd c_40 (by decide)
                    · skip
                      try have e_41 : (1 : Int32).toInt = 1 := (show (1 : Int32).toInt = 1 by decide)
                      try have e_42 : (x3 + 1).toInt = (x3.toInt + 1) := (i32_add rfl (show (1 : Int32).toInt = 1 by decide) (by omega) (by omega))
                      exact ih z17 z18 1 (x3 + 1) (fr_tr (fr_tr frz_t h_32 (by decide)) h_38 (by decide)) (fr_tr (fr_tr frz_t_0 h_36 (by decide)) h_39 (by decide)) (by omega)
                · skip
                  have c_33i : x2.toInt ≠ 0 := bI_neq rfl (show (0 : Int32).toInt = 0 by decide) c_33
                  refine ok_bd (t_fX6_step) (fun z15 q_43 => ?_)
                  have h_44 : FrL [4, 5, 6, 7] z_t_0 z15 := q_43
                  clear q_43
                  refine ok_bd2 (hrec _ _ _ (by first | omega | assumption | decide | (show 0 ≤ x1.toInt ∧ x1.toInt ≤ 10 ∧ 11 ≤ x1.toInt + d; first | omega | assumption))) (fun z17 z18 q_45 => ?_)
                  have h_46 : FrL [1, 2, 3] z31 z17 := q_45.1
                  have h_47 : FrL [4, 5, 6, 7, 8] z15 z18 := q_45.2
                  clear q_45
                  refine ok_jn ?_
                  refine ok_ite (fun c_48 => ?_) (fun c_48 => ?_)
                  · skip
                    exact absurd c_48 (by decide)
                  · skip
                    try have e_49 : (1 : Int32).toInt = 1 := (show (1 : Int32).toInt = 1 by decide)
                    try have e_50 : (x3 + 1).toInt = (x3.toInt + 1) := (i32_add rfl (show (1 : Int32).toInt = 1 by decide) (by omega) (by omega))
                    exact ih z17 z18 1 (x3 + 1) (fr_tr (fr_tr frz_t h_32 (by decide)) h_46 (by decide)) (fr_tr (fr_tr frz_t_0 h_44 (by decide)) h_47 (by decide)) (by omega)
          · skip
            have c_8i : (gI z_t_0 5).toInt ≠ 309 := bI_neq rfl (show (309 : Int32).toInt = 309 by decide) c_8
            refine ok_jn ?_
            refine ok_ite (fun c_51 => ?_) (fun c_51 => ?_)
            · skip
              refine ok_jn ?_
              refine ok_jn ?_
              refine ok_ite (fun c_52 => ?_) (fun c_52 => ?_)
              · skip
                have r_53 := n_rng x2
                have c_52i : x2.toInt = 0 := bI_eq rfl (show (0 : Int32).toInt = 0 by decide) c_52
                refine ok_ite (fun c_54 => ?_) (fun c_54 => ?_)
                · skip
                  refine ok_bd (t_fX6_step) (fun z15 q_55 => ?_)
                  have h_56 : FrL [4, 5, 6, 7] z_t_0 z15 := q_55
                  clear q_55
                  refine ok_bd2 (hrec _ _ _ (by first | omega | assumption | decide | (show 0 ≤ x1.toInt ∧ x1.toInt ≤ 10 ∧ 11 ≤ x1.toInt + d; first | omega | assumption))) (fun z17 z18 q_57 => ?_)
                  have h_58 : FrL [1, 2, 3] z_t z17 := q_57.1
                  have h_59 : FrL [4, 5, 6, 7, 8] z15 z18 := q_57.2
                  clear q_57
                  refine ok_jn ?_
                  refine ok_ite (fun c_60 => ?_) (fun c_60 => ?_)
                  · skip
                    refine ok_bd (t_fX4_emit) (fun z24 q_61 => ?_)
                    have h_62 : FrL [1, 2] z17 z24 := q_61
                    clear q_61
                    try have e_63 : (0 : Int32).toInt = 0 := (show (0 : Int32).toInt = 0 by decide)
                    try have e_64 : (x3 + 1).toInt = (x3.toInt + 1) := (i32_add rfl (show (1 : Int32).toInt = 1 by decide) (by omega) (by omega))
                    exact ih z24 z18 0 (x3 + 1) (fr_tr (fr_tr frz_t h_58 (by decide)) h_62 (by decide)) (fr_tr (fr_tr frz_t_0 h_56 (by decide)) h_59 (by decide)) (by omega)
                  · skip
                    exact absurd (by decide) c_60
                · skip
                  exact absurd (by decide) c_54
              · skip
                have r_65 := n_rng x2
                have c_52i : x2.toInt ≠ 0 := bI_neq rfl (show (0 : Int32).toInt = 0 by decide) c_52
                refine ok_bd (t_fX6_step) (fun z15 q_66 => ?_)
                have h_67 : FrL [4, 5, 6, 7] z_t_0 z15 := q_66
                clear q_66
                refine ok_bd2 (hrec _ _ _ (by first | omega | assumption | decide | (show 0 ≤ x1.toInt ∧ x1.toInt ≤ 10 ∧ 11 ≤ x1.toInt + d; first | omega | assumption))) (fun z17 z18 q_68 => ?_)
                have h_69 : FrL [1, 2, 3] z_t z17 := q_68.1
                have h_70 : FrL [4, 5, 6, 7, 8] z15 z18 := q_68.2
                clear q_68
                refine ok_jn ?_
                refine ok_ite (fun c_71 => ?_) (fun c_71 => ?_)
                · skip
                  refine ok_bd (t_fX4_emit) (fun z24 q_72 => ?_)
                  have h_73 : FrL [1, 2] z17 z24 := q_72
                  clear q_72
                  try have e_74 : (1 : Int32).toInt = 1 := (show (1 : Int32).toInt = 1 by decide)
                  try have e_75 : (x3 + 1).toInt = (x3.toInt + 1) := (i32_add rfl (show (1 : Int32).toInt = 1 by decide) (by omega) (by omega))
                  exact ih z24 z18 1 (x3 + 1) (fr_tr (fr_tr frz_t h_69 (by decide)) h_73 (by decide)) (fr_tr (fr_tr frz_t_0 h_67 (by decide)) h_70 (by decide)) (by omega)
                · skip
                  exact absurd (by decide) c_71
            · skip
              exact absurd (by decide) c_51
        · skip
          have r_76 := n_rng (gI z_t_0 5)
          have c_6i : (gI z_t_0 5).toInt ≠ 309 := bI_neq rfl (show (309 : Int32).toInt = 309 by decide) c_6
          refine ok_ite (fun c_77 => ?_) (fun c_77 => ?_)
          · skip
            have c_77i : (gI z_t_0 5).toInt = 310 := bI_eq rfl (show (310 : Int32).toInt = 310 by decide) c_77
            refine ok_jn ?_
            refine ok_ite (fun c_78 => ?_) (fun c_78 => ?_)
            · skip
              have c_78i : (gI z_t_0 5).toInt = 309 := bI_eq rfl (show (309 : Int32).toInt = 309 by decide) c_78
              refine ok_jn ?_
              refine ok_ite (fun c_79 => ?_) (fun c_79 => ?_)
              · skip
                exact absurd c_79 (by decide)
              · skip
                refine ok_ite (fun c_80 => ?_) (fun c_80 => ?_)
                · skip
                  have r_81 := n_rng x2
                  have c_80i : x2.toInt = 0 := bI_eq rfl (show (0 : Int32).toInt = 0 by decide) c_80
                  refine ok_jn ?_
                  refine ok_jn ?_
                  refine ok_ite (fun c_82 => ?_) (fun c_82 => ?_)
                  · skip
                    have c_82i : x2.toInt = 0 := bI_eq rfl (show (0 : Int32).toInt = 0 by decide) c_82
                    refine ok_ite (fun c_83 => ?_) (fun c_83 => ?_)
                    · skip
                      exact absurd c_83 (by decide)
                    · skip
                      refine ok_bd (t_fX6_step) (fun z15 q_84 => ?_)
                      have h_85 : FrL [4, 5, 6, 7] z_t_0 z15 := q_84
                      clear q_84
                      refine ok_bd2 (hrec _ _ _ (by first | omega | assumption | decide | (show 0 ≤ x1.toInt ∧ x1.toInt ≤ 10 ∧ 11 ≤ x1.toInt + d; first | omega | assumption))) (fun z17 z18 q_86 => ?_)
                      have h_87 : FrL [1, 2, 3] z_t z17 := q_86.1
                      have h_88 : FrL [4, 5, 6, 7, 8] z15 z18 := q_86.2
                      clear q_86
                      refine ok_jn ?_
                      refine ok_ite (fun c_89 => ?_) (fun c_89 => ?_)
                      · skip
                        exact absurd c_89 (by decide)
                      · skip
                        try have e_90 : (1 : Int32).toInt = 1 := (show (1 : Int32).toInt = 1 by decide)
                        try have e_91 : (x3 + 1).toInt = (x3.toInt + 1) := (i32_add rfl (show (1 : Int32).toInt = 1 by decide) (by omega) (by omega))
                        exact ih z17 z18 1 (x3 + 1) (fr_tr frz_t h_87 (by decide)) (fr_tr (fr_tr frz_t_0 h_85 (by decide)) h_88 (by decide)) (by omega)
                  · skip
                    have c_82i : x2.toInt ≠ 0 := bI_neq rfl (show (0 : Int32).toInt = 0 by decide) c_82
                    refine ok_bd (t_fX6_step) (fun z15 q_92 => ?_)
                    have h_93 : FrL [4, 5, 6, 7] z_t_0 z15 := q_92
                    clear q_92
                    refine ok_bd2 (hrec _ _ _ (by first | omega | assumption | decide | (show 0 ≤ x1.toInt ∧ x1.toInt ≤ 10 ∧ 11 ≤ x1.toInt + d; first | omega | assumption))) (fun z17 z18 q_94 => ?_)
                    have h_95 : FrL [1, 2, 3] z_t z17 := q_94.1
                    have h_96 : FrL [4, 5, 6, 7, 8] z15 z18 := q_94.2
                    clear q_94
                    refine ok_jn ?_
                    refine ok_ite (fun c_97 => ?_) (fun c_97 => ?_)
                    · skip
                      exact absurd c_97 (by decide)
                    · skip
                      try have e_98 : (1 : Int32).toInt = 1 := (show (1 : Int32).toInt = 1 by decide)
                      try have e_99 : (x3 + 1).toInt = (x3.toInt + 1) := (i32_add rfl (show (1 : Int32).toInt = 1 by decide) (by omega) (by omega))
                      exact ih z17 z18 1 (x3 + 1) (fr_tr frz_t h_95 (by decide)) (fr_tr (fr_tr frz_t_0 h_93 (by decide)) h_96 (by decide)) (by omega)
                · skip
                  have r_100 := n_rng x2
                  have c_80i : x2.toInt ≠ 0 := bI_neq rfl (show (0 : Int32).toInt = 0 by decide) c_80
                  refine ok_bd (t_fX4_emit) (fun z31 q_101 => ?_)
                  have h_102 : FrL [1, 2] z_t z31 := q_101
                  clear q_101
                  refine ok_jn ?_
                  refine ok_jn ?_
                  refine ok_ite (fun c_103 => ?_) (fun c_103 => ?_)
                  · skip
                    have c_103i : x2.toInt = 0 := bI_eq rfl (show (0 : Int32).toInt = 0 by decide) c_103
                    refine ok_ite (fun c_104 => ?_) (fun c_104 => ?_)
                    · skip
                      exact absurd c_104 (by decide)
                    · skip
                      refine ok_bd (t_fX6_step) (fun z15 q_105 => ?_)
                      have h_106 : FrL [4, 5, 6, 7] z_t_0 z15 := q_105
                      clear q_105
                      refine ok_bd2 (hrec _ _ _ (by first | omega | assumption | decide | (show 0 ≤ x1.toInt ∧ x1.toInt ≤ 10 ∧ 11 ≤ x1.toInt + d; first | omega | assumption))) (fun z17 z18 q_107 => ?_)
                      have h_108 : FrL [1, 2, 3] z31 z17 := q_107.1
                      have h_109 : FrL [4, 5, 6, 7, 8] z15 z18 := q_107.2
                      clear q_107
                      refine ok_jn ?_
                      refine ok_ite (fun c_110 => ?_) (fun c_110 => ?_)
                      · skip
                        exact absurd c_110 (by decide)
                      · skip
                        try have e_111 : (1 : Int32).toInt = 1 := (show (1 : Int32).toInt = 1 by decide)
                        try have e_112 : (x3 + 1).toInt = (x3.toInt + 1) := (i32_add rfl (show (1 : Int32).toInt = 1 by decide) (by omega) (by omega))
                        exact ih z17 z18 1 (x3 + 1) (fr_tr (fr_tr frz_t h_102 (by decide)) h_108 (by decide)) (fr_tr (fr_tr frz_t_0 h_106 (by decide)) h_109 (by decide)) (by omega)
                  · skip
                    have c_103i : x2.toInt ≠ 0 := bI_neq rfl (show (0 : Int32).toInt = 0 by decide) c_103
                    refine ok_bd (t_fX6_step) (fun z15 q_113 => ?_)
                    have h_114 : FrL [4, 5, 6, 7] z_t_0 z15 := q_113
                    clear q_113
                    refine ok_bd2 (hrec _ _ _ (by first | omega | assumption | decide | (show 0 ≤ x1.toInt ∧ x1.toInt ≤ 10 ∧ 11 ≤ x1.toInt + d; first | omega | assumption))) (fun z17 z18 q_115 => ?_)
                    have h_116 : FrL [1, 2, 3] z31 z17 := q_115.1
                    have h_117 : FrL [4, 5, 6, 7, 8] z15 z18 := q_115.2
                    clear q_115
                    refine ok_jn ?_
                    refine ok_ite (fun c_118 => ?_) (fun c_118 => ?_)
                    · skip
                      exact absurd c_118 (by decide)
                    · skip
                      try have e_119 : (1 : Int32).toInt = 1 := (show (1 : Int32).toInt = 1 by decide)
                      try have e_120 : (x3 + 1).toInt = (x3.toInt + 1) := (i32_add rfl (show (1 : Int32).toInt = 1 by decide) (by omega) (by omega))
                      exact ih z17 z18 1 (x3 + 1) (fr_tr (fr_tr frz_t h_102 (by decide)) h_116 (by decide)) (fr_tr (fr_tr frz_t_0 h_114 (by decide)) h_117 (by decide)) (by omega)
            · skip
              have c_78i : (gI z_t_0 5).toInt ≠ 309 := bI_neq rfl (show (309 : Int32).toInt = 309 by decide) c_78
              refine ok_jn ?_
              refine ok_ite (fun c_121 => ?_) (fun c_121 => ?_)
              · skip
                refine ok_jn ?_
                refine ok_jn ?_
                refine ok_ite (fun c_122 => ?_) (fun c_122 => ?_)
                · skip
                  have r_123 := n_rng x2
                  have c_122i : x2.toInt = 0 := bI_eq rfl (show (0 : Int32).toInt = 0 by decide) c_122
                  refine ok_ite (fun c_124 => ?_) (fun c_124 => ?_)
                  · skip
                    refine ok_bd (t_fX6_step) (fun z15 q_125 => ?_)
                    have h_126 : FrL [4, 5, 6, 7] z_t_0 z15 := q_125
                    clear q_125
                    refine ok_bd2 (hrec _ _ _ (by first | omega | assumption | decide | (show 0 ≤ x1.toInt ∧ x1.toInt ≤ 10 ∧ 11 ≤ x1.toInt + d; first | omega | assumption))) (fun z17 z18 q_127 => ?_)
                    have h_128 : FrL [1, 2, 3] z_t z17 := q_127.1
                    have h_129 : FrL [4, 5, 6, 7, 8] z15 z18 := q_127.2
                    clear q_127
                    refine ok_jn ?_
                    refine ok_ite (fun c_130 => ?_) (fun c_130 => ?_)
                    · skip
                      refine ok_bd (t_fX4_emit) (fun z24 q_131 => ?_)
                      have h_132 : FrL [1, 2] z17 z24 := q_131
                      clear q_131
                      try have e_133 : (0 : Int32).toInt = 0 := (show (0 : Int32).toInt = 0 by decide)
                      try have e_134 : (x3 + 1).toInt = (x3.toInt + 1) := (i32_add rfl (show (1 : Int32).toInt = 1 by decide) (by omega) (by omega))
                      exact ih z24 z18 0 (x3 + 1) (fr_tr (fr_tr frz_t h_128 (by decide)) h_132 (by decide)) (fr_tr (fr_tr frz_t_0 h_126 (by decide)) h_129 (by decide)) (by omega)
                    · skip
                      exact absurd (by decide) c_130
                  · skip
                    exact absurd (by decide) c_124
                · skip
                  have r_135 := n_rng x2
                  have c_122i : x2.toInt ≠ 0 := bI_neq rfl (show (0 : Int32).toInt = 0 by decide) c_122
                  refine ok_bd (t_fX6_step) (fun z15 q_136 => ?_)
                  have h_137 : FrL [4, 5, 6, 7] z_t_0 z15 := q_136
                  clear q_136
                  refine ok_bd2 (hrec _ _ _ (by first | omega | assumption | decide | (show 0 ≤ x1.toInt ∧ x1.toInt ≤ 10 ∧ 11 ≤ x1.toInt + d; first | omega | assumption))) (fun z17 z18 q_138 => ?_)
                  have h_139 : FrL [1, 2, 3] z_t z17 := q_138.1
                  have h_140 : FrL [4, 5, 6, 7, 8] z15 z18 := q_138.2
                  clear q_138
                  refine ok_jn ?_
                  refine ok_ite (fun c_141 => ?_) (fun c_141 => ?_)
                  · skip
                    refine ok_bd (t_fX4_emit) (fun z24 q_142 => ?_)
                    have h_143 : FrL [1, 2] z17 z24 := q_142
                    clear q_142
                    try have e_144 : (1 : Int32).toInt = 1 := (show (1 : Int32).toInt = 1 by decide)
                    try have e_145 : (x3 + 1).toInt = (x3.toInt + 1) := (i32_add rfl (show (1 : Int32).toInt = 1 by decide) (by omega) (by omega))
                    exact ih z24 z18 1 (x3 + 1) (fr_tr (fr_tr frz_t h_139 (by decide)) h_143 (by decide)) (fr_tr (fr_tr frz_t_0 h_137 (by decide)) h_140 (by decide)) (by omega)
                  · skip
                    exact absurd (by decide) c_141
              · skip
                exact absurd (by decide) c_121
          · skip
            have c_77i : (gI z_t_0 5).toInt ≠ 310 := bI_neq rfl (show (310 : Int32).toInt = 310 by decide) c_77
            exact Hk133 z_t z_t_0 x2 frz_t frz_t_0
      · skip
        have r_146 := n_rng (gI z_t_0 8)
        have c_4i : (gI z_t_0 8).toInt ≠ 0 := bI_neq rfl (show (0 : Int32).toInt = 0 by decide) c_4
        exact Hk133 z_t z_t_0 x2 frz_t frz_t_0
set_option maxHeartbeats 400000 in
set_option maxRecDepth 20000 in
theorem t_fX4_readTest {rec : Sx → Sx → Int32 → Option (Sx × Sx)} {z_t : Sx} {z_t_0 : Sx} {x1 : Int32} {d : Nat} (hrec : ∀ (z_t : Sx) (z_t_0 : Sx) (x1 : Int32), (0 ≤ x1.toInt ∧ x1.toInt ≤ 10 ∧ 11 ≤ x1.toInt + d) → okP (rec z_t z_t_0 x1) (fun y => (FrL [1, 2, 3] z_t y.1) ∧ (FrL [4, 5, 6, 7, 8] z_t_0 y.2))) (d0 : 0 ≤ x1.toInt ∧ x1.toInt ≤ 10 ∧ 11 ≤ x1.toInt + d) : okP (fX4_readTest rec z_t z_t_0 x1) (fun y => (FrL [1, 2, 3] z_t y.1) ∧ (FrL [4, 5, 6, 7, 8] z_t_0 y.2)) := by
  unfold fX4_readTest
  refine ok_bd2 (hrec _ _ _ (by first | omega | assumption | decide | (show 0 ≤ x1.toInt ∧ x1.toInt ≤ 10 ∧ 11 ≤ x1.toInt + d; first | omega | assumption))) (fun z2 z3 q_1 => ?_)
  have h_2 : FrL [1, 2, 3] z_t z2 := q_1.1
  have h_3 : FrL [4, 5, 6, 7, 8] z_t_0 z3 := q_1.2
  clear q_1
  try have e_6 : (0 : Int32).toInt = 0 := (show (0 : Int32).toInt = 0 by decide)
  refine tl_lX4_readTest_9 hrec (fun z35 z36 i37 k_4 k_5 => ?_) (by first | omega | assumption | decide) FU z2 z3 0 0 (fr_tr fr_rf h_2 (by decide)) (fr_tr fr_rf h_3 (by decide)) (FU_lt (by omega))
  · skip
    refine ok_ite (fun c_7 => ?_) (fun c_7 => ?_)
    · skip
      have r_8 := n_rng i37
      have c_7i : i37.toInt = 0 := bI_eq rfl (show (0 : Int32).toInt = 0 by decide) c_7
      exact ok_some ⟨k_4, k_5⟩
    · skip
      have r_9 := n_rng i37
      have c_7i : i37.toInt ≠ 0 := bI_neq rfl (show (0 : Int32).toInt = 0 by decide) c_7
      refine ok_bd (t_fX4_emit) (fun z40 q_10 => ?_)
      have h_11 : FrL [1, 2] z35 z40 := q_10
      clear q_10
      exact ok_some ⟨(fr_tr k_4 h_11 (by decide)), k_5⟩

set_option maxHeartbeats 400000 in
set_option maxRecDepth 20000 in
theorem t_fX6_fail {z_t : Sx} {x1 : Int32} : okP (fX6_fail z_t x1) (fun y => (FrL [8] z_t y)) := by
  unfold fX6_fail
  refine ok_ite (fun c_1 => ?_) (fun c_1 => ?_)
  · skip
    have r_2 := n_rng (gI z_t 8)
    have c_1i : (gI z_t 8).toInt = 0 := bI_eq rfl (show (0 : Int32).toInt = 0 by decide) c_1
    exact ok_some (fr_I fr_rf (by decide))
  · skip
    have r_3 := n_rng (gI z_t 8)
    have c_1i : (gI z_t 8).toInt ≠ 0 := bI_neq rfl (show (0 : Int32).toInt = 0 by decide) c_1
    exact ok_some fr_rf

set_option maxHeartbeats 400000 in
set_option maxRecDepth 20000 in
theorem t_fX4_readValue {z_t : Sx} {z_t_0 : Sx} : okP (fX4_readValue z_t z_t_0) (fun y => (FrL [1, 2, 3] z_t y.1) ∧ (FrL [4, 5, 6, 7, 8] z_t_0 y.2)) := by
  unfold fX4_readValue
  refine ok_jn ?_
  refine ok_ite (fun c_1 => ?_) (fun c_1 => ?_)
  · skip
    have r_2 := n_rng (gI z_t_0 5)
    have c_1i : (gI z_t_0 5).toInt = 301 := bI_eq rfl (show (301 : Int32).toInt = 301 by decide) c_1
    refine ok_jn ?_
    refine ok_jn ?_
    refine ok_ite (fun c_3 => ?_) (fun c_3 => ?_)
    · skip
      have c_3i : (gI z_t_0 5).toInt < 312 := bI_lt rfl (show (312 : Int32).toInt = 312 by decide) c_3
      refine ok_jn ?_
      refine ok_ite (fun c_4 => ?_) (fun c_4 => ?_)
      · skip
        exact absurd c_4 (by decide)
      · skip
        refine ok_ite (fun c_5 => ?_) (fun c_5 => ?_)
        · skip
          have r_6 := n_rng (gI z_t 3)
          have c_5i : (gI z_t 3).toInt < 60 := bI_lt rfl (show (60 : Int32).toInt = 60 by decide) c_5
          refine ok_jn ?_
          refine ok_ite (fun c_7 => ?_) (fun c_7 => ?_)
          · skip
            exact absurd c_7 (by decide)
          · skip
            refine ok_bd (t_fX4_emit) (fun z10 q_8 => ?_)
            have h_9 : FrL [1, 2] (sI z_t 3 ((gI z_t 3) + 1)) z10 := q_8
            clear q_8
            refine ok_bd (t_fX6_step) (fun z12 q_10 => ?_)
            have h_11 : FrL [4, 5, 6, 7] z_t_0 z12 := q_10
            clear q_10
            exact ok_some ⟨(fr_tr (fr_I fr_rf (by decide)) h_9 (by decide)), (fr_tr fr_rf h_11 (by decide))⟩
        · skip
          have r_12 := n_rng (gI z_t 3)
          have c_5i : (gI z_t 3).toInt ≥ 60 := bI_nlt rfl (show (60 : Int32).toInt = 60 by decide) c_5
          refine ok_bd (t_fX6_fail) (fun z15 q_13 => ?_)
          have h_14 : FrL [8] z_t_0 z15 := q_13
          clear q_13
          exact ok_some ⟨fr_rf, (fr_tr fr_rf h_14 (by decide))⟩
    · skip
      have c_3i : (gI z_t_0 5).toInt ≥ 312 := bI_nlt rfl (show (312 : Int32).toInt = 312 by decide) c_3
      refine ok_ite (fun c_15 => ?_) (fun c_15 => ?_)
      · skip
        have c_15i : 320 < (gI z_t_0 5).toInt := bI_lt (show (320 : Int32).toInt = 320 by decide) rfl c_15
        refine ok_jn ?_
        refine ok_ite (fun c_16 => ?_) (fun c_16 => ?_)
        · skip
          exact absurd c_16 (by decide)
        · skip
          refine ok_ite (fun c_17 => ?_) (fun c_17 => ?_)
          · skip
            have r_18 := n_rng (gI z_t 3)
            have c_17i : (gI z_t 3).toInt < 60 := bI_lt rfl (show (60 : Int32).toInt = 60 by decide) c_17
            refine ok_jn ?_
            refine ok_ite (fun c_19 => ?_) (fun c_19 => ?_)
            · skip
              exact absurd c_19 (by decide)
            · skip
              refine ok_bd (t_fX4_emit) (fun z10 q_20 => ?_)
              have h_21 : FrL [1, 2] (sI z_t 3 ((gI z_t 3) + 1)) z10 := q_20
              clear q_20
              refine ok_bd (t_fX6_step) (fun z12 q_22 => ?_)
              have h_23 : FrL [4, 5, 6, 7] z_t_0 z12 := q_22
              clear q_22
              exact ok_some ⟨(fr_tr (fr_I fr_rf (by decide)) h_21 (by decide)), (fr_tr fr_rf h_23 (by decide))⟩
          · skip
            have r_24 := n_rng (gI z_t 3)
            have c_17i : (gI z_t 3).toInt ≥ 60 := bI_nlt rfl (show (60 : Int32).toInt = 60 by decide) c_17
            refine ok_bd (t_fX6_fail) (fun z15 q_25 => ?_)
            have h_26 : FrL [8] z_t_0 z15 := q_25
            clear q_25
            exact ok_some ⟨fr_rf, (fr_tr fr_rf h_26 (by decide))⟩
      · skip
        have c_15i : 320 ≥ (gI z_t_0 5).toInt := bI_nlt (show (320 : Int32).toInt = 320 by decide) rfl c_15
        refine ok_jn ?_
        refine ok_ite (fun c_27 => ?_) (fun c_27 => ?_)
        · skip
          exact absurd c_27 (by decide)
        · skip
          refine ok_ite (fun c_28 => ?_) (fun c_28 => ?_)
          · skip
            have r_29 := n_rng (gI z_t 3)
            have c_28i : (gI z_t 3).toInt < 60 := bI_lt rfl (show (60 : Int32).toInt = 60 by decide) c_28
            refine ok_jn ?_
            refine ok_ite (fun c_30 => ?_) (fun c_30 => ?_)
            · skip
              exact absurd c_30 (by decide)
            · skip
              refine ok_bd (t_fX4_emit) (fun z10 q_31 => ?_)
              have h_32 : FrL [1, 2] (sI z_t 3 ((gI z_t 3) + 1)) z10 := q_31
              clear q_31
              refine ok_bd (t_fX6_step) (fun z12 q_33 => ?_)
              have h_34 : FrL [4, 5, 6, 7] z_t_0 z12 := q_33
              clear q_33
              exact ok_some ⟨(fr_tr (fr_I fr_rf (by decide)) h_32 (by decide)), (fr_tr fr_rf h_34 (by decide))⟩
          · skip
            have r_35 := n_rng (gI z_t 3)
            have c_28i : (gI z_t 3).toInt ≥ 60 := bI_nlt rfl (show (60 : Int32).toInt = 60 by decide) c_28
            refine ok_bd (t_fX6_fail) (fun z15 q_36 => ?_)
            have h_37 : FrL [8] z_t_0 z15 := q_36
            clear q_36
            exact ok_some ⟨fr_rf, (fr_tr fr_rf h_37 (by decide))⟩
  · skip
    have r_38 := n_rng (gI z_t_0 5)
    have c_1i : (gI z_t_0 5).toInt ≠ 301 := bI_neq rfl (show (301 : Int32).toInt = 301 by decide) c_1
    refine ok_jn ?_
    refine ok_jn ?_
    refine ok_ite (fun c_39 => ?_) (fun c_39 => ?_)
    · skip
      have c_39i : (gI z_t_0 5).toInt < 312 := bI_lt rfl (show (312 : Int32).toInt = 312 by decide) c_39
      refine ok_jn ?_
      refine ok_ite (fun c_40 => ?_) (fun c_40 => ?_)
      · skip
        refine ok_ite (fun c_41 => ?_) (fun c_41 => ?_)
        · skip
          refine ok_jn ?_
          refine ok_ite (fun c_42 => ?_) (fun c_42 => ?_)
          · skip
            have c_42i : (gI z_t_0 5).toInt = 302 := bI_eq rfl (show (302 : Int32).toInt = 302 by decide) c_42
            refine ok_bd (t_fX6_fail) (fun z21 q_43 => ?_)
            have h_44 : FrL [8] z_t_0 z21 := q_43
            clear q_43
            exact ok_some ⟨fr_rf, (fr_tr fr_rf h_44 (by decide))⟩
          · skip
            have c_42i : (gI z_t_0 5).toInt ≠ 302 := bI_neq rfl (show (302 : Int32).toInt = 302 by decide) c_42
            refine ok_bd (t_fX6_fail) (fun z21 q_45 => ?_)
            have h_46 : FrL [8] z_t_0 z21 := q_45
            clear q_45
            exact ok_some ⟨fr_rf, (fr_tr fr_rf h_46 (by decide))⟩
        · skip
          exact absurd (by decide) c_41
      · skip
        exact absurd (by decide) c_40
    · skip
      have c_39i : (gI z_t_0 5).toInt ≥ 312 := bI_nlt rfl (show (312 : Int32).toInt = 312 by decide) c_39
      refine ok_ite (fun c_47 => ?_) (fun c_47 => ?_)
      · skip
        have c_47i : 320 < (gI z_t_0 5).toInt := bI_lt (show (320 : Int32).toInt = 320 by decide) rfl c_47
        refine ok_jn ?_
        refine ok_ite (fun c_48 => ?_) (fun c_48 => ?_)
        · skip
          refine ok_ite (fun c_49 => ?_) (fun c_49 => ?_)
          · skip
            refine ok_jn ?_
            refine ok_ite (fun c_50 => ?_) (fun c_50 => ?_)
            · skip
              have c_50i : (gI z_t_0 5).toInt = 302 := bI_eq rfl (show (302 : Int32).toInt = 302 by decide) c_50
              refine ok_bd (t_fX6_fail) (fun z21 q_51 => ?_)
              have h_52 : FrL [8] z_t_0 z21 := q_51
              clear q_51
              exact ok_some ⟨fr_rf, (fr_tr fr_rf h_52 (by decide))⟩
            · skip
              have c_50i : (gI z_t_0 5).toInt ≠ 302 := bI_neq rfl (show (302 : Int32).toInt = 302 by decide) c_50
              refine ok_bd (t_fX6_fail) (fun z21 q_53 => ?_)
              have h_54 : FrL [8] z_t_0 z21 := q_53
              clear q_53
              exact ok_some ⟨fr_rf, (fr_tr fr_rf h_54 (by decide))⟩
          · skip
            exact absurd (by decide) c_49
        · skip
          exact absurd (by decide) c_48
      · skip
        have c_47i : 320 ≥ (gI z_t_0 5).toInt := bI_nlt (show (320 : Int32).toInt = 320 by decide) rfl c_47
        refine ok_jn ?_
        refine ok_ite (fun c_55 => ?_) (fun c_55 => ?_)
        · skip
          refine ok_ite (fun c_56 => ?_) (fun c_56 => ?_)
          · skip
            exact absurd c_56 (by decide)
          · skip
            refine ok_ite (fun c_57 => ?_) (fun c_57 => ?_)
            · skip
              have r_58 := n_rng (gI z_t 3)
              have c_57i : (gI z_t 3).toInt < 60 := bI_lt rfl (show (60 : Int32).toInt = 60 by decide) c_57
              refine ok_jn ?_
              refine ok_ite (fun c_59 => ?_) (fun c_59 => ?_)
              · skip
                refine ok_bd (t_fX4_emit) (fun z10 q_60 => ?_)
                have h_61 : FrL [1, 2] (sI z_t 3 ((gI z_t 3) + 1)) z10 := q_60
                clear q_60
                refine ok_bd (t_fX6_step) (fun z12 q_62 => ?_)
                have h_63 : FrL [4, 5, 6, 7] z_t_0 z12 := q_62
                clear q_62
                exact ok_some ⟨(fr_tr (fr_I fr_rf (by decide)) h_61 (by decide)), (fr_tr fr_rf h_63 (by decide))⟩
              · skip
                exact absurd (by decide) c_59
            · skip
              have r_64 := n_rng (gI z_t 3)
              have c_57i : (gI z_t 3).toInt ≥ 60 := bI_nlt rfl (show (60 : Int32).toInt = 60 by decide) c_57
              refine ok_bd (t_fX6_fail) (fun z15 q_65 => ?_)
              have h_66 : FrL [8] z_t_0 z15 := q_65
              clear q_65
              exact ok_some ⟨fr_rf, (fr_tr fr_rf h_66 (by decide))⟩
        · skip
          exact absurd (by decide) c_55

set_option maxHeartbeats 400000 in
set_option maxRecDepth 20000 in
theorem tl_lX4_readSum_8 {o_z_t : Sx} {o_z_t_0 : Sx} {k69 : Sx → Sx → Int32 → Option (Sx × Sx)} {k126 : Sx → Sx → Int32 → Option (Sx × Sx)} (Hk69 : ∀ (y0 : Sx) (y1 : Sx) (y2 : Int32), (FrL [1, 2, 3] o_z_t y0) → (FrL [4, 5, 6, 7, 8] o_z_t_0 y1) → okP (k69 y0 y1 y2) (fun y => (FrL [1, 2, 3] o_z_t y.1) ∧ (FrL [4, 5, 6, 7, 8] o_z_t_0 y.2))) (Hk126 : ∀ (y0 : Sx) (y1 : Sx) (y2 : Int32), (FrL [1, 2, 3] o_z_t y0) → (FrL [4, 5, 6, 7, 8] o_z_t_0 y1) → okP (k126 y0 y1 y2) (fun y => (FrL [1, 2, 3] o_z_t y.1) ∧ (FrL [4, 5, 6, 7, 8] o_z_t_0 y.2))) : ∀ (n : Nat) (z_t : Sx) (z_t_0 : Sx) (x1 : Int32) (x2 : Int32), (FrL [1, 2, 3] o_z_t z_t) → (FrL [4, 5, 6, 7, 8] o_z_t_0 z_t_0) → (400 + 0 - x2.toInt).toNat < n → okP (lX4_readSum_8 k69 k126 n z_t z_t_0 x1 x2) (fun y => (FrL [1, 2, 3] o_z_t y.1) ∧ (FrL [4, 5, 6, 7, 8] o_z_t_0 y.2)) := by
  intro n
  induction n with
  | zero => intro _ _ _ _ _ _ hm; omega
  | succ n ih =>
    intro z_t z_t_0 x1 x2 frz_t frz_t_0 hm
    rw [lX4_readSum_8]
    refine ok_ite (fun c_1 => ?_) (fun c_1 => ?_)
    · skip
      have r_2 := n_rng x2
      have c_1i : 400 ≤ x2.toInt := bI_le (show (400 : Int32).toInt = 400 by decide) rfl c_1
      exact Hk126 z_t z_t_0 x1 frz_t frz_t_0
    · skip
      have r_3 := n_rng x2
      have c_1i : 400 > x2.toInt := bI_nle (show (400 : Int32).toInt = 400 by decide) rfl c_1
      refine ok_ite (fun c_4 => ?_) (fun c_4 => ?_)
      · skip
        have r_5 := n_rng (gI z_t_0 8)
        have c_4i : (gI z_t_0 8).toInt = 0 := bI_eq rfl (show (0 : Int32).toInt = 0 by decide) c_4
        refine ok_jn ?_
        refine ok_jn ?_
        refine ok_ite (fun c_6 => ?_) (fun c_6 => ?_)
        · skip
          have r_7 := n_rng (gI z_t_0 5)
          have c_6i : (gI z_t_0 5).toInt = 42 := bI_eq rfl (show (42 : Int32).toInt = 42 by decide) c_6
          refine ok_jn ?_
          refine ok_ite (fun c_8 => ?_) (fun c_8 => ?_)
          · skip
            exact absurd c_8 (by decide)
          · skip
            refine ok_jn ?_
            refine ok_ite (fun c_9 => ?_) (fun c_9 => ?_)
            · skip
              exact absurd c_9 (by decide)
            · skip
              refine ok_jn ?_
              refine ok_ite (fun c_10 => ?_) (fun c_10 => ?_)
              · skip
                exact absurd c_10 (by decide)
              · skip
                refine ok_bd (t_fX6_step) (fun z15 q_11 => ?_)
                have h_12 : FrL [4, 5, 6, 7] z_t_0 z15 := q_11
                clear q_11
                refine ok_bd2 (t_fX4_readValue) (fun z17 z18 q_13 => ?_)
                have h_14 : FrL [1, 2, 3] z_t z17 := q_13.1
                have h_15 : FrL [4, 5, 6, 7, 8] z15 z18 := q_13.2
                clear q_13
                refine ok_jn ?_
                refine ok_ite (fun c_16 => ?_) (fun c_16 => ?_)
                · skip
                  exact absurd c_16 (by decide)
                · skip
                  refine ok_bd (t_fX4_emit) (fun z24 q_17 => ?_)
                  have h_18 : FrL [1, 2] z17 z24 := q_17
                  clear q_17
                  try have e_19 : (x2 + 1).toInt = (x2.toInt + 1) := (i32_add rfl (show (1 : Int32).toInt = 1 by decide) (by omega) (by omega))
                  exact ih z24 z18 x1 (x2 + 1) (fr_tr (fr_tr frz_t h_14 (by decide)) h_18 (by decide)) (fr_tr (fr_tr frz_t_0 h_12 (by decide)) h_15 (by decide)) (by omega)
        · skip
          have r_20 := n_rng (gI z_t_0 5)
          have c_6i : (gI z_t_0 5).toInt ≠ 42 := bI_neq rfl (show (42 : Int32).toInt = 42 by decide) c_6
          refine ok_ite (fun c_21 => ?_) (fun c_21 => ?_)
          · skip
            have c_21i : (gI z_t_0 5).toInt = 47 := bI_eq rfl (show (47 : Int32).toInt = 47 by decide) c_21
            refine ok_jn ?_
            refine ok_ite (fun c_22 => ?_) (fun c_22 => ?_)
            · skip
              exact absurd c_22 (by decide)
            · skip
              refine ok_jn ?_
              refine ok_ite (fun c_23 => ?_) (fun c_23 => ?_)
              · skip
                exact absurd c_23 (by decide)
              · skip
                refine ok_jn ?_
                refine ok_ite (fun c_24 => ?_) (fun c_24 => ?_)
                · skip
                  exact absurd c_24 (by decide)
                · skip
                  refine ok_bd (t_fX6_step) (fun z15 q_25 => ?_)
                  have h_26 : FrL [4, 5, 6, 7] z_t_0 z15 := q_25
                  clear q_25
                  refine ok_bd2 (t_fX4_readValue) (fun z17 z18 q_27 => ?_)
                  have h_28 : FrL [1, 2, 3] z_t z17 := q_27.1
                  have h_29 : FrL [4, 5, 6, 7, 8] z15 z18 := q_27.2
                  clear q_27
                  refine ok_jn ?_
                  refine ok_ite (fun c_30 => ?_) (fun c_30 => ?_)
                  · skip
                    exact absurd c_30 (by decide)
                  · skip
                    refine ok_bd (t_fX4_emit) (fun z24 q_31 => ?_)
                    have h_32 : FrL [1, 2] z17 z24 := q_31
                    clear q_31
                    try have e_33 : (x2 + 1).toInt = (x2.toInt + 1) := (i32_add rfl (show (1 : Int32).toInt = 1 by decide) (by omega) (by omega))
                    exact ih z24 z18 x1 (x2 + 1) (fr_tr (fr_tr frz_t h_28 (by decide)) h_32 (by decide)) (fr_tr (fr_tr frz_t_0 h_26 (by decide)) h_29 (by decide)) (by omega)
          · skip
            have c_21i : (gI z_t_0 5).toInt ≠ 47 := bI_neq rfl (show (47 : Int32).toInt = 47 by decide) c_21
            refine ok_jn ?_
            refine ok_ite (fun c_34 => ?_) (fun c_34 => ?_)
            · skip
              refine ok_ite (fun c_35 => ?_) (fun c_35 => ?_)
              · skip
                have c_35i : (gI z_t_0 5).toInt = 43 := bI_eq rfl (show (43 : Int32).toInt = 43 by decide) c_35
                refine ok_jn ?_
                refine ok_ite (fun c_36 => ?_) (fun c_36 => ?_)
                · skip
                  refine ok_ite (fun c_37 => ?_) (fun c_37 => ?_)
                  · skip
                    have r_38 := n_rng x1
                    have c_37i : x1.toInt = 0 := bI_eq rfl (show (0 : Int32).toInt = 0 by decide) c_37
                    refine ok_jn ?_
                    refine ok_ite (fun c_39 => ?_) (fun c_39 => ?_)
                    · skip
                      refine ok_bd (t_fX6_step) (fun z15 q_40 => ?_)
                      have h_41 : FrL [4, 5, 6, 7] z_t_0 z15 := q_40
                      clear q_40
                      refine ok_bd2 (t_fX4_readValue) (fun z17 z18 q_42 => ?_)
                      have h_43 : FrL [1, 2, 3] z_t z17 := q_42.1
                      have h_44 : FrL [4, 5, 6, 7, 8] z15 z18 := q_42.2
                      clear q_42
                      refine ok_jn ?_
                      refine ok_ite (fun c_45 => ?_) (fun c_45 => ?_)
                      · skip
                        try have e_46 : (x2 + 1).toInt = (x2.toInt + 1) := (i32_add rfl (show (1 : Int32).toInt = 1 by decide) (by omega) (by omega))
                        exact ih z17 z18 (gI z_t_0 5) (x2 + 1) (fr_tr frz_t h_43 (by decide)) (fr_tr (fr_tr frz_t_0 h_41 (by decide)) h_44 (by decide)) (by omega)
                      · skip
                        exact absurd (by decide) c_45
                    · skip
                      exact absurd (by decide) c_39
                  · skip
                    have r_47 := n_rng x1
                    have c_37i : x1.toInt ≠ 0 := bI_neq rfl (show (0 : Int32).toInt = 0 by decide) c_37
                    refine ok_bd (t_fX4_emit) (fun z29 q_48 => ?_)
                    have h_49 : FrL [1, 2] z_t z29 := q_48
                    clear q_48
                    refine ok_jn ?_
                    refine ok_ite (fun c_50 => ?_) (fun c_50 => ?_)
                    · skip
                      refine ok_bd (t_fX6_step) (fun z15 q_51 => ?_)
                      have h_52 : FrL [4, 5, 6, 7] z_t_0 z15 := q_51
                      clear q_51
                      refine ok_bd2 (t_fX4_readValue) (fun z17 z18 q_53 => ?_)
                      have h_54 : FrL [1, 2, 3] z29 z17 := q_53.1
                      have h_55 : FrL [4, 5, 6, 7, 8] z15 z18 := q_53.2
                      clear q_53
                      refine ok_jn ?_
                      refine ok_ite (fun c_56 => ?_) (fun c_56 => ?_)
                      · skip
                        try have e_57 : (x2 + 1).toInt = (x2.toInt + 1) := (i32_add rfl (show (1 : Int32).toInt = 1 by decide) (by omega) (by omega))
                        exact ih z17 z18 (gI z_t_0 5) (x2 + 1) (fr_tr (fr_tr frz_t h_49 (by decide)) h_54 (by decide)) (fr_tr (fr_tr frz_t_0 h_52 (by decide)) h_55 (by decide)) (by omega)
                      · skip
                        exact absurd (by decide) c_56
                    · skip
                      exact absurd (by decide) c_50
                · skip
                  exact absurd (by decide) c_36
              · skip
                have c_35i : (gI z_t_0 5).toInt ≠ 43 := bI_neq rfl (show (43 : Int32).toInt = 43 by decide) c_35
                refine ok_ite (fun c_58 => ?_) (fun c_58 => ?_)
                · skip
                  have c_58i : (gI z_t_0 5).toInt = 45 := bI_eq rfl (show (45 : Int32).toInt = 45 by decide) c_58
                  refine ok_jn ?_
                  refine ok_ite (fun c_59 => ?_) (fun c_59 => ?_)
                  · skip
                    refine ok_ite (fun c_60 => ?_) (fun c_60 => ?_)
                    · skip
                      have r_61 := n_rng x1
                      have c_60i : x1.toInt = 0 := bI_eq rfl (show (0 : Int32).toInt = 0 by decide) c_60
                      refine ok_jn ?_
                      refine ok_ite (fun c_62 => ?_) (fun c_62 => ?_)
                      · skip
                        refine ok_bd (t_fX6_step) (fun z15 q_63 => ?_)
                        have h_64 : FrL [4, 5, 6, 7] z_t_0 z15 := q_63
                        clear q_63
                        refine ok_bd2 (t_fX4_readValue) (fun z17 z18 q_65 => ?_)
                        have h_66 : FrL [1, 2, 3] z_t z17 := q_65.1
                        have h_67 : FrL [4, 5, 6, 7, 8] z15 z18 := q_65.2
                        clear q_65
                        refine ok_jn ?_
                        refine ok_ite (fun c_68 => ?_) (fun c_68 => ?_)
                        · skip
                          try have e_69 : (x2 + 1).toInt = (x2.toInt + 1) := (i32_add rfl (show (1 : Int32).toInt = 1 by decide) (by omega) (by omega))
                          exact ih z17 z18 (gI z_t_0 5) (x2 + 1) (fr_tr frz_t h_66 (by decide)) (fr_tr (fr_tr frz_t_0 h_64 (by decide)) h_67 (by decide)) (by omega)
                        · skip
                          exact absurd (by decide) c_68
                      · skip
                        exact absurd (by decide) c_62
                    · skip
                      have r_70 := n_rng x1
                      have c_60i : x1.toInt ≠ 0 := bI_neq rfl (show (0 : Int32).toInt = 0 by decide) c_60
                      refine ok_bd (t_fX4_emit) (fun z29 q_71 => ?_)
                      have h_72 : FrL [1, 2] z_t z29 := q_71
                      clear q_71
                      refine ok_jn ?_
                      refine ok_ite (fun c_73 => ?_) (fun c_73 => ?_)
                      · skip
                        refine ok_bd (t_fX6_step) (fun z15 q_74 => ?_)
                        have h_75 : FrL [4, 5, 6, 7] z_t_0 z15 := q_74
                        clear q_74
                        refine ok_bd2 (t_fX4_readValue) (fun z17 z18 q_76 => ?_)
                        have h_77 : FrL [1, 2, 3] z29 z17 := q_76.1
                        have h_78 : FrL [4, 5, 6, 7, 8] z15 z18 := q_76.2
                        clear q_76
                        refine ok_jn ?_
                        refine ok_ite (fun c_79 => ?_) (fun c_79 => ?_)
                        · skip
                          try have e_80 : (x2 + 1).toInt = (x2.toInt + 1) := (i32_add rfl (show (1 : Int32).toInt = 1 by decide) (by omega) (by omega))
                          exact ih z17 z18 (gI z_t_0 5) (x2 + 1) (fr_tr (fr_tr frz_t h_72 (by decide)) h_77 (by decide)) (fr_tr (fr_tr frz_t_0 h_75 (by decide)) h_78 (by decide)) (by omega)
                        · skip
                          exact absurd (by decide) c_79
                      · skip
                        exact absurd (by decide) c_73
                  · skip
                    exact absurd (by decide) c_59
                · skip
                  have c_58i : (gI z_t_0 5).toInt ≠ 45 := bI_neq rfl (show (45 : Int32).toInt = 45 by decide) c_58
                  exact Hk69 z_t z_t_0 x1 frz_t frz_t_0
            · skip
              exact absurd (by decide) c_34
      · skip
        have r_81 := n_rng (gI z_t_0 8)
        have c_4i : (gI z_t_0 8).toInt ≠ 0 := bI_neq rfl (show (0 : Int32).toInt = 0 by decide) c_4
        exact Hk126 z_t z_t_0 x1 frz_t frz_t_0
set_option maxHeartbeats 400000 in
set_option maxRecDepth 20000 in
theorem t_fX4_readSum {z_t : Sx} {z_t_0 : Sx} : okP (fX4_readSum z_t z_t_0) (fun y => (FrL [1, 2, 3] z_t y.1) ∧ (FrL [4, 5, 6, 7, 8] z_t_0 y.2)) := by
  unfold fX4_readSum
  refine ok_bd2 (t_fX4_readValue) (fun z2 z3 q_1 => ?_)
  have h_2 : FrL [1, 2, 3] z_t z2 := q_1.1
  have h_3 : FrL [4, 5, 6, 7, 8] z_t_0 z3 := q_1.2
  clear q_1
  try have e_8 : (0 : Int32).toInt = 0 := (show (0 : Int32).toInt = 0 by decide)
  refine tl_lX4_readSum_8 (fun z36 z37 i38 k_4 k_5 => ?_) (fun z42 z43 i44 k_6 k_7 => ?_) FU z2 z3 0 0 (fr_tr fr_rf h_2 (by decide)) (fr_tr fr_rf h_3 (by decide)) (FU_lt (by omega))
  · skip
    refine ok_ite (fun c_9 => ?_) (fun c_9 => ?_)
    · skip
      have r_10 := n_rng i38
      have c_9i : i38.toInt = 0 := bI_eq rfl (show (0 : Int32).toInt = 0 by decide) c_9
      exact ok_some ⟨k_4, k_5⟩
    · skip
      have r_11 := n_rng i38
      have c_9i : i38.toInt ≠ 0 := bI_neq rfl (show (0 : Int32).toInt = 0 by decide) c_9
      refine ok_bd (t_fX4_emit) (fun z41 q_12 => ?_)
      have h_13 : FrL [1, 2] z36 z41 := q_12
      clear q_12
      exact ok_some ⟨(fr_tr k_4 h_13 (by decide)), k_5⟩
  · skip
    refine ok_ite (fun c_14 => ?_) (fun c_14 => ?_)
    · skip
      have r_15 := n_rng i44
      have c_14i : i44.toInt = 0 := bI_eq rfl (show (0 : Int32).toInt = 0 by decide) c_14
      exact ok_some ⟨k_6, k_7⟩
    · skip
      have r_16 := n_rng i44
      have c_14i : i44.toInt ≠ 0 := bI_neq rfl (show (0 : Int32).toInt = 0 by decide) c_14
      refine ok_bd (t_fX4_emit) (fun z47 q_17 => ?_)
      have h_18 : FrL [1, 2] z42 z47 := q_17
      clear q_17
      exact ok_some ⟨(fr_tr k_6 h_18 (by decide)), k_7⟩

set_option maxHeartbeats 400000 in
set_option maxRecDepth 20000 in
theorem t_fX4_readComparison {z_t : Sx} {z_t_0 : Sx} : okP (fX4_readComparison z_t z_t_0) (fun y => (FrL [1, 2, 3] z_t y.1) ∧ (FrL [4, 5, 6, 7, 8] z_t_0 y.2)) := by
  unfold fX4_readComparison
  refine ok_bd2 (t_fX4_readSum) (fun z2 z3 q_1 => ?_)
  have h_2 : FrL [1, 2, 3] z_t z2 := q_1.1
  have h_3 : FrL [4, 5, 6, 7, 8] z_t_0 z3 := q_1.2
  clear q_1
  refine ok_ite (fun c_4 => ?_) (fun c_4 => ?_)
  · skip
    have r_5 := n_rng (gI z3 8)
    have c_4i : (gI z3 8).toInt = 0 := bI_eq rfl (show (0 : Int32).toInt = 0 by decide) c_4
    refine ok_jn ?_
    refine ok_ite (fun c_6 => ?_) (fun c_6 => ?_)
    · skip
      have r_7 := n_rng (gI z3 5)
      have c_6i : (gI z3 5).toInt = 60 := bI_eq rfl (show (60 : Int32).toInt = 60 by decide) c_6
      refine ok_ite (fun c_8 => ?_) (fun c_8 => ?_)
      · skip
        have r_9 := n_rng (gI z2 3)
        have c_8i : (gI z2 3).toInt < 60 := bI_lt rfl (show (60 : Int32).toInt = 60 by decide) c_8
        refine ok_bd (t_fX6_step) (fun z8 q_10 => ?_)
        have h_11 : FrL [4, 5, 6, 7] z3 z8 := q_10
        clear q_10
        refine ok_bd2 (t_fX4_readSum) (fun z10 z11 q_12 => ?_)
        have h_13 : FrL [1, 2, 3] (sI z2 3 ((gI z2 3) + 1)) z10 := q_12.1
        have h_14 : FrL [4, 5, 6, 7, 8] z8 z11 := q_12.2
        clear q_12
        refine ok_bd (t_fX4_emit) (fun z13 q_15 => ?_)
        have h_16 : FrL [1, 2] z10 z13 := q_15
        clear q_15
        exact ok_some ⟨(fr_tr (fr_tr (fr_I (fr_tr fr_rf h_2 (by decide)) (by decide)) h_13 (by decide)) h_16 (by decide)), (fr_tr (fr_tr (fr_tr fr_rf h_3 (by decide)) h_11 (by decide)) h_14 (by decide))⟩
      · skip
        have r_17 := n_rng (gI z2 3)
        have c_8i : (gI z2 3).toInt ≥ 60 := bI_nlt rfl (show (60 : Int32).toInt = 60 by decide) c_8
        refine ok_bd (t_fX6_fail) (fun z15 q_18 => ?_)
        have h_19 : FrL [8] z3 z15 := q_18
        clear q_18
        exact ok_some ⟨(fr_tr fr_rf h_2 (by decide)), (fr_tr (fr_tr fr_rf h_3 (by decide)) h_19 (by decide))⟩
    · skip
      have r_20 := n_rng (gI z3 5)
      have c_6i : (gI z3 5).toInt ≠ 60 := bI_neq rfl (show (60 : Int32).toInt = 60 by decide) c_6
      refine ok_ite (fun c_21 => ?_) (fun c_21 => ?_)
      · skip
        have c_21i : (gI z3 5).toInt = 256 := bI_eq rfl (show (256 : Int32).toInt = 256 by decide) c_21
        refine ok_ite (fun c_22 => ?_) (fun c_22 => ?_)
        · skip
          have r_23 := n_rng (gI z2 3)
          have c_22i : (gI z2 3).toInt < 60 := bI_lt rfl (show (60 : Int32).toInt = 60 by decide) c_22
          refine ok_bd (t_fX6_step) (fun z8 q_24 => ?_)
          have h_25 : FrL [4, 5, 6, 7] z3 z8 := q_24
          clear q_24
          refine ok_bd2 (t_fX4_readSum) (fun z10 z11 q_26 => ?_)
          have h_27 : FrL [1, 2, 3] (sI z2 3 ((gI z2 3) + 1)) z10 := q_26.1
          have h_28 : FrL [4, 5, 6, 7, 8] z8 z11 := q_26.2
          clear q_26
          refine ok_bd (t_fX4_emit) (fun z13 q_29 => ?_)
          have h_30 : FrL [1, 2] z10 z13 := q_29
          clear q_29
          exact ok_some ⟨(fr_tr (fr_tr (fr_I (fr_tr fr_rf h_2 (by decide)) (by decide)) h_27 (by decide)) h_30 (by decide)), (fr_tr (fr_tr (fr_tr fr_rf h_3 (by decide)) h_25 (by decide)) h_28 (by decide))⟩
        · skip
          have r_31 := n_rng (gI z2 3)
          have c_22i : (gI z2 3).toInt ≥ 60 := bI_nlt rfl (show (60 : Int32).toInt = 60 by decide) c_22
          refine ok_bd (t_fX6_fail) (fun z15 q_32 => ?_)
          have h_33 : FrL [8] z3 z15 := q_32
          clear q_32
          exact ok_some ⟨(fr_tr fr_rf h_2 (by decide)), (fr_tr (fr_tr fr_rf h_3 (by decide)) h_33 (by decide))⟩
      · skip
        have c_21i : (gI z3 5).toInt ≠ 256 := bI_neq rfl (show (256 : Int32).toInt = 256 by decide) c_21
        refine ok_ite (fun c_34 => ?_) (fun c_34 => ?_)
        · skip
          have c_34i : (gI z3 5).toInt = 61 := bI_eq rfl (show (61 : Int32).toInt = 61 by decide) c_34
          refine ok_ite (fun c_35 => ?_) (fun c_35 => ?_)
          · skip
            have r_36 := n_rng (gI z2 3)
            have c_35i : (gI z2 3).toInt < 60 := bI_lt rfl (show (60 : Int32).toInt = 60 by decide) c_35
            refine ok_bd (t_fX6_step) (fun z8 q_37 => ?_)
            have h_38 : FrL [4, 5, 6, 7] z3 z8 := q_37
            clear q_37
            refine ok_bd2 (t_fX4_readSum) (fun z10 z11 q_39 => ?_)
            have h_40 : FrL [1, 2, 3] (sI z2 3 ((gI z2 3) + 1)) z10 := q_39.1
            have h_41 : FrL [4, 5, 6, 7, 8] z8 z11 := q_39.2
            clear q_39
            refine ok_bd (t_fX4_emit) (fun z13 q_42 => ?_)
            have h_43 : FrL [1, 2] z10 z13 := q_42
            clear q_42
            exact ok_some ⟨(fr_tr (fr_tr (fr_I (fr_tr fr_rf h_2 (by decide)) (by decide)) h_40 (by decide)) h_43 (by decide)), (fr_tr (fr_tr (fr_tr fr_rf h_3 (by decide)) h_38 (by decide)) h_41 (by decide))⟩
          · skip
            have r_44 := n_rng (gI z2 3)
            have c_35i : (gI z2 3).toInt ≥ 60 := bI_nlt rfl (show (60 : Int32).toInt = 60 by decide) c_35
            refine ok_bd (t_fX6_fail) (fun z15 q_45 => ?_)
            have h_46 : FrL [8] z3 z15 := q_45
            clear q_45
            exact ok_some ⟨(fr_tr fr_rf h_2 (by decide)), (fr_tr (fr_tr fr_rf h_3 (by decide)) h_46 (by decide))⟩
        · skip
          have c_34i : (gI z3 5).toInt ≠ 61 := bI_neq rfl (show (61 : Int32).toInt = 61 by decide) c_34
          refine ok_ite (fun c_47 => ?_) (fun c_47 => ?_)
          · skip
            have c_47i : (gI z3 5).toInt = 257 := bI_eq rfl (show (257 : Int32).toInt = 257 by decide) c_47
            refine ok_ite (fun c_48 => ?_) (fun c_48 => ?_)
            · skip
              have r_49 := n_rng (gI z2 3)
              have c_48i : (gI z2 3).toInt < 60 := bI_lt rfl (show (60 : Int32).toInt = 60 by decide) c_48
              refine ok_bd (t_fX6_step) (fun z8 q_50 => ?_)
              have h_51 : FrL [4, 5, 6, 7] z3 z8 := q_50
              clear q_50
              refine ok_bd2 (t_fX4_readSum) (fun z10 z11 q_52 => ?_)
              have h_53 : FrL [1, 2, 3] (sI z2 3 ((gI z2 3) + 1)) z10 := q_52.1
              have h_54 : FrL [4, 5, 6, 7, 8] z8 z11 := q_52.2
              clear q_52
              refine ok_bd (t_fX4_emit) (fun z13 q_55 => ?_)
              have h_56 : FrL [1, 2] z10 z13 := q_55
              clear q_55
              exact ok_some ⟨(fr_tr (fr_tr (fr_I (fr_tr fr_rf h_2 (by decide)) (by decide)) h_53 (by decide)) h_56 (by decide)), (fr_tr (fr_tr (fr_tr fr_rf h_3 (by decide)) h_51 (by decide)) h_54 (by decide))⟩
            · skip
              have r_57 := n_rng (gI z2 3)
              have c_48i : (gI z2 3).toInt ≥ 60 := bI_nlt rfl (show (60 : Int32).toInt = 60 by decide) c_48
              refine ok_bd (t_fX6_fail) (fun z15 q_58 => ?_)
              have h_59 : FrL [8] z3 z15 := q_58
              clear q_58
              exact ok_some ⟨(fr_tr fr_rf h_2 (by decide)), (fr_tr (fr_tr fr_rf h_3 (by decide)) h_59 (by decide))⟩
          · skip
            have c_47i : (gI z3 5).toInt ≠ 257 := bI_neq rfl (show (257 : Int32).toInt = 257 by decide) c_47
            refine ok_ite (fun c_60 => ?_) (fun c_60 => ?_)
            · skip
              have c_60i : (gI z3 5).toInt = 62 := bI_eq rfl (show (62 : Int32).toInt = 62 by decide) c_60
              refine ok_ite (fun c_61 => ?_) (fun c_61 => ?_)
              · skip
                have r_62 := n_rng (gI z2 3)
                have c_61i : (gI z2 3).toInt < 60 := bI_lt rfl (show (60 : Int32).toInt = 60 by decide) c_61
                refine ok_bd (t_fX6_step) (fun z8 q_63 => ?_)
                have h_64 : FrL [4, 5, 6, 7] z3 z8 := q_63
                clear q_63
                refine ok_bd2 (t_fX4_readSum) (fun z10 z11 q_65 => ?_)
                have h_66 : FrL [1, 2, 3] (sI z2 3 ((gI z2 3) + 1)) z10 := q_65.1
                have h_67 : FrL [4, 5, 6, 7, 8] z8 z11 := q_65.2
                clear q_65
                refine ok_bd (t_fX4_emit) (fun z13 q_68 => ?_)
                have h_69 : FrL [1, 2] z10 z13 := q_68
                clear q_68
                exact ok_some ⟨(fr_tr (fr_tr (fr_I (fr_tr fr_rf h_2 (by decide)) (by decide)) h_66 (by decide)) h_69 (by decide)), (fr_tr (fr_tr (fr_tr fr_rf h_3 (by decide)) h_64 (by decide)) h_67 (by decide))⟩
              · skip
                have r_70 := n_rng (gI z2 3)
                have c_61i : (gI z2 3).toInt ≥ 60 := bI_nlt rfl (show (60 : Int32).toInt = 60 by decide) c_61
                refine ok_bd (t_fX6_fail) (fun z15 q_71 => ?_)
                have h_72 : FrL [8] z3 z15 := q_71
                clear q_71
                exact ok_some ⟨(fr_tr fr_rf h_2 (by decide)), (fr_tr (fr_tr fr_rf h_3 (by decide)) h_72 (by decide))⟩
            · skip
              have c_60i : (gI z3 5).toInt ≠ 62 := bI_neq rfl (show (62 : Int32).toInt = 62 by decide) c_60
              refine ok_bd (t_fX6_fail) (fun z22 q_73 => ?_)
              have h_74 : FrL [8] z3 z22 := q_73
              clear q_73
              exact ok_some ⟨(fr_tr fr_rf h_2 (by decide)), (fr_tr (fr_tr fr_rf h_3 (by decide)) h_74 (by decide))⟩
  · skip
    have r_75 := n_rng (gI z3 8)
    have c_4i : (gI z3 8).toInt ≠ 0 := bI_neq rfl (show (0 : Int32).toInt = 0 by decide) c_4
    exact ok_some ⟨(fr_tr fr_rf h_2 (by decide)), (fr_tr fr_rf h_3 (by decide))⟩

set_option maxHeartbeats 400000 in
set_option maxRecDepth 20000 in
theorem t_gX4_readFact {rec : Sx → Sx → Int32 → Option (Sx × Sx)} {z_t : Sx} {z_t_0 : Sx} {x1 : Int32} {d : Nat} (hrec : ∀ (z_t : Sx) (z_t_0 : Sx) (x1 : Int32), (0 ≤ x1.toInt ∧ x1.toInt ≤ 10 ∧ 11 ≤ x1.toInt + d) → okP (rec z_t z_t_0 x1) (fun y => (FrL [1, 2, 3] z_t y.1) ∧ (FrL [4, 5, 6, 7, 8] z_t_0 y.2))) (d0 : 0 ≤ x1.toInt ∧ x1.toInt ≤ 10 ∧ 11 ≤ x1.toInt + d + 1) : okP (gX4_readFact rec z_t z_t_0 x1) (fun y => (FrL [1, 2, 3] z_t y.1) ∧ (FrL [4, 5, 6, 7, 8] z_t_0 y.2)) := by
  unfold gX4_readFact
  refine ok_jn ?_
  refine ok_ite (fun c_1 => ?_) (fun c_1 => ?_)
  · skip
    have r_2 := n_rng (gI z_t_0 5)
    have c_1i : (gI z_t_0 5).toInt = 311 := bI_eq rfl (show (311 : Int32).toInt = 311 by decide) c_1
    refine ok_jn ?_
    refine ok_ite (fun c_3 => ?_) (fun c_3 => ?_)
    · skip
      exact absurd c_3 (by decide)
    · skip
      refine ok_ite (fun c_4 => ?_) (fun c_4 => ?_)
      · skip
        have r_5 := n_rng x1
        have c_4i : x1.toInt < 10 := bI_lt rfl (show (10 : Int32).toInt = 10 by decide) c_4
        refine ok_bd (t_fX6_step) (fun z6 q_6 => ?_)
        have h_7 : FrL [4, 5, 6, 7] z_t_0 z6 := q_6
        clear q_6
        refine ok_ite (fun c_8 => ?_) (fun c_8 => ?_)
        · skip
          exact absurd c_8 (by decide)
        · skip
          have e_10 : (x1 + 1).toInt = (x1.toInt + 1) := (i32_add rfl (show (1 : Int32).toInt = 1 by decide) (by omega) (by omega))
          refine ok_bd2 (hrec _ _ _ (by first | omega | assumption | decide | (show 0 ≤ (x1 + 1).toInt ∧ (x1 + 1).toInt ≤ 10 ∧ 11 ≤ (x1 + 1).toInt + d; first | omega | assumption))) (fun z19 z20 q_9 => ?_)
          have h_11 : FrL [1, 2, 3] z_t z19 := q_9.1
          have h_12 : FrL [4, 5, 6, 7, 8] z6 z20 := q_9.2
          clear q_9
          refine ok_bd (t_fX4_emit) (fun z22 q_13 => ?_)
          have h_14 : FrL [1, 2] z19 z22 := q_13
          clear q_13
          exact ok_some ⟨(fr_tr (fr_tr fr_rf h_11 (by decide)) h_14 (by decide)), (fr_tr (fr_tr fr_rf h_7 (by decide)) h_12 (by decide))⟩
      · skip
        have r_15 := n_rng x1
        have c_4i : x1.toInt ≥ 10 := bI_nlt rfl (show (10 : Int32).toInt = 10 by decide) c_4
        refine ok_bd (t_fX6_fail) (fun z24 q_16 => ?_)
        have h_17 : FrL [8] z_t_0 z24 := q_16
        clear q_16
        exact ok_some ⟨fr_rf, (fr_tr fr_rf h_17 (by decide))⟩
  · skip
    have r_18 := n_rng (gI z_t_0 5)
    have c_1i : (gI z_t_0 5).toInt ≠ 311 := bI_neq rfl (show (311 : Int32).toInt = 311 by decide) c_1
    refine ok_jn ?_
    refine ok_ite (fun c_19 => ?_) (fun c_19 => ?_)
    · skip
      refine ok_ite (fun c_20 => ?_) (fun c_20 => ?_)
      · skip
        have c_20i : (gI z_t_0 5).toInt = 91 := bI_eq rfl (show (91 : Int32).toInt = 91 by decide) c_20
        refine ok_ite (fun c_21 => ?_) (fun c_21 => ?_)
        · skip
          have r_22 := n_rng x1
          have c_21i : x1.toInt < 10 := bI_lt rfl (show (10 : Int32).toInt = 10 by decide) c_21
          refine ok_bd (t_fX6_step) (fun z6 q_23 => ?_)
          have h_24 : FrL [4, 5, 6, 7] z_t_0 z6 := q_23
          clear q_23
          refine ok_ite (fun c_25 => ?_) (fun c_25 => ?_)
          · skip
            have e_27 : (x1 + 1).toInt = (x1.toInt + 1) := (i32_add rfl (show (1 : Int32).toInt = 1 by decide) (by omega) (by omega))
            refine ok_bd2 (t_fX4_readTest hrec (by first | omega | assumption | decide | (show 0 ≤ (x1 + 1).toInt ∧ (x1 + 1).toInt ≤ 10 ∧ 11 ≤ (x1 + 1).toInt + d; first | omega | assumption))) (fun z9 z10 q_26 => ?_)
            have h_28 : FrL [1, 2, 3] z_t z9 := q_26.1
            have h_29 : FrL [4, 5, 6, 7, 8] z6 z10 := q_26.2
            clear q_26
            refine ok_jn ?_
            refine ok_ite (fun c_30 => ?_) (fun c_30 => ?_)
            · skip
              have r_31 := n_rng (gI z10 8)
              have c_30i : (gI z10 8).toInt = 0 := bI_eq rfl (show (0 : Int32).toInt = 0 by decide) c_30
              refine ok_ite (fun c_32 => ?_) (fun c_32 => ?_)
              · skip
                have r_33 := n_rng (gI z10 5)
                have c_32i : (gI z10 5).toInt = 93 := bI_eq rfl (show (93 : Int32).toInt = 93 by decide) c_32
                refine ok_bd (t_fX6_step) (fun z13 q_34 => ?_)
                have h_35 : FrL [4, 5, 6, 7] z10 z13 := q_34
                clear q_34
                exact ok_some ⟨(fr_tr fr_rf h_28 (by decide)), (fr_tr (fr_tr (fr_tr fr_rf h_24 (by decide)) h_29 (by decide)) h_35 (by decide))⟩
              · skip
                have r_36 := n_rng (gI z10 5)
                have c_32i : (gI z10 5).toInt ≠ 93 := bI_neq rfl (show (93 : Int32).toInt = 93 by decide) c_32
                refine ok_bd (t_fX6_fail) (fun z17 q_37 => ?_)
                have h_38 : FrL [8] z10 z17 := q_37
                clear q_37
                exact ok_some ⟨(fr_tr fr_rf h_28 (by decide)), (fr_tr (fr_tr (fr_tr fr_rf h_24 (by decide)) h_29 (by decide)) h_38 (by decide))⟩
            · skip
              have r_39 := n_rng (gI z10 8)
              have c_30i : (gI z10 8).toInt ≠ 0 := bI_neq rfl (show (0 : Int32).toInt = 0 by decide) c_30
              refine ok_bd (t_fX6_step) (fun z13 q_40 => ?_)
              have h_41 : FrL [4, 5, 6, 7] z10 z13 := q_40
              clear q_40
              exact ok_some ⟨(fr_tr fr_rf h_28 (by decide)), (fr_tr (fr_tr (fr_tr fr_rf h_24 (by decide)) h_29 (by decide)) h_41 (by decide))⟩
          · skip
            exact absurd (by decide) c_25
        · skip
          have r_42 := n_rng x1
          have c_21i : x1.toInt ≥ 10 := bI_nlt rfl (show (10 : Int32).toInt = 10 by decide) c_21
          refine ok_bd (t_fX6_fail) (fun z24 q_43 => ?_)
          have h_44 : FrL [8] z_t_0 z24 := q_43
          clear q_43
          exact ok_some ⟨fr_rf, (fr_tr fr_rf h_44 (by decide))⟩
      · skip
        have c_20i : (gI z_t_0 5).toInt ≠ 91 := bI_neq rfl (show (91 : Int32).toInt = 91 by decide) c_20
        refine ok_bd2 (t_fX4_readComparison) (fun z28 z29 q_45 => ?_)
        have h_46 : FrL [1, 2, 3] z_t z28 := q_45.1
        have h_47 : FrL [4, 5, 6, 7, 8] z_t_0 z29 := q_45.2
        clear q_45
        exact ok_some ⟨(fr_tr fr_rf h_46 (by decide)), (fr_tr fr_rf h_47 (by decide))⟩
    · skip
      exact absurd (by decide) c_19

set_option maxHeartbeats 400000 in
set_option maxRecDepth 20000 in
theorem t_fX4_readFact : ∀ (dp : Nat) (z_t : Sx) (z_t_0 : Sx) (x1 : Int32), (0 ≤ x1.toInt ∧ x1.toInt ≤ 10 ∧ 11 ≤ x1.toInt + dp) → okP (fX4_readFact dp z_t z_t_0 x1) (fun y => (FrL [1, 2, 3] z_t y.1) ∧ (FrL [4, 5, 6, 7, 8] z_t_0 y.2)) := by
  intro dp
  induction dp with
  | zero => intro z_t z_t_0 x1 d0; exfalso; omega
  | succ dp ih =>
    intro z_t z_t_0 x1 d0
    exact t_gX4_readFact (d := dp) (fun z_t z_t_0 x1 d0 => ih z_t z_t_0 x1 (by omega)) (by omega)

set_option maxHeartbeats 400000 in
set_option maxRecDepth 20000 in
theorem t_fX4_readClause {z_t : Sx} {z_t_0 : Sx} : okP (fX4_readClause z_t z_t_0) (fun y => (FrL [1, 2, 3, 4, 5, 6, 7] z_t y.1) ∧ (FrL [4, 5, 6, 7, 8] z_t_0 y.2)) := by
  unfold fX4_readClause
  refine ok_jn ?_
  refine ok_ite (fun c_1 => ?_) (fun c_1 => ?_)
  · skip
    have r_2 := n_rng (gI z_t_0 5)
    have c_1i : (gI z_t_0 5).toInt = 306 := bI_eq rfl (show (306 : Int32).toInt = 306 by decide) c_1
    refine ok_ite (fun c_3 => ?_) (fun c_3 => ?_)
    · skip
      have r_4 := n_rng (gI z_t 4)
      have c_3i : (gI z_t 4).toInt < 12 := bI_lt rfl (show (12 : Int32).toInt = 12 by decide) c_3
      refine ok_bd (t_fX6_step) (fun z4 q_5 => ?_)
      have h_6 : FrL [4, 5, 6, 7] z_t_0 z4 := q_5
      clear q_5
      refine ok_bd (t_fX8_put (by first | omega | assumption | decide | (show (12 : Nat) < 2147483648; first | omega | assumption))) (fun z6 q_7 => ?_)
      refine ok_jn ?_
      refine ok_ite (fun c_8 => ?_) (fun c_8 => ?_)
      · skip
        have c_8i : (gI z_t_0 5).toInt = 308 := bI_eq rfl (show (308 : Int32).toInt = 308 by decide) c_8
        refine ok_jn ?_
        refine ok_ite (fun c_9 => ?_) (fun c_9 => ?_)
        · skip
          have c_9i : (gI z_t_0 5).toInt = 306 := bI_eq rfl (show (306 : Int32).toInt = 306 by decide) c_9
          refine ok_bd2 (t_fX4_readSum) (fun z26 z27 q_10 => ?_)
          have h_11 : FrL [1, 2, 3] (sTf z_t 5 z6) z26 := q_10.1
          have h_12 : FrL [4, 5, 6, 7, 8] z4 z27 := q_10.2
          clear q_10
          refine ok_ite (fun c_13 => ?_) (fun c_13 => ?_)
          · skip
            have r_14 := n_rng (gI z27 8)
            have c_13i : (gI z27 8).toInt = 0 := bI_eq rfl (show (0 : Int32).toInt = 0 by decide) c_13
            refine ok_ite (fun c_15 => ?_) (fun c_15 => ?_)
            · skip
              have r_16 := n_rng (gI z27 5)
              have c_15i : (gI z27 5).toInt = 307 := bI_eq rfl (show (307 : Int32).toInt = 307 by decide) c_15
              refine ok_bd (t_fX6_step) (fun z31 q_17 => ?_)
              have h_18 : FrL [4, 5, 6, 7] z27 z31 := q_17
              clear q_17
              refine ok_bd (t_fX8_put (by first | omega | assumption | decide | (show (12 : Nat) < 2147483648; first | omega | assumption))) (fun z14 q_19 => ?_)
              refine ok_jn ?_
              refine ok_ite (fun c_20 => ?_) (fun c_20 => ?_)
              · skip
                exact absurd c_20 (by decide)
              · skip
                have e_22 : (0 : Int32).toInt = 0 := (show (0 : Int32).toInt = 0 by decide)
                refine ok_bd2 (t_fX4_readTest (d := 16) (fun _ _ _ h1 => t_fX4_readFact 16 _ _ _ h1) (by first | omega | assumption | decide | (show 0 ≤ (0 : Int32).toInt ∧ (0 : Int32).toInt ≤ 10 ∧ 11 ≤ (0 : Int32).toInt + d; first | omega | assumption))) (fun z22 z23 q_21 => ?_)
                have h_23 : FrL [1, 2, 3] (sTf z26 6 z14) z22 := q_21.1
                have h_24 : FrL [4, 5, 6, 7, 8] z31 z23 := q_21.2
                clear q_21
                refine ok_bd (t_fX8_put (by first | omega | assumption | decide | (show (12 : Nat) < 2147483648; first | omega | assumption))) (fun z19 q_25 => ?_)
                exact ok_some ⟨(fr_I (fr_Tf (fr_tr (fr_Tf (fr_tr (fr_Tf fr_rf (by decide)) h_11 (by decide)) (by decide)) h_23 (by decide)) (by decide)) (by decide)), (fr_tr (fr_tr (fr_tr (fr_tr fr_rf h_6 (by decide)) h_12 (by decide)) h_18 (by decide)) h_24 (by decide))⟩
            · skip
              have r_26 := n_rng (gI z27 5)
              have c_15i : (gI z27 5).toInt ≠ 307 := bI_neq rfl (show (307 : Int32).toInt = 307 by decide) c_15
              refine ok_bd (t_fX8_put (by first | omega | assumption | decide | (show (12 : Nat) < 2147483648; first | omega | assumption))) (fun z14 q_27 => ?_)
              refine ok_jn ?_
              refine ok_ite (fun c_28 => ?_) (fun c_28 => ?_)
              · skip
                exact absurd c_28 (by decide)
              · skip
                have e_30 : (0 : Int32).toInt = 0 := (show (0 : Int32).toInt = 0 by decide)
                refine ok_bd2 (t_fX4_readTest (d := 16) (fun _ _ _ h1 => t_fX4_readFact 16 _ _ _ h1) (by first | omega | assumption | decide | (show 0 ≤ (0 : Int32).toInt ∧ (0 : Int32).toInt ≤ 10 ∧ 11 ≤ (0 : Int32).toInt + d; first | omega | assumption))) (fun z22 z23 q_29 => ?_)
                have h_31 : FrL [1, 2, 3] (sTf z26 6 z14) z22 := q_29.1
                have h_32 : FrL [4, 5, 6, 7, 8] z27 z23 := q_29.2
                clear q_29
                refine ok_bd (t_fX8_put (by first | omega | assumption | decide | (show (12 : Nat) < 2147483648; first | omega | assumption))) (fun z19 q_33 => ?_)
                exact ok_some ⟨(fr_I (fr_Tf (fr_tr (fr_Tf (fr_tr (fr_Tf fr_rf (by decide)) h_11 (by decide)) (by decide)) h_31 (by decide)) (by decide)) (by decide)), (fr_tr (fr_tr (fr_tr fr_rf h_6 (by decide)) h_12 (by decide)) h_32 (by decide))⟩
          · skip
            have r_34 := n_rng (gI z27 8)
            have c_13i : (gI z27 8).toInt ≠ 0 := bI_neq rfl (show (0 : Int32).toInt = 0 by decide) c_13
            refine ok_bd (t_fX8_put (by first | omega | assumption | decide | (show (12 : Nat) < 2147483648; first | omega | assumption))) (fun z14 q_35 => ?_)
            refine ok_jn ?_
            refine ok_ite (fun c_36 => ?_) (fun c_36 => ?_)
            · skip
              exact absurd c_36 (by decide)
            · skip
              have e_38 : (0 : Int32).toInt = 0 := (show (0 : Int32).toInt = 0 by decide)
              refine ok_bd2 (t_fX4_readTest (d := 16) (fun _ _ _ h1 => t_fX4_readFact 16 _ _ _ h1) (by first | omega | assumption | decide | (show 0 ≤ (0 : Int32).toInt ∧ (0 : Int32).toInt ≤ 10 ∧ 11 ≤ (0 : Int32).toInt + d; first | omega | assumption))) (fun z22 z23 q_37 => ?_)
              have h_39 : FrL [1, 2, 3] (sTf z26 6 z14) z22 := q_37.1
              have h_40 : FrL [4, 5, 6, 7, 8] z27 z23 := q_37.2
              clear q_37
              refine ok_bd (t_fX8_put (by first | omega | assumption | decide | (show (12 : Nat) < 2147483648; first | omega | assumption))) (fun z19 q_41 => ?_)
              exact ok_some ⟨(fr_I (fr_Tf (fr_tr (fr_Tf (fr_tr (fr_Tf fr_rf (by decide)) h_11 (by decide)) (by decide)) h_39 (by decide)) (by decide)) (by decide)), (fr_tr (fr_tr (fr_tr fr_rf h_6 (by decide)) h_12 (by decide)) h_40 (by decide))⟩
        · skip
          have c_9i : (gI z_t_0 5).toInt ≠ 306 := bI_neq rfl (show (306 : Int32).toInt = 306 by decide) c_9
          refine ok_bd (t_fX8_put (by first | omega | assumption | decide | (show (12 : Nat) < 2147483648; first | omega | assumption))) (fun z14 q_42 => ?_)
          refine ok_jn ?_
          refine ok_ite (fun c_43 => ?_) (fun c_43 => ?_)
          · skip
            exact absurd c_43 (by decide)
          · skip
            have e_45 : (0 : Int32).toInt = 0 := (show (0 : Int32).toInt = 0 by decide)
            refine ok_bd2 (t_fX4_readTest (d := 16) (fun _ _ _ h1 => t_fX4_readFact 16 _ _ _ h1) (by first | omega | assumption | decide | (show 0 ≤ (0 : Int32).toInt ∧ (0 : Int32).toInt ≤ 10 ∧ 11 ≤ (0 : Int32).toInt + d; first | omega | assumption))) (fun z22 z23 q_44 => ?_)
            have h_46 : FrL [1, 2, 3] (sTf (sTf z_t 5 z6) 6 z14) z22 := q_44.1
            have h_47 : FrL [4, 5, 6, 7, 8] z4 z23 := q_44.2
            clear q_44
            refine ok_bd (t_fX8_put (by first | omega | assumption | decide | (show (12 : Nat) < 2147483648; first | omega | assumption))) (fun z19 q_48 => ?_)
            exact ok_some ⟨(fr_I (fr_Tf (fr_tr (fr_Tf (fr_Tf fr_rf (by decide)) (by decide)) h_46 (by decide)) (by decide)) (by decide)), (fr_tr (fr_tr fr_rf h_6 (by decide)) h_47 (by decide))⟩
      · skip
        have c_8i : (gI z_t_0 5).toInt ≠ 308 := bI_neq rfl (show (308 : Int32).toInt = 308 by decide) c_8
        refine ok_jn ?_
        refine ok_ite (fun c_49 => ?_) (fun c_49 => ?_)
        · skip
          have c_49i : (gI z_t_0 5).toInt = 306 := bI_eq rfl (show (306 : Int32).toInt = 306 by decide) c_49
          refine ok_bd2 (t_fX4_readSum) (fun z26 z27 q_50 => ?_)
          have h_51 : FrL [1, 2, 3] (sTf z_t 5 z6) z26 := q_50.1
          have h_52 : FrL [4, 5, 6, 7, 8] z4 z27 := q_50.2
          clear q_50
          refine ok_ite (fun c_53 => ?_) (fun c_53 => ?_)
          · skip
            have r_54 := n_rng (gI z27 8)
            have c_53i : (gI z27 8).toInt = 0 := bI_eq rfl (show (0 : Int32).toInt = 0 by decide) c_53
            refine ok_ite (fun c_55 => ?_) (fun c_55 => ?_)
            · skip
              have r_56 := n_rng (gI z27 5)
              have c_55i : (gI z27 5).toInt = 307 := bI_eq rfl (show (307 : Int32).toInt = 307 by decide) c_55
              refine ok_bd (t_fX6_step) (fun z31 q_57 => ?_)
              have h_58 : FrL [4, 5, 6, 7] z27 z31 := q_57
              clear q_57
              refine ok_bd (t_fX8_put (by first | omega | assumption | decide | (show (12 : Nat) < 2147483648; first | omega | assumption))) (fun z14 q_59 => ?_)
              refine ok_jn ?_
              refine ok_ite (fun c_60 => ?_) (fun c_60 => ?_)
              · skip
                exact absurd c_60 (by decide)
              · skip
                have e_62 : (0 : Int32).toInt = 0 := (show (0 : Int32).toInt = 0 by decide)
                refine ok_bd2 (t_fX4_readTest (d := 16) (fun _ _ _ h1 => t_fX4_readFact 16 _ _ _ h1) (by first | omega | assumption | decide | (show 0 ≤ (0 : Int32).toInt ∧ (0 : Int32).toInt ≤ 10 ∧ 11 ≤ (0 : Int32).toInt + d; first | omega | assumption))) (fun z22 z23 q_61 => ?_)
                have h_63 : FrL [1, 2, 3] (sTf z26 6 z14) z22 := q_61.1
                have h_64 : FrL [4, 5, 6, 7, 8] z31 z23 := q_61.2
                clear q_61
                refine ok_bd (t_fX8_put (by first | omega | assumption | decide | (show (12 : Nat) < 2147483648; first | omega | assumption))) (fun z19 q_65 => ?_)
                exact ok_some ⟨(fr_I (fr_Tf (fr_tr (fr_Tf (fr_tr (fr_Tf fr_rf (by decide)) h_51 (by decide)) (by decide)) h_63 (by decide)) (by decide)) (by decide)), (fr_tr (fr_tr (fr_tr (fr_tr fr_rf h_6 (by decide)) h_52 (by decide)) h_58 (by decide)) h_64 (by decide))⟩
            · skip
              have r_66 := n_rng (gI z27 5)
              have c_55i : (gI z27 5).toInt ≠ 307 := bI_neq rfl (show (307 : Int32).toInt = 307 by decide) c_55
              refine ok_bd (t_fX8_put (by first | omega | assumption | decide | (show (12 : Nat) < 2147483648; first | omega | assumption))) (fun z14 q_67 => ?_)
              refine ok_jn ?_
              refine ok_ite (fun c_68 => ?_) (fun c_68 => ?_)
              · skip
                refine ok_bd (t_fX8_put (by first | omega | assumption | decide | (show (12 : Nat) < 2147483648; first | omega | assumption))) (fun z19 q_69 => ?_)
                exact ok_some ⟨(fr_I (fr_Tf (fr_Tf (fr_tr (fr_Tf fr_rf (by decide)) h_51 (by decide)) (by decide)) (by decide)) (by decide)), (fr_tr (fr_tr fr_rf h_6 (by decide)) h_52 (by decide))⟩
              · skip
                exact absurd (by decide) c_68
          · skip
            have r_70 := n_rng (gI z27 8)
            have c_53i : (gI z27 8).toInt ≠ 0 := bI_neq rfl (show (0 : Int32).toInt = 0 by decide) c_53
            refine ok_bd (t_fX8_put (by first | omega | assumption | decide | (show (12 : Nat) < 2147483648; first | omega | assumption))) (fun z14 q_71 => ?_)
            refine ok_jn ?_
            refine ok_ite (fun c_72 => ?_) (fun c_72 => ?_)
            · skip
              refine ok_bd (t_fX8_put (by first | omega | assumption | decide | (show (12 : Nat) < 2147483648; first | omega | assumption))) (fun z19 q_73 => ?_)
              exact ok_some ⟨(fr_I (fr_Tf (fr_Tf (fr_tr (fr_Tf fr_rf (by decide)) h_51 (by decide)) (by decide)) (by decide)) (by decide)), (fr_tr (fr_tr fr_rf h_6 (by decide)) h_52 (by decide))⟩
            · skip
              exact absurd (by decide) c_72
        · skip
          have c_49i : (gI z_t_0 5).toInt ≠ 306 := bI_neq rfl (show (306 : Int32).toInt = 306 by decide) c_49
          refine ok_bd (t_fX8_put (by first | omega | assumption | decide | (show (12 : Nat) < 2147483648; first | omega | assumption))) (fun z14 q_74 => ?_)
          refine ok_jn ?_
          refine ok_ite (fun c_75 => ?_) (fun c_75 => ?_)
          · skip
            refine ok_bd (t_fX8_put (by first | omega | assumption | decide | (show (12 : Nat) < 2147483648; first | omega | assumption))) (fun z19 q_76 => ?_)
            exact ok_some ⟨(fr_I (fr_Tf (fr_Tf (fr_Tf fr_rf (by decide)) (by decide)) (by decide)) (by decide)), (fr_tr fr_rf h_6 (by decide))⟩
          · skip
            exact absurd (by decide) c_75
    · skip
      have r_77 := n_rng (gI z_t 4)
      have c_3i : (gI z_t 4).toInt ≥ 12 := bI_nlt rfl (show (12 : Int32).toInt = 12 by decide) c_3
      refine ok_bd (t_fX6_fail) (fun z34 q_78 => ?_)
      have h_79 : FrL [8] z_t_0 z34 := q_78
      clear q_78
      exact ok_some ⟨fr_rf, (fr_tr fr_rf h_79 (by decide))⟩
  · skip
    have r_80 := n_rng (gI z_t_0 5)
    have c_1i : (gI z_t_0 5).toInt ≠ 306 := bI_neq rfl (show (306 : Int32).toInt = 306 by decide) c_1
    refine ok_ite (fun c_81 => ?_) (fun c_81 => ?_)
    · skip
      have c_81i : (gI z_t_0 5).toInt = 308 := bI_eq rfl (show (308 : Int32).toInt = 308 by decide) c_81
      refine ok_ite (fun c_82 => ?_) (fun c_82 => ?_)
      · skip
        have r_83 := n_rng (gI z_t 4)
        have c_82i : (gI z_t 4).toInt < 12 := bI_lt rfl (show (12 : Int32).toInt = 12 by decide) c_82
        refine ok_bd (t_fX6_step) (fun z4 q_84 => ?_)
        have h_85 : FrL [4, 5, 6, 7] z_t_0 z4 := q_84
        clear q_84
        refine ok_bd (t_fX8_put (by first | omega | assumption | decide | (show (12 : Nat) < 2147483648; first | omega | assumption))) (fun z6 q_86 => ?_)
        refine ok_jn ?_
        refine ok_ite (fun c_87 => ?_) (fun c_87 => ?_)
        · skip
          have c_87i : (gI z_t_0 5).toInt = 308 := bI_eq rfl (show (308 : Int32).toInt = 308 by decide) c_87
          refine ok_jn ?_
          refine ok_ite (fun c_88 => ?_) (fun c_88 => ?_)
          · skip
            have c_88i : (gI z_t_0 5).toInt = 306 := bI_eq rfl (show (306 : Int32).toInt = 306 by decide) c_88
            refine ok_bd2 (t_fX4_readSum) (fun z26 z27 q_89 => ?_)
            have h_90 : FrL [1, 2, 3] (sTf z_t 5 z6) z26 := q_89.1
            have h_91 : FrL [4, 5, 6, 7, 8] z4 z27 := q_89.2
            clear q_89
            refine ok_ite (fun c_92 => ?_) (fun c_92 => ?_)
            · skip
              have r_93 := n_rng (gI z27 8)
              have c_92i : (gI z27 8).toInt = 0 := bI_eq rfl (show (0 : Int32).toInt = 0 by decide) c_92
              refine ok_ite (fun c_94 => ?_) (fun c_94 => ?_)
              · skip
                have r_95 := n_rng (gI z27 5)
                have c_94i : (gI z27 5).toInt = 307 := bI_eq rfl (show (307 : Int32).toInt = 307 by decide) c_94
                refine ok_bd (t_fX6_step) (fun z31 q_96 => ?_)
                have h_97 : FrL [4, 5, 6, 7] z27 z31 := q_96
                clear q_96
                refine ok_bd (t_fX8_put (by first | omega | assumption | decide | (show (12 : Nat) < 2147483648; first | omega | assumption))) (fun z14 q_98 => ?_)
                refine ok_jn ?_
                refine ok_ite (fun c_99 => ?_) (fun c_99 => ?_)
                · skip
                  exact absurd c_99 (by decide)
                · skip
                  have e_101 : (0 : Int32).toInt = 0 := (show (0 : Int32).toInt = 0 by decide)
                  refine ok_bd2 (t_fX4_readTest (d := 16) (fun _ _ _ h1 => t_fX4_readFact 16 _ _ _ h1) (by first | omega | assumption | decide | (show 0 ≤ (0 : Int32).toInt ∧ (0 : Int32).toInt ≤ 10 ∧ 11 ≤ (0 : Int32).toInt + d; first | omega | assumption))) (fun z22 z23 q_100 => ?_)
                  have h_102 : FrL [1, 2, 3] (sTf z26 6 z14) z22 := q_100.1
                  have h_103 : FrL [4, 5, 6, 7, 8] z31 z23 := q_100.2
                  clear q_100
                  refine ok_bd (t_fX8_put (by first | omega | assumption | decide | (show (12 : Nat) < 2147483648; first | omega | assumption))) (fun z19 q_104 => ?_)
                  exact ok_some ⟨(fr_I (fr_Tf (fr_tr (fr_Tf (fr_tr (fr_Tf fr_rf (by decide)) h_90 (by decide)) (by decide)) h_102 (by decide)) (by decide)) (by decide)), (fr_tr (fr_tr (fr_tr (fr_tr fr_rf h_85 (by decide)) h_91 (by decide)) h_97 (by decide)) h_103 (by decide))⟩
              · skip
                have r_105 := n_rng (gI z27 5)
                have c_94i : (gI z27 5).toInt ≠ 307 := bI_neq rfl (show (307 : Int32).toInt = 307 by decide) c_94
                refine ok_bd (t_fX8_put (by first | omega | assumption | decide | (show (12 : Nat) < 2147483648; first | omega | assumption))) (fun z14 q_106 => ?_)
                refine ok_jn ?_
                refine ok_ite (fun c_107 => ?_) (fun c_107 => ?_)
                · skip
                  exact absurd c_107 (by decide)
                · skip
                  have e_109 : (0 : Int32).toInt = 0 := (show (0 : Int32).toInt = 0 by decide)
                  refine ok_bd2 (t_fX4_readTest (d := 16) (fun _ _ _ h1 => t_fX4_readFact 16 _ _ _ h1) (by first | omega | assumption | decide | (show 0 ≤ (0 : Int32).toInt ∧ (0 : Int32).toInt ≤ 10 ∧ 11 ≤ (0 : Int32).toInt + d; first | omega | assumption))) (fun z22 z23 q_108 => ?_)
                  have h_110 : FrL [1, 2, 3] (sTf z26 6 z14) z22 := q_108.1
                  have h_111 : FrL [4, 5, 6, 7, 8] z27 z23 := q_108.2
                  clear q_108
                  refine ok_bd (t_fX8_put (by first | omega | assumption | decide | (show (12 : Nat) < 2147483648; first | omega | assumption))) (fun z19 q_112 => ?_)
                  exact ok_some ⟨(fr_I (fr_Tf (fr_tr (fr_Tf (fr_tr (fr_Tf fr_rf (by decide)) h_90 (by decide)) (by decide)) h_110 (by decide)) (by decide)) (by decide)), (fr_tr (fr_tr (fr_tr fr_rf h_85 (by decide)) h_91 (by decide)) h_111 (by decide))⟩
            · skip
              have r_113 := n_rng (gI z27 8)
              have c_92i : (gI z27 8).toInt ≠ 0 := bI_neq rfl (show (0 : Int32).toInt = 0 by decide) c_92
              refine ok_bd (t_fX8_put (by first | omega | assumption | decide | (show (12 : Nat) < 2147483648; first | omega | assumption))) (fun z14 q_114 => ?_)
              refine ok_jn ?_
              refine ok_ite (fun c_115 => ?_) (fun c_115 => ?_)
              · skip
                exact absurd c_115 (by decide)
              · skip
                have e_117 : (0 : Int32).toInt = 0 := (show (0 : Int32).toInt = 0 by decide)
                refine ok_bd2 (t_fX4_readTest (d := 16) (fun _ _ _ h1 => t_fX4_readFact 16 _ _ _ h1) (by first | omega | assumption | decide | (show 0 ≤ (0 : Int32).toInt ∧ (0 : Int32).toInt ≤ 10 ∧ 11 ≤ (0 : Int32).toInt + d; first | omega | assumption))) (fun z22 z23 q_116 => ?_)
                have h_118 : FrL [1, 2, 3] (sTf z26 6 z14) z22 := q_116.1
                have h_119 : FrL [4, 5, 6, 7, 8] z27 z23 := q_116.2
                clear q_116
                refine ok_bd (t_fX8_put (by first | omega | assumption | decide | (show (12 : Nat) < 2147483648; first | omega | assumption))) (fun z19 q_120 => ?_)
                exact ok_some ⟨(fr_I (fr_Tf (fr_tr (fr_Tf (fr_tr (fr_Tf fr_rf (by decide)) h_90 (by decide)) (by decide)) h_118 (by decide)) (by decide)) (by decide)), (fr_tr (fr_tr (fr_tr fr_rf h_85 (by decide)) h_91 (by decide)) h_119 (by decide))⟩
          · skip
            have c_88i : (gI z_t_0 5).toInt ≠ 306 := bI_neq rfl (show (306 : Int32).toInt = 306 by decide) c_88
            refine ok_bd (t_fX8_put (by first | omega | assumption | decide | (show (12 : Nat) < 2147483648; first | omega | assumption))) (fun z14 q_121 => ?_)
            refine ok_jn ?_
            refine ok_ite (fun c_122 => ?_) (fun c_122 => ?_)
            · skip
              exact absurd c_122 (by decide)
            · skip
              have e_124 : (0 : Int32).toInt = 0 := (show (0 : Int32).toInt = 0 by decide)
              refine ok_bd2 (t_fX4_readTest (d := 16) (fun _ _ _ h1 => t_fX4_readFact 16 _ _ _ h1) (by first | omega | assumption | decide | (show 0 ≤ (0 : Int32).toInt ∧ (0 : Int32).toInt ≤ 10 ∧ 11 ≤ (0 : Int32).toInt + d; first | omega | assumption))) (fun z22 z23 q_123 => ?_)
              have h_125 : FrL [1, 2, 3] (sTf (sTf z_t 5 z6) 6 z14) z22 := q_123.1
              have h_126 : FrL [4, 5, 6, 7, 8] z4 z23 := q_123.2
              clear q_123
              refine ok_bd (t_fX8_put (by first | omega | assumption | decide | (show (12 : Nat) < 2147483648; first | omega | assumption))) (fun z19 q_127 => ?_)
              exact ok_some ⟨(fr_I (fr_Tf (fr_tr (fr_Tf (fr_Tf fr_rf (by decide)) (by decide)) h_125 (by decide)) (by decide)) (by decide)), (fr_tr (fr_tr fr_rf h_85 (by decide)) h_126 (by decide))⟩
        · skip
          have c_87i : (gI z_t_0 5).toInt ≠ 308 := bI_neq rfl (show (308 : Int32).toInt = 308 by decide) c_87
          refine ok_jn ?_
          refine ok_ite (fun c_128 => ?_) (fun c_128 => ?_)
          · skip
            have c_128i : (gI z_t_0 5).toInt = 306 := bI_eq rfl (show (306 : Int32).toInt = 306 by decide) c_128
            refine ok_bd2 (t_fX4_readSum) (fun z26 z27 q_129 => ?_)
            have h_130 : FrL [1, 2, 3] (sTf z_t 5 z6) z26 := q_129.1
            have h_131 : FrL [4, 5, 6, 7, 8] z4 z27 := q_129.2
            clear q_129
            refine ok_ite (fun c_132 => ?_) (fun c_132 => ?_)
            · skip
              have r_133 := n_rng (gI z27 8)
              have c_132i : (gI z27 8).toInt = 0 := bI_eq rfl (show (0 : Int32).toInt = 0 by decide) c_132
              refine ok_ite (fun c_134 => ?_) (fun c_134 => ?_)
              · skip
                have r_135 := n_rng (gI z27 5)
                have c_134i : (gI z27 5).toInt = 307 := bI_eq rfl (show (307 : Int32).toInt = 307 by decide) c_134
                refine ok_bd (t_fX6_step) (fun z31 q_136 => ?_)
                have h_137 : FrL [4, 5, 6, 7] z27 z31 := q_136
                clear q_136
                refine ok_bd (t_fX8_put (by first | omega | assumption | decide | (show (12 : Nat) < 2147483648; first | omega | assumption))) (fun z14 q_138 => ?_)
                refine ok_jn ?_
                refine ok_ite (fun c_139 => ?_) (fun c_139 => ?_)
                · skip
                  exact absurd c_139 (by decide)
                · skip
                  have e_141 : (0 : Int32).toInt = 0 := (show (0 : Int32).toInt = 0 by decide)
                  refine ok_bd2 (t_fX4_readTest (d := 16) (fun _ _ _ h1 => t_fX4_readFact 16 _ _ _ h1) (by first | omega | assumption | decide | (show 0 ≤ (0 : Int32).toInt ∧ (0 : Int32).toInt ≤ 10 ∧ 11 ≤ (0 : Int32).toInt + d; first | omega | assumption))) (fun z22 z23 q_140 => ?_)
                  have h_142 : FrL [1, 2, 3] (sTf z26 6 z14) z22 := q_140.1
                  have h_143 : FrL [4, 5, 6, 7, 8] z31 z23 := q_140.2
                  clear q_140
                  refine ok_bd (t_fX8_put (by first | omega | assumption | decide | (show (12 : Nat) < 2147483648; first | omega | assumption))) (fun z19 q_144 => ?_)
                  exact ok_some ⟨(fr_I (fr_Tf (fr_tr (fr_Tf (fr_tr (fr_Tf fr_rf (by decide)) h_130 (by decide)) (by decide)) h_142 (by decide)) (by decide)) (by decide)), (fr_tr (fr_tr (fr_tr (fr_tr fr_rf h_85 (by decide)) h_131 (by decide)) h_137 (by decide)) h_143 (by decide))⟩
              · skip
                have r_145 := n_rng (gI z27 5)
                have c_134i : (gI z27 5).toInt ≠ 307 := bI_neq rfl (show (307 : Int32).toInt = 307 by decide) c_134
                refine ok_bd (t_fX8_put (by first | omega | assumption | decide | (show (12 : Nat) < 2147483648; first | omega | assumption))) (fun z14 q_146 => ?_)
                refine ok_jn ?_
                refine ok_ite (fun c_147 => ?_) (fun c_147 => ?_)
                · skip
                  refine ok_bd (t_fX8_put (by first | omega | assumption | decide | (show (12 : Nat) < 2147483648; first | omega | assumption))) (fun z19 q_148 => ?_)
                  exact ok_some ⟨(fr_I (fr_Tf (fr_Tf (fr_tr (fr_Tf fr_rf (by decide)) h_130 (by decide)) (by decide)) (by decide)) (by decide)), (fr_tr (fr_tr fr_rf h_85 (by decide)) h_131 (by decide))⟩
                · skip
                  exact absurd (by decide) c_147
            · skip
              have r_149 := n_rng (gI z27 8)
              have c_132i : (gI z27 8).toInt ≠ 0 := bI_neq rfl (show (0 : Int32).toInt = 0 by decide) c_132
              refine ok_bd (t_fX8_put (by first | omega | assumption | decide | (show (12 : Nat) < 2147483648; first | omega | assumption))) (fun z14 q_150 => ?_)
              refine ok_jn ?_
              refine ok_ite (fun c_151 => ?_) (fun c_151 => ?_)
              · skip
                refine ok_bd (t_fX8_put (by first | omega | assumption | decide | (show (12 : Nat) < 2147483648; first | omega | assumption))) (fun z19 q_152 => ?_)
                exact ok_some ⟨(fr_I (fr_Tf (fr_Tf (fr_tr (fr_Tf fr_rf (by decide)) h_130 (by decide)) (by decide)) (by decide)) (by decide)), (fr_tr (fr_tr fr_rf h_85 (by decide)) h_131 (by decide))⟩
              · skip
                exact absurd (by decide) c_151
          · skip
            have c_128i : (gI z_t_0 5).toInt ≠ 306 := bI_neq rfl (show (306 : Int32).toInt = 306 by decide) c_128
            refine ok_bd (t_fX8_put (by first | omega | assumption | decide | (show (12 : Nat) < 2147483648; first | omega | assumption))) (fun z14 q_153 => ?_)
            refine ok_jn ?_
            refine ok_ite (fun c_154 => ?_) (fun c_154 => ?_)
            · skip
              refine ok_bd (t_fX8_put (by first | omega | assumption | decide | (show (12 : Nat) < 2147483648; first | omega | assumption))) (fun z19 q_155 => ?_)
              exact ok_some ⟨(fr_I (fr_Tf (fr_Tf (fr_Tf fr_rf (by decide)) (by decide)) (by decide)) (by decide)), (fr_tr fr_rf h_85 (by decide))⟩
            · skip
              exact absurd (by decide) c_154
      · skip
        have r_156 := n_rng (gI z_t 4)
        have c_82i : (gI z_t 4).toInt ≥ 12 := bI_nlt rfl (show (12 : Int32).toInt = 12 by decide) c_82
        refine ok_bd (t_fX6_fail) (fun z34 q_157 => ?_)
        have h_158 : FrL [8] z_t_0 z34 := q_157
        clear q_157
        exact ok_some ⟨fr_rf, (fr_tr fr_rf h_158 (by decide))⟩
    · skip
      have c_81i : (gI z_t_0 5).toInt ≠ 308 := bI_neq rfl (show (308 : Int32).toInt = 308 by decide) c_81
      refine ok_bd (t_fX6_fail) (fun z38 q_159 => ?_)
      have h_160 : FrL [8] z_t_0 z38 := q_159
      clear q_159
      exact ok_some ⟨fr_rf, (fr_tr fr_rf h_160 (by decide))⟩

set_option maxHeartbeats 400000 in
set_option maxRecDepth 20000 in
theorem t_fX4_start {z_t : Sx} : okP (fX4_start z_t) (fun y => (FrL [2, 3, 4] z_t y)) := by
  unfold fX4_start
  exact ok_some (fr_I (fr_I (fr_I fr_rf (by decide)) (by decide)) (by decide))

set_option maxHeartbeats 400000 in
set_option maxRecDepth 20000 in
theorem t_fX5_beginWork {z_t : Sx} {z_t_1 : Sx} {z_p1 : Sx} : okP (fX5_beginWork z_t z_t_1 z_p1) (fun y => (FrL [2, 3, 4, 6] z_t y.1) ∧ (FrL [0, 1, 2, 3, 5] z_t_1 y.2)) := by
  unfold fX5_beginWork
  refine ok_bd (t_fX0_begin) (fun z2 q_1 => ?_)
  have h_2 : FrL [0, 1, 2, 5] z_t_1 z2 := q_1
  clear q_1
  exact ok_some ⟨(fr_I (fr_I (fr_I (fr_I fr_rf (by decide)) (by decide)) (by decide)) (by decide)), (fr_I (fr_tr fr_rf h_2 (by decide)) (by decide))⟩

set_option maxHeartbeats 400000 in
set_option maxRecDepth 20000 in
theorem t_fX5_copyFrom {z_t : Sx} {z_t_1 : Sx} {z_p1 : Sx} {z_p1_1 : Sx} : okP (fX5_copyFrom z_t z_t_1 z_p1 z_p1_1) (fun y => (FrL [2, 3, 4, 5, 6, 7] z_t y.1) ∧ (FrL [0, 1, 2, 3, 4, 5] z_t_1 y.2)) := by
  unfold fX5_copyFrom
  refine ok_bd (t_fX0_copyFrom) (fun z2 q_1 => ?_)
  have h_2 : FrL [0, 1, 2, 3, 4, 5] z_t_1 z2 := q_1
  clear q_1
  exact ok_some ⟨(fr_Tf (fr_I (fr_Tf (fr_I (fr_I (fr_I fr_rf (by decide)) (by decide)) (by decide)) (by decide)) (by decide)) (by decide)), (fr_tr fr_rf h_2 (by decide))⟩

set_option maxHeartbeats 400000 in
set_option maxRecDepth 20000 in
theorem t_fX6_addToken {z_t : Sx} {x1 : Int32} {x2 : Int32} {x3 : Int32} : okP (fX6_addToken z_t x1 x2 x3) (fun y => (FrL [0, 1, 2, 3] z_t y)) := by
  unfold fX6_addToken
  refine ok_ite (fun c_1 => ?_) (fun c_1 => ?_)
  · skip
    have r_2 := n_rng (gI z_t 3)
    have c_1i : (gI z_t 3).toInt < 0 := bI_lt rfl (show (0 : Int32).toInt = 0 by decide) c_1
    exact ok_some fr_rf
  · skip
    have r_3 := n_rng (gI z_t 3)
    have c_1i : (gI z_t 3).toInt ≥ 0 := bI_nlt rfl (show (0 : Int32).toInt = 0 by decide) c_1
    refine ok_ite (fun c_4 => ?_) (fun c_4 => ?_)
    · skip
      have c_4i : 401 ≤ (gI z_t 3).toInt := bI_le (show (401 : Int32).toInt = 401 by decide) rfl c_4
      exact ok_some fr_rf
    · skip
      have c_4i : 401 > (gI z_t 3).toInt := bI_nle (show (401 : Int32).toInt = 401 by decide) rfl c_4
      refine ok_gd (inb_of (by omega) (by omega)) ?_
      exact ok_some (fr_I (fr_T (fr_T (fr_T fr_rf (by decide)) (by decide)) (by decide)) (by decide))

set_option maxHeartbeats 400000 in
set_option maxRecDepth 20000 in
theorem t_fX6_anotherClause {z_t : Sx} : okP (fX6_anotherClause z_t) (fun y => (y.1 = 0 ∨ y.1 = 1) ∧ (FrL [4, 5, 6, 7, 8] z_t y.2)) := by
  unfold fX6_anotherClause
  refine ok_ite (fun c_1 => ?_) (fun c_1 => ?_)
  · skip
    have r_2 := n_rng (gI z_t 8)
    have c_1i : (gI z_t 8).toInt = 0 := bI_eq rfl (show (0 : Int32).toInt = 0 by decide) c_1
    refine ok_ite (fun c_3 => ?_) (fun c_3 => ?_)
    · skip
      have r_4 := n_rng (gI z_t 5)
      have c_3i : (gI z_t 5).toInt = 300 := bI_eq rfl (show (300 : Int32).toInt = 300 by decide) c_3
      exact ok_some ⟨Or.inl rfl, fr_rf⟩
    · skip
      have r_5 := n_rng (gI z_t 5)
      have c_3i : (gI z_t 5).toInt ≠ 300 := bI_neq rfl (show (300 : Int32).toInt = 300 by decide) c_3
      refine ok_ite (fun c_6 => ?_) (fun c_6 => ?_)
      · skip
        have c_6i : (gI z_t 5).toInt = 59 := bI_eq rfl (show (59 : Int32).toInt = 59 by decide) c_6
        refine ok_bd (t_fX6_step) (fun z5 q_7 => ?_)
        have h_8 : FrL [4, 5, 6, 7] z_t z5 := q_7
        clear q_7
        exact ok_some ⟨Or.inr rfl, (fr_tr fr_rf h_8 (by decide))⟩
      · skip
        have c_6i : (gI z_t 5).toInt ≠ 59 := bI_neq rfl (show (59 : Int32).toInt = 59 by decide) c_6
        refine ok_bd (t_fX6_fail) (fun z7 q_9 => ?_)
        have h_10 : FrL [8] z_t z7 := q_9
        clear q_9
        exact ok_some ⟨Or.inl rfl, (fr_tr fr_rf h_10 (by decide))⟩
  · skip
    have r_11 := n_rng (gI z_t 8)
    have c_1i : (gI z_t 8).toInt ≠ 0 := bI_neq rfl (show (0 : Int32).toInt = 0 by decide) c_1
    exact ok_some ⟨Or.inl rfl, fr_rf⟩

set_option maxHeartbeats 400000 in
set_option maxRecDepth 20000 in
theorem tl_lX6_spells_15 {n_p0 : Nat} {f_p0 : Nat → Int32} {x1 : Int32} {w3 : Nat} (hnn_p0 : n_p0 < 2147483648) (hw : slen.getD w3 0 < 2147483648) : ∀ (n : Nat) (x4 : Int32), (0 ≤ x4.toInt) → ((slen.getD w3 0 : Int) + 0 - x4.toInt).toNat < n → okP (lX6_spells_15 n_p0 f_p0 x1 w3 n x4) (fun y => (y = 0 ∨ y = 1)) := by
  intro n
  induction n with
  | zero => intro _ _ hm; omega
  | succ n ih =>
    intro x4 i0 hm
    rw [lX6_spells_15]
    refine ok_ite (fun c_1 => ?_) (fun c_1 => ?_)
    · skip
      have r_2 := n_rng x4
      try have c_1i : (slen.getD w3 0 : Int) ≤ x4.toInt := bI_le (nI_toInt (by omega)) rfl c_1
      exact ok_some (Or.inr rfl)
    · skip
      have r_3 := n_rng x4
      try have c_1i : (slen.getD w3 0 : Int) > x4.toInt := bI_nle (nI_toInt (by omega)) rfl c_1
      refine ok_bd (t_fX8_at (by first | omega | assumption | decide | (show n_p0 < 2147483648; first | omega | assumption))) (fun r4 q_4 => ?_)
      refine ok_gd (inb_of (by omega) (by omega)) ?_
      refine ok_ite (fun c_5 => ?_) (fun c_5 => ?_)
      · skip
        have r_6 := n_rng r4
        have r_7 := n_rng (sch w3 x4.toNatClampNeg)
        have c_5i : r4.toInt = (sch w3 x4.toNatClampNeg).toInt := bI_eq rfl rfl c_5
        try have e_8 : (x4 + 1).toInt = (x4.toInt + 1) := (i32_add rfl (show (1 : Int32).toInt = 1 by decide) (by omega) (by omega))
        exact ih (x4 + 1) (by first | omega | assumption | decide) (by omega)
      · skip
        have r_9 := n_rng r4
        have r_10 := n_rng (sch w3 x4.toNatClampNeg)
        have c_5i : r4.toInt ≠ (sch w3 x4.toNatClampNeg).toInt := bI_neq rfl rfl c_5
        exact ok_some (Or.inl rfl)
set_option maxHeartbeats 400000 in
set_option maxRecDepth 20000 in
theorem t_fX6_spells {n_p0 : Nat} {f_p0 : Nat → Int32} {x1 : Int32} {x2 : Int32} {w3 : Nat} (hnn_p0 : n_p0 < 2147483648) (hw : slen.getD w3 0 < 2147483648) : okP (fX6_spells n_p0 f_p0 x1 x2 w3) (fun y => (y = 0 ∨ y = 1)) := by
  unfold fX6_spells
  refine ok_ite (fun c_1 => ?_) (fun c_1 => ?_)
  · skip
    have r_2 := n_rng x2
    have r_3 := n_rng x1
    try have c_1i : (x2.toInt - x1.toInt) = (slen.getD w3 0 : Int) := bI_eq (i32_sub rfl rfl (by omega) (by omega)) (nI_toInt (by omega)) c_1
    try have e_4 : (0 : Int32).toInt = 0 := (show (0 : Int32).toInt = 0 by decide)
    refine tl_lX6_spells_15 (by first | omega | assumption | decide) (by first | omega | assumption | decide) FU 0 (by first | omega | assumption | decide) (FU_lt (by omega))
  · skip
    have r_5 := n_rng x2
    have r_6 := n_rng x1
    try have c_1i : (x2.toInt - x1.toInt) ≠ (slen.getD w3 0 : Int) := bI_neq (i32_sub rfl rfl (by omega) (by omega)) (nI_toInt (by omega)) c_1
    exact ok_some (Or.inl rfl)

set_option maxHeartbeats 400000 in
set_option maxRecDepth 20000 in
theorem t_fX6_clauseWord {n_p0 : Nat} {f_p0 : Nat → Int32} {x1 : Int32} {x2 : Int32} (hnn_p0 : n_p0 < 2147483648) : okP (fX6_clauseWord n_p0 f_p0 x1 x2) (fun _ => True) := by
  unfold fX6_clauseWord
  refine ok_bd (t_fX6_spells (by first | omega | assumption | decide | (show n_p0 < 2147483648; first | omega | assumption)) (by first | omega | assumption | decide | (show slen.getD (0 : Nat) 0 < 2147483648; first | omega | assumption))) (fun r2 q_1 => ?_)
  have h_2 : r2 = 0 ∨ r2 = 1 := q_1
  have h_2i := bool_i h_2
  clear q_1
  refine ok_ite (fun c_3 => ?_) (fun c_3 => ?_)
  · skip
    have r_4 := n_rng r2
    have c_3i : r2.toInt = 0 := bI_eq rfl (show (0 : Int32).toInt = 0 by decide) c_3
    refine ok_bd (t_fX6_spells (by first | omega | assumption | decide | (show n_p0 < 2147483648; first | omega | assumption)) (by first | omega | assumption | decide | (show slen.getD (1 : Nat) 0 < 2147483648; first | omega | assumption))) (fun r5 q_5 => ?_)
    have h_6 : r5 = 0 ∨ r5 = 1 := q_5
    have h_6i := bool_i h_6
    clear q_5
    refine ok_ite (fun c_7 => ?_) (fun c_7 => ?_)
    · skip
      have r_8 := n_rng r5
      have c_7i : r5.toInt = 0 := bI_eq rfl (show (0 : Int32).toInt = 0 by decide) c_7
      refine ok_bd (t_fX6_spells (by first | omega | assumption | decide | (show n_p0 < 2147483648; first | omega | assumption)) (by first | omega | assumption | decide | (show slen.getD (2 : Nat) 0 < 2147483648; first | omega | assumption))) (fun r8 q_9 => ?_)
      have h_10 : r8 = 0 ∨ r8 = 1 := q_9
      have h_10i := bool_i h_10
      clear q_9
      refine ok_ite (fun c_11 => ?_) (fun c_11 => ?_)
      · skip
        have r_12 := n_rng r8
        have c_11i : r8.toInt = 0 := bI_eq rfl (show (0 : Int32).toInt = 0 by decide) c_11
        refine ok_bd (t_fX6_spells (by first | omega | assumption | decide | (show n_p0 < 2147483648; first | omega | assumption)) (by first | omega | assumption | decide | (show slen.getD (3 : Nat) 0 < 2147483648; first | omega | assumption))) (fun r11 q_13 => ?_)
        have h_14 : r11 = 0 ∨ r11 = 1 := q_13
        have h_14i := bool_i h_14
        clear q_13
        refine ok_ite (fun c_15 => ?_) (fun c_15 => ?_)
        · skip
          have r_16 := n_rng r11
          have c_15i : r11.toInt = 0 := bI_eq rfl (show (0 : Int32).toInt = 0 by decide) c_15
          refine ok_bd (t_fX6_spells (by first | omega | assumption | decide | (show n_p0 < 2147483648; first | omega | assumption)) (by first | omega | assumption | decide | (show slen.getD (4 : Nat) 0 < 2147483648; first | omega | assumption))) (fun r14 q_17 => ?_)
          have h_18 : r14 = 0 ∨ r14 = 1 := q_17
          have h_18i := bool_i h_18
          clear q_17
          refine ok_ite (fun c_19 => ?_) (fun c_19 => ?_)
          · skip
            have r_20 := n_rng r14
            have c_19i : r14.toInt = 0 := bI_eq rfl (show (0 : Int32).toInt = 0 by decide) c_19
            refine ok_bd (t_fX6_spells (by first | omega | assumption | decide | (show n_p0 < 2147483648; first | omega | assumption)) (by first | omega | assumption | decide | (show slen.getD (5 : Nat) 0 < 2147483648; first | omega | assumption))) (fun r17 q_21 => ?_)
            have h_22 : r17 = 0 ∨ r17 = 1 := q_21
            have h_22i := bool_i h_22
            clear q_21
            refine ok_ite (fun c_23 => ?_) (fun c_23 => ?_)
            · skip
              have r_24 := n_rng r17
              have c_23i : r17.toInt = 0 := bI_eq rfl (show (0 : Int32).toInt = 0 by decide) c_23
              refine ok_bd (t_fX6_spells (by first | omega | assumption | decide | (show n_p0 < 2147483648; first | omega | assumption)) (by first | omega | assumption | decide | (show slen.getD (6 : Nat) 0 < 2147483648; first | omega | assumption))) (fun r20 q_25 => ?_)
              have h_26 : r20 = 0 ∨ r20 = 1 := q_25
              have h_26i := bool_i h_26
              clear q_25
              refine ok_ite (fun c_27 => ?_) (fun c_27 => ?_)
              · skip
                have r_28 := n_rng r20
                have c_27i : r20.toInt = 0 := bI_eq rfl (show (0 : Int32).toInt = 0 by decide) c_27
                refine ok_bd (t_fX6_spells (by first | omega | assumption | decide | (show n_p0 < 2147483648; first | omega | assumption)) (by first | omega | assumption | decide | (show slen.getD (7 : Nat) 0 < 2147483648; first | omega | assumption))) (fun r23 q_29 => ?_)
                have h_30 : r23 = 0 ∨ r23 = 1 := q_29
                have h_30i := bool_i h_30
                clear q_29
                refine ok_ite (fun c_31 => ?_) (fun c_31 => ?_)
                · skip
                  have r_32 := n_rng r23
                  have c_31i : r23.toInt = 0 := bI_eq rfl (show (0 : Int32).toInt = 0 by decide) c_31
                  exact ok_some trivial
                · skip
                  have r_33 := n_rng r23
                  have c_31i : r23.toInt ≠ 0 := bI_neq rfl (show (0 : Int32).toInt = 0 by decide) c_31
                  exact ok_some trivial
              · skip
                have r_34 := n_rng r20
                have c_27i : r20.toInt ≠ 0 := bI_neq rfl (show (0 : Int32).toInt = 0 by decide) c_27
                exact ok_some trivial
            · skip
              have r_35 := n_rng r17
              have c_23i : r17.toInt ≠ 0 := bI_neq rfl (show (0 : Int32).toInt = 0 by decide) c_23
              exact ok_some trivial
          · skip
            have r_36 := n_rng r14
            have c_19i : r14.toInt ≠ 0 := bI_neq rfl (show (0 : Int32).toInt = 0 by decide) c_19
            exact ok_some trivial
        · skip
          have r_37 := n_rng r11
          have c_15i : r11.toInt ≠ 0 := bI_neq rfl (show (0 : Int32).toInt = 0 by decide) c_15
          exact ok_some trivial
      · skip
        have r_38 := n_rng r8
        have c_11i : r8.toInt ≠ 0 := bI_neq rfl (show (0 : Int32).toInt = 0 by decide) c_11
        exact ok_some trivial
    · skip
      have r_39 := n_rng r5
      have c_7i : r5.toInt ≠ 0 := bI_neq rfl (show (0 : Int32).toInt = 0 by decide) c_7
      exact ok_some trivial
  · skip
    have r_40 := n_rng r2
    have c_3i : r2.toInt ≠ 0 := bI_neq rfl (show (0 : Int32).toInt = 0 by decide) c_3
    exact ok_some trivial

set_option maxHeartbeats 400000 in
set_option maxRecDepth 20000 in
theorem t_fX6_isDigit {x0 : Int32} : okP (fX6_isDigit x0) (fun y => (y = 0 ∨ y = 1)) := by
  unfold fX6_isDigit
  refine ok_ite (fun c_1 => ?_) (fun c_1 => ?_)
  · skip
    have r_2 := n_rng x0
    have c_1i : x0.toInt < 48 := bI_lt rfl (show (48 : Int32).toInt = 48 by decide) c_1
    exact ok_some (Or.inl rfl)
  · skip
    have r_3 := n_rng x0
    have c_1i : x0.toInt ≥ 48 := bI_nlt rfl (show (48 : Int32).toInt = 48 by decide) c_1
    refine ok_ite (fun c_4 => ?_) (fun c_4 => ?_)
    · skip
      have c_4i : 57 < x0.toInt := bI_lt (show (57 : Int32).toInt = 57 by decide) rfl c_4
      exact ok_some (Or.inl rfl)
    · skip
      have c_4i : 57 ≥ x0.toInt := bI_nlt (show (57 : Int32).toInt = 57 by decide) rfl c_4
      exact ok_some (Or.inr rfl)

set_option maxHeartbeats 400000 in
set_option maxRecDepth 20000 in
theorem tl_lX6_cutNumber_6 {o_z_t : Sx} {k55 : Int32 → Int32 → Option (Int32 × Sx)} {z_t : Sx} {n_p1 : Nat} {f_p1 : Nat → Int32} {x2 : Int32} {x3 : Int32} (Hk55 : ∀ (y0 : Int32) (y1 : Int32), okP (k55 y0 y1) (fun y => (FrL [0, 1, 2, 3] o_z_t y.2))) (hnn_p1 : n_p1 < 2147483648) : ∀ (n : Nat) (x4 : Int32) (x5 : Int32), (x3.toInt + 0 - x4.toInt).toNat < n → okP (lX6_cutNumber_6 k55 z_t n_p1 f_p1 x2 x3 n x4 x5) (fun y => (FrL [0, 1, 2, 3] o_z_t y.2)) := by
  intro n
  induction n with
  | zero => intro _ _ hm; omega
  | succ n ih =>
    intro x4 x5 hm
    rw [lX6_cutNumber_6]
    refine ok_ite (fun c_1 => ?_) (fun c_1 => ?_)
    · skip
      have r_2 := n_rng x3
      have r_3 := n_rng x4
      have c_1i : x3.toInt ≤ x4.toInt := bI_le rfl rfl c_1
      exact Hk55 x4 x5 
    · skip
      have r_4 := n_rng x3
      have r_5 := n_rng x4
      have c_1i : x3.toInt > x4.toInt := bI_nle rfl rfl c_1
      refine ok_bd (t_fX8_at (by first | omega | assumption | decide | (show n_p1 < 2147483648; first | omega | assumption))) (fun r3 q_6 => ?_)
      refine ok_bd (t_fX6_isDigit) (fun r5 q_7 => ?_)
      have h_8 : r5 = 0 ∨ r5 = 1 := q_7
      have h_8i := bool_i h_8
      clear q_7
      refine ok_ite (fun c_9 => ?_) (fun c_9 => ?_)
      · skip
        have r_10 := n_rng r5
        have c_9i : r5.toInt = 0 := bI_eq rfl (show (0 : Int32).toInt = 0 by decide) c_9
        exact Hk55 x4 x5 
      · skip
        have r_11 := n_rng r5
        have c_9i : r5.toInt ≠ 0 := bI_neq rfl (show (0 : Int32).toInt = 0 by decide) c_9
        refine ok_jn ?_
        refine ok_ite (fun c_12 => ?_) (fun c_12 => ?_)
        · skip
          have r_13 := n_rng x2
          try have c_12i : (x2.toInt + 5) ≤ x4.toInt := bI_le (i32_add rfl (show (5 : Int32).toInt = 5 by decide) (by omega) (by omega)) rfl c_12
          try have e_14 : (x4 + 1).toInt = (x4.toInt + 1) := (i32_add rfl (show (1 : Int32).toInt = 1 by decide) (by omega) (by omega))
          exact ih (x4 + 1) x5  (by omega)
        · skip
          have r_15 := n_rng x2
          try have c_12i : (x2.toInt + 5) > x4.toInt := bI_nle (i32_add rfl (show (5 : Int32).toInt = 5 by decide) (by omega) (by omega)) rfl c_12
          refine ok_bd (t_fX8_at (by first | omega | assumption | decide | (show n_p1 < 2147483648; first | omega | assumption))) (fun r11 q_16 => ?_)
          try have e_17 : (x4 + 1).toInt = (x4.toInt + 1) := (i32_add rfl (show (1 : Int32).toInt = 1 by decide) (by omega) (by omega))
          have r_18 := n_rng x5
          have r_19 := n_rng r11
          try have e_20 : (((x5 * 10) + r11) - 48).toInt = (((x5.toInt * 10) + r11.toInt) - 48) := (i32_sub (i32_add (i32_mul rfl (show (10 : Int32).toInt = 10 by decide) (by omega) (by omega)) rfl (by omega) (by omega)) (show (48 : Int32).toInt = 48 by decide) (by omega) (by omega))
          exact ih (x4 + 1) (((x5 * 10) + r11) - 48)  (by omega)
set_option maxHeartbeats 400000 in
set_option maxRecDepth 20000 in
theorem t_fX6_cutNumber {z_t : Sx} {n_p1 : Nat} {f_p1 : Nat → Int32} {x2 : Int32} {x3 : Int32} (hnn_p1 : n_p1 < 2147483648) : okP (fX6_cutNumber z_t n_p1 f_p1 x2 x3) (fun y => (FrL [0, 1, 2, 3] z_t y.2)) := by
  unfold fX6_cutNumber
  try have e_1 : (0 : Int32).toInt = 0 := (show (0 : Int32).toInt = 0 by decide)
  refine tl_lX6_cutNumber_6 (fun i12 i13 => ?_) (by first | omega | assumption | decide) FU x2 0  (FU_lt (by have := n_rng x2; have := n_rng x3; omega))
  · skip
    refine ok_jn ?_
    refine ok_ite (fun c_2 => ?_) (fun c_2 => ?_)
    · skip
      have r_3 := n_rng i12
      have r_4 := n_rng x2
      try have c_2i : (i12.toInt - x2.toInt) ≤ 5 := bI_le (i32_sub rfl rfl (by omega) (by omega)) (show (5 : Int32).toInt = 5 by decide) c_2
      refine ok_bd (t_fX6_addToken) (fun z17 q_5 => ?_)
      have h_6 : FrL [0, 1, 2, 3] z_t z17 := q_5
      clear q_5
      exact ok_some (fr_tr fr_rf h_6 (by decide))
    · skip
      have r_7 := n_rng i12
      have r_8 := n_rng x2
      try have c_2i : (i12.toInt - x2.toInt) > 5 := bI_nle (i32_sub rfl rfl (by omega) (by omega)) (show (5 : Int32).toInt = 5 by decide) c_2
      refine ok_bd (t_fX6_addToken) (fun z17 q_9 => ?_)
      have h_10 : FrL [0, 1, 2, 3] z_t z17 := q_9
      clear q_9
      exact ok_some (fr_tr fr_rf h_10 (by decide))

set_option maxHeartbeats 400000 in
set_option maxRecDepth 20000 in
theorem t_fX6_isLetter {x0 : Int32} : okP (fX6_isLetter x0) (fun y => (y = 0 ∨ y = 1)) := by
  unfold fX6_isLetter
  refine ok_ite (fun c_1 => ?_) (fun c_1 => ?_)
  · skip
    have r_2 := n_rng x0
    have c_1i : x0.toInt < 97 := bI_lt rfl (show (97 : Int32).toInt = 97 by decide) c_1
    exact ok_some (Or.inl rfl)
  · skip
    have r_3 := n_rng x0
    have c_1i : x0.toInt ≥ 97 := bI_nlt rfl (show (97 : Int32).toInt = 97 by decide) c_1
    refine ok_ite (fun c_4 => ?_) (fun c_4 => ?_)
    · skip
      have c_4i : 122 < x0.toInt := bI_lt (show (122 : Int32).toInt = 122 by decide) rfl c_4
      exact ok_some (Or.inl rfl)
    · skip
      have c_4i : 122 ≥ x0.toInt := bI_nlt (show (122 : Int32).toInt = 122 by decide) rfl c_4
      exact ok_some (Or.inr rfl)

set_option maxHeartbeats 400000 in
set_option maxRecDepth 20000 in
theorem t_fX6_valueWord {n_p0 : Nat} {f_p0 : Nat → Int32} {x1 : Int32} {x2 : Int32} (hnn_p0 : n_p0 < 2147483648) : okP (fX6_valueWord n_p0 f_p0 x1 x2) (fun _ => True) := by
  unfold fX6_valueWord
  refine ok_bd (t_fX6_spells (by first | omega | assumption | decide | (show n_p0 < 2147483648; first | omega | assumption)) (by first | omega | assumption | decide | (show slen.getD (8 : Nat) 0 < 2147483648; first | omega | assumption))) (fun r2 q_1 => ?_)
  have h_2 : r2 = 0 ∨ r2 = 1 := q_1
  have h_2i := bool_i h_2
  clear q_1
  refine ok_ite (fun c_3 => ?_) (fun c_3 => ?_)
  · skip
    have r_4 := n_rng r2
    have c_3i : r2.toInt = 0 := bI_eq rfl (show (0 : Int32).toInt = 0 by decide) c_3
    refine ok_bd (t_fX6_spells (by first | omega | assumption | decide | (show n_p0 < 2147483648; first | omega | assumption)) (by first | omega | assumption | decide | (show slen.getD (9 : Nat) 0 < 2147483648; first | omega | assumption))) (fun r5 q_5 => ?_)
    have h_6 : r5 = 0 ∨ r5 = 1 := q_5
    have h_6i := bool_i h_6
    clear q_5
    refine ok_ite (fun c_7 => ?_) (fun c_7 => ?_)
    · skip
      have r_8 := n_rng r5
      have c_7i : r5.toInt = 0 := bI_eq rfl (show (0 : Int32).toInt = 0 by decide) c_7
      refine ok_bd (t_fX6_spells (by first | omega | assumption | decide | (show n_p0 < 2147483648; first | omega | assumption)) (by first | omega | assumption | decide | (show slen.getD (10 : Nat) 0 < 2147483648; first | omega | assumption))) (fun r8 q_9 => ?_)
      have h_10 : r8 = 0 ∨ r8 = 1 := q_9
      have h_10i := bool_i h_10
      clear q_9
      refine ok_ite (fun c_11 => ?_) (fun c_11 => ?_)
      · skip
        have r_12 := n_rng r8
        have c_11i : r8.toInt = 0 := bI_eq rfl (show (0 : Int32).toInt = 0 by decide) c_11
        refine ok_bd (t_fX6_spells (by first | omega | assumption | decide | (show n_p0 < 2147483648; first | omega | assumption)) (by first | omega | assumption | decide | (show slen.getD (11 : Nat) 0 < 2147483648; first | omega | assumption))) (fun r11 q_13 => ?_)
        have h_14 : r11 = 0 ∨ r11 = 1 := q_13
        have h_14i := bool_i h_14
        clear q_13
        refine ok_ite (fun c_15 => ?_) (fun c_15 => ?_)
        · skip
          have r_16 := n_rng r11
          have c_15i : r11.toInt = 0 := bI_eq rfl (show (0 : Int32).toInt = 0 by decide) c_15
          refine ok_bd (t_fX6_spells (by first | omega | assumption | decide | (show n_p0 < 2147483648; first | omega | assumption)) (by first | omega | assumption | decide | (show slen.getD (12 : Nat) 0 < 2147483648; first | omega | assumption))) (fun r14 q_17 => ?_)
          have h_18 : r14 = 0 ∨ r14 = 1 := q_17
          have h_18i := bool_i h_18
          clear q_17
          refine ok_ite (fun c_19 => ?_) (fun c_19 => ?_)
          · skip
            have r_20 := n_rng r14
            have c_19i : r14.toInt = 0 := bI_eq rfl (show (0 : Int32).toInt = 0 by decide) c_19
            refine ok_bd (t_fX6_spells (by first | omega | assumption | decide | (show n_p0 < 2147483648; first | omega | assumption)) (by first | omega | assumption | decide | (show slen.getD (13 : Nat) 0 < 2147483648; first | omega | assumption))) (fun r17 q_21 => ?_)
            have h_22 : r17 = 0 ∨ r17 = 1 := q_21
            have h_22i := bool_i h_22
            clear q_21
            refine ok_ite (fun c_23 => ?_) (fun c_23 => ?_)
            · skip
              have r_24 := n_rng r17
              have c_23i : r17.toInt = 0 := bI_eq rfl (show (0 : Int32).toInt = 0 by decide) c_23
              refine ok_bd (t_fX6_spells (by first | omega | assumption | decide | (show n_p0 < 2147483648; first | omega | assumption)) (by first | omega | assumption | decide | (show slen.getD (14 : Nat) 0 < 2147483648; first | omega | assumption))) (fun r20 q_25 => ?_)
              have h_26 : r20 = 0 ∨ r20 = 1 := q_25
              have h_26i := bool_i h_26
              clear q_25
              refine ok_ite (fun c_27 => ?_) (fun c_27 => ?_)
              · skip
                have r_28 := n_rng r20
                have c_27i : r20.toInt = 0 := bI_eq rfl (show (0 : Int32).toInt = 0 by decide) c_27
                refine ok_bd (t_fX6_spells (by first | omega | assumption | decide | (show n_p0 < 2147483648; first | omega | assumption)) (by first | omega | assumption | decide | (show slen.getD (15 : Nat) 0 < 2147483648; first | omega | assumption))) (fun r23 q_29 => ?_)
                have h_30 : r23 = 0 ∨ r23 = 1 := q_29
                have h_30i := bool_i h_30
                clear q_29
                refine ok_ite (fun c_31 => ?_) (fun c_31 => ?_)
                · skip
                  have r_32 := n_rng r23
                  have c_31i : r23.toInt = 0 := bI_eq rfl (show (0 : Int32).toInt = 0 by decide) c_31
                  refine ok_bd (t_fX6_spells (by first | omega | assumption | decide | (show n_p0 < 2147483648; first | omega | assumption)) (by first | omega | assumption | decide | (show slen.getD (16 : Nat) 0 < 2147483648; first | omega | assumption))) (fun r26 q_33 => ?_)
                  have h_34 : r26 = 0 ∨ r26 = 1 := q_33
                  have h_34i := bool_i h_34
                  clear q_33
                  refine ok_ite (fun c_35 => ?_) (fun c_35 => ?_)
                  · skip
                    have r_36 := n_rng r26
                    have c_35i : r26.toInt = 0 := bI_eq rfl (show (0 : Int32).toInt = 0 by decide) c_35
                    exact ok_some trivial
                  · skip
                    have r_37 := n_rng r26
                    have c_35i : r26.toInt ≠ 0 := bI_neq rfl (show (0 : Int32).toInt = 0 by decide) c_35
                    exact ok_some trivial
                · skip
                  have r_38 := n_rng r23
                  have c_31i : r23.toInt ≠ 0 := bI_neq rfl (show (0 : Int32).toInt = 0 by decide) c_31
                  exact ok_some trivial
              · skip
                have r_39 := n_rng r20
                have c_27i : r20.toInt ≠ 0 := bI_neq rfl (show (0 : Int32).toInt = 0 by decide) c_27
                exact ok_some trivial
            · skip
              have r_40 := n_rng r17
              have c_23i : r17.toInt ≠ 0 := bI_neq rfl (show (0 : Int32).toInt = 0 by decide) c_23
              exact ok_some trivial
          · skip
            have r_41 := n_rng r14
            have c_19i : r14.toInt ≠ 0 := bI_neq rfl (show (0 : Int32).toInt = 0 by decide) c_19
            exact ok_some trivial
        · skip
          have r_42 := n_rng r11
          have c_15i : r11.toInt ≠ 0 := bI_neq rfl (show (0 : Int32).toInt = 0 by decide) c_15
          exact ok_some trivial
      · skip
        have r_43 := n_rng r8
        have c_11i : r8.toInt ≠ 0 := bI_neq rfl (show (0 : Int32).toInt = 0 by decide) c_11
        exact ok_some trivial
    · skip
      have r_44 := n_rng r5
      have c_7i : r5.toInt ≠ 0 := bI_neq rfl (show (0 : Int32).toInt = 0 by decide) c_7
      exact ok_some trivial
  · skip
    have r_45 := n_rng r2
    have c_3i : r2.toInt ≠ 0 := bI_neq rfl (show (0 : Int32).toInt = 0 by decide) c_3
    exact ok_some trivial

set_option maxHeartbeats 400000 in
set_option maxRecDepth 20000 in
theorem tl_lX6_cutWord_3 {o_z_t : Sx} {k27 : Int32 → Option (Int32 × Sx)} {z_t : Sx} {n_p1 : Nat} {f_p1 : Nat → Int32} {x2 : Int32} {x3 : Int32} (Hk27 : ∀ (y0 : Int32), okP (k27 y0) (fun y => (FrL [0, 1, 2, 3] o_z_t y.2))) (hnn_p1 : n_p1 < 2147483648) : ∀ (n : Nat) (x4 : Int32), (x3.toInt + 0 - x4.toInt).toNat < n → okP (lX6_cutWord_3 k27 z_t n_p1 f_p1 x2 x3 n x4) (fun y => (FrL [0, 1, 2, 3] o_z_t y.2)) := by
  intro n
  induction n with
  | zero => intro _ hm; omega
  | succ n ih =>
    intro x4 hm
    rw [lX6_cutWord_3]
    refine ok_ite (fun c_1 => ?_) (fun c_1 => ?_)
    · skip
      have r_2 := n_rng x3
      have r_3 := n_rng x4
      have c_1i : x3.toInt ≤ x4.toInt := bI_le rfl rfl c_1
      exact Hk27 x4 
    · skip
      have r_4 := n_rng x3
      have r_5 := n_rng x4
      have c_1i : x3.toInt > x4.toInt := bI_nle rfl rfl c_1
      refine ok_bd (t_fX8_at (by first | omega | assumption | decide | (show n_p1 < 2147483648; first | omega | assumption))) (fun r3 q_6 => ?_)
      refine ok_bd (t_fX6_isLetter) (fun r5 q_7 => ?_)
      have h_8 : r5 = 0 ∨ r5 = 1 := q_7
      have h_8i := bool_i h_8
      clear q_7
      refine ok_ite (fun c_9 => ?_) (fun c_9 => ?_)
      · skip
        have r_10 := n_rng r5
        have c_9i : r5.toInt = 0 := bI_eq rfl (show (0 : Int32).toInt = 0 by decide) c_9
        exact Hk27 x4 
      · skip
        have r_11 := n_rng r5
        have c_9i : r5.toInt ≠ 0 := bI_neq rfl (show (0 : Int32).toInt = 0 by decide) c_9
        try have e_12 : (x4 + 1).toInt = (x4.toInt + 1) := (i32_add rfl (show (1 : Int32).toInt = 1 by decide) (by omega) (by omega))
        exact ih (x4 + 1)  (by omega)
set_option maxHeartbeats 400000 in
set_option maxRecDepth 20000 in
theorem t_fX6_cutWord {z_t : Sx} {n_p1 : Nat} {f_p1 : Nat → Int32} {x2 : Int32} {x3 : Int32} (hnn_p1 : n_p1 < 2147483648) : okP (fX6_cutWord z_t n_p1 f_p1 x2 x3) (fun y => (FrL [0, 1, 2, 3] z_t y.2)) := by
  unfold fX6_cutWord
  refine tl_lX6_cutWord_3 (fun i7 => ?_) (by first | omega | assumption | decide) FU x2  (FU_lt (by have := n_rng x2; have := n_rng x3; omega))
  · skip
    refine ok_bd (t_fX6_clauseWord (by first | omega | assumption | decide | (show n_p1 < 2147483648; first | omega | assumption))) (fun r9 q_1 => ?_)
    refine ok_jn ?_
    refine ok_ite (fun c_2 => ?_) (fun c_2 => ?_)
    · skip
      have r_3 := n_rng r9
      have c_2i : r9.toInt = 303 := bI_eq rfl (show (303 : Int32).toInt = 303 by decide) c_2
      refine ok_bd (t_fX6_valueWord (by first | omega | assumption | decide | (show n_p1 < 2147483648; first | omega | assumption))) (fun r16 q_4 => ?_)
      refine ok_bd (t_fX6_addToken) (fun z13 q_5 => ?_)
      have h_6 : FrL [0, 1, 2, 3] z_t z13 := q_5
      clear q_5
      exact ok_some (fr_tr fr_rf h_6 (by decide))
    · skip
      have r_7 := n_rng r9
      have c_2i : r9.toInt ≠ 303 := bI_neq rfl (show (303 : Int32).toInt = 303 by decide) c_2
      refine ok_bd (t_fX6_addToken) (fun z13 q_8 => ?_)
      have h_9 : FrL [0, 1, 2, 3] z_t z13 := q_8
      clear q_8
      exact ok_some (fr_tr fr_rf h_9 (by decide))

set_option maxHeartbeats 400000 in
set_option maxRecDepth 20000 in
theorem t_fX6_cutToken {z_t : Sx} {n_p1 : Nat} {f_p1 : Nat → Int32} {x2 : Int32} {x3 : Int32} (hnn_p1 : n_p1 < 2147483648) : okP (fX6_cutToken z_t n_p1 f_p1 x2 x3) (fun y => (FrL [0, 1, 2, 3] z_t y.2)) := by
  unfold fX6_cutToken
  refine ok_bd (t_fX8_at (by first | omega | assumption | decide | (show n_p1 < 2147483648; first | omega | assumption))) (fun r2 q_1 => ?_)
  refine ok_ite (fun c_2 => ?_) (fun c_2 => ?_)
  · skip
    have r_3 := n_rng r2
    have c_2i : r2.toInt = 32 := bI_eq rfl (show (32 : Int32).toInt = 32 by decide) c_2
    exact ok_some fr_rf
  · skip
    have r_4 := n_rng r2
    have c_2i : r2.toInt ≠ 32 := bI_neq rfl (show (32 : Int32).toInt = 32 by decide) c_2
    refine ok_bd (t_fX6_isDigit) (fun r5 q_5 => ?_)
    have h_6 : r5 = 0 ∨ r5 = 1 := q_5
    have h_6i := bool_i h_6
    clear q_5
    refine ok_ite (fun c_7 => ?_) (fun c_7 => ?_)
    · skip
      have r_8 := n_rng r5
      have c_7i : r5.toInt = 0 := bI_eq rfl (show (0 : Int32).toInt = 0 by decide) c_7
      refine ok_bd (t_fX6_isLetter) (fun r8 q_9 => ?_)
      have h_10 : r8 = 0 ∨ r8 = 1 := q_9
      have h_10i := bool_i h_10
      clear q_9
      refine ok_ite (fun c_11 => ?_) (fun c_11 => ?_)
      · skip
        have r_12 := n_rng r8
        have c_11i : r8.toInt = 0 := bI_eq rfl (show (0 : Int32).toInt = 0 by decide) c_11
        refine ok_jn ?_
        refine ok_jn ?_
        refine ok_jn ?_
        refine ok_ite (fun c_13 => ?_) (fun c_13 => ?_)
        · skip
          have c_13i : r2.toInt = 60 := bI_eq rfl (show (60 : Int32).toInt = 60 by decide) c_13
          refine ok_ite (fun c_14 => ?_) (fun c_14 => ?_)
          · skip
            have r_15 := n_rng x3
            have r_16 := n_rng x2
            try have c_14i : x3.toInt ≤ (x2.toInt + 1) := bI_le rfl (i32_add rfl (show (1 : Int32).toInt = 1 by decide) (by omega) (by omega)) c_14
            refine ok_ite (fun c_17 => ?_) (fun c_17 => ?_)
            · skip
              refine ok_bd (t_fX6_addToken) (fun z14 q_18 => ?_)
              have h_19 : FrL [0, 1, 2, 3] z_t z14 := q_18
              clear q_18
              exact ok_some (fr_tr fr_rf h_19 (by decide))
            · skip
              exact absurd (by decide) c_17
          · skip
            have r_20 := n_rng x3
            have r_21 := n_rng x2
            try have c_14i : x3.toInt > (x2.toInt + 1) := bI_nle rfl (i32_add rfl (show (1 : Int32).toInt = 1 by decide) (by omega) (by omega)) c_14
            refine ok_bd (t_fX8_at (by first | omega | assumption | decide | (show n_p1 < 2147483648; first | omega | assumption))) (fun r24 q_22 => ?_)
            refine ok_ite (fun c_23 => ?_) (fun c_23 => ?_)
            · skip
              have r_24 := n_rng r24
              have c_23i : r24.toInt = 61 := bI_eq rfl (show (61 : Int32).toInt = 61 by decide) c_23
              refine ok_ite (fun c_25 => ?_) (fun c_25 => ?_)
              · skip
                exact absurd c_25 (by decide)
              · skip
                refine ok_jn ?_
                refine ok_ite (fun c_26 => ?_) (fun c_26 => ?_)
                · skip
                  have c_26i : r2.toInt = 60 := bI_eq rfl (show (60 : Int32).toInt = 60 by decide) c_26
                  refine ok_bd (t_fX6_addToken) (fun z18 q_27 => ?_)
                  have h_28 : FrL [0, 1, 2, 3] z_t z18 := q_27
                  clear q_27
                  exact ok_some (fr_tr fr_rf h_28 (by decide))
                · skip
                  have c_26i : r2.toInt ≠ 60 := bI_neq rfl (show (60 : Int32).toInt = 60 by decide) c_26
                  refine ok_bd (t_fX6_addToken) (fun z18 q_29 => ?_)
                  have h_30 : FrL [0, 1, 2, 3] z_t z18 := q_29
                  clear q_29
                  exact ok_some (fr_tr fr_rf h_30 (by decide))
            · skip
              have r_31 := n_rng r24
              have c_23i : r24.toInt ≠ 61 := bI_neq rfl (show (61 : Int32).toInt = 61 by decide) c_23
              refine ok_ite (fun c_32 => ?_) (fun c_32 => ?_)
              · skip
                refine ok_bd (t_fX6_addToken) (fun z14 q_33 => ?_)
                have h_34 : FrL [0, 1, 2, 3] z_t z14 := q_33
                clear q_33
                exact ok_some (fr_tr fr_rf h_34 (by decide))
              · skip
                exact absurd (by decide) c_32
        · skip
          have c_13i : r2.toInt ≠ 60 := bI_neq rfl (show (60 : Int32).toInt = 60 by decide) c_13
          refine ok_ite (fun c_35 => ?_) (fun c_35 => ?_)
          · skip
            have c_35i : r2.toInt = 62 := bI_eq rfl (show (62 : Int32).toInt = 62 by decide) c_35
            refine ok_ite (fun c_36 => ?_) (fun c_36 => ?_)
            · skip
              have r_37 := n_rng x3
              have r_38 := n_rng x2
              try have c_36i : x3.toInt ≤ (x2.toInt + 1) := bI_le rfl (i32_add rfl (show (1 : Int32).toInt = 1 by decide) (by omega) (by omega)) c_36
              refine ok_ite (fun c_39 => ?_) (fun c_39 => ?_)
              · skip
                refine ok_bd (t_fX6_addToken) (fun z14 q_40 => ?_)
                have h_41 : FrL [0, 1, 2, 3] z_t z14 := q_40
                clear q_40
                exact ok_some (fr_tr fr_rf h_41 (by decide))
              · skip
                exact absurd (by decide) c_39
            · skip
              have r_42 := n_rng x3
              have r_43 := n_rng x2
              try have c_36i : x3.toInt > (x2.toInt + 1) := bI_nle rfl (i32_add rfl (show (1 : Int32).toInt = 1 by decide) (by omega) (by omega)) c_36
              refine ok_bd (t_fX8_at (by first | omega | assumption | decide | (show n_p1 < 2147483648; first | omega | assumption))) (fun r24 q_44 => ?_)
              refine ok_ite (fun c_45 => ?_) (fun c_45 => ?_)
              · skip
                have r_46 := n_rng r24
                have c_45i : r24.toInt = 61 := bI_eq rfl (show (61 : Int32).toInt = 61 by decide) c_45
                refine ok_ite (fun c_47 => ?_) (fun c_47 => ?_)
                · skip
                  exact absurd c_47 (by decide)
                · skip
                  refine ok_jn ?_
                  refine ok_ite (fun c_48 => ?_) (fun c_48 => ?_)
                  · skip
                    have c_48i : r2.toInt = 60 := bI_eq rfl (show (60 : Int32).toInt = 60 by decide) c_48
                    refine ok_bd (t_fX6_addToken) (fun z18 q_49 => ?_)
                    have h_50 : FrL [0, 1, 2, 3] z_t z18 := q_49
                    clear q_49
                    exact ok_some (fr_tr fr_rf h_50 (by decide))
                  · skip
                    have c_48i : r2.toInt ≠ 60 := bI_neq rfl (show (60 : Int32).toInt = 60 by decide) c_48
                    refine ok_bd (t_fX6_addToken) (fun z18 q_51 => ?_)
                    have h_52 : FrL [0, 1, 2, 3] z_t z18 := q_51
                    clear q_51
                    exact ok_some (fr_tr fr_rf h_52 (by decide))
              · skip
                have r_53 := n_rng r24
                have c_45i : r24.toInt ≠ 61 := bI_neq rfl (show (61 : Int32).toInt = 61 by decide) c_45
                refine ok_ite (fun c_54 => ?_) (fun c_54 => ?_)
                · skip
                  refine ok_bd (t_fX6_addToken) (fun z14 q_55 => ?_)
                  have h_56 : FrL [0, 1, 2, 3] z_t z14 := q_55
                  clear q_55
                  exact ok_some (fr_tr fr_rf h_56 (by decide))
                · skip
                  exact absurd (by decide) c_54
          · skip
            have c_35i : r2.toInt ≠ 62 := bI_neq rfl (show (62 : Int32).toInt = 62 by decide) c_35
            refine ok_ite (fun c_57 => ?_) (fun c_57 => ?_)
            · skip
              refine ok_bd (t_fX6_addToken) (fun z14 q_58 => ?_)
              have h_59 : FrL [0, 1, 2, 3] z_t z14 := q_58
              clear q_58
              exact ok_some (fr_tr fr_rf h_59 (by decide))
            · skip
              exact absurd (by decide) c_57
      · skip
        have r_60 := n_rng r8
        have c_11i : r8.toInt ≠ 0 := bI_neq rfl (show (0 : Int32).toInt = 0 by decide) c_11
        refine ok_bd2 (t_fX6_cutWord (by first | omega | assumption | decide | (show n_p1 < 2147483648; first | omega | assumption))) (fun r29 z30 q_61 => ?_)
        have h_62 : FrL [0, 1, 2, 3] z_t z30 := q_61
        clear q_61
        exact ok_some (fr_tr fr_rf h_62 (by decide))
    · skip
      have r_63 := n_rng r5
      have c_7i : r5.toInt ≠ 0 := bI_neq rfl (show (0 : Int32).toInt = 0 by decide) c_7
      refine ok_bd2 (t_fX6_cutNumber (by first | omega | assumption | decide | (show n_p1 < 2147483648; first | omega | assumption))) (fun r32 z33 q_64 => ?_)
      have h_65 : FrL [0, 1, 2, 3] z_t z33 := q_64
      clear q_64
      exact ok_some (fr_tr fr_rf h_65 (by decide))

set_option maxHeartbeats 400000 in
set_option maxRecDepth 20000 in
theorem tl_lX6_open_10 {o_z_t : Sx} {k37 : Sx → Option (Sx)} {n_p1 : Nat} {f_p1 : Nat → Int32} {x2 : Int32} (Hk37 : ∀ (y0 : Sx), (FrL [0, 1, 2, 3, 4, 5, 6, 7, 8] o_z_t y0) → okP (k37 y0) (fun y => (FrL [0, 1, 2, 3, 4, 5, 6, 7, 8] o_z_t y))) (hnn_p1 : n_p1 < 2147483648) : ∀ (n : Nat) (z_t : Sx) (x3 : Int32) (x4 : Int32), (FrL [0, 1, 2, 3, 4, 5, 6, 7, 8] o_z_t z_t) → (400 + 0 - x4.toInt).toNat < n → okP (lX6_open_10 k37 n_p1 f_p1 x2 n z_t x3 x4) (fun y => (FrL [0, 1, 2, 3, 4, 5, 6, 7, 8] o_z_t y)) := by
  intro n
  induction n with
  | zero => intro _ _ _ _ hm; omega
  | succ n ih =>
    intro z_t x3 x4 frz_t hm
    rw [lX6_open_10]
    refine ok_ite (fun c_1 => ?_) (fun c_1 => ?_)
    · skip
      have r_2 := n_rng x4
      have c_1i : 400 ≤ x4.toInt := bI_le (show (400 : Int32).toInt = 400 by decide) rfl c_1
      exact Hk37 z_t frz_t
    · skip
      have r_3 := n_rng x4
      have c_1i : 400 > x4.toInt := bI_nle (show (400 : Int32).toInt = 400 by decide) rfl c_1
      refine ok_ite (fun c_4 => ?_) (fun c_4 => ?_)
      · skip
        have r_5 := n_rng x2
        have r_6 := n_rng x3
        have c_4i : x2.toInt ≤ x3.toInt := bI_le rfl rfl c_4
        exact Hk37 z_t frz_t
      · skip
        have r_7 := n_rng x2
        have r_8 := n_rng x3
        have c_4i : x2.toInt > x3.toInt := bI_nle rfl rfl c_4
        refine ok_bd2 (t_fX6_cutToken (by first | omega | assumption | decide | (show n_p1 < 2147483648; first | omega | assumption))) (fun r4 z5 q_9 => ?_)
        have h_10 : FrL [0, 1, 2, 3] z_t z5 := q_9
        clear q_9
        try have e_11 : (x4 + 1).toInt = (x4.toInt + 1) := (i32_add rfl (show (1 : Int32).toInt = 1 by decide) (by omega) (by omega))
        exact ih z5 r4 (x4 + 1) (fr_tr frz_t h_10 (by decide)) (by omega)
set_option maxHeartbeats 400000 in
set_option maxRecDepth 20000 in
theorem t_fX6_open {z_t : Sx} {n_p1 : Nat} {f_p1 : Nat → Int32} {x2 : Int32} (hnn_p1 : n_p1 < 2147483648) : okP (fX6_open z_t n_p1 f_p1 x2) (fun y => (FrL [0, 1, 2, 3, 4, 5, 6, 7, 8] z_t y)) := by
  unfold fX6_open
  try have e_2 : (0 : Int32).toInt = 0 := (show (0 : Int32).toInt = 0 by decide)
  refine tl_lX6_open_10 (fun z6 k_1 => ?_) (by first | omega | assumption | decide) FU (sI z_t 3 0) 0 0 (fr_I fr_rf (by decide)) (FU_lt (by omega))
  · skip
    refine ok_bd (t_fX6_addToken) (fun z8 q_3 => ?_)
    have h_4 : FrL [0, 1, 2, 3] z6 z8 := q_3
    clear q_3
    refine ok_bd (t_fX6_step) (fun z10 q_5 => ?_)
    have h_6 : FrL [4, 5, 6, 7] (sI (sI z8 8 0) 4 0) z10 := q_5
    clear q_5
    exact ok_some (fr_tr (fr_I (fr_I (fr_tr k_1 h_4 (by decide)) (by decide)) (by decide)) h_6 (by decide))

set_option maxHeartbeats 400000 in
set_option maxRecDepth 20000 in
theorem t_fX6_takeNumber {z_t : Sx} {x1 : Int32} {x2 : Int32} : okP (fX6_takeNumber z_t x1 x2) (fun y => (FrL [4, 5, 6, 7, 8] z_t y.2)) := by
  unfold fX6_takeNumber
  refine ok_ite (fun c_1 => ?_) (fun c_1 => ?_)
  · skip
    have r_2 := n_rng (gI z_t 8)
    have c_1i : (gI z_t 8).toInt = 0 := bI_eq rfl (show (0 : Int32).toInt = 0 by decide) c_1
    refine ok_jn ?_
    refine ok_ite (fun c_3 => ?_) (fun c_3 => ?_)
    · skip
      have r_4 := n_rng (gI z_t 5)
      have c_3i : (gI z_t 5).toInt = 301 := bI_eq rfl (show (301 : Int32).toInt = 301 by decide) c_3
      refine ok_ite (fun c_5 => ?_) (fun c_5 => ?_)
      · skip
        have r_6 := n_rng (gI z_t 7)
        have r_7 := n_rng x1
        have c_5i : (gI z_t 7).toInt < x1.toInt := bI_lt rfl rfl c_5
        refine ok_jn ?_
        refine ok_jn ?_
        refine ok_ite (fun c_8 => ?_) (fun c_8 => ?_)
        · skip
          have c_8i : (gI z_t 5).toInt = 301 := bI_eq rfl (show (301 : Int32).toInt = 301 by decide) c_8
          refine ok_bd (t_fX6_fail) (fun z6 q_9 => ?_)
          have h_10 : FrL [8] z_t z6 := q_9
          clear q_9
          exact ok_some (fr_tr fr_rf h_10 (by decide))
        · skip
          have c_8i : (gI z_t 5).toInt ≠ 301 := bI_neq rfl (show (301 : Int32).toInt = 301 by decide) c_8
          refine ok_ite (fun c_11 => ?_) (fun c_11 => ?_)
          · skip
            have c_11i : (gI z_t 5).toInt = 302 := bI_eq rfl (show (302 : Int32).toInt = 302 by decide) c_11
            refine ok_bd (t_fX6_fail) (fun z6 q_12 => ?_)
            have h_13 : FrL [8] z_t z6 := q_12
            clear q_12
            exact ok_some (fr_tr fr_rf h_13 (by decide))
          · skip
            have c_11i : (gI z_t 5).toInt ≠ 302 := bI_neq rfl (show (302 : Int32).toInt = 302 by decide) c_11
            refine ok_bd (t_fX6_fail) (fun z6 q_14 => ?_)
            have h_15 : FrL [8] z_t z6 := q_14
            clear q_14
            exact ok_some (fr_tr fr_rf h_15 (by decide))
      · skip
        have r_16 := n_rng (gI z_t 7)
        have r_17 := n_rng x1
        have c_5i : (gI z_t 7).toInt ≥ x1.toInt := bI_nlt rfl rfl c_5
        refine ok_ite (fun c_18 => ?_) (fun c_18 => ?_)
        · skip
          have r_19 := n_rng x2
          have c_18i : x2.toInt < (gI z_t 7).toInt := bI_lt rfl rfl c_18
          refine ok_jn ?_
          refine ok_jn ?_
          refine ok_ite (fun c_20 => ?_) (fun c_20 => ?_)
          · skip
            have c_20i : (gI z_t 5).toInt = 301 := bI_eq rfl (show (301 : Int32).toInt = 301 by decide) c_20
            refine ok_bd (t_fX6_fail) (fun z6 q_21 => ?_)
            have h_22 : FrL [8] z_t z6 := q_21
            clear q_21
            exact ok_some (fr_tr fr_rf h_22 (by decide))
          · skip
            have c_20i : (gI z_t 5).toInt ≠ 301 := bI_neq rfl (show (301 : Int32).toInt = 301 by decide) c_20
            refine ok_ite (fun c_23 => ?_) (fun c_23 => ?_)
            · skip
              have c_23i : (gI z_t 5).toInt = 302 := bI_eq rfl (show (302 : Int32).toInt = 302 by decide) c_23
              refine ok_bd (t_fX6_fail) (fun z6 q_24 => ?_)
              have h_25 : FrL [8] z_t z6 := q_24
              clear q_24
              exact ok_some (fr_tr fr_rf h_25 (by decide))
            · skip
              have c_23i : (gI z_t 5).toInt ≠ 302 := bI_neq rfl (show (302 : Int32).toInt = 302 by decide) c_23
              refine ok_bd (t_fX6_fail) (fun z6 q_26 => ?_)
              have h_27 : FrL [8] z_t z6 := q_26
              clear q_26
              exact ok_some (fr_tr fr_rf h_27 (by decide))
        · skip
          have r_28 := n_rng x2
          have c_18i : x2.toInt ≥ (gI z_t 7).toInt := bI_nlt rfl rfl c_18
          refine ok_bd (t_fX6_step) (fun z14 q_29 => ?_)
          have h_30 : FrL [4, 5, 6, 7] z_t z14 := q_29
          clear q_29
          exact ok_some (fr_tr fr_rf h_30 (by decide))
    · skip
      have r_31 := n_rng (gI z_t 5)
      have c_3i : (gI z_t 5).toInt ≠ 301 := bI_neq rfl (show (301 : Int32).toInt = 301 by decide) c_3
      refine ok_jn ?_
      refine ok_jn ?_
      refine ok_ite (fun c_32 => ?_) (fun c_32 => ?_)
      · skip
        have c_32i : (gI z_t 5).toInt = 301 := bI_eq rfl (show (301 : Int32).toInt = 301 by decide) c_32
        refine ok_bd (t_fX6_fail) (fun z6 q_33 => ?_)
        have h_34 : FrL [8] z_t z6 := q_33
        clear q_33
        exact ok_some (fr_tr fr_rf h_34 (by decide))
      · skip
        have c_32i : (gI z_t 5).toInt ≠ 301 := bI_neq rfl (show (301 : Int32).toInt = 301 by decide) c_32
        refine ok_ite (fun c_35 => ?_) (fun c_35 => ?_)
        · skip
          have c_35i : (gI z_t 5).toInt = 302 := bI_eq rfl (show (302 : Int32).toInt = 302 by decide) c_35
          refine ok_bd (t_fX6_fail) (fun z6 q_36 => ?_)
          have h_37 : FrL [8] z_t z6 := q_36
          clear q_36
          exact ok_some (fr_tr fr_rf h_37 (by decide))
        · skip
          have c_35i : (gI z_t 5).toInt ≠ 302 := bI_neq rfl (show (302 : Int32).toInt = 302 by decide) c_35
          refine ok_bd (t_fX6_fail) (fun z6 q_38 => ?_)
          have h_39 : FrL [8] z_t z6 := q_38
          clear q_38
          exact ok_some (fr_tr fr_rf h_39 (by decide))
  · skip
    have r_40 := n_rng (gI z_t 8)
    have c_1i : (gI z_t 8).toInt ≠ 0 := bI_neq rfl (show (0 : Int32).toInt = 0 by decide) c_1
    exact ok_some fr_rf

set_option maxHeartbeats 400000 in
set_option maxRecDepth 20000 in
theorem tl_lX7_couldBeFound_5 {k103 : Int32 → Option (Int32)} {z_t : Sx} {x1 : Int32} {x2 : Int32} (Hk103 : ∀ (y0 : Int32), okP (k103 y0) (fun y => (y = 0 ∨ y = 1))) : ∀ (n : Nat) (x3 : Int32) (x4 : Int32), ((gI z_t 3).toInt + 0 - x4.toInt).toNat < n → okP (lX7_couldBeFound_5 k103 z_t x1 x2 n x3 x4) (fun y => (y = 0 ∨ y = 1)) := by
  intro n
  induction n with
  | zero => intro _ _ hm; omega
  | succ n ih =>
    intro x3 x4 hm
    rw [lX7_couldBeFound_5]
    refine ok_ite (fun c_1 => ?_) (fun c_1 => ?_)
    · skip
      have r_2 := n_rng (gI z_t 3)
      have r_3 := n_rng x4
      have c_1i : (gI z_t 3).toInt ≤ x4.toInt := bI_le rfl rfl c_1
      exact Hk103 x3 
    · skip
      have r_4 := n_rng (gI z_t 3)
      have r_5 := n_rng x4
      have c_1i : (gI z_t 3).toInt > x4.toInt := bI_nle rfl rfl c_1
      refine ok_bd (t_fX8_has) (fun r3 q_6 => ?_)
      have h_7 : r3 = 0 ∨ r3 = 1 := q_6
      have h_7i := bool_i h_7
      clear q_6
      refine ok_jn ?_
      refine ok_ite (fun c_8 => ?_) (fun c_8 => ?_)
      · skip
        have r_9 := n_rng r3
        have c_8i : r3.toInt = 0 := bI_eq rfl (show (0 : Int32).toInt = 0 by decide) c_8
        try have e_10 : (x4 + 1).toInt = (x4.toInt + 1) := (i32_add rfl (show (1 : Int32).toInt = 1 by decide) (by omega) (by omega))
        exact ih x3 (x4 + 1)  (by omega)
      · skip
        have r_11 := n_rng r3
        have c_8i : r3.toInt ≠ 0 := bI_neq rfl (show (0 : Int32).toInt = 0 by decide) c_8
        refine ok_bd (t_fX8_at (by first | omega | assumption | decide | (show (10 : Nat) < 2147483648; first | omega | assumption))) (fun r8 q_12 => ?_)
        refine ok_jn ?_
        refine ok_jn ?_
        refine ok_ite (fun c_13 => ?_) (fun c_13 => ?_)
        · skip
          have r_14 := n_rng r8
          have c_13i : r8.toInt < 0 := bI_lt rfl (show (0 : Int32).toInt = 0 by decide) c_13
          refine ok_bd (t_fX8_has) (fun r12 q_15 => ?_)
          have h_16 : r12 = 0 ∨ r12 = 1 := q_15
          have h_16i := bool_i h_16
          clear q_15
          refine ok_ite (fun c_17 => ?_) (fun c_17 => ?_)
          · skip
            have r_18 := n_rng r12
            have c_17i : r12.toInt = 0 := bI_eq rfl (show (0 : Int32).toInt = 0 by decide) c_17
            refine ok_bd (t_fX8_at (by first | omega | assumption | decide | (show (10 : Nat) < 2147483648; first | omega | assumption))) (fun r15 q_19 => ?_)
            refine ok_ite (fun c_20 => ?_) (fun c_20 => ?_)
            · skip
              have r_21 := n_rng r15
              have c_20i : r15.toInt = 0 := bI_eq rfl (show (0 : Int32).toInt = 0 by decide) c_20
              exact ok_some (Or.inl rfl)
            · skip
              have r_22 := n_rng r15
              have c_20i : r15.toInt ≠ 0 := bI_neq rfl (show (0 : Int32).toInt = 0 by decide) c_20
              refine ok_ite (fun c_23 => ?_) (fun c_23 => ?_)
              · skip
                refine ok_bd (t_fX8_at (by first | omega | assumption | decide | (show (10 : Nat) < 2147483648; first | omega | assumption))) (fun r19 q_24 => ?_)
                have r_25 := n_rng x3
                have r_26 := n_rng r19
                try have e_27 : (x3 + r19).toInt = (x3.toInt + r19.toInt) := (i32_add rfl rfl (by omega) (by omega))
                try have e_28 : (x4 + 1).toInt = (x4.toInt + 1) := (i32_add rfl (show (1 : Int32).toInt = 1 by decide) (by omega) (by omega))
                exact ih (x3 + r19) (x4 + 1)  (by omega)
              · skip
                exact absurd (by decide) c_23
          · skip
            have r_29 := n_rng r12
            have c_17i : r12.toInt ≠ 0 := bI_neq rfl (show (0 : Int32).toInt = 0 by decide) c_17
            exact ok_some (Or.inl rfl)
        · skip
          have r_30 := n_rng r8
          have c_13i : r8.toInt ≥ 0 := bI_nlt rfl (show (0 : Int32).toInt = 0 by decide) c_13
          refine ok_bd (t_fX8_has) (fun r23 q_31 => ?_)
          have h_32 : r23 = 0 ∨ r23 = 1 := q_31
          have h_32i := bool_i h_32
          clear q_31
          refine ok_ite (fun c_33 => ?_) (fun c_33 => ?_)
          · skip
            have r_34 := n_rng r23
            have c_33i : r23.toInt = 0 := bI_eq rfl (show (0 : Int32).toInt = 0 by decide) c_33
            refine ok_bd (t_fX8_has) (fun r12 q_35 => ?_)
            have h_36 : r12 = 0 ∨ r12 = 1 := q_35
            have h_36i := bool_i h_36
            clear q_35
            refine ok_ite (fun c_37 => ?_) (fun c_37 => ?_)
            · skip
              have r_38 := n_rng r12
              have c_37i : r12.toInt = 0 := bI_eq rfl (show (0 : Int32).toInt = 0 by decide) c_37
              refine ok_bd (t_fX8_at (by first | omega | assumption | decide | (show (10 : Nat) < 2147483648; first | omega | assumption))) (fun r15 q_39 => ?_)
              refine ok_ite (fun c_40 => ?_) (fun c_40 => ?_)
              · skip
                have r_41 := n_rng r15
                have c_40i : r15.toInt = 0 := bI_eq rfl (show (0 : Int32).toInt = 0 by decide) c_40
                exact ok_some (Or.inl rfl)
              · skip
                have r_42 := n_rng r15
                have c_40i : r15.toInt ≠ 0 := bI_neq rfl (show (0 : Int32).toInt = 0 by decide) c_40
                refine ok_ite (fun c_43 => ?_) (fun c_43 => ?_)
                · skip
                  exact absurd c_43 (by decide)
                · skip
                  exact ok_some (Or.inl rfl)
            · skip
              have r_44 := n_rng r12
              have c_37i : r12.toInt ≠ 0 := bI_neq rfl (show (0 : Int32).toInt = 0 by decide) c_37
              exact ok_some (Or.inl rfl)
          · skip
            have r_45 := n_rng r23
            have c_33i : r23.toInt ≠ 0 := bI_neq rfl (show (0 : Int32).toInt = 0 by decide) c_33
            refine ok_bd (t_fX8_has) (fun r12 q_46 => ?_)
            have h_47 : r12 = 0 ∨ r12 = 1 := q_46
            have h_47i := bool_i h_47
            clear q_46
            refine ok_ite (fun c_48 => ?_) (fun c_48 => ?_)
            · skip
              have r_49 := n_rng r12
              have c_48i : r12.toInt = 0 := bI_eq rfl (show (0 : Int32).toInt = 0 by decide) c_48
              refine ok_bd (t_fX8_at (by first | omega | assumption | decide | (show (10 : Nat) < 2147483648; first | omega | assumption))) (fun r15 q_50 => ?_)
              refine ok_ite (fun c_51 => ?_) (fun c_51 => ?_)
              · skip
                have r_52 := n_rng r15
                have c_51i : r15.toInt = 0 := bI_eq rfl (show (0 : Int32).toInt = 0 by decide) c_51
                exact ok_some (Or.inl rfl)
              · skip
                have r_53 := n_rng r15
                have c_51i : r15.toInt ≠ 0 := bI_neq rfl (show (0 : Int32).toInt = 0 by decide) c_51
                refine ok_ite (fun c_54 => ?_) (fun c_54 => ?_)
                · skip
                  refine ok_bd (t_fX8_at (by first | omega | assumption | decide | (show (10 : Nat) < 2147483648; first | omega | assumption))) (fun r19 q_55 => ?_)
                  have r_56 := n_rng x3
                  have r_57 := n_rng r19
                  try have e_58 : (x3 + r19).toInt = (x3.toInt + r19.toInt) := (i32_add rfl rfl (by omega) (by omega))
                  try have e_59 : (x4 + 1).toInt = (x4.toInt + 1) := (i32_add rfl (show (1 : Int32).toInt = 1 by decide) (by omega) (by omega))
                  exact ih (x3 + r19) (x4 + 1)  (by omega)
                · skip
                  exact absurd (by decide) c_54
            · skip
              have r_60 := n_rng r12
              have c_48i : r12.toInt ≠ 0 := bI_neq rfl (show (0 : Int32).toInt = 0 by decide) c_48
              exact ok_some (Or.inl rfl)
set_option maxHeartbeats 400000 in
set_option maxRecDepth 20000 in
theorem t_fX7_couldBeFound {z_t : Sx} {x1 : Int32} {x2 : Int32} : okP (fX7_couldBeFound z_t x1 x2) (fun y => (y = 0 ∨ y = 1)) := by
  unfold fX7_couldBeFound
  try have e_1 : (0 : Int32).toInt = 0 := (show (0 : Int32).toInt = 0 by decide)
  refine tl_lX7_couldBeFound_5 (fun i25 => ?_) FU 0 0  (FU_lt (by have := n_rng (gI z_t 3); omega))
  · skip
    refine ok_ite (fun c_2 => ?_) (fun c_2 => ?_)
    · skip
      have r_3 := n_rng (gI z_t 1)
      have r_4 := n_rng i25
      have c_2i : (gI z_t 1).toInt < i25.toInt := bI_lt rfl rfl c_2
      exact ok_some (Or.inl rfl)
    · skip
      have r_5 := n_rng (gI z_t 1)
      have r_6 := n_rng i25
      have c_2i : (gI z_t 1).toInt ≥ i25.toInt := bI_nlt rfl rfl c_2
      exact ok_some (Or.inr rfl)

set_option maxHeartbeats 400000 in
set_option maxRecDepth 20000 in
theorem tl_lX7_orderLooks_56 {o_z_t : Sx} {k112 : Sx → Int32 → Option (Sx)} {x1 : Int32} (Hk112 : ∀ (y0 : Sx) (y1 : Int32), (FrL [15, 16, 17] o_z_t y0) → okP (k112 y0 y1) (fun y => (FrL [15, 16, 17] o_z_t y))) : ∀ (n : Nat) (z_t : Sx) (x2 : Int32), (FrL [15, 16, 17] o_z_t z_t) → (x2.toInt + 1).toNat < n → okP (lX7_orderLooks_56 k112 x1 n z_t x2) (fun y => (FrL [15, 16, 17] o_z_t y)) := by
  intro n
  induction n with
  | zero => intro _ _ _ hm; omega
  | succ n ih =>
    intro z_t x2 frz_t hm
    rw [lX7_orderLooks_56]
    refine ok_ite (fun c_1 => ?_) (fun c_1 => ?_)
    · skip
      have r_2 := n_rng x2
      have c_1i : x2.toInt ≤ 0 := bI_le rfl (show (0 : Int32).toInt = 0 by decide) c_1
      exact Hk112 z_t x2 frz_t
    · skip
      have r_3 := n_rng x2
      have c_1i : x2.toInt > 0 := bI_nle rfl (show (0 : Int32).toInt = 0 by decide) c_1
      refine ok_bd (t_fX8_at (by first | omega | assumption | decide | (show (10 : Nat) < 2147483648; first | omega | assumption))) (fun r12 q_4 => ?_)
      refine ok_bd (t_fX8_at (by first | omega | assumption | decide | (show (10 : Nat) < 2147483648; first | omega | assumption))) (fun r14 q_5 => ?_)
      refine ok_bd (t_fX8_at (by first | omega | assumption | decide | (show (10 : Nat) < 2147483648; first | omega | assumption))) (fun r16 q_6 => ?_)
      refine ok_ite (fun c_7 => ?_) (fun c_7 => ?_)
      · skip
        have r_8 := n_rng r16
        have r_9 := n_rng r14
        have c_7i : r16.toInt ≤ r14.toInt := bI_le rfl rfl c_7
        exact Hk112 z_t x2 frz_t
      · skip
        have r_10 := n_rng r16
        have r_11 := n_rng r14
        have c_7i : r16.toInt > r14.toInt := bI_nle rfl rfl c_7
        refine ok_bd (t_fX8_at (by first | omega | assumption | decide | (show (10 : Nat) < 2147483648; first | omega | assumption))) (fun r19 q_12 => ?_)
        refine ok_bd (t_fX8_put (by first | omega | assumption | decide | (show (10 : Nat) < 2147483648; first | omega | assumption))) (fun z21 q_13 => ?_)
        try have e_14 : (x2 + (-1)).toInt = (x2.toInt + (-1)) := (i32_add rfl (show (-1 : Int32).toInt = -1 by decide) (by omega) (by omega))
        exact ih (sTf z_t 16 z21) (x2 + (-1)) (fr_Tf frz_t (by decide)) (by omega)
set_option maxHeartbeats 400000 in
set_option maxRecDepth 20000 in
theorem tl_lX7_orderLooks_2 {o_z_t : Sx} : ∀ (n : Nat) (z_t : Sx) (x1 : Int32), (FrL [15, 16, 17] o_z_t z_t) → ((gI z_t 3).toInt + 0 - x1.toInt).toNat < n → okP (lX7_orderLooks_2 n z_t x1) (fun y => (FrL [15, 16, 17] o_z_t y)) := by
  intro n
  induction n with
  | zero => intro _ _ _ hm; omega
  | succ n ih =>
    intro z_t x1 frz_t hm
    rw [lX7_orderLooks_2]
    refine ok_ite (fun c_1 => ?_) (fun c_1 => ?_)
    · skip
      have r_2 := n_rng (gI z_t 3)
      have r_3 := n_rng x1
      have c_1i : (gI z_t 3).toInt ≤ x1.toInt := bI_le rfl rfl c_1
      exact ok_some frz_t
    · skip
      have r_4 := n_rng (gI z_t 3)
      have r_5 := n_rng x1
      have c_1i : (gI z_t 3).toInt > x1.toInt := bI_nle rfl rfl c_1
      refine ok_bd (t_fX8_at (by first | omega | assumption | decide | (show (10 : Nat) < 2147483648; first | omega | assumption))) (fun r3 q_6 => ?_)
      refine ok_bd (t_fX8_at (by first | omega | assumption | decide | (show (10 : Nat) < 2147483648; first | omega | assumption))) (fun r5 q_7 => ?_)
      refine ok_bd (t_fX8_at (by first | omega | assumption | decide | (show (10 : Nat) < 2147483648; first | omega | assumption))) (fun r7 q_8 => ?_)
      refine ok_bd (t_fX8_put (by first | omega | assumption | decide | (show (10 : Nat) < 2147483648; first | omega | assumption))) (fun z9 q_9 => ?_)
      refine tl_lX7_orderLooks_56 (fun z22 i23 k_10 => ?_) FU (sTf (sI z_t 17 (mxI (gI z_t 17) r3)) 15 z9) x1 (fr_Tf (fr_I frz_t (by decide)) (by decide)) (FU_lt (by have := n_rng x1; omega))
      · skip
        refine ok_bd (t_fX8_put (by first | omega | assumption | decide | (show (10 : Nat) < 2147483648; first | omega | assumption))) (fun z25 q_11 => ?_)
        try have e_12 : (x1 + 1).toInt = (x1.toInt + 1) := (i32_add rfl (show (1 : Int32).toInt = 1 by decide) (by omega) (by omega))
        exact ih (sTf z22 16 z25) (x1 + 1) (fr_Tf k_10 (by decide)) (by have u1 := congrArg Int32.toInt (k_10 3 (by decide)).1; have u2 := congrArg Int32.toInt (frz_t 3 (by decide)).1; have u3 : (gI (sTf z22 16 z25) 3).toInt = (gI z22 3).toInt := rfl; omega)
set_option maxHeartbeats 400000 in
set_option maxRecDepth 20000 in
theorem t_fX7_orderLooks {z_t : Sx} : okP (fX7_orderLooks z_t) (fun y => (FrL [15, 16, 17] z_t y)) := by
  unfold fX7_orderLooks
  try have e_1 : (0 : Int32).toInt = 0 := (show (0 : Int32).toInt = 0 by decide)
  refine tl_lX7_orderLooks_2  FU z_t 0 fr_rf (FU_lt (by have := n_rng (gI z_t 3); omega))

set_option maxHeartbeats 400000 in
set_option maxRecDepth 20000 in
theorem t_fX7_payOf {z_t : Sx} {x1 : Int32} : okP (fX7_payOf z_t x1) (fun _ => True) := by
  unfold fX7_payOf
  refine ok_bd (t_fX7_together (by first | omega | assumption | decide | (show (10 : Nat) < 2147483648; first | omega | assumption))) (fun r2 q_1 => ?_)
  exact ok_some trivial

set_option maxHeartbeats 400000 in
set_option maxRecDepth 20000 in
theorem t_fX7_readFault {z_t : Sx} {z_p1 : Sx} (p3 : 0 ≤ (gI z_t 3).toInt ∧ (gI z_t 3).toInt ≤ 9) : okP (fX7_readFault z_t z_p1) (fun y => (FrL [3, 8, 9, 10, 11, 12, 13, 14] z_t y.1) ∧ (FrL [4, 5, 6, 7, 8] z_p1 y.2) ∧ ((gI y.1 3).toInt = (gI z_t 3).toInt + 1)) := by
  unfold fX7_readFault
  refine ok_bd2 (t_fX6_takeNumber) (fun r2 z3 q_1 => ?_)
  have h_2 : FrL [4, 5, 6, 7, 8] z_p1 z3 := q_1
  clear q_1
  refine ok_bd (t_fX8_put (by first | omega | assumption | decide | (show (10 : Nat) < 2147483648; first | omega | assumption))) (fun z5 q_3 => ?_)
  refine ok_bd2 (t_fX6_takeNumber) (fun r7 z8 q_4 => ?_)
  have h_5 : FrL [4, 5, 6, 7, 8] z3 z8 := q_4
  clear q_4
  refine ok_bd (t_fX8_put (by first | omega | assumption | decide | (show (10 : Nat) < 2147483648; first | omega | assumption))) (fun z10 q_6 => ?_)
  refine ok_bd2 (t_fX6_takeNumber) (fun r12 z13 q_7 => ?_)
  have h_8 : FrL [4, 5, 6, 7, 8] z8 z13 := q_7
  clear q_7
  refine ok_bd (t_fX8_put (by first | omega | assumption | decide | (show (10 : Nat) < 2147483648; first | omega | assumption))) (fun z15 q_9 => ?_)
  refine ok_bd (t_fX8_put (by first | omega | assumption | decide | (show (10 : Nat) < 2147483648; first | omega | assumption))) (fun z17 q_10 => ?_)
  refine ok_jn ?_
  refine ok_ite (fun c_11 => ?_) (fun c_11 => ?_)
  · skip
    have r_12 := n_rng (gI z13 8)
    have c_11i : (gI z13 8).toInt = 0 := bI_eq rfl (show (0 : Int32).toInt = 0 by decide) c_11
    refine ok_ite (fun c_13 => ?_) (fun c_13 => ?_)
    · skip
      have r_14 := n_rng (gI z13 5)
      have c_13i : (gI z13 5).toInt = 305 := bI_eq rfl (show (305 : Int32).toInt = 305 by decide) c_13
      refine ok_bd (t_fX6_step) (fun z36 q_15 => ?_)
      have h_16 : FrL [4, 5, 6, 7] z13 z36 := q_15
      clear q_15
      refine ok_bd2 (t_fX6_takeNumber) (fun r38 z39 q_17 => ?_)
      have h_18 : FrL [4, 5, 6, 7, 8] z36 z39 := q_17
      clear q_17
      refine ok_bd (t_fX8_put (by first | omega | assumption | decide | (show (10 : Nat) < 2147483648; first | omega | assumption))) (fun z41 q_19 => ?_)
      refine ok_bd (t_fX8_at (by first | omega | assumption | decide | (show (6 : Nat) < 2147483648; first | omega | assumption))) (fun r22 q_20 => ?_)
      refine ok_bd (t_fX8_put (by first | omega | assumption | decide | (show (10 : Nat) < 2147483648; first | omega | assumption))) (fun z24 q_21 => ?_)
      refine ok_bd (t_fX8_at (by first | omega | assumption | decide | (show (6 : Nat) < 2147483648; first | omega | assumption))) (fun r26 q_22 => ?_)
      refine ok_bd (t_fX8_put (by first | omega | assumption | decide | (show (10 : Nat) < 2147483648; first | omega | assumption))) (fun z28 q_23 => ?_)
      refine ok_bd (t_fX8_at (by first | omega | assumption | decide | (show (6 : Nat) < 2147483648; first | omega | assumption))) (fun r30 q_24 => ?_)
      refine ok_bd (t_fX8_put (by first | omega | assumption | decide | (show (10 : Nat) < 2147483648; first | omega | assumption))) (fun z32 q_25 => ?_)
      have r_26 := n_rng (gI z_t 3)
      try have e_27 : ((gI z_t 3) + 1).toInt = ((gI z_t 3).toInt + 1) := (i32_add rfl (show (1 : Int32).toInt = 1 by decide) (by omega) (by omega))
      exact ok_some ⟨(fr_I (fr_Tf (fr_Tf (fr_Tf (fr_Tf (fr_Tf (fr_Tf (fr_Tf (fr_Tf fr_rf (by decide)) (by decide)) (by decide)) (by decide)) (by decide)) (by decide)) (by decide)) (by decide)) (by decide)), (fr_tr (fr_tr (fr_tr (fr_tr (fr_tr fr_rf h_2 (by decide)) h_5 (by decide)) h_8 (by decide)) h_16 (by decide)) h_18 (by decide)), (show ((gI z_t 3) + 1).toInt = (gI z_t 3).toInt + 1 by first | omega | assumption | trivial)⟩
    · skip
      have r_28 := n_rng (gI z13 5)
      have c_13i : (gI z13 5).toInt ≠ 305 := bI_neq rfl (show (305 : Int32).toInt = 305 by decide) c_13
      refine ok_bd (t_fX8_at (by first | omega | assumption | decide | (show (6 : Nat) < 2147483648; first | omega | assumption))) (fun r22 q_29 => ?_)
      refine ok_bd (t_fX8_put (by first | omega | assumption | decide | (show (10 : Nat) < 2147483648; first | omega | assumption))) (fun z24 q_30 => ?_)
      refine ok_bd (t_fX8_at (by first | omega | assumption | decide | (show (6 : Nat) < 2147483648; first | omega | assumption))) (fun r26 q_31 => ?_)
      refine ok_bd (t_fX8_put (by first | omega | assumption | decide | (show (10 : Nat) < 2147483648; first | omega | assumption))) (fun z28 q_32 => ?_)
      refine ok_bd (t_fX8_at (by first | omega | assumption | decide | (show (6 : Nat) < 2147483648; first | omega | assumption))) (fun r30 q_33 => ?_)
      refine ok_bd (t_fX8_put (by first | omega | assumption | decide | (show (10 : Nat) < 2147483648; first | omega | assumption))) (fun z32 q_34 => ?_)
      have r_35 := n_rng (gI z_t 3)
      try have e_36 : ((gI z_t 3) + 1).toInt = ((gI z_t 3).toInt + 1) := (i32_add rfl (show (1 : Int32).toInt = 1 by decide) (by omega) (by omega))
      exact ok_some ⟨(fr_I (fr_Tf (fr_Tf (fr_Tf (fr_Tf (fr_Tf (fr_Tf (fr_Tf fr_rf (by decide)) (by decide)) (by decide)) (by decide)) (by decide)) (by decide)) (by decide)) (by decide)), (fr_tr (fr_tr (fr_tr fr_rf h_2 (by decide)) h_5 (by decide)) h_8 (by decide)), (show ((gI z_t 3) + 1).toInt = (gI z_t 3).toInt + 1 by first | omega | assumption | trivial)⟩
  · skip
    have r_37 := n_rng (gI z13 8)
    have c_11i : (gI z13 8).toInt ≠ 0 := bI_neq rfl (show (0 : Int32).toInt = 0 by decide) c_11
    refine ok_bd (t_fX8_at (by first | omega | assumption | decide | (show (6 : Nat) < 2147483648; first | omega | assumption))) (fun r22 q_38 => ?_)
    refine ok_bd (t_fX8_put (by first | omega | assumption | decide | (show (10 : Nat) < 2147483648; first | omega | assumption))) (fun z24 q_39 => ?_)
    refine ok_bd (t_fX8_at (by first | omega | assumption | decide | (show (6 : Nat) < 2147483648; first | omega | assumption))) (fun r26 q_40 => ?_)
    refine ok_bd (t_fX8_put (by first | omega | assumption | decide | (show (10 : Nat) < 2147483648; first | omega | assumption))) (fun z28 q_41 => ?_)
    refine ok_bd (t_fX8_at (by first | omega | assumption | decide | (show (6 : Nat) < 2147483648; first | omega | assumption))) (fun r30 q_42 => ?_)
    refine ok_bd (t_fX8_put (by first | omega | assumption | decide | (show (10 : Nat) < 2147483648; first | omega | assumption))) (fun z32 q_43 => ?_)
    have r_44 := n_rng (gI z_t 3)
    try have e_45 : ((gI z_t 3) + 1).toInt = ((gI z_t 3).toInt + 1) := (i32_add rfl (show (1 : Int32).toInt = 1 by decide) (by omega) (by omega))
    exact ok_some ⟨(fr_I (fr_Tf (fr_Tf (fr_Tf (fr_Tf (fr_Tf (fr_Tf (fr_Tf fr_rf (by decide)) (by decide)) (by decide)) (by decide)) (by decide)) (by decide)) (by decide)) (by decide)), (fr_tr (fr_tr (fr_tr fr_rf h_2 (by decide)) h_5 (by decide)) h_8 (by decide)), (show ((gI z_t 3) + 1).toInt = (gI z_t 3).toInt + 1 by first | omega | assumption | trivial)⟩

set_option maxHeartbeats 400000 in
set_option maxRecDepth 20000 in
theorem t_fX7_readKind {z_t : Sx} {z_p1 : Sx} : okP (fX7_readKind z_t z_p1) (fun y => (FrL [2, 5, 6, 7] z_t y.1) ∧ (FrL [4, 5, 6, 7, 8] z_p1 y.2)) := by
  unfold fX7_readKind
  refine ok_bd2 (t_fX6_takeNumber) (fun r2 z3 q_1 => ?_)
  have h_2 : FrL [4, 5, 6, 7, 8] z_p1 z3 := q_1
  clear q_1
  refine ok_bd (t_fX8_put (by first | omega | assumption | decide | (show (6 : Nat) < 2147483648; first | omega | assumption))) (fun z5 q_3 => ?_)
  refine ok_bd2 (t_fX6_takeNumber) (fun r7 z8 q_4 => ?_)
  have h_5 : FrL [4, 5, 6, 7, 8] z3 z8 := q_4
  clear q_4
  refine ok_bd (t_fX8_put (by first | omega | assumption | decide | (show (6 : Nat) < 2147483648; first | omega | assumption))) (fun z10 q_6 => ?_)
  refine ok_bd2 (t_fX6_takeNumber) (fun r12 z13 q_7 => ?_)
  have h_8 : FrL [4, 5, 6, 7, 8] z8 z13 := q_7
  clear q_7
  refine ok_bd (t_fX8_put (by first | omega | assumption | decide | (show (6 : Nat) < 2147483648; first | omega | assumption))) (fun z15 q_9 => ?_)
  exact ok_some ⟨(fr_I (fr_Tf (fr_Tf (fr_Tf fr_rf (by decide)) (by decide)) (by decide)) (by decide)), (fr_tr (fr_tr (fr_tr fr_rf h_2 (by decide)) h_5 (by decide)) h_8 (by decide))⟩

set_option maxHeartbeats 400000 in
set_option maxRecDepth 20000 in
theorem t_fX7_readClause {z_t : Sx} {z_p1 : Sx} {x2 : Int32} (p3 : 0 ≤ (gI z_t 3).toInt ∧ (gI z_t 3).toInt ≤ 10) : okP (fX7_readClause z_t z_p1 x2) (fun y => (FrL [1, 2, 3, 4, 5, 6, 7, 8, 9, 10, 11, 12, 13, 14] z_t y.1) ∧ (FrL [4, 5, 6, 7, 8] z_p1 y.2) ∧ (0 ≤ (gI y.1 3).toInt ∧ (gI y.1 3).toInt ≤ 10)) := by
  unfold fX7_readClause
  refine ok_jn ?_
  refine ok_ite (fun c_1 => ?_) (fun c_1 => ?_)
  · skip
    have r_2 := n_rng (gI z_p1 5)
    have c_1i : (gI z_p1 5).toInt = 304 := bI_eq rfl (show (304 : Int32).toInt = 304 by decide) c_1
    refine ok_jn ?_
    refine ok_ite (fun c_3 => ?_) (fun c_3 => ?_)
    · skip
      have c_3i : (gI z_p1 5).toInt = 304 := bI_eq rfl (show (304 : Int32).toInt = 304 by decide) c_3
      refine ok_jn ?_
      refine ok_ite (fun c_4 => ?_) (fun c_4 => ?_)
      · skip
        have r_5 := n_rng (gI z_t 4)
        have c_4i : (gI z_t 4).toInt = 0 := bI_eq rfl (show (0 : Int32).toInt = 0 by decide) c_4
        refine ok_ite (fun c_6 => ?_) (fun c_6 => ?_)
        · skip
          have r_7 := n_rng x2
          have c_6i : x2.toInt < 24 := bI_lt rfl (show (24 : Int32).toInt = 24 by decide) c_6
          refine ok_bd (t_fX6_step) (fun z10 q_8 => ?_)
          have h_9 : FrL [4, 5, 6, 7] z_p1 z10 := q_8
          clear q_8
          have s_10 : (gI z10 3).toInt = (gI z_p1 3).toInt := congrArg Int32.toInt (h_9 3 (by decide)).1
          refine ok_ite (fun c_11 => ?_) (fun c_11 => ?_)
          · skip
            have c_11i : (gI z_p1 5).toInt = 304 := bI_eq rfl (show (304 : Int32).toInt = 304 by decide) c_11
            refine ok_bd2 (t_fX6_takeNumber) (fun r20 z21 q_12 => ?_)
            have h_13 : FrL [4, 5, 6, 7, 8] z10 z21 := q_12
            clear q_12
            have s_14 : (gI z21 3).toInt = (gI z10 3).toInt := congrArg Int32.toInt (h_13 3 (by decide)).1
            exact ok_some ⟨(fr_I (fr_I fr_rf (by decide)) (by decide)), (fr_tr (fr_tr fr_rf h_9 (by decide)) h_13 (by decide)), (show 0 ≤ (gI z_t 3).toInt ∧ (gI z_t 3).toInt ≤ 10 by first | omega | assumption | trivial)⟩
          · skip
            have c_11i : (gI z_p1 5).toInt ≠ 304 := bI_neq rfl (show (304 : Int32).toInt = 304 by decide) c_11
            refine ok_ite (fun c_15 => ?_) (fun c_15 => ?_)
            · skip
              have c_15i : (gI z_p1 5).toInt = 313 := bI_eq rfl (show (313 : Int32).toInt = 313 by decide) c_15
              refine ok_bd2 (t_fX7_readKind) (fun z17 z18 q_16 => ?_)
              have h_17 : FrL [2, 5, 6, 7] z_t z17 := q_16.1
              have h_18 : FrL [4, 5, 6, 7, 8] z10 z18 := q_16.2
              clear q_16
              have s_19 : (gI z17 3).toInt = (gI z_t 3).toInt := congrArg Int32.toInt (h_17 3 (by decide)).1
              have s_20 : (gI z18 3).toInt = (gI z10 3).toInt := congrArg Int32.toInt (h_18 3 (by decide)).1
              exact ok_some ⟨(fr_tr fr_rf h_17 (by decide)), (fr_tr (fr_tr fr_rf h_9 (by decide)) h_18 (by decide)), (show 0 ≤ (gI z17 3).toInt ∧ (gI z17 3).toInt ≤ 10 by first | omega | assumption | trivial)⟩
            · skip
              have c_15i : (gI z_p1 5).toInt ≠ 313 := bI_neq rfl (show (313 : Int32).toInt = 313 by decide) c_15
              refine ok_bd2 (t_fX7_readFault (by first | omega | assumption | decide | (show 0 ≤ (gI z_t 3).toInt ∧ (gI z_t 3).toInt ≤ 9; first | omega | assumption))) (fun z14 z15 q_21 => ?_)
              have h_22 : FrL [3, 8, 9, 10, 11, 12, 13, 14] z_t z14 := q_21.1
              have h_23 : FrL [4, 5, 6, 7, 8] z10 z15 := q_21.2.1
              have h_24 : (gI z14 3).toInt = (gI z_t 3).toInt + 1 := q_21.2.2
              clear q_21
              have s_25 : (gI z15 3).toInt = (gI z10 3).toInt := congrArg Int32.toInt (h_23 3 (by decide)).1
              exact ok_some ⟨(fr_tr fr_rf h_22 (by decide)), (fr_tr (fr_tr fr_rf h_9 (by decide)) h_23 (by decide)), (show 0 ≤ (gI z14 3).toInt ∧ (gI z14 3).toInt ≤ 10 by first | omega | assumption | trivial)⟩
        · skip
          have r_26 := n_rng x2
          have c_6i : x2.toInt ≥ 24 := bI_nlt rfl (show (24 : Int32).toInt = 24 by decide) c_6
          refine ok_bd (t_fX6_fail) (fun z6 q_27 => ?_)
          have h_28 : FrL [8] z_p1 z6 := q_27
          clear q_27
          have s_29 : (gI z6 3).toInt = (gI z_p1 3).toInt := congrArg Int32.toInt (h_28 3 (by decide)).1
          exact ok_some ⟨fr_rf, (fr_tr fr_rf h_28 (by decide)), (show 0 ≤ (gI z_t 3).toInt ∧ (gI z_t 3).toInt ≤ 10 by first | omega | assumption | trivial)⟩
      · skip
        have r_30 := n_rng (gI z_t 4)
        have c_4i : (gI z_t 4).toInt ≠ 0 := bI_neq rfl (show (0 : Int32).toInt = 0 by decide) c_4
        refine ok_bd (t_fX6_fail) (fun z6 q_31 => ?_)
        have h_32 : FrL [8] z_p1 z6 := q_31
        clear q_31
        have s_33 : (gI z6 3).toInt = (gI z_p1 3).toInt := congrArg Int32.toInt (h_32 3 (by decide)).1
        exact ok_some ⟨fr_rf, (fr_tr fr_rf h_32 (by decide)), (show 0 ≤ (gI z_t 3).toInt ∧ (gI z_t 3).toInt ≤ 10 by first | omega | assumption | trivial)⟩
    · skip
      have c_3i : (gI z_p1 5).toInt ≠ 304 := bI_neq rfl (show (304 : Int32).toInt = 304 by decide) c_3
      refine ok_ite (fun c_34 => ?_) (fun c_34 => ?_)
      · skip
        have c_34i : (gI z_p1 5).toInt = 313 := bI_eq rfl (show (313 : Int32).toInt = 313 by decide) c_34
        refine ok_ite (fun c_35 => ?_) (fun c_35 => ?_)
        · skip
          have r_36 := n_rng (gI z_t 2)
          have c_35i : (gI z_t 2).toInt < 6 := bI_lt rfl (show (6 : Int32).toInt = 6 by decide) c_35
          refine ok_jn ?_
          refine ok_ite (fun c_37 => ?_) (fun c_37 => ?_)
          · skip
            refine ok_ite (fun c_38 => ?_) (fun c_38 => ?_)
            · skip
              have r_39 := n_rng x2
              have c_38i : x2.toInt < 24 := bI_lt rfl (show (24 : Int32).toInt = 24 by decide) c_38
              refine ok_bd (t_fX6_step) (fun z10 q_40 => ?_)
              have h_41 : FrL [4, 5, 6, 7] z_p1 z10 := q_40
              clear q_40
              have s_42 : (gI z10 3).toInt = (gI z_p1 3).toInt := congrArg Int32.toInt (h_41 3 (by decide)).1
              refine ok_ite (fun c_43 => ?_) (fun c_43 => ?_)
              · skip
                have c_43i : (gI z_p1 5).toInt = 304 := bI_eq rfl (show (304 : Int32).toInt = 304 by decide) c_43
                refine ok_bd2 (t_fX6_takeNumber) (fun r20 z21 q_44 => ?_)
                have h_45 : FrL [4, 5, 6, 7, 8] z10 z21 := q_44
                clear q_44
                have s_46 : (gI z21 3).toInt = (gI z10 3).toInt := congrArg Int32.toInt (h_45 3 (by decide)).1
                exact ok_some ⟨(fr_I (fr_I fr_rf (by decide)) (by decide)), (fr_tr (fr_tr fr_rf h_41 (by decide)) h_45 (by decide)), (show 0 ≤ (gI z_t 3).toInt ∧ (gI z_t 3).toInt ≤ 10 by first | omega | assumption | trivial)⟩
              · skip
                have c_43i : (gI z_p1 5).toInt ≠ 304 := bI_neq rfl (show (304 : Int32).toInt = 304 by decide) c_43
                refine ok_ite (fun c_47 => ?_) (fun c_47 => ?_)
                · skip
                  have c_47i : (gI z_p1 5).toInt = 313 := bI_eq rfl (show (313 : Int32).toInt = 313 by decide) c_47
                  refine ok_bd2 (t_fX7_readKind) (fun z17 z18 q_48 => ?_)
                  have h_49 : FrL [2, 5, 6, 7] z_t z17 := q_48.1
                  have h_50 : FrL [4, 5, 6, 7, 8] z10 z18 := q_48.2
                  clear q_48
                  have s_51 : (gI z17 3).toInt = (gI z_t 3).toInt := congrArg Int32.toInt (h_49 3 (by decide)).1
                  have s_52 : (gI z18 3).toInt = (gI z10 3).toInt := congrArg Int32.toInt (h_50 3 (by decide)).1
                  exact ok_some ⟨(fr_tr fr_rf h_49 (by decide)), (fr_tr (fr_tr fr_rf h_41 (by decide)) h_50 (by decide)), (show 0 ≤ (gI z17 3).toInt ∧ (gI z17 3).toInt ≤ 10 by first | omega | assumption | trivial)⟩
                · skip
                  have c_47i : (gI z_p1 5).toInt ≠ 313 := bI_neq rfl (show (313 : Int32).toInt = 313 by decide) c_47
                  refine ok_bd2 (t_fX7_readFault (by first | omega | assumption | decide | (show 0 ≤ (gI z_t 3).toInt ∧ (gI z_t 3).toInt ≤ 9; first | omega | assumption))) (fun z14 z15 q_53 => ?_)
                  have h_54 : FrL [3, 8, 9, 10, 11, 12, 13, 14] z_t z14 := q_53.1
                  have h_55 : FrL [4, 5, 6, 7, 8] z10 z15 := q_53.2.1
                  have h_56 : (gI z14 3).toInt = (gI z_t 3).toInt + 1 := q_53.2.2
                  clear q_53
                  have s_57 : (gI z15 3).toInt = (gI z10 3).toInt := congrArg Int32.toInt (h_55 3 (by decide)).1
                  exact ok_some ⟨(fr_tr fr_rf h_54 (by decide)), (fr_tr (fr_tr fr_rf h_41 (by decide)) h_55 (by decide)), (show 0 ≤ (gI z14 3).toInt ∧ (gI z14 3).toInt ≤ 10 by first | omega | assumption | trivial)⟩
            · skip
              have r_58 := n_rng x2
              have c_38i : x2.toInt ≥ 24 := bI_nlt rfl (show (24 : Int32).toInt = 24 by decide) c_38
              refine ok_bd (t_fX6_fail) (fun z6 q_59 => ?_)
              have h_60 : FrL [8] z_p1 z6 := q_59
              clear q_59
              have s_61 : (gI z6 3).toInt = (gI z_p1 3).toInt := congrArg Int32.toInt (h_60 3 (by decide)).1
              exact ok_some ⟨fr_rf, (fr_tr fr_rf h_60 (by decide)), (show 0 ≤ (gI z_t 3).toInt ∧ (gI z_t 3).toInt ≤ 10 by first | omega | assumption | trivial)⟩
          · skip
            exact absurd (by decide) c_37
        · skip
          have r_62 := n_rng (gI z_t 2)
          have c_35i : (gI z_t 2).toInt ≥ 6 := bI_nlt rfl (show (6 : Int32).toInt = 6 by decide) c_35
          refine ok_jn ?_
          refine ok_ite (fun c_63 => ?_) (fun c_63 => ?_)
          · skip
            exact absurd c_63 (by decide)
          · skip
            refine ok_bd (t_fX6_fail) (fun z6 q_64 => ?_)
            have h_65 : FrL [8] z_p1 z6 := q_64
            clear q_64
            have s_66 : (gI z6 3).toInt = (gI z_p1 3).toInt := congrArg Int32.toInt (h_65 3 (by decide)).1
            exact ok_some ⟨fr_rf, (fr_tr fr_rf h_65 (by decide)), (show 0 ≤ (gI z_t 3).toInt ∧ (gI z_t 3).toInt ≤ 10 by first | omega | assumption | trivial)⟩
      · skip
        have c_34i : (gI z_p1 5).toInt ≠ 313 := bI_neq rfl (show (313 : Int32).toInt = 313 by decide) c_34
        refine ok_ite (fun c_67 => ?_) (fun c_67 => ?_)
        · skip
          have r_68 := n_rng (gI z_t 3)
          have c_67i : (gI z_t 3).toInt < 10 := bI_lt rfl (show (10 : Int32).toInt = 10 by decide) c_67
          refine ok_jn ?_
          refine ok_ite (fun c_69 => ?_) (fun c_69 => ?_)
          · skip
            refine ok_ite (fun c_70 => ?_) (fun c_70 => ?_)
            · skip
              have r_71 := n_rng x2
              have c_70i : x2.toInt < 24 := bI_lt rfl (show (24 : Int32).toInt = 24 by decide) c_70
              refine ok_bd (t_fX6_step) (fun z10 q_72 => ?_)
              have h_73 : FrL [4, 5, 6, 7] z_p1 z10 := q_72
              clear q_72
              have s_74 : (gI z10 3).toInt = (gI z_p1 3).toInt := congrArg Int32.toInt (h_73 3 (by decide)).1
              refine ok_ite (fun c_75 => ?_) (fun c_75 => ?_)
              · skip
                have c_75i : (gI z_p1 5).toInt = 304 := bI_eq rfl (show (304 : Int32).toInt = 304 by decide) c_75
                refine ok_bd2 (t_fX6_takeNumber) (fun r20 z21 q_76 => ?_)
                have h_77 : FrL [4, 5, 6, 7, 8] z10 z21 := q_76
                clear q_76
                have s_78 : (gI z21 3).toInt = (gI z10 3).toInt := congrArg Int32.toInt (h_77 3 (by decide)).1
                exact ok_some ⟨(fr_I (fr_I fr_rf (by decide)) (by decide)), (fr_tr (fr_tr fr_rf h_73 (by decide)) h_77 (by decide)), (show 0 ≤ (gI z_t 3).toInt ∧ (gI z_t 3).toInt ≤ 10 by first | omega | assumption | trivial)⟩
              · skip
                have c_75i : (gI z_p1 5).toInt ≠ 304 := bI_neq rfl (show (304 : Int32).toInt = 304 by decide) c_75
                refine ok_ite (fun c_79 => ?_) (fun c_79 => ?_)
                · skip
                  have c_79i : (gI z_p1 5).toInt = 313 := bI_eq rfl (show (313 : Int32).toInt = 313 by decide) c_79
                  refine ok_bd2 (t_fX7_readKind) (fun z17 z18 q_80 => ?_)
                  have h_81 : FrL [2, 5, 6, 7] z_t z17 := q_80.1
                  have h_82 : FrL [4, 5, 6, 7, 8] z10 z18 := q_80.2
                  clear q_80
                  have s_83 : (gI z17 3).toInt = (gI z_t 3).toInt := congrArg Int32.toInt (h_81 3 (by decide)).1
                  have s_84 : (gI z18 3).toInt = (gI z10 3).toInt := congrArg Int32.toInt (h_82 3 (by decide)).1
                  exact ok_some ⟨(fr_tr fr_rf h_81 (by decide)), (fr_tr (fr_tr fr_rf h_73 (by decide)) h_82 (by decide)), (show 0 ≤ (gI z17 3).toInt ∧ (gI z17 3).toInt ≤ 10 by first | omega | assumption | trivial)⟩
                · skip
                  have c_79i : (gI z_p1 5).toInt ≠ 313 := bI_neq rfl (show (313 : Int32).toInt = 313 by decide) c_79
                  refine ok_bd2 (t_fX7_readFault (by first | omega | assumption | decide | (show 0 ≤ (gI z_t 3).toInt ∧ (gI z_t 3).toInt ≤ 9; first | omega | assumption))) (fun z14 z15 q_85 => ?_)
                  have h_86 : FrL [3, 8, 9, 10, 11, 12, 13, 14] z_t z14 := q_85.1
                  have h_87 : FrL [4, 5, 6, 7, 8] z10 z15 := q_85.2.1
                  have h_88 : (gI z14 3).toInt = (gI z_t 3).toInt + 1 := q_85.2.2
                  clear q_85
                  have s_89 : (gI z15 3).toInt = (gI z10 3).toInt := congrArg Int32.toInt (h_87 3 (by decide)).1
                  exact ok_some ⟨(fr_tr fr_rf h_86 (by decide)), (fr_tr (fr_tr fr_rf h_73 (by decide)) h_87 (by decide)), (show 0 ≤ (gI z14 3).toInt ∧ (gI z14 3).toInt ≤ 10 by first | omega | assumption | trivial)⟩
            · skip
              have r_90 := n_rng x2
              have c_70i : x2.toInt ≥ 24 := bI_nlt rfl (show (24 : Int32).toInt = 24 by decide) c_70
              refine ok_bd (t_fX6_fail) (fun z6 q_91 => ?_)
              have h_92 : FrL [8] z_p1 z6 := q_91
              clear q_91
              have s_93 : (gI z6 3).toInt = (gI z_p1 3).toInt := congrArg Int32.toInt (h_92 3 (by decide)).1
              exact ok_some ⟨fr_rf, (fr_tr fr_rf h_92 (by decide)), (show 0 ≤ (gI z_t 3).toInt ∧ (gI z_t 3).toInt ≤ 10 by first | omega | assumption | trivial)⟩
          · skip
            exact absurd (by decide) c_69
        · skip
          have r_94 := n_rng (gI z_t 3)
          have c_67i : (gI z_t 3).toInt ≥ 10 := bI_nlt rfl (show (10 : Int32).toInt = 10 by decide) c_67
          refine ok_jn ?_
          refine ok_ite (fun c_95 => ?_) (fun c_95 => ?_)
          · skip
            exact absurd c_95 (by decide)
          · skip
            refine ok_bd (t_fX6_fail) (fun z6 q_96 => ?_)
            have h_97 : FrL [8] z_p1 z6 := q_96
            clear q_96
            have s_98 : (gI z6 3).toInt = (gI z_p1 3).toInt := congrArg Int32.toInt (h_97 3 (by decide)).1
            exact ok_some ⟨fr_rf, (fr_tr fr_rf h_97 (by decide)), (show 0 ≤ (gI z_t 3).toInt ∧ (gI z_t 3).toInt ≤ 10 by first | omega | assumption | trivial)⟩
  · skip
    have r_99 := n_rng (gI z_p1 5)
    have c_1i : (gI z_p1 5).toInt ≠ 304 := bI_neq rfl (show (304 : Int32).toInt = 304 by decide) c_1
    refine ok_ite (fun c_100 => ?_) (fun c_100 => ?_)
    · skip
      have c_100i : (gI z_p1 5).toInt = 313 := bI_eq rfl (show (313 : Int32).toInt = 313 by decide) c_100
      refine ok_jn ?_
      refine ok_ite (fun c_101 => ?_) (fun c_101 => ?_)
      · skip
        have c_101i : (gI z_p1 5).toInt = 304 := bI_eq rfl (show (304 : Int32).toInt = 304 by decide) c_101
        refine ok_jn ?_
        refine ok_ite (fun c_102 => ?_) (fun c_102 => ?_)
        · skip
          have r_103 := n_rng (gI z_t 4)
          have c_102i : (gI z_t 4).toInt = 0 := bI_eq rfl (show (0 : Int32).toInt = 0 by decide) c_102
          refine ok_ite (fun c_104 => ?_) (fun c_104 => ?_)
          · skip
            have r_105 := n_rng x2
            have c_104i : x2.toInt < 24 := bI_lt rfl (show (24 : Int32).toInt = 24 by decide) c_104
            refine ok_bd (t_fX6_step) (fun z10 q_106 => ?_)
            have h_107 : FrL [4, 5, 6, 7] z_p1 z10 := q_106
            clear q_106
            have s_108 : (gI z10 3).toInt = (gI z_p1 3).toInt := congrArg Int32.toInt (h_107 3 (by decide)).1
            refine ok_ite (fun c_109 => ?_) (fun c_109 => ?_)
            · skip
              have c_109i : (gI z_p1 5).toInt = 304 := bI_eq rfl (show (304 : Int32).toInt = 304 by decide) c_109
              refine ok_bd2 (t_fX6_takeNumber) (fun r20 z21 q_110 => ?_)
              have h_111 : FrL [4, 5, 6, 7, 8] z10 z21 := q_110
              clear q_110
              have s_112 : (gI z21 3).toInt = (gI z10 3).toInt := congrArg Int32.toInt (h_111 3 (by decide)).1
              exact ok_some ⟨(fr_I (fr_I fr_rf (by decide)) (by decide)), (fr_tr (fr_tr fr_rf h_107 (by decide)) h_111 (by decide)), (show 0 ≤ (gI z_t 3).toInt ∧ (gI z_t 3).toInt ≤ 10 by first | omega | assumption | trivial)⟩
            · skip
              have c_109i : (gI z_p1 5).toInt ≠ 304 := bI_neq rfl (show (304 : Int32).toInt = 304 by decide) c_109
              refine ok_ite (fun c_113 => ?_) (fun c_113 => ?_)
              · skip
                have c_113i : (gI z_p1 5).toInt = 313 := bI_eq rfl (show (313 : Int32).toInt = 313 by decide) c_113
                refine ok_bd2 (t_fX7_readKind) (fun z17 z18 q_114 => ?_)
                have h_115 : FrL [2, 5, 6, 7] z_t z17 := q_114.1
                have h_116 : FrL [4, 5, 6, 7, 8] z10 z18 := q_114.2
                clear q_114
                have s_117 : (gI z17 3).toInt = (gI z_t 3).toInt := congrArg Int32.toInt (h_115 3 (by decide)).1
                have s_118 : (gI z18 3).toInt = (gI z10 3).toInt := congrArg Int32.toInt (h_116 3 (by decide)).1
                exact ok_some ⟨(fr_tr fr_rf h_115 (by decide)), (fr_tr (fr_tr fr_rf h_107 (by decide)) h_116 (by decide)), (show 0 ≤ (gI z17 3).toInt ∧ (gI z17 3).toInt ≤ 10 by first | omega | assumption | trivial)⟩
              · skip
                have c_113i : (gI z_p1 5).toInt ≠ 313 := bI_neq rfl (show (313 : Int32).toInt = 313 by decide) c_113
                refine ok_bd2 (t_fX7_readFault (by first | omega | assumption | decide | (show 0 ≤ (gI z_t 3).toInt ∧ (gI z_t 3).toInt ≤ 9; first | omega | assumption))) (fun z14 z15 q_119 => ?_)
                have h_120 : FrL [3, 8, 9, 10, 11, 12, 13, 14] z_t z14 := q_119.1
                have h_121 : FrL [4, 5, 6, 7, 8] z10 z15 := q_119.2.1
                have h_122 : (gI z14 3).toInt = (gI z_t 3).toInt + 1 := q_119.2.2
                clear q_119
                have s_123 : (gI z15 3).toInt = (gI z10 3).toInt := congrArg Int32.toInt (h_121 3 (by decide)).1
                exact ok_some ⟨(fr_tr fr_rf h_120 (by decide)), (fr_tr (fr_tr fr_rf h_107 (by decide)) h_121 (by decide)), (show 0 ≤ (gI z14 3).toInt ∧ (gI z14 3).toInt ≤ 10 by first | omega | assumption | trivial)⟩
          · skip
            have r_124 := n_rng x2
            have c_104i : x2.toInt ≥ 24 := bI_nlt rfl (show (24 : Int32).toInt = 24 by decide) c_104
            refine ok_bd (t_fX6_fail) (fun z6 q_125 => ?_)
            have h_126 : FrL [8] z_p1 z6 := q_125
            clear q_125
            have s_127 : (gI z6 3).toInt = (gI z_p1 3).toInt := congrArg Int32.toInt (h_126 3 (by decide)).1
            exact ok_some ⟨fr_rf, (fr_tr fr_rf h_126 (by decide)), (show 0 ≤ (gI z_t 3).toInt ∧ (gI z_t 3).toInt ≤ 10 by first | omega | assumption | trivial)⟩
        · skip
          have r_128 := n_rng (gI z_t 4)
          have c_102i : (gI z_t 4).toInt ≠ 0 := bI_neq rfl (show (0 : Int32).toInt = 0 by decide) c_102
          refine ok_bd (t_fX6_fail) (fun z6 q_129 => ?_)
          have h_130 : FrL [8] z_p1 z6 := q_129
          clear q_129
          have s_131 : (gI z6 3).toInt = (gI z_p1 3).toInt := congrArg Int32.toInt (h_130 3 (by decide)).1
          exact ok_some ⟨fr_rf, (fr_tr fr_rf h_130 (by decide)), (show 0 ≤ (gI z_t 3).toInt ∧ (gI z_t 3).toInt ≤ 10 by first | omega | assumption | trivial)⟩
      · skip
        have c_101i : (gI z_p1 5).toInt ≠ 304 := bI_neq rfl (show (304 : Int32).toInt = 304 by decide) c_101
        refine ok_ite (fun c_132 => ?_) (fun c_132 => ?_)
        · skip
          have c_132i : (gI z_p1 5).toInt = 313 := bI_eq rfl (show (313 : Int32).toInt = 313 by decide) c_132
          refine ok_ite (fun c_133 => ?_) (fun c_133 => ?_)
          · skip
            have r_134 := n_rng (gI z_t 2)
            have c_133i : (gI z_t 2).toInt < 6 := bI_lt rfl (show (6 : Int32).toInt = 6 by decide) c_133
            refine ok_jn ?_
            refine ok_ite (fun c_135 => ?_) (fun c_135 => ?_)
            · skip
              refine ok_ite (fun c_136 => ?_) (fun c_136 => ?_)
              · skip
                have r_137 := n_rng x2
                have c_136i : x2.toInt < 24 := bI_lt rfl (show (24 : Int32).toInt = 24 by decide) c_136
                refine ok_bd (t_fX6_step) (fun z10 q_138 => ?_)
                have h_139 : FrL [4, 5, 6, 7] z_p1 z10 := q_138
                clear q_138
                have s_140 : (gI z10 3).toInt = (gI z_p1 3).toInt := congrArg Int32.toInt (h_139 3 (by decide)).1
                refine ok_ite (fun c_141 => ?_) (fun c_141 => ?_)
                · skip
                  have c_141i : (gI z_p1 5).toInt = 304 := bI_eq rfl (show (304 : Int32).toInt = 304 by decide) c_141
                  refine ok_bd2 (t_fX6_takeNumber) (fun r20 z21 q_142 => ?_)
                  have h_143 : FrL [4, 5, 6, 7, 8] z10 z21 := q_142
                  clear q_142
                  have s_144 : (gI z21 3).toInt = (gI z10 3).toInt := congrArg Int32.toInt (h_143 3 (by decide)).1
                  exact ok_some ⟨(fr_I (fr_I fr_rf (by decide)) (by decide)), (fr_tr (fr_tr fr_rf h_139 (by decide)) h_143 (by decide)), (show 0 ≤ (gI z_t 3).toInt ∧ (gI z_t 3).toInt ≤ 10 by first | omega | assumption | trivial)⟩
                · skip
                  have c_141i : (gI z_p1 5).toInt ≠ 304 := bI_neq rfl (show (304 : Int32).toInt = 304 by decide) c_141
                  refine ok_ite (fun c_145 => ?_) (fun c_145 => ?_)
                  · skip
                    have c_145i : (gI z_p1 5).toInt = 313 := bI_eq rfl (show (313 : Int32).toInt = 313 by decide) c_145
                    refine ok_bd2 (t_fX7_readKind) (fun z17 z18 q_146 => ?_)
                    have h_147 : FrL [2, 5, 6, 7] z_t z17 := q_146.1
                    have h_148 : FrL [4, 5, 6, 7, 8] z10 z18 := q_146.2
                    clear q_146
                    have s_149 : (gI z17 3).toInt = (gI z_t 3).toInt := congrArg Int32.toInt (h_147 3 (by decide)).1
                    have s_150 : (gI z18 3).toInt = (gI z10 3).toInt := congrArg Int32.toInt (h_148 3 (by decide)).1
                    exact ok_some ⟨(fr_tr fr_rf h_147 (by decide)), (fr_tr (fr_tr fr_rf h_139 (by decide)) h_148 (by decide)), (show 0 ≤ (gI z17 3).toInt ∧ (gI z17 3).toInt ≤ 10 by first | omega | assumption | trivial)⟩
                  · skip
                    have c_145i : (gI z_p1 5).toInt ≠ 313 := bI_neq rfl (show (313 : Int32).toInt = 313 by decide) c_145
                    refine ok_bd2 (t_fX7_readFault (by first | omega | assumption | decide | (show 0 ≤ (gI z_t 3).toInt ∧ (gI z_t 3).toInt ≤ 9; first | omega | assumption))) (fun z14 z15 q_151 => ?_)
                    have h_152 : FrL [3, 8, 9, 10, 11, 12, 13, 14] z_t z14 := q_151.1
                    have h_153 : FrL [4, 5, 6, 7, 8] z10 z15 := q_151.2.1
                    have h_154 : (gI z14 3).toInt = (gI z_t 3).toInt + 1 := q_151.2.2
                    clear q_151
                    have s_155 : (gI z15 3).toInt = (gI z10 3).toInt := congrArg Int32.toInt (h_153 3 (by decide)).1
                    exact ok_some ⟨(fr_tr fr_rf h_152 (by decide)), (fr_tr (fr_tr fr_rf h_139 (by decide)) h_153 (by decide)), (show 0 ≤ (gI z14 3).toInt ∧ (gI z14 3).toInt ≤ 10 by first | omega | assumption | trivial)⟩
              · skip
                have r_156 := n_rng x2
                have c_136i : x2.toInt ≥ 24 := bI_nlt rfl (show (24 : Int32).toInt = 24 by decide) c_136
                refine ok_bd (t_fX6_fail) (fun z6 q_157 => ?_)
                have h_158 : FrL [8] z_p1 z6 := q_157
                clear q_157
                have s_159 : (gI z6 3).toInt = (gI z_p1 3).toInt := congrArg Int32.toInt (h_158 3 (by decide)).1
                exact ok_some ⟨fr_rf, (fr_tr fr_rf h_158 (by decide)), (show 0 ≤ (gI z_t 3).toInt ∧ (gI z_t 3).toInt ≤ 10 by first | omega | assumption | trivial)⟩
            · skip
              exact absurd (by decide) c_135
          · skip
            have r_160 := n_rng (gI z_t 2)
            have c_133i : (gI z_t 2).toInt ≥ 6 := bI_nlt rfl (show (6 : Int32).toInt = 6 by decide) c_133
            refine ok_jn ?_
            refine ok_ite (fun c_161 => ?_) (fun c_161 => ?_)
            · skip
              exact absurd c_161 (by decide)
            · skip
              refine ok_bd (t_fX6_fail) (fun z6 q_162 => ?_)
              have h_163 : FrL [8] z_p1 z6 := q_162
              clear q_162
              have s_164 : (gI z6 3).toInt = (gI z_p1 3).toInt := congrArg Int32.toInt (h_163 3 (by decide)).1
              exact ok_some ⟨fr_rf, (fr_tr fr_rf h_163 (by decide)), (show 0 ≤ (gI z_t 3).toInt ∧ (gI z_t 3).toInt ≤ 10 by first | omega | assumption | trivial)⟩
        · skip
          have c_132i : (gI z_p1 5).toInt ≠ 313 := bI_neq rfl (show (313 : Int32).toInt = 313 by decide) c_132
          refine ok_ite (fun c_165 => ?_) (fun c_165 => ?_)
          · skip
            have r_166 := n_rng (gI z_t 3)
            have c_165i : (gI z_t 3).toInt < 10 := bI_lt rfl (show (10 : Int32).toInt = 10 by decide) c_165
            refine ok_jn ?_
            refine ok_ite (fun c_167 => ?_) (fun c_167 => ?_)
            · skip
              refine ok_ite (fun c_168 => ?_) (fun c_168 => ?_)
              · skip
                have r_169 := n_rng x2
                have c_168i : x2.toInt < 24 := bI_lt rfl (show (24 : Int32).toInt = 24 by decide) c_168
                refine ok_bd (t_fX6_step) (fun z10 q_170 => ?_)
                have h_171 : FrL [4, 5, 6, 7] z_p1 z10 := q_170
                clear q_170
                have s_172 : (gI z10 3).toInt = (gI z_p1 3).toInt := congrArg Int32.toInt (h_171 3 (by decide)).1
                refine ok_ite (fun c_173 => ?_) (fun c_173 => ?_)
                · skip
                  have c_173i : (gI z_p1 5).toInt = 304 := bI_eq rfl (show (304 : Int32).toInt = 304 by decide) c_173
                  refine ok_bd2 (t_fX6_takeNumber) (fun r20 z21 q_174 => ?_)
                  have h_175 : FrL [4, 5, 6, 7, 8] z10 z21 := q_174
                  clear q_174
                  have s_176 : (gI z21 3).toInt = (gI z10 3).toInt := congrArg Int32.toInt (h_175 3 (by decide)).1
                  exact ok_some ⟨(fr_I (fr_I fr_rf (by decide)) (by decide)), (fr_tr (fr_tr fr_rf h_171 (by decide)) h_175 (by decide)), (show 0 ≤ (gI z_t 3).toInt ∧ (gI z_t 3).toInt ≤ 10 by first | omega | assumption | trivial)⟩
                · skip
                  have c_173i : (gI z_p1 5).toInt ≠ 304 := bI_neq rfl (show (304 : Int32).toInt = 304 by decide) c_173
                  refine ok_ite (fun c_177 => ?_) (fun c_177 => ?_)
                  · skip
                    have c_177i : (gI z_p1 5).toInt = 313 := bI_eq rfl (show (313 : Int32).toInt = 313 by decide) c_177
                    refine ok_bd2 (t_fX7_readKind) (fun z17 z18 q_178 => ?_)
                    have h_179 : FrL [2, 5, 6, 7] z_t z17 := q_178.1
                    have h_180 : FrL [4, 5, 6, 7, 8] z10 z18 := q_178.2
                    clear q_178
                    have s_181 : (gI z17 3).toInt = (gI z_t 3).toInt := congrArg Int32.toInt (h_179 3 (by decide)).1
                    have s_182 : (gI z18 3).toInt = (gI z10 3).toInt := congrArg Int32.toInt (h_180 3 (by decide)).1
                    exact ok_some ⟨(fr_tr fr_rf h_179 (by decide)), (fr_tr (fr_tr fr_rf h_171 (by decide)) h_180 (by decide)), (show 0 ≤ (gI z17 3).toInt ∧ (gI z17 3).toInt ≤ 10 by first | omega | assumption | trivial)⟩
                  · skip
                    have c_177i : (gI z_p1 5).toInt ≠ 313 := bI_neq rfl (show (313 : Int32).toInt = 313 by decide) c_177
                    refine ok_bd2 (t_fX7_readFault (by first | omega | assumption | decide | (show 0 ≤ (gI z_t 3).toInt ∧ (gI z_t 3).toInt ≤ 9; first | omega | assumption))) (fun z14 z15 q_183 => ?_)
                    have h_184 : FrL [3, 8, 9, 10, 11, 12, 13, 14] z_t z14 := q_183.1
                    have h_185 : FrL [4, 5, 6, 7, 8] z10 z15 := q_183.2.1
                    have h_186 : (gI z14 3).toInt = (gI z_t 3).toInt + 1 := q_183.2.2
                    clear q_183
                    have s_187 : (gI z15 3).toInt = (gI z10 3).toInt := congrArg Int32.toInt (h_185 3 (by decide)).1
                    exact ok_some ⟨(fr_tr fr_rf h_184 (by decide)), (fr_tr (fr_tr fr_rf h_171 (by decide)) h_185 (by decide)), (show 0 ≤ (gI z14 3).toInt ∧ (gI z14 3).toInt ≤ 10 by first | omega | assumption | trivial)⟩
              · skip
                have r_188 := n_rng x2
                have c_168i : x2.toInt ≥ 24 := bI_nlt rfl (show (24 : Int32).toInt = 24 by decide) c_168
                refine ok_bd (t_fX6_fail) (fun z6 q_189 => ?_)
                have h_190 : FrL [8] z_p1 z6 := q_189
                clear q_189
                have s_191 : (gI z6 3).toInt = (gI z_p1 3).toInt := congrArg Int32.toInt (h_190 3 (by decide)).1
                exact ok_some ⟨fr_rf, (fr_tr fr_rf h_190 (by decide)), (show 0 ≤ (gI z_t 3).toInt ∧ (gI z_t 3).toInt ≤ 10 by first | omega | assumption | trivial)⟩
            · skip
              exact absurd (by decide) c_167
          · skip
            have r_192 := n_rng (gI z_t 3)
            have c_165i : (gI z_t 3).toInt ≥ 10 := bI_nlt rfl (show (10 : Int32).toInt = 10 by decide) c_165
            refine ok_jn ?_
            refine ok_ite (fun c_193 => ?_) (fun c_193 => ?_)
            · skip
              exact absurd c_193 (by decide)
            · skip
              refine ok_bd (t_fX6_fail) (fun z6 q_194 => ?_)
              have h_195 : FrL [8] z_p1 z6 := q_194
              clear q_194
              have s_196 : (gI z6 3).toInt = (gI z_p1 3).toInt := congrArg Int32.toInt (h_195 3 (by decide)).1
              exact ok_some ⟨fr_rf, (fr_tr fr_rf h_195 (by decide)), (show 0 ≤ (gI z_t 3).toInt ∧ (gI z_t 3).toInt ≤ 10 by first | omega | assumption | trivial)⟩
    · skip
      have c_100i : (gI z_p1 5).toInt ≠ 313 := bI_neq rfl (show (313 : Int32).toInt = 313 by decide) c_100
      refine ok_ite (fun c_197 => ?_) (fun c_197 => ?_)
      · skip
        have c_197i : (gI z_p1 5).toInt = 312 := bI_eq rfl (show (312 : Int32).toInt = 312 by decide) c_197
        refine ok_jn ?_
        refine ok_ite (fun c_198 => ?_) (fun c_198 => ?_)
        · skip
          have c_198i : (gI z_p1 5).toInt = 304 := bI_eq rfl (show (304 : Int32).toInt = 304 by decide) c_198
          refine ok_jn ?_
          refine ok_ite (fun c_199 => ?_) (fun c_199 => ?_)
          · skip
            have r_200 := n_rng (gI z_t 4)
            have c_199i : (gI z_t 4).toInt = 0 := bI_eq rfl (show (0 : Int32).toInt = 0 by decide) c_199
            refine ok_ite (fun c_201 => ?_) (fun c_201 => ?_)
            · skip
              have r_202 := n_rng x2
              have c_201i : x2.toInt < 24 := bI_lt rfl (show (24 : Int32).toInt = 24 by decide) c_201
              refine ok_bd (t_fX6_step) (fun z10 q_203 => ?_)
              have h_204 : FrL [4, 5, 6, 7] z_p1 z10 := q_203
              clear q_203
              have s_205 : (gI z10 3).toInt = (gI z_p1 3).toInt := congrArg Int32.toInt (h_204 3 (by decide)).1
              refine ok_ite (fun c_206 => ?_) (fun c_206 => ?_)
              · skip
                have c_206i : (gI z_p1 5).toInt = 304 := bI_eq rfl (show (304 : Int32).toInt = 304 by decide) c_206
                refine ok_bd2 (t_fX6_takeNumber) (fun r20 z21 q_207 => ?_)
                have h_208 : FrL [4, 5, 6, 7, 8] z10 z21 := q_207
                clear q_207
                have s_209 : (gI z21 3).toInt = (gI z10 3).toInt := congrArg Int32.toInt (h_208 3 (by decide)).1
                exact ok_some ⟨(fr_I (fr_I fr_rf (by decide)) (by decide)), (fr_tr (fr_tr fr_rf h_204 (by decide)) h_208 (by decide)), (show 0 ≤ (gI z_t 3).toInt ∧ (gI z_t 3).toInt ≤ 10 by first | omega | assumption | trivial)⟩
              · skip
                have c_206i : (gI z_p1 5).toInt ≠ 304 := bI_neq rfl (show (304 : Int32).toInt = 304 by decide) c_206
                refine ok_ite (fun c_210 => ?_) (fun c_210 => ?_)
                · skip
                  have c_210i : (gI z_p1 5).toInt = 313 := bI_eq rfl (show (313 : Int32).toInt = 313 by decide) c_210
                  refine ok_bd2 (t_fX7_readKind) (fun z17 z18 q_211 => ?_)
                  have h_212 : FrL [2, 5, 6, 7] z_t z17 := q_211.1
                  have h_213 : FrL [4, 5, 6, 7, 8] z10 z18 := q_211.2
                  clear q_211
                  have s_214 : (gI z17 3).toInt = (gI z_t 3).toInt := congrArg Int32.toInt (h_212 3 (by decide)).1
                  have s_215 : (gI z18 3).toInt = (gI z10 3).toInt := congrArg Int32.toInt (h_213 3 (by decide)).1
                  exact ok_some ⟨(fr_tr fr_rf h_212 (by decide)), (fr_tr (fr_tr fr_rf h_204 (by decide)) h_213 (by decide)), (show 0 ≤ (gI z17 3).toInt ∧ (gI z17 3).toInt ≤ 10 by first | omega | assumption | trivial)⟩
                · skip
                  have c_210i : (gI z_p1 5).toInt ≠ 313 := bI_neq rfl (show (313 : Int32).toInt = 313 by decide) c_210
                  refine ok_bd2 (t_fX7_readFault (by first | omega | assumption | decide | (show 0 ≤ (gI z_t 3).toInt ∧ (gI z_t 3).toInt ≤ 9; first | omega | assumption))) (fun z14 z15 q_216 => ?_)
                  have h_217 : FrL [3, 8, 9, 10, 11, 12, 13, 14] z_t z14 := q_216.1
                  have h_218 : FrL [4, 5, 6, 7, 8] z10 z15 := q_216.2.1
                  have h_219 : (gI z14 3).toInt = (gI z_t 3).toInt + 1 := q_216.2.2
                  clear q_216
                  have s_220 : (gI z15 3).toInt = (gI z10 3).toInt := congrArg Int32.toInt (h_218 3 (by decide)).1
                  exact ok_some ⟨(fr_tr fr_rf h_217 (by decide)), (fr_tr (fr_tr fr_rf h_204 (by decide)) h_218 (by decide)), (show 0 ≤ (gI z14 3).toInt ∧ (gI z14 3).toInt ≤ 10 by first | omega | assumption | trivial)⟩
            · skip
              have r_221 := n_rng x2
              have c_201i : x2.toInt ≥ 24 := bI_nlt rfl (show (24 : Int32).toInt = 24 by decide) c_201
              refine ok_bd (t_fX6_fail) (fun z6 q_222 => ?_)
              have h_223 : FrL [8] z_p1 z6 := q_222
              clear q_222
              have s_224 : (gI z6 3).toInt = (gI z_p1 3).toInt := congrArg Int32.toInt (h_223 3 (by decide)).1
              exact ok_some ⟨fr_rf, (fr_tr fr_rf h_223 (by decide)), (show 0 ≤ (gI z_t 3).toInt ∧ (gI z_t 3).toInt ≤ 10 by first | omega | assumption | trivial)⟩
          · skip
            have r_225 := n_rng (gI z_t 4)
            have c_199i : (gI z_t 4).toInt ≠ 0 := bI_neq rfl (show (0 : Int32).toInt = 0 by decide) c_199
            refine ok_bd (t_fX6_fail) (fun z6 q_226 => ?_)
            have h_227 : FrL [8] z_p1 z6 := q_226
            clear q_226
            have s_228 : (gI z6 3).toInt = (gI z_p1 3).toInt := congrArg Int32.toInt (h_227 3 (by decide)).1
            exact ok_some ⟨fr_rf, (fr_tr fr_rf h_227 (by decide)), (show 0 ≤ (gI z_t 3).toInt ∧ (gI z_t 3).toInt ≤ 10 by first | omega | assumption | trivial)⟩
        · skip
          have c_198i : (gI z_p1 5).toInt ≠ 304 := bI_neq rfl (show (304 : Int32).toInt = 304 by decide) c_198
          refine ok_ite (fun c_229 => ?_) (fun c_229 => ?_)
          · skip
            have c_229i : (gI z_p1 5).toInt = 313 := bI_eq rfl (show (313 : Int32).toInt = 313 by decide) c_229
            refine ok_ite (fun c_230 => ?_) (fun c_230 => ?_)
            · skip
              have r_231 := n_rng (gI z_t 2)
              have c_230i : (gI z_t 2).toInt < 6 := bI_lt rfl (show (6 : Int32).toInt = 6 by decide) c_230
              refine ok_jn ?_
              refine ok_ite (fun c_232 => ?_) (fun c_232 => ?_)
              · skip
                refine ok_ite (fun c_233 => ?_) (fun c_233 => ?_)
                · skip
                  have r_234 := n_rng x2
                  have c_233i : x2.toInt < 24 := bI_lt rfl (show (24 : Int32).toInt = 24 by decide) c_233
                  refine ok_bd (t_fX6_step) (fun z10 q_235 => ?_)
                  have h_236 : FrL [4, 5, 6, 7] z_p1 z10 := q_235
                  clear q_235
                  have s_237 : (gI z10 3).toInt = (gI z_p1 3).toInt := congrArg Int32.toInt (h_236 3 (by decide)).1
                  refine ok_ite (fun c_238 => ?_) (fun c_238 => ?_)
                  · skip
                    have c_238i : (gI z_p1 5).toInt = 304 := bI_eq rfl (show (304 : Int32).toInt = 304 by decide) c_238
                    refine ok_bd2 (t_fX6_takeNumber) (fun r20 z21 q_239 => ?_)
                    have h_240 : FrL [4, 5, 6, 7, 8] z10 z21 := q_239
                    clear q_239
                    have s_241 : (gI z21 3).toInt = (gI z10 3).toInt := congrArg Int32.toInt (h_240 3 (by decide)).1
                    exact ok_some ⟨(fr_I (fr_I fr_rf (by decide)) (by decide)), (fr_tr (fr_tr fr_rf h_236 (by decide)) h_240 (by decide)), (show 0 ≤ (gI z_t 3).toInt ∧ (gI z_t 3).toInt ≤ 10 by first | omega | assumption | trivial)⟩
                  · skip
                    have c_238i : (gI z_p1 5).toInt ≠ 304 := bI_neq rfl (show (304 : Int32).toInt = 304 by decide) c_238
                    refine ok_ite (fun c_242 => ?_) (fun c_242 => ?_)
                    · skip
                      have c_242i : (gI z_p1 5).toInt = 313 := bI_eq rfl (show (313 : Int32).toInt = 313 by decide) c_242
                      refine ok_bd2 (t_fX7_readKind) (fun z17 z18 q_243 => ?_)
                      have h_244 : FrL [2, 5, 6, 7] z_t z17 := q_243.1
                      have h_245 : FrL [4, 5, 6, 7, 8] z10 z18 := q_243.2
                      clear q_243
                      have s_246 : (gI z17 3).toInt = (gI z_t 3).toInt := congrArg Int32.toInt (h_244 3 (by decide)).1
                      have s_247 : (gI z18 3).toInt = (gI z10 3).toInt := congrArg Int32.toInt (h_245 3 (by decide)).1
                      exact ok_some ⟨(fr_tr fr_rf h_244 (by decide)), (fr_tr (fr_tr fr_rf h_236 (by decide)) h_245 (by decide)), (show 0 ≤ (gI z17 3).toInt ∧ (gI z17 3).toInt ≤ 10 by first | omega | assumption | trivial)⟩
                    · skip
                      have c_242i : (gI z_p1 5).toInt ≠ 313 := bI_neq rfl (show (313 : Int32).toInt = 313 by decide) c_242
                      refine ok_bd2 (t_fX7_readFault (by first | omega | assumption | decide | (show 0 ≤ (gI z_t 3).toInt ∧ (gI z_t 3).toInt ≤ 9; first | omega | assumption))) (fun z14 z15 q_248 => ?_)
                      have h_249 : FrL [3, 8, 9, 10, 11, 12, 13, 14] z_t z14 := q_248.1
                      have h_250 : FrL [4, 5, 6, 7, 8] z10 z15 := q_248.2.1
                      have h_251 : (gI z14 3).toInt = (gI z_t 3).toInt + 1 := q_248.2.2
                      clear q_248
                      have s_252 : (gI z15 3).toInt = (gI z10 3).toInt := congrArg Int32.toInt (h_250 3 (by decide)).1
                      exact ok_some ⟨(fr_tr fr_rf h_249 (by decide)), (fr_tr (fr_tr fr_rf h_236 (by decide)) h_250 (by decide)), (show 0 ≤ (gI z14 3).toInt ∧ (gI z14 3).toInt ≤ 10 by first | omega | assumption | trivial)⟩
                · skip
                  have r_253 := n_rng x2
                  have c_233i : x2.toInt ≥ 24 := bI_nlt rfl (show (24 : Int32).toInt = 24 by decide) c_233
                  refine ok_bd (t_fX6_fail) (fun z6 q_254 => ?_)
                  have h_255 : FrL [8] z_p1 z6 := q_254
                  clear q_254
                  have s_256 : (gI z6 3).toInt = (gI z_p1 3).toInt := congrArg Int32.toInt (h_255 3 (by decide)).1
                  exact ok_some ⟨fr_rf, (fr_tr fr_rf h_255 (by decide)), (show 0 ≤ (gI z_t 3).toInt ∧ (gI z_t 3).toInt ≤ 10 by first | omega | assumption | trivial)⟩
              · skip
                exact absurd (by decide) c_232
            · skip
              have r_257 := n_rng (gI z_t 2)
              have c_230i : (gI z_t 2).toInt ≥ 6 := bI_nlt rfl (show (6 : Int32).toInt = 6 by decide) c_230
              refine ok_jn ?_
              refine ok_ite (fun c_258 => ?_) (fun c_258 => ?_)
              · skip
                exact absurd c_258 (by decide)
              · skip
                refine ok_bd (t_fX6_fail) (fun z6 q_259 => ?_)
                have h_260 : FrL [8] z_p1 z6 := q_259
                clear q_259
                have s_261 : (gI z6 3).toInt = (gI z_p1 3).toInt := congrArg Int32.toInt (h_260 3 (by decide)).1
                exact ok_some ⟨fr_rf, (fr_tr fr_rf h_260 (by decide)), (show 0 ≤ (gI z_t 3).toInt ∧ (gI z_t 3).toInt ≤ 10 by first | omega | assumption | trivial)⟩
          · skip
            have c_229i : (gI z_p1 5).toInt ≠ 313 := bI_neq rfl (show (313 : Int32).toInt = 313 by decide) c_229
            refine ok_ite (fun c_262 => ?_) (fun c_262 => ?_)
            · skip
              have r_263 := n_rng (gI z_t 3)
              have c_262i : (gI z_t 3).toInt < 10 := bI_lt rfl (show (10 : Int32).toInt = 10 by decide) c_262
              refine ok_jn ?_
              refine ok_ite (fun c_264 => ?_) (fun c_264 => ?_)
              · skip
                refine ok_ite (fun c_265 => ?_) (fun c_265 => ?_)
                · skip
                  have r_266 := n_rng x2
                  have c_265i : x2.toInt < 24 := bI_lt rfl (show (24 : Int32).toInt = 24 by decide) c_265
                  refine ok_bd (t_fX6_step) (fun z10 q_267 => ?_)
                  have h_268 : FrL [4, 5, 6, 7] z_p1 z10 := q_267
                  clear q_267
                  have s_269 : (gI z10 3).toInt = (gI z_p1 3).toInt := congrArg Int32.toInt (h_268 3 (by decide)).1
                  refine ok_ite (fun c_270 => ?_) (fun c_270 => ?_)
                  · skip
                    have c_270i : (gI z_p1 5).toInt = 304 := bI_eq rfl (show (304 : Int32).toInt = 304 by decide) c_270
                    refine ok_bd2 (t_fX6_takeNumber) (fun r20 z21 q_271 => ?_)
                    have h_272 : FrL [4, 5, 6, 7, 8] z10 z21 := q_271
                    clear q_271
                    have s_273 : (gI z21 3).toInt = (gI z10 3).toInt := congrArg Int32.toInt (h_272 3 (by decide)).1
                    exact ok_some ⟨(fr_I (fr_I fr_rf (by decide)) (by decide)), (fr_tr (fr_tr fr_rf h_268 (by decide)) h_272 (by decide)), (show 0 ≤ (gI z_t 3).toInt ∧ (gI z_t 3).toInt ≤ 10 by first | omega | assumption | trivial)⟩
                  · skip
                    have c_270i : (gI z_p1 5).toInt ≠ 304 := bI_neq rfl (show (304 : Int32).toInt = 304 by decide) c_270
                    refine ok_ite (fun c_274 => ?_) (fun c_274 => ?_)
                    · skip
                      have c_274i : (gI z_p1 5).toInt = 313 := bI_eq rfl (show (313 : Int32).toInt = 313 by decide) c_274
                      refine ok_bd2 (t_fX7_readKind) (fun z17 z18 q_275 => ?_)
                      have h_276 : FrL [2, 5, 6, 7] z_t z17 := q_275.1
                      have h_277 : FrL [4, 5, 6, 7, 8] z10 z18 := q_275.2
                      clear q_275
                      have s_278 : (gI z17 3).toInt = (gI z_t 3).toInt := congrArg Int32.toInt (h_276 3 (by decide)).1
                      have s_279 : (gI z18 3).toInt = (gI z10 3).toInt := congrArg Int32.toInt (h_277 3 (by decide)).1
                      exact ok_some ⟨(fr_tr fr_rf h_276 (by decide)), (fr_tr (fr_tr fr_rf h_268 (by decide)) h_277 (by decide)), (show 0 ≤ (gI z17 3).toInt ∧ (gI z17 3).toInt ≤ 10 by first | omega | assumption | trivial)⟩
                    · skip
                      have c_274i : (gI z_p1 5).toInt ≠ 313 := bI_neq rfl (show (313 : Int32).toInt = 313 by decide) c_274
                      refine ok_bd2 (t_fX7_readFault (by first | omega | assumption | decide | (show 0 ≤ (gI z_t 3).toInt ∧ (gI z_t 3).toInt ≤ 9; first | omega | assumption))) (fun z14 z15 q_280 => ?_)
                      have h_281 : FrL [3, 8, 9, 10, 11, 12, 13, 14] z_t z14 := q_280.1
                      have h_282 : FrL [4, 5, 6, 7, 8] z10 z15 := q_280.2.1
                      have h_283 : (gI z14 3).toInt = (gI z_t 3).toInt + 1 := q_280.2.2
                      clear q_280
                      have s_284 : (gI z15 3).toInt = (gI z10 3).toInt := congrArg Int32.toInt (h_282 3 (by decide)).1
                      exact ok_some ⟨(fr_tr fr_rf h_281 (by decide)), (fr_tr (fr_tr fr_rf h_268 (by decide)) h_282 (by decide)), (show 0 ≤ (gI z14 3).toInt ∧ (gI z14 3).toInt ≤ 10 by first | omega | assumption | trivial)⟩
                · skip
                  have r_285 := n_rng x2
                  have c_265i : x2.toInt ≥ 24 := bI_nlt rfl (show (24 : Int32).toInt = 24 by decide) c_265
                  refine ok_bd (t_fX6_fail) (fun z6 q_286 => ?_)
                  have h_287 : FrL [8] z_p1 z6 := q_286
                  clear q_286
                  have s_288 : (gI z6 3).toInt = (gI z_p1 3).toInt := congrArg Int32.toInt (h_287 3 (by decide)).1
                  exact ok_some ⟨fr_rf, (fr_tr fr_rf h_287 (by decide)), (show 0 ≤ (gI z_t 3).toInt ∧ (gI z_t 3).toInt ≤ 10 by first | omega | assumption | trivial)⟩
              · skip
                exact absurd (by decide) c_264
            · skip
              have r_289 := n_rng (gI z_t 3)
              have c_262i : (gI z_t 3).toInt ≥ 10 := bI_nlt rfl (show (10 : Int32).toInt = 10 by decide) c_262
              refine ok_jn ?_
              refine ok_ite (fun c_290 => ?_) (fun c_290 => ?_)
              · skip
                exact absurd c_290 (by decide)
              · skip
                refine ok_bd (t_fX6_fail) (fun z6 q_291 => ?_)
                have h_292 : FrL [8] z_p1 z6 := q_291
                clear q_291
                have s_293 : (gI z6 3).toInt = (gI z_p1 3).toInt := congrArg Int32.toInt (h_292 3 (by decide)).1
                exact ok_some ⟨fr_rf, (fr_tr fr_rf h_292 (by decide)), (show 0 ≤ (gI z_t 3).toInt ∧ (gI z_t 3).toInt ≤ 10 by first | omega | assumption | trivial)⟩
      · skip
        have c_197i : (gI z_p1 5).toInt ≠ 312 := bI_neq rfl (show (312 : Int32).toInt = 312 by decide) c_197
        refine ok_bd (t_fX6_fail) (fun z30 q_294 => ?_)
        have h_295 : FrL [8] z_p1 z30 := q_294
        clear q_294
        have s_296 : (gI z30 3).toInt = (gI z_p1 3).toInt := congrArg Int32.toInt (h_295 3 (by decide)).1
        exact ok_some ⟨fr_rf, (fr_tr fr_rf h_295 (by decide)), (show 0 ≤ (gI z_t 3).toInt ∧ (gI z_t 3).toInt ≤ 10 by first | omega | assumption | trivial)⟩

set_option maxHeartbeats 400000 in
set_option maxRecDepth 20000 in
theorem tl_lX7_readFrom_10 {o_z_t : Sx} {o_z_p1 : Sx} {k37 : Sx → Sx → Option (Sx × Sx)} (Hk37 : ∀ (y0 : Sx) (y1 : Sx), (FrL [1, 2, 3, 4, 5, 6, 7, 8, 9, 10, 11, 12, 13, 14, 15, 16, 17] o_z_t y0) → (FrL [4, 5, 6, 7, 8] o_z_p1 y1) → (0 ≤ (gI y0 3).toInt ∧ (gI y0 3).toInt ≤ 10) → okP (k37 y0 y1) (fun y => (FrL [1, 2, 3, 4, 5, 6, 7, 8, 9, 10, 11, 12, 13, 14, 15, 16, 17] o_z_t y.1) ∧ (FrL [4, 5, 6, 7, 8] o_z_p1 y.2) ∧ (0 ≤ (gI y.1 3).toInt ∧ (gI y.1 3).toInt ≤ 10))) : ∀ (n : Nat) (z_t : Sx) (z_p1 : Sx) (x2 : Int32) (x3 : Int32), (FrL [1, 2, 3, 4, 5, 6, 7, 8, 9, 10, 11, 12, 13, 14, 15, 16, 17] o_z_t z_t) → (FrL [4, 5, 6, 7, 8] o_z_p1 z_p1) → (0 ≤ (gI z_t 3).toInt ∧ (gI z_t 3).toInt ≤ 10) → (24 + 1 - x3.toInt).toNat < n → okP (lX7_readFrom_10 k37 n z_t z_p1 x2 x3) (fun y => (FrL [1, 2, 3, 4, 5, 6, 7, 8, 9, 10, 11, 12, 13, 14, 15, 16, 17] o_z_t y.1) ∧ (FrL [4, 5, 6, 7, 8] o_z_p1 y.2) ∧ (0 ≤ (gI y.1 3).toInt ∧ (gI y.1 3).toInt ≤ 10)) := by
  intro n
  induction n with
  | zero => intro _ _ _ _ _ _ _ hm; omega
  | succ n ih =>
    intro z_t z_p1 x2 x3 frz_t frz_p1 i3 hm
    rw [lX7_readFrom_10]
    refine ok_ite (fun c_1 => ?_) (fun c_1 => ?_)
    · skip
      have r_2 := n_rng x2
      have c_1i : x2.toInt = 0 := bI_eq rfl (show (0 : Int32).toInt = 0 by decide) c_1
      exact Hk37 z_t z_p1 frz_t frz_p1 (by first | omega | assumption | decide)
    · skip
      have r_3 := n_rng x2
      have c_1i : x2.toInt ≠ 0 := bI_neq rfl (show (0 : Int32).toInt = 0 by decide) c_1
      refine ok_ite (fun c_4 => ?_) (fun c_4 => ?_)
      · skip
        have r_5 := n_rng x3
        have c_4i : 24 < x3.toInt := bI_lt (show (24 : Int32).toInt = 24 by decide) rfl c_4
        exact Hk37 z_t z_p1 frz_t frz_p1 (by first | omega | assumption | decide)
      · skip
        have r_6 := n_rng x3
        have c_4i : 24 ≥ x3.toInt := bI_nlt (show (24 : Int32).toInt = 24 by decide) rfl c_4
        refine ok_bd2 (t_fX7_readClause (by first | omega | assumption | decide | (show 0 ≤ (gI z_t 3).toInt ∧ (gI z_t 3).toInt ≤ 10; first | omega | assumption))) (fun z4 z5 q_7 => ?_)
        have h_8 : FrL [1, 2, 3, 4, 5, 6, 7, 8, 9, 10, 11, 12, 13, 14] z_t z4 := q_7.1
        have h_9 : FrL [4, 5, 6, 7, 8] z_p1 z5 := q_7.2.1
        have h_10 : 0 ≤ (gI z4 3).toInt ∧ (gI z4 3).toInt ≤ 10 := q_7.2.2
        clear q_7
        have s_11 : (gI z5 3).toInt = (gI z_p1 3).toInt := congrArg Int32.toInt (h_9 3 (by decide)).1
        refine ok_bd2 (t_fX6_anotherClause) (fun r7 z8 q_12 => ?_)
        have h_13 : r7 = 0 ∨ r7 = 1 := q_12.1
        have h_13i := bool_i h_13
        have h_14 : FrL [4, 5, 6, 7, 8] z5 z8 := q_12.2
        clear q_12
        have s_15 : (gI z8 3).toInt = (gI z5 3).toInt := congrArg Int32.toInt (h_14 3 (by decide)).1
        try have e_16 : (x3 + 1).toInt = (x3.toInt + 1) := (i32_add rfl (show (1 : Int32).toInt = 1 by decide) (by omega) (by omega))
        exact ih z4 z8 r7 (x3 + 1) (fr_tr frz_t h_8 (by decide)) (fr_tr (fr_tr frz_p1 h_9 (by decide)) h_14 (by decide)) (show 0 ≤ (gI z4 3).toInt ∧ (gI z4 3).toInt ≤ 10 by first | omega | assumption | decide) (by omega)
set_option maxHeartbeats 400000 in
set_option maxRecDepth 20000 in
theorem t_fX7_readFrom {z_t : Sx} {z_p1 : Sx} (p3 : 0 ≤ (gI z_t 3).toInt ∧ (gI z_t 3).toInt ≤ 10) : okP (fX7_readFrom z_t z_p1) (fun y => (FrL [1, 2, 3, 4, 5, 6, 7, 8, 9, 10, 11, 12, 13, 14, 15, 16, 17] z_t y.1) ∧ (FrL [4, 5, 6, 7, 8] z_p1 y.2) ∧ (0 ≤ (gI y.1 3).toInt ∧ (gI y.1 3).toInt ≤ 10)) := by
  unfold fX7_readFrom
  try have e_4 : (1 : Int32).toInt = 1 := (show (1 : Int32).toInt = 1 by decide)
  try have e_5 : (0 : Int32).toInt = 0 := (show (0 : Int32).toInt = 0 by decide)
  refine tl_lX7_readFrom_10 (fun z9 z10 k_1 k_2 k_3 => ?_) FU (sI z_t 1 60) z_p1 1 0 (fr_I fr_rf (by decide)) fr_rf (show 0 ≤ (gI z_t 3).toInt ∧ (gI z_t 3).toInt ≤ 10 by first | omega | assumption | decide) (FU_lt (by omega))
  · skip
    refine ok_jn ?_
    refine ok_ite (fun c_6 => ?_) (fun c_6 => ?_)
    · skip
      have r_7 := n_rng (gI z9 3)
      have c_6i : (gI z9 3).toInt = 0 := bI_eq rfl (show (0 : Int32).toInt = 0 by decide) c_6
      refine ok_bd (t_fX6_fail) (fun z18 q_8 => ?_)
      have h_9 : FrL [8] z10 z18 := q_8
      clear q_8
      have s_10 : (gI z18 3).toInt = (gI z10 3).toInt := congrArg Int32.toInt (h_9 3 (by decide)).1
      refine ok_bd (t_fX7_orderLooks) (fun z15 q_11 => ?_)
      have h_12 : FrL [15, 16, 17] z9 z15 := q_11
      clear q_11
      have s_13 : (gI z15 3).toInt = (gI z9 3).toInt := congrArg Int32.toInt (h_12 3 (by decide)).1
      exact ok_some ⟨(fr_tr k_1 h_12 (by decide)), (fr_tr k_2 h_9 (by decide)), (show 0 ≤ (gI z15 3).toInt ∧ (gI z15 3).toInt ≤ 10 by first | omega | assumption | trivial)⟩
    · skip
      have r_14 := n_rng (gI z9 3)
      have c_6i : (gI z9 3).toInt ≠ 0 := bI_neq rfl (show (0 : Int32).toInt = 0 by decide) c_6
      refine ok_bd (t_fX7_orderLooks) (fun z15 q_15 => ?_)
      have h_16 : FrL [15, 16, 17] z9 z15 := q_15
      clear q_15
      have s_17 : (gI z15 3).toInt = (gI z9 3).toInt := congrArg Int32.toInt (h_16 3 (by decide)).1
      exact ok_some ⟨(fr_tr k_1 h_16 (by decide)), k_2, (show 0 ≤ (gI z15 3).toInt ∧ (gI z15 3).toInt ≤ 10 by first | omega | assumption | trivial)⟩

set_option maxHeartbeats 400000 in
set_option maxRecDepth 20000 in
theorem t_fX8_back_none {z_t : Sx} {B_t_6 : Nat → Option Nat} {x1 : Int32} : okP (fX8_back_none z_t B_t_6 x1) (fun _ => True) := by
  unfold fX8_back_none
  refine ok_ite (fun c_1 => ?_) (fun c_1 => ?_)
  · skip
    have r_2 := n_rng x1
    have c_1i : x1.toInt < 0 := bI_lt rfl (show (0 : Int32).toInt = 0 by decide) c_1
    exact ok_some trivial
  · skip
    have r_3 := n_rng x1
    have c_1i : x1.toInt ≥ 0 := bI_nlt rfl (show (0 : Int32).toInt = 0 by decide) c_1
    refine ok_ite (fun c_4 => ?_) (fun c_4 => ?_)
    · skip
      have c_4i : x1.toInt < 4 := bI_lt rfl (show (4 : Int32).toInt = 4 by decide) c_4
      refine ok_gd (inb_of (by omega) (by omega)) ?_
      exact ok_some trivial
    · skip
      have c_4i : x1.toInt ≥ 4 := bI_nlt rfl (show (4 : Int32).toInt = 4 by decide) c_4
      exact ok_some trivial

set_option maxHeartbeats 400000 in
set_option maxRecDepth 20000 in
theorem t_fX8_back_some {z_t : Sx} {z_t_5 : Sx} {z_t_5_1 : Sx} {B_t_6 : Nat → Option Nat} {z_R : Sx} {z_R_1 : Sx} {x1 : Int32} (p1 : 0 ≤ x1.toInt ∧ x1.toInt < 4) : okP (fX8_back_some z_t z_t_5 z_t_5_1 B_t_6 z_R z_R_1 x1) (fun y => (FrL [2, 3, 4, 5, 6, 7] z_t_5 y.2.1) ∧ (FrL [0, 1, 2, 3, 4, 5] z_t_5_1 y.2.2)) := by
  unfold fX8_back_some
  refine ok_ite (fun c_1 => ?_) (fun c_1 => ?_)
  · skip
    have r_2 := n_rng x1
    have c_1i : x1.toInt < 0 := bI_lt rfl (show (0 : Int32).toInt = 0 by decide) c_1
    exfalso; omega
  · skip
    have r_3 := n_rng x1
    have c_1i : x1.toInt ≥ 0 := bI_nlt rfl (show (0 : Int32).toInt = 0 by decide) c_1
    refine ok_ite (fun c_4 => ?_) (fun c_4 => ?_)
    · skip
      have c_4i : x1.toInt < 4 := bI_lt rfl (show (4 : Int32).toInt = 4 by decide) c_4
      refine ok_gd (inb_of (by omega) (by omega)) ?_
      refine ok_bd2 (t_fX5_copyFrom) (fun z5 z6 q_5 => ?_)
      have h_6 : FrL [2, 3, 4, 5, 6, 7] z_t_5 z5 := q_5.1
      have h_7 : FrL [0, 1, 2, 3, 4, 5] z_t_5_1 z6 := q_5.2
      clear q_5
      exact ok_some ⟨(fr_tr fr_rf h_6 (by decide)), (fr_tr fr_rf h_7 (by decide))⟩
    · skip
      have c_4i : x1.toInt ≥ 4 := bI_nlt rfl (show (4 : Int32).toInt = 4 by decide) c_4
      exfalso; omega

set_option maxHeartbeats 400000 in
set_option maxRecDepth 20000 in
theorem t_fX8_hasWork {z_t : Sx} {z_t_5 : Sx} {z_t_5_0 : Sx} : okP (fX8_hasWork z_t z_t_5 z_t_5_0) (fun y => (y = 0 ∨ y = 1)) := by
  unfold fX8_hasWork
  refine ok_ite (fun c_1 => ?_) (fun c_1 => ?_)
  · skip
    have r_2 := n_rng (gI z_t_5_0 3)
    have c_1i : (gI z_t_5_0 3).toInt ≤ 0 := bI_le rfl (show (0 : Int32).toInt = 0 by decide) c_1
    exact ok_some (Or.inl rfl)
  · skip
    have r_3 := n_rng (gI z_t_5_0 3)
    have c_1i : (gI z_t_5_0 3).toInt > 0 := bI_nle rfl (show (0 : Int32).toInt = 0 by decide) c_1
    exact ok_some (Or.inr rfl)

set_option maxHeartbeats 400000 in
set_option maxRecDepth 20000 in
theorem tl_lX8_partOf_12 {k47 : Int64 → Option (Int64)} {x0 : Int64} {x2 : Int64} {x4 : Int32} (Hk47 : ∀ (y0 : Int64), okP (k47 y0) (fun _ => True)) : ∀ (n : Nat) (x5 : Int64) (x7 : Int64) (x9 : Int32), (100 + 0 - x9.toInt).toNat < n → okP (lX8_partOf_12 k47 x0 x2 x4 n x5 x7 x9) (fun _ => True) := by
  intro n
  induction n with
  | zero => intro _ _ _ hm; omega
  | succ n ih =>
    intro x5 x7 x9 hm
    rw [lX8_partOf_12]
    refine ok_ite (fun c_1 => ?_) (fun c_1 => ?_)
    · skip
      have r_2 := n_rng x9
      have c_1i : 100 ≤ x9.toInt := bI_le (show (100 : Int32).toInt = 100 by decide) rfl c_1
      exact Hk47 x5 
    · skip
      have r_3 := n_rng x9
      have c_1i : 100 > x9.toInt := bI_nle (show (100 : Int32).toInt = 100 by decide) rfl c_1
      refine ok_ite (fun c_4 => ?_) (fun c_4 => ?_)
      · skip
        have c_4i : x7.toInt = 0 := lI_eq rfl (show (0 : Int64).toInt = 0 by decide) c_4
        exact Hk47 x5 
      · skip
        have c_4i : x7.toInt ≠ 0 := lI_neq rfl (show (0 : Int64).toInt = 0 by decide) c_4
        refine ok_gd (by assumption) ?_
        try have e_5 : (x9 + 1).toInt = (x9.toInt + 1) := (i32_add rfl (show (1 : Int32).toInt = 1 by decide) (by omega) (by omega))
        exact ih x7 (x5 - ((x5 / x7) * x7)) (x9 + 1)  (by omega)
set_option maxHeartbeats 400000 in
set_option maxRecDepth 20000 in
theorem t_fX8_partOf {x0 : Int64} {x2 : Int64} {x4 : Int32} : okP (fX8_partOf x0 x2 x4) (fun _ => True) := by
  unfold fX8_partOf
  try have e_1 : (0 : Int32).toInt = 0 := (show (0 : Int32).toInt = 0 by decide)
  refine tl_lX8_partOf_12 (fun i4 => ?_) FU (abL x0) x2 0  (FU_lt (by omega))
  · skip
    refine ok_ite (fun c_2 => ?_) (fun c_2 => ?_)
    · skip
      have c_2i : i4.toInt = 0 := lI_eq rfl (show (0 : Int64).toInt = 0 by decide) c_2
      refine ok_ite (fun c_3 => ?_) (fun c_3 => ?_)
      · skip
        have r_4 := n_rng x4
        have c_3i : x4.toInt = 0 := bI_eq rfl (show (0 : Int32).toInt = 0 by decide) c_3
        exact ok_some trivial
      · skip
        have r_5 := n_rng x4
        have c_3i : x4.toInt ≠ 0 := bI_neq rfl (show (0 : Int32).toInt = 0 by decide) c_3
        exact ok_some trivial
    · skip
      have c_2i : i4.toInt ≠ 0 := lI_neq rfl (show (0 : Int64).toInt = 0 by decide) c_2
      refine ok_jn ?_
      refine ok_ite (fun c_6 => ?_) (fun c_6 => ?_)
      · skip
        have r_7 := n_rng x4
        have c_6i : x4.toInt = 0 := bI_eq rfl (show (0 : Int32).toInt = 0 by decide) c_6
        refine ok_gd (by assumption) ?_
        exact ok_some trivial
      · skip
        have r_8 := n_rng x4
        have c_6i : x4.toInt ≠ 0 := bI_neq rfl (show (0 : Int32).toInt = 0 by decide) c_6
        refine ok_gd (by assumption) ?_
        exact ok_some trivial

set_option maxHeartbeats 400000 in
set_option maxRecDepth 20000 in
theorem t_fX8_best {z_t : Sx} {z_t_5 : Sx} {z_t_5_0 : Sx} {z_t_5_1 : Sx} {z_t_10 : Sx} {x1 : Int32} {x2 : Int32} : okP (fX8_best z_t z_t_5 z_t_5_0 z_t_5_1 z_t_10 x1 x2) (fun y => (FrL [0, 1] z_t_10 y.2)) := by
  unfold fX8_best
  refine ok_bd (t_fX8_hasWork) (fun r2 q_1 => ?_)
  have h_2 : r2 = 0 ∨ r2 = 1 := q_1
  have h_2i := bool_i h_2
  clear q_1
  refine ok_ite (fun c_3 => ?_) (fun c_3 => ?_)
  · skip
    have r_4 := n_rng r2
    have c_3i : r2.toInt = 0 := bI_eq rfl (show (0 : Int32).toInt = 0 by decide) c_3
    exact ok_some fr_rf
  · skip
    have r_5 := n_rng r2
    have c_3i : r2.toInt ≠ 0 := bI_neq rfl (show (0 : Int32).toInt = 0 by decide) c_3
    refine ok_ite (fun c_6 => ?_) (fun c_6 => ?_)
    · skip
      have r_7 := n_rng x1
      have c_6i : x1.toInt < 0 := bI_lt rfl (show (0 : Int32).toInt = 0 by decide) c_6
      exact ok_some fr_rf
    · skip
      have r_8 := n_rng x1
      have c_6i : x1.toInt ≥ 0 := bI_nlt rfl (show (0 : Int32).toInt = 0 by decide) c_6
      refine ok_ite (fun c_9 => ?_) (fun c_9 => ?_)
      · skip
        have c_9i : 5 < x1.toInt := bI_lt (show (5 : Int32).toInt = 5 by decide) rfl c_9
        exact ok_some fr_rf
      · skip
        have c_9i : 5 ≥ x1.toInt := bI_nlt (show (5 : Int32).toInt = 5 by decide) rfl c_9
        refine ok_ite (fun c_10 => ?_) (fun c_10 => ?_)
        · skip
          have r_11 := n_rng x2
          have c_10i : x2.toInt < 0 := bI_lt rfl (show (0 : Int32).toInt = 0 by decide) c_10
          exact ok_some fr_rf
        · skip
          have r_12 := n_rng x2
          have c_10i : x2.toInt ≥ 0 := bI_nlt rfl (show (0 : Int32).toInt = 0 by decide) c_10
          refine ok_ite (fun c_13 => ?_) (fun c_13 => ?_)
          · skip
            have c_13i : x2.toInt ≤ 2 := bI_le rfl (show (2 : Int32).toInt = 2 by decide) c_13
            refine ok_bd (t_fX0_gone) (fun r9 q_14 => ?_)
            refine ok_ite (fun c_15 => ?_) (fun c_15 => ?_)
            · skip
              have c_15i : x2.toInt = 2 := bI_eq rfl (show (2 : Int32).toInt = 2 by decide) c_15
              refine ok_bd2 (t_fX1_choice (by first | omega | assumption | decide | (show 0 ≤ x1.toInt ∧ x1.toInt ≤ 16; first | omega | assumption))) (fun r19 z20 q_16 => ?_)
              have h_17 : FrL [0, 1] z_t_10 z20 := q_16.1
              have h_18 : 0 ≤ r19.toInt → 0 < x1.toInt := q_16.2
              clear q_16
              exact ok_some (fr_tr fr_rf h_17 (by decide))
            · skip
              have c_15i : x2.toInt ≠ 2 := bI_neq rfl (show (2 : Int32).toInt = 2 by decide) c_15
              refine ok_bd2 (t_fX1_mostEarned _ _ _ _ _ _ (by first | omega | assumption | decide | (show 1 ≤ d ∧ x1.toInt ≤ d; first | omega | assumption))) (fun r12 z13 q_19 => ?_)
              have h_20 : FrL [0, 1] z_t_10 z13 := q_19.1
              have h_21 : x1.toInt ≤ 0 → r12.toInt = 0 := q_19.2
              clear q_19
              refine ok_bd (t_fX8_hundreds) (fun r15 q_22 => ?_)
              refine ok_bd (t_fX8_partOf) (fun r17 q_23 => ?_)
              exact ok_some (fr_tr fr_rf h_20 (by decide))
          · skip
            have c_13i : x2.toInt > 2 := bI_nle rfl (show (2 : Int32).toInt = 2 by decide) c_13
            exact ok_some fr_rf

set_option maxHeartbeats 400000 in
set_option maxRecDepth 20000 in
theorem tl_lX8_checks_26 {x1 : Int32} {x2 : Int32} : ∀ (n : Nat) (x3 : Int32), (100 + 0 - x3.toInt).toNat < n → okP (lX8_checks_26 x1 x2 n x3) (fun _ => True) := by
  intro n
  induction n with
  | zero => intro _ hm; omega
  | succ n ih =>
    intro x3 hm
    rw [lX8_checks_26]
    refine ok_ite (fun c_1 => ?_) (fun c_1 => ?_)
    · skip
      have r_2 := n_rng x3
      have c_1i : 100 ≤ x3.toInt := bI_le (show (100 : Int32).toInt = 100 by decide) rfl c_1
      exact ok_some trivial
    · skip
      have r_3 := n_rng x3
      have c_1i : 100 > x3.toInt := bI_nle (show (100 : Int32).toInt = 100 by decide) rfl c_1
      refine ok_ite (fun c_4 => ?_) (fun c_4 => ?_)
      · skip
        have r_5 := n_rng (x1 * (100 - x3))
        have r_6 := n_rng (x2 * x3)
        have c_4i : (x1 * (100 - x3)).toInt ≤ (x2 * x3).toInt := bI_le rfl rfl c_4
        exact ok_some trivial
      · skip
        have r_7 := n_rng (x1 * (100 - x3))
        have r_8 := n_rng (x2 * x3)
        have c_4i : (x1 * (100 - x3)).toInt > (x2 * x3).toInt := bI_nle rfl rfl c_4
        try have e_9 : (x3 + 1).toInt = (x3.toInt + 1) := (i32_add rfl (show (1 : Int32).toInt = 1 by decide) (by omega) (by omega))
        exact ih (x3 + 1)  (by omega)
set_option maxHeartbeats 400000 in
set_option maxRecDepth 20000 in
theorem t_fX8_checks {x1 : Int32} {x2 : Int32} : okP (fX8_checks x1 x2) (fun _ => True) := by
  unfold fX8_checks
  refine ok_ite (fun c_1 => ?_) (fun c_1 => ?_)
  · skip
    have r_2 := n_rng x1
    have c_1i : x1.toInt < 0 := bI_lt rfl (show (0 : Int32).toInt = 0 by decide) c_1
    exact ok_some trivial
  · skip
    have r_3 := n_rng x1
    have c_1i : x1.toInt ≥ 0 := bI_nlt rfl (show (0 : Int32).toInt = 0 by decide) c_1
    refine ok_ite (fun c_4 => ?_) (fun c_4 => ?_)
    · skip
      have c_4i : 9999 < x1.toInt := bI_lt (show (9999 : Int32).toInt = 9999 by decide) rfl c_4
      exact ok_some trivial
    · skip
      have c_4i : 9999 ≥ x1.toInt := bI_nlt (show (9999 : Int32).toInt = 9999 by decide) rfl c_4
      refine ok_ite (fun c_5 => ?_) (fun c_5 => ?_)
      · skip
        have r_6 := n_rng x2
        have c_5i : x2.toInt < 0 := bI_lt rfl (show (0 : Int32).toInt = 0 by decide) c_5
        exact ok_some trivial
      · skip
        have r_7 := n_rng x2
        have c_5i : x2.toInt ≥ 0 := bI_nlt rfl (show (0 : Int32).toInt = 0 by decide) c_5
        refine ok_ite (fun c_8 => ?_) (fun c_8 => ?_)
        · skip
          have c_8i : x2.toInt ≤ 9999 := bI_le rfl (show (9999 : Int32).toInt = 9999 by decide) c_8
          try have e_9 : (0 : Int32).toInt = 0 := (show (0 : Int32).toInt = 0 by decide)
          refine tl_lX8_checks_26  FU 0  (FU_lt (by omega))
        · skip
          have c_8i : x2.toInt > 9999 := bI_nle rfl (show (9999 : Int32).toInt = 9999 by decide) c_8
          exact ok_some trivial

set_option maxHeartbeats 400000 in
set_option maxRecDepth 20000 in
theorem t_fX8_coins {z_t : Sx} {z_t_5 : Sx} {z_t_5_1 : Sx} {x1 : Int32} : okP (fX8_coins z_t z_t_5 z_t_5_1 x1) (fun _ => True) := by
  unfold fX8_coins
  refine ok_ite (fun c_1 => ?_) (fun c_1 => ?_)
  · skip
    have r_2 := n_rng x1
    have c_1i : x1.toInt = 0 := bI_eq rfl (show (0 : Int32).toInt = 0 by decide) c_1
    exact ok_some trivial
  · skip
    have r_3 := n_rng x1
    have c_1i : x1.toInt ≠ 0 := bI_neq rfl (show (0 : Int32).toInt = 0 by decide) c_1
    refine ok_ite (fun c_4 => ?_) (fun c_4 => ?_)
    · skip
      have c_4i : x1.toInt = 1 := bI_eq rfl (show (1 : Int32).toInt = 1 by decide) c_4
      exact ok_some trivial
    · skip
      have c_4i : x1.toInt ≠ 1 := bI_neq rfl (show (1 : Int32).toInt = 1 by decide) c_4
      refine ok_ite (fun c_5 => ?_) (fun c_5 => ?_)
      · skip
        have c_5i : x1.toInt = 2 := bI_eq rfl (show (2 : Int32).toInt = 2 by decide) c_5
        exact ok_some trivial
      · skip
        have c_5i : x1.toInt ≠ 2 := bI_neq rfl (show (2 : Int32).toInt = 2 by decide) c_5
        exact ok_some trivial

set_option maxHeartbeats 400000 in
set_option maxRecDepth 20000 in
theorem t_fX8_count {z_t : Sx} {z_t_5 : Sx} {z_t_5_0 : Sx} {z_t_5_1 : Sx} {x1 : Int32} : okP (fX8_count z_t z_t_5 z_t_5_0 z_t_5_1 x1) (fun _ => True) := by
  unfold fX8_count
  refine ok_ite (fun c_1 => ?_) (fun c_1 => ?_)
  · skip
    have r_2 := n_rng x1
    have c_1i : x1.toInt = 0 := bI_eq rfl (show (0 : Int32).toInt = 0 by decide) c_1
    exact ok_some trivial
  · skip
    have r_3 := n_rng x1
    have c_1i : x1.toInt ≠ 0 := bI_neq rfl (show (0 : Int32).toInt = 0 by decide) c_1
    refine ok_ite (fun c_4 => ?_) (fun c_4 => ?_)
    · skip
      have c_4i : x1.toInt = 1 := bI_eq rfl (show (1 : Int32).toInt = 1 by decide) c_4
      exact ok_some trivial
    · skip
      have c_4i : x1.toInt ≠ 1 := bI_neq rfl (show (1 : Int32).toInt = 1 by decide) c_4
      refine ok_ite (fun c_5 => ?_) (fun c_5 => ?_)
      · skip
        have c_5i : x1.toInt = 2 := bI_eq rfl (show (2 : Int32).toInt = 2 by decide) c_5
        exact ok_some trivial
      · skip
        have c_5i : x1.toInt ≠ 2 := bI_neq rfl (show (2 : Int32).toInt = 2 by decide) c_5
        refine ok_ite (fun c_6 => ?_) (fun c_6 => ?_)
        · skip
          have c_6i : x1.toInt = 3 := bI_eq rfl (show (3 : Int32).toInt = 3 by decide) c_6
          exact ok_some trivial
        · skip
          have c_6i : x1.toInt ≠ 3 := bI_neq rfl (show (3 : Int32).toInt = 3 by decide) c_6
          refine ok_ite (fun c_7 => ?_) (fun c_7 => ?_)
          · skip
            have c_7i : x1.toInt = 4 := bI_eq rfl (show (4 : Int32).toInt = 4 by decide) c_7
            refine ok_bd (t_fJ6_bitCount_0f7a4) (fun r3 q_8 => ?_)
            exact ok_some trivial
          · skip
            have c_7i : x1.toInt ≠ 4 := bI_neq rfl (show (4 : Int32).toInt = 4 by decide) c_7
            refine ok_ite (fun c_9 => ?_) (fun c_9 => ?_)
            · skip
              have c_9i : x1.toInt = 5 := bI_eq rfl (show (5 : Int32).toInt = 5 by decide) c_9
              refine ok_bd (t_fJ6_bitCount_0f7a4) (fun r5 q_10 => ?_)
              exact ok_some trivial
            · skip
              have c_9i : x1.toInt ≠ 5 := bI_neq rfl (show (5 : Int32).toInt = 5 by decide) c_9
              refine ok_ite (fun c_11 => ?_) (fun c_11 => ?_)
              · skip
                have c_11i : x1.toInt = 6 := bI_eq rfl (show (6 : Int32).toInt = 6 by decide) c_11
                exact ok_some trivial
              · skip
                have c_11i : x1.toInt ≠ 6 := bI_neq rfl (show (6 : Int32).toInt = 6 by decide) c_11
                refine ok_ite (fun c_12 => ?_) (fun c_12 => ?_)
                · skip
                  have c_12i : x1.toInt = 7 := bI_eq rfl (show (7 : Int32).toInt = 7 by decide) c_12
                  exact ok_some trivial
                · skip
                  have c_12i : x1.toInt ≠ 7 := bI_neq rfl (show (7 : Int32).toInt = 7 by decide) c_12
                  refine ok_ite (fun c_13 => ?_) (fun c_13 => ?_)
                  · skip
                    have c_13i : x1.toInt = 8 := bI_eq rfl (show (8 : Int32).toInt = 8 by decide) c_13
                    exact ok_some trivial
                  · skip
                    have c_13i : x1.toInt ≠ 8 := bI_neq rfl (show (8 : Int32).toInt = 8 by decide) c_13
                    refine ok_ite (fun c_14 => ?_) (fun c_14 => ?_)
                    · skip
                      have c_14i : x1.toInt = 9 := bI_eq rfl (show (9 : Int32).toInt = 9 by decide) c_14
                      exact ok_some trivial
                    · skip
                      have c_14i : x1.toInt ≠ 9 := bI_neq rfl (show (9 : Int32).toInt = 9 by decide) c_14
                      refine ok_ite (fun c_15 => ?_) (fun c_15 => ?_)
                      · skip
                        have c_15i : x1.toInt = 10 := bI_eq rfl (show (10 : Int32).toInt = 10 by decide) c_15
                        exact ok_some trivial
                      · skip
                        have c_15i : x1.toInt ≠ 10 := bI_neq rfl (show (10 : Int32).toInt = 10 by decide) c_15
                        exact ok_some trivial

set_option maxHeartbeats 400000 in
set_option maxRecDepth 20000 in
theorem t_fX8_dawn {z_t : Sx} {z_t_5 : Sx} {z_t_5_0 : Sx} {z_t_5_1 : Sx} : okP (fX8_dawn z_t z_t_5 z_t_5_0 z_t_5_1) (fun y => (FrL [2, 3, 4] z_t_5 y.2.1) ∧ (FrL [0, 1, 2, 5] z_t_5_1 y.2.2)) := by
  unfold fX8_dawn
  refine ok_bd (t_fX8_hasWork) (fun r2 q_1 => ?_)
  have h_2 : r2 = 0 ∨ r2 = 1 := q_1
  have h_2i := bool_i h_2
  clear q_1
  refine ok_ite (fun c_3 => ?_) (fun c_3 => ?_)
  · skip
    have r_4 := n_rng r2
    have c_3i : r2.toInt = 0 := bI_eq rfl (show (0 : Int32).toInt = 0 by decide) c_3
    exact ok_some ⟨fr_rf, fr_rf⟩
  · skip
    have r_5 := n_rng r2
    have c_3i : r2.toInt ≠ 0 := bI_neq rfl (show (0 : Int32).toInt = 0 by decide) c_3
    refine ok_bd (t_fX0_gone) (fun r5 q_6 => ?_)
    refine ok_bd (t_fX7_hiddenCoins) (fun r7 q_7 => ?_)
    refine ok_bd (t_fX0_begin) (fun z9 q_8 => ?_)
    have h_9 : FrL [0, 1, 2, 5] z_t_5_1 z9 := q_8
    clear q_8
    exact ok_some ⟨(fr_I (fr_I (fr_I fr_rf (by decide)) (by decide)) (by decide)), (fr_tr fr_rf h_9 (by decide))⟩

set_option maxHeartbeats 400000 in
set_option maxRecDepth 20000 in
theorem t_fX8_ruleForWork {z_t : Sx} {B_t_2 : Nat → Option Nat} {z_t_5 : Sx} {z_t_5_0 : Sx} {x1 : Int32} : okP (fX8_ruleForWork z_t B_t_2 z_t_5 z_t_5_0 x1) (fun _ => True) := by
  unfold fX8_ruleForWork
  refine ok_jn ?_
  refine ok_jn ?_
  refine ok_ite (fun c_1 => ?_) (fun c_1 => ?_)
  · skip
    have r_2 := n_rng x1
    have c_1i : x1.toInt < 0 := bI_lt rfl (show (0 : Int32).toInt = 0 by decide) c_1
    refine ok_ite (fun c_3 => ?_) (fun c_3 => ?_)
    · skip
      exact ok_some trivial
    · skip
      exact absurd (by decide) c_3
  · skip
    have r_4 := n_rng x1
    have c_1i : x1.toInt ≥ 0 := bI_nlt rfl (show (0 : Int32).toInt = 0 by decide) c_1
    refine ok_ite (fun c_5 => ?_) (fun c_5 => ?_)
    · skip
      have r_6 := n_rng (gI z_t 3)
      have c_5i : (gI z_t 3).toInt ≤ x1.toInt := bI_le rfl rfl c_5
      refine ok_ite (fun c_7 => ?_) (fun c_7 => ?_)
      · skip
        exact ok_some trivial
      · skip
        exact absurd (by decide) c_7
    · skip
      have r_8 := n_rng (gI z_t 3)
      have c_5i : (gI z_t 3).toInt > x1.toInt := bI_nle rfl rfl c_5
      refine ok_ite (fun c_9 => ?_) (fun c_9 => ?_)
      · skip
        have c_9i : 6 ≤ x1.toInt := bI_le (show (6 : Int32).toInt = 6 by decide) rfl c_9
        refine ok_ite (fun c_10 => ?_) (fun c_10 => ?_)
        · skip
          exact ok_some trivial
        · skip
          exact absurd (by decide) c_10
      · skip
        have c_9i : 6 > x1.toInt := bI_nle (show (6 : Int32).toInt = 6 by decide) rfl c_9
        refine ok_bd (t_fX8_hasWork) (fun r10 q_11 => ?_)
        have h_12 : r10 = 0 ∨ r10 = 1 := q_11
        have h_12i := bool_i h_12
        clear q_11
        refine ok_ite (fun c_13 => ?_) (fun c_13 => ?_)
        · skip
          have r_14 := n_rng r10
          have c_13i : r10.toInt = 0 := bI_eq rfl (show (0 : Int32).toInt = 0 by decide) c_13
          refine ok_ite (fun c_15 => ?_) (fun c_15 => ?_)
          · skip
            exact ok_some trivial
          · skip
            exact absurd (by decide) c_15
        · skip
          have r_16 := n_rng r10
          have c_13i : r10.toInt ≠ 0 := bI_neq rfl (show (0 : Int32).toInt = 0 by decide) c_13
          refine ok_ite (fun c_17 => ?_) (fun c_17 => ?_)
          · skip
            exact absurd c_17 (by decide)
          · skip
            refine ok_gd (inb_of (by omega) (by omega)) ?_
            exact ok_some trivial

set_option maxHeartbeats 400000 in
set_option maxRecDepth 20000 in
theorem t_fX8_day_none {z_t : Sx} {B_t_2 : Nat → Option Nat} {z_t_5 : Sx} {z_t_5_0 : Sx} {x1 : Int32} : okP (fX8_day_none z_t B_t_2 z_t_5 z_t_5_0 x1) (fun _ => True) := by
  unfold fX8_day_none
  refine ok_bd (t_fX8_ruleForWork) (fun r2 q_1 => ?_)
  exact ok_some trivial

set_option maxHeartbeats 400000 in
set_option maxRecDepth 20000 in
theorem t_fX8_day_some {z_t : Sx} {B_t_2 : Nat → Option Nat} {z_t_5 : Sx} {z_t_5_0 : Sx} {z_t_5_1 : Sx} {z_t_9 : Sx} {nc_R : Nat} {z_R : Sx} {x1 : Int32} (hnnc_R : nc_R < 2147483648) : okP (fX8_day_some z_t B_t_2 z_t_5 z_t_5_0 z_t_5_1 z_t_9 nc_R z_R x1) (fun y => (FrL [0, 1, 2, 4, 5] z_t_5_1 y.2.1) ∧ (FrL [0] z_t_9 y.2.2)) := by
  unfold fX8_day_some
  refine ok_bd (t_fX8_ruleForWork) (fun r2 q_1 => ?_)
  refine ok_bd3 (t_fX2_play (by first | omega | assumption | decide | (show nc_R < 2147483648; first | omega | assumption))) (fun r4 z5 z6 q_2 => ?_)
  have h_3 : FrL [0] z_t_9 z5 := q_2.1
  have h_4 : FrL [0, 1, 2, 4, 5] z_t_5_1 z6 := q_2.2
  clear q_2
  exact ok_some ⟨(fr_tr fr_rf h_4 (by decide)), (fr_tr fr_rf h_3 (by decide))⟩

set_option maxHeartbeats 400000 in
set_option maxRecDepth 20000 in
theorem t_fX8_end {z_t : Sx} {x1 : Int32} : okP (fX8_end z_t x1) (fun y => (FrL [1] z_t y.2)) := by
  unfold fX8_end
  refine ok_ite (fun c_1 => ?_) (fun c_1 => ?_)
  · skip
    have r_2 := n_rng x1
    have c_1i : x1.toInt < 0 := bI_lt rfl (show (0 : Int32).toInt = 0 by decide) c_1
    exact ok_some fr_rf
  · skip
    have r_3 := n_rng x1
    have c_1i : x1.toInt ≥ 0 := bI_nlt rfl (show (0 : Int32).toInt = 0 by decide) c_1
    refine ok_ite (fun c_4 => ?_) (fun c_4 => ?_)
    · skip
      have r_5 := n_rng (gI z_t 1)
      have c_4i : x1.toInt ≤ (gI z_t 1).toInt := bI_le rfl rfl c_4
      exact ok_some (fr_I fr_rf (by decide))
    · skip
      have r_6 := n_rng (gI z_t 1)
      have c_4i : x1.toInt > (gI z_t 1).toInt := bI_nle rfl rfl c_4
      exact ok_some fr_rf

set_option maxHeartbeats 400000 in
set_option maxRecDepth 20000 in
theorem t_fX8_isFault {z_t : Sx} {z_t_5 : Sx} {z_t_5_0 : Sx} {x1 : Int32} : okP (fX8_isFault z_t z_t_5 z_t_5_0 x1) (fun y => (y = 0 ∨ y = 1)) := by
  unfold fX8_isFault
  refine ok_ite (fun c_1 => ?_) (fun c_1 => ?_)
  · skip
    have r_2 := n_rng x1
    have c_1i : x1.toInt < 0 := bI_lt rfl (show (0 : Int32).toInt = 0 by decide) c_1
    exact ok_some (Or.inl rfl)
  · skip
    have r_3 := n_rng x1
    have c_1i : x1.toInt ≥ 0 := bI_nlt rfl (show (0 : Int32).toInt = 0 by decide) c_1
    refine ok_ite (fun c_4 => ?_) (fun c_4 => ?_)
    · skip
      have r_5 := n_rng (gI z_t_5_0 3)
      have c_4i : (gI z_t_5_0 3).toInt ≤ x1.toInt := bI_le rfl rfl c_4
      exact ok_some (Or.inl rfl)
    · skip
      have r_6 := n_rng (gI z_t_5_0 3)
      have c_4i : (gI z_t_5_0 3).toInt > x1.toInt := bI_nle rfl rfl c_4
      exact ok_some (Or.inr rfl)

set_option maxHeartbeats 400000 in
set_option maxRecDepth 20000 in
theorem t_fX8_fault {z_t : Sx} {z_t_5 : Sx} {z_t_5_0 : Sx} {z_t_5_1 : Sx} {x1 : Int32} {x2 : Int32} : okP (fX8_fault z_t z_t_5 z_t_5_0 z_t_5_1 x1 x2) (fun _ => True) := by
  unfold fX8_fault
  refine ok_bd (t_fX8_isFault) (fun r2 q_1 => ?_)
  have h_2 : r2 = 0 ∨ r2 = 1 := q_1
  have h_2i := bool_i h_2
  clear q_1
  refine ok_ite (fun c_3 => ?_) (fun c_3 => ?_)
  · skip
    have r_4 := n_rng r2
    have c_3i : r2.toInt = 0 := bI_eq rfl (show (0 : Int32).toInt = 0 by decide) c_3
    exact ok_some trivial
  · skip
    have r_5 := n_rng r2
    have c_3i : r2.toInt ≠ 0 := bI_neq rfl (show (0 : Int32).toInt = 0 by decide) c_3
    refine ok_ite (fun c_6 => ?_) (fun c_6 => ?_)
    · skip
      have r_7 := n_rng x2
      have c_6i : x2.toInt = 0 := bI_eq rfl (show (0 : Int32).toInt = 0 by decide) c_6
      refine ok_bd (t_fX8_at (by first | omega | assumption | decide | (show (10 : Nat) < 2147483648; first | omega | assumption))) (fun r6 q_8 => ?_)
      exact ok_some trivial
    · skip
      have r_9 := n_rng x2
      have c_6i : x2.toInt ≠ 0 := bI_neq rfl (show (0 : Int32).toInt = 0 by decide) c_6
      refine ok_ite (fun c_10 => ?_) (fun c_10 => ?_)
      · skip
        have c_10i : x2.toInt = 1 := bI_eq rfl (show (1 : Int32).toInt = 1 by decide) c_10
        refine ok_bd (t_fX8_at (by first | omega | assumption | decide | (show (10 : Nat) < 2147483648; first | omega | assumption))) (fun r8 q_11 => ?_)
        exact ok_some trivial
      · skip
        have c_10i : x2.toInt ≠ 1 := bI_neq rfl (show (1 : Int32).toInt = 1 by decide) c_10
        refine ok_ite (fun c_12 => ?_) (fun c_12 => ?_)
        · skip
          have c_12i : x2.toInt = 2 := bI_eq rfl (show (2 : Int32).toInt = 2 by decide) c_12
          refine ok_bd (t_fX8_at (by first | omega | assumption | decide | (show (10 : Nat) < 2147483648; first | omega | assumption))) (fun r10 q_13 => ?_)
          exact ok_some trivial
        · skip
          have c_12i : x2.toInt ≠ 2 := bI_neq rfl (show (2 : Int32).toInt = 2 by decide) c_12
          refine ok_ite (fun c_14 => ?_) (fun c_14 => ?_)
          · skip
            have c_14i : x2.toInt = 3 := bI_eq rfl (show (3 : Int32).toInt = 3 by decide) c_14
            refine ok_bd (t_fX8_at (by first | omega | assumption | decide | (show (10 : Nat) < 2147483648; first | omega | assumption))) (fun r12 q_15 => ?_)
            exact ok_some trivial
          · skip
            have c_14i : x2.toInt ≠ 3 := bI_neq rfl (show (3 : Int32).toInt = 3 by decide) c_14
            refine ok_ite (fun c_16 => ?_) (fun c_16 => ?_)
            · skip
              have c_16i : x2.toInt = 4 := bI_eq rfl (show (4 : Int32).toInt = 4 by decide) c_16
              refine ok_bd (t_fX8_has) (fun r14 q_17 => ?_)
              have h_18 : r14 = 0 ∨ r14 = 1 := q_17
              have h_18i := bool_i h_18
              clear q_17
              refine ok_ite (fun c_19 => ?_) (fun c_19 => ?_)
              · skip
                have r_20 := n_rng r14
                have c_19i : r14.toInt = 0 := bI_eq rfl (show (0 : Int32).toInt = 0 by decide) c_19
                refine ok_bd (t_fX8_has) (fun r17 q_21 => ?_)
                have h_22 : r17 = 0 ∨ r17 = 1 := q_21
                have h_22i := bool_i h_22
                clear q_21
                refine ok_ite (fun c_23 => ?_) (fun c_23 => ?_)
                · skip
                  have r_24 := n_rng r17
                  have c_23i : r17.toInt = 0 := bI_eq rfl (show (0 : Int32).toInt = 0 by decide) c_23
                  exact ok_some trivial
                · skip
                  have r_25 := n_rng r17
                  have c_23i : r17.toInt ≠ 0 := bI_neq rfl (show (0 : Int32).toInt = 0 by decide) c_23
                  exact ok_some trivial
              · skip
                have r_26 := n_rng r14
                have c_19i : r14.toInt ≠ 0 := bI_neq rfl (show (0 : Int32).toInt = 0 by decide) c_19
                exact ok_some trivial
            · skip
              have c_16i : x2.toInt ≠ 4 := bI_neq rfl (show (4 : Int32).toInt = 4 by decide) c_16
              refine ok_ite (fun c_27 => ?_) (fun c_27 => ?_)
              · skip
                have c_27i : x2.toInt = 5 := bI_eq rfl (show (5 : Int32).toInt = 5 by decide) c_27
                refine ok_bd (t_fX8_at (by first | omega | assumption | decide | (show (10 : Nat) < 2147483648; first | omega | assumption))) (fun r20 q_28 => ?_)
                exact ok_some trivial
              · skip
                have c_27i : x2.toInt ≠ 5 := bI_neq rfl (show (5 : Int32).toInt = 5 by decide) c_27
                refine ok_ite (fun c_29 => ?_) (fun c_29 => ?_)
                · skip
                  have c_29i : x2.toInt = 6 := bI_eq rfl (show (6 : Int32).toInt = 6 by decide) c_29
                  refine ok_bd (t_fX0_gone) (fun r22 q_30 => ?_)
                  refine ok_bd (t_fX7_isOpen) (fun r24 q_31 => ?_)
                  have h_32 : r24 = 0 ∨ r24 = 1 := q_31
                  have h_32i := bool_i h_32
                  clear q_31
                  refine ok_ite (fun c_33 => ?_) (fun c_33 => ?_)
                  · skip
                    have r_34 := n_rng r24
                    have c_33i : r24.toInt = 0 := bI_eq rfl (show (0 : Int32).toInt = 0 by decide) c_33
                    exact ok_some trivial
                  · skip
                    have r_35 := n_rng r24
                    have c_33i : r24.toInt ≠ 0 := bI_neq rfl (show (0 : Int32).toInt = 0 by decide) c_33
                    exact ok_some trivial
                · skip
                  have c_29i : x2.toInt ≠ 6 := bI_neq rfl (show (6 : Int32).toInt = 6 by decide) c_29
                  exact ok_some trivial

set_option maxHeartbeats 400000 in
set_option maxRecDepth 20000 in
theorem tl_lX8_putBytes_3 {o_z_t : Sx} {x1 : Int32} : ∀ (n : Nat) (z_t : Sx) (x2 : Int32), (FrL [0, 1] o_z_t z_t) → (x2.toInt + 8).toNat < n → okP (lX8_putBytes_3 x1 n z_t x2) (fun y => (FrL [0, 1] o_z_t y)) := by
  intro n
  induction n with
  | zero => intro _ _ _ hm; omega
  | succ n ih =>
    intro z_t x2 frz_t hm
    rw [lX8_putBytes_3]
    refine ok_ite (fun c_1 => ?_) (fun c_1 => ?_)
    · skip
      have r_2 := n_rng x2
      have c_1i : x2.toInt < 0 := bI_lt rfl (show (0 : Int32).toInt = 0 by decide) c_1
      exact ok_some frz_t
    · skip
      have r_3 := n_rng x2
      have c_1i : x2.toInt ≥ 0 := bI_nlt rfl (show (0 : Int32).toInt = 0 by decide) c_1
      refine ok_bd (t_fX8_put (by first | omega | assumption | decide | (show (400 : Nat) < 2147483648; first | omega | assumption))) (fun z3 q_4 => ?_)
      try have e_5 : (x2 + (-8)).toInt = (x2.toInt + (-8)) := (i32_add rfl (show (-8 : Int32).toInt = -8 by decide) (by omega) (by omega))
      exact ih (sI (sTf z_t 0 z3) 1 ((gI z_t 1) + 1)) (x2 + (-8)) (fr_I (fr_Tf frz_t (by decide)) (by decide)) (by omega)
set_option maxHeartbeats 400000 in
set_option maxRecDepth 20000 in
theorem t_fX8_putBytes {z_t : Sx} {x1 : Int32} : okP (fX8_putBytes z_t x1) (fun y => (FrL [0, 1] z_t y)) := by
  unfold fX8_putBytes
  try have e_1 : (24 : Int32).toInt = 24 := (show (24 : Int32).toInt = 24 by decide)
  refine tl_lX8_putBytes_3  FU z_t 24 fr_rf (FU_lt (by omega))

set_option maxHeartbeats 400000 in
set_option maxRecDepth 20000 in
theorem t_fX8_feed {z_t : Sx} {x1 : Int32} {x2 : Int32} {x3 : Int32} {x4 : Int32} {x5 : Int32} : okP (fX8_feed z_t x1 x2 x3 x4 x5) (fun y => (FrL [0, 1] z_t y.2)) := by
  unfold fX8_feed
  refine ok_ite (fun c_1 => ?_) (fun c_1 => ?_)
  · skip
    have r_2 := n_rng (gI z_t 1)
    try have c_1i : ((gI z_t 1).toInt + 20) ≤ 400 := bI_le (i32_add rfl (show (20 : Int32).toInt = 20 by decide) (by omega) (by omega)) (show (400 : Int32).toInt = 400 by decide) c_1
    refine ok_bd (t_fX8_putBytes) (fun z3 q_3 => ?_)
    have h_4 : FrL [0, 1] z_t z3 := q_3
    clear q_3
    refine ok_bd (t_fX8_putBytes) (fun z5 q_5 => ?_)
    have h_6 : FrL [0, 1] z3 z5 := q_5
    clear q_5
    refine ok_bd (t_fX8_putBytes) (fun z7 q_7 => ?_)
    have h_8 : FrL [0, 1] z5 z7 := q_7
    clear q_7
    refine ok_bd (t_fX8_putBytes) (fun z9 q_9 => ?_)
    have h_10 : FrL [0, 1] z7 z9 := q_9
    clear q_9
    refine ok_bd (t_fX8_putBytes) (fun z11 q_11 => ?_)
    have h_12 : FrL [0, 1] z9 z11 := q_11
    clear q_11
    exact ok_some (fr_tr (fr_tr (fr_tr (fr_tr (fr_tr fr_rf h_4 (by decide)) h_6 (by decide)) h_8 (by decide)) h_10 (by decide)) h_12 (by decide))
  · skip
    have r_13 := n_rng (gI z_t 1)
    try have c_1i : ((gI z_t 1).toInt + 20) > 400 := bI_nle (i32_add rfl (show (20 : Int32).toInt = 20 by decide) (by omega) (by omega)) (show (400 : Int32).toInt = 400 by decide) c_1
    exact ok_some fr_rf

set_option maxHeartbeats 400000 in
set_option maxRecDepth 20000 in
theorem t_fX8_fine {z_t : Sx} {z_t_5 : Sx} {z_t_5_0 : Sx} {z_t_5_1 : Sx} {x1 : Int32} : okP (fX8_fine z_t z_t_5 z_t_5_0 z_t_5_1 x1) (fun y => (FrL [1] z_t_5_1 y.2)) := by
  unfold fX8_fine
  refine ok_bd (t_fX8_hasWork) (fun r2 q_1 => ?_)
  have h_2 : r2 = 0 ∨ r2 = 1 := q_1
  have h_2i := bool_i h_2
  clear q_1
  refine ok_ite (fun c_3 => ?_) (fun c_3 => ?_)
  · skip
    have r_4 := n_rng r2
    have c_3i : r2.toInt = 0 := bI_eq rfl (show (0 : Int32).toInt = 0 by decide) c_3
    exact ok_some fr_rf
  · skip
    have r_5 := n_rng r2
    have c_3i : r2.toInt ≠ 0 := bI_neq rfl (show (0 : Int32).toInt = 0 by decide) c_3
    refine ok_ite (fun c_6 => ?_) (fun c_6 => ?_)
    · skip
      have r_7 := n_rng x1
      have c_6i : x1.toInt < 0 := bI_lt rfl (show (0 : Int32).toInt = 0 by decide) c_6
      exact ok_some fr_rf
    · skip
      have r_8 := n_rng x1
      have c_6i : x1.toInt ≥ 0 := bI_nlt rfl (show (0 : Int32).toInt = 0 by decide) c_6
      refine ok_ite (fun c_9 => ?_) (fun c_9 => ?_)
      · skip
        have c_9i : x1.toInt ≤ 999 := bI_le rfl (show (999 : Int32).toInt = 999 by decide) c_9
        exact ok_some (fr_I fr_rf (by decide))
      · skip
        have c_9i : x1.toInt > 999 := bI_nle rfl (show (999 : Int32).toInt = 999 by decide) c_9
        exact ok_some fr_rf

set_option maxHeartbeats 400000 in
set_option maxRecDepth 20000 in
theorem tl_lX8_fits_57 {k127 : Int32 → Int32 → Int32 → Option (Int32)} {z_t : Sx} {z_t_5 : Sx} {z_t_5_0 : Sx} {z_t_5_1 : Sx} {x1 : Int32} {x2 : Int32} {x3 : Int32} (Hk127 : ∀ (y0 : Int32) (y1 : Int32) (y2 : Int32), okP (k127 y0 y1 y2) (fun _ => True)) (h3 : x3.toInt < 1024) : ∀ (n : Nat) (x4 : Int32) (x5 : Int32) (x6 : Int32) (x7 : Int32), (x3.toInt + 1 - x7.toInt).toNat < n → okP (lX8_fits_57 k127 z_t z_t_5 z_t_5_0 z_t_5_1 x1 x2 x3 n x4 x5 x6 x7) (fun _ => True) := by
  intro n
  induction n with
  | zero => intro _ _ _ _ hm; omega
  | succ n ih =>
    intro x4 x5 x6 x7 hm
    rw [lX8_fits_57]
    refine ok_ite (fun c_1 => ?_) (fun c_1 => ?_)
    · skip
      have r_2 := n_rng x3
      have r_3 := n_rng x7
      have c_1i : x3.toInt < x7.toInt := bI_lt rfl rfl c_1
      exact Hk127 x4 x5 x6 
    · skip
      have r_4 := n_rng x3
      have r_5 := n_rng x7
      have c_1i : x3.toInt ≥ x7.toInt := bI_nlt rfl rfl c_1
      refine ok_bd (t_fX7_payOf) (fun r12 q_6 => ?_)
      refine ok_jn ?_
      refine ok_ite (fun c_7 => ?_) (fun c_7 => ?_)
      · skip
        have r_8 := n_rng r12
        have r_9 := n_rng x1
        have c_7i : r12.toInt = x1.toInt := bI_eq rfl rfl c_7
        refine ok_bd (t_fX7_couldBeFound) (fun r19 q_10 => ?_)
        have h_11 : r19 = 0 ∨ r19 = 1 := q_10
        have h_11i := bool_i h_11
        clear q_10
        refine ok_ite (fun c_12 => ?_) (fun c_12 => ?_)
        · skip
          have r_13 := n_rng r19
          have c_12i : r19.toInt = 0 := bI_eq rfl (show (0 : Int32).toInt = 0 by decide) c_12
          try have e_14 : (x7 + 1).toInt = (x7.toInt + 1) := (i32_add rfl (show (1 : Int32).toInt = 1 by decide) (by omega) (by omega))
          exact ih x4 x5 x6 (x7 + 1)  (by omega)
        · skip
          have r_15 := n_rng r19
          have c_12i : r19.toInt ≠ 0 := bI_neq rfl (show (0 : Int32).toInt = 0 by decide) c_12
          have r_16 := n_rng x4
          try have e_17 : (x4 + 1).toInt = (x4.toInt + 1) := (i32_add rfl (show (1 : Int32).toInt = 1 by decide) (by omega) (by omega))
          try have e_18 : (x7 + 1).toInt = (x7.toInt + 1) := (i32_add rfl (show (1 : Int32).toInt = 1 by decide) (by omega) (by omega))
          exact ih (x4 + 1) (x5 &&& x7) (x6 ||| x7) (x7 + 1)  (by omega)
      · skip
        have r_19 := n_rng r12
        have r_20 := n_rng x1
        have c_7i : r12.toInt ≠ x1.toInt := bI_neq rfl rfl c_7
        try have e_21 : (x7 + 1).toInt = (x7.toInt + 1) := (i32_add rfl (show (1 : Int32).toInt = 1 by decide) (by omega) (by omega))
        exact ih x4 x5 x6 (x7 + 1)  (by omega)
set_option maxHeartbeats 400000 in
set_option maxRecDepth 20000 in
theorem t_fX8_fits {z_t : Sx} {z_t_5 : Sx} {z_t_5_0 : Sx} {z_t_5_1 : Sx} {x1 : Int32} {x2 : Int32} (hf : 0 ≤ (gI z_t_5_0 3).toInt ∧ (gI z_t_5_0 3).toInt ≤ 10) : okP (fX8_fits z_t z_t_5 z_t_5_0 z_t_5_1 x1 x2) (fun _ => True) := by
  unfold fX8_fits
  refine ok_bd (t_fX8_hasWork) (fun r2 q_1 => ?_)
  have h_2 : r2 = 0 ∨ r2 = 1 := q_1
  have h_2i := bool_i h_2
  clear q_1
  refine ok_ite (fun c_3 => ?_) (fun c_3 => ?_)
  · skip
    have r_4 := n_rng r2
    have c_3i : r2.toInt = 0 := bI_eq rfl (show (0 : Int32).toInt = 0 by decide) c_3
    exact ok_some trivial
  · skip
    have r_5 := n_rng r2
    have c_3i : r2.toInt ≠ 0 := bI_neq rfl (show (0 : Int32).toInt = 0 by decide) c_3
    refine ok_ite (fun c_6 => ?_) (fun c_6 => ?_)
    · skip
      have r_7 := n_rng x1
      have c_6i : x1.toInt < 0 := bI_lt rfl (show (0 : Int32).toInt = 0 by decide) c_6
      exact ok_some trivial
    · skip
      have r_8 := n_rng x1
      have c_6i : x1.toInt ≥ 0 := bI_nlt rfl (show (0 : Int32).toInt = 0 by decide) c_6
      refine ok_ite (fun c_9 => ?_) (fun c_9 => ?_)
      · skip
        have c_9i : 9999 < x1.toInt := bI_lt (show (9999 : Int32).toInt = 9999 by decide) rfl c_9
        exact ok_some trivial
      · skip
        have c_9i : 9999 ≥ x1.toInt := bI_nlt (show (9999 : Int32).toInt = 9999 by decide) rfl c_9
        refine ok_ite (fun c_10 => ?_) (fun c_10 => ?_)
        · skip
          have r_11 := n_rng x2
          have c_10i : x2.toInt < 0 := bI_lt rfl (show (0 : Int32).toInt = 0 by decide) c_10
          exact ok_some trivial
        · skip
          have r_12 := n_rng x2
          have c_10i : x2.toInt ≥ 0 := bI_nlt rfl (show (0 : Int32).toInt = 0 by decide) c_10
          refine ok_ite (fun c_13 => ?_) (fun c_13 => ?_)
          · skip
            have c_13i : x2.toInt ≤ 2 := bI_le rfl (show (2 : Int32).toInt = 2 by decide) c_13
            refine ok_bd (t_fX8_bit) (fun r9 q_14 => ?_)
            have h_15 : r9 = (1 : Int32) <<< ((gI z_t_5_0 3) &&& 31) := q_14
            clear q_14
            have hs := shl_rng (x := gI z_t_5_0 3) (by omega) (by omega)
            have hs2 : 1 ≤ r9.toInt ∧ r9.toInt ≤ 1024 := by rw [h_15]; omega
            try have e_16 : (0 : Int32).toInt = 0 := (show (0 : Int32).toInt = 0 by decide)
            have r_17 := n_rng r9
            try have e_18 : (r9 - 1).toInt = (r9.toInt - 1) := (i32_sub rfl (show (1 : Int32).toInt = 1 by decide) (by omega) (by omega))
            refine tl_lX8_fits_57 (fun i21 i22 i23 => ?_) (by first | omega | assumption | decide) FU 0 (r9 - 1) 0 0  (FU_lt (by have := n_rng (r9 - 1); have := n_rng (r9 - 1); omega))
            · skip
              refine ok_ite (fun c_19 => ?_) (fun c_19 => ?_)
              · skip
                have c_19i : x2.toInt = 0 := bI_eq rfl (show (0 : Int32).toInt = 0 by decide) c_19
                exact ok_some trivial
              · skip
                have c_19i : x2.toInt ≠ 0 := bI_neq rfl (show (0 : Int32).toInt = 0 by decide) c_19
                refine ok_ite (fun c_20 => ?_) (fun c_20 => ?_)
                · skip
                  have r_21 := n_rng i21
                  have c_20i : i21.toInt = 0 := bI_eq rfl (show (0 : Int32).toInt = 0 by decide) c_20
                  exact ok_some trivial
                · skip
                  have r_22 := n_rng i21
                  have c_20i : i21.toInt ≠ 0 := bI_neq rfl (show (0 : Int32).toInt = 0 by decide) c_20
                  refine ok_ite (fun c_23 => ?_) (fun c_23 => ?_)
                  · skip
                    have c_23i : x2.toInt = 1 := bI_eq rfl (show (1 : Int32).toInt = 1 by decide) c_23
                    exact ok_some trivial
                  · skip
                    have c_23i : x2.toInt ≠ 1 := bI_neq rfl (show (1 : Int32).toInt = 1 by decide) c_23
                    exact ok_some trivial
          · skip
            have c_13i : x2.toInt > 2 := bI_nle rfl (show (2 : Int32).toInt = 2 by decide) c_13
            exact ok_some trivial

set_option maxHeartbeats 400000 in
set_option maxRecDepth 20000 in
theorem t_fX8_game {z_t : Sx} {z_t_5 : Sx} {x1 : Int32} {x2 : Int32} : okP (fX8_game z_t z_t_5 x1 x2) (fun y => (FrL [7] z_t_5 y.2)) := by
  unfold fX8_game
  refine ok_ite (fun c_1 => ?_) (fun c_1 => ?_)
  · skip
    have r_2 := n_rng x1
    have c_1i : x1.toInt < 0 := bI_lt rfl (show (0 : Int32).toInt = 0 by decide) c_1
    exact ok_some fr_rf
  · skip
    have r_3 := n_rng x1
    have c_1i : x1.toInt ≥ 0 := bI_nlt rfl (show (0 : Int32).toInt = 0 by decide) c_1
    refine ok_ite (fun c_4 => ?_) (fun c_4 => ?_)
    · skip
      have c_4i : 8 ≤ x1.toInt := bI_le (show (8 : Int32).toInt = 8 by decide) rfl c_4
      exact ok_some fr_rf
    · skip
      have c_4i : 8 > x1.toInt := bI_nle (show (8 : Int32).toInt = 8 by decide) rfl c_4
      refine ok_ite (fun c_5 => ?_) (fun c_5 => ?_)
      · skip
        have r_6 := n_rng x2
        have c_5i : x2.toInt < (-99) := bI_lt rfl (show (-99 : Int32).toInt = -99 by decide) c_5
        exact ok_some fr_rf
      · skip
        have r_7 := n_rng x2
        have c_5i : x2.toInt ≥ (-99) := bI_nlt rfl (show (-99 : Int32).toInt = -99 by decide) c_5
        refine ok_ite (fun c_8 => ?_) (fun c_8 => ?_)
        · skip
          have c_8i : x2.toInt ≤ 99 := bI_le rfl (show (99 : Int32).toInt = 99 by decide) c_8
          refine ok_gd (inb_of (by omega) (by omega)) ?_
          exact ok_some (fr_T fr_rf (by decide))
        · skip
          have c_8i : x2.toInt > 99 := bI_nle rfl (show (99 : Int32).toInt = 99 by decide) c_8
          exact ok_some fr_rf

set_option maxHeartbeats 400000 in
set_option maxRecDepth 20000 in
theorem t_fX8_image_none {z_t : Sx} {z_t_5 : Sx} {z_t_5_1 : Sx} {B_t_6 : Nat → Option Nat} {x1 : Int32} (p1 : 0 ≤ x1.toInt ∧ x1.toInt < 4) : okP (fX8_image_none z_t z_t_5 z_t_5_1 B_t_6 x1) (fun _ => True) := by
  unfold fX8_image_none
  refine ok_ite (fun c_1 => ?_) (fun c_1 => ?_)
  · skip
    have r_2 := n_rng x1
    have c_1i : x1.toInt < 0 := bI_lt rfl (show (0 : Int32).toInt = 0 by decide) c_1
    exfalso; omega
  · skip
    have r_3 := n_rng x1
    have c_1i : x1.toInt ≥ 0 := bI_nlt rfl (show (0 : Int32).toInt = 0 by decide) c_1
    refine ok_ite (fun c_4 => ?_) (fun c_4 => ?_)
    · skip
      have c_4i : x1.toInt < 4 := bI_lt rfl (show (4 : Int32).toInt = 4 by decide) c_4
      refine ok_gd (inb_of (by omega) (by omega)) ?_
      refine ok_gd (inb_of (by omega) (by omega)) ?_
      refine ok_bd2 (t_fX5_copyFrom) (fun z6 z7 q_5 => ?_)
      have h_6 : FrL [2, 3, 4, 5, 6, 7] Z0 z6 := q_5.1
      have h_7 : FrL [0, 1, 2, 3, 4, 5] Z0 z7 := q_5.2
      clear q_5
      exact ok_some trivial
    · skip
      have c_4i : x1.toInt ≥ 4 := bI_nlt rfl (show (4 : Int32).toInt = 4 by decide) c_4
      exfalso; omega

set_option maxHeartbeats 400000 in
set_option maxRecDepth 20000 in
theorem t_fX8_image_some {z_t : Sx} {z_t_5 : Sx} {z_t_5_1 : Sx} {B_t_6 : Nat → Option Nat} {z_R : Sx} {z_R_1 : Sx} {x1 : Int32} (p1 : 0 ≤ x1.toInt ∧ x1.toInt < 4) : okP (fX8_image_some z_t z_t_5 z_t_5_1 B_t_6 z_R z_R_1 x1) (fun y => (FrL [2, 3, 4, 5, 6, 7] z_R y.2.1) ∧ (FrL [0, 1, 2, 3, 4, 5] z_R_1 y.2.2)) := by
  unfold fX8_image_some
  refine ok_ite (fun c_1 => ?_) (fun c_1 => ?_)
  · skip
    have r_2 := n_rng x1
    have c_1i : x1.toInt < 0 := bI_lt rfl (show (0 : Int32).toInt = 0 by decide) c_1
    exfalso; omega
  · skip
    have r_3 := n_rng x1
    have c_1i : x1.toInt ≥ 0 := bI_nlt rfl (show (0 : Int32).toInt = 0 by decide) c_1
    refine ok_ite (fun c_4 => ?_) (fun c_4 => ?_)
    · skip
      have c_4i : x1.toInt < 4 := bI_lt rfl (show (4 : Int32).toInt = 4 by decide) c_4
      refine ok_gd (inb_of (by omega) (by omega)) ?_
      refine ok_bd2 (t_fX5_copyFrom) (fun z5 z6 q_5 => ?_)
      have h_6 : FrL [2, 3, 4, 5, 6, 7] z_R z5 := q_5.1
      have h_7 : FrL [0, 1, 2, 3, 4, 5] z_R_1 z6 := q_5.2
      clear q_5
      exact ok_some ⟨(fr_tr fr_rf h_6 (by decide)), (fr_tr fr_rf h_7 (by decide))⟩
    · skip
      have c_4i : x1.toInt ≥ 4 := bI_nlt rfl (show (4 : Int32).toInt = 4 by decide) c_4
      exfalso; omega

set_option maxHeartbeats 400000 in
set_option maxRecDepth 20000 in
theorem t_fX8_kind {z_t : Sx} {z_t_5 : Sx} {z_t_5_0 : Sx} {x1 : Int32} {x2 : Int32} : okP (fX8_kind z_t z_t_5 z_t_5_0 x1 x2) (fun _ => True) := by
  unfold fX8_kind
  refine ok_ite (fun c_1 => ?_) (fun c_1 => ?_)
  · skip
    have r_2 := n_rng x1
    have c_1i : x1.toInt < 0 := bI_lt rfl (show (0 : Int32).toInt = 0 by decide) c_1
    exact ok_some trivial
  · skip
    have r_3 := n_rng x1
    have c_1i : x1.toInt ≥ 0 := bI_nlt rfl (show (0 : Int32).toInt = 0 by decide) c_1
    refine ok_ite (fun c_4 => ?_) (fun c_4 => ?_)
    · skip
      have r_5 := n_rng (gI z_t_5_0 2)
      have c_4i : x1.toInt < (gI z_t_5_0 2).toInt := bI_lt rfl rfl c_4
      refine ok_ite (fun c_6 => ?_) (fun c_6 => ?_)
      · skip
        have r_7 := n_rng x2
        have c_6i : x2.toInt = 0 := bI_eq rfl (show (0 : Int32).toInt = 0 by decide) c_6
        refine ok_bd (t_fX8_at (by first | omega | assumption | decide | (show (6 : Nat) < 2147483648; first | omega | assumption))) (fun r5 q_8 => ?_)
        exact ok_some trivial
      · skip
        have r_9 := n_rng x2
        have c_6i : x2.toInt ≠ 0 := bI_neq rfl (show (0 : Int32).toInt = 0 by decide) c_6
        refine ok_ite (fun c_10 => ?_) (fun c_10 => ?_)
        · skip
          have c_10i : x2.toInt = 1 := bI_eq rfl (show (1 : Int32).toInt = 1 by decide) c_10
          refine ok_bd (t_fX8_at (by first | omega | assumption | decide | (show (6 : Nat) < 2147483648; first | omega | assumption))) (fun r7 q_11 => ?_)
          exact ok_some trivial
        · skip
          have c_10i : x2.toInt ≠ 1 := bI_neq rfl (show (1 : Int32).toInt = 1 by decide) c_10
          refine ok_ite (fun c_12 => ?_) (fun c_12 => ?_)
          · skip
            have c_12i : x2.toInt = 2 := bI_eq rfl (show (2 : Int32).toInt = 2 by decide) c_12
            refine ok_bd (t_fX8_at (by first | omega | assumption | decide | (show (6 : Nat) < 2147483648; first | omega | assumption))) (fun r9 q_13 => ?_)
            exact ok_some trivial
          · skip
            have c_12i : x2.toInt ≠ 2 := bI_neq rfl (show (2 : Int32).toInt = 2 by decide) c_12
            exact ok_some trivial
    · skip
      have r_14 := n_rng (gI z_t_5_0 2)
      have c_4i : x1.toInt ≥ (gI z_t_5_0 2).toInt := bI_nlt rfl rfl c_4
      exact ok_some trivial

set_option maxHeartbeats 400000 in
set_option maxRecDepth 20000 in
theorem t_fX8_look {z_t : Sx} {z_t_5 : Sx} {z_t_5_0 : Sx} {z_t_5_1 : Sx} {x1 : Int32} : okP (fX8_look z_t z_t_5 z_t_5_0 z_t_5_1 x1) (fun y => (FrL [0, 1, 2, 4, 5] z_t_5_1 y.2)) := by
  unfold fX8_look
  refine ok_bd (t_fX8_isFault) (fun r2 q_1 => ?_)
  have h_2 : r2 = 0 ∨ r2 = 1 := q_1
  have h_2i := bool_i h_2
  clear q_1
  refine ok_ite (fun c_3 => ?_) (fun c_3 => ?_)
  · skip
    have r_4 := n_rng r2
    have c_3i : r2.toInt = 0 := bI_eq rfl (show (0 : Int32).toInt = 0 by decide) c_3
    exact ok_some fr_rf
  · skip
    have r_5 := n_rng r2
    have c_3i : r2.toInt ≠ 0 := bI_neq rfl (show (0 : Int32).toInt = 0 by decide) c_3
    refine ok_bd (t_fX0_gone) (fun r5 q_6 => ?_)
    refine ok_bd (t_fX7_isOpen) (fun r7 q_7 => ?_)
    have h_8 : r7 = 0 ∨ r7 = 1 := q_7
    have h_8i := bool_i h_8
    clear q_7
    refine ok_ite (fun c_9 => ?_) (fun c_9 => ?_)
    · skip
      have r_10 := n_rng r7
      have c_9i : r7.toInt = 0 := bI_eq rfl (show (0 : Int32).toInt = 0 by decide) c_9
      exact ok_some fr_rf
    · skip
      have r_11 := n_rng r7
      have c_9i : r7.toInt ≠ 0 := bI_neq rfl (show (0 : Int32).toInt = 0 by decide) c_9
      refine ok_bd (t_fX8_at (by first | omega | assumption | decide | (show (10 : Nat) < 2147483648; first | omega | assumption))) (fun r10 q_12 => ?_)
      refine ok_ite (fun c_13 => ?_) (fun c_13 => ?_)
      · skip
        have r_14 := n_rng r10
        have r_15 := n_rng (gI z_t_5_1 0)
        have c_13i : r10.toInt ≤ (gI z_t_5_1 0).toInt := bI_le rfl rfl c_13
        refine ok_bd2 (t_fX0_lookFor) (fun r13 z14 q_16 => ?_)
        have h_17 : r13 = 0 ∨ r13 = 1 := q_16.1
        have h_17i := bool_i h_17
        have h_18 : FrL [0, 1, 2, 4, 5] z_t_5_1 z14 := q_16.2
        clear q_16
        refine ok_ite (fun c_19 => ?_) (fun c_19 => ?_)
        · skip
          have r_20 := n_rng r13
          have c_19i : r13.toInt = 0 := bI_eq rfl (show (0 : Int32).toInt = 0 by decide) c_19
          exact ok_some (fr_tr fr_rf h_18 (by decide))
        · skip
          have r_21 := n_rng r13
          have c_19i : r13.toInt ≠ 0 := bI_neq rfl (show (0 : Int32).toInt = 0 by decide) c_19
          exact ok_some (fr_tr fr_rf h_18 (by decide))
      · skip
        have r_22 := n_rng r10
        have r_23 := n_rng (gI z_t_5_1 0)
        have c_13i : r10.toInt > (gI z_t_5_1 0).toInt := bI_nle rfl rfl c_13
        exact ok_some fr_rf

set_option maxHeartbeats 400000 in
set_option maxRecDepth 20000 in
theorem t_fX8_master {z_t : Sx} {z_t_5 : Sx} {z_t_5_0 : Sx} {z_t_5_1 : Sx} {z_t_10 : Sx} {x1 : Int32} {x2 : Int32} (hf : (gI z_t_5_0 3).toInt ≤ 10) : okP (fX8_master z_t z_t_5 z_t_5_0 z_t_5_1 z_t_10 x1 x2) (fun y => (FrL [0, 1, 2, 3] z_t_10 y.2)) := by
  unfold fX8_master
  refine ok_bd (t_fX8_hasWork) (fun r2 q_1 => ?_)
  have h_2 : r2 = 0 ∨ r2 = 1 := q_1
  have h_2i := bool_i h_2
  clear q_1
  refine ok_ite (fun c_3 => ?_) (fun c_3 => ?_)
  · skip
    have r_4 := n_rng r2
    have c_3i : r2.toInt = 0 := bI_eq rfl (show (0 : Int32).toInt = 0 by decide) c_3
    exact ok_some fr_rf
  · skip
    have r_5 := n_rng r2
    have c_3i : r2.toInt ≠ 0 := bI_neq rfl (show (0 : Int32).toInt = 0 by decide) c_3
    refine ok_ite (fun c_6 => ?_) (fun c_6 => ?_)
    · skip
      have r_7 := n_rng x1
      have c_6i : x1.toInt < 0 := bI_lt rfl (show (0 : Int32).toInt = 0 by decide) c_6
      exact ok_some fr_rf
    · skip
      have r_8 := n_rng x1
      have c_6i : x1.toInt ≥ 0 := bI_nlt rfl (show (0 : Int32).toInt = 0 by decide) c_6
      refine ok_ite (fun c_9 => ?_) (fun c_9 => ?_)
      · skip
        have c_9i : 4 < x1.toInt := bI_lt (show (4 : Int32).toInt = 4 by decide) rfl c_9
        exact ok_some fr_rf
      · skip
        have c_9i : 4 ≥ x1.toInt := bI_nlt (show (4 : Int32).toInt = 4 by decide) rfl c_9
        refine ok_ite (fun c_10 => ?_) (fun c_10 => ?_)
        · skip
          have r_11 := n_rng x2
          have c_10i : x2.toInt < 0 := bI_lt rfl (show (0 : Int32).toInt = 0 by decide) c_10
          exact ok_some fr_rf
        · skip
          have r_12 := n_rng x2
          have c_10i : x2.toInt ≥ 0 := bI_nlt rfl (show (0 : Int32).toInt = 0 by decide) c_10
          refine ok_ite (fun c_13 => ?_) (fun c_13 => ?_)
          · skip
            have c_13i : x2.toInt ≤ 2 := bI_le rfl (show (2 : Int32).toInt = 2 by decide) c_13
            refine ok_bd (t_fX0_gone) (fun r9 q_14 => ?_)
            refine ok_bd (t_fX1_weighSets (by first | omega | assumption | decide | (show (gI z_t_5_0 3).toInt ≤ 10; first | omega | assumption)) (by first | omega | assumption | decide | (show 0 ≤ x1.toInt ∧ x1.toInt ≤ 5; first | omega | assumption))) (fun z11 q_15 => ?_)
            have h_16 : FrL [0, 1, 2, 3] z_t_10 z11 := q_15
            clear q_15
            refine ok_ite (fun c_17 => ?_) (fun c_17 => ?_)
            · skip
              have c_17i : x2.toInt = 2 := bI_eq rfl (show (2 : Int32).toInt = 2 by decide) c_17
              exact ok_some (fr_tr fr_rf h_16 (by decide))
            · skip
              have c_17i : x2.toInt ≠ 2 := bI_neq rfl (show (2 : Int32).toInt = 2 by decide) c_17
              refine ok_bd (t_fX8_hundreds) (fun r14 q_18 => ?_)
              refine ok_bd (t_fX8_partOf) (fun r16 q_19 => ?_)
              exact ok_some (fr_tr fr_rf h_16 (by decide))
          · skip
            have c_13i : x2.toInt > 2 := bI_nle rfl (show (2 : Int32).toInt = 2 by decide) c_13
            exact ok_some fr_rf

set_option maxHeartbeats 400000 in
set_option maxRecDepth 20000 in
theorem t_fX8_mend {z_t : Sx} {z_t_5 : Sx} {z_t_5_0 : Sx} {z_t_5_1 : Sx} {x1 : Int32} : okP (fX8_mend z_t z_t_5 z_t_5_0 z_t_5_1 x1) (fun y => (FrL [2] z_t_5 y.2.1) ∧ (FrL [3] z_t_5_1 y.2.2)) := by
  unfold fX8_mend
  refine ok_bd (t_fX8_isFault) (fun r2 q_1 => ?_)
  have h_2 : r2 = 0 ∨ r2 = 1 := q_1
  have h_2i := bool_i h_2
  clear q_1
  refine ok_ite (fun c_3 => ?_) (fun c_3 => ?_)
  · skip
    have r_4 := n_rng r2
    have c_3i : r2.toInt = 0 := bI_eq rfl (show (0 : Int32).toInt = 0 by decide) c_3
    exact ok_some ⟨fr_rf, fr_rf⟩
  · skip
    have r_5 := n_rng r2
    have c_3i : r2.toInt ≠ 0 := bI_neq rfl (show (0 : Int32).toInt = 0 by decide) c_3
    refine ok_bd (t_fX0_gone) (fun r5 q_6 => ?_)
    refine ok_bd (t_fX8_has) (fun r7 q_7 => ?_)
    have h_8 : r7 = 0 ∨ r7 = 1 := q_7
    have h_8i := bool_i h_8
    clear q_7
    refine ok_ite (fun c_9 => ?_) (fun c_9 => ?_)
    · skip
      have r_10 := n_rng r7
      have c_9i : r7.toInt = 0 := bI_eq rfl (show (0 : Int32).toInt = 0 by decide) c_9
      refine ok_bd (t_fX8_bit) (fun r10 q_11 => ?_)
      have h_12 : r10 = (1 : Int32) <<< (x1 &&& 31) := q_11
      clear q_11
      refine ok_bd (t_fX8_at (by first | omega | assumption | decide | (show (10 : Nat) < 2147483648; first | omega | assumption))) (fun r12 q_13 => ?_)
      exact ok_some ⟨(fr_I fr_rf (by decide)), (fr_I fr_rf (by decide))⟩
    · skip
      have r_14 := n_rng r7
      have c_9i : r7.toInt ≠ 0 := bI_neq rfl (show (0 : Int32).toInt = 0 by decide) c_9
      exact ok_some ⟨fr_rf, fr_rf⟩

set_option maxHeartbeats 400000 in
set_option maxRecDepth 20000 in
theorem tl_lX8_rests_4 {z_t : Sx} {z_t_5 : Sx} : ∀ (n : Nat) (x1 : Int32) (x2 : Int32), (4 + 0 - x2.toInt).toNat < n → okP (lX8_rests_4 z_t z_t_5 n x1 x2) (fun _ => True) := by
  intro n
  induction n with
  | zero => intro _ _ hm; omega
  | succ n ih =>
    intro x1 x2 hm
    rw [lX8_rests_4]
    refine ok_ite (fun c_1 => ?_) (fun c_1 => ?_)
    · skip
      have r_2 := n_rng x2
      have c_1i : 4 ≤ x2.toInt := bI_le (show (4 : Int32).toInt = 4 by decide) rfl c_1
      exact ok_some trivial
    · skip
      have r_3 := n_rng x2
      have c_1i : 4 > x2.toInt := bI_nle (show (4 : Int32).toInt = 4 by decide) rfl c_1
      refine ok_bd (t_fX8_at (by first | omega | assumption | decide | (show (8 : Nat) < 2147483648; first | omega | assumption))) (fun r3 q_4 => ?_)
      refine ok_bd (t_fX8_at (by first | omega | assumption | decide | (show (8 : Nat) < 2147483648; first | omega | assumption))) (fun r5 q_5 => ?_)
      refine ok_jn ?_
      refine ok_ite (fun c_6 => ?_) (fun c_6 => ?_)
      · skip
        have r_7 := n_rng r3
        have r_8 := n_rng r5
        have c_6i : r3.toInt < r5.toInt := bI_lt rfl rfl c_6
        refine ok_bd (t_fX8_at (by first | omega | assumption | decide | (show (8 : Nat) < 2147483648; first | omega | assumption))) (fun r9 q_9 => ?_)
        refine ok_bd (t_fX8_at (by first | omega | assumption | decide | (show (8 : Nat) < 2147483648; first | omega | assumption))) (fun r11 q_10 => ?_)
        refine ok_jn ?_
        refine ok_ite (fun c_11 => ?_) (fun c_11 => ?_)
        · skip
          have r_12 := n_rng r9
          have r_13 := n_rng r11
          have c_11i : r9.toInt < r11.toInt := bI_lt rfl rfl c_11
          refine ok_jn ?_
          refine ok_ite (fun c_14 => ?_) (fun c_14 => ?_)
          · skip
            try have e_15 : (x2 + 1).toInt = (x2.toInt + 1) := (i32_add rfl (show (1 : Int32).toInt = 1 by decide) (by omega) (by omega))
            exact ih x1 (x2 + 1)  (by omega)
          · skip
            exact absurd (by decide) c_14
        · skip
          have r_16 := n_rng r9
          have r_17 := n_rng r11
          have c_11i : r9.toInt ≥ r11.toInt := bI_nlt rfl rfl c_11
          refine ok_jn ?_
          refine ok_ite (fun c_18 => ?_) (fun c_18 => ?_)
          · skip
            try have e_19 : (x2 + 1).toInt = (x2.toInt + 1) := (i32_add rfl (show (1 : Int32).toInt = 1 by decide) (by omega) (by omega))
            exact ih x1 (x2 + 1)  (by omega)
          · skip
            exact absurd (by decide) c_18
      · skip
        have r_20 := n_rng r3
        have r_21 := n_rng r5
        have c_6i : r3.toInt ≥ r5.toInt := bI_nlt rfl rfl c_6
        refine ok_bd (t_fX8_at (by first | omega | assumption | decide | (show (8 : Nat) < 2147483648; first | omega | assumption))) (fun r9 q_22 => ?_)
        refine ok_bd (t_fX8_at (by first | omega | assumption | decide | (show (8 : Nat) < 2147483648; first | omega | assumption))) (fun r11 q_23 => ?_)
        refine ok_jn ?_
        refine ok_ite (fun c_24 => ?_) (fun c_24 => ?_)
        · skip
          have r_25 := n_rng r9
          have r_26 := n_rng r11
          have c_24i : r9.toInt < r11.toInt := bI_lt rfl rfl c_24
          refine ok_jn ?_
          refine ok_ite (fun c_27 => ?_) (fun c_27 => ?_)
          · skip
            exact absurd c_27 (by decide)
          · skip
            refine ok_ite (fun c_28 => ?_) (fun c_28 => ?_)
            · skip
              try have e_29 : (x2 + 1).toInt = (x2.toInt + 1) := (i32_add rfl (show (1 : Int32).toInt = 1 by decide) (by omega) (by omega))
              exact ih x1 (x2 + 1)  (by omega)
            · skip
              exact absurd (by decide) c_28
        · skip
          have r_30 := n_rng r9
          have r_31 := n_rng r11
          have c_24i : r9.toInt ≥ r11.toInt := bI_nlt rfl rfl c_24
          refine ok_jn ?_
          refine ok_ite (fun c_32 => ?_) (fun c_32 => ?_)
          · skip
            exact absurd c_32 (by decide)
          · skip
            refine ok_ite (fun c_33 => ?_) (fun c_33 => ?_)
            · skip
              exact absurd c_33 (by decide)
            · skip
              try have e_34 : (x2 + 1).toInt = (x2.toInt + 1) := (i32_add rfl (show (1 : Int32).toInt = 1 by decide) (by omega) (by omega))
              exact ih (x1 ||| ((1 : Int32) <<< (x2 &&& 31))) (x2 + 1)  (by omega)
set_option maxHeartbeats 400000 in
set_option maxRecDepth 20000 in
theorem t_fX8_rests {z_t : Sx} {z_t_5 : Sx} : okP (fX8_rests z_t z_t_5) (fun _ => True) := by
  unfold fX8_rests
  try have e_1 : (0 : Int32).toInt = 0 := (show (0 : Int32).toInt = 0 by decide)
  refine tl_lX8_rests_4  FU 0 0  (FU_lt (by omega))

set_option maxHeartbeats 400000 in
set_option maxRecDepth 20000 in
theorem t_fX8_mixed {z_t : Sx} {z_t_5 : Sx} {x1 : Int32} {x2 : Int32} : okP (fX8_mixed z_t z_t_5 x1 x2) (fun _ => True) := by
  unfold fX8_mixed
  refine ok_ite (fun c_1 => ?_) (fun c_1 => ?_)
  · skip
    have r_2 := n_rng x1
    have c_1i : x1.toInt < 0 := bI_lt rfl (show (0 : Int32).toInt = 0 by decide) c_1
    exact ok_some trivial
  · skip
    have r_3 := n_rng x1
    have c_1i : x1.toInt ≥ 0 := bI_nlt rfl (show (0 : Int32).toInt = 0 by decide) c_1
    refine ok_ite (fun c_4 => ?_) (fun c_4 => ?_)
    · skip
      have c_4i : 1 < x1.toInt := bI_lt (show (1 : Int32).toInt = 1 by decide) rfl c_4
      exact ok_some trivial
    · skip
      have c_4i : 1 ≥ x1.toInt := bI_nlt (show (1 : Int32).toInt = 1 by decide) rfl c_4
      refine ok_ite (fun c_5 => ?_) (fun c_5 => ?_)
      · skip
        have r_6 := n_rng x2
        have c_5i : x2.toInt < 0 := bI_lt rfl (show (0 : Int32).toInt = 0 by decide) c_5
        exact ok_some trivial
      · skip
        have r_7 := n_rng x2
        have c_5i : x2.toInt ≥ 0 := bI_nlt rfl (show (0 : Int32).toInt = 0 by decide) c_5
        refine ok_ite (fun c_8 => ?_) (fun c_8 => ?_)
        · skip
          have c_8i : x2.toInt ≤ 1 := bI_le rfl (show (1 : Int32).toInt = 1 by decide) c_8
          refine ok_bd (t_fX8_rests) (fun r6 q_9 => ?_)
          refine ok_ite (fun c_10 => ?_) (fun c_10 => ?_)
          · skip
            have r_11 := n_rng r6
            have c_10i : r6.toInt = 0 := bI_eq rfl (show (0 : Int32).toInt = 0 by decide) c_10
            refine ok_jn ?_
            refine ok_ite (fun c_12 => ?_) (fun c_12 => ?_)
            · skip
              have c_12i : x1.toInt = 0 := bI_eq rfl (show (0 : Int32).toInt = 0 by decide) c_12
              refine ok_bd (t_fX8_at (by first | omega | assumption | decide | (show (8 : Nat) < 2147483648; first | omega | assumption))) (fun r32 q_13 => ?_)
              refine ok_bd (t_fX8_at (by first | omega | assumption | decide | (show (8 : Nat) < 2147483648; first | omega | assumption))) (fun r34 q_14 => ?_)
              refine ok_jn ?_
              refine ok_ite (fun c_15 => ?_) (fun c_15 => ?_)
              · skip
                have c_15i : x1.toInt = 0 := bI_eq rfl (show (0 : Int32).toInt = 0 by decide) c_15
                refine ok_bd (t_fX8_at (by first | omega | assumption | decide | (show (8 : Nat) < 2147483648; first | omega | assumption))) (fun r23 q_16 => ?_)
                refine ok_bd (t_fX8_at (by first | omega | assumption | decide | (show (8 : Nat) < 2147483648; first | omega | assumption))) (fun r25 q_17 => ?_)
                refine ok_jn ?_
                refine ok_ite (fun c_18 => ?_) (fun c_18 => ?_)
                · skip
                  have r_19 := n_rng r32
                  have r_20 := n_rng r34
                  have r_21 := n_rng r23
                  have r_22 := n_rng r25
                  try have c_18i : 0 ≤ ((r32.toInt - r34.toInt) + (r23.toInt - r25.toInt)) := bI_le (show (0 : Int32).toInt = 0 by decide) (i32_add (i32_sub rfl rfl (by omega) (by omega)) (i32_sub rfl rfl (by omega) (by omega)) (by omega) (by omega)) c_18
                  refine ok_bd (t_fX8_partOf) (fun r15 q_23 => ?_)
                  exact ok_some trivial
                · skip
                  have r_24 := n_rng r32
                  have r_25 := n_rng r34
                  have r_26 := n_rng r23
                  have r_27 := n_rng r25
                  try have c_18i : 0 > ((r32.toInt - r34.toInt) + (r23.toInt - r25.toInt)) := bI_nle (show (0 : Int32).toInt = 0 by decide) (i32_add (i32_sub rfl rfl (by omega) (by omega)) (i32_sub rfl rfl (by omega) (by omega)) (by omega) (by omega)) c_18
                  refine ok_bd (t_fX8_partOf) (fun r15 q_28 => ?_)
                  exact ok_some trivial
              · skip
                have c_15i : x1.toInt ≠ 0 := bI_neq rfl (show (0 : Int32).toInt = 0 by decide) c_15
                refine ok_bd (t_fX8_at (by first | omega | assumption | decide | (show (8 : Nat) < 2147483648; first | omega | assumption))) (fun r19 q_29 => ?_)
                refine ok_bd (t_fX8_at (by first | omega | assumption | decide | (show (8 : Nat) < 2147483648; first | omega | assumption))) (fun r21 q_30 => ?_)
                refine ok_jn ?_
                refine ok_ite (fun c_31 => ?_) (fun c_31 => ?_)
                · skip
                  have r_32 := n_rng r32
                  have r_33 := n_rng r34
                  have r_34 := n_rng r19
                  have r_35 := n_rng r21
                  try have c_31i : 0 ≤ ((r32.toInt - r34.toInt) + (r19.toInt - r21.toInt)) := bI_le (show (0 : Int32).toInt = 0 by decide) (i32_add (i32_sub rfl rfl (by omega) (by omega)) (i32_sub rfl rfl (by omega) (by omega)) (by omega) (by omega)) c_31
                  refine ok_bd (t_fX8_partOf) (fun r15 q_36 => ?_)
                  exact ok_some trivial
                · skip
                  have r_37 := n_rng r32
                  have r_38 := n_rng r34
                  have r_39 := n_rng r19
                  have r_40 := n_rng r21
                  try have c_31i : 0 > ((r32.toInt - r34.toInt) + (r19.toInt - r21.toInt)) := bI_nle (show (0 : Int32).toInt = 0 by decide) (i32_add (i32_sub rfl rfl (by omega) (by omega)) (i32_sub rfl rfl (by omega) (by omega)) (by omega) (by omega)) c_31
                  refine ok_bd (t_fX8_partOf) (fun r15 q_41 => ?_)
                  exact ok_some trivial
            · skip
              have c_12i : x1.toInt ≠ 0 := bI_neq rfl (show (0 : Int32).toInt = 0 by decide) c_12
              refine ok_bd (t_fX8_at (by first | omega | assumption | decide | (show (8 : Nat) < 2147483648; first | omega | assumption))) (fun r28 q_42 => ?_)
              refine ok_bd (t_fX8_at (by first | omega | assumption | decide | (show (8 : Nat) < 2147483648; first | omega | assumption))) (fun r30 q_43 => ?_)
              refine ok_jn ?_
              refine ok_ite (fun c_44 => ?_) (fun c_44 => ?_)
              · skip
                have c_44i : x1.toInt = 0 := bI_eq rfl (show (0 : Int32).toInt = 0 by decide) c_44
                refine ok_bd (t_fX8_at (by first | omega | assumption | decide | (show (8 : Nat) < 2147483648; first | omega | assumption))) (fun r23 q_45 => ?_)
                refine ok_bd (t_fX8_at (by first | omega | assumption | decide | (show (8 : Nat) < 2147483648; first | omega | assumption))) (fun r25 q_46 => ?_)
                refine ok_jn ?_
                refine ok_ite (fun c_47 => ?_) (fun c_47 => ?_)
                · skip
                  have r_48 := n_rng r28
                  have r_49 := n_rng r30
                  have r_50 := n_rng r23
                  have r_51 := n_rng r25
                  try have c_47i : 0 ≤ ((r28.toInt - r30.toInt) + (r23.toInt - r25.toInt)) := bI_le (show (0 : Int32).toInt = 0 by decide) (i32_add (i32_sub rfl rfl (by omega) (by omega)) (i32_sub rfl rfl (by omega) (by omega)) (by omega) (by omega)) c_47
                  refine ok_bd (t_fX8_partOf) (fun r15 q_52 => ?_)
                  exact ok_some trivial
                · skip
                  have r_53 := n_rng r28
                  have r_54 := n_rng r30
                  have r_55 := n_rng r23
                  have r_56 := n_rng r25
                  try have c_47i : 0 > ((r28.toInt - r30.toInt) + (r23.toInt - r25.toInt)) := bI_nle (show (0 : Int32).toInt = 0 by decide) (i32_add (i32_sub rfl rfl (by omega) (by omega)) (i32_sub rfl rfl (by omega) (by omega)) (by omega) (by omega)) c_47
                  refine ok_bd (t_fX8_partOf) (fun r15 q_57 => ?_)
                  exact ok_some trivial
              · skip
                have c_44i : x1.toInt ≠ 0 := bI_neq rfl (show (0 : Int32).toInt = 0 by decide) c_44
                refine ok_bd (t_fX8_at (by first | omega | assumption | decide | (show (8 : Nat) < 2147483648; first | omega | assumption))) (fun r19 q_58 => ?_)
                refine ok_bd (t_fX8_at (by first | omega | assumption | decide | (show (8 : Nat) < 2147483648; first | omega | assumption))) (fun r21 q_59 => ?_)
                refine ok_jn ?_
                refine ok_ite (fun c_60 => ?_) (fun c_60 => ?_)
                · skip
                  have r_61 := n_rng r28
                  have r_62 := n_rng r30
                  have r_63 := n_rng r19
                  have r_64 := n_rng r21
                  try have c_60i : 0 ≤ ((r28.toInt - r30.toInt) + (r19.toInt - r21.toInt)) := bI_le (show (0 : Int32).toInt = 0 by decide) (i32_add (i32_sub rfl rfl (by omega) (by omega)) (i32_sub rfl rfl (by omega) (by omega)) (by omega) (by omega)) c_60
                  refine ok_bd (t_fX8_partOf) (fun r15 q_65 => ?_)
                  exact ok_some trivial
                · skip
                  have r_66 := n_rng r28
                  have r_67 := n_rng r30
                  have r_68 := n_rng r19
                  have r_69 := n_rng r21
                  try have c_60i : 0 > ((r28.toInt - r30.toInt) + (r19.toInt - r21.toInt)) := bI_nle (show (0 : Int32).toInt = 0 by decide) (i32_add (i32_sub rfl rfl (by omega) (by omega)) (i32_sub rfl rfl (by omega) (by omega)) (by omega) (by omega)) c_60
                  refine ok_bd (t_fX8_partOf) (fun r15 q_70 => ?_)
                  exact ok_some trivial
          · skip
            have r_71 := n_rng r6
            have c_10i : r6.toInt ≠ 0 := bI_neq rfl (show (0 : Int32).toInt = 0 by decide) c_10
            exact ok_some trivial
        · skip
          have c_8i : x2.toInt > 1 := bI_nle rfl (show (1 : Int32).toInt = 1 by decide) c_8
          exact ok_some trivial

set_option maxHeartbeats 400000 in
set_option maxRecDepth 20000 in
theorem t_fX8_row {z_t : Sx} {z_t_5 : Sx} {z_t_5_0 : Sx} {x1 : Int32} : okP (fX8_row z_t z_t_5 z_t_5_0 x1) (fun y => (FrL [5, 6] z_t_5 y.2)) := by
  unfold fX8_row
  refine ok_ite (fun c_1 => ?_) (fun c_1 => ?_)
  · skip
    have r_2 := n_rng x1
    have c_1i : x1.toInt = (-1) := bI_eq rfl (show (-1 : Int32).toInt = -1 by decide) c_1
    exact ok_some (fr_I fr_rf (by decide))
  · skip
    have r_3 := n_rng x1
    have c_1i : x1.toInt ≠ (-1) := bI_neq rfl (show (-1 : Int32).toInt = -1 by decide) c_1
    refine ok_bd (t_fX8_isFault) (fun r3 q_4 => ?_)
    have h_5 : r3 = 0 ∨ r3 = 1 := q_4
    have h_5i := bool_i h_5
    clear q_4
    refine ok_ite (fun c_6 => ?_) (fun c_6 => ?_)
    · skip
      have r_7 := n_rng r3
      have c_6i : r3.toInt = 0 := bI_eq rfl (show (0 : Int32).toInt = 0 by decide) c_6
      exact ok_some fr_rf
    · skip
      have r_8 := n_rng r3
      have c_6i : r3.toInt ≠ 0 := bI_neq rfl (show (0 : Int32).toInt = 0 by decide) c_6
      refine ok_ite (fun c_9 => ?_) (fun c_9 => ?_)
      · skip
        have r_10 := n_rng (gI z_t_5 6)
        have c_9i : (gI z_t_5 6).toInt < 8 := bI_lt rfl (show (8 : Int32).toInt = 8 by decide) c_9
        refine ok_bd (t_fX8_put (by first | omega | assumption | decide | (show (8 : Nat) < 2147483648; first | omega | assumption))) (fun z7 q_11 => ?_)
        exact ok_some (fr_I (fr_Tf fr_rf (by decide)) (by decide))
      · skip
        have r_12 := n_rng (gI z_t_5 6)
        have c_9i : (gI z_t_5 6).toInt ≥ 8 := bI_nlt rfl (show (8 : Int32).toInt = 8 by decide) c_9
        exact ok_some fr_rf

set_option maxHeartbeats 400000 in
set_option maxRecDepth 20000 in
theorem t_gX8_rowMean {rec : Sx → Sx → Sx → Int32 → Int32 → Int32 → Int32 → Option (Int64)} {z_t : Sx} {z_t_5 : Sx} {z_t_5_0 : Sx} {x1 : Int32} {x2 : Int32} {x3 : Int32} {x4 : Int32} {d : Nat} (hrec : ∀ (z_t : Sx) (z_t_5 : Sx) (z_t_5_0 : Sx) (x1 : Int32) (x2 : Int32) (x3 : Int32) (x4 : Int32), (0 ≤ x1.toInt ∧ x1.toInt ≤ 8 ∧ 9 ≤ x1.toInt + d) → okP (rec z_t z_t_5 z_t_5_0 x1 x2 x3 x4) (fun _ => True)) (d0 : 0 ≤ x1.toInt ∧ x1.toInt ≤ 8 ∧ 9 ≤ x1.toInt + d + 1) : okP (gX8_rowMean rec z_t z_t_5 z_t_5_0 x1 x2 x3 x4) (fun _ => True) := by
  unfold gX8_rowMean
  refine ok_ite (fun c_1 => ?_) (fun c_1 => ?_)
  · skip
    have r_2 := n_rng (gI z_t_5 6)
    have r_3 := n_rng x1
    have c_1i : (gI z_t_5 6).toInt ≤ x1.toInt := bI_le rfl rfl c_1
    exact ok_some trivial
  · skip
    have r_4 := n_rng (gI z_t_5 6)
    have r_5 := n_rng x1
    have c_1i : (gI z_t_5 6).toInt > x1.toInt := bI_nle rfl rfl c_1
    refine ok_ite (fun c_6 => ?_) (fun c_6 => ?_)
    · skip
      have c_6i : x1.toInt < 8 := bI_lt rfl (show (8 : Int32).toInt = 8 by decide) c_6
      refine ok_bd (t_fX8_at (by first | omega | assumption | decide | (show (8 : Nat) < 2147483648; first | omega | assumption))) (fun r4 q_7 => ?_)
      refine ok_bd (t_fX8_at (by first | omega | assumption | decide | (show (10 : Nat) < 2147483648; first | omega | assumption))) (fun r6 q_8 => ?_)
      refine ok_bd (t_fX7_isOpen) (fun r8 q_9 => ?_)
      have h_10 : r8 = 0 ∨ r8 = 1 := q_9
      have h_10i := bool_i h_10
      clear q_9
      refine ok_jn ?_
      refine ok_ite (fun c_11 => ?_) (fun c_11 => ?_)
      · skip
        have r_12 := n_rng r8
        have c_11i : r8.toInt = 0 := bI_eq rfl (show (0 : Int32).toInt = 0 by decide) c_11
        have e_14 : (x1 + 1).toInt = (x1.toInt + 1) := (i32_add rfl (show (1 : Int32).toInt = 1 by decide) (by omega) (by omega))
        refine ok_bd (hrec _ _ _ _ _ _ _ (by first | omega | assumption | decide | (show 0 ≤ (x1 + 1).toInt ∧ (x1 + 1).toInt ≤ 8 ∧ 9 ≤ (x1 + 1).toInt + d; first | omega | assumption))) (fun r11 q_13 => ?_)
        exact ok_some trivial
      · skip
        have r_15 := n_rng r8
        have c_11i : r8.toInt ≠ 0 := bI_neq rfl (show (0 : Int32).toInt = 0 by decide) c_11
        refine ok_ite (fun c_16 => ?_) (fun c_16 => ?_)
        · skip
          have r_17 := n_rng r6
          have r_18 := n_rng x3
          have c_16i : r6.toInt ≤ x3.toInt := bI_le rfl rfl c_16
          refine ok_bd (t_fX8_at (by first | omega | assumption | decide | (show (10 : Nat) < 2147483648; first | omega | assumption))) (fun r15 q_19 => ?_)
          refine ok_jn ?_
          refine ok_ite (fun c_20 => ?_) (fun c_20 => ?_)
          · skip
            have r_21 := n_rng x4
            have c_20i : x4.toInt = (-1) := bI_eq rfl (show (-1 : Int32).toInt = -1 by decide) c_20
            refine ok_bd (t_fX8_at (by first | omega | assumption | decide | (show (10 : Nat) < 2147483648; first | omega | assumption))) (fun r29 q_22 => ?_)
            refine ok_bd (t_fX8_hundreds) (fun r19 q_23 => ?_)
            refine ok_bd (t_fX8_bit) (fun r21 q_24 => ?_)
            have h_25 : r21 = (1 : Int32) <<< (r4 &&& 31) := q_24
            clear q_24
            have e_27 : (x1 + 1).toInt = (x1.toInt + 1) := (i32_add rfl (show (1 : Int32).toInt = 1 by decide) (by omega) (by omega))
            refine ok_bd (hrec _ _ _ _ _ _ _ (by first | omega | assumption | decide | (show 0 ≤ (x1 + 1).toInt ∧ (x1 + 1).toInt ≤ 8 ∧ 9 ≤ (x1 + 1).toInt + d; first | omega | assumption))) (fun r23 q_26 => ?_)
            refine ok_bd (hrec _ _ _ _ _ _ _ (by first | omega | assumption | decide | (show 0 ≤ (x1 + 1).toInt ∧ (x1 + 1).toInt ≤ 8 ∧ 9 ≤ (x1 + 1).toInt + d; first | omega | assumption))) (fun r25 q_28 => ?_)
            exact ok_some trivial
          · skip
            have r_29 := n_rng x4
            have c_20i : x4.toInt ≠ (-1) := bI_neq rfl (show (-1 : Int32).toInt = -1 by decide) c_20
            refine ok_ite (fun c_30 => ?_) (fun c_30 => ?_)
            · skip
              have r_31 := n_rng r4
              have c_30i : r4.toInt = x4.toInt := bI_eq rfl rfl c_30
              refine ok_bd (t_fX8_hundreds) (fun r19 q_32 => ?_)
              refine ok_bd (t_fX8_bit) (fun r21 q_33 => ?_)
              have h_34 : r21 = (1 : Int32) <<< (r4 &&& 31) := q_33
              clear q_33
              have e_36 : (x1 + 1).toInt = (x1.toInt + 1) := (i32_add rfl (show (1 : Int32).toInt = 1 by decide) (by omega) (by omega))
              refine ok_bd (hrec _ _ _ _ _ _ _ (by first | omega | assumption | decide | (show 0 ≤ (x1 + 1).toInt ∧ (x1 + 1).toInt ≤ 8 ∧ 9 ≤ (x1 + 1).toInt + d; first | omega | assumption))) (fun r23 q_35 => ?_)
              refine ok_bd (hrec _ _ _ _ _ _ _ (by first | omega | assumption | decide | (show 0 ≤ (x1 + 1).toInt ∧ (x1 + 1).toInt ≤ 8 ∧ 9 ≤ (x1 + 1).toInt + d; first | omega | assumption))) (fun r25 q_37 => ?_)
              exact ok_some trivial
            · skip
              have r_38 := n_rng r4
              have c_30i : r4.toInt ≠ x4.toInt := bI_neq rfl rfl c_30
              refine ok_bd (t_fX8_hundreds) (fun r19 q_39 => ?_)
              refine ok_bd (t_fX8_bit) (fun r21 q_40 => ?_)
              have h_41 : r21 = (1 : Int32) <<< (r4 &&& 31) := q_40
              clear q_40
              have e_43 : (x1 + 1).toInt = (x1.toInt + 1) := (i32_add rfl (show (1 : Int32).toInt = 1 by decide) (by omega) (by omega))
              refine ok_bd (hrec _ _ _ _ _ _ _ (by first | omega | assumption | decide | (show 0 ≤ (x1 + 1).toInt ∧ (x1 + 1).toInt ≤ 8 ∧ 9 ≤ (x1 + 1).toInt + d; first | omega | assumption))) (fun r23 q_42 => ?_)
              refine ok_bd (hrec _ _ _ _ _ _ _ (by first | omega | assumption | decide | (show 0 ≤ (x1 + 1).toInt ∧ (x1 + 1).toInt ≤ 8 ∧ 9 ≤ (x1 + 1).toInt + d; first | omega | assumption))) (fun r25 q_44 => ?_)
              exact ok_some trivial
        · skip
          have r_45 := n_rng r6
          have r_46 := n_rng x3
          have c_16i : r6.toInt > x3.toInt := bI_nle rfl rfl c_16
          have e_48 : (x1 + 1).toInt = (x1.toInt + 1) := (i32_add rfl (show (1 : Int32).toInt = 1 by decide) (by omega) (by omega))
          refine ok_bd (hrec _ _ _ _ _ _ _ (by first | omega | assumption | decide | (show 0 ≤ (x1 + 1).toInt ∧ (x1 + 1).toInt ≤ 8 ∧ 9 ≤ (x1 + 1).toInt + d; first | omega | assumption))) (fun r11 q_47 => ?_)
          exact ok_some trivial
    · skip
      have c_6i : x1.toInt ≥ 8 := bI_nlt rfl (show (8 : Int32).toInt = 8 by decide) c_6
      exact ok_some trivial

set_option maxHeartbeats 400000 in
set_option maxRecDepth 20000 in
theorem t_fX8_rowMean : ∀ (dp : Nat) (z_t : Sx) (z_t_5 : Sx) (z_t_5_0 : Sx) (x1 : Int32) (x2 : Int32) (x3 : Int32) (x4 : Int32), (0 ≤ x1.toInt ∧ x1.toInt ≤ 8 ∧ 9 ≤ x1.toInt + dp) → okP (fX8_rowMean dp z_t z_t_5 z_t_5_0 x1 x2 x3 x4) (fun _ => True) := by
  intro dp
  induction dp with
  | zero => intro z_t z_t_5 z_t_5_0 x1 x2 x3 x4 d0; exfalso; omega
  | succ dp ih =>
    intro z_t z_t_5 z_t_5_0 x1 x2 x3 x4 d0
    exact t_gX8_rowMean (d := dp) (fun z_t z_t_5 z_t_5_0 x1 x2 x3 x4 d0 => ih z_t z_t_5 z_t_5_0 x1 x2 x3 x4 (by omega)) (by omega)

set_option maxHeartbeats 400000 in
set_option maxRecDepth 20000 in
theorem t_fX8_seed {z_t : Sx} {z_t_5 : Sx} {z_t_5_1 : Sx} {x1 : Int32} : okP (fX8_seed z_t z_t_5 z_t_5_1 x1) (fun y => (FrL [4] z_t_5_1 y.2)) := by
  unfold fX8_seed
  refine ok_ite (fun c_1 => ?_) (fun c_1 => ?_)
  · skip
    have r_2 := n_rng x1
    have c_1i : 0 ≤ x1.toInt := bI_le (show (0 : Int32).toInt = 0 by decide) rfl c_1
    exact ok_some (fr_I fr_rf (by decide))
  · skip
    have r_3 := n_rng x1
    have c_1i : 0 > x1.toInt := bI_nle (show (0 : Int32).toInt = 0 by decide) rfl c_1
    exact ok_some fr_rf

set_option maxHeartbeats 400000 in
set_option maxRecDepth 20000 in
theorem t_fX8_seen {z_t : Sx} {z_t_5 : Sx} {z_t_5_0 : Sx} {z_t_5_1 : Sx} {x1 : Int32} {x2 : Int32} : okP (fX8_seen z_t z_t_5 z_t_5_0 z_t_5_1 x1 x2) (fun _ => True) := by
  unfold fX8_seen
  refine ok_bd (t_fX8_isFault) (fun r2 q_1 => ?_)
  have h_2 : r2 = 0 ∨ r2 = 1 := q_1
  have h_2i := bool_i h_2
  clear q_1
  refine ok_ite (fun c_3 => ?_) (fun c_3 => ?_)
  · skip
    have r_4 := n_rng r2
    have c_3i : r2.toInt = 0 := bI_eq rfl (show (0 : Int32).toInt = 0 by decide) c_3
    exact ok_some trivial
  · skip
    have r_5 := n_rng r2
    have c_3i : r2.toInt ≠ 0 := bI_neq rfl (show (0 : Int32).toInt = 0 by decide) c_3
    refine ok_ite (fun c_6 => ?_) (fun c_6 => ?_)
    · skip
      have r_7 := n_rng x2
      have c_6i : x2.toInt < 0 := bI_lt rfl (show (0 : Int32).toInt = 0 by decide) c_6
      exact ok_some trivial
    · skip
      have r_8 := n_rng x2
      have c_6i : x2.toInt ≥ 0 := bI_nlt rfl (show (0 : Int32).toInt = 0 by decide) c_6
      refine ok_ite (fun c_9 => ?_) (fun c_9 => ?_)
      · skip
        have c_9i : x2.toInt ≤ 1 := bI_le rfl (show (1 : Int32).toInt = 1 by decide) c_9
        refine ok_bd (t_fX8_has) (fun r7 q_10 => ?_)
        have h_11 : r7 = 0 ∨ r7 = 1 := q_10
        have h_11i := bool_i h_11
        clear q_10
        refine ok_ite (fun c_12 => ?_) (fun c_12 => ?_)
        · skip
          have r_13 := n_rng r7
          have c_12i : r7.toInt = 0 := bI_eq rfl (show (0 : Int32).toInt = 0 by decide) c_12
          refine ok_bd (t_fX0_gone) (fun r10 q_14 => ?_)
          have e_16 : (0 : Int32).toInt = 0 := (show (0 : Int32).toInt = 0 by decide)
          refine ok_bd (t_fX8_rowMean _ _ _ _ _ _ _ _ (by first | omega | assumption | decide | (show 0 ≤ (0 : Int32).toInt ∧ (0 : Int32).toInt ≤ 8 ∧ 9 ≤ (0 : Int32).toInt + d; first | omega | assumption))) (fun r12 q_15 => ?_)
          refine ok_bd (t_fX8_hundreds) (fun r14 q_17 => ?_)
          refine ok_bd (t_fX8_partOf) (fun r16 q_18 => ?_)
          exact ok_some trivial
        · skip
          have r_19 := n_rng r7
          have c_12i : r7.toInt ≠ 0 := bI_neq rfl (show (0 : Int32).toInt = 0 by decide) c_12
          exact ok_some trivial
      · skip
        have c_9i : x2.toInt > 1 := bI_nle rfl (show (1 : Int32).toInt = 1 by decide) c_9
        exact ok_some trivial

set_option maxHeartbeats 400000 in
set_option maxRecDepth 20000 in
theorem t_fX8_weeks_none {z_t : Sx} {B_t_2 : Nat → Option Nat} {z_t_5 : Sx} {z_t_5_0 : Sx} {x1 : Int32} {x2 : Int32} {x3 : Int32} : okP (fX8_weeks_none z_t B_t_2 z_t_5 z_t_5_0 x1 x2 x3) (fun _ => True) := by
  unfold fX8_weeks_none
  refine ok_bd (t_fX8_ruleForWork) (fun r2 q_1 => ?_)
  exact ok_some trivial

set_option maxHeartbeats 400000 in
set_option maxRecDepth 20000 in
theorem tl_lX8_weeks_some_54 {o_z_t_7 : Sx} {o_z_t_9 : Sx} {z_t : Sx} {B_t_2 : Nat → Option Nat} {z_t_5 : Sx} {z_t_5_0 : Sx} {z_t_5_1 : Sx} {nc_R : Nat} {z_R : Sx} {x2 : Int32} {x3 : Int32} (hnnc_R : nc_R < 2147483648) (hx : 1 ≤ x2.toInt ∧ x2.toInt ≤ 20) : ∀ (n : Nat) (z_t_7 : Sx) (z_t_9 : Sx) (x5 : Int32) (x6 : Int32), (FrL [0, 1, 2, 3, 4, 5] o_z_t_7 z_t_7) → (FrL [0] o_z_t_9 z_t_9) → ((x2.toInt * 6) + 0 - x6.toInt).toNat < n → okP (lX8_weeks_some_54 z_t B_t_2 z_t_5 z_t_5_0 z_t_5_1 nc_R z_R x2 x3 n z_t_7 z_t_9 x5 x6) (fun y => (FrL [0, 1, 2, 3, 4, 5] o_z_t_7 y.2.1) ∧ (FrL [0] o_z_t_9 y.2.2)) := by
  intro n
  induction n with
  | zero => intro _ _ _ _ _ _ hm; omega
  | succ n ih =>
    intro z_t_7 z_t_9 x5 x6 frz_t_7 frz_t_9 hm
    rw [lX8_weeks_some_54]
    refine ok_ite (fun c_1 => ?_) (fun c_1 => ?_)
    · skip
      have r_2 := n_rng x2
      have r_3 := n_rng x6
      try have c_1i : (x2.toInt * 6) ≤ x6.toInt := bI_le (i32_mul rfl (show (6 : Int32).toInt = 6 by decide) (by omega) (by omega)) rfl c_1
      exact ok_some ⟨frz_t_7, frz_t_9⟩
    · skip
      have r_4 := n_rng x2
      have r_5 := n_rng x6
      try have c_1i : (x2.toInt * 6) > x6.toInt := bI_nle (i32_mul rfl (show (6 : Int32).toInt = 6 by decide) (by omega) (by omega)) rfl c_1
      refine ok_bd (t_fX0_begin) (fun z11 q_6 => ?_)
      have h_7 : FrL [0, 1, 2, 5] z_t_7 z11 := q_6
      clear q_6
      refine ok_bd3 (t_fX2_play (by first | omega | assumption | decide | (show nc_R < 2147483648; first | omega | assumption))) (fun r13 z14 z15 q_8 => ?_)
      have h_9 : FrL [0] z_t_9 z14 := q_8.1
      have h_10 : FrL [0, 1, 2, 4, 5] z11 z15 := q_8.2
      clear q_8
      refine ok_jn ?_
      refine ok_ite (fun c_11 => ?_) (fun c_11 => ?_)
      · skip
        have r_12 := n_rng x3
        have c_11i : x3.toInt = 0 := bI_eq rfl (show (0 : Int32).toInt = 0 by decide) c_11
        have r_13 := n_rng x5
        have r_14 := n_rng (gI z15 1)
        try have e_15 : (x5 + (gI z15 1)).toInt = (x5.toInt + (gI z15 1).toInt) := (i32_add rfl rfl (by omega) (by omega))
        try have e_16 : (x6 + 1).toInt = (x6.toInt + 1) := (i32_add rfl (show (1 : Int32).toInt = 1 by decide) (by omega) (by omega))
        exact ih z15 z14 (x5 + (gI z15 1)) (x6 + 1) (fr_tr (fr_tr frz_t_7 h_7 (by decide)) h_10 (by decide)) (fr_tr frz_t_9 h_9 (by decide)) (by omega)
      · skip
        have r_17 := n_rng x3
        have c_11i : x3.toInt ≠ 0 := bI_neq rfl (show (0 : Int32).toInt = 0 by decide) c_11
        refine ok_ite (fun c_18 => ?_) (fun c_18 => ?_)
        · skip
          have c_18i : x3.toInt = 1 := bI_eq rfl (show (1 : Int32).toInt = 1 by decide) c_18
          refine ok_bd (t_fJ6_bitCount_0f7a4) (fun r26 q_19 => ?_)
          have r_20 := n_rng x5
          have r_21 := n_rng r26
          try have e_22 : (x5 + r26).toInt = (x5.toInt + r26.toInt) := (i32_add rfl rfl (by omega) (by omega))
          try have e_23 : (x6 + 1).toInt = (x6.toInt + 1) := (i32_add rfl (show (1 : Int32).toInt = 1 by decide) (by omega) (by omega))
          exact ih z15 z14 (x5 + r26) (x6 + 1) (fr_tr (fr_tr frz_t_7 h_7 (by decide)) h_10 (by decide)) (fr_tr frz_t_9 h_9 (by decide)) (by omega)
        · skip
          have c_18i : x3.toInt ≠ 1 := bI_neq rfl (show (1 : Int32).toInt = 1 by decide) c_18
          refine ok_bd (t_fX0_gone) (fun r22 q_24 => ?_)
          refine ok_bd (t_fX7_hiddenCoins) (fun r24 q_25 => ?_)
          have r_26 := n_rng x5
          have r_27 := n_rng r24
          try have e_28 : (x5 + r24).toInt = (x5.toInt + r24.toInt) := (i32_add rfl rfl (by omega) (by omega))
          try have e_29 : (x6 + 1).toInt = (x6.toInt + 1) := (i32_add rfl (show (1 : Int32).toInt = 1 by decide) (by omega) (by omega))
          exact ih z15 z14 (x5 + r24) (x6 + 1) (fr_tr (fr_tr frz_t_7 h_7 (by decide)) h_10 (by decide)) (fr_tr frz_t_9 h_9 (by decide)) (by omega)
set_option maxHeartbeats 400000 in
set_option maxRecDepth 20000 in
theorem t_fX8_weeks_some {z_t : Sx} {B_t_2 : Nat → Option Nat} {z_t_5 : Sx} {z_t_5_0 : Sx} {z_t_5_1 : Sx} {z_t_7 : Sx} {z_t_9 : Sx} {nc_R : Nat} {z_R : Sx} {x1 : Int32} {x2 : Int32} {x3 : Int32} (hnnc_R : nc_R < 2147483648) : okP (fX8_weeks_some z_t B_t_2 z_t_5 z_t_5_0 z_t_5_1 z_t_7 z_t_9 nc_R z_R x1 x2 x3) (fun y => (FrL [0, 1, 2, 3, 4, 5] z_t_7 y.2.1) ∧ (FrL [0] z_t_9 y.2.2)) := by
  unfold fX8_weeks_some
  refine ok_bd (t_fX8_ruleForWork) (fun r2 q_1 => ?_)
  refine ok_ite (fun c_2 => ?_) (fun c_2 => ?_)
  · skip
    have r_3 := n_rng x2
    have c_2i : x2.toInt < 1 := bI_lt rfl (show (1 : Int32).toInt = 1 by decide) c_2
    exact ok_some ⟨fr_rf, fr_rf⟩
  · skip
    have r_4 := n_rng x2
    have c_2i : x2.toInt ≥ 1 := bI_nlt rfl (show (1 : Int32).toInt = 1 by decide) c_2
    refine ok_ite (fun c_5 => ?_) (fun c_5 => ?_)
    · skip
      have c_5i : 20 < x2.toInt := bI_lt (show (20 : Int32).toInt = 20 by decide) rfl c_5
      exact ok_some ⟨fr_rf, fr_rf⟩
    · skip
      have c_5i : 20 ≥ x2.toInt := bI_nlt (show (20 : Int32).toInt = 20 by decide) rfl c_5
      refine ok_ite (fun c_6 => ?_) (fun c_6 => ?_)
      · skip
        have r_7 := n_rng x3
        have c_6i : x3.toInt < 0 := bI_lt rfl (show (0 : Int32).toInt = 0 by decide) c_6
        exact ok_some ⟨fr_rf, fr_rf⟩
      · skip
        have r_8 := n_rng x3
        have c_6i : x3.toInt ≥ 0 := bI_nlt rfl (show (0 : Int32).toInt = 0 by decide) c_6
        refine ok_ite (fun c_9 => ?_) (fun c_9 => ?_)
        · skip
          have c_9i : x3.toInt ≤ 2 := bI_le rfl (show (2 : Int32).toInt = 2 by decide) c_9
          refine ok_bd (t_fX0_copyFrom) (fun z8 q_10 => ?_)
          have h_11 : FrL [0, 1, 2, 3, 4, 5] z_t_7 z8 := q_10
          clear q_10
          try have e_12 : (0 : Int32).toInt = 0 := (show (0 : Int32).toInt = 0 by decide)
          refine tl_lX8_weeks_some_54 (by first | omega | assumption | decide) (by first | omega | assumption | decide) FU z8 z_t_9 0 0 (fr_tr fr_rf h_11 (by decide)) fr_rf (FU_lt (by omega))
        · skip
          have c_9i : x3.toInt > 2 := bI_nle rfl (show (2 : Int32).toInt = 2 by decide) c_9
          exact ok_some ⟨fr_rf, fr_rf⟩

set_option maxHeartbeats 400000 in
set_option maxRecDepth 20000 in
theorem t_fX8_worth {z_t : Sx} {z_t_5 : Sx} {z_t_5_0 : Sx} {z_t_5_1 : Sx} {x1 : Int32} : okP (fX8_worth z_t z_t_5 z_t_5_0 z_t_5_1 x1) (fun _ => True) := by
  unfold fX8_worth
  refine ok_bd (t_fX8_hasWork) (fun r2 q_1 => ?_)
  have h_2 : r2 = 0 ∨ r2 = 1 := q_1
  have h_2i := bool_i h_2
  clear q_1
  refine ok_ite (fun c_3 => ?_) (fun c_3 => ?_)
  · skip
    have r_4 := n_rng r2
    have c_3i : r2.toInt = 0 := bI_eq rfl (show (0 : Int32).toInt = 0 by decide) c_3
    exact ok_some trivial
  · skip
    have r_5 := n_rng r2
    have c_3i : r2.toInt ≠ 0 := bI_neq rfl (show (0 : Int32).toInt = 0 by decide) c_3
    refine ok_ite (fun c_6 => ?_) (fun c_6 => ?_)
    · skip
      have r_7 := n_rng x1
      have c_6i : x1.toInt < 0 := bI_lt rfl (show (0 : Int32).toInt = 0 by decide) c_6
      exact ok_some trivial
    · skip
      have r_8 := n_rng x1
      have c_6i : x1.toInt ≥ 0 := bI_nlt rfl (show (0 : Int32).toInt = 0 by decide) c_6
      refine ok_ite (fun c_9 => ?_) (fun c_9 => ?_)
      · skip
        have c_9i : x1.toInt ≤ 1 := bI_le rfl (show (1 : Int32).toInt = 1 by decide) c_9
        refine ok_bd (t_fX0_gone) (fun r7 q_10 => ?_)
        have e_12 : (0 : Int32).toInt = 0 := (show (0 : Int32).toInt = 0 by decide)
        refine ok_bd (t_fX8_rowMean _ _ _ _ _ _ _ _ (by first | omega | assumption | decide | (show 0 ≤ (0 : Int32).toInt ∧ (0 : Int32).toInt ≤ 8 ∧ 9 ≤ (0 : Int32).toInt + d; first | omega | assumption))) (fun r9 q_11 => ?_)
        refine ok_bd (t_fX8_hundreds) (fun r11 q_13 => ?_)
        refine ok_bd (t_fX8_partOf) (fun r13 q_14 => ?_)
        exact ok_some trivial
      · skip
        have c_9i : x1.toInt > 1 := bI_nle rfl (show (1 : Int32).toInt = 1 by decide) c_9
        exact ok_some trivial

set_option maxHeartbeats 400000 in
set_option maxRecDepth 20000 in
theorem t_fX8_would_none {z_t : Sx} {B_t_2 : Nat → Option Nat} {z_t_5 : Sx} {z_t_5_0 : Sx} {x1 : Int32} {x2 : Int32} : okP (fX8_would_none z_t B_t_2 z_t_5 z_t_5_0 x1 x2) (fun _ => True) := by
  unfold fX8_would_none
  refine ok_bd (t_fX8_ruleForWork) (fun r2 q_1 => ?_)
  exact ok_some trivial

set_option maxHeartbeats 400000 in
set_option maxRecDepth 20000 in
theorem t_fX8_would_some {z_t : Sx} {B_t_2 : Nat → Option Nat} {z_t_5 : Sx} {z_t_5_0 : Sx} {z_t_5_1 : Sx} {z_t_7 : Sx} {z_t_9 : Sx} {nc_R : Nat} {z_R : Sx} {x1 : Int32} {x2 : Int32} (hnnc_R : nc_R < 2147483648) : okP (fX8_would_some z_t B_t_2 z_t_5 z_t_5_0 z_t_5_1 z_t_7 z_t_9 nc_R z_R x1 x2) (fun y => (FrL [0, 1, 2, 3, 4, 5] z_t_7 y.2.1) ∧ (FrL [0] z_t_9 y.2.2)) := by
  unfold fX8_would_some
  refine ok_bd (t_fX8_ruleForWork) (fun r2 q_1 => ?_)
  refine ok_ite (fun c_2 => ?_) (fun c_2 => ?_)
  · skip
    have r_3 := n_rng x2
    have c_2i : x2.toInt < 0 := bI_lt rfl (show (0 : Int32).toInt = 0 by decide) c_2
    exact ok_some ⟨fr_rf, fr_rf⟩
  · skip
    have r_4 := n_rng x2
    have c_2i : x2.toInt ≥ 0 := bI_nlt rfl (show (0 : Int32).toInt = 0 by decide) c_2
    refine ok_ite (fun c_5 => ?_) (fun c_5 => ?_)
    · skip
      have c_5i : x2.toInt ≤ 4 := bI_le rfl (show (4 : Int32).toInt = 4 by decide) c_5
      refine ok_bd (t_fX0_copyFrom) (fun z6 q_6 => ?_)
      have h_7 : FrL [0, 1, 2, 3, 4, 5] z_t_7 z6 := q_6
      clear q_6
      refine ok_bd3 (t_fX2_play (by first | omega | assumption | decide | (show nc_R < 2147483648; first | omega | assumption))) (fun r8 z9 z10 q_8 => ?_)
      have h_9 : FrL [0] z_t_9 z9 := q_8.1
      have h_10 : FrL [0, 1, 2, 4, 5] z6 z10 := q_8.2
      clear q_8
      refine ok_ite (fun c_11 => ?_) (fun c_11 => ?_)
      · skip
        have c_11i : x2.toInt = 0 := bI_eq rfl (show (0 : Int32).toInt = 0 by decide) c_11
        exact ok_some ⟨(fr_tr (fr_tr fr_rf h_7 (by decide)) h_10 (by decide)), (fr_tr fr_rf h_9 (by decide))⟩
      · skip
        have c_11i : x2.toInt ≠ 0 := bI_neq rfl (show (0 : Int32).toInt = 0 by decide) c_11
        refine ok_ite (fun c_12 => ?_) (fun c_12 => ?_)
        · skip
          have c_12i : x2.toInt = 1 := bI_eq rfl (show (1 : Int32).toInt = 1 by decide) c_12
          exact ok_some ⟨(fr_tr (fr_tr fr_rf h_7 (by decide)) h_10 (by decide)), (fr_tr fr_rf h_9 (by decide))⟩
        · skip
          have c_12i : x2.toInt ≠ 1 := bI_neq rfl (show (1 : Int32).toInt = 1 by decide) c_12
          refine ok_ite (fun c_13 => ?_) (fun c_13 => ?_)
          · skip
            have c_13i : x2.toInt = 2 := bI_eq rfl (show (2 : Int32).toInt = 2 by decide) c_13
            exact ok_some ⟨(fr_tr (fr_tr fr_rf h_7 (by decide)) h_10 (by decide)), (fr_tr fr_rf h_9 (by decide))⟩
          · skip
            have c_13i : x2.toInt ≠ 2 := bI_neq rfl (show (2 : Int32).toInt = 2 by decide) c_13
            refine ok_ite (fun c_14 => ?_) (fun c_14 => ?_)
            · skip
              have c_14i : x2.toInt = 3 := bI_eq rfl (show (3 : Int32).toInt = 3 by decide) c_14
              refine ok_bd (t_fX0_gone) (fun r13 q_15 => ?_)
              refine ok_bd (t_fX7_hiddenCoins) (fun r15 q_16 => ?_)
              exact ok_some ⟨(fr_tr (fr_tr fr_rf h_7 (by decide)) h_10 (by decide)), (fr_tr fr_rf h_9 (by decide))⟩
            · skip
              have c_14i : x2.toInt ≠ 3 := bI_neq rfl (show (3 : Int32).toInt = 3 by decide) c_14
              exact ok_some ⟨(fr_tr (fr_tr fr_rf h_7 (by decide)) h_10 (by decide)), (fr_tr fr_rf h_9 (by decide))⟩
    · skip
      have c_5i : x2.toInt > 4 := bI_nle rfl (show (4 : Int32).toInt = 4 by decide) c_5
      exact ok_some ⟨fr_rf, fr_rf⟩

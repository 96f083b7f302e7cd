set_option maxHeartbeats 1000000 in
set_option maxRecDepth 20000 in
theorem t_fJ6_bitCount_0f7a4 {x0 : Int32} : okP (fJ6_bitCount_0f7a4 x0) (fun _ => True) := by
  unfold fJ6_bitCount_0f7a4
  refine ok_nm ?_
  refine ok_nm ?_
  refine ok_nm ?_
  refine ok_nm ?_
  refine ok_nm ?_
  exact ok_some trivial

set_option maxHeartbeats 1000000 in
set_option maxRecDepth 20000 in
theorem tl_lJ7_fill_53178_5 {n_p0 : Nat} {x1 : Int32} {x3 : Int32} (hnn_p0 : n_p0 < 2147483648) : ∀ (n : Nat) (f_p0 : Nat → Int32) (x2 : Int32), (0 ≤ x2.toInt) → (x3.toInt ≤ n_p0) → (x3.toInt + 0 - x2.toInt).toNat < n → okP (lJ7_fill_53178_5 n_p0 x1 x3 n f_p0 x2) (fun _ => True) := by
  intro n
  induction n with
  | zero => intro _ _ _ _ hm; omega
  | succ n ih =>
    intro f_p0 x2 i0 i1 hm
    rw [lJ7_fill_53178_5]
    refine ok_ite (fun c_1 => ?_) (fun c_1 => ?_)
    · skip
      have c_1i : x3.toInt ≤ x2.toInt := bI_le rfl rfl c_1
      exact ok_some trivial
    · skip
      have c_1i : x3.toInt > x2.toInt := bI_nle rfl rfl c_1
      refine ok_gd (inb_of (by omega) (by omega)) ?_
      have e_2 : (x2 + 1).toInt = (x2.toInt + 1) := (i32_add rfl (show (1 : Int32).toInt = 1 by decide) (by omega) (by omega))
      exact ih (upd f_p0 x2.toNatClampNeg x1) (x2 + 1) (by first | assumption | omega | decide) (by first | assumption | omega | decide) (by omega)
set_option maxHeartbeats 1000000 in
set_option maxRecDepth 20000 in
theorem t_fJ7_fill_53178 {n_p0 : Nat} {f_p0 : Nat → Int32} {x1 : Int32} (hnn_p0 : n_p0 < 2147483648) : okP (fJ7_fill_53178 n_p0 f_p0 x1) (fun _ => True) := by
  unfold fJ7_fill_53178
  have e_1 : (0 : Int32).toInt = 0 := (show (0 : Int32).toInt = 0 by decide)
  refine tl_lJ7_fill_53178_5 (by first | assumption | omega | decide) FU f_p0 0 (by first | assumption | omega | decide) (by have := nI_toInt (n := n_p0) (by omega); omega) (FU_lt (by have := nI_toInt (n := n_p0) (by omega); omega))

set_option maxHeartbeats 1000000 in
set_option maxRecDepth 20000 in
theorem t_fX0_begin {z_t : Sx} {x1 : Int32} : okP (fX0_begin z_t x1) (fun y => (FrL [0, 1, 2, 5] z_t y)) := by
  unfold fX0_begin
  refine ok_bd (t_fJ7_fill_53178 (by first | assumption | omega | decide)) (fun z2 q_1 => ?_)
  exact ok_some (fr_Tf (fr_I (fr_I (fr_I fr_rf (by decide)) (by decide)) (by decide)) (by decide))

set_option maxHeartbeats 1000000 in
set_option maxRecDepth 20000 in
theorem t_fX0_copyFrom {z_t : Sx} {z_p1 : Sx} : okP (fX0_copyFrom z_t z_p1) (fun y => (FrL [0, 1, 2, 3, 4, 5] z_t y)) := by
  unfold fX0_copyFrom
  exact ok_some (fr_Tf (fr_I (fr_I (fr_I (fr_I (fr_I fr_rf (by decide)) (by decide)) (by decide)) (by decide)) (by decide)) (by decide))

set_option maxHeartbeats 1000000 in
set_option maxRecDepth 20000 in
theorem t_fX0_gone {z_t : Sx} : okP (fX0_gone z_t) (fun _ => True) := by
  unfold fX0_gone
  exact ok_some trivial

set_option maxHeartbeats 1000000 in
set_option maxRecDepth 20000 in
theorem t_fX8_at {n_p0 : Nat} {f_p0 : Nat → Int32} {x1 : Int32} (hnn_p0 : n_p0 < 2147483648) : okP (fX8_at n_p0 f_p0 x1) (fun _ => True) := by
  unfold fX8_at
  refine ok_ite (fun c_1 => ?_) (fun c_1 => ?_)
  · skip
    have c_1i : x1.toInt < 0 := bI_lt rfl (show (0 : Int32).toInt = 0 by decide) c_1
    exact ok_some trivial
  · skip
    have c_1i : x1.toInt ≥ 0 := bI_nlt rfl (show (0 : Int32).toInt = 0 by decide) c_1
    refine ok_ite (fun c_2 => ?_) (fun c_2 => ?_)
    · skip
      try have c_2i : (n_p0 : Int) ≤ x1.toInt := bI_le (nI_toInt (by omega)) rfl c_2
      exact ok_some trivial
    · skip
      try have c_2i : (n_p0 : Int) > x1.toInt := bI_nle (nI_toInt (by omega)) rfl c_2
      refine ok_gd (inb_of (by omega) (by omega)) ?_
      exact ok_some trivial

set_option maxHeartbeats 1000000 in
set_option maxRecDepth 20000 in
theorem t_fX8_put {n_p0 : Nat} {f_p0 : Nat → Int32} {x1 : Int32} {x2 : Int32} (hnn_p0 : n_p0 < 2147483648) : okP (fX8_put n_p0 f_p0 x1 x2) (fun _ => True) := by
  unfold fX8_put
  refine ok_ite (fun c_1 => ?_) (fun c_1 => ?_)
  · skip
    have c_1i : x1.toInt < 0 := bI_lt rfl (show (0 : Int32).toInt = 0 by decide) c_1
    exact ok_some trivial
  · skip
    have c_1i : x1.toInt ≥ 0 := bI_nlt rfl (show (0 : Int32).toInt = 0 by decide) c_1
    refine ok_ite (fun c_2 => ?_) (fun c_2 => ?_)
    · skip
      try have c_2i : (n_p0 : Int) ≤ x1.toInt := bI_le (nI_toInt (by omega)) rfl c_2
      exact ok_some trivial
    · skip
      try have c_2i : (n_p0 : Int) > x1.toInt := bI_nle (nI_toInt (by omega)) rfl c_2
      refine ok_gd (inb_of (by omega) (by omega)) ?_
      exact ok_some trivial

set_option maxHeartbeats 1000000 in
set_option maxRecDepth 20000 in
theorem t_fX8_bit {x0 : Int32} : okP (fX8_bit x0) (fun y => (y = (1 : Int32) <<< (x0 &&& 31))) := by
  unfold fX8_bit
  exact ok_some (by rfl)

set_option maxHeartbeats 1000000 in
set_option maxRecDepth 20000 in
theorem t_fX0_lookFor {z_t : Sx} {z_p1 : Sx} {x2 : Int32} : okP (fX0_lookFor z_t z_p1 x2) (fun y => (y.1 = 0 ∨ y.1 = 1) ∧ (FrL [0, 1, 2, 4, 5] z_t y.2)) := by
  unfold fX0_lookFor
  refine ok_bd (t_fX8_at (by first | assumption | omega | decide)) (fun r2 q_1 => ?_)
  refine ok_bd (t_fX8_at (by first | assumption | omega | decide)) (fun r4 q_2 => ?_)
  refine ok_bd (t_fX8_put (by first | assumption | omega | decide)) (fun z6 q_3 => ?_)
  refine ok_nm ?_
  refine ok_bd (t_fX8_at (by first | assumption | omega | decide)) (fun r9 q_4 => ?_)
  refine ok_ite (fun c_5 => ?_) (fun c_5 => ?_)
  · skip
    try have c_5i : ((((((gI z_t 4).toInt64 * 1103515245) + 12345) &&& 2147483647).toInt32 / 65536).toInt - (((((((gI z_t 4).toInt64 * 1103515245) + 12345) &&& 2147483647).toInt32 / 65536) / 100).toInt * 100)) < r9.toInt := bI_lt (i32_sub rfl (i32_mul rfl (show (100 : Int32).toInt = 100 by decide) (by omega) (by omega)) (by omega) (by omega)) rfl c_5
    refine ok_bd (t_fX8_bit) (fun r12 q_6 => ?_)
    have h_7 : r12 = (1 : Int32) <<< (x2 &&& 31) := q_6
    refine ok_bd (t_fX8_at (by first | assumption | omega | decide)) (fun r14 q_8 => ?_)
    exact ok_some ⟨Or.inr rfl, (fr_I (fr_I (fr_I (fr_Tf (fr_I fr_rf (by decide)) (by decide)) (by decide)) (by decide)) (by decide))⟩
  · skip
    try have c_5i : ((((((gI z_t 4).toInt64 * 1103515245) + 12345) &&& 2147483647).toInt32 / 65536).toInt - (((((((gI z_t 4).toInt64 * 1103515245) + 12345) &&& 2147483647).toInt32 / 65536) / 100).toInt * 100)) ≥ r9.toInt := bI_nlt (i32_sub rfl (i32_mul rfl (show (100 : Int32).toInt = 100 by decide) (by omega) (by omega)) (by omega) (by omega)) rfl c_5
    exact ok_some ⟨Or.inl rfl, (fr_I (fr_Tf (fr_I fr_rf (by decide)) (by decide)) (by decide))⟩

set_option maxHeartbeats 1000000 in
set_option maxRecDepth 20000 in
theorem t_fX7_isOpen {z_t : Sx} {x1 : Int32} {x2 : Int32} : okP (fX7_isOpen z_t x1 x2) (fun y => (y = 0 ∨ y = 1)) := by
  unfold fX7_isOpen
  refine ok_ite (fun c_1 => ?_) (fun c_1 => ?_)
  · skip
    have c_1i : x1.toInt < 0 := bI_lt rfl (show (0 : Int32).toInt = 0 by decide) c_1
    exact ok_some (Or.inl rfl)
  · skip
    have c_1i : x1.toInt ≥ 0 := bI_nlt rfl (show (0 : Int32).toInt = 0 by decide) c_1
    refine ok_ite (fun c_2 => ?_) (fun c_2 => ?_)
    · skip
      have c_2i : 10 ≤ x1.toInt := bI_le (show (10 : Int32).toInt = 10 by decide) rfl c_2
      exact ok_some (Or.inl rfl)
    · skip
      have c_2i : 10 > x1.toInt := bI_nle (show (10 : Int32).toInt = 10 by decide) rfl c_2
      refine ok_ite (fun c_3 => ?_) (fun c_3 => ?_)
      · skip
        have c_3i : ((x2 >>> (x1 &&& 31)) &&& 1).toInt = 0 := bI_eq rfl (show (0 : Int32).toInt = 0 by decide) c_3
        refine ok_gd (inb_of (by omega) (by omega)) ?_
        refine ok_jn ?_
        refine ok_ite (fun c_4 => ?_) (fun c_4 => ?_)
        · skip
          have c_4i : (gT z_t 11 x1.toNatClampNeg).toInt < 0 := bI_lt rfl (show (0 : Int32).toInt = 0 by decide) c_4
          exact ok_some (Or.inr rfl)
        · skip
          have c_4i : (gT z_t 11 x1.toNatClampNeg).toInt ≥ 0 := bI_nlt rfl (show (0 : Int32).toInt = 0 by decide) c_4
          refine ok_ite (fun c_5 => ?_) (fun c_5 => ?_)
          · skip
            have c_5i : ((x2 >>> ((gT z_t 11 x1.toNatClampNeg) &&& 31)) &&& 1).toInt = 0 := bI_eq rfl (show (0 : Int32).toInt = 0 by decide) c_5
            exact ok_some (Or.inl rfl)
          · skip
            have c_5i : ((x2 >>> ((gT z_t 11 x1.toNatClampNeg) &&& 31)) &&& 1).toInt ≠ 0 := bI_neq rfl (show (0 : Int32).toInt = 0 by decide) c_5
            exact ok_some (Or.inr rfl)
      · skip
        have c_3i : ((x2 >>> (x1 &&& 31)) &&& 1).toInt ≠ 0 := bI_neq rfl (show (0 : Int32).toInt = 0 by decide) c_3
        exact ok_some (Or.inl rfl)

set_option maxHeartbeats 1000000 in
set_option maxRecDepth 20000 in
theorem tl_lX8_hundreds_4 {x0 : Int32} : ∀ (n : Nat) (x1 : Int64) (x3 : Int32), (8 - x3.toInt).toNat < n → okP (lX8_hundreds_4 x0 n x1 x3) (fun _ => True) := by
  intro n
  induction n with
  | zero => intro _ _ hm; omega
  | succ n ih =>
    intro x1 x3 hm
    rw [lX8_hundreds_4]
    refine ok_ite (fun c_1 => ?_) (fun c_1 => ?_)
    · skip
      have c_1i : x0.toInt ≤ x3.toInt := bI_le rfl rfl c_1
      exact ok_some trivial
    · skip
      have c_1i : x0.toInt > x3.toInt := bI_nle rfl rfl c_1
      refine ok_ite (fun c_2 => ?_) (fun c_2 => ?_)
      · skip
        have c_2i : 8 ≤ x3.toInt := bI_le (show (8 : Int32).toInt = 8 by decide) rfl c_2
        exact ok_some trivial
      · skip
        have c_2i : 8 > x3.toInt := bI_nle (show (8 : Int32).toInt = 8 by decide) rfl c_2
        have e_3 : (x3 + 1).toInt = (x3.toInt + 1) := (i32_add rfl (show (1 : Int32).toInt = 1 by decide) (by omega) (by omega))
        exact ih (x1 * 100) (x3 + 1)  (by omega)
set_option maxHeartbeats 1000000 in
set_option maxRecDepth 20000 in
theorem t_fX8_hundreds {x0 : Int32} : okP (fX8_hundreds x0) (fun _ => True) := by
  unfold fX8_hundreds
  have e_1 : (0 : Int32).toInt = 0 := (show (0 : Int32).toInt = 0 by decide)
  refine tl_lX8_hundreds_4  FU 1 0  (FU_lt (by omega))

set_option maxHeartbeats 1000000 in
set_option maxRecDepth 20000 in
theorem t_fX1_earnedBy {rec : Sx → Sx → Int32 → Int32 → Int32 → Option (Int64 × Sx)} {z_t : Sx} {z_p1 : Sx} {x2 : Int32} {x3 : Int32} {x4 : Int32} {x5 : Int32} {d : Nat} (hrec : ∀ (z_t : Sx) (z_p1 : Sx) (x2 : Int32) (x3 : Int32) (x4 : Int32), (1 ≤ d ∧ x2.toInt ≤ d) → okP (rec z_t z_p1 x2 x3 x4) (fun y => (FrL [0, 1] z_t y.2) ∧ (x2.toInt ≤ 0 → y.1.toInt = 0))) (d0 : 1 ≤ d ∧ x3.toInt ≤ d + 1 ∧ -1000 ≤ x3.toInt) : okP (fX1_earnedBy rec z_t z_p1 x2 x3 x4 x5) (fun y => (FrL [0, 1] z_t y.2)) := by
  unfold fX1_earnedBy
  refine ok_bd (t_fX8_at (by first | assumption | omega | decide)) (fun r2 q_1 => ?_)
  refine ok_ite (fun c_2 => ?_) (fun c_2 => ?_)
  · skip
    try have c_2i : (x5.toInt - r2.toInt) < 0 := bI_lt (i32_sub rfl rfl (by omega) (by omega)) (show (0 : Int32).toInt = 0 by decide) c_2
    exact ok_some fr_rf
  · skip
    try have c_2i : (x5.toInt - r2.toInt) ≥ 0 := bI_nlt (i32_sub rfl rfl (by omega) (by omega)) (show (0 : Int32).toInt = 0 by decide) c_2
    refine ok_bd (t_fX7_isOpen) (fun r5 q_3 => ?_)
    have h_4 : r5 = 0 ∨ r5 = 1 := q_3
    refine ok_ite (fun c_5 => ?_) (fun c_5 => ?_)
    · skip
      have c_5i : r5.toInt = 0 := bI_eq rfl (show (0 : Int32).toInt = 0 by decide) c_5
      exact ok_some fr_rf
    · skip
      have c_5i : r5.toInt ≠ 0 := bI_neq rfl (show (0 : Int32).toInt = 0 by decide) c_5
      refine ok_bd (t_fX8_at (by first | assumption | omega | decide)) (fun r8 q_6 => ?_)
      refine ok_bd (t_fX8_at (by first | assumption | omega | decide)) (fun r10 q_7 => ?_)
      refine ok_bd (t_fX8_hundreds) (fun r12 q_8 => ?_)
      refine ok_bd (t_fX8_bit) (fun r14 q_9 => ?_)
      have h_10 : r14 = (1 : Int32) <<< (x2 &&& 31) := q_9
      refine ok_bd2 (hrec _ _ _ _ _ (by first | assumption | omega | decide)) (fun r16 z17 q_11 => ?_)
      have h_12 : FrL [0, 1] z_t z17 := q_11.1
      have h_13 : (x3 - 1).toInt ≤ 0 → r16.toInt = 0 := q_11.2
      refine ok_bd2 (hrec _ _ _ _ _ (by first | assumption | omega | decide)) (fun r19 z20 q_14 => ?_)
      have h_15 : FrL [0, 1] z17 z20 := q_14.1
      have h_16 : (x3 - 1).toInt ≤ 0 → r19.toInt = 0 := q_14.2
      exact ok_some (fr_tr (fr_tr fr_rf h_12 (by decide)) h_15 (by decide))

set_option maxHeartbeats 1000000 in
set_option maxRecDepth 20000 in
theorem tl_lX7_mostByOneLook_2 {k43 : Int32 → Option (Int32)} {z_t : Sx} {x1 : Int32} {x2 : Int32} (Hk43 : ∀ (y0 : Int32), okP (k43 y0) (fun _ => True)) : ∀ (n : Nat) (x3 : Int32), ((gI z_t 3).toInt + 0 - x3.toInt).toNat < n → okP (lX7_mostByOneLook_2 k43 z_t x1 x2 n x3) (fun _ => True) := by
  intro n
  induction n with
  | zero => intro _ hm; omega
  | succ n ih =>
    intro x3 hm
    rw [lX7_mostByOneLook_2]
    refine ok_ite (fun c_1 => ?_) (fun c_1 => ?_)
    · skip
      have c_1i : (gI z_t 3).toInt ≤ x3.toInt := bI_le rfl rfl c_1
      exact ok_some trivial
    · skip
      have c_1i : (gI z_t 3).toInt > x3.toInt := bI_nle rfl rfl c_1
      refine ok_bd (t_fX8_at (by first | assumption | omega | decide)) (fun r3 q_2 => ?_)
      refine ok_bd (t_fX8_at (by first | assumption | omega | decide)) (fun r5 q_3 => ?_)
      refine ok_jn ?_
      refine ok_ite (fun c_4 => ?_) (fun c_4 => ?_)
      · skip
        have c_4i : x2.toInt < r5.toInt := bI_lt rfl rfl c_4
        have e_5 : (x3 + 1).toInt = (x3.toInt + 1) := (i32_add rfl (show (1 : Int32).toInt = 1 by decide) (by omega) (by omega))
        exact ih (x3 + 1)  (by omega)
      · skip
        have c_4i : x2.toInt ≥ r5.toInt := bI_nlt rfl rfl c_4
        refine ok_bd (t_fX7_isOpen) (fun r9 q_6 => ?_)
        have h_7 : r9 = 0 ∨ r9 = 1 := q_6
        refine ok_ite (fun c_8 => ?_) (fun c_8 => ?_)
        · skip
          have c_8i : r9.toInt = 0 := bI_eq rfl (show (0 : Int32).toInt = 0 by decide) c_8
          have e_9 : (x3 + 1).toInt = (x3.toInt + 1) := (i32_add rfl (show (1 : Int32).toInt = 1 by decide) (by omega) (by omega))
          exact ih (x3 + 1)  (by omega)
        · skip
          have c_8i : r9.toInt ≠ 0 := bI_neq rfl (show (0 : Int32).toInt = 0 by decide) c_8
          exact Hk43 r3 
set_option maxHeartbeats 1000000 in
set_option maxRecDepth 20000 in
theorem t_fX7_mostByOneLook {z_t : Sx} {x1 : Int32} {x2 : Int32} : okP (fX7_mostByOneLook z_t x1 x2) (fun _ => True) := by
  unfold fX7_mostByOneLook
  have e_1 : (0 : Int32).toInt = 0 := (show (0 : Int32).toInt = 0 by decide)
  refine tl_lX7_mostByOneLook_2 (fun i11 => ?_) FU 0  (FU_lt (by have := n_rng (gI z_t 3); omega))
  · skip
    refine ok_bd (t_fX8_at (by first | assumption | omega | decide)) (fun r13 q_2 => ?_)
    exact ok_some trivial

set_option maxHeartbeats 1000000 in
set_option maxRecDepth 20000 in
theorem tl_lX1_mostEarned_106 {o_z_t : Sx} {o_x2 : Int32} {rec : Sx → Sx → Int32 → Int32 → Int32 → Option (Int64 × Sx)} {k139 : Sx → Int64 → Option (Int64 × Sx)} {z_p1 : Sx} {x2 : Int32} {x3 : Int32} {x5 : Int32} {x6 : Int64} {x8 : Int32} {d : Nat} (hrec : ∀ (z_t : Sx) (z_p1 : Sx) (x2 : Int32) (x3 : Int32) (x4 : Int32), (1 ≤ d ∧ x2.toInt ≤ d) → okP (rec z_t z_p1 x2 x3 x4) (fun y => (FrL [0, 1] z_t y.2) ∧ (x2.toInt ≤ 0 → y.1.toInt = 0))) (Hk139 : ∀ (y0 : Sx) (y1 : Int64), (FrL [0, 1] o_z_t y0) → okP (k139 y0 y1) (fun y => (FrL [0, 1] o_z_t y.2) ∧ (o_x2.toInt ≤ 0 → y.1.toInt = 0))) (hx : 1 < x2.toInt ∧ x2.toInt ≤ d + 1) (hq : 1 < o_x2.toInt) : ∀ (n : Nat) (z_t : Sx) (x9 : Int64) (x11 : Int32), (FrL [0, 1] o_z_t z_t) → ((gI z_p1 3).toInt + 0 - x11.toInt).toNat < n → okP (lX1_mostEarned_106 rec k139 z_p1 x2 x3 x5 x6 x8 n z_t x9 x11) (fun y => (FrL [0, 1] o_z_t y.2) ∧ (o_x2.toInt ≤ 0 → y.1.toInt = 0)) := by
  intro n
  induction n with
  | zero => intro _ _ _ _ hm; omega
  | succ n ih =>
    intro z_t x9 x11 frz_t hm
    rw [lX1_mostEarned_106]
    refine ok_ite (fun c_1 => ?_) (fun c_1 => ?_)
    · skip
      have c_1i : (gI z_p1 3).toInt ≤ x11.toInt := bI_le rfl rfl c_1
      exact Hk139 z_t x9 frz_t
    · skip
      have c_1i : (gI z_p1 3).toInt > x11.toInt := bI_nle rfl rfl c_1
      refine ok_bd2 (t_fX1_earnedBy hrec (by first | assumption | omega | decide)) (fun r8 z9 q_2 => ?_)
      have h_3 : FrL [0, 1] z_t z9 := q_2
      have e_4 : (x11 + 1).toInt = (x11.toInt + 1) := (i32_add rfl (show (1 : Int32).toInt = 1 by decide) (by omega) (by omega))
      exact ih z9 (mxL x9 r8) (x11 + 1) (fr_tr frz_t h_3 (by decide)) (by omega)
set_option maxHeartbeats 1000000 in
set_option maxRecDepth 20000 in
theorem t_gX1_mostEarned {rec : Sx → Sx → Int32 → Int32 → Int32 → Option (Int64 × Sx)} {z_t : Sx} {z_p1 : Sx} {x2 : Int32} {x3 : Int32} {x4 : Int32} {d : Nat} (hrec : ∀ (z_t : Sx) (z_p1 : Sx) (x2 : Int32) (x3 : Int32) (x4 : Int32), (1 ≤ d ∧ x2.toInt ≤ d) → okP (rec z_t z_p1 x2 x3 x4) (fun y => (FrL [0, 1] z_t y.2) ∧ (x2.toInt ≤ 0 → y.1.toInt = 0))) (d0 : x2.toInt ≤ d + 1) : okP (gX1_mostEarned rec z_t z_p1 x2 x3 x4) (fun y => (FrL [0, 1] z_t y.2) ∧ (x2.toInt ≤ 0 → y.1.toInt = 0)) := by
  unfold gX1_mostEarned
  refine ok_ite (fun c_1 => ?_) (fun c_1 => ?_)
  · skip
    have c_1i : 1 < x2.toInt := bI_lt (show (1 : Int32).toInt = 1 by decide) rfl c_1
    refine ok_nm2 (fun v2 ev2 => ?_)
    refine ok_nm2 (fun v3 ev3 => ?_)
    refine ok_gd (inb_and ev3) ?_
    refine ok_ite (fun c_2 => ?_) (fun c_2 => ?_)
    · skip
      have c_2i : (gJ z_t 0 v3.toNatClampNeg).toInt = v2.toInt := lI_eq rfl rfl c_2
      exact ok_some ⟨fr_rf, (by first | (intro q; omega) | (intro _; decide))⟩
    · skip
      have c_2i : (gJ z_t 0 v3.toNatClampNeg).toInt ≠ v2.toInt := lI_neq rfl rfl c_2
      have e_4 : (0 : Int32).toInt = 0 := (show (0 : Int32).toInt = 0 by decide)
      refine tl_lX1_mostEarned_106 hrec (fun z10 i11 k_3 => ?_) (by first | assumption | omega | decide) (by first | assumption | omega | decide) FU z_t 0 0 fr_rf (FU_lt (by have := n_rng (gI z_p1 3); omega))
      · skip
        exact ok_some ⟨(fr_J (fr_J k_3 (by decide)) (by decide)), (by first | (intro q; omega) | (intro _; decide))⟩
  · skip
    have c_1i : 1 ≥ x2.toInt := bI_nlt (show (1 : Int32).toInt = 1 by decide) rfl c_1
    refine ok_ite (fun c_5 => ?_) (fun c_5 => ?_)
    · skip
      have c_5i : x2.toInt = 1 := bI_eq rfl (show (1 : Int32).toInt = 1 by decide) c_5
      refine ok_bd (t_fX7_mostByOneLook) (fun r14 q_6 => ?_)
      exact ok_some ⟨fr_rf, (by first | (intro q; omega) | (intro _; decide))⟩
    · skip
      have c_5i : x2.toInt ≠ 1 := bI_neq rfl (show (1 : Int32).toInt = 1 by decide) c_5
      exact ok_some ⟨fr_rf, (by first | (intro q; omega) | (intro _; decide))⟩

set_option maxHeartbeats 1000000 in
set_option maxRecDepth 20000 in
theorem t_fX1_mostEarned : ∀ (dp : Nat) (z_t : Sx) (z_p1 : Sx) (x2 : Int32) (x3 : Int32) (x4 : Int32), (1 ≤ dp ∧ x2.toInt ≤ dp) → okP (fX1_mostEarned dp z_t z_p1 x2 x3 x4) (fun y => (FrL [0, 1] z_t y.2) ∧ (x2.toInt ≤ 0 → y.1.toInt = 0)) := by
  intro dp
  induction dp with
  | zero => intro z_t z_p1 x2 x3 x4 d0; exfalso; omega
  | succ dp ih =>
    intro z_t z_p1 x2 x3 x4 d0
    exact t_gX1_mostEarned (d := dp) (fun z_t z_p1 x2 x3 x4 d0 => ih z_t z_p1 x2 x3 x4 (by omega)) (by omega)

set_option maxHeartbeats 1000000 in
set_option maxRecDepth 20000 in
theorem tl_lX1_choice_24 {o_z_t : Sx} {o_x2 : Int32} {z_p1 : Sx} {x2 : Int32} {x3 : Int32} {x4 : Int32} {x5 : Int64} (hx : 0 ≤ x2.toInt ∧ x2.toInt ≤ 16) (hp : 0 < o_x2.toInt) : ∀ (n : Nat) (z_t : Sx) (x7 : Int32), (FrL [0, 1] o_z_t z_t) → ((gI z_p1 3).toInt + 0 - x7.toInt).toNat < n → okP (lX1_choice_24 z_p1 x2 x3 x4 x5 n z_t x7) (fun y => (FrL [0, 1] o_z_t y.2) ∧ (0 ≤ y.1.toInt → 0 < o_x2.toInt)) := by
  intro n
  induction n with
  | zero => intro _ _ _ hm; omega
  | succ n ih =>
    intro z_t x7 frz_t hm
    rw [lX1_choice_24]
    refine ok_ite (fun c_1 => ?_) (fun c_1 => ?_)
    · skip
      have c_1i : (gI z_p1 3).toInt ≤ x7.toInt := bI_le rfl rfl c_1
      exact ok_some ⟨frz_t, (by first | (intro q; exact absurd q (by decide)) | (intro _; omega) | assumption | omega | trivial)⟩
    · skip
      have c_1i : (gI z_p1 3).toInt > x7.toInt := bI_nle rfl rfl c_1
      refine ok_bd2 (t_fX1_earnedBy (d := 16) (fun _ _ _ _ _ h1 => t_fX1_mostEarned 16 _ _ _ _ _ h1) (by first | assumption | omega | decide)) (fun r7 z8 q_2 => ?_)
      have h_3 : FrL [0, 1] z_t z8 := q_2
      refine ok_ite (fun c_4 => ?_) (fun c_4 => ?_)
      · skip
        have c_4i : r7.toInt = x5.toInt := lI_eq rfl rfl c_4
        exact ok_some ⟨(fr_tr frz_t h_3 (by decide)), (by first | (intro q; exact absurd q (by decide)) | (intro _; omega) | assumption | omega | trivial)⟩
      · skip
        have c_4i : r7.toInt ≠ x5.toInt := lI_neq rfl rfl c_4
        have e_5 : (x7 + 1).toInt = (x7.toInt + 1) := (i32_add rfl (show (1 : Int32).toInt = 1 by decide) (by omega) (by omega))
        exact ih z8 (x7 + 1) (fr_tr frz_t h_3 (by decide)) (by omega)
set_option maxHeartbeats 1000000 in
set_option maxRecDepth 20000 in
theorem t_fX1_choice {z_t : Sx} {z_p1 : Sx} {x2 : Int32} {x3 : Int32} {x4 : Int32} (d0 : 0 ≤ x2.toInt ∧ x2.toInt ≤ 16) : okP (fX1_choice z_t z_p1 x2 x3 x4) (fun y => (FrL [0, 1] z_t y.2) ∧ (0 ≤ y.1.toInt → 0 < x2.toInt)) := by
  unfold fX1_choice
  refine ok_bd2 (t_fX1_mostEarned _ _ _ _ _ _ (by first | assumption | omega | decide)) (fun r2 z3 q_1 => ?_)
  have h_2 : FrL [0, 1] z_t z3 := q_1.1
  have h_3 : x2.toInt ≤ 0 → r2.toInt = 0 := q_1.2
  refine ok_ite (fun c_4 => ?_) (fun c_4 => ?_)
  · skip
    have c_4i : 0 < r2.toInt := lI_lt (show (0 : Int64).toInt = 0 by decide) rfl c_4
    have e_5 : (0 : Int32).toInt = 0 := (show (0 : Int32).toInt = 0 by decide)
    refine tl_lX1_choice_24 (by first | assumption | omega | decide) (by first | assumption | omega | decide) FU z3 0 (fr_tr fr_rf h_2 (by decide)) (FU_lt (by have := n_rng (gI z_p1 3); omega))
  · skip
    have c_4i : 0 ≥ r2.toInt := lI_nlt (show (0 : Int64).toInt = 0 by decide) rfl c_4
    exact ok_some ⟨(fr_tr fr_rf h_2 (by decide)), (by first | (intro q; exact absurd q (by decide)) | (intro _; omega) | assumption | omega | trivial)⟩

set_option maxHeartbeats 1000000 in
set_option maxRecDepth 20000 in
theorem t_fX8_has {x0 : Int32} {x1 : Int32} : okP (fX8_has x0 x1) (fun y => (y = 0 ∨ y = 1)) := by
  unfold fX8_has
  refine ok_ite (fun c_1 => ?_) (fun c_1 => ?_)
  · skip
    have c_1i : (x0 &&& ((1 : Int32) <<< (x1 &&& 31))).toInt = 0 := bI_eq rfl (show (0 : Int32).toInt = 0 by decide) c_1
    exact ok_some (Or.inl rfl)
  · skip
    have c_1i : (x0 &&& ((1 : Int32) <<< (x1 &&& 31))).toInt ≠ 0 := bI_neq rfl (show (0 : Int32).toInt = 0 by decide) c_1
    exact ok_some (Or.inr rfl)

set_option maxHeartbeats 1000000 in
set_option maxRecDepth 20000 in
theorem tl_lX7_together_5 {z_t : Sx} {n_p1 : Nat} {f_p1 : Nat → Int32} {x2 : Int32} (hnn_p1 : n_p1 < 2147483648) : ∀ (n : Nat) (x3 : Int32) (x4 : Int32), ((gI z_t 3).toInt + 0 - x4.toInt).toNat < n → okP (lX7_together_5 z_t n_p1 f_p1 x2 n x3 x4) (fun _ => True) := by
  intro n
  induction n with
  | zero => intro _ _ hm; omega
  | succ n ih =>
    intro x3 x4 hm
    rw [lX7_together_5]
    refine ok_ite (fun c_1 => ?_) (fun c_1 => ?_)
    · skip
      have c_1i : (gI z_t 3).toInt ≤ x4.toInt := bI_le rfl rfl c_1
      exact ok_some trivial
    · skip
      have c_1i : (gI z_t 3).toInt > x4.toInt := bI_nle rfl rfl c_1
      refine ok_bd (t_fX8_has) (fun r3 q_2 => ?_)
      have h_3 : r3 = 0 ∨ r3 = 1 := q_2
      refine ok_jn ?_
      refine ok_ite (fun c_4 => ?_) (fun c_4 => ?_)
      · skip
        have c_4i : r3.toInt = 0 := bI_eq rfl (show (0 : Int32).toInt = 0 by decide) c_4
        have e_5 : (x4 + 1).toInt = (x4.toInt + 1) := (i32_add rfl (show (1 : Int32).toInt = 1 by decide) (by omega) (by omega))
        exact ih x3 (x4 + 1)  (by omega)
      · skip
        have c_4i : r3.toInt ≠ 0 := bI_neq rfl (show (0 : Int32).toInt = 0 by decide) c_4
        refine ok_bd (t_fX8_at (by first | assumption | omega | decide)) (fun r8 q_6 => ?_)
        have e_7 : (x3 + r8).toInt = (x3.toInt + r8.toInt) := (i32_add rfl rfl (by omega) (by omega))
        have e_8 : (x4 + 1).toInt = (x4.toInt + 1) := (i32_add rfl (show (1 : Int32).toInt = 1 by decide) (by omega) (by omega))
        exact ih (x3 + r8) (x4 + 1)  (by omega)
set_option maxHeartbeats 1000000 in
set_option maxRecDepth 20000 in
theorem t_fX7_together {z_t : Sx} {n_p1 : Nat} {f_p1 : Nat → Int32} {x2 : Int32} (hnn_p1 : n_p1 < 2147483648) : okP (fX7_together z_t n_p1 f_p1 x2) (fun _ => True) := by
  unfold fX7_together
  have e_1 : (0 : Int32).toInt = 0 := (show (0 : Int32).toInt = 0 by decide)
  refine tl_lX7_together_5 (by first | assumption | omega | decide) FU 0 0  (FU_lt (by have := n_rng (gI z_t 3); omega))

set_option maxHeartbeats 1000000 in
set_option maxRecDepth 20000 in
theorem t_fX7_hiddenCoins {z_t : Sx} {x1 : Int32} : okP (fX7_hiddenCoins z_t x1) (fun _ => True) := by
  unfold fX7_hiddenCoins
  refine ok_bd (t_fX7_together (by first | assumption | omega | decide)) (fun r2 q_1 => ?_)
  exact ok_some trivial

set_option maxHeartbeats 1000000 in
set_option maxRecDepth 20000 in
theorem t_gX1_hiddenMean {rec : Sx → Sx → Int32 → Int32 → Int32 → Option (Int64 × Sx)} {z_t : Sx} {z_p1 : Sx} {x2 : Int32} {x3 : Int32} {x4 : Int32} {d : Nat} (hrec : ∀ (z_t : Sx) (z_p1 : Sx) (x2 : Int32) (x3 : Int32) (x4 : Int32), (0 ≤ x2.toInt ∧ x2.toInt ≤ 5 ∧ x2.toInt < d) → okP (rec z_t z_p1 x2 x3 x4) (fun y => (FrL [0, 1] z_t y.2))) (d0 : 0 ≤ x2.toInt ∧ x2.toInt ≤ 5 ∧ x2.toInt < d + 1) : okP (gX1_hiddenMean rec z_t z_p1 x2 x3 x4) (fun y => (FrL [0, 1] z_t y.2)) := by
  unfold gX1_hiddenMean
  refine ok_bd2 (t_fX1_choice (by first | assumption | omega | decide)) (fun r2 z3 q_1 => ?_)
  have h_2 : FrL [0, 1] z_t z3 := q_1.1
  have h_3 : 0 ≤ r2.toInt → 0 < x2.toInt := q_1.2
  refine ok_ite (fun c_4 => ?_) (fun c_4 => ?_)
  · skip
    have c_4i : 0 ≤ r2.toInt := bI_le (show (0 : Int32).toInt = 0 by decide) rfl c_4
    refine ok_bd (t_fX8_at (by first | assumption | omega | decide)) (fun r6 q_5 => ?_)
    refine ok_bd (t_fX8_at (by first | assumption | omega | decide)) (fun r8 q_6 => ?_)
    refine ok_bd (t_fX8_bit) (fun r10 q_7 => ?_)
    have h_8 : r10 = (1 : Int32) <<< (r2 &&& 31) := q_7
    refine ok_bd2 (hrec _ _ _ _ _ (by first | assumption | omega | decide)) (fun r12 z13 q_9 => ?_)
    have h_10 : FrL [0, 1] z3 z13 := q_9
    refine ok_bd2 (hrec _ _ _ _ _ (by first | assumption | omega | decide)) (fun r15 z16 q_11 => ?_)
    have h_12 : FrL [0, 1] z13 z16 := q_11
    exact ok_some (fr_tr (fr_tr (fr_tr fr_rf h_2 (by decide)) h_10 (by decide)) h_12 (by decide))
  · skip
    have c_4i : 0 > r2.toInt := bI_nle (show (0 : Int32).toInt = 0 by decide) rfl c_4
    refine ok_bd (t_fX7_hiddenCoins) (fun r18 q_13 => ?_)
    refine ok_bd (t_fX8_hundreds) (fun r20 q_14 => ?_)
    exact ok_some (fr_tr fr_rf h_2 (by decide))

set_option maxHeartbeats 1000000 in
set_option maxRecDepth 20000 in
theorem t_fX1_hiddenMean : ∀ (dp : Nat) (z_t : Sx) (z_p1 : Sx) (x2 : Int32) (x3 : Int32) (x4 : Int32), (0 ≤ x2.toInt ∧ x2.toInt ≤ 5 ∧ x2.toInt < dp) → okP (fX1_hiddenMean dp z_t z_p1 x2 x3 x4) (fun y => (FrL [0, 1] z_t y.2)) := by
  intro dp
  induction dp with
  | zero => intro z_t z_p1 x2 x3 x4 d0; exfalso; omega
  | succ dp ih =>
    intro z_t z_p1 x2 x3 x4 d0
    exact t_gX1_hiddenMean (d := dp) (fun z_t z_p1 x2 x3 x4 d0 => ih z_t z_p1 x2 x3 x4 (by omega)) (by omega)

set_option maxHeartbeats 1000000 in
set_option maxRecDepth 20000 in
theorem tl_lX1_leastFree_5 {z_p1 : Sx} {x2 : Int32} (hf : (gI z_p1 3).toInt ≤ 10) : ∀ (n : Nat) (x3 : Int32) (x4 : Int32), (0 ≤ x4.toInt) → (0 ≤ x3.toInt ∧ x3.toInt < 1024) → ((gI z_p1 3).toInt + 0 - x4.toInt).toNat < n → okP (lX1_leastFree_5 z_p1 x2 n x3 x4) (fun y => (0 ≤ y.toInt ∧ y.toInt < 1024)) := by
  intro n
  induction n with
  | zero => intro _ _ _ _ hm; omega
  | succ n ih =>
    intro x3 x4 i0 i1 hm
    rw [lX1_leastFree_5]
    refine ok_ite (fun c_1 => ?_) (fun c_1 => ?_)
    · skip
      have c_1i : (gI z_p1 3).toInt ≤ x4.toInt := bI_le rfl rfl c_1
      exact ok_some (by omega)
    · skip
      have c_1i : (gI z_p1 3).toInt > x4.toInt := bI_nle rfl rfl c_1
      refine ok_bd (t_fJ6_bitCount_0f7a4) (fun r3 q_2 => ?_)
      refine ok_ite (fun c_3 => ?_) (fun c_3 => ?_)
      · skip
        have c_3i : 6 ≤ r3.toInt := bI_le (show (6 : Int32).toInt = 6 by decide) rfl c_3
        exact ok_some (by omega)
      · skip
        have c_3i : 6 > r3.toInt := bI_nle (show (6 : Int32).toInt = 6 by decide) rfl c_3
        refine ok_bd (t_fX8_has) (fun r6 q_4 => ?_)
        have h_5 : r6 = 0 ∨ r6 = 1 := q_4
        refine ok_jn ?_
        refine ok_ite (fun c_6 => ?_) (fun c_6 => ?_)
        · skip
          have c_6i : r6.toInt = 0 := bI_eq rfl (show (0 : Int32).toInt = 0 by decide) c_6
          refine ok_bd (t_fX8_bit) (fun r11 q_7 => ?_)
          have h_8 : r11 = (1 : Int32) <<< (x4 &&& 31) := q_7
          have e_9 : (x4 + 1).toInt = (x4.toInt + 1) := (i32_add rfl (show (1 : Int32).toInt = 1 by decide) (by omega) (by omega))
          exact ih (x3 ||| r11) (x4 + 1) (by first | assumption | omega | decide) (by first | omega | (have hs := shl_rng (x := x4) (by omega) (by omega); exact or_rng (n := 10) (by decide) (by omega) (by omega) (by subst_vars; omega) (by subst_vars; omega))) (by omega)
        · skip
          have c_6i : r6.toInt ≠ 0 := bI_neq rfl (show (0 : Int32).toInt = 0 by decide) c_6
          have e_10 : (x4 + 1).toInt = (x4.toInt + 1) := (i32_add rfl (show (1 : Int32).toInt = 1 by decide) (by omega) (by omega))
          exact ih x3 (x4 + 1) (by first | assumption | omega | decide) (by first | omega | (have hs := shl_rng (x := x4) (by omega) (by omega); exact or_rng (n := 10) (by decide) (by omega) (by omega) (by subst_vars; omega) (by subst_vars; omega))) (by omega)
set_option maxHeartbeats 1000000 in
set_option maxRecDepth 20000 in
theorem t_fX1_leastFree {z_p1 : Sx} {x2 : Int32} (hf : (gI z_p1 3).toInt ≤ 10) : okP (fX1_leastFree z_p1 x2) (fun y => (0 ≤ y.toInt ∧ y.toInt < 1024)) := by
  unfold fX1_leastFree
  have e_1 : (0 : Int32).toInt = 0 := (show (0 : Int32).toInt = 0 by decide)
  refine tl_lX1_leastFree_5 (by first | assumption | omega | decide) FU 0 0 (by first | assumption | omega | decide) (by first | omega | (have hs := shl_rng (x := x4) (by omega) (by omega); exact or_rng (n := 10) (by decide) (by omega) (by omega) (by subst_vars; omega) (by subst_vars; omega))) (FU_lt (by have := n_rng (gI z_p1 3); omega))

set_option maxHeartbeats 1000000 in
set_option maxRecDepth 20000 in
theorem t_fX7_mendingOf {z_t : Sx} {x1 : Int32} : okP (fX7_mendingOf z_t x1) (fun _ => True) := by
  unfold fX7_mendingOf
  refine ok_bd (t_fX7_together (by first | assumption | omega | decide)) (fun r2 q_1 => ?_)
  exact ok_some trivial

set_option maxHeartbeats 1000000 in
set_option maxRecDepth 20000 in
theorem tl_lX1_weighSets_29 {o_z_t : Sx} {z_p1 : Sx} {x2 : Int32} {x3 : Int32} {x4 : Int32} {x5 : Int32} (hx : 0 ≤ x2.toInt ∧ x2.toInt ≤ 5) (h5 : x5.toInt < 1024) : ∀ (n : Nat) (z_t : Sx) (x6 : Int32), (FrL [0, 1, 2, 3] o_z_t z_t) → (x5.toInt + 1 - x6.toInt).toNat < n → okP (lX1_weighSets_29 z_p1 x2 x3 x4 x5 n z_t x6) (fun y => (FrL [0, 1, 2, 3] o_z_t y)) := by
  intro n
  induction n with
  | zero => intro _ _ _ hm; omega
  | succ n ih =>
    intro z_t x6 frz_t hm
    rw [lX1_weighSets_29]
    refine ok_ite (fun c_1 => ?_) (fun c_1 => ?_)
    · skip
      have c_1i : x5.toInt < x6.toInt := bI_lt rfl rfl c_1
      exact ok_some frz_t
    · skip
      have c_1i : x5.toInt ≥ x6.toInt := bI_nlt rfl rfl c_1
      refine ok_jn ?_
      refine ok_ite (fun c_2 => ?_) (fun c_2 => ?_)
      · skip
        have c_2i : (x6 &&& (x5 ^^^ (-1))).toInt = 0 := bI_eq rfl (show (0 : Int32).toInt = 0 by decide) c_2
        refine ok_bd2 (t_fX1_hiddenMean _ _ _ _ _ _ (by first | assumption | omega | decide)) (fun r11 z12 q_3 => ?_)
        have h_4 : FrL [0, 1] z_t z12 := q_3
        refine ok_bd (t_fX7_mendingOf) (fun r14 q_5 => ?_)
        refine ok_bd (t_fX8_hundreds) (fun r16 q_6 => ?_)
        refine ok_bd (t_fJ6_bitCount_0f7a4) (fun r18 q_7 => ?_)
        refine ok_bd (t_fJ6_bitCount_0f7a4) (fun r20 q_8 => ?_)
        refine ok_jn ?_
        refine ok_ite (fun c_9 => ?_) (fun c_9 => ?_)
        · skip
          have c_9i : r20.toInt ≤ r18.toInt := bI_le rfl rfl c_9
          refine ok_jn ?_
          refine ok_ite (fun c_10 => ?_) (fun c_10 => ?_)
          · skip
            try have c_10i : (gJ z12 3 0).toInt < (r11.toInt - (r14.toInt64 * r16).toInt) := lI_lt rfl (i64_sub rfl rfl (by omega) (by omega)) c_10
            have e_11 : (x6 + 1).toInt = (x6.toInt + 1) := (i32_add rfl (show (1 : Int32).toInt = 1 by decide) (by omega) (by omega))
            exact ih (sJ (sI z12 2 x6) 3 0 (r11 - (r14.toInt64 * r16))) (x6 + 1) (fr_J (fr_I (fr_tr frz_t h_4 (by decide)) (by decide)) (by decide)) (by omega)
          · skip
            try have c_10i : (gJ z12 3 0).toInt ≥ (r11.toInt - (r14.toInt64 * r16).toInt) := lI_nlt rfl (i64_sub rfl rfl (by omega) (by omega)) c_10
            refine ok_ite (fun c_12 => ?_) (fun c_12 => ?_)
            · skip
              try have c_12i : (r11.toInt - (r14.toInt64 * r16).toInt) = (gJ z12 3 0).toInt := lI_eq (i64_sub rfl rfl (by omega) (by omega)) rfl c_12
              refine ok_ite (fun c_13 => ?_) (fun c_13 => ?_)
              · skip
                have c_13i : 0 = 0 := bI_eq (show (0 : Int32).toInt = 0 by decide) (show (0 : Int32).toInt = 0 by decide) c_13
                have e_14 : (x6 + 1).toInt = (x6.toInt + 1) := (i32_add rfl (show (1 : Int32).toInt = 1 by decide) (by omega) (by omega))
                exact ih z12 (x6 + 1) (fr_tr frz_t h_4 (by decide)) (by omega)
              · skip
                have c_13i : 0 ≠ 0 := bI_neq (show (0 : Int32).toInt = 0 by decide) (show (0 : Int32).toInt = 0 by decide) c_13
                exact absurd (by decide) c_13
            · skip
              try have c_12i : (r11.toInt - (r14.toInt64 * r16).toInt) ≠ (gJ z12 3 0).toInt := lI_neq (i64_sub rfl rfl (by omega) (by omega)) rfl c_12
              have e_15 : (x6 + 1).toInt = (x6.toInt + 1) := (i32_add rfl (show (1 : Int32).toInt = 1 by decide) (by omega) (by omega))
              exact ih z12 (x6 + 1) (fr_tr frz_t h_4 (by decide)) (by omega)
        · skip
          have c_9i : r20.toInt > r18.toInt := bI_nle rfl rfl c_9
          refine ok_jn ?_
          refine ok_ite (fun c_16 => ?_) (fun c_16 => ?_)
          · skip
            try have c_16i : (gJ z12 3 0).toInt < (r11.toInt - (r14.toInt64 * r16).toInt) := lI_lt rfl (i64_sub rfl rfl (by omega) (by omega)) c_16
            have e_17 : (x6 + 1).toInt = (x6.toInt + 1) := (i32_add rfl (show (1 : Int32).toInt = 1 by decide) (by omega) (by omega))
            exact ih (sJ (sI z12 2 x6) 3 0 (r11 - (r14.toInt64 * r16))) (x6 + 1) (fr_J (fr_I (fr_tr frz_t h_4 (by decide)) (by decide)) (by decide)) (by omega)
          · skip
            try have c_16i : (gJ z12 3 0).toInt ≥ (r11.toInt - (r14.toInt64 * r16).toInt) := lI_nlt rfl (i64_sub rfl rfl (by omega) (by omega)) c_16
            refine ok_ite (fun c_18 => ?_) (fun c_18 => ?_)
            · skip
              try have c_18i : (r11.toInt - (r14.toInt64 * r16).toInt) = (gJ z12 3 0).toInt := lI_eq (i64_sub rfl rfl (by omega) (by omega)) rfl c_18
              refine ok_ite (fun c_19 => ?_) (fun c_19 => ?_)
              · skip
                have c_19i : 1 = 0 := bI_eq (show (1 : Int32).toInt = 1 by decide) (show (0 : Int32).toInt = 0 by decide) c_19
                exact absurd c_19 (by decide)
              · skip
                have c_19i : 1 ≠ 0 := bI_neq (show (1 : Int32).toInt = 1 by decide) (show (0 : Int32).toInt = 0 by decide) c_19
                have e_20 : (x6 + 1).toInt = (x6.toInt + 1) := (i32_add rfl (show (1 : Int32).toInt = 1 by decide) (by omega) (by omega))
                exact ih (sJ (sI z12 2 x6) 3 0 (r11 - (r14.toInt64 * r16))) (x6 + 1) (fr_J (fr_I (fr_tr frz_t h_4 (by decide)) (by decide)) (by decide)) (by omega)
            · skip
              try have c_18i : (r11.toInt - (r14.toInt64 * r16).toInt) ≠ (gJ z12 3 0).toInt := lI_neq (i64_sub rfl rfl (by omega) (by omega)) rfl c_18
              have e_21 : (x6 + 1).toInt = (x6.toInt + 1) := (i32_add rfl (show (1 : Int32).toInt = 1 by decide) (by omega) (by omega))
              exact ih z12 (x6 + 1) (fr_tr frz_t h_4 (by decide)) (by omega)
      · skip
        have c_2i : (x6 &&& (x5 ^^^ (-1))).toInt ≠ 0 := bI_neq rfl (show (0 : Int32).toInt = 0 by decide) c_2
        have e_22 : (x6 + 1).toInt = (x6.toInt + 1) := (i32_add rfl (show (1 : Int32).toInt = 1 by decide) (by omega) (by omega))
        exact ih z_t (x6 + 1) frz_t (by omega)
set_option maxHeartbeats 1000000 in
set_option maxRecDepth 20000 in
theorem t_fX1_weighSets {z_t : Sx} {z_p1 : Sx} {x2 : Int32} {x3 : Int32} {x4 : Int32} (hf : (gI z_p1 3).toInt ≤ 10) (hx : 0 ≤ x2.toInt ∧ x2.toInt ≤ 5) : okP (fX1_weighSets z_t z_p1 x2 x3 x4) (fun y => (FrL [0, 1, 2, 3] z_t y)) := by
  unfold fX1_weighSets
  refine ok_bd (t_fX1_leastFree (by first | assumption | omega | decide)) (fun r2 q_1 => ?_)
  have h_2 : 0 ≤ r2.toInt ∧ r2.toInt < 1024 := q_1
  refine ok_bd2 (t_fX1_hiddenMean _ _ _ _ _ _ (by first | assumption | omega | decide)) (fun r4 z5 q_3 => ?_)
  have h_4 : FrL [0, 1] (sI z_t 2 0) z5 := q_3
  have e_5 : (1 : Int32).toInt = 1 := (show (1 : Int32).toInt = 1 by decide)
  refine tl_lX1_weighSets_29 (by first | assumption | omega | decide) (by first | assumption | omega | decide) FU (sJ z5 3 0 r4) 1 (fr_J (fr_tr (fr_I fr_rf (by decide)) h_4 (by decide)) (by decide)) (FU_lt (by have := n_rng r2; omega))

set_option maxHeartbeats 1000000 in
set_option maxRecDepth 20000 in
theorem t_fX2_compares {x0 : Int32} {x1 : Int64} {x3 : Int64} : okP (fX2_compares x0 x1 x3) (fun y => (y = 0 ∨ y = 1)) := by
  unfold fX2_compares
  refine ok_ite (fun c_1 => ?_) (fun c_1 => ?_)
  · skip
    have c_1i : x0.toInt = 60 := bI_eq rfl (show (60 : Int32).toInt = 60 by decide) c_1
    refine ok_ite (fun c_2 => ?_) (fun c_2 => ?_)
    · skip
      have c_2i : x3.toInt ≤ x1.toInt := lI_le rfl rfl c_2
      exact ok_some (Or.inl rfl)
    · skip
      have c_2i : x3.toInt > x1.toInt := lI_nle rfl rfl c_2
      exact ok_some (Or.inr rfl)
  · skip
    have c_1i : x0.toInt ≠ 60 := bI_neq rfl (show (60 : Int32).toInt = 60 by decide) c_1
    refine ok_ite (fun c_3 => ?_) (fun c_3 => ?_)
    · skip
      have c_3i : x0.toInt = 61 := bI_eq rfl (show (61 : Int32).toInt = 61 by decide) c_3
      refine ok_ite (fun c_4 => ?_) (fun c_4 => ?_)
      · skip
        have c_4i : x1.toInt = x3.toInt := lI_eq rfl rfl c_4
        exact ok_some (Or.inr rfl)
      · skip
        have c_4i : x1.toInt ≠ x3.toInt := lI_neq rfl rfl c_4
        exact ok_some (Or.inl rfl)
    · skip
      have c_3i : x0.toInt ≠ 61 := bI_neq rfl (show (61 : Int32).toInt = 61 by decide) c_3
      refine ok_ite (fun c_5 => ?_) (fun c_5 => ?_)
      · skip
        have c_5i : x0.toInt = 256 := bI_eq rfl (show (256 : Int32).toInt = 256 by decide) c_5
        refine ok_ite (fun c_6 => ?_) (fun c_6 => ?_)
        · skip
          have c_6i : x3.toInt < x1.toInt := lI_lt rfl rfl c_6
          exact ok_some (Or.inl rfl)
        · skip
          have c_6i : x3.toInt ≥ x1.toInt := lI_nlt rfl rfl c_6
          exact ok_some (Or.inr rfl)
      · skip
        have c_5i : x0.toInt ≠ 256 := bI_neq rfl (show (256 : Int32).toInt = 256 by decide) c_5
        refine ok_ite (fun c_7 => ?_) (fun c_7 => ?_)
        · skip
          have c_7i : x0.toInt = 257 := bI_eq rfl (show (257 : Int32).toInt = 257 by decide) c_7
          refine ok_ite (fun c_8 => ?_) (fun c_8 => ?_)
          · skip
            have c_8i : x1.toInt < x3.toInt := lI_lt rfl rfl c_8
            exact ok_some (Or.inl rfl)
          · skip
            have c_8i : x1.toInt ≥ x3.toInt := lI_nlt rfl rfl c_8
            exact ok_some (Or.inr rfl)
        · skip
          have c_7i : x0.toInt ≠ 257 := bI_neq rfl (show (257 : Int32).toInt = 257 by decide) c_7
          refine ok_ite (fun c_9 => ?_) (fun c_9 => ?_)
          · skip
            have c_9i : x1.toInt ≤ x3.toInt := lI_le rfl rfl c_9
            exact ok_some (Or.inl rfl)
          · skip
            have c_9i : x1.toInt > x3.toInt := lI_nle rfl rfl c_9
            exact ok_some (Or.inr rfl)

set_option maxHeartbeats 1000000 in
set_option maxRecDepth 20000 in
theorem t_fX2_join {x0 : Int32} {x1 : Int64} {x3 : Int64} : okP (fX2_join x0 x1 x3) (fun _ => True) := by
  unfold fX2_join
  refine ok_ite (fun c_1 => ?_) (fun c_1 => ?_)
  · skip
    have c_1i : x0.toInt = 42 := bI_eq rfl (show (42 : Int32).toInt = 42 by decide) c_1
    exact ok_some trivial
  · skip
    have c_1i : x0.toInt ≠ 42 := bI_neq rfl (show (42 : Int32).toInt = 42 by decide) c_1
    refine ok_ite (fun c_2 => ?_) (fun c_2 => ?_)
    · skip
      have c_2i : x0.toInt = 43 := bI_eq rfl (show (43 : Int32).toInt = 43 by decide) c_2
      exact ok_some trivial
    · skip
      have c_2i : x0.toInt ≠ 43 := bI_neq rfl (show (43 : Int32).toInt = 43 by decide) c_2
      refine ok_ite (fun c_3 => ?_) (fun c_3 => ?_)
      · skip
        have c_3i : x0.toInt = 45 := bI_eq rfl (show (45 : Int32).toInt = 45 by decide) c_3
        exact ok_some trivial
      · skip
        have c_3i : x0.toInt ≠ 45 := bI_neq rfl (show (45 : Int32).toInt = 45 by decide) c_3
        refine ok_ite (fun c_4 => ?_) (fun c_4 => ?_)
        · skip
          have c_4i : x0.toInt = 47 := bI_eq rfl (show (47 : Int32).toInt = 47 by decide) c_4
          refine ok_ite (fun c_5 => ?_) (fun c_5 => ?_)
          · skip
            have c_5i : x3.toInt = 0 := lI_eq rfl (show (0 : Int64).toInt = 0 by decide) c_5
            exact ok_some trivial
          · skip
            have c_5i : x3.toInt ≠ 0 := lI_neq rfl (show (0 : Int64).toInt = 0 by decide) c_5
            refine ok_gd (by assumption) ?_
            exact ok_some trivial
        · skip
          have c_4i : x0.toInt ≠ 47 := bI_neq rfl (show (47 : Int32).toInt = 47 by decide) c_4
          refine ok_ite (fun c_6 => ?_) (fun c_6 => ?_)
          · skip
            have c_6i : x0.toInt = 309 := bI_eq rfl (show (309 : Int32).toInt = 309 by decide) c_6
            exact ok_some trivial
          · skip
            have c_6i : x0.toInt ≠ 309 := bI_neq rfl (show (309 : Int32).toInt = 309 by decide) c_6
            refine ok_ite (fun c_7 => ?_) (fun c_7 => ?_)
            · skip
              have c_7i : x0.toInt = 310 := bI_eq rfl (show (310 : Int32).toInt = 310 by decide) c_7
              exact ok_some trivial
            · skip
              have c_7i : x0.toInt ≠ 310 := bI_neq rfl (show (310 : Int32).toInt = 310 by decide) c_7
              refine ok_bd (t_fX2_compares) (fun r5 q_8 => ?_)
              have h_9 : r5 = 0 ∨ r5 = 1 := q_8
              refine ok_ite (fun c_10 => ?_) (fun c_10 => ?_)
              · skip
                have c_10i : r5.toInt = 0 := bI_eq rfl (show (0 : Int32).toInt = 0 by decide) c_10
                exact ok_some trivial
              · skip
                have c_10i : r5.toInt ≠ 0 := bI_neq rfl (show (0 : Int32).toInt = 0 by decide) c_10
                exact ok_some trivial

set_option maxHeartbeats 1000000 in
set_option maxRecDepth 20000 in
theorem t_fX2_wordOf {z_p1 : Sx} {z_p2 : Sx} {x0 : Int32} {x3 : Int32} : okP (fX2_wordOf z_p1 z_p2 x0 x3) (fun _ => True) := by
  unfold fX2_wordOf
  refine ok_ite (fun c_1 => ?_) (fun c_1 => ?_)
  · skip
    have c_1i : x0.toInt = 312 := bI_eq rfl (show (312 : Int32).toInt = 312 by decide) c_1
    exact ok_some trivial
  · skip
    have c_1i : x0.toInt ≠ 312 := bI_neq rfl (show (312 : Int32).toInt = 312 by decide) c_1
    refine ok_ite (fun c_2 => ?_) (fun c_2 => ?_)
    · skip
      have c_2i : x0.toInt = 313 := bI_eq rfl (show (313 : Int32).toInt = 313 by decide) c_2
      refine ok_bd (t_fX8_at (by first | assumption | omega | decide)) (fun r3 q_3 => ?_)
      exact ok_some trivial
    · skip
      have c_2i : x0.toInt ≠ 313 := bI_neq rfl (show (313 : Int32).toInt = 313 by decide) c_2
      refine ok_ite (fun c_4 => ?_) (fun c_4 => ?_)
      · skip
        have c_4i : x0.toInt = 314 := bI_eq rfl (show (314 : Int32).toInt = 314 by decide) c_4
        refine ok_bd (t_fX8_at (by first | assumption | omega | decide)) (fun r5 q_5 => ?_)
        exact ok_some trivial
      · skip
        have c_4i : x0.toInt ≠ 314 := bI_neq rfl (show (314 : Int32).toInt = 314 by decide) c_4
        refine ok_ite (fun c_6 => ?_) (fun c_6 => ?_)
        · skip
          have c_6i : x0.toInt = 315 := bI_eq rfl (show (315 : Int32).toInt = 315 by decide) c_6
          refine ok_bd (t_fX8_at (by first | assumption | omega | decide)) (fun r7 q_7 => ?_)
          exact ok_some trivial
        · skip
          have c_6i : x0.toInt ≠ 315 := bI_neq rfl (show (315 : Int32).toInt = 315 by decide) c_6
          refine ok_ite (fun c_8 => ?_) (fun c_8 => ?_)
          · skip
            have c_8i : x0.toInt = 316 := bI_eq rfl (show (316 : Int32).toInt = 316 by decide) c_8
            refine ok_bd (t_fX8_at (by first | assumption | omega | decide)) (fun r9 q_9 => ?_)
            exact ok_some trivial
          · skip
            have c_8i : x0.toInt ≠ 316 := bI_neq rfl (show (316 : Int32).toInt = 316 by decide) c_8
            refine ok_ite (fun c_10 => ?_) (fun c_10 => ?_)
            · skip
              have c_10i : x0.toInt = 317 := bI_eq rfl (show (317 : Int32).toInt = 317 by decide) c_10
              exact ok_some trivial
            · skip
              have c_10i : x0.toInt ≠ 317 := bI_neq rfl (show (317 : Int32).toInt = 317 by decide) c_10
              refine ok_ite (fun c_11 => ?_) (fun c_11 => ?_)
              · skip
                have c_11i : x0.toInt = 318 := bI_eq rfl (show (318 : Int32).toInt = 318 by decide) c_11
                refine ok_bd (t_fJ6_bitCount_0f7a4) (fun r11 q_12 => ?_)
                exact ok_some trivial
              · skip
                have c_11i : x0.toInt ≠ 318 := bI_neq rfl (show (318 : Int32).toInt = 318 by decide) c_11
                refine ok_ite (fun c_13 => ?_) (fun c_13 => ?_)
                · skip
                  have c_13i : x0.toInt = 319 := bI_eq rfl (show (319 : Int32).toInt = 319 by decide) c_13
                  refine ok_bd (t_fX8_at (by first | assumption | omega | decide)) (fun r13 q_14 => ?_)
                  exact ok_some trivial
                · skip
                  have c_13i : x0.toInt ≠ 319 := bI_neq rfl (show (319 : Int32).toInt = 319 by decide) c_13
                  exact ok_some trivial

set_option maxHeartbeats 1000000 in
set_option maxRecDepth 20000 in
theorem tl_lX2_reckon_10 {o_z_t : Sx} {k170 : Sx → Int32 → Option (Int64 × Sx)} {n_p1 : Nat} {f_p1 : Nat → Int32} {z_p4 : Sx} {z_p5 : Sx} {x3 : Int32} {x6 : Int32} (Hk170 : ∀ (y0 : Sx) (y1 : Int32), (FrL [0] o_z_t y0) → (-1 ≤ y1.toInt ∧ y1.toInt < 32) → okP (k170 y0 y1) (fun y => (FrL [0] o_z_t y.2))) (hnn_p1 : n_p1 < 2147483648) : ∀ (n : Nat) (z_t : Sx) (x7 : Int32) (x8 : Int32), (FrL [0] o_z_t z_t) → (-1 ≤ x7.toInt ∧ x7.toInt < 32) → (0 ≤ x8.toInt) → (n_p1 - x8.toInt).toNat < n → okP (lX2_reckon_10 k170 n_p1 f_p1 z_p4 z_p5 x3 x6 n z_t x7 x8) (fun y => (FrL [0] o_z_t y.2)) := by
  intro n
  induction n with
  | zero => intro _ _ _ _ _ _ hm; omega
  | succ n ih =>
    intro z_t x7 x8 frz_t i7 i8 hm
    rw [lX2_reckon_10]
    refine ok_ite (fun c_1 => ?_) (fun c_1 => ?_)
    · skip
      have c_1i : x3.toInt ≤ x8.toInt := bI_le rfl rfl c_1
      exact Hk170 z_t x7 frz_t (by first | assumption | omega | decide)
    · skip
      have c_1i : x3.toInt > x8.toInt := bI_nle rfl rfl c_1
      refine ok_ite (fun c_2 => ?_) (fun c_2 => ?_)
      · skip
        try have c_2i : (n_p1 : Int) ≤ x8.toInt := bI_le (nI_toInt (by omega)) rfl c_2
        exact Hk170 z_t x7 frz_t (by first | assumption | omega | decide)
      · skip
        try have c_2i : (n_p1 : Int) > x8.toInt := bI_nle (nI_toInt (by omega)) rfl c_2
        refine ok_gd (inb_of (by omega) (by omega)) ?_
        refine ok_jn ?_
        refine ok_jn ?_
        refine ok_ite (fun c_3 => ?_) (fun c_3 => ?_)
        · skip
          have c_3i : 0 ≤ (f_p1 x8.toNatClampNeg).toInt := bI_le (show (0 : Int32).toInt = 0 by decide) rfl c_3
          refine ok_ite (fun c_4 => ?_) (fun c_4 => ?_)
          · skip
            try have c_4i : (x7.toInt + 1) < 32 := bI_lt (i32_add rfl (show (1 : Int32).toInt = 1 by decide) (by omega) (by omega)) (show (32 : Int32).toInt = 32 by decide) c_4
            refine ok_jn ?_
            refine ok_ite (fun c_5 => ?_) (fun c_5 => ?_)
            · skip
              have c_5i : (f_p1 x8.toNatClampNeg).toInt < 0 := bI_lt rfl (show (0 : Int32).toInt = 0 by decide) c_5
              refine ok_bd (t_fX2_wordOf) (fun r15 q_6 => ?_)
              have e_7 : (x7 + 1).toInt = (x7.toInt + 1) := (i32_add rfl (show (1 : Int32).toInt = 1 by decide) (by omega) (by omega))
              refine ok_gd (inb_of (by omega) (by omega)) ?_
              have e_8 : (x8 + 1).toInt = (x8.toInt + 1) := (i32_add rfl (show (1 : Int32).toInt = 1 by decide) (by omega) (by omega))
              exact ih (sJ z_t 0 (x7 + 1).toNatClampNeg r15) (x7 + 1) (x8 + 1) (fr_J frz_t (by decide)) (by first | assumption | omega | decide) (by first | assumption | omega | decide) (by omega)
            · skip
              have c_5i : (f_p1 x8.toNatClampNeg).toInt ≥ 0 := bI_nlt rfl (show (0 : Int32).toInt = 0 by decide) c_5
              have e_9 : (x7 + 1).toInt = (x7.toInt + 1) := (i32_add rfl (show (1 : Int32).toInt = 1 by decide) (by omega) (by omega))
              refine ok_gd (inb_of (by omega) (by omega)) ?_
              have e_10 : (x8 + 1).toInt = (x8.toInt + 1) := (i32_add rfl (show (1 : Int32).toInt = 1 by decide) (by omega) (by omega))
              exact ih (sJ z_t 0 (x7 + 1).toNatClampNeg (f_p1 x8.toNatClampNeg).toInt64) (x7 + 1) (x8 + 1) (fr_J frz_t (by decide)) (by first | assumption | omega | decide) (by first | assumption | omega | decide) (by omega)
          · skip
            try have c_4i : (x7.toInt + 1) ≥ 32 := bI_nlt (i32_add rfl (show (1 : Int32).toInt = 1 by decide) (by omega) (by omega)) (show (32 : Int32).toInt = 32 by decide) c_4
            exact ok_some frz_t
        · skip
          have c_3i : 0 > (f_p1 x8.toNatClampNeg).toInt := bI_nle (show (0 : Int32).toInt = 0 by decide) rfl c_3
          refine ok_ite (fun c_11 => ?_) (fun c_11 => ?_)
          · skip
            have c_11i : (-312) < (f_p1 x8.toNatClampNeg).toInt := bI_lt (show (-312 : Int32).toInt = -312 by decide) rfl c_11
            refine ok_ite (fun c_12 => ?_) (fun c_12 => ?_)
            · skip
              have c_12i : (f_p1 x8.toNatClampNeg).toInt = (-311) := bI_eq rfl (show (-311 : Int32).toInt = -311 by decide) c_12
              refine ok_ite (fun c_13 => ?_) (fun c_13 => ?_)
              · skip
                have c_13i : 0 ≤ x7.toInt := bI_le (show (0 : Int32).toInt = 0 by decide) rfl c_13
                refine ok_gd (inb_of (by omega) (by omega)) ?_
                have e_14 : (x8 + 1).toInt = (x8.toInt + 1) := (i32_add rfl (show (1 : Int32).toInt = 1 by decide) (by omega) (by omega))
                exact ih (sJ z_t 0 x7.toNatClampNeg (1 - (gJ z_t 0 x7.toNatClampNeg))) x7 (x8 + 1) (fr_J frz_t (by decide)) (by first | assumption | omega | decide) (by first | assumption | omega | decide) (by omega)
              · skip
                have c_13i : 0 > x7.toInt := bI_nle (show (0 : Int32).toInt = 0 by decide) rfl c_13
                exact ok_some frz_t
            · skip
              have c_12i : (f_p1 x8.toNatClampNeg).toInt ≠ (-311) := bI_neq rfl (show (-311 : Int32).toInt = -311 by decide) c_12
              refine ok_ite (fun c_15 => ?_) (fun c_15 => ?_)
              · skip
                have c_15i : 1 ≤ x7.toInt := bI_le (show (1 : Int32).toInt = 1 by decide) rfl c_15
                have e_16 : (x7 + (-1)).toInt = (x7.toInt + (-1)) := (i32_add rfl (show (-1 : Int32).toInt = -1 by decide) (by omega) (by omega))
                refine ok_gd (inb_of (by omega) (by omega)) ?_
                have e_17 : ((x7 + (-1)) + 1).toInt = ((x7.toInt + (-1)) + 1) := (i32_add (i32_add rfl (show (-1 : Int32).toInt = -1 by decide) (by omega) (by omega)) (show (1 : Int32).toInt = 1 by decide) (by omega) (by omega))
                refine ok_gd (inb_of (by omega) (by omega)) ?_
                refine ok_bd (t_fX2_join) (fun r23 q_18 => ?_)
                have e_19 : (x8 + 1).toInt = (x8.toInt + 1) := (i32_add rfl (show (1 : Int32).toInt = 1 by decide) (by omega) (by omega))
                exact ih (sJ z_t 0 (x7 + (-1)).toNatClampNeg r23) (x7 + (-1)) (x8 + 1) (fr_J frz_t (by decide)) (by first | assumption | omega | decide) (by first | assumption | omega | decide) (by omega)
              · skip
                have c_15i : 1 > x7.toInt := bI_nle (show (1 : Int32).toInt = 1 by decide) rfl c_15
                exact ok_some frz_t
          · skip
            have c_11i : (-312) ≥ (f_p1 x8.toNatClampNeg).toInt := bI_nlt (show (-312 : Int32).toInt = -312 by decide) rfl c_11
            refine ok_ite (fun c_20 => ?_) (fun c_20 => ?_)
            · skip
              try have c_20i : (x7.toInt + 1) < 32 := bI_lt (i32_add rfl (show (1 : Int32).toInt = 1 by decide) (by omega) (by omega)) (show (32 : Int32).toInt = 32 by decide) c_20
              refine ok_jn ?_
              refine ok_ite (fun c_21 => ?_) (fun c_21 => ?_)
              · skip
                have c_21i : (f_p1 x8.toNatClampNeg).toInt < 0 := bI_lt rfl (show (0 : Int32).toInt = 0 by decide) c_21
                refine ok_bd (t_fX2_wordOf) (fun r15 q_22 => ?_)
                have e_23 : (x7 + 1).toInt = (x7.toInt + 1) := (i32_add rfl (show (1 : Int32).toInt = 1 by decide) (by omega) (by omega))
                refine ok_gd (inb_of (by omega) (by omega)) ?_
                have e_24 : (x8 + 1).toInt = (x8.toInt + 1) := (i32_add rfl (show (1 : Int32).toInt = 1 by decide) (by omega) (by omega))
                exact ih (sJ z_t 0 (x7 + 1).toNatClampNeg r15) (x7 + 1) (x8 + 1) (fr_J frz_t (by decide)) (by first | assumption | omega | decide) (by first | assumption | omega | decide) (by omega)
              · skip
                have c_21i : (f_p1 x8.toNatClampNeg).toInt ≥ 0 := bI_nlt rfl (show (0 : Int32).toInt = 0 by decide) c_21
                have e_25 : (x7 + 1).toInt = (x7.toInt + 1) := (i32_add rfl (show (1 : Int32).toInt = 1 by decide) (by omega) (by omega))
                refine ok_gd (inb_of (by omega) (by omega)) ?_
                have e_26 : (x8 + 1).toInt = (x8.toInt + 1) := (i32_add rfl (show (1 : Int32).toInt = 1 by decide) (by omega) (by omega))
                exact ih (sJ z_t 0 (x7 + 1).toNatClampNeg (f_p1 x8.toNatClampNeg).toInt64) (x7 + 1) (x8 + 1) (fr_J frz_t (by decide)) (by first | assumption | omega | decide) (by first | assumption | omega | decide) (by omega)
            · skip
              try have c_20i : (x7.toInt + 1) ≥ 32 := bI_nlt (i32_add rfl (show (1 : Int32).toInt = 1 by decide) (by omega) (by omega)) (show (32 : Int32).toInt = 32 by decide) c_20
              exact ok_some frz_t
set_option maxHeartbeats 1000000 in
set_option maxRecDepth 20000 in
theorem t_fX2_reckon {z_t : Sx} {n_p1 : Nat} {f_p1 : Nat → Int32} {z_p4 : Sx} {z_p5 : Sx} {x2 : Int32} {x3 : Int32} {x6 : Int32} (hnn_p1 : n_p1 < 2147483648) : okP (fX2_reckon z_t n_p1 f_p1 z_p4 z_p5 x2 x3 x6) (fun y => (FrL [0] z_t y.2)) := by
  unfold fX2_reckon
  have e_3 : (-1 : Int32).toInt = (-1) := (show (-1 : Int32).toInt = -1 by decide)
  have e_4 : (mxI x2 0).toInt = (max x2.toInt 0) := (mxI_toInt rfl (show (0 : Int32).toInt = 0 by decide))
  refine tl_lX2_reckon_10 (fun z26 i27 k_1 k_2 => ?_) (by first | assumption | omega | decide) FU z_t (-1) (mxI x2 0) fr_rf (by first | assumption | omega | decide) (by rw [mxI_toInt rfl (show (0 : Int32).toInt = 0 by decide)]; omega) (FU_lt (by have := mxI_toInt (x := x2) (y := 0) rfl (show (0 : Int32).toInt = 0 by decide); omega))
  · skip
    refine ok_ite (fun c_5 => ?_) (fun c_5 => ?_)
    · skip
      have c_5i : 0 ≤ i27.toInt := bI_le (show (0 : Int32).toInt = 0 by decide) rfl c_5
      refine ok_gd (inb_of (by omega) (by omega)) ?_
      exact ok_some k_1
    · skip
      have c_5i : 0 > i27.toInt := bI_nle (show (0 : Int32).toInt = 0 by decide) rfl c_5
      exact ok_some k_1

set_option maxHeartbeats 1000000 in
set_option maxRecDepth 20000 in
theorem tl_lX2_lookClause_3 {o_z_t : Sx} {z_p1 : Sx} {nc_p2 : Nat} {z_p2 : Sx} {z_p3 : Sx} {x4 : Int32} (hnnc_p2 : nc_p2 < 2147483648) : ∀ (n : Nat) (z_t : Sx) (x5 : Int32), (FrL [0] o_z_t z_t) → ((gI z_p2 1).toInt + 0 - x5.toInt).toNat < n → okP (lX2_lookClause_3 z_p1 nc_p2 z_p2 z_p3 x4 n z_t x5) (fun y => (FrL [0] o_z_t y.2)) := by
  intro n
  induction n with
  | zero => intro _ _ _ hm; omega
  | succ n ih =>
    intro z_t x5 frz_t hm
    rw [lX2_lookClause_3]
    refine ok_ite (fun c_1 => ?_) (fun c_1 => ?_)
    · skip
      have c_1i : (gI z_p2 1).toInt ≤ x5.toInt := bI_le rfl rfl c_1
      exact ok_some frz_t
    · skip
      have c_1i : (gI z_p2 1).toInt > x5.toInt := bI_nle rfl rfl c_1
      refine ok_bd (t_fX8_at (by first | assumption | omega | decide)) (fun r3 q_2 => ?_)
      refine ok_bd (t_fX8_at (by first | assumption | omega | decide)) (fun r5 q_3 => ?_)
      refine ok_bd (t_fX8_at (by first | assumption | omega | decide)) (fun r7 q_4 => ?_)
      refine ok_jn ?_
      refine ok_ite (fun c_5 => ?_) (fun c_5 => ?_)
      · skip
        have c_5i : r3.toInt ≤ r7.toInt := bI_le rfl rfl c_5
        refine ok_jn ?_
        refine ok_ite (fun c_6 => ?_) (fun c_6 => ?_)
        · skip
          have c_6i : 0 = 0 := bI_eq (show (0 : Int32).toInt = 0 by decide) (show (0 : Int32).toInt = 0 by decide) c_6
          have e_7 : (x5 + 1).toInt = (x5.toInt + 1) := (i32_add rfl (show (1 : Int32).toInt = 1 by decide) (by omega) (by omega))
          exact ih z_t (x5 + 1) frz_t (by omega)
        · skip
          have c_6i : 0 ≠ 0 := bI_neq (show (0 : Int32).toInt = 0 by decide) (show (0 : Int32).toInt = 0 by decide) c_6
          exact absurd (by decide) c_6
      · skip
        have c_5i : r3.toInt > r7.toInt := bI_nle rfl rfl c_5
        refine ok_jn ?_
        refine ok_ite (fun c_8 => ?_) (fun c_8 => ?_)
        · skip
          have c_8i : 1 = 0 := bI_eq (show (1 : Int32).toInt = 1 by decide) (show (0 : Int32).toInt = 0 by decide) c_8
          exact absurd c_8 (by decide)
        · skip
          have c_8i : 1 ≠ 0 := bI_neq (show (1 : Int32).toInt = 1 by decide) (show (0 : Int32).toInt = 0 by decide) c_8
          refine ok_ite (fun c_9 => ?_) (fun c_9 => ?_)
          · skip
            have c_9i : r3.toInt = r5.toInt := bI_eq rfl rfl c_9
            exact ok_some frz_t
          · skip
            have c_9i : r3.toInt ≠ r5.toInt := bI_neq rfl rfl c_9
            refine ok_bd2 (t_fX2_reckon (by first | assumption | omega | decide)) (fun r15 z16 q_10 => ?_)
            have h_11 : FrL [0] z_t z16 := q_10
            refine ok_ite (fun c_12 => ?_) (fun c_12 => ?_)
            · skip
              have c_12i : r15.toInt = 0 := lI_eq rfl (show (0 : Int64).toInt = 0 by decide) c_12
              have e_13 : (x5 + 1).toInt = (x5.toInt + 1) := (i32_add rfl (show (1 : Int32).toInt = 1 by decide) (by omega) (by omega))
              exact ih z16 (x5 + 1) (fr_tr frz_t h_11 (by decide)) (by omega)
            · skip
              have c_12i : r15.toInt ≠ 0 := lI_neq rfl (show (0 : Int64).toInt = 0 by decide) c_12
              exact ok_some (fr_tr frz_t h_11 (by decide))
set_option maxHeartbeats 1000000 in
set_option maxRecDepth 20000 in
theorem t_fX2_lookClause {z_t : Sx} {z_p1 : Sx} {nc_p2 : Nat} {z_p2 : Sx} {z_p3 : Sx} {x4 : Int32} (hnnc_p2 : nc_p2 < 2147483648) : okP (fX2_lookClause z_t z_p1 nc_p2 z_p2 z_p3 x4) (fun y => (FrL [0] z_t y.2)) := by
  unfold fX2_lookClause
  have e_1 : (0 : Int32).toInt = 0 := (show (0 : Int32).toInt = 0 by decide)
  refine tl_lX2_lookClause_3 (by first | assumption | omega | decide) FU z_t 0 fr_rf (FU_lt (by have := n_rng (gI z_p2 1); omega))

set_option maxHeartbeats 1000000 in
set_option maxRecDepth 20000 in
theorem tl_lX2_nextFault_9 {o_z_t : Sx} {z_p1 : Sx} {nc_p2 : Nat} {z_p2 : Sx} {z_p3 : Sx} (hnnc_p2 : nc_p2 < 2147483648) : ∀ (n : Nat) (z_t : Sx) (x4 : Int32) (x5 : Int64) (x7 : Int32), (FrL [0] o_z_t z_t) → ((gI z_p1 3).toInt + 0 - x7.toInt).toNat < n → okP (lX2_nextFault_9 z_p1 nc_p2 z_p2 z_p3 n z_t x4 x5 x7) (fun y => (FrL [0] o_z_t y.2)) := by
  intro n
  induction n with
  | zero => intro _ _ _ _ _ hm; omega
  | succ n ih =>
    intro z_t x4 x5 x7 frz_t hm
    rw [lX2_nextFault_9]
    refine ok_ite (fun c_1 => ?_) (fun c_1 => ?_)
    · skip
      have c_1i : (gI z_p1 3).toInt ≤ x7.toInt := bI_le rfl rfl c_1
      exact ok_some frz_t
    · skip
      have c_1i : (gI z_p1 3).toInt > x7.toInt := bI_nle rfl rfl c_1
      refine ok_bd (t_fX0_gone) (fun r3 q_2 => ?_)
      refine ok_bd (t_fX7_isOpen) (fun r5 q_3 => ?_)
      have h_4 : r5 = 0 ∨ r5 = 1 := q_3
      refine ok_jn ?_
      refine ok_jn ?_
      refine ok_ite (fun c_5 => ?_) (fun c_5 => ?_)
      · skip
        have c_5i : r5.toInt = 0 := bI_eq rfl (show (0 : Int32).toInt = 0 by decide) c_5
        refine ok_jn ?_
        refine ok_ite (fun c_6 => ?_) (fun c_6 => ?_)
        · skip
          have c_6i : 0 = 0 := bI_eq (show (0 : Int32).toInt = 0 by decide) (show (0 : Int32).toInt = 0 by decide) c_6
          refine ok_jn ?_
          refine ok_ite (fun c_7 => ?_) (fun c_7 => ?_)
          · skip
            have c_7i : (-1) < 0 := bI_lt (show (-1 : Int32).toInt = -1 by decide) (show (0 : Int32).toInt = 0 by decide) c_7
            have e_8 : (x7 + 1).toInt = (x7.toInt + 1) := (i32_add rfl (show (1 : Int32).toInt = 1 by decide) (by omega) (by omega))
            exact ih z_t x4 x5 (x7 + 1) frz_t (by omega)
          · skip
            have c_7i : (-1) ≥ 0 := bI_nlt (show (-1 : Int32).toInt = -1 by decide) (show (0 : Int32).toInt = 0 by decide) c_7
            exact absurd (by decide) c_7
        · skip
          have c_6i : 0 ≠ 0 := bI_neq (show (0 : Int32).toInt = 0 by decide) (show (0 : Int32).toInt = 0 by decide) c_6
          exact absurd (by decide) c_6
      · skip
        have c_5i : r5.toInt ≠ 0 := bI_neq rfl (show (0 : Int32).toInt = 0 by decide) c_5
        refine ok_bd (t_fX8_at (by first | assumption | omega | decide)) (fun r33 q_9 => ?_)
        refine ok_ite (fun c_10 => ?_) (fun c_10 => ?_)
        · skip
          have c_10i : (gI z_p3 0).toInt < r33.toInt := bI_lt rfl rfl c_10
          refine ok_jn ?_
          refine ok_ite (fun c_11 => ?_) (fun c_11 => ?_)
          · skip
            have c_11i : 0 = 0 := bI_eq (show (0 : Int32).toInt = 0 by decide) (show (0 : Int32).toInt = 0 by decide) c_11
            refine ok_jn ?_
            refine ok_ite (fun c_12 => ?_) (fun c_12 => ?_)
            · skip
              have c_12i : (-1) < 0 := bI_lt (show (-1 : Int32).toInt = -1 by decide) (show (0 : Int32).toInt = 0 by decide) c_12
              have e_13 : (x7 + 1).toInt = (x7.toInt + 1) := (i32_add rfl (show (1 : Int32).toInt = 1 by decide) (by omega) (by omega))
              exact ih z_t x4 x5 (x7 + 1) frz_t (by omega)
            · skip
              have c_12i : (-1) ≥ 0 := bI_nlt (show (-1 : Int32).toInt = -1 by decide) (show (0 : Int32).toInt = 0 by decide) c_12
              exact absurd (by decide) c_12
          · skip
            have c_11i : 0 ≠ 0 := bI_neq (show (0 : Int32).toInt = 0 by decide) (show (0 : Int32).toInt = 0 by decide) c_11
            exact absurd (by decide) c_11
        · skip
          have c_10i : (gI z_p3 0).toInt ≥ r33.toInt := bI_nlt rfl rfl c_10
          refine ok_jn ?_
          refine ok_ite (fun c_14 => ?_) (fun c_14 => ?_)
          · skip
            have c_14i : 1 = 0 := bI_eq (show (1 : Int32).toInt = 1 by decide) (show (0 : Int32).toInt = 0 by decide) c_14
            exact absurd c_14 (by decide)
          · skip
            have c_14i : 1 ≠ 0 := bI_neq (show (1 : Int32).toInt = 1 by decide) (show (0 : Int32).toInt = 0 by decide) c_14
            refine ok_bd2 (t_fX2_lookClause (by first | assumption | omega | decide)) (fun r28 z29 q_15 => ?_)
            have h_16 : FrL [0] z_t z29 := q_15
            refine ok_jn ?_
            refine ok_ite (fun c_17 => ?_) (fun c_17 => ?_)
            · skip
              have c_17i : r28.toInt < 0 := bI_lt rfl (show (0 : Int32).toInt = 0 by decide) c_17
              have e_18 : (x7 + 1).toInt = (x7.toInt + 1) := (i32_add rfl (show (1 : Int32).toInt = 1 by decide) (by omega) (by omega))
              exact ih z29 x4 x5 (x7 + 1) (fr_tr frz_t h_16 (by decide)) (by omega)
            · skip
              have c_17i : r28.toInt ≥ 0 := bI_nlt rfl (show (0 : Int32).toInt = 0 by decide) c_17
              refine ok_bd (t_fX8_at (by first | assumption | omega | decide)) (fun r17 q_19 => ?_)
              refine ok_bd (t_fX8_at (by first | assumption | omega | decide)) (fun r19 q_20 => ?_)
              refine ok_bd2 (t_fX2_reckon (by first | assumption | omega | decide)) (fun r21 z22 q_21 => ?_)
              have h_22 : FrL [0] z29 z22 := q_21
              refine ok_jn ?_
              refine ok_ite (fun c_23 => ?_) (fun c_23 => ?_)
              · skip
                have c_23i : x4.toInt < 0 := bI_lt rfl (show (0 : Int32).toInt = 0 by decide) c_23
                have e_24 : (x7 + 1).toInt = (x7.toInt + 1) := (i32_add rfl (show (1 : Int32).toInt = 1 by decide) (by omega) (by omega))
                exact ih z22 x7 r21 (x7 + 1) (fr_tr (fr_tr frz_t h_16 (by decide)) h_22 (by decide)) (by omega)
              · skip
                have c_23i : x4.toInt ≥ 0 := bI_nlt rfl (show (0 : Int32).toInt = 0 by decide) c_23
                refine ok_ite (fun c_25 => ?_) (fun c_25 => ?_)
                · skip
                  have c_25i : x5.toInt ≤ r21.toInt := lI_le rfl rfl c_25
                  have e_26 : (x7 + 1).toInt = (x7.toInt + 1) := (i32_add rfl (show (1 : Int32).toInt = 1 by decide) (by omega) (by omega))
                  exact ih z22 x4 x5 (x7 + 1) (fr_tr (fr_tr frz_t h_16 (by decide)) h_22 (by decide)) (by omega)
                · skip
                  have c_25i : x5.toInt > r21.toInt := lI_nle rfl rfl c_25
                  have e_27 : (x7 + 1).toInt = (x7.toInt + 1) := (i32_add rfl (show (1 : Int32).toInt = 1 by decide) (by omega) (by omega))
                  exact ih z22 x7 r21 (x7 + 1) (fr_tr (fr_tr frz_t h_16 (by decide)) h_22 (by decide)) (by omega)
set_option maxHeartbeats 1000000 in
set_option maxRecDepth 20000 in
theorem t_fX2_nextFault {z_t : Sx} {z_p1 : Sx} {nc_p2 : Nat} {z_p2 : Sx} {z_p3 : Sx} (hnnc_p2 : nc_p2 < 2147483648) : okP (fX2_nextFault z_t z_p1 nc_p2 z_p2 z_p3) (fun y => (FrL [0] z_t y.2)) := by
  unfold fX2_nextFault
  have e_1 : (-1 : Int32).toInt = (-1) := (show (-1 : Int32).toInt = -1 by decide)
  have e_2 : (0 : Int32).toInt = 0 := (show (0 : Int32).toInt = 0 by decide)
  refine tl_lX2_nextFault_9 (by first | assumption | omega | decide) FU z_t (-1) 0 0 fr_rf (FU_lt (by have := n_rng (gI z_p1 3); omega))

set_option maxHeartbeats 1000000 in
set_option maxRecDepth 20000 in
theorem tl_lX2_stopsAt_3 {o_z_t : Sx} {z_p1 : Sx} {nc_p2 : Nat} {z_p2 : Sx} {z_p3 : Sx} {x4 : Int32} (hnnc_p2 : nc_p2 < 2147483648) : ∀ (n : Nat) (z_t : Sx) (x5 : Int32), (FrL [0] o_z_t z_t) → ((gI z_p2 1).toInt + 0 - x5.toInt).toNat < n → okP (lX2_stopsAt_3 z_p1 nc_p2 z_p2 z_p3 x4 n z_t x5) (fun y => (y.1 = 0 ∨ y.1 = 1) ∧ (FrL [0] o_z_t y.2)) := by
  intro n
  induction n with
  | zero => intro _ _ _ hm; omega
  | succ n ih =>
    intro z_t x5 frz_t hm
    rw [lX2_stopsAt_3]
    refine ok_ite (fun c_1 => ?_) (fun c_1 => ?_)
    · skip
      have c_1i : (gI z_p2 1).toInt ≤ x5.toInt := bI_le rfl rfl c_1
      exact ok_some ⟨Or.inl rfl, frz_t⟩
    · skip
      have c_1i : (gI z_p2 1).toInt > x5.toInt := bI_nle rfl rfl c_1
      refine ok_bd (t_fX8_at (by first | assumption | omega | decide)) (fun r3 q_2 => ?_)
      refine ok_bd (t_fX8_at (by first | assumption | omega | decide)) (fun r5 q_3 => ?_)
      refine ok_jn ?_
      refine ok_ite (fun c_4 => ?_) (fun c_4 => ?_)
      · skip
        have c_4i : r5.toInt = r3.toInt := bI_eq rfl rfl c_4
        refine ok_jn ?_
        refine ok_ite (fun c_5 => ?_) (fun c_5 => ?_)
        · skip
          have c_5i : 1 = 0 := bI_eq (show (1 : Int32).toInt = 1 by decide) (show (0 : Int32).toInt = 0 by decide) c_5
          exact absurd c_5 (by decide)
        · skip
          have c_5i : 1 ≠ 0 := bI_neq (show (1 : Int32).toInt = 1 by decide) (show (0 : Int32).toInt = 0 by decide) c_5
          refine ok_bd (t_fX8_at (by first | assumption | omega | decide)) (fun r12 q_6 => ?_)
          refine ok_bd2 (t_fX2_reckon (by first | assumption | omega | decide)) (fun r14 z15 q_7 => ?_)
          have h_8 : FrL [0] z_t z15 := q_7
          refine ok_ite (fun c_9 => ?_) (fun c_9 => ?_)
          · skip
            have c_9i : r14.toInt = 0 := lI_eq rfl (show (0 : Int64).toInt = 0 by decide) c_9
            have e_10 : (x5 + 1).toInt = (x5.toInt + 1) := (i32_add rfl (show (1 : Int32).toInt = 1 by decide) (by omega) (by omega))
            exact ih z15 (x5 + 1) (fr_tr frz_t h_8 (by decide)) (by omega)
          · skip
            have c_9i : r14.toInt ≠ 0 := lI_neq rfl (show (0 : Int64).toInt = 0 by decide) c_9
            exact ok_some ⟨Or.inr rfl, (fr_tr frz_t h_8 (by decide))⟩
      · skip
        have c_4i : r5.toInt ≠ r3.toInt := bI_neq rfl rfl c_4
        refine ok_jn ?_
        refine ok_ite (fun c_11 => ?_) (fun c_11 => ?_)
        · skip
          have c_11i : 0 = 0 := bI_eq (show (0 : Int32).toInt = 0 by decide) (show (0 : Int32).toInt = 0 by decide) c_11
          have e_12 : (x5 + 1).toInt = (x5.toInt + 1) := (i32_add rfl (show (1 : Int32).toInt = 1 by decide) (by omega) (by omega))
          exact ih z_t (x5 + 1) frz_t (by omega)
        · skip
          have c_11i : 0 ≠ 0 := bI_neq (show (0 : Int32).toInt = 0 by decide) (show (0 : Int32).toInt = 0 by decide) c_11
          exact absurd (by decide) c_11
set_option maxHeartbeats 1000000 in
set_option maxRecDepth 20000 in
theorem t_fX2_stopsAt {z_t : Sx} {z_p1 : Sx} {nc_p2 : Nat} {z_p2 : Sx} {z_p3 : Sx} {x4 : Int32} (hnnc_p2 : nc_p2 < 2147483648) : okP (fX2_stopsAt z_t z_p1 nc_p2 z_p2 z_p3 x4) (fun y => (y.1 = 0 ∨ y.1 = 1) ∧ (FrL [0] z_t y.2)) := by
  unfold fX2_stopsAt
  have e_1 : (0 : Int32).toInt = 0 := (show (0 : Int32).toInt = 0 by decide)
  refine tl_lX2_stopsAt_3 (by first | assumption | omega | decide) FU z_t 0 fr_rf (FU_lt (by have := n_rng (gI z_p2 1); omega))

set_option maxHeartbeats 1000000 in
set_option maxRecDepth 20000 in
theorem tl_lX2_play_3 {o_z_t : Sx} {o_z_p3 : Sx} {z_p1 : Sx} {nc_p2 : Nat} {z_p2 : Sx} (hnnc_p2 : nc_p2 < 2147483648) : ∀ (n : Nat) (z_t : Sx) (z_p3 : Sx) (x4 : Int32), (FrL [0] o_z_t z_t) → (FrL [0, 1, 2, 4, 5] o_z_p3 z_p3) → (200 + 0 - x4.toInt).toNat < n → okP (lX2_play_3 z_p1 nc_p2 z_p2 n z_t z_p3 x4) (fun y => (FrL [0] o_z_t y.2.1) ∧ (FrL [0, 1, 2, 4, 5] o_z_p3 y.2.2)) := by
  intro n
  induction n with
  | zero => intro _ _ _ _ _ hm; omega
  | succ n ih =>
    intro z_t z_p3 x4 frz_t frz_p3 hm
    rw [lX2_play_3]
    refine ok_ite (fun c_1 => ?_) (fun c_1 => ?_)
    · skip
      have c_1i : 200 ≤ x4.toInt := bI_le (show (200 : Int32).toInt = 200 by decide) rfl c_1
      exact ok_some ⟨frz_t, frz_p3⟩
    · skip
      have c_1i : 200 > x4.toInt := bI_nle (show (200 : Int32).toInt = 200 by decide) rfl c_1
      refine ok_bd2 (t_fX2_nextFault (by first | assumption | omega | decide)) (fun r3 z4 q_2 => ?_)
      have h_3 : FrL [0] z_t z4 := q_2
      refine ok_ite (fun c_4 => ?_) (fun c_4 => ?_)
      · skip
        have c_4i : r3.toInt < 0 := bI_lt rfl (show (0 : Int32).toInt = 0 by decide) c_4
        exact ok_some ⟨(fr_tr frz_t h_3 (by decide)), frz_p3⟩
      · skip
        have c_4i : r3.toInt ≥ 0 := bI_nlt rfl (show (0 : Int32).toInt = 0 by decide) c_4
        refine ok_bd2 (t_fX2_stopsAt (by first | assumption | omega | decide)) (fun r7 z8 q_5 => ?_)
        have h_6 : r7 = 0 ∨ r7 = 1 := q_5.1
        have h_7 : FrL [0] z4 z8 := q_5.2
        refine ok_ite (fun c_8 => ?_) (fun c_8 => ?_)
        · skip
          have c_8i : r7.toInt = 0 := bI_eq rfl (show (0 : Int32).toInt = 0 by decide) c_8
          refine ok_bd2 (t_fX0_lookFor) (fun r11 z12 q_9 => ?_)
          have h_10 : r11 = 0 ∨ r11 = 1 := q_9.1
          have h_11 : FrL [0, 1, 2, 4, 5] z_p3 z12 := q_9.2
          have e_12 : (x4 + 1).toInt = (x4.toInt + 1) := (i32_add rfl (show (1 : Int32).toInt = 1 by decide) (by omega) (by omega))
          exact ih z8 z12 (x4 + 1) (fr_tr (fr_tr frz_t h_3 (by decide)) h_7 (by decide)) (fr_tr frz_p3 h_11 (by decide)) (by omega)
        · skip
          have c_8i : r7.toInt ≠ 0 := bI_neq rfl (show (0 : Int32).toInt = 0 by decide) c_8
          exact ok_some ⟨(fr_tr (fr_tr frz_t h_3 (by decide)) h_7 (by decide)), frz_p3⟩
set_option maxHeartbeats 1000000 in
set_option maxRecDepth 20000 in
theorem t_fX2_play {z_t : Sx} {z_p1 : Sx} {nc_p2 : Nat} {z_p2 : Sx} {z_p3 : Sx} (hnnc_p2 : nc_p2 < 2147483648) : okP (fX2_play z_t z_p1 nc_p2 z_p2 z_p3) (fun y => (FrL [0] z_t y.2.1) ∧ (FrL [0, 1, 2, 4, 5] z_p3 y.2.2)) := by
  unfold fX2_play
  have e_1 : (0 : Int32).toInt = 0 := (show (0 : Int32).toInt = 0 by decide)
  refine tl_lX2_play_3 (by first | assumption | omega | decide) FU z_t z_p3 0 fr_rf fr_rf (FU_lt (by omega))

set_option maxHeartbeats 1000000 in
set_option maxRecDepth 20000 in
theorem t_fX4_emit {z_t : Sx} {x1 : Int32} : okP (fX4_emit z_t x1) (fun y => (FrL [1, 2] z_t y)) := by
  unfold fX4_emit
  refine ok_ite (fun c_1 => ?_) (fun c_1 => ?_)
  · skip
    have c_1i : (gI z_t 2).toInt < 0 := bI_lt rfl (show (0 : Int32).toInt = 0 by decide) c_1
    exact ok_some fr_rf
  · skip
    have c_1i : (gI z_t 2).toInt ≥ 0 := bI_nlt rfl (show (0 : Int32).toInt = 0 by decide) c_1
    refine ok_ite (fun c_2 => ?_) (fun c_2 => ?_)
    · skip
      have c_2i : 400 ≤ (gI z_t 2).toInt := bI_le (show (400 : Int32).toInt = 400 by decide) rfl c_2
      exact ok_some fr_rf
    · skip
      have c_2i : 400 > (gI z_t 2).toInt := bI_nle (show (400 : Int32).toInt = 400 by decide) rfl c_2
      refine ok_gd (inb_of (by omega) (by omega)) ?_
      exact ok_some (fr_I (fr_T fr_rf (by decide)) (by decide))

set_option maxHeartbeats 1000000 in
set_option maxRecDepth 20000 in
theorem t_fX6_step {z_t : Sx} : okP (fX6_step z_t) (fun y => (FrL [4, 5, 6, 7] z_t y)) := by
  unfold fX6_step
  refine ok_ite (fun c_1 => ?_) (fun c_1 => ?_)
  · skip
    have c_1i : (gI z_t 4).toInt < 0 := bI_lt rfl (show (0 : Int32).toInt = 0 by decide) c_1
    exact ok_some fr_rf
  · skip
    have c_1i : (gI z_t 4).toInt ≥ 0 := bI_nlt rfl (show (0 : Int32).toInt = 0 by decide) c_1
    refine ok_ite (fun c_2 => ?_) (fun c_2 => ?_)
    · skip
      have c_2i : (gI z_t 3).toInt ≤ (gI z_t 4).toInt := bI_le rfl rfl c_2
      exact ok_some fr_rf
    · skip
      have c_2i : (gI z_t 3).toInt > (gI z_t 4).toInt := bI_nle rfl rfl c_2
      refine ok_ite (fun c_3 => ?_) (fun c_3 => ?_)
      · skip
        have c_3i : 401 ≤ (gI z_t 4).toInt := bI_le (show (401 : Int32).toInt = 401 by decide) rfl c_3
        exact ok_some fr_rf
      · skip
        have c_3i : 401 > (gI z_t 4).toInt := bI_nle (show (401 : Int32).toInt = 401 by decide) rfl c_3
        refine ok_gd (inb_of (by omega) (by omega)) ?_
        refine ok_nm ?_
        refine ok_nm ?_
        exact ok_some (fr_I (fr_I (fr_I (fr_I fr_rf (by decide)) (by decide)) (by decide)) (by decide))

set_option maxHeartbeats 1000000 in
set_option maxRecDepth 20000 in
theorem tl_lX4_readTest_9 {o_z_t : Sx} {o_z_t_0 : Sx} {rec : Sx → Sx → Int32 → Option (Sx × Sx)} {k133 : Sx → Sx → Int32 → Option (Sx × Sx)} {x1 : Int32} {d : Nat} (hrec : ∀ (z_t : Sx) (z_t_0 : Sx) (x1 : Int32), (0 ≤ x1.toInt ∧ x1.toInt ≤ 10 ∧ 11 ≤ x1.toInt + d) → okP (rec z_t z_t_0 x1) (fun y => (FrL [1, 2, 3] z_t y.1) ∧ (FrL [4, 5, 6, 7, 8] z_t_0 y.2))) (Hk133 : ∀ (y0 : Sx) (y1 : Sx) (y2 : Int32), (FrL [1, 2, 3] o_z_t y0) → (FrL [4, 5, 6, 7, 8] o_z_t_0 y1) → okP (k133 y0 y1 y2) (fun y => (FrL [1, 2, 3] o_z_t y.1) ∧ (FrL [4, 5, 6, 7, 8] o_z_t_0 y.2))) (d0 : 0 ≤ x1.toInt ∧ x1.toInt ≤ 10 ∧ 11 ≤ x1.toInt + d) : ∀ (n : Nat) (z_t : Sx) (z_t_0 : Sx) (x2 : Int32) (x3 : Int32), (FrL [1, 2, 3] o_z_t z_t) → (FrL [4, 5, 6, 7, 8] o_z_t_0 z_t_0) → (400 + 0 - x3.toInt).toNat < n → okP (lX4_readTest_9 rec k133 x1 n z_t z_t_0 x2 x3) (fun y => (FrL [1, 2, 3] o_z_t y.1) ∧ (FrL [4, 5, 6, 7, 8] o_z_t_0 y.2)) := by
  intro n
  induction n with
  | zero => intro _ _ _ _ _ _ hm; omega
  | succ n ih =>
    intro z_t z_t_0 x2 x3 frz_t frz_t_0 hm
    rw [lX4_readTest_9]
    refine ok_ite (fun c_1 => ?_) (fun c_1 => ?_)
    · skip
      have c_1i : 400 ≤ x3.toInt := bI_le (show (400 : Int32).toInt = 400 by decide) rfl c_1
      exact Hk133 z_t z_t_0 x2 frz_t frz_t_0
    · skip
      have c_1i : 400 > x3.toInt := bI_nle (show (400 : Int32).toInt = 400 by decide) rfl c_1
      refine ok_ite (fun c_2 => ?_) (fun c_2 => ?_)
      · skip
        have c_2i : (gI z_t_0 8).toInt = 0 := bI_eq rfl (show (0 : Int32).toInt = 0 by decide) c_2
        refine ok_jn ?_
        refine ok_ite (fun c_3 => ?_) (fun c_3 => ?_)
        · skip
          have c_3i : (gI z_t_0 5).toInt = 309 := bI_eq rfl (show (309 : Int32).toInt = 309 by decide) c_3
          refine ok_jn ?_
          refine ok_ite (fun c_4 => ?_) (fun c_4 => ?_)
          · skip
            have c_4i : (gI z_t_0 5).toInt = 309 := bI_eq rfl (show (309 : Int32).toInt = 309 by decide) c_4
            refine ok_jn ?_
            refine ok_ite (fun c_5 => ?_) (fun c_5 => ?_)
            · skip
              have c_5i : 1 = 0 := bI_eq (show (1 : Int32).toInt = 1 by decide) (show (0 : Int32).toInt = 0 by decide) c_5
              exact absurd c_5 (by decide)
            · skip
              have c_5i : 1 ≠ 0 := bI_neq (show (1 : Int32).toInt = 1 by decide) (show (0 : Int32).toInt = 0 by decide) c_5
              refine ok_ite (fun c_6 => ?_) (fun c_6 => ?_)
              · skip
                have c_6i : x2.toInt = 0 := bI_eq rfl (show (0 : Int32).toInt = 0 by decide) c_6
                refine ok_jn ?_
                refine ok_jn ?_
                refine ok_ite (fun c_7 => ?_) (fun c_7 => ?_)
                · skip
                  have c_7i : x2.toInt = 0 := bI_eq rfl (show (0 : Int32).toInt = 0 by decide) c_7
                  refine ok_ite (fun c_8 => ?_) (fun c_8 => ?_)
                  · skip
                    have c_8i : 1 = 0 := bI_eq (show (1 : Int32).toInt = 1 by decide) (show (0 : Int32).toInt = 0 by decide) c_8
                    exact absurd c_8 (by decide)
                  · skip
                    have c_8i : 1 ≠ 0 := bI_neq (show (1 : Int32).toInt = 1 by decide) (show (0 : Int32).toInt = 0 by decide) c_8
                    refine ok_bd (t_fX6_step) (fun z15 q_9 => ?_)
                    have h_10 : FrL [4, 5, 6, 7] z_t_0 z15 := q_9
                    refine ok_bd2 (hrec _ _ _ (by first | assumption | omega | decide)) (fun z17 z18 q_11 => ?_)
                    have h_12 : FrL [1, 2, 3] z_t z17 := q_11.1
                    have h_13 : FrL [4, 5, 6, 7, 8] z15 z18 := q_11.2
                    refine ok_jn ?_
                    refine ok_ite (fun c_14 => ?_) (fun c_14 => ?_)
                    · skip
                      have c_14i : 1 = 0 := bI_eq (show (1 : Int32).toInt = 1 by decide) (show (0 : Int32).toInt = 0 by decide) c_14
                      exact absurd c_14 (by decide)
                    · skip
                      have c_14i : 1 ≠ 0 := bI_neq (show (1 : Int32).toInt = 1 by decide) (show (0 : Int32).toInt = 0 by decide) c_14
                      have e_15 : (1 : Int32).toInt = 1 := (show (1 : Int32).toInt = 1 by decide)
                      have e_16 : (x3 + 1).toInt = (x3.toInt + 1) := (i32_add rfl (show (1 : Int32).toInt = 1 by decide) (by omega) (by omega))
                      exact ih z17 z18 1 (x3 + 1) (fr_tr frz_t h_12 (by decide)) (fr_tr (fr_tr frz_t_0 h_10 (by decide)) h_13 (by decide)) (by omega)
                · skip
                  have c_7i : x2.toInt ≠ 0 := bI_neq rfl (show (0 : Int32).toInt = 0 by decide) c_7
                  refine ok_bd (t_fX6_step) (fun z15 q_17 => ?_)
                  have h_18 : FrL [4, 5, 6, 7] z_t_0 z15 := q_17
                  refine ok_bd2 (hrec _ _ _ (by first | assumption | omega | decide)) (fun z17 z18 q_19 => ?_)
                  have h_20 : FrL [1, 2, 3] z_t z17 := q_19.1
                  have h_21 : FrL [4, 5, 6, 7, 8] z15 z18 := q_19.2
                  refine ok_jn ?_
                  refine ok_ite (fun c_22 => ?_) (fun c_22 => ?_)
                  · skip
                    have c_22i : 1 = 0 := bI_eq (show (1 : Int32).toInt = 1 by decide) (show (0 : Int32).toInt = 0 by decide) c_22
                    exact absurd c_22 (by decide)
                  · skip
                    have c_22i : 1 ≠ 0 := bI_neq (show (1 : Int32).toInt = 1 by decide) (show (0 : Int32).toInt = 0 by decide) c_22
                    have e_23 : (1 : Int32).toInt = 1 := (show (1 : Int32).toInt = 1 by decide)
                    have e_24 : (x3 + 1).toInt = (x3.toInt + 1) := (i32_add rfl (show (1 : Int32).toInt = 1 by decide) (by omega) (by omega))
                    exact ih z17 z18 1 (x3 + 1) (fr_tr frz_t h_20 (by decide)) (fr_tr (fr_tr frz_t_0 h_18 (by decide)) h_21 (by decide)) (by omega)
              · skip
                have c_6i : x2.toInt ≠ 0 := bI_neq rfl (show (0 : Int32).toInt = 0 by decide) c_6
                refine ok_bd (t_fX4_emit) (fun z31 q_25 => ?_)
                have h_26 : FrL [1, 2] z_t z31 := q_25
                refine ok_jn ?_
                refine ok_jn ?_
                refine ok_ite (fun c_27 => ?_) (fun c_27 => ?_)
                · skip
                  have c_27i : x2.toInt = 0 := bI_eq rfl (show (0 : Int32).toInt = 0 by decide) c_27
                  refine ok_ite (fun c_28 => ?_) (fun c_28 => ?_)
                  · skip
                    have c_28i : 1 = 0 := bI_eq (show (1 : Int32).toInt = 1 by decide) (show (0 : Int32).toInt = 0 by decide) c_28
                    exact absurd c_28 (by decide)
                  · skip
                    have c_28i : 1 ≠ 0 := bI_neq (show (1 : Int32).toInt = 1 by decide) (show (0 : Int32).toInt = 0 by decide) c_28
                    refine ok_bd (t_fX6_step) (fun z15 q_29 => ?_)
                    have h_30 : FrL [4, 5, 6, 7] z_t_0 z15 := q_29
                    refine ok_bd2 (hrec _ _ _ (by first | assumption | omega | decide)) (fun z17 z18 q_31 => ?_)
                    have h_32 : FrL [1, 2, 3] z31 z17 := q_31.1
                    have h_33 : FrL [4, 5, 6, 7, 8] z15 z18 := q_31.2
                    refine ok_jn ?_
                    refine ok_ite (fun c_34 => ?_) (fun c_34 => ?_)
                    · skip
                      have c_34i : 1 = 0 := bI_eq (show (1 : Int32).toInt = 1 by decide) (show (0 : Int32).toInt = 0 by decide) c_34
                      exact absurd c_34 (by decide)
                    · skip
                      have c_34i : 1 ≠ 0 := bI_neq (show (1 : Int32).toInt = 1 by decide) (show (0 : Int32).toInt = 0 by decide) c_34
                      have e_35 : (1 : Int32).toInt = 1 := (show (1 : Int32).toInt = 1 by decide)
                      have e_36 : (x3 + 1).toInt = (x3.toInt + 1) := (i32_add rfl (show (1 : Int32).toInt = 1 by decide) (by omega) (by omega))
                      exact ih z17 z18 1 (x3 + 1) (fr_tr (fr_tr frz_t h_26 (by decide)) h_32 (by decide)) (fr_tr (fr_tr frz_t_0 h_30 (by decide)) h_33 (by decide)) (by omega)
                · skip
                  have c_27i : x2.toInt ≠ 0 := bI_neq rfl (show (0 : Int32).toInt = 0 by decide) c_27
                  refine ok_bd (t_fX6_step) (fun z15 q_37 => ?_)
                  have h_38 : FrL [4, 5, 6, 7] z_t_0 z15 := q_37
                  refine ok_bd2 (hrec _ _ _ (by first | assumption | omega | decide)) (fun z17 z18 q_39 => ?_)
                  have h_40 : FrL [1, 2, 3] z31 z17 := q_39.1
                  have h_41 : FrL [4, 5, 6, 7, 8] z15 z18 := q_39.2
                  refine ok_jn ?_
                  refine ok_ite (fun c_42 => ?_) (fun c_42 => ?_)
                  · skip
                    have c_42i : 1 = 0 := bI_eq (show (1 : Int32).toInt = 1 by decide) (show (0 : Int32).toInt = 0 by decide) c_42
                    exact absurd c_42 (by decide)
                  · skip
                    have c_42i : 1 ≠ 0 := bI_neq (show (1 : Int32).toInt = 1 by decide) (show (0 : Int32).toInt = 0 by decide) c_42
                    have e_43 : (1 : Int32).toInt = 1 := (show (1 : Int32).toInt = 1 by decide)
                    have e_44 : (x3 + 1).toInt = (x3.toInt + 1) := (i32_add rfl (show (1 : Int32).toInt = 1 by decide) (by omega) (by omega))
                    exact ih z17 z18 1 (x3 + 1) (fr_tr (fr_tr frz_t h_26 (by decide)) h_40 (by decide)) (fr_tr (fr_tr frz_t_0 h_38 (by decide)) h_41 (by decide)) (by omega)
          · skip
            have c_4i : (gI z_t_0 5).toInt ≠ 309 := bI_neq rfl (show (309 : Int32).toInt = 309 by decide) c_4
            refine ok_jn ?_
            refine ok_ite (fun c_45 => ?_) (fun c_45 => ?_)
            · skip
              have c_45i : 0 = 0 := bI_eq (show (0 : Int32).toInt = 0 by decide) (show (0 : Int32).toInt = 0 by decide) c_45
              refine ok_jn ?_
              refine ok_jn ?_
              refine ok_ite (fun c_46 => ?_) (fun c_46 => ?_)
              · skip
                have c_46i : x2.toInt = 0 := bI_eq rfl (show (0 : Int32).toInt = 0 by decide) c_46
                refine ok_ite (fun c_47 => ?_) (fun c_47 => ?_)
                · skip
                  have c_47i : 0 = 0 := bI_eq (show (0 : Int32).toInt = 0 by decide) (show (0 : Int32).toInt = 0 by decide) c_47
                  refine ok_bd (t_fX6_step) (fun z15 q_48 => ?_)
                  have h_49 : FrL [4, 5, 6, 7] z_t_0 z15 := q_48
                  refine ok_bd2 (hrec _ _ _ (by first | assumption | omega | decide)) (fun z17 z18 q_50 => ?_)
                  have h_51 : FrL [1, 2, 3] z_t z17 := q_50.1
                  have h_52 : FrL [4, 5, 6, 7, 8] z15 z18 := q_50.2
                  refine ok_jn ?_
                  refine ok_ite (fun c_53 => ?_) (fun c_53 => ?_)
                  · skip
                    have c_53i : 0 = 0 := bI_eq (show (0 : Int32).toInt = 0 by decide) (show (0 : Int32).toInt = 0 by decide) c_53
                    refine ok_bd (t_fX4_emit) (fun z24 q_54 => ?_)
                    have h_55 : FrL [1, 2] z17 z24 := q_54
                    have e_56 : (0 : Int32).toInt = 0 := (show (0 : Int32).toInt = 0 by decide)
                    have e_57 : (x3 + 1).toInt = (x3.toInt + 1) := (i32_add rfl (show (1 : Int32).toInt = 1 by decide) (by omega) (by omega))
                    exact ih z24 z18 0 (x3 + 1) (fr_tr (fr_tr frz_t h_51 (by decide)) h_55 (by decide)) (fr_tr (fr_tr frz_t_0 h_49 (by decide)) h_52 (by decide)) (by omega)
                  · skip
                    have c_53i : 0 ≠ 0 := bI_neq (show (0 : Int32).toInt = 0 by decide) (show (0 : Int32).toInt = 0 by decide) c_53
                    exact absurd (by decide) c_53
                · skip
                  have c_47i : 0 ≠ 0 := bI_neq (show (0 : Int32).toInt = 0 by decide) (show (0 : Int32).toInt = 0 by decide) c_47
                  exact absurd (by decide) c_47
              · skip
                have c_46i : x2.toInt ≠ 0 := bI_neq rfl (show (0 : Int32).toInt = 0 by decide) c_46
                refine ok_bd (t_fX6_step) (fun z15 q_58 => ?_)
                have h_59 : FrL [4, 5, 6, 7] z_t_0 z15 := q_58
                refine ok_bd2 (hrec _ _ _ (by first | assumption | omega | decide)) (fun z17 z18 q_60 => ?_)
                have h_61 : FrL [1, 2, 3] z_t z17 := q_60.1
                have h_62 : FrL [4, 5, 6, 7, 8] z15 z18 := q_60.2
                refine ok_jn ?_
                refine ok_ite (fun c_63 => ?_) (fun c_63 => ?_)
                · skip
                  have c_63i : 0 = 0 := bI_eq (show (0 : Int32).toInt = 0 by decide) (show (0 : Int32).toInt = 0 by decide) c_63
                  refine ok_bd (t_fX4_emit) (fun z24 q_64 => ?_)
                  have h_65 : FrL [1, 2] z17 z24 := q_64
                  have e_66 : (1 : Int32).toInt = 1 := (show (1 : Int32).toInt = 1 by decide)
                  have e_67 : (x3 + 1).toInt = (x3.toInt + 1) := (i32_add rfl (show (1 : Int32).toInt = 1 by decide) (by omega) (by omega))
                  exact ih z24 z18 1 (x3 + 1) (fr_tr (fr_tr frz_t h_61 (by decide)) h_65 (by decide)) (fr_tr (fr_tr frz_t_0 h_59 (by decide)) h_62 (by decide)) (by omega)
                · skip
                  have c_63i : 0 ≠ 0 := bI_neq (show (0 : Int32).toInt = 0 by decide) (show (0 : Int32).toInt = 0 by decide) c_63
                  exact absurd (by decide) c_63
            · skip
              have c_45i : 0 ≠ 0 := bI_neq (show (0 : Int32).toInt = 0 by decide) (show (0 : Int32).toInt = 0 by decide) c_45
              exact absurd (by decide) c_45
        · skip
          have c_3i : (gI z_t_0 5).toInt ≠ 309 := bI_neq rfl (show (309 : Int32).toInt = 309 by decide) c_3
          refine ok_ite (fun c_68 => ?_) (fun c_68 => ?_)
          · skip
            have c_68i : (gI z_t_0 5).toInt = 310 := bI_eq rfl (show (310 : Int32).toInt = 310 by decide) c_68
            refine ok_jn ?_
            refine ok_ite (fun c_69 => ?_) (fun c_69 => ?_)
            · skip
              have c_69i : (gI z_t_0 5).toInt = 309 := bI_eq rfl (show (309 : Int32).toInt = 309 by decide) c_69
              refine ok_jn ?_
              refine ok_ite (fun c_70 => ?_) (fun c_70 => ?_)
              · skip
                have c_70i : 1 = 0 := bI_eq (show (1 : Int32).toInt = 1 by decide) (show (0 : Int32).toInt = 0 by decide) c_70
                exact absurd c_70 (by decide)
              · skip
                have c_70i : 1 ≠ 0 := bI_neq (show (1 : Int32).toInt = 1 by decide) (show (0 : Int32).toInt = 0 by decide) c_70
                refine ok_ite (fun c_71 => ?_) (fun c_71 => ?_)
                · skip
                  have c_71i : x2.toInt = 0 := bI_eq rfl (show (0 : Int32).toInt = 0 by decide) c_71
                  refine ok_jn ?_
                  refine ok_jn ?_
                  refine ok_ite (fun c_72 => ?_) (fun c_72 => ?_)
                  · skip
                    have c_72i : x2.toInt = 0 := bI_eq rfl (show (0 : Int32).toInt = 0 by decide) c_72
                    refine ok_ite (fun c_73 => ?_) (fun c_73 => ?_)
                    · skip
                      have c_73i : 1 = 0 := bI_eq (show (1 : Int32).toInt = 1 by decide) (show (0 : Int32).toInt = 0 by decide) c_73
                      exact absurd c_73 (by decide)
                    · skip
                      have c_73i : 1 ≠ 0 := bI_neq (show (1 : Int32).toInt = 1 by decide) (show (0 : Int32).toInt = 0 by decide) c_73
                      refine ok_bd (t_fX6_step) (fun z15 q_74 => ?_)
                      have h_75 : FrL [4, 5, 6, 7] z_t_0 z15 := q_74
                      refine ok_bd2 (hrec _ _ _ (by first | assumption | omega | decide)) (fun z17 z18 q_76 => ?_)
                      have h_77 : FrL [1, 2, 3] z_t z17 := q_76.1
                      have h_78 : FrL [4, 5, 6, 7, 8] z15 z18 := q_76.2
                      refine ok_jn ?_
                      refine ok_ite (fun c_79 => ?_) (fun c_79 => ?_)
                      · skip
                        have c_79i : 1 = 0 := bI_eq (show (1 : Int32).toInt = 1 by decide) (show (0 : Int32).toInt = 0 by decide) c_79
                        exact absurd c_79 (by decide)
                      · skip
                        have c_79i : 1 ≠ 0 := bI_neq (show (1 : Int32).toInt = 1 by decide) (show (0 : Int32).toInt = 0 by decide) c_79
                        have e_80 : (1 : Int32).toInt = 1 := (show (1 : Int32).toInt = 1 by decide)
                        have e_81 : (x3 + 1).toInt = (x3.toInt + 1) := (i32_add rfl (show (1 : Int32).toInt = 1 by decide) (by omega) (by omega))
                        exact ih z17 z18 1 (x3 + 1) (fr_tr frz_t h_77 (by decide)) (fr_tr (fr_tr frz_t_0 h_75 (by decide)) h_78 (by decide)) (by omega)
                  · skip
                    have c_72i : x2.toInt ≠ 0 := bI_neq rfl (show (0 : Int32).toInt = 0 by decide) c_72
                    refine ok_bd (t_fX6_step) (fun z15 q_82 => ?_)
                    have h_83 : FrL [4, 5, 6, 7] z_t_0 z15 := q_82
                    refine ok_bd2 (hrec _ _ _ (by first | assumption | omega | decide)) (fun z17 z18 q_84 => ?_)
                    have h_85 : FrL [1, 2, 3] z_t z17 := q_84.1
                    have h_86 : FrL [4, 5, 6, 7, 8] z15 z18 := q_84.2
                    refine ok_jn ?_
                    refine ok_ite (fun c_87 => ?_) (fun c_87 => ?_)
                    · skip
                      have c_87i : 1 = 0 := bI_eq (show (1 : Int32).toInt = 1 by decide) (show (0 : Int32).toInt = 0 by decide) c_87
                      exact absurd c_87 (by decide)
                    · skip
                      have c_87i : 1 ≠ 0 := bI_neq (show (1 : Int32).toInt = 1 by decide) (show (0 : Int32).toInt = 0 by decide) c_87
                      have e_88 : (1 : Int32).toInt = 1 := (show (1 : Int32).toInt = 1 by decide)
                      have e_89 : (x3 + 1).toInt = (x3.toInt + 1) := (i32_add rfl (show (1 : Int32).toInt = 1 by decide) (by omega) (by omega))
                      exact ih z17 z18 1 (x3 + 1) (fr_tr frz_t h_85 (by decide)) (fr_tr (fr_tr frz_t_0 h_83 (by decide)) h_86 (by decide)) (by omega)
                · skip
                  have c_71i : x2.toInt ≠ 0 := bI_neq rfl (show (0 : Int32).toInt = 0 by decide) c_71
                  refine ok_bd (t_fX4_emit) (fun z31 q_90 => ?_)
                  have h_91 : FrL [1, 2] z_t z31 := q_90
                  refine ok_jn ?_
                  refine ok_jn ?_
                  refine ok_ite (fun c_92 => ?_) (fun c_92 => ?_)
                  · skip
                    have c_92i : x2.toInt = 0 := bI_eq rfl (show (0 : Int32).toInt = 0 by decide) c_92
                    refine ok_ite (fun c_93 => ?_) (fun c_93 => ?_)
                    · skip
                      have c_93i : 1 = 0 := bI_eq (show (1 : Int32).toInt = 1 by decide) (show (0 : Int32).toInt = 0 by decide) c_93
                      exact absurd c_93 (by decide)
                    · skip
                      have c_93i : 1 ≠ 0 := bI_neq (show (1 : Int32).toInt = 1 by decide) (show (0 : Int32).toInt = 0 by decide) c_93
                      refine ok_bd (t_fX6_step) (fun z15 q_94 => ?_)
                      have h_95 : FrL [4, 5, 6, 7] z_t_0 z15 := q_94
                      refine ok_bd2 (hrec _ _ _ (by first | assumption | omega | decide)) (fun z17 z18 q_96 => ?_)
                      have h_97 : FrL [1, 2, 3] z31 z17 := q_96.1
                      have h_98 : FrL [4, 5, 6, 7, 8] z15 z18 := q_96.2
                      refine ok_jn ?_
                      refine ok_ite (fun c_99 => ?_) (fun c_99 => ?_)
                      · skip
                        have c_99i : 1 = 0 := bI_eq (show (1 : Int32).toInt = 1 by decide) (show (0 : Int32).toInt = 0 by decide) c_99
                        exact absurd c_99 (by decide)
                      · skip
                        have c_99i : 1 ≠ 0 := bI_neq (show (1 : Int32).toInt = 1 by decide) (show (0 : Int32).toInt = 0 by decide) c_99
                        have e_100 : (1 : Int32).toInt = 1 := (show (1 : Int32).toInt = 1 by decide)
                        have e_101 : (x3 + 1).toInt = (x3.toInt + 1) := (i32_add rfl (show (1 : Int32).toInt = 1 by decide) (by omega) (by omega))
                        exact ih z17 z18 1 (x3 + 1) (fr_tr (fr_tr frz_t h_91 (by decide)) h_97 (by decide)) (fr_tr (fr_tr frz_t_0 h_95 (by decide)) h_98 (by decide)) (by omega)
                  · skip
                    have c_92i : x2.toInt ≠ 0 := bI_neq rfl (show (0 : Int32).toInt = 0 by decide) c_92
                    refine ok_bd (t_fX6_step) (fun z15 q_102 => ?_)
                    have h_103 : FrL [4, 5, 6, 7] z_t_0 z15 := q_102
                    refine ok_bd2 (hrec _ _ _ (by first | assumption | omega | decide)) (fun z17 z18 q_104 => ?_)
                    have h_105 : FrL [1, 2, 3] z31 z17 := q_104.1
                    have h_106 : FrL [4, 5, 6, 7, 8] z15 z18 := q_104.2
                    refine ok_jn ?_
                    refine ok_ite (fun c_107 => ?_) (fun c_107 => ?_)
                    · skip
                      have c_107i : 1 = 0 := bI_eq (show (1 : Int32).toInt = 1 by decide) (show (0 : Int32).toInt = 0 by decide) c_107
                      exact absurd c_107 (by decide)
                    · skip
                      have c_107i : 1 ≠ 0 := bI_neq (show (1 : Int32).toInt = 1 by decide) (show (0 : Int32).toInt = 0 by decide) c_107
                      have e_108 : (1 : Int32).toInt = 1 := (show (1 : Int32).toInt = 1 by decide)
                      have e_109 : (x3 + 1).toInt = (x3.toInt + 1) := (i32_add rfl (show (1 : Int32).toInt = 1 by decide) (by omega) (by omega))
                      exact ih z17 z18 1 (x3 + 1) (fr_tr (fr_tr frz_t h_91 (by decide)) h_105 (by decide)) (fr_tr (fr_tr frz_t_0 h_103 (by decide)) h_106 (by decide)) (by omega)
            · skip
              have c_69i : (gI z_t_0 5).toInt ≠ 309 := bI_neq rfl (show (309 : Int32).toInt = 309 by decide) c_69
              refine ok_jn ?_
              refine ok_ite (fun c_110 => ?_) (fun c_110 => ?_)
              · skip
                have c_110i : 0 = 0 := bI_eq (show (0 : Int32).toInt = 0 by decide) (show (0 : Int32).toInt = 0 by decide) c_110
                refine ok_jn ?_
                refine ok_jn ?_
                refine ok_ite (fun c_111 => ?_) (fun c_111 => ?_)
                · skip
                  have c_111i : x2.toInt = 0 := bI_eq rfl (show (0 : Int32).toInt = 0 by decide) c_111
                  refine ok_ite (fun c_112 => ?_) (fun c_112 => ?_)
                  · skip
                    have c_112i : 0 = 0 := bI_eq (show (0 : Int32).toInt = 0 by decide) (show (0 : Int32).toInt = 0 by decide) c_112
                    refine ok_bd (t_fX6_step) (fun z15 q_113 => ?_)
                    have h_114 : FrL [4, 5, 6, 7] z_t_0 z15 := q_113
                    refine ok_bd2 (hrec _ _ _ (by first | assumption | omega | decide)) (fun z17 z18 q_115 => ?_)
                    have h_116 : FrL [1, 2, 3] z_t z17 := q_115.1
                    have h_117 : FrL [4, 5, 6, 7, 8] z15 z18 := q_115.2
                    refine ok_jn ?_
                    refine ok_ite (fun c_118 => ?_) (fun c_118 => ?_)
                    · skip
                      have c_118i : 0 = 0 := bI_eq (show (0 : Int32).toInt = 0 by decide) (show (0 : Int32).toInt = 0 by decide) c_118
                      refine ok_bd (t_fX4_emit) (fun z24 q_119 => ?_)
                      have h_120 : FrL [1, 2] z17 z24 := q_119
                      have e_121 : (0 : Int32).toInt = 0 := (show (0 : Int32).toInt = 0 by decide)
                      have e_122 : (x3 + 1).toInt = (x3.toInt + 1) := (i32_add rfl (show (1 : Int32).toInt = 1 by decide) (by omega) (by omega))
                      exact ih z24 z18 0 (x3 + 1) (fr_tr (fr_tr frz_t h_116 (by decide)) h_120 (by decide)) (fr_tr (fr_tr frz_t_0 h_114 (by decide)) h_117 (by decide)) (by omega)
                    · skip
                      have c_118i : 0 ≠ 0 := bI_neq (show (0 : Int32).toInt = 0 by decide) (show (0 : Int32).toInt = 0 by decide) c_118
                      exact absurd (by decide) c_118
                  · skip
                    have c_112i : 0 ≠ 0 := bI_neq (show (0 : Int32).toInt = 0 by decide) (show (0 : Int32).toInt = 0 by decide) c_112
                    exact absurd (by decide) c_112
                · skip
                  have c_111i : x2.toInt ≠ 0 := bI_neq rfl (show (0 : Int32).toInt = 0 by decide) c_111
                  refine ok_bd (t_fX6_step) (fun z15 q_123 => ?_)
                  have h_124 : FrL [4, 5, 6, 7] z_t_0 z15 := q_123
                  refine ok_bd2 (hrec _ _ _ (by first | assumption | omega | decide)) (fun z17 z18 q_125 => ?_)
                  have h_126 : FrL [1, 2, 3] z_t z17 := q_125.1
                  have h_127 : FrL [4, 5, 6, 7, 8] z15 z18 := q_125.2
                  refine ok_jn ?_
                  refine ok_ite (fun c_128 => ?_) (fun c_128 => ?_)
                  · skip
                    have c_128i : 0 = 0 := bI_eq (show (0 : Int32).toInt = 0 by decide) (show (0 : Int32).toInt = 0 by decide) c_128
                    refine ok_bd (t_fX4_emit) (fun z24 q_129 => ?_)
                    have h_130 : FrL [1, 2] z17 z24 := q_129
                    have e_131 : (1 : Int32).toInt = 1 := (show (1 : Int32).toInt = 1 by decide)
                    have e_132 : (x3 + 1).toInt = (x3.toInt + 1) := (i32_add rfl (show (1 : Int32).toInt = 1 by decide) (by omega) (by omega))
                    exact ih z24 z18 1 (x3 + 1) (fr_tr (fr_tr frz_t h_126 (by decide)) h_130 (by decide)) (fr_tr (fr_tr frz_t_0 h_124 (by decide)) h_127 (by decide)) (by omega)
                  · skip
                    have c_128i : 0 ≠ 0 := bI_neq (show (0 : Int32).toInt = 0 by decide) (show (0 : Int32).toInt = 0 by decide) c_128
                    exact absurd (by decide) c_128
              · skip
                have c_110i : 0 ≠ 0 := bI_neq (show (0 : Int32).toInt = 0 by decide) (show (0 : Int32).toInt = 0 by decide) c_110
                exact absurd (by decide) c_110
          · skip
            have c_68i : (gI z_t_0 5).toInt ≠ 310 := bI_neq rfl (show (310 : Int32).toInt = 310 by decide) c_68
            exact Hk133 z_t z_t_0 x2 frz_t frz_t_0
      · skip
        have c_2i : (gI z_t_0 8).toInt ≠ 0 := bI_neq rfl (show (0 : Int32).toInt = 0 by decide) c_2
        exact Hk133 z_t z_t_0 x2 frz_t frz_t_0
set_option maxHeartbeats 1000000 in
set_option maxRecDepth 20000 in
theorem t_fX4_readTest {rec : Sx → Sx → Int32 → Option (Sx × Sx)} {z_t : Sx} {z_t_0 : Sx} {x1 : Int32} {d : Nat} (hrec : ∀ (z_t : Sx) (z_t_0 : Sx) (x1 : Int32), (0 ≤ x1.toInt ∧ x1.toInt ≤ 10 ∧ 11 ≤ x1.toInt + d) → okP (rec z_t z_t_0 x1) (fun y => (FrL [1, 2, 3] z_t y.1) ∧ (FrL [4, 5, 6, 7, 8] z_t_0 y.2))) (d0 : 0 ≤ x1.toInt ∧ x1.toInt ≤ 10 ∧ 11 ≤ x1.toInt + d) : okP (fX4_readTest rec z_t z_t_0 x1) (fun y => (FrL [1, 2, 3] z_t y.1) ∧ (FrL [4, 5, 6, 7, 8] z_t_0 y.2)) := by
  unfold fX4_readTest
  refine ok_bd2 (hrec _ _ _ (by first | assumption | omega | decide)) (fun z2 z3 q_1 => ?_)
  have h_2 : FrL [1, 2, 3] z_t z2 := q_1.1
  have h_3 : FrL [4, 5, 6, 7, 8] z_t_0 z3 := q_1.2
  have e_6 : (0 : Int32).toInt = 0 := (show (0 : Int32).toInt = 0 by decide)
  refine tl_lX4_readTest_9 hrec (fun z35 z36 i37 k_4 k_5 => ?_) (by first | assumption | omega | decide) FU z2 z3 0 0 (fr_tr fr_rf h_2 (by decide)) (fr_tr fr_rf h_3 (by decide)) (FU_lt (by omega))
  · skip
    refine ok_ite (fun c_7 => ?_) (fun c_7 => ?_)
    · skip
      have c_7i : i37.toInt = 0 := bI_eq rfl (show (0 : Int32).toInt = 0 by decide) c_7
      exact ok_some ⟨k_4, k_5⟩
    · skip
      have c_7i : i37.toInt ≠ 0 := bI_neq rfl (show (0 : Int32).toInt = 0 by decide) c_7
      refine ok_bd (t_fX4_emit) (fun z40 q_8 => ?_)
      have h_9 : FrL [1, 2] z35 z40 := q_8
      exact ok_some ⟨(fr_tr k_4 h_9 (by decide)), k_5⟩

set_option maxHeartbeats 1000000 in
set_option maxRecDepth 20000 in
theorem t_fX6_fail {z_t : Sx} {x1 : Int32} : okP (fX6_fail z_t x1) (fun y => (FrL [8] z_t y)) := by
  unfold fX6_fail
  refine ok_ite (fun c_1 => ?_) (fun c_1 => ?_)
  · skip
    have c_1i : (gI z_t 8).toInt = 0 := bI_eq rfl (show (0 : Int32).toInt = 0 by decide) c_1
    exact ok_some (fr_I fr_rf (by decide))
  · skip
    have c_1i : (gI z_t 8).toInt ≠ 0 := bI_neq rfl (show (0 : Int32).toInt = 0 by decide) c_1
    exact ok_some fr_rf

set_option maxHeartbeats 1000000 in
set_option maxRecDepth 20000 in
theorem t_fX4_readValue {z_t : Sx} {z_t_0 : Sx} : okP (fX4_readValue z_t z_t_0) (fun y => (FrL [1, 2, 3] z_t y.1) ∧ (FrL [4, 5, 6, 7, 8] z_t_0 y.2)) := by
  unfold fX4_readValue
  refine ok_jn ?_
  refine ok_ite (fun c_1 => ?_) (fun c_1 => ?_)
  · skip
    have c_1i : (gI z_t_0 5).toInt = 301 := bI_eq rfl (show (301 : Int32).toInt = 301 by decide) c_1
    refine ok_jn ?_
    refine ok_jn ?_
    refine ok_ite (fun c_2 => ?_) (fun c_2 => ?_)
    · skip
      have c_2i : (gI z_t_0 5).toInt < 312 := bI_lt rfl (show (312 : Int32).toInt = 312 by decide) c_2
      refine ok_jn ?_
      refine ok_ite (fun c_3 => ?_) (fun c_3 => ?_)
      · skip
        have c_3i : 1 = 0 := bI_eq (show (1 : Int32).toInt = 1 by decide) (show (0 : Int32).toInt = 0 by decide) c_3
        exact absurd c_3 (by decide)
      · skip
        have c_3i : 1 ≠ 0 := bI_neq (show (1 : Int32).toInt = 1 by decide) (show (0 : Int32).toInt = 0 by decide) c_3
        refine ok_ite (fun c_4 => ?_) (fun c_4 => ?_)
        · skip
          have c_4i : (gI z_t 3).toInt < 60 := bI_lt rfl (show (60 : Int32).toInt = 60 by decide) c_4
          refine ok_jn ?_
          refine ok_ite (fun c_5 => ?_) (fun c_5 => ?_)
          · skip
            have c_5i : 1 = 0 := bI_eq (show (1 : Int32).toInt = 1 by decide) (show (0 : Int32).toInt = 0 by decide) c_5
            exact absurd c_5 (by decide)
          · skip
            have c_5i : 1 ≠ 0 := bI_neq (show (1 : Int32).toInt = 1 by decide) (show (0 : Int32).toInt = 0 by decide) c_5
            refine ok_bd (t_fX4_emit) (fun z10 q_6 => ?_)
            have h_7 : FrL [1, 2] (sI z_t 3 ((gI z_t 3) + 1)) z10 := q_6
            refine ok_bd (t_fX6_step) (fun z12 q_8 => ?_)
            have h_9 : FrL [4, 5, 6, 7] z_t_0 z12 := q_8
            exact ok_some ⟨(fr_tr (fr_I fr_rf (by decide)) h_7 (by decide)), (fr_tr fr_rf h_9 (by decide))⟩
        · skip
          have c_4i : (gI z_t 3).toInt ≥ 60 := bI_nlt rfl (show (60 : Int32).toInt = 60 by decide) c_4
          refine ok_bd (t_fX6_fail) (fun z15 q_10 => ?_)
          have h_11 : FrL [8] z_t_0 z15 := q_10
          exact ok_some ⟨fr_rf, (fr_tr fr_rf h_11 (by decide))⟩
    · skip
      have c_2i : (gI z_t_0 5).toInt ≥ 312 := bI_nlt rfl (show (312 : Int32).toInt = 312 by decide) c_2
      refine ok_ite (fun c_12 => ?_) (fun c_12 => ?_)
      · skip
        have c_12i : 320 < (gI z_t_0 5).toInt := bI_lt (show (320 : Int32).toInt = 320 by decide) rfl c_12
        refine ok_jn ?_
        refine ok_ite (fun c_13 => ?_) (fun c_13 => ?_)
        · skip
          have c_13i : 1 = 0 := bI_eq (show (1 : Int32).toInt = 1 by decide) (show (0 : Int32).toInt = 0 by decide) c_13
          exact absurd c_13 (by decide)
        · skip
          have c_13i : 1 ≠ 0 := bI_neq (show (1 : Int32).toInt = 1 by decide) (show (0 : Int32).toInt = 0 by decide) c_13
          refine ok_ite (fun c_14 => ?_) (fun c_14 => ?_)
          · skip
            have c_14i : (gI z_t 3).toInt < 60 := bI_lt rfl (show (60 : Int32).toInt = 60 by decide) c_14
            refine ok_jn ?_
            refine ok_ite (fun c_15 => ?_) (fun c_15 => ?_)
            · skip
              have c_15i : 1 = 0 := bI_eq (show (1 : Int32).toInt = 1 by decide) (show (0 : Int32).toInt = 0 by decide) c_15
              exact absurd c_15 (by decide)
            · skip
              have c_15i : 1 ≠ 0 := bI_neq (show (1 : Int32).toInt = 1 by decide) (show (0 : Int32).toInt = 0 by decide) c_15
              refine ok_bd (t_fX4_emit) (fun z10 q_16 => ?_)
              have h_17 : FrL [1, 2] (sI z_t 3 ((gI z_t 3) + 1)) z10 := q_16
              refine ok_bd (t_fX6_step) (fun z12 q_18 => ?_)
              have h_19 : FrL [4, 5, 6, 7] z_t_0 z12 := q_18
              exact ok_some ⟨(fr_tr (fr_I fr_rf (by decide)) h_17 (by decide)), (fr_tr fr_rf h_19 (by decide))⟩
          · skip
            have c_14i : (gI z_t 3).toInt ≥ 60 := bI_nlt rfl (show (60 : Int32).toInt = 60 by decide) c_14
            refine ok_bd (t_fX6_fail) (fun z15 q_20 => ?_)
            have h_21 : FrL [8] z_t_0 z15 := q_20
            exact ok_some ⟨fr_rf, (fr_tr fr_rf h_21 (by decide))⟩
      · skip
        have c_12i : 320 ≥ (gI z_t_0 5).toInt := bI_nlt (show (320 : Int32).toInt = 320 by decide) rfl c_12
        refine ok_jn ?_
        refine ok_ite (fun c_22 => ?_) (fun c_22 => ?_)
        · skip
          have c_22i : 1 = 0 := bI_eq (show (1 : Int32).toInt = 1 by decide) (show (0 : Int32).toInt = 0 by decide) c_22
          exact absurd c_22 (by decide)
        · skip
          have c_22i : 1 ≠ 0 := bI_neq (show (1 : Int32).toInt = 1 by decide) (show (0 : Int32).toInt = 0 by decide) c_22
          refine ok_ite (fun c_23 => ?_) (fun c_23 => ?_)
          · skip
            have c_23i : (gI z_t 3).toInt < 60 := bI_lt rfl (show (60 : Int32).toInt = 60 by decide) c_23
            refine ok_jn ?_
            refine ok_ite (fun c_24 => ?_) (fun c_24 => ?_)
            · skip
              have c_24i : 1 = 0 := bI_eq (show (1 : Int32).toInt = 1 by decide) (show (0 : Int32).toInt = 0 by decide) c_24
              exact absurd c_24 (by decide)
            · skip
              have c_24i : 1 ≠ 0 := bI_neq (show (1 : Int32).toInt = 1 by decide) (show (0 : Int32).toInt = 0 by decide) c_24
              refine ok_bd (t_fX4_emit) (fun z10 q_25 => ?_)
              have h_26 : FrL [1, 2] (sI z_t 3 ((gI z_t 3) + 1)) z10 := q_25
              refine ok_bd (t_fX6_step) (fun z12 q_27 => ?_)
              have h_28 : FrL [4, 5, 6, 7] z_t_0 z12 := q_27
              exact ok_some ⟨(fr_tr (fr_I fr_rf (by decide)) h_26 (by decide)), (fr_tr fr_rf h_28 (by decide))⟩
          · skip
            have c_23i : (gI z_t 3).toInt ≥ 60 := bI_nlt rfl (show (60 : Int32).toInt = 60 by decide) c_23
            refine ok_bd (t_fX6_fail) (fun z15 q_29 => ?_)
            have h_30 : FrL [8] z_t_0 z15 := q_29
            exact ok_some ⟨fr_rf, (fr_tr fr_rf h_30 (by decide))⟩
  · skip
    have c_1i : (gI z_t_0 5).toInt ≠ 301 := bI_neq rfl (show (301 : Int32).toInt = 301 by decide) c_1
    refine ok_jn ?_
    refine ok_jn ?_
    refine ok_ite (fun c_31 => ?_) (fun c_31 => ?_)
    · skip
      have c_31i : (gI z_t_0 5).toInt < 312 := bI_lt rfl (show (312 : Int32).toInt = 312 by decide) c_31
      refine ok_jn ?_
      refine ok_ite (fun c_32 => ?_) (fun c_32 => ?_)
      · skip
        have c_32i : 0 = 0 := bI_eq (show (0 : Int32).toInt = 0 by decide) (show (0 : Int32).toInt = 0 by decide) c_32
        refine ok_ite (fun c_33 => ?_) (fun c_33 => ?_)
        · skip
          have c_33i : 0 = 0 := bI_eq (show (0 : Int32).toInt = 0 by decide) (show (0 : Int32).toInt = 0 by decide) c_33
          refine ok_jn ?_
          refine ok_ite (fun c_34 => ?_) (fun c_34 => ?_)
          · skip
            have c_34i : (gI z_t_0 5).toInt = 302 := bI_eq rfl (show (302 : Int32).toInt = 302 by decide) c_34
            refine ok_bd (t_fX6_fail) (fun z21 q_35 => ?_)
            have h_36 : FrL [8] z_t_0 z21 := q_35
            exact ok_some ⟨fr_rf, (fr_tr fr_rf h_36 (by decide))⟩
          · skip
            have c_34i : (gI z_t_0 5).toInt ≠ 302 := bI_neq rfl (show (302 : Int32).toInt = 302 by decide) c_34
            refine ok_bd (t_fX6_fail) (fun z21 q_37 => ?_)
            have h_38 : FrL [8] z_t_0 z21 := q_37
            exact ok_some ⟨fr_rf, (fr_tr fr_rf h_38 (by decide))⟩
        · skip
          have c_33i : 0 ≠ 0 := bI_neq (show (0 : Int32).toInt = 0 by decide) (show (0 : Int32).toInt = 0 by decide) c_33
          exact absurd (by decide) c_33
      · skip
        have c_32i : 0 ≠ 0 := bI_neq (show (0 : Int32).toInt = 0 by decide) (show (0 : Int32).toInt = 0 by decide) c_32
        exact absurd (by decide) c_32
    · skip
      have c_31i : (gI z_t_0 5).toInt ≥ 312 := bI_nlt rfl (show (312 : Int32).toInt = 312 by decide) c_31
      refine ok_ite (fun c_39 => ?_) (fun c_39 => ?_)
      · skip
        have c_39i : 320 < (gI z_t_0 5).toInt := bI_lt (show (320 : Int32).toInt = 320 by decide) rfl c_39
        refine ok_jn ?_
        refine ok_ite (fun c_40 => ?_) (fun c_40 => ?_)
        · skip
          have c_40i : 0 = 0 := bI_eq (show (0 : Int32).toInt = 0 by decide) (show (0 : Int32).toInt = 0 by decide) c_40
          refine ok_ite (fun c_41 => ?_) (fun c_41 => ?_)
          · skip
            have c_41i : 0 = 0 := bI_eq (show (0 : Int32).toInt = 0 by decide) (show (0 : Int32).toInt = 0 by decide) c_41
            refine ok_jn ?_
            refine ok_ite (fun c_42 => ?_) (fun c_42 => ?_)
            · skip
              have c_42i : (gI z_t_0 5).toInt = 302 := bI_eq rfl (show (302 : Int32).toInt = 302 by decide) c_42
              refine ok_bd (t_fX6_fail) (fun z21 q_43 => ?_)
              have h_44 : FrL [8] z_t_0 z21 := q_43
              exact ok_some ⟨fr_rf, (fr_tr fr_rf h_44 (by decide))⟩
            · skip
              have c_42i : (gI z_t_0 5).toInt ≠ 302 := bI_neq rfl (show (302 : Int32).toInt = 302 by decide) c_42
              refine ok_bd (t_fX6_fail) (fun z21 q_45 => ?_)
              have h_46 : FrL [8] z_t_0 z21 := q_45
              exact ok_some ⟨fr_rf, (fr_tr fr_rf h_46 (by decide))⟩
          · skip
            have c_41i : 0 ≠ 0 := bI_neq (show (0 : Int32).toInt = 0 by decide) (show (0 : Int32).toInt = 0 by decide) c_41
            exact absurd (by decide) c_41
        · skip
          have c_40i : 0 ≠ 0 := bI_neq (show (0 : Int32).toInt = 0 by decide) (show (0 : Int32).toInt = 0 by decide) c_40
          exact absurd (by decide) c_40
      · skip
        have c_39i : 320 ≥ (gI z_t_0 5).toInt := bI_nlt (show (320 : Int32).toInt = 320 by decide) rfl c_39
        refine ok_jn ?_
        refine ok_ite (fun c_47 => ?_) (fun c_47 => ?_)
        · skip
          have c_47i : 0 = 0 := bI_eq (show (0 : Int32).toInt = 0 by decide) (show (0 : Int32).toInt = 0 by decide) c_47
          refine ok_ite (fun c_48 => ?_) (fun c_48 => ?_)
          · skip
            have c_48i : 1 = 0 := bI_eq (show (1 : Int32).toInt = 1 by decide) (show (0 : Int32).toInt = 0 by decide) c_48
            exact absurd c_48 (by decide)
          · skip
            have c_48i : 1 ≠ 0 := bI_neq (show (1 : Int32).toInt = 1 by decide) (show (0 : Int32).toInt = 0 by decide) c_48
            refine ok_ite (fun c_49 => ?_) (fun c_49 => ?_)
            · skip
              have c_49i : (gI z_t 3).toInt < 60 := bI_lt rfl (show (60 : Int32).toInt = 60 by decide) c_49
              refine ok_jn ?_
              refine ok_ite (fun c_50 => ?_) (fun c_50 => ?_)
              · skip
                have c_50i : 0 = 0 := bI_eq (show (0 : Int32).toInt = 0 by decide) (show (0 : Int32).toInt = 0 by decide) c_50
                refine ok_bd (t_fX4_emit) (fun z10 q_51 => ?_)
                have h_52 : FrL [1, 2] (sI z_t 3 ((gI z_t 3) + 1)) z10 := q_51
                refine ok_bd (t_fX6_step) (fun z12 q_53 => ?_)
                have h_54 : FrL [4, 5, 6, 7] z_t_0 z12 := q_53
                exact ok_some ⟨(fr_tr (fr_I fr_rf (by decide)) h_52 (by decide)), (fr_tr fr_rf h_54 (by decide))⟩
              · skip
                have c_50i : 0 ≠ 0 := bI_neq (show (0 : Int32).toInt = 0 by decide) (show (0 : Int32).toInt = 0 by decide) c_50
                exact absurd (by decide) c_50
            · skip
              have c_49i : (gI z_t 3).toInt ≥ 60 := bI_nlt rfl (show (60 : Int32).toInt = 60 by decide) c_49
              refine ok_bd (t_fX6_fail) (fun z15 q_55 => ?_)
              have h_56 : FrL [8] z_t_0 z15 := q_55
              exact ok_some ⟨fr_rf, (fr_tr fr_rf h_56 (by decide))⟩
        · skip
          have c_47i : 0 ≠ 0 := bI_neq (show (0 : Int32).toInt = 0 by decide) (show (0 : Int32).toInt = 0 by decide) c_47
          exact absurd (by decide) c_47

set_option maxHeartbeats 1000000 in
set_option maxRecDepth 20000 in
theorem tl_lX4_readSum_8 {o_z_t : Sx} {o_z_t_0 : Sx} {k69 : Sx → Sx → Int32 → Option (Sx × Sx)} {k126 : Sx → Sx → Int32 → Option (Sx × Sx)} (Hk69 : ∀ (y0 : Sx) (y1 : Sx) (y2 : Int32), (FrL [1, 2, 3] o_z_t y0) → (FrL [4, 5, 6, 7, 8] o_z_t_0 y1) → okP (k69 y0 y1 y2) (fun y => (FrL [1, 2, 3] o_z_t y.1) ∧ (FrL [4, 5, 6, 7, 8] o_z_t_0 y.2))) (Hk126 : ∀ (y0 : Sx) (y1 : Sx) (y2 : Int32), (FrL [1, 2, 3] o_z_t y0) → (FrL [4, 5, 6, 7, 8] o_z_t_0 y1) → okP (k126 y0 y1 y2) (fun y => (FrL [1, 2, 3] o_z_t y.1) ∧ (FrL [4, 5, 6, 7, 8] o_z_t_0 y.2))) : ∀ (n : Nat) (z_t : Sx) (z_t_0 : Sx) (x1 : Int32) (x2 : Int32), (FrL [1, 2, 3] o_z_t z_t) → (FrL [4, 5, 6, 7, 8] o_z_t_0 z_t_0) → (400 + 0 - x2.toInt).toNat < n → okP (lX4_readSum_8 k69 k126 n z_t z_t_0 x1 x2) (fun y => (FrL [1, 2, 3] o_z_t y.1) ∧ (FrL [4, 5, 6, 7, 8] o_z_t_0 y.2)) := by
  intro n
  induction n with
  | zero => intro _ _ _ _ _ _ hm; omega
  | succ n ih =>
    intro z_t z_t_0 x1 x2 frz_t frz_t_0 hm
    rw [lX4_readSum_8]
    refine ok_ite (fun c_1 => ?_) (fun c_1 => ?_)
    · skip
      have c_1i : 400 ≤ x2.toInt := bI_le (show (400 : Int32).toInt = 400 by decide) rfl c_1
      exact Hk126 z_t z_t_0 x1 frz_t frz_t_0
    · skip
      have c_1i : 400 > x2.toInt := bI_nle (show (400 : Int32).toInt = 400 by decide) rfl c_1
      refine ok_ite (fun c_2 => ?_) (fun c_2 => ?_)
      · skip
        have c_2i : (gI z_t_0 8).toInt = 0 := bI_eq rfl (show (0 : Int32).toInt = 0 by decide) c_2
        refine ok_jn ?_
        refine ok_jn ?_
        refine ok_ite (fun c_3 => ?_) (fun c_3 => ?_)
        · skip
          have c_3i : (gI z_t_0 5).toInt = 42 := bI_eq rfl (show (42 : Int32).toInt = 42 by decide) c_3
          refine ok_jn ?_
          refine ok_ite (fun c_4 => ?_) (fun c_4 => ?_)
          · skip
            have c_4i : 1 = 0 := bI_eq (show (1 : Int32).toInt = 1 by decide) (show (0 : Int32).toInt = 0 by decide) c_4
            exact absurd c_4 (by decide)
          · skip
            have c_4i : 1 ≠ 0 := bI_neq (show (1 : Int32).toInt = 1 by decide) (show (0 : Int32).toInt = 0 by decide) c_4
            refine ok_jn ?_
            refine ok_ite (fun c_5 => ?_) (fun c_5 => ?_)
            · skip
              have c_5i : 1 = 0 := bI_eq (show (1 : Int32).toInt = 1 by decide) (show (0 : Int32).toInt = 0 by decide) c_5
              exact absurd c_5 (by decide)
            · skip
              have c_5i : 1 ≠ 0 := bI_neq (show (1 : Int32).toInt = 1 by decide) (show (0 : Int32).toInt = 0 by decide) c_5
              refine ok_jn ?_
              refine ok_ite (fun c_6 => ?_) (fun c_6 => ?_)
              · skip
                have c_6i : 1 = 0 := bI_eq (show (1 : Int32).toInt = 1 by decide) (show (0 : Int32).toInt = 0 by decide) c_6
                exact absurd c_6 (by decide)
              · skip
                have c_6i : 1 ≠ 0 := bI_neq (show (1 : Int32).toInt = 1 by decide) (show (0 : Int32).toInt = 0 by decide) c_6
                refine ok_bd (t_fX6_step) (fun z15 q_7 => ?_)
                have h_8 : FrL [4, 5, 6, 7] z_t_0 z15 := q_7
                refine ok_bd2 (t_fX4_readValue) (fun z17 z18 q_9 => ?_)
                have h_10 : FrL [1, 2, 3] z_t z17 := q_9.1
                have h_11 : FrL [4, 5, 6, 7, 8] z15 z18 := q_9.2
                refine ok_jn ?_
                refine ok_ite (fun c_12 => ?_) (fun c_12 => ?_)
                · skip
                  have c_12i : 1 = 0 := bI_eq (show (1 : Int32).toInt = 1 by decide) (show (0 : Int32).toInt = 0 by decide) c_12
                  exact absurd c_12 (by decide)
                · skip
                  have c_12i : 1 ≠ 0 := bI_neq (show (1 : Int32).toInt = 1 by decide) (show (0 : Int32).toInt = 0 by decide) c_12
                  refine ok_bd (t_fX4_emit) (fun z24 q_13 => ?_)
                  have h_14 : FrL [1, 2] z17 z24 := q_13
                  have e_15 : (x2 + 1).toInt = (x2.toInt + 1) := (i32_add rfl (show (1 : Int32).toInt = 1 by decide) (by omega) (by omega))
                  exact ih z24 z18 x1 (x2 + 1) (fr_tr (fr_tr frz_t h_10 (by decide)) h_14 (by decide)) (fr_tr (fr_tr frz_t_0 h_8 (by decide)) h_11 (by decide)) (by omega)
        · skip
          have c_3i : (gI z_t_0 5).toInt ≠ 42 := bI_neq rfl (show (42 : Int32).toInt = 42 by decide) c_3
          refine ok_ite (fun c_16 => ?_) (fun c_16 => ?_)
          · skip
            have c_16i : (gI z_t_0 5).toInt = 47 := bI_eq rfl (show (47 : Int32).toInt = 47 by decide) c_16
            refine ok_jn ?_
            refine ok_ite (fun c_17 => ?_) (fun c_17 => ?_)
            · skip
              have c_17i : 1 = 0 := bI_eq (show (1 : Int32).toInt = 1 by decide) (show (0 : Int32).toInt = 0 by decide) c_17
              exact absurd c_17 (by decide)
            · skip
              have c_17i : 1 ≠ 0 := bI_neq (show (1 : Int32).toInt = 1 by decide) (show (0 : Int32).toInt = 0 by decide) c_17
              refine ok_jn ?_
              refine ok_ite (fun c_18 => ?_) (fun c_18 => ?_)
              · skip
                have c_18i : 1 = 0 := bI_eq (show (1 : Int32).toInt = 1 by decide) (show (0 : Int32).toInt = 0 by decide) c_18
                exact absurd c_18 (by decide)
              · skip
                have c_18i : 1 ≠ 0 := bI_neq (show (1 : Int32).toInt = 1 by decide) (show (0 : Int32).toInt = 0 by decide) c_18
                refine ok_jn ?_
                refine ok_ite (fun c_19 => ?_) (fun c_19 => ?_)
                · skip
                  have c_19i : 1 = 0 := bI_eq (show (1 : Int32).toInt = 1 by decide) (show (0 : Int32).toInt = 0 by decide) c_19
                  exact absurd c_19 (by decide)
                · skip
                  have c_19i : 1 ≠ 0 := bI_neq (show (1 : Int32).toInt = 1 by decide) (show (0 : Int32).toInt = 0 by decide) c_19
                  refine ok_bd (t_fX6_step) (fun z15 q_20 => ?_)
                  have h_21 : FrL [4, 5, 6, 7] z_t_0 z15 := q_20
                  refine ok_bd2 (t_fX4_readValue) (fun z17 z18 q_22 => ?_)
                  have h_23 : FrL [1, 2, 3] z_t z17 := q_22.1
                  have h_24 : FrL [4, 5, 6, 7, 8] z15 z18 := q_22.2
                  refine ok_jn ?_
                  refine ok_ite (fun c_25 => ?_) (fun c_25 => ?_)
                  · skip
                    have c_25i : 1 = 0 := bI_eq (show (1 : Int32).toInt = 1 by decide) (show (0 : Int32).toInt = 0 by decide) c_25
                    exact absurd c_25 (by decide)
                  · skip
                    have c_25i : 1 ≠ 0 := bI_neq (show (1 : Int32).toInt = 1 by decide) (show (0 : Int32).toInt = 0 by decide) c_25
                    refine ok_bd (t_fX4_emit) (fun z24 q_26 => ?_)
                    have h_27 : FrL [1, 2] z17 z24 := q_26
                    have e_28 : (x2 + 1).toInt = (x2.toInt + 1) := (i32_add rfl (show (1 : Int32).toInt = 1 by decide) (by omega) (by omega))
                    exact ih z24 z18 x1 (x2 + 1) (fr_tr (fr_tr frz_t h_23 (by decide)) h_27 (by decide)) (fr_tr (fr_tr frz_t_0 h_21 (by decide)) h_24 (by decide)) (by omega)
          · skip
            have c_16i : (gI z_t_0 5).toInt ≠ 47 := bI_neq rfl (show (47 : Int32).toInt = 47 by decide) c_16
            refine ok_jn ?_
            refine ok_ite (fun c_29 => ?_) (fun c_29 => ?_)
            · skip
              have c_29i : 0 = 0 := bI_eq (show (0 : Int32).toInt = 0 by decide) (show (0 : Int32).toInt = 0 by decide) c_29
              refine ok_ite (fun c_30 => ?_) (fun c_30 => ?_)
              · skip
                have c_30i : (gI z_t_0 5).toInt = 43 := bI_eq rfl (show (43 : Int32).toInt = 43 by decide) c_30
                refine ok_jn ?_
                refine ok_ite (fun c_31 => ?_) (fun c_31 => ?_)
                · skip
                  have c_31i : 0 = 0 := bI_eq (show (0 : Int32).toInt = 0 by decide) (show (0 : Int32).toInt = 0 by decide) c_31
                  refine ok_ite (fun c_32 => ?_) (fun c_32 => ?_)
                  · skip
                    have c_32i : x1.toInt = 0 := bI_eq rfl (show (0 : Int32).toInt = 0 by decide) c_32
                    refine ok_jn ?_
                    refine ok_ite (fun c_33 => ?_) (fun c_33 => ?_)
                    · skip
                      have c_33i : 0 = 0 := bI_eq (show (0 : Int32).toInt = 0 by decide) (show (0 : Int32).toInt = 0 by decide) c_33
                      refine ok_bd (t_fX6_step) (fun z15 q_34 => ?_)
                      have h_35 : FrL [4, 5, 6, 7] z_t_0 z15 := q_34
                      refine ok_bd2 (t_fX4_readValue) (fun z17 z18 q_36 => ?_)
                      have h_37 : FrL [1, 2, 3] z_t z17 := q_36.1
                      have h_38 : FrL [4, 5, 6, 7, 8] z15 z18 := q_36.2
                      refine ok_jn ?_
                      refine ok_ite (fun c_39 => ?_) (fun c_39 => ?_)
                      · skip
                        have c_39i : 0 = 0 := bI_eq (show (0 : Int32).toInt = 0 by decide) (show (0 : Int32).toInt = 0 by decide) c_39
                        have e_40 : (x2 + 1).toInt = (x2.toInt + 1) := (i32_add rfl (show (1 : Int32).toInt = 1 by decide) (by omega) (by omega))
                        exact ih z17 z18 (gI z_t_0 5) (x2 + 1) (fr_tr frz_t h_37 (by decide)) (fr_tr (fr_tr frz_t_0 h_35 (by decide)) h_38 (by decide)) (by omega)
                      · skip
                        have c_39i : 0 ≠ 0 := bI_neq (show (0 : Int32).toInt = 0 by decide) (show (0 : Int32).toInt = 0 by decide) c_39
                        exact absurd (by decide) c_39
                    · skip
                      have c_33i : 0 ≠ 0 := bI_neq (show (0 : Int32).toInt = 0 by decide) (show (0 : Int32).toInt = 0 by decide) c_33
                      exact absurd (by decide) c_33
                  · skip
                    have c_32i : x1.toInt ≠ 0 := bI_neq rfl (show (0 : Int32).toInt = 0 by decide) c_32
                    refine ok_bd (t_fX4_emit) (fun z29 q_41 => ?_)
                    have h_42 : FrL [1, 2] z_t z29 := q_41
                    refine ok_jn ?_
                    refine ok_ite (fun c_43 => ?_) (fun c_43 => ?_)
                    · skip
                      have c_43i : 0 = 0 := bI_eq (show (0 : Int32).toInt = 0 by decide) (show (0 : Int32).toInt = 0 by decide) c_43
                      refine ok_bd (t_fX6_step) (fun z15 q_44 => ?_)
                      have h_45 : FrL [4, 5, 6, 7] z_t_0 z15 := q_44
                      refine ok_bd2 (t_fX4_readValue) (fun z17 z18 q_46 => ?_)
                      have h_47 : FrL [1, 2, 3] z29 z17 := q_46.1
                      have h_48 : FrL [4, 5, 6, 7, 8] z15 z18 := q_46.2
                      refine ok_jn ?_
                      refine ok_ite (fun c_49 => ?_) (fun c_49 => ?_)
                      · skip
                        have c_49i : 0 = 0 := bI_eq (show (0 : Int32).toInt = 0 by decide) (show (0 : Int32).toInt = 0 by decide) c_49
                        have e_50 : (x2 + 1).toInt = (x2.toInt + 1) := (i32_add rfl (show (1 : Int32).toInt = 1 by decide) (by omega) (by omega))
                        exact ih z17 z18 (gI z_t_0 5) (x2 + 1) (fr_tr (fr_tr frz_t h_42 (by decide)) h_47 (by decide)) (fr_tr (fr_tr frz_t_0 h_45 (by decide)) h_48 (by decide)) (by omega)
                      · skip
                        have c_49i : 0 ≠ 0 := bI_neq (show (0 : Int32).toInt = 0 by decide) (show (0 : Int32).toInt = 0 by decide) c_49
                        exact absurd (by decide) c_49
                    · skip
                      have c_43i : 0 ≠ 0 := bI_neq (show (0 : Int32).toInt = 0 by decide) (show (0 : Int32).toInt = 0 by decide) c_43
                      exact absurd (by decide) c_43
                · skip
                  have c_31i : 0 ≠ 0 := bI_neq (show (0 : Int32).toInt = 0 by decide) (show (0 : Int32).toInt = 0 by decide) c_31
                  exact absurd (by decide) c_31
              · skip
                have c_30i : (gI z_t_0 5).toInt ≠ 43 := bI_neq rfl (show (43 : Int32).toInt = 43 by decide) c_30
                refine ok_ite (fun c_51 => ?_) (fun c_51 => ?_)
                · skip
                  have c_51i : (gI z_t_0 5).toInt = 45 := bI_eq rfl (show (45 : Int32).toInt = 45 by decide) c_51
                  refine ok_jn ?_
                  refine ok_ite (fun c_52 => ?_) (fun c_52 => ?_)
                  · skip
                    have c_52i : 0 = 0 := bI_eq (show (0 : Int32).toInt = 0 by decide) (show (0 : Int32).toInt = 0 by decide) c_52
                    refine ok_ite (fun c_53 => ?_) (fun c_53 => ?_)
                    · skip
                      have c_53i : x1.toInt = 0 := bI_eq rfl (show (0 : Int32).toInt = 0 by decide) c_53
                      refine ok_jn ?_
                      refine ok_ite (fun c_54 => ?_) (fun c_54 => ?_)
                      · skip
                        have c_54i : 0 = 0 := bI_eq (show (0 : Int32).toInt = 0 by decide) (show (0 : Int32).toInt = 0 by decide) c_54
                        refine ok_bd (t_fX6_step) (fun z15 q_55 => ?_)
                        have h_56 : FrL [4, 5, 6, 7] z_t_0 z15 := q_55
                        refine ok_bd2 (t_fX4_readValue) (fun z17 z18 q_57 => ?_)
                        have h_58 : FrL [1, 2, 3] z_t z17 := q_57.1
                        have h_59 : FrL [4, 5, 6, 7, 8] z15 z18 := q_57.2
                        refine ok_jn ?_
                        refine ok_ite (fun c_60 => ?_) (fun c_60 => ?_)
                        · skip
                          have c_60i : 0 = 0 := bI_eq (show (0 : Int32).toInt = 0 by decide) (show (0 : Int32).toInt = 0 by decide) c_60
                          have e_61 : (x2 + 1).toInt = (x2.toInt + 1) := (i32_add rfl (show (1 : Int32).toInt = 1 by decide) (by omega) (by omega))
                          exact ih z17 z18 (gI z_t_0 5) (x2 + 1) (fr_tr frz_t h_58 (by decide)) (fr_tr (fr_tr frz_t_0 h_56 (by decide)) h_59 (by decide)) (by omega)
                        · skip
                          have c_60i : 0 ≠ 0 := bI_neq (show (0 : Int32).toInt = 0 by decide) (show (0 : Int32).toInt = 0 by decide) c_60
                          exact absurd (by decide) c_60
                      · skip
                        have c_54i : 0 ≠ 0 := bI_neq (show (0 : Int32).toInt = 0 by decide) (show (0 : Int32).toInt = 0 by decide) c_54
                        exact absurd (by decide) c_54
                    · skip
                      have c_53i : x1.toInt ≠ 0 := bI_neq rfl (show (0 : Int32).toInt = 0 by decide) c_53
                      refine ok_bd (t_fX4_emit) (fun z29 q_62 => ?_)
                      have h_63 : FrL [1, 2] z_t z29 := q_62
                      refine ok_jn ?_
                      refine ok_ite (fun c_64 => ?_) (fun c_64 => ?_)
                      · skip
                        have c_64i : 0 = 0 := bI_eq (show (0 : Int32).toInt = 0 by decide) (show (0 : Int32).toInt = 0 by decide) c_64
                        refine ok_bd (t_fX6_step) (fun z15 q_65 => ?_)
                        have h_66 : FrL [4, 5, 6, 7] z_t_0 z15 := q_65
                        refine ok_bd2 (t_fX4_readValue) (fun z17 z18 q_67 => ?_)
                        have h_68 : FrL [1, 2, 3] z29 z17 := q_67.1
                        have h_69 : FrL [4, 5, 6, 7, 8] z15 z18 := q_67.2
                        refine ok_jn ?_
                        refine ok_ite (fun c_70 => ?_) (fun c_70 => ?_)
                        · skip
                          have c_70i : 0 = 0 := bI_eq (show (0 : Int32).toInt = 0 by decide) (show (0 : Int32).toInt = 0 by decide) c_70
                          have e_71 : (x2 + 1).toInt = (x2.toInt + 1) := (i32_add rfl (show (1 : Int32).toInt = 1 by decide) (by omega) (by omega))
                          exact ih z17 z18 (gI z_t_0 5) (x2 + 1) (fr_tr (fr_tr frz_t h_63 (by decide)) h_68 (by decide)) (fr_tr (fr_tr frz_t_0 h_66 (by decide)) h_69 (by decide)) (by omega)
                        · skip
                          have c_70i : 0 ≠ 0 := bI_neq (show (0 : Int32).toInt = 0 by decide) (show (0 : Int32).toInt = 0 by decide) c_70
                          exact absurd (by decide) c_70
                      · skip
                        have c_64i : 0 ≠ 0 := bI_neq (show (0 : Int32).toInt = 0 by decide) (show (0 : Int32).toInt = 0 by decide) c_64
                        exact absurd (by decide) c_64
                  · skip
                    have c_52i : 0 ≠ 0 := bI_neq (show (0 : Int32).toInt = 0 by decide) (show (0 : Int32).toInt = 0 by decide) c_52
                    exact absurd (by decide) c_52
                · skip
                  have c_51i : (gI z_t_0 5).toInt ≠ 45 := bI_neq rfl (show (45 : Int32).toInt = 45 by decide) c_51
                  exact Hk69 z_t z_t_0 x1 frz_t frz_t_0
            · skip
              have c_29i : 0 ≠ 0 := bI_neq (show (0 : Int32).toInt = 0 by decide) (show (0 : Int32).toInt = 0 by decide) c_29
              exact absurd (by decide) c_29
      · skip
        have c_2i : (gI z_t_0 8).toInt ≠ 0 := bI_neq rfl (show (0 : Int32).toInt = 0 by decide) c_2
        exact Hk126 z_t z_t_0 x1 frz_t frz_t_0
set_option maxHeartbeats 1000000 in
set_option maxRecDepth 20000 in
theorem t_fX4_readSum {z_t : Sx} {z_t_0 : Sx} : okP (fX4_readSum z_t z_t_0) (fun y => (FrL [1, 2, 3] z_t y.1) ∧ (FrL [4, 5, 6, 7, 8] z_t_0 y.2)) := by
  unfold fX4_readSum
  refine ok_bd2 (t_fX4_readValue) (fun z2 z3 q_1 => ?_)
  have h_2 : FrL [1, 2, 3] z_t z2 := q_1.1
  have h_3 : FrL [4, 5, 6, 7, 8] z_t_0 z3 := q_1.2
  have e_8 : (0 : Int32).toInt = 0 := (show (0 : Int32).toInt = 0 by decide)
  refine tl_lX4_readSum_8 (fun z36 z37 i38 k_4 k_5 => ?_) (fun z42 z43 i44 k_6 k_7 => ?_) FU z2 z3 0 0 (fr_tr fr_rf h_2 (by decide)) (fr_tr fr_rf h_3 (by decide)) (FU_lt (by omega))
  · skip
    refine ok_ite (fun c_9 => ?_) (fun c_9 => ?_)
    · skip
      have c_9i : i38.toInt = 0 := bI_eq rfl (show (0 : Int32).toInt = 0 by decide) c_9
      exact ok_some ⟨k_4, k_5⟩
    · skip
      have c_9i : i38.toInt ≠ 0 := bI_neq rfl (show (0 : Int32).toInt = 0 by decide) c_9
      refine ok_bd (t_fX4_emit) (fun z41 q_10 => ?_)
      have h_11 : FrL [1, 2] z36 z41 := q_10
      exact ok_some ⟨(fr_tr k_4 h_11 (by decide)), k_5⟩
  · skip
    refine ok_ite (fun c_12 => ?_) (fun c_12 => ?_)
    · skip
      have c_12i : i44.toInt = 0 := bI_eq rfl (show (0 : Int32).toInt = 0 by decide) c_12
      exact ok_some ⟨k_6, k_7⟩
    · skip
      have c_12i : i44.toInt ≠ 0 := bI_neq rfl (show (0 : Int32).toInt = 0 by decide) c_12
      refine ok_bd (t_fX4_emit) (fun z47 q_13 => ?_)
      have h_14 : FrL [1, 2] z42 z47 := q_13
      exact ok_some ⟨(fr_tr k_6 h_14 (by decide)), k_7⟩

set_option maxHeartbeats 1000000 in
set_option maxRecDepth 20000 in
theorem t_fX4_readComparison {z_t : Sx} {z_t_0 : Sx} : okP (fX4_readComparison z_t z_t_0) (fun y => (FrL [1, 2, 3] z_t y.1) ∧ (FrL [4, 5, 6, 7, 8] z_t_0 y.2)) := by
  unfold fX4_readComparison
  refine ok_bd2 (t_fX4_readSum) (fun z2 z3 q_1 => ?_)
  have h_2 : FrL [1, 2, 3] z_t z2 := q_1.1
  have h_3 : FrL [4, 5, 6, 7, 8] z_t_0 z3 := q_1.2
  refine ok_ite (fun c_4 => ?_) (fun c_4 => ?_)
  · skip
    have c_4i : (gI z3 8).toInt = 0 := bI_eq rfl (show (0 : Int32).toInt = 0 by decide) c_4
    refine ok_jn ?_
    refine ok_ite (fun c_5 => ?_) (fun c_5 => ?_)
    · skip
      have c_5i : (gI z3 5).toInt = 60 := bI_eq rfl (show (60 : Int32).toInt = 60 by decide) c_5
      refine ok_ite (fun c_6 => ?_) (fun c_6 => ?_)
      · skip
        have c_6i : (gI z2 3).toInt < 60 := bI_lt rfl (show (60 : Int32).toInt = 60 by decide) c_6
        refine ok_bd (t_fX6_step) (fun z8 q_7 => ?_)
        have h_8 : FrL [4, 5, 6, 7] z3 z8 := q_7
        refine ok_bd2 (t_fX4_readSum) (fun z10 z11 q_9 => ?_)
        have h_10 : FrL [1, 2, 3] (sI z2 3 ((gI z2 3) + 1)) z10 := q_9.1
        have h_11 : FrL [4, 5, 6, 7, 8] z8 z11 := q_9.2
        refine ok_bd (t_fX4_emit) (fun z13 q_12 => ?_)
        have h_13 : FrL [1, 2] z10 z13 := q_12
        exact ok_some ⟨(fr_tr (fr_tr (fr_I (fr_tr fr_rf h_2 (by decide)) (by decide)) h_10 (by decide)) h_13 (by decide)), (fr_tr (fr_tr (fr_tr fr_rf h_3 (by decide)) h_8 (by decide)) h_11 (by decide))⟩
      · skip
        have c_6i : (gI z2 3).toInt ≥ 60 := bI_nlt rfl (show (60 : Int32).toInt = 60 by decide) c_6
        refine ok_bd (t_fX6_fail) (fun z15 q_14 => ?_)
        have h_15 : FrL [8] z3 z15 := q_14
        exact ok_some ⟨(fr_tr fr_rf h_2 (by decide)), (fr_tr (fr_tr fr_rf h_3 (by decide)) h_15 (by decide))⟩
    · skip
      have c_5i : (gI z3 5).toInt ≠ 60 := bI_neq rfl (show (60 : Int32).toInt = 60 by decide) c_5
      refine ok_ite (fun c_16 => ?_) (fun c_16 => ?_)
      · skip
        have c_16i : (gI z3 5).toInt = 256 := bI_eq rfl (show (256 : Int32).toInt = 256 by decide) c_16
        refine ok_ite (fun c_17 => ?_) (fun c_17 => ?_)
        · skip
          have c_17i : (gI z2 3).toInt < 60 := bI_lt rfl (show (60 : Int32).toInt = 60 by decide) c_17
          refine ok_bd (t_fX6_step) (fun z8 q_18 => ?_)
          have h_19 : FrL [4, 5, 6, 7] z3 z8 := q_18
          refine ok_bd2 (t_fX4_readSum) (fun z10 z11 q_20 => ?_)
          have h_21 : FrL [1, 2, 3] (sI z2 3 ((gI z2 3) + 1)) z10 := q_20.1
          have h_22 : FrL [4, 5, 6, 7, 8] z8 z11 := q_20.2
          refine ok_bd (t_fX4_emit) (fun z13 q_23 => ?_)
          have h_24 : FrL [1, 2] z10 z13 := q_23
          exact ok_some ⟨(fr_tr (fr_tr (fr_I (fr_tr fr_rf h_2 (by decide)) (by decide)) h_21 (by decide)) h_24 (by decide)), (fr_tr (fr_tr (fr_tr fr_rf h_3 (by decide)) h_19 (by decide)) h_22 (by decide))⟩
        · skip
          have c_17i : (gI z2 3).toInt ≥ 60 := bI_nlt rfl (show (60 : Int32).toInt = 60 by decide) c_17
          refine ok_bd (t_fX6_fail) (fun z15 q_25 => ?_)
          have h_26 : FrL [8] z3 z15 := q_25
          exact ok_some ⟨(fr_tr fr_rf h_2 (by decide)), (fr_tr (fr_tr fr_rf h_3 (by decide)) h_26 (by decide))⟩
      · skip
        have c_16i : (gI z3 5).toInt ≠ 256 := bI_neq rfl (show (256 : Int32).toInt = 256 by decide) c_16
        refine ok_ite (fun c_27 => ?_) (fun c_27 => ?_)
        · skip
          have c_27i : (gI z3 5).toInt = 61 := bI_eq rfl (show (61 : Int32).toInt = 61 by decide) c_27
          refine ok_ite (fun c_28 => ?_) (fun c_28 => ?_)
          · skip
            have c_28i : (gI z2 3).toInt < 60 := bI_lt rfl (show (60 : Int32).toInt = 60 by decide) c_28
            refine ok_bd (t_fX6_step) (fun z8 q_29 => ?_)
            have h_30 : FrL [4, 5, 6, 7] z3 z8 := q_29
            refine ok_bd2 (t_fX4_readSum) (fun z10 z11 q_31 => ?_)
            have h_32 : FrL [1, 2, 3] (sI z2 3 ((gI z2 3) + 1)) z10 := q_31.1
            have h_33 : FrL [4, 5, 6, 7, 8] z8 z11 := q_31.2
            refine ok_bd (t_fX4_emit) (fun z13 q_34 => ?_)
            have h_35 : FrL [1, 2] z10 z13 := q_34
            exact ok_some ⟨(fr_tr (fr_tr (fr_I (fr_tr fr_rf h_2 (by decide)) (by decide)) h_32 (by decide)) h_35 (by decide)), (fr_tr (fr_tr (fr_tr fr_rf h_3 (by decide)) h_30 (by decide)) h_33 (by decide))⟩
          · skip
            have c_28i : (gI z2 3).toInt ≥ 60 := bI_nlt rfl (show (60 : Int32).toInt = 60 by decide) c_28
            refine ok_bd (t_fX6_fail) (fun z15 q_36 => ?_)
            have h_37 : FrL [8] z3 z15 := q_36
            exact ok_some ⟨(fr_tr fr_rf h_2 (by decide)), (fr_tr (fr_tr fr_rf h_3 (by decide)) h_37 (by decide))⟩
        · skip
          have c_27i : (gI z3 5).toInt ≠ 61 := bI_neq rfl (show (61 : Int32).toInt = 61 by decide) c_27
          refine ok_ite (fun c_38 => ?_) (fun c_38 => ?_)
          · skip
            have c_38i : (gI z3 5).toInt = 257 := bI_eq rfl (show (257 : Int32).toInt = 257 by decide) c_38
            refine ok_ite (fun c_39 => ?_) (fun c_39 => ?_)
            · skip
              have c_39i : (gI z2 3).toInt < 60 := bI_lt rfl (show (60 : Int32).toInt = 60 by decide) c_39
              refine ok_bd (t_fX6_step) (fun z8 q_40 => ?_)
              have h_41 : FrL [4, 5, 6, 7] z3 z8 := q_40
              refine ok_bd2 (t_fX4_readSum) (fun z10 z11 q_42 => ?_)
              have h_43 : FrL [1, 2, 3] (sI z2 3 ((gI z2 3) + 1)) z10 := q_42.1
              have h_44 : FrL [4, 5, 6, 7, 8] z8 z11 := q_42.2
              refine ok_bd (t_fX4_emit) (fun z13 q_45 => ?_)
              have h_46 : FrL [1, 2] z10 z13 := q_45
              exact ok_some ⟨(fr_tr (fr_tr (fr_I (fr_tr fr_rf h_2 (by decide)) (by decide)) h_43 (by decide)) h_46 (by decide)), (fr_tr (fr_tr (fr_tr fr_rf h_3 (by decide)) h_41 (by decide)) h_44 (by decide))⟩
            · skip
              have c_39i : (gI z2 3).toInt ≥ 60 := bI_nlt rfl (show (60 : Int32).toInt = 60 by decide) c_39
              refine ok_bd (t_fX6_fail) (fun z15 q_47 => ?_)
              have h_48 : FrL [8] z3 z15 := q_47
              exact ok_some ⟨(fr_tr fr_rf h_2 (by decide)), (fr_tr (fr_tr fr_rf h_3 (by decide)) h_48 (by decide))⟩
          · skip
            have c_38i : (gI z3 5).toInt ≠ 257 := bI_neq rfl (show (257 : Int32).toInt = 257 by decide) c_38
            refine ok_ite (fun c_49 => ?_) (fun c_49 => ?_)
            · skip
              have c_49i : (gI z3 5).toInt = 62 := bI_eq rfl (show (62 : Int32).toInt = 62 by decide) c_49
              refine ok_ite (fun c_50 => ?_) (fun c_50 => ?_)
              · skip
                have c_50i : (gI z2 3).toInt < 60 := bI_lt rfl (show (60 : Int32).toInt = 60 by decide) c_50
                refine ok_bd (t_fX6_step) (fun z8 q_51 => ?_)
                have h_52 : FrL [4, 5, 6, 7] z3 z8 := q_51
                refine ok_bd2 (t_fX4_readSum) (fun z10 z11 q_53 => ?_)
                have h_54 : FrL [1, 2, 3] (sI z2 3 ((gI z2 3) + 1)) z10 := q_53.1
                have h_55 : FrL [4, 5, 6, 7, 8] z8 z11 := q_53.2
                refine ok_bd (t_fX4_emit) (fun z13 q_56 => ?_)
                have h_57 : FrL [1, 2] z10 z13 := q_56
                exact ok_some ⟨(fr_tr (fr_tr (fr_I (fr_tr fr_rf h_2 (by decide)) (by decide)) h_54 (by decide)) h_57 (by decide)), (fr_tr (fr_tr (fr_tr fr_rf h_3 (by decide)) h_52 (by decide)) h_55 (by decide))⟩
              · skip
                have c_50i : (gI z2 3).toInt ≥ 60 := bI_nlt rfl (show (60 : Int32).toInt = 60 by decide) c_50
                refine ok_bd (t_fX6_fail) (fun z15 q_58 => ?_)
                have h_59 : FrL [8] z3 z15 := q_58
                exact ok_some ⟨(fr_tr fr_rf h_2 (by decide)), (fr_tr (fr_tr fr_rf h_3 (by decide)) h_59 (by decide))⟩
            · skip
              have c_49i : (gI z3 5).toInt ≠ 62 := bI_neq rfl (show (62 : Int32).toInt = 62 by decide) c_49
              refine ok_bd (t_fX6_fail) (fun z22 q_60 => ?_)
              have h_61 : FrL [8] z3 z22 := q_60
              exact ok_some ⟨(fr_tr fr_rf h_2 (by decide)), (fr_tr (fr_tr fr_rf h_3 (by decide)) h_61 (by decide))⟩
  · skip
    have c_4i : (gI z3 8).toInt ≠ 0 := bI_neq rfl (show (0 : Int32).toInt = 0 by decide) c_4
    exact ok_some ⟨(fr_tr fr_rf h_2 (by decide)), (fr_tr fr_rf h_3 (by decide))⟩

set_option maxHeartbeats 1000000 in
set_option maxRecDepth 20000 in
theorem t_gX4_readFact {rec : Sx → Sx → Int32 → Option (Sx × Sx)} {z_t : Sx} {z_t_0 : Sx} {x1 : Int32} {d : Nat} (hrec : ∀ (z_t : Sx) (z_t_0 : Sx) (x1 : Int32), (0 ≤ x1.toInt ∧ x1.toInt ≤ 10 ∧ 11 ≤ x1.toInt + d) → okP (rec z_t z_t_0 x1) (fun y => (FrL [1, 2, 3] z_t y.1) ∧ (FrL [4, 5, 6, 7, 8] z_t_0 y.2))) (d0 : 0 ≤ x1.toInt ∧ x1.toInt ≤ 10 ∧ 11 ≤ x1.toInt + d + 1) : okP (gX4_readFact rec z_t z_t_0 x1) (fun y => (FrL [1, 2, 3] z_t y.1) ∧ (FrL [4, 5, 6, 7, 8] z_t_0 y.2)) := by
  unfold gX4_readFact
  refine ok_jn ?_
  refine ok_ite (fun c_1 => ?_) (fun c_1 => ?_)
  · skip
    have c_1i : (gI z_t_0 5).toInt = 311 := bI_eq rfl (show (311 : Int32).toInt = 311 by decide) c_1
    refine ok_jn ?_
    refine ok_ite (fun c_2 => ?_) (fun c_2 => ?_)
    · skip
      have c_2i : 1 = 0 := bI_eq (show (1 : Int32).toInt = 1 by decide) (show (0 : Int32).toInt = 0 by decide) c_2
      exact absurd c_2 (by decide)
    · skip
      have c_2i : 1 ≠ 0 := bI_neq (show (1 : Int32).toInt = 1 by decide) (show (0 : Int32).toInt = 0 by decide) c_2
      refine ok_ite (fun c_3 => ?_) (fun c_3 => ?_)
      · skip
        have c_3i : x1.toInt < 10 := bI_lt rfl (show (10 : Int32).toInt = 10 by decide) c_3
        refine ok_bd (t_fX6_step) (fun z6 q_4 => ?_)
        have h_5 : FrL [4, 5, 6, 7] z_t_0 z6 := q_4
        refine ok_ite (fun c_6 => ?_) (fun c_6 => ?_)
        · skip
          have c_6i : 1 = 0 := bI_eq (show (1 : Int32).toInt = 1 by decide) (show (0 : Int32).toInt = 0 by decide) c_6
          exact absurd c_6 (by decide)
        · skip
          have c_6i : 1 ≠ 0 := bI_neq (show (1 : Int32).toInt = 1 by decide) (show (0 : Int32).toInt = 0 by decide) c_6
          refine ok_bd2 (hrec _ _ _ (by first | assumption | omega | decide)) (fun z19 z20 q_7 => ?_)
          have h_8 : FrL [1, 2, 3] z_t z19 := q_7.1
          have h_9 : FrL [4, 5, 6, 7, 8] z6 z20 := q_7.2
          refine ok_bd (t_fX4_emit) (fun z22 q_10 => ?_)
          have h_11 : FrL [1, 2] z19 z22 := q_10
          exact ok_some ⟨(fr_tr (fr_tr fr_rf h_8 (by decide)) h_11 (by decide)), (fr_tr (fr_tr fr_rf h_5 (by decide)) h_9 (by decide))⟩
      · skip
        have c_3i : x1.toInt ≥ 10 := bI_nlt rfl (show (10 : Int32).toInt = 10 by decide) c_3
        refine ok_bd (t_fX6_fail) (fun z24 q_12 => ?_)
        have h_13 : FrL [8] z_t_0 z24 := q_12
        exact ok_some ⟨fr_rf, (fr_tr fr_rf h_13 (by decide))⟩
  · skip
    have c_1i : (gI z_t_0 5).toInt ≠ 311 := bI_neq rfl (show (311 : Int32).toInt = 311 by decide) c_1
    refine ok_jn ?_
    refine ok_ite (fun c_14 => ?_) (fun c_14 => ?_)
    · skip
      have c_14i : 0 = 0 := bI_eq (show (0 : Int32).toInt = 0 by decide) (show (0 : Int32).toInt = 0 by decide) c_14
      refine ok_ite (fun c_15 => ?_) (fun c_15 => ?_)
      · skip
        have c_15i : (gI z_t_0 5).toInt = 91 := bI_eq rfl (show (91 : Int32).toInt = 91 by decide) c_15
        refine ok_ite (fun c_16 => ?_) (fun c_16 => ?_)
        · skip
          have c_16i : x1.toInt < 10 := bI_lt rfl (show (10 : Int32).toInt = 10 by decide) c_16
          refine ok_bd (t_fX6_step) (fun z6 q_17 => ?_)
          have h_18 : FrL [4, 5, 6, 7] z_t_0 z6 := q_17
          refine ok_ite (fun c_19 => ?_) (fun c_19 => ?_)
          · skip
            have c_19i : 0 = 0 := bI_eq (show (0 : Int32).toInt = 0 by decide) (show (0 : Int32).toInt = 0 by decide) c_19
            refine ok_bd2 (t_fX4_readTest hrec (by first | assumption | omega | decide)) (fun z9 z10 q_20 => ?_)
            have h_21 : FrL [1, 2, 3] z_t z9 := q_20.1
            have h_22 : FrL [4, 5, 6, 7, 8] z6 z10 := q_20.2
            refine ok_jn ?_
            refine ok_ite (fun c_23 => ?_) (fun c_23 => ?_)
            · skip
              have c_23i : (gI z10 8).toInt = 0 := bI_eq rfl (show (0 : Int32).toInt = 0 by decide) c_23
              refine ok_ite (fun c_24 => ?_) (fun c_24 => ?_)
              · skip
                have c_24i : (gI z10 5).toInt = 93 := bI_eq rfl (show (93 : Int32).toInt = 93 by decide) c_24
                refine ok_bd (t_fX6_step) (fun z13 q_25 => ?_)
                have h_26 : FrL [4, 5, 6, 7] z10 z13 := q_25
                exact ok_some ⟨(fr_tr fr_rf h_21 (by decide)), (fr_tr (fr_tr (fr_tr fr_rf h_18 (by decide)) h_22 (by decide)) h_26 (by decide))⟩
              · skip
                have c_24i : (gI z10 5).toInt ≠ 93 := bI_neq rfl (show (93 : Int32).toInt = 93 by decide) c_24
                refine ok_bd (t_fX6_fail) (fun z17 q_27 => ?_)
                have h_28 : FrL [8] z10 z17 := q_27
                exact ok_some ⟨(fr_tr fr_rf h_21 (by decide)), (fr_tr (fr_tr (fr_tr fr_rf h_18 (by decide)) h_22 (by decide)) h_28 (by decide))⟩
            · skip
              have c_23i : (gI z10 8).toInt ≠ 0 := bI_neq rfl (show (0 : Int32).toInt = 0 by decide) c_23
              refine ok_bd (t_fX6_step) (fun z13 q_29 => ?_)
              have h_30 : FrL [4, 5, 6, 7] z10 z13 := q_29
              exact ok_some ⟨(fr_tr fr_rf h_21 (by decide)), (fr_tr (fr_tr (fr_tr fr_rf h_18 (by decide)) h_22 (by decide)) h_30 (by decide))⟩
          · skip
            have c_19i : 0 ≠ 0 := bI_neq (show (0 : Int32).toInt = 0 by decide) (show (0 : Int32).toInt = 0 by decide) c_19
            exact absurd (by decide) c_19
        · skip
          have c_16i : x1.toInt ≥ 10 := bI_nlt rfl (show (10 : Int32).toInt = 10 by decide) c_16
          refine ok_bd (t_fX6_fail) (fun z24 q_31 => ?_)
          have h_32 : FrL [8] z_t_0 z24 := q_31
          exact ok_some ⟨fr_rf, (fr_tr fr_rf h_32 (by decide))⟩
      · skip
        have c_15i : (gI z_t_0 5).toInt ≠ 91 := bI_neq rfl (show (91 : Int32).toInt = 91 by decide) c_15
        refine ok_bd2 (t_fX4_readComparison) (fun z28 z29 q_33 => ?_)
        have h_34 : FrL [1, 2, 3] z_t z28 := q_33.1
        have h_35 : FrL [4, 5, 6, 7, 8] z_t_0 z29 := q_33.2
        exact ok_some ⟨(fr_tr fr_rf h_34 (by decide)), (fr_tr fr_rf h_35 (by decide))⟩
    · skip
      have c_14i : 0 ≠ 0 := bI_neq (show (0 : Int32).toInt = 0 by decide) (show (0 : Int32).toInt = 0 by decide) c_14
      exact absurd (by decide) c_14

set_option maxHeartbeats 1000000 in
set_option maxRecDepth 20000 in
theorem t_fX4_readFact : ∀ (dp : Nat) (z_t : Sx) (z_t_0 : Sx) (x1 : Int32), (0 ≤ x1.toInt ∧ x1.toInt ≤ 10 ∧ 11 ≤ x1.toInt + dp) → okP (fX4_readFact dp z_t z_t_0 x1) (fun y => (FrL [1, 2, 3] z_t y.1) ∧ (FrL [4, 5, 6, 7, 8] z_t_0 y.2)) := by
  intro dp
  induction dp with
  | zero => intro z_t z_t_0 x1 d0; exfalso; omega
  | succ dp ih =>
    intro z_t z_t_0 x1 d0
    exact t_gX4_readFact (d := dp) (fun z_t z_t_0 x1 d0 => ih z_t z_t_0 x1 (by omega)) (by omega)

set_option maxHeartbeats 1000000 in
set_option maxRecDepth 20000 in
theorem t_fX4_readClause {z_t : Sx} {z_t_0 : Sx} : okP (fX4_readClause z_t z_t_0) (fun y => (FrL [1, 2, 3, 4, 5, 6, 7] z_t y.1) ∧ (FrL [4, 5, 6, 7, 8] z_t_0 y.2)) := by
  unfold fX4_readClause
  refine ok_jn ?_
  refine ok_ite (fun c_1 => ?_) (fun c_1 => ?_)
  · skip
    have c_1i : (gI z_t_0 5).toInt = 306 := bI_eq rfl (show (306 : Int32).toInt = 306 by decide) c_1
    refine ok_ite (fun c_2 => ?_) (fun c_2 => ?_)
    · skip
      have c_2i : (gI z_t 4).toInt < 12 := bI_lt rfl (show (12 : Int32).toInt = 12 by decide) c_2
      refine ok_bd (t_fX6_step) (fun z4 q_3 => ?_)
      have h_4 : FrL [4, 5, 6, 7] z_t_0 z4 := q_3
      refine ok_bd (t_fX8_put (by first | assumption | omega | decide)) (fun z6 q_5 => ?_)
      refine ok_jn ?_
      refine ok_ite (fun c_6 => ?_) (fun c_6 => ?_)
      · skip
        have c_6i : (gI z_t_0 5).toInt = 308 := bI_eq rfl (show (308 : Int32).toInt = 308 by decide) c_6
        refine ok_jn ?_
        refine ok_ite (fun c_7 => ?_) (fun c_7 => ?_)
        · skip
          have c_7i : (gI z_t_0 5).toInt = 306 := bI_eq rfl (show (306 : Int32).toInt = 306 by decide) c_7
          refine ok_bd2 (t_fX4_readSum) (fun z26 z27 q_8 => ?_)
          have h_9 : FrL [1, 2, 3] (sTf z_t 5 z6) z26 := q_8.1
          have h_10 : FrL [4, 5, 6, 7, 8] z4 z27 := q_8.2
          refine ok_ite (fun c_11 => ?_) (fun c_11 => ?_)
          · skip
            have c_11i : (gI z27 8).toInt = 0 := bI_eq rfl (show (0 : Int32).toInt = 0 by decide) c_11
            refine ok_ite (fun c_12 => ?_) (fun c_12 => ?_)
            · skip
              have c_12i : (gI z27 5).toInt = 307 := bI_eq rfl (show (307 : Int32).toInt = 307 by decide) c_12
              refine ok_bd (t_fX6_step) (fun z31 q_13 => ?_)
              have h_14 : FrL [4, 5, 6, 7] z27 z31 := q_13
              refine ok_bd (t_fX8_put (by first | assumption | omega | decide)) (fun z14 q_15 => ?_)
              refine ok_jn ?_
              refine ok_ite (fun c_16 => ?_) (fun c_16 => ?_)
              · skip
                have c_16i : 1 = 0 := bI_eq (show (1 : Int32).toInt = 1 by decide) (show (0 : Int32).toInt = 0 by decide) c_16
                exact absurd c_16 (by decide)
              · skip
                have c_16i : 1 ≠ 0 := bI_neq (show (1 : Int32).toInt = 1 by decide) (show (0 : Int32).toInt = 0 by decide) c_16
                refine ok_bd2 (t_fX4_readTest (d := 16) (fun _ _ _ h1 => t_fX4_readFact 16 _ _ _ h1) (by first | assumption | omega | decide)) (fun z22 z23 q_17 => ?_)
                have h_18 : FrL [1, 2, 3] (sTf z26 6 z14) z22 := q_17.1
                have h_19 : FrL [4, 5, 6, 7, 8] z31 z23 := q_17.2
                refine ok_bd (t_fX8_put (by first | assumption | omega | decide)) (fun z19 q_20 => ?_)
                exact ok_some ⟨(fr_I (fr_Tf (fr_tr (fr_Tf (fr_tr (fr_Tf fr_rf (by decide)) h_9 (by decide)) (by decide)) h_18 (by decide)) (by decide)) (by decide)), (fr_tr (fr_tr (fr_tr (fr_tr fr_rf h_4 (by decide)) h_10 (by decide)) h_14 (by decide)) h_19 (by decide))⟩
            · skip
              have c_12i : (gI z27 5).toInt ≠ 307 := bI_neq rfl (show (307 : Int32).toInt = 307 by decide) c_12
              refine ok_bd (t_fX8_put (by first | assumption | omega | decide)) (fun z14 q_21 => ?_)
              refine ok_jn ?_
              refine ok_ite (fun c_22 => ?_) (fun c_22 => ?_)
              · skip
                have c_22i : 1 = 0 := bI_eq (show (1 : Int32).toInt = 1 by decide) (show (0 : Int32).toInt = 0 by decide) c_22
                exact absurd c_22 (by decide)
              · skip
                have c_22i : 1 ≠ 0 := bI_neq (show (1 : Int32).toInt = 1 by decide) (show (0 : Int32).toInt = 0 by decide) c_22
                refine ok_bd2 (t_fX4_readTest (d := 16) (fun _ _ _ h1 => t_fX4_readFact 16 _ _ _ h1) (by first | assumption | omega | decide)) (fun z22 z23 q_23 => ?_)
                have h_24 : FrL [1, 2, 3] (sTf z26 6 z14) z22 := q_23.1
                have h_25 : FrL [4, 5, 6, 7, 8] z27 z23 := q_23.2
                refine ok_bd (t_fX8_put (by first | assumption | omega | decide)) (fun z19 q_26 => ?_)
                exact ok_some ⟨(fr_I (fr_Tf (fr_tr (fr_Tf (fr_tr (fr_Tf fr_rf (by decide)) h_9 (by decide)) (by decide)) h_24 (by decide)) (by decide)) (by decide)), (fr_tr (fr_tr (fr_tr fr_rf h_4 (by decide)) h_10 (by decide)) h_25 (by decide))⟩
          · skip
            have c_11i : (gI z27 8).toInt ≠ 0 := bI_neq rfl (show (0 : Int32).toInt = 0 by decide) c_11
            refine ok_bd (t_fX8_put (by first | assumption | omega | decide)) (fun z14 q_27 => ?_)
            refine ok_jn ?_
            refine ok_ite (fun c_28 => ?_) (fun c_28 => ?_)
            · skip
              have c_28i : 1 = 0 := bI_eq (show (1 : Int32).toInt = 1 by decide) (show (0 : Int32).toInt = 0 by decide) c_28
              exact absurd c_28 (by decide)
            · skip
              have c_28i : 1 ≠ 0 := bI_neq (show (1 : Int32).toInt = 1 by decide) (show (0 : Int32).toInt = 0 by decide) c_28
              refine ok_bd2 (t_fX4_readTest (d := 16) (fun _ _ _ h1 => t_fX4_readFact 16 _ _ _ h1) (by first | assumption | omega | decide)) (fun z22 z23 q_29 => ?_)
              have h_30 : FrL [1, 2, 3] (sTf z26 6 z14) z22 := q_29.1
              have h_31 : FrL [4, 5, 6, 7, 8] z27 z23 := q_29.2
              refine ok_bd (t_fX8_put (by first | assumption | omega | decide)) (fun z19 q_32 => ?_)
              exact ok_some ⟨(fr_I (fr_Tf (fr_tr (fr_Tf (fr_tr (fr_Tf fr_rf (by decide)) h_9 (by decide)) (by decide)) h_30 (by decide)) (by decide)) (by decide)), (fr_tr (fr_tr (fr_tr fr_rf h_4 (by decide)) h_10 (by decide)) h_31 (by decide))⟩
        · skip
          have c_7i : (gI z_t_0 5).toInt ≠ 306 := bI_neq rfl (show (306 : Int32).toInt = 306 by decide) c_7
          refine ok_bd (t_fX8_put (by first | assumption | omega | decide)) (fun z14 q_33 => ?_)
          refine ok_jn ?_
          refine ok_ite (fun c_34 => ?_) (fun c_34 => ?_)
          · skip
            have c_34i : 1 = 0 := bI_eq (show (1 : Int32).toInt = 1 by decide) (show (0 : Int32).toInt = 0 by decide) c_34
            exact absurd c_34 (by decide)
          · skip
            have c_34i : 1 ≠ 0 := bI_neq (show (1 : Int32).toInt = 1 by decide) (show (0 : Int32).toInt = 0 by decide) c_34
            refine ok_bd2 (t_fX4_readTest (d := 16) (fun _ _ _ h1 => t_fX4_readFact 16 _ _ _ h1) (by first | assumption | omega | decide)) (fun z22 z23 q_35 => ?_)
            have h_36 : FrL [1, 2, 3] (sTf (sTf z_t 5 z6) 6 z14) z22 := q_35.1
            have h_37 : FrL [4, 5, 6, 7, 8] z4 z23 := q_35.2
            refine ok_bd (t_fX8_put (by first | assumption | omega | decide)) (fun z19 q_38 => ?_)
            exact ok_some ⟨(fr_I (fr_Tf (fr_tr (fr_Tf (fr_Tf fr_rf (by decide)) (by decide)) h_36 (by decide)) (by decide)) (by decide)), (fr_tr (fr_tr fr_rf h_4 (by decide)) h_37 (by decide))⟩
      · skip
        have c_6i : (gI z_t_0 5).toInt ≠ 308 := bI_neq rfl (show (308 : Int32).toInt = 308 by decide) c_6
        refine ok_jn ?_
        refine ok_ite (fun c_39 => ?_) (fun c_39 => ?_)
        · skip
          have c_39i : (gI z_t_0 5).toInt = 306 := bI_eq rfl (show (306 : Int32).toInt = 306 by decide) c_39
          refine ok_bd2 (t_fX4_readSum) (fun z26 z27 q_40 => ?_)
          have h_41 : FrL [1, 2, 3] (sTf z_t 5 z6) z26 := q_40.1
          have h_42 : FrL [4, 5, 6, 7, 8] z4 z27 := q_40.2
          refine ok_ite (fun c_43 => ?_) (fun c_43 => ?_)
          · skip
            have c_43i : (gI z27 8).toInt = 0 := bI_eq rfl (show (0 : Int32).toInt = 0 by decide) c_43
            refine ok_ite (fun c_44 => ?_) (fun c_44 => ?_)
            · skip
              have c_44i : (gI z27 5).toInt = 307 := bI_eq rfl (show (307 : Int32).toInt = 307 by decide) c_44
              refine ok_bd (t_fX6_step) (fun z31 q_45 => ?_)
              have h_46 : FrL [4, 5, 6, 7] z27 z31 := q_45
              refine ok_bd (t_fX8_put (by first | assumption | omega | decide)) (fun z14 q_47 => ?_)
              refine ok_jn ?_
              refine ok_ite (fun c_48 => ?_) (fun c_48 => ?_)
              · skip
                have c_48i : 1 = 0 := bI_eq (show (1 : Int32).toInt = 1 by decide) (show (0 : Int32).toInt = 0 by decide) c_48
                exact absurd c_48 (by decide)
              · skip
                have c_48i : 1 ≠ 0 := bI_neq (show (1 : Int32).toInt = 1 by decide) (show (0 : Int32).toInt = 0 by decide) c_48
                refine ok_bd2 (t_fX4_readTest (d := 16) (fun _ _ _ h1 => t_fX4_readFact 16 _ _ _ h1) (by first | assumption | omega | decide)) (fun z22 z23 q_49 => ?_)
                have h_50 : FrL [1, 2, 3] (sTf z26 6 z14) z22 := q_49.1
                have h_51 : FrL [4, 5, 6, 7, 8] z31 z23 := q_49.2
                refine ok_bd (t_fX8_put (by first | assumption | omega | decide)) (fun z19 q_52 => ?_)
                exact ok_some ⟨(fr_I (fr_Tf (fr_tr (fr_Tf (fr_tr (fr_Tf fr_rf (by decide)) h_41 (by decide)) (by decide)) h_50 (by decide)) (by decide)) (by decide)), (fr_tr (fr_tr (fr_tr (fr_tr fr_rf h_4 (by decide)) h_42 (by decide)) h_46 (by decide)) h_51 (by decide))⟩
            · skip
              have c_44i : (gI z27 5).toInt ≠ 307 := bI_neq rfl (show (307 : Int32).toInt = 307 by decide) c_44
              refine ok_bd (t_fX8_put (by first | assumption | omega | decide)) (fun z14 q_53 => ?_)
              refine ok_jn ?_
              refine ok_ite (fun c_54 => ?_) (fun c_54 => ?_)
              · skip
                have c_54i : 0 = 0 := bI_eq (show (0 : Int32).toInt = 0 by decide) (show (0 : Int32).toInt = 0 by decide) c_54
                refine ok_bd (t_fX8_put (by first | assumption | omega | decide)) (fun z19 q_55 => ?_)
                exact ok_some ⟨(fr_I (fr_Tf (fr_Tf (fr_tr (fr_Tf fr_rf (by decide)) h_41 (by decide)) (by decide)) (by decide)) (by decide)), (fr_tr (fr_tr fr_rf h_4 (by decide)) h_42 (by decide))⟩
              · skip
                have c_54i : 0 ≠ 0 := bI_neq (show (0 : Int32).toInt = 0 by decide) (show (0 : Int32).toInt = 0 by decide) c_54
                exact absurd (by decide) c_54
          · skip
            have c_43i : (gI z27 8).toInt ≠ 0 := bI_neq rfl (show (0 : Int32).toInt = 0 by decide) c_43
            refine ok_bd (t_fX8_put (by first | assumption | omega | decide)) (fun z14 q_56 => ?_)
            refine ok_jn ?_
            refine ok_ite (fun c_57 => ?_) (fun c_57 => ?_)
            · skip
              have c_57i : 0 = 0 := bI_eq (show (0 : Int32).toInt = 0 by decide) (show (0 : Int32).toInt = 0 by decide) c_57
              refine ok_bd (t_fX8_put (by first | assumption | omega | decide)) (fun z19 q_58 => ?_)
              exact ok_some ⟨(fr_I (fr_Tf (fr_Tf (fr_tr (fr_Tf fr_rf (by decide)) h_41 (by decide)) (by decide)) (by decide)) (by decide)), (fr_tr (fr_tr fr_rf h_4 (by decide)) h_42 (by decide))⟩
            · skip
              have c_57i : 0 ≠ 0 := bI_neq (show (0 : Int32).toInt = 0 by decide) (show (0 : Int32).toInt = 0 by decide) c_57
              exact absurd (by decide) c_57
        · skip
          have c_39i : (gI z_t_0 5).toInt ≠ 306 := bI_neq rfl (show (306 : Int32).toInt = 306 by decide) c_39
          refine ok_bd (t_fX8_put (by first | assumption | omega | decide)) (fun z14 q_59 => ?_)
          refine ok_jn ?_
          refine ok_ite (fun c_60 => ?_) (fun c_60 => ?_)
          · skip
            have c_60i : 0 = 0 := bI_eq (show (0 : Int32).toInt = 0 by decide) (show (0 : Int32).toInt = 0 by decide) c_60
            refine ok_bd (t_fX8_put (by first | assumption | omega | decide)) (fun z19 q_61 => ?_)
            exact ok_some ⟨(fr_I (fr_Tf (fr_Tf (fr_Tf fr_rf (by decide)) (by decide)) (by decide)) (by decide)), (fr_tr fr_rf h_4 (by decide))⟩
          · skip
            have c_60i : 0 ≠ 0 := bI_neq (show (0 : Int32).toInt = 0 by decide) (show (0 : Int32).toInt = 0 by decide) c_60
            exact absurd (by decide) c_60
    · skip
      have c_2i : (gI z_t 4).toInt ≥ 12 := bI_nlt rfl (show (12 : Int32).toInt = 12 by decide) c_2
      refine ok_bd (t_fX6_fail) (fun z34 q_62 => ?_)
      have h_63 : FrL [8] z_t_0 z34 := q_62
      exact ok_some ⟨fr_rf, (fr_tr fr_rf h_63 (by decide))⟩
  · skip
    have c_1i : (gI z_t_0 5).toInt ≠ 306 := bI_neq rfl (show (306 : Int32).toInt = 306 by decide) c_1
    refine ok_ite (fun c_64 => ?_) (fun c_64 => ?_)
    · skip
      have c_64i : (gI z_t_0 5).toInt = 308 := bI_eq rfl (show (308 : Int32).toInt = 308 by decide) c_64
      refine ok_ite (fun c_65 => ?_) (fun c_65 => ?_)
      · skip
        have c_65i : (gI z_t 4).toInt < 12 := bI_lt rfl (show (12 : Int32).toInt = 12 by decide) c_65
        refine ok_bd (t_fX6_step) (fun z4 q_66 => ?_)
        have h_67 : FrL [4, 5, 6, 7] z_t_0 z4 := q_66
        refine ok_bd (t_fX8_put (by first | assumption | omega | decide)) (fun z6 q_68 => ?_)
        refine ok_jn ?_
        refine ok_ite (fun c_69 => ?_) (fun c_69 => ?_)
        · skip
          have c_69i : (gI z_t_0 5).toInt = 308 := bI_eq rfl (show (308 : Int32).toInt = 308 by decide) c_69
          refine ok_jn ?_
          refine ok_ite (fun c_70 => ?_) (fun c_70 => ?_)
          · skip
            have c_70i : (gI z_t_0 5).toInt = 306 := bI_eq rfl (show (306 : Int32).toInt = 306 by decide) c_70
            refine ok_bd2 (t_fX4_readSum) (fun z26 z27 q_71 => ?_)
            have h_72 : FrL [1, 2, 3] (sTf z_t 5 z6) z26 := q_71.1
            have h_73 : FrL [4, 5, 6, 7, 8] z4 z27 := q_71.2
            refine ok_ite (fun c_74 => ?_) (fun c_74 => ?_)
            · skip
              have c_74i : (gI z27 8).toInt = 0 := bI_eq rfl (show (0 : Int32).toInt = 0 by decide) c_74
              refine ok_ite (fun c_75 => ?_) (fun c_75 => ?_)
              · skip
                have c_75i : (gI z27 5).toInt = 307 := bI_eq rfl (show (307 : Int32).toInt = 307 by decide) c_75
                refine ok_bd (t_fX6_step) (fun z31 q_76 => ?_)
                have h_77 : FrL [4, 5, 6, 7] z27 z31 := q_76
                refine ok_bd (t_fX8_put (by first | assumption | omega | decide)) (fun z14 q_78 => ?_)
                refine ok_jn ?_
                refine ok_ite (fun c_79 => ?_) (fun c_79 => ?_)
                · skip
                  have c_79i : 1 = 0 := bI_eq (show (1 : Int32).toInt = 1 by decide) (show (0 : Int32).toInt = 0 by decide) c_79
                  exact absurd c_79 (by decide)
                · skip
                  have c_79i : 1 ≠ 0 := bI_neq (show (1 : Int32).toInt = 1 by decide) (show (0 : Int32).toInt = 0 by decide) c_79
                  refine ok_bd2 (t_fX4_readTest (d := 16) (fun _ _ _ h1 => t_fX4_readFact 16 _ _ _ h1) (by first | assumption | omega | decide)) (fun z22 z23 q_80 => ?_)
                  have h_81 : FrL [1, 2, 3] (sTf z26 6 z14) z22 := q_80.1
                  have h_82 : FrL [4, 5, 6, 7, 8] z31 z23 := q_80.2
                  refine ok_bd (t_fX8_put (by first | assumption | omega | decide)) (fun z19 q_83 => ?_)
                  exact ok_some ⟨(fr_I (fr_Tf (fr_tr (fr_Tf (fr_tr (fr_Tf fr_rf (by decide)) h_72 (by decide)) (by decide)) h_81 (by decide)) (by decide)) (by decide)), (fr_tr (fr_tr (fr_tr (fr_tr fr_rf h_67 (by decide)) h_73 (by decide)) h_77 (by decide)) h_82 (by decide))⟩
              · skip
                have c_75i : (gI z27 5).toInt ≠ 307 := bI_neq rfl (show (307 : Int32).toInt = 307 by decide) c_75
                refine ok_bd (t_fX8_put (by first | assumption | omega | decide)) (fun z14 q_84 => ?_)
                refine ok_jn ?_
                refine ok_ite (fun c_85 => ?_) (fun c_85 => ?_)
                · skip
                  have c_85i : 1 = 0 := bI_eq (show (1 : Int32).toInt = 1 by decide) (show (0 : Int32).toInt = 0 by decide) c_85
                  exact absurd c_85 (by decide)
                · skip
                  have c_85i : 1 ≠ 0 := bI_neq (show (1 : Int32).toInt = 1 by decide) (show (0 : Int32).toInt = 0 by decide) c_85
                  refine ok_bd2 (t_fX4_readTest (d := 16) (fun _ _ _ h1 => t_fX4_readFact 16 _ _ _ h1) (by first | assumption | omega | decide)) (fun z22 z23 q_86 => ?_)
                  have h_87 : FrL [1, 2, 3] (sTf z26 6 z14) z22 := q_86.1
                  have h_88 : FrL [4, 5, 6, 7, 8] z27 z23 := q_86.2
                  refine ok_bd (t_fX8_put (by first | assumption | omega | decide)) (fun z19 q_89 => ?_)
                  exact ok_some ⟨(fr_I (fr_Tf (fr_tr (fr_Tf (fr_tr (fr_Tf fr_rf (by decide)) h_72 (by decide)) (by decide)) h_87 (by decide)) (by decide)) (by decide)), (fr_tr (fr_tr (fr_tr fr_rf h_67 (by decide)) h_73 (by decide)) h_88 (by decide))⟩
            · skip
              have c_74i : (gI z27 8).toInt ≠ 0 := bI_neq rfl (show (0 : Int32).toInt = 0 by decide) c_74
              refine ok_bd (t_fX8_put (by first | assumption | omega | decide)) (fun z14 q_90 => ?_)
              refine ok_jn ?_
              refine ok_ite (fun c_91 => ?_) (fun c_91 => ?_)
              · skip
                have c_91i : 1 = 0 := bI_eq (show (1 : Int32).toInt = 1 by decide) (show (0 : Int32).toInt = 0 by decide) c_91
                exact absurd c_91 (by decide)
              · skip
                have c_91i : 1 ≠ 0 := bI_neq (show (1 : Int32).toInt = 1 by decide) (show (0 : Int32).toInt = 0 by decide) c_91
                refine ok_bd2 (t_fX4_readTest (d := 16) (fun _ _ _ h1 => t_fX4_readFact 16 _ _ _ h1) (by first | assumption | omega | decide)) (fun z22 z23 q_92 => ?_)
                have h_93 : FrL [1, 2, 3] (sTf z26 6 z14) z22 := q_92.1
                have h_94 : FrL [4, 5, 6, 7, 8] z27 z23 := q_92.2
                refine ok_bd (t_fX8_put (by first | assumption | omega | decide)) (fun z19 q_95 => ?_)
                exact ok_some ⟨(fr_I (fr_Tf (fr_tr (fr_Tf (fr_tr (fr_Tf fr_rf (by decide)) h_72 (by decide)) (by decide)) h_93 (by decide)) (by decide)) (by decide)), (fr_tr (fr_tr (fr_tr fr_rf h_67 (by decide)) h_73 (by decide)) h_94 (by decide))⟩
          · skip
            have c_70i : (gI z_t_0 5).toInt ≠ 306 := bI_neq rfl (show (306 : Int32).toInt = 306 by decide) c_70
            refine ok_bd (t_fX8_put (by first | assumption | omega | decide)) (fun z14 q_96 => ?_)
            refine ok_jn ?_
            refine ok_ite (fun c_97 => ?_) (fun c_97 => ?_)
            · skip
              have c_97i : 1 = 0 := bI_eq (show (1 : Int32).toInt = 1 by decide) (show (0 : Int32).toInt = 0 by decide) c_97
              exact absurd c_97 (by decide)
            · skip
              have c_97i : 1 ≠ 0 := bI_neq (show (1 : Int32).toInt = 1 by decide) (show (0 : Int32).toInt = 0 by decide) c_97
              refine ok_bd2 (t_fX4_readTest (d := 16) (fun _ _ _ h1 => t_fX4_readFact 16 _ _ _ h1) (by first | assumption | omega | decide)) (fun z22 z23 q_98 => ?_)
              have h_99 : FrL [1, 2, 3] (sTf (sTf z_t 5 z6) 6 z14) z22 := q_98.1
              have h_100 : FrL [4, 5, 6, 7, 8] z4 z23 := q_98.2
              refine ok_bd (t_fX8_put (by first | assumption | omega | decide)) (fun z19 q_101 => ?_)
              exact ok_some ⟨(fr_I (fr_Tf (fr_tr (fr_Tf (fr_Tf fr_rf (by decide)) (by decide)) h_99 (by decide)) (by decide)) (by decide)), (fr_tr (fr_tr fr_rf h_67 (by decide)) h_100 (by decide))⟩
        · skip
          have c_69i : (gI z_t_0 5).toInt ≠ 308 := bI_neq rfl (show (308 : Int32).toInt = 308 by decide) c_69
          refine ok_jn ?_
          refine ok_ite (fun c_102 => ?_) (fun c_102 => ?_)
          · skip
            have c_102i : (gI z_t_0 5).toInt = 306 := bI_eq rfl (show (306 : Int32).toInt = 306 by decide) c_102
            refine ok_bd2 (t_fX4_readSum) (fun z26 z27 q_103 => ?_)
            have h_104 : FrL [1, 2, 3] (sTf z_t 5 z6) z26 := q_103.1
            have h_105 : FrL [4, 5, 6, 7, 8] z4 z27 := q_103.2
            refine ok_ite (fun c_106 => ?_) (fun c_106 => ?_)
            · skip
              have c_106i : (gI z27 8).toInt = 0 := bI_eq rfl (show (0 : Int32).toInt = 0 by decide) c_106
              refine ok_ite (fun c_107 => ?_) (fun c_107 => ?_)
              · skip
                have c_107i : (gI z27 5).toInt = 307 := bI_eq rfl (show (307 : Int32).toInt = 307 by decide) c_107
                refine ok_bd (t_fX6_step) (fun z31 q_108 => ?_)
                have h_109 : FrL [4, 5, 6, 7] z27 z31 := q_108
                refine ok_bd (t_fX8_put (by first | assumption | omega | decide)) (fun z14 q_110 => ?_)
                refine ok_jn ?_
                refine ok_ite (fun c_111 => ?_) (fun c_111 => ?_)
                · skip
                  have c_111i : 1 = 0 := bI_eq (show (1 : Int32).toInt = 1 by decide) (show (0 : Int32).toInt = 0 by decide) c_111
                  exact absurd c_111 (by decide)
                · skip
                  have c_111i : 1 ≠ 0 := bI_neq (show (1 : Int32).toInt = 1 by decide) (show (0 : Int32).toInt = 0 by decide) c_111
                  refine ok_bd2 (t_fX4_readTest (d := 16) (fun _ _ _ h1 => t_fX4_readFact 16 _ _ _ h1) (by first | assumption | omega | decide)) (fun z22 z23 q_112 => ?_)
                  have h_113 : FrL [1, 2, 3] (sTf z26 6 z14) z22 := q_112.1
                  have h_114 : FrL [4, 5, 6, 7, 8] z31 z23 := q_112.2
                  refine ok_bd (t_fX8_put (by first | assumption | omega | decide)) (fun z19 q_115 => ?_)
                  exact ok_some ⟨(fr_I (fr_Tf (fr_tr (fr_Tf (fr_tr (fr_Tf fr_rf (by decide)) h_104 (by decide)) (by decide)) h_113 (by decide)) (by decide)) (by decide)), (fr_tr (fr_tr (fr_tr (fr_tr fr_rf h_67 (by decide)) h_105 (by decide)) h_109 (by decide)) h_114 (by decide))⟩
              · skip
                have c_107i : (gI z27 5).toInt ≠ 307 := bI_neq rfl (show (307 : Int32).toInt = 307 by decide) c_107
                refine ok_bd (t_fX8_put (by first | assumption | omega | decide)) (fun z14 q_116 => ?_)
                refine ok_jn ?_
                refine ok_ite (fun c_117 => ?_) (fun c_117 => ?_)
                · skip
                  have c_117i : 0 = 0 := bI_eq (show (0 : Int32).toInt = 0 by decide) (show (0 : Int32).toInt = 0 by decide) c_117
                  refine ok_bd (t_fX8_put (by first | assumption | omega | decide)) (fun z19 q_118 => ?_)
                  exact ok_some ⟨(fr_I (fr_Tf (fr_Tf (fr_tr (fr_Tf fr_rf (by decide)) h_104 (by decide)) (by decide)) (by decide)) (by decide)), (fr_tr (fr_tr fr_rf h_67 (by decide)) h_105 (by decide))⟩
                · skip
                  have c_117i : 0 ≠ 0 := bI_neq (show (0 : Int32).toInt = 0 by decide) (show (0 : Int32).toInt = 0 by decide) c_117
                  exact absurd (by decide) c_117
            · skip
              have c_106i : (gI z27 8).toInt ≠ 0 := bI_neq rfl (show (0 : Int32).toInt = 0 by decide) c_106
              refine ok_bd (t_fX8_put (by first | assumption | omega | decide)) (fun z14 q_119 => ?_)
              refine ok_jn ?_
              refine ok_ite (fun c_120 => ?_) (fun c_120 => ?_)
              · skip
                have c_120i : 0 = 0 := bI_eq (show (0 : Int32).toInt = 0 by decide) (show (0 : Int32).toInt = 0 by decide) c_120
                refine ok_bd (t_fX8_put (by first | assumption | omega | decide)) (fun z19 q_121 => ?_)
                exact ok_some ⟨(fr_I (fr_Tf (fr_Tf (fr_tr (fr_Tf fr_rf (by decide)) h_104 (by decide)) (by decide)) (by decide)) (by decide)), (fr_tr (fr_tr fr_rf h_67 (by decide)) h_105 (by decide))⟩
              · skip
                have c_120i : 0 ≠ 0 := bI_neq (show (0 : Int32).toInt = 0 by decide) (show (0 : Int32).toInt = 0 by decide) c_120
                exact absurd (by decide) c_120
          · skip
            have c_102i : (gI z_t_0 5).toInt ≠ 306 := bI_neq rfl (show (306 : Int32).toInt = 306 by decide) c_102
            refine ok_bd (t_fX8_put (by first | assumption | omega | decide)) (fun z14 q_122 => ?_)
            refine ok_jn ?_
            refine ok_ite (fun c_123 => ?_) (fun c_123 => ?_)
            · skip
              have c_123i : 0 = 0 := bI_eq (show (0 : Int32).toInt = 0 by decide) (show (0 : Int32).toInt = 0 by decide) c_123
              refine ok_bd (t_fX8_put (by first | assumption | omega | decide)) (fun z19 q_124 => ?_)
              exact ok_some ⟨(fr_I (fr_Tf (fr_Tf (fr_Tf fr_rf (by decide)) (by decide)) (by decide)) (by decide)), (fr_tr fr_rf h_67 (by decide))⟩
            · skip
              have c_123i : 0 ≠ 0 := bI_neq (show (0 : Int32).toInt = 0 by decide) (show (0 : Int32).toInt = 0 by decide) c_123
              exact absurd (by decide) c_123
      · skip
        have c_65i : (gI z_t 4).toInt ≥ 12 := bI_nlt rfl (show (12 : Int32).toInt = 12 by decide) c_65
        refine ok_bd (t_fX6_fail) (fun z34 q_125 => ?_)
        have h_126 : FrL [8] z_t_0 z34 := q_125
        exact ok_some ⟨fr_rf, (fr_tr fr_rf h_126 (by decide))⟩
    · skip
      have c_64i : (gI z_t_0 5).toInt ≠ 308 := bI_neq rfl (show (308 : Int32).toInt = 308 by decide) c_64
      refine ok_bd (t_fX6_fail) (fun z38 q_127 => ?_)
      have h_128 : FrL [8] z_t_0 z38 := q_127
      exact ok_some ⟨fr_rf, (fr_tr fr_rf h_128 (by decide))⟩

set_option maxHeartbeats 1000000 in
set_option maxRecDepth 20000 in
theorem t_fX4_start {z_t : Sx} : okP (fX4_start z_t) (fun y => (FrL [2, 3, 4] z_t y)) := by
  unfold fX4_start
  exact ok_some (fr_I (fr_I (fr_I fr_rf (by decide)) (by decide)) (by decide))

set_option maxHeartbeats 1000000 in
set_option maxRecDepth 20000 in
theorem t_fX5_beginWork {z_t : Sx} {z_t_1 : Sx} {z_p1 : Sx} : okP (fX5_beginWork z_t z_t_1 z_p1) (fun y => (FrL [2, 3, 4, 6] z_t y.1) ∧ (FrL [0, 1, 2, 3, 5] z_t_1 y.2)) := by
  unfold fX5_beginWork
  refine ok_bd (t_fX0_begin) (fun z2 q_1 => ?_)
  have h_2 : FrL [0, 1, 2, 5] z_t_1 z2 := q_1
  exact ok_some ⟨(fr_I (fr_I (fr_I (fr_I fr_rf (by decide)) (by decide)) (by decide)) (by decide)), (fr_I (fr_tr fr_rf h_2 (by decide)) (by decide))⟩

set_option maxHeartbeats 1000000 in
set_option maxRecDepth 20000 in
theorem t_fX5_copyFrom {z_t : Sx} {z_t_1 : Sx} {z_p1 : Sx} {z_p1_1 : Sx} : okP (fX5_copyFrom z_t z_t_1 z_p1 z_p1_1) (fun y => (FrL [2, 3, 4, 5, 6, 7] z_t y.1) ∧ (FrL [0, 1, 2, 3, 4, 5] z_t_1 y.2)) := by
  unfold fX5_copyFrom
  refine ok_bd (t_fX0_copyFrom) (fun z2 q_1 => ?_)
  have h_2 : FrL [0, 1, 2, 3, 4, 5] z_t_1 z2 := q_1
  exact ok_some ⟨(fr_Tf (fr_I (fr_Tf (fr_I (fr_I (fr_I fr_rf (by decide)) (by decide)) (by decide)) (by decide)) (by decide)) (by decide)), (fr_tr fr_rf h_2 (by decide))⟩

set_option maxHeartbeats 1000000 in
set_option maxRecDepth 20000 in
theorem t_fX6_addToken {z_t : Sx} {x1 : Int32} {x2 : Int32} {x3 : Int32} : okP (fX6_addToken z_t x1 x2 x3) (fun y => (FrL [0, 1, 2, 3] z_t y)) := by
  unfold fX6_addToken
  refine ok_ite (fun c_1 => ?_) (fun c_1 => ?_)
  · skip
    have c_1i : (gI z_t 3).toInt < 0 := bI_lt rfl (show (0 : Int32).toInt = 0 by decide) c_1
    exact ok_some fr_rf
  · skip
    have c_1i : (gI z_t 3).toInt ≥ 0 := bI_nlt rfl (show (0 : Int32).toInt = 0 by decide) c_1
    refine ok_ite (fun c_2 => ?_) (fun c_2 => ?_)
    · skip
      have c_2i : 401 ≤ (gI z_t 3).toInt := bI_le (show (401 : Int32).toInt = 401 by decide) rfl c_2
      exact ok_some fr_rf
    · skip
      have c_2i : 401 > (gI z_t 3).toInt := bI_nle (show (401 : Int32).toInt = 401 by decide) rfl c_2
      refine ok_gd (inb_of (by omega) (by omega)) ?_
      exact ok_some (fr_I (fr_T (fr_T (fr_T fr_rf (by decide)) (by decide)) (by decide)) (by decide))

set_option maxHeartbeats 1000000 in
set_option maxRecDepth 20000 in
theorem t_fX6_anotherClause {z_t : Sx} : okP (fX6_anotherClause z_t) (fun y => (y.1 = 0 ∨ y.1 = 1) ∧ (FrL [4, 5, 6, 7, 8] z_t y.2)) := by
  unfold fX6_anotherClause
  refine ok_ite (fun c_1 => ?_) (fun c_1 => ?_)
  · skip
    have c_1i : (gI z_t 8).toInt = 0 := bI_eq rfl (show (0 : Int32).toInt = 0 by decide) c_1
    refine ok_ite (fun c_2 => ?_) (fun c_2 => ?_)
    · skip
      have c_2i : (gI z_t 5).toInt = 300 := bI_eq rfl (show (300 : Int32).toInt = 300 by decide) c_2
      exact ok_some ⟨Or.inl rfl, fr_rf⟩
    · skip
      have c_2i : (gI z_t 5).toInt ≠ 300 := bI_neq rfl (show (300 : Int32).toInt = 300 by decide) c_2
      refine ok_ite (fun c_3 => ?_) (fun c_3 => ?_)
      · skip
        have c_3i : (gI z_t 5).toInt = 59 := bI_eq rfl (show (59 : Int32).toInt = 59 by decide) c_3
        refine ok_bd (t_fX6_step) (fun z5 q_4 => ?_)
        have h_5 : FrL [4, 5, 6, 7] z_t z5 := q_4
        exact ok_some ⟨Or.inr rfl, (fr_tr fr_rf h_5 (by decide))⟩
      · skip
        have c_3i : (gI z_t 5).toInt ≠ 59 := bI_neq rfl (show (59 : Int32).toInt = 59 by decide) c_3
        refine ok_bd (t_fX6_fail) (fun z7 q_6 => ?_)
        have h_7 : FrL [8] z_t z7 := q_6
        exact ok_some ⟨Or.inl rfl, (fr_tr fr_rf h_7 (by decide))⟩
  · skip
    have c_1i : (gI z_t 8).toInt ≠ 0 := bI_neq rfl (show (0 : Int32).toInt = 0 by decide) c_1
    exact ok_some ⟨Or.inl rfl, fr_rf⟩

set_option maxHeartbeats 1000000 in
set_option maxRecDepth 20000 in
theorem tl_lX6_spells_15 {n_p0 : Nat} {f_p0 : Nat → Int32} {x1 : Int32} {w3 : Nat} (hnn_p0 : n_p0 < 2147483648) (hw : slen.getD w3 0 < 2147483648) : ∀ (n : Nat) (x4 : Int32), (0 ≤ x4.toInt) → ((slen.getD w3 0 : Int) + 0 - x4.toInt).toNat < n → okP (lX6_spells_15 n_p0 f_p0 x1 w3 n x4) (fun y => (y = 0 ∨ y = 1)) := by
  intro n
  induction n with
  | zero => intro _ _ hm; omega
  | succ n ih =>
    intro x4 i0 hm
    rw [lX6_spells_15]
    refine ok_ite (fun c_1 => ?_) (fun c_1 => ?_)
    · skip
      try have c_1i : (slen.getD w3 0 : Int) ≤ x4.toInt := bI_le (nI_toInt (by omega)) rfl c_1
      exact ok_some (Or.inr rfl)
    · skip
      try have c_1i : (slen.getD w3 0 : Int) > x4.toInt := bI_nle (nI_toInt (by omega)) rfl c_1
      refine ok_bd (t_fX8_at (by first | assumption | omega | decide)) (fun r4 q_2 => ?_)
      refine ok_gd (inb_of (by omega) (by omega)) ?_
      refine ok_ite (fun c_3 => ?_) (fun c_3 => ?_)
      · skip
        have c_3i : r4.toInt = (sch w3 x4.toNatClampNeg).toInt := bI_eq rfl rfl c_3
        have e_4 : (x4 + 1).toInt = (x4.toInt + 1) := (i32_add rfl (show (1 : Int32).toInt = 1 by decide) (by omega) (by omega))
        exact ih (x4 + 1) (by first | assumption | omega | decide) (by omega)
      · skip
        have c_3i : r4.toInt ≠ (sch w3 x4.toNatClampNeg).toInt := bI_neq rfl rfl c_3
        exact ok_some (Or.inl rfl)
set_option maxHeartbeats 1000000 in
set_option maxRecDepth 20000 in
theorem t_fX6_spells {n_p0 : Nat} {f_p0 : Nat → Int32} {x1 : Int32} {x2 : Int32} {w3 : Nat} (hnn_p0 : n_p0 < 2147483648) (hw : slen.getD w3 0 < 2147483648) : okP (fX6_spells n_p0 f_p0 x1 x2 w3) (fun y => (y = 0 ∨ y = 1)) := by
  unfold fX6_spells
  refine ok_ite (fun c_1 => ?_) (fun c_1 => ?_)
  · skip
    try have c_1i : (x2.toInt - x1.toInt) = (slen.getD w3 0 : Int) := bI_eq (i32_sub rfl rfl (by omega) (by omega)) (nI_toInt (by omega)) c_1
    have e_2 : (0 : Int32).toInt = 0 := (show (0 : Int32).toInt = 0 by decide)
    refine tl_lX6_spells_15 (by first | assumption | omega | decide) (by first | assumption | omega | decide) FU 0 (by first | assumption | omega | decide) (FU_lt (by omega))
  · skip
    try have c_1i : (x2.toInt - x1.toInt) ≠ (slen.getD w3 0 : Int) := bI_neq (i32_sub rfl rfl (by omega) (by omega)) (nI_toInt (by omega)) c_1
    exact ok_some (Or.inl rfl)

set_option maxHeartbeats 1000000 in
set_option maxRecDepth 20000 in
theorem t_fX6_clauseWord {n_p0 : Nat} {f_p0 : Nat → Int32} {x1 : Int32} {x2 : Int32} (hnn_p0 : n_p0 < 2147483648) : okP (fX6_clauseWord n_p0 f_p0 x1 x2) (fun _ => True) := by
  unfold fX6_clauseWord
  refine ok_bd (t_fX6_spells (by first | assumption | omega | decide) (by first | assumption | omega | decide)) (fun r2 q_1 => ?_)
  have h_2 : r2 = 0 ∨ r2 = 1 := q_1
  refine ok_ite (fun c_3 => ?_) (fun c_3 => ?_)
  · skip
    have c_3i : r2.toInt = 0 := bI_eq rfl (show (0 : Int32).toInt = 0 by decide) c_3
    refine ok_bd (t_fX6_spells (by first | assumption | omega | decide) (by first | assumption | omega | decide)) (fun r5 q_4 => ?_)
    have h_5 : r5 = 0 ∨ r5 = 1 := q_4
    refine ok_ite (fun c_6 => ?_) (fun c_6 => ?_)
    · skip
      have c_6i : r5.toInt = 0 := bI_eq rfl (show (0 : Int32).toInt = 0 by decide) c_6
      refine ok_bd (t_fX6_spells (by first | assumption | omega | decide) (by first | assumption | omega | decide)) (fun r8 q_7 => ?_)
      have h_8 : r8 = 0 ∨ r8 = 1 := q_7
      refine ok_ite (fun c_9 => ?_) (fun c_9 => ?_)
      · skip
        have c_9i : r8.toInt = 0 := bI_eq rfl (show (0 : Int32).toInt = 0 by decide) c_9
        refine ok_bd (t_fX6_spells (by first | assumption | omega | decide) (by first | assumption | omega | decide)) (fun r11 q_10 => ?_)
        have h_11 : r11 = 0 ∨ r11 = 1 := q_10
        refine ok_ite (fun c_12 => ?_) (fun c_12 => ?_)
        · skip
          have c_12i : r11.toInt = 0 := bI_eq rfl (show (0 : Int32).toInt = 0 by decide) c_12
          refine ok_bd (t_fX6_spells (by first | assumption | omega | decide) (by first | assumption | omega | decide)) (fun r14 q_13 => ?_)
          have h_14 : r14 = 0 ∨ r14 = 1 := q_13
          refine ok_ite (fun c_15 => ?_) (fun c_15 => ?_)
          · skip
            have c_15i : r14.toInt = 0 := bI_eq rfl (show (0 : Int32).toInt = 0 by decide) c_15
            refine ok_bd (t_fX6_spells (by first | assumption | omega | decide) (by first | assumption | omega | decide)) (fun r17 q_16 => ?_)
            have h_17 : r17 = 0 ∨ r17 = 1 := q_16
            refine ok_ite (fun c_18 => ?_) (fun c_18 => ?_)
            · skip
              have c_18i : r17.toInt = 0 := bI_eq rfl (show (0 : Int32).toInt = 0 by decide) c_18
              refine ok_bd (t_fX6_spells (by first | assumption | omega | decide) (by first | assumption | omega | decide)) (fun r20 q_19 => ?_)
              have h_20 : r20 = 0 ∨ r20 = 1 := q_19
              refine ok_ite (fun c_21 => ?_) (fun c_21 => ?_)
              · skip
                have c_21i : r20.toInt = 0 := bI_eq rfl (show (0 : Int32).toInt = 0 by decide) c_21
                refine ok_bd (t_fX6_spells (by first | assumption | omega | decide) (by first | assumption | omega | decide)) (fun r23 q_22 => ?_)
                have h_23 : r23 = 0 ∨ r23 = 1 := q_22
                refine ok_ite (fun c_24 => ?_) (fun c_24 => ?_)
                · skip
                  have c_24i : r23.toInt = 0 := bI_eq rfl (show (0 : Int32).toInt = 0 by decide) c_24
                  exact ok_some trivial
                · skip
                  have c_24i : r23.toInt ≠ 0 := bI_neq rfl (show (0 : Int32).toInt = 0 by decide) c_24
                  exact ok_some trivial
              · skip
                have c_21i : r20.toInt ≠ 0 := bI_neq rfl (show (0 : Int32).toInt = 0 by decide) c_21
                exact ok_some trivial
            · skip
              have c_18i : r17.toInt ≠ 0 := bI_neq rfl (show (0 : Int32).toInt = 0 by decide) c_18
              exact ok_some trivial
          · skip
            have c_15i : r14.toInt ≠ 0 := bI_neq rfl (show (0 : Int32).toInt = 0 by decide) c_15
            exact ok_some trivial
        · skip
          have c_12i : r11.toInt ≠ 0 := bI_neq rfl (show (0 : Int32).toInt = 0 by decide) c_12
          exact ok_some trivial
      · skip
        have c_9i : r8.toInt ≠ 0 := bI_neq rfl (show (0 : Int32).toInt = 0 by decide) c_9
        exact ok_some trivial
    · skip
      have c_6i : r5.toInt ≠ 0 := bI_neq rfl (show (0 : Int32).toInt = 0 by decide) c_6
      exact ok_some trivial
  · skip
    have c_3i : r2.toInt ≠ 0 := bI_neq rfl (show (0 : Int32).toInt = 0 by decide) c_3
    exact ok_some trivial

set_option maxHeartbeats 1000000 in
set_option maxRecDepth 20000 in
theorem t_fX6_isDigit {x0 : Int32} : okP (fX6_isDigit x0) (fun y => (y = 0 ∨ y = 1)) := by
  unfold fX6_isDigit
  refine ok_ite (fun c_1 => ?_) (fun c_1 => ?_)
  · skip
    have c_1i : x0.toInt < 48 := bI_lt rfl (show (48 : Int32).toInt = 48 by decide) c_1
    exact ok_some (Or.inl rfl)
  · skip
    have c_1i : x0.toInt ≥ 48 := bI_nlt rfl (show (48 : Int32).toInt = 48 by decide) c_1
    refine ok_ite (fun c_2 => ?_) (fun c_2 => ?_)
    · skip
      have c_2i : 57 < x0.toInt := bI_lt (show (57 : Int32).toInt = 57 by decide) rfl c_2
      exact ok_some (Or.inl rfl)
    · skip
      have c_2i : 57 ≥ x0.toInt := bI_nlt (show (57 : Int32).toInt = 57 by decide) rfl c_2
      exact ok_some (Or.inr rfl)

set_option maxHeartbeats 1000000 in
set_option maxRecDepth 20000 in
theorem tl_lX6_cutNumber_6 {o_z_t : Sx} {k55 : Int32 → Int32 → Option (Int32 × Sx)} {z_t : Sx} {n_p1 : Nat} {f_p1 : Nat → Int32} {x2 : Int32} {x3 : Int32} (Hk55 : ∀ (y0 : Int32) (y1 : Int32), okP (k55 y0 y1) (fun y => (FrL [0, 1, 2, 3] o_z_t y.2))) (hnn_p1 : n_p1 < 2147483648) : ∀ (n : Nat) (x4 : Int32) (x5 : Int32), (x3.toInt + 0 - x4.toInt).toNat < n → okP (lX6_cutNumber_6 k55 z_t n_p1 f_p1 x2 x3 n x4 x5) (fun y => (FrL [0, 1, 2, 3] o_z_t y.2)) := by
  intro n
  induction n with
  | zero => intro _ _ hm; omega
  | succ n ih =>
    intro x4 x5 hm
    rw [lX6_cutNumber_6]
    refine ok_ite (fun c_1 => ?_) (fun c_1 => ?_)
    · skip
      have c_1i : x3.toInt ≤ x4.toInt := bI_le rfl rfl c_1
      exact Hk55 x4 x5 
    · skip
      have c_1i : x3.toInt > x4.toInt := bI_nle rfl rfl c_1
      refine ok_bd (t_fX8_at (by first | assumption | omega | decide)) (fun r3 q_2 => ?_)
      refine ok_bd (t_fX6_isDigit) (fun r5 q_3 => ?_)
      have h_4 : r5 = 0 ∨ r5 = 1 := q_3
      refine ok_ite (fun c_5 => ?_) (fun c_5 => ?_)
      · skip
        have c_5i : r5.toInt = 0 := bI_eq rfl (show (0 : Int32).toInt = 0 by decide) c_5
        exact Hk55 x4 x5 
      · skip
        have c_5i : r5.toInt ≠ 0 := bI_neq rfl (show (0 : Int32).toInt = 0 by decide) c_5
        refine ok_jn ?_
        refine ok_ite (fun c_6 => ?_) (fun c_6 => ?_)
        · skip
          try have c_6i : (x2.toInt + 5) ≤ x4.toInt := bI_le (i32_add rfl (show (5 : Int32).toInt = 5 by decide) (by omega) (by omega)) rfl c_6
          have e_7 : (x4 + 1).toInt = (x4.toInt + 1) := (i32_add rfl (show (1 : Int32).toInt = 1 by decide) (by omega) (by omega))
          exact ih (x4 + 1) x5  (by omega)
        · skip
          try have c_6i : (x2.toInt + 5) > x4.toInt := bI_nle (i32_add rfl (show (5 : Int32).toInt = 5 by decide) (by omega) (by omega)) rfl c_6
          refine ok_bd (t_fX8_at (by first | assumption | omega | decide)) (fun r11 q_8 => ?_)
          have e_9 : (x4 + 1).toInt = (x4.toInt + 1) := (i32_add rfl (show (1 : Int32).toInt = 1 by decide) (by omega) (by omega))
          have e_10 : (((x5 * 10) + r11) - 48).toInt = (((x5.toInt * 10) + r11.toInt) - 48) := (i32_sub (i32_add (i32_mul rfl (show (10 : Int32).toInt = 10 by decide) (by omega) (by omega)) rfl (by omega) (by omega)) (show (48 : Int32).toInt = 48 by decide) (by omega) (by omega))
          exact ih (x4 + 1) (((x5 * 10) + r11) - 48)  (by omega)
set_option maxHeartbeats 1000000 in
set_option maxRecDepth 20000 in
theorem t_fX6_cutNumber {z_t : Sx} {n_p1 : Nat} {f_p1 : Nat → Int32} {x2 : Int32} {x3 : Int32} (hnn_p1 : n_p1 < 2147483648) : okP (fX6_cutNumber z_t n_p1 f_p1 x2 x3) (fun y => (FrL [0, 1, 2, 3] z_t y.2)) := by
  unfold fX6_cutNumber
  have e_1 : (0 : Int32).toInt = 0 := (show (0 : Int32).toInt = 0 by decide)
  refine tl_lX6_cutNumber_6 (fun i12 i13 => ?_) (by first | assumption | omega | decide) FU x2 0  (FU_lt (by have := n_rng x2; have := n_rng x3; omega))
  · skip
    refine ok_jn ?_
    refine ok_ite (fun c_2 => ?_) (fun c_2 => ?_)
    · skip
      try have c_2i : (i12.toInt - x2.toInt) ≤ 5 := bI_le (i32_sub rfl rfl (by omega) (by omega)) (show (5 : Int32).toInt = 5 by decide) c_2
      refine ok_bd (t_fX6_addToken) (fun z17 q_3 => ?_)
      have h_4 : FrL [0, 1, 2, 3] z_t z17 := q_3
      exact ok_some (fr_tr fr_rf h_4 (by decide))
    · skip
      try have c_2i : (i12.toInt - x2.toInt) > 5 := bI_nle (i32_sub rfl rfl (by omega) (by omega)) (show (5 : Int32).toInt = 5 by decide) c_2
      refine ok_bd (t_fX6_addToken) (fun z17 q_5 => ?_)
      have h_6 : FrL [0, 1, 2, 3] z_t z17 := q_5
      exact ok_some (fr_tr fr_rf h_6 (by decide))

set_option maxHeartbeats 1000000 in
set_option maxRecDepth 20000 in
theorem t_fX6_isLetter {x0 : Int32} : okP (fX6_isLetter x0) (fun y => (y = 0 ∨ y = 1)) := by
  unfold fX6_isLetter
  refine ok_ite (fun c_1 => ?_) (fun c_1 => ?_)
  · skip
    have c_1i : x0.toInt < 97 := bI_lt rfl (show (97 : Int32).toInt = 97 by decide) c_1
    exact ok_some (Or.inl rfl)
  · skip
    have c_1i : x0.toInt ≥ 97 := bI_nlt rfl (show (97 : Int32).toInt = 97 by decide) c_1
    refine ok_ite (fun c_2 => ?_) (fun c_2 => ?_)
    · skip
      have c_2i : 122 < x0.toInt := bI_lt (show (122 : Int32).toInt = 122 by decide) rfl c_2
      exact ok_some (Or.inl rfl)
    · skip
      have c_2i : 122 ≥ x0.toInt := bI_nlt (show (122 : Int32).toInt = 122 by decide) rfl c_2
      exact ok_some (Or.inr rfl)

set_option maxHeartbeats 1000000 in
set_option maxRecDepth 20000 in
theorem t_fX6_valueWord {n_p0 : Nat} {f_p0 : Nat → Int32} {x1 : Int32} {x2 : Int32} (hnn_p0 : n_p0 < 2147483648) : okP (fX6_valueWord n_p0 f_p0 x1 x2) (fun _ => True) := by
  unfold fX6_valueWord
  refine ok_bd (t_fX6_spells (by first | assumption | omega | decide) (by first | assumption | omega | decide)) (fun r2 q_1 => ?_)
  have h_2 : r2 = 0 ∨ r2 = 1 := q_1
  refine ok_ite (fun c_3 => ?_) (fun c_3 => ?_)
  · skip
    have c_3i : r2.toInt = 0 := bI_eq rfl (show (0 : Int32).toInt = 0 by decide) c_3
    refine ok_bd (t_fX6_spells (by first | assumption | omega | decide) (by first | assumption | omega | decide)) (fun r5 q_4 => ?_)
    have h_5 : r5 = 0 ∨ r5 = 1 := q_4
    refine ok_ite (fun c_6 => ?_) (fun c_6 => ?_)
    · skip
      have c_6i : r5.toInt = 0 := bI_eq rfl (show (0 : Int32).toInt = 0 by decide) c_6
      refine ok_bd (t_fX6_spells (by first | assumption | omega | decide) (by first | assumption | omega | decide)) (fun r8 q_7 => ?_)
      have h_8 : r8 = 0 ∨ r8 = 1 := q_7
      refine ok_ite (fun c_9 => ?_) (fun c_9 => ?_)
      · skip
        have c_9i : r8.toInt = 0 := bI_eq rfl (show (0 : Int32).toInt = 0 by decide) c_9
        refine ok_bd (t_fX6_spells (by first | assumption | omega | decide) (by first | assumption | omega | decide)) (fun r11 q_10 => ?_)
        have h_11 : r11 = 0 ∨ r11 = 1 := q_10
        refine ok_ite (fun c_12 => ?_) (fun c_12 => ?_)
        · skip
          have c_12i : r11.toInt = 0 := bI_eq rfl (show (0 : Int32).toInt = 0 by decide) c_12
          refine ok_bd (t_fX6_spells (by first | assumption | omega | decide) (by first | assumption | omega | decide)) (fun r14 q_13 => ?_)
          have h_14 : r14 = 0 ∨ r14 = 1 := q_13
          refine ok_ite (fun c_15 => ?_) (fun c_15 => ?_)
          · skip
            have c_15i : r14.toInt = 0 := bI_eq rfl (show (0 : Int32).toInt = 0 by decide) c_15
            refine ok_bd (t_fX6_spells (by first | assumption | omega | decide) (by first | assumption | omega | decide)) (fun r17 q_16 => ?_)
            have h_17 : r17 = 0 ∨ r17 = 1 := q_16
            refine ok_ite (fun c_18 => ?_) (fun c_18 => ?_)
            · skip
              have c_18i : r17.toInt = 0 := bI_eq rfl (show (0 : Int32).toInt = 0 by decide) c_18
              refine ok_bd (t_fX6_spells (by first | assumption | omega | decide) (by first | assumption | omega | decide)) (fun r20 q_19 => ?_)
              have h_20 : r20 = 0 ∨ r20 = 1 := q_19
              refine ok_ite (fun c_21 => ?_) (fun c_21 => ?_)
              · skip
                have c_21i : r20.toInt = 0 := bI_eq rfl (show (0 : Int32).toInt = 0 by decide) c_21
                refine ok_bd (t_fX6_spells (by first | assumption | omega | decide) (by first | assumption | omega | decide)) (fun r23 q_22 => ?_)
                have h_23 : r23 = 0 ∨ r23 = 1 := q_22
                refine ok_ite (fun c_24 => ?_) (fun c_24 => ?_)
                · skip
                  have c_24i : r23.toInt = 0 := bI_eq rfl (show (0 : Int32).toInt = 0 by decide) c_24
                  refine ok_bd (t_fX6_spells (by first | assumption | omega | decide) (by first | assumption | omega | decide)) (fun r26 q_25 => ?_)
                  have h_26 : r26 = 0 ∨ r26 = 1 := q_25
                  refine ok_ite (fun c_27 => ?_) (fun c_27 => ?_)
                  · skip
                    have c_27i : r26.toInt = 0 := bI_eq rfl (show (0 : Int32).toInt = 0 by decide) c_27
                    exact ok_some trivial
                  · skip
                    have c_27i : r26.toInt ≠ 0 := bI_neq rfl (show (0 : Int32).toInt = 0 by decide) c_27
                    exact ok_some trivial
                · skip
                  have c_24i : r23.toInt ≠ 0 := bI_neq rfl (show (0 : Int32).toInt = 0 by decide) c_24
                  exact ok_some trivial
              · skip
                have c_21i : r20.toInt ≠ 0 := bI_neq rfl (show (0 : Int32).toInt = 0 by decide) c_21
                exact ok_some trivial
            · skip
              have c_18i : r17.toInt ≠ 0 := bI_neq rfl (show (0 : Int32).toInt = 0 by decide) c_18
              exact ok_some trivial
          · skip
            have c_15i : r14.toInt ≠ 0 := bI_neq rfl (show (0 : Int32).toInt = 0 by decide) c_15
            exact ok_some trivial
        · skip
          have c_12i : r11.toInt ≠ 0 := bI_neq rfl (show (0 : Int32).toInt = 0 by decide) c_12
          exact ok_some trivial
      · skip
        have c_9i : r8.toInt ≠ 0 := bI_neq rfl (show (0 : Int32).toInt = 0 by decide) c_9
        exact ok_some trivial
    · skip
      have c_6i : r5.toInt ≠ 0 := bI_neq rfl (show (0 : Int32).toInt = 0 by decide) c_6
      exact ok_some trivial
  · skip
    have c_3i : r2.toInt ≠ 0 := bI_neq rfl (show (0 : Int32).toInt = 0 by decide) c_3
    exact ok_some trivial

set_option maxHeartbeats 1000000 in
set_option maxRecDepth 20000 in
theorem tl_lX6_cutWord_3 {o_z_t : Sx} {k27 : Int32 → Option (Int32 × Sx)} {z_t : Sx} {n_p1 : Nat} {f_p1 : Nat → Int32} {x2 : Int32} {x3 : Int32} (Hk27 : ∀ (y0 : Int32), okP (k27 y0) (fun y => (FrL [0, 1, 2, 3] o_z_t y.2))) (hnn_p1 : n_p1 < 2147483648) : ∀ (n : Nat) (x4 : Int32), (x3.toInt + 0 - x4.toInt).toNat < n → okP (lX6_cutWord_3 k27 z_t n_p1 f_p1 x2 x3 n x4) (fun y => (FrL [0, 1, 2, 3] o_z_t y.2)) := by
  intro n
  induction n with
  | zero => intro _ hm; omega
  | succ n ih =>
    intro x4 hm
    rw [lX6_cutWord_3]
    refine ok_ite (fun c_1 => ?_) (fun c_1 => ?_)
    · skip
      have c_1i : x3.toInt ≤ x4.toInt := bI_le rfl rfl c_1
      exact Hk27 x4 
    · skip
      have c_1i : x3.toInt > x4.toInt := bI_nle rfl rfl c_1
      refine ok_bd (t_fX8_at (by first | assumption | omega | decide)) (fun r3 q_2 => ?_)
      refine ok_bd (t_fX6_isLetter) (fun r5 q_3 => ?_)
      have h_4 : r5 = 0 ∨ r5 = 1 := q_3
      refine ok_ite (fun c_5 => ?_) (fun c_5 => ?_)
      · skip
        have c_5i : r5.toInt = 0 := bI_eq rfl (show (0 : Int32).toInt = 0 by decide) c_5
        exact Hk27 x4 
      · skip
        have c_5i : r5.toInt ≠ 0 := bI_neq rfl (show (0 : Int32).toInt = 0 by decide) c_5
        have e_6 : (x4 + 1).toInt = (x4.toInt + 1) := (i32_add rfl (show (1 : Int32).toInt = 1 by decide) (by omega) (by omega))
        exact ih (x4 + 1)  (by omega)
set_option maxHeartbeats 1000000 in
set_option maxRecDepth 20000 in
theorem t_fX6_cutWord {z_t : Sx} {n_p1 : Nat} {f_p1 : Nat → Int32} {x2 : Int32} {x3 : Int32} (hnn_p1 : n_p1 < 2147483648) : okP (fX6_cutWord z_t n_p1 f_p1 x2 x3) (fun y => (FrL [0, 1, 2, 3] z_t y.2)) := by
  unfold fX6_cutWord
  refine tl_lX6_cutWord_3 (fun i7 => ?_) (by first | assumption | omega | decide) FU x2  (FU_lt (by have := n_rng x2; have := n_rng x3; omega))
  · skip
    refine ok_bd (t_fX6_clauseWord (by first | assumption | omega | decide)) (fun r9 q_1 => ?_)
    refine ok_jn ?_
    refine ok_ite (fun c_2 => ?_) (fun c_2 => ?_)
    · skip
      have c_2i : r9.toInt = 303 := bI_eq rfl (show (303 : Int32).toInt = 303 by decide) c_2
      refine ok_bd (t_fX6_valueWord (by first | assumption | omega | decide)) (fun r16 q_3 => ?_)
      refine ok_bd (t_fX6_addToken) (fun z13 q_4 => ?_)
      have h_5 : FrL [0, 1, 2, 3] z_t z13 := q_4
      exact ok_some (fr_tr fr_rf h_5 (by decide))
    · skip
      have c_2i : r9.toInt ≠ 303 := bI_neq rfl (show (303 : Int32).toInt = 303 by decide) c_2
      refine ok_bd (t_fX6_addToken) (fun z13 q_6 => ?_)
      have h_7 : FrL [0, 1, 2, 3] z_t z13 := q_6
      exact ok_some (fr_tr fr_rf h_7 (by decide))

set_option maxHeartbeats 1000000 in
set_option maxRecDepth 20000 in
theorem t_fX6_cutToken {z_t : Sx} {n_p1 : Nat} {f_p1 : Nat → Int32} {x2 : Int32} {x3 : Int32} (hnn_p1 : n_p1 < 2147483648) : okP (fX6_cutToken z_t n_p1 f_p1 x2 x3) (fun y => (FrL [0, 1, 2, 3] z_t y.2)) := by
  unfold fX6_cutToken
  refine ok_bd (t_fX8_at (by first | assumption | omega | decide)) (fun r2 q_1 => ?_)
  refine ok_ite (fun c_2 => ?_) (fun c_2 => ?_)
  · skip
    have c_2i : r2.toInt = 32 := bI_eq rfl (show (32 : Int32).toInt = 32 by decide) c_2
    exact ok_some fr_rf
  · skip
    have c_2i : r2.toInt ≠ 32 := bI_neq rfl (show (32 : Int32).toInt = 32 by decide) c_2
    refine ok_bd (t_fX6_isDigit) (fun r5 q_3 => ?_)
    have h_4 : r5 = 0 ∨ r5 = 1 := q_3
    refine ok_ite (fun c_5 => ?_) (fun c_5 => ?_)
    · skip
      have c_5i : r5.toInt = 0 := bI_eq rfl (show (0 : Int32).toInt = 0 by decide) c_5
      refine ok_bd (t_fX6_isLetter) (fun r8 q_6 => ?_)
      have h_7 : r8 = 0 ∨ r8 = 1 := q_6
      refine ok_ite (fun c_8 => ?_) (fun c_8 => ?_)
      · skip
        have c_8i : r8.toInt = 0 := bI_eq rfl (show (0 : Int32).toInt = 0 by decide) c_8
        refine ok_jn ?_
        refine ok_jn ?_
        refine ok_jn ?_
        refine ok_ite (fun c_9 => ?_) (fun c_9 => ?_)
        · skip
          have c_9i : r2.toInt = 60 := bI_eq rfl (show (60 : Int32).toInt = 60 by decide) c_9
          refine ok_ite (fun c_10 => ?_) (fun c_10 => ?_)
          · skip
            try have c_10i : x3.toInt ≤ (x2.toInt + 1) := bI_le rfl (i32_add rfl (show (1 : Int32).toInt = 1 by decide) (by omega) (by omega)) c_10
            refine ok_ite (fun c_11 => ?_) (fun c_11 => ?_)
            · skip
              have c_11i : 0 = 0 := bI_eq (show (0 : Int32).toInt = 0 by decide) (show (0 : Int32).toInt = 0 by decide) c_11
              refine ok_bd (t_fX6_addToken) (fun z14 q_12 => ?_)
              have h_13 : FrL [0, 1, 2, 3] z_t z14 := q_12
              exact ok_some (fr_tr fr_rf h_13 (by decide))
            · skip
              have c_11i : 0 ≠ 0 := bI_neq (show (0 : Int32).toInt = 0 by decide) (show (0 : Int32).toInt = 0 by decide) c_11
              exact absurd (by decide) c_11
          · skip
            try have c_10i : x3.toInt > (x2.toInt + 1) := bI_nle rfl (i32_add rfl (show (1 : Int32).toInt = 1 by decide) (by omega) (by omega)) c_10
            refine ok_bd (t_fX8_at (by first | assumption | omega | decide)) (fun r24 q_14 => ?_)
            refine ok_ite (fun c_15 => ?_) (fun c_15 => ?_)
            · skip
              have c_15i : r24.toInt = 61 := bI_eq rfl (show (61 : Int32).toInt = 61 by decide) c_15
              refine ok_ite (fun c_16 => ?_) (fun c_16 => ?_)
              · skip
                have c_16i : 1 = 0 := bI_eq (show (1 : Int32).toInt = 1 by decide) (show (0 : Int32).toInt = 0 by decide) c_16
                exact absurd c_16 (by decide)
              · skip
                have c_16i : 1 ≠ 0 := bI_neq (show (1 : Int32).toInt = 1 by decide) (show (0 : Int32).toInt = 0 by decide) c_16
                refine ok_jn ?_
                refine ok_ite (fun c_17 => ?_) (fun c_17 => ?_)
                · skip
                  have c_17i : r2.toInt = 60 := bI_eq rfl (show (60 : Int32).toInt = 60 by decide) c_17
                  refine ok_bd (t_fX6_addToken) (fun z18 q_18 => ?_)
                  have h_19 : FrL [0, 1, 2, 3] z_t z18 := q_18
                  exact ok_some (fr_tr fr_rf h_19 (by decide))
                · skip
                  have c_17i : r2.toInt ≠ 60 := bI_neq rfl (show (60 : Int32).toInt = 60 by decide) c_17
                  refine ok_bd (t_fX6_addToken) (fun z18 q_20 => ?_)
                  have h_21 : FrL [0, 1, 2, 3] z_t z18 := q_20
                  exact ok_some (fr_tr fr_rf h_21 (by decide))
            · skip
              have c_15i : r24.toInt ≠ 61 := bI_neq rfl (show (61 : Int32).toInt = 61 by decide) c_15
              refine ok_ite (fun c_22 => ?_) (fun c_22 => ?_)
              · skip
                have c_22i : 0 = 0 := bI_eq (show (0 : Int32).toInt = 0 by decide) (show (0 : Int32).toInt = 0 by decide) c_22
                refine ok_bd (t_fX6_addToken) (fun z14 q_23 => ?_)
                have h_24 : FrL [0, 1, 2, 3] z_t z14 := q_23
                exact ok_some (fr_tr fr_rf h_24 (by decide))
              · skip
                have c_22i : 0 ≠ 0 := bI_neq (show (0 : Int32).toInt = 0 by decide) (show (0 : Int32).toInt = 0 by decide) c_22
                exact absurd (by decide) c_22
        · skip
          have c_9i : r2.toInt ≠ 60 := bI_neq rfl (show (60 : Int32).toInt = 60 by decide) c_9
          refine ok_ite (fun c_25 => ?_) (fun c_25 => ?_)
          · skip
            have c_25i : r2.toInt = 62 := bI_eq rfl (show (62 : Int32).toInt = 62 by decide) c_25
            refine ok_ite (fun c_26 => ?_) (fun c_26 => ?_)
            · skip
              try have c_26i : x3.toInt ≤ (x2.toInt + 1) := bI_le rfl (i32_add rfl (show (1 : Int32).toInt = 1 by decide) (by omega) (by omega)) c_26
              refine ok_ite (fun c_27 => ?_) (fun c_27 => ?_)
              · skip
                have c_27i : 0 = 0 := bI_eq (show (0 : Int32).toInt = 0 by decide) (show (0 : Int32).toInt = 0 by decide) c_27
                refine ok_bd (t_fX6_addToken) (fun z14 q_28 => ?_)
                have h_29 : FrL [0, 1, 2, 3] z_t z14 := q_28
                exact ok_some (fr_tr fr_rf h_29 (by decide))
              · skip
                have c_27i : 0 ≠ 0 := bI_neq (show (0 : Int32).toInt = 0 by decide) (show (0 : Int32).toInt = 0 by decide) c_27
                exact absurd (by decide) c_27
            · skip
              try have c_26i : x3.toInt > (x2.toInt + 1) := bI_nle rfl (i32_add rfl (show (1 : Int32).toInt = 1 by decide) (by omega) (by omega)) c_26
              refine ok_bd (t_fX8_at (by first | assumption | omega | decide)) (fun r24 q_30 => ?_)
              refine ok_ite (fun c_31 => ?_) (fun c_31 => ?_)
              · skip
                have c_31i : r24.toInt = 61 := bI_eq rfl (show (61 : Int32).toInt = 61 by decide) c_31
                refine ok_ite (fun c_32 => ?_) (fun c_32 => ?_)
                · skip
                  have c_32i : 1 = 0 := bI_eq (show (1 : Int32).toInt = 1 by decide) (show (0 : Int32).toInt = 0 by decide) c_32
                  exact absurd c_32 (by decide)
                · skip
                  have c_32i : 1 ≠ 0 := bI_neq (show (1 : Int32).toInt = 1 by decide) (show (0 : Int32).toInt = 0 by decide) c_32
                  refine ok_jn ?_
                  refine ok_ite (fun c_33 => ?_) (fun c_33 => ?_)
                  · skip
                    have c_33i : r2.toInt = 60 := bI_eq rfl (show (60 : Int32).toInt = 60 by decide) c_33
                    refine ok_bd (t_fX6_addToken) (fun z18 q_34 => ?_)
                    have h_35 : FrL [0, 1, 2, 3] z_t z18 := q_34
                    exact ok_some (fr_tr fr_rf h_35 (by decide))
                  · skip
                    have c_33i : r2.toInt ≠ 60 := bI_neq rfl (show (60 : Int32).toInt = 60 by decide) c_33
                    refine ok_bd (t_fX6_addToken) (fun z18 q_36 => ?_)
                    have h_37 : FrL [0, 1, 2, 3] z_t z18 := q_36
                    exact ok_some (fr_tr fr_rf h_37 (by decide))
              · skip
                have c_31i : r24.toInt ≠ 61 := bI_neq rfl (show (61 : Int32).toInt = 61 by decide) c_31
                refine ok_ite (fun c_38 => ?_) (fun c_38 => ?_)
                · skip
                  have c_38i : 0 = 0 := bI_eq (show (0 : Int32).toInt = 0 by decide) (show (0 : Int32).toInt = 0 by decide) c_38
                  refine ok_bd (t_fX6_addToken) (fun z14 q_39 => ?_)
                  have h_40 : FrL [0, 1, 2, 3] z_t z14 := q_39
                  exact ok_some (fr_tr fr_rf h_40 (by decide))
                · skip
                  have c_38i : 0 ≠ 0 := bI_neq (show (0 : Int32).toInt = 0 by decide) (show (0 : Int32).toInt = 0 by decide) c_38
                  exact absurd (by decide) c_38
          · skip
            have c_25i : r2.toInt ≠ 62 := bI_neq rfl (show (62 : Int32).toInt = 62 by decide) c_25
            refine ok_ite (fun c_41 => ?_) (fun c_41 => ?_)
            · skip
              have c_41i : 0 = 0 := bI_eq (show (0 : Int32).toInt = 0 by decide) (show (0 : Int32).toInt = 0 by decide) c_41
              refine ok_bd (t_fX6_addToken) (fun z14 q_42 => ?_)
              have h_43 : FrL [0, 1, 2, 3] z_t z14 := q_42
              exact ok_some (fr_tr fr_rf h_43 (by decide))
            · skip
              have c_41i : 0 ≠ 0 := bI_neq (show (0 : Int32).toInt = 0 by decide) (show (0 : Int32).toInt = 0 by decide) c_41
              exact absurd (by decide) c_41
      · skip
        have c_8i : r8.toInt ≠ 0 := bI_neq rfl (show (0 : Int32).toInt = 0 by decide) c_8
        refine ok_bd2 (t_fX6_cutWord (by first | assumption | omega | decide)) (fun r29 z30 q_44 => ?_)
        have h_45 : FrL [0, 1, 2, 3] z_t z30 := q_44
        exact ok_some (fr_tr fr_rf h_45 (by decide))
    · skip
      have c_5i : r5.toInt ≠ 0 := bI_neq rfl (show (0 : Int32).toInt = 0 by decide) c_5
      refine ok_bd2 (t_fX6_cutNumber (by first | assumption | omega | decide)) (fun r32 z33 q_46 => ?_)
      have h_47 : FrL [0, 1, 2, 3] z_t z33 := q_46
      exact ok_some (fr_tr fr_rf h_47 (by decide))

set_option maxHeartbeats 1000000 in
set_option maxRecDepth 20000 in
theorem tl_lX6_open_10 {o_z_t : Sx} {k37 : Sx → Option (Sx)} {n_p1 : Nat} {f_p1 : Nat → Int32} {x2 : Int32} (Hk37 : ∀ (y0 : Sx), (FrL [0, 1, 2, 3, 4, 5, 6, 7, 8] o_z_t y0) → okP (k37 y0) (fun y => (FrL [0, 1, 2, 3, 4, 5, 6, 7, 8] o_z_t y))) (hnn_p1 : n_p1 < 2147483648) : ∀ (n : Nat) (z_t : Sx) (x3 : Int32) (x4 : Int32), (FrL [0, 1, 2, 3, 4, 5, 6, 7, 8] o_z_t z_t) → (400 + 0 - x4.toInt).toNat < n → okP (lX6_open_10 k37 n_p1 f_p1 x2 n z_t x3 x4) (fun y => (FrL [0, 1, 2, 3, 4, 5, 6, 7, 8] o_z_t y)) := by
  intro n
  induction n with
  | zero => intro _ _ _ _ hm; omega
  | succ n ih =>
    intro z_t x3 x4 frz_t hm
    rw [lX6_open_10]
    refine ok_ite (fun c_1 => ?_) (fun c_1 => ?_)
    · skip
      have c_1i : 400 ≤ x4.toInt := bI_le (show (400 : Int32).toInt = 400 by decide) rfl c_1
      exact Hk37 z_t frz_t
    · skip
      have c_1i : 400 > x4.toInt := bI_nle (show (400 : Int32).toInt = 400 by decide) rfl c_1
      refine ok_ite (fun c_2 => ?_) (fun c_2 => ?_)
      · skip
        have c_2i : x2.toInt ≤ x3.toInt := bI_le rfl rfl c_2
        exact Hk37 z_t frz_t
      · skip
        have c_2i : x2.toInt > x3.toInt := bI_nle rfl rfl c_2
        refine ok_bd2 (t_fX6_cutToken (by first | assumption | omega | decide)) (fun r4 z5 q_3 => ?_)
        have h_4 : FrL [0, 1, 2, 3] z_t z5 := q_3
        have e_5 : (x4 + 1).toInt = (x4.toInt + 1) := (i32_add rfl (show (1 : Int32).toInt = 1 by decide) (by omega) (by omega))
        exact ih z5 r4 (x4 + 1) (fr_tr frz_t h_4 (by decide)) (by omega)
set_option maxHeartbeats 1000000 in
set_option maxRecDepth 20000 in
theorem t_fX6_open {z_t : Sx} {n_p1 : Nat} {f_p1 : Nat → Int32} {x2 : Int32} (hnn_p1 : n_p1 < 2147483648) : okP (fX6_open z_t n_p1 f_p1 x2) (fun y => (FrL [0, 1, 2, 3, 4, 5, 6, 7, 8] z_t y)) := by
  unfold fX6_open
  have e_2 : (0 : Int32).toInt = 0 := (show (0 : Int32).toInt = 0 by decide)
  refine tl_lX6_open_10 (fun z6 k_1 => ?_) (by first | assumption | omega | decide) FU (sI z_t 3 0) 0 0 (fr_I fr_rf (by decide)) (FU_lt (by omega))
  · skip
    refine ok_bd (t_fX6_addToken) (fun z8 q_3 => ?_)
    have h_4 : FrL [0, 1, 2, 3] z6 z8 := q_3
    refine ok_bd (t_fX6_step) (fun z10 q_5 => ?_)
    have h_6 : FrL [4, 5, 6, 7] (sI (sI z8 8 0) 4 0) z10 := q_5
    exact ok_some (fr_tr (fr_I (fr_I (fr_tr k_1 h_4 (by decide)) (by decide)) (by decide)) h_6 (by decide))

set_option maxHeartbeats 1000000 in
set_option maxRecDepth 20000 in
theorem t_fX6_takeNumber {z_t : Sx} {x1 : Int32} {x2 : Int32} : okP (fX6_takeNumber z_t x1 x2) (fun y => (FrL [4, 5, 6, 7, 8] z_t y.2)) := by
  unfold fX6_takeNumber
  refine ok_ite (fun c_1 => ?_) (fun c_1 => ?_)
  · skip
    have c_1i : (gI z_t 8).toInt = 0 := bI_eq rfl (show (0 : Int32).toInt = 0 by decide) c_1
    refine ok_jn ?_
    refine ok_ite (fun c_2 => ?_) (fun c_2 => ?_)
    · skip
      have c_2i : (gI z_t 5).toInt = 301 := bI_eq rfl (show (301 : Int32).toInt = 301 by decide) c_2
      refine ok_ite (fun c_3 => ?_) (fun c_3 => ?_)
      · skip
        have c_3i : (gI z_t 7).toInt < x1.toInt := bI_lt rfl rfl c_3
        refine ok_jn ?_
        refine ok_jn ?_
        refine ok_ite (fun c_4 => ?_) (fun c_4 => ?_)
        · skip
          have c_4i : (gI z_t 5).toInt = 301 := bI_eq rfl (show (301 : Int32).toInt = 301 by decide) c_4
          refine ok_bd (t_fX6_fail) (fun z6 q_5 => ?_)
          have h_6 : FrL [8] z_t z6 := q_5
          exact ok_some (fr_tr fr_rf h_6 (by decide))
        · skip
          have c_4i : (gI z_t 5).toInt ≠ 301 := bI_neq rfl (show (301 : Int32).toInt = 301 by decide) c_4
          refine ok_ite (fun c_7 => ?_) (fun c_7 => ?_)
          · skip
            have c_7i : (gI z_t 5).toInt = 302 := bI_eq rfl (show (302 : Int32).toInt = 302 by decide) c_7
            refine ok_bd (t_fX6_fail) (fun z6 q_8 => ?_)
            have h_9 : FrL [8] z_t z6 := q_8
            exact ok_some (fr_tr fr_rf h_9 (by decide))
          · skip
            have c_7i : (gI z_t 5).toInt ≠ 302 := bI_neq rfl (show (302 : Int32).toInt = 302 by decide) c_7
            refine ok_bd (t_fX6_fail) (fun z6 q_10 => ?_)
            have h_11 : FrL [8] z_t z6 := q_10
            exact ok_some (fr_tr fr_rf h_11 (by decide))
      · skip
        have c_3i : (gI z_t 7).toInt ≥ x1.toInt := bI_nlt rfl rfl c_3
        refine ok_ite (fun c_12 => ?_) (fun c_12 => ?_)
        · skip
          have c_12i : x2.toInt < (gI z_t 7).toInt := bI_lt rfl rfl c_12
          refine ok_jn ?_
          refine ok_jn ?_
          refine ok_ite (fun c_13 => ?_) (fun c_13 => ?_)
          · skip
            have c_13i : (gI z_t 5).toInt = 301 := bI_eq rfl (show (301 : Int32).toInt = 301 by decide) c_13
            refine ok_bd (t_fX6_fail) (fun z6 q_14 => ?_)
            have h_15 : FrL [8] z_t z6 := q_14
            exact ok_some (fr_tr fr_rf h_15 (by decide))
          · skip
            have c_13i : (gI z_t 5).toInt ≠ 301 := bI_neq rfl (show (301 : Int32).toInt = 301 by decide) c_13
            refine ok_ite (fun c_16 => ?_) (fun c_16 => ?_)
            · skip
              have c_16i : (gI z_t 5).toInt = 302 := bI_eq rfl (show (302 : Int32).toInt = 302 by decide) c_16
              refine ok_bd (t_fX6_fail) (fun z6 q_17 => ?_)
              have h_18 : FrL [8] z_t z6 := q_17
              exact ok_some (fr_tr fr_rf h_18 (by decide))
            · skip
              have c_16i : (gI z_t 5).toInt ≠ 302 := bI_neq rfl (show (302 : Int32).toInt = 302 by decide) c_16
              refine ok_bd (t_fX6_fail) (fun z6 q_19 => ?_)
              have h_20 : FrL [8] z_t z6 := q_19
              exact ok_some (fr_tr fr_rf h_20 (by decide))
        · skip
          have c_12i : x2.toInt ≥ (gI z_t 7).toInt := bI_nlt rfl rfl c_12
          refine ok_bd (t_fX6_step) (fun z14 q_21 => ?_)
          have h_22 : FrL [4, 5, 6, 7] z_t z14 := q_21
          exact ok_some (fr_tr fr_rf h_22 (by decide))
    · skip
      have c_2i : (gI z_t 5).toInt ≠ 301 := bI_neq rfl (show (301 : Int32).toInt = 301 by decide) c_2
      refine ok_jn ?_
      refine ok_jn ?_
      refine ok_ite (fun c_23 => ?_) (fun c_23 => ?_)
      · skip
        have c_23i : (gI z_t 5).toInt = 301 := bI_eq rfl (show (301 : Int32).toInt = 301 by decide) c_23
        refine ok_bd (t_fX6_fail) (fun z6 q_24 => ?_)
        have h_25 : FrL [8] z_t z6 := q_24
        exact ok_some (fr_tr fr_rf h_25 (by decide))
      · skip
        have c_23i : (gI z_t 5).toInt ≠ 301 := bI_neq rfl (show (301 : Int32).toInt = 301 by decide) c_23
        refine ok_ite (fun c_26 => ?_) (fun c_26 => ?_)
        · skip
          have c_26i : (gI z_t 5).toInt = 302 := bI_eq rfl (show (302 : Int32).toInt = 302 by decide) c_26
          refine ok_bd (t_fX6_fail) (fun z6 q_27 => ?_)
          have h_28 : FrL [8] z_t z6 := q_27
          exact ok_some (fr_tr fr_rf h_28 (by decide))
        · skip
          have c_26i : (gI z_t 5).toInt ≠ 302 := bI_neq rfl (show (302 : Int32).toInt = 302 by decide) c_26
          refine ok_bd (t_fX6_fail) (fun z6 q_29 => ?_)
          have h_30 : FrL [8] z_t z6 := q_29
          exact ok_some (fr_tr fr_rf h_30 (by decide))
  · skip
    have c_1i : (gI z_t 8).toInt ≠ 0 := bI_neq rfl (show (0 : Int32).toInt = 0 by decide) c_1
    exact ok_some fr_rf

set_option maxHeartbeats 1000000 in
set_option maxRecDepth 20000 in
theorem tl_lX7_couldBeFound_5 {k103 : Int32 → Option (Int32)} {z_t : Sx} {x1 : Int32} {x2 : Int32} (Hk103 : ∀ (y0 : Int32), okP (k103 y0) (fun y => (y = 0 ∨ y = 1))) : ∀ (n : Nat) (x3 : Int32) (x4 : Int32), ((gI z_t 3).toInt + 0 - x4.toInt).toNat < n → okP (lX7_couldBeFound_5 k103 z_t x1 x2 n x3 x4) (fun y => (y = 0 ∨ y = 1)) := by
  intro n
  induction n with
  | zero => intro _ _ hm; omega
  | succ n ih =>
    intro x3 x4 hm
    rw [lX7_couldBeFound_5]
    refine ok_ite (fun c_1 => ?_) (fun c_1 => ?_)
    · skip
      have c_1i : (gI z_t 3).toInt ≤ x4.toInt := bI_le rfl rfl c_1
      exact Hk103 x3 
    · skip
      have c_1i : (gI z_t 3).toInt > x4.toInt := bI_nle rfl rfl c_1
      refine ok_bd (t_fX8_has) (fun r3 q_2 => ?_)
      have h_3 : r3 = 0 ∨ r3 = 1 := q_2
      refine ok_jn ?_
      refine ok_ite (fun c_4 => ?_) (fun c_4 => ?_)
      · skip
        have c_4i : r3.toInt = 0 := bI_eq rfl (show (0 : Int32).toInt = 0 by decide) c_4
        have e_5 : (x4 + 1).toInt = (x4.toInt + 1) := (i32_add rfl (show (1 : Int32).toInt = 1 by decide) (by omega) (by omega))
        exact ih x3 (x4 + 1)  (by omega)
      · skip
        have c_4i : r3.toInt ≠ 0 := bI_neq rfl (show (0 : Int32).toInt = 0 by decide) c_4
        refine ok_bd (t_fX8_at (by first | assumption | omega | decide)) (fun r8 q_6 => ?_)
        refine ok_jn ?_
        refine ok_jn ?_
        refine ok_ite (fun c_7 => ?_) (fun c_7 => ?_)
        · skip
          have c_7i : r8.toInt < 0 := bI_lt rfl (show (0 : Int32).toInt = 0 by decide) c_7
          refine ok_bd (t_fX8_has) (fun r12 q_8 => ?_)
          have h_9 : r12 = 0 ∨ r12 = 1 := q_8
          refine ok_ite (fun c_10 => ?_) (fun c_10 => ?_)
          · skip
            have c_10i : r12.toInt = 0 := bI_eq rfl (show (0 : Int32).toInt = 0 by decide) c_10
            refine ok_bd (t_fX8_at (by first | assumption | omega | decide)) (fun r15 q_11 => ?_)
            refine ok_ite (fun c_12 => ?_) (fun c_12 => ?_)
            · skip
              have c_12i : r15.toInt = 0 := bI_eq rfl (show (0 : Int32).toInt = 0 by decide) c_12
              exact ok_some (Or.inl rfl)
            · skip
              have c_12i : r15.toInt ≠ 0 := bI_neq rfl (show (0 : Int32).toInt = 0 by decide) c_12
              refine ok_ite (fun c_13 => ?_) (fun c_13 => ?_)
              · skip
                have c_13i : 0 = 0 := bI_eq (show (0 : Int32).toInt = 0 by decide) (show (0 : Int32).toInt = 0 by decide) c_13
                refine ok_bd (t_fX8_at (by first | assumption | omega | decide)) (fun r19 q_14 => ?_)
                have e_15 : (x3 + r19).toInt = (x3.toInt + r19.toInt) := (i32_add rfl rfl (by omega) (by omega))
                have e_16 : (x4 + 1).toInt = (x4.toInt + 1) := (i32_add rfl (show (1 : Int32).toInt = 1 by decide) (by omega) (by omega))
                exact ih (x3 + r19) (x4 + 1)  (by omega)
              · skip
                have c_13i : 0 ≠ 0 := bI_neq (show (0 : Int32).toInt = 0 by decide) (show (0 : Int32).toInt = 0 by decide) c_13
                exact absurd (by decide) c_13
          · skip
            have c_10i : r12.toInt ≠ 0 := bI_neq rfl (show (0 : Int32).toInt = 0 by decide) c_10
            exact ok_some (Or.inl rfl)
        · skip
          have c_7i : r8.toInt ≥ 0 := bI_nlt rfl (show (0 : Int32).toInt = 0 by decide) c_7
          refine ok_bd (t_fX8_has) (fun r23 q_17 => ?_)
          have h_18 : r23 = 0 ∨ r23 = 1 := q_17
          refine ok_ite (fun c_19 => ?_) (fun c_19 => ?_)
          · skip
            have c_19i : r23.toInt = 0 := bI_eq rfl (show (0 : Int32).toInt = 0 by decide) c_19
            refine ok_bd (t_fX8_has) (fun r12 q_20 => ?_)
            have h_21 : r12 = 0 ∨ r12 = 1 := q_20
            refine ok_ite (fun c_22 => ?_) (fun c_22 => ?_)
            · skip
              have c_22i : r12.toInt = 0 := bI_eq rfl (show (0 : Int32).toInt = 0 by decide) c_22
              refine ok_bd (t_fX8_at (by first | assumption | omega | decide)) (fun r15 q_23 => ?_)
              refine ok_ite (fun c_24 => ?_) (fun c_24 => ?_)
              · skip
                have c_24i : r15.toInt = 0 := bI_eq rfl (show (0 : Int32).toInt = 0 by decide) c_24
                exact ok_some (Or.inl rfl)
              · skip
                have c_24i : r15.toInt ≠ 0 := bI_neq rfl (show (0 : Int32).toInt = 0 by decide) c_24
                refine ok_ite (fun c_25 => ?_) (fun c_25 => ?_)
                · skip
                  have c_25i : 1 = 0 := bI_eq (show (1 : Int32).toInt = 1 by decide) (show (0 : Int32).toInt = 0 by decide) c_25
                  exact absurd c_25 (by decide)
                · skip
                  have c_25i : 1 ≠ 0 := bI_neq (show (1 : Int32).toInt = 1 by decide) (show (0 : Int32).toInt = 0 by decide) c_25
                  exact ok_some (Or.inl rfl)
            · skip
              have c_22i : r12.toInt ≠ 0 := bI_neq rfl (show (0 : Int32).toInt = 0 by decide) c_22
              exact ok_some (Or.inl rfl)
          · skip
            have c_19i : r23.toInt ≠ 0 := bI_neq rfl (show (0 : Int32).toInt = 0 by decide) c_19
            refine ok_bd (t_fX8_has) (fun r12 q_26 => ?_)
            have h_27 : r12 = 0 ∨ r12 = 1 := q_26
            refine ok_ite (fun c_28 => ?_) (fun c_28 => ?_)
            · skip
              have c_28i : r12.toInt = 0 := bI_eq rfl (show (0 : Int32).toInt = 0 by decide) c_28
              refine ok_bd (t_fX8_at (by first | assumption | omega | decide)) (fun r15 q_29 => ?_)
              refine ok_ite (fun c_30 => ?_) (fun c_30 => ?_)
              · skip
                have c_30i : r15.toInt = 0 := bI_eq rfl (show (0 : Int32).toInt = 0 by decide) c_30
                exact ok_some (Or.inl rfl)
              · skip
                have c_30i : r15.toInt ≠ 0 := bI_neq rfl (show (0 : Int32).toInt = 0 by decide) c_30
                refine ok_ite (fun c_31 => ?_) (fun c_31 => ?_)
                · skip
                  have c_31i : 0 = 0 := bI_eq (show (0 : Int32).toInt = 0 by decide) (show (0 : Int32).toInt = 0 by decide) c_31
                  refine ok_bd (t_fX8_at (by first | assumption | omega | decide)) (fun r19 q_32 => ?_)
                  have e_33 : (x3 + r19).toInt = (x3.toInt + r19.toInt) := (i32_add rfl rfl (by omega) (by omega))
                  have e_34 : (x4 + 1).toInt = (x4.toInt + 1) := (i32_add rfl (show (1 : Int32).toInt = 1 by decide) (by omega) (by omega))
                  exact ih (x3 + r19) (x4 + 1)  (by omega)
                · skip
                  have c_31i : 0 ≠ 0 := bI_neq (show (0 : Int32).toInt = 0 by decide) (show (0 : Int32).toInt = 0 by decide) c_31
                  exact absurd (by decide) c_31
            · skip
              have c_28i : r12.toInt ≠ 0 := bI_neq rfl (show (0 : Int32).toInt = 0 by decide) c_28
              exact ok_some (Or.inl rfl)
set_option maxHeartbeats 1000000 in
set_option maxRecDepth 20000 in
theorem t_fX7_couldBeFound {z_t : Sx} {x1 : Int32} {x2 : Int32} : okP (fX7_couldBeFound z_t x1 x2) (fun y => (y = 0 ∨ y = 1)) := by
  unfold fX7_couldBeFound
  have e_1 : (0 : Int32).toInt = 0 := (show (0 : Int32).toInt = 0 by decide)
  refine tl_lX7_couldBeFound_5 (fun i25 => ?_) FU 0 0  (FU_lt (by have := n_rng (gI z_t 3); omega))
  · skip
    refine ok_ite (fun c_2 => ?_) (fun c_2 => ?_)
    · skip
      have c_2i : (gI z_t 1).toInt < i25.toInt := bI_lt rfl rfl c_2
      exact ok_some (Or.inl rfl)
    · skip
      have c_2i : (gI z_t 1).toInt ≥ i25.toInt := bI_nlt rfl rfl c_2
      exact ok_some (Or.inr rfl)

set_option maxHeartbeats 1000000 in
set_option maxRecDepth 20000 in
theorem tl_lX7_orderLooks_56 {o_z_t : Sx} {k112 : Sx → Int32 → Option (Sx)} {x1 : Int32} (Hk112 : ∀ (y0 : Sx) (y1 : Int32), (FrL [15, 16, 17] o_z_t y0) → okP (k112 y0 y1) (fun y => (FrL [15, 16, 17] o_z_t y))) : ∀ (n : Nat) (z_t : Sx) (x2 : Int32), (FrL [15, 16, 17] o_z_t z_t) → (x2.toInt + 1).toNat < n → okP (lX7_orderLooks_56 k112 x1 n z_t x2) (fun y => (FrL [15, 16, 17] o_z_t y)) := by
  intro n
  induction n with
  | zero => intro _ _ _ hm; omega
  | succ n ih =>
    intro z_t x2 frz_t hm
    rw [lX7_orderLooks_56]
    refine ok_ite (fun c_1 => ?_) (fun c_1 => ?_)
    · skip
      have c_1i : x2.toInt ≤ 0 := bI_le rfl (show (0 : Int32).toInt = 0 by decide) c_1
      exact Hk112 z_t x2 frz_t
    · skip
      have c_1i : x2.toInt > 0 := bI_nle rfl (show (0 : Int32).toInt = 0 by decide) c_1
      refine ok_bd (t_fX8_at (by first | assumption | omega | decide)) (fun r12 q_2 => ?_)
      refine ok_bd (t_fX8_at (by first | assumption | omega | decide)) (fun r14 q_3 => ?_)
      refine ok_bd (t_fX8_at (by first | assumption | omega | decide)) (fun r16 q_4 => ?_)
      refine ok_ite (fun c_5 => ?_) (fun c_5 => ?_)
      · skip
        have c_5i : r16.toInt ≤ r14.toInt := bI_le rfl rfl c_5
        exact Hk112 z_t x2 frz_t
      · skip
        have c_5i : r16.toInt > r14.toInt := bI_nle rfl rfl c_5
        refine ok_bd (t_fX8_at (by first | assumption | omega | decide)) (fun r19 q_6 => ?_)
        refine ok_bd (t_fX8_put (by first | assumption | omega | decide)) (fun z21 q_7 => ?_)
        have e_8 : (x2 + (-1)).toInt = (x2.toInt + (-1)) := (i32_add rfl (show (-1 : Int32).toInt = -1 by decide) (by omega) (by omega))
        exact ih (sTf z_t 16 z21) (x2 + (-1)) (fr_Tf frz_t (by decide)) (by omega)
set_option maxHeartbeats 1000000 in
set_option maxRecDepth 20000 in
theorem tl_lX7_orderLooks_2 {o_z_t : Sx} : ∀ (n : Nat) (z_t : Sx) (x1 : Int32), (FrL [15, 16, 17] o_z_t z_t) → ((gI z_t 3).toInt + 0 - x1.toInt).toNat < n → okP (lX7_orderLooks_2 n z_t x1) (fun y => (FrL [15, 16, 17] o_z_t y)) := by
  intro n
  induction n with
  | zero => intro _ _ _ hm; omega
  | succ n ih =>
    intro z_t x1 frz_t hm
    rw [lX7_orderLooks_2]
    refine ok_ite (fun c_1 => ?_) (fun c_1 => ?_)
    · skip
      have c_1i : (gI z_t 3).toInt ≤ x1.toInt := bI_le rfl rfl c_1
      exact ok_some frz_t
    · skip
      have c_1i : (gI z_t 3).toInt > x1.toInt := bI_nle rfl rfl c_1
      refine ok_bd (t_fX8_at (by first | assumption | omega | decide)) (fun r3 q_2 => ?_)
      refine ok_bd (t_fX8_at (by first | assumption | omega | decide)) (fun r5 q_3 => ?_)
      refine ok_bd (t_fX8_at (by first | assumption | omega | decide)) (fun r7 q_4 => ?_)
      refine ok_bd (t_fX8_put (by first | assumption | omega | decide)) (fun z9 q_5 => ?_)
      refine tl_lX7_orderLooks_56 (fun z22 i23 k_6 => ?_) FU (sTf (sI z_t 17 (mxI (gI z_t 17) r3)) 15 z9) x1 (fr_Tf (fr_I frz_t (by decide)) (by decide)) (FU_lt (by have := n_rng x1; omega))
      · skip
        refine ok_bd (t_fX8_put (by first | assumption | omega | decide)) (fun z25 q_7 => ?_)
        have e_8 : (x1 + 1).toInt = (x1.toInt + 1) := (i32_add rfl (show (1 : Int32).toInt = 1 by decide) (by omega) (by omega))
        exact ih (sTf z22 16 z25) (x1 + 1) (fr_Tf k_6 (by decide)) (by omega)
set_option maxHeartbeats 1000000 in
set_option maxRecDepth 20000 in
theorem t_fX7_orderLooks {z_t : Sx} : okP (fX7_orderLooks z_t) (fun y => (FrL [15, 16, 17] z_t y)) := by
  unfold fX7_orderLooks
  have e_1 : (0 : Int32).toInt = 0 := (show (0 : Int32).toInt = 0 by decide)
  refine tl_lX7_orderLooks_2  FU z_t 0 fr_rf (FU_lt (by have := n_rng (gI z_t 3); omega))

set_option maxHeartbeats 1000000 in
set_option maxRecDepth 20000 in
theorem t_fX7_payOf {z_t : Sx} {x1 : Int32} : okP (fX7_payOf z_t x1) (fun _ => True) := by
  unfold fX7_payOf
  refine ok_bd (t_fX7_together (by first | assumption | omega | decide)) (fun r2 q_1 => ?_)
  exact ok_some trivial

set_option maxHeartbeats 1000000 in
set_option maxRecDepth 20000 in
theorem t_fX7_readFault {z_t : Sx} {z_p1 : Sx} : okP (fX7_readFault z_t z_p1) (fun y => (FrL [3, 8, 9, 10, 11, 12, 13, 14] z_t y.1) ∧ (FrL [4, 5, 6, 7, 8] z_p1 y.2)) := by
  unfold fX7_readFault
  refine ok_bd2 (t_fX6_takeNumber) (fun r2 z3 q_1 => ?_)
  have h_2 : FrL [4, 5, 6, 7, 8] z_p1 z3 := q_1
  refine ok_bd (t_fX8_put (by first | assumption | omega | decide)) (fun z5 q_3 => ?_)
  refine ok_bd2 (t_fX6_takeNumber) (fun r7 z8 q_4 => ?_)
  have h_5 : FrL [4, 5, 6, 7, 8] z3 z8 := q_4
  refine ok_bd (t_fX8_put (by first | assumption | omega | decide)) (fun z10 q_6 => ?_)
  refine ok_bd2 (t_fX6_takeNumber) (fun r12 z13 q_7 => ?_)
  have h_8 : FrL [4, 5, 6, 7, 8] z8 z13 := q_7
  refine ok_bd (t_fX8_put (by first | assumption | omega | decide)) (fun z15 q_9 => ?_)
  refine ok_bd (t_fX8_put (by first | assumption | omega | decide)) (fun z17 q_10 => ?_)
  refine ok_jn ?_
  refine ok_ite (fun c_11 => ?_) (fun c_11 => ?_)
  · skip
    have c_11i : (gI z13 8).toInt = 0 := bI_eq rfl (show (0 : Int32).toInt = 0 by decide) c_11
    refine ok_ite (fun c_12 => ?_) (fun c_12 => ?_)
    · skip
      have c_12i : (gI z13 5).toInt = 305 := bI_eq rfl (show (305 : Int32).toInt = 305 by decide) c_12
      refine ok_bd (t_fX6_step) (fun z36 q_13 => ?_)
      have h_14 : FrL [4, 5, 6, 7] z13 z36 := q_13
      refine ok_bd2 (t_fX6_takeNumber) (fun r38 z39 q_15 => ?_)
      have h_16 : FrL [4, 5, 6, 7, 8] z36 z39 := q_15
      refine ok_bd (t_fX8_put (by first | assumption | omega | decide)) (fun z41 q_17 => ?_)
      refine ok_bd (t_fX8_at (by first | assumption | omega | decide)) (fun r22 q_18 => ?_)
      refine ok_bd (t_fX8_put (by first | assumption | omega | decide)) (fun z24 q_19 => ?_)
      refine ok_bd (t_fX8_at (by first | assumption | omega | decide)) (fun r26 q_20 => ?_)
      refine ok_bd (t_fX8_put (by first | assumption | omega | decide)) (fun z28 q_21 => ?_)
      refine ok_bd (t_fX8_at (by first | assumption | omega | decide)) (fun r30 q_22 => ?_)
      refine ok_bd (t_fX8_put (by first | assumption | omega | decide)) (fun z32 q_23 => ?_)
      exact ok_some ⟨(fr_I (fr_Tf (fr_Tf (fr_Tf (fr_Tf (fr_Tf (fr_Tf (fr_Tf (fr_Tf fr_rf (by decide)) (by decide)) (by decide)) (by decide)) (by decide)) (by decide)) (by decide)) (by decide)) (by decide)), (fr_tr (fr_tr (fr_tr (fr_tr (fr_tr fr_rf h_2 (by decide)) h_5 (by decide)) h_8 (by decide)) h_14 (by decide)) h_16 (by decide))⟩
    · skip
      have c_12i : (gI z13 5).toInt ≠ 305 := bI_neq rfl (show (305 : Int32).toInt = 305 by decide) c_12
      refine ok_bd (t_fX8_at (by first | assumption | omega | decide)) (fun r22 q_24 => ?_)
      refine ok_bd (t_fX8_put (by first | assumption | omega | decide)) (fun z24 q_25 => ?_)
      refine ok_bd (t_fX8_at (by first | assumption | omega | decide)) (fun r26 q_26 => ?_)
      refine ok_bd (t_fX8_put (by first | assumption | omega | decide)) (fun z28 q_27 => ?_)
      refine ok_bd (t_fX8_at (by first | assumption | omega | decide)) (fun r30 q_28 => ?_)
      refine ok_bd (t_fX8_put (by first | assumption | omega | decide)) (fun z32 q_29 => ?_)
      exact ok_some ⟨(fr_I (fr_Tf (fr_Tf (fr_Tf (fr_Tf (fr_Tf (fr_Tf (fr_Tf fr_rf (by decide)) (by decide)) (by decide)) (by decide)) (by decide)) (by decide)) (by decide)) (by decide)), (fr_tr (fr_tr (fr_tr fr_rf h_2 (by decide)) h_5 (by decide)) h_8 (by decide))⟩
  · skip
    have c_11i : (gI z13 8).toInt ≠ 0 := bI_neq rfl (show (0 : Int32).toInt = 0 by decide) c_11
    refine ok_bd (t_fX8_at (by first | assumption | omega | decide)) (fun r22 q_30 => ?_)
    refine ok_bd (t_fX8_put (by first | assumption | omega | decide)) (fun z24 q_31 => ?_)
    refine ok_bd (t_fX8_at (by first | assumption | omega | decide)) (fun r26 q_32 => ?_)
    refine ok_bd (t_fX8_put (by first | assumption | omega | decide)) (fun z28 q_33 => ?_)
    refine ok_bd (t_fX8_at (by first | assumption | omega | decide)) (fun r30 q_34 => ?_)
    refine ok_bd (t_fX8_put (by first | assumption | omega | decide)) (fun z32 q_35 => ?_)
    exact ok_some ⟨(fr_I (fr_Tf (fr_Tf (fr_Tf (fr_Tf (fr_Tf (fr_Tf (fr_Tf fr_rf (by decide)) (by decide)) (by decide)) (by decide)) (by decide)) (by decide)) (by decide)) (by decide)), (fr_tr (fr_tr (fr_tr fr_rf h_2 (by decide)) h_5 (by decide)) h_8 (by decide))⟩

set_option maxHeartbeats 1000000 in
set_option maxRecDepth 20000 in
theorem t_fX7_readKind {z_t : Sx} {z_p1 : Sx} : okP (fX7_readKind z_t z_p1) (fun y => (FrL [2, 5, 6, 7] z_t y.1) ∧ (FrL [4, 5, 6, 7, 8] z_p1 y.2)) := by
  unfold fX7_readKind
  refine ok_bd2 (t_fX6_takeNumber) (fun r2 z3 q_1 => ?_)
  have h_2 : FrL [4, 5, 6, 7, 8] z_p1 z3 := q_1
  refine ok_bd (t_fX8_put (by first | assumption | omega | decide)) (fun z5 q_3 => ?_)
  refine ok_bd2 (t_fX6_takeNumber) (fun r7 z8 q_4 => ?_)
  have h_5 : FrL [4, 5, 6, 7, 8] z3 z8 := q_4
  refine ok_bd (t_fX8_put (by first | assumption | omega | decide)) (fun z10 q_6 => ?_)
  refine ok_bd2 (t_fX6_takeNumber) (fun r12 z13 q_7 => ?_)
  have h_8 : FrL [4, 5, 6, 7, 8] z8 z13 := q_7
  refine ok_bd (t_fX8_put (by first | assumption | omega | decide)) (fun z15 q_9 => ?_)
  exact ok_some ⟨(fr_I (fr_Tf (fr_Tf (fr_Tf fr_rf (by decide)) (by decide)) (by decide)) (by decide)), (fr_tr (fr_tr (fr_tr fr_rf h_2 (by decide)) h_5 (by decide)) h_8 (by decide))⟩

set_option maxHeartbeats 1000000 in
set_option maxRecDepth 20000 in
theorem t_fX7_readClause {z_t : Sx} {z_p1 : Sx} {x2 : Int32} : okP (fX7_readClause z_t z_p1 x2) (fun y => (FrL [1, 2, 3, 4, 5, 6, 7, 8, 9, 10, 11, 12, 13, 14] z_t y.1) ∧ (FrL [4, 5, 6, 7, 8] z_p1 y.2)) := by
  unfold fX7_readClause
  refine ok_jn ?_
  refine ok_ite (fun c_1 => ?_) (fun c_1 => ?_)
  · skip
    have c_1i : (gI z_p1 5).toInt = 304 := bI_eq rfl (show (304 : Int32).toInt = 304 by decide) c_1
    refine ok_jn ?_
    refine ok_ite (fun c_2 => ?_) (fun c_2 => ?_)
    · skip
      have c_2i : (gI z_p1 5).toInt = 304 := bI_eq rfl (show (304 : Int32).toInt = 304 by decide) c_2
      refine ok_jn ?_
      refine ok_ite (fun c_3 => ?_) (fun c_3 => ?_)
      · skip
        have c_3i : (gI z_t 4).toInt = 0 := bI_eq rfl (show (0 : Int32).toInt = 0 by decide) c_3
        refine ok_ite (fun c_4 => ?_) (fun c_4 => ?_)
        · skip
          have c_4i : x2.toInt < 24 := bI_lt rfl (show (24 : Int32).toInt = 24 by decide) c_4
          refine ok_bd (t_fX6_step) (fun z10 q_5 => ?_)
          have h_6 : FrL [4, 5, 6, 7] z_p1 z10 := q_5
          refine ok_ite (fun c_7 => ?_) (fun c_7 => ?_)
          · skip
            have c_7i : (gI z_p1 5).toInt = 304 := bI_eq rfl (show (304 : Int32).toInt = 304 by decide) c_7
            refine ok_bd2 (t_fX6_takeNumber) (fun r20 z21 q_8 => ?_)
            have h_9 : FrL [4, 5, 6, 7, 8] z10 z21 := q_8
            exact ok_some ⟨(fr_I (fr_I fr_rf (by decide)) (by decide)), (fr_tr (fr_tr fr_rf h_6 (by decide)) h_9 (by decide))⟩
          · skip
            have c_7i : (gI z_p1 5).toInt ≠ 304 := bI_neq rfl (show (304 : Int32).toInt = 304 by decide) c_7
            refine ok_ite (fun c_10 => ?_) (fun c_10 => ?_)
            · skip
              have c_10i : (gI z_p1 5).toInt = 313 := bI_eq rfl (show (313 : Int32).toInt = 313 by decide) c_10
              refine ok_bd2 (t_fX7_readKind) (fun z17 z18 q_11 => ?_)
              have h_12 : FrL [2, 5, 6, 7] z_t z17 := q_11.1
              have h_13 : FrL [4, 5, 6, 7, 8] z10 z18 := q_11.2
              exact ok_some ⟨(fr_tr fr_rf h_12 (by decide)), (fr_tr (fr_tr fr_rf h_6 (by decide)) h_13 (by decide))⟩
            · skip
              have c_10i : (gI z_p1 5).toInt ≠ 313 := bI_neq rfl (show (313 : Int32).toInt = 313 by decide) c_10
              refine ok_bd2 (t_fX7_readFault) (fun z14 z15 q_14 => ?_)
              have h_15 : FrL [3, 8, 9, 10, 11, 12, 13, 14] z_t z14 := q_14.1
              have h_16 : FrL [4, 5, 6, 7, 8] z10 z15 := q_14.2
              exact ok_some ⟨(fr_tr fr_rf h_15 (by decide)), (fr_tr (fr_tr fr_rf h_6 (by decide)) h_16 (by decide))⟩
        · skip
          have c_4i : x2.toInt ≥ 24 := bI_nlt rfl (show (24 : Int32).toInt = 24 by decide) c_4
          refine ok_bd (t_fX6_fail) (fun z6 q_17 => ?_)
          have h_18 : FrL [8] z_p1 z6 := q_17
          exact ok_some ⟨fr_rf, (fr_tr fr_rf h_18 (by decide))⟩
      · skip
        have c_3i : (gI z_t 4).toInt ≠ 0 := bI_neq rfl (show (0 : Int32).toInt = 0 by decide) c_3
        refine ok_bd (t_fX6_fail) (fun z6 q_19 => ?_)
        have h_20 : FrL [8] z_p1 z6 := q_19
        exact ok_some ⟨fr_rf, (fr_tr fr_rf h_20 (by decide))⟩
    · skip
      have c_2i : (gI z_p1 5).toInt ≠ 304 := bI_neq rfl (show (304 : Int32).toInt = 304 by decide) c_2
      refine ok_ite (fun c_21 => ?_) (fun c_21 => ?_)
      · skip
        have c_21i : (gI z_p1 5).toInt = 313 := bI_eq rfl (show (313 : Int32).toInt = 313 by decide) c_21
        refine ok_ite (fun c_22 => ?_) (fun c_22 => ?_)
        · skip
          have c_22i : (gI z_t 2).toInt < 6 := bI_lt rfl (show (6 : Int32).toInt = 6 by decide) c_22
          refine ok_jn ?_
          refine ok_ite (fun c_23 => ?_) (fun c_23 => ?_)
          · skip
            have c_23i : 0 = 0 := bI_eq (show (0 : Int32).toInt = 0 by decide) (show (0 : Int32).toInt = 0 by decide) c_23
            refine ok_ite (fun c_24 => ?_) (fun c_24 => ?_)
            · skip
              have c_24i : x2.toInt < 24 := bI_lt rfl (show (24 : Int32).toInt = 24 by decide) c_24
              refine ok_bd (t_fX6_step) (fun z10 q_25 => ?_)
              have h_26 : FrL [4, 5, 6, 7] z_p1 z10 := q_25
              refine ok_ite (fun c_27 => ?_) (fun c_27 => ?_)
              · skip
                have c_27i : (gI z_p1 5).toInt = 304 := bI_eq rfl (show (304 : Int32).toInt = 304 by decide) c_27
                refine ok_bd2 (t_fX6_takeNumber) (fun r20 z21 q_28 => ?_)
                have h_29 : FrL [4, 5, 6, 7, 8] z10 z21 := q_28
                exact ok_some ⟨(fr_I (fr_I fr_rf (by decide)) (by decide)), (fr_tr (fr_tr fr_rf h_26 (by decide)) h_29 (by decide))⟩
              · skip
                have c_27i : (gI z_p1 5).toInt ≠ 304 := bI_neq rfl (show (304 : Int32).toInt = 304 by decide) c_27
                refine ok_ite (fun c_30 => ?_) (fun c_30 => ?_)
                · skip
                  have c_30i : (gI z_p1 5).toInt = 313 := bI_eq rfl (show (313 : Int32).toInt = 313 by decide) c_30
                  refine ok_bd2 (t_fX7_readKind) (fun z17 z18 q_31 => ?_)
                  have h_32 : FrL [2, 5, 6, 7] z_t z17 := q_31.1
                  have h_33 : FrL [4, 5, 6, 7, 8] z10 z18 := q_31.2
                  exact ok_some ⟨(fr_tr fr_rf h_32 (by decide)), (fr_tr (fr_tr fr_rf h_26 (by decide)) h_33 (by decide))⟩
                · skip
                  have c_30i : (gI z_p1 5).toInt ≠ 313 := bI_neq rfl (show (313 : Int32).toInt = 313 by decide) c_30
                  refine ok_bd2 (t_fX7_readFault) (fun z14 z15 q_34 => ?_)
                  have h_35 : FrL [3, 8, 9, 10, 11, 12, 13, 14] z_t z14 := q_34.1
                  have h_36 : FrL [4, 5, 6, 7, 8] z10 z15 := q_34.2
                  exact ok_some ⟨(fr_tr fr_rf h_35 (by decide)), (fr_tr (fr_tr fr_rf h_26 (by decide)) h_36 (by decide))⟩
            · skip
              have c_24i : x2.toInt ≥ 24 := bI_nlt rfl (show (24 : Int32).toInt = 24 by decide) c_24
              refine ok_bd (t_fX6_fail) (fun z6 q_37 => ?_)
              have h_38 : FrL [8] z_p1 z6 := q_37
              exact ok_some ⟨fr_rf, (fr_tr fr_rf h_38 (by decide))⟩
          · skip
            have c_23i : 0 ≠ 0 := bI_neq (show (0 : Int32).toInt = 0 by decide) (show (0 : Int32).toInt = 0 by decide) c_23
            exact absurd (by decide) c_23
        · skip
          have c_22i : (gI z_t 2).toInt ≥ 6 := bI_nlt rfl (show (6 : Int32).toInt = 6 by decide) c_22
          refine ok_jn ?_
          refine ok_ite (fun c_39 => ?_) (fun c_39 => ?_)
          · skip
            have c_39i : 1 = 0 := bI_eq (show (1 : Int32).toInt = 1 by decide) (show (0 : Int32).toInt = 0 by decide) c_39
            exact absurd c_39 (by decide)
          · skip
            have c_39i : 1 ≠ 0 := bI_neq (show (1 : Int32).toInt = 1 by decide) (show (0 : Int32).toInt = 0 by decide) c_39
            refine ok_bd (t_fX6_fail) (fun z6 q_40 => ?_)
            have h_41 : FrL [8] z_p1 z6 := q_40
            exact ok_some ⟨fr_rf, (fr_tr fr_rf h_41 (by decide))⟩
      · skip
        have c_21i : (gI z_p1 5).toInt ≠ 313 := bI_neq rfl (show (313 : Int32).toInt = 313 by decide) c_21
        refine ok_ite (fun c_42 => ?_) (fun c_42 => ?_)
        · skip
          have c_42i : (gI z_t 3).toInt < 10 := bI_lt rfl (show (10 : Int32).toInt = 10 by decide) c_42
          refine ok_jn ?_
          refine ok_ite (fun c_43 => ?_) (fun c_43 => ?_)
          · skip
            have c_43i : 0 = 0 := bI_eq (show (0 : Int32).toInt = 0 by decide) (show (0 : Int32).toInt = 0 by decide) c_43
            refine ok_ite (fun c_44 => ?_) (fun c_44 => ?_)
            · skip
              have c_44i : x2.toInt < 24 := bI_lt rfl (show (24 : Int32).toInt = 24 by decide) c_44
              refine ok_bd (t_fX6_step) (fun z10 q_45 => ?_)
              have h_46 : FrL [4, 5, 6, 7] z_p1 z10 := q_45
              refine ok_ite (fun c_47 => ?_) (fun c_47 => ?_)
              · skip
                have c_47i : (gI z_p1 5).toInt = 304 := bI_eq rfl (show (304 : Int32).toInt = 304 by decide) c_47
                refine ok_bd2 (t_fX6_takeNumber) (fun r20 z21 q_48 => ?_)
                have h_49 : FrL [4, 5, 6, 7, 8] z10 z21 := q_48
                exact ok_some ⟨(fr_I (fr_I fr_rf (by decide)) (by decide)), (fr_tr (fr_tr fr_rf h_46 (by decide)) h_49 (by decide))⟩
              · skip
                have c_47i : (gI z_p1 5).toInt ≠ 304 := bI_neq rfl (show (304 : Int32).toInt = 304 by decide) c_47
                refine ok_ite (fun c_50 => ?_) (fun c_50 => ?_)
                · skip
                  have c_50i : (gI z_p1 5).toInt = 313 := bI_eq rfl (show (313 : Int32).toInt = 313 by decide) c_50
                  refine ok_bd2 (t_fX7_readKind) (fun z17 z18 q_51 => ?_)
                  have h_52 : FrL [2, 5, 6, 7] z_t z17 := q_51.1
                  have h_53 : FrL [4, 5, 6, 7, 8] z10 z18 := q_51.2
                  exact ok_some ⟨(fr_tr fr_rf h_52 (by decide)), (fr_tr (fr_tr fr_rf h_46 (by decide)) h_53 (by decide))⟩
                · skip
                  have c_50i : (gI z_p1 5).toInt ≠ 313 := bI_neq rfl (show (313 : Int32).toInt = 313 by decide) c_50
                  refine ok_bd2 (t_fX7_readFault) (fun z14 z15 q_54 => ?_)
                  have h_55 : FrL [3, 8, 9, 10, 11, 12, 13, 14] z_t z14 := q_54.1
                  have h_56 : FrL [4, 5, 6, 7, 8] z10 z15 := q_54.2
                  exact ok_some ⟨(fr_tr fr_rf h_55 (by decide)), (fr_tr (fr_tr fr_rf h_46 (by decide)) h_56 (by decide))⟩
            · skip
              have c_44i : x2.toInt ≥ 24 := bI_nlt rfl (show (24 : Int32).toInt = 24 by decide) c_44
              refine ok_bd (t_fX6_fail) (fun z6 q_57 => ?_)
              have h_58 : FrL [8] z_p1 z6 := q_57
              exact ok_some ⟨fr_rf, (fr_tr fr_rf h_58 (by decide))⟩
          · skip
            have c_43i : 0 ≠ 0 := bI_neq (show (0 : Int32).toInt = 0 by decide) (show (0 : Int32).toInt = 0 by decide) c_43
            exact absurd (by decide) c_43
        · skip
          have c_42i : (gI z_t 3).toInt ≥ 10 := bI_nlt rfl (show (10 : Int32).toInt = 10 by decide) c_42
          refine ok_jn ?_
          refine ok_ite (fun c_59 => ?_) (fun c_59 => ?_)
          · skip
            have c_59i : 1 = 0 := bI_eq (show (1 : Int32).toInt = 1 by decide) (show (0 : Int32).toInt = 0 by decide) c_59
            exact absurd c_59 (by decide)
          · skip
            have c_59i : 1 ≠ 0 := bI_neq (show (1 : Int32).toInt = 1 by decide) (show (0 : Int32).toInt = 0 by decide) c_59
            refine ok_bd (t_fX6_fail) (fun z6 q_60 => ?_)
            have h_61 : FrL [8] z_p1 z6 := q_60
            exact ok_some ⟨fr_rf, (fr_tr fr_rf h_61 (by decide))⟩
  · skip
    have c_1i : (gI z_p1 5).toInt ≠ 304 := bI_neq rfl (show (304 : Int32).toInt = 304 by decide) c_1
    refine ok_ite (fun c_62 => ?_) (fun c_62 => ?_)
    · skip
      have c_62i : (gI z_p1 5).toInt = 313 := bI_eq rfl (show (313 : Int32).toInt = 313 by decide) c_62
      refine ok_jn ?_
      refine ok_ite (fun c_63 => ?_) (fun c_63 => ?_)
      · skip
        have c_63i : (gI z_p1 5).toInt = 304 := bI_eq rfl (show (304 : Int32).toInt = 304 by decide) c_63
        refine ok_jn ?_
        refine ok_ite (fun c_64 => ?_) (fun c_64 => ?_)
        · skip
          have c_64i : (gI z_t 4).toInt = 0 := bI_eq rfl (show (0 : Int32).toInt = 0 by decide) c_64
          refine ok_ite (fun c_65 => ?_) (fun c_65 => ?_)
          · skip
            have c_65i : x2.toInt < 24 := bI_lt rfl (show (24 : Int32).toInt = 24 by decide) c_65
            refine ok_bd (t_fX6_step) (fun z10 q_66 => ?_)
            have h_67 : FrL [4, 5, 6, 7] z_p1 z10 := q_66
            refine ok_ite (fun c_68 => ?_) (fun c_68 => ?_)
            · skip
              have c_68i : (gI z_p1 5).toInt = 304 := bI_eq rfl (show (304 : Int32).toInt = 304 by decide) c_68
              refine ok_bd2 (t_fX6_takeNumber) (fun r20 z21 q_69 => ?_)
              have h_70 : FrL [4, 5, 6, 7, 8] z10 z21 := q_69
              exact ok_some ⟨(fr_I (fr_I fr_rf (by decide)) (by decide)), (fr_tr (fr_tr fr_rf h_67 (by decide)) h_70 (by decide))⟩
            · skip
              have c_68i : (gI z_p1 5).toInt ≠ 304 := bI_neq rfl (show (304 : Int32).toInt = 304 by decide) c_68
              refine ok_ite (fun c_71 => ?_) (fun c_71 => ?_)
              · skip
                have c_71i : (gI z_p1 5).toInt = 313 := bI_eq rfl (show (313 : Int32).toInt = 313 by decide) c_71
                refine ok_bd2 (t_fX7_readKind) (fun z17 z18 q_72 => ?_)
                have h_73 : FrL [2, 5, 6, 7] z_t z17 := q_72.1
                have h_74 : FrL [4, 5, 6, 7, 8] z10 z18 := q_72.2
                exact ok_some ⟨(fr_tr fr_rf h_73 (by decide)), (fr_tr (fr_tr fr_rf h_67 (by decide)) h_74 (by decide))⟩
              · skip
                have c_71i : (gI z_p1 5).toInt ≠ 313 := bI_neq rfl (show (313 : Int32).toInt = 313 by decide) c_71
                refine ok_bd2 (t_fX7_readFault) (fun z14 z15 q_75 => ?_)
                have h_76 : FrL [3, 8, 9, 10, 11, 12, 13, 14] z_t z14 := q_75.1
                have h_77 : FrL [4, 5, 6, 7, 8] z10 z15 := q_75.2
                exact ok_some ⟨(fr_tr fr_rf h_76 (by decide)), (fr_tr (fr_tr fr_rf h_67 (by decide)) h_77 (by decide))⟩
          · skip
            have c_65i : x2.toInt ≥ 24 := bI_nlt rfl (show (24 : Int32).toInt = 24 by decide) c_65
            refine ok_bd (t_fX6_fail) (fun z6 q_78 => ?_)
            have h_79 : FrL [8] z_p1 z6 := q_78
            exact ok_some ⟨fr_rf, (fr_tr fr_rf h_79 (by decide))⟩
        · skip
          have c_64i : (gI z_t 4).toInt ≠ 0 := bI_neq rfl (show (0 : Int32).toInt = 0 by decide) c_64
          refine ok_bd (t_fX6_fail) (fun z6 q_80 => ?_)
          have h_81 : FrL [8] z_p1 z6 := q_80
          exact ok_some ⟨fr_rf, (fr_tr fr_rf h_81 (by decide))⟩
      · skip
        have c_63i : (gI z_p1 5).toInt ≠ 304 := bI_neq rfl (show (304 : Int32).toInt = 304 by decide) c_63
        refine ok_ite (fun c_82 => ?_) (fun c_82 => ?_)
        · skip
          have c_82i : (gI z_p1 5).toInt = 313 := bI_eq rfl (show (313 : Int32).toInt = 313 by decide) c_82
          refine ok_ite (fun c_83 => ?_) (fun c_83 => ?_)
          · skip
            have c_83i : (gI z_t 2).toInt < 6 := bI_lt rfl (show (6 : Int32).toInt = 6 by decide) c_83
            refine ok_jn ?_
            refine ok_ite (fun c_84 => ?_) (fun c_84 => ?_)
            · skip
              have c_84i : 0 = 0 := bI_eq (show (0 : Int32).toInt = 0 by decide) (show (0 : Int32).toInt = 0 by decide) c_84
              refine ok_ite (fun c_85 => ?_) (fun c_85 => ?_)
              · skip
                have c_85i : x2.toInt < 24 := bI_lt rfl (show (24 : Int32).toInt = 24 by decide) c_85
                refine ok_bd (t_fX6_step) (fun z10 q_86 => ?_)
                have h_87 : FrL [4, 5, 6, 7] z_p1 z10 := q_86
                refine ok_ite (fun c_88 => ?_) (fun c_88 => ?_)
                · skip
                  have c_88i : (gI z_p1 5).toInt = 304 := bI_eq rfl (show (304 : Int32).toInt = 304 by decide) c_88
                  refine ok_bd2 (t_fX6_takeNumber) (fun r20 z21 q_89 => ?_)
                  have h_90 : FrL [4, 5, 6, 7, 8] z10 z21 := q_89
                  exact ok_some ⟨(fr_I (fr_I fr_rf (by decide)) (by decide)), (fr_tr (fr_tr fr_rf h_87 (by decide)) h_90 (by decide))⟩
                · skip
                  have c_88i : (gI z_p1 5).toInt ≠ 304 := bI_neq rfl (show (304 : Int32).toInt = 304 by decide) c_88
                  refine ok_ite (fun c_91 => ?_) (fun c_91 => ?_)
                  · skip
                    have c_91i : (gI z_p1 5).toInt = 313 := bI_eq rfl (show (313 : Int32).toInt = 313 by decide) c_91
                    refine ok_bd2 (t_fX7_readKind) (fun z17 z18 q_92 => ?_)
                    have h_93 : FrL [2, 5, 6, 7] z_t z17 := q_92.1
                    have h_94 : FrL [4, 5, 6, 7, 8] z10 z18 := q_92.2
                    exact ok_some ⟨(fr_tr fr_rf h_93 (by decide)), (fr_tr (fr_tr fr_rf h_87 (by decide)) h_94 (by decide))⟩
                  · skip
                    have c_91i : (gI z_p1 5).toInt ≠ 313 := bI_neq rfl (show (313 : Int32).toInt = 313 by decide) c_91
                    refine ok_bd2 (t_fX7_readFault) (fun z14 z15 q_95 => ?_)
                    have h_96 : FrL [3, 8, 9, 10, 11, 12, 13, 14] z_t z14 := q_95.1
                    have h_97 : FrL [4, 5, 6, 7, 8] z10 z15 := q_95.2
                    exact ok_some ⟨(fr_tr fr_rf h_96 (by decide)), (fr_tr (fr_tr fr_rf h_87 (by decide)) h_97 (by decide))⟩
              · skip
                have c_85i : x2.toInt ≥ 24 := bI_nlt rfl (show (24 : Int32).toInt = 24 by decide) c_85
                refine ok_bd (t_fX6_fail) (fun z6 q_98 => ?_)
                have h_99 : FrL [8] z_p1 z6 := q_98
                exact ok_some ⟨fr_rf, (fr_tr fr_rf h_99 (by decide))⟩
            · skip
              have c_84i : 0 ≠ 0 := bI_neq (show (0 : Int32).toInt = 0 by decide) (show (0 : Int32).toInt = 0 by decide) c_84
              exact absurd (by decide) c_84
          · skip
            have c_83i : (gI z_t 2).toInt ≥ 6 := bI_nlt rfl (show (6 : Int32).toInt = 6 by decide) c_83
            refine ok_jn ?_
            refine ok_ite (fun c_100 => ?_) (fun c_100 => ?_)
            · skip
              have c_100i : 1 = 0 := bI_eq (show (1 : Int32).toInt = 1 by decide) (show (0 : Int32).toInt = 0 by decide) c_100
              exact absurd c_100 (by decide)
            · skip
              have c_100i : 1 ≠ 0 := bI_neq (show (1 : Int32).toInt = 1 by decide) (show (0 : Int32).toInt = 0 by decide) c_100
              refine ok_bd (t_fX6_fail) (fun z6 q_101 => ?_)
              have h_102 : FrL [8] z_p1 z6 := q_101
              exact ok_some ⟨fr_rf, (fr_tr fr_rf h_102 (by decide))⟩
        · skip
          have c_82i : (gI z_p1 5).toInt ≠ 313 := bI_neq rfl (show (313 : Int32).toInt = 313 by decide) c_82
          refine ok_ite (fun c_103 => ?_) (fun c_103 => ?_)
          · skip
            have c_103i : (gI z_t 3).toInt < 10 := bI_lt rfl (show (10 : Int32).toInt = 10 by decide) c_103
            refine ok_jn ?_
            refine ok_ite (fun c_104 => ?_) (fun c_104 => ?_)
            · skip
              have c_104i : 0 = 0 := bI_eq (show (0 : Int32).toInt = 0 by decide) (show (0 : Int32).toInt = 0 by decide) c_104
              refine ok_ite (fun c_105 => ?_) (fun c_105 => ?_)
              · skip
                have c_105i : x2.toInt < 24 := bI_lt rfl (show (24 : Int32).toInt = 24 by decide) c_105
                refine ok_bd (t_fX6_step) (fun z10 q_106 => ?_)
                have h_107 : FrL [4, 5, 6, 7] z_p1 z10 := q_106
                refine ok_ite (fun c_108 => ?_) (fun c_108 => ?_)
                · skip
                  have c_108i : (gI z_p1 5).toInt = 304 := bI_eq rfl (show (304 : Int32).toInt = 304 by decide) c_108
                  refine ok_bd2 (t_fX6_takeNumber) (fun r20 z21 q_109 => ?_)
                  have h_110 : FrL [4, 5, 6, 7, 8] z10 z21 := q_109
                  exact ok_some ⟨(fr_I (fr_I fr_rf (by decide)) (by decide)), (fr_tr (fr_tr fr_rf h_107 (by decide)) h_110 (by decide))⟩
                · skip
                  have c_108i : (gI z_p1 5).toInt ≠ 304 := bI_neq rfl (show (304 : Int32).toInt = 304 by decide) c_108
                  refine ok_ite (fun c_111 => ?_) (fun c_111 => ?_)
                  · skip
                    have c_111i : (gI z_p1 5).toInt = 313 := bI_eq rfl (show (313 : Int32).toInt = 313 by decide) c_111
                    refine ok_bd2 (t_fX7_readKind) (fun z17 z18 q_112 => ?_)
                    have h_113 : FrL [2, 5, 6, 7] z_t z17 := q_112.1
                    have h_114 : FrL [4, 5, 6, 7, 8] z10 z18 := q_112.2
                    exact ok_some ⟨(fr_tr fr_rf h_113 (by decide)), (fr_tr (fr_tr fr_rf h_107 (by decide)) h_114 (by decide))⟩
                  · skip
                    have c_111i : (gI z_p1 5).toInt ≠ 313 := bI_neq rfl (show (313 : Int32).toInt = 313 by decide) c_111
                    refine ok_bd2 (t_fX7_readFault) (fun z14 z15 q_115 => ?_)
                    have h_116 : FrL [3, 8, 9, 10, 11, 12, 13, 14] z_t z14 := q_115.1
                    have h_117 : FrL [4, 5, 6, 7, 8] z10 z15 := q_115.2
                    exact ok_some ⟨(fr_tr fr_rf h_116 (by decide)), (fr_tr (fr_tr fr_rf h_107 (by decide)) h_117 (by decide))⟩
              · skip
                have c_105i : x2.toInt ≥ 24 := bI_nlt rfl (show (24 : Int32).toInt = 24 by decide) c_105
                refine ok_bd (t_fX6_fail) (fun z6 q_118 => ?_)
                have h_119 : FrL [8] z_p1 z6 := q_118
                exact ok_some ⟨fr_rf, (fr_tr fr_rf h_119 (by decide))⟩
            · skip
              have c_104i : 0 ≠ 0 := bI_neq (show (0 : Int32).toInt = 0 by decide) (show (0 : Int32).toInt = 0 by decide) c_104
              exact absurd (by decide) c_104
          · skip
            have c_103i : (gI z_t 3).toInt ≥ 10 := bI_nlt rfl (show (10 : Int32).toInt = 10 by decide) c_103
            refine ok_jn ?_
            refine ok_ite (fun c_120 => ?_) (fun c_120 => ?_)
            · skip
              have c_120i : 1 = 0 := bI_eq (show (1 : Int32).toInt = 1 by decide) (show (0 : Int32).toInt = 0 by decide) c_120
              exact absurd c_120 (by decide)
            · skip
              have c_120i : 1 ≠ 0 := bI_neq (show (1 : Int32).toInt = 1 by decide) (show (0 : Int32).toInt = 0 by decide) c_120
              refine ok_bd (t_fX6_fail) (fun z6 q_121 => ?_)
              have h_122 : FrL [8] z_p1 z6 := q_121
              exact ok_some ⟨fr_rf, (fr_tr fr_rf h_122 (by decide))⟩
    · skip
      have c_62i : (gI z_p1 5).toInt ≠ 313 := bI_neq rfl (show (313 : Int32).toInt = 313 by decide) c_62
      refine ok_ite (fun c_123 => ?_) (fun c_123 => ?_)
      · skip
        have c_123i : (gI z_p1 5).toInt = 312 := bI_eq rfl (show (312 : Int32).toInt = 312 by decide) c_123
        refine ok_jn ?_
        refine ok_ite (fun c_124 => ?_) (fun c_124 => ?_)
        · skip
          have c_124i : (gI z_p1 5).toInt = 304 := bI_eq rfl (show (304 : Int32).toInt = 304 by decide) c_124
          refine ok_jn ?_
          refine ok_ite (fun c_125 => ?_) (fun c_125 => ?_)
          · skip
            have c_125i : (gI z_t 4).toInt = 0 := bI_eq rfl (show (0 : Int32).toInt = 0 by decide) c_125
            refine ok_ite (fun c_126 => ?_) (fun c_126 => ?_)
            · skip
              have c_126i : x2.toInt < 24 := bI_lt rfl (show (24 : Int32).toInt = 24 by decide) c_126
              refine ok_bd (t_fX6_step) (fun z10 q_127 => ?_)
              have h_128 : FrL [4, 5, 6, 7] z_p1 z10 := q_127
              refine ok_ite (fun c_129 => ?_) (fun c_129 => ?_)
              · skip
                have c_129i : (gI z_p1 5).toInt = 304 := bI_eq rfl (show (304 : Int32).toInt = 304 by decide) c_129
                refine ok_bd2 (t_fX6_takeNumber) (fun r20 z21 q_130 => ?_)
                have h_131 : FrL [4, 5, 6, 7, 8] z10 z21 := q_130
                exact ok_some ⟨(fr_I (fr_I fr_rf (by decide)) (by decide)), (fr_tr (fr_tr fr_rf h_128 (by decide)) h_131 (by decide))⟩
              · skip
                have c_129i : (gI z_p1 5).toInt ≠ 304 := bI_neq rfl (show (304 : Int32).toInt = 304 by decide) c_129
                refine ok_ite (fun c_132 => ?_) (fun c_132 => ?_)
                · skip
                  have c_132i : (gI z_p1 5).toInt = 313 := bI_eq rfl (show (313 : Int32).toInt = 313 by decide) c_132
                  refine ok_bd2 (t_fX7_readKind) (fun z17 z18 q_133 => ?_)
                  have h_134 : FrL [2, 5, 6, 7] z_t z17 := q_133.1
                  have h_135 : FrL [4, 5, 6, 7, 8] z10 z18 := q_133.2
                  exact ok_some ⟨(fr_tr fr_rf h_134 (by decide)), (fr_tr (fr_tr fr_rf h_128 (by decide)) h_135 (by decide))⟩
                · skip
                  have c_132i : (gI z_p1 5).toInt ≠ 313 := bI_neq rfl (show (313 : Int32).toInt = 313 by decide) c_132
                  refine ok_bd2 (t_fX7_readFault) (fun z14 z15 q_136 => ?_)
                  have h_137 : FrL [3, 8, 9, 10, 11, 12, 13, 14] z_t z14 := q_136.1
                  have h_138 : FrL [4, 5, 6, 7, 8] z10 z15 := q_136.2
                  exact ok_some ⟨(fr_tr fr_rf h_137 (by decide)), (fr_tr (fr_tr fr_rf h_128 (by decide)) h_138 (by decide))⟩
            · skip
              have c_126i : x2.toInt ≥ 24 := bI_nlt rfl (show (24 : Int32).toInt = 24 by decide) c_126
              refine ok_bd (t_fX6_fail) (fun z6 q_139 => ?_)
              have h_140 : FrL [8] z_p1 z6 := q_139
              exact ok_some ⟨fr_rf, (fr_tr fr_rf h_140 (by decide))⟩
          · skip
            have c_125i : (gI z_t 4).toInt ≠ 0 := bI_neq rfl (show (0 : Int32).toInt = 0 by decide) c_125
            refine ok_bd (t_fX6_fail) (fun z6 q_141 => ?_)
            have h_142 : FrL [8] z_p1 z6 := q_141
            exact ok_some ⟨fr_rf, (fr_tr fr_rf h_142 (by decide))⟩
        · skip
          have c_124i : (gI z_p1 5).toInt ≠ 304 := bI_neq rfl (show (304 : Int32).toInt = 304 by decide) c_124
          refine ok_ite (fun c_143 => ?_) (fun c_143 => ?_)
          · skip
            have c_143i : (gI z_p1 5).toInt = 313 := bI_eq rfl (show (313 : Int32).toInt = 313 by decide) c_143
            refine ok_ite (fun c_144 => ?_) (fun c_144 => ?_)
            · skip
              have c_144i : (gI z_t 2).toInt < 6 := bI_lt rfl (show (6 : Int32).toInt = 6 by decide) c_144
              refine ok_jn ?_
              refine ok_ite (fun c_145 => ?_) (fun c_145 => ?_)
              · skip
                have c_145i : 0 = 0 := bI_eq (show (0 : Int32).toInt = 0 by decide) (show (0 : Int32).toInt = 0 by decide) c_145
                refine ok_ite (fun c_146 => ?_) (fun c_146 => ?_)
                · skip
                  have c_146i : x2.toInt < 24 := bI_lt rfl (show (24 : Int32).toInt = 24 by decide) c_146
                  refine ok_bd (t_fX6_step) (fun z10 q_147 => ?_)
                  have h_148 : FrL [4, 5, 6, 7] z_p1 z10 := q_147
                  refine ok_ite (fun c_149 => ?_) (fun c_149 => ?_)
                  · skip
                    have c_149i : (gI z_p1 5).toInt = 304 := bI_eq rfl (show (304 : Int32).toInt = 304 by decide) c_149
                    refine ok_bd2 (t_fX6_takeNumber) (fun r20 z21 q_150 => ?_)
                    have h_151 : FrL [4, 5, 6, 7, 8] z10 z21 := q_150
                    exact ok_some ⟨(fr_I (fr_I fr_rf (by decide)) (by decide)), (fr_tr (fr_tr fr_rf h_148 (by decide)) h_151 (by decide))⟩
                  · skip
                    have c_149i : (gI z_p1 5).toInt ≠ 304 := bI_neq rfl (show (304 : Int32).toInt = 304 by decide) c_149
                    refine ok_ite (fun c_152 => ?_) (fun c_152 => ?_)
                    · skip
                      have c_152i : (gI z_p1 5).toInt = 313 := bI_eq rfl (show (313 : Int32).toInt = 313 by decide) c_152
                      refine ok_bd2 (t_fX7_readKind) (fun z17 z18 q_153 => ?_)
                      have h_154 : FrL [2, 5, 6, 7] z_t z17 := q_153.1
                      have h_155 : FrL [4, 5, 6, 7, 8] z10 z18 := q_153.2
                      exact ok_some ⟨(fr_tr fr_rf h_154 (by decide)), (fr_tr (fr_tr fr_rf h_148 (by decide)) h_155 (by decide))⟩
                    · skip
                      have c_152i : (gI z_p1 5).toInt ≠ 313 := bI_neq rfl (show (313 : Int32).toInt = 313 by decide) c_152
                      refine ok_bd2 (t_fX7_readFault) (fun z14 z15 q_156 => ?_)
                      have h_157 : FrL [3, 8, 9, 10, 11, 12, 13, 14] z_t z14 := q_156.1
                      have h_158 : FrL [4, 5, 6, 7, 8] z10 z15 := q_156.2
                      exact ok_some ⟨(fr_tr fr_rf h_157 (by decide)), (fr_tr (fr_tr fr_rf h_148 (by decide)) h_158 (by decide))⟩
                · skip
                  have c_146i : x2.toInt ≥ 24 := bI_nlt rfl (show (24 : Int32).toInt = 24 by decide) c_146
                  refine ok_bd (t_fX6_fail) (fun z6 q_159 => ?_)
                  have h_160 : FrL [8] z_p1 z6 := q_159
                  exact ok_some ⟨fr_rf, (fr_tr fr_rf h_160 (by decide))⟩
              · skip
                have c_145i : 0 ≠ 0 := bI_neq (show (0 : Int32).toInt = 0 by decide) (show (0 : Int32).toInt = 0 by decide) c_145
                exact absurd (by decide) c_145
            · skip
              have c_144i : (gI z_t 2).toInt ≥ 6 := bI_nlt rfl (show (6 : Int32).toInt = 6 by decide) c_144
              refine ok_jn ?_
              refine ok_ite (fun c_161 => ?_) (fun c_161 => ?_)
              · skip
                have c_161i : 1 = 0 := bI_eq (show (1 : Int32).toInt = 1 by decide) (show (0 : Int32).toInt = 0 by decide) c_161
                exact absurd c_161 (by decide)
              · skip
                have c_161i : 1 ≠ 0 := bI_neq (show (1 : Int32).toInt = 1 by decide) (show (0 : Int32).toInt = 0 by decide) c_161
                refine ok_bd (t_fX6_fail) (fun z6 q_162 => ?_)
                have h_163 : FrL [8] z_p1 z6 := q_162
                exact ok_some ⟨fr_rf, (fr_tr fr_rf h_163 (by decide))⟩
          · skip
            have c_143i : (gI z_p1 5).toInt ≠ 313 := bI_neq rfl (show (313 : Int32).toInt = 313 by decide) c_143
            refine ok_ite (fun c_164 => ?_) (fun c_164 => ?_)
            · skip
              have c_164i : (gI z_t 3).toInt < 10 := bI_lt rfl (show (10 : Int32).toInt = 10 by decide) c_164
              refine ok_jn ?_
              refine ok_ite (fun c_165 => ?_) (fun c_165 => ?_)
              · skip
                have c_165i : 0 = 0 := bI_eq (show (0 : Int32).toInt = 0 by decide) (show (0 : Int32).toInt = 0 by decide) c_165
                refine ok_ite (fun c_166 => ?_) (fun c_166 => ?_)
                · skip
                  have c_166i : x2.toInt < 24 := bI_lt rfl (show (24 : Int32).toInt = 24 by decide) c_166
                  refine ok_bd (t_fX6_step) (fun z10 q_167 => ?_)
                  have h_168 : FrL [4, 5, 6, 7] z_p1 z10 := q_167
                  refine ok_ite (fun c_169 => ?_) (fun c_169 => ?_)
                  · skip
                    have c_169i : (gI z_p1 5).toInt = 304 := bI_eq rfl (show (304 : Int32).toInt = 304 by decide) c_169
                    refine ok_bd2 (t_fX6_takeNumber) (fun r20 z21 q_170 => ?_)
                    have h_171 : FrL [4, 5, 6, 7, 8] z10 z21 := q_170
                    exact ok_some ⟨(fr_I (fr_I fr_rf (by decide)) (by decide)), (fr_tr (fr_tr fr_rf h_168 (by decide)) h_171 (by decide))⟩
                  · skip
                    have c_169i : (gI z_p1 5).toInt ≠ 304 := bI_neq rfl (show (304 : Int32).toInt = 304 by decide) c_169
                    refine ok_ite (fun c_172 => ?_) (fun c_172 => ?_)
                    · skip
                      have c_172i : (gI z_p1 5).toInt = 313 := bI_eq rfl (show (313 : Int32).toInt = 313 by decide) c_172
                      refine ok_bd2 (t_fX7_readKind) (fun z17 z18 q_173 => ?_)
                      have h_174 : FrL [2, 5, 6, 7] z_t z17 := q_173.1
                      have h_175 : FrL [4, 5, 6, 7, 8] z10 z18 := q_173.2
                      exact ok_some ⟨(fr_tr fr_rf h_174 (by decide)), (fr_tr (fr_tr fr_rf h_168 (by decide)) h_175 (by decide))⟩
                    · skip
                      have c_172i : (gI z_p1 5).toInt ≠ 313 := bI_neq rfl (show (313 : Int32).toInt = 313 by decide) c_172
                      refine ok_bd2 (t_fX7_readFault) (fun z14 z15 q_176 => ?_)
                      have h_177 : FrL [3, 8, 9, 10, 11, 12, 13, 14] z_t z14 := q_176.1
                      have h_178 : FrL [4, 5, 6, 7, 8] z10 z15 := q_176.2
                      exact ok_some ⟨(fr_tr fr_rf h_177 (by decide)), (fr_tr (fr_tr fr_rf h_168 (by decide)) h_178 (by decide))⟩
                · skip
                  have c_166i : x2.toInt ≥ 24 := bI_nlt rfl (show (24 : Int32).toInt = 24 by decide) c_166
                  refine ok_bd (t_fX6_fail) (fun z6 q_179 => ?_)
                  have h_180 : FrL [8] z_p1 z6 := q_179
                  exact ok_some ⟨fr_rf, (fr_tr fr_rf h_180 (by decide))⟩
              · skip
                have c_165i : 0 ≠ 0 := bI_neq (show (0 : Int32).toInt = 0 by decide) (show (0 : Int32).toInt = 0 by decide) c_165
                exact absurd (by decide) c_165
            · skip
              have c_164i : (gI z_t 3).toInt ≥ 10 := bI_nlt rfl (show (10 : Int32).toInt = 10 by decide) c_164
              refine ok_jn ?_
              refine ok_ite (fun c_181 => ?_) (fun c_181 => ?_)
              · skip
                have c_181i : 1 = 0 := bI_eq (show (1 : Int32).toInt = 1 by decide) (show (0 : Int32).toInt = 0 by decide) c_181
                exact absurd c_181 (by decide)
              · skip
                have c_181i : 1 ≠ 0 := bI_neq (show (1 : Int32).toInt = 1 by decide) (show (0 : Int32).toInt = 0 by decide) c_181
                refine ok_bd (t_fX6_fail) (fun z6 q_182 => ?_)
                have h_183 : FrL [8] z_p1 z6 := q_182
                exact ok_some ⟨fr_rf, (fr_tr fr_rf h_183 (by decide))⟩
      · skip
        have c_123i : (gI z_p1 5).toInt ≠ 312 := bI_neq rfl (show (312 : Int32).toInt = 312 by decide) c_123
        refine ok_bd (t_fX6_fail) (fun z30 q_184 => ?_)
        have h_185 : FrL [8] z_p1 z30 := q_184
        exact ok_some ⟨fr_rf, (fr_tr fr_rf h_185 (by decide))⟩

set_option maxHeartbeats 1000000 in
set_option maxRecDepth 20000 in
theorem tl_lX7_readFrom_10 {o_z_t : Sx} {o_z_p1 : Sx} {k37 : Sx → Sx → Option (Sx × Sx)} (Hk37 : ∀ (y0 : Sx) (y1 : Sx), (FrL [1, 2, 3, 4, 5, 6, 7, 8, 9, 10, 11, 12, 13, 14, 15, 16, 17] o_z_t y0) → (FrL [4, 5, 6, 7, 8] o_z_p1 y1) → okP (k37 y0 y1) (fun y => (FrL [1, 2, 3, 4, 5, 6, 7, 8, 9, 10, 11, 12, 13, 14, 15, 16, 17] o_z_t y.1) ∧ (FrL [4, 5, 6, 7, 8] o_z_p1 y.2))) : ∀ (n : Nat) (z_t : Sx) (z_p1 : Sx) (x2 : Int32) (x3 : Int32), (FrL [1, 2, 3, 4, 5, 6, 7, 8, 9, 10, 11, 12, 13, 14, 15, 16, 17] o_z_t z_t) → (FrL [4, 5, 6, 7, 8] o_z_p1 z_p1) → (24 + 1 - x3.toInt).toNat < n → okP (lX7_readFrom_10 k37 n z_t z_p1 x2 x3) (fun y => (FrL [1, 2, 3, 4, 5, 6, 7, 8, 9, 10, 11, 12, 13, 14, 15, 16, 17] o_z_t y.1) ∧ (FrL [4, 5, 6, 7, 8] o_z_p1 y.2)) := by
  intro n
  induction n with
  | zero => intro _ _ _ _ _ _ hm; omega
  | succ n ih =>
    intro z_t z_p1 x2 x3 frz_t frz_p1 hm
    rw [lX7_readFrom_10]
    refine ok_ite (fun c_1 => ?_) (fun c_1 => ?_)
    · skip
      have c_1i : x2.toInt = 0 := bI_eq rfl (show (0 : Int32).toInt = 0 by decide) c_1
      exact Hk37 z_t z_p1 frz_t frz_p1
    · skip
      have c_1i : x2.toInt ≠ 0 := bI_neq rfl (show (0 : Int32).toInt = 0 by decide) c_1
      refine ok_ite (fun c_2 => ?_) (fun c_2 => ?_)
      · skip
        have c_2i : 24 < x3.toInt := bI_lt (show (24 : Int32).toInt = 24 by decide) rfl c_2
        exact Hk37 z_t z_p1 frz_t frz_p1
      · skip
        have c_2i : 24 ≥ x3.toInt := bI_nlt (show (24 : Int32).toInt = 24 by decide) rfl c_2
        refine ok_bd2 (t_fX7_readClause) (fun z4 z5 q_3 => ?_)
        have h_4 : FrL [1, 2, 3, 4, 5, 6, 7, 8, 9, 10, 11, 12, 13, 14] z_t z4 := q_3.1
        have h_5 : FrL [4, 5, 6, 7, 8] z_p1 z5 := q_3.2
        refine ok_bd2 (t_fX6_anotherClause) (fun r7 z8 q_6 => ?_)
        have h_7 : r7 = 0 ∨ r7 = 1 := q_6.1
        have h_8 : FrL [4, 5, 6, 7, 8] z5 z8 := q_6.2
        have e_9 : (x3 + 1).toInt = (x3.toInt + 1) := (i32_add rfl (show (1 : Int32).toInt = 1 by decide) (by omega) (by omega))
        exact ih z4 z8 r7 (x3 + 1) (fr_tr frz_t h_4 (by decide)) (fr_tr (fr_tr frz_p1 h_5 (by decide)) h_8 (by decide)) (by omega)
set_option maxHeartbeats 1000000 in
set_option maxRecDepth 20000 in
theorem t_fX7_readFrom {z_t : Sx} {z_p1 : Sx} : okP (fX7_readFrom z_t z_p1) (fun y => (FrL [1, 2, 3, 4, 5, 6, 7, 8, 9, 10, 11, 12, 13, 14, 15, 16, 17] z_t y.1) ∧ (FrL [4, 5, 6, 7, 8] z_p1 y.2)) := by
  unfold fX7_readFrom
  have e_3 : (1 : Int32).toInt = 1 := (show (1 : Int32).toInt = 1 by decide)
  have e_4 : (0 : Int32).toInt = 0 := (show (0 : Int32).toInt = 0 by decide)
  refine tl_lX7_readFrom_10 (fun z9 z10 k_1 k_2 => ?_) FU (sI z_t 1 60) z_p1 1 0 (fr_I fr_rf (by decide)) fr_rf (FU_lt (by omega))
  · skip
    refine ok_jn ?_
    refine ok_ite (fun c_5 => ?_) (fun c_5 => ?_)
    · skip
      have c_5i : (gI z9 3).toInt = 0 := bI_eq rfl (show (0 : Int32).toInt = 0 by decide) c_5
      refine ok_bd (t_fX6_fail) (fun z18 q_6 => ?_)
      have h_7 : FrL [8] z10 z18 := q_6
      refine ok_bd (t_fX7_orderLooks) (fun z15 q_8 => ?_)
      have h_9 : FrL [15, 16, 17] z9 z15 := q_8
      exact ok_some ⟨(fr_tr k_1 h_9 (by decide)), (fr_tr k_2 h_7 (by decide))⟩
    · skip
      have c_5i : (gI z9 3).toInt ≠ 0 := bI_neq rfl (show (0 : Int32).toInt = 0 by decide) c_5
      refine ok_bd (t_fX7_orderLooks) (fun z15 q_10 => ?_)
      have h_11 : FrL [15, 16, 17] z9 z15 := q_10
      exact ok_some ⟨(fr_tr k_1 h_11 (by decide)), k_2⟩

set_option maxHeartbeats 1000000 in
set_option maxRecDepth 20000 in
theorem t_fX8_back_none {z_t : Sx} {B_t_6 : Nat → Option Nat} {x1 : Int32} : okP (fX8_back_none z_t B_t_6 x1) (fun _ => True) := by
  unfold fX8_back_none
  refine ok_ite (fun c_1 => ?_) (fun c_1 => ?_)
  · skip
    have c_1i : x1.toInt < 0 := bI_lt rfl (show (0 : Int32).toInt = 0 by decide) c_1
    exact ok_some trivial
  · skip
    have c_1i : x1.toInt ≥ 0 := bI_nlt rfl (show (0 : Int32).toInt = 0 by decide) c_1
    refine ok_ite (fun c_2 => ?_) (fun c_2 => ?_)
    · skip
      have c_2i : x1.toInt < 4 := bI_lt rfl (show (4 : Int32).toInt = 4 by decide) c_2
      refine ok_gd (inb_of (by omega) (by omega)) ?_
      exact ok_some trivial
    · skip
      have c_2i : x1.toInt ≥ 4 := bI_nlt rfl (show (4 : Int32).toInt = 4 by decide) c_2
      exact ok_some trivial

set_option maxHeartbeats 1000000 in
set_option maxRecDepth 20000 in
theorem t_fX8_back_some {z_t : Sx} {z_t_5 : Sx} {z_t_5_1 : Sx} {B_t_6 : Nat → Option Nat} {z_R : Sx} {z_R_1 : Sx} {x1 : Int32} : okP (fX8_back_some z_t z_t_5 z_t_5_1 B_t_6 z_R z_R_1 x1) (fun y => (FrL [2, 3, 4, 5, 6, 7] z_t_5 y.2.1) ∧ (FrL [0, 1, 2, 3, 4, 5] z_t_5_1 y.2.2)) := by
  unfold fX8_back_some
  refine ok_ite (fun c_1 => ?_) (fun c_1 => ?_)
  · skip
    have c_1i : x1.toInt < 0 := bI_lt rfl (show (0 : Int32).toInt = 0 by decide) c_1
    exfalso; omega
  · skip
    have c_1i : x1.toInt ≥ 0 := bI_nlt rfl (show (0 : Int32).toInt = 0 by decide) c_1
    refine ok_ite (fun c_2 => ?_) (fun c_2 => ?_)
    · skip
      have c_2i : x1.toInt < 4 := bI_lt rfl (show (4 : Int32).toInt = 4 by decide) c_2
      refine ok_gd (inb_of (by omega) (by omega)) ?_
      refine ok_bd2 (t_fX5_copyFrom) (fun z5 z6 q_3 => ?_)
      have h_4 : FrL [2, 3, 4, 5, 6, 7] z_t_5 z5 := q_3.1
      have h_5 : FrL [0, 1, 2, 3, 4, 5] z_t_5_1 z6 := q_3.2
      exact ok_some ⟨(fr_tr fr_rf h_4 (by decide)), (fr_tr fr_rf h_5 (by decide))⟩
    · skip
      have c_2i : x1.toInt ≥ 4 := bI_nlt rfl (show (4 : Int32).toInt = 4 by decide) c_2
      exfalso; omega

set_option maxHeartbeats 1000000 in
set_option maxRecDepth 20000 in
theorem t_fX8_hasWork {z_t : Sx} {z_t_5 : Sx} {z_t_5_0 : Sx} : okP (fX8_hasWork z_t z_t_5 z_t_5_0) (fun y => (y = 0 ∨ y = 1)) := by
  unfold fX8_hasWork
  refine ok_ite (fun c_1 => ?_) (fun c_1 => ?_)
  · skip
    have c_1i : (gI z_t_5_0 3).toInt ≤ 0 := bI_le rfl (show (0 : Int32).toInt = 0 by decide) c_1
    exact ok_some (Or.inl rfl)
  · skip
    have c_1i : (gI z_t_5_0 3).toInt > 0 := bI_nle rfl (show (0 : Int32).toInt = 0 by decide) c_1
    exact ok_some (Or.inr rfl)

set_option maxHeartbeats 1000000 in
set_option maxRecDepth 20000 in
theorem tl_lX8_partOf_12 {k47 : Int64 → Option (Int64)} {x0 : Int64} {x2 : Int64} {x4 : Int32} (Hk47 : ∀ (y0 : Int64), okP (k47 y0) (fun _ => True)) : ∀ (n : Nat) (x5 : Int64) (x7 : Int64) (x9 : Int32), (100 + 0 - x9.toInt).toNat < n → okP (lX8_partOf_12 k47 x0 x2 x4 n x5 x7 x9) (fun _ => True) := by
  intro n
  induction n with
  | zero => intro _ _ _ hm; omega
  | succ n ih =>
    intro x5 x7 x9 hm
    rw [lX8_partOf_12]
    refine ok_ite (fun c_1 => ?_) (fun c_1 => ?_)
    · skip
      have c_1i : 100 ≤ x9.toInt := bI_le (show (100 : Int32).toInt = 100 by decide) rfl c_1
      exact Hk47 x5 
    · skip
      have c_1i : 100 > x9.toInt := bI_nle (show (100 : Int32).toInt = 100 by decide) rfl c_1
      refine ok_ite (fun c_2 => ?_) (fun c_2 => ?_)
      · skip
        have c_2i : x7.toInt = 0 := lI_eq rfl (show (0 : Int64).toInt = 0 by decide) c_2
        exact Hk47 x5 
      · skip
        have c_2i : x7.toInt ≠ 0 := lI_neq rfl (show (0 : Int64).toInt = 0 by decide) c_2
        refine ok_gd (by assumption) ?_
        have e_3 : (x9 + 1).toInt = (x9.toInt + 1) := (i32_add rfl (show (1 : Int32).toInt = 1 by decide) (by omega) (by omega))
        exact ih x7 (x5 - ((x5 / x7) * x7)) (x9 + 1)  (by omega)
set_option maxHeartbeats 1000000 in
set_option maxRecDepth 20000 in
theorem t_fX8_partOf {x0 : Int64} {x2 : Int64} {x4 : Int32} : okP (fX8_partOf x0 x2 x4) (fun _ => True) := by
  unfold fX8_partOf
  have e_1 : (0 : Int32).toInt = 0 := (show (0 : Int32).toInt = 0 by decide)
  refine tl_lX8_partOf_12 (fun i4 => ?_) FU (abL x0) x2 0  (FU_lt (by omega))
  · skip
    refine ok_ite (fun c_2 => ?_) (fun c_2 => ?_)
    · skip
      have c_2i : i4.toInt = 0 := lI_eq rfl (show (0 : Int64).toInt = 0 by decide) c_2
      refine ok_ite (fun c_3 => ?_) (fun c_3 => ?_)
      · skip
        have c_3i : x4.toInt = 0 := bI_eq rfl (show (0 : Int32).toInt = 0 by decide) c_3
        exact ok_some trivial
      · skip
        have c_3i : x4.toInt ≠ 0 := bI_neq rfl (show (0 : Int32).toInt = 0 by decide) c_3
        exact ok_some trivial
    · skip
      have c_2i : i4.toInt ≠ 0 := lI_neq rfl (show (0 : Int64).toInt = 0 by decide) c_2
      refine ok_jn ?_
      refine ok_ite (fun c_4 => ?_) (fun c_4 => ?_)
      · skip
        have c_4i : x4.toInt = 0 := bI_eq rfl (show (0 : Int32).toInt = 0 by decide) c_4
        refine ok_gd (by assumption) ?_
        exact ok_some trivial
      · skip
        have c_4i : x4.toInt ≠ 0 := bI_neq rfl (show (0 : Int32).toInt = 0 by decide) c_4
        refine ok_gd (by assumption) ?_
        exact ok_some trivial

set_option maxHeartbeats 1000000 in
set_option maxRecDepth 20000 in
theorem t_fX8_best {z_t : Sx} {z_t_5 : Sx} {z_t_5_0 : Sx} {z_t_5_1 : Sx} {z_t_10 : Sx} {x1 : Int32} {x2 : Int32} : okP (fX8_best z_t z_t_5 z_t_5_0 z_t_5_1 z_t_10 x1 x2) (fun y => (FrL [0, 1] z_t_10 y.2)) := by
  unfold fX8_best
  refine ok_bd (t_fX8_hasWork) (fun r2 q_1 => ?_)
  have h_2 : r2 = 0 ∨ r2 = 1 := q_1
  refine ok_ite (fun c_3 => ?_) (fun c_3 => ?_)
  · skip
    have c_3i : r2.toInt = 0 := bI_eq rfl (show (0 : Int32).toInt = 0 by decide) c_3
    exact ok_some fr_rf
  · skip
    have c_3i : r2.toInt ≠ 0 := bI_neq rfl (show (0 : Int32).toInt = 0 by decide) c_3
    refine ok_ite (fun c_4 => ?_) (fun c_4 => ?_)
    · skip
      have c_4i : x1.toInt < 0 := bI_lt rfl (show (0 : Int32).toInt = 0 by decide) c_4
      exact ok_some fr_rf
    · skip
      have c_4i : x1.toInt ≥ 0 := bI_nlt rfl (show (0 : Int32).toInt = 0 by decide) c_4
      refine ok_ite (fun c_5 => ?_) (fun c_5 => ?_)
      · skip
        have c_5i : 5 < x1.toInt := bI_lt (show (5 : Int32).toInt = 5 by decide) rfl c_5
        exact ok_some fr_rf
      · skip
        have c_5i : 5 ≥ x1.toInt := bI_nlt (show (5 : Int32).toInt = 5 by decide) rfl c_5
        refine ok_ite (fun c_6 => ?_) (fun c_6 => ?_)
        · skip
          have c_6i : x2.toInt < 0 := bI_lt rfl (show (0 : Int32).toInt = 0 by decide) c_6
          exact ok_some fr_rf
        · skip
          have c_6i : x2.toInt ≥ 0 := bI_nlt rfl (show (0 : Int32).toInt = 0 by decide) c_6
          refine ok_ite (fun c_7 => ?_) (fun c_7 => ?_)
          · skip
            have c_7i : x2.toInt ≤ 2 := bI_le rfl (show (2 : Int32).toInt = 2 by decide) c_7
            refine ok_bd (t_fX0_gone) (fun r9 q_8 => ?_)
            refine ok_ite (fun c_9 => ?_) (fun c_9 => ?_)
            · skip
              have c_9i : x2.toInt = 2 := bI_eq rfl (show (2 : Int32).toInt = 2 by decide) c_9
              refine ok_bd2 (t_fX1_choice (by first | assumption | omega | decide)) (fun r19 z20 q_10 => ?_)
              have h_11 : FrL [0, 1] z_t_10 z20 := q_10.1
              have h_12 : 0 ≤ r19.toInt → 0 < x1.toInt := q_10.2
              exact ok_some (fr_tr fr_rf h_11 (by decide))
            · skip
              have c_9i : x2.toInt ≠ 2 := bI_neq rfl (show (2 : Int32).toInt = 2 by decide) c_9
              refine ok_bd2 (t_fX1_mostEarned _ _ _ _ _ _ (by first | assumption | omega | decide)) (fun r12 z13 q_13 => ?_)
              have h_14 : FrL [0, 1] z_t_10 z13 := q_13.1
              have h_15 : x1.toInt ≤ 0 → r12.toInt = 0 := q_13.2
              refine ok_bd (t_fX8_hundreds) (fun r15 q_16 => ?_)
              refine ok_bd (t_fX8_partOf) (fun r17 q_17 => ?_)
              exact ok_some (fr_tr fr_rf h_14 (by decide))
          · skip
            have c_7i : x2.toInt > 2 := bI_nle rfl (show (2 : Int32).toInt = 2 by decide) c_7
            exact ok_some fr_rf

set_option maxHeartbeats 1000000 in
set_option maxRecDepth 20000 in
theorem tl_lX8_checks_26 {x1 : Int32} {x2 : Int32} : ∀ (n : Nat) (x3 : Int32), (100 + 0 - x3.toInt).toNat < n → okP (lX8_checks_26 x1 x2 n x3) (fun _ => True) := by
  intro n
  induction n with
  | zero => intro _ hm; omega
  | succ n ih =>
    intro x3 hm
    rw [lX8_checks_26]
    refine ok_ite (fun c_1 => ?_) (fun c_1 => ?_)
    · skip
      have c_1i : 100 ≤ x3.toInt := bI_le (show (100 : Int32).toInt = 100 by decide) rfl c_1
      exact ok_some trivial
    · skip
      have c_1i : 100 > x3.toInt := bI_nle (show (100 : Int32).toInt = 100 by decide) rfl c_1
      refine ok_ite (fun c_2 => ?_) (fun c_2 => ?_)
      · skip
        have c_2i : (x1 * (100 - x3)).toInt ≤ (x2 * x3).toInt := bI_le rfl rfl c_2
        exact ok_some trivial
      · skip
        have c_2i : (x1 * (100 - x3)).toInt > (x2 * x3).toInt := bI_nle rfl rfl c_2
        have e_3 : (x3 + 1).toInt = (x3.toInt + 1) := (i32_add rfl (show (1 : Int32).toInt = 1 by decide) (by omega) (by omega))
        exact ih (x3 + 1)  (by omega)
set_option maxHeartbeats 1000000 in
set_option maxRecDepth 20000 in
theorem t_fX8_checks {x1 : Int32} {x2 : Int32} : okP (fX8_checks x1 x2) (fun _ => True) := by
  unfold fX8_checks
  refine ok_ite (fun c_1 => ?_) (fun c_1 => ?_)
  · skip
    have c_1i : x1.toInt < 0 := bI_lt rfl (show (0 : Int32).toInt = 0 by decide) c_1
    exact ok_some trivial
  · skip
    have c_1i : x1.toInt ≥ 0 := bI_nlt rfl (show (0 : Int32).toInt = 0 by decide) c_1
    refine ok_ite (fun c_2 => ?_) (fun c_2 => ?_)
    · skip
      have c_2i : 9999 < x1.toInt := bI_lt (show (9999 : Int32).toInt = 9999 by decide) rfl c_2
      exact ok_some trivial
    · skip
      have c_2i : 9999 ≥ x1.toInt := bI_nlt (show (9999 : Int32).toInt = 9999 by decide) rfl c_2
      refine ok_ite (fun c_3 => ?_) (fun c_3 => ?_)
      · skip
        have c_3i : x2.toInt < 0 := bI_lt rfl (show (0 : Int32).toInt = 0 by decide) c_3
        exact ok_some trivial
      · skip
        have c_3i : x2.toInt ≥ 0 := bI_nlt rfl (show (0 : Int32).toInt = 0 by decide) c_3
        refine ok_ite (fun c_4 => ?_) (fun c_4 => ?_)
        · skip
          have c_4i : x2.toInt ≤ 9999 := bI_le rfl (show (9999 : Int32).toInt = 9999 by decide) c_4
          have e_5 : (0 : Int32).toInt = 0 := (show (0 : Int32).toInt = 0 by decide)
          refine tl_lX8_checks_26  FU 0  (FU_lt (by omega))
        · skip
          have c_4i : x2.toInt > 9999 := bI_nle rfl (show (9999 : Int32).toInt = 9999 by decide) c_4
          exact ok_some trivial

set_option maxHeartbeats 1000000 in
set_option maxRecDepth 20000 in
theorem t_fX8_coins {z_t : Sx} {z_t_5 : Sx} {z_t_5_1 : Sx} {x1 : Int32} : okP (fX8_coins z_t z_t_5 z_t_5_1 x1) (fun _ => True) := by
  unfold fX8_coins
  refine ok_ite (fun c_1 => ?_) (fun c_1 => ?_)
  · skip
    have c_1i : x1.toInt = 0 := bI_eq rfl (show (0 : Int32).toInt = 0 by decide) c_1
    exact ok_some trivial
  · skip
    have c_1i : x1.toInt ≠ 0 := bI_neq rfl (show (0 : Int32).toInt = 0 by decide) c_1
    refine ok_ite (fun c_2 => ?_) (fun c_2 => ?_)
    · skip
      have c_2i : x1.toInt = 1 := bI_eq rfl (show (1 : Int32).toInt = 1 by decide) c_2
      exact ok_some trivial
    · skip
      have c_2i : x1.toInt ≠ 1 := bI_neq rfl (show (1 : Int32).toInt = 1 by decide) c_2
      refine ok_ite (fun c_3 => ?_) (fun c_3 => ?_)
      · skip
        have c_3i : x1.toInt = 2 := bI_eq rfl (show (2 : Int32).toInt = 2 by decide) c_3
        exact ok_some trivial
      · skip
        have c_3i : x1.toInt ≠ 2 := bI_neq rfl (show (2 : Int32).toInt = 2 by decide) c_3
        exact ok_some trivial

set_option maxHeartbeats 1000000 in
set_option maxRecDepth 20000 in
theorem t_fX8_count {z_t : Sx} {z_t_5 : Sx} {z_t_5_0 : Sx} {z_t_5_1 : Sx} {x1 : Int32} : okP (fX8_count z_t z_t_5 z_t_5_0 z_t_5_1 x1) (fun _ => True) := by
  unfold fX8_count
  refine ok_ite (fun c_1 => ?_) (fun c_1 => ?_)
  · skip
    have c_1i : x1.toInt = 0 := bI_eq rfl (show (0 : Int32).toInt = 0 by decide) c_1
    exact ok_some trivial
  · skip
    have c_1i : x1.toInt ≠ 0 := bI_neq rfl (show (0 : Int32).toInt = 0 by decide) c_1
    refine ok_ite (fun c_2 => ?_) (fun c_2 => ?_)
    · skip
      have c_2i : x1.toInt = 1 := bI_eq rfl (show (1 : Int32).toInt = 1 by decide) c_2
      exact ok_some trivial
    · skip
      have c_2i : x1.toInt ≠ 1 := bI_neq rfl (show (1 : Int32).toInt = 1 by decide) c_2
      refine ok_ite (fun c_3 => ?_) (fun c_3 => ?_)
      · skip
        have c_3i : x1.toInt = 2 := bI_eq rfl (show (2 : Int32).toInt = 2 by decide) c_3
        exact ok_some trivial
      · skip
        have c_3i : x1.toInt ≠ 2 := bI_neq rfl (show (2 : Int32).toInt = 2 by decide) c_3
        refine ok_ite (fun c_4 => ?_) (fun c_4 => ?_)
        · skip
          have c_4i : x1.toInt = 3 := bI_eq rfl (show (3 : Int32).toInt = 3 by decide) c_4
          exact ok_some trivial
        · skip
          have c_4i : x1.toInt ≠ 3 := bI_neq rfl (show (3 : Int32).toInt = 3 by decide) c_4
          refine ok_ite (fun c_5 => ?_) (fun c_5 => ?_)
          · skip
            have c_5i : x1.toInt = 4 := bI_eq rfl (show (4 : Int32).toInt = 4 by decide) c_5
            refine ok_bd (t_fJ6_bitCount_0f7a4) (fun r3 q_6 => ?_)
            exact ok_some trivial
          · skip
            have c_5i : x1.toInt ≠ 4 := bI_neq rfl (show (4 : Int32).toInt = 4 by decide) c_5
            refine ok_ite (fun c_7 => ?_) (fun c_7 => ?_)
            · skip
              have c_7i : x1.toInt = 5 := bI_eq rfl (show (5 : Int32).toInt = 5 by decide) c_7
              refine ok_bd (t_fJ6_bitCount_0f7a4) (fun r5 q_8 => ?_)
              exact ok_some trivial
            · skip
              have c_7i : x1.toInt ≠ 5 := bI_neq rfl (show (5 : Int32).toInt = 5 by decide) c_7
              refine ok_ite (fun c_9 => ?_) (fun c_9 => ?_)
              · skip
                have c_9i : x1.toInt = 6 := bI_eq rfl (show (6 : Int32).toInt = 6 by decide) c_9
                exact ok_some trivial
              · skip
                have c_9i : x1.toInt ≠ 6 := bI_neq rfl (show (6 : Int32).toInt = 6 by decide) c_9
                refine ok_ite (fun c_10 => ?_) (fun c_10 => ?_)
                · skip
                  have c_10i : x1.toInt = 7 := bI_eq rfl (show (7 : Int32).toInt = 7 by decide) c_10
                  exact ok_some trivial
                · skip
                  have c_10i : x1.toInt ≠ 7 := bI_neq rfl (show (7 : Int32).toInt = 7 by decide) c_10
                  refine ok_ite (fun c_11 => ?_) (fun c_11 => ?_)
                  · skip
                    have c_11i : x1.toInt = 8 := bI_eq rfl (show (8 : Int32).toInt = 8 by decide) c_11
                    exact ok_some trivial
                  · skip
                    have c_11i : x1.toInt ≠ 8 := bI_neq rfl (show (8 : Int32).toInt = 8 by decide) c_11
                    refine ok_ite (fun c_12 => ?_) (fun c_12 => ?_)
                    · skip
                      have c_12i : x1.toInt = 9 := bI_eq rfl (show (9 : Int32).toInt = 9 by decide) c_12
                      exact ok_some trivial
                    · skip
                      have c_12i : x1.toInt ≠ 9 := bI_neq rfl (show (9 : Int32).toInt = 9 by decide) c_12
                      refine ok_ite (fun c_13 => ?_) (fun c_13 => ?_)
                      · skip
                        have c_13i : x1.toInt = 10 := bI_eq rfl (show (10 : Int32).toInt = 10 by decide) c_13
                        exact ok_some trivial
                      · skip
                        have c_13i : x1.toInt ≠ 10 := bI_neq rfl (show (10 : Int32).toInt = 10 by decide) c_13
                        exact ok_some trivial

set_option maxHeartbeats 1000000 in
set_option maxRecDepth 20000 in
theorem t_fX8_dawn {z_t : Sx} {z_t_5 : Sx} {z_t_5_0 : Sx} {z_t_5_1 : Sx} : okP (fX8_dawn z_t z_t_5 z_t_5_0 z_t_5_1) (fun y => (FrL [2, 3, 4] z_t_5 y.2.1) ∧ (FrL [0, 1, 2, 5] z_t_5_1 y.2.2)) := by
  unfold fX8_dawn
  refine ok_bd (t_fX8_hasWork) (fun r2 q_1 => ?_)
  have h_2 : r2 = 0 ∨ r2 = 1 := q_1
  refine ok_ite (fun c_3 => ?_) (fun c_3 => ?_)
  · skip
    have c_3i : r2.toInt = 0 := bI_eq rfl (show (0 : Int32).toInt = 0 by decide) c_3
    exact ok_some ⟨fr_rf, fr_rf⟩
  · skip
    have c_3i : r2.toInt ≠ 0 := bI_neq rfl (show (0 : Int32).toInt = 0 by decide) c_3
    refine ok_bd (t_fX0_gone) (fun r5 q_4 => ?_)
    refine ok_bd (t_fX7_hiddenCoins) (fun r7 q_5 => ?_)
    refine ok_bd (t_fX0_begin) (fun z9 q_6 => ?_)
    have h_7 : FrL [0, 1, 2, 5] z_t_5_1 z9 := q_6
    exact ok_some ⟨(fr_I (fr_I (fr_I fr_rf (by decide)) (by decide)) (by decide)), (fr_tr fr_rf h_7 (by decide))⟩

set_option maxHeartbeats 1000000 in
set_option maxRecDepth 20000 in
theorem t_fX8_ruleForWork {z_t : Sx} {B_t_2 : Nat → Option Nat} {z_t_5 : Sx} {z_t_5_0 : Sx} {x1 : Int32} : okP (fX8_ruleForWork z_t B_t_2 z_t_5 z_t_5_0 x1) (fun _ => True) := by
  unfold fX8_ruleForWork
  refine ok_jn ?_
  refine ok_jn ?_
  refine ok_ite (fun c_1 => ?_) (fun c_1 => ?_)
  · skip
    have c_1i : x1.toInt < 0 := bI_lt rfl (show (0 : Int32).toInt = 0 by decide) c_1
    refine ok_ite (fun c_2 => ?_) (fun c_2 => ?_)
    · skip
      have c_2i : 0 = 0 := bI_eq (show (0 : Int32).toInt = 0 by decide) (show (0 : Int32).toInt = 0 by decide) c_2
      exact ok_some trivial
    · skip
      have c_2i : 0 ≠ 0 := bI_neq (show (0 : Int32).toInt = 0 by decide) (show (0 : Int32).toInt = 0 by decide) c_2
      exact absurd (by decide) c_2
  · skip
    have c_1i : x1.toInt ≥ 0 := bI_nlt rfl (show (0 : Int32).toInt = 0 by decide) c_1
    refine ok_ite (fun c_3 => ?_) (fun c_3 => ?_)
    · skip
      have c_3i : (gI z_t 3).toInt ≤ x1.toInt := bI_le rfl rfl c_3
      refine ok_ite (fun c_4 => ?_) (fun c_4 => ?_)
      · skip
        have c_4i : 0 = 0 := bI_eq (show (0 : Int32).toInt = 0 by decide) (show (0 : Int32).toInt = 0 by decide) c_4
        exact ok_some trivial
      · skip
        have c_4i : 0 ≠ 0 := bI_neq (show (0 : Int32).toInt = 0 by decide) (show (0 : Int32).toInt = 0 by decide) c_4
        exact absurd (by decide) c_4
    · skip
      have c_3i : (gI z_t 3).toInt > x1.toInt := bI_nle rfl rfl c_3
      refine ok_ite (fun c_5 => ?_) (fun c_5 => ?_)
      · skip
        have c_5i : 6 ≤ x1.toInt := bI_le (show (6 : Int32).toInt = 6 by decide) rfl c_5
        refine ok_ite (fun c_6 => ?_) (fun c_6 => ?_)
        · skip
          have c_6i : 0 = 0 := bI_eq (show (0 : Int32).toInt = 0 by decide) (show (0 : Int32).toInt = 0 by decide) c_6
          exact ok_some trivial
        · skip
          have c_6i : 0 ≠ 0 := bI_neq (show (0 : Int32).toInt = 0 by decide) (show (0 : Int32).toInt = 0 by decide) c_6
          exact absurd (by decide) c_6
      · skip
        have c_5i : 6 > x1.toInt := bI_nle (show (6 : Int32).toInt = 6 by decide) rfl c_5
        refine ok_bd (t_fX8_hasWork) (fun r10 q_7 => ?_)
        have h_8 : r10 = 0 ∨ r10 = 1 := q_7
        refine ok_ite (fun c_9 => ?_) (fun c_9 => ?_)
        · skip
          have c_9i : r10.toInt = 0 := bI_eq rfl (show (0 : Int32).toInt = 0 by decide) c_9
          refine ok_ite (fun c_10 => ?_) (fun c_10 => ?_)
          · skip
            have c_10i : 0 = 0 := bI_eq (show (0 : Int32).toInt = 0 by decide) (show (0 : Int32).toInt = 0 by decide) c_10
            exact ok_some trivial
          · skip
            have c_10i : 0 ≠ 0 := bI_neq (show (0 : Int32).toInt = 0 by decide) (show (0 : Int32).toInt = 0 by decide) c_10
            exact absurd (by decide) c_10
        · skip
          have c_9i : r10.toInt ≠ 0 := bI_neq rfl (show (0 : Int32).toInt = 0 by decide) c_9
          refine ok_ite (fun c_11 => ?_) (fun c_11 => ?_)
          · skip
            have c_11i : 1 = 0 := bI_eq (show (1 : Int32).toInt = 1 by decide) (show (0 : Int32).toInt = 0 by decide) c_11
            exact absurd c_11 (by decide)
          · skip
            have c_11i : 1 ≠ 0 := bI_neq (show (1 : Int32).toInt = 1 by decide) (show (0 : Int32).toInt = 0 by decide) c_11
            refine ok_gd (inb_of (by omega) (by omega)) ?_
            exact ok_some trivial

set_option maxHeartbeats 1000000 in
set_option maxRecDepth 20000 in
theorem t_fX8_day_none {z_t : Sx} {B_t_2 : Nat → Option Nat} {z_t_5 : Sx} {z_t_5_0 : Sx} {x1 : Int32} : okP (fX8_day_none z_t B_t_2 z_t_5 z_t_5_0 x1) (fun _ => True) := by
  unfold fX8_day_none
  refine ok_bd (t_fX8_ruleForWork) (fun r2 q_1 => ?_)
  exact ok_some trivial

set_option maxHeartbeats 1000000 in
set_option maxRecDepth 20000 in
theorem t_fX8_day_some {z_t : Sx} {B_t_2 : Nat → Option Nat} {z_t_5 : Sx} {z_t_5_0 : Sx} {z_t_5_1 : Sx} {z_t_9 : Sx} {nc_R : Nat} {z_R : Sx} {x1 : Int32} (hnnc_R : nc_R < 2147483648) : okP (fX8_day_some z_t B_t_2 z_t_5 z_t_5_0 z_t_5_1 z_t_9 nc_R z_R x1) (fun y => (FrL [0, 1, 2, 4, 5] z_t_5_1 y.2.1) ∧ (FrL [0] z_t_9 y.2.2)) := by
  unfold fX8_day_some
  refine ok_bd (t_fX8_ruleForWork) (fun r2 q_1 => ?_)
  refine ok_bd3 (t_fX2_play (by first | assumption | omega | decide)) (fun r4 z5 z6 q_2 => ?_)
  have h_3 : FrL [0] z_t_9 z5 := q_2.1
  have h_4 : FrL [0, 1, 2, 4, 5] z_t_5_1 z6 := q_2.2
  exact ok_some ⟨(fr_tr fr_rf h_4 (by decide)), (fr_tr fr_rf h_3 (by decide))⟩

set_option maxHeartbeats 1000000 in
set_option maxRecDepth 20000 in
theorem t_fX8_end {z_t : Sx} {x1 : Int32} : okP (fX8_end z_t x1) (fun y => (FrL [1] z_t y.2)) := by
  unfold fX8_end
  refine ok_ite (fun c_1 => ?_) (fun c_1 => ?_)
  · skip
    have c_1i : x1.toInt < 0 := bI_lt rfl (show (0 : Int32).toInt = 0 by decide) c_1
    exact ok_some fr_rf
  · skip
    have c_1i : x1.toInt ≥ 0 := bI_nlt rfl (show (0 : Int32).toInt = 0 by decide) c_1
    refine ok_ite (fun c_2 => ?_) (fun c_2 => ?_)
    · skip
      have c_2i : x1.toInt ≤ (gI z_t 1).toInt := bI_le rfl rfl c_2
      exact ok_some (fr_I fr_rf (by decide))
    · skip
      have c_2i : x1.toInt > (gI z_t 1).toInt := bI_nle rfl rfl c_2
      exact ok_some fr_rf

set_option maxHeartbeats 1000000 in
set_option maxRecDepth 20000 in
theorem t_fX8_isFault {z_t : Sx} {z_t_5 : Sx} {z_t_5_0 : Sx} {x1 : Int32} : okP (fX8_isFault z_t z_t_5 z_t_5_0 x1) (fun y => (y = 0 ∨ y = 1)) := by
  unfold fX8_isFault
  refine ok_ite (fun c_1 => ?_) (fun c_1 => ?_)
  · skip
    have c_1i : x1.toInt < 0 := bI_lt rfl (show (0 : Int32).toInt = 0 by decide) c_1
    exact ok_some (Or.inl rfl)
  · skip
    have c_1i : x1.toInt ≥ 0 := bI_nlt rfl (show (0 : Int32).toInt = 0 by decide) c_1
    refine ok_ite (fun c_2 => ?_) (fun c_2 => ?_)
    · skip
      have c_2i : (gI z_t_5_0 3).toInt ≤ x1.toInt := bI_le rfl rfl c_2
      exact ok_some (Or.inl rfl)
    · skip
      have c_2i : (gI z_t_5_0 3).toInt > x1.toInt := bI_nle rfl rfl c_2
      exact ok_some (Or.inr rfl)

set_option maxHeartbeats 1000000 in
set_option maxRecDepth 20000 in
theorem t_fX8_fault {z_t : Sx} {z_t_5 : Sx} {z_t_5_0 : Sx} {z_t_5_1 : Sx} {x1 : Int32} {x2 : Int32} : okP (fX8_fault z_t z_t_5 z_t_5_0 z_t_5_1 x1 x2) (fun _ => True) := by
  unfold fX8_fault
  refine ok_bd (t_fX8_isFault) (fun r2 q_1 => ?_)
  have h_2 : r2 = 0 ∨ r2 = 1 := q_1
  refine ok_ite (fun c_3 => ?_) (fun c_3 => ?_)
  · skip
    have c_3i : r2.toInt = 0 := bI_eq rfl (show (0 : Int32).toInt = 0 by decide) c_3
    exact ok_some trivial
  · skip
    have c_3i : r2.toInt ≠ 0 := bI_neq rfl (show (0 : Int32).toInt = 0 by decide) c_3
    refine ok_ite (fun c_4 => ?_) (fun c_4 => ?_)
    · skip
      have c_4i : x2.toInt = 0 := bI_eq rfl (show (0 : Int32).toInt = 0 by decide) c_4
      refine ok_bd (t_fX8_at (by first | assumption | omega | decide)) (fun r6 q_5 => ?_)
      exact ok_some trivial
    · skip
      have c_4i : x2.toInt ≠ 0 := bI_neq rfl (show (0 : Int32).toInt = 0 by decide) c_4
      refine ok_ite (fun c_6 => ?_) (fun c_6 => ?_)
      · skip
        have c_6i : x2.toInt = 1 := bI_eq rfl (show (1 : Int32).toInt = 1 by decide) c_6
        refine ok_bd (t_fX8_at (by first | assumption | omega | decide)) (fun r8 q_7 => ?_)
        exact ok_some trivial
      · skip
        have c_6i : x2.toInt ≠ 1 := bI_neq rfl (show (1 : Int32).toInt = 1 by decide) c_6
        refine ok_ite (fun c_8 => ?_) (fun c_8 => ?_)
        · skip
          have c_8i : x2.toInt = 2 := bI_eq rfl (show (2 : Int32).toInt = 2 by decide) c_8
          refine ok_bd (t_fX8_at (by first | assumption | omega | decide)) (fun r10 q_9 => ?_)
          exact ok_some trivial
        · skip
          have c_8i : x2.toInt ≠ 2 := bI_neq rfl (show (2 : Int32).toInt = 2 by decide) c_8
          refine ok_ite (fun c_10 => ?_) (fun c_10 => ?_)
          · skip
            have c_10i : x2.toInt = 3 := bI_eq rfl (show (3 : Int32).toInt = 3 by decide) c_10
            refine ok_bd (t_fX8_at (by first | assumption | omega | decide)) (fun r12 q_11 => ?_)
            exact ok_some trivial
          · skip
            have c_10i : x2.toInt ≠ 3 := bI_neq rfl (show (3 : Int32).toInt = 3 by decide) c_10
            refine ok_ite (fun c_12 => ?_) (fun c_12 => ?_)
            · skip
              have c_12i : x2.toInt = 4 := bI_eq rfl (show (4 : Int32).toInt = 4 by decide) c_12
              refine ok_bd (t_fX8_has) (fun r14 q_13 => ?_)
              have h_14 : r14 = 0 ∨ r14 = 1 := q_13
              refine ok_ite (fun c_15 => ?_) (fun c_15 => ?_)
              · skip
                have c_15i : r14.toInt = 0 := bI_eq rfl (show (0 : Int32).toInt = 0 by decide) c_15
                refine ok_bd (t_fX8_has) (fun r17 q_16 => ?_)
                have h_17 : r17 = 0 ∨ r17 = 1 := q_16
                refine ok_ite (fun c_18 => ?_) (fun c_18 => ?_)
                · skip
                  have c_18i : r17.toInt = 0 := bI_eq rfl (show (0 : Int32).toInt = 0 by decide) c_18
                  exact ok_some trivial
                · skip
                  have c_18i : r17.toInt ≠ 0 := bI_neq rfl (show (0 : Int32).toInt = 0 by decide) c_18
                  exact ok_some trivial
              · skip
                have c_15i : r14.toInt ≠ 0 := bI_neq rfl (show (0 : Int32).toInt = 0 by decide) c_15
                exact ok_some trivial
            · skip
              have c_12i : x2.toInt ≠ 4 := bI_neq rfl (show (4 : Int32).toInt = 4 by decide) c_12
              refine ok_ite (fun c_19 => ?_) (fun c_19 => ?_)
              · skip
                have c_19i : x2.toInt = 5 := bI_eq rfl (show (5 : Int32).toInt = 5 by decide) c_19
                refine ok_bd (t_fX8_at (by first | assumption | omega | decide)) (fun r20 q_20 => ?_)
                exact ok_some trivial
              · skip
                have c_19i : x2.toInt ≠ 5 := bI_neq rfl (show (5 : Int32).toInt = 5 by decide) c_19
                refine ok_ite (fun c_21 => ?_) (fun c_21 => ?_)
                · skip
                  have c_21i : x2.toInt = 6 := bI_eq rfl (show (6 : Int32).toInt = 6 by decide) c_21
                  refine ok_bd (t_fX0_gone) (fun r22 q_22 => ?_)
                  refine ok_bd (t_fX7_isOpen) (fun r24 q_23 => ?_)
                  have h_24 : r24 = 0 ∨ r24 = 1 := q_23
                  refine ok_ite (fun c_25 => ?_) (fun c_25 => ?_)
                  · skip
                    have c_25i : r24.toInt = 0 := bI_eq rfl (show (0 : Int32).toInt = 0 by decide) c_25
                    exact ok_some trivial
                  · skip
                    have c_25i : r24.toInt ≠ 0 := bI_neq rfl (show (0 : Int32).toInt = 0 by decide) c_25
                    exact ok_some trivial
                · skip
                  have c_21i : x2.toInt ≠ 6 := bI_neq rfl (show (6 : Int32).toInt = 6 by decide) c_21
                  exact ok_some trivial

set_option maxHeartbeats 1000000 in
set_option maxRecDepth 20000 in
theorem tl_lX8_putBytes_3 {o_z_t : Sx} {x1 : Int32} : ∀ (n : Nat) (z_t : Sx) (x2 : Int32), (FrL [0, 1] o_z_t z_t) → (x2.toInt + 8).toNat < n → okP (lX8_putBytes_3 x1 n z_t x2) (fun y => (FrL [0, 1] o_z_t y)) := by
  intro n
  induction n with
  | zero => intro _ _ _ hm; omega
  | succ n ih =>
    intro z_t x2 frz_t hm
    rw [lX8_putBytes_3]
    refine ok_ite (fun c_1 => ?_) (fun c_1 => ?_)
    · skip
      have c_1i : x2.toInt < 0 := bI_lt rfl (show (0 : Int32).toInt = 0 by decide) c_1
      exact ok_some frz_t
    · skip
      have c_1i : x2.toInt ≥ 0 := bI_nlt rfl (show (0 : Int32).toInt = 0 by decide) c_1
      refine ok_bd (t_fX8_put (by first | assumption | omega | decide)) (fun z3 q_2 => ?_)
      have e_3 : (x2 + (-8)).toInt = (x2.toInt + (-8)) := (i32_add rfl (show (-8 : Int32).toInt = -8 by decide) (by omega) (by omega))
      exact ih (sI (sTf z_t 0 z3) 1 ((gI z_t 1) + 1)) (x2 + (-8)) (fr_I (fr_Tf frz_t (by decide)) (by decide)) (by omega)
set_option maxHeartbeats 1000000 in
set_option maxRecDepth 20000 in
theorem t_fX8_putBytes {z_t : Sx} {x1 : Int32} : okP (fX8_putBytes z_t x1) (fun y => (FrL [0, 1] z_t y)) := by
  unfold fX8_putBytes
  have e_1 : (24 : Int32).toInt = 24 := (show (24 : Int32).toInt = 24 by decide)
  refine tl_lX8_putBytes_3  FU z_t 24 fr_rf (FU_lt (by omega))

set_option maxHeartbeats 1000000 in
set_option maxRecDepth 20000 in
theorem t_fX8_feed {z_t : Sx} {x1 : Int32} {x2 : Int32} {x3 : Int32} {x4 : Int32} {x5 : Int32} : okP (fX8_feed z_t x1 x2 x3 x4 x5) (fun y => (FrL [0, 1] z_t y.2)) := by
  unfold fX8_feed
  refine ok_ite (fun c_1 => ?_) (fun c_1 => ?_)
  · skip
    try have c_1i : ((gI z_t 1).toInt + 20) ≤ 400 := bI_le (i32_add rfl (show (20 : Int32).toInt = 20 by decide) (by omega) (by omega)) (show (400 : Int32).toInt = 400 by decide) c_1
    refine ok_bd (t_fX8_putBytes) (fun z3 q_2 => ?_)
    have h_3 : FrL [0, 1] z_t z3 := q_2
    refine ok_bd (t_fX8_putBytes) (fun z5 q_4 => ?_)
    have h_5 : FrL [0, 1] z3 z5 := q_4
    refine ok_bd (t_fX8_putBytes) (fun z7 q_6 => ?_)
    have h_7 : FrL [0, 1] z5 z7 := q_6
    refine ok_bd (t_fX8_putBytes) (fun z9 q_8 => ?_)
    have h_9 : FrL [0, 1] z7 z9 := q_8
    refine ok_bd (t_fX8_putBytes) (fun z11 q_10 => ?_)
    have h_11 : FrL [0, 1] z9 z11 := q_10
    exact ok_some (fr_tr (fr_tr (fr_tr (fr_tr (fr_tr fr_rf h_3 (by decide)) h_5 (by decide)) h_7 (by decide)) h_9 (by decide)) h_11 (by decide))
  · skip
    try have c_1i : ((gI z_t 1).toInt + 20) > 400 := bI_nle (i32_add rfl (show (20 : Int32).toInt = 20 by decide) (by omega) (by omega)) (show (400 : Int32).toInt = 400 by decide) c_1
    exact ok_some fr_rf

set_option maxHeartbeats 1000000 in
set_option maxRecDepth 20000 in
theorem t_fX8_fine {z_t : Sx} {z_t_5 : Sx} {z_t_5_0 : Sx} {z_t_5_1 : Sx} {x1 : Int32} : okP (fX8_fine z_t z_t_5 z_t_5_0 z_t_5_1 x1) (fun y => (FrL [1] z_t_5_1 y.2)) := by
  unfold fX8_fine
  refine ok_bd (t_fX8_hasWork) (fun r2 q_1 => ?_)
  have h_2 : r2 = 0 ∨ r2 = 1 := q_1
  refine ok_ite (fun c_3 => ?_) (fun c_3 => ?_)
  · skip
    have c_3i : r2.toInt = 0 := bI_eq rfl (show (0 : Int32).toInt = 0 by decide) c_3
    exact ok_some fr_rf
  · skip
    have c_3i : r2.toInt ≠ 0 := bI_neq rfl (show (0 : Int32).toInt = 0 by decide) c_3
    refine ok_ite (fun c_4 => ?_) (fun c_4 => ?_)
    · skip
      have c_4i : x1.toInt < 0 := bI_lt rfl (show (0 : Int32).toInt = 0 by decide) c_4
      exact ok_some fr_rf
    · skip
      have c_4i : x1.toInt ≥ 0 := bI_nlt rfl (show (0 : Int32).toInt = 0 by decide) c_4
      refine ok_ite (fun c_5 => ?_) (fun c_5 => ?_)
      · skip
        have c_5i : x1.toInt ≤ 999 := bI_le rfl (show (999 : Int32).toInt = 999 by decide) c_5
        exact ok_some (fr_I fr_rf (by decide))
      · skip
        have c_5i : x1.toInt > 999 := bI_nle rfl (show (999 : Int32).toInt = 999 by decide) c_5
        exact ok_some fr_rf

set_option maxHeartbeats 1000000 in
set_option maxRecDepth 20000 in
theorem tl_lX8_fits_57 {k127 : Int32 → Int32 → Int32 → Option (Int32)} {z_t : Sx} {z_t_5 : Sx} {z_t_5_0 : Sx} {z_t_5_1 : Sx} {x1 : Int32} {x2 : Int32} {x3 : Int32} (Hk127 : ∀ (y0 : Int32) (y1 : Int32) (y2 : Int32), okP (k127 y0 y1 y2) (fun _ => True)) (h3 : x3.toInt < 1024) : ∀ (n : Nat) (x4 : Int32) (x5 : Int32) (x6 : Int32) (x7 : Int32), (x3.toInt + 1 - x7.toInt).toNat < n → okP (lX8_fits_57 k127 z_t z_t_5 z_t_5_0 z_t_5_1 x1 x2 x3 n x4 x5 x6 x7) (fun _ => True) := by
  intro n
  induction n with
  | zero => intro _ _ _ _ hm; omega
  | succ n ih =>
    intro x4 x5 x6 x7 hm
    rw [lX8_fits_57]
    refine ok_ite (fun c_1 => ?_) (fun c_1 => ?_)
    · skip
      have c_1i : x3.toInt < x7.toInt := bI_lt rfl rfl c_1
      exact Hk127 x4 x5 x6 
    · skip
      have c_1i : x3.toInt ≥ x7.toInt := bI_nlt rfl rfl c_1
      refine ok_bd (t_fX7_payOf) (fun r12 q_2 => ?_)
      refine ok_jn ?_
      refine ok_ite (fun c_3 => ?_) (fun c_3 => ?_)
      · skip
        have c_3i : r12.toInt = x1.toInt := bI_eq rfl rfl c_3
        refine ok_bd (t_fX7_couldBeFound) (fun r19 q_4 => ?_)
        have h_5 : r19 = 0 ∨ r19 = 1 := q_4
        refine ok_ite (fun c_6 => ?_) (fun c_6 => ?_)
        · skip
          have c_6i : r19.toInt = 0 := bI_eq rfl (show (0 : Int32).toInt = 0 by decide) c_6
          have e_7 : (x7 + 1).toInt = (x7.toInt + 1) := (i32_add rfl (show (1 : Int32).toInt = 1 by decide) (by omega) (by omega))
          exact ih x4 x5 x6 (x7 + 1)  (by omega)
        · skip
          have c_6i : r19.toInt ≠ 0 := bI_neq rfl (show (0 : Int32).toInt = 0 by decide) c_6
          have e_8 : (x4 + 1).toInt = (x4.toInt + 1) := (i32_add rfl (show (1 : Int32).toInt = 1 by decide) (by omega) (by omega))
          have e_9 : (x7 + 1).toInt = (x7.toInt + 1) := (i32_add rfl (show (1 : Int32).toInt = 1 by decide) (by omega) (by omega))
          exact ih (x4 + 1) (x5 &&& x7) (x6 ||| x7) (x7 + 1)  (by omega)
      · skip
        have c_3i : r12.toInt ≠ x1.toInt := bI_neq rfl rfl c_3
        have e_10 : (x7 + 1).toInt = (x7.toInt + 1) := (i32_add rfl (show (1 : Int32).toInt = 1 by decide) (by omega) (by omega))
        exact ih x4 x5 x6 (x7 + 1)  (by omega)
set_option maxHeartbeats 1000000 in
set_option maxRecDepth 20000 in
theorem t_fX8_fits {z_t : Sx} {z_t_5 : Sx} {z_t_5_0 : Sx} {z_t_5_1 : Sx} {x1 : Int32} {x2 : Int32} (hf : 0 ≤ (gI z_t_5_0 3).toInt ∧ (gI z_t_5_0 3).toInt ≤ 10) : okP (fX8_fits z_t z_t_5 z_t_5_0 z_t_5_1 x1 x2) (fun _ => True) := by
  unfold fX8_fits
  refine ok_bd (t_fX8_hasWork) (fun r2 q_1 => ?_)
  have h_2 : r2 = 0 ∨ r2 = 1 := q_1
  refine ok_ite (fun c_3 => ?_) (fun c_3 => ?_)
  · skip
    have c_3i : r2.toInt = 0 := bI_eq rfl (show (0 : Int32).toInt = 0 by decide) c_3
    exact ok_some trivial
  · skip
    have c_3i : r2.toInt ≠ 0 := bI_neq rfl (show (0 : Int32).toInt = 0 by decide) c_3
    refine ok_ite (fun c_4 => ?_) (fun c_4 => ?_)
    · skip
      have c_4i : x1.toInt < 0 := bI_lt rfl (show (0 : Int32).toInt = 0 by decide) c_4
      exact ok_some trivial
    · skip
      have c_4i : x1.toInt ≥ 0 := bI_nlt rfl (show (0 : Int32).toInt = 0 by decide) c_4
      refine ok_ite (fun c_5 => ?_) (fun c_5 => ?_)
      · skip
        have c_5i : 9999 < x1.toInt := bI_lt (show (9999 : Int32).toInt = 9999 by decide) rfl c_5
        exact ok_some trivial
      · skip
        have c_5i : 9999 ≥ x1.toInt := bI_nlt (show (9999 : Int32).toInt = 9999 by decide) rfl c_5
        refine ok_ite (fun c_6 => ?_) (fun c_6 => ?_)
        · skip
          have c_6i : x2.toInt < 0 := bI_lt rfl (show (0 : Int32).toInt = 0 by decide) c_6
          exact ok_some trivial
        · skip
          have c_6i : x2.toInt ≥ 0 := bI_nlt rfl (show (0 : Int32).toInt = 0 by decide) c_6
          refine ok_ite (fun c_7 => ?_) (fun c_7 => ?_)
          · skip
            have c_7i : x2.toInt ≤ 2 := bI_le rfl (show (2 : Int32).toInt = 2 by decide) c_7
            refine ok_bd (t_fX8_bit) (fun r9 q_8 => ?_)
            have h_9 : r9 = (1 : Int32) <<< ((gI z_t_5_0 3) &&& 31) := q_8
            have hs := shl_rng (x := gI z_t_5_0 3) (by omega) (by omega)
            have hs2 : 1 ≤ r9.toInt ∧ r9.toInt ≤ 1024 := by rw [h_9]; omega
            have e_10 : (0 : Int32).toInt = 0 := (show (0 : Int32).toInt = 0 by decide)
            have e_11 : (r9 - 1).toInt = (r9.toInt - 1) := (i32_sub rfl (show (1 : Int32).toInt = 1 by decide) (by omega) (by omega))
            refine tl_lX8_fits_57 (fun i21 i22 i23 => ?_) (by first | assumption | omega | decide) FU 0 (r9 - 1) 0 0  (FU_lt (by have := n_rng (r9 - 1); have := n_rng (r9 - 1); omega))
            · skip
              refine ok_ite (fun c_12 => ?_) (fun c_12 => ?_)
              · skip
                have c_12i : x2.toInt = 0 := bI_eq rfl (show (0 : Int32).toInt = 0 by decide) c_12
                exact ok_some trivial
              · skip
                have c_12i : x2.toInt ≠ 0 := bI_neq rfl (show (0 : Int32).toInt = 0 by decide) c_12
                refine ok_ite (fun c_13 => ?_) (fun c_13 => ?_)
                · skip
                  have c_13i : i21.toInt = 0 := bI_eq rfl (show (0 : Int32).toInt = 0 by decide) c_13
                  exact ok_some trivial
                · skip
                  have c_13i : i21.toInt ≠ 0 := bI_neq rfl (show (0 : Int32).toInt = 0 by decide) c_13
                  refine ok_ite (fun c_14 => ?_) (fun c_14 => ?_)
                  · skip
                    have c_14i : x2.toInt = 1 := bI_eq rfl (show (1 : Int32).toInt = 1 by decide) c_14
                    exact ok_some trivial
                  · skip
                    have c_14i : x2.toInt ≠ 1 := bI_neq rfl (show (1 : Int32).toInt = 1 by decide) c_14
                    exact ok_some trivial
          · skip
            have c_7i : x2.toInt > 2 := bI_nle rfl (show (2 : Int32).toInt = 2 by decide) c_7
            exact ok_some trivial

set_option maxHeartbeats 1000000 in
set_option maxRecDepth 20000 in
theorem t_fX8_game {z_t : Sx} {z_t_5 : Sx} {x1 : Int32} {x2 : Int32} : okP (fX8_game z_t z_t_5 x1 x2) (fun y => (FrL [7] z_t_5 y.2)) := by
  unfold fX8_game
  refine ok_ite (fun c_1 => ?_) (fun c_1 => ?_)
  · skip
    have c_1i : x1.toInt < 0 := bI_lt rfl (show (0 : Int32).toInt = 0 by decide) c_1
    exact ok_some fr_rf
  · skip
    have c_1i : x1.toInt ≥ 0 := bI_nlt rfl (show (0 : Int32).toInt = 0 by decide) c_1
    refine ok_ite (fun c_2 => ?_) (fun c_2 => ?_)
    · skip
      have c_2i : 8 ≤ x1.toInt := bI_le (show (8 : Int32).toInt = 8 by decide) rfl c_2
      exact ok_some fr_rf
    · skip
      have c_2i : 8 > x1.toInt := bI_nle (show (8 : Int32).toInt = 8 by decide) rfl c_2
      refine ok_ite (fun c_3 => ?_) (fun c_3 => ?_)
      · skip
        have c_3i : x2.toInt < (-99) := bI_lt rfl (show (-99 : Int32).toInt = -99 by decide) c_3
        exact ok_some fr_rf
      · skip
        have c_3i : x2.toInt ≥ (-99) := bI_nlt rfl (show (-99 : Int32).toInt = -99 by decide) c_3
        refine ok_ite (fun c_4 => ?_) (fun c_4 => ?_)
        · skip
          have c_4i : x2.toInt ≤ 99 := bI_le rfl (show (99 : Int32).toInt = 99 by decide) c_4
          refine ok_gd (inb_of (by omega) (by omega)) ?_
          exact ok_some (fr_T fr_rf (by decide))
        · skip
          have c_4i : x2.toInt > 99 := bI_nle rfl (show (99 : Int32).toInt = 99 by decide) c_4
          exact ok_some fr_rf

set_option maxHeartbeats 1000000 in
set_option maxRecDepth 20000 in
theorem t_fX8_image_none {z_t : Sx} {z_t_5 : Sx} {z_t_5_1 : Sx} {B_t_6 : Nat → Option Nat} {x1 : Int32} : okP (fX8_image_none z_t z_t_5 z_t_5_1 B_t_6 x1) (fun _ => True) := by
  unfold fX8_image_none
  refine ok_ite (fun c_1 => ?_) (fun c_1 => ?_)
  · skip
    have c_1i : x1.toInt < 0 := bI_lt rfl (show (0 : Int32).toInt = 0 by decide) c_1
    exfalso; omega
  · skip
    have c_1i : x1.toInt ≥ 0 := bI_nlt rfl (show (0 : Int32).toInt = 0 by decide) c_1
    refine ok_ite (fun c_2 => ?_) (fun c_2 => ?_)
    · skip
      have c_2i : x1.toInt < 4 := bI_lt rfl (show (4 : Int32).toInt = 4 by decide) c_2
      refine ok_gd (inb_of (by omega) (by omega)) ?_
      refine ok_gd (inb_of (by omega) (by omega)) ?_
      refine ok_bd2 (t_fX5_copyFrom) (fun z6 z7 q_3 => ?_)
      have h_4 : FrL [2, 3, 4, 5, 6, 7] Z0 z6 := q_3.1
      have h_5 : FrL [0, 1, 2, 3, 4, 5] Z0 z7 := q_3.2
      exact ok_some trivial
    · skip
      have c_2i : x1.toInt ≥ 4 := bI_nlt rfl (show (4 : Int32).toInt = 4 by decide) c_2
      exfalso; omega

set_option maxHeartbeats 1000000 in
set_option maxRecDepth 20000 in
theorem t_fX8_image_some {z_t : Sx} {z_t_5 : Sx} {z_t_5_1 : Sx} {B_t_6 : Nat → Option Nat} {z_R : Sx} {z_R_1 : Sx} {x1 : Int32} : okP (fX8_image_some z_t z_t_5 z_t_5_1 B_t_6 z_R z_R_1 x1) (fun y => (FrL [2, 3, 4, 5, 6, 7] z_R y.2.1) ∧ (FrL [0, 1, 2, 3, 4, 5] z_R_1 y.2.2)) := by
  unfold fX8_image_some
  refine ok_ite (fun c_1 => ?_) (fun c_1 => ?_)
  · skip
    have c_1i : x1.toInt < 0 := bI_lt rfl (show (0 : Int32).toInt = 0 by decide) c_1
    exfalso; omega
  · skip
    have c_1i : x1.toInt ≥ 0 := bI_nlt rfl (show (0 : Int32).toInt = 0 by decide) c_1
    refine ok_ite (fun c_2 => ?_) (fun c_2 => ?_)
    · skip
      have c_2i : x1.toInt < 4 := bI_lt rfl (show (4 : Int32).toInt = 4 by decide) c_2
      refine ok_gd (inb_of (by omega) (by omega)) ?_
      refine ok_bd2 (t_fX5_copyFrom) (fun z5 z6 q_3 => ?_)
      have h_4 : FrL [2, 3, 4, 5, 6, 7] z_R z5 := q_3.1
      have h_5 : FrL [0, 1, 2, 3, 4, 5] z_R_1 z6 := q_3.2
      exact ok_some ⟨(fr_tr fr_rf h_4 (by decide)), (fr_tr fr_rf h_5 (by decide))⟩
    · skip
      have c_2i : x1.toInt ≥ 4 := bI_nlt rfl (show (4 : Int32).toInt = 4 by decide) c_2
      exfalso; omega

set_option maxHeartbeats 1000000 in
set_option maxRecDepth 20000 in
theorem t_fX8_kind {z_t : Sx} {z_t_5 : Sx} {z_t_5_0 : Sx} {x1 : Int32} {x2 : Int32} : okP (fX8_kind z_t z_t_5 z_t_5_0 x1 x2) (fun _ => True) := by
  unfold fX8_kind
  refine ok_ite (fun c_1 => ?_) (fun c_1 => ?_)
  · skip
    have c_1i : x1.toInt < 0 := bI_lt rfl (show (0 : Int32).toInt = 0 by decide) c_1
    exact ok_some trivial
  · skip
    have c_1i : x1.toInt ≥ 0 := bI_nlt rfl (show (0 : Int32).toInt = 0 by decide) c_1
    refine ok_ite (fun c_2 => ?_) (fun c_2 => ?_)
    · skip
      have c_2i : x1.toInt < (gI z_t_5_0 2).toInt := bI_lt rfl rfl c_2
      refine ok_ite (fun c_3 => ?_) (fun c_3 => ?_)
      · skip
        have c_3i : x2.toInt = 0 := bI_eq rfl (show (0 : Int32).toInt = 0 by decide) c_3
        refine ok_bd (t_fX8_at (by first | assumption | omega | decide)) (fun r5 q_4 => ?_)
        exact ok_some trivial
      · skip
        have c_3i : x2.toInt ≠ 0 := bI_neq rfl (show (0 : Int32).toInt = 0 by decide) c_3
        refine ok_ite (fun c_5 => ?_) (fun c_5 => ?_)
        · skip
          have c_5i : x2.toInt = 1 := bI_eq rfl (show (1 : Int32).toInt = 1 by decide) c_5
          refine ok_bd (t_fX8_at (by first | assumption | omega | decide)) (fun r7 q_6 => ?_)
          exact ok_some trivial
        · skip
          have c_5i : x2.toInt ≠ 1 := bI_neq rfl (show (1 : Int32).toInt = 1 by decide) c_5
          refine ok_ite (fun c_7 => ?_) (fun c_7 => ?_)
          · skip
            have c_7i : x2.toInt = 2 := bI_eq rfl (show (2 : Int32).toInt = 2 by decide) c_7
            refine ok_bd (t_fX8_at (by first | assumption | omega | decide)) (fun r9 q_8 => ?_)
            exact ok_some trivial
          · skip
            have c_7i : x2.toInt ≠ 2 := bI_neq rfl (show (2 : Int32).toInt = 2 by decide) c_7
            exact ok_some trivial
    · skip
      have c_2i : x1.toInt ≥ (gI z_t_5_0 2).toInt := bI_nlt rfl rfl c_2
      exact ok_some trivial

set_option maxHeartbeats 1000000 in
set_option maxRecDepth 20000 in
theorem t_fX8_look {z_t : Sx} {z_t_5 : Sx} {z_t_5_0 : Sx} {z_t_5_1 : Sx} {x1 : Int32} : okP (fX8_look z_t z_t_5 z_t_5_0 z_t_5_1 x1) (fun y => (FrL [0, 1, 2, 4, 5] z_t_5_1 y.2)) := by
  unfold fX8_look
  refine ok_bd (t_fX8_isFault) (fun r2 q_1 => ?_)
  have h_2 : r2 = 0 ∨ r2 = 1 := q_1
  refine ok_ite (fun c_3 => ?_) (fun c_3 => ?_)
  · skip
    have c_3i : r2.toInt = 0 := bI_eq rfl (show (0 : Int32).toInt = 0 by decide) c_3
    exact ok_some fr_rf
  · skip
    have c_3i : r2.toInt ≠ 0 := bI_neq rfl (show (0 : Int32).toInt = 0 by decide) c_3
    refine ok_bd (t_fX0_gone) (fun r5 q_4 => ?_)
    refine ok_bd (t_fX7_isOpen) (fun r7 q_5 => ?_)
    have h_6 : r7 = 0 ∨ r7 = 1 := q_5
    refine ok_ite (fun c_7 => ?_) (fun c_7 => ?_)
    · skip
      have c_7i : r7.toInt = 0 := bI_eq rfl (show (0 : Int32).toInt = 0 by decide) c_7
      exact ok_some fr_rf
    · skip
      have c_7i : r7.toInt ≠ 0 := bI_neq rfl (show (0 : Int32).toInt = 0 by decide) c_7
      refine ok_bd (t_fX8_at (by first | assumption | omega | decide)) (fun r10 q_8 => ?_)
      refine ok_ite (fun c_9 => ?_) (fun c_9 => ?_)
      · skip
        have c_9i : r10.toInt ≤ (gI z_t_5_1 0).toInt := bI_le rfl rfl c_9
        refine ok_bd2 (t_fX0_lookFor) (fun r13 z14 q_10 => ?_)
        have h_11 : r13 = 0 ∨ r13 = 1 := q_10.1
        have h_12 : FrL [0, 1, 2, 4, 5] z_t_5_1 z14 := q_10.2
        refine ok_ite (fun c_13 => ?_) (fun c_13 => ?_)
        · skip
          have c_13i : r13.toInt = 0 := bI_eq rfl (show (0 : Int32).toInt = 0 by decide) c_13
          exact ok_some (fr_tr fr_rf h_12 (by decide))
        · skip
          have c_13i : r13.toInt ≠ 0 := bI_neq rfl (show (0 : Int32).toInt = 0 by decide) c_13
          exact ok_some (fr_tr fr_rf h_12 (by decide))
      · skip
        have c_9i : r10.toInt > (gI z_t_5_1 0).toInt := bI_nle rfl rfl c_9
        exact ok_some fr_rf

set_option maxHeartbeats 1000000 in
set_option maxRecDepth 20000 in
theorem t_fX8_master {z_t : Sx} {z_t_5 : Sx} {z_t_5_0 : Sx} {z_t_5_1 : Sx} {z_t_10 : Sx} {x1 : Int32} {x2 : Int32} (hf : (gI z_t_5_0 3).toInt ≤ 10) : okP (fX8_master z_t z_t_5 z_t_5_0 z_t_5_1 z_t_10 x1 x2) (fun y => (FrL [0, 1, 2, 3] z_t_10 y.2)) := by
  unfold fX8_master
  refine ok_bd (t_fX8_hasWork) (fun r2 q_1 => ?_)
  have h_2 : r2 = 0 ∨ r2 = 1 := q_1
  refine ok_ite (fun c_3 => ?_) (fun c_3 => ?_)
  · skip
    have c_3i : r2.toInt = 0 := bI_eq rfl (show (0 : Int32).toInt = 0 by decide) c_3
    exact ok_some fr_rf
  · skip
    have c_3i : r2.toInt ≠ 0 := bI_neq rfl (show (0 : Int32).toInt = 0 by decide) c_3
    refine ok_ite (fun c_4 => ?_) (fun c_4 => ?_)
    · skip
      have c_4i : x1.toInt < 0 := bI_lt rfl (show (0 : Int32).toInt = 0 by decide) c_4
      exact ok_some fr_rf
    · skip
      have c_4i : x1.toInt ≥ 0 := bI_nlt rfl (show (0 : Int32).toInt = 0 by decide) c_4
      refine ok_ite (fun c_5 => ?_) (fun c_5 => ?_)
      · skip
        have c_5i : 4 < x1.toInt := bI_lt (show (4 : Int32).toInt = 4 by decide) rfl c_5
        exact ok_some fr_rf
      · skip
        have c_5i : 4 ≥ x1.toInt := bI_nlt (show (4 : Int32).toInt = 4 by decide) rfl c_5
        refine ok_ite (fun c_6 => ?_) (fun c_6 => ?_)
        · skip
          have c_6i : x2.toInt < 0 := bI_lt rfl (show (0 : Int32).toInt = 0 by decide) c_6
          exact ok_some fr_rf
        · skip
          have c_6i : x2.toInt ≥ 0 := bI_nlt rfl (show (0 : Int32).toInt = 0 by decide) c_6
          refine ok_ite (fun c_7 => ?_) (fun c_7 => ?_)
          · skip
            have c_7i : x2.toInt ≤ 2 := bI_le rfl (show (2 : Int32).toInt = 2 by decide) c_7
            refine ok_bd (t_fX0_gone) (fun r9 q_8 => ?_)
            refine ok_bd (t_fX1_weighSets (by first | assumption | omega | decide) (by first | assumption | omega | decide)) (fun z11 q_9 => ?_)
            have h_10 : FrL [0, 1, 2, 3] z_t_10 z11 := q_9
            refine ok_ite (fun c_11 => ?_) (fun c_11 => ?_)
            · skip
              have c_11i : x2.toInt = 2 := bI_eq rfl (show (2 : Int32).toInt = 2 by decide) c_11
              exact ok_some (fr_tr fr_rf h_10 (by decide))
            · skip
              have c_11i : x2.toInt ≠ 2 := bI_neq rfl (show (2 : Int32).toInt = 2 by decide) c_11
              refine ok_bd (t_fX8_hundreds) (fun r14 q_12 => ?_)
              refine ok_bd (t_fX8_partOf) (fun r16 q_13 => ?_)
              exact ok_some (fr_tr fr_rf h_10 (by decide))
          · skip
            have c_7i : x2.toInt > 2 := bI_nle rfl (show (2 : Int32).toInt = 2 by decide) c_7
            exact ok_some fr_rf

set_option maxHeartbeats 1000000 in
set_option maxRecDepth 20000 in
theorem t_fX8_mend {z_t : Sx} {z_t_5 : Sx} {z_t_5_0 : Sx} {z_t_5_1 : Sx} {x1 : Int32} : okP (fX8_mend z_t z_t_5 z_t_5_0 z_t_5_1 x1) (fun y => (FrL [2] z_t_5 y.2.1) ∧ (FrL [3] z_t_5_1 y.2.2)) := by
  unfold fX8_mend
  refine ok_bd (t_fX8_isFault) (fun r2 q_1 => ?_)
  have h_2 : r2 = 0 ∨ r2 = 1 := q_1
  refine ok_ite (fun c_3 => ?_) (fun c_3 => ?_)
  · skip
    have c_3i : r2.toInt = 0 := bI_eq rfl (show (0 : Int32).toInt = 0 by decide) c_3
    exact ok_some ⟨fr_rf, fr_rf⟩
  · skip
    have c_3i : r2.toInt ≠ 0 := bI_neq rfl (show (0 : Int32).toInt = 0 by decide) c_3
    refine ok_bd (t_fX0_gone) (fun r5 q_4 => ?_)
    refine ok_bd (t_fX8_has) (fun r7 q_5 => ?_)
    have h_6 : r7 = 0 ∨ r7 = 1 := q_5
    refine ok_ite (fun c_7 => ?_) (fun c_7 => ?_)
    · skip
      have c_7i : r7.toInt = 0 := bI_eq rfl (show (0 : Int32).toInt = 0 by decide) c_7
      refine ok_bd (t_fX8_bit) (fun r10 q_8 => ?_)
      have h_9 : r10 = (1 : Int32) <<< (x1 &&& 31) := q_8
      refine ok_bd (t_fX8_at (by first | assumption | omega | decide)) (fun r12 q_10 => ?_)
      exact ok_some ⟨(fr_I fr_rf (by decide)), (fr_I fr_rf (by decide))⟩
    · skip
      have c_7i : r7.toInt ≠ 0 := bI_neq rfl (show (0 : Int32).toInt = 0 by decide) c_7
      exact ok_some ⟨fr_rf, fr_rf⟩

set_option maxHeartbeats 1000000 in
set_option maxRecDepth 20000 in
theorem tl_lX8_rests_4 {z_t : Sx} {z_t_5 : Sx} : ∀ (n : Nat) (x1 : Int32) (x2 : Int32), (4 + 0 - x2.toInt).toNat < n → okP (lX8_rests_4 z_t z_t_5 n x1 x2) (fun _ => True) := by
  intro n
  induction n with
  | zero => intro _ _ hm; omega
  | succ n ih =>
    intro x1 x2 hm
    rw [lX8_rests_4]
    refine ok_ite (fun c_1 => ?_) (fun c_1 => ?_)
    · skip
      have c_1i : 4 ≤ x2.toInt := bI_le (show (4 : Int32).toInt = 4 by decide) rfl c_1
      exact ok_some trivial
    · skip
      have c_1i : 4 > x2.toInt := bI_nle (show (4 : Int32).toInt = 4 by decide) rfl c_1
      refine ok_bd (t_fX8_at (by first | assumption | omega | decide)) (fun r3 q_2 => ?_)
      refine ok_bd (t_fX8_at (by first | assumption | omega | decide)) (fun r5 q_3 => ?_)
      refine ok_jn ?_
      refine ok_ite (fun c_4 => ?_) (fun c_4 => ?_)
      · skip
        have c_4i : r3.toInt < r5.toInt := bI_lt rfl rfl c_4
        refine ok_bd (t_fX8_at (by first | assumption | omega | decide)) (fun r9 q_5 => ?_)
        refine ok_bd (t_fX8_at (by first | assumption | omega | decide)) (fun r11 q_6 => ?_)
        refine ok_jn ?_
        refine ok_ite (fun c_7 => ?_) (fun c_7 => ?_)
        · skip
          have c_7i : r9.toInt < r11.toInt := bI_lt rfl rfl c_7
          refine ok_jn ?_
          refine ok_ite (fun c_8 => ?_) (fun c_8 => ?_)
          · skip
            have c_8i : 0 = 0 := bI_eq (show (0 : Int32).toInt = 0 by decide) (show (0 : Int32).toInt = 0 by decide) c_8
            have e_9 : (x2 + 1).toInt = (x2.toInt + 1) := (i32_add rfl (show (1 : Int32).toInt = 1 by decide) (by omega) (by omega))
            exact ih x1 (x2 + 1)  (by omega)
          · skip
            have c_8i : 0 ≠ 0 := bI_neq (show (0 : Int32).toInt = 0 by decide) (show (0 : Int32).toInt = 0 by decide) c_8
            exact absurd (by decide) c_8
        · skip
          have c_7i : r9.toInt ≥ r11.toInt := bI_nlt rfl rfl c_7
          refine ok_jn ?_
          refine ok_ite (fun c_10 => ?_) (fun c_10 => ?_)
          · skip
            have c_10i : 0 = 0 := bI_eq (show (0 : Int32).toInt = 0 by decide) (show (0 : Int32).toInt = 0 by decide) c_10
            have e_11 : (x2 + 1).toInt = (x2.toInt + 1) := (i32_add rfl (show (1 : Int32).toInt = 1 by decide) (by omega) (by omega))
            exact ih x1 (x2 + 1)  (by omega)
          · skip
            have c_10i : 0 ≠ 0 := bI_neq (show (0 : Int32).toInt = 0 by decide) (show (0 : Int32).toInt = 0 by decide) c_10
            exact absurd (by decide) c_10
      · skip
        have c_4i : r3.toInt ≥ r5.toInt := bI_nlt rfl rfl c_4
        refine ok_bd (t_fX8_at (by first | assumption | omega | decide)) (fun r9 q_12 => ?_)
        refine ok_bd (t_fX8_at (by first | assumption | omega | decide)) (fun r11 q_13 => ?_)
        refine ok_jn ?_
        refine ok_ite (fun c_14 => ?_) (fun c_14 => ?_)
        · skip
          have c_14i : r9.toInt < r11.toInt := bI_lt rfl rfl c_14
          refine ok_jn ?_
          refine ok_ite (fun c_15 => ?_) (fun c_15 => ?_)
          · skip
            have c_15i : 1 = 0 := bI_eq (show (1 : Int32).toInt = 1 by decide) (show (0 : Int32).toInt = 0 by decide) c_15
            exact absurd c_15 (by decide)
          · skip
            have c_15i : 1 ≠ 0 := bI_neq (show (1 : Int32).toInt = 1 by decide) (show (0 : Int32).toInt = 0 by decide) c_15
            refine ok_ite (fun c_16 => ?_) (fun c_16 => ?_)
            · skip
              have c_16i : 0 = 0 := bI_eq (show (0 : Int32).toInt = 0 by decide) (show (0 : Int32).toInt = 0 by decide) c_16
              have e_17 : (x2 + 1).toInt = (x2.toInt + 1) := (i32_add rfl (show (1 : Int32).toInt = 1 by decide) (by omega) (by omega))
              exact ih x1 (x2 + 1)  (by omega)
            · skip
              have c_16i : 0 ≠ 0 := bI_neq (show (0 : Int32).toInt = 0 by decide) (show (0 : Int32).toInt = 0 by decide) c_16
              exact absurd (by decide) c_16
        · skip
          have c_14i : r9.toInt ≥ r11.toInt := bI_nlt rfl rfl c_14
          refine ok_jn ?_
          refine ok_ite (fun c_18 => ?_) (fun c_18 => ?_)
          · skip
            have c_18i : 1 = 0 := bI_eq (show (1 : Int32).toInt = 1 by decide) (show (0 : Int32).toInt = 0 by decide) c_18
            exact absurd c_18 (by decide)
          · skip
            have c_18i : 1 ≠ 0 := bI_neq (show (1 : Int32).toInt = 1 by decide) (show (0 : Int32).toInt = 0 by decide) c_18
            refine ok_ite (fun c_19 => ?_) (fun c_19 => ?_)
            · skip
              have c_19i : 1 = 0 := bI_eq (show (1 : Int32).toInt = 1 by decide) (show (0 : Int32).toInt = 0 by decide) c_19
              exact absurd c_19 (by decide)
            · skip
              have c_19i : 1 ≠ 0 := bI_neq (show (1 : Int32).toInt = 1 by decide) (show (0 : Int32).toInt = 0 by decide) c_19
              have e_20 : (x2 + 1).toInt = (x2.toInt + 1) := (i32_add rfl (show (1 : Int32).toInt = 1 by decide) (by omega) (by omega))
              exact ih (x1 ||| ((1 : Int32) <<< (x2 &&& 31))) (x2 + 1)  (by omega)
set_option maxHeartbeats 1000000 in
set_option maxRecDepth 20000 in
theorem t_fX8_rests {z_t : Sx} {z_t_5 : Sx} : okP (fX8_rests z_t z_t_5) (fun _ => True) := by
  unfold fX8_rests
  have e_1 : (0 : Int32).toInt = 0 := (show (0 : Int32).toInt = 0 by decide)
  refine tl_lX8_rests_4  FU 0 0  (FU_lt (by omega))

set_option maxHeartbeats 1000000 in
set_option maxRecDepth 20000 in
theorem t_fX8_mixed {z_t : Sx} {z_t_5 : Sx} {x1 : Int32} {x2 : Int32} : okP (fX8_mixed z_t z_t_5 x1 x2) (fun _ => True) := by
  unfold fX8_mixed
  refine ok_ite (fun c_1 => ?_) (fun c_1 => ?_)
  · skip
    have c_1i : x1.toInt < 0 := bI_lt rfl (show (0 : Int32).toInt = 0 by decide) c_1
    exact ok_some trivial
  · skip
    have c_1i : x1.toInt ≥ 0 := bI_nlt rfl (show (0 : Int32).toInt = 0 by decide) c_1
    refine ok_ite (fun c_2 => ?_) (fun c_2 => ?_)
    · skip
      have c_2i : 1 < x1.toInt := bI_lt (show (1 : Int32).toInt = 1 by decide) rfl c_2
      exact ok_some trivial
    · skip
      have c_2i : 1 ≥ x1.toInt := bI_nlt (show (1 : Int32).toInt = 1 by decide) rfl c_2
      refine ok_ite (fun c_3 => ?_) (fun c_3 => ?_)
      · skip
        have c_3i : x2.toInt < 0 := bI_lt rfl (show (0 : Int32).toInt = 0 by decide) c_3
        exact ok_some trivial
      · skip
        have c_3i : x2.toInt ≥ 0 := bI_nlt rfl (show (0 : Int32).toInt = 0 by decide) c_3
        refine ok_ite (fun c_4 => ?_) (fun c_4 => ?_)
        · skip
          have c_4i : x2.toInt ≤ 1 := bI_le rfl (show (1 : Int32).toInt = 1 by decide) c_4
          refine ok_bd (t_fX8_rests) (fun r6 q_5 => ?_)
          refine ok_ite (fun c_6 => ?_) (fun c_6 => ?_)
          · skip
            have c_6i : r6.toInt = 0 := bI_eq rfl (show (0 : Int32).toInt = 0 by decide) c_6
            refine ok_jn ?_
            refine ok_ite (fun c_7 => ?_) (fun c_7 => ?_)
            · skip
              have c_7i : x1.toInt = 0 := bI_eq rfl (show (0 : Int32).toInt = 0 by decide) c_7
              refine ok_bd (t_fX8_at (by first | assumption | omega | decide)) (fun r32 q_8 => ?_)
              refine ok_bd (t_fX8_at (by first | assumption | omega | decide)) (fun r34 q_9 => ?_)
              refine ok_jn ?_
              refine ok_ite (fun c_10 => ?_) (fun c_10 => ?_)
              · skip
                have c_10i : x1.toInt = 0 := bI_eq rfl (show (0 : Int32).toInt = 0 by decide) c_10
                refine ok_bd (t_fX8_at (by first | assumption | omega | decide)) (fun r23 q_11 => ?_)
                refine ok_bd (t_fX8_at (by first | assumption | omega | decide)) (fun r25 q_12 => ?_)
                refine ok_jn ?_
                refine ok_ite (fun c_13 => ?_) (fun c_13 => ?_)
                · skip
                  try have c_13i : 0 ≤ ((r32.toInt - r34.toInt) + (r23.toInt - r25.toInt)) := bI_le (show (0 : Int32).toInt = 0 by decide) (i32_add (i32_sub rfl rfl (by omega) (by omega)) (i32_sub rfl rfl (by omega) (by omega)) (by omega) (by omega)) c_13
                  refine ok_bd (t_fX8_partOf) (fun r15 q_14 => ?_)
                  exact ok_some trivial
                · skip
                  try have c_13i : 0 > ((r32.toInt - r34.toInt) + (r23.toInt - r25.toInt)) := bI_nle (show (0 : Int32).toInt = 0 by decide) (i32_add (i32_sub rfl rfl (by omega) (by omega)) (i32_sub rfl rfl (by omega) (by omega)) (by omega) (by omega)) c_13
                  refine ok_bd (t_fX8_partOf) (fun r15 q_15 => ?_)
                  exact ok_some trivial
              · skip
                have c_10i : x1.toInt ≠ 0 := bI_neq rfl (show (0 : Int32).toInt = 0 by decide) c_10
                refine ok_bd (t_fX8_at (by first | assumption | omega | decide)) (fun r19 q_16 => ?_)
                refine ok_bd (t_fX8_at (by first | assumption | omega | decide)) (fun r21 q_17 => ?_)
                refine ok_jn ?_
                refine ok_ite (fun c_18 => ?_) (fun c_18 => ?_)
                · skip
                  try have c_18i : 0 ≤ ((r32.toInt - r34.toInt) + (r19.toInt - r21.toInt)) := bI_le (show (0 : Int32).toInt = 0 by decide) (i32_add (i32_sub rfl rfl (by omega) (by omega)) (i32_sub rfl rfl (by omega) (by omega)) (by omega) (by omega)) c_18
                  refine ok_bd (t_fX8_partOf) (fun r15 q_19 => ?_)
                  exact ok_some trivial
                · skip
                  try have c_18i : 0 > ((r32.toInt - r34.toInt) + (r19.toInt - r21.toInt)) := bI_nle (show (0 : Int32).toInt = 0 by decide) (i32_add (i32_sub rfl rfl (by omega) (by omega)) (i32_sub rfl rfl (by omega) (by omega)) (by omega) (by omega)) c_18
                  refine ok_bd (t_fX8_partOf) (fun r15 q_20 => ?_)
                  exact ok_some trivial
            · skip
              have c_7i : x1.toInt ≠ 0 := bI_neq rfl (show (0 : Int32).toInt = 0 by decide) c_7
              refine ok_bd (t_fX8_at (by first | assumption | omega | decide)) (fun r28 q_21 => ?_)
              refine ok_bd (t_fX8_at (by first | assumption | omega | decide)) (fun r30 q_22 => ?_)
              refine ok_jn ?_
              refine ok_ite (fun c_23 => ?_) (fun c_23 => ?_)
              · skip
                have c_23i : x1.toInt = 0 := bI_eq rfl (show (0 : Int32).toInt = 0 by decide) c_23
                refine ok_bd (t_fX8_at (by first | assumption | omega | decide)) (fun r23 q_24 => ?_)
                refine ok_bd (t_fX8_at (by first | assumption | omega | decide)) (fun r25 q_25 => ?_)
                refine ok_jn ?_
                refine ok_ite (fun c_26 => ?_) (fun c_26 => ?_)
                · skip
                  try have c_26i : 0 ≤ ((r28.toInt - r30.toInt) + (r23.toInt - r25.toInt)) := bI_le (show (0 : Int32).toInt = 0 by decide) (i32_add (i32_sub rfl rfl (by omega) (by omega)) (i32_sub rfl rfl (by omega) (by omega)) (by omega) (by omega)) c_26
                  refine ok_bd (t_fX8_partOf) (fun r15 q_27 => ?_)
                  exact ok_some trivial
                · skip
                  try have c_26i : 0 > ((r28.toInt - r30.toInt) + (r23.toInt - r25.toInt)) := bI_nle (show (0 : Int32).toInt = 0 by decide) (i32_add (i32_sub rfl rfl (by omega) (by omega)) (i32_sub rfl rfl (by omega) (by omega)) (by omega) (by omega)) c_26
                  refine ok_bd (t_fX8_partOf) (fun r15 q_28 => ?_)
                  exact ok_some trivial
              · skip
                have c_23i : x1.toInt ≠ 0 := bI_neq rfl (show (0 : Int32).toInt = 0 by decide) c_23
                refine ok_bd (t_fX8_at (by first | assumption | omega | decide)) (fun r19 q_29 => ?_)
                refine ok_bd (t_fX8_at (by first | assumption | omega | decide)) (fun r21 q_30 => ?_)
                refine ok_jn ?_
                refine ok_ite (fun c_31 => ?_) (fun c_31 => ?_)
                · skip
                  try have c_31i : 0 ≤ ((r28.toInt - r30.toInt) + (r19.toInt - r21.toInt)) := bI_le (show (0 : Int32).toInt = 0 by decide) (i32_add (i32_sub rfl rfl (by omega) (by omega)) (i32_sub rfl rfl (by omega) (by omega)) (by omega) (by omega)) c_31
                  refine ok_bd (t_fX8_partOf) (fun r15 q_32 => ?_)
                  exact ok_some trivial
                · skip
                  try have c_31i : 0 > ((r28.toInt - r30.toInt) + (r19.toInt - r21.toInt)) := bI_nle (show (0 : Int32).toInt = 0 by decide) (i32_add (i32_sub rfl rfl (by omega) (by omega)) (i32_sub rfl rfl (by omega) (by omega)) (by omega) (by omega)) c_31
                  refine ok_bd (t_fX8_partOf) (fun r15 q_33 => ?_)
                  exact ok_some trivial
          · skip
            have c_6i : r6.toInt ≠ 0 := bI_neq rfl (show (0 : Int32).toInt = 0 by decide) c_6
            exact ok_some trivial
        · skip
          have c_4i : x2.toInt > 1 := bI_nle rfl (show (1 : Int32).toInt = 1 by decide) c_4
          exact ok_some trivial

set_option maxHeartbeats 1000000 in
set_option maxRecDepth 20000 in
theorem t_fX8_row {z_t : Sx} {z_t_5 : Sx} {z_t_5_0 : Sx} {x1 : Int32} : okP (fX8_row z_t z_t_5 z_t_5_0 x1) (fun y => (FrL [5, 6] z_t_5 y.2)) := by
  unfold fX8_row
  refine ok_ite (fun c_1 => ?_) (fun c_1 => ?_)
  · skip
    have c_1i : x1.toInt = (-1) := bI_eq rfl (show (-1 : Int32).toInt = -1 by decide) c_1
    exact ok_some (fr_I fr_rf (by decide))
  · skip
    have c_1i : x1.toInt ≠ (-1) := bI_neq rfl (show (-1 : Int32).toInt = -1 by decide) c_1
    refine ok_bd (t_fX8_isFault) (fun r3 q_2 => ?_)
    have h_3 : r3 = 0 ∨ r3 = 1 := q_2
    refine ok_ite (fun c_4 => ?_) (fun c_4 => ?_)
    · skip
      have c_4i : r3.toInt = 0 := bI_eq rfl (show (0 : Int32).toInt = 0 by decide) c_4
      exact ok_some fr_rf
    · skip
      have c_4i : r3.toInt ≠ 0 := bI_neq rfl (show (0 : Int32).toInt = 0 by decide) c_4
      refine ok_ite (fun c_5 => ?_) (fun c_5 => ?_)
      · skip
        have c_5i : (gI z_t_5 6).toInt < 8 := bI_lt rfl (show (8 : Int32).toInt = 8 by decide) c_5
        refine ok_bd (t_fX8_put (by first | assumption | omega | decide)) (fun z7 q_6 => ?_)
        exact ok_some (fr_I (fr_Tf fr_rf (by decide)) (by decide))
      · skip
        have c_5i : (gI z_t_5 6).toInt ≥ 8 := bI_nlt rfl (show (8 : Int32).toInt = 8 by decide) c_5
        exact ok_some fr_rf

set_option maxHeartbeats 1000000 in
set_option maxRecDepth 20000 in
theorem t_gX8_rowMean {rec : Sx → Sx → Sx → Int32 → Int32 → Int32 → Int32 → Option (Int64)} {z_t : Sx} {z_t_5 : Sx} {z_t_5_0 : Sx} {x1 : Int32} {x2 : Int32} {x3 : Int32} {x4 : Int32} {d : Nat} (hrec : ∀ (z_t : Sx) (z_t_5 : Sx) (z_t_5_0 : Sx) (x1 : Int32) (x2 : Int32) (x3 : Int32) (x4 : Int32), (0 ≤ x1.toInt ∧ x1.toInt ≤ 8 ∧ 9 ≤ x1.toInt + d) → okP (rec z_t z_t_5 z_t_5_0 x1 x2 x3 x4) (fun _ => True)) (d0 : 0 ≤ x1.toInt ∧ x1.toInt ≤ 8 ∧ 9 ≤ x1.toInt + d + 1) : okP (gX8_rowMean rec z_t z_t_5 z_t_5_0 x1 x2 x3 x4) (fun _ => True) := by
  unfold gX8_rowMean
  refine ok_ite (fun c_1 => ?_) (fun c_1 => ?_)
  · skip
    have c_1i : (gI z_t_5 6).toInt ≤ x1.toInt := bI_le rfl rfl c_1
    exact ok_some trivial
  · skip
    have c_1i : (gI z_t_5 6).toInt > x1.toInt := bI_nle rfl rfl c_1
    refine ok_ite (fun c_2 => ?_) (fun c_2 => ?_)
    · skip
      have c_2i : x1.toInt < 8 := bI_lt rfl (show (8 : Int32).toInt = 8 by decide) c_2
      refine ok_bd (t_fX8_at (by first | assumption | omega | decide)) (fun r4 q_3 => ?_)
      refine ok_bd (t_fX8_at (by first | assumption | omega | decide)) (fun r6 q_4 => ?_)
      refine ok_bd (t_fX7_isOpen) (fun r8 q_5 => ?_)
      have h_6 : r8 = 0 ∨ r8 = 1 := q_5
      refine ok_jn ?_
      refine ok_ite (fun c_7 => ?_) (fun c_7 => ?_)
      · skip
        have c_7i : r8.toInt = 0 := bI_eq rfl (show (0 : Int32).toInt = 0 by decide) c_7
        refine ok_bd (hrec _ _ _ _ _ _ _ (by first | assumption | omega | decide)) (fun r11 q_8 => ?_)
        exact ok_some trivial
      · skip
        have c_7i : r8.toInt ≠ 0 := bI_neq rfl (show (0 : Int32).toInt = 0 by decide) c_7
        refine ok_ite (fun c_9 => ?_) (fun c_9 => ?_)
        · skip
          have c_9i : r6.toInt ≤ x3.toInt := bI_le rfl rfl c_9
          refine ok_bd (t_fX8_at (by first | assumption | omega | decide)) (fun r15 q_10 => ?_)
          refine ok_jn ?_
          refine ok_ite (fun c_11 => ?_) (fun c_11 => ?_)
          · skip
            have c_11i : x4.toInt = (-1) := bI_eq rfl (show (-1 : Int32).toInt = -1 by decide) c_11
            refine ok_bd (t_fX8_at (by first | assumption | omega | decide)) (fun r29 q_12 => ?_)
            refine ok_bd (t_fX8_hundreds) (fun r19 q_13 => ?_)
            refine ok_bd (t_fX8_bit) (fun r21 q_14 => ?_)
            have h_15 : r21 = (1 : Int32) <<< (r4 &&& 31) := q_14
            refine ok_bd (hrec _ _ _ _ _ _ _ (by first | assumption | omega | decide)) (fun r23 q_16 => ?_)
            refine ok_bd (hrec _ _ _ _ _ _ _ (by first | assumption | omega | decide)) (fun r25 q_17 => ?_)
            exact ok_some trivial
          · skip
            have c_11i : x4.toInt ≠ (-1) := bI_neq rfl (show (-1 : Int32).toInt = -1 by decide) c_11
            refine ok_ite (fun c_18 => ?_) (fun c_18 => ?_)
            · skip
              have c_18i : r4.toInt = x4.toInt := bI_eq rfl rfl c_18
              refine ok_bd (t_fX8_hundreds) (fun r19 q_19 => ?_)
              refine ok_bd (t_fX8_bit) (fun r21 q_20 => ?_)
              have h_21 : r21 = (1 : Int32) <<< (r4 &&& 31) := q_20
              refine ok_bd (hrec _ _ _ _ _ _ _ (by first | assumption | omega | decide)) (fun r23 q_22 => ?_)
              refine ok_bd (hrec _ _ _ _ _ _ _ (by first | assumption | omega | decide)) (fun r25 q_23 => ?_)
              exact ok_some trivial
            · skip
              have c_18i : r4.toInt ≠ x4.toInt := bI_neq rfl rfl c_18
              refine ok_bd (t_fX8_hundreds) (fun r19 q_24 => ?_)
              refine ok_bd (t_fX8_bit) (fun r21 q_25 => ?_)
              have h_26 : r21 = (1 : Int32) <<< (r4 &&& 31) := q_25
              refine ok_bd (hrec _ _ _ _ _ _ _ (by first | assumption | omega | decide)) (fun r23 q_27 => ?_)
              refine ok_bd (hrec _ _ _ _ _ _ _ (by first | assumption | omega | decide)) (fun r25 q_28 => ?_)
              exact ok_some trivial
        · skip
          have c_9i : r6.toInt > x3.toInt := bI_nle rfl rfl c_9
          refine ok_bd (hrec _ _ _ _ _ _ _ (by first | assumption | omega | decide)) (fun r11 q_29 => ?_)
          exact ok_some trivial
    · skip
      have c_2i : x1.toInt ≥ 8 := bI_nlt rfl (show (8 : Int32).toInt = 8 by decide) c_2
      exact ok_some trivial

set_option maxHeartbeats 1000000 in
set_option maxRecDepth 20000 in
theorem t_fX8_rowMean : ∀ (dp : Nat) (z_t : Sx) (z_t_5 : Sx) (z_t_5_0 : Sx) (x1 : Int32) (x2 : Int32) (x3 : Int32) (x4 : Int32), (0 ≤ x1.toInt ∧ x1.toInt ≤ 8 ∧ 9 ≤ x1.toInt + dp) → okP (fX8_rowMean dp z_t z_t_5 z_t_5_0 x1 x2 x3 x4) (fun _ => True) := by
  intro dp
  induction dp with
  | zero => intro z_t z_t_5 z_t_5_0 x1 x2 x3 x4 d0; exfalso; omega
  | succ dp ih =>
    intro z_t z_t_5 z_t_5_0 x1 x2 x3 x4 d0
    exact t_gX8_rowMean (d := dp) (fun z_t z_t_5 z_t_5_0 x1 x2 x3 x4 d0 => ih z_t z_t_5 z_t_5_0 x1 x2 x3 x4 (by omega)) (by omega)

set_option maxHeartbeats 1000000 in
set_option maxRecDepth 20000 in
theorem tl_lX8_rule_57 {o_z_t : Sx} {o_z_t_8 : Sx} {o_z_t_8_0 : Sx} {k85 : Sx → Sx → Sx → Option (Int32 × Sx × Sx × Sx)} {B_t_2 : Nat → Option Nat} (Hk85 : ∀ (y0 : Sx) (y1 : Sx) (y2 : Sx), (FrL [1, 3] o_z_t y0) → (FrL [1, 2, 3, 4, 5, 6, 7] o_z_t_8 y1) → (FrL [0, 1, 2, 3, 4, 5, 6, 7, 8] o_z_t_8_0 y2) → okP (k85 y0 y1 y2) (fun y => (FrL [1, 3] o_z_t y.2.1) ∧ (FrL [1, 2, 3, 4, 5, 6, 7] o_z_t_8 y.2.2.1) ∧ (FrL [0, 1, 2, 3, 4, 5, 6, 7, 8] o_z_t_8_0 y.2.2.2))) : ∀ (n : Nat) (z_t : Sx) (z_t_8 : Sx) (z_t_8_0 : Sx) (x2 : Int32) (x3 : Int32), (FrL [1, 3] o_z_t z_t) → (FrL [1, 2, 3, 4, 5, 6, 7] o_z_t_8 z_t_8) → (FrL [0, 1, 2, 3, 4, 5, 6, 7, 8] o_z_t_8_0 z_t_8_0) → (12 + 1 - x3.toInt).toNat < n → okP (lX8_rule_57 k85 B_t_2 n z_t z_t_8 z_t_8_0 x2 x3) (fun y => (FrL [1, 3] o_z_t y.2.1) ∧ (FrL [1, 2, 3, 4, 5, 6, 7] o_z_t_8 y.2.2.1) ∧ (FrL [0, 1, 2, 3, 4, 5, 6, 7, 8] o_z_t_8_0 y.2.2.2)) := by
  intro n
  induction n with
  | zero => intro _ _ _ _ _ _ _ _ hm; omega
  | succ n ih =>
    intro z_t z_t_8 z_t_8_0 x2 x3 frz_t frz_t_8 frz_t_8_0 hm
    rw [lX8_rule_57]
    refine ok_ite (fun c_1 => ?_) (fun c_1 => ?_)
    · skip
      have c_1i : x2.toInt = 0 := bI_eq rfl (show (0 : Int32).toInt = 0 by decide) c_1
      exact Hk85 z_t z_t_8 z_t_8_0 frz_t frz_t_8 frz_t_8_0
    · skip
      have c_1i : x2.toInt ≠ 0 := bI_neq rfl (show (0 : Int32).toInt = 0 by decide) c_1
      refine ok_ite (fun c_2 => ?_) (fun c_2 => ?_)
      · skip
        have c_2i : 12 < x3.toInt := bI_lt (show (12 : Int32).toInt = 12 by decide) rfl c_2
        exact Hk85 z_t z_t_8 z_t_8_0 frz_t frz_t_8 frz_t_8_0
      · skip
        have c_2i : 12 ≥ x3.toInt := bI_nlt (show (12 : Int32).toInt = 12 by decide) rfl c_2
        refine ok_bd2 (t_fX4_readClause) (fun z10 z11 q_3 => ?_)
        have h_4 : FrL [1, 2, 3, 4, 5, 6, 7] z_t_8 z10 := q_3.1
        have h_5 : FrL [4, 5, 6, 7, 8] z_t_8_0 z11 := q_3.2
        refine ok_bd2 (t_fX6_anotherClause) (fun r13 z14 q_6 => ?_)
        have h_7 : r13 = 0 ∨ r13 = 1 := q_6.1
        have h_8 : FrL [4, 5, 6, 7, 8] z11 z14 := q_6.2
        have e_9 : (x3 + 1).toInt = (x3.toInt + 1) := (i32_add rfl (show (1 : Int32).toInt = 1 by decide) (by omega) (by omega))
        exact ih z_t z10 z14 r13 (x3 + 1) frz_t (fr_tr frz_t_8 h_4 (by decide)) (fr_tr (fr_tr frz_t_8_0 h_5 (by decide)) h_8 (by decide)) (by omega)
set_option maxHeartbeats 1000000 in
set_option maxRecDepth 20000 in
theorem t_fX8_rule {z_t : Sx} {B_t_2 : Nat → Option Nat} {z_t_8 : Sx} {z_t_8_0 : Sx} : okP (fX8_rule z_t B_t_2 z_t_8 z_t_8_0) (fun y => (FrL [1, 3] z_t y.2.1) ∧ (FrL [1, 2, 3, 4, 5, 6, 7] z_t_8 y.2.2.1) ∧ (FrL [0, 1, 2, 3, 4, 5, 6, 7, 8] z_t_8_0 y.2.2.2)) := by
  unfold fX8_rule
  refine ok_ite (fun c_1 => ?_) (fun c_1 => ?_)
  · skip
    have c_1i : (gI z_t 3).toInt < 0 := bI_lt rfl (show (0 : Int32).toInt = 0 by decide) c_1
    exact ok_some ⟨fr_rf, fr_rf, fr_rf⟩
  · skip
    have c_1i : (gI z_t 3).toInt ≥ 0 := bI_nlt rfl (show (0 : Int32).toInt = 0 by decide) c_1
    refine ok_ite (fun c_2 => ?_) (fun c_2 => ?_)
    · skip
      have c_2i : (gI z_t 3).toInt < 6 := bI_lt rfl (show (6 : Int32).toInt = 6 by decide) c_2
      refine ok_bd (t_fX6_open (by first | assumption | omega | decide)) (fun z4 q_3 => ?_)
      have h_4 : FrL [0, 1, 2, 3, 4, 5, 6, 7, 8] z_t_8_0 z4 := q_3
      refine ok_bd (t_fX4_start) (fun z6 q_5 => ?_)
      have h_6 : FrL [2, 3, 4] z_t_8 z6 := q_5
      have e_10 : (1 : Int32).toInt = 1 := (show (1 : Int32).toInt = 1 by decide)
      have e_11 : (0 : Int32).toInt = 0 := (show (0 : Int32).toInt = 0 by decide)
      refine tl_lX8_rule_57 (fun z15 z16 z17 k_7 k_8 k_9 => ?_) FU (sI z_t 1 0) z6 z4 1 0 (fr_I fr_rf (by decide)) (fr_tr fr_rf h_6 (by decide)) (fr_tr fr_rf h_4 (by decide)) (FU_lt (by omega))
      · skip
        refine ok_ite (fun c_12 => ?_) (fun c_12 => ?_)
        · skip
          have c_12i : (gI z17 8).toInt = 0 := bI_eq rfl (show (0 : Int32).toInt = 0 by decide) c_12
          refine ok_gd (inb_of (by omega) (by omega)) ?_
          exact ok_some ⟨(fr_I k_7 (by decide)), k_8, k_9⟩
        · skip
          have c_12i : (gI z17 8).toInt ≠ 0 := bI_neq rfl (show (0 : Int32).toInt = 0 by decide) c_12
          exact ok_some ⟨k_7, k_8, k_9⟩
    · skip
      have c_2i : (gI z_t 3).toInt ≥ 6 := bI_nlt rfl (show (6 : Int32).toInt = 6 by decide) c_2
      exact ok_some ⟨fr_rf, fr_rf, fr_rf⟩

set_option maxHeartbeats 1000000 in
set_option maxRecDepth 20000 in
theorem t_fX8_seed {z_t : Sx} {z_t_5 : Sx} {z_t_5_1 : Sx} {x1 : Int32} : okP (fX8_seed z_t z_t_5 z_t_5_1 x1) (fun y => (FrL [4] z_t_5_1 y.2)) := by
  unfold fX8_seed
  refine ok_ite (fun c_1 => ?_) (fun c_1 => ?_)
  · skip
    have c_1i : 0 ≤ x1.toInt := bI_le (show (0 : Int32).toInt = 0 by decide) rfl c_1
    exact ok_some (fr_I fr_rf (by decide))
  · skip
    have c_1i : 0 > x1.toInt := bI_nle (show (0 : Int32).toInt = 0 by decide) rfl c_1
    exact ok_some fr_rf

set_option maxHeartbeats 1000000 in
set_option maxRecDepth 20000 in
theorem t_fX8_seen {z_t : Sx} {z_t_5 : Sx} {z_t_5_0 : Sx} {z_t_5_1 : Sx} {x1 : Int32} {x2 : Int32} : okP (fX8_seen z_t z_t_5 z_t_5_0 z_t_5_1 x1 x2) (fun _ => True) := by
  unfold fX8_seen
  refine ok_bd (t_fX8_isFault) (fun r2 q_1 => ?_)
  have h_2 : r2 = 0 ∨ r2 = 1 := q_1
  refine ok_ite (fun c_3 => ?_) (fun c_3 => ?_)
  · skip
    have c_3i : r2.toInt = 0 := bI_eq rfl (show (0 : Int32).toInt = 0 by decide) c_3
    exact ok_some trivial
  · skip
    have c_3i : r2.toInt ≠ 0 := bI_neq rfl (show (0 : Int32).toInt = 0 by decide) c_3
    refine ok_ite (fun c_4 => ?_) (fun c_4 => ?_)
    · skip
      have c_4i : x2.toInt < 0 := bI_lt rfl (show (0 : Int32).toInt = 0 by decide) c_4
      exact ok_some trivial
    · skip
      have c_4i : x2.toInt ≥ 0 := bI_nlt rfl (show (0 : Int32).toInt = 0 by decide) c_4
      refine ok_ite (fun c_5 => ?_) (fun c_5 => ?_)
      · skip
        have c_5i : x2.toInt ≤ 1 := bI_le rfl (show (1 : Int32).toInt = 1 by decide) c_5
        refine ok_bd (t_fX8_has) (fun r7 q_6 => ?_)
        have h_7 : r7 = 0 ∨ r7 = 1 := q_6
        refine ok_ite (fun c_8 => ?_) (fun c_8 => ?_)
        · skip
          have c_8i : r7.toInt = 0 := bI_eq rfl (show (0 : Int32).toInt = 0 by decide) c_8
          refine ok_bd (t_fX0_gone) (fun r10 q_9 => ?_)
          refine ok_bd (t_fX8_rowMean _ _ _ _ _ _ _ _ (by first | assumption | omega | decide)) (fun r12 q_10 => ?_)
          refine ok_bd (t_fX8_hundreds) (fun r14 q_11 => ?_)
          refine ok_bd (t_fX8_partOf) (fun r16 q_12 => ?_)
          exact ok_some trivial
        · skip
          have c_8i : r7.toInt ≠ 0 := bI_neq rfl (show (0 : Int32).toInt = 0 by decide) c_8
          exact ok_some trivial
      · skip
        have c_5i : x2.toInt > 1 := bI_nle rfl (show (1 : Int32).toInt = 1 by decide) c_5
        exact ok_some trivial

set_option maxHeartbeats 1000000 in
set_option maxRecDepth 20000 in
theorem t_fX8_weeks_none {z_t : Sx} {B_t_2 : Nat → Option Nat} {z_t_5 : Sx} {z_t_5_0 : Sx} {x1 : Int32} {x2 : Int32} {x3 : Int32} : okP (fX8_weeks_none z_t B_t_2 z_t_5 z_t_5_0 x1 x2 x3) (fun _ => True) := by
  unfold fX8_weeks_none
  refine ok_bd (t_fX8_ruleForWork) (fun r2 q_1 => ?_)
  exact ok_some trivial

set_option maxHeartbeats 1000000 in
set_option maxRecDepth 20000 in
theorem tl_lX8_weeks_some_54 {o_z_t_7 : Sx} {o_z_t_9 : Sx} {z_t : Sx} {B_t_2 : Nat → Option Nat} {z_t_5 : Sx} {z_t_5_0 : Sx} {z_t_5_1 : Sx} {nc_R : Nat} {z_R : Sx} {x2 : Int32} {x3 : Int32} (hnnc_R : nc_R < 2147483648) (hx : 1 ≤ x2.toInt ∧ x2.toInt ≤ 20) : ∀ (n : Nat) (z_t_7 : Sx) (z_t_9 : Sx) (x5 : Int32) (x6 : Int32), (FrL [0, 1, 2, 3, 4, 5] o_z_t_7 z_t_7) → (FrL [0] o_z_t_9 z_t_9) → ((x2.toInt * 6) + 0 - x6.toInt).toNat < n → okP (lX8_weeks_some_54 z_t B_t_2 z_t_5 z_t_5_0 z_t_5_1 nc_R z_R x2 x3 n z_t_7 z_t_9 x5 x6) (fun y => (FrL [0, 1, 2, 3, 4, 5] o_z_t_7 y.2.1) ∧ (FrL [0] o_z_t_9 y.2.2)) := by
  intro n
  induction n with
  | zero => intro _ _ _ _ _ _ hm; omega
  | succ n ih =>
    intro z_t_7 z_t_9 x5 x6 frz_t_7 frz_t_9 hm
    rw [lX8_weeks_some_54]
    refine ok_ite (fun c_1 => ?_) (fun c_1 => ?_)
    · skip
      try have c_1i : (x2.toInt * 6) ≤ x6.toInt := bI_le (i32_mul rfl (show (6 : Int32).toInt = 6 by decide) (by omega) (by omega)) rfl c_1
      exact ok_some ⟨frz_t_7, frz_t_9⟩
    · skip
      try have c_1i : (x2.toInt * 6) > x6.toInt := bI_nle (i32_mul rfl (show (6 : Int32).toInt = 6 by decide) (by omega) (by omega)) rfl c_1
      refine ok_bd (t_fX0_begin) (fun z11 q_2 => ?_)
      have h_3 : FrL [0, 1, 2, 5] z_t_7 z11 := q_2
      refine ok_bd3 (t_fX2_play (by first | assumption | omega | decide)) (fun r13 z14 z15 q_4 => ?_)
      have h_5 : FrL [0] z_t_9 z14 := q_4.1
      have h_6 : FrL [0, 1, 2, 4, 5] z11 z15 := q_4.2
      refine ok_jn ?_
      refine ok_ite (fun c_7 => ?_) (fun c_7 => ?_)
      · skip
        have c_7i : x3.toInt = 0 := bI_eq rfl (show (0 : Int32).toInt = 0 by decide) c_7
        have e_8 : (x5 + (gI z15 1)).toInt = (x5.toInt + (gI z15 1).toInt) := (i32_add rfl rfl (by omega) (by omega))
        have e_9 : (x6 + 1).toInt = (x6.toInt + 1) := (i32_add rfl (show (1 : Int32).toInt = 1 by decide) (by omega) (by omega))
        exact ih z15 z14 (x5 + (gI z15 1)) (x6 + 1) (fr_tr (fr_tr frz_t_7 h_3 (by decide)) h_6 (by decide)) (fr_tr frz_t_9 h_5 (by decide)) (by omega)
      · skip
        have c_7i : x3.toInt ≠ 0 := bI_neq rfl (show (0 : Int32).toInt = 0 by decide) c_7
        refine ok_ite (fun c_10 => ?_) (fun c_10 => ?_)
        · skip
          have c_10i : x3.toInt = 1 := bI_eq rfl (show (1 : Int32).toInt = 1 by decide) c_10
          refine ok_bd (t_fJ6_bitCount_0f7a4) (fun r26 q_11 => ?_)
          have e_12 : (x5 + r26).toInt = (x5.toInt + r26.toInt) := (i32_add rfl rfl (by omega) (by omega))
          have e_13 : (x6 + 1).toInt = (x6.toInt + 1) := (i32_add rfl (show (1 : Int32).toInt = 1 by decide) (by omega) (by omega))
          exact ih z15 z14 (x5 + r26) (x6 + 1) (fr_tr (fr_tr frz_t_7 h_3 (by decide)) h_6 (by decide)) (fr_tr frz_t_9 h_5 (by decide)) (by omega)
        · skip
          have c_10i : x3.toInt ≠ 1 := bI_neq rfl (show (1 : Int32).toInt = 1 by decide) c_10
          refine ok_bd (t_fX0_gone) (fun r22 q_14 => ?_)
          refine ok_bd (t_fX7_hiddenCoins) (fun r24 q_15 => ?_)
          have e_16 : (x5 + r24).toInt = (x5.toInt + r24.toInt) := (i32_add rfl rfl (by omega) (by omega))
          have e_17 : (x6 + 1).toInt = (x6.toInt + 1) := (i32_add rfl (show (1 : Int32).toInt = 1 by decide) (by omega) (by omega))
          exact ih z15 z14 (x5 + r24) (x6 + 1) (fr_tr (fr_tr frz_t_7 h_3 (by decide)) h_6 (by decide)) (fr_tr frz_t_9 h_5 (by decide)) (by omega)
set_option maxHeartbeats 1000000 in
set_option maxRecDepth 20000 in
theorem t_fX8_weeks_some {z_t : Sx} {B_t_2 : Nat → Option Nat} {z_t_5 : Sx} {z_t_5_0 : Sx} {z_t_5_1 : Sx} {z_t_7 : Sx} {z_t_9 : Sx} {nc_R : Nat} {z_R : Sx} {x1 : Int32} {x2 : Int32} {x3 : Int32} (hnnc_R : nc_R < 2147483648) : okP (fX8_weeks_some z_t B_t_2 z_t_5 z_t_5_0 z_t_5_1 z_t_7 z_t_9 nc_R z_R x1 x2 x3) (fun y => (FrL [0, 1, 2, 3, 4, 5] z_t_7 y.2.1) ∧ (FrL [0] z_t_9 y.2.2)) := by
  unfold fX8_weeks_some
  refine ok_bd (t_fX8_ruleForWork) (fun r2 q_1 => ?_)
  refine ok_ite (fun c_2 => ?_) (fun c_2 => ?_)
  · skip
    have c_2i : x2.toInt < 1 := bI_lt rfl (show (1 : Int32).toInt = 1 by decide) c_2
    exact ok_some ⟨fr_rf, fr_rf⟩
  · skip
    have c_2i : x2.toInt ≥ 1 := bI_nlt rfl (show (1 : Int32).toInt = 1 by decide) c_2
    refine ok_ite (fun c_3 => ?_) (fun c_3 => ?_)
    · skip
      have c_3i : 20 < x2.toInt := bI_lt (show (20 : Int32).toInt = 20 by decide) rfl c_3
      exact ok_some ⟨fr_rf, fr_rf⟩
    · skip
      have c_3i : 20 ≥ x2.toInt := bI_nlt (show (20 : Int32).toInt = 20 by decide) rfl c_3
      refine ok_ite (fun c_4 => ?_) (fun c_4 => ?_)
      · skip
        have c_4i : x3.toInt < 0 := bI_lt rfl (show (0 : Int32).toInt = 0 by decide) c_4
        exact ok_some ⟨fr_rf, fr_rf⟩
      · skip
        have c_4i : x3.toInt ≥ 0 := bI_nlt rfl (show (0 : Int32).toInt = 0 by decide) c_4
        refine ok_ite (fun c_5 => ?_) (fun c_5 => ?_)
        · skip
          have c_5i : x3.toInt ≤ 2 := bI_le rfl (show (2 : Int32).toInt = 2 by decide) c_5
          refine ok_bd (t_fX0_copyFrom) (fun z8 q_6 => ?_)
          have h_7 : FrL [0, 1, 2, 3, 4, 5] z_t_7 z8 := q_6
          have e_8 : (0 : Int32).toInt = 0 := (show (0 : Int32).toInt = 0 by decide)
          refine tl_lX8_weeks_some_54 (by first | assumption | omega | decide) (by first | assumption | omega | decide) FU z8 z_t_9 0 0 (fr_tr fr_rf h_7 (by decide)) fr_rf (FU_lt (by omega))
        · skip
          have c_5i : x3.toInt > 2 := bI_nle rfl (show (2 : Int32).toInt = 2 by decide) c_5
          exact ok_some ⟨fr_rf, fr_rf⟩

set_option maxHeartbeats 1000000 in
set_option maxRecDepth 20000 in
theorem t_fX8_worth {z_t : Sx} {z_t_5 : Sx} {z_t_5_0 : Sx} {z_t_5_1 : Sx} {x1 : Int32} : okP (fX8_worth z_t z_t_5 z_t_5_0 z_t_5_1 x1) (fun _ => True) := by
  unfold fX8_worth
  refine ok_bd (t_fX8_hasWork) (fun r2 q_1 => ?_)
  have h_2 : r2 = 0 ∨ r2 = 1 := q_1
  refine ok_ite (fun c_3 => ?_) (fun c_3 => ?_)
  · skip
    have c_3i : r2.toInt = 0 := bI_eq rfl (show (0 : Int32).toInt = 0 by decide) c_3
    exact ok_some trivial
  · skip
    have c_3i : r2.toInt ≠ 0 := bI_neq rfl (show (0 : Int32).toInt = 0 by decide) c_3
    refine ok_ite (fun c_4 => ?_) (fun c_4 => ?_)
    · skip
      have c_4i : x1.toInt < 0 := bI_lt rfl (show (0 : Int32).toInt = 0 by decide) c_4
      exact ok_some trivial
    · skip
      have c_4i : x1.toInt ≥ 0 := bI_nlt rfl (show (0 : Int32).toInt = 0 by decide) c_4
      refine ok_ite (fun c_5 => ?_) (fun c_5 => ?_)
      · skip
        have c_5i : x1.toInt ≤ 1 := bI_le rfl (show (1 : Int32).toInt = 1 by decide) c_5
        refine ok_bd (t_fX0_gone) (fun r7 q_6 => ?_)
        refine ok_bd (t_fX8_rowMean _ _ _ _ _ _ _ _ (by first | assumption | omega | decide)) (fun r9 q_7 => ?_)
        refine ok_bd (t_fX8_hundreds) (fun r11 q_8 => ?_)
        refine ok_bd (t_fX8_partOf) (fun r13 q_9 => ?_)
        exact ok_some trivial
      · skip
        have c_5i : x1.toInt > 1 := bI_nle rfl (show (1 : Int32).toInt = 1 by decide) c_5
        exact ok_some trivial

set_option maxHeartbeats 1000000 in
set_option maxRecDepth 20000 in
theorem t_fX8_would_none {z_t : Sx} {B_t_2 : Nat → Option Nat} {z_t_5 : Sx} {z_t_5_0 : Sx} {x1 : Int32} {x2 : Int32} : okP (fX8_would_none z_t B_t_2 z_t_5 z_t_5_0 x1 x2) (fun _ => True) := by
  unfold fX8_would_none
  refine ok_bd (t_fX8_ruleForWork) (fun r2 q_1 => ?_)
  exact ok_some trivial

set_option maxHeartbeats 1000000 in
set_option maxRecDepth 20000 in
theorem t_fX8_would_some {z_t : Sx} {B_t_2 : Nat → Option Nat} {z_t_5 : Sx} {z_t_5_0 : Sx} {z_t_5_1 : Sx} {z_t_7 : Sx} {z_t_9 : Sx} {nc_R : Nat} {z_R : Sx} {x1 : Int32} {x2 : Int32} (hnnc_R : nc_R < 2147483648) : okP (fX8_would_some z_t B_t_2 z_t_5 z_t_5_0 z_t_5_1 z_t_7 z_t_9 nc_R z_R x1 x2) (fun y => (FrL [0, 1, 2, 3, 4, 5] z_t_7 y.2.1) ∧ (FrL [0] z_t_9 y.2.2)) := by
  unfold fX8_would_some
  refine ok_bd (t_fX8_ruleForWork) (fun r2 q_1 => ?_)
  refine ok_ite (fun c_2 => ?_) (fun c_2 => ?_)
  · skip
    have c_2i : x2.toInt < 0 := bI_lt rfl (show (0 : Int32).toInt = 0 by decide) c_2
    exact ok_some ⟨fr_rf, fr_rf⟩
  · skip
    have c_2i : x2.toInt ≥ 0 := bI_nlt rfl (show (0 : Int32).toInt = 0 by decide) c_2
    refine ok_ite (fun c_3 => ?_) (fun c_3 => ?_)
    · skip
      have c_3i : x2.toInt ≤ 4 := bI_le rfl (show (4 : Int32).toInt = 4 by decide) c_3
      refine ok_bd (t_fX0_copyFrom) (fun z6 q_4 => ?_)
      have h_5 : FrL [0, 1, 2, 3, 4, 5] z_t_7 z6 := q_4
      refine ok_bd3 (t_fX2_play (by first | assumption | omega | decide)) (fun r8 z9 z10 q_6 => ?_)
      have h_7 : FrL [0] z_t_9 z9 := q_6.1
      have h_8 : FrL [0, 1, 2, 4, 5] z6 z10 := q_6.2
      refine ok_ite (fun c_9 => ?_) (fun c_9 => ?_)
      · skip
        have c_9i : x2.toInt = 0 := bI_eq rfl (show (0 : Int32).toInt = 0 by decide) c_9
        exact ok_some ⟨(fr_tr (fr_tr fr_rf h_5 (by decide)) h_8 (by decide)), (fr_tr fr_rf h_7 (by decide))⟩
      · skip
        have c_9i : x2.toInt ≠ 0 := bI_neq rfl (show (0 : Int32).toInt = 0 by decide) c_9
        refine ok_ite (fun c_10 => ?_) (fun c_10 => ?_)
        · skip
          have c_10i : x2.toInt = 1 := bI_eq rfl (show (1 : Int32).toInt = 1 by decide) c_10
          exact ok_some ⟨(fr_tr (fr_tr fr_rf h_5 (by decide)) h_8 (by decide)), (fr_tr fr_rf h_7 (by decide))⟩
        · skip
          have c_10i : x2.toInt ≠ 1 := bI_neq rfl (show (1 : Int32).toInt = 1 by decide) c_10
          refine ok_ite (fun c_11 => ?_) (fun c_11 => ?_)
          · skip
            have c_11i : x2.toInt = 2 := bI_eq rfl (show (2 : Int32).toInt = 2 by decide) c_11
            exact ok_some ⟨(fr_tr (fr_tr fr_rf h_5 (by decide)) h_8 (by decide)), (fr_tr fr_rf h_7 (by decide))⟩
          · skip
            have c_11i : x2.toInt ≠ 2 := bI_neq rfl (show (2 : Int32).toInt = 2 by decide) c_11
            refine ok_ite (fun c_12 => ?_) (fun c_12 => ?_)
            · skip
              have c_12i : x2.toInt = 3 := bI_eq rfl (show (3 : Int32).toInt = 3 by decide) c_12
              refine ok_bd (t_fX0_gone) (fun r13 q_13 => ?_)
              refine ok_bd (t_fX7_hiddenCoins) (fun r15 q_14 => ?_)
              exact ok_some ⟨(fr_tr (fr_tr fr_rf h_5 (by decide)) h_8 (by decide)), (fr_tr fr_rf h_7 (by decide))⟩
            · skip
              have c_12i : x2.toInt ≠ 3 := bI_neq rfl (show (3 : Int32).toInt = 3 by decide) c_12
              exact ok_some ⟨(fr_tr (fr_tr fr_rf h_5 (by decide)) h_8 (by decide)), (fr_tr fr_rf h_7 (by decide))⟩
    · skip
      have c_3i : x2.toInt > 4 := bI_nle rfl (show (4 : Int32).toInt = 4 by decide) c_3
      exact ok_some ⟨fr_rf, fr_rf⟩

/-! The class: a text of a WORK, or of a RULE, is taken or refused. -/
theorem c_work {z_t z_t_5 z_t_5_1 z_t_8 z_t_8_0 : Sx} : okP (fX8_work_ok z_t z_t_5 z_t_5_1 z_t_8 z_t_8_0) (fun y => (0 ≤ (gI y.2.2.2.2.2 3).toInt ∧ (gI y.2.2.2.2.2 3).toInt ≤ 10) ∧ FrL [1, 4] z_t y.2.1) ∨ okP (fX8_work_fail z_t z_t_5 z_t_5_1 z_t_8 z_t_8_0) (fun y => FrL [1] z_t y.2.1 ∧ y.2.2.1 = z_t_5 ∧ y.2.2.2.1 = z_t_5_1) := by
  obtain ⟨z2, e2, -⟩ := t_fX6_open (z_t := z_t_8_0) (n_p1 := 400) (f_p1 := gT z_t 0) (x2 := gI z_t 1) (by decide)
  have z0 : (0 : Int32).toInt = 0 := by decide
  obtain ⟨⟨z4, z5⟩, e4, q⟩ := t_fX7_readFrom (z_t := sI Z0 0 ((gI z_t 4) + 1)) (z_p1 := z2) (show 0 ≤ (0 : Int32).toInt ∧ (0 : Int32).toInt ≤ 10 by omega)
  have q3 : 0 ≤ (gI z4 3).toInt ∧ (gI z4 3).toInt ≤ 10 := q.2.2
  by_cases c : gI z5 8 = 0
  · left
    unfold fX8_work_ok
    rw [bd_eq e2, bd2_eq e4, if_pos c]
    exact ok_bd2 t_fX5_beginWork (fun z8 z9 _ => ok_some ⟨q3, fr_I (fr_I fr_rf (by decide)) (by decide)⟩)
  · right
    unfold fX8_work_fail
    rw [bd_eq e2, bd2_eq e4, if_neg c]
    exact ok_some ⟨fr_I fr_rf (by decide), rfl, rfl⟩
theorem rule_loops {B : Nat → Option Nat} : ∀ (n : Nat) (z z8 z6 : Sx) (x2 x3 : Int32), 0 ≤ x3.toInt → (13 - x3.toInt).toNat < n → ∃ b c : Sx, (∀ k, lX8_rule_ok_57 k B n z z8 z6 x2 x3 = k z b c) ∧ (∀ k, lX8_rule_fail_57 k B n z z8 z6 x2 x3 = k z b c) := by
  intro n
  induction n with
  | zero => intro _ _ _ _ _ _ hm; omega
  | succ n ih =>
    intro z z8 z6 x2 x3 h0 hm
    by_cases c1 : x2 = 0
    · exact ⟨z8, z6, fun k => by rw [lX8_rule_ok_57, if_pos c1], fun k => by rw [lX8_rule_fail_57, if_pos c1]⟩
    · by_cases c2 : (12 : Int32) < x3
      · exact ⟨z8, z6, fun k => by rw [lX8_rule_ok_57, if_neg c1, if_pos c2], fun k => by rw [lX8_rule_fail_57, if_neg c1, if_pos c2]⟩
      · have c2i := bI_nlt (show (12 : Int32).toInt = 12 by decide) rfl c2
        have e1 : (x3 + 1).toInt = x3.toInt + 1 := i32_add rfl (show (1 : Int32).toInt = 1 by decide) (by omega) (by omega)
        obtain ⟨⟨z10, z11⟩, e2, -⟩ := t_fX4_readClause (z_t := z8) (z_t_0 := z6)
        obtain ⟨⟨r13, z14⟩, e3, -⟩ := t_fX6_anotherClause (z_t := z11)
        obtain ⟨b, c, h1, h2⟩ := ih z z10 z14 r13 (x3 + 1) (by omega) (by omega)
        exact ⟨b, c, fun k => by rw [lX8_rule_ok_57, if_neg c1, if_neg c2, bd2_eq e2, bd2_eq e3]; exact h1 k, fun k => by rw [lX8_rule_fail_57, if_neg c1, if_neg c2, bd2_eq e2, bd2_eq e3]; exact h2 k⟩
theorem c_rule {z_t z_t_8 z_t_8_0 : Sx} {B : Nat → Option Nat} : okP (fX8_rule_ok z_t B z_t_8 z_t_8_0) (fun y => (0 ≤ (gI z_t 3).toInt ∧ (gI z_t 3).toInt < 6) ∧ y.1 = gI z_t 3 ∧ y.2.1 = sI (sI z_t 1 0) 3 ((gI z_t 3) + 1)) ∨ okP (fX8_rule_fail z_t B z_t_8 z_t_8_0) (fun y => FrL [1] z_t y.2.1) := by
  by_cases c1 : gI z_t 3 < 0
  · right
    unfold fX8_rule_fail
    rw [if_pos c1]; exact ok_some fr_rf
  by_cases c2 : gI z_t 3 < 6
  · have c1i := bI_nlt rfl (show (0 : Int32).toInt = 0 by decide) c1
    have c2i := bI_lt rfl (show (6 : Int32).toInt = 6 by decide) c2
    obtain ⟨z4, e4, -⟩ := t_fX6_open (z_t := z_t_8_0) (n_p1 := 400) (f_p1 := gT z_t 0) (x2 := gI z_t 1) (by decide)
    obtain ⟨z6, e6, -⟩ := t_fX4_start (z_t := z_t_8)
    have z0 : (0 : Int32).toInt = 0 := by decide
    obtain ⟨b, c, h1, h2⟩ := rule_loops (B := B) FU (sI z_t 1 0) z6 z4 1 0 (by omega) (FU_lt (by omega))
    by_cases c3 : gI c 8 = 0
    · left
      unfold fX8_rule_ok
      rw [if_neg c1, if_pos c2, bd_eq e4, bd_eq e6, h1]
      rw [if_pos c3]
      refine ok_gd (show inb (gI z_t 3) 6 from inb_of (by omega) (by omega)) ?_
      exact ok_some ⟨⟨by omega, by omega⟩, show (gI z_t 3) + 1 - 1 = gI z_t 3 from Int32.add_sub_cancel _ _, rfl⟩
    · right
      unfold fX8_rule_fail
      rw [if_neg c1, if_pos c2, bd_eq e4, bd_eq e6, h2]
      rw [if_neg c3]
      exact ok_some (fr_I fr_rf (by decide))
  · right
    unfold fX8_rule_fail
    rw [if_neg c1, if_neg c2]; exact ok_some fr_rf

/-! CHECKS: the two loops, one number -/
def ckf (x1 x2 : Int32) : Nat → Nat → Nat
  | 0, k => k
  | n + 1, k => if x1 * (100 - nI k) ≤ x2 * nI k then k else ckf x1 x2 n (k + 1)
def ckS (x1 x2 : Int32) : Int32 := nI (ckf x1 x2 100 0)
theorem ck_last {x1 x2 : Int32} (h0 : x2.toInt ≥ 0) (h1 : x2.toInt ≤ 9999) : x1 * (100 - nI 100) ≤ x2 * nI 100 := by
  have e0 : x1 * (100 - nI 100) = 0 := by
    have : (100 - nI 100 : Int32) = 0 := by decide
    rw [this, Int32.mul_zero]
  rw [e0, i32_le, Int32.toInt_mul]
  have e1 : (nI 100).toInt = 100 := by decide
  have e2 : (0 : Int32).toInt = 0 := by decide
  rw [e1, e2]
  have : (x2.toInt * 100).bmod (2 ^ 32) = x2.toInt * 100 := Int.bmod_eq_of_le (by omega) (by omega)
  omega
section CK
variable {p : Program} {l : Launch} {e : Env} {R : Room} {s : State} {m : MethodId} {args : Array Value} {below : List Frame} {meth : Method} {c : Code} {H : Heap} {locs : List Loc} {cells slots : Nat} {Q : State → Prop}
set_option maxHeartbeats 4000000 in
theorem lp_X8_checks (C : Cx p s m args meth c MX8_checks) {x1 x2 : Int32} {q : Nat} : ∀ (n k : Nat), k + n = 100 → (∀ ls : Array Slot, lv_has ls 4 [(3, .int (nI (ckf x1 x2 n k))), (0, .ref q), (1, .int x1), (2, .int x2)] → W p l e R s m args below meth c H locs cells slots Q (F0 m 50 ls [])) → ∀ ls : Array Slot, lv_has ls 4 [(3, .int (nI k)), (0, .ref q), (1, .int x1), (2, .int x2)] → W p l e R s m args below meth c H locs cells slots Q (F0 m 26 ls []) := by
  obtain ⟨hx, hb, hml, hown, hts, hr, hlocks, hnm⟩ := id C
  have hb : c.code = cX8_checks := hb
  intro n
  induction n with
  | zero =>
    intro k hk kk ls hl
    obtain rfl : k = 100 := by omega
    refine lv_iload_n hx hb dX8_checks_26 rfl (lv_at hl 0 rfl) ?_
    refine lv_bipush (v := 100) hx hb dX8_checks_27 (by decide) ?_
    refine lv_icmp_ge (tgt := 50) hx hb dX8_checks_29 (by decide) (fun c9 => ?_) (fun c9 => absurd (by decide) c9)
    exact kk ls hl
  | succ n ih =>
    intro k hk kk ls hl
    refine lv_iload_n hx hb dX8_checks_26 rfl (lv_at hl 0 rfl) ?_
    refine lv_bipush (v := 100) hx hb dX8_checks_27 (by decide) ?_
    refine lv_icmp_ge (tgt := 50) hx hb dX8_checks_29 (by decide) (fun c9 => absurd c9 (nI_ge (a := k) (b := 100) (by omega) (by decide))) (fun c9 => ?_)
    refine lv_iload_n hx hb dX8_checks_32 rfl (lv_at hl 2 rfl) ?_
    refine lv_bipush (v := 100) hx hb dX8_checks_33 (by decide) ?_
    refine lv_iload_n hx hb dX8_checks_35 rfl (lv_at hl 0 rfl) ?_
    refine lv_isub hx hb dX8_checks_36 ?_
    refine lv_imul hx hb dX8_checks_37 ?_
    refine lv_iload_n hx hb dX8_checks_38 rfl (lv_at hl 3 rfl) ?_
    refine lv_iload_n hx hb dX8_checks_39 rfl (lv_at hl 0 rfl) ?_
    refine lv_imul hx hb dX8_checks_40 ?_
    refine lv_icmp_le (tgt := 50) hx hb dX8_checks_41 (by decide) (fun c8 => ?_) (fun c8 => ?_)
    · refine kk ls ?_
      rw [ckf, if_pos c8]; exact hl
    · refine lv_iinc (v := nI (k + 1)) (lv' := [(3, .int (nI (k + 1))), (0, .ref q), (1, .int x1), (2, .int x2)]) hx hb dX8_checks_44 hl (k := 0) rfl (nI_1 k) (by decide) rfl (fun ls hl => ?_)
      refine lv_goto (tgt := 26) hx hb dX8_checks_47 (by decide) ?_
      refine ih (k + 1) (by omega) (fun ls hl => kk ls ?_) ls hl
      rw [ckf, if_neg c8]; exact hl
set_option maxHeartbeats 4000000 in
theorem lp_X9_checks (C : Cx p s m args meth c MX9_checks) {x1 x2 : Int32} (h0 : x2.toInt ≥ 0) (h1 : x2.toInt ≤ 9999) {q : Nat} : ∀ (n k : Nat), k + n = 100 → (∀ ls : Array Slot, lv_has ls 4 [(3, .int (nI (ckf x1 x2 n k))), (0, .ref q), (1, .int x1), (2, .int x2)] → W p l e R s m args below meth c H locs cells slots Q (F0 m 46 ls [])) → ∀ ls : Array Slot, lv_has ls 4 [(3, .int (nI k)), (0, .ref q), (1, .int x1), (2, .int x2)] → W p l e R s m args below meth c H locs cells slots Q (F0 m 28 ls []) := by
  obtain ⟨hx, hb, hml, hown, hts, hr, hlocks, hnm⟩ := id C
  have hb : c.code = cX9_checks := hb
  intro n
  induction n with
  | zero =>
    intro k hk kk ls hl
    obtain rfl : k = 100 := by omega
    refine lv_iload_n hx hb dX9_checks_28 rfl (lv_at hl 2 rfl) ?_
    refine lv_bipush (v := 100) hx hb dX9_checks_29 (by decide) ?_
    refine lv_iload_n hx hb dX9_checks_31 rfl (lv_at hl 0 rfl) ?_
    refine lv_isub hx hb dX9_checks_32 ?_
    refine lv_imul hx hb dX9_checks_33 ?_
    refine lv_iload_n hx hb dX9_checks_34 rfl (lv_at hl 3 rfl) ?_
    refine lv_iload_n hx hb dX9_checks_35 rfl (lv_at hl 0 rfl) ?_
    refine lv_imul hx hb dX9_checks_36 ?_
    refine lv_icmp_le (tgt := 46) hx hb dX9_checks_37 (by decide) (fun c8 => ?_) (fun c8 => absurd (ck_last h0 h1) c8)
    exact kk ls hl
  | succ n ih =>
    intro k hk kk ls hl
    refine lv_iload_n hx hb dX9_checks_28 rfl (lv_at hl 2 rfl) ?_
    refine lv_bipush (v := 100) hx hb dX9_checks_29 (by decide) ?_
    refine lv_iload_n hx hb dX9_checks_31 rfl (lv_at hl 0 rfl) ?_
    refine lv_isub hx hb dX9_checks_32 ?_
    refine lv_imul hx hb dX9_checks_33 ?_
    refine lv_iload_n hx hb dX9_checks_34 rfl (lv_at hl 3 rfl) ?_
    refine lv_iload_n hx hb dX9_checks_35 rfl (lv_at hl 0 rfl) ?_
    refine lv_imul hx hb dX9_checks_36 ?_
    refine lv_icmp_le (tgt := 46) hx hb dX9_checks_37 (by decide) (fun c8 => ?_) (fun c8 => ?_)
    · refine kk ls ?_
      rw [ckf, if_pos c8]; exact hl
    · refine lv_iinc (v := nI (k + 1)) (lv' := [(3, .int (nI (k + 1))), (0, .ref q), (1, .int x1), (2, .int x2)]) hx hb dX9_checks_40 hl (k := 0) rfl (nI_1 k) (by decide) rfl (fun ls hl => ?_)
      refine lv_goto (tgt := 28) hx hb dX9_checks_43 (by decide) ?_
      refine ih (k + 1) (by omega) (fun ls hl => kk ls ?_) ls hl
      rw [ckf, if_neg c8]; exact hl
end CK

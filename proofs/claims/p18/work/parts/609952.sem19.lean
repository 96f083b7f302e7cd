/-! WORTH and SEEN: the reference's sum over all ways. -/
def smL (g : Nat → Int64) : Nat → Int64
  | 0 => 0
  | n + 1 => smL g n + g n
theorem l_ac4 (A B x y : Int64) : A + B + x + y = (A + x) + (B + y) := by ac_rfl
theorem l_row {a b c : Int64} (hc : a + b = c) (R1 R2 P y h : Int64) : a * (R1 + P * h) + b * (R2 + (P + y) * h) = (b * (y * h + R2) + a * R1) + P * (h * c) := by
  subst hc
  simp only [Int64.mul_add, Int64.add_mul]
  ac_rfl
theorem l_100 (R P h c : Int64) : c * (R + P * h) = c * R + P * (h * c) := by
  simp only [Int64.mul_add]
  ac_rfl
theorem l_fnd {a b c : Int64} (hc : a + b = c) (h : Int64) : a * h + b * h = h * c := by
  subst hc
  simp only [Int64.mul_add]
  ac_rfl
theorem sm_two (g : Nat → Int64) : ∀ n : Nat, smL g (2 * n) = smL (fun w => g (2 * w)) n + smL (fun w => g (2 * w + 1)) n := by
  intro n
  induction n with
  | zero => exact (Int64.add_zero 0).symm
  | succ n ih =>
    have e : smL g (2 * (n + 1)) = smL g (2 * n) + g (2 * n) + g (2 * n + 1) := rfl
    have e1 : smL (fun w => g (2 * w)) (n + 1) = smL (fun w => g (2 * w)) n + g (2 * n) := rfl
    have e2 : smL (fun w => g (2 * w + 1)) (n + 1) = smL (fun w => g (2 * w + 1)) n + g (2 * n + 1) := rfl
    rw [e, e1, e2, ih, l_ac4]
theorem sm_mul (c : Int64) (g : Nat → Int64) : ∀ n : Nat, smL (fun w => c * g w) n = c * smL g n := by
  intro n
  induction n with
  | zero => exact Int64.mul_zero.symm
  | succ n ih =>
    have e : smL (fun w => c * g w) (n + 1) = smL (fun w => c * g w) n + c * g n := rfl
    have e1 : smL g (n + 1) = smL g n + g n := rfl
    rw [e, e1, ih, Int64.mul_add]
theorem sm_0 : ∀ n : Nat, smL (fun _ => 0) n = 0 := by
  intro n
  induction n with
  | zero => rfl
  | succ n ih =>
    have e : smL (fun _ => 0) (n + 1) = smL (fun _ => 0) n + 0 := rfl
    rw [e, ih, Int64.add_zero]
/-- 100 to the n -/
def hh100 : Nat → Int64
  | 0 => 1
  | n + 1 => hh100 n * 100
theorem h100_f : ∀ n : Fin 9, 0 < (hh100 n.val).toInt := by decide +kernel
theorem h100_pos {n : Nat} (h : n ≤ 8) : 0 < (hh100 n).toInt := h100_f ⟨n, by omega⟩
theorem hun_8 : ∀ (q j n m : Nat), m - j = q → j ≤ m → m ≤ 8 → q < n → lX8_hundreds_4 (nI m) n (hh100 j) (nI j) = some (hh100 m) := by
  intro q
  induction q with
  | zero =>
    intro j n m hq hj hm hn
    obtain ⟨n, rfl⟩ : ∃ k, n = k + 1 := ⟨n - 1, by omega⟩
    obtain rfl : j = m := by omega
    rw [lX8_hundreds_4, if_pos (nI_le (Nat.le_refl _) (by omega))]
  | succ q ih =>
    intro j n m hq hj hm hn
    obtain ⟨n, rfl⟩ : ∃ k, n = k + 1 := ⟨n - 1, by omega⟩
    have e : hh100 (j + 1) = hh100 j * 100 := rfl
    rw [lX8_hundreds_4, if_neg (nI_ge (by omega) (by omega)), if_neg (show ¬ (8 : Int32) ≤ nI j from nI_ge (b := 8) (by omega) (by decide)), nI_1, ← e]
    exact ih (j + 1) n m (by omega) (by omega) hm (by omega)
theorem hun_9 : ∀ (q j n m : Nat), m - j = q → j ≤ m → m ≤ 8 → q < n → lX9_hundreds_5 (nI m) n (hh100 j) (nI j) = some (hh100 m) := by
  intro q
  induction q with
  | zero =>
    intro j n m hq hj hm hn
    obtain ⟨n, rfl⟩ : ∃ k, n = k + 1 := ⟨n - 1, by omega⟩
    obtain rfl : j = m := by omega
    rw [lX9_hundreds_5, if_pos (nI_le (Nat.le_refl _) (by omega))]
  | succ q ih =>
    intro j n m hq hj hm hn
    obtain ⟨n, rfl⟩ : ∃ k, n = k + 1 := ⟨n - 1, by omega⟩
    have e : hh100 (j + 1) = hh100 j * 100 := rfl
    rw [lX9_hundreds_5, if_neg (nI_ge (by omega) (by omega)), nI_1, ← e]
    exact ih (j + 1) n m (by omega) (by omega) hm (by omega)
theorem hun8_eq {m : Nat} (h : m ≤ 8) : fX8_hundreds (nI m) = some (hh100 m) := hun_8 m 0 FU m (by omega) (by omega) h (FU_lt (by omega))
theorem hun9_eq {m : Nat} (h : m ≤ 8) : fX9_hundreds (nI m) = some (hh100 m) := hun_9 m 0 FU m (by omega) (by omega) h (FU_lt (by omega))
theorem l_c100 {o : Int32} (h0 : 0 ≤ o.toInt) (h1 : o.toInt ≤ 100) : (100 - o).toInt64 + o.toInt64 = 100 := by
  have e1 : (100 - o).toInt = 100 - o.toInt := i32_sub (show (100 : Int32).toInt = 100 by decide) rfl (by omega) (by omega)
  have e2 : (100 - o).toInt64.toInt = 100 - o.toInt := (Int32.toInt_toInt64 _).trans e1
  have e3 : o.toInt64.toInt = o.toInt := Int32.toInt_toInt64 o
  refine Int64.toInt_inj.1 ?_
  rw [i64_add e2 e3 (by omega) (by omega), show (100 : Int64).toInt = 100 by decide]
  omega
/-! the table alone is changed, below 104 -/
def TBz (z z2 : Sx) : Prop := ∃ t : Nat → Int32, z2 = sTf z 24 t ∧ ∀ i : Nat, 104 ≤ i → t i = gT z 24 i
theorem up_up {α : Type} (f : Nat → α) (k : Nat) (a b : α) : va_up (va_up f k a) k b = va_up f k b := by
  funext j
  unfold va_up
  by_cases c : j = k
  · rw [if_pos c, if_pos c]
  · rw [if_neg c, if_neg c, if_neg c]
theorem up_id {α : Type} (f : Nat → α) (k : Nat) : va_up f k (f k) = f := by
  funext j
  unfold va_up
  by_cases c : j = k
  · rw [if_pos c, c]
  · rw [if_neg c]
theorem sTf_sTf (z : Sx) (t u : Nat → Int32) : sTf (sTf z 24 t) 24 u = sTf z 24 u := by
  unfold sTf
  exact congrArg (fun x => (z.1, x, z.2.2)) (up_up z.2.1 24 t u)
theorem sTf_id (z : Sx) : sTf z 24 (gT z 24) = z := by
  unfold sTf
  exact congrArg (fun x => (z.1, x, z.2.2)) (up_id z.2.1 24)
theorem gT_sTf (z : Sx) (t : Nat → Int32) : gT (sTf z 24 t) 24 = t := va_up_self z.2.1 24 t
theorem gT_sTf25 (z : Sx) (t : Nat → Int32) : gT (sTf z 24 t) 25 = gT z 25 := va_up_ne (k := 24) (j := 25) z.2.1 t (by decide)
theorem tbz_rf {z : Sx} : TBz z z := ⟨gT z 24, (sTf_id z).symm, fun _ _ => rfl⟩
theorem tbz_set {z z2 : Sx} {i : Nat} {v : Int32} (h : TBz z z2) (hi : i < 104) : TBz z (sT z2 24 i v) := by
  obtain ⟨t, rfl, ht⟩ := h
  refine ⟨upd t i v, ?_, fun k hk => ?_⟩
  · unfold sT
    rw [gT_sTf, sTf_sTf]
  · rw [← ht k hk]
    exact if_neg (by omega)
theorem tbz_tr {z z2 z3 : Sx} (h : TBz z z2) (k : TBz z2 z3) : TBz z z3 := by
  obtain ⟨t, rfl, ht⟩ := h
  obtain ⟨u, rfl, hu⟩ := k
  refine ⟨u, sTf_sTf z t u, fun i hi => ?_⟩
  rw [hu i hi, gT_sTf]
  exact ht i hi
theorem tbz_25 {z z2 : Sx} (h : TBz z z2) : gT z2 25 = gT z 25 := by
  obtain ⟨t, rfl, ht⟩ := h
  exact gT_sTf25 z t
theorem pb_run : ∀ (q j n : Nat) (z : Sx), 104 - j = q → j ≤ 104 → q < n → lX9_putsBack_2 n z (nI j) = some (sTf z 24 (fun i => if j ≤ i ∧ i < 104 then gT z 25 i else gT z 24 i)) := by
  intro q
  induction q with
  | zero =>
    intro j n z hq hj hn
    obtain ⟨n, rfl⟩ : ∃ k, n = k + 1 := ⟨n - 1, by omega⟩
    obtain rfl : j = 104 := by omega
    have e : (fun i : Nat => if 104 ≤ i ∧ i < 104 then gT z 25 i else gT z 24 i) = gT z 24 := by
      funext i
      exact if_neg (by omega)
    rw [lX9_putsBack_2, if_pos (show (104 : Int32) ≤ nI 104 by decide), e, sTf_id]
  | succ q ih =>
    intro j n z hq hj hn
    obtain ⟨n, rfl⟩ : ∃ k, n = k + 1 := ⟨n - 1, by omega⟩
    rw [lX9_putsBack_2, if_neg (show ¬ (104 : Int32) ≤ nI j from nI_ge (b := 104) (by omega) (by decide)), gd_pos (in_n (by omega) (by omega)), nI_clamp (by omega), nI_1, ih (j + 1) n _ (by omega) (by omega) (by omega)]
    unfold sT
    rw [gT_sTf, gT_sTf25, sTf_sTf]
    refine congrArg (fun u => some (sTf z 24 u)) (funext (fun i => ?_))
    by_cases c : i = j
    · rw [if_neg (by omega), if_pos (by omega), c]
      exact if_pos rfl
    · have e : upd (gT z 24) j (gT z 25 j) i = gT z 24 i := if_neg c
      rw [e]
      by_cases d : j ≤ i ∧ i < 104
      · rw [if_pos d, if_pos (by omega)]
      · rw [if_neg d, if_neg (by omega)]
theorem pb_back {z z2 : Sx} (h : TBz z z2) (k : ∀ i : Nat, i < 104 → gT z 25 i = gT z 24 i) : fX9_putsBack z2 = some z := by
  obtain ⟨t, rfl, ht⟩ := h
  have e := pb_run 104 0 FU (sTf z 24 t) (by omega) (by omega) (FU_lt (by omega))
  rw [gT_sTf, gT_sTf25, sTf_sTf] at e
  have e2 : (fun i : Nat => if 0 ≤ i ∧ i < 104 then gT z 25 i else t i) = gT z 24 := by
    funext i
    by_cases c : i < 104
    · rw [if_pos ⟨by omega, c⟩]; exact k i c
    · rw [if_neg (by omega)]; exact ht i (by omega)
  rw [e2, sTf_id] at e
  exact e
/-! one way -/
def rwf (z : Sx) (j : Nat) : Nat := (gT z 24 (10 + j)).toNatClampNeg
def kdx (z : Sx) (f : Nat) : Nat := (gT z 24 (44 + 6 * f)).toNatClampNeg
def cst1 (z : Sx) (f : Nat) : Sx := sT z 24 3 (gT z 24 3 - gT z 24 (44 + 6 * f + 1))
def cst2 (z : Sx) (f : Nat) : Sx := sT (sT (cst1 z f) 24 (44 + 6 * f + 4) 1) 24 4 (gT z 24 4 + gT z 24 (26 + 3 * kdx z f))
def cow : Nat → Nat → Nat → Sx → Int64 × Sx
  | 0, _, _, z => (1, z)
  | n + 1, j, w, z => if fX9_canLook z (nI (rwf z j)) = some 1 then (if w % 2 = 1 then ((gT z 24 (44 + 6 * rwf z j + 2)).toInt64 * (cow n (j + 1) (w / 2) (cst2 z (rwf z j))).1, (cow n (j + 1) (w / 2) (cst2 z (rwf z j))).2) else ((100 - gT z 24 (44 + 6 * rwf z j + 2)).toInt64 * (cow n (j + 1) (w / 2) (cst1 z (rwf z j))).1, (cow n (j + 1) (w / 2) (cst1 z (rwf z j))).2)) else if w % 2 = 1 then (0, z) else (100 * (cow n (j + 1) (w / 2) z).1, (cow n (j + 1) (w / 2) z).2)
theorem cow_can1 {n j w : Nat} {z : Sx} (hc : fX9_canLook z (nI (rwf z j)) = some 1) (hw : w % 2 = 1) : cow (n + 1) j w z = ((gT z 24 (44 + 6 * rwf z j + 2)).toInt64 * (cow n (j + 1) (w / 2) (cst2 z (rwf z j))).1, (cow n (j + 1) (w / 2) (cst2 z (rwf z j))).2) := (if_pos hc).trans (if_pos hw)
theorem cow_can0 {n j w : Nat} {z : Sx} (hc : fX9_canLook z (nI (rwf z j)) = some 1) (hw : ¬ w % 2 = 1) : cow (n + 1) j w z = ((100 - gT z 24 (44 + 6 * rwf z j + 2)).toInt64 * (cow n (j + 1) (w / 2) (cst1 z (rwf z j))).1, (cow n (j + 1) (w / 2) (cst1 z (rwf z j))).2) := (if_pos hc).trans (if_neg hw)
theorem cow_not1 {n j w : Nat} {z : Sx} (hc : ¬ fX9_canLook z (nI (rwf z j)) = some 1) (hw : w % 2 = 1) : cow (n + 1) j w z = (0, z) := (if_neg hc).trans (if_pos hw)
theorem cow_not0 {n j w : Nat} {z : Sx} (hc : ¬ fX9_canLook z (nI (rwf z j)) = some 1) (hw : ¬ w % 2 = 1) : cow (n + 1) j w z = (100 * (cow n (j + 1) (w / 2) z).1, (cow n (j + 1) (w / 2) z).2) := (if_neg hc).trans (if_neg hw)
/-- the sum over the ways from a place on -/
def MSv (p : Sx → Int64) (n j : Nat) (z : Sx) : Int64 := smL (fun w => (cow n j w z).1 * p (cow n j w z).2) (2 ^ n)
theorem two_s (n : Nat) : 2 ^ (n + 1) = 2 * 2 ^ n := by rw [Nat.pow_succ, Nat.mul_comm]
theorem ms_0 {p : Sx → Int64} {j : Nat} {z : Sx} : MSv p 0 j z = p z := by
  show 0 + 1 * p z = p z
  rw [Int64.zero_add, Int64.one_mul]
theorem ms_can {p : Sx → Int64} {n j : Nat} {z : Sx} (hc : fX9_canLook z (nI (rwf z j)) = some 1) : MSv p (n + 1) j z = (100 - gT z 24 (44 + 6 * rwf z j + 2)).toInt64 * MSv p n (j + 1) (cst1 z (rwf z j)) + (gT z 24 (44 + 6 * rwf z j + 2)).toInt64 * MSv p n (j + 1) (cst2 z (rwf z j)) := by
  unfold MSv
  rw [two_s, sm_two, ← sm_mul, ← sm_mul]
  congr 2
  · funext w
    rw [cow_can0 hc (by omega), show 2 * w / 2 = w by omega, Int64.mul_assoc]
  · funext w
    rw [cow_can1 hc (by omega), show (2 * w + 1) / 2 = w by omega, Int64.mul_assoc]
theorem ms_not {p : Sx → Int64} {n j : Nat} {z : Sx} (hc : ¬ fX9_canLook z (nI (rwf z j)) = some 1) : MSv p (n + 1) j z = 100 * MSv p n (j + 1) z := by
  unfold MSv
  rw [two_s, sm_two, ← sm_mul]
  have e1 : (fun w => (cow (n + 1) j (2 * w) z).1 * p (cow (n + 1) j (2 * w) z).2) = fun w => 100 * ((cow n (j + 1) w z).1 * p (cow n (j + 1) w z).2) := by
    funext w
    rw [cow_not0 hc (by omega), show 2 * w / 2 = w by omega, Int64.mul_assoc]
  have e2 : (fun w => (cow (n + 1) j (2 * w + 1) z).1 * p (cow (n + 1) j (2 * w + 1) z).2) = fun _ => 0 := by
    funext w
    rw [cow_not1 hc (by omega), Int64.zero_mul]
  rw [e1, e2, sm_0, Int64.add_zero]
/-! the state along a ROW -/
def GZr (zw : Sx) (F L : Nat) (z : Sx) : Prop := WKT zw (gT z 24) ∧ gT z 24 0 = nI F ∧ F ≤ 10 ∧ gT z 24 8 = nI L ∧ L ≤ 8 ∧ (∀ g : Nat, g < F → gT z 24 (44 + 6 * g + 4) = 0 ∨ gT z 24 (44 + 6 * g + 4) = 1 ∨ gT z 24 (44 + 6 * g + 4) = 2) ∧ ∀ i : Nat, i < L → ∃ g : Nat, g < F ∧ gT z 24 (10 + i) = nI g
section S19
variable {zw z z2 : Sx} {F L : Nat}
theorem gzr_eq (h : GZr zw F L z) (e : ∀ i : Nat, ¬ DZ i → gT z2 24 i = gT z 24 i) (k : ∀ g : Nat, g < F → gT z2 24 (44 + 6 * g + 4) = gT z 24 (44 + 6 * g + 4) ∨ gT z2 24 (44 + 6 * g + 4) = 1) : GZr zw F L z2 := by
  obtain ⟨hw, d0, dF, d8, dL, d7, dr⟩ := h
  refine ⟨wkt_eq hw (fun i hi _ _ _ => e i (fun u => hi.2.1 (by unfold DZ at u; unfold DY; omega))), by rw [e 0 (by unfold DZ; omega)]; exact d0, dF, by rw [e 8 (by unfold DZ; omega)]; exact d8, dL, fun g hg => ?_, fun i hi => ?_⟩
  · rcases k g hg with q | q
    · rw [q]; exact d7 g hg
    · exact Or.inr (Or.inl q)
  · rw [e (10 + i) (by unfold DZ; omega)]; exact dr i hi
theorem c1_T {f : Nat} (i : Nat) : gT (cst1 z f) 24 i = if i = 3 then gT z 24 3 - gT z 24 (44 + 6 * f + 1) else gT z 24 i := rfl
theorem c2_T {f : Nat} (i : Nat) : gT (cst2 z f) 24 i = if i = 4 then gT z 24 4 + gT z 24 (26 + 3 * kdx z f) else if i = 44 + 6 * f + 4 then 1 else if i = 3 then gT z 24 3 - gT z 24 (44 + 6 * f + 1) else gT z 24 i := rfl
theorem gzr_1 {f : Nat} (h : GZr zw F L z) : GZr zw F L (cst1 z f) := by
  refine gzr_eq h (fun i hi => ?_) (fun g hg => Or.inl ?_)
  · rw [c1_T, if_neg (fun u => hi (by unfold DZ; omega))]
  · rw [c1_T, if_neg (by omega)]
theorem gzr_2 {f : Nat} (h : GZr zw F L z) : GZr zw F L (cst2 z f) := by
  refine gzr_eq h (fun i hi => ?_) (fun g hg => ?_)
  · rw [c2_T, if_neg (fun u => hi (by unfold DZ; omega)), if_neg (fun u => hi (by unfold DZ; omega)), if_neg (fun u => hi (by unfold DZ; omega))]
  · by_cases c : g = f
    · right; rw [c2_T, if_neg (by omega), if_pos (by omega)]
    · left; rw [c2_T, if_neg (by omega), if_neg (by omega), if_neg (by omega)]
theorem can_k {g : Nat} (h : GZr zw F L z) (hg : g < F) : ∃ r, fX7_isOpen zw (nI g) (nI (bmf (gT z 24) 1 F ||| bmf (gT z 24) 2 F)) = some r ∧ (r = 0 ∨ r = 1) ∧ fX9_canLook z (nI g) = some (if r = 0 then 0 else if gT zw 9 g ≤ gT z 24 3 then 1 else 0) ∧ (¬ r = 0 → gT z 24 (44 + 6 * g + 4) = 0) := by
  obtain ⟨hw, d0, dF, d8, dL, d7, dr⟩ := h
  obtain ⟨r, o1, o2, o3⟩ := open_eq hw d0 dF d7 hg
  have hFi : (gT z 24 0).toInt = F := by rw [d0, nI_toInt (by omega)]
  have ef1 : fX9_faultOf z (nI g) 1 = some (gT zw 9 g) := by rw [(hw.2.2.2.2 g (by omega)).2.1]; exact fo_eq (j := 1) (by omega) (by omega)
  have ef4 : fX9_faultOf z (nI g) 4 = some (gT z 24 (44 + 6 * g + 4)) := fo_eq (j := 4) (by omega) (by omega)
  refine ⟨r, o1, o3, ?_, fun q => ?_⟩
  · unfold fX9_canLook
    rw [bd_eq o2]
    by_cases c : r = 0
    · rw [if_pos c, if_pos c]
    · rw [if_neg c, if_neg c, bd_eq ef1]
      by_cases d : gT zw 9 g ≤ gT z 24 3
      · rw [if_pos d, if_neg (fun u => by have a := bI_le rfl rfl d; have b := bI_lt rfl rfl u; omega)]
      · rw [if_neg d, if_pos ((i32_lt _ _).2 (by have a := bI_nle rfl rfl d; omega))]
  · unfold fX9_isOpen at o2
    rw [bd_eq ef4] at o2
    by_cases c : gT z 24 (44 + 6 * g + 4) = 0
    · exact c
    · rw [if_neg c] at o2
      exact absurd (Option.some.inj o2).symm q
theorem rwf_eq {j g : Nat} (hr : gT z 24 (10 + j) = nI g) (hg : g < 10) : rwf z j = g := by
  unfold rwf
  rw [hr, nI_clamp (by omega)]
theorem tb_cow : ∀ (n j w : Nat) (z : Sx), GZr zw F L z → j + n ≤ L → TBz z (cow n j w z).2 := by
  intro n
  induction n with
  | zero => intro j w z _ _; exact tbz_rf
  | succ n ih =>
    intro j w z hz hj
    obtain ⟨hw, d0, dF, d8, dL, d7, dr⟩ := id hz
    obtain ⟨g, hg, hr⟩ := dr j (by omega)
    have er := rwf_eq hr (by omega)
    have t1 : TBz z (cst1 z g) := tbz_set tbz_rf (by omega)
    have t2 : TBz z (cst2 z g) := tbz_set (tbz_set t1 (by omega)) (by omega)
    by_cases c : fX9_canLook z (nI (rwf z j)) = some 1
    · by_cases b : w % 2 = 1
      · rw [cow_can1 c b, er]; exact tbz_tr t2 (ih (j + 1) (w / 2) _ (gzr_2 hz) (by omega))
      · rw [cow_can0 c b, er]; exact tbz_tr t1 (ih (j + 1) (w / 2) _ (gzr_1 hz) (by omega))
    · by_cases b : w % 2 = 1
      · rw [cow_not1 c b]; exact tbz_rf
      · rw [cow_not0 c b]; exact ih (j + 1) (w / 2) _ hz (by omega)
/-- the reference's loop along one way -/
theorem cow_run {w0 : Nat} (hw0 : w0 < 256) : ∀ (q j n : Nat) (z : Sx) (o : Int64), L - j = q → j ≤ L → q < n → GZr zw F L z → lX9_comesOut_5 (nI w0) n z o (nI j) = some (o * (cow q j (w0 / 2 ^ j) z).1, (cow q j (w0 / 2 ^ j) z).2) := by
  intro q
  induction q with
  | zero =>
    intro j n z o hq hj hn hz
    obtain ⟨hw, d0, dF, d8, dL, d7, dr⟩ := id hz
    obtain ⟨n, rfl⟩ : ∃ k, n = k + 1 := ⟨n - 1, by omega⟩
    rw [lX9_comesOut_5, d8, if_pos (nI_le (by omega) (by omega))]
    show some (o, z) = some (o * 1, z)
    rw [Int64.mul_one]
  | succ q ih =>
    intro j n z o hq hj hn hz
    obtain ⟨hw, d0, dF, d8, dL, d7, dr⟩ := id hz
    obtain ⟨n, rfl⟩ : ∃ k, n = k + 1 := ⟨n - 1, by omega⟩
    obtain ⟨g, hg, hr⟩ := dr j (by omega)
    have hFi : (gT z 24 0).toInt = F := by rw [d0, nI_toInt (by omega)]
    have e10 : (10 : Int32) + nI j = nI (10 + j) := nI_add 10 j
    have c10 : (nI (10 + j)).toNatClampNeg = 10 + j := nI_clamp (by omega)
    have er := rwf_eq hr (by omega)
    obtain ⟨r, o1, r01, o2, o3⟩ := can_k hz hg
    have ebit : (w0 / 2 ^ j % 2 = 1) ↔ w0.testBit j = true := by
      rw [Nat.testBit_eq_decide_div_mod_eq]
      exact decide_eq_true_iff.symm
    have ediv : w0 / 2 ^ j / 2 = w0 / 2 ^ (j + 1) := by rw [Nat.div_div_eq_div_mul, Nat.pow_succ]
    have go : ∀ (y : Sx) (v : Int64), GZr zw F L y → lX9_comesOut_5 (nI w0) n y v (nI (j + 1)) = some (v * (cow q (j + 1) (w0 / 2 ^ (j + 1)) y).1, (cow q (j + 1) (w0 / 2 ^ (j + 1)) y).2) := fun y v hy => ih (j + 1) n y v (by omega) (by omega) (by omega) hy
    rw [lX9_comesOut_5, d8, if_neg (nI_ge (by omega) (by omega)), e10, gd_pos (in_n (by omega) (by omega)), c10, hr, bd_eq (iso_n (by omega) (by omega)), bd_eq o2, nI_1]
    simp only [jn, nm]
    by_cases cl : fX9_canLook z (nI (rwf z j)) = some 1
    · have cl2 : (if r = 0 then (0 : Int32) else if gT zw 9 g ≤ gT z 24 3 then 1 else 0) = 1 := by
        rw [er, o2] at cl
        exact Option.some.inj cl
      have e6 : (6 * nI g : Int32) = nI (6 * g) := Int32.toInt_inj.1 (by rw [i32_mul (show (6 : Int32).toInt = 6 by decide) (nI_toInt (n := g) (by omega)) (by omega) (by omega), nI_toInt (by omega)]; omega)
      have e44 : (44 : Int32) + nI (6 * g) = nI (44 + 6 * g) := nI_add 44 (6 * g)
      have a4 : nI (44 + 6 * g) + 4 = nI (44 + 6 * g + 4) := nI_add (44 + 6 * g) 4
      have c4 : (nI (44 + 6 * g + 4)).toNatClampNeg = 44 + 6 * g + 4 := nI_clamp (by omega)
      have ef1 : fX9_faultOf z (nI g) 1 = some (gT z 24 (44 + 6 * g + 1)) := fo_eq (j := 1) (by omega) (by omega)
      have ef2 : fX9_faultOf (cst1 z g) (nI g) 2 = some (gT z 24 (44 + 6 * g + 2)) := by
        have := fo_eq (z := cst1 z g) (g := g) (j := 2) (by omega) (by omega)
        rw [c1_T, if_neg (by omega)] at this
        exact this
      have es : sT z 24 3 (gT z 24 3 - gT z 24 (44 + 6 * g + 1)) = cst1 z g := rfl
      rw [cl2, if_neg one0, bd_eq ef1, es, bd_eq ef2]
      by_cases b : w0.testBit j = true
      · rw [if_pos b, cow_can1 cl (ebit.2 b), er, ediv]
        obtain ⟨b1, b2, b3, b4, b5, -⟩ := hw.2.2.2.2 g (by omega)
        have hj1 := hw.1.2.2
        have hk : gT z 24 (44 + 6 * g) = nI (kdx z g) := by
          unfold kdx
          have := clampI (x := gT z 24 (44 + 6 * g)) (by rw [← b1]; exact b5.1)
          exact Int32.toInt_inj.1 (by rw [nI_toInt (by rw [b1] at b5; omega)]; omega)
        have hk6 : kdx z g < 6 := by
          have := clampI (x := gT z 24 (44 + 6 * g)) (by rw [← b1]; exact b5.1)
          rw [b1] at b5
          unfold kdx
          omega
        have t4 : ∀ i : Nat, gT (sT (cst1 z g) 24 (44 + 6 * g + 4) 1) 24 i = if i = 44 + 6 * g + 4 then 1 else if i = 3 then gT z 24 3 - gT z 24 (44 + 6 * g + 1) else gT z 24 i := fun i => rfl
        have ek : fX9_kindOf (sT (cst1 z g) 24 (44 + 6 * g + 4) 1) (nI g) 0 = some (gT z 24 (26 + 3 * kdx z g)) := by
          have h0 : gT (sT (cst1 z g) 24 (44 + 6 * g + 4) 1) 24 (44 + 6 * g) = nI (kdx z g) := by rw [t4, if_neg (by omega), if_neg (by omega)]; exact hk
          have := ko_eq (z9 := sT (cst1 z g) 24 (44 + 6 * g + 4) 1) (j := 0) (by omega) h0 hk6 (by omega)
          rw [Nat.add_zero (26 + 3 * kdx z g), t4, if_neg (by omega), if_neg (by omega)] at this
          exact this
        have e4 : gT (sT (cst1 z g) 24 (44 + 6 * g + 4) 1) 24 4 = gT z 24 4 := by rw [t4, if_neg (by omega), if_neg (by omega)]
        have es2 : sT (sT (cst1 z g) 24 (44 + 6 * g + 4) 1) 24 4 (gT z 24 4 + gT z 24 (26 + 3 * kdx z g)) = cst2 z g := rfl
        rw [if_neg one0, bd_eq ef2, if_neg one0, e6, e44, a4, gd_pos (in_n (by omega) (by omega)), c4, bd_eq ek, e4, es2, go _ _ (gzr_2 hz), Int64.mul_assoc]
      · rw [if_neg b, cow_can0 cl (fun u => b (ebit.1 u)), er, ediv, if_pos rfl, if_pos rfl, go _ _ (gzr_1 hz), Int64.mul_assoc]
    · have cl2 : (if r = 0 then (0 : Int32) else if gT zw 9 g ≤ gT z 24 3 then 1 else 0) = 0 := by
        rw [er, o2] at cl
        by_cases c : r = 0
        · exact if_pos c
        · rw [if_neg c] at cl ⊢
          by_cases d : gT zw 9 g ≤ gT z 24 3
          · rw [if_pos d] at cl; exact absurd rfl cl
          · exact if_neg d
      rw [cl2, if_pos rfl]
      by_cases b : w0.testBit j = true
      · rw [if_pos b, if_neg one0, cow_not1 cl (ebit.2 b), Int64.mul_zero]
      · rw [if_neg b, if_pos rfl, cow_not0 cl (fun u => b (ebit.1 u)), ediv, go _ _ hz, Int64.mul_assoc]
/-- what a way is worth -/
def wv (x1 : Int32) (z : Sx) : Int32 := if 0 ≤ x1 then (if gT z 24 (44 + 6 * x1.toNatClampNeg + 4) = 1 then 1 else 0) else gT z 24 4 - gT z 25 4
theorem mean_run {x1 : Int32} (hx : x1 = -1 ∨ ∃ f : Nat, f < 10 ∧ x1 = nI f) (hz : GZr zw F L z) (hk : ∀ i : Nat, i < 104 → gT z 25 i = gT z 24 i) : ∀ (q w n : Nat), 2 ^ L - w = q → w ≤ 2 ^ L → q < n → lX9_meanOf_9 x1 n z (smL (fun w => (cow L 0 w z).1 * (wv x1 (cow L 0 w z).2).toInt64) w) (nI w) = some (MSv (fun z => (wv x1 z).toInt64) L 0 z, z) := by
  obtain ⟨hw, d0, dF, d8, dL, d7, dr⟩ := id hz
  have p2 : 2 ^ L ≤ 256 := show 2 ^ L ≤ 2 ^ 8 from Nat.pow_le_pow_right (by decide) dL
  have eb : ((1 : Int32) <<< (nI L &&& 31)) = nI (2 ^ L) := bit_f ⟨L, by omega⟩
  intro q
  induction q with
  | zero =>
    intro w n hq hw2 hn
    obtain ⟨n, rfl⟩ : ∃ k, n = k + 1 := ⟨n - 1, by omega⟩
    obtain rfl : w = 2 ^ L := by omega
    rw [lX9_meanOf_9, d8, eb, if_pos (nI_le (Nat.le_refl _) (by omega))]
    rfl
  | succ q ih =>
    intro w n hq hw2 hn
    obtain ⟨n, rfl⟩ : ∃ k, n = k + 1 := ⟨n - 1, by omega⟩
    have ec : fX9_comesOut z (nI w) = some ((cow L 0 w z).1, (cow L 0 w z).2) := by
      have := cow_run (w0 := w) (by omega) L 0 FU z 1 (by omega) (by omega) (FU_lt (by omega)) hz
      rw [Nat.pow_zero, Nat.div_one, Int64.one_mul] at this
      exact this
    have ep : fX9_putsBack (cow L 0 w z).2 = some z := pb_back (tb_cow L 0 w z hz (by omega)) hk
    have es : ∀ v : Int32, v = wv x1 (cow L 0 w z).2 → bd (fX9_putsBack (cow L 0 w z).2) (fun z12 => lX9_meanOf_9 x1 n z12 (smL (fun w => (cow L 0 w z).1 * (wv x1 (cow L 0 w z).2).toInt64) w + (cow L 0 w z).1 * v.toInt64) (nI (w + 1))) = some (MSv (fun z => (wv x1 z).toInt64) L 0 z, z) := fun v hv => by
      rw [bd_eq ep, hv]
      exact ih (w + 1) n (by omega) (by omega) (by omega)
    rw [lX9_meanOf_9, d8, eb, if_neg (nI_ge (by omega) (by omega)), bd2_eq ec, nI_1]
    simp only [jn]
    rcases hx with rfl | ⟨f, hf, rfl⟩
    · rw [if_neg (by decide)]
      refine es _ ?_
      unfold wv
      rw [if_neg (by decide)]
    · have ef : fX9_faultOf (cow L 0 w z).2 (nI f) 4 = some (gT (cow L 0 w z).2 24 (44 + 6 * f + 4)) := fo_eq (j := 4) hf (by omega)
      have cf : (nI f).toNatClampNeg = f := nI_clamp (by omega)
      rw [if_pos (nI_ge0 (by omega)), bd_eq ef]
      by_cases c : gT (cow L 0 w z).2 24 (44 + 6 * f + 4) = 1
      · rw [if_pos c]
        refine es _ ?_
        unfold wv
        rw [if_pos (nI_ge0 (by omega)), cf, if_pos c]
      · rw [if_neg c]
        refine es _ ?_
        unfold wv
        rw [if_pos (nI_ge0 (by omega)), cf, if_neg c]
end S19

/-! The class's table of BEST goes along. -/
def PLC (n : Nat) (z8 z1 : Sx) (wk : List WT) : Prop := (∃ W : Nat, W ≤ n ∧ gI z8 4 = nI W ∧ ∀ x ∈ wk, (∃ S : Nat, S ≤ W ∧ gI x.2.2 0 = nI S) ∧ ∃ F : Nat, BW x.2.2 F) ∧ (∀ v w : Sx, (∃ x ∈ wk, x.2.2 = v) → (∃ x ∈ wk, x.2.2 = w) → gI v 0 = gI w 0 → v = w) ∧ BT (fun v => ∃ x ∈ wk, x.2.2 = v) z1
def JN (n : Nat) : CT := fun B2 B6 Q5 z8 z5 zd z1 z9 wk ru im => JG B2 B6 Q5 z8 z5 zd z1 z9 wk ru im ∧ PLC n z8 z1 wk ∧ LFz z9
section JDB
variable {B2 B6 : Nat → Option Nat} {Q5 : Nat → Nat} {z8 z5 zd z1 z9 : Sx} {wk : List WT} {ru : List RT} {im : List IT} {x1 x2 x3 x4 x5 : Int32} {n : Nat}
theorem plc_8 {w8 : Sx} (h : PLC n z8 z1 wk) (e : gI w8 4 = gI z8 4) : PLC (n + 1) w8 z1 wk := by
  obtain ⟨⟨W, h1, h2, h3⟩, h4, h5⟩ := h
  exact ⟨⟨W, by omega, e.trans h2, h3⟩, h4, h5⟩
theorem plc_up (h : PLC n z8 z1 wk) : PLC (n + 1) z8 z1 wk := plc_8 h rfl
theorem jn_up (h : JN n B2 B6 Q5 z8 z5 zd z1 z9 wk ru im) : JN (n + 1) B2 B6 Q5 z8 z5 zd z1 z9 wk ru im := ⟨h.1, plc_up h.2.1, h.2.2⟩
theorem plc_work {w8 w7 : Sx} {q : Nat} {Qw : Nat → Nat} (h : PLC n z8 z1 wk) (hn : n ≤ 511) (hb : ∃ F : Nat, BW w7 F) (e0 : gI w7 0 = gI z8 4 + 1) (e4 : gI w8 4 = gI z8 4 + 1) : PLC (n + 1) w8 z1 ((q, Qw, w7) :: wk) := by
  obtain ⟨⟨W, h1, h2, h3⟩, h4, h5⟩ := h
  rw [h2, nI_1] at e0 e4
  have fresh : ∀ x ∈ wk, ¬ gI x.2.2 0 = gI w7 0 := fun x hx k => by
    obtain ⟨⟨S, s1, s2⟩, -⟩ := h3 x hx
    rw [s2, e0] at k
    have := (nI_eq (by omega) (by omega)).1 k
    omega
  refine ⟨⟨W + 1, by omega, e4, fun x hx => ?_⟩, fun v w hv hw e => ?_, bt_imp h5 (fun v hv => ?_)⟩
  · rcases List.mem_cons.1 hx with rfl | hx
    · exact ⟨⟨W + 1, Nat.le_refl _, e0⟩, hb⟩
    · obtain ⟨⟨S, s1, s2⟩, s3⟩ := h3 x hx
      exact ⟨⟨S, by omega, s2⟩, s3⟩
  · obtain ⟨x, hx, rfl⟩ := hv
    obtain ⟨y, hy, rfl⟩ := hw
    rcases List.mem_cons.1 hx with rfl | hx
    · rcases List.mem_cons.1 hy with rfl | hy
      · rfl
      · exact absurd e.symm (fresh y hy)
    · rcases List.mem_cons.1 hy with rfl | hy
      · exact absurd e (fresh x hx)
      · exact h4 _ _ ⟨x, hx, rfl⟩ ⟨y, hy, rfl⟩ e
  · obtain ⟨x, hx, e⟩ := hv
    exact ⟨x, List.mem_cons_of_mem _ hx, e⟩
theorem jn_new {q : Nat} {Qw : Nat → Nat} : JN 0 (fun _ => none) (fun _ => none) Q5 Z0 Z0 Z0 Z0 Z0 [(q, Qw, Z0)] [] [] := by
  have z0 : (0 : Int32).toInt = 0 := by decide
  refine ⟨jg_new, ⟨⟨0, Nat.le_refl _, rfl, fun x hx => ?_⟩, fun v w hv hw _ => ?_, fun s _ => Or.inl rfl⟩, lfz_new⟩
  · have e : x = (q, Qw, Z0) := List.mem_singleton.1 hx
    subst e
    refine ⟨⟨0, Nat.le_refl _, rfl⟩, 0, rfl, by omega, fun g hg => by omega, ?_, fun i hi => by omega, fun g hg => by omega, fun i j _ hj => by omega⟩
    show 0 ≤ (0 : Int32).toInt ∧ (0 : Int32).toInt ≤ 99
    omega
  · obtain ⟨x, hx, rfl⟩ := hv
    obtain ⟨y, hy, rfl⟩ := hw
    rw [List.mem_singleton.1 hx, List.mem_singleton.1 hy]
theorem rule_4 {B : Nat → Option Nat} {z4 z6 : Sx} {y : Int32 × Sx × Sx × Sx} (h : JT z8 z9) (hy : fX8_rule_ok z8 B z4 z6 = some y ∨ fX8_rule_fail z8 B z4 z6 = some y) : gI y.2.1 4 = gI z8 4 := by
  obtain ⟨N, t, hT, ht, e, e2⟩ := id h
  by_cases c : t < 6
  · obtain ⟨w4, w6, w9, k | k⟩ := rule_whole (B := B) (z4 := z4) (z6 := z6) hT e e2 c
    · rw [k.1, k.2.1] at hy
      have hy := hy.resolve_right (fun q => by cases q)
      rw [← Option.some.inj hy]
      rfl
    · rw [k.1, k.2.1] at hy
      have hy := hy.resolve_left (fun q => by cases q)
      rw [← Option.some.inj hy]
      rfl
  · obtain rfl : t = 6 := by omega
    rcases hy with hy | hy
    · unfold fX8_rule_ok at hy
      rw [e, if_neg (by decide), if_neg (by decide)] at hy
      cases hy
    · unfold fX8_rule_fail at hy
      rw [e, if_neg (by decide), if_neg (by decide)] at hy
      rw [← Option.some.inj hy]
theorem wfail_4 {z4 z6 : Sx} {y : Int32 × Sx × Sx × Sx × Sx} (hy : fX8_work_fail z8 z5 zd z4 z6 = some y) : gI y.2.1 4 = gI z8 4 := by
  unfold fX8_work_fail at hy
  obtain ⟨a2, -, hy⟩ := bd_some hy
  obtain ⟨a4, a5, -, hy⟩ := bd2_some hy
  by_cases c : gI a5 8 = 0
  · rw [if_pos c] at hy; cases hy
  · rw [if_neg c] at hy
    rw [← Option.some.inj hy]
    rfl
theorem mo_feed {J J2 : CT} (hh : ∀ B2 B6 Q5 z8 z5 zd z1 z9 wk ru im, J B2 B6 Q5 z8 z5 zd z1 z9 wk ru im → J2 B2 B6 Q5 z8 z5 zd z1 z9 wk ru im) {r : Int32} (h : JX_feed J x1 x2 x3 x4 x5 r B2 B6 Q5 z8 z5 zd z1 z9 wk ru im) : JX_feed J2 x1 x2 x3 x4 x5 r B2 B6 Q5 z8 z5 zd z1 z9 wk ru im := by
  obtain ⟨z8o, y, hJ, hI, hy, e_r, e_z8⟩ := h
  exact ⟨z8o, y, hh _ _ _ _ _ _ _ _ _ _ _ hJ, hI, hy, e_r, e_z8⟩
theorem mo_end {J J2 : CT} (hh : ∀ B2 B6 Q5 z8 z5 zd z1 z9 wk ru im, J B2 B6 Q5 z8 z5 zd z1 z9 wk ru im → J2 B2 B6 Q5 z8 z5 zd z1 z9 wk ru im) {r : Int32} (h : JX_end J x1 r B2 B6 Q5 z8 z5 zd z1 z9 wk ru im) : JX_end J2 x1 r B2 B6 Q5 z8 z5 zd z1 z9 wk ru im := by
  obtain ⟨z8o, y, hJ, hI, hy, e_r, e_z8⟩ := h
  exact ⟨z8o, y, hh _ _ _ _ _ _ _ _ _ _ _ hJ, hI, hy, e_r, e_z8⟩
theorem mo_work_ok {J J2 : CT} (hh : ∀ B2 B6 Q5 z8 z5 zd z1 z9 wk ru im, J B2 B6 Q5 z8 z5 zd z1 z9 wk ru im → J2 B2 B6 Q5 z8 z5 zd z1 z9 wk ru im) {r : Int32} (h : JX_work_ok J r B2 B6 Q5 z8 z5 zd z1 z9 wk ru im) : JX_work_ok J2 r B2 B6 Q5 z8 z5 zd z1 z9 wk ru im := by
  obtain ⟨Q5o, z8o, z5o, zdo, wko, z4, z6, y, u, hJ, hI, hy, e_r, hfw, e_Q5, e_z8, e_z5, e_zd, e_wk⟩ := h
  exact ⟨Q5o, z8o, z5o, zdo, wko, z4, z6, y, u, hh _ _ _ _ _ _ _ _ _ _ _ hJ, hI, hy, e_r, hfw, e_Q5, e_z8, e_z5, e_zd, e_wk⟩
theorem mo_work_fail {J J2 : CT} (hh : ∀ B2 B6 Q5 z8 z5 zd z1 z9 wk ru im, J B2 B6 Q5 z8 z5 zd z1 z9 wk ru im → J2 B2 B6 Q5 z8 z5 zd z1 z9 wk ru im) {r : Int32} (h : JX_work_fail J r B2 B6 Q5 z8 z5 zd z1 z9 wk ru im) : JX_work_fail J2 r B2 B6 Q5 z8 z5 zd z1 z9 wk ru im := by
  obtain ⟨z8o, z5o, zdo, z4, z6, y, hJ, hI, hy, e_r, e_z8, e_z5, e_zd⟩ := h
  exact ⟨z8o, z5o, zdo, z4, z6, y, hh _ _ _ _ _ _ _ _ _ _ _ hJ, hI, hy, e_r, e_z8, e_z5, e_zd⟩
theorem mo_rule_ok {J J2 : CT} (hh : ∀ B2 B6 Q5 z8 z5 zd z1 z9 wk ru im, J B2 B6 Q5 z8 z5 zd z1 z9 wk ru im → J2 B2 B6 Q5 z8 z5 zd z1 z9 wk ru im) {r : Int32} (h : JX_rule_ok J r B2 B6 Q5 z8 z5 zd z1 z9 wk ru im) : JX_rule_ok J2 r B2 B6 Q5 z8 z5 zd z1 z9 wk ru im := by
  obtain ⟨B2o, z8o, ruo, z4, z6, y, u, hJ, hI, hy, e_r, hfu, e_B2, e_z8, e_ru⟩ := h
  exact ⟨B2o, z8o, ruo, z4, z6, y, u, hh _ _ _ _ _ _ _ _ _ _ _ hJ, hI, hy, e_r, hfu, e_B2, e_z8, e_ru⟩
theorem mo_rule_fail {J J2 : CT} (hh : ∀ B2 B6 Q5 z8 z5 zd z1 z9 wk ru im, J B2 B6 Q5 z8 z5 zd z1 z9 wk ru im → J2 B2 B6 Q5 z8 z5 zd z1 z9 wk ru im) {r : Int32} (h : JX_rule_fail J r B2 B6 Q5 z8 z5 zd z1 z9 wk ru im) : JX_rule_fail J2 r B2 B6 Q5 z8 z5 zd z1 z9 wk ru im := by
  obtain ⟨z8o, z4, z6, y, hJ, hI, hy, e_r, e_z8⟩ := h
  exact ⟨z8o, z4, z6, y, hh _ _ _ _ _ _ _ _ _ _ _ hJ, hI, hy, e_r, e_z8⟩
theorem mo_kind {J J2 : CT} (hh : ∀ B2 B6 Q5 z8 z5 zd z1 z9 wk ru im, J B2 B6 Q5 z8 z5 zd z1 z9 wk ru im → J2 B2 B6 Q5 z8 z5 zd z1 z9 wk ru im) {r : Int32} (h : JX_kind J x1 x2 r B2 B6 Q5 z8 z5 zd z1 z9 wk ru im) : JX_kind J2 x1 x2 r B2 B6 Q5 z8 z5 zd z1 z9 wk ru im := by
  obtain ⟨Qw, zw, y, hJ, hI, hwm, hy, e_r⟩ := h
  exact ⟨Qw, zw, y, hh _ _ _ _ _ _ _ _ _ _ _ hJ, hI, hwm, hy, e_r⟩
theorem mo_fault {J J2 : CT} (hh : ∀ B2 B6 Q5 z8 z5 zd z1 z9 wk ru im, J B2 B6 Q5 z8 z5 zd z1 z9 wk ru im → J2 B2 B6 Q5 z8 z5 zd z1 z9 wk ru im) {r : Int32} (h : JX_fault J x1 x2 r B2 B6 Q5 z8 z5 zd z1 z9 wk ru im) : JX_fault J2 x1 x2 r B2 B6 Q5 z8 z5 zd z1 z9 wk ru im := by
  obtain ⟨Qw, zw, y, hJ, hI, hwm, hy, e_r⟩ := h
  exact ⟨Qw, zw, y, hh _ _ _ _ _ _ _ _ _ _ _ hJ, hI, hwm, hy, e_r⟩
theorem mo_look {J J2 : CT} (hh : ∀ B2 B6 Q5 z8 z5 zd z1 z9 wk ru im, J B2 B6 Q5 z8 z5 zd z1 z9 wk ru im → J2 B2 B6 Q5 z8 z5 zd z1 z9 wk ru im) {r : Int32} (h : JX_look J x1 r B2 B6 Q5 z8 z5 zd z1 z9 wk ru im) : JX_look J2 x1 r B2 B6 Q5 z8 z5 zd z1 z9 wk ru im := by
  obtain ⟨zdo, Qw, zw, y, hJ, hI, hwm, hy, e_r, e_zd⟩ := h
  exact ⟨zdo, Qw, zw, y, hh _ _ _ _ _ _ _ _ _ _ _ hJ, hI, hwm, hy, e_r, e_zd⟩
theorem mo_fine {J J2 : CT} (hh : ∀ B2 B6 Q5 z8 z5 zd z1 z9 wk ru im, J B2 B6 Q5 z8 z5 zd z1 z9 wk ru im → J2 B2 B6 Q5 z8 z5 zd z1 z9 wk ru im) {r : Int32} (h : JX_fine J x1 r B2 B6 Q5 z8 z5 zd z1 z9 wk ru im) : JX_fine J2 x1 r B2 B6 Q5 z8 z5 zd z1 z9 wk ru im := by
  obtain ⟨zdo, Qw, zw, y, hJ, hI, hwm, hy, e_r, e_zd⟩ := h
  exact ⟨zdo, Qw, zw, y, hh _ _ _ _ _ _ _ _ _ _ _ hJ, hI, hwm, hy, e_r, e_zd⟩
theorem mo_mend {J J2 : CT} (hh : ∀ B2 B6 Q5 z8 z5 zd z1 z9 wk ru im, J B2 B6 Q5 z8 z5 zd z1 z9 wk ru im → J2 B2 B6 Q5 z8 z5 zd z1 z9 wk ru im) {r : Int32} (h : JX_mend J x1 r B2 B6 Q5 z8 z5 zd z1 z9 wk ru im) : JX_mend J2 x1 r B2 B6 Q5 z8 z5 zd z1 z9 wk ru im := by
  obtain ⟨z5o, zdo, Qw, zw, y, hJ, hI, hwm, hy, e_r, e_z5, e_zd⟩ := h
  exact ⟨z5o, zdo, Qw, zw, y, hh _ _ _ _ _ _ _ _ _ _ _ hJ, hI, hwm, hy, e_r, e_z5, e_zd⟩
theorem mo_dawn {J J2 : CT} (hh : ∀ B2 B6 Q5 z8 z5 zd z1 z9 wk ru im, J B2 B6 Q5 z8 z5 zd z1 z9 wk ru im → J2 B2 B6 Q5 z8 z5 zd z1 z9 wk ru im) {r : Int32} (h : JX_dawn J r B2 B6 Q5 z8 z5 zd z1 z9 wk ru im) : JX_dawn J2 r B2 B6 Q5 z8 z5 zd z1 z9 wk ru im := by
  obtain ⟨z5o, zdo, Qw, zw, y, hJ, hI, hwm, hy, e_r, e_z5, e_zd⟩ := h
  exact ⟨z5o, zdo, Qw, zw, y, hh _ _ _ _ _ _ _ _ _ _ _ hJ, hI, hwm, hy, e_r, e_z5, e_zd⟩
theorem mo_day_none {J J2 : CT} (hh : ∀ B2 B6 Q5 z8 z5 zd z1 z9 wk ru im, J B2 B6 Q5 z8 z5 zd z1 z9 wk ru im → J2 B2 B6 Q5 z8 z5 zd z1 z9 wk ru im) {r : Int32} (h : JX_day_none J x1 r B2 B6 Q5 z8 z5 zd z1 z9 wk ru im) : JX_day_none J2 x1 r B2 B6 Q5 z8 z5 zd z1 z9 wk ru im := by
  obtain ⟨Qw, zw, y, hJ, hI, hwm, hr0, hy, e_r⟩ := h
  exact ⟨Qw, zw, y, hh _ _ _ _ _ _ _ _ _ _ _ hJ, hI, hwm, hr0, hy, e_r⟩
theorem mo_day_some {J J2 : CT} (hh : ∀ B2 B6 Q5 z8 z5 zd z1 z9 wk ru im, J B2 B6 Q5 z8 z5 zd z1 z9 wk ru im → J2 B2 B6 Q5 z8 z5 zd z1 z9 wk ru im) {r : Int32} (h : JX_day_some J x1 r B2 B6 Q5 z8 z5 zd z1 z9 wk ru im) : JX_day_some J2 x1 r B2 B6 Q5 z8 z5 zd z1 z9 wk ru im := by
  obtain ⟨zdo, Qw, zw, qR, QR, nR, zR, z2, y, hJ, hI, hwm, hrm, hr0, hy, e_r, e_zd⟩ := h
  exact ⟨zdo, Qw, zw, qR, QR, nR, zR, z2, y, hh _ _ _ _ _ _ _ _ _ _ _ hJ, hI, hwm, hrm, hr0, hy, e_r, e_zd⟩
theorem mo_would_none {J J2 : CT} (hh : ∀ B2 B6 Q5 z8 z5 zd z1 z9 wk ru im, J B2 B6 Q5 z8 z5 zd z1 z9 wk ru im → J2 B2 B6 Q5 z8 z5 zd z1 z9 wk ru im) {r : Int32} (h : JX_would_none J x1 x2 r B2 B6 Q5 z8 z5 zd z1 z9 wk ru im) : JX_would_none J2 x1 x2 r B2 B6 Q5 z8 z5 zd z1 z9 wk ru im := by
  obtain ⟨Qw, zw, y, hJ, hI, hwm, hr0, hy, e_r⟩ := h
  exact ⟨Qw, zw, y, hh _ _ _ _ _ _ _ _ _ _ _ hJ, hI, hwm, hr0, hy, e_r⟩
theorem mo_would_some {J J2 : CT} (hh : ∀ B2 B6 Q5 z8 z5 zd z1 z9 wk ru im, J B2 B6 Q5 z8 z5 zd z1 z9 wk ru im → J2 B2 B6 Q5 z8 z5 zd z1 z9 wk ru im) {r : Int32} (h : JX_would_some J x1 x2 r B2 B6 Q5 z8 z5 zd z1 z9 wk ru im) : JX_would_some J2 x1 x2 r B2 B6 Q5 z8 z5 zd z1 z9 wk ru im := by
  obtain ⟨Qw, zw, qR, QR, nR, zR, zt, z2, y, hJ, hI, hwm, hrm, hr0, hy, e_r⟩ := h
  exact ⟨Qw, zw, qR, QR, nR, zR, zt, z2, y, hh _ _ _ _ _ _ _ _ _ _ _ hJ, hI, hwm, hrm, hr0, hy, e_r⟩
theorem mo_row {J J2 : CT} (hh : ∀ B2 B6 Q5 z8 z5 zd z1 z9 wk ru im, J B2 B6 Q5 z8 z5 zd z1 z9 wk ru im → J2 B2 B6 Q5 z8 z5 zd z1 z9 wk ru im) {r : Int32} (h : JX_row J x1 r B2 B6 Q5 z8 z5 zd z1 z9 wk ru im) : JX_row J2 x1 r B2 B6 Q5 z8 z5 zd z1 z9 wk ru im := by
  obtain ⟨z5o, Qw, zw, y, hJ, hI, hwm, hy, e_r, e_z5⟩ := h
  exact ⟨z5o, Qw, zw, y, hh _ _ _ _ _ _ _ _ _ _ _ hJ, hI, hwm, hy, e_r, e_z5⟩
theorem mo_worth {J J2 : CT} (hh : ∀ B2 B6 Q5 z8 z5 zd z1 z9 wk ru im, J B2 B6 Q5 z8 z5 zd z1 z9 wk ru im → J2 B2 B6 Q5 z8 z5 zd z1 z9 wk ru im) {r : Int64} (h : JX_worth J x1 r B2 B6 Q5 z8 z5 zd z1 z9 wk ru im) : JX_worth J2 x1 r B2 B6 Q5 z8 z5 zd z1 z9 wk ru im := by
  obtain ⟨Qw, zw, y, hJ, hI, hwm, hy, e_r⟩ := h
  exact ⟨Qw, zw, y, hh _ _ _ _ _ _ _ _ _ _ _ hJ, hI, hwm, hy, e_r⟩
theorem mo_seen {J J2 : CT} (hh : ∀ B2 B6 Q5 z8 z5 zd z1 z9 wk ru im, J B2 B6 Q5 z8 z5 zd z1 z9 wk ru im → J2 B2 B6 Q5 z8 z5 zd z1 z9 wk ru im) {r : Int64} (h : JX_seen J x1 x2 r B2 B6 Q5 z8 z5 zd z1 z9 wk ru im) : JX_seen J2 x1 x2 r B2 B6 Q5 z8 z5 zd z1 z9 wk ru im := by
  obtain ⟨Qw, zw, y, hJ, hI, hwm, hy, e_r⟩ := h
  exact ⟨Qw, zw, y, hh _ _ _ _ _ _ _ _ _ _ _ hJ, hI, hwm, hy, e_r⟩
theorem mo_best {J J2 : CT} (hh : ∀ B2 B6 Q5 z8 z5 zd z1 z9 wk ru im, J B2 B6 Q5 z8 z5 zd z1 z9 wk ru im → J2 B2 B6 Q5 z8 z5 zd z1 z9 wk ru im) {r : Int64} (h : JX_best J x1 x2 r B2 B6 Q5 z8 z5 zd z1 z9 wk ru im) : JX_best J2 x1 x2 r B2 B6 Q5 z8 z5 zd z1 z9 wk ru im := by
  obtain ⟨z1o, Qw, zw, y, hJ, hI, hwm, hy, e_r, e_z1⟩ := h
  exact ⟨z1o, Qw, zw, y, hh _ _ _ _ _ _ _ _ _ _ _ hJ, hI, hwm, hy, e_r, e_z1⟩
theorem mo_master {J J2 : CT} (hh : ∀ B2 B6 Q5 z8 z5 zd z1 z9 wk ru im, J B2 B6 Q5 z8 z5 zd z1 z9 wk ru im → J2 B2 B6 Q5 z8 z5 zd z1 z9 wk ru im) {r : Int64} (h : JX_master J x1 x2 r B2 B6 Q5 z8 z5 zd z1 z9 wk ru im) : JX_master J2 x1 x2 r B2 B6 Q5 z8 z5 zd z1 z9 wk ru im := by
  obtain ⟨z1o, Qw, zw, y, hJ, hI, hwm, hy, e_r, e_z1⟩ := h
  exact ⟨z1o, Qw, zw, y, hh _ _ _ _ _ _ _ _ _ _ _ hJ, hI, hwm, hy, e_r, e_z1⟩
theorem mo_game {J J2 : CT} (hh : ∀ B2 B6 Q5 z8 z5 zd z1 z9 wk ru im, J B2 B6 Q5 z8 z5 zd z1 z9 wk ru im → J2 B2 B6 Q5 z8 z5 zd z1 z9 wk ru im) {r : Int32} (h : JX_game J x1 x2 r B2 B6 Q5 z8 z5 zd z1 z9 wk ru im) : JX_game J2 x1 x2 r B2 B6 Q5 z8 z5 zd z1 z9 wk ru im := by
  obtain ⟨z5o, y, hJ, hI, hy, e_r, e_z5⟩ := h
  exact ⟨z5o, y, hh _ _ _ _ _ _ _ _ _ _ _ hJ, hI, hy, e_r, e_z5⟩
theorem mo_rests {J J2 : CT} (hh : ∀ B2 B6 Q5 z8 z5 zd z1 z9 wk ru im, J B2 B6 Q5 z8 z5 zd z1 z9 wk ru im → J2 B2 B6 Q5 z8 z5 zd z1 z9 wk ru im) {r : Int32} (h : JX_rests J r B2 B6 Q5 z8 z5 zd z1 z9 wk ru im) : JX_rests J2 r B2 B6 Q5 z8 z5 zd z1 z9 wk ru im := by
  obtain ⟨y, hJ, hI, hy, e_r⟩ := h
  exact ⟨y, hh _ _ _ _ _ _ _ _ _ _ _ hJ, hI, hy, e_r⟩
theorem mo_mixed {J J2 : CT} (hh : ∀ B2 B6 Q5 z8 z5 zd z1 z9 wk ru im, J B2 B6 Q5 z8 z5 zd z1 z9 wk ru im → J2 B2 B6 Q5 z8 z5 zd z1 z9 wk ru im) {r : Int32} (h : JX_mixed J x1 x2 r B2 B6 Q5 z8 z5 zd z1 z9 wk ru im) : JX_mixed J2 x1 x2 r B2 B6 Q5 z8 z5 zd z1 z9 wk ru im := by
  obtain ⟨y, hJ, hI, hy, e_r⟩ := h
  exact ⟨y, hh _ _ _ _ _ _ _ _ _ _ _ hJ, hI, hy, e_r⟩
theorem mo_checks {J J2 : CT} (hh : ∀ B2 B6 Q5 z8 z5 zd z1 z9 wk ru im, J B2 B6 Q5 z8 z5 zd z1 z9 wk ru im → J2 B2 B6 Q5 z8 z5 zd z1 z9 wk ru im) {r : Int32} (h : JX_checks J x1 x2 r B2 B6 Q5 z8 z5 zd z1 z9 wk ru im) : JX_checks J2 x1 x2 r B2 B6 Q5 z8 z5 zd z1 z9 wk ru im := by
  obtain ⟨y, hJ, hI, hy, e_r⟩ := h
  exact ⟨y, hh _ _ _ _ _ _ _ _ _ _ _ hJ, hI, hy, e_r⟩
theorem mo_fits {J J2 : CT} (hh : ∀ B2 B6 Q5 z8 z5 zd z1 z9 wk ru im, J B2 B6 Q5 z8 z5 zd z1 z9 wk ru im → J2 B2 B6 Q5 z8 z5 zd z1 z9 wk ru im) {r : Int32} (h : JX_fits J x1 x2 r B2 B6 Q5 z8 z5 zd z1 z9 wk ru im) : JX_fits J2 x1 x2 r B2 B6 Q5 z8 z5 zd z1 z9 wk ru im := by
  obtain ⟨Qw, zw, y, hJ, hI, hwm, hy, e_r⟩ := h
  exact ⟨Qw, zw, y, hh _ _ _ _ _ _ _ _ _ _ _ hJ, hI, hwm, hy, e_r⟩
theorem mo_seed {J J2 : CT} (hh : ∀ B2 B6 Q5 z8 z5 zd z1 z9 wk ru im, J B2 B6 Q5 z8 z5 zd z1 z9 wk ru im → J2 B2 B6 Q5 z8 z5 zd z1 z9 wk ru im) {r : Int32} (h : JX_seed J x1 r B2 B6 Q5 z8 z5 zd z1 z9 wk ru im) : JX_seed J2 x1 r B2 B6 Q5 z8 z5 zd z1 z9 wk ru im := by
  obtain ⟨zdo, y, hJ, hI, hy, e_r, e_zd⟩ := h
  exact ⟨zdo, y, hh _ _ _ _ _ _ _ _ _ _ _ hJ, hI, hy, e_r, e_zd⟩
theorem mo_weeks_none {J J2 : CT} (hh : ∀ B2 B6 Q5 z8 z5 zd z1 z9 wk ru im, J B2 B6 Q5 z8 z5 zd z1 z9 wk ru im → J2 B2 B6 Q5 z8 z5 zd z1 z9 wk ru im) {r : Int32} (h : JX_weeks_none J x1 x2 x3 r B2 B6 Q5 z8 z5 zd z1 z9 wk ru im) : JX_weeks_none J2 x1 x2 x3 r B2 B6 Q5 z8 z5 zd z1 z9 wk ru im := by
  obtain ⟨Qw, zw, y, hJ, hI, hwm, hr0, hy, e_r⟩ := h
  exact ⟨Qw, zw, y, hh _ _ _ _ _ _ _ _ _ _ _ hJ, hI, hwm, hr0, hy, e_r⟩
theorem mo_weeks_some {J J2 : CT} (hh : ∀ B2 B6 Q5 z8 z5 zd z1 z9 wk ru im, J B2 B6 Q5 z8 z5 zd z1 z9 wk ru im → J2 B2 B6 Q5 z8 z5 zd z1 z9 wk ru im) {r : Int32} (h : JX_weeks_some J x1 x2 x3 r B2 B6 Q5 z8 z5 zd z1 z9 wk ru im) : JX_weeks_some J2 x1 x2 x3 r B2 B6 Q5 z8 z5 zd z1 z9 wk ru im := by
  obtain ⟨Qw, zw, qR, QR, nR, zR, zt, z2, y, hJ, hI, hwm, hrm, hr0, hy, e_r⟩ := h
  exact ⟨Qw, zw, qR, QR, nR, zR, zt, z2, y, hh _ _ _ _ _ _ _ _ _ _ _ hJ, hI, hwm, hrm, hr0, hy, e_r⟩
theorem mo_count {J J2 : CT} (hh : ∀ B2 B6 Q5 z8 z5 zd z1 z9 wk ru im, J B2 B6 Q5 z8 z5 zd z1 z9 wk ru im → J2 B2 B6 Q5 z8 z5 zd z1 z9 wk ru im) {r : Int32} (h : JX_count J x1 r B2 B6 Q5 z8 z5 zd z1 z9 wk ru im) : JX_count J2 x1 r B2 B6 Q5 z8 z5 zd z1 z9 wk ru im := by
  obtain ⟨Qw, zw, y, hJ, hI, hwm, hy, e_r⟩ := h
  exact ⟨Qw, zw, y, hh _ _ _ _ _ _ _ _ _ _ _ hJ, hI, hwm, hy, e_r⟩
theorem mo_coins {J J2 : CT} (hh : ∀ B2 B6 Q5 z8 z5 zd z1 z9 wk ru im, J B2 B6 Q5 z8 z5 zd z1 z9 wk ru im → J2 B2 B6 Q5 z8 z5 zd z1 z9 wk ru im) {r : Int32} (h : JX_coins J x1 r B2 B6 Q5 z8 z5 zd z1 z9 wk ru im) : JX_coins J2 x1 r B2 B6 Q5 z8 z5 zd z1 z9 wk ru im := by
  obtain ⟨y, hJ, hI, hy, e_r⟩ := h
  exact ⟨y, hh _ _ _ _ _ _ _ _ _ _ _ hJ, hI, hy, e_r⟩
theorem mo_image_none {J J2 : CT} (hh : ∀ B2 B6 Q5 z8 z5 zd z1 z9 wk ru im, J B2 B6 Q5 z8 z5 zd z1 z9 wk ru im → J2 B2 B6 Q5 z8 z5 zd z1 z9 wk ru im) {r : Int32} (h : JX_image_none J x1 r B2 B6 Q5 z8 z5 zd z1 z9 wk ru im) : JX_image_none J2 x1 r B2 B6 Q5 z8 z5 zd z1 z9 wk ru im := by
  obtain ⟨B6o, imo, y, u, hJ, hI, cx, hB, hy, e_r, hfr, e_B6, e_im⟩ := h
  exact ⟨B6o, imo, y, u, hh _ _ _ _ _ _ _ _ _ _ _ hJ, hI, cx, hB, hy, e_r, hfr, e_B6, e_im⟩
theorem mo_image_some {J J2 : CT} (hh : ∀ B2 B6 Q5 z8 z5 zd z1 z9 wk ru im, J B2 B6 Q5 z8 z5 zd z1 z9 wk ru im → J2 B2 B6 Q5 z8 z5 zd z1 z9 wk ru im) {r : Int32} (h : JX_image_some J x1 r B2 B6 Q5 z8 z5 zd z1 z9 wk ru im) : JX_image_some J2 x1 r B2 B6 Q5 z8 z5 zd z1 z9 wk ru im := by
  obtain ⟨imo, qR, QR, zR, QE, zE, y, imr, hJ, hI, him, hun, cx, hB, hy, e_r, hi1, hi2, e_im⟩ := h
  exact ⟨imo, qR, QR, zR, QE, zE, y, imr, hh _ _ _ _ _ _ _ _ _ _ _ hJ, hI, him, hun, cx, hB, hy, e_r, hi1, hi2, e_im⟩
theorem mo_image_out {J J2 : CT} (hh : ∀ B2 B6 Q5 z8 z5 zd z1 z9 wk ru im, J B2 B6 Q5 z8 z5 zd z1 z9 wk ru im → J2 B2 B6 Q5 z8 z5 zd z1 z9 wk ru im) {r : Int32} (h : JX_image_out J x1 r B2 B6 Q5 z8 z5 zd z1 z9 wk ru im) : JX_image_out J2 x1 r B2 B6 Q5 z8 z5 zd z1 z9 wk ru im := by
  obtain ⟨hJ, hI, cx, e_r⟩ := h
  exact ⟨hh _ _ _ _ _ _ _ _ _ _ _ hJ, hI, cx, e_r⟩
theorem mo_back_none {J J2 : CT} (hh : ∀ B2 B6 Q5 z8 z5 zd z1 z9 wk ru im, J B2 B6 Q5 z8 z5 zd z1 z9 wk ru im → J2 B2 B6 Q5 z8 z5 zd z1 z9 wk ru im) {r : Int32} (h : JX_back_none J x1 r B2 B6 Q5 z8 z5 zd z1 z9 wk ru im) : JX_back_none J2 x1 r B2 B6 Q5 z8 z5 zd z1 z9 wk ru im := by
  obtain ⟨y, hJ, hI, cx, hB, hy, e_r⟩ := h
  exact ⟨y, hh _ _ _ _ _ _ _ _ _ _ _ hJ, hI, cx, hB, hy, e_r⟩
theorem mo_back_some {J J2 : CT} (hh : ∀ B2 B6 Q5 z8 z5 zd z1 z9 wk ru im, J B2 B6 Q5 z8 z5 zd z1 z9 wk ru im → J2 B2 B6 Q5 z8 z5 zd z1 z9 wk ru im) {r : Int32} (h : JX_back_some J x1 r B2 B6 Q5 z8 z5 zd z1 z9 wk ru im) : JX_back_some J2 x1 r B2 B6 Q5 z8 z5 zd z1 z9 wk ru im := by
  obtain ⟨Q5o, z5o, zdo, qR, QR, zR, QE, zE, y, hJ, hI, him, hun, cx, hB, hy, e_r, e_Q5, e_z5, e_zd⟩ := h
  exact ⟨Q5o, z5o, zdo, qR, QR, zR, QE, zE, y, hh _ _ _ _ _ _ _ _ _ _ _ hJ, hI, him, hun, cx, hB, hy, e_r, e_Q5, e_z5, e_zd⟩
theorem mo_back_out {J J2 : CT} (hh : ∀ B2 B6 Q5 z8 z5 zd z1 z9 wk ru im, J B2 B6 Q5 z8 z5 zd z1 z9 wk ru im → J2 B2 B6 Q5 z8 z5 zd z1 z9 wk ru im) {r : Int32} (h : JX_back_out J x1 r B2 B6 Q5 z8 z5 zd z1 z9 wk ru im) : JX_back_out J2 x1 r B2 B6 Q5 z8 z5 zd z1 z9 wk ru im := by
  obtain ⟨hJ, hI, cx, e_r⟩ := h
  exact ⟨hh _ _ _ _ _ _ _ _ _ _ _ hJ, hI, cx, e_r⟩
theorem mm_feed {r8 r9 : Int32} (h : JM_feed (JX_feed (JN n) x1 x2 x3 x4 x5 r8) x1 x2 x3 x4 x5 r9 B2 B6 Q5 z8 z5 zd z1 z9 wk ru im) : JM_feed (JX_feed JG x1 x2 x3 x4 x5 r8) x1 x2 x3 x4 x5 r9 B2 B6 Q5 z8 z5 zd z1 z9 wk ru im := by
  obtain ⟨z0, y9, hX, hR, hy9, e9, ez⟩ := h
  exact ⟨z0, y9, mo_feed (fun _ _ _ _ _ _ _ _ _ _ _ q => q.1) hX, hR, hy9, e9, ez⟩
theorem mm_end {r8 r9 : Int32} (h : JM_end (JX_end (JN n) x1 r8) x1 r9 B2 B6 Q5 z8 z5 zd z1 z9 wk ru im) : JM_end (JX_end JG x1 r8) x1 r9 B2 B6 Q5 z8 z5 zd z1 z9 wk ru im := by
  obtain ⟨z0, y9, hX, hR, hy9, e9, ez⟩ := h
  exact ⟨z0, y9, mo_end (fun _ _ _ _ _ _ _ _ _ _ _ q => q.1) hX, hR, hy9, e9, ez⟩
theorem mm_work {r8 r9 : Int32} (h : JM_work (JX_work (JN n) r8) r9 B2 B6 Q5 z8 z5 zd z1 z9 wk ru im) : JM_work (JX_work JG r8) r9 B2 B6 Q5 z8 z5 zd z1 z9 wk ru im := by
  obtain ⟨z0, y9, hX, hR, hy9, e9, ez⟩ := h
  rcases hX with hX | hX
  · exact ⟨z0, y9, (Or.inl (mo_work_ok (fun _ _ _ _ _ _ _ _ _ _ _ q => q.1) hX)), hR, hy9, e9, ez⟩
  · exact ⟨z0, y9, (Or.inr (mo_work_fail (fun _ _ _ _ _ _ _ _ _ _ _ q => q.1) hX)), hR, hy9, e9, ez⟩
theorem mm_rule {r8 r9 : Int32} (h : JM_rule (JX_rule (JN n) r8) r9 B2 B6 Q5 z8 z5 zd z1 z9 wk ru im) : JM_rule (JX_rule JG r8) r9 B2 B6 Q5 z8 z5 zd z1 z9 wk ru im := by
  obtain ⟨z0, y9, hX, hR, hy9, e9, ez⟩ := h
  rcases hX with hX | hX
  · exact ⟨z0, y9, (Or.inl (mo_rule_ok (fun _ _ _ _ _ _ _ _ _ _ _ q => q.1) hX)), hR, hy9, e9, ez⟩
  · exact ⟨z0, y9, (Or.inr (mo_rule_fail (fun _ _ _ _ _ _ _ _ _ _ _ q => q.1) hX)), hR, hy9, e9, ez⟩
theorem mm_kind {r8 r9 : Int32} (h : JM_kind (JX_kind (JN n) x1 x2 r8) x1 x2 r9 B2 B6 Q5 z8 z5 zd z1 z9 wk ru im) : JM_kind (JX_kind JG x1 x2 r8) x1 x2 r9 B2 B6 Q5 z8 z5 zd z1 z9 wk ru im := by
  obtain ⟨hX, hR, hy9⟩ := h
  exact ⟨mo_kind (fun _ _ _ _ _ _ _ _ _ _ _ q => q.1) hX, hR, hy9⟩
theorem sn_kind (hn : n ≤ 511) {r8 r9 : Int32} (h : JM_kind (JX_kind (JN n) x1 x2 r8) x1 x2 r9 B2 B6 Q5 z8 z5 zd z1 z9 wk ru im) : JN (n + 1) B2 B6 Q5 z8 z5 zd z1 z9 wk ru im := by
  have h1 := st_kind (mm_kind h)
  obtain ⟨hX, -, -⟩ := h
  obtain ⟨Qw, zw, y, hJ, hI, hwm, hy, e_r⟩ := hX
  exact ⟨h1, plc_up hJ.2.1, hJ.2.2⟩
theorem mm_fault {r8 r9 : Int32} (h : JM_fault (JX_fault (JN n) x1 x2 r8) x1 x2 r9 B2 B6 Q5 z8 z5 zd z1 z9 wk ru im) : JM_fault (JX_fault JG x1 x2 r8) x1 x2 r9 B2 B6 Q5 z8 z5 zd z1 z9 wk ru im := by
  obtain ⟨hX, hR, hy9⟩ := h
  exact ⟨mo_fault (fun _ _ _ _ _ _ _ _ _ _ _ q => q.1) hX, hR, hy9⟩
theorem sn_fault (hn : n ≤ 511) {r8 r9 : Int32} (h : JM_fault (JX_fault (JN n) x1 x2 r8) x1 x2 r9 B2 B6 Q5 z8 z5 zd z1 z9 wk ru im) : JN (n + 1) B2 B6 Q5 z8 z5 zd z1 z9 wk ru im := by
  have h1 := st_fault (mm_fault h)
  obtain ⟨hX, -, -⟩ := h
  obtain ⟨Qw, zw, y, hJ, hI, hwm, hy, e_r⟩ := hX
  exact ⟨h1, plc_up hJ.2.1, hJ.2.2⟩
theorem mm_look {r8 r9 : Int32} (h : JM_look (JX_look (JN n) x1 r8) x1 r9 B2 B6 Q5 z8 z5 zd z1 z9 wk ru im) : JM_look (JX_look JG x1 r8) x1 r9 B2 B6 Q5 z8 z5 zd z1 z9 wk ru im := by
  obtain ⟨z0, y9, hX, hR, hy9, e9, ez⟩ := h
  exact ⟨z0, y9, mo_look (fun _ _ _ _ _ _ _ _ _ _ _ q => q.1) hX, hR, hy9, e9, ez⟩
theorem mm_fine {r8 r9 : Int32} (h : JM_fine (JX_fine (JN n) x1 r8) x1 r9 B2 B6 Q5 z8 z5 zd z1 z9 wk ru im) : JM_fine (JX_fine JG x1 r8) x1 r9 B2 B6 Q5 z8 z5 zd z1 z9 wk ru im := by
  obtain ⟨z0, y9, hX, hR, hy9, e9, ez⟩ := h
  exact ⟨z0, y9, mo_fine (fun _ _ _ _ _ _ _ _ _ _ _ q => q.1) hX, hR, hy9, e9, ez⟩
theorem mm_mend {r8 r9 : Int32} (h : JM_mend (JX_mend (JN n) x1 r8) x1 r9 B2 B6 Q5 z8 z5 zd z1 z9 wk ru im) : JM_mend (JX_mend JG x1 r8) x1 r9 B2 B6 Q5 z8 z5 zd z1 z9 wk ru im := by
  obtain ⟨z0, y9, hX, hR, hy9, e9, ez⟩ := h
  exact ⟨z0, y9, mo_mend (fun _ _ _ _ _ _ _ _ _ _ _ q => q.1) hX, hR, hy9, e9, ez⟩
theorem mm_dawn {r8 r9 : Int32} (h : JM_dawn (JX_dawn (JN n) r8) r9 B2 B6 Q5 z8 z5 zd z1 z9 wk ru im) : JM_dawn (JX_dawn JG r8) r9 B2 B6 Q5 z8 z5 zd z1 z9 wk ru im := by
  obtain ⟨z0, y9, hX, hR, hy9, e9, ez⟩ := h
  exact ⟨z0, y9, mo_dawn (fun _ _ _ _ _ _ _ _ _ _ _ q => q.1) hX, hR, hy9, e9, ez⟩
theorem mm_day {r8 r9 : Int32} (h : JM_day (JX_day (JN n) x1 r8) x1 r9 B2 B6 Q5 z8 z5 zd z1 z9 wk ru im) : JM_day (JX_day JG x1 r8) x1 r9 B2 B6 Q5 z8 z5 zd z1 z9 wk ru im := by
  obtain ⟨z0, y9, hX, hR, hy9, e9, ez⟩ := h
  rcases hX with hX | hX
  · exact ⟨z0, y9, (Or.inl (mo_day_none (fun _ _ _ _ _ _ _ _ _ _ _ q => q.1) hX)), hR, hy9, e9, ez⟩
  · exact ⟨z0, y9, (Or.inr (mo_day_some (fun _ _ _ _ _ _ _ _ _ _ _ q => q.1) hX)), hR, hy9, e9, ez⟩
theorem mm_would {r8 r9 : Int32} (h : JM_would (JX_would (JN n) x1 x2 r8) x1 x2 r9 B2 B6 Q5 z8 z5 zd z1 z9 wk ru im) : JM_would (JX_would JG x1 x2 r8) x1 x2 r9 B2 B6 Q5 z8 z5 zd z1 z9 wk ru im := by
  obtain ⟨z0, y9, hX, hR, hy9, e9, ez⟩ := h
  rcases hX with hX | hX
  · exact ⟨z0, y9, (Or.inl (mo_would_none (fun _ _ _ _ _ _ _ _ _ _ _ q => q.1) hX)), hR, hy9, e9, ez⟩
  · exact ⟨z0, y9, (Or.inr (mo_would_some (fun _ _ _ _ _ _ _ _ _ _ _ q => q.1) hX)), hR, hy9, e9, ez⟩
theorem sn_would (hn : n ≤ 511) {r8 r9 : Int32} (h : JM_would (JX_would (JN n) x1 x2 r8) x1 x2 r9 B2 B6 Q5 z8 z5 zd z1 z9 wk ru im) : JN (n + 1) B2 B6 Q5 z8 z5 zd z1 z9 wk ru im := by
  have h1 := st_would (mm_would h)
  obtain ⟨z0, y9, hX, hR, hy9, -, ez⟩ := h
  subst ez
  rcases hX with hX | hX
  · obtain ⟨Qw, zw, y, hJ, hI, hwm, hr0, hy, e_r⟩ := hX
    exact ⟨h1, plc_up hJ.2.1, lfz_Eo hJ.2.2 (e_would hR) hy9⟩
  · obtain ⟨Qw, zw, qR, QR, nR, zR, zt, z2, y, hJ, hI, hwm, hrm, hr0, hy, e_r⟩ := hX
    exact ⟨h1, plc_up hJ.2.1, lfz_Eo hJ.2.2 (e_would hR) hy9⟩
theorem mm_row {r8 r9 : Int32} (h : JM_row (JX_row (JN n) x1 r8) x1 r9 B2 B6 Q5 z8 z5 zd z1 z9 wk ru im) : JM_row (JX_row JG x1 r8) x1 r9 B2 B6 Q5 z8 z5 zd z1 z9 wk ru im := by
  obtain ⟨z0, y9, hX, hR, hy9, e9, ez⟩ := h
  exact ⟨z0, y9, mo_row (fun _ _ _ _ _ _ _ _ _ _ _ q => q.1) hX, hR, hy9, e9, ez⟩
theorem mm_worth {r8 r9 : Int64} (h : JM_worth (JX_worth (JN n) x1 r8) x1 r9 B2 B6 Q5 z8 z5 zd z1 z9 wk ru im) : JM_worth (JX_worth JG x1 r8) x1 r9 B2 B6 Q5 z8 z5 zd z1 z9 wk ru im := by
  obtain ⟨z0, y9, hX, hR, hy9, e9, ez⟩ := h
  exact ⟨z0, y9, mo_worth (fun _ _ _ _ _ _ _ _ _ _ _ q => q.1) hX, hR, hy9, e9, ez⟩
theorem sn_worth (hn : n ≤ 511) {r8 r9 : Int64} (h : JM_worth (JX_worth (JN n) x1 r8) x1 r9 B2 B6 Q5 z8 z5 zd z1 z9 wk ru im) : JN (n + 1) B2 B6 Q5 z8 z5 zd z1 z9 wk ru im := by
  have h1 := st_worth (mm_worth h)
  obtain ⟨z0, y9, hX, hR, hy9, -, ez⟩ := h
  subst ez
  obtain ⟨Qw, zw, y, hJ, hI, hwm, hy, e_r⟩ := hX
  exact ⟨h1, plc_up hJ.2.1, lfz_Eo hJ.2.2 (e_worth hR) hy9⟩
theorem mm_seen {r8 r9 : Int64} (h : JM_seen (JX_seen (JN n) x1 x2 r8) x1 x2 r9 B2 B6 Q5 z8 z5 zd z1 z9 wk ru im) : JM_seen (JX_seen JG x1 x2 r8) x1 x2 r9 B2 B6 Q5 z8 z5 zd z1 z9 wk ru im := by
  obtain ⟨z0, y9, hX, hR, hy9, e9, ez⟩ := h
  exact ⟨z0, y9, mo_seen (fun _ _ _ _ _ _ _ _ _ _ _ q => q.1) hX, hR, hy9, e9, ez⟩
theorem sn_seen (hn : n ≤ 511) {r8 r9 : Int64} (h : JM_seen (JX_seen (JN n) x1 x2 r8) x1 x2 r9 B2 B6 Q5 z8 z5 zd z1 z9 wk ru im) : JN (n + 1) B2 B6 Q5 z8 z5 zd z1 z9 wk ru im := by
  have h1 := st_seen (mm_seen h)
  obtain ⟨z0, y9, hX, hR, hy9, -, ez⟩ := h
  subst ez
  obtain ⟨Qw, zw, y, hJ, hI, hwm, hy, e_r⟩ := hX
  exact ⟨h1, plc_up hJ.2.1, lfz_Eo hJ.2.2 (e_seen hR) hy9⟩
theorem mm_best {r8 r9 : Int64} (h : JM_best (JX_best (JN n) x1 x2 r8) x1 x2 r9 B2 B6 Q5 z8 z5 zd z1 z9 wk ru im) : JM_best (JX_best JG x1 x2 r8) x1 x2 r9 B2 B6 Q5 z8 z5 zd z1 z9 wk ru im := by
  obtain ⟨z0, y9, hX, hR, hy9, e9, ez⟩ := h
  exact ⟨z0, y9, mo_best (fun _ _ _ _ _ _ _ _ _ _ _ q => q.1) hX, hR, hy9, e9, ez⟩
theorem mm_master {r8 r9 : Int64} (h : JM_master (JX_master (JN n) x1 x2 r8) x1 x2 r9 B2 B6 Q5 z8 z5 zd z1 z9 wk ru im) : JM_master (JX_master JG x1 x2 r8) x1 x2 r9 B2 B6 Q5 z8 z5 zd z1 z9 wk ru im := by
  obtain ⟨z0, y9, hX, hR, hy9, e9, ez⟩ := h
  exact ⟨z0, y9, mo_master (fun _ _ _ _ _ _ _ _ _ _ _ q => q.1) hX, hR, hy9, e9, ez⟩
theorem mm_game {r8 r9 : Int32} (h : JM_game (JX_game (JN n) x1 x2 r8) x1 x2 r9 B2 B6 Q5 z8 z5 zd z1 z9 wk ru im) : JM_game (JX_game JG x1 x2 r8) x1 x2 r9 B2 B6 Q5 z8 z5 zd z1 z9 wk ru im := by
  obtain ⟨z0, y9, hX, hR, hy9, e9, ez⟩ := h
  exact ⟨z0, y9, mo_game (fun _ _ _ _ _ _ _ _ _ _ _ q => q.1) hX, hR, hy9, e9, ez⟩
theorem mm_rests {r8 r9 : Int32} (h : JM_rests (JX_rests (JN n) r8) r9 B2 B6 Q5 z8 z5 zd z1 z9 wk ru im) : JM_rests (JX_rests JG r8) r9 B2 B6 Q5 z8 z5 zd z1 z9 wk ru im := by
  obtain ⟨hX, hR, hy9⟩ := h
  exact ⟨mo_rests (fun _ _ _ _ _ _ _ _ _ _ _ q => q.1) hX, hR, hy9⟩
theorem sn_rests (hn : n ≤ 511) {r8 r9 : Int32} (h : JM_rests (JX_rests (JN n) r8) r9 B2 B6 Q5 z8 z5 zd z1 z9 wk ru im) : JN (n + 1) B2 B6 Q5 z8 z5 zd z1 z9 wk ru im := by
  have h1 := st_rests (mm_rests h)
  obtain ⟨hX, -, -⟩ := h
  obtain ⟨y, hJ, hI, hy, e_r⟩ := hX
  exact ⟨h1, plc_up hJ.2.1, hJ.2.2⟩
theorem mm_mixed {r8 r9 : Int32} (h : JM_mixed (JX_mixed (JN n) x1 x2 r8) x1 x2 r9 B2 B6 Q5 z8 z5 zd z1 z9 wk ru im) : JM_mixed (JX_mixed JG x1 x2 r8) x1 x2 r9 B2 B6 Q5 z8 z5 zd z1 z9 wk ru im := by
  obtain ⟨hX, hR, hy9⟩ := h
  exact ⟨mo_mixed (fun _ _ _ _ _ _ _ _ _ _ _ q => q.1) hX, hR, hy9⟩
theorem sn_mixed (hn : n ≤ 511) {r8 r9 : Int32} (h : JM_mixed (JX_mixed (JN n) x1 x2 r8) x1 x2 r9 B2 B6 Q5 z8 z5 zd z1 z9 wk ru im) : JN (n + 1) B2 B6 Q5 z8 z5 zd z1 z9 wk ru im := by
  have h1 := st_mixed (mm_mixed h)
  obtain ⟨hX, -, -⟩ := h
  obtain ⟨y, hJ, hI, hy, e_r⟩ := hX
  exact ⟨h1, plc_up hJ.2.1, hJ.2.2⟩
theorem mm_checks {r8 r9 : Int32} (h : JM_checks (JX_checks (JN n) x1 x2 r8) x1 x2 r9 B2 B6 Q5 z8 z5 zd z1 z9 wk ru im) : JM_checks (JX_checks JG x1 x2 r8) x1 x2 r9 B2 B6 Q5 z8 z5 zd z1 z9 wk ru im := by
  obtain ⟨hX, hR, hy9⟩ := h
  exact ⟨mo_checks (fun _ _ _ _ _ _ _ _ _ _ _ q => q.1) hX, hR, hy9⟩
theorem sn_checks (hn : n ≤ 511) {r8 r9 : Int32} (h : JM_checks (JX_checks (JN n) x1 x2 r8) x1 x2 r9 B2 B6 Q5 z8 z5 zd z1 z9 wk ru im) : JN (n + 1) B2 B6 Q5 z8 z5 zd z1 z9 wk ru im := by
  have h1 := st_checks (mm_checks h)
  obtain ⟨hX, -, -⟩ := h
  obtain ⟨y, hJ, hI, hy, e_r⟩ := hX
  exact ⟨h1, plc_up hJ.2.1, hJ.2.2⟩
theorem mm_fits {r8 r9 : Int32} (h : JM_fits (JX_fits (JN n) x1 x2 r8) x1 x2 r9 B2 B6 Q5 z8 z5 zd z1 z9 wk ru im) : JM_fits (JX_fits JG x1 x2 r8) x1 x2 r9 B2 B6 Q5 z8 z5 zd z1 z9 wk ru im := by
  obtain ⟨hX, hR, hy9⟩ := h
  exact ⟨mo_fits (fun _ _ _ _ _ _ _ _ _ _ _ q => q.1) hX, hR, hy9⟩
theorem sn_fits (hn : n ≤ 511) {r8 r9 : Int32} (h : JM_fits (JX_fits (JN n) x1 x2 r8) x1 x2 r9 B2 B6 Q5 z8 z5 zd z1 z9 wk ru im) : JN (n + 1) B2 B6 Q5 z8 z5 zd z1 z9 wk ru im := by
  have h1 := st_fits (mm_fits h)
  obtain ⟨hX, -, -⟩ := h
  obtain ⟨Qw, zw, y, hJ, hI, hwm, hy, e_r⟩ := hX
  exact ⟨h1, plc_up hJ.2.1, hJ.2.2⟩
theorem mm_seed {r8 r9 : Int32} (h : JM_seed (JX_seed (JN n) x1 r8) x1 r9 B2 B6 Q5 z8 z5 zd z1 z9 wk ru im) : JM_seed (JX_seed JG x1 r8) x1 r9 B2 B6 Q5 z8 z5 zd z1 z9 wk ru im := by
  obtain ⟨z0, y9, hX, hR, hy9, e9, ez⟩ := h
  exact ⟨z0, y9, mo_seed (fun _ _ _ _ _ _ _ _ _ _ _ q => q.1) hX, hR, hy9, e9, ez⟩
theorem mm_weeks {r8 r9 : Int32} (h : JM_weeks (JX_weeks (JN n) x1 x2 x3 r8) x1 x2 x3 r9 B2 B6 Q5 z8 z5 zd z1 z9 wk ru im) : JM_weeks (JX_weeks JG x1 x2 x3 r8) x1 x2 x3 r9 B2 B6 Q5 z8 z5 zd z1 z9 wk ru im := by
  obtain ⟨z0, y9, hX, hR, hy9, e9, ez⟩ := h
  rcases hX with hX | hX
  · exact ⟨z0, y9, (Or.inl (mo_weeks_none (fun _ _ _ _ _ _ _ _ _ _ _ q => q.1) hX)), hR, hy9, e9, ez⟩
  · exact ⟨z0, y9, (Or.inr (mo_weeks_some (fun _ _ _ _ _ _ _ _ _ _ _ q => q.1) hX)), hR, hy9, e9, ez⟩
theorem sn_weeks (hn : n ≤ 511) {r8 r9 : Int32} (h : JM_weeks (JX_weeks (JN n) x1 x2 x3 r8) x1 x2 x3 r9 B2 B6 Q5 z8 z5 zd z1 z9 wk ru im) : JN (n + 1) B2 B6 Q5 z8 z5 zd z1 z9 wk ru im := by
  have h1 := st_weeks (mm_weeks h)
  obtain ⟨z0, y9, hX, hR, hy9, -, ez⟩ := h
  subst ez
  rcases hX with hX | hX
  · obtain ⟨Qw, zw, y, hJ, hI, hwm, hr0, hy, e_r⟩ := hX
    exact ⟨h1, plc_up hJ.2.1, lfz_Eo hJ.2.2 (e_weeks hR) hy9⟩
  · obtain ⟨Qw, zw, qR, QR, nR, zR, zt, z2, y, hJ, hI, hwm, hrm, hr0, hy, e_r⟩ := hX
    exact ⟨h1, plc_up hJ.2.1, lfz_Eo hJ.2.2 (e_weeks hR) hy9⟩
theorem mm_count {r8 r9 : Int32} (h : JM_count (JX_count (JN n) x1 r8) x1 r9 B2 B6 Q5 z8 z5 zd z1 z9 wk ru im) : JM_count (JX_count JG x1 r8) x1 r9 B2 B6 Q5 z8 z5 zd z1 z9 wk ru im := by
  obtain ⟨hX, hR, hy9⟩ := h
  exact ⟨mo_count (fun _ _ _ _ _ _ _ _ _ _ _ q => q.1) hX, hR, hy9⟩
theorem sn_count (hn : n ≤ 511) {r8 r9 : Int32} (h : JM_count (JX_count (JN n) x1 r8) x1 r9 B2 B6 Q5 z8 z5 zd z1 z9 wk ru im) : JN (n + 1) B2 B6 Q5 z8 z5 zd z1 z9 wk ru im := by
  have h1 := st_count (mm_count h)
  obtain ⟨hX, -, -⟩ := h
  obtain ⟨Qw, zw, y, hJ, hI, hwm, hy, e_r⟩ := hX
  exact ⟨h1, plc_up hJ.2.1, hJ.2.2⟩
theorem mm_coins {r8 r9 : Int32} (h : JM_coins (JX_coins (JN n) x1 r8) x1 r9 B2 B6 Q5 z8 z5 zd z1 z9 wk ru im) : JM_coins (JX_coins JG x1 r8) x1 r9 B2 B6 Q5 z8 z5 zd z1 z9 wk ru im := by
  obtain ⟨hX, hR, hy9⟩ := h
  exact ⟨mo_coins (fun _ _ _ _ _ _ _ _ _ _ _ q => q.1) hX, hR, hy9⟩
theorem sn_coins (hn : n ≤ 511) {r8 r9 : Int32} (h : JM_coins (JX_coins (JN n) x1 r8) x1 r9 B2 B6 Q5 z8 z5 zd z1 z9 wk ru im) : JN (n + 1) B2 B6 Q5 z8 z5 zd z1 z9 wk ru im := by
  have h1 := st_coins (mm_coins h)
  obtain ⟨hX, -, -⟩ := h
  obtain ⟨y, hJ, hI, hy, e_r⟩ := hX
  exact ⟨h1, plc_up hJ.2.1, hJ.2.2⟩
theorem mm_image {r8 r9 : Int32} (h : JM_image (JX_image (JN n) x1 r8) x1 r9 B2 B6 Q5 z8 z5 zd z1 z9 wk ru im) : JM_image (JX_image JG x1 r8) x1 r9 B2 B6 Q5 z8 z5 zd z1 z9 wk ru im := by
  obtain ⟨z0, y9, hX, hR, hy9, e9, ez⟩ := h
  rcases hX with hX | hX | hX
  · exact ⟨z0, y9, (Or.inl (mo_image_none (fun _ _ _ _ _ _ _ _ _ _ _ q => q.1) hX)), hR, hy9, e9, ez⟩
  · exact ⟨z0, y9, (Or.inr (Or.inl (mo_image_some (fun _ _ _ _ _ _ _ _ _ _ _ q => q.1) hX))), hR, hy9, e9, ez⟩
  · exact ⟨z0, y9, (Or.inr (Or.inr (mo_image_out (fun _ _ _ _ _ _ _ _ _ _ _ q => q.1) hX))), hR, hy9, e9, ez⟩
theorem mm_back {r8 r9 : Int32} (h : JM_back (JX_back (JN n) x1 r8) x1 r9 B2 B6 Q5 z8 z5 zd z1 z9 wk ru im) : JM_back (JX_back JG x1 r8) x1 r9 B2 B6 Q5 z8 z5 zd z1 z9 wk ru im := by
  obtain ⟨z0, y9, hX, hR, hy9, e9, ez⟩ := h
  rcases hX with hX | hX | hX
  · exact ⟨z0, y9, (Or.inl (mo_back_none (fun _ _ _ _ _ _ _ _ _ _ _ q => q.1) hX)), hR, hy9, e9, ez⟩
  · exact ⟨z0, y9, (Or.inr (Or.inl (mo_back_some (fun _ _ _ _ _ _ _ _ _ _ _ q => q.1) hX))), hR, hy9, e9, ez⟩
  · exact ⟨z0, y9, (Or.inr (Or.inr (mo_back_out (fun _ _ _ _ _ _ _ _ _ _ _ q => q.1) hX))), hR, hy9, e9, ez⟩

theorem sn_game (hn : n ≤ 511) {r8 r9 : Int32} (h : JM_game (JX_game (JN n) x1 x2 r8) x1 x2 r9 B2 B6 Q5 z8 z5 zd z1 z9 wk ru im) : JN (n + 1) B2 B6 Q5 z8 z5 zd z1 z9 wk ru im := by
  have h1 := st_game (mm_game h)
  obtain ⟨z0, y9, ⟨z5o, y, hJ, -, hy, e8, e5⟩, -, hy9, -, ez⟩ := h
  subst ez
  exact ⟨h1, plc_up hJ.2.1, game_lf hJ.2.2 hy9⟩
theorem sn_feed (hn : n ≤ 511) {r8 r9 : Int32} (h : JM_feed (JX_feed (JN n) x1 x2 x3 x4 x5 r8) x1 x2 x3 x4 x5 r9 B2 B6 Q5 z8 z5 zd z1 z9 wk ru im) : JN (n + 1) B2 B6 Q5 z8 z5 zd z1 z9 wk ru im := by
  have h1 := st_feed (mm_feed h)
  obtain ⟨z0, y9, ⟨z8o, y, hJ, -, hy, e8, ez8⟩, hR, hy9, -, ez⟩ := h
  subst ez8 ez
  exact ⟨h1, plc_8 hJ.2.1 (ok_get t_fX8_feed hy 4 (by decide)).1, lfz_Eo hJ.2.2 (e_feed hR) hy9⟩
theorem sn_end (hn : n ≤ 511) {r8 r9 : Int32} (h : JM_end (JX_end (JN n) x1 r8) x1 r9 B2 B6 Q5 z8 z5 zd z1 z9 wk ru im) : JN (n + 1) B2 B6 Q5 z8 z5 zd z1 z9 wk ru im := by
  have h1 := st_end (mm_end h)
  obtain ⟨z0, y9, ⟨z8o, y, hJ, -, hy, e8, ez8⟩, hR, hy9, -, ez⟩ := h
  subst ez8 ez
  exact ⟨h1, plc_8 hJ.2.1 (ok_get t_fX8_end hy 4 (by decide)).1, lfz_Eo hJ.2.2 (e_end hR) hy9⟩
theorem sn_look (hn : n ≤ 511) {r8 r9 : Int32} (h : JM_look (JX_look (JN n) x1 r8) x1 r9 B2 B6 Q5 z8 z5 zd z1 z9 wk ru im) : JN (n + 1) B2 B6 Q5 z8 z5 zd z1 z9 wk ru im := by
  have h1 := st_look (mm_look h)
  obtain ⟨z0, y9, ⟨zdo, Qw, zw, y, hJ, -, hwm, hy, e8, ed⟩, hR, hy9, -, ez⟩ := h
  subst ez
  have lf := hJ.2.2
  have q := look_lf (hJ.1.2.1.1 Qw zw hwm) hJ.1.2.1.2.2.2 lf.1.2.1 hy9
  have := lf.1.2
  exact ⟨h1, plc_up hJ.2.1, lfz_Vo lf (v_look hR) hy9 (by omega)⟩
theorem sn_fine (hn : n ≤ 511) {r8 r9 : Int32} (h : JM_fine (JX_fine (JN n) x1 r8) x1 r9 B2 B6 Q5 z8 z5 zd z1 z9 wk ru im) : JN (n + 1) B2 B6 Q5 z8 z5 zd z1 z9 wk ru im := by
  have h1 := st_fine (mm_fine h)
  obtain ⟨z0, y9, ⟨zdo, Qw, zw, y, hJ, -, hwm, hy, e8, ed⟩, hR, hy9, -, ez⟩ := h
  subst ez
  exact ⟨h1, plc_up hJ.2.1, lfz_Vo hJ.2.2 (v_fine hR) hy9 (by rw [fine_lf hy9]; exact hJ.2.2.1.2)⟩
theorem sn_seed (hn : n ≤ 511) {r8 r9 : Int32} (h : JM_seed (JX_seed (JN n) x1 r8) x1 r9 B2 B6 Q5 z8 z5 zd z1 z9 wk ru im) : JN (n + 1) B2 B6 Q5 z8 z5 zd z1 z9 wk ru im := by
  have h1 := st_seed (mm_seed h)
  obtain ⟨z0, y9, ⟨zdo, y, hJ, -, hy, e8, ed⟩, hR, hy9, -, ez⟩ := h
  subst ez
  exact ⟨h1, plc_up hJ.2.1, lfz_Vo hJ.2.2 (v_seed hR) hy9 (by rw [seed_lf hy9]; exact hJ.2.2.1.2)⟩
theorem sn_mend (hn : n ≤ 511) {r8 r9 : Int32} (h : JM_mend (JX_mend (JN n) x1 r8) x1 r9 B2 B6 Q5 z8 z5 zd z1 z9 wk ru im) : JN (n + 1) B2 B6 Q5 z8 z5 zd z1 z9 wk ru im := by
  have h1 := st_mend (mm_mend h)
  obtain ⟨z0, y9, ⟨z5o, zdo, Qw, zw, y, hJ, -, hwm, hy, e8, e5, ed⟩, hR, hy9, -, ez⟩ := h
  subst ez
  exact ⟨h1, plc_up hJ.2.1, lfz_Vo hJ.2.2 (v_mend hR) hy9 (by rw [mend_lf hJ.1.2.1.2.2.2 hy9]; exact hJ.2.2.1.2)⟩
theorem sn_dawn (hn : n ≤ 511) {r8 r9 : Int32} (h : JM_dawn (JX_dawn (JN n) r8) r9 B2 B6 Q5 z8 z5 zd z1 z9 wk ru im) : JN (n + 1) B2 B6 Q5 z8 z5 zd z1 z9 wk ru im := by
  have h1 := st_dawn (mm_dawn h)
  obtain ⟨z0, y9, ⟨z5o, zdo, Qw, zw, y, hJ, -, hwm, hy, e8, e5, ed⟩, hR, hy9, -, ez⟩ := h
  subst ez
  have lf := hJ.2.2
  obtain ⟨-, k2, k3, k4⟩ := dawn_k (hJ.1.2.1.1 Qw zw hwm) hJ.1.2.1.2.1 hR hy hy9
  refine ⟨h1, plc_up hJ.2.1, lfz_T lf ⟨?_, ?_⟩ k3 k4⟩
  · rw [k2 2 (by unfold KI DY; omega) (by omega)]; exact lf.1.1
  · rcases dawn_lf hJ.1.2.1.2.2.2 hy9 with e | e
    · rw [e]; exact lf.1.2
    · rw [e]; exact lf.1.1
theorem sn_row (hn : n ≤ 511) {r8 r9 : Int32} (h : JM_row (JX_row (JN n) x1 r8) x1 r9 B2 B6 Q5 z8 z5 zd z1 z9 wk ru im) : JN (n + 1) B2 B6 Q5 z8 z5 zd z1 z9 wk ru im := by
  have h1 := st_row (mm_row h)
  obtain ⟨z0, y9, ⟨z5o, Qw, zw, y, hJ, -, hwm, hy, e8, e5⟩, hR, hy9, -, ez⟩ := h
  subst ez
  obtain ⟨-, -, k3, k4⟩ := row_k (hJ.1.2.1.1 Qw zw hwm) hJ.1.2.1.2.1 hy hy9
  exact ⟨h1, plc_up hJ.2.1, lfz_T hJ.2.2 (lft_eq hJ.2.2.1 (k4 2 (by omega) (by omega)) (k4 3 (by omega) (by omega))) (k3 34 (by decide)).2.1 (k3 35 (by decide)).2.1⟩
theorem sn_day (hn : n ≤ 511) {r8 r9 : Int32} (h : JM_day (JX_day (JN n) x1 r8) x1 r9 B2 B6 Q5 z8 z5 zd z1 z9 wk ru im) : JN (n + 1) B2 B6 Q5 z8 z5 zd z1 z9 wk ru im := by
  have h1 := st_day (mm_day h)
  obtain ⟨z0, y9, hX, hR, hy9, -, ez⟩ := h
  subst ez
  rcases hX with ⟨Qw, zw, y, hN, -, hwm, hr, hy, e8⟩ | ⟨zdo, Qw, zw, qR, QR, nR, zR, z2, y, hN, -, hwm, hrm, hr, hy, e8, ed⟩
  · have hJ := hN.1
    obtain ⟨k1, k2⟩ := day_n hJ.1 (hJ.2.1.1 Qw zw hwm) hr (fun k hk6 hk hB => by
      obtain ⟨q, hq, -⟩ := hJ.2.2.2.2.2 k (by have := (i32_lt _ _).1 hk; rw [nI_toInt (by omega)] at this; exact this)
      rw [hB] at hq; cases hq) hy hy9
    exact ⟨h1, plc_up hN.2.1, by rw [k2]; exact hN.2.2⟩
  · have hJ := hN.1
    have lf := hN.2.2
    obtain ⟨k1, k2, k3, k4⟩ := day_k hJ.1 (hJ.2.1.1 Qw zw hwm) hJ.2.1.2.2.2 hr (fun k ex hk6 hB => by
      obtain ⟨N, t, hT, ht, j3, j2⟩ := hJ.1
      have hkt : (k : Int) < (gI z0 2).toInt := by
        by_cases q : (k : Int) < (gI z0 2).toInt
        · exact q
        · exfalso
          unfold fX8_ruleForWork at hr
          simp only [jn] at hr
          have e1 : ¬ x1 < 0 := by rw [ex]; exact nI_pos (by omega)
          rw [j2, nI_toInt (by omega)] at q
          rw [if_neg e1, j3, if_pos (by rw [ex]; exact nI_le (by omega) (by omega)), if_pos trivial] at hr
          cases hr
      obtain ⟨q, hq, hq2⟩ := hJ.2.2.2.2.2 k hkt
      have : q = qR := Option.some.inj (hq.symm.trans hB)
      subst this
      exact hq2 QR nR zR hrm) hy hy9
    have q := k4 lf.1.2.1
    have := lf.1.2
    exact ⟨h1, plc_up hN.2.1, lfz_Vo lf (v_day hR) hy9 (by omega)⟩
theorem sn_work (hn : n ≤ 511) {r8 r9 : Int32} (h : JM_work (JX_work (JN n) r8) r9 B2 B6 Q5 z8 z5 zd z1 z9 wk ru im) : JN (n + 1) B2 B6 Q5 z8 z5 zd z1 z9 wk ru im := by
  have h1 := st_work (mm_work h)
  obtain ⟨z0, y9, hX, hR, hy9, -, ez⟩ := h
  subst ez
  rcases hX with ⟨Q5o, z8o, z5o, zdo, wko, z4, z6, y, u, hN, hI, hy, e8, hfw, eQ, ez8, ez5, ezd, ew⟩ | ⟨z8o, z5o, zdo, z4, z6, y, hN, -, hy, e8, ez8, ez5, ezd⟩
  · subst ez8 ew
    obtain ⟨k1, k2, k3, k4, k5⟩ := work_k_ok hN.1.1 hR hy hy9
    obtain ⟨b1, b2, b3, -⟩ := work_bw hN.1.1 hR hy hy9
    exact ⟨h1, plc_work hN.2.1 hn b1 b2 b3, lfz_T hN.2.2 (work_lf hN.1.1 hR hy hy9) k4 k5⟩
  · subst ez8
    obtain ⟨k1, k2, k3⟩ := work_k_fail hN.1.1 hR hy hy9
    obtain ⟨k5, k6⟩ := work_f24 hN.1.1 hR hy hy9
    exact ⟨h1, plc_8 hN.2.1 (wfail_4 hy), lfz_T hN.2.2 (by rw [k6]; exact hN.2.2.1) k3.2.1 k3.2.2⟩
theorem sn_rule (hn : n ≤ 511) {r8 r9 : Int32} (h : JM_rule (JX_rule (JN n) r8) r9 B2 B6 Q5 z8 z5 zd z1 z9 wk ru im) : JN (n + 1) B2 B6 Q5 z8 z5 zd z1 z9 wk ru im := by
  have h1 := st_rule (mm_rule h)
  obtain ⟨z0, y9, hX, hR, hy9, -, ez⟩ := h
  subst ez
  have g := ok_get (v_rule hR) hy9
  have t24 := ok_get (rule_f24 hR) hy9
  rcases hX with ⟨B2o, z8o, ruo, z4, z6, y, u, hN, hI, hy, e8, hfu, eB, ez8, er⟩ | ⟨z8o, z4, z6, y, hN, -, hy, e8, ez8⟩
  · subst ez8
    exact ⟨h1, plc_8 hN.2.1 (rule_4 hN.1.1 (Or.inl hy)), lfz_T hN.2.2 (by rw [t24]; exact hN.2.2.1) g.2.1 g.2.2⟩
  · subst ez8
    exact ⟨h1, plc_8 hN.2.1 (rule_4 hN.1.1 (Or.inr hy)), lfz_T hN.2.2 (by rw [t24]; exact hN.2.2.1) g.2.1 g.2.2⟩
theorem sn_image (hn : n ≤ 511) {r8 r9 : Int32} (h : JM_image (JX_image (JN n) x1 r8) x1 r9 B2 B6 Q5 z8 z5 zd z1 z9 wk ru im) : JN (n + 1) B2 B6 Q5 z8 z5 zd z1 z9 wk ru im := by
  have h1 := st_image (mm_image h)
  obtain ⟨z0, y9, hX, -, hy9, -, ez⟩ := h
  subst ez
  rcases hX with ⟨B6o, imo, y, u, hN, hI, cx, hB, hy, e8, hfr, eB, ei⟩ | ⟨imo, qR, QR, zR, QE, zE, y, imr, hN, -, him, hun, cx, hB, hy, e8, hi1, hi2, ei⟩ | ⟨hN, -, cx, e8⟩
  · exact ⟨h1, plc_up hN.2.1, image_lf hN.2.2 hy9⟩
  · exact ⟨h1, plc_up hN.2.1, image_lf hN.2.2 hy9⟩
  · exact ⟨h1, plc_up hN.2.1, image_lf hN.2.2 hy9⟩
theorem sn_back (hn : n ≤ 511) {r8 r9 : Int32} (h : JM_back (JX_back (JN n) x1 r8) x1 r9 B2 B6 Q5 z8 z5 zd z1 z9 wk ru im) : JN (n + 1) B2 B6 Q5 z8 z5 zd z1 z9 wk ru im := by
  have h1 := st_back (mm_back h)
  obtain ⟨z0, y9, hX, -, hy9, -, ez⟩ := h
  subst ez
  rcases hX with ⟨y, hN, -, cx, hB, hy, e8⟩ | ⟨Q5o, z5o, zdo, qR, QR, zR, QE, zE, y, hN, -, him, hun, cx, hB, hy, e8, eQ, e5, ed⟩ | ⟨hN, -, cx, e8⟩
  · exact ⟨h1, plc_up hN.2.1, back_lf hN.2.2 hy9⟩
  · exact ⟨h1, plc_up hN.2.1, back_lf hN.2.2 hy9⟩
  · exact ⟨h1, plc_up hN.2.1, back_lf hN.2.2 hy9⟩
theorem plc_1 {w1 : Sx} (h : PLC n z8 z1 wk) (b : BT (fun v => ∃ x ∈ wk, x.2.2 = v) w1) : PLC (n + 1) z8 w1 wk := by
  obtain ⟨⟨W, h1, h2, h3⟩, h4, -⟩ := h
  exact ⟨⟨W, by omega, h2, h3⟩, h4, b⟩
theorem bb_best (hn : n ≤ 511) {r8 r9 : Int64} (h : JM_best (JX_best (JN n) x1 x2 r8) x1 x2 r9 B2 B6 Q5 z8 z5 zd z1 z9 wk ru im) : r8 = r9 ∧ PLC (n + 1) z8 z1 wk ∧ LFz z9 := by
  obtain ⟨z0, y9, ⟨z1o, Qw, zw, y, hN, -, hwm, hy, e8, e1⟩, hR, hy9, e9, ez⟩ := h
  subst e8 e1 e9 ez
  obtain ⟨hJ, hP, lf⟩ := hN
  obtain ⟨⟨W, w1, w2, w3⟩, w4, w5⟩ := id hP
  obtain ⟨⟨S, s1, s2⟩, F, hb⟩ := w3 _ hwm
  obtain ⟨a, b⟩ := best_k (hJ.2.1.1 Qw zw hwm) hJ.2.1.2.2.2 hJ.2.1.2.1 hR lf.1.2.1 lf.1.2.2 ⟨_, hwm, rfl⟩ w4 hb s2 (by omega) w5 hy hy9
  exact ⟨a, plc_1 hP b, lfz_Eo lf (e_best hR) hy9⟩
theorem bb_master (hn : n ≤ 511) {r8 r9 : Int64} (h : JM_master (JX_master (JN n) x1 x2 r8) x1 x2 r9 B2 B6 Q5 z8 z5 zd z1 z9 wk ru im) : r8 = r9 ∧ PLC (n + 1) z8 z1 wk ∧ LFz z9 := by
  obtain ⟨z0, y9, ⟨z1o, Qw, zw, y, hN, -, hwm, hy, e8, e1⟩, hR, hy9, e9, ez⟩ := h
  subst e8 e1 e9 ez
  obtain ⟨hJ, hP, lf⟩ := hN
  obtain ⟨⟨W, w1, w2, w3⟩, w4, w5⟩ := id hP
  obtain ⟨⟨S, s1, s2⟩, F, hb⟩ := w3 _ hwm
  obtain ⟨a, b⟩ := master_k (hJ.2.1.1 Qw zw hwm) hJ.2.1.2.2.2 hJ.2.1.2.1 hR lf.1.2.1 lf.1.2.2 ⟨_, hwm, rfl⟩ w4 hb s2 (by omega) w5 hy hy9
  exact ⟨a, plc_1 hP b, lfz_Eo lf (e_master hR) hy9⟩
theorem sn_best (hn : n ≤ 511) {r8 r9 : Int64} (h : JM_best (JX_best (JN n) x1 x2 r8) x1 x2 r9 B2 B6 Q5 z8 z5 zd z1 z9 wk ru im) : JN (n + 1) B2 B6 Q5 z8 z5 zd z1 z9 wk ru im := ⟨st_best (mm_best h), (bb_best hn h).2⟩
theorem sn_master (hn : n ≤ 511) {r8 r9 : Int64} (h : JM_master (JX_master (JN n) x1 x2 r8) x1 x2 r9 B2 B6 Q5 z8 z5 zd z1 z9 wk ru im) : JN (n + 1) B2 B6 Q5 z8 z5 zd z1 z9 wk ru im := ⟨st_master (mm_master h), (bb_master hn h).2⟩
end JDB
theorem eq_master {a : Nat → ClassId} {q8 q9 : Nat} {w : va_W} {x1 : Int32} {x2 : Int32} {r8 r9 : Int64} {n : Nat} (hn : n ≤ 511) (hG : Gd a q8 q9 (JM_master (JX_master (JN n) x1 x2 r8) x1 x2 r9) w) : r8 = r9 := by
  obtain ⟨Q8, z8, B2, B6, Q5, z5, Qd, zd, Qt, zt, Q4, z4, Q6, z6, Q2, z2, Q1, z1, Q9, z9, wk, ru, im, -, -, hJ⟩ := hG
  exact (bb_master hn hJ).1

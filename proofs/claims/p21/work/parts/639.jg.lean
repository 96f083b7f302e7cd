/-! GAME's eight numbers are the same on both sides, and in each image. -/
def JG : CT := fun _ B6 _ _ z5 _ z9 _ _ im => (∀ i : Nat, i < 8 → gT z5 7 i = gT z9 24 (18 + i)) ∧ (∀ k : Nat, k < 4 → (B6 k = none ↔ gT z9 35 k = 0)) ∧ (∀ (k q : Nat), k < 4 → B6 k = some q → ∃ x ∈ im, x.1 = q ∧ ∀ i : Nat, i < 8 → gT x.2.2.1 7 i = gT z9 34 (104 * k + 18 + i)) ∧ ∀ (j k q : Nat), B6 j = some q → B6 k = some q → j = k
section JGS
variable {B2 B6 : Nat → Option Nat} {Q5 : Nat → Nat} {z8 z5 zd z9 : Sx} {wk : List WT} {ru : List RT} {im : List IT} {x1 x2 x3 x4 x5 : Int32}
theorem jg_new {q : Nat} {Qw : Nat → Nat} : JG (fun _ => none) (fun _ => none) Q5 Z0 Z0 Z0 Z0 [(q, Qw, Z0)] [] [] := by
  refine ⟨fun _ _ => rfl, fun k _ => ⟨fun _ => rfl, fun _ => rfl⟩, fun k q _ h => ?_, fun j k q h => ?_⟩
  · cases h
  · cases h
theorem jg_9 {z : Sx} (h : JG B2 B6 Q5 z8 z5 zd z9 wk ru im) (g : G9 z9 z) : JG B2 B6 Q5 z8 z5 zd z wk ru im := by
  obtain ⟨h1, h2, h3, h4⟩ := h
  obtain ⟨g1, g2, g3⟩ := g
  refine ⟨fun i hi => (h1 i hi).trans (g1 i hi).symm, fun k hk => by rw [g3]; exact h2 k hk, fun k q hk hq => ?_, h4⟩
  rw [g2]; exact h3 k q hk hq
theorem jg_5 {z : Sx} (h : JG B2 B6 Q5 z8 z5 zd z9 wk ru im) (g : ∀ i : Nat, i < 8 → gT z 7 i = gT z5 7 i) : JG B2 B6 Q5 z8 z zd z9 wk ru im := ⟨fun i hi => (g i hi).trans (h.1 i hi), h.2⟩
theorem jg_f {L : List Nat} {z : Sx} (h : JG B2 B6 Q5 z8 z5 zd z9 wk ru im) (g : FrL L z5 z) (hL : L.contains 7 = false) : JG B2 B6 Q5 z8 z zd z9 wk ru im := jg_5 h (fun i _ => by rw [(g 7 hL).2.1])
theorem w_ok7 {z z5 zd z4 z6 : Sx} {y : Int32 × Sx × Sx × Sx × Sx × Sx} (h : fX8_work_ok z z5 zd z4 z6 = some y) : FrL [2, 3, 4, 6] z5 y.2.2.1 := by
  unfold fX8_work_ok at h
  obtain ⟨a2, -, h⟩ := bd_some h
  obtain ⟨a4, a5, -, h⟩ := bd2_some h
  by_cases c : gI a5 8 = 0
  · rw [if_pos c] at h
    obtain ⟨a8, a9, e, h⟩ := bd2_some h
    obtain rfl := Option.some.inj h
    exact (ok_get t_fX5_beginWork e).1
  · rw [if_neg c] at h; cases h
theorem w_fail7 {z z5 zd z4 z6 : Sx} {y : Int32 × Sx × Sx × Sx × Sx} (h : fX8_work_fail z z5 zd z4 z6 = some y) : y.2.2.1 = z5 := by
  unfold fX8_work_fail at h
  obtain ⟨a2, -, h⟩ := bd_some h
  obtain ⟨a4, a5, -, h⟩ := bd2_some h
  by_cases c : gI a5 8 = 0
  · rw [if_pos c] at h; cases h
  · rw [if_neg c] at h
    obtain rfl := Option.some.inj h
    rfl
theorem back7 {z z5 zd zR zE : Sx} {y : Int32 × Sx × Sx} (h : fX8_back_some z z5 zd B6 zR zE x1 = some y) : ∀ i : Nat, i < 8 → gT y.2.1 7 i = gT zR 7 i := by
  unfold fX8_back_some at h
  by_cases c1 : x1 < 0
  · rw [if_pos c1] at h; cases h
  rw [if_neg c1] at h
  by_cases c2 : x1 < 4
  · rw [if_pos c2] at h
    obtain ⟨a8, a9, e, h⟩ := bd2_some (gd_some h).2
    obtain rfl := Option.some.inj h
    exact ok_get copy7 e
  · rw [if_neg c2] at h; cases h
theorem imgn7 {z z5 zd : Sx} {y : Int32 × Sx × Sx} (h : fX8_image_none z z5 zd B6 x1 = some y) : ∀ i : Nat, i < 8 → gT y.2.1 7 i = gT z5 7 i := by
  unfold fX8_image_none at h
  by_cases c1 : x1 < 0
  · rw [if_pos c1] at h; cases h
  rw [if_neg c1] at h
  by_cases c2 : x1 < 4
  · rw [if_pos c2] at h
    obtain ⟨a8, a9, e, h⟩ := bd2_some (gd_some (gd_some h).2).2
    obtain rfl := Option.some.inj h
    exact ok_get copy7 e
  · rw [if_neg c2] at h; cases h
theorem imgs7 {z z5 zd zR zE : Sx} {y : Int32 × Sx × Sx} (h : fX8_image_some z z5 zd B6 zR zE x1 = some y) : ∀ i : Nat, i < 8 → gT y.2.1 7 i = gT z5 7 i := by
  unfold fX8_image_some at h
  by_cases c1 : x1 < 0
  · rw [if_pos c1] at h; cases h
  rw [if_neg c1] at h
  by_cases c2 : x1 < 4
  · rw [if_pos c2] at h
    obtain ⟨a8, a9, e, h⟩ := bd2_some (gd_some h).2
    obtain rfl := Option.some.inj h
    exact ok_get copy7 e
  · rw [if_neg c2] at h; cases h
theorem cx_feed {r : Int32} (h : JX_feed JG x1 x2 x3 x4 x5 r B2 B6 Q5 z8 z5 zd z9 wk ru im) : JG B2 B6 Q5 z8 z5 zd z9 wk ru im := by
  obtain ⟨z8o, y, hJ, hI, hy, e_r, e_z8⟩ := h
  subst e_z8
  exact hJ
theorem cx_end {r : Int32} (h : JX_end JG x1 r B2 B6 Q5 z8 z5 zd z9 wk ru im) : JG B2 B6 Q5 z8 z5 zd z9 wk ru im := by
  obtain ⟨z8o, y, hJ, hI, hy, e_r, e_z8⟩ := h
  subst e_z8
  exact hJ
theorem cx_work_ok {r : Int32} (h : JX_work_ok JG r B2 B6 Q5 z8 z5 zd z9 wk ru im) : JG B2 B6 Q5 z8 z5 zd z9 wk ru im := by
  obtain ⟨Q5o, z8o, z5o, zdo, wko, z4, z6, y, u, hJ, hI, hy, e_r, e_Q5, e_z8, e_z5, e_zd, e_wk⟩ := h
  subst e_Q5
  subst e_z8
  subst e_z5
  subst e_zd
  subst e_wk
  exact jg_f hJ (w_ok7 hy) (by decide)
theorem cx_work_fail {r : Int32} (h : JX_work_fail JG r B2 B6 Q5 z8 z5 zd z9 wk ru im) : JG B2 B6 Q5 z8 z5 zd z9 wk ru im := by
  obtain ⟨z8o, z5o, zdo, z4, z6, y, hJ, hI, hy, e_r, e_z8, e_z5, e_zd⟩ := h
  subst e_z8
  subst e_z5
  subst e_zd
  exact (by rw [w_fail7 hy]; exact hJ)
theorem cx_rule_ok {r : Int32} (h : JX_rule_ok JG r B2 B6 Q5 z8 z5 zd z9 wk ru im) : JG B2 B6 Q5 z8 z5 zd z9 wk ru im := by
  obtain ⟨B2o, z8o, ruo, z4, z6, y, u, hJ, hI, hy, e_r, e_B2, e_z8, e_ru⟩ := h
  subst e_B2
  subst e_z8
  subst e_ru
  exact hJ
theorem cx_rule_fail {r : Int32} (h : JX_rule_fail JG r B2 B6 Q5 z8 z5 zd z9 wk ru im) : JG B2 B6 Q5 z8 z5 zd z9 wk ru im := by
  obtain ⟨z8o, z4, z6, y, hJ, hI, hy, e_r, e_z8⟩ := h
  subst e_z8
  exact hJ
theorem cx_kind {r : Int32} (h : JX_kind JG x1 x2 r B2 B6 Q5 z8 z5 zd z9 wk ru im) : JG B2 B6 Q5 z8 z5 zd z9 wk ru im := by
  obtain ⟨Qw, zw, y, hJ, hI, hwm, hy, e_r⟩ := h
  exact hJ
theorem cx_fault {r : Int32} (h : JX_fault JG x1 x2 r B2 B6 Q5 z8 z5 zd z9 wk ru im) : JG B2 B6 Q5 z8 z5 zd z9 wk ru im := by
  obtain ⟨Qw, zw, y, hJ, hI, hwm, hy, e_r⟩ := h
  exact hJ
theorem cx_look {r : Int32} (h : JX_look JG x1 r B2 B6 Q5 z8 z5 zd z9 wk ru im) : JG B2 B6 Q5 z8 z5 zd z9 wk ru im := by
  obtain ⟨zdo, Qw, zw, y, hJ, hI, hwm, hy, e_r, e_zd⟩ := h
  subst e_zd
  exact hJ
theorem cx_fine {r : Int32} (h : JX_fine JG x1 r B2 B6 Q5 z8 z5 zd z9 wk ru im) : JG B2 B6 Q5 z8 z5 zd z9 wk ru im := by
  obtain ⟨zdo, Qw, zw, y, hJ, hI, hwm, hy, e_r, e_zd⟩ := h
  subst e_zd
  exact hJ
theorem cx_mend {r : Int32} (h : JX_mend JG x1 r B2 B6 Q5 z8 z5 zd z9 wk ru im) : JG B2 B6 Q5 z8 z5 zd z9 wk ru im := by
  obtain ⟨z5o, zdo, Qw, zw, y, hJ, hI, hwm, hy, e_r, e_z5, e_zd⟩ := h
  subst e_z5
  subst e_zd
  exact jg_f hJ (ok_get t_fX8_mend hy).1 (by decide)
theorem cx_dawn {r : Int32} (h : JX_dawn JG r B2 B6 Q5 z8 z5 zd z9 wk ru im) : JG B2 B6 Q5 z8 z5 zd z9 wk ru im := by
  obtain ⟨z5o, zdo, Qw, zw, y, hJ, hI, hwm, hy, e_r, e_z5, e_zd⟩ := h
  subst e_z5
  subst e_zd
  exact jg_f hJ (ok_get t_fX8_dawn hy).1 (by decide)
theorem cx_day_none {r : Int32} (h : JX_day_none JG x1 r B2 B6 Q5 z8 z5 zd z9 wk ru im) : JG B2 B6 Q5 z8 z5 zd z9 wk ru im := by
  obtain ⟨Qw, zw, y, hJ, hI, hwm, hr0, hy, e_r⟩ := h
  exact hJ
theorem cx_day_some {r : Int32} (h : JX_day_some JG x1 r B2 B6 Q5 z8 z5 zd z9 wk ru im) : JG B2 B6 Q5 z8 z5 zd z9 wk ru im := by
  obtain ⟨zdo, Qw, zw, qR, QR, nR, zR, z2, y, hJ, hI, hwm, hrm, hr0, hy, e_r, e_zd⟩ := h
  subst e_zd
  exact hJ
theorem cx_would_none {r : Int32} (h : JX_would_none JG x1 x2 r B2 B6 Q5 z8 z5 zd z9 wk ru im) : JG B2 B6 Q5 z8 z5 zd z9 wk ru im := by
  obtain ⟨Qw, zw, y, hJ, hI, hwm, hr0, hy, e_r⟩ := h
  exact hJ
theorem cx_would_some {r : Int32} (h : JX_would_some JG x1 x2 r B2 B6 Q5 z8 z5 zd z9 wk ru im) : JG B2 B6 Q5 z8 z5 zd z9 wk ru im := by
  obtain ⟨Qw, zw, qR, QR, nR, zR, zt, z2, y, hJ, hI, hwm, hrm, hr0, hy, e_r⟩ := h
  exact hJ
theorem cx_row {r : Int32} (h : JX_row JG x1 r B2 B6 Q5 z8 z5 zd z9 wk ru im) : JG B2 B6 Q5 z8 z5 zd z9 wk ru im := by
  obtain ⟨z5o, Qw, zw, y, hJ, hI, hwm, hy, e_r, e_z5⟩ := h
  subst e_z5
  exact (by have g := ok_get t_fX8_row hy; exact jg_f hJ g (by decide))
theorem cx_worth {r : Int64} (h : JX_worth JG x1 r B2 B6 Q5 z8 z5 zd z9 wk ru im) : JG B2 B6 Q5 z8 z5 zd z9 wk ru im := by
  obtain ⟨Qw, zw, y, hJ, hI, hwm, hy, e_r⟩ := h
  exact hJ
theorem cx_seen {r : Int64} (h : JX_seen JG x1 x2 r B2 B6 Q5 z8 z5 zd z9 wk ru im) : JG B2 B6 Q5 z8 z5 zd z9 wk ru im := by
  obtain ⟨Qw, zw, y, hJ, hI, hwm, hy, e_r⟩ := h
  exact hJ
theorem cx_best {r : Int64} (h : JX_best JG x1 x2 r B2 B6 Q5 z8 z5 zd z9 wk ru im) : JG B2 B6 Q5 z8 z5 zd z9 wk ru im := by
  obtain ⟨Qw, zw, z1, y, hJ, hI, hwm, hy, e_r⟩ := h
  exact hJ
theorem cx_master {r : Int64} (h : JX_master JG x1 x2 r B2 B6 Q5 z8 z5 zd z9 wk ru im) : JG B2 B6 Q5 z8 z5 zd z9 wk ru im := by
  obtain ⟨Qw, zw, z1, y, hJ, hI, hwm, hy, e_r⟩ := h
  exact hJ
theorem cx_rests {r : Int32} (h : JX_rests JG r B2 B6 Q5 z8 z5 zd z9 wk ru im) : JG B2 B6 Q5 z8 z5 zd z9 wk ru im := by
  obtain ⟨y, hJ, hI, hy, e_r⟩ := h
  exact hJ
theorem cx_mixed {r : Int32} (h : JX_mixed JG x1 x2 r B2 B6 Q5 z8 z5 zd z9 wk ru im) : JG B2 B6 Q5 z8 z5 zd z9 wk ru im := by
  obtain ⟨y, hJ, hI, hy, e_r⟩ := h
  exact hJ
theorem cx_checks {r : Int32} (h : JX_checks JG x1 x2 r B2 B6 Q5 z8 z5 zd z9 wk ru im) : JG B2 B6 Q5 z8 z5 zd z9 wk ru im := by
  obtain ⟨y, hJ, hI, hy, e_r⟩ := h
  exact hJ
theorem cx_fits {r : Int32} (h : JX_fits JG x1 x2 r B2 B6 Q5 z8 z5 zd z9 wk ru im) : JG B2 B6 Q5 z8 z5 zd z9 wk ru im := by
  obtain ⟨Qw, zw, y, hJ, hI, hwm, hy, e_r⟩ := h
  exact hJ
theorem cx_seed {r : Int32} (h : JX_seed JG x1 r B2 B6 Q5 z8 z5 zd z9 wk ru im) : JG B2 B6 Q5 z8 z5 zd z9 wk ru im := by
  obtain ⟨zdo, y, hJ, hI, hy, e_r, e_zd⟩ := h
  subst e_zd
  exact hJ
theorem cx_weeks_none {r : Int32} (h : JX_weeks_none JG x1 x2 x3 r B2 B6 Q5 z8 z5 zd z9 wk ru im) : JG B2 B6 Q5 z8 z5 zd z9 wk ru im := by
  obtain ⟨Qw, zw, y, hJ, hI, hwm, hr0, hy, e_r⟩ := h
  exact hJ
theorem cx_weeks_some {r : Int32} (h : JX_weeks_some JG x1 x2 x3 r B2 B6 Q5 z8 z5 zd z9 wk ru im) : JG B2 B6 Q5 z8 z5 zd z9 wk ru im := by
  obtain ⟨Qw, zw, qR, QR, nR, zR, zt, z2, y, hJ, hI, hwm, hrm, hr0, hy, e_r⟩ := h
  exact hJ
theorem cx_count {r : Int32} (h : JX_count JG x1 r B2 B6 Q5 z8 z5 zd z9 wk ru im) : JG B2 B6 Q5 z8 z5 zd z9 wk ru im := by
  obtain ⟨Qw, zw, y, hJ, hI, hwm, hy, e_r⟩ := h
  exact hJ
theorem cx_coins {r : Int32} (h : JX_coins JG x1 r B2 B6 Q5 z8 z5 zd z9 wk ru im) : JG B2 B6 Q5 z8 z5 zd z9 wk ru im := by
  obtain ⟨y, hJ, hI, hy, e_r⟩ := h
  exact hJ
theorem st_feed {r8 r9 : Int32} (h : JM_feed (JX_feed JG x1 x2 x3 x4 x5 r8) x1 x2 x3 x4 x5 r9 B2 B6 Q5 z8 z5 zd z9 wk ru im) : JG B2 B6 Q5 z8 z5 zd z9 wk ru im := by
  obtain ⟨z0, y9, hX, hR, hy9, -, ez⟩ := h
  subst ez
  have g := ok_get (g_feed hR) hy9
  exact jg_9 (cx_feed hX) g
theorem st_end {r8 r9 : Int32} (h : JM_end (JX_end JG x1 r8) x1 r9 B2 B6 Q5 z8 z5 zd z9 wk ru im) : JG B2 B6 Q5 z8 z5 zd z9 wk ru im := by
  obtain ⟨z0, y9, hX, hR, hy9, -, ez⟩ := h
  subst ez
  have g := ok_get (g_end hR) hy9
  exact jg_9 (cx_end hX) g
theorem st_work {r8 r9 : Int32} (h : JM_work (JX_work JG r8) r9 B2 B6 Q5 z8 z5 zd z9 wk ru im) : JG B2 B6 Q5 z8 z5 zd z9 wk ru im := by
  obtain ⟨z0, y9, hX, hR, hy9, -, ez⟩ := h
  subst ez
  have g := ok_get (g_work hR) hy9
  rcases hX with hX | hX
  · exact jg_9 (cx_work_ok hX) g
  · exact jg_9 (cx_work_fail hX) g
theorem st_rule {r8 r9 : Int32} (h : JM_rule (JX_rule JG r8) r9 B2 B6 Q5 z8 z5 zd z9 wk ru im) : JG B2 B6 Q5 z8 z5 zd z9 wk ru im := by
  obtain ⟨z0, y9, hX, hR, hy9, -, ez⟩ := h
  subst ez
  have g := ok_get (g_rule hR) hy9
  rcases hX with hX | hX
  · exact jg_9 (cx_rule_ok hX) g
  · exact jg_9 (cx_rule_fail hX) g
theorem st_kind {r8 r9 : Int32} (h : JM_kind (JX_kind JG x1 x2 r8) x1 x2 r9 B2 B6 Q5 z8 z5 zd z9 wk ru im) : JG B2 B6 Q5 z8 z5 zd z9 wk ru im := by
  obtain ⟨hX, -, -⟩ := h
  exact cx_kind hX
theorem st_fault {r8 r9 : Int32} (h : JM_fault (JX_fault JG x1 x2 r8) x1 x2 r9 B2 B6 Q5 z8 z5 zd z9 wk ru im) : JG B2 B6 Q5 z8 z5 zd z9 wk ru im := by
  obtain ⟨hX, -, -⟩ := h
  exact cx_fault hX
theorem st_look {r8 r9 : Int32} (h : JM_look (JX_look JG x1 r8) x1 r9 B2 B6 Q5 z8 z5 zd z9 wk ru im) : JG B2 B6 Q5 z8 z5 zd z9 wk ru im := by
  obtain ⟨z0, y9, hX, hR, hy9, -, ez⟩ := h
  subst ez
  have g := ok_get (g_look hR) hy9
  exact jg_9 (cx_look hX) g
theorem st_fine {r8 r9 : Int32} (h : JM_fine (JX_fine JG x1 r8) x1 r9 B2 B6 Q5 z8 z5 zd z9 wk ru im) : JG B2 B6 Q5 z8 z5 zd z9 wk ru im := by
  obtain ⟨z0, y9, hX, hR, hy9, -, ez⟩ := h
  subst ez
  have g := ok_get (g_fine hR) hy9
  exact jg_9 (cx_fine hX) g
theorem st_mend {r8 r9 : Int32} (h : JM_mend (JX_mend JG x1 r8) x1 r9 B2 B6 Q5 z8 z5 zd z9 wk ru im) : JG B2 B6 Q5 z8 z5 zd z9 wk ru im := by
  obtain ⟨z0, y9, hX, hR, hy9, -, ez⟩ := h
  subst ez
  have g := ok_get (g_mend hR) hy9
  exact jg_9 (cx_mend hX) g
theorem st_dawn {r8 r9 : Int32} (h : JM_dawn (JX_dawn JG r8) r9 B2 B6 Q5 z8 z5 zd z9 wk ru im) : JG B2 B6 Q5 z8 z5 zd z9 wk ru im := by
  obtain ⟨z0, y9, hX, hR, hy9, -, ez⟩ := h
  subst ez
  have g := ok_get (g_dawn hR) hy9
  exact jg_9 (cx_dawn hX) g
theorem st_day {r8 r9 : Int32} (h : JM_day (JX_day JG x1 r8) x1 r9 B2 B6 Q5 z8 z5 zd z9 wk ru im) : JG B2 B6 Q5 z8 z5 zd z9 wk ru im := by
  obtain ⟨z0, y9, hX, hR, hy9, -, ez⟩ := h
  subst ez
  have g := ok_get (g_day hR) hy9
  rcases hX with hX | hX
  · exact jg_9 (cx_day_none hX) g
  · exact jg_9 (cx_day_some hX) g
theorem st_would {r8 r9 : Int32} (h : JM_would (JX_would JG x1 x2 r8) x1 x2 r9 B2 B6 Q5 z8 z5 zd z9 wk ru im) : JG B2 B6 Q5 z8 z5 zd z9 wk ru im := by
  obtain ⟨z0, y9, hX, hR, hy9, -, ez⟩ := h
  subst ez
  have g := ok_get (g_would hR) hy9
  rcases hX with hX | hX
  · exact jg_9 (cx_would_none hX) g
  · exact jg_9 (cx_would_some hX) g
theorem st_row {r8 r9 : Int32} (h : JM_row (JX_row JG x1 r8) x1 r9 B2 B6 Q5 z8 z5 zd z9 wk ru im) : JG B2 B6 Q5 z8 z5 zd z9 wk ru im := by
  obtain ⟨z0, y9, hX, hR, hy9, -, ez⟩ := h
  subst ez
  have g := ok_get (g_row hR) hy9
  exact jg_9 (cx_row hX) g
theorem st_worth {r8 r9 : Int64} (h : JM_worth (JX_worth JG x1 r8) x1 r9 B2 B6 Q5 z8 z5 zd z9 wk ru im) : JG B2 B6 Q5 z8 z5 zd z9 wk ru im := by
  obtain ⟨z0, y9, hX, hR, hy9, -, ez⟩ := h
  subst ez
  have g := ok_get (g_worth hR) hy9
  exact jg_9 (cx_worth hX) g
theorem st_seen {r8 r9 : Int64} (h : JM_seen (JX_seen JG x1 x2 r8) x1 x2 r9 B2 B6 Q5 z8 z5 zd z9 wk ru im) : JG B2 B6 Q5 z8 z5 zd z9 wk ru im := by
  obtain ⟨z0, y9, hX, hR, hy9, -, ez⟩ := h
  subst ez
  have g := ok_get (g_seen hR) hy9
  exact jg_9 (cx_seen hX) g
theorem st_best {r8 r9 : Int64} (h : JM_best (JX_best JG x1 x2 r8) x1 x2 r9 B2 B6 Q5 z8 z5 zd z9 wk ru im) : JG B2 B6 Q5 z8 z5 zd z9 wk ru im := by
  obtain ⟨z0, y9, hX, hR, hy9, -, ez⟩ := h
  subst ez
  have g := ok_get (g_best hR) hy9
  exact jg_9 (cx_best hX) g
theorem st_master {r8 r9 : Int64} (h : JM_master (JX_master JG x1 x2 r8) x1 x2 r9 B2 B6 Q5 z8 z5 zd z9 wk ru im) : JG B2 B6 Q5 z8 z5 zd z9 wk ru im := by
  obtain ⟨z0, y9, hX, hR, hy9, -, ez⟩ := h
  subst ez
  have g := ok_get (g_master hR) hy9
  exact jg_9 (cx_master hX) g
theorem st_rests {r8 r9 : Int32} (h : JM_rests (JX_rests JG r8) r9 B2 B6 Q5 z8 z5 zd z9 wk ru im) : JG B2 B6 Q5 z8 z5 zd z9 wk ru im := by
  obtain ⟨hX, -, -⟩ := h
  exact cx_rests hX
theorem st_mixed {r8 r9 : Int32} (h : JM_mixed (JX_mixed JG x1 x2 r8) x1 x2 r9 B2 B6 Q5 z8 z5 zd z9 wk ru im) : JG B2 B6 Q5 z8 z5 zd z9 wk ru im := by
  obtain ⟨hX, -, -⟩ := h
  exact cx_mixed hX
theorem st_checks {r8 r9 : Int32} (h : JM_checks (JX_checks JG x1 x2 r8) x1 x2 r9 B2 B6 Q5 z8 z5 zd z9 wk ru im) : JG B2 B6 Q5 z8 z5 zd z9 wk ru im := by
  obtain ⟨hX, -, -⟩ := h
  exact cx_checks hX
theorem st_fits {r8 r9 : Int32} (h : JM_fits (JX_fits JG x1 x2 r8) x1 x2 r9 B2 B6 Q5 z8 z5 zd z9 wk ru im) : JG B2 B6 Q5 z8 z5 zd z9 wk ru im := by
  obtain ⟨hX, -, -⟩ := h
  exact cx_fits hX
theorem st_seed {r8 r9 : Int32} (h : JM_seed (JX_seed JG x1 r8) x1 r9 B2 B6 Q5 z8 z5 zd z9 wk ru im) : JG B2 B6 Q5 z8 z5 zd z9 wk ru im := by
  obtain ⟨z0, y9, hX, hR, hy9, -, ez⟩ := h
  subst ez
  have g := ok_get (g_seed hR) hy9
  exact jg_9 (cx_seed hX) g
theorem st_weeks {r8 r9 : Int32} (h : JM_weeks (JX_weeks JG x1 x2 x3 r8) x1 x2 x3 r9 B2 B6 Q5 z8 z5 zd z9 wk ru im) : JG B2 B6 Q5 z8 z5 zd z9 wk ru im := by
  obtain ⟨z0, y9, hX, hR, hy9, -, ez⟩ := h
  subst ez
  have g := ok_get (g_weeks hR) hy9
  rcases hX with hX | hX
  · exact jg_9 (cx_weeks_none hX) g
  · exact jg_9 (cx_weeks_some hX) g
theorem st_count {r8 r9 : Int32} (h : JM_count (JX_count JG x1 r8) x1 r9 B2 B6 Q5 z8 z5 zd z9 wk ru im) : JG B2 B6 Q5 z8 z5 zd z9 wk ru im := by
  obtain ⟨hX, -, -⟩ := h
  exact cx_count hX
theorem st_coins {r8 r9 : Int32} (h : JM_coins (JX_coins JG x1 r8) x1 r9 B2 B6 Q5 z8 z5 zd z9 wk ru im) : JG B2 B6 Q5 z8 z5 zd z9 wk ru im := by
  obtain ⟨hX, -, -⟩ := h
  exact cx_coins hX

/-- GAME -/
theorem game_both {r8 r9 : Int32} (h : JM_game (JX_game JG x1 x2 r8) x1 x2 r9 B2 B6 Q5 z8 z5 zd z9 wk ru im) : r8 = r9 ∧ JG B2 B6 Q5 z8 z5 zd z9 wk ru im := by
  obtain ⟨z0, y9, ⟨z5o, y, hJ, -, hy, e8, e5⟩, -, hy9, e9, ez⟩ := h
  subst e8 e5 e9 ez
  obtain ⟨h1, h2, h3, h4⟩ := hJ
  rcases ok_get game8 hy with ⟨g, a, b⟩ | ⟨g, a, b⟩ <;> rcases ok_get game9 hy9 with ⟨g', a', b'⟩ | ⟨g', a', b'⟩
  · rw [a, b, a', b']; exact ⟨rfl, h1, h2, h3, h4⟩
  · exact absurd g' g
  · exact absurd g g'
  · have hcl := clampI (x := x1) g.1
    obtain ⟨g1, g2, g3, g5⟩ := g
    rw [a, b, a', b']
    refine ⟨h1 _ (by omega), fun i hi => ?_, h2, h3, h4⟩
    by_cases c : i = x1.toNatClampNeg
    · subst c
      exact (show upd (gT z5o 7) x1.toNatClampNeg x2 x1.toNatClampNeg = x2 from if_pos rfl).trans (show upd (gT z0 24) (18 + x1.toNatClampNeg) x2 (18 + x1.toNatClampNeg) = x2 from if_pos rfl).symm
    · exact ((show upd (gT z5o 7) x1.toNatClampNeg x2 i = gT z5o 7 i from if_neg c).trans (h1 i hi)).trans (show upd (gT z0 24) (18 + x1.toNatClampNeg) x2 (18 + i) = gT z0 24 (18 + i) from if_neg (by omega)).symm
theorem st_game {r8 r9 : Int32} (h : JM_game (JX_game JG x1 x2 r8) x1 x2 r9 B2 B6 Q5 z8 z5 zd z9 wk ru im) : JG B2 B6 Q5 z8 z5 zd z9 wk ru im := (game_both h).2
theorem st_back {r8 r9 : Int32} (h : JM_back (JX_back JG x1 r8) x1 r9 B2 B6 Q5 z8 z5 zd z9 wk ru im) : JG B2 B6 Q5 z8 z5 zd z9 wk ru im := by
  obtain ⟨z0, y9, hX, -, hy9, -, ez⟩ := h
  subst ez
  have q9 := ok_get back9 hy9
  rcases hX with ⟨y, hJ, -, cx, hB, hy, -⟩ | ⟨Q5o, z5o, zdo, qR, QR, zR, QE, zE, y, hJ, -, him, hun, cx, hB, hy, -, eQ, e5, ed⟩ | ⟨hJ, -, cx, -⟩
  · rcases q9 with ⟨-, e⟩ | ⟨-, ne, -⟩
    · rw [e]; exact hJ
    · exact absurd ((hJ.2.1 _ (by have hcl := clampI cx.1; omega)).1 hB) ne
  · have hcl := clampI cx.1
    have hk : x1.toNatClampNeg < 4 := by omega
    rcases q9 with ⟨h0, e⟩ | ⟨-, ne, f, he⟩
    · rcases h0 with h0 | h0
      · exact absurd cx h0
      · exact absurd ((hJ.2.1 _ hk).2 h0) (by rw [hB]; intro h; cases h)
    · obtain ⟨h1, h2, h3, h4⟩ := hJ
      obtain ⟨x, hx, ex, hg⟩ := h3 _ _ hk hB
      have := hun x hx ex
      subst this
      subst e5
      refine ⟨fun i hi => ?_, fun k hk => by rw [(f 35 (by decide)).2.1]; exact h2 k hk, fun k q hk hq => by rw [(f 34 (by decide)).2.1]; exact h3 k q hk hq, h4⟩
      rw [back7 hy i hi, he (18 + i) (by omega)]
      refine (hg i hi).trans ?_
      rw [Nat.add_assoc]
  · rcases q9 with ⟨-, e⟩ | ⟨ic, -⟩
    · rw [e]; exact hJ
    · exact absurd ic cx
theorem st_image {r8 r9 : Int32} (h : JM_image (JX_image JG x1 r8) x1 r9 B2 B6 Q5 z8 z5 zd z9 wk ru im) : JG B2 B6 Q5 z8 z5 zd z9 wk ru im := by
  obtain ⟨z0, y9, hX, -, hy9, -, ez⟩ := h
  subst ez
  have q9 := ok_get image9 hy9
  have nb : ¬ (vp_nar .boolean 1 : Int32) = 0 := by decide
  rcases hX with ⟨B6o, imo, y, u, hJ, hI, cx, hB, hy, -, hfr, eB, ei⟩ | ⟨imo, qR, QR, zR, QE, zE, y, imr, hJ, -, him, hun, cx, hB, hy, -, hi1, hi2, ei⟩ | ⟨hJ, -, cx, -⟩
  · have hcl := clampI cx.1
    rcases q9 with ⟨ic, -⟩ | ⟨-, f, ha, hb, hm, hn⟩
    · exact absurd cx ic
    obtain ⟨h1, h2, h3, h4⟩ := hJ
    subst eB ei
    refine ⟨fun i hi => by rw [(f 24 (by decide)).2.1]; exact h1 i hi, fun k hk => ?_, fun k q hk hq => ?_, fun j k q hj hk => ?_⟩
    · by_cases c : k = x1.toNatClampNeg
      · subst c
        rw [va_up_self, hm]
        exact ⟨fun h => (by cases h), fun h => absurd h nb⟩
      · rw [va_up_ne _ _ c, hn k c]; exact h2 k hk
    · by_cases c : k = x1.toNatClampNeg
      · subst c
        rw [va_up_self] at hq
        refine ⟨_, List.mem_cons_self, Option.some.inj hq, fun i hi => ?_⟩
        rw [Nat.add_assoc, ha (18 + i) (by omega)]
        exact (imgn7 hy i hi).trans (h1 i hi)
      · rw [va_up_ne _ _ c] at hq
        obtain ⟨x, hx, ex, hg⟩ := h3 k q hk hq
        refine ⟨x, List.mem_cons_of_mem _ hx, ex, fun i hi => ?_⟩
        rw [hb (104 * k + 18 + i) (by omega)]; exact hg i hi
    · by_cases c : j = x1.toNatClampNeg
      · by_cases d : k = x1.toNatClampNeg
        · exact c.trans d.symm
        · subst c
          rw [va_up_self] at hj
          rw [va_up_ne _ _ d] at hk
          obtain ⟨x, hx, ex⟩ := hI.2.2.2.2.1 _ _ hk
          exact absurd (ex.trans (Option.some.inj hj).symm) (hfr x hx)
      · by_cases d : k = x1.toNatClampNeg
        · subst d
          rw [va_up_self] at hk
          rw [va_up_ne _ _ c] at hj
          obtain ⟨x, hx, ex⟩ := hI.2.2.2.2.1 _ _ hj
          exact absurd (ex.trans (Option.some.inj hk).symm) (hfr x hx)
        · rw [va_up_ne _ _ c] at hj
          rw [va_up_ne _ _ d] at hk
          exact h4 j k q hj hk
  · have hcl := clampI cx.1
    rcases q9 with ⟨ic, -⟩ | ⟨-, f, ha, hb, hm, hn⟩
    · exact absurd cx ic
    obtain ⟨h1, h2, h3, h4⟩ := hJ
    subst ei
    refine ⟨fun i hi => by rw [(f 24 (by decide)).2.1]; exact h1 i hi, fun k hk => ?_, fun k q hk hq => ?_, h4⟩
    · by_cases c : k = x1.toNatClampNeg
      · subst c
        rw [hm, hB]
        exact ⟨fun h => (by cases h), fun h => absurd h nb⟩
      · rw [hn k c]; exact h2 k hk
    · by_cases c : k = x1.toNatClampNeg
      · subst c
        rw [hB] at hq
        refine ⟨_, List.mem_cons_self, Option.some.inj hq, fun i hi => ?_⟩
        rw [Nat.add_assoc, ha (18 + i) (by omega)]
        exact (imgs7 hy i hi).trans (h1 i hi)
      · obtain ⟨x, hx, ex, hg⟩ := h3 k q hk hq
        rcases hi2 x hx with e | e
        · subst e
          have ex : qR = q := ex
          subst ex
          exact absurd (h4 _ _ _ hq hB) c
        · refine ⟨x, List.mem_cons_of_mem _ e, ex, fun i hi => ?_⟩
          rw [hb (104 * k + 18 + i) (by omega)]; exact hg i hi
  · rcases q9 with ⟨-, e⟩ | ⟨ic, -⟩
    · rw [e]; exact hJ
    · exact absurd ic cx
end JGS
theorem mixed_both {B2 B6 : Nat → Option Nat} {Q5 : Nat → Nat} {z8 z5 zd z9 : Sx} {wk : List WT} {ru : List RT} {im : List IT} {x1 x2 r8 r9 : Int32} (h : JM_mixed (JX_mixed JG x1 x2 r8) x1 x2 r9 B2 B6 Q5 z8 z5 zd z9 wk ru im) : r8 = r9 := by
  obtain ⟨⟨y, hJ, -, hy, e⟩, hR, hy9⟩ := h
  rw [mixed_eq (z := z8) hR hJ.1 hy9] at hy
  rw [e]; exact (Option.some.inj hy).symm
theorem eq_mixed {a : Nat → ClassId} {q8 q9 : Nat} {w : va_W} {x1 : Int32} {x2 : Int32} {r8 r9 : Int32} (hG : Gd a q8 q9 (JM_mixed (JX_mixed JG x1 x2 r8) x1 x2 r9) w) : r8 = r9 := by
  obtain ⟨Q8, z8, B2, B6, Q5, z5, Qd, zd, Qt, zt, Q4, z4, Q6, z6, Q2, z2, Q1, z1, Q9, z9, wk, ru, im, -, -, hJ⟩ := hG
  exact mixed_both hJ

/-! The text that waits, and the number of RULES, are the same on both sides. -/
def JG : CT := fun _ _ _ z8 _ _ z9 _ _ _ => JT z8 z9
section JGS
variable {B2 B6 : Nat → Option Nat} {Q5 : Nat → Nat} {z8 z5 zd z9 : Sx} {wk : List WT} {ru : List RT} {im : List IT} {x1 x2 x3 x4 x5 : Int32}
theorem jg_new {q : Nat} {Qw : Nat → Nat} : JG (fun _ => none) (fun _ => none) Q5 Z0 Z0 Z0 Z0 [(q, Qw, Z0)] [] [] := ⟨0, 0, ⟨rfl, rfl, by omega, fun i hi => by omega⟩, by omega, rfl, rfl⟩
theorem jg_9 {z : Sx} (h : JG B2 B6 Q5 z8 z5 zd z9 wk ru im) (g : U9 z9 z) : JG B2 B6 Q5 z8 z5 zd z wk ru im := jt_9 h g
theorem cx_kind {r : Int32} (h : JX_kind JG x1 x2 r B2 B6 Q5 z8 z5 zd z9 wk ru im) : JG B2 B6 Q5 z8 z5 zd z9 wk ru im := by
  obtain ⟨Qw, zw, y, hJ, hI, hwm, hy, e_r⟩ := h
  exact hJ
theorem cx_fault {r : Int32} (h : JX_fault JG x1 x2 r B2 B6 Q5 z8 z5 zd z9 wk ru im) : JG B2 B6 Q5 z8 z5 zd z9 wk ru im := by
  obtain ⟨Qw, zw, y, hJ, hI, hwm, hy, e_r⟩ := h
  exact hJ
theorem cx_look {r : Int32} (h : JX_look JG x1 r B2 B6 Q5 z8 z5 zd z9 wk ru im) : JG B2 B6 Q5 z8 z5 zd z9 wk ru im := by
  obtain ⟨zdo, Qw, zw, y, hJ, hI, hwm, hy, e_r, e_zd⟩ := h
  subst e_zd
  exact hJ
theorem cx_fine {r : Int32} (h : JX_fine JG x1 r B2 B6 Q5 z8 z5 zd z9 wk ru im) : JG B2 B6 Q5 z8 z5 zd z9 wk ru im := by
  obtain ⟨zdo, Qw, zw, y, hJ, hI, hwm, hy, e_r, e_zd⟩ := h
  subst e_zd
  exact hJ
theorem cx_mend {r : Int32} (h : JX_mend JG x1 r B2 B6 Q5 z8 z5 zd z9 wk ru im) : JG B2 B6 Q5 z8 z5 zd z9 wk ru im := by
  obtain ⟨z5o, zdo, Qw, zw, y, hJ, hI, hwm, hy, e_r, e_z5, e_zd⟩ := h
  subst e_z5
  subst e_zd
  exact hJ
theorem cx_dawn {r : Int32} (h : JX_dawn JG r B2 B6 Q5 z8 z5 zd z9 wk ru im) : JG B2 B6 Q5 z8 z5 zd z9 wk ru im := by
  obtain ⟨z5o, zdo, Qw, zw, y, hJ, hI, hwm, hy, e_r, e_z5, e_zd⟩ := h
  subst e_z5
  subst e_zd
  exact hJ
theorem cx_day_none {r : Int32} (h : JX_day_none JG x1 r B2 B6 Q5 z8 z5 zd z9 wk ru im) : JG B2 B6 Q5 z8 z5 zd z9 wk ru im := by
  obtain ⟨Qw, zw, y, hJ, hI, hwm, hr0, hy, e_r⟩ := h
  exact hJ
theorem cx_day_some {r : Int32} (h : JX_day_some JG x1 r B2 B6 Q5 z8 z5 zd z9 wk ru im) : JG B2 B6 Q5 z8 z5 zd z9 wk ru im := by
  obtain ⟨zdo, Qw, zw, qR, QR, nR, zR, z2, y, hJ, hI, hwm, hrm, hr0, hy, e_r, e_zd⟩ := h
  subst e_zd
  exact hJ
theorem cx_would_none {r : Int32} (h : JX_would_none JG x1 x2 r B2 B6 Q5 z8 z5 zd z9 wk ru im) : JG B2 B6 Q5 z8 z5 zd z9 wk ru im := by
  obtain ⟨Qw, zw, y, hJ, hI, hwm, hr0, hy, e_r⟩ := h
  exact hJ
theorem cx_would_some {r : Int32} (h : JX_would_some JG x1 x2 r B2 B6 Q5 z8 z5 zd z9 wk ru im) : JG B2 B6 Q5 z8 z5 zd z9 wk ru im := by
  obtain ⟨Qw, zw, qR, QR, nR, zR, zt, z2, y, hJ, hI, hwm, hrm, hr0, hy, e_r⟩ := h
  exact hJ
theorem cx_row {r : Int32} (h : JX_row JG x1 r B2 B6 Q5 z8 z5 zd z9 wk ru im) : JG B2 B6 Q5 z8 z5 zd z9 wk ru im := by
  obtain ⟨z5o, Qw, zw, y, hJ, hI, hwm, hy, e_r, e_z5⟩ := h
  subst e_z5
  exact hJ
theorem cx_worth {r : Int64} (h : JX_worth JG x1 r B2 B6 Q5 z8 z5 zd z9 wk ru im) : JG B2 B6 Q5 z8 z5 zd z9 wk ru im := by
  obtain ⟨Qw, zw, y, hJ, hI, hwm, hy, e_r⟩ := h
  exact hJ
theorem cx_seen {r : Int64} (h : JX_seen JG x1 x2 r B2 B6 Q5 z8 z5 zd z9 wk ru im) : JG B2 B6 Q5 z8 z5 zd z9 wk ru im := by
  obtain ⟨Qw, zw, y, hJ, hI, hwm, hy, e_r⟩ := h
  exact hJ
theorem cx_best {r : Int64} (h : JX_best JG x1 x2 r B2 B6 Q5 z8 z5 zd z9 wk ru im) : JG B2 B6 Q5 z8 z5 zd z9 wk ru im := by
  obtain ⟨Qw, zw, z1, y, hJ, hI, hwm, hy, e_r⟩ := h
  exact hJ
theorem cx_master {r : Int64} (h : JX_master JG x1 x2 r B2 B6 Q5 z8 z5 zd z9 wk ru im) : JG B2 B6 Q5 z8 z5 zd z9 wk ru im := by
  obtain ⟨Qw, zw, z1, y, hJ, hI, hwm, hy, e_r⟩ := h
  exact hJ
theorem cx_rests {r : Int32} (h : JX_rests JG r B2 B6 Q5 z8 z5 zd z9 wk ru im) : JG B2 B6 Q5 z8 z5 zd z9 wk ru im := by
  obtain ⟨y, hJ, hI, hy, e_r⟩ := h
  exact hJ
theorem cx_mixed {r : Int32} (h : JX_mixed JG x1 x2 r B2 B6 Q5 z8 z5 zd z9 wk ru im) : JG B2 B6 Q5 z8 z5 zd z9 wk ru im := by
  obtain ⟨y, hJ, hI, hy, e_r⟩ := h
  exact hJ
theorem cx_checks {r : Int32} (h : JX_checks JG x1 x2 r B2 B6 Q5 z8 z5 zd z9 wk ru im) : JG B2 B6 Q5 z8 z5 zd z9 wk ru im := by
  obtain ⟨y, hJ, hI, hy, e_r⟩ := h
  exact hJ
theorem cx_fits {r : Int32} (h : JX_fits JG x1 x2 r B2 B6 Q5 z8 z5 zd z9 wk ru im) : JG B2 B6 Q5 z8 z5 zd z9 wk ru im := by
  obtain ⟨Qw, zw, y, hJ, hI, hwm, hy, e_r⟩ := h
  exact hJ
theorem cx_seed {r : Int32} (h : JX_seed JG x1 r B2 B6 Q5 z8 z5 zd z9 wk ru im) : JG B2 B6 Q5 z8 z5 zd z9 wk ru im := by
  obtain ⟨zdo, y, hJ, hI, hy, e_r, e_zd⟩ := h
  subst e_zd
  exact hJ
theorem cx_weeks_none {r : Int32} (h : JX_weeks_none JG x1 x2 x3 r B2 B6 Q5 z8 z5 zd z9 wk ru im) : JG B2 B6 Q5 z8 z5 zd z9 wk ru im := by
  obtain ⟨Qw, zw, y, hJ, hI, hwm, hr0, hy, e_r⟩ := h
  exact hJ
theorem cx_weeks_some {r : Int32} (h : JX_weeks_some JG x1 x2 x3 r B2 B6 Q5 z8 z5 zd z9 wk ru im) : JG B2 B6 Q5 z8 z5 zd z9 wk ru im := by
  obtain ⟨Qw, zw, qR, QR, nR, zR, zt, z2, y, hJ, hI, hwm, hrm, hr0, hy, e_r⟩ := h
  exact hJ
theorem cx_count {r : Int32} (h : JX_count JG x1 r B2 B6 Q5 z8 z5 zd z9 wk ru im) : JG B2 B6 Q5 z8 z5 zd z9 wk ru im := by
  obtain ⟨Qw, zw, y, hJ, hI, hwm, hy, e_r⟩ := h
  exact hJ
theorem cx_coins {r : Int32} (h : JX_coins JG x1 r B2 B6 Q5 z8 z5 zd z9 wk ru im) : JG B2 B6 Q5 z8 z5 zd z9 wk ru im := by
  obtain ⟨y, hJ, hI, hy, e_r⟩ := h
  exact hJ
theorem st_kind {r8 r9 : Int32} (h : JM_kind (JX_kind JG x1 x2 r8) x1 x2 r9 B2 B6 Q5 z8 z5 zd z9 wk ru im) : JG B2 B6 Q5 z8 z5 zd z9 wk ru im := by
  obtain ⟨hX, -, -⟩ := h
  exact cx_kind hX
theorem st_fault {r8 r9 : Int32} (h : JM_fault (JX_fault JG x1 x2 r8) x1 x2 r9 B2 B6 Q5 z8 z5 zd z9 wk ru im) : JG B2 B6 Q5 z8 z5 zd z9 wk ru im := by
  obtain ⟨hX, -, -⟩ := h
  exact cx_fault hX
theorem st_look {r8 r9 : Int32} (h : JM_look (JX_look JG x1 r8) x1 r9 B2 B6 Q5 z8 z5 zd z9 wk ru im) : JG B2 B6 Q5 z8 z5 zd z9 wk ru im := by
  obtain ⟨z0, y9, hX, hR, hy9, -, ez⟩ := h
  subst ez
  have g := ok_get (u_look hR) hy9
  exact jg_9 (cx_look hX) g
theorem st_fine {r8 r9 : Int32} (h : JM_fine (JX_fine JG x1 r8) x1 r9 B2 B6 Q5 z8 z5 zd z9 wk ru im) : JG B2 B6 Q5 z8 z5 zd z9 wk ru im := by
  obtain ⟨z0, y9, hX, hR, hy9, -, ez⟩ := h
  subst ez
  have g := ok_get (u_fine hR) hy9
  exact jg_9 (cx_fine hX) g
theorem st_mend {r8 r9 : Int32} (h : JM_mend (JX_mend JG x1 r8) x1 r9 B2 B6 Q5 z8 z5 zd z9 wk ru im) : JG B2 B6 Q5 z8 z5 zd z9 wk ru im := by
  obtain ⟨z0, y9, hX, hR, hy9, -, ez⟩ := h
  subst ez
  have g := ok_get (u_mend hR) hy9
  exact jg_9 (cx_mend hX) g
theorem st_dawn {r8 r9 : Int32} (h : JM_dawn (JX_dawn JG r8) r9 B2 B6 Q5 z8 z5 zd z9 wk ru im) : JG B2 B6 Q5 z8 z5 zd z9 wk ru im := by
  obtain ⟨z0, y9, hX, hR, hy9, -, ez⟩ := h
  subst ez
  have g := ok_get (u_dawn hR) hy9
  exact jg_9 (cx_dawn hX) g
theorem st_day {r8 r9 : Int32} (h : JM_day (JX_day JG x1 r8) x1 r9 B2 B6 Q5 z8 z5 zd z9 wk ru im) : JG B2 B6 Q5 z8 z5 zd z9 wk ru im := by
  obtain ⟨z0, y9, hX, hR, hy9, -, ez⟩ := h
  subst ez
  have g := ok_get (u_day hR) hy9
  rcases hX with hX | hX
  · exact jg_9 (cx_day_none hX) g
  · exact jg_9 (cx_day_some hX) g
theorem st_would {r8 r9 : Int32} (h : JM_would (JX_would JG x1 x2 r8) x1 x2 r9 B2 B6 Q5 z8 z5 zd z9 wk ru im) : JG B2 B6 Q5 z8 z5 zd z9 wk ru im := by
  obtain ⟨z0, y9, hX, hR, hy9, -, ez⟩ := h
  subst ez
  have g := ok_get (u_would hR) hy9
  rcases hX with hX | hX
  · exact jg_9 (cx_would_none hX) g
  · exact jg_9 (cx_would_some hX) g
theorem st_row {r8 r9 : Int32} (h : JM_row (JX_row JG x1 r8) x1 r9 B2 B6 Q5 z8 z5 zd z9 wk ru im) : JG B2 B6 Q5 z8 z5 zd z9 wk ru im := by
  obtain ⟨z0, y9, hX, hR, hy9, -, ez⟩ := h
  subst ez
  have g := ok_get (u_row hR) hy9
  exact jg_9 (cx_row hX) g
theorem st_worth {r8 r9 : Int64} (h : JM_worth (JX_worth JG x1 r8) x1 r9 B2 B6 Q5 z8 z5 zd z9 wk ru im) : JG B2 B6 Q5 z8 z5 zd z9 wk ru im := by
  obtain ⟨z0, y9, hX, hR, hy9, -, ez⟩ := h
  subst ez
  have g := ok_get (u_worth hR) hy9
  exact jg_9 (cx_worth hX) g
theorem st_seen {r8 r9 : Int64} (h : JM_seen (JX_seen JG x1 x2 r8) x1 x2 r9 B2 B6 Q5 z8 z5 zd z9 wk ru im) : JG B2 B6 Q5 z8 z5 zd z9 wk ru im := by
  obtain ⟨z0, y9, hX, hR, hy9, -, ez⟩ := h
  subst ez
  have g := ok_get (u_seen hR) hy9
  exact jg_9 (cx_seen hX) g
theorem st_best {r8 r9 : Int64} (h : JM_best (JX_best JG x1 x2 r8) x1 x2 r9 B2 B6 Q5 z8 z5 zd z9 wk ru im) : JG B2 B6 Q5 z8 z5 zd z9 wk ru im := by
  obtain ⟨z0, y9, hX, hR, hy9, -, ez⟩ := h
  subst ez
  have g := ok_get (u_best hR) hy9
  exact jg_9 (cx_best hX) g
theorem st_master {r8 r9 : Int64} (h : JM_master (JX_master JG x1 x2 r8) x1 x2 r9 B2 B6 Q5 z8 z5 zd z9 wk ru im) : JG B2 B6 Q5 z8 z5 zd z9 wk ru im := by
  obtain ⟨z0, y9, hX, hR, hy9, -, ez⟩ := h
  subst ez
  have g := ok_get (u_master hR) hy9
  exact jg_9 (cx_master hX) g
theorem st_rests {r8 r9 : Int32} (h : JM_rests (JX_rests JG r8) r9 B2 B6 Q5 z8 z5 zd z9 wk ru im) : JG B2 B6 Q5 z8 z5 zd z9 wk ru im := by
  obtain ⟨hX, -, -⟩ := h
  exact cx_rests hX
theorem st_mixed {r8 r9 : Int32} (h : JM_mixed (JX_mixed JG x1 x2 r8) x1 x2 r9 B2 B6 Q5 z8 z5 zd z9 wk ru im) : JG B2 B6 Q5 z8 z5 zd z9 wk ru im := by
  obtain ⟨hX, -, -⟩ := h
  exact cx_mixed hX
theorem st_checks {r8 r9 : Int32} (h : JM_checks (JX_checks JG x1 x2 r8) x1 x2 r9 B2 B6 Q5 z8 z5 zd z9 wk ru im) : JG B2 B6 Q5 z8 z5 zd z9 wk ru im := by
  obtain ⟨hX, -, -⟩ := h
  exact cx_checks hX
theorem st_fits {r8 r9 : Int32} (h : JM_fits (JX_fits JG x1 x2 r8) x1 x2 r9 B2 B6 Q5 z8 z5 zd z9 wk ru im) : JG B2 B6 Q5 z8 z5 zd z9 wk ru im := by
  obtain ⟨hX, -, -⟩ := h
  exact cx_fits hX
theorem st_seed {r8 r9 : Int32} (h : JM_seed (JX_seed JG x1 r8) x1 r9 B2 B6 Q5 z8 z5 zd z9 wk ru im) : JG B2 B6 Q5 z8 z5 zd z9 wk ru im := by
  obtain ⟨z0, y9, hX, hR, hy9, -, ez⟩ := h
  subst ez
  have g := ok_get (u_seed hR) hy9
  exact jg_9 (cx_seed hX) g
theorem st_weeks {r8 r9 : Int32} (h : JM_weeks (JX_weeks JG x1 x2 x3 r8) x1 x2 x3 r9 B2 B6 Q5 z8 z5 zd z9 wk ru im) : JG B2 B6 Q5 z8 z5 zd z9 wk ru im := by
  obtain ⟨z0, y9, hX, hR, hy9, -, ez⟩ := h
  subst ez
  have g := ok_get (u_weeks hR) hy9
  rcases hX with hX | hX
  · exact jg_9 (cx_weeks_none hX) g
  · exact jg_9 (cx_weeks_some hX) g
theorem st_count {r8 r9 : Int32} (h : JM_count (JX_count JG x1 r8) x1 r9 B2 B6 Q5 z8 z5 zd z9 wk ru im) : JG B2 B6 Q5 z8 z5 zd z9 wk ru im := by
  obtain ⟨hX, -, -⟩ := h
  exact cx_count hX
theorem st_coins {r8 r9 : Int32} (h : JM_coins (JX_coins JG x1 r8) x1 r9 B2 B6 Q5 z8 z5 zd z9 wk ru im) : JG B2 B6 Q5 z8 z5 zd z9 wk ru im := by
  obtain ⟨hX, -, -⟩ := h
  exact cx_coins hX

theorem st_image {r8 r9 : Int32} (h : JM_image (JX_image JG x1 r8) x1 r9 B2 B6 Q5 z8 z5 zd z9 wk ru im) : JG B2 B6 Q5 z8 z5 zd z9 wk ru im := by
  obtain ⟨z0, y9, hX, -, hy9, -, ez⟩ := h
  subst ez
  have g := ok_get u_image hy9
  rcases hX with ⟨B6o, imo, y, u, hJ, -⟩ | ⟨imo, qR, QR, zR, QE, zE, y, imr, hJ, -⟩ | ⟨hJ, -⟩
  · exact jt_9 hJ g
  · exact jt_9 hJ g
  · exact jt_9 hJ g
theorem st_back {r8 r9 : Int32} (h : JM_back (JX_back JG x1 r8) x1 r9 B2 B6 Q5 z8 z5 zd z9 wk ru im) : JG B2 B6 Q5 z8 z5 zd z9 wk ru im := by
  obtain ⟨z0, y9, hX, -, hy9, -, ez⟩ := h
  subst ez
  have g := ok_get u_back hy9
  rcases hX with ⟨y, hJ, -⟩ | ⟨Q5o, z5o, zdo, qR, QR, zR, QE, zE, y, hJ, -⟩ | ⟨hJ, -⟩
  · exact jt_9 hJ g
  · exact jt_9 hJ g
  · exact jt_9 hJ g
theorem st_game {r8 r9 : Int32} (h : JM_game (JX_game JG x1 x2 r8) x1 x2 r9 B2 B6 Q5 z8 z5 zd z9 wk ru im) : JG B2 B6 Q5 z8 z5 zd z9 wk ru im := by
  obtain ⟨z0, y9, ⟨z5o, y, hJ, -⟩, -, hy9, -, ez⟩ := h
  subst ez
  have g := ok_get u_game hy9
  exact jt_9 hJ g
theorem feed_both {r8 r9 : Int32} (h : JM_feed (JX_feed JG x1 x2 x3 x4 x5 r8) x1 x2 x3 x4 x5 r9 B2 B6 Q5 z8 z5 zd z9 wk ru im) : r8 = r9 ∧ JG B2 B6 Q5 z8 z5 zd z9 wk ru im := by
  obtain ⟨z0, y9, ⟨z8o, y, hJ, -, hy, e8, ez8⟩, hR, hy9, e9, ez⟩ := h
  subst e8 ez8 e9 ez
  exact feed_st hJ hR hy hy9
theorem end_both {r8 r9 : Int32} (h : JM_end (JX_end JG x1 r8) x1 r9 B2 B6 Q5 z8 z5 zd z9 wk ru im) : r8 = r9 ∧ JG B2 B6 Q5 z8 z5 zd z9 wk ru im := by
  obtain ⟨z0, y9, ⟨z8o, y, hJ, -, hy, e8, ez8⟩, hR, hy9, e9, ez⟩ := h
  subst e8 ez8 e9 ez
  exact end_st hJ hR hy hy9
theorem rule_both {r8 r9 : Int32} (h : JM_rule (JX_rule JG r8) r9 B2 B6 Q5 z8 z5 zd z9 wk ru im) : r8 = r9 ∧ JG B2 B6 Q5 z8 z5 zd z9 wk ru im := by
  obtain ⟨z0, y9, hX, hR, hy9, e9, ez⟩ := h
  subst e9 ez
  rcases hX with ⟨B2o, z8o, ruo, z4, z6, y, u, hJ, -, hy, e8, eB, ez8, er⟩ | ⟨z8o, z4, z6, y, hJ, -, hy, e8, ez8⟩
  · subst e8 ez8
    exact rule_st hJ hR (Or.inl hy) hy9
  · subst e8 ez8
    exact rule_st hJ hR (Or.inr hy) hy9
theorem st_feed {r8 r9 : Int32} (h : JM_feed (JX_feed JG x1 x2 x3 x4 x5 r8) x1 x2 x3 x4 x5 r9 B2 B6 Q5 z8 z5 zd z9 wk ru im) : JG B2 B6 Q5 z8 z5 zd z9 wk ru im := (feed_both h).2
theorem st_end {r8 r9 : Int32} (h : JM_end (JX_end JG x1 r8) x1 r9 B2 B6 Q5 z8 z5 zd z9 wk ru im) : JG B2 B6 Q5 z8 z5 zd z9 wk ru im := (end_both h).2
theorem st_rule {r8 r9 : Int32} (h : JM_rule (JX_rule JG r8) r9 B2 B6 Q5 z8 z5 zd z9 wk ru im) : JG B2 B6 Q5 z8 z5 zd z9 wk ru im := (rule_both h).2
theorem st_work {r8 r9 : Int32} (h : JM_work (JX_work JG r8) r9 B2 B6 Q5 z8 z5 zd z9 wk ru im) : JG B2 B6 Q5 z8 z5 zd z9 wk ru im := by
  obtain ⟨z0, y9, hX, hR, hy9, e9, ez⟩ := h
  subst e9 ez
  rcases hX with ⟨Q5o, z8o, z5o, zdo, wko, z4, z6, y, u, hJ, -, hy, e8, eQ, ez8, ez5, ezd, ew⟩ | ⟨z8o, z5o, zdo, z4, z6, y, hJ, -, hy, e8, ez8, ez5, ezd⟩
  · subst ez8
    exact work_ok_st hJ hR hy hy9
  · subst ez8
    exact work_fail_st hJ hR hy hy9
end JGS
theorem eq_end {a : Nat → ClassId} {q8 q9 : Nat} {w : va_W} {x1 : Int32} {r8 r9 : Int32} (hG : Gd a q8 q9 (JM_end (JX_end JG x1 r8) x1 r9) w) : r8 = r9 := by
  obtain ⟨Q8, z8, B2, B6, Q5, z5, Qd, zd, Qt, zt, Q4, z4, Q6, z6, Q2, z2, Q1, z1, Q9, z9, wk, ru, im, -, -, hJ⟩ := hG
  exact (end_both hJ).1

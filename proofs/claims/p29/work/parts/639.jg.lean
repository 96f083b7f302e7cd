/-! A WORK, the ROW and the number of DAYS are the same on both sides, and in each image. -/
def KS (z5 : Sx) (q : Nat) (wk : List WT) (T : Nat → Int32) : Prop := (∀ (Qw : Nat → Nat) (zw : Sx), (q, Qw, zw) ∈ wk → WKT zw T) ∧ S5 z5 T
def JG : CT := fun _ B6 Q5 z8 z5 _ z9 wk _ im => JT z8 z9 ∧ KS z5 (Q5 0) wk (gT z9 24) ∧ (∀ k : Nat, k < 4 → (B6 k = none ↔ gT z9 35 k = 0)) ∧ (∀ (k q : Nat), k < 4 → B6 k = some q → ∃ x ∈ im, x.1 = q ∧ KS x.2.2.1 (x.2.1 0) wk (fun i => gT z9 34 (104 * k + i))) ∧ ∀ (j k q : Nat), B6 j = some q → B6 k = some q → j = k
section JGS
variable {B2 B6 : Nat → Option Nat} {Q5 : Nat → Nat} {z8 z5 zd z9 : Sx} {wk : List WT} {ru : List RT} {im : List IT} {x1 x2 x3 x4 x5 : Int32}
theorem ks_eq {q : Nat} {T T2 : Nat → Int32} (h : KS z5 q wk T) (e : ∀ i : Nat, KI i → T2 i = T i) : KS z5 q wk T2 := ⟨fun Qw zw hm => wkt_eq (h.1 Qw zw hm) (fun i hi _ _ _ => e i hi), s5_eq h.2 e⟩
theorem jg_new {q : Nat} {Qw : Nat → Nat} : JG (fun _ => none) (fun _ => none) Q5 Z0 Z0 Z0 Z0 [(q, Qw, Z0)] [] [] := by
  have z0 : (0 : Int32).toInt = 0 := by decide
  refine ⟨⟨0, 0, ⟨rfl, rfl, by omega, fun i hi => by omega⟩, by omega, rfl, rfl⟩, ⟨fun Qv zw hm => ?_, rfl, rfl, ?_, fun i hi => ?_⟩, fun k _ => ⟨fun _ => rfl, fun _ => rfl⟩, fun k q _ h => ?_, fun j k q h => ?_⟩
  · have e : zw = Z0 := congrArg (fun x : WT => x.2.2) (List.mem_singleton.1 hm)
    rw [e]
    refine ⟨⟨rfl, ?_, ?_⟩, ⟨rfl, ?_, ?_⟩, rfl, fun k hk => ?_, fun g hg => ?_⟩
    · show 0 ≤ (0 : Int32).toInt; omega
    · show (0 : Int32).toInt ≤ 6; omega
    · show 0 ≤ (0 : Int32).toInt; omega
    · show (0 : Int32).toInt ≤ 10; omega
    · have hk : (k : Int) < (0 : Int32).toInt := hk
      omega
    · have hg : (g : Int) < (0 : Int32).toInt := hg
      omega
  · show 0 ≤ (0 : Int32).toInt ∧ (0 : Int32).toInt ≤ 8; omega
  · have hi : (i : Int) < (0 : Int32).toInt := hi
    omega
  · cases h
  · cases h
theorem jg_T {w8 z : Sx} (h : JG B2 B6 Q5 z8 z5 zd z9 wk ru im) (g : V9 z9 z) (j : JT w8 z) : JG B2 B6 Q5 w8 z5 zd z wk ru im := by
  obtain ⟨h1, h2, h3, h4, h5⟩ := h
  obtain ⟨g1, g2, g3⟩ := g
  refine ⟨j, ks_eq h2 g1, fun k hk => by rw [g3]; exact h3 k hk, fun k q hk hq => ?_, h5⟩
  rw [g2]; exact h4 k q hk hq
theorem jg_9 {z : Sx} (h : JG B2 B6 Q5 z8 z5 zd z9 wk ru im) (g : V9 z9 z) (u : U9 z9 z) : JG B2 B6 Q5 z8 z5 zd z wk ru im := jg_T h g (jt_9 h.1 u)
theorem jg_f {L : List Nat} {z : Sx} (h : JG B2 B6 Q5 z8 z5 zd z9 wk ru im) (g : FrL L z5 z) (hL : (L.contains 4 || L.contains 5 || L.contains 6) = false) : JG B2 B6 Q5 z8 z zd z9 wk ru im := ⟨h.1, ⟨h.2.1.1, s5_fr h.2.1.2 g hL⟩, h.2.2⟩
theorem cx_kind {r : Int32} (h : JX_kind JG x1 x2 r B2 B6 Q5 z8 z5 zd z9 wk ru im) : JG B2 B6 Q5 z8 z5 zd z9 wk ru im := by
  obtain ⟨Qw, zw, y, hJ, hI, hwm, hy, e_r⟩ := h
  exact hJ
theorem cx_fault {r : Int32} (h : JX_fault JG x1 x2 r B2 B6 Q5 z8 z5 zd z9 wk ru im) : JG B2 B6 Q5 z8 z5 zd z9 wk ru im := by
  obtain ⟨Qw, zw, y, hJ, hI, hwm, hy, e_r⟩ := h
  exact hJ
theorem cx_look {r : Int32} (h : JX_look JG x1 r B2 B6 Q5 z8 z5 zd z9 wk ru im) : JG B2 B6 Q5 z8 z5 zd z9 wk ru im := by
  obtain ⟨zdo, Qw, zw, y, hJ, hI, hwm, hy, e_r, e_zd⟩ := h
  subst e_zd
  exact hJ
theorem cx_fine {r : Int32} (h : JX_fine JG x1 r B2 B6 Q5 z8 z5 zd z9 wk ru im) : JG B2 B6 Q5 z8 z5 zd z9 wk ru im := by
  obtain ⟨zdo, Qw, zw, y, hJ, hI, hwm, hy, e_r, e_zd⟩ := h
  subst e_zd
  exact hJ
theorem cx_mend {r : Int32} (h : JX_mend JG x1 r B2 B6 Q5 z8 z5 zd z9 wk ru im) : JG B2 B6 Q5 z8 z5 zd z9 wk ru im := by
  obtain ⟨z5o, zdo, Qw, zw, y, hJ, hI, hwm, hy, e_r, e_z5, e_zd⟩ := h
  subst e_z5
  subst e_zd
  exact jg_f hJ (ok_get t_fX8_mend hy).1 (by decide)
theorem cx_day_none {r : Int32} (h : JX_day_none JG x1 r B2 B6 Q5 z8 z5 zd z9 wk ru im) : JG B2 B6 Q5 z8 z5 zd z9 wk ru im := by
  obtain ⟨Qw, zw, y, hJ, hI, hwm, hr0, hy, e_r⟩ := h
  exact hJ
theorem cx_day_some {r : Int32} (h : JX_day_some JG x1 r B2 B6 Q5 z8 z5 zd z9 wk ru im) : JG B2 B6 Q5 z8 z5 zd z9 wk ru im := by
  obtain ⟨zdo, Qw, zw, qR, QR, nR, zR, z2, y, hJ, hI, hwm, hrm, hr0, hy, e_r, e_zd⟩ := h
  subst e_zd
  exact hJ
theorem cx_would_none {r : Int32} (h : JX_would_none JG x1 x2 r B2 B6 Q5 z8 z5 zd z9 wk ru im) : JG B2 B6 Q5 z8 z5 zd z9 wk ru im := by
  obtain ⟨Qw, zw, y, hJ, hI, hwm, hr0, hy, e_r⟩ := h
  exact hJ
theorem cx_would_some {r : Int32} (h : JX_would_some JG x1 x2 r B2 B6 Q5 z8 z5 zd z9 wk ru im) : JG B2 B6 Q5 z8 z5 zd z9 wk ru im := by
  obtain ⟨Qw, zw, qR, QR, nR, zR, zt, z2, y, hJ, hI, hwm, hrm, hr0, hy, e_r⟩ := h
  exact hJ
theorem cx_worth {r : Int64} (h : JX_worth JG x1 r B2 B6 Q5 z8 z5 zd z9 wk ru im) : JG B2 B6 Q5 z8 z5 zd z9 wk ru im := by
  obtain ⟨Qw, zw, y, hJ, hI, hwm, hy, e_r⟩ := h
  exact hJ
theorem cx_seen {r : Int64} (h : JX_seen JG x1 x2 r B2 B6 Q5 z8 z5 zd z9 wk ru im) : JG B2 B6 Q5 z8 z5 zd z9 wk ru im := by
  obtain ⟨Qw, zw, y, hJ, hI, hwm, hy, e_r⟩ := h
  exact hJ
theorem cx_best {r : Int64} (h : JX_best JG x1 x2 r B2 B6 Q5 z8 z5 zd z9 wk ru im) : JG B2 B6 Q5 z8 z5 zd z9 wk ru im := by
  obtain ⟨Qw, zw, z1, y, hJ, hI, hwm, hy, e_r⟩ := h
  exact hJ
theorem cx_master {r : Int64} (h : JX_master JG x1 x2 r B2 B6 Q5 z8 z5 zd z9 wk ru im) : JG B2 B6 Q5 z8 z5 zd z9 wk ru im := by
  obtain ⟨Qw, zw, z1, y, hJ, hI, hwm, hy, e_r⟩ := h
  exact hJ
theorem cx_rests {r : Int32} (h : JX_rests JG r B2 B6 Q5 z8 z5 zd z9 wk ru im) : JG B2 B6 Q5 z8 z5 zd z9 wk ru im := by
  obtain ⟨y, hJ, hI, hy, e_r⟩ := h
  exact hJ
theorem cx_mixed {r : Int32} (h : JX_mixed JG x1 x2 r B2 B6 Q5 z8 z5 zd z9 wk ru im) : JG B2 B6 Q5 z8 z5 zd z9 wk ru im := by
  obtain ⟨y, hJ, hI, hy, e_r⟩ := h
  exact hJ
theorem cx_checks {r : Int32} (h : JX_checks JG x1 x2 r B2 B6 Q5 z8 z5 zd z9 wk ru im) : JG B2 B6 Q5 z8 z5 zd z9 wk ru im := by
  obtain ⟨y, hJ, hI, hy, e_r⟩ := h
  exact hJ
theorem cx_fits {r : Int32} (h : JX_fits JG x1 x2 r B2 B6 Q5 z8 z5 zd z9 wk ru im) : JG B2 B6 Q5 z8 z5 zd z9 wk ru im := by
  obtain ⟨Qw, zw, y, hJ, hI, hwm, hy, e_r⟩ := h
  exact hJ
theorem cx_seed {r : Int32} (h : JX_seed JG x1 r B2 B6 Q5 z8 z5 zd z9 wk ru im) : JG B2 B6 Q5 z8 z5 zd z9 wk ru im := by
  obtain ⟨zdo, y, hJ, hI, hy, e_r, e_zd⟩ := h
  subst e_zd
  exact hJ
theorem cx_weeks_none {r : Int32} (h : JX_weeks_none JG x1 x2 x3 r B2 B6 Q5 z8 z5 zd z9 wk ru im) : JG B2 B6 Q5 z8 z5 zd z9 wk ru im := by
  obtain ⟨Qw, zw, y, hJ, hI, hwm, hr0, hy, e_r⟩ := h
  exact hJ
theorem cx_weeks_some {r : Int32} (h : JX_weeks_some JG x1 x2 x3 r B2 B6 Q5 z8 z5 zd z9 wk ru im) : JG B2 B6 Q5 z8 z5 zd z9 wk ru im := by
  obtain ⟨Qw, zw, qR, QR, nR, zR, zt, z2, y, hJ, hI, hwm, hrm, hr0, hy, e_r⟩ := h
  exact hJ
theorem cx_count {r : Int32} (h : JX_count JG x1 r B2 B6 Q5 z8 z5 zd z9 wk ru im) : JG B2 B6 Q5 z8 z5 zd z9 wk ru im := by
  obtain ⟨Qw, zw, y, hJ, hI, hwm, hy, e_r⟩ := h
  exact hJ
theorem cx_coins {r : Int32} (h : JX_coins JG x1 r B2 B6 Q5 z8 z5 zd z9 wk ru im) : JG B2 B6 Q5 z8 z5 zd z9 wk ru im := by
  obtain ⟨y, hJ, hI, hy, e_r⟩ := h
  exact hJ
theorem st_kind {r8 r9 : Int32} (h : JM_kind (JX_kind JG x1 x2 r8) x1 x2 r9 B2 B6 Q5 z8 z5 zd z9 wk ru im) : JG B2 B6 Q5 z8 z5 zd z9 wk ru im := by
  obtain ⟨hX, -, -⟩ := h
  exact cx_kind hX
theorem st_fault {r8 r9 : Int32} (h : JM_fault (JX_fault JG x1 x2 r8) x1 x2 r9 B2 B6 Q5 z8 z5 zd z9 wk ru im) : JG B2 B6 Q5 z8 z5 zd z9 wk ru im := by
  obtain ⟨hX, -, -⟩ := h
  exact cx_fault hX
theorem st_look {r8 r9 : Int32} (h : JM_look (JX_look JG x1 r8) x1 r9 B2 B6 Q5 z8 z5 zd z9 wk ru im) : JG B2 B6 Q5 z8 z5 zd z9 wk ru im := by
  obtain ⟨z0, y9, hX, hR, hy9, -, ez⟩ := h
  subst ez
  have g := ok_get (v_look hR) hy9
  have u := ok_get (u_look hR) hy9
  exact jg_9 (cx_look hX) g u
theorem st_fine {r8 r9 : Int32} (h : JM_fine (JX_fine JG x1 r8) x1 r9 B2 B6 Q5 z8 z5 zd z9 wk ru im) : JG B2 B6 Q5 z8 z5 zd z9 wk ru im := by
  obtain ⟨z0, y9, hX, hR, hy9, -, ez⟩ := h
  subst ez
  have g := ok_get (v_fine hR) hy9
  have u := ok_get (u_fine hR) hy9
  exact jg_9 (cx_fine hX) g u
theorem st_mend {r8 r9 : Int32} (h : JM_mend (JX_mend JG x1 r8) x1 r9 B2 B6 Q5 z8 z5 zd z9 wk ru im) : JG B2 B6 Q5 z8 z5 zd z9 wk ru im := by
  obtain ⟨z0, y9, hX, hR, hy9, -, ez⟩ := h
  subst ez
  have g := ok_get (v_mend hR) hy9
  have u := ok_get (u_mend hR) hy9
  exact jg_9 (cx_mend hX) g u
theorem st_day {r8 r9 : Int32} (h : JM_day (JX_day JG x1 r8) x1 r9 B2 B6 Q5 z8 z5 zd z9 wk ru im) : JG B2 B6 Q5 z8 z5 zd z9 wk ru im := by
  obtain ⟨z0, y9, hX, hR, hy9, -, ez⟩ := h
  subst ez
  have g := ok_get (v_day hR) hy9
  have u := ok_get (u_day hR) hy9
  rcases hX with hX | hX
  · exact jg_9 (cx_day_none hX) g u
  · exact jg_9 (cx_day_some hX) g u
theorem st_would {r8 r9 : Int32} (h : JM_would (JX_would JG x1 x2 r8) x1 x2 r9 B2 B6 Q5 z8 z5 zd z9 wk ru im) : JG B2 B6 Q5 z8 z5 zd z9 wk ru im := by
  obtain ⟨z0, y9, hX, hR, hy9, -, ez⟩ := h
  subst ez
  have g := ok_get (v_would hR) hy9
  have u := ok_get (u_would hR) hy9
  rcases hX with hX | hX
  · exact jg_9 (cx_would_none hX) g u
  · exact jg_9 (cx_would_some hX) g u
theorem st_worth {r8 r9 : Int64} (h : JM_worth (JX_worth JG x1 r8) x1 r9 B2 B6 Q5 z8 z5 zd z9 wk ru im) : JG B2 B6 Q5 z8 z5 zd z9 wk ru im := by
  obtain ⟨z0, y9, hX, hR, hy9, -, ez⟩ := h
  subst ez
  have g := ok_get (v_worth hR) hy9
  have u := ok_get (u_worth hR) hy9
  exact jg_9 (cx_worth hX) g u
theorem st_seen {r8 r9 : Int64} (h : JM_seen (JX_seen JG x1 x2 r8) x1 x2 r9 B2 B6 Q5 z8 z5 zd z9 wk ru im) : JG B2 B6 Q5 z8 z5 zd z9 wk ru im := by
  obtain ⟨z0, y9, hX, hR, hy9, -, ez⟩ := h
  subst ez
  have g := ok_get (v_seen hR) hy9
  have u := ok_get (u_seen hR) hy9
  exact jg_9 (cx_seen hX) g u
theorem st_best {r8 r9 : Int64} (h : JM_best (JX_best JG x1 x2 r8) x1 x2 r9 B2 B6 Q5 z8 z5 zd z9 wk ru im) : JG B2 B6 Q5 z8 z5 zd z9 wk ru im := by
  obtain ⟨z0, y9, hX, hR, hy9, -, ez⟩ := h
  subst ez
  have g := ok_get (v_best hR) hy9
  have u := ok_get (u_best hR) hy9
  exact jg_9 (cx_best hX) g u
theorem st_master {r8 r9 : Int64} (h : JM_master (JX_master JG x1 x2 r8) x1 x2 r9 B2 B6 Q5 z8 z5 zd z9 wk ru im) : JG B2 B6 Q5 z8 z5 zd z9 wk ru im := by
  obtain ⟨z0, y9, hX, hR, hy9, -, ez⟩ := h
  subst ez
  have g := ok_get (v_master hR) hy9
  have u := ok_get (u_master hR) hy9
  exact jg_9 (cx_master hX) g u
theorem st_rests {r8 r9 : Int32} (h : JM_rests (JX_rests JG r8) r9 B2 B6 Q5 z8 z5 zd z9 wk ru im) : JG B2 B6 Q5 z8 z5 zd z9 wk ru im := by
  obtain ⟨hX, -, -⟩ := h
  exact cx_rests hX
theorem st_mixed {r8 r9 : Int32} (h : JM_mixed (JX_mixed JG x1 x2 r8) x1 x2 r9 B2 B6 Q5 z8 z5 zd z9 wk ru im) : JG B2 B6 Q5 z8 z5 zd z9 wk ru im := by
  obtain ⟨hX, -, -⟩ := h
  exact cx_mixed hX
theorem st_checks {r8 r9 : Int32} (h : JM_checks (JX_checks JG x1 x2 r8) x1 x2 r9 B2 B6 Q5 z8 z5 zd z9 wk ru im) : JG B2 B6 Q5 z8 z5 zd z9 wk ru im := by
  obtain ⟨hX, -, -⟩ := h
  exact cx_checks hX
theorem st_fits {r8 r9 : Int32} (h : JM_fits (JX_fits JG x1 x2 r8) x1 x2 r9 B2 B6 Q5 z8 z5 zd z9 wk ru im) : JG B2 B6 Q5 z8 z5 zd z9 wk ru im := by
  obtain ⟨hX, -, -⟩ := h
  exact cx_fits hX
theorem st_seed {r8 r9 : Int32} (h : JM_seed (JX_seed JG x1 r8) x1 r9 B2 B6 Q5 z8 z5 zd z9 wk ru im) : JG B2 B6 Q5 z8 z5 zd z9 wk ru im := by
  obtain ⟨z0, y9, hX, hR, hy9, -, ez⟩ := h
  subst ez
  have g := ok_get (v_seed hR) hy9
  have u := ok_get (u_seed hR) hy9
  exact jg_9 (cx_seed hX) g u
theorem st_weeks {r8 r9 : Int32} (h : JM_weeks (JX_weeks JG x1 x2 x3 r8) x1 x2 x3 r9 B2 B6 Q5 z8 z5 zd z9 wk ru im) : JG B2 B6 Q5 z8 z5 zd z9 wk ru im := by
  obtain ⟨z0, y9, hX, hR, hy9, -, ez⟩ := h
  subst ez
  have g := ok_get (v_weeks hR) hy9
  have u := ok_get (u_weeks hR) hy9
  rcases hX with hX | hX
  · exact jg_9 (cx_weeks_none hX) g u
  · exact jg_9 (cx_weeks_some hX) g u
theorem st_count {r8 r9 : Int32} (h : JM_count (JX_count JG x1 r8) x1 r9 B2 B6 Q5 z8 z5 zd z9 wk ru im) : JG B2 B6 Q5 z8 z5 zd z9 wk ru im := by
  obtain ⟨hX, -, -⟩ := h
  exact cx_count hX
theorem st_coins {r8 r9 : Int32} (h : JM_coins (JX_coins JG x1 r8) x1 r9 B2 B6 Q5 z8 z5 zd z9 wk ru im) : JG B2 B6 Q5 z8 z5 zd z9 wk ru im := by
  obtain ⟨hX, -, -⟩ := h
  exact cx_coins hX

theorem st_game {r8 r9 : Int32} (h : JM_game (JX_game JG x1 x2 r8) x1 x2 r9 B2 B6 Q5 z8 z5 zd z9 wk ru im) : JG B2 B6 Q5 z8 z5 zd z9 wk ru im := by
  obtain ⟨z0, y9, ⟨z5o, y, hJ, -, hy, e8, e5⟩, -, hy9, -, ez⟩ := h
  subst ez e5
  have g := ok_get v_game hy9
  have u := ok_get u_game hy9
  have q := ok_get game8 hy
  have f : FrL [7] z5o y.2 := by
    rcases q with ⟨-, -, b⟩ | ⟨-, -, b⟩
    · rw [b]; exact fr_rf
    · rw [b]; exact fr_T fr_rf (by decide)
  exact jg_9 (jg_f hJ f (by decide)) g u
theorem feed_both {r8 r9 : Int32} (h : JM_feed (JX_feed JG x1 x2 x3 x4 x5 r8) x1 x2 x3 x4 x5 r9 B2 B6 Q5 z8 z5 zd z9 wk ru im) : r8 = r9 ∧ JG B2 B6 Q5 z8 z5 zd z9 wk ru im := by
  obtain ⟨z0, y9, ⟨z8o, y, hJ, -, hy, e8, ez8⟩, hR, hy9, e9, ez⟩ := h
  subst e8 ez8 e9 ez
  have g := ok_get (v_feed hR) hy9
  have k := feed_st hJ.1 hR hy hy9
  exact ⟨k.1, jg_T hJ g k.2⟩
theorem st_feed {r8 r9 : Int32} (h : JM_feed (JX_feed JG x1 x2 x3 x4 x5 r8) x1 x2 x3 x4 x5 r9 B2 B6 Q5 z8 z5 zd z9 wk ru im) : JG B2 B6 Q5 z8 z5 zd z9 wk ru im := (feed_both h).2
theorem end_both {r8 r9 : Int32} (h : JM_end (JX_end JG x1 r8) x1 r9 B2 B6 Q5 z8 z5 zd z9 wk ru im) : r8 = r9 ∧ JG B2 B6 Q5 z8 z5 zd z9 wk ru im := by
  obtain ⟨z0, y9, ⟨z8o, y, hJ, -, hy, e8, ez8⟩, hR, hy9, e9, ez⟩ := h
  subst e8 ez8 e9 ez
  have g := ok_get (v_end hR) hy9
  have k := end_st hJ.1 hR hy hy9
  exact ⟨k.1, jg_T hJ g k.2⟩
theorem st_end {r8 r9 : Int32} (h : JM_end (JX_end JG x1 r8) x1 r9 B2 B6 Q5 z8 z5 zd z9 wk ru im) : JG B2 B6 Q5 z8 z5 zd z9 wk ru im := (end_both h).2
theorem rule_both {r8 r9 : Int32} (h : JM_rule (JX_rule JG r8) r9 B2 B6 Q5 z8 z5 zd z9 wk ru im) : r8 = r9 ∧ JG B2 B6 Q5 z8 z5 zd z9 wk ru im := by
  obtain ⟨z0, y9, hX, hR, hy9, e9, ez⟩ := h
  subst e9 ez
  have g := ok_get (v_rule hR) hy9
  rcases hX with ⟨B2o, z8o, ruo, z4, z6, y, u, hJ, -, hy, e8, eB, ez8, er⟩ | ⟨z8o, z4, z6, y, hJ, -, hy, e8, ez8⟩
  · subst e8 ez8
    have k := rule_st hJ.1 hR (Or.inl hy) hy9
    exact ⟨k.1, jg_T hJ g k.2⟩
  · subst e8 ez8
    have k := rule_st hJ.1 hR (Or.inr hy) hy9
    exact ⟨k.1, jg_T hJ g k.2⟩
theorem st_rule {r8 r9 : Int32} (h : JM_rule (JX_rule JG r8) r9 B2 B6 Q5 z8 z5 zd z9 wk ru im) : JG B2 B6 Q5 z8 z5 zd z9 wk ru im := (rule_both h).2
theorem work_both {r8 r9 : Int32} (h : JM_work (JX_work JG r8) r9 B2 B6 Q5 z8 z5 zd z9 wk ru im) : r8 = r9 ∧ JG B2 B6 Q5 z8 z5 zd z9 wk ru im := by
  obtain ⟨z0, y9, hX, hR, hy9, e9, ez⟩ := h
  subst e9 ez
  rcases hX with ⟨Q5o, z8o, z5o, zdo, wko, z4, z6, y, u, hJ, hI, hy, e8, hfw, eQ, ez8, ez5, ezd, ew⟩ | ⟨z8o, z5o, zdo, z4, z6, y, hJ, -, hy, e8, ez8, ez5, ezd⟩
  · subst e8 eQ ez8 ez5 ew
    have jt := work_ok_st hJ.1 hR hy hy9
    obtain ⟨k1, k2, k3, k4, k5⟩ := work_k_ok hJ.1 hR hy hy9
    obtain ⟨h1, h2, h3, h4, h5⟩ := hJ
    refine ⟨k1, jt, ⟨fun Qw zw hm => ?_, k3⟩, fun k hk => by rw [k5]; exact h3 k hk, fun k q hk hq => ?_, h5⟩
    · rw [va_up_self] at hm
      rcases List.mem_cons.1 hm with e | e
      · have e : zw = y.2.2.2.2.2 := congrArg (fun x : WT => x.2.2) e
        rw [e]; exact k2
      · exact absurd rfl (hfw _ e)
    · obtain ⟨x, hx, ex, hg⟩ := h4 k q hk hq
      rw [k4]
      refine ⟨x, hx, ex, fun Qw zw hm => ?_, hg.2⟩
      rcases List.mem_cons.1 hm with e | e
      · obtain ⟨v, hv, ev⟩ := hI.2.2.2.2.2.1 x hx
        have e : x.2.1 0 = u.1 := congrArg (fun x : WT => x.1) e
        exact absurd (ev.trans e) (hfw v hv)
      · exact hg.1 Qw zw e
  · subst e8 ez8 ez5
    have jt := work_fail_st hJ.1 hR hy hy9
    obtain ⟨k1, k2, k3⟩ := work_k_fail hJ.1 hR hy hy9
    rw [k2]
    exact ⟨k1, jg_T hJ k3 jt⟩
theorem st_work {r8 r9 : Int32} (h : JM_work (JX_work JG r8) r9 B2 B6 Q5 z8 z5 zd z9 wk ru im) : JG B2 B6 Q5 z8 z5 zd z9 wk ru im := (work_both h).2
theorem kind_both {r8 r9 : Int32} (h : JM_kind (JX_kind JG x1 x2 r8) x1 x2 r9 B2 B6 Q5 z8 z5 zd z9 wk ru im) : r8 = r9 := by
  obtain ⟨⟨Qw, zw, y, hJ, -, hwm, hy, e8⟩, -, hy9⟩ := h
  subst e8
  exact kind_k (hJ.2.1.1 Qw zw hwm) hy hy9
theorem row_both {r8 r9 : Int32} (h : JM_row (JX_row JG x1 r8) x1 r9 B2 B6 Q5 z8 z5 zd z9 wk ru im) : r8 = r9 ∧ JG B2 B6 Q5 z8 z5 zd z9 wk ru im := by
  obtain ⟨z0, y9, ⟨z5o, Qw, zw, y, hJ, -, hwm, hy, e8, e5⟩, hR, hy9, e9, ez⟩ := h
  subst e8 e5 e9 ez
  obtain ⟨k1, k2, k3, k4⟩ := row_k (hJ.2.1.1 Qw zw hwm) hJ.2.1.2 hy hy9
  obtain ⟨h1, h2, h3, h4, h5⟩ := hJ
  refine ⟨k1, jt_9 h1 (u9_fr k3 (by decide)), ⟨fun Qv zv hm => wkt_eq (h2.1 Qv zv hm) (fun i _ _ h8 h10 => k4 i h8 h10), k2⟩, fun k hk => by rw [(k3 35 (by decide)).2.1]; exact h3 k hk, fun k q hk hq => ?_, h5⟩
  rw [(k3 34 (by decide)).2.1]; exact h4 k q hk hq
theorem st_row {r8 r9 : Int32} (h : JM_row (JX_row JG x1 r8) x1 r9 B2 B6 Q5 z8 z5 zd z9 wk ru im) : JG B2 B6 Q5 z8 z5 zd z9 wk ru im := (row_both h).2
theorem st_dawn {r8 r9 : Int32} (h : JM_dawn (JX_dawn JG r8) r9 B2 B6 Q5 z8 z5 zd z9 wk ru im) : JG B2 B6 Q5 z8 z5 zd z9 wk ru im := by
  obtain ⟨z0, y9, ⟨z5o, zdo, Qw, zw, y, hJ, -, hwm, hy, e8, e5, ed⟩, hR, hy9, e9, ez⟩ := h
  subst e5 ez
  have u := ok_get (u_dawn hR) hy9
  obtain ⟨k1, k2, k3, k4⟩ := dawn_k (hJ.2.1.1 Qw zw hwm) hJ.2.1.2 hR hy hy9
  obtain ⟨h1, h2, h3, h4, h5⟩ := hJ
  refine ⟨jt_9 h1 u, ⟨fun Qv zv hm => wkt_eq (h2.1 Qv zv hm) (fun i hi h7 _ _ => k2 i hi h7), k1⟩, fun k hk => by rw [k4]; exact h3 k hk, fun k q hk hq => ?_, h5⟩
  rw [k3]; exact h4 k q hk hq
theorem bk5 {z zo zdo zR zE : Sx} {y : Int32 × Sx × Sx} (h : fX8_back_some z zo zdo B6 zR zE x1 = some y) : (∀ T, S5 zR T → S5 y.2.1 T) ∧ y.1 = gI zR 4 := by
  unfold fX8_back_some at h
  by_cases c1 : x1 < 0
  · rw [if_pos c1] at h; cases h
  rw [if_neg c1] at h
  by_cases c2 : x1 < 4
  · rw [if_pos c2] at h
    obtain ⟨a8, a9, e, h⟩ := bd2_some (gd_some h).2
    have q4 := ok_get copy4 e
    have q5 := ok_get copy5 e
    obtain rfl := Option.some.inj h
    exact ⟨q5, q4⟩
  · rw [if_neg c2] at h; cases h
theorem in5 {z zo zdo : Sx} {y : Int32 × Sx × Sx} (h : fX8_image_none z zo zdo B6 x1 = some y) : (∀ T, S5 zo T → S5 y.2.1 T) ∧ y.1 = gI zo 4 := by
  unfold fX8_image_none at h
  by_cases c1 : x1 < 0
  · rw [if_pos c1] at h; cases h
  rw [if_neg c1] at h
  by_cases c2 : x1 < 4
  · rw [if_pos c2] at h
    obtain ⟨a8, a9, e, h⟩ := bd2_some (gd_some (gd_some h).2).2
    have q5 := ok_get copy5 e
    obtain rfl := Option.some.inj h
    exact ⟨q5, rfl⟩
  · rw [if_neg c2] at h; cases h
theorem is5 {z zo zdo zR zE : Sx} {y : Int32 × Sx × Sx} (h : fX8_image_some z zo zdo B6 zR zE x1 = some y) : (∀ T, S5 zo T → S5 y.2.1 T) ∧ y.1 = gI zo 4 := by
  unfold fX8_image_some at h
  by_cases c1 : x1 < 0
  · rw [if_pos c1] at h; cases h
  rw [if_neg c1] at h
  by_cases c2 : x1 < 4
  · rw [if_pos c2] at h
    obtain ⟨a8, a9, e, h⟩ := bd2_some (gd_some h).2
    have q5 := ok_get copy5 e
    obtain rfl := Option.some.inj h
    exact ⟨q5, rfl⟩
  · rw [if_neg c2] at h; cases h
theorem back_both {r8 r9 : Int32} (h : JM_back (JX_back JG x1 r8) x1 r9 B2 B6 Q5 z8 z5 zd z9 wk ru im) : r8 = r9 ∧ JG B2 B6 Q5 z8 z5 zd z9 wk ru im := by
  obtain ⟨z0, y9, hX, -, hy9, e9, ez⟩ := h
  subst e9 ez
  have q9 := ok_get back9 hy9
  have a9 := ok_get back9a hy9
  rcases hX with ⟨y, hJ, -, cx, hB, hy, e8⟩ | ⟨Q5o, z5o, zdo, qR, QR, zR, QE, zE, y, hJ, -, him, hun, cx, hB, hy, e8, eQ, e5, ed⟩ | ⟨hJ, -, cx, e8⟩
  · have hcl := clampI cx.1
    have h0 := (hJ.2.2.1 _ (by omega)).1 hB
    have ey : y = -1 := by
      unfold fX8_back_none at hy
      by_cases c1 : x1 < 0
      · rw [if_pos c1] at hy; exact (Option.some.inj hy).symm
      rw [if_neg c1] at hy
      by_cases c2 : x1 < 4
      · rw [if_pos c2] at hy
        exact (Option.some.inj (gd_some hy).2).symm
      · rw [if_neg c2] at hy; exact (Option.some.inj hy).symm
    rcases q9 with ⟨-, e⟩ | ⟨-, ne, -⟩
    · rw [e]
      rcases a9 with ⟨-, e2⟩ | ⟨-, ne, -⟩
      · exact ⟨by rw [e8, ey, e2], hJ⟩
      · exact absurd h0 ne
    · exact absurd h0 ne
  · have hcl := clampI cx.1
    have hk : x1.toNatClampNeg < 4 := by omega
    have n35 : ¬ gT z0 35 x1.toNatClampNeg = 0 := fun h0 => by
      have := (hJ.2.2.1 _ hk).2 h0
      rw [hB] at this; cases this
    rcases q9 with ⟨h0, e⟩ | ⟨-, -, f, he⟩
    · rcases h0 with h0 | h0
      · exact absurd cx h0
      · exact absurd h0 n35
    · obtain ⟨h1, h2, h3, h4, h5⟩ := hJ
      obtain ⟨x, hx, ex, hg⟩ := h4 _ _ hk hB
      have := hun x hx ex
      subst this
      subst e5 eQ e8
      obtain ⟨b1, b2⟩ := bk5 hy
      have ks : KS y.2.1 (QR 0) wk (gT y9.2 24) := ks_eq (T := fun i => gT z0 34 (104 * x1.toNatClampNeg + i)) ⟨hg.1, b1 _ hg.2⟩ (fun i hi => he i hi.1)
      refine ⟨?_, jt_9 h1 (u9_fr f (by decide)), ?_, fun k hk => by rw [(f 35 (by decide)).2.1]; exact h3 k hk, fun k q hk hq => by rw [(f 34 (by decide)).2.1]; exact h4 k q hk hq, h5⟩
      · rcases a9 with ⟨h0, -⟩ | ⟨-, -, e2⟩
        · rcases h0 with h0 | h0
          · exact absurd cx h0
          · exact absurd h0 n35
        · rw [b2, e2, he 7 (by omega)]
          exact hg.2.1
      · rw [va_up_self]; exact ks
  · rcases q9 with ⟨-, e⟩ | ⟨ic, -⟩
    · rw [e]
      rcases a9 with ⟨-, e2⟩ | ⟨ic, -⟩
      · exact ⟨by rw [e8, e2], hJ⟩
      · exact absurd ic cx
    · exact absurd ic cx
theorem st_back {r8 r9 : Int32} (h : JM_back (JX_back JG x1 r8) x1 r9 B2 B6 Q5 z8 z5 zd z9 wk ru im) : JG B2 B6 Q5 z8 z5 zd z9 wk ru im := (back_both h).2
theorem image_both {r8 r9 : Int32} (h : JM_image (JX_image JG x1 r8) x1 r9 B2 B6 Q5 z8 z5 zd z9 wk ru im) : r8 = r9 ∧ JG B2 B6 Q5 z8 z5 zd z9 wk ru im := by
  obtain ⟨z0, y9, hX, -, hy9, e9, ez⟩ := h
  subst e9 ez
  have q9 := ok_get image9 hy9
  have a9 := ok_get image9a hy9
  have nb : ¬ (vp_nar .boolean 1 : Int32) = 0 := by decide
  rcases hX with ⟨B6o, imo, y, u, hJ, hI, cx, hB, hy, e8, hfr, eB, ei⟩ | ⟨imo, qR, QR, zR, QE, zE, y, imr, hJ, -, him, hun, cx, hB, hy, e8, hi1, hi2, ei⟩ | ⟨hJ, -, cx, e8⟩
  · have hcl := clampI cx.1
    rcases q9 with ⟨ic, -⟩ | ⟨-, f, ha, hb, hm, hn⟩
    · exact absurd cx ic
    obtain ⟨h1, h2, h3, h4, h5⟩ := hJ
    obtain ⟨b1, b2⟩ := in5 hy
    subst eB ei e8
    refine ⟨?_, jt_9 h1 (u9_fr f (by decide)), by rw [(f 24 (by decide)).2.1]; exact h2, fun k hk => ?_, fun k q hk hq => ?_, fun j k q hj hk => ?_⟩
    · rcases a9 with ⟨ic, -⟩ | ⟨-, e2⟩
      · exact absurd cx ic
      · rw [b2, e2]; exact h2.2.1
    · by_cases c : k = x1.toNatClampNeg
      · subst c
        rw [va_up_self, hm]
        exact ⟨fun h => (by cases h), fun h => absurd h nb⟩
      · rw [va_up_ne _ _ c, hn k c]; exact h3 k hk
    · by_cases c : k = x1.toNatClampNeg
      · subst c
        rw [va_up_self] at hq
        refine ⟨_, List.mem_cons_self, Option.some.inj hq, ?_⟩
        have ks : KS y.2.1 (Q5 0) wk (fun i => gT y9.2 34 (104 * x1.toNatClampNeg + i)) := ks_eq (T := gT z0 24) ⟨h2.1, b1 _ h2.2⟩ (fun i hi => ha i hi.1)
        show KS y.2.1 (va_up u.2.1 0 (Q5 0) 0) wk _
        rw [va_up_self]; exact ks
      · rw [va_up_ne _ _ c] at hq
        obtain ⟨x, hx, ex, hg⟩ := h4 k q hk hq
        exact ⟨x, List.mem_cons_of_mem _ hx, ex, ks_eq hg (fun i hi => hb (104 * k + i) (by have := hi.1; omega))⟩
    · by_cases c : j = x1.toNatClampNeg
      · by_cases d : k = x1.toNatClampNeg
        · exact c.trans d.symm
        · subst c
          rw [va_up_self] at hj
          rw [va_up_ne _ _ d] at hk
          obtain ⟨x, hx, ex⟩ := hI.2.2.2.2.1 _ _ hk
          exact absurd (ex.trans (Option.some.inj hj).symm) (hfr x hx)
      · by_cases d : k = x1.toNatClampNeg
        · subst d
          rw [va_up_self] at hk
          rw [va_up_ne _ _ c] at hj
          obtain ⟨x, hx, ex⟩ := hI.2.2.2.2.1 _ _ hj
          exact absurd (ex.trans (Option.some.inj hk).symm) (hfr x hx)
        · rw [va_up_ne _ _ c] at hj
          rw [va_up_ne _ _ d] at hk
          exact h5 j k q hj hk
  · have hcl := clampI cx.1
    rcases q9 with ⟨ic, -⟩ | ⟨-, f, ha, hb, hm, hn⟩
    · exact absurd cx ic
    obtain ⟨h1, h2, h3, h4, h5⟩ := hJ
    obtain ⟨b1, b2⟩ := is5 hy
    subst ei e8
    refine ⟨?_, jt_9 h1 (u9_fr f (by decide)), by rw [(f 24 (by decide)).2.1]; exact h2, fun k hk => ?_, fun k q hk hq => ?_, h5⟩
    · rcases a9 with ⟨ic, -⟩ | ⟨-, e2⟩
      · exact absurd cx ic
      · rw [b2, e2]; exact h2.2.1
    · by_cases c : k = x1.toNatClampNeg
      · subst c
        rw [hm, hB]
        exact ⟨fun h => (by cases h), fun h => absurd h nb⟩
      · rw [hn k c]; exact h3 k hk
    · by_cases c : k = x1.toNatClampNeg
      · subst c
        rw [hB] at hq
        refine ⟨_, List.mem_cons_self, Option.some.inj hq, ?_⟩
        have ks : KS y.2.1 (Q5 0) wk (fun i => gT y9.2 34 (104 * x1.toNatClampNeg + i)) := ks_eq (T := gT z0 24) ⟨h2.1, b1 _ h2.2⟩ (fun i hi => ha i hi.1)
        show KS y.2.1 (va_up QR 0 (Q5 0) 0) wk _
        rw [va_up_self]; exact ks
      · obtain ⟨x, hx, ex, hg⟩ := h4 k q hk hq
        rcases hi2 x hx with e | e
        · subst e
          have ex : qR = q := ex
          subst ex
          exact absurd (h5 _ _ _ hq hB) c
        · exact ⟨x, List.mem_cons_of_mem _ e, ex, ks_eq hg (fun i hi => hb (104 * k + i) (by have := hi.1; omega))⟩
  · rcases q9 with ⟨-, e⟩ | ⟨ic, -⟩
    · rw [e]
      rcases a9 with ⟨-, e2⟩ | ⟨ic, -⟩
      · exact ⟨by rw [e8, e2], hJ⟩
      · exact absurd ic cx
    · exact absurd ic cx
theorem st_image {r8 r9 : Int32} (h : JM_image (JX_image JG x1 r8) x1 r9 B2 B6 Q5 z8 z5 zd z9 wk ru im) : JG B2 B6 Q5 z8 z5 zd z9 wk ru im := (image_both h).2
end JGS
theorem eq_back {a : Nat → ClassId} {q8 q9 : Nat} {w : va_W} {x1 : Int32} {r8 r9 : Int32} (hG : Gd a q8 q9 (JM_back (JX_back JG x1 r8) x1 r9) w) : r8 = r9 := by
  obtain ⟨Q8, z8, B2, B6, Q5, z5, Qd, zd, Qt, zt, Q4, z4, Q6, z6, Q2, z2, Q1, z1, Q9, z9, wk, ru, im, -, -, hJ⟩ := hG
  exact (back_both hJ).1

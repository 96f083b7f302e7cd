/-! The whole state is the same on both sides, and in each image; so are the RULES. -/
def KSd (z5 zd : Sx) (q : Nat) (wk : List WT) (T : Nat → Int32) : Prop := (∀ (Qw : Nat → Nat) (zw : Sx), (q, Qw, zw) ∈ wk → WKT zw T) ∧ S5 z5 T ∧ S6 z5 T ∧ DR zd T
def RUQ (B2 : Nat → Option Nat) (ru : List RT) (z9 : Sx) : Prop := ∀ k : Nat, (k : Int) < (gI z9 2).toInt → ∃ q, B2 k = some q ∧ ∀ (QR : Nat → Nat) (nR : Nat) (zR : Sx), (q, QR, nR, zR) ∈ ru → RREL nR zR z9 k
def JG : CT := fun B2 B6 Q5 z8 z5 zd z1 z9 wk ru im => JT z8 z9 ∧ KSd z5 zd (Q5 0) wk (gT z9 24) ∧ (∀ k : Nat, k < 4 → (B6 k = none ↔ gT z9 35 k = 0)) ∧ (∀ (k q : Nat), k < 4 → B6 k = some q → ∃ x ∈ im, x.1 = q ∧ KSd x.2.2.1 x.2.2.2.2 (x.2.1 0) wk (fun i => gT z9 34 (104 * k + i))) ∧ (∀ (j k q : Nat), B6 j = some q → B6 k = some q → j = k) ∧ RUQ B2 ru z9
section JGS
variable {B2 B6 : Nat → Option Nat} {Q5 : Nat → Nat} {z8 z5 zd z1 z9 : Sx} {wk : List WT} {ru : List RT} {im : List IT} {x1 x2 x3 x4 x5 : Int32}
theorem s6_eq {T T2 : Nat → Int32} (h : S6 z5 T) (e5 : T2 5 = T 5) (e6 : T2 6 = T 6) : S6 z5 T2 := ⟨by rw [e5]; exact h.1, by rw [e6]; exact h.2⟩
theorem ks_e {q : Nat} {T T2 : Nat → Int32} (h : KSd z5 zd q wk T) (e : ∀ i : Nat, i < 104 → T2 i = T i) (hF : (T 0).toInt ≤ 10) : KSd z5 zd q wk T2 := by
  obtain ⟨h1, h2, h3, F, d0, dF, d1, d2, d3, d4, d5, d6, d7, d8⟩ := h
  have es : ∀ g : Nat, g < F → T2 (44 + 6 * g + 4) = T (44 + 6 * g + 4) := fun g hg => e _ (by omega)
  have b1 : ∀ s : Int32, bmf T2 s F = bmf T s F := fun s => bm_cg F (fun g hg => by rw [es g hg])
  exact ⟨fun Qw zw hm => wkt_eq (h1 Qw zw hm) (fun i hi _ _ _ => e i hi.1), s5_eq h2 (fun i hi => e i hi.1), s6_eq h3 (e 5 (by omega)) (e 6 (by omega)), F, by rw [e 0 (by omega)]; exact d0, dF, by rw [e 3 (by omega)]; exact d1, by rw [e 4 (by omega)]; exact d2, by rw [b1]; exact d3, by rw [b1]; exact d4, by rw [e 9 (by omega)]; exact d5, by rw [e 9 (by omega)]; exact d6, fun g hg => by rw [es g hg]; exact d7 g hg, fun g hg => by rw [e (44 + 6 * g + 5) (by omega)]; exact d8 g hg⟩
theorem ks_F {q : Nat} {T : Nat → Int32} (h : KSd z5 zd q wk T) : (T 0).toInt ≤ 10 := by
  obtain ⟨F, d0, dF, -⟩ := h.2.2.2
  rw [d0, nI_toInt (by omega)]; omega
theorem ruq_9 {z : Sx} (h : RUQ B2 ru z9) (r : R9 z9 z) (e2 : gI z 2 = gI z9 2) : RUQ B2 ru z := by
  intro k hk
  rw [e2] at hk
  obtain ⟨q, hq, hr⟩ := h k hk
  refine ⟨q, hq, fun QR nR zR hm => ?_⟩
  have := hr QR nR zR hm
  unfold RREL
  rw [r.1, r.2.1, r.2.2]
  exact this
theorem z0_bm {s : Int32} : bmf (gT Z0 24) s 0 = 0 := rfl
theorem jg_new {q : Nat} {Qw : Nat → Nat} : JG (fun _ => none) (fun _ => none) Q5 Z0 Z0 Z0 Z0 Z0 [(q, Qw, Z0)] [] [] := by
  have z0 : (0 : Int32).toInt = 0 := by decide
  refine ⟨⟨0, 0, ⟨rfl, rfl, by omega, fun i hi => by omega⟩, by omega, rfl, rfl⟩, ⟨fun Qv zw hm => ?_, ⟨rfl, rfl, ?_, fun i hi => ?_⟩, ⟨rfl, rfl⟩, 0, rfl, by omega, rfl, rfl, rfl, rfl, rfl, ?_, fun g hg => by omega, fun g hg => by omega⟩, fun k _ => ⟨fun _ => rfl, fun _ => rfl⟩, fun k q _ h => ?_, fun j k q h => ?_, fun k hk => ?_⟩
  · have e : zw = Z0 := congrArg (fun x : WT => x.2.2) (List.mem_singleton.1 hm)
    rw [e]
    refine ⟨⟨rfl, ?_, ?_⟩, ⟨rfl, ?_, ?_⟩, rfl, fun k hk => ?_, fun g hg => ?_⟩
    · show 0 ≤ (0 : Int32).toInt; omega
    · show (0 : Int32).toInt ≤ 6; omega
    · show 0 ≤ (0 : Int32).toInt; omega
    · show (0 : Int32).toInt ≤ 10; omega
    · have hk : (k : Int) < (0 : Int32).toInt := hk
      omega
    · have hg : (g : Int) < (0 : Int32).toInt := hg
      omega
  · show 0 ≤ (0 : Int32).toInt ∧ (0 : Int32).toInt ≤ 8; omega
  · have hi : (i : Int) < (0 : Int32).toInt := hi
    omega
  · show 0 ≤ (0 : Int32).toInt; omega
  · cases h
  · cases h
  · have hk : (k : Int) < (0 : Int32).toInt := hk
    omega
/-- a step that leaves the images -/
theorem jd_T {w8 w5 wd z : Sx} (h : JG B2 B6 Q5 z8 z5 zd z1 z9 wk ru im) (j : JT w8 z) (g : V9 z9 z) (r : R9 z9 z) (e2 : gI z 2 = gI z9 2) (s5 : S5 w5 (gT z 24)) (s6 : S6 w5 (gT z 24)) (d : DR wd (gT z 24)) : JG B2 B6 Q5 w8 w5 wd z1 z wk ru im := by
  obtain ⟨h1, h2, h3, h4, h5, h6⟩ := h
  obtain ⟨g1, g2, g3⟩ := g
  refine ⟨j, ⟨fun Qw zw hm => wkt_eq (h2.1 Qw zw hm) (fun i hi _ _ _ => g1 i hi), s5, s6, d⟩, fun k hk => by rw [g3]; exact h3 k hk, fun k q hk hq => ?_, h5, ruq_9 h6 r e2⟩
  rw [g2]; exact h4 k q hk hq
/-- a step that leaves the table -/
theorem jd_E {w8 z : Sx} (h : JG B2 B6 Q5 z8 z5 zd z1 z9 wk ru im) (j : JT w8 z) (e : E9 z9 z) (e2 : gI z 2 = gI z9 2) : JG B2 B6 Q5 w8 z5 zd z1 z wk ru im := by
  obtain ⟨h1, h2, h3, h4, h5, h6⟩ := h
  obtain ⟨g1, g2, g3, g4⟩ := e
  refine ⟨j, ks_e h2 g1 (ks_F h2), fun k hk => by rw [g3]; exact h3 k hk, fun k q hk hq => ?_, h5, ruq_9 h6 g4 e2⟩
  rw [g2]; exact h4 k q hk hq
theorem s6_dz {T T2 : Nat → Int32} (h : S6 z5 T) (e : ∀ i : Nat, ¬ DZ i → T2 i = T i) : S6 z5 T2 := s6_eq h (e 5 (by unfold DZ; omega)) (e 6 (by unfold DZ; omega))
theorem s5_dz {T T2 : Nat → Int32} (h : S5 z5 T) (e : ∀ i : Nat, ¬ DZ i → T2 i = T i) : S5 z5 T2 := s5_eq h (fun i hi => e i (fun k => hi.2.1 (by unfold DZ at k; unfold DY; omega)))
theorem cx_kind {r : Int32} (h : JX_kind JG x1 x2 r B2 B6 Q5 z8 z5 zd z1 z9 wk ru im) : JG B2 B6 Q5 z8 z5 zd z1 z9 wk ru im := by
  obtain ⟨Qw, zw, y, hJ, hI, hwm, hy, e_r⟩ := h
  exact hJ
theorem cx_fault {r : Int32} (h : JX_fault JG x1 x2 r B2 B6 Q5 z8 z5 zd z1 z9 wk ru im) : JG B2 B6 Q5 z8 z5 zd z1 z9 wk ru im := by
  obtain ⟨Qw, zw, y, hJ, hI, hwm, hy, e_r⟩ := h
  exact hJ
theorem cx_would_none {r : Int32} (h : JX_would_none JG x1 x2 r B2 B6 Q5 z8 z5 zd z1 z9 wk ru im) : JG B2 B6 Q5 z8 z5 zd z1 z9 wk ru im := by
  obtain ⟨Qw, zw, y, hJ, hI, hwm, hr0, hy, e_r⟩ := h
  exact hJ
theorem cx_would_some {r : Int32} (h : JX_would_some JG x1 x2 r B2 B6 Q5 z8 z5 zd z1 z9 wk ru im) : JG B2 B6 Q5 z8 z5 zd z1 z9 wk ru im := by
  obtain ⟨Qw, zw, qR, QR, nR, zR, zt, z2, y, hJ, hI, hwm, hrm, hr0, hy, e_r⟩ := h
  exact hJ
theorem cx_worth {r : Int64} (h : JX_worth JG x1 r B2 B6 Q5 z8 z5 zd z1 z9 wk ru im) : JG B2 B6 Q5 z8 z5 zd z1 z9 wk ru im := by
  obtain ⟨Qw, zw, y, hJ, hI, hwm, hy, e_r⟩ := h
  exact hJ
theorem cx_seen {r : Int64} (h : JX_seen JG x1 x2 r B2 B6 Q5 z8 z5 zd z1 z9 wk ru im) : JG B2 B6 Q5 z8 z5 zd z1 z9 wk ru im := by
  obtain ⟨Qw, zw, y, hJ, hI, hwm, hy, e_r⟩ := h
  exact hJ
theorem cx_best {r : Int64} (h : JX_best JG x1 x2 r B2 B6 Q5 z8 z5 zd z1 z9 wk ru im) : JG B2 B6 Q5 z8 z5 zd z1 z9 wk ru im := by
  obtain ⟨z1o, Qw, zw, y, hJ, hI, hwm, hy, e_r, e_z1⟩ := h
  subst e_z1
  exact hJ
theorem cx_master {r : Int64} (h : JX_master JG x1 x2 r B2 B6 Q5 z8 z5 zd z1 z9 wk ru im) : JG B2 B6 Q5 z8 z5 zd z1 z9 wk ru im := by
  obtain ⟨z1o, Qw, zw, y, hJ, hI, hwm, hy, e_r, e_z1⟩ := h
  subst e_z1
  exact hJ
theorem cx_rests {r : Int32} (h : JX_rests JG r B2 B6 Q5 z8 z5 zd z1 z9 wk ru im) : JG B2 B6 Q5 z8 z5 zd z1 z9 wk ru im := by
  obtain ⟨y, hJ, hI, hy, e_r⟩ := h
  exact hJ
theorem cx_mixed {r : Int32} (h : JX_mixed JG x1 x2 r B2 B6 Q5 z8 z5 zd z1 z9 wk ru im) : JG B2 B6 Q5 z8 z5 zd z1 z9 wk ru im := by
  obtain ⟨y, hJ, hI, hy, e_r⟩ := h
  exact hJ
theorem cx_checks {r : Int32} (h : JX_checks JG x1 x2 r B2 B6 Q5 z8 z5 zd z1 z9 wk ru im) : JG B2 B6 Q5 z8 z5 zd z1 z9 wk ru im := by
  obtain ⟨y, hJ, hI, hy, e_r⟩ := h
  exact hJ
theorem cx_fits {r : Int32} (h : JX_fits JG x1 x2 r B2 B6 Q5 z8 z5 zd z1 z9 wk ru im) : JG B2 B6 Q5 z8 z5 zd z1 z9 wk ru im := by
  obtain ⟨Qw, zw, y, hJ, hI, hwm, hy, e_r⟩ := h
  exact hJ
theorem cx_weeks_none {r : Int32} (h : JX_weeks_none JG x1 x2 x3 r B2 B6 Q5 z8 z5 zd z1 z9 wk ru im) : JG B2 B6 Q5 z8 z5 zd z1 z9 wk ru im := by
  obtain ⟨Qw, zw, y, hJ, hI, hwm, hr0, hy, e_r⟩ := h
  exact hJ
theorem cx_weeks_some {r : Int32} (h : JX_weeks_some JG x1 x2 x3 r B2 B6 Q5 z8 z5 zd z1 z9 wk ru im) : JG B2 B6 Q5 z8 z5 zd z1 z9 wk ru im := by
  obtain ⟨Qw, zw, qR, QR, nR, zR, zt, z2, y, hJ, hI, hwm, hrm, hr0, hy, e_r⟩ := h
  exact hJ
theorem cx_count {r : Int32} (h : JX_count JG x1 r B2 B6 Q5 z8 z5 zd z1 z9 wk ru im) : JG B2 B6 Q5 z8 z5 zd z1 z9 wk ru im := by
  obtain ⟨Qw, zw, y, hJ, hI, hwm, hy, e_r⟩ := h
  exact hJ
theorem cx_coins {r : Int32} (h : JX_coins JG x1 r B2 B6 Q5 z8 z5 zd z1 z9 wk ru im) : JG B2 B6 Q5 z8 z5 zd z1 z9 wk ru im := by
  obtain ⟨y, hJ, hI, hy, e_r⟩ := h
  exact hJ
theorem st_kind {r8 r9 : Int32} (h : JM_kind (JX_kind JG x1 x2 r8) x1 x2 r9 B2 B6 Q5 z8 z5 zd z1 z9 wk ru im) : JG B2 B6 Q5 z8 z5 zd z1 z9 wk ru im := by
  obtain ⟨hX, -, -⟩ := h
  exact cx_kind hX
theorem st_fault {r8 r9 : Int32} (h : JM_fault (JX_fault JG x1 x2 r8) x1 x2 r9 B2 B6 Q5 z8 z5 zd z1 z9 wk ru im) : JG B2 B6 Q5 z8 z5 zd z1 z9 wk ru im := by
  obtain ⟨hX, -, -⟩ := h
  exact cx_fault hX
theorem st_would {r8 r9 : Int32} (h : JM_would (JX_would JG x1 x2 r8) x1 x2 r9 B2 B6 Q5 z8 z5 zd z1 z9 wk ru im) : JG B2 B6 Q5 z8 z5 zd z1 z9 wk ru im := by
  obtain ⟨z0, y9, hX, hR, hy9, -, ez⟩ := h
  subst ez
  have g := ok_get (e_would hR) hy9
  have u := ok_get (u_would hR) hy9
  rcases hX with hX | hX
  · exact (by have q := cx_would_none hX; exact jd_E q (jt_9 q.1 u) g u.2.1)
  · exact (by have q := cx_would_some hX; exact jd_E q (jt_9 q.1 u) g u.2.1)
theorem st_worth {r8 r9 : Int64} (h : JM_worth (JX_worth JG x1 r8) x1 r9 B2 B6 Q5 z8 z5 zd z1 z9 wk ru im) : JG B2 B6 Q5 z8 z5 zd z1 z9 wk ru im := by
  obtain ⟨z0, y9, hX, hR, hy9, -, ez⟩ := h
  subst ez
  have g := ok_get (e_worth hR) hy9
  have u := ok_get (u_worth hR) hy9
  exact (by have q := cx_worth hX; exact jd_E q (jt_9 q.1 u) g u.2.1)
theorem st_seen {r8 r9 : Int64} (h : JM_seen (JX_seen JG x1 x2 r8) x1 x2 r9 B2 B6 Q5 z8 z5 zd z1 z9 wk ru im) : JG B2 B6 Q5 z8 z5 zd z1 z9 wk ru im := by
  obtain ⟨z0, y9, hX, hR, hy9, -, ez⟩ := h
  subst ez
  have g := ok_get (e_seen hR) hy9
  have u := ok_get (u_seen hR) hy9
  exact (by have q := cx_seen hX; exact jd_E q (jt_9 q.1 u) g u.2.1)
theorem st_best {r8 r9 : Int64} (h : JM_best (JX_best JG x1 x2 r8) x1 x2 r9 B2 B6 Q5 z8 z5 zd z1 z9 wk ru im) : JG B2 B6 Q5 z8 z5 zd z1 z9 wk ru im := by
  obtain ⟨z0, y9, hX, hR, hy9, -, ez⟩ := h
  subst ez
  have g := ok_get (e_best hR) hy9
  have u := ok_get (u_best hR) hy9
  exact (by have q := cx_best hX; exact jd_E q (jt_9 q.1 u) g u.2.1)
theorem st_master {r8 r9 : Int64} (h : JM_master (JX_master JG x1 x2 r8) x1 x2 r9 B2 B6 Q5 z8 z5 zd z1 z9 wk ru im) : JG B2 B6 Q5 z8 z5 zd z1 z9 wk ru im := by
  obtain ⟨z0, y9, hX, hR, hy9, -, ez⟩ := h
  subst ez
  have g := ok_get (e_master hR) hy9
  have u := ok_get (u_master hR) hy9
  exact (by have q := cx_master hX; exact jd_E q (jt_9 q.1 u) g u.2.1)
theorem st_rests {r8 r9 : Int32} (h : JM_rests (JX_rests JG r8) r9 B2 B6 Q5 z8 z5 zd z1 z9 wk ru im) : JG B2 B6 Q5 z8 z5 zd z1 z9 wk ru im := by
  obtain ⟨hX, -, -⟩ := h
  exact cx_rests hX
theorem st_mixed {r8 r9 : Int32} (h : JM_mixed (JX_mixed JG x1 x2 r8) x1 x2 r9 B2 B6 Q5 z8 z5 zd z1 z9 wk ru im) : JG B2 B6 Q5 z8 z5 zd z1 z9 wk ru im := by
  obtain ⟨hX, -, -⟩ := h
  exact cx_mixed hX
theorem st_checks {r8 r9 : Int32} (h : JM_checks (JX_checks JG x1 x2 r8) x1 x2 r9 B2 B6 Q5 z8 z5 zd z1 z9 wk ru im) : JG B2 B6 Q5 z8 z5 zd z1 z9 wk ru im := by
  obtain ⟨hX, -, -⟩ := h
  exact cx_checks hX
theorem st_fits {r8 r9 : Int32} (h : JM_fits (JX_fits JG x1 x2 r8) x1 x2 r9 B2 B6 Q5 z8 z5 zd z1 z9 wk ru im) : JG B2 B6 Q5 z8 z5 zd z1 z9 wk ru im := by
  obtain ⟨hX, -, -⟩ := h
  exact cx_fits hX
theorem st_weeks {r8 r9 : Int32} (h : JM_weeks (JX_weeks JG x1 x2 x3 r8) x1 x2 x3 r9 B2 B6 Q5 z8 z5 zd z1 z9 wk ru im) : JG B2 B6 Q5 z8 z5 zd z1 z9 wk ru im := by
  obtain ⟨z0, y9, hX, hR, hy9, -, ez⟩ := h
  subst ez
  have g := ok_get (e_weeks hR) hy9
  have u := ok_get (u_weeks hR) hy9
  rcases hX with hX | hX
  · exact (by have q := cx_weeks_none hX; exact jd_E q (jt_9 q.1 u) g u.2.1)
  · exact (by have q := cx_weeks_some hX; exact jd_E q (jt_9 q.1 u) g u.2.1)
theorem st_count {r8 r9 : Int32} (h : JM_count (JX_count JG x1 r8) x1 r9 B2 B6 Q5 z8 z5 zd z1 z9 wk ru im) : JG B2 B6 Q5 z8 z5 zd z1 z9 wk ru im := by
  obtain ⟨hX, -, -⟩ := h
  exact cx_count hX
theorem st_coins {r8 r9 : Int32} (h : JM_coins (JX_coins JG x1 r8) x1 r9 B2 B6 Q5 z8 z5 zd z1 z9 wk ru im) : JG B2 B6 Q5 z8 z5 zd z1 z9 wk ru im := by
  obtain ⟨hX, -, -⟩ := h
  exact cx_coins hX

theorem st_game {r8 r9 : Int32} (h : JM_game (JX_game JG x1 x2 r8) x1 x2 r9 B2 B6 Q5 z8 z5 zd z1 z9 wk ru im) : JG B2 B6 Q5 z8 z5 zd z1 z9 wk ru im := by
  obtain ⟨z0, y9, ⟨z5o, y, hJ, -, hy, e8, e5⟩, -, hy9, -, ez⟩ := h
  subst ez e5
  have g := ok_get v_game hy9
  have u := ok_get u_game hy9
  have r := ok_get r9_game hy9
  have q := ok_get game8 hy
  have q9 := ok_get game9 hy9
  have f : FrL [7] z5o y.2 := by
    rcases q with ⟨-, -, b⟩ | ⟨-, -, b⟩
    · rw [b]; exact fr_rf
    · rw [b]; exact fr_T fr_rf (by decide)
  have e : ∀ i : Nat, ¬ (18 ≤ i ∧ i < 26) → gT y9.2 24 i = gT z0 24 i := fun i hi => by
    rcases q9 with ⟨-, -, b⟩ | ⟨gc, -, b⟩
    · rw [b]
    · rw [b]
      have hc := clampI (x := x1) gc.1
      have h7 := gc.2.1
      exact t24_ne (fun k => hi (by omega))
  refine jd_T hJ (jt_9 hJ.1 u) g r u.2.1 (s5_eq (s5_fr hJ.2.1.2.1 f (by decide)) g.1) ?_ (dr_cg hJ.2.1.2.2.2 (fun i hi => e i (by omega)))
  refine s6_eq ?_ (e 5 (by omega)) (e 6 (by omega))
  exact ⟨(f 2 (by decide)).1.trans hJ.2.1.2.2.1.1, (f 3 (by decide)).1.trans hJ.2.1.2.2.1.2⟩
theorem st_feed {r8 r9 : Int32} (h : JM_feed (JX_feed JG x1 x2 x3 x4 x5 r8) x1 x2 x3 x4 x5 r9 B2 B6 Q5 z8 z5 zd z1 z9 wk ru im) : JG B2 B6 Q5 z8 z5 zd z1 z9 wk ru im := by
  obtain ⟨z0, y9, ⟨z8o, y, hJ, -, hy, e8, ez8⟩, hR, hy9, e9, ez⟩ := h
  subst ez8 ez
  have g := ok_get (e_feed hR) hy9
  have f := ok_get (t_fX9_feed hR.1) hy9
  exact jd_E hJ (feed_st hJ.1 hR hy hy9).2 g (f.1 2 (by decide)).1
theorem st_end {r8 r9 : Int32} (h : JM_end (JX_end JG x1 r8) x1 r9 B2 B6 Q5 z8 z5 zd z1 z9 wk ru im) : JG B2 B6 Q5 z8 z5 zd z1 z9 wk ru im := by
  obtain ⟨z0, y9, ⟨z8o, y, hJ, -, hy, e8, ez8⟩, hR, hy9, e9, ez⟩ := h
  subst ez8 ez
  have g := ok_get (e_end hR) hy9
  have f := ok_get (t_fX9_end hR.1) hy9
  exact jd_E hJ (end_st hJ.1 hR hy hy9).2 g (f.1 2 (by decide)).1
theorem look_both {r8 r9 : Int32} (h : JM_look (JX_look JG x1 r8) x1 r9 B2 B6 Q5 z8 z5 zd z1 z9 wk ru im) : r8 = r9 ∧ JG B2 B6 Q5 z8 z5 zd z1 z9 wk ru im := by
  obtain ⟨z0, y9, ⟨zdo, Qw, zw, y, hJ, -, hwm, hy, e8, ed⟩, hR, hy9, e9, ez⟩ := h
  subst e8 ed e9 ez
  have g := ok_get (v_look hR) hy9
  have u := ok_get (u_look hR) hy9
  have r := ok_get (r9_look hR) hy9
  obtain ⟨k1, k2, k3⟩ := lookd_k (hJ.2.1.1 Qw zw hwm) hJ.2.1.2.2.2 hy hy9
  exact ⟨k1, jd_T hJ (jt_9 hJ.1 u) g r u.2.1 (s5_dz hJ.2.1.2.1 k3) (s6_dz hJ.2.1.2.2.1 k3) k2⟩
theorem fine_both {r8 r9 : Int32} (h : JM_fine (JX_fine JG x1 r8) x1 r9 B2 B6 Q5 z8 z5 zd z1 z9 wk ru im) : r8 = r9 ∧ JG B2 B6 Q5 z8 z5 zd z1 z9 wk ru im := by
  obtain ⟨z0, y9, ⟨zdo, Qw, zw, y, hJ, -, hwm, hy, e8, ed⟩, hR, hy9, e9, ez⟩ := h
  subst e8 ed e9 ez
  have g := ok_get (v_fine hR) hy9
  have u := ok_get (u_fine hR) hy9
  have r := ok_get (r9_fine hR) hy9
  obtain ⟨k1, k2, k3⟩ := fine_k (hJ.2.1.1 Qw zw hwm) hJ.2.1.2.2.2 hy hy9
  exact ⟨k1, jd_T hJ (jt_9 hJ.1 u) g r u.2.1 (s5_dz hJ.2.1.2.1 k3) (s6_dz hJ.2.1.2.2.1 k3) k2⟩
theorem seed_both {r8 r9 : Int32} (h : JM_seed (JX_seed JG x1 r8) x1 r9 B2 B6 Q5 z8 z5 zd z1 z9 wk ru im) : r8 = r9 ∧ JG B2 B6 Q5 z8 z5 zd z1 z9 wk ru im := by
  obtain ⟨z0, y9, ⟨zdo, y, hJ, -, hy, e8, ed⟩, hR, hy9, e9, ez⟩ := h
  subst e8 ed e9 ez
  have g := ok_get (v_seed hR) hy9
  have u := ok_get (u_seed hR) hy9
  have r := ok_get (r9_seed hR) hy9
  obtain ⟨k1, k2, k3⟩ := seed_k hJ.2.1.2.2.2 hy hy9
  exact ⟨k1, jd_T hJ (jt_9 hJ.1 u) g r u.2.1 (s5_dz hJ.2.1.2.1 k3) (s6_dz hJ.2.1.2.2.1 k3) k2⟩
theorem mend_both {r8 r9 : Int32} (h : JM_mend (JX_mend JG x1 r8) x1 r9 B2 B6 Q5 z8 z5 zd z1 z9 wk ru im) : r8 = r9 ∧ JG B2 B6 Q5 z8 z5 zd z1 z9 wk ru im := by
  obtain ⟨z0, y9, ⟨z5o, zdo, Qw, zw, y, hJ, -, hwm, hy, e8, e5, ed⟩, hR, hy9, e9, ez⟩ := h
  have f := (ok_get t_fX8_mend hy).1
  subst e8 e5 ed e9 ez
  have g := ok_get (v_mend hR) hy9
  have u := ok_get (u_mend hR) hy9
  have r := ok_get (r9_mend hR) hy9
  obtain ⟨k1, k2, k3⟩ := mend_k (hJ.2.1.1 Qw zw hwm) hJ.2.1.2.2.2 hJ.2.1.2.2.1 hy hy9
  exact ⟨k1, jd_T hJ (jt_9 hJ.1 u) g r u.2.1 (s5_eq (s5_fr hJ.2.1.2.1 f (by decide)) g.1) k2 k3⟩
theorem dawn_both {r8 r9 : Int32} (h : JM_dawn (JX_dawn JG r8) r9 B2 B6 Q5 z8 z5 zd z1 z9 wk ru im) : r8 = r9 ∧ JG B2 B6 Q5 z8 z5 zd z1 z9 wk ru im := by
  obtain ⟨z0, y9, ⟨z5o, zdo, Qw, zw, y, hJ, -, hwm, hy, e8, e5, ed⟩, hR, hy9, e9, ez⟩ := h
  subst e8 e5 ed e9 ez
  have u := ok_get (u_dawn hR) hy9
  have r := ok_get (r9_dawn hR) hy9
  obtain ⟨k1, k2, k3, k4⟩ := dawn_k (hJ.2.1.1 Qw zw hwm) hJ.2.1.2.1 hR hy hy9
  obtain ⟨m1, m2, m3⟩ := dawn_d (hJ.2.1.1 Qw zw hwm) hJ.2.1.2.2.2 hJ.2.1.2.2.1 hy hy9
  obtain ⟨h1, h2, h3, h4, h5, h6⟩ := hJ
  refine ⟨m1, jt_9 h1 u, ⟨fun Qv zv hm => wkt_eq (h2.1 Qv zv hm) (fun i hi h7 _ _ => k2 i hi h7), k1, m2, m3⟩, fun k hk => by rw [k4]; exact h3 k hk, fun k q hk hq => ?_, h5, ruq_9 h6 r u.2.1⟩
  rw [k3]; exact h4 k q hk hq
theorem row_both {r8 r9 : Int32} (h : JM_row (JX_row JG x1 r8) x1 r9 B2 B6 Q5 z8 z5 zd z1 z9 wk ru im) : r8 = r9 ∧ JG B2 B6 Q5 z8 z5 zd z1 z9 wk ru im := by
  obtain ⟨z0, y9, ⟨z5o, Qw, zw, y, hJ, -, hwm, hy, e8, e5⟩, hR, hy9, e9, ez⟩ := h
  have f := ok_get t_fX8_row hy
  subst e8 e5 e9 ez
  obtain ⟨k1, k2, k3, k4⟩ := row_k (hJ.2.1.1 Qw zw hwm) hJ.2.1.2.1 hy hy9
  have f5 : gI y.2 2 = gI z5o 2 ∧ gI y.2 3 = gI z5o 3 := ⟨(f 2 (by decide)).1, (f 3 (by decide)).1⟩
  obtain ⟨h1, h2, h3, h4, h5, h6⟩ := hJ
  refine ⟨k1, jt_9 h1 (u9_fr k3 (by decide)), ⟨fun Qv zv hm => wkt_eq (h2.1 Qv zv hm) (fun i _ _ h8 h10 => k4 i h8 h10), k2, ?_, dr_cg h2.2.2.2 (fun i hi => k4 i (by omega) (by omega))⟩, fun k hk => by rw [(k3 35 (by decide)).2.1]; exact h3 k hk, fun k q hk hq => ?_, h5, ruq_9 h6 (r9_fr k3 (by decide)) (k3 2 (by decide)).1⟩
  · exact s6_eq ⟨f5.1.trans h2.2.2.1.1, f5.2.trans h2.2.2.1.2⟩ (k4 5 (by omega) (by omega)) (k4 6 (by omega) (by omega))
  · rw [(k3 34 (by decide)).2.1]; exact h4 k q hk hq
theorem day_both {r8 r9 : Int32} (h : JM_day (JX_day JG x1 r8) x1 r9 B2 B6 Q5 z8 z5 zd z1 z9 wk ru im) : r8 = r9 ∧ JG B2 B6 Q5 z8 z5 zd z1 z9 wk ru im := by
  obtain ⟨z0, y9, hX, hR, hy9, e9, ez⟩ := h
  subst e9 ez
  rcases hX with ⟨Qw, zw, y, hJ, -, hwm, hr, hy, e8⟩ | ⟨zdo, Qw, zw, qR, QR, nR, zR, z2, y, hJ, -, hwm, hrm, hr, hy, e8, ed⟩
  · subst e8
    obtain ⟨k1, k2⟩ := day_n hJ.1 (hJ.2.1.1 Qw zw hwm) hr (fun k hk6 hk hB => by
      obtain ⟨q, hq, -⟩ := hJ.2.2.2.2.2 k (by have := (i32_lt _ _).1 hk; rw [nI_toInt (by omega)] at this; exact this)
      rw [hB] at hq; cases hq) hy hy9
    rw [k2]
    exact ⟨k1, hJ⟩
  · subst e8 ed
    have g := ok_get (v_day hR) hy9
    have u := ok_get (u_day hR) hy9
    have r := ok_get (r9_day hR) hy9
    obtain ⟨k1, k2, k3, -⟩ := day_k hJ.1 (hJ.2.1.1 Qw zw hwm) hJ.2.1.2.2.2 hr (fun k ex hk6 hB => by
      obtain ⟨N, t, hT, ht, j3, j2⟩ := hJ.1
      have hkt : (k : Int) < (gI z0 2).toInt := by
        by_cases q : (k : Int) < (gI z0 2).toInt
        · exact q
        · exfalso
          unfold fX8_ruleForWork at hr
          simp only [jn] at hr
          have e1 : ¬ x1 < 0 := by rw [ex]; exact nI_pos (by omega)
          rw [j2, nI_toInt (by omega)] at q
          rw [if_neg e1, j3, if_pos (by rw [ex]; exact nI_le (by omega) (by omega)), if_pos trivial] at hr
          cases hr
      obtain ⟨q, hq, hq2⟩ := hJ.2.2.2.2.2 k hkt
      have : q = qR := Option.some.inj (hq.symm.trans hB)
      subst this
      exact hq2 QR nR zR hrm) hy hy9
    exact ⟨k1, jd_T hJ (jt_9 hJ.1 u) g r u.2.1 (s5_dz hJ.2.1.2.1 k3) (s6_dz hJ.2.1.2.2.1 k3) k2⟩
theorem st_look {r8 r9 : Int32} (h : JM_look (JX_look JG x1 r8) x1 r9 B2 B6 Q5 z8 z5 zd z1 z9 wk ru im) : JG B2 B6 Q5 z8 z5 zd z1 z9 wk ru im := (look_both h).2
theorem st_fine {r8 r9 : Int32} (h : JM_fine (JX_fine JG x1 r8) x1 r9 B2 B6 Q5 z8 z5 zd z1 z9 wk ru im) : JG B2 B6 Q5 z8 z5 zd z1 z9 wk ru im := (fine_both h).2
theorem st_seed {r8 r9 : Int32} (h : JM_seed (JX_seed JG x1 r8) x1 r9 B2 B6 Q5 z8 z5 zd z1 z9 wk ru im) : JG B2 B6 Q5 z8 z5 zd z1 z9 wk ru im := (seed_both h).2
theorem st_mend {r8 r9 : Int32} (h : JM_mend (JX_mend JG x1 r8) x1 r9 B2 B6 Q5 z8 z5 zd z1 z9 wk ru im) : JG B2 B6 Q5 z8 z5 zd z1 z9 wk ru im := (mend_both h).2
theorem st_dawn {r8 r9 : Int32} (h : JM_dawn (JX_dawn JG r8) r9 B2 B6 Q5 z8 z5 zd z1 z9 wk ru im) : JG B2 B6 Q5 z8 z5 zd z1 z9 wk ru im := (dawn_both h).2
theorem st_row {r8 r9 : Int32} (h : JM_row (JX_row JG x1 r8) x1 r9 B2 B6 Q5 z8 z5 zd z1 z9 wk ru im) : JG B2 B6 Q5 z8 z5 zd z1 z9 wk ru im := (row_both h).2
theorem st_day {r8 r9 : Int32} (h : JM_day (JX_day JG x1 r8) x1 r9 B2 B6 Q5 z8 z5 zd z1 z9 wk ru im) : JG B2 B6 Q5 z8 z5 zd z1 z9 wk ru im := (day_both h).2
theorem kind_both {r8 r9 : Int32} (h : JM_kind (JX_kind JG x1 x2 r8) x1 x2 r9 B2 B6 Q5 z8 z5 zd z1 z9 wk ru im) : r8 = r9 := by
  obtain ⟨⟨Qw, zw, y, hJ, -, hwm, hy, e8⟩, -, hy9⟩ := h
  subst e8
  exact kind_k (hJ.2.1.1 Qw zw hwm) hy hy9
theorem fault_both {r8 r9 : Int32} (h : JM_fault (JX_fault JG x1 x2 r8) x1 x2 r9 B2 B6 Q5 z8 z5 zd z1 z9 wk ru im) : r8 = r9 := by
  obtain ⟨⟨Qw, zw, y, hJ, -, hwm, hy, e8⟩, -, hy9⟩ := h
  subst e8
  exact fault_k (hJ.2.1.1 Qw zw hwm) hJ.2.1.2.2.2 hy hy9
theorem count_both {r8 r9 : Int32} (h : JM_count (JX_count JG x1 r8) x1 r9 B2 B6 Q5 z8 z5 zd z1 z9 wk ru im) : r8 = r9 := by
  obtain ⟨⟨Qw, zw, y, hJ, -, hwm, hy, e8⟩, -, hy9⟩ := h
  subst e8
  exact count_k hJ.1 (hJ.2.1.1 Qw zw hwm) hJ.2.1.2.1 hJ.2.1.2.2.2 hy hy9
theorem coins_both {r8 r9 : Int32} (h : JM_coins (JX_coins JG x1 r8) x1 r9 B2 B6 Q5 z8 z5 zd z1 z9 wk ru im) : r8 = r9 := by
  obtain ⟨⟨y, hJ, -, hy, e8⟩, -, hy9⟩ := h
  subst e8
  exact coins_k hJ.2.1.2.2.2 hJ.2.1.2.2.1 hy hy9
theorem work_both {r8 r9 : Int32} (h : JM_work (JX_work JG r8) r9 B2 B6 Q5 z8 z5 zd z1 z9 wk ru im) : r8 = r9 ∧ JG B2 B6 Q5 z8 z5 zd z1 z9 wk ru im := by
  obtain ⟨z0, y9, hX, hR, hy9, e9, ez⟩ := h
  subst e9 ez
  have r := ok_get (r9_work hR) hy9
  have w := ok_get (work9 hR) hy9
  rcases hX with ⟨Q5o, z8o, z5o, zdo, wko, z4, z6, y, u, hJ, hI, hy, e8, hfw, eQ, ez8, ez5, ezd, ew⟩ | ⟨z8o, z5o, zdo, z4, z6, y, hJ, -, hy, e8, ez8, ez5, ezd⟩
  · subst e8 eQ ez8 ez5 ezd ew
    have jt := work_ok_st hJ.1 hR hy hy9
    obtain ⟨k1, k2, k3, k4, k5⟩ := work_k_ok hJ.1 hR hy hy9
    obtain ⟨h1, h2, h3, h4, h5, h6⟩ := hJ
    obtain ⟨F, d0, dF, d1, d2, d3, d4, d5, d6, -⟩ := h2.2.2.2
    obtain ⟨m1, m2⟩ := work_d h1 hR d5 d6 hy hy9
    refine ⟨k1, jt, ⟨fun Qw zw hm => ?_, k3, m1, m2⟩, fun k hk => by rw [k5]; exact h3 k hk, fun k q hk hq => ?_, h5, ruq_9 h6 r w.2⟩
    · rw [va_up_self] at hm
      rcases List.mem_cons.1 hm with e | e
      · have e : zw = y.2.2.2.2.2 := congrArg (fun x : WT => x.2.2) e
        rw [e]; exact k2
      · exact absurd rfl (hfw _ e)
    · obtain ⟨x, hx, ex, hg⟩ := h4 k q hk hq
      rw [k4]
      refine ⟨x, hx, ex, fun Qw zw hm => ?_, hg.2⟩
      rcases List.mem_cons.1 hm with e | e
      · obtain ⟨v, hv, ev⟩ := hI.2.2.2.2.2.1 x hx
        have e : x.2.1 0 = u.1 := congrArg (fun x : WT => x.1) e
        exact absurd (ev.trans e) (hfw v hv)
      · exact hg.1 Qw zw e
  · subst e8 ez8 ez5 ezd
    have jt := work_fail_st hJ.1 hR hy hy9
    obtain ⟨k1, k2, k3⟩ := work_k_fail hJ.1 hR hy hy9
    obtain ⟨k5, k6⟩ := work_f24 hJ.1 hR hy hy9
    rw [k2, k5]
    refine ⟨k1, ?_⟩
    obtain ⟨h1, h2, h3, h4, h5, h6⟩ := hJ
    refine ⟨jt, by rw [k6]; exact h2, fun k hk => by rw [k3.2.2]; exact h3 k hk, fun k q hk hq => ?_, h5, ruq_9 h6 r w.2⟩
    rw [k3.2.1]; exact h4 k q hk hq
theorem st_work {r8 r9 : Int32} (h : JM_work (JX_work JG r8) r9 B2 B6 Q5 z8 z5 zd z1 z9 wk ru im) : JG B2 B6 Q5 z8 z5 zd z1 z9 wk ru im := (work_both h).2
theorem rule_both {r8 r9 : Int32} (h : JM_rule (JX_rule JG r8) r9 B2 B6 Q5 z8 z5 zd z1 z9 wk ru im) : r8 = r9 ∧ JG B2 B6 Q5 z8 z5 zd z1 z9 wk ru im := by
  obtain ⟨z0, y9, hX, hR, hy9, e9, ez⟩ := h
  subst e9 ez
  have g := ok_get (v_rule hR) hy9
  have t24 := ok_get (rule_f24 hR) hy9
  rcases hX with ⟨B2o, z8o, ruo, z4, z6, y, u, hJ, hI, hy, e8, hfu, eB, ez8, er⟩ | ⟨z8o, z4, z6, y, hJ, -, hy, e8, ez8⟩
  · have k := rule_st hJ.1 hR (Or.inl hy) hy9
    obtain ⟨t, ht, a1, a2, a3, a4, a5⟩ := rule_new hJ.1 hR hy hy9
    subst e8 eB ez8 er
    obtain ⟨h1, h2, h3, h4, h5, h6⟩ := hJ
    refine ⟨k.1, k.2, by rw [t24]; exact h2, fun j hj => by rw [g.2.2]; exact h3 j hj, fun j q hj hq => by rw [g.2.1]; exact h4 j q hj hq, h5, fun j hj => ?_⟩
    rw [a3, nI_toInt (by omega)] at hj
    have cl : y.1.toNatClampNeg = t := by rw [a1, nI_clamp (by omega)]
    rw [cl]
    by_cases c : j = t
    · refine ⟨u.1, by rw [c, va_up_self], fun QR nR zR hm => ?_⟩
      rcases List.mem_cons.1 hm with e | e
      · have en : nR = ruleN y.2.2.1 := congrArg (fun x : RT => x.2.2.1) e
        have ezz : zR = ruleZ y.2.2.1 := congrArg (fun x : RT => x.2.2.2) e
        rw [en, ezz, c]
        exact rrel_new a4
      · exact absurd rfl (hfu _ e)
    · obtain ⟨q, hq, hr⟩ := h6 j (by rw [a2, nI_toInt (by omega)]; omega)
      refine ⟨q, by rw [va_up_ne _ _ c]; exact hq, fun QR nR zR hm => ?_⟩
      rcases List.mem_cons.1 hm with e | e
      · obtain ⟨v, hv, ev⟩ := hI.2.2.1 _ _ hq
        have e : q = u.1 := congrArg (fun x : RT => x.1) e
        exact absurd (ev.trans e) (hfu v hv)
      · exact a5 nR j zR (by omega) (hr QR nR zR e)
  · have k := rule_st hJ.1 hR (Or.inr hy) hy9
    obtain ⟨a2, a5⟩ := rule_old hJ.1 hR hy hy9
    subst e8 ez8
    obtain ⟨h1, h2, h3, h4, h5, h6⟩ := hJ
    refine ⟨k.1, k.2, by rw [t24]; exact h2, fun j hj => by rw [g.2.2]; exact h3 j hj, fun j q hj hq => by rw [g.2.1]; exact h4 j q hj hq, h5, fun j hj => ?_⟩
    rw [a2] at hj
    obtain ⟨q, hq, hr⟩ := h6 j hj
    exact ⟨q, hq, fun QR nR zR hm => a5 nR j zR hj (hr QR nR zR hm)⟩
theorem st_rule {r8 r9 : Int32} (h : JM_rule (JX_rule JG r8) r9 B2 B6 Q5 z8 z5 zd z1 z9 wk ru im) : JG B2 B6 Q5 z8 z5 zd z1 z9 wk ru im := (rule_both h).2
theorem bkD {z zo zdo zR zE : Sx} {y : Int32 × Sx × Sx} (h : fX8_back_some z zo zdo B6 zR zE x1 = some y) : (∀ T, S5 zR T → S5 y.2.1 T) ∧ (∀ T, S6 zR T → S6 y.2.1 T) ∧ ∀ T, DR zE T → DR y.2.2 T := by
  unfold fX8_back_some at h
  by_cases c1 : x1 < 0
  · rw [if_pos c1] at h; cases h
  rw [if_neg c1] at h
  by_cases c2 : x1 < 4
  · rw [if_pos c2] at h
    obtain ⟨a8, a9, e, h⟩ := bd2_some (gd_some h).2
    have q5 := ok_get copyD e
    obtain rfl := Option.some.inj h
    exact q5
  · rw [if_neg c2] at h; cases h
theorem inD {z zo zdo : Sx} {y : Int32 × Sx × Sx} (h : fX8_image_none z zo zdo B6 x1 = some y) : (∀ T, S5 zo T → S5 y.2.1 T) ∧ (∀ T, S6 zo T → S6 y.2.1 T) ∧ ∀ T, DR zdo T → DR y.2.2 T := by
  unfold fX8_image_none at h
  by_cases c1 : x1 < 0
  · rw [if_pos c1] at h; cases h
  rw [if_neg c1] at h
  by_cases c2 : x1 < 4
  · rw [if_pos c2] at h
    obtain ⟨a8, a9, e, h⟩ := bd2_some (gd_some (gd_some h).2).2
    have q5 := ok_get copyD e
    obtain rfl := Option.some.inj h
    exact q5
  · rw [if_neg c2] at h; cases h
theorem isD5 {z zo zdo zR zE : Sx} {y : Int32 × Sx × Sx} (h : fX8_image_some z zo zdo B6 zR zE x1 = some y) : (∀ T, S5 zo T → S5 y.2.1 T) ∧ (∀ T, S6 zo T → S6 y.2.1 T) ∧ ∀ T, DR zdo T → DR y.2.2 T := by
  unfold fX8_image_some at h
  by_cases c1 : x1 < 0
  · rw [if_pos c1] at h; cases h
  rw [if_neg c1] at h
  by_cases c2 : x1 < 4
  · rw [if_pos c2] at h
    obtain ⟨a8, a9, e, h⟩ := bd2_some (gd_some h).2
    have q5 := ok_get copyD e
    obtain rfl := Option.some.inj h
    exact q5
  · rw [if_neg c2] at h; cases h
theorem st_back {r8 r9 : Int32} (h : JM_back (JX_back JG x1 r8) x1 r9 B2 B6 Q5 z8 z5 zd z1 z9 wk ru im) : JG B2 B6 Q5 z8 z5 zd z1 z9 wk ru im := by
  obtain ⟨z0, y9, hX, -, hy9, e9, ez⟩ := h
  subst e9 ez
  have q9 := ok_get back9 hy9
  rcases hX with ⟨y, hJ, -, cx, hB, hy, e8⟩ | ⟨Q5o, z5o, zdo, qR, QR, zR, QE, zE, y, hJ, -, him, hun, cx, hB, hy, e8, eQ, e5, ed⟩ | ⟨hJ, -, cx, e8⟩
  · have hcl := clampI cx.1
    have h0 := (hJ.2.2.1 _ (by omega)).1 hB
    rcases q9 with ⟨-, e⟩ | ⟨-, ne, -⟩
    · rw [e]; exact hJ
    · exact absurd h0 ne
  · have hcl := clampI cx.1
    have hk : x1.toNatClampNeg < 4 := by omega
    rcases q9 with ⟨h0, e⟩ | ⟨-, -, f, he⟩
    · rcases h0 with h0 | h0
      · exact absurd cx h0
      · have := (hJ.2.2.1 _ hk).2 h0
        rw [hB] at this; cases this
    · obtain ⟨h1, h2, h3, h4, h5, h6⟩ := hJ
      obtain ⟨x, hx, ex, hg⟩ := h4 _ _ hk hB
      have := hun x hx ex
      subst this
      subst e5 eQ ed
      obtain ⟨b1, b2, b3⟩ := bkD hy
      have ks : KSd y.2.1 y.2.2 (QR 0) wk (gT y9.2 24) := ks_e (T := fun i => gT z0 34 (104 * x1.toNatClampNeg + i)) ⟨hg.1, b1 _ hg.2.1, b2 _ hg.2.2.1, b3 _ hg.2.2.2⟩ (fun i hi => he i hi) (ks_F hg)
      refine ⟨jt_9 h1 (u9_fr f (by decide)), ?_, fun k hk => by rw [(f 35 (by decide)).2.1]; exact h3 k hk, fun k q hk hq => by rw [(f 34 (by decide)).2.1]; exact h4 k q hk hq, h5, ruq_9 h6 (r9_fr f (by decide)) (f 2 (by decide)).1⟩
      rw [va_up_self]; exact ks
  · rcases q9 with ⟨-, e⟩ | ⟨ic, -⟩
    · rw [e]; exact hJ
    · exact absurd ic cx
theorem st_image {r8 r9 : Int32} (h : JM_image (JX_image JG x1 r8) x1 r9 B2 B6 Q5 z8 z5 zd z1 z9 wk ru im) : JG B2 B6 Q5 z8 z5 zd z1 z9 wk ru im := by
  obtain ⟨z0, y9, hX, -, hy9, e9, ez⟩ := h
  subst e9 ez
  have q9 := ok_get image9 hy9
  have nb : ¬ (vp_nar .boolean 1 : Int32) = 0 := by decide
  rcases hX with ⟨B6o, imo, y, u, hJ, hI, cx, hB, hy, e8, hfr, eB, ei⟩ | ⟨imo, qR, QR, zR, QE, zE, y, imr, hJ, -, him, hun, cx, hB, hy, e8, hi1, hi2, ei⟩ | ⟨hJ, -, cx, e8⟩
  · have hcl := clampI cx.1
    rcases q9 with ⟨ic, -⟩ | ⟨-, f, ha, hb, hm, hn⟩
    · exact absurd cx ic
    obtain ⟨h1, h2, h3, h4, h5, h6⟩ := hJ
    obtain ⟨b1, b2, b3⟩ := inD hy
    subst eB ei
    refine ⟨jt_9 h1 (u9_fr f (by decide)), by rw [(f 24 (by decide)).2.1]; exact h2, fun k hk => ?_, fun k q hk hq => ?_, fun j k q hj hk => ?_, ruq_9 h6 (r9_fr f (by decide)) (f 2 (by decide)).1⟩
    · by_cases c : k = x1.toNatClampNeg
      · subst c
        rw [va_up_self, hm]
        exact ⟨fun h => (by cases h), fun h => absurd h nb⟩
      · rw [va_up_ne _ _ c, hn k c]; exact h3 k hk
    · by_cases c : k = x1.toNatClampNeg
      · subst c
        rw [va_up_self] at hq
        refine ⟨_, List.mem_cons_self, Option.some.inj hq, ?_⟩
        have ks : KSd y.2.1 y.2.2 (Q5 0) wk (fun i => gT y9.2 34 (104 * x1.toNatClampNeg + i)) := ks_e (T := gT z0 24) ⟨h2.1, b1 _ h2.2.1, b2 _ h2.2.2.1, b3 _ h2.2.2.2⟩ (fun i hi => ha i hi) (ks_F h2)
        show KSd y.2.1 y.2.2 (va_up u.2.1 0 (Q5 0) 0) wk _
        rw [va_up_self]; exact ks
      · rw [va_up_ne _ _ c] at hq
        obtain ⟨x, hx, ex, hg⟩ := h4 k q hk hq
        exact ⟨x, List.mem_cons_of_mem _ hx, ex, ks_e hg (fun i hi => hb (104 * k + i) (by omega)) (ks_F hg)⟩
    · by_cases c : j = x1.toNatClampNeg
      · by_cases d : k = x1.toNatClampNeg
        · exact c.trans d.symm
        · subst c
          rw [va_up_self] at hj
          rw [va_up_ne _ _ d] at hk
          obtain ⟨x, hx, ex⟩ := hI.2.2.2.2.1 _ _ hk
          exact absurd (ex.trans (Option.some.inj hj).symm) (hfr x hx)
      · by_cases d : k = x1.toNatClampNeg
        · subst d
          rw [va_up_self] at hk
          rw [va_up_ne _ _ c] at hj
          obtain ⟨x, hx, ex⟩ := hI.2.2.2.2.1 _ _ hj
          exact absurd (ex.trans (Option.some.inj hk).symm) (hfr x hx)
        · rw [va_up_ne _ _ c] at hj
          rw [va_up_ne _ _ d] at hk
          exact h5 j k q hj hk
  · have hcl := clampI cx.1
    rcases q9 with ⟨ic, -⟩ | ⟨-, f, ha, hb, hm, hn⟩
    · exact absurd cx ic
    obtain ⟨h1, h2, h3, h4, h5, h6⟩ := hJ
    obtain ⟨b1, b2, b3⟩ := isD5 hy
    subst ei
    refine ⟨jt_9 h1 (u9_fr f (by decide)), by rw [(f 24 (by decide)).2.1]; exact h2, fun k hk => ?_, fun k q hk hq => ?_, h5, ruq_9 h6 (r9_fr f (by decide)) (f 2 (by decide)).1⟩
    · by_cases c : k = x1.toNatClampNeg
      · subst c
        rw [hm, hB]
        exact ⟨fun h => (by cases h), fun h => absurd h nb⟩
      · rw [hn k c]; exact h3 k hk
    · by_cases c : k = x1.toNatClampNeg
      · subst c
        rw [hB] at hq
        refine ⟨_, List.mem_cons_self, Option.some.inj hq, ?_⟩
        have ks : KSd y.2.1 y.2.2 (Q5 0) wk (fun i => gT y9.2 34 (104 * x1.toNatClampNeg + i)) := ks_e (T := gT z0 24) ⟨h2.1, b1 _ h2.2.1, b2 _ h2.2.2.1, b3 _ h2.2.2.2⟩ (fun i hi => ha i hi) (ks_F h2)
        show KSd y.2.1 y.2.2 (va_up QR 0 (Q5 0) 0) wk _
        rw [va_up_self]; exact ks
      · obtain ⟨x, hx, ex, hg⟩ := h4 k q hk hq
        rcases hi2 x hx with e | e
        · subst e
          have ex : qR = q := ex
          subst ex
          exact absurd (h5 _ _ _ hq hB) c
        · exact ⟨x, List.mem_cons_of_mem _ e, ex, ks_e hg (fun i hi => hb (104 * k + i) (by omega)) (ks_F hg)⟩
  · rcases q9 with ⟨-, e⟩ | ⟨ic, -⟩
    · rw [e]; exact hJ
    · exact absurd ic cx
end JGS

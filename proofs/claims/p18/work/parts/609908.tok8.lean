/-! Words, on both sides. -/
theorem sp_diff : ∀ v w : Fin 17, v ≠ w → slen.getD v.val 0 ≠ slen.getD w.val 0 ∨ ∃ i : Fin 7, i.val < slen.getD v.val 0 ∧ sch v.val i.val ≠ sch w.val i.val := by decide +kernel
theorem sp_one {b : Nat → Int32} {p e v w : Nat} (hv : v < 17) (hw : w < 17) (h1 : SPW b p e v) (h2 : SPW b p e w) : v = w := by
  by_cases c : v = w
  · exact c
  · rcases sp_diff ⟨v, hv⟩ ⟨w, hw⟩ (fun q => c (congrArg Fin.val q)) with d | ⟨i, d1, d2⟩
    · exact absurd (h1.1.symm.trans h2.1) d
    · have hl : slen.getD v 0 = slen.getD w 0 := h1.1.symm.trans h2.1
      have d1 : i.val < slen.getD v 0 := d1
      exact absurd ((h1.2 i.val d1).symm.trans (h2.2 i.val (by omega))) d2
theorem wco_of {b : Nat → Int32} {p e w : Nat} (hw : w < 17) (h : SPW b p e w) : wco b p e = nI (304 + w) := by
  have ne : ∀ v : Nat, v < 17 → ¬ v = w → ¬ SPW b p e v := fun v hv hn q => hn (sp_one hv hw q h)
  unfold wco
  match w, hw with
  | 0, _ => rw [if_pos h]; rfl
  | 1, _ => rw [if_neg (ne 0 (by decide) (by decide)), if_pos h]; rfl
  | 2, _ => rw [if_neg (ne 0 (by decide) (by decide)), if_neg (ne 1 (by decide) (by decide)), if_pos h]; rfl
  | 3, _ => rw [if_neg (ne 0 (by decide) (by decide)), if_neg (ne 1 (by decide) (by decide)), if_neg (ne 2 (by decide) (by decide)), if_pos h]; rfl
  | 4, _ => rw [if_neg (ne 0 (by decide) (by decide)), if_neg (ne 1 (by decide) (by decide)), if_neg (ne 2 (by decide) (by decide)), if_neg (ne 3 (by decide) (by decide)), if_pos h]; rfl
  | 5, _ => rw [if_neg (ne 0 (by decide) (by decide)), if_neg (ne 1 (by decide) (by decide)), if_neg (ne 2 (by decide) (by decide)), if_neg (ne 3 (by decide) (by decide)), if_neg (ne 4 (by decide) (by decide)), if_pos h]; rfl
  | 6, _ => rw [if_neg (ne 0 (by decide) (by decide)), if_neg (ne 1 (by decide) (by decide)), if_neg (ne 2 (by decide) (by decide)), if_neg (ne 3 (by decide) (by decide)), if_neg (ne 4 (by decide) (by decide)), if_neg (ne 5 (by decide) (by decide)), if_pos h]; rfl
  | 7, _ => rw [if_neg (ne 0 (by decide) (by decide)), if_neg (ne 1 (by decide) (by decide)), if_neg (ne 2 (by decide) (by decide)), if_neg (ne 3 (by decide) (by decide)), if_neg (ne 4 (by decide) (by decide)), if_neg (ne 5 (by decide) (by decide)), if_neg (ne 6 (by decide) (by decide)), if_pos h]; rfl
  | n + 8, hn =>
    rw [if_neg (ne 0 (by decide) (by omega)), if_neg (ne 1 (by decide) (by omega)), if_neg (ne 2 (by decide) (by omega)), if_neg (ne 3 (by decide) (by omega)), if_neg (ne 4 (by decide) (by omega)), if_neg (ne 5 (by decide) (by omega)), if_neg (ne 6 (by decide) (by omega)), if_neg (ne 7 (by decide) (by omega))]
    match n, hn with
    | 0, _ => rw [if_pos h]; rfl
    | 1, _ => rw [if_neg (ne 8 (by decide) (by decide)), if_pos h]; rfl
    | 2, _ => rw [if_neg (ne 8 (by decide) (by decide)), if_neg (ne 9 (by decide) (by decide)), if_pos h]; rfl
    | 3, _ => rw [if_neg (ne 8 (by decide) (by decide)), if_neg (ne 9 (by decide) (by decide)), if_neg (ne 10 (by decide) (by decide)), if_pos h]; rfl
    | 4, _ => rw [if_neg (ne 8 (by decide) (by decide)), if_neg (ne 9 (by decide) (by decide)), if_neg (ne 10 (by decide) (by decide)), if_neg (ne 11 (by decide) (by decide)), if_pos h]; rfl
    | 5, _ => rw [if_neg (ne 8 (by decide) (by decide)), if_neg (ne 9 (by decide) (by decide)), if_neg (ne 10 (by decide) (by decide)), if_neg (ne 11 (by decide) (by decide)), if_neg (ne 12 (by decide) (by decide)), if_pos h]; rfl
    | 6, _ => rw [if_neg (ne 8 (by decide) (by decide)), if_neg (ne 9 (by decide) (by decide)), if_neg (ne 10 (by decide) (by decide)), if_neg (ne 11 (by decide) (by decide)), if_neg (ne 12 (by decide) (by decide)), if_neg (ne 13 (by decide) (by decide)), if_pos h]; rfl
    | 7, _ => rw [if_neg (ne 8 (by decide) (by decide)), if_neg (ne 9 (by decide) (by decide)), if_neg (ne 10 (by decide) (by decide)), if_neg (ne 11 (by decide) (by decide)), if_neg (ne 12 (by decide) (by decide)), if_neg (ne 13 (by decide) (by decide)), if_neg (ne 14 (by decide) (by decide)), if_pos h]; rfl
    | 8, _ => rw [if_neg (ne 8 (by decide) (by decide)), if_neg (ne 9 (by decide) (by decide)), if_neg (ne 10 (by decide) (by decide)), if_neg (ne 11 (by decide) (by decide)), if_neg (ne 12 (by decide) (by decide)), if_neg (ne 13 (by decide) (by decide)), if_neg (ne 14 (by decide) (by decide)), if_neg (ne 15 (by decide) (by decide)), if_pos h]; rfl
    | n + 9, hn => omega
theorem wco_none {b : Nat → Int32} {p e : Nat} (h : ∀ w : Nat, w < 17 → ¬ SPW b p e w) : wco b p e = 303 := by
  unfold wco
  rw [if_neg (h 0 (by decide)), if_neg (h 1 (by decide)), if_neg (h 2 (by decide)), if_neg (h 3 (by decide)), if_neg (h 4 (by decide)), if_neg (h 5 (by decide)), if_neg (h 6 (by decide)), if_neg (h 7 (by decide)), if_neg (h 8 (by decide)), if_neg (h 9 (by decide)), if_neg (h 10 (by decide)), if_neg (h 11 (by decide)), if_neg (h 12 (by decide)), if_neg (h 13 (by decide)), if_neg (h 14 (by decide)), if_neg (h 15 (by decide)), if_neg (h 16 (by decide))]
theorem wco_iff {b : Nat → Int32} {p e w : Nat} (hw : w < 17) : wco b p e = nI (304 + w) ↔ SPW b p e w := by
  constructor
  · intro h
    by_cases c : ∃ v : Nat, v < 17 ∧ SPW b p e v
    · obtain ⟨v, hv, hs⟩ := c
      rw [wco_of hv hs] at h
      have := (nI_eq (by omega) (by omega)).1 h
      have e : v = w := by omega
      rw [← e]; exact hs
    · rw [wco_none (fun v hv hs => c ⟨v, hv, hs⟩)] at h
      have h2 : nI 303 = nI (304 + w) := h
      have := (nI_eq (by omega) (by omega)).1 h2
      omega
  · exact wco_of hw
/-- the word w stands at q -/
def WD (f : Nat → Int32) (N q w : Nat) : Prop := SPW f q (rnP isL f N q) w
section WDS
variable {f : Nat → Int32} {N p q w : Nat} {z6 z9 z : Sx}
theorem wd_l (hw : w < 17) (h : WD f N q w) : q < N ∧ isL (f q) = true := by
  obtain ⟨-, h2, -⟩ := wc_ok ⟨w, hw⟩
  have h1 := h.1
  have h2 : 1 ≤ slen.getD w 0 := h2
  exact rq_in (Nat.le_refl q) (by omega)
theorem tkc_wd (hw : w < 17) (hq : q < N) (hb : 0 ≤ (f q).toInt ∧ (f q).toInt ≤ 255) : tkc f N q = nI (304 + w) ↔ WD f N q w := by
  have e4 : (nI (304 + w)).toInt = ((304 + w : Nat) : Int) := nI_toInt (by omega)
  by_cases c : isL (f q) = true
  · have nd : ¬ isD (f q) = true := fun h => by have a := isL_i.1 c; have b := isD_i.1 h; omega
    have e : tkc f N q = wco f q (rnP isL f N q) := by
      unfold tkc; rw [if_neg nd, if_pos c]
    rw [e]
    exact wco_iff hw
  · refine ⟨fun h => ?_, fun h => absurd (wd_l hw h).2 c⟩
    exfalso
    have h2 := congrArg Int32.toInt h
    rw [e4] at h2
    unfold tkc at h2
    by_cases d : isD (f q) = true
    · rw [if_pos d] at h2
      by_cases g : rnP isD f N q - q ≤ 5
      · rw [if_pos g, show (301 : Int32).toInt = 301 by decide] at h2; omega
      · rw [if_neg g, show (302 : Int32).toInt = 302 by decide] at h2; omega
    · rw [if_neg d, if_neg c] at h2
      by_cases g : wid f N q
      · rw [if_pos g] at h2
        by_cases k : f q = 60
        · rw [if_pos k, show (256 : Int32).toInt = 256 by decide] at h2; omega
        · rw [if_neg k, show (257 : Int32).toInt = 257 by decide] at h2; omega
      · rw [if_neg g] at h2; omega
theorem code_wd (hw : w < 17) (hA : AT f N z6 p) (hp : p ≤ N) (hb : ∀ i : Nat, i < N → 0 ≤ (f i).toInt ∧ (f i).toInt ≤ 255) : gI z6 5 = nI (304 + w) ↔ WD f N (rnP isB f N p) w := by
  rcases Nat.lt_or_ge (rnP isB f N p) N with h | h
  · rw [(at_tok hA h).1]
    exact tkc_wd hw h (hb _ h)
  · rw [(at_end hA h).1]
    refine ⟨fun q => ?_, fun q => absurd (wd_l hw q).1 (by omega)⟩
    have h2 : nI 300 = nI (304 + w) := q
    have := (nI_eq (by omega) (by omega)).1 h2
    omega
theorem isw_yes (hw : w < 17) (h : T9 f N z q) (hq : rnP isB f N q = q) (hd : WD f N q w) : fX9_isWord z (wcst.getD w 0) = some (1, z) := by
  have e : sI z 12 (nI q) = z := by rw [← h.2.1]; exact sI_self
  have := (isw9 hw h).1 (by rw [hq]; exact hd)
  rw [hq, e] at this
  exact this
theorem isw_no (hw : w < 17) (h : T9 f N z q) (hq : rnP isB f N q = q) (hd : ¬ WD f N q w) : fX9_isWord z (wcst.getD w 0) = some (0, z) := by
  have e : sI z 12 (nI q) = z := by rw [← h.2.1]; exact sI_self
  have := (isw9 hw h).2 (by rw [hq]; exact hd)
  rw [hq, e] at this
  exact this
theorem tkx_wd (hw : w < 17) (h : WD f N q w) : tkx f N q = rnP isL f N q := by
  have hl := wd_l hw h
  have nd : ¬ isD (f q) = true := fun h => by have a := isL_i.1 hl.2; have b := isD_i.1 h; omega
  unfold tkx
  rw [if_neg nd, if_pos hl.2]
end WDS

/-! The class cuts the tokens of a text. -/
theorem at400 {f : Nat → Int32} {p : Nat} (hp : p < 400) : fX8_at 400 f (nI p) = some (f p) := by
  unfold fX8_at
  rw [if_neg (nI_pos (by omega)), if_neg (nI_ge hp (by decide)), gd_pos ⟨nI_pos (by omega), by rw [nI_clamp (by omega)]; exact hp⟩, nI_clamp (by omega)]
theorem dl_le {x a : Int32} (h : ¬ x < a) : a ≤ x := (i32_le _ _).2 (by have := bI_nlt rfl rfl h; omega)
theorem il8 (x : Int32) : fX6_isLetter x = some (if isL x = true then 1 else 0) := by
  unfold fX6_isLetter isL
  by_cases c1 : x < 97
  · rw [if_pos c1, if_neg (fun h => by have h := of_decide_eq_true h; have a := bI_lt rfl rfl c1; have b := bI_le rfl rfl h.1; omega)]
  · rw [if_neg c1]
    by_cases c2 : 122 < x
    · rw [if_pos c2, if_neg (fun h => by have h := of_decide_eq_true h; have a := bI_lt rfl rfl c2; have b := bI_le rfl rfl h.2; omega)]
    · rw [if_neg c2, if_pos (decide_eq_true ⟨dl_le c1, dl_le c2⟩)]
theorem id8 (x : Int32) : fX6_isDigit x = some (if isD x = true then 1 else 0) := by
  unfold fX6_isDigit isD
  by_cases c1 : x < 48
  · rw [if_pos c1, if_neg (fun h => by have h := of_decide_eq_true h; have a := bI_lt rfl rfl c1; have b := bI_le rfl rfl h.1; omega)]
  · rw [if_neg c1]
    by_cases c2 : 57 < x
    · rw [if_pos c2, if_neg (fun h => by have h := of_decide_eq_true h; have a := bI_lt rfl rfl c2; have b := bI_le rfl rfl h.2; omega)]
    · rw [if_neg c2, if_pos (decide_eq_true ⟨dl_le c1, dl_le c2⟩)]
theorem one0 : ¬ (1 : Int32) = 0 := by decide
section CUT
variable {f : Nat → Int32} {N : Nat}
theorem cw_run {k : Int32 → Option (Int32 × Sx)} {z : Sx} {x2 : Int32} (hN : N ≤ 400) : ∀ (n p : Nat), p ≤ N → N - p < n → lX6_cutWord_3 k z 400 f x2 (nI N) n (nI p) = k (nI (rnP isL f N p)) := by
  intro n
  induction n with
  | zero => intro p _ hm; omega
  | succ n ih =>
    intro p hp hm
    rw [lX6_cutWord_3]
    by_cases c : p < N
    · rw [if_neg (nI_ge c (by omega)), bd_eq (at400 (by omega)), bd_eq (il8 _)]
      by_cases d : isL (f p) = true
      · rw [if_pos d, if_neg one0, nI_1, ih (p + 1) (by omega) (by omega), rq_step ⟨c, d⟩]
      · rw [if_neg d, if_pos rfl, rq_stop (fun h => d h.2)]
    · rw [if_pos (nI_le (by omega) (by omega)), rq_stop (fun h => c h.1)]
theorem nvl_s {q p : Nat} (h : q ≤ p) : nvl f q (p + 1 - q) = nvl f q (p - q) * 10 + f p - 48 := by
  have e : p + 1 - q = (p - q) + 1 := by omega
  rw [e, nvl, show q + (p - q) = p by omega]
theorem cn_run {k : Int32 → Int32 → Option (Int32 × Sx)} {z : Sx} {q : Nat} (hN : N ≤ 400) : ∀ (n p : Nat) (v : Int32), q ≤ p → p ≤ N → v = nvl f q (min 5 (p - q)) → N - p < n → lX6_cutNumber_6 k z 400 f (nI q) (nI N) n (nI p) v = k (nI (rnP isD f N p)) (nvl f q (min 5 (rnP isD f N p - q))) := by
  intro n
  induction n with
  | zero => intro p _ _ _ _ hm; omega
  | succ n ih =>
    intro p v hq hp hv hm
    rw [lX6_cutNumber_6]
    by_cases c : p < N
    · rw [if_neg (nI_ge c (by omega)), bd_eq (at400 (by omega)), bd_eq (id8 _)]
      by_cases d : isD (f p) = true
      · rw [if_pos d, if_neg one0, rq_step ⟨c, d⟩, show (nI q + 5 : Int32) = nI (q + 5) from nI_add q 5, nI_1]
        simp only [jn]
        by_cases g : q + 5 ≤ p
        · rw [if_pos (nI_le g (by omega))]
          exact ih (p + 1) v (by omega) (by omega) (by rw [hv, show min 5 (p - q) = 5 by omega, show min 5 (p + 1 - q) = 5 by omega]) (by omega)
        · rw [if_neg (nI_ge (by omega) (by omega)), bd_eq (at400 (by omega))]
          refine ih (p + 1) _ (by omega) (by omega) ?_ (by omega)
          rw [hv, show min 5 (p + 1 - q) = p + 1 - q by omega, show min 5 (p - q) = p - q by omega, nvl_s hq]
      · rw [if_neg d, if_pos rfl, rq_stop (fun h => d h.2), hv]
    · rw [if_pos (nI_le (by omega) (by omega)), rq_stop (fun h => c h.1), hv]
theorem sp_all {p w : Nat} (hp : p + slen.getD w 0 ≤ 400) (h : ∀ i : Nat, i < slen.getD w 0 → f (p + i) = sch w i) : ∀ (n i : Nat), i ≤ slen.getD w 0 → slen.getD w 0 - i < n → lX6_spells_15 400 f (nI p) w n (nI i) = some 1 := by
  intro n
  induction n with
  | zero => intro i _ hm; omega
  | succ n ih =>
    intro i hi hm
    rw [lX6_spells_15]
    by_cases c : i < slen.getD w 0
    · rw [if_neg (nI_ge c (by omega)), nI_add, bd_eq (at400 (by omega)), gd_pos ⟨nI_pos (by omega), by rw [nI_clamp (by omega)]; exact c⟩, nI_clamp (by omega), if_pos (h i c), nI_1]
      exact ih (i + 1) (by omega) (by omega)
    · rw [if_pos (nI_le (by omega) (by omega))]
theorem sp_not {p w : Nat} (hp : p + slen.getD w 0 ≤ 400) (h : ¬ ∀ i : Nat, i < slen.getD w 0 → f (p + i) = sch w i) : ∀ (n i : Nat), (∀ j : Nat, j < i → f (p + j) = sch w j) → i ≤ slen.getD w 0 → slen.getD w 0 - i < n → lX6_spells_15 400 f (nI p) w n (nI i) = some 0 := by
  intro n
  induction n with
  | zero => intro i _ _ hm; omega
  | succ n ih =>
    intro i hj hi hm
    rw [lX6_spells_15]
    by_cases c : i < slen.getD w 0
    · rw [if_neg (nI_ge c (by omega)), nI_add, bd_eq (at400 (by omega)), gd_pos ⟨nI_pos (by omega), by rw [nI_clamp (by omega)]; exact c⟩, nI_clamp (by omega)]
      by_cases d : f (p + i) = sch w i
      · rw [if_pos d, nI_1]
        refine ih (i + 1) (fun j hj1 => ?_) (by omega) (by omega)
        by_cases e : j = i
        · rw [e]; exact d
        · exact hj j (by omega)
      · rw [if_neg d]
    · exact absurd (fun j hj1 => hj j (by omega)) h
theorem nI_sub {a b : Nat} (h : b ≤ a) : nI a - nI b = nI (a - b) := by
  have e : nI a = nI (a - b) + nI b := by rw [nI_add]; congr 1; omega
  rw [e]; exact Int32.add_sub_cancel _ _
theorem sl_le (w : Nat) : slen.getD w 0 ≤ 7 := by
  by_cases h : w < 17
  · have : ∀ k : Fin 17, slen.getD k.val 0 ≤ 7 := by decide
    exact this ⟨w, h⟩
  · have hn : slen[w]? = none := List.getElem?_eq_none (by have : slen.length = 17 := rfl; omega)
    show (slen[w]?).getD 0 ≤ 7
    rw [hn]; decide
theorem sp_yes {p e w : Nat} (hpe : p ≤ e) (he : e ≤ 400) (h : SPW f p e w) : fX6_spells 400 f (nI p) (nI e) w = some 1 := by
  unfold fX6_spells
  have h1 := h.1
  rw [nI_sub hpe, if_pos (by rw [h.1])]
  have := sl_le w
  exact sp_all (by omega) h.2 FU 0 (by omega) (FU_lt (by omega))
theorem sp_no {p e w : Nat} (hpe : p ≤ e) (he : e ≤ 400) (h : ¬ SPW f p e w) : fX6_spells 400 f (nI p) (nI e) w = some 0 := by
  unfold fX6_spells
  have := sl_le w
  rw [nI_sub hpe]
  by_cases c : e - p = slen.getD w 0
  · rw [if_pos (by rw [c])]
    exact sp_not (by omega) (fun q => h ⟨c, q⟩) FU 0 (fun j hj => by omega) (by omega) (FU_lt (by omega))
  · rw [if_neg (fun q => c ((nI_eq (by omega) (by omega)).1 q))]

theorem cw_word {β : Type} {K : Int32 → Option β} {p e : Nat} (hpe : p ≤ e) (he : e ≤ 400) : bd (fX6_clauseWord 400 f (nI p) (nI e)) (fun r9 => jn K (fun J10 => if r9 = 303 then bd (fX6_valueWord 400 f (nI p) (nI e)) (fun r16 => J10 r16) else J10 r9)) = K (wco f p e) := by
  unfold fX6_clauseWord wco
  by_cases s0 : SPW f p e 0
  · rw [if_pos s0]
    rw [bd_eq (sp_yes hpe he s0), if_neg one0]
    rfl
  by_cases s1 : SPW f p e 1
  · rw [if_neg s0, if_pos s1]
    rw [bd_eq (sp_no hpe he s0), if_pos rfl, bd_eq (sp_yes hpe he s1), if_neg one0]
    rfl
  by_cases s2 : SPW f p e 2
  · rw [if_neg s0, if_neg s1, if_pos s2]
    rw [bd_eq (sp_no hpe he s0), if_pos rfl, bd_eq (sp_no hpe he s1), if_pos rfl, bd_eq (sp_yes hpe he s2), if_neg one0]
    rfl
  by_cases s3 : SPW f p e 3
  · rw [if_neg s0, if_neg s1, if_neg s2, if_pos s3]
    rw [bd_eq (sp_no hpe he s0), if_pos rfl, bd_eq (sp_no hpe he s1), if_pos rfl, bd_eq (sp_no hpe he s2), if_pos rfl, bd_eq (sp_yes hpe he s3), if_neg one0]
    rfl
  by_cases s4 : SPW f p e 4
  · rw [if_neg s0, if_neg s1, if_neg s2, if_neg s3, if_pos s4]
    rw [bd_eq (sp_no hpe he s0), if_pos rfl, bd_eq (sp_no hpe he s1), if_pos rfl, bd_eq (sp_no hpe he s2), if_pos rfl, bd_eq (sp_no hpe he s3), if_pos rfl, bd_eq (sp_yes hpe he s4), if_neg one0]
    rfl
  by_cases s5 : SPW f p e 5
  · rw [if_neg s0, if_neg s1, if_neg s2, if_neg s3, if_neg s4, if_pos s5]
    rw [bd_eq (sp_no hpe he s0), if_pos rfl, bd_eq (sp_no hpe he s1), if_pos rfl, bd_eq (sp_no hpe he s2), if_pos rfl, bd_eq (sp_no hpe he s3), if_pos rfl, bd_eq (sp_no hpe he s4), if_pos rfl, bd_eq (sp_yes hpe he s5), if_neg one0]
    rfl
  by_cases s6 : SPW f p e 6
  · rw [if_neg s0, if_neg s1, if_neg s2, if_neg s3, if_neg s4, if_neg s5, if_pos s6]
    rw [bd_eq (sp_no hpe he s0), if_pos rfl, bd_eq (sp_no hpe he s1), if_pos rfl, bd_eq (sp_no hpe he s2), if_pos rfl, bd_eq (sp_no hpe he s3), if_pos rfl, bd_eq (sp_no hpe he s4), if_pos rfl, bd_eq (sp_no hpe he s5), if_pos rfl, bd_eq (sp_yes hpe he s6), if_neg one0]
    rfl
  by_cases s7 : SPW f p e 7
  · rw [if_neg s0, if_neg s1, if_neg s2, if_neg s3, if_neg s4, if_neg s5, if_neg s6, if_pos s7]
    rw [bd_eq (sp_no hpe he s0), if_pos rfl, bd_eq (sp_no hpe he s1), if_pos rfl, bd_eq (sp_no hpe he s2), if_pos rfl, bd_eq (sp_no hpe he s3), if_pos rfl, bd_eq (sp_no hpe he s4), if_pos rfl, bd_eq (sp_no hpe he s5), if_pos rfl, bd_eq (sp_no hpe he s6), if_pos rfl, bd_eq (sp_yes hpe he s7), if_neg one0]
    rfl
  by_cases s8 : SPW f p e 8
  · rw [if_neg s0, if_neg s1, if_neg s2, if_neg s3, if_neg s4, if_neg s5, if_neg s6, if_neg s7, if_pos s8]
    rw [bd_eq (sp_no hpe he s0), if_pos rfl, bd_eq (sp_no hpe he s1), if_pos rfl, bd_eq (sp_no hpe he s2), if_pos rfl, bd_eq (sp_no hpe he s3), if_pos rfl, bd_eq (sp_no hpe he s4), if_pos rfl, bd_eq (sp_no hpe he s5), if_pos rfl, bd_eq (sp_no hpe he s6), if_pos rfl, bd_eq (sp_no hpe he s7), if_pos rfl]
    show bd (fX6_valueWord 400 f (nI p) (nI e)) (fun r16 => K r16) = _
    unfold fX6_valueWord
    rw [bd_eq (sp_yes hpe he s8), if_neg one0]
    rfl
  by_cases s9 : SPW f p e 9
  · rw [if_neg s0, if_neg s1, if_neg s2, if_neg s3, if_neg s4, if_neg s5, if_neg s6, if_neg s7, if_neg s8, if_pos s9]
    rw [bd_eq (sp_no hpe he s0), if_pos rfl, bd_eq (sp_no hpe he s1), if_pos rfl, bd_eq (sp_no hpe he s2), if_pos rfl, bd_eq (sp_no hpe he s3), if_pos rfl, bd_eq (sp_no hpe he s4), if_pos rfl, bd_eq (sp_no hpe he s5), if_pos rfl, bd_eq (sp_no hpe he s6), if_pos rfl, bd_eq (sp_no hpe he s7), if_pos rfl]
    show bd (fX6_valueWord 400 f (nI p) (nI e)) (fun r16 => K r16) = _
    unfold fX6_valueWord
    rw [bd_eq (sp_no hpe he s8), if_pos rfl, bd_eq (sp_yes hpe he s9), if_neg one0]
    rfl
  by_cases s10 : SPW f p e 10
  · rw [if_neg s0, if_neg s1, if_neg s2, if_neg s3, if_neg s4, if_neg s5, if_neg s6, if_neg s7, if_neg s8, if_neg s9, if_pos s10]
    rw [bd_eq (sp_no hpe he s0), if_pos rfl, bd_eq (sp_no hpe he s1), if_pos rfl, bd_eq (sp_no hpe he s2), if_pos rfl, bd_eq (sp_no hpe he s3), if_pos rfl, bd_eq (sp_no hpe he s4), if_pos rfl, bd_eq (sp_no hpe he s5), if_pos rfl, bd_eq (sp_no hpe he s6), if_pos rfl, bd_eq (sp_no hpe he s7), if_pos rfl]
    show bd (fX6_valueWord 400 f (nI p) (nI e)) (fun r16 => K r16) = _
    unfold fX6_valueWord
    rw [bd_eq (sp_no hpe he s8), if_pos rfl, bd_eq (sp_no hpe he s9), if_pos rfl, bd_eq (sp_yes hpe he s10), if_neg one0]
    rfl
  by_cases s11 : SPW f p e 11
  · rw [if_neg s0, if_neg s1, if_neg s2, if_neg s3, if_neg s4, if_neg s5, if_neg s6, if_neg s7, if_neg s8, if_neg s9, if_neg s10, if_pos s11]
    rw [bd_eq (sp_no hpe he s0), if_pos rfl, bd_eq (sp_no hpe he s1), if_pos rfl, bd_eq (sp_no hpe he s2), if_pos rfl, bd_eq (sp_no hpe he s3), if_pos rfl, bd_eq (sp_no hpe he s4), if_pos rfl, bd_eq (sp_no hpe he s5), if_pos rfl, bd_eq (sp_no hpe he s6), if_pos rfl, bd_eq (sp_no hpe he s7), if_pos rfl]
    show bd (fX6_valueWord 400 f (nI p) (nI e)) (fun r16 => K r16) = _
    unfold fX6_valueWord
    rw [bd_eq (sp_no hpe he s8), if_pos rfl, bd_eq (sp_no hpe he s9), if_pos rfl, bd_eq (sp_no hpe he s10), if_pos rfl, bd_eq (sp_yes hpe he s11), if_neg one0]
    rfl
  by_cases s12 : SPW f p e 12
  · rw [if_neg s0, if_neg s1, if_neg s2, if_neg s3, if_neg s4, if_neg s5, if_neg s6, if_neg s7, if_neg s8, if_neg s9, if_neg s10, if_neg s11, if_pos s12]
    rw [bd_eq (sp_no hpe he s0), if_pos rfl, bd_eq (sp_no hpe he s1), if_pos rfl, bd_eq (sp_no hpe he s2), if_pos rfl, bd_eq (sp_no hpe he s3), if_pos rfl, bd_eq (sp_no hpe he s4), if_pos rfl, bd_eq (sp_no hpe he s5), if_pos rfl, bd_eq (sp_no hpe he s6), if_pos rfl, bd_eq (sp_no hpe he s7), if_pos rfl]
    show bd (fX6_valueWord 400 f (nI p) (nI e)) (fun r16 => K r16) = _
    unfold fX6_valueWord
    rw [bd_eq (sp_no hpe he s8), if_pos rfl, bd_eq (sp_no hpe he s9), if_pos rfl, bd_eq (sp_no hpe he s10), if_pos rfl, bd_eq (sp_no hpe he s11), if_pos rfl, bd_eq (sp_yes hpe he s12), if_neg one0]
    rfl
  by_cases s13 : SPW f p e 13
  · rw [if_neg s0, if_neg s1, if_neg s2, if_neg s3, if_neg s4, if_neg s5, if_neg s6, if_neg s7, if_neg s8, if_neg s9, if_neg s10, if_neg s11, if_neg s12, if_pos s13]
    rw [bd_eq (sp_no hpe he s0), if_pos rfl, bd_eq (sp_no hpe he s1), if_pos rfl, bd_eq (sp_no hpe he s2), if_pos rfl, bd_eq (sp_no hpe he s3), if_pos rfl, bd_eq (sp_no hpe he s4), if_pos rfl, bd_eq (sp_no hpe he s5), if_pos rfl, bd_eq (sp_no hpe he s6), if_pos rfl, bd_eq (sp_no hpe he s7), if_pos rfl]
    show bd (fX6_valueWord 400 f (nI p) (nI e)) (fun r16 => K r16) = _
    unfold fX6_valueWord
    rw [bd_eq (sp_no hpe he s8), if_pos rfl, bd_eq (sp_no hpe he s9), if_pos rfl, bd_eq (sp_no hpe he s10), if_pos rfl, bd_eq (sp_no hpe he s11), if_pos rfl, bd_eq (sp_no hpe he s12), if_pos rfl, bd_eq (sp_yes hpe he s13), if_neg one0]
    rfl
  by_cases s14 : SPW f p e 14
  · rw [if_neg s0, if_neg s1, if_neg s2, if_neg s3, if_neg s4, if_neg s5, if_neg s6, if_neg s7, if_neg s8, if_neg s9, if_neg s10, if_neg s11, if_neg s12, if_neg s13, if_pos s14]
    rw [bd_eq (sp_no hpe he s0), if_pos rfl, bd_eq (sp_no hpe he s1), if_pos rfl, bd_eq (sp_no hpe he s2), if_pos rfl, bd_eq (sp_no hpe he s3), if_pos rfl, bd_eq (sp_no hpe he s4), if_pos rfl, bd_eq (sp_no hpe he s5), if_pos rfl, bd_eq (sp_no hpe he s6), if_pos rfl, bd_eq (sp_no hpe he s7), if_pos rfl]
    show bd (fX6_valueWord 400 f (nI p) (nI e)) (fun r16 => K r16) = _
    unfold fX6_valueWord
    rw [bd_eq (sp_no hpe he s8), if_pos rfl, bd_eq (sp_no hpe he s9), if_pos rfl, bd_eq (sp_no hpe he s10), if_pos rfl, bd_eq (sp_no hpe he s11), if_pos rfl, bd_eq (sp_no hpe he s12), if_pos rfl, bd_eq (sp_no hpe he s13), if_pos rfl, bd_eq (sp_yes hpe he s14), if_neg one0]
    rfl
  by_cases s15 : SPW f p e 15
  · rw [if_neg s0, if_neg s1, if_neg s2, if_neg s3, if_neg s4, if_neg s5, if_neg s6, if_neg s7, if_neg s8, if_neg s9, if_neg s10, if_neg s11, if_neg s12, if_neg s13, if_neg s14, if_pos s15]
    rw [bd_eq (sp_no hpe he s0), if_pos rfl, bd_eq (sp_no hpe he s1), if_pos rfl, bd_eq (sp_no hpe he s2), if_pos rfl, bd_eq (sp_no hpe he s3), if_pos rfl, bd_eq (sp_no hpe he s4), if_pos rfl, bd_eq (sp_no hpe he s5), if_pos rfl, bd_eq (sp_no hpe he s6), if_pos rfl, bd_eq (sp_no hpe he s7), if_pos rfl]
    show bd (fX6_valueWord 400 f (nI p) (nI e)) (fun r16 => K r16) = _
    unfold fX6_valueWord
    rw [bd_eq (sp_no hpe he s8), if_pos rfl, bd_eq (sp_no hpe he s9), if_pos rfl, bd_eq (sp_no hpe he s10), if_pos rfl, bd_eq (sp_no hpe he s11), if_pos rfl, bd_eq (sp_no hpe he s12), if_pos rfl, bd_eq (sp_no hpe he s13), if_pos rfl, bd_eq (sp_no hpe he s14), if_pos rfl, bd_eq (sp_yes hpe he s15), if_neg one0]
    rfl
  by_cases s16 : SPW f p e 16
  · rw [if_neg s0, if_neg s1, if_neg s2, if_neg s3, if_neg s4, if_neg s5, if_neg s6, if_neg s7, if_neg s8, if_neg s9, if_neg s10, if_neg s11, if_neg s12, if_neg s13, if_neg s14, if_neg s15, if_pos s16]
    rw [bd_eq (sp_no hpe he s0), if_pos rfl, bd_eq (sp_no hpe he s1), if_pos rfl, bd_eq (sp_no hpe he s2), if_pos rfl, bd_eq (sp_no hpe he s3), if_pos rfl, bd_eq (sp_no hpe he s4), if_pos rfl, bd_eq (sp_no hpe he s5), if_pos rfl, bd_eq (sp_no hpe he s6), if_pos rfl, bd_eq (sp_no hpe he s7), if_pos rfl]
    show bd (fX6_valueWord 400 f (nI p) (nI e)) (fun r16 => K r16) = _
    unfold fX6_valueWord
    rw [bd_eq (sp_no hpe he s8), if_pos rfl, bd_eq (sp_no hpe he s9), if_pos rfl, bd_eq (sp_no hpe he s10), if_pos rfl, bd_eq (sp_no hpe he s11), if_pos rfl, bd_eq (sp_no hpe he s12), if_pos rfl, bd_eq (sp_no hpe he s13), if_pos rfl, bd_eq (sp_no hpe he s14), if_pos rfl, bd_eq (sp_no hpe he s15), if_pos rfl, bd_eq (sp_yes hpe he s16), if_neg one0]
    rfl
  rw [if_neg s0, if_neg s1, if_neg s2, if_neg s3, if_neg s4, if_neg s5, if_neg s6, if_neg s7, if_neg s8, if_neg s9, if_neg s10, if_neg s11, if_neg s12, if_neg s13, if_neg s14, if_neg s15, if_neg s16]
  rw [bd_eq (sp_no hpe he s0), if_pos rfl, bd_eq (sp_no hpe he s1), if_pos rfl, bd_eq (sp_no hpe he s2), if_pos rfl, bd_eq (sp_no hpe he s3), if_pos rfl, bd_eq (sp_no hpe he s4), if_pos rfl, bd_eq (sp_no hpe he s5), if_pos rfl, bd_eq (sp_no hpe he s6), if_pos rfl, bd_eq (sp_no hpe he s7), if_pos rfl]
  show bd (fX6_valueWord 400 f (nI p) (nI e)) (fun r16 => K r16) = _
  unfold fX6_valueWord
  rw [bd_eq (sp_no hpe he s8), if_pos rfl, bd_eq (sp_no hpe he s9), if_pos rfl, bd_eq (sp_no hpe he s10), if_pos rfl, bd_eq (sp_no hpe he s11), if_pos rfl, bd_eq (sp_no hpe he s12), if_pos rfl, bd_eq (sp_no hpe he s13), if_pos rfl, bd_eq (sp_no hpe he s14), if_pos rfl, bd_eq (sp_no hpe he s15), if_pos rfl, bd_eq (sp_no hpe he s16), if_pos rfl]
  rfl

theorem ct_token {z : Sx} {p : Nat} (hp : p < N) (hN : N ≤ 400) : fX6_cutToken z 400 f (nI p) (nI N) = if f p = 32 then some (nI (p + 1), z) else bd (fX6_addToken z (tkc f N p) (nI p) (tkn f N p)) (fun z1 => some (nI (tkx f N p), z1)) := by
  unfold fX6_cutToken
  rw [bd_eq (at400 (by omega))]
  by_cases c0 : f p = 32
  · rw [if_pos c0, if_pos c0, nI_1]
  rw [if_neg c0, if_neg c0, bd_eq (id8 _)]
  by_cases c1 : isD (f p) = true
  · have ec : tkc f N p = if rnP isD f N p - p ≤ 5 then 301 else 302 := by
      unfold tkc; rw [if_pos c1]
    have en : tkn f N p = nvl f p (min 5 (rnP isD f N p - p)) := by
      unfold tkn; rw [if_pos c1]
    have ex : tkx f N p = rnP isD f N p := by
      unfold tkx; rw [if_pos c1]
    rw [if_pos c1, if_neg one0, ec, en, ex]
    unfold fX6_cutNumber
    rw [cn_run hN FU p 0 (Nat.le_refl p) (by omega) (by rw [Nat.sub_self]; rfl) (FU_lt (by omega))]
    have hr := rq_ge (P := isD) (b := f) (N := N) (p := p)
    have hl := rq_le (P := isD) (b := f) (N := N) (p := p) (by omega)
    rw [nI_sub hr]
    simp only [jn]
    by_cases g : rnP isD f N p - p ≤ 5
    · rw [if_pos (show nI (rnP isD f N p - p) ≤ 5 from nI_le (b := 5) g (by decide)), if_pos g]
      cases fX6_addToken z 301 (nI p) (nvl f p (min 5 (rnP isD f N p - p))) <;> rfl
    · rw [if_neg (show ¬ nI (rnP isD f N p - p) ≤ 5 from nI_ge (a := 5) (by omega) (by omega)), if_neg g]
      cases fX6_addToken z 302 (nI p) (nvl f p (min 5 (rnP isD f N p - p))) <;> rfl
  have en : tkn f N p = 0 := by
    unfold tkn; rw [if_neg c1]
  rw [if_neg c1, if_pos rfl, en, bd_eq (il8 _)]
  by_cases c2 : isL (f p) = true
  · have ec : tkc f N p = wco f p (rnP isL f N p) := by
      unfold tkc; rw [if_neg c1, if_pos c2]
    have ex : tkx f N p = rnP isL f N p := by
      unfold tkx; rw [if_neg c1, if_pos c2]
    rw [if_pos c2, if_neg one0, ec, ex]
    unfold fX6_cutWord
    rw [cw_run hN FU p (by omega) (FU_lt (by omega))]
    have hr := rq_ge (P := isL) (b := f) (N := N) (p := p)
    have hl := rq_le (P := isL) (b := f) (N := N) (p := p) (by omega)
    rw [cw_word hr (by omega)]
    cases fX6_addToken z (wco f p (rnP isL f N p)) (nI p) 0 <;> rfl
  rw [if_neg c2, if_pos rfl]
  have e1 : nI p + 1 = nI (p + 1) := nI_1 p
  have e2 : nI p + 2 = nI (p + 2) := nI_add p 2
  simp only [jn]
  rw [e1, e2]
  by_cases c3 : wid f N p
  · obtain ⟨h1, h2, h3⟩ := id c3
    have ec : tkc f N p = if f p = 60 then 256 else 257 := by
      unfold tkc; rw [if_neg c1, if_neg c2, if_pos c3]
    have ex : tkx f N p = p + 2 := by
      unfold tkx; rw [if_neg c1, if_neg c2, if_pos c3]
    rw [ec, ex, if_neg (nI_ge h2 (by omega)), bd_eq (at400 (by omega)), if_pos h3, if_neg one0]
    rcases h1 with h1 | h1
    · rw [if_pos h1, if_pos h1, if_pos h1]
    · have n60 : ¬ f p = 60 := by rw [h1]; decide
      rw [if_neg n60, if_pos h1, if_neg n60, if_neg n60]
  · have ec : tkc f N p = f p := by
      unfold tkc; rw [if_neg c1, if_neg c2, if_neg c3]
    have ex : tkx f N p = p + 1 := by
      unfold tkx; rw [if_neg c1, if_neg c2, if_neg c3]
    rw [ec, ex]
    by_cases d1 : f p = 60 ∨ f p = 62
    · by_cases d2 : p + 1 < N
      · have d3 : ¬ f (p + 1) = 61 := fun h => c3 ⟨d1, d2, h⟩
        rw [if_neg (nI_ge d2 (by omega)), bd_eq (at400 (by omega)), if_neg d3, if_pos trivial]
        rcases d1 with d1 | d1
        · rw [if_pos d1]
        · have n60 : ¬ f p = 60 := by rw [d1]; decide
          rw [if_neg n60, if_pos d1]
      · rw [if_pos (nI_le (by omega) (by omega)), if_pos trivial]
        rcases d1 with d1 | d1
        · rw [if_pos d1]
        · have n60 : ¬ f p = 60 := by rw [d1]; decide
          rw [if_neg n60, if_pos d1]
    · rw [if_neg (fun h => d1 (Or.inl h)), if_neg (fun h => d1 (Or.inr h)), if_pos trivial]
end CUT

-- ===== end of PART A; then your names; then what follows =====
/-! THE CLAIM OUT OF ONE WALK OF THE LAW'S BODY. Your part is whole_start (and what it stands on); all else here is the same for every law, but numbers. -/
def R_law : String := "PaidMistakesLaw"
def lw_P (b : Addr) (xs : List Int32) (args : Array Value) (s : State) : Prop := args = #[.ref b] ∧ s.IntsAt b xs ∧ xs.length ≤ 3072 ∧ (Jvm.Cond.and given_1 narrow_1).before args s = true
def lw_Q (_ : Array Value) (s : State) (o : Outcome) (t : State) : Prop := o = .returned (some (.int 1)) ∧ Framed s o t [] 600000 7302250
def lw_Z (below : List Frame) (a : Array Value) (s : State) : State → Prop := fun t => ∃ o, t.status = .running ∧ Ended t below o ∧ lw_Q a s o t
/-- the law's own end, with 1 on the stack, nothing written that was there before, its room as the claim has it -/
theorem lw_ret {p : Program} {l : Launch} {e : Env} {s : State} {m : MethodId} {below : List Frame} {meth : Method} {c : Code} {b : Nat} (hx : p.tables.exec = Jvm.exec) (hb : c.code = code) (hr : meth.sig.returnType = ret) (hlocks : meth.locks = false) {pc : Nat} {H : Heap} {ls : Array Slot} (hdg : decode code pc = .ok (.ireturn, 1)) : W p l e room_1 s m #[Value.ref b] below meth c H [] 600000 7302250 (lw_Z below #[Value.ref b] s) (F0 m pc ls [.int 1]) := by
  intro T hT X
  obtain ⟨fs, hret, hrun, hended, hW, hframe⟩ := X.leave (v := some (.int 1)) (hlocks := hlocks) (fun h => by rw [hr] at h; cases h)
  have hmeth' : T.vm.method? m = some meth := X.method'
  refine ⟨T.setFrames fs, ?_, .returned (some (.int 1)), hrun, hended, rfl, ⟨_, rfl⟩, hW, hframe⟩
  jvm_step X.here [X.here.top, hx, hb, hdg, hmeth', hr, ret, narrow_b1]
  (try refine ⟨rfl, ?_⟩); (try refine ⟨rfl, ?_⟩)
  first | (intro acts; rw [hret _ acts rfl rfl rfl]) | rw [hret _ _ rfl rfl rfl]
  exact Steps.refl _
/-- what holds at the law's entry: the machine, the code, the tables' words (any of lw_tbl by 'hts w (by decide +kernel)'), the script of L ints xs at the cell b, what the Statement gives of the start (any of its parts by flat_of_before) -/
def lw_At (p : Program) (s : State) (m : MethodId) (meth : Method) (c : Code) (b L : Nat) (xs : Nat → Int32) : Prop :=
  p.tables.exec = Jvm.exec ∧ c.code = code ∧ meth.sig.returnType = ret ∧ c.maxLocals = 4 ∧ s.vm.findClass R_law = some m.cls ∧ (∀ w ∈ lw_tbl, w.before #[Value.ref b] s = true) ∧ va_X b L xs s s.heap ∧ b < s.heap.size ∧ meth.locks = false ∧ (Jvm.Cond.and given_1 narrow_1).before #[Value.ref b] s = true
theorem nI_6 (n : Nat) : nI (6 * n) + 6 = nI (6 * (n + 1)) := nI_add (6 * n) 6
theorem len_sub {L : Nat} (hL : L ≤ 3072) : (Int32.ofNat L - 6).toInt = (L : Int) - 6 := i32_sub (show (Int32.ofNat L).toInt = (L : Int) from nI_toInt (by omega)) (show (6 : Int32).toInt = 6 by decide) (by omega) (by omega)
section LAWX
variable {p : Program} {l : Launch} {e : Env} {s : State} {m : MethodId} {args : Array Value} {below : List Frame} {meth : Method} {c : Code} {H : Heap} {locs : List Loc} {cells slots : Nat} {Q : State → Prop} {ls : Array Slot} {D : va_G} {a : Nat → ClassId} {A : Nat → Prop} {w : va_W} {q8 q9 : Nat} {adK adV : Nat → Nat} {b L : Nat} {xs : Nat → Int32}
set_option maxHeartbeats 4000000 in
set_option maxRecDepth 100000 in
theorem law_loop (C : Cx p s m #[Value.ref b] meth c ML_law) (hX : va_X b L xs s s.heap) (hbl : b < s.heap.size) (hAi : ∀ q, A q → s.heap.size ≤ q) (hK : KK D a s) (hV : VV adK adV A s s.heap) (hA : ∀ q, s.heap.size ≤ q → A q) (hL : L ≤ 3072) : ∀ (k n : Nat), L < 6 * n + 6 * k + 6 → 6 * n ≤ L → ∀ (cells slots : Nat), cells ≤ 61 + 13 * n → slots ≤ 10808 + 441 * n → ∀ (w : va_W) (H : Heap) (locs : List Loc) (ls : Array Slot), Gd a q8 q9 (JN n) w → va_P D classes w H → va_D A w → va_S A s.heap H locs → lv_has ls 4 [(3, .int (nI (6 * n))), (2, .ref q9), (1, .ref q8), (0, .ref b)] → W p l e room_1 s m #[Value.ref b] below meth c H locs cells slots (lw_Z below #[Value.ref b] s) (F0 m 18 ls []) := by
  obtain ⟨hx, hb, hml, hown, hts, hr, hlocks, hnm⟩ := id C
  have hb : c.code = cL_law := hb
  have hbA : ¬ A b := fun q => Nat.not_le.mpr hbl (hAi b q)
  intro k
  induction k with
  | zero =>
    intro n h1 h2 cells slots hc hs w H locs ls hG hP hD hS hl
    refine lv_iload_n hx hb dL_law_18 rfl (lv_at hl 0 rfl) ?_
    refine lv_aload_n hx hb dL_law_19 rfl (lv_at hl 3 rfl) ?_
    refine va_slen hx hb hX hbl hbA hS dL_law_20 ?_
    refine lv_bipush (v := 6) hx hb dL_law_21 (by decide) ?_
    refine lv_isub hx hb dL_law_23 ?_
    refine lv_icmp_gt (tgt := 931) hx hb dL_law_24 (by decide) (fun c9 => ?_) (fun c9 => absurd ((i32_lt _ _).2 (by rw [len_sub hL, nI_toInt (by omega)]; omega)) c9)
    refine lv_iconst (v := 1) hx hb dL_law_931 (by decide) ?_
    refine va_forget (fun q hq => hAi _ (hS.2.2 q hq)) ?_
    refine W.widen (k := 600000) (n := 7302250) (by omega) (by omega) ?_
    exact lw_ret hx hb hr hlocks dL_law_932
  | succ k ih =>
    intro n h1 h2 cells slots hc hs w H locs ls hG hP hD hS hl
    rcases Nat.lt_or_ge L (6 * n + 6) with h3 | h3
    · refine lv_iload_n hx hb dL_law_18 rfl (lv_at hl 0 rfl) ?_
      refine lv_aload_n hx hb dL_law_19 rfl (lv_at hl 3 rfl) ?_
      refine va_slen hx hb hX hbl hbA hS dL_law_20 ?_
      refine lv_bipush (v := 6) hx hb dL_law_21 (by decide) ?_
      refine lv_isub hx hb dL_law_23 ?_
      refine lv_icmp_gt (tgt := 931) hx hb dL_law_24 (by decide) (fun c9 => ?_) (fun c9 => absurd ((i32_lt _ _).2 (by rw [len_sub hL, nI_toInt (by omega)]; omega)) c9)
      refine lv_iconst (v := 1) hx hb dL_law_931 (by decide) ?_
      refine va_forget (fun q hq => hAi _ (hS.2.2 q hq)) ?_
      refine W.widen (k := 600000) (n := 7302250) (by omega) (by omega) ?_
      exact lw_ret hx hb hr hlocks dL_law_932
    · refine lv_iload_n hx hb dL_law_18 rfl (lv_at hl 0 rfl) ?_
      refine lv_aload_n hx hb dL_law_19 rfl (lv_at hl 3 rfl) ?_
      refine va_slen hx hb hX hbl hbA hS dL_law_20 ?_
      refine lv_bipush (v := 6) hx hb dL_law_21 (by decide) ?_
      refine lv_isub hx hb dL_law_23 ?_
      refine lv_icmp_gt (tgt := 931) hx hb dL_law_24 (by decide) (fun c9 => absurd ((i32_lt _ _).1 c9) (by rw [len_sub hL, nI_toInt (by omega)]; omega)) (fun c9 => ?_)
      have T : ∀ (w1 : va_W) (H1 : Heap) (locs1 : List Loc), Gd a q8 q9 (JN (n + 1)) w1 → va_P D classes w1 H1 → va_D A w1 → va_S A s.heap H1 locs1 → W p l e room_1 s m #[Value.ref b] below meth c H1 locs1 (cells + 13) (slots + 441) (lw_Z below #[Value.ref b] s) (F0 m 925 ls []) := by
        intro w H locs hG hP hD hS
        refine lv_iinc (v := nI (6 * (n + 1))) (lv' := [(3, .int (nI (6 * (n + 1)))), (2, .ref q9), (1, .ref q8), (0, .ref b)]) hx hb dL_law_925 hl (k := 0) rfl (nI_6 n) (by decide) rfl (fun ls hl => ?_)
        refine lv_goto (tgt := 18) hx hb dL_law_928 (by decide) ?_
        exact ih (n + 1) (by omega) (by omega) (cells + 13) (slots + 441) (by omega) (by omega) w H locs ls hG hP hD hS hl
      have hf : cells + 13 ≤ 600000 ∧ slots + 441 ≤ 7302250 := ⟨by omega, by omega⟩
      refine lv_aload_n hx hb dL_law_27 rfl (lv_at hl 3 rfl) ?_
      refine lv_iload_n hx hb dL_law_28 rfl (lv_at hl 0 rfl) ?_
      refine sld hx hb hX hbl hbA hS (6 * n) (ix_s0 h3 hL) dL_law_29 ?_
      refine lv_bipush (v := 31) hx hb dL_law_30 (by decide) ?_
      refine lv_iand hx hb dL_law_32 ?_
      refine lv_topi (fun z ez => ?_)
      by_cases g0 : z = 0
      · refine lv_tableIn (off := 127) (tgt := 160) hx hb dL_law_33 (by rw [g0]; decide) (by rw [g0]; decide) (by rw [g0]; decide) (by decide) ?_
        exact law_feed C hX hbl hbA hK hV hA h3 hL hG hP hD hS hf hl T
      by_cases g1 : z = 1
      · refine lv_tableIn (off := 190) (tgt := 223) hx hb dL_law_33 (by rw [g1]; decide) (by rw [g1]; decide) (by rw [g1]; decide) (by decide) ?_
        exact law_end C hX hbl hbA hK hV hA h3 hL hG hP hD hS hf hl T
      by_cases g2 : z = 2
      · refine lv_tableIn (off := 213) (tgt := 246) hx hb dL_law_33 (by rw [g2]; decide) (by rw [g2]; decide) (by rw [g2]; decide) (by decide) ?_
        exact law_work C hX hbl hbA hK hV hA h3 hL hG hP hD hS hf hl T
      by_cases g3 : z = 3
      · refine lv_tableIn (off := 226) (tgt := 259) hx hb dL_law_33 (by rw [g3]; decide) (by rw [g3]; decide) (by rw [g3]; decide) (by decide) ?_
        exact law_rule C hX hbl hbA hK hV hA h3 hL hG hP hD hS hf hl T
      by_cases g4 : z = 4
      · refine lv_tableIn (off := 239) (tgt := 272) hx hb dL_law_33 (by rw [g4]; decide) (by rw [g4]; decide) (by rw [g4]; decide) (by decide) ?_
        exact law_kind C hX hbl hbA hK hV hA h3 hL hG hP hD hS hf hl T
      by_cases g5 : z = 5
      · refine lv_tableIn (off := 272) (tgt := 305) hx hb dL_law_33 (by rw [g5]; decide) (by rw [g5]; decide) (by rw [g5]; decide) (by decide) ?_
        exact law_fault C hX hbl hbA hK hV hA h3 hL hG hP hD hS hf hl T
      by_cases g6 : z = 6
      · refine lv_tableIn (off := 305) (tgt := 338) hx hb dL_law_33 (by rw [g6]; decide) (by rw [g6]; decide) (by rw [g6]; decide) (by decide) ?_
        exact law_look C hX hbl hbA hK hV hA h3 hL hG hP hD hS hf hl T
      by_cases g7 : z = 7
      · refine lv_tableIn (off := 328) (tgt := 361) hx hb dL_law_33 (by rw [g7]; decide) (by rw [g7]; decide) (by rw [g7]; decide) (by decide) ?_
        exact law_fine C hX hbl hbA hK hV hA h3 hL hG hP hD hS hf hl T
      by_cases g8 : z = 8
      · refine lv_tableIn (off := 351) (tgt := 384) hx hb dL_law_33 (by rw [g8]; decide) (by rw [g8]; decide) (by rw [g8]; decide) (by decide) ?_
        exact law_mend C hX hbl hbA hK hV hA h3 hL hG hP hD hS hf hl T
      by_cases g9 : z = 9
      · refine lv_tableIn (off := 374) (tgt := 407) hx hb dL_law_33 (by rw [g9]; decide) (by rw [g9]; decide) (by rw [g9]; decide) (by decide) ?_
        exact law_dawn C hX hbl hbA hK hV hA h3 hL hG hP hD hS hf hl T
      by_cases g10 : z = 10
      · refine lv_tableIn (off := 387) (tgt := 420) hx hb dL_law_33 (by rw [g10]; decide) (by rw [g10]; decide) (by rw [g10]; decide) (by decide) ?_
        exact law_day C hX hbl hbA hK hV hA h3 hL hG hP hD hS hf hl T
      by_cases g11 : z = 11
      · refine lv_tableIn (off := 410) (tgt := 443) hx hb dL_law_33 (by rw [g11]; decide) (by rw [g11]; decide) (by rw [g11]; decide) (by decide) ?_
        exact law_would C hX hbl hbA hK hV hA h3 hL hG hP hD hS hf hl T
      by_cases g12 : z = 12
      · refine lv_tableIn (off := 443) (tgt := 476) hx hb dL_law_33 (by rw [g12]; decide) (by rw [g12]; decide) (by rw [g12]; decide) (by decide) ?_
        exact law_row C hX hbl hbA hK hV hA h3 hL hG hP hD hS hf hl T
      by_cases g13 : z = 13
      · refine lv_tableIn (off := 466) (tgt := 499) hx hb dL_law_33 (by rw [g13]; decide) (by rw [g13]; decide) (by rw [g13]; decide) (by decide) ?_
        exact law_worth C hX hbl hbA hK hV hA h3 hL hG hP hD hS hf hl T
      by_cases g14 : z = 14
      · refine lv_tableIn (off := 489) (tgt := 522) hx hb dL_law_33 (by rw [g14]; decide) (by rw [g14]; decide) (by rw [g14]; decide) (by decide) ?_
        exact law_seen C hX hbl hbA hK hV hA h3 hL hG hP hD hS hf hl T
      by_cases g15 : z = 15
      · refine lv_tableIn (off := 522) (tgt := 555) hx hb dL_law_33 (by rw [g15]; decide) (by rw [g15]; decide) (by rw [g15]; decide) (by decide) ?_
        exact law_best C hX hbl hbA hK hV hA h3 hL hG hP hD hS hf hl T
      by_cases g16 : z = 16
      · refine lv_tableIn (off := 555) (tgt := 588) hx hb dL_law_33 (by rw [g16]; decide) (by rw [g16]; decide) (by rw [g16]; decide) (by decide) ?_
        exact law_master C hX hbl hbA hK hV hA h3 hL hG hP hD hS hf hl T
      by_cases g17 : z = 17
      · refine lv_tableIn (off := 589) (tgt := 622) hx hb dL_law_33 (by rw [g17]; decide) (by rw [g17]; decide) (by rw [g17]; decide) (by decide) ?_
        exact law_game C hX hbl hbA hK hV hA h3 hL hG hP hD hS hf hl T
      by_cases g18 : z = 18
      · refine lv_tableIn (off := 622) (tgt := 655) hx hb dL_law_33 (by rw [g18]; decide) (by rw [g18]; decide) (by rw [g18]; decide) (by decide) ?_
        exact law_rests C hX hbl hbA hK hV hA h3 hL hG hP hD hS hf hl T
      by_cases g19 : z = 19
      · refine lv_tableIn (off := 635) (tgt := 668) hx hb dL_law_33 (by rw [g19]; decide) (by rw [g19]; decide) (by rw [g19]; decide) (by decide) ?_
        exact law_mixed C hX hbl hbA hK hV hA h3 hL hG hP hD hS hf hl T
      by_cases g20 : z = 20
      · refine lv_tableIn (off := 668) (tgt := 701) hx hb dL_law_33 (by rw [g20]; decide) (by rw [g20]; decide) (by rw [g20]; decide) (by decide) ?_
        exact law_checks C hX hbl hbA hK hV hA h3 hL hG hP hD hS hf hl T
      by_cases g21 : z = 21
      · refine lv_tableIn (off := 701) (tgt := 734) hx hb dL_law_33 (by rw [g21]; decide) (by rw [g21]; decide) (by rw [g21]; decide) (by decide) ?_
        exact law_fits C hX hbl hbA hK hV hA h3 hL hG hP hD hS hf hl T
      by_cases g22 : z = 22
      · refine lv_tableIn (off := 734) (tgt := 767) hx hb dL_law_33 (by rw [g22]; decide) (by rw [g22]; decide) (by rw [g22]; decide) (by decide) ?_
        exact law_seed C hX hbl hbA hK hV hA h3 hL hG hP hD hS hf hl T
      by_cases g23 : z = 23
      · refine lv_tableIn (off := 757) (tgt := 790) hx hb dL_law_33 (by rw [g23]; decide) (by rw [g23]; decide) (by rw [g23]; decide) (by decide) ?_
        exact law_weeks C hX hbl hbA hK hV hA h3 hL hG hP hD hS hf hl T
      by_cases g24 : z = 24
      · refine lv_tableIn (off := 800) (tgt := 833) hx hb dL_law_33 (by rw [g24]; decide) (by rw [g24]; decide) (by rw [g24]; decide) (by decide) ?_
        exact law_count C hX hbl hbA hK hV hA h3 hL hG hP hD hS hf hl T
      by_cases g25 : z = 25
      · refine lv_tableIn (off := 823) (tgt := 856) hx hb dL_law_33 (by rw [g25]; decide) (by rw [g25]; decide) (by rw [g25]; decide) (by decide) ?_
        exact law_coins C hX hbl hbA hK hV hA h3 hL hG hP hD hS hf hl T
      by_cases g26 : z = 26
      · refine lv_tableIn (off := 846) (tgt := 879) hx hb dL_law_33 (by rw [g26]; decide) (by rw [g26]; decide) (by rw [g26]; decide) (by decide) ?_
        exact law_image C hX hbl hbA hK hV hA h3 hL hG hP hD hS hf hl T
      by_cases g27 : z = 27
      · refine lv_tableIn (off := 869) (tgt := 902) hx hb dL_law_33 (by rw [g27]; decide) (by rw [g27]; decide) (by rw [g27]; decide) (by decide) ?_
        exact law_back C hX hbl hbA hK hV hA h3 hL hG hP hD hS hf hl T
      refine lv_tableOut (tgt := 925) hx hb dL_law_33 (by have := lv_neT g0 (show (0 : Int32).toInt = 0 by decide); have := lv_neT g1 (show (1 : Int32).toInt = 1 by decide); have := lv_neT g2 (show (2 : Int32).toInt = 2 by decide); have := lv_neT g3 (show (3 : Int32).toInt = 3 by decide); have := lv_neT g4 (show (4 : Int32).toInt = 4 by decide); have := lv_neT g5 (show (5 : Int32).toInt = 5 by decide); have := lv_neT g6 (show (6 : Int32).toInt = 6 by decide); have := lv_neT g7 (show (7 : Int32).toInt = 7 by decide); have := lv_neT g8 (show (8 : Int32).toInt = 8 by decide); have := lv_neT g9 (show (9 : Int32).toInt = 9 by decide); have := lv_neT g10 (show (10 : Int32).toInt = 10 by decide); have := lv_neT g11 (show (11 : Int32).toInt = 11 by decide); have := lv_neT g12 (show (12 : Int32).toInt = 12 by decide); have := lv_neT g13 (show (13 : Int32).toInt = 13 by decide); have := lv_neT g14 (show (14 : Int32).toInt = 14 by decide); have := lv_neT g15 (show (15 : Int32).toInt = 15 by decide); have := lv_neT g16 (show (16 : Int32).toInt = 16 by decide); have := lv_neT g17 (show (17 : Int32).toInt = 17 by decide); have := lv_neT g18 (show (18 : Int32).toInt = 18 by decide); have := lv_neT g19 (show (19 : Int32).toInt = 19 by decide); have := lv_neT g20 (show (20 : Int32).toInt = 20 by decide); have := lv_neT g21 (show (21 : Int32).toInt = 21 by decide); have := lv_neT g22 (show (22 : Int32).toInt = 22 by decide); have := lv_neT g23 (show (23 : Int32).toInt = 23 by decide); have := lv_neT g24 (show (24 : Int32).toInt = 24 by decide); have := lv_neT g25 (show (25 : Int32).toInt = 25 by decide); have := lv_neT g26 (show (26 : Int32).toInt = 26 by decide); have := lv_neT g27 (show (27 : Int32).toInt = 27 by decide); omega) (by decide) ?_
      refine W.widen (k := cells + 13) (n := slots + 441) (by omega) (by omega) ?_
      exact T w H locs (gd_imp (fun B2 B6 Q5 z8 z5 zd z1 z9 wk ru im => jn_up) hG) hP hD hS
end LAWX

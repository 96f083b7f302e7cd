section LAWX
variable {p : Program} {l : Launch} {e : Env} {s : State} {m : MethodId} {args : Array Value} {below : List Frame} {meth : Method} {c : Code} {H : Heap} {locs : List Loc} {cells slots : Nat} {Q : State → Prop} {ls : Array Slot} {D : va_G} {a : Nat → ClassId} {A : Nat → Prop} {w : va_W} {q8 q9 : Nat} {adK adV : Nat → Nat}
set_option maxHeartbeats 4000000 in
set_option maxRecDepth 100000 in
theorem law_seen {b L : Nat} {xs : Nat → Int32} (C : Cx p s m args meth c ML_law) (hX : va_X b L xs s s.heap) (hbl : b < s.heap.size) (hbA : ¬ A b) (hK : KK D a s) (hV : VV adK adV A s s.heap) (hA : ∀ q, s.heap.size ≤ q → A q) {n : Nat} (hn : 6 * n + 6 ≤ L) (hL : L ≤ 3072) (hG : Gd a q8 q9 (JN n) w) (hP : va_P D classes w H) (hD : va_D A w) (hS : va_S A s.heap H locs) (hf : cells + 13 ≤ 600000 ∧ slots + 441 ≤ 7302250) (hl : lv_has ls 4 [(3, .int (nI (6 * n))), (2, .ref q9), (1, .ref q8), (0, .ref b)])
    (T : ∀ (w1 : va_W) (H1 : Heap) (locs1 : List Loc), Gd a q8 q9 (JN (n + 1)) w1 → va_P D classes w1 H1 → va_D A w1 → va_S A s.heap H1 locs1 → W p l e room_1 s m args below meth c H1 locs1 (cells + 13) (slots + 441) Q (F0 m 925 ls [])) : W p l e room_1 s m args below meth c H locs cells slots Q (F0 m 522 ls []) := by
  obtain ⟨hx, hb, hml, hown, hts, hr, hlocks, hnm⟩ := id C
  have hb : c.code = cL_law := hb
  obtain ⟨x1, ex1⟩ : ∃ z : Int32, z = xs (6 * n + 1) := ⟨_, rfl⟩
  obtain ⟨x2, ex2⟩ : ∃ z : Int32, z = xs (6 * n + 2) := ⟨_, rfl⟩
  refine lv_aload_n hx hb dL_law_522 rfl (lv_at hl 2 rfl) ?_
  refine lv_aload_n hx hb dL_law_523 rfl (lv_at hl 3 rfl) ?_
  refine lv_iload_n hx hb dL_law_524 rfl (lv_at hl 0 rfl) ?_
  refine lv_iconst (v := 1) hx hb dL_law_525 (by decide) ?_
  refine lv_iadd hx hb dL_law_526 ?_
  refine sldE (v := x1) hx hb hX hbl hbA hS (6 * n + 1) (ix_s1 hn hL) ex1 dL_law_527 ?_
  refine lv_aload_n hx hb dL_law_528 rfl (lv_at hl 3 rfl) ?_
  refine lv_iload_n hx hb dL_law_529 rfl (lv_at hl 0 rfl) ?_
  refine lv_iconst (v := 2) hx hb dL_law_530 (by decide) ?_
  refine lv_iadd hx hb dL_law_531 ?_
  refine sldE (v := x2) hx hb hX hbl hbA hS (6 * n + 2) (ix_s2 hn hL) ex2 dL_law_532 ?_
  refine lx_seen C hK hA hG hP hD hS hf hl.1 (fun r8 w H locs hG hP hD hS => ?_)
  refine lv_pop2_2 hx hb dL_law_536 rfl ?_
  refine lv_aload_n hx hb dL_law_537 rfl (lv_at hl 1 rfl) ?_
  refine lv_aload_n hx hb dL_law_538 rfl (lv_at hl 3 rfl) ?_
  refine lv_iload_n hx hb dL_law_539 rfl (lv_at hl 0 rfl) ?_
  refine lv_iconst (v := 1) hx hb dL_law_540 (by decide) ?_
  refine lv_iadd hx hb dL_law_541 ?_
  refine sldE (v := x1) hx hb hX hbl hbA hS (6 * n + 1) (ix_s1 hn hL) ex1 dL_law_542 ?_
  refine lv_aload_n hx hb dL_law_543 rfl (lv_at hl 3 rfl) ?_
  refine lv_iload_n hx hb dL_law_544 rfl (lv_at hl 0 rfl) ?_
  refine lv_iconst (v := 2) hx hb dL_law_545 (by decide) ?_
  refine lv_iadd hx hb dL_law_546 ?_
  refine sldE (v := x2) hx hb hX hbl hbA hS (6 * n + 2) (ix_s2 hn hL) ex2 dL_law_547 ?_
  refine lm_seen C hK hA hG hP hD hS hf hl.1 (fun r9 w H locs hG hP hD hS => ?_)
  refine lv_pop2_2 hx hb dL_law_551 rfl ?_
  refine lv_goto (tgt := 925) hx hb dL_law_552 (by decide) ?_
  exact T w H locs (gd_imp (fun B2 B6 Q5 z8 z5 zd z1 z9 wk ru im => sn_seen (by omega)) hG) hP hD hS

set_option maxHeartbeats 4000000 in
set_option maxRecDepth 100000 in
theorem law_best {b L : Nat} {xs : Nat → Int32} (C : Cx p s m args meth c ML_law) (hX : va_X b L xs s s.heap) (hbl : b < s.heap.size) (hbA : ¬ A b) (hK : KK D a s) (hV : VV adK adV A s s.heap) (hA : ∀ q, s.heap.size ≤ q → A q) {n : Nat} (hn : 6 * n + 6 ≤ L) (hL : L ≤ 3072) (hG : Gd a q8 q9 (JN n) w) (hP : va_P D classes w H) (hD : va_D A w) (hS : va_S A s.heap H locs) (hf : cells + 13 ≤ 600000 ∧ slots + 441 ≤ 7302250) (hl : lv_has ls 4 [(3, .int (nI (6 * n))), (2, .ref q9), (1, .ref q8), (0, .ref b)])
    (T : ∀ (w1 : va_W) (H1 : Heap) (locs1 : List Loc), Gd a q8 q9 (JN (n + 1)) w1 → va_P D classes w1 H1 → va_D A w1 → va_S A s.heap H1 locs1 → W p l e room_1 s m args below meth c H1 locs1 (cells + 13) (slots + 441) Q (F0 m 925 ls [])) : W p l e room_1 s m args below meth c H locs cells slots Q (F0 m 555 ls []) := by
  obtain ⟨hx, hb, hml, hown, hts, hr, hlocks, hnm⟩ := id C
  have hb : c.code = cL_law := hb
  obtain ⟨x1, ex1⟩ : ∃ z : Int32, z = xs (6 * n + 1) := ⟨_, rfl⟩
  obtain ⟨x2, ex2⟩ : ∃ z : Int32, z = xs (6 * n + 2) := ⟨_, rfl⟩
  refine lv_aload_n hx hb dL_law_555 rfl (lv_at hl 2 rfl) ?_
  refine lv_aload_n hx hb dL_law_556 rfl (lv_at hl 3 rfl) ?_
  refine lv_iload_n hx hb dL_law_557 rfl (lv_at hl 0 rfl) ?_
  refine lv_iconst (v := 1) hx hb dL_law_558 (by decide) ?_
  refine lv_iadd hx hb dL_law_559 ?_
  refine sldE (v := x1) hx hb hX hbl hbA hS (6 * n + 1) (ix_s1 hn hL) ex1 dL_law_560 ?_
  refine lv_aload_n hx hb dL_law_561 rfl (lv_at hl 3 rfl) ?_
  refine lv_iload_n hx hb dL_law_562 rfl (lv_at hl 0 rfl) ?_
  refine lv_iconst (v := 2) hx hb dL_law_563 (by decide) ?_
  refine lv_iadd hx hb dL_law_564 ?_
  refine sldE (v := x2) hx hb hX hbl hbA hS (6 * n + 2) (ix_s2 hn hL) ex2 dL_law_565 ?_
  refine lx_best C hK hA hG hP hD hS hf hl.1 (fun r8 w H locs hG hP hD hS => ?_)
  refine lv_pop2_2 hx hb dL_law_569 rfl ?_
  refine lv_aload_n hx hb dL_law_570 rfl (lv_at hl 1 rfl) ?_
  refine lv_aload_n hx hb dL_law_571 rfl (lv_at hl 3 rfl) ?_
  refine lv_iload_n hx hb dL_law_572 rfl (lv_at hl 0 rfl) ?_
  refine lv_iconst (v := 1) hx hb dL_law_573 (by decide) ?_
  refine lv_iadd hx hb dL_law_574 ?_
  refine sldE (v := x1) hx hb hX hbl hbA hS (6 * n + 1) (ix_s1 hn hL) ex1 dL_law_575 ?_
  refine lv_aload_n hx hb dL_law_576 rfl (lv_at hl 3 rfl) ?_
  refine lv_iload_n hx hb dL_law_577 rfl (lv_at hl 0 rfl) ?_
  refine lv_iconst (v := 2) hx hb dL_law_578 (by decide) ?_
  refine lv_iadd hx hb dL_law_579 ?_
  refine sldE (v := x2) hx hb hX hbl hbA hS (6 * n + 2) (ix_s2 hn hL) ex2 dL_law_580 ?_
  refine lm_best C hK hA hG hP hD hS hf hl.1 (fun r9 w H locs hG hP hD hS => ?_)
  refine lv_pop2_2 hx hb dL_law_584 rfl ?_
  refine lv_goto (tgt := 925) hx hb dL_law_585 (by decide) ?_
  exact T w H locs (gd_imp (fun B2 B6 Q5 z8 z5 zd z1 z9 wk ru im => sn_best (by omega)) hG) hP hD hS

set_option maxHeartbeats 4000000 in
set_option maxRecDepth 100000 in
theorem law_master {b L : Nat} {xs : Nat → Int32} (C : Cx p s m args meth c ML_law) (hX : va_X b L xs s s.heap) (hbl : b < s.heap.size) (hbA : ¬ A b) (hK : KK D a s) (hV : VV adK adV A s s.heap) (hA : ∀ q, s.heap.size ≤ q → A q) {n : Nat} (hn : 6 * n + 6 ≤ L) (hL : L ≤ 3072) (hG : Gd a q8 q9 (JN n) w) (hP : va_P D classes w H) (hD : va_D A w) (hS : va_S A s.heap H locs) (hf : cells + 13 ≤ 600000 ∧ slots + 441 ≤ 7302250) (hl : lv_has ls 4 [(3, .int (nI (6 * n))), (2, .ref q9), (1, .ref q8), (0, .ref b)])
    (T : ∀ (w1 : va_W) (H1 : Heap) (locs1 : List Loc), Gd a q8 q9 (JN (n + 1)) w1 → va_P D classes w1 H1 → va_D A w1 → va_S A s.heap H1 locs1 → W p l e room_1 s m args below meth c H1 locs1 (cells + 13) (slots + 441) Q (F0 m 925 ls [])) : W p l e room_1 s m args below meth c H locs cells slots Q (F0 m 588 ls []) := by
  obtain ⟨hx, hb, hml, hown, hts, hr, hlocks, hnm⟩ := id C
  have hb : c.code = cL_law := hb
  obtain ⟨x1, ex1⟩ : ∃ z : Int32, z = xs (6 * n + 1) := ⟨_, rfl⟩
  obtain ⟨x2, ex2⟩ : ∃ z : Int32, z = xs (6 * n + 2) := ⟨_, rfl⟩
  refine lv_aload_n hx hb dL_law_588 rfl (lv_at hl 2 rfl) ?_
  refine lv_aload_n hx hb dL_law_589 rfl (lv_at hl 3 rfl) ?_
  refine lv_iload_n hx hb dL_law_590 rfl (lv_at hl 0 rfl) ?_
  refine lv_iconst (v := 1) hx hb dL_law_591 (by decide) ?_
  refine lv_iadd hx hb dL_law_592 ?_
  refine sldE (v := x1) hx hb hX hbl hbA hS (6 * n + 1) (ix_s1 hn hL) ex1 dL_law_593 ?_
  refine lv_aload_n hx hb dL_law_594 rfl (lv_at hl 3 rfl) ?_
  refine lv_iload_n hx hb dL_law_595 rfl (lv_at hl 0 rfl) ?_
  refine lv_iconst (v := 2) hx hb dL_law_596 (by decide) ?_
  refine lv_iadd hx hb dL_law_597 ?_
  refine sldE (v := x2) hx hb hX hbl hbA hS (6 * n + 2) (ix_s2 hn hL) ex2 dL_law_598 ?_
  refine lx_master C hK hA hG hP hD hS hf hl.1 (fun r8 w H locs hG hP hD hS => ?_)
  refine lv_aload_n hx hb dL_law_602 rfl (lv_at hl 1 rfl) ?_
  refine lv_aload_n hx hb dL_law_603 rfl (lv_at hl 3 rfl) ?_
  refine lv_iload_n hx hb dL_law_604 rfl (lv_at hl 0 rfl) ?_
  refine lv_iconst (v := 1) hx hb dL_law_605 (by decide) ?_
  refine lv_iadd hx hb dL_law_606 ?_
  refine sldE (v := x1) hx hb hX hbl hbA hS (6 * n + 1) (ix_s1 hn hL) ex1 dL_law_607 ?_
  refine lv_aload_n hx hb dL_law_608 rfl (lv_at hl 3 rfl) ?_
  refine lv_iload_n hx hb dL_law_609 rfl (lv_at hl 0 rfl) ?_
  refine lv_iconst (v := 2) hx hb dL_law_610 (by decide) ?_
  refine lv_iadd hx hb dL_law_611 ?_
  refine sldE (v := x2) hx hb hX hbl hbA hS (6 * n + 2) (ix_s2 hn hL) ex2 dL_law_612 ?_
  refine lm_master C hK hA hG hP hD hS hf hl.1 (fun r9 w H locs hG hP hD hS => ?_)
  refine W.lcmp hx hb dL_law_616 ?_
  refine lv_if_eq (tgt := 925) hx hb dL_law_617 (by decide) (fun c9 => ?_) (fun c9 => absurd ((lg_cmp_eq _ _).mpr (eq_master (show n ≤ 511 by omega) hG)) c9)
  exact T w H locs (gd_imp (fun B2 B6 Q5 z8 z5 zd z1 z9 wk ru im => sn_master (by omega)) hG) hP hD hS

set_option maxHeartbeats 4000000 in
set_option maxRecDepth 100000 in
theorem law_game {b L : Nat} {xs : Nat → Int32} (C : Cx p s m args meth c ML_law) (hX : va_X b L xs s s.heap) (hbl : b < s.heap.size) (hbA : ¬ A b) (hK : KK D a s) (hV : VV adK adV A s s.heap) (hA : ∀ q, s.heap.size ≤ q → A q) {n : Nat} (hn : 6 * n + 6 ≤ L) (hL : L ≤ 3072) (hG : Gd a q8 q9 (JN n) w) (hP : va_P D classes w H) (hD : va_D A w) (hS : va_S A s.heap H locs) (hf : cells + 13 ≤ 600000 ∧ slots + 441 ≤ 7302250) (hl : lv_has ls 4 [(3, .int (nI (6 * n))), (2, .ref q9), (1, .ref q8), (0, .ref b)])
    (T : ∀ (w1 : va_W) (H1 : Heap) (locs1 : List Loc), Gd a q8 q9 (JN (n + 1)) w1 → va_P D classes w1 H1 → va_D A w1 → va_S A s.heap H1 locs1 → W p l e room_1 s m args below meth c H1 locs1 (cells + 13) (slots + 441) Q (F0 m 925 ls [])) : W p l e room_1 s m args below meth c H locs cells slots Q (F0 m 622 ls []) := by
  obtain ⟨hx, hb, hml, hown, hts, hr, hlocks, hnm⟩ := id C
  have hb : c.code = cL_law := hb
  obtain ⟨x1, ex1⟩ : ∃ z : Int32, z = xs (6 * n + 1) := ⟨_, rfl⟩
  obtain ⟨x2, ex2⟩ : ∃ z : Int32, z = xs (6 * n + 2) := ⟨_, rfl⟩
  refine lv_aload_n hx hb dL_law_622 rfl (lv_at hl 2 rfl) ?_
  refine lv_aload_n hx hb dL_law_623 rfl (lv_at hl 3 rfl) ?_
  refine lv_iload_n hx hb dL_law_624 rfl (lv_at hl 0 rfl) ?_
  refine lv_iconst (v := 1) hx hb dL_law_625 (by decide) ?_
  refine lv_iadd hx hb dL_law_626 ?_
  refine sldE (v := x1) hx hb hX hbl hbA hS (6 * n + 1) (ix_s1 hn hL) ex1 dL_law_627 ?_
  refine lv_aload_n hx hb dL_law_628 rfl (lv_at hl 3 rfl) ?_
  refine lv_iload_n hx hb dL_law_629 rfl (lv_at hl 0 rfl) ?_
  refine lv_iconst (v := 2) hx hb dL_law_630 (by decide) ?_
  refine lv_iadd hx hb dL_law_631 ?_
  refine sldE (v := x2) hx hb hX hbl hbA hS (6 * n + 2) (ix_s2 hn hL) ex2 dL_law_632 ?_
  refine lx_game C hK hA hG hP hD hS hf hl.1 (fun r8 w H locs hG hP hD hS => ?_)
  refine lv_pop hx hb dL_law_636 rfl ?_
  refine lv_aload_n hx hb dL_law_637 rfl (lv_at hl 1 rfl) ?_
  refine lv_aload_n hx hb dL_law_638 rfl (lv_at hl 3 rfl) ?_
  refine lv_iload_n hx hb dL_law_639 rfl (lv_at hl 0 rfl) ?_
  refine lv_iconst (v := 1) hx hb dL_law_640 (by decide) ?_
  refine lv_iadd hx hb dL_law_641 ?_
  refine sldE (v := x1) hx hb hX hbl hbA hS (6 * n + 1) (ix_s1 hn hL) ex1 dL_law_642 ?_
  refine lv_aload_n hx hb dL_law_643 rfl (lv_at hl 3 rfl) ?_
  refine lv_iload_n hx hb dL_law_644 rfl (lv_at hl 0 rfl) ?_
  refine lv_iconst (v := 2) hx hb dL_law_645 (by decide) ?_
  refine lv_iadd hx hb dL_law_646 ?_
  refine sldE (v := x2) hx hb hX hbl hbA hS (6 * n + 2) (ix_s2 hn hL) ex2 dL_law_647 ?_
  refine lm_game C hK hA hG hP hD hS hf hl.1 (fun r9 w H locs hG hP hD hS => ?_)
  refine lv_pop hx hb dL_law_651 rfl ?_
  refine lv_goto (tgt := 925) hx hb dL_law_652 (by decide) ?_
  exact T w H locs (gd_imp (fun B2 B6 Q5 z8 z5 zd z1 z9 wk ru im => sn_game (by omega)) hG) hP hD hS

set_option maxHeartbeats 4000000 in
set_option maxRecDepth 100000 in
theorem law_rests {b L : Nat} {xs : Nat → Int32} (C : Cx p s m args meth c ML_law) (hX : va_X b L xs s s.heap) (hbl : b < s.heap.size) (hbA : ¬ A b) (hK : KK D a s) (hV : VV adK adV A s s.heap) (hA : ∀ q, s.heap.size ≤ q → A q) {n : Nat} (hn : 6 * n + 6 ≤ L) (hL : L ≤ 3072) (hG : Gd a q8 q9 (JN n) w) (hP : va_P D classes w H) (hD : va_D A w) (hS : va_S A s.heap H locs) (hf : cells + 13 ≤ 600000 ∧ slots + 441 ≤ 7302250) (hl : lv_has ls 4 [(3, .int (nI (6 * n))), (2, .ref q9), (1, .ref q8), (0, .ref b)])
    (T : ∀ (w1 : va_W) (H1 : Heap) (locs1 : List Loc), Gd a q8 q9 (JN (n + 1)) w1 → va_P D classes w1 H1 → va_D A w1 → va_S A s.heap H1 locs1 → W p l e room_1 s m args below meth c H1 locs1 (cells + 13) (slots + 441) Q (F0 m 925 ls [])) : W p l e room_1 s m args below meth c H locs cells slots Q (F0 m 655 ls []) := by
  obtain ⟨hx, hb, hml, hown, hts, hr, hlocks, hnm⟩ := id C
  have hb : c.code = cL_law := hb
  refine lv_aload_n hx hb dL_law_655 rfl (lv_at hl 2 rfl) ?_
  refine lx_rests C hK hA hG hP hD hS hf hl.1 (fun r8 w H locs hG hP hD hS => ?_)
  refine lv_pop hx hb dL_law_659 rfl ?_
  refine lv_aload_n hx hb dL_law_660 rfl (lv_at hl 1 rfl) ?_
  refine lm_rests C hK hA hG hP hD hS hf hl.1 (fun r9 w H locs hG hP hD hS => ?_)
  refine lv_pop hx hb dL_law_664 rfl ?_
  refine lv_goto (tgt := 925) hx hb dL_law_665 (by decide) ?_
  exact T w H locs (gd_imp (fun B2 B6 Q5 z8 z5 zd z1 z9 wk ru im => sn_rests (by omega)) hG) hP hD hS

set_option maxHeartbeats 4000000 in
set_option maxRecDepth 100000 in
theorem law_mixed {b L : Nat} {xs : Nat → Int32} (C : Cx p s m args meth c ML_law) (hX : va_X b L xs s s.heap) (hbl : b < s.heap.size) (hbA : ¬ A b) (hK : KK D a s) (hV : VV adK adV A s s.heap) (hA : ∀ q, s.heap.size ≤ q → A q) {n : Nat} (hn : 6 * n + 6 ≤ L) (hL : L ≤ 3072) (hG : Gd a q8 q9 (JN n) w) (hP : va_P D classes w H) (hD : va_D A w) (hS : va_S A s.heap H locs) (hf : cells + 13 ≤ 600000 ∧ slots + 441 ≤ 7302250) (hl : lv_has ls 4 [(3, .int (nI (6 * n))), (2, .ref q9), (1, .ref q8), (0, .ref b)])
    (T : ∀ (w1 : va_W) (H1 : Heap) (locs1 : List Loc), Gd a q8 q9 (JN (n + 1)) w1 → va_P D classes w1 H1 → va_D A w1 → va_S A s.heap H1 locs1 → W p l e room_1 s m args below meth c H1 locs1 (cells + 13) (slots + 441) Q (F0 m 925 ls [])) : W p l e room_1 s m args below meth c H locs cells slots Q (F0 m 668 ls []) := by
  obtain ⟨hx, hb, hml, hown, hts, hr, hlocks, hnm⟩ := id C
  have hb : c.code = cL_law := hb
  obtain ⟨x1, ex1⟩ : ∃ z : Int32, z = xs (6 * n + 1) := ⟨_, rfl⟩
  obtain ⟨x2, ex2⟩ : ∃ z : Int32, z = xs (6 * n + 2) := ⟨_, rfl⟩
  refine lv_aload_n hx hb dL_law_668 rfl (lv_at hl 2 rfl) ?_
  refine lv_aload_n hx hb dL_law_669 rfl (lv_at hl 3 rfl) ?_
  refine lv_iload_n hx hb dL_law_670 rfl (lv_at hl 0 rfl) ?_
  refine lv_iconst (v := 1) hx hb dL_law_671 (by decide) ?_
  refine lv_iadd hx hb dL_law_672 ?_
  refine sldE (v := x1) hx hb hX hbl hbA hS (6 * n + 1) (ix_s1 hn hL) ex1 dL_law_673 ?_
  refine lv_aload_n hx hb dL_law_674 rfl (lv_at hl 3 rfl) ?_
  refine lv_iload_n hx hb dL_law_675 rfl (lv_at hl 0 rfl) ?_
  refine lv_iconst (v := 2) hx hb dL_law_676 (by decide) ?_
  refine lv_iadd hx hb dL_law_677 ?_
  refine sldE (v := x2) hx hb hX hbl hbA hS (6 * n + 2) (ix_s2 hn hL) ex2 dL_law_678 ?_
  refine lx_mixed C hK hA hG hP hD hS hf hl.1 (fun r8 w H locs hG hP hD hS => ?_)
  refine lv_pop hx hb dL_law_682 rfl ?_
  refine lv_aload_n hx hb dL_law_683 rfl (lv_at hl 1 rfl) ?_
  refine lv_aload_n hx hb dL_law_684 rfl (lv_at hl 3 rfl) ?_
  refine lv_iload_n hx hb dL_law_685 rfl (lv_at hl 0 rfl) ?_
  refine lv_iconst (v := 1) hx hb dL_law_686 (by decide) ?_
  refine lv_iadd hx hb dL_law_687 ?_
  refine sldE (v := x1) hx hb hX hbl hbA hS (6 * n + 1) (ix_s1 hn hL) ex1 dL_law_688 ?_
  refine lv_aload_n hx hb dL_law_689 rfl (lv_at hl 3 rfl) ?_
  refine lv_iload_n hx hb dL_law_690 rfl (lv_at hl 0 rfl) ?_
  refine lv_iconst (v := 2) hx hb dL_law_691 (by decide) ?_
  refine lv_iadd hx hb dL_law_692 ?_
  refine sldE (v := x2) hx hb hX hbl hbA hS (6 * n + 2) (ix_s2 hn hL) ex2 dL_law_693 ?_
  refine lm_mixed C hK hA hG hP hD hS hf hl.1 (fun r9 w H locs hG hP hD hS => ?_)
  refine lv_pop hx hb dL_law_697 rfl ?_
  refine lv_goto (tgt := 925) hx hb dL_law_698 (by decide) ?_
  exact T w H locs (gd_imp (fun B2 B6 Q5 z8 z5 zd z1 z9 wk ru im => sn_mixed (by omega)) hG) hP hD hS

set_option maxHeartbeats 4000000 in
set_option maxRecDepth 100000 in
theorem law_checks {b L : Nat} {xs : Nat → Int32} (C : Cx p s m args meth c ML_law) (hX : va_X b L xs s s.heap) (hbl : b < s.heap.size) (hbA : ¬ A b) (hK : KK D a s) (hV : VV adK adV A s s.heap) (hA : ∀ q, s.heap.size ≤ q → A q) {n : Nat} (hn : 6 * n + 6 ≤ L) (hL : L ≤ 3072) (hG : Gd a q8 q9 (JN n) w) (hP : va_P D classes w H) (hD : va_D A w) (hS : va_S A s.heap H locs) (hf : cells + 13 ≤ 600000 ∧ slots + 441 ≤ 7302250) (hl : lv_has ls 4 [(3, .int (nI (6 * n))), (2, .ref q9), (1, .ref q8), (0, .ref b)])
    (T : ∀ (w1 : va_W) (H1 : Heap) (locs1 : List Loc), Gd a q8 q9 (JN (n + 1)) w1 → va_P D classes w1 H1 → va_D A w1 → va_S A s.heap H1 locs1 → W p l e room_1 s m args below meth c H1 locs1 (cells + 13) (slots + 441) Q (F0 m 925 ls [])) : W p l e room_1 s m args below meth c H locs cells slots Q (F0 m 701 ls []) := by
  obtain ⟨hx, hb, hml, hown, hts, hr, hlocks, hnm⟩ := id C
  have hb : c.code = cL_law := hb
  obtain ⟨x1, ex1⟩ : ∃ z : Int32, z = xs (6 * n + 1) := ⟨_, rfl⟩
  obtain ⟨x2, ex2⟩ : ∃ z : Int32, z = xs (6 * n + 2) := ⟨_, rfl⟩
  refine lv_aload_n hx hb dL_law_701 rfl (lv_at hl 2 rfl) ?_
  refine lv_aload_n hx hb dL_law_702 rfl (lv_at hl 3 rfl) ?_
  refine lv_iload_n hx hb dL_law_703 rfl (lv_at hl 0 rfl) ?_
  refine lv_iconst (v := 1) hx hb dL_law_704 (by decide) ?_
  refine lv_iadd hx hb dL_law_705 ?_
  refine sldE (v := x1) hx hb hX hbl hbA hS (6 * n + 1) (ix_s1 hn hL) ex1 dL_law_706 ?_
  refine lv_aload_n hx hb dL_law_707 rfl (lv_at hl 3 rfl) ?_
  refine lv_iload_n hx hb dL_law_708 rfl (lv_at hl 0 rfl) ?_
  refine lv_iconst (v := 2) hx hb dL_law_709 (by decide) ?_
  refine lv_iadd hx hb dL_law_710 ?_
  refine sldE (v := x2) hx hb hX hbl hbA hS (6 * n + 2) (ix_s2 hn hL) ex2 dL_law_711 ?_
  refine lx_checks C hK hA hG hP hD hS hf hl.1 (fun r8 w H locs hG hP hD hS => ?_)
  refine lv_pop hx hb dL_law_715 rfl ?_
  refine lv_aload_n hx hb dL_law_716 rfl (lv_at hl 1 rfl) ?_
  refine lv_aload_n hx hb dL_law_717 rfl (lv_at hl 3 rfl) ?_
  refine lv_iload_n hx hb dL_law_718 rfl (lv_at hl 0 rfl) ?_
  refine lv_iconst (v := 1) hx hb dL_law_719 (by decide) ?_
  refine lv_iadd hx hb dL_law_720 ?_
  refine sldE (v := x1) hx hb hX hbl hbA hS (6 * n + 1) (ix_s1 hn hL) ex1 dL_law_721 ?_
  refine lv_aload_n hx hb dL_law_722 rfl (lv_at hl 3 rfl) ?_
  refine lv_iload_n hx hb dL_law_723 rfl (lv_at hl 0 rfl) ?_
  refine lv_iconst (v := 2) hx hb dL_law_724 (by decide) ?_
  refine lv_iadd hx hb dL_law_725 ?_
  refine sldE (v := x2) hx hb hX hbl hbA hS (6 * n + 2) (ix_s2 hn hL) ex2 dL_law_726 ?_
  refine lm_checks C hK hA hG hP hD hS hf hl.1 (fun r9 w H locs hG hP hD hS => ?_)
  refine lv_pop hx hb dL_law_730 rfl ?_
  refine lv_goto (tgt := 925) hx hb dL_law_731 (by decide) ?_
  exact T w H locs (gd_imp (fun B2 B6 Q5 z8 z5 zd z1 z9 wk ru im => sn_checks (by omega)) hG) hP hD hS
end LAWX

section LAWX
variable {p : Program} {l : Launch} {e : Env} {s : State} {m : MethodId} {args : Array Value} {below : List Frame} {meth : Method} {c : Code} {H : Heap} {locs : List Loc} {cells slots : Nat} {Q : State → Prop} {ls : Array Slot} {D : va_G} {a : Nat → ClassId} {A : Nat → Prop} {w : va_W} {q8 q9 : Nat} {adK adV : Nat → Nat}
set_option maxHeartbeats 4000000 in
set_option maxRecDepth 100000 in
theorem law_fine {b L : Nat} {xs : Nat → Int32} (C : Cx p s m args meth c ML_law) (hX : va_X b L xs s s.heap) (hbl : b < s.heap.size) (hbA : ¬ A b) (hK : KK D a s) (hV : VV adK adV A s s.heap) (hA : ∀ q, s.heap.size ≤ q → A q) {n : Nat} (hn : 6 * n + 6 ≤ L) (hL : L ≤ 3072) (hG : Gd a q8 q9 (JN n) w) (hP : va_P D classes w H) (hD : va_D A w) (hS : va_S A s.heap H locs) (hf : cells + 13 ≤ 600000 ∧ slots + 441 ≤ 7302250) (hl : lv_has ls 4 [(3, .int (nI (6 * n))), (2, .ref q9), (1, .ref q8), (0, .ref b)])
    (T : ∀ (w1 : va_W) (H1 : Heap) (locs1 : List Loc), Gd a q8 q9 (JN (n + 1)) w1 → va_P D classes w1 H1 → va_D A w1 → va_S A s.heap H1 locs1 → W p l e room_1 s m args below meth c H1 locs1 (cells + 13) (slots + 441) Q (F0 m 925 ls [])) : W p l e room_1 s m args below meth c H locs cells slots Q (F0 m 361 ls []) := by
  obtain ⟨hx, hb, hml, hown, hts, hr, hlocks, hnm⟩ := id C
  have hb : c.code = cL_law := hb
  obtain ⟨x1, ex1⟩ : ∃ z : Int32, z = xs (6 * n + 1) := ⟨_, rfl⟩
  refine lv_aload_n hx hb dL_law_361 rfl (lv_at hl 2 rfl) ?_
  refine lv_aload_n hx hb dL_law_362 rfl (lv_at hl 3 rfl) ?_
  refine lv_iload_n hx hb dL_law_363 rfl (lv_at hl 0 rfl) ?_
  refine lv_iconst (v := 1) hx hb dL_law_364 (by decide) ?_
  refine lv_iadd hx hb dL_law_365 ?_
  refine sldE (v := x1) hx hb hX hbl hbA hS (6 * n + 1) (ix_s1 hn hL) ex1 dL_law_366 ?_
  refine lx_fine C hK hA hG hP hD hS hf hl.1 (fun r8 w H locs hG hP hD hS => ?_)
  refine lv_pop hx hb dL_law_370 rfl ?_
  refine lv_aload_n hx hb dL_law_371 rfl (lv_at hl 1 rfl) ?_
  refine lv_aload_n hx hb dL_law_372 rfl (lv_at hl 3 rfl) ?_
  refine lv_iload_n hx hb dL_law_373 rfl (lv_at hl 0 rfl) ?_
  refine lv_iconst (v := 1) hx hb dL_law_374 (by decide) ?_
  refine lv_iadd hx hb dL_law_375 ?_
  refine sldE (v := x1) hx hb hX hbl hbA hS (6 * n + 1) (ix_s1 hn hL) ex1 dL_law_376 ?_
  refine lm_fine C hK hA hG hP hD hS hf hl.1 (fun r9 w H locs hG hP hD hS => ?_)
  refine lv_pop hx hb dL_law_380 rfl ?_
  refine lv_goto (tgt := 925) hx hb dL_law_381 (by decide) ?_
  exact T w H locs (gd_imp (fun B2 B6 Q5 z8 z5 zd z1 z9 wk ru im => sn_fine (by omega)) hG) hP hD hS

set_option maxHeartbeats 4000000 in
set_option maxRecDepth 100000 in
theorem law_mend {b L : Nat} {xs : Nat → Int32} (C : Cx p s m args meth c ML_law) (hX : va_X b L xs s s.heap) (hbl : b < s.heap.size) (hbA : ¬ A b) (hK : KK D a s) (hV : VV adK adV A s s.heap) (hA : ∀ q, s.heap.size ≤ q → A q) {n : Nat} (hn : 6 * n + 6 ≤ L) (hL : L ≤ 3072) (hG : Gd a q8 q9 (JN n) w) (hP : va_P D classes w H) (hD : va_D A w) (hS : va_S A s.heap H locs) (hf : cells + 13 ≤ 600000 ∧ slots + 441 ≤ 7302250) (hl : lv_has ls 4 [(3, .int (nI (6 * n))), (2, .ref q9), (1, .ref q8), (0, .ref b)])
    (T : ∀ (w1 : va_W) (H1 : Heap) (locs1 : List Loc), Gd a q8 q9 (JN (n + 1)) w1 → va_P D classes w1 H1 → va_D A w1 → va_S A s.heap H1 locs1 → W p l e room_1 s m args below meth c H1 locs1 (cells + 13) (slots + 441) Q (F0 m 925 ls [])) : W p l e room_1 s m args below meth c H locs cells slots Q (F0 m 384 ls []) := by
  obtain ⟨hx, hb, hml, hown, hts, hr, hlocks, hnm⟩ := id C
  have hb : c.code = cL_law := hb
  obtain ⟨x1, ex1⟩ : ∃ z : Int32, z = xs (6 * n + 1) := ⟨_, rfl⟩
  refine lv_aload_n hx hb dL_law_384 rfl (lv_at hl 2 rfl) ?_
  refine lv_aload_n hx hb dL_law_385 rfl (lv_at hl 3 rfl) ?_
  refine lv_iload_n hx hb dL_law_386 rfl (lv_at hl 0 rfl) ?_
  refine lv_iconst (v := 1) hx hb dL_law_387 (by decide) ?_
  refine lv_iadd hx hb dL_law_388 ?_
  refine sldE (v := x1) hx hb hX hbl hbA hS (6 * n + 1) (ix_s1 hn hL) ex1 dL_law_389 ?_
  refine lx_mend C hK hA hG hP hD hS hf hl.1 (fun r8 w H locs hG hP hD hS => ?_)
  refine lv_pop hx hb dL_law_393 rfl ?_
  refine lv_aload_n hx hb dL_law_394 rfl (lv_at hl 1 rfl) ?_
  refine lv_aload_n hx hb dL_law_395 rfl (lv_at hl 3 rfl) ?_
  refine lv_iload_n hx hb dL_law_396 rfl (lv_at hl 0 rfl) ?_
  refine lv_iconst (v := 1) hx hb dL_law_397 (by decide) ?_
  refine lv_iadd hx hb dL_law_398 ?_
  refine sldE (v := x1) hx hb hX hbl hbA hS (6 * n + 1) (ix_s1 hn hL) ex1 dL_law_399 ?_
  refine lm_mend C hK hA hG hP hD hS hf hl.1 (fun r9 w H locs hG hP hD hS => ?_)
  refine lv_pop hx hb dL_law_403 rfl ?_
  refine lv_goto (tgt := 925) hx hb dL_law_404 (by decide) ?_
  exact T w H locs (gd_imp (fun B2 B6 Q5 z8 z5 zd z1 z9 wk ru im => sn_mend (by omega)) hG) hP hD hS

set_option maxHeartbeats 4000000 in
set_option maxRecDepth 100000 in
theorem law_dawn {b L : Nat} {xs : Nat → Int32} (C : Cx p s m args meth c ML_law) (hX : va_X b L xs s s.heap) (hbl : b < s.heap.size) (hbA : ¬ A b) (hK : KK D a s) (hV : VV adK adV A s s.heap) (hA : ∀ q, s.heap.size ≤ q → A q) {n : Nat} (hn : 6 * n + 6 ≤ L) (hL : L ≤ 3072) (hG : Gd a q8 q9 (JN n) w) (hP : va_P D classes w H) (hD : va_D A w) (hS : va_S A s.heap H locs) (hf : cells + 13 ≤ 600000 ∧ slots + 441 ≤ 7302250) (hl : lv_has ls 4 [(3, .int (nI (6 * n))), (2, .ref q9), (1, .ref q8), (0, .ref b)])
    (T : ∀ (w1 : va_W) (H1 : Heap) (locs1 : List Loc), Gd a q8 q9 (JN (n + 1)) w1 → va_P D classes w1 H1 → va_D A w1 → va_S A s.heap H1 locs1 → W p l e room_1 s m args below meth c H1 locs1 (cells + 13) (slots + 441) Q (F0 m 925 ls [])) : W p l e room_1 s m args below meth c H locs cells slots Q (F0 m 407 ls []) := by
  obtain ⟨hx, hb, hml, hown, hts, hr, hlocks, hnm⟩ := id C
  have hb : c.code = cL_law := hb
  refine lv_aload_n hx hb dL_law_407 rfl (lv_at hl 2 rfl) ?_
  refine lx_dawn C hK hA hG hP hD hS hf hl.1 (fun r8 w H locs hG hP hD hS => ?_)
  refine lv_pop hx hb dL_law_411 rfl ?_
  refine lv_aload_n hx hb dL_law_412 rfl (lv_at hl 1 rfl) ?_
  refine lm_dawn C hK hA hG hP hD hS hf hl.1 (fun r9 w H locs hG hP hD hS => ?_)
  refine lv_pop hx hb dL_law_416 rfl ?_
  refine lv_goto (tgt := 925) hx hb dL_law_417 (by decide) ?_
  exact T w H locs (gd_imp (fun B2 B6 Q5 z8 z5 zd z1 z9 wk ru im => sn_dawn (by omega)) hG) hP hD hS

set_option maxHeartbeats 4000000 in
set_option maxRecDepth 100000 in
theorem law_day {b L : Nat} {xs : Nat → Int32} (C : Cx p s m args meth c ML_law) (hX : va_X b L xs s s.heap) (hbl : b < s.heap.size) (hbA : ¬ A b) (hK : KK D a s) (hV : VV adK adV A s s.heap) (hA : ∀ q, s.heap.size ≤ q → A q) {n : Nat} (hn : 6 * n + 6 ≤ L) (hL : L ≤ 3072) (hG : Gd a q8 q9 (JN n) w) (hP : va_P D classes w H) (hD : va_D A w) (hS : va_S A s.heap H locs) (hf : cells + 13 ≤ 600000 ∧ slots + 441 ≤ 7302250) (hl : lv_has ls 4 [(3, .int (nI (6 * n))), (2, .ref q9), (1, .ref q8), (0, .ref b)])
    (T : ∀ (w1 : va_W) (H1 : Heap) (locs1 : List Loc), Gd a q8 q9 (JN (n + 1)) w1 → va_P D classes w1 H1 → va_D A w1 → va_S A s.heap H1 locs1 → W p l e room_1 s m args below meth c H1 locs1 (cells + 13) (slots + 441) Q (F0 m 925 ls [])) : W p l e room_1 s m args below meth c H locs cells slots Q (F0 m 420 ls []) := by
  obtain ⟨hx, hb, hml, hown, hts, hr, hlocks, hnm⟩ := id C
  have hb : c.code = cL_law := hb
  obtain ⟨x1, ex1⟩ : ∃ z : Int32, z = xs (6 * n + 1) := ⟨_, rfl⟩
  refine lv_aload_n hx hb dL_law_420 rfl (lv_at hl 2 rfl) ?_
  refine lv_aload_n hx hb dL_law_421 rfl (lv_at hl 3 rfl) ?_
  refine lv_iload_n hx hb dL_law_422 rfl (lv_at hl 0 rfl) ?_
  refine lv_iconst (v := 1) hx hb dL_law_423 (by decide) ?_
  refine lv_iadd hx hb dL_law_424 ?_
  refine sldE (v := x1) hx hb hX hbl hbA hS (6 * n + 1) (ix_s1 hn hL) ex1 dL_law_425 ?_
  refine lx_day C hK hA hG hP hD hS hf hl.1 (fun r8 w H locs hG hP hD hS => ?_)
  refine lv_pop hx hb dL_law_429 rfl ?_
  refine lv_aload_n hx hb dL_law_430 rfl (lv_at hl 1 rfl) ?_
  refine lv_aload_n hx hb dL_law_431 rfl (lv_at hl 3 rfl) ?_
  refine lv_iload_n hx hb dL_law_432 rfl (lv_at hl 0 rfl) ?_
  refine lv_iconst (v := 1) hx hb dL_law_433 (by decide) ?_
  refine lv_iadd hx hb dL_law_434 ?_
  refine sldE (v := x1) hx hb hX hbl hbA hS (6 * n + 1) (ix_s1 hn hL) ex1 dL_law_435 ?_
  refine lm_day C hK hA hG hP hD hS hf hl.1 (fun r9 w H locs hG hP hD hS => ?_)
  refine lv_pop hx hb dL_law_439 rfl ?_
  refine lv_goto (tgt := 925) hx hb dL_law_440 (by decide) ?_
  exact T w H locs (gd_imp (fun B2 B6 Q5 z8 z5 zd z1 z9 wk ru im => sn_day (by omega)) hG) hP hD hS

set_option maxHeartbeats 4000000 in
set_option maxRecDepth 100000 in
theorem law_would {b L : Nat} {xs : Nat → Int32} (C : Cx p s m args meth c ML_law) (hX : va_X b L xs s s.heap) (hbl : b < s.heap.size) (hbA : ¬ A b) (hK : KK D a s) (hV : VV adK adV A s s.heap) (hA : ∀ q, s.heap.size ≤ q → A q) {n : Nat} (hn : 6 * n + 6 ≤ L) (hL : L ≤ 3072) (hG : Gd a q8 q9 (JN n) w) (hP : va_P D classes w H) (hD : va_D A w) (hS : va_S A s.heap H locs) (hf : cells + 13 ≤ 600000 ∧ slots + 441 ≤ 7302250) (hl : lv_has ls 4 [(3, .int (nI (6 * n))), (2, .ref q9), (1, .ref q8), (0, .ref b)])
    (T : ∀ (w1 : va_W) (H1 : Heap) (locs1 : List Loc), Gd a q8 q9 (JN (n + 1)) w1 → va_P D classes w1 H1 → va_D A w1 → va_S A s.heap H1 locs1 → W p l e room_1 s m args below meth c H1 locs1 (cells + 13) (slots + 441) Q (F0 m 925 ls [])) : W p l e room_1 s m args below meth c H locs cells slots Q (F0 m 443 ls []) := by
  obtain ⟨hx, hb, hml, hown, hts, hr, hlocks, hnm⟩ := id C
  have hb : c.code = cL_law := hb
  obtain ⟨x1, ex1⟩ : ∃ z : Int32, z = xs (6 * n + 1) := ⟨_, rfl⟩
  obtain ⟨x2, ex2⟩ : ∃ z : Int32, z = xs (6 * n + 2) := ⟨_, rfl⟩
  refine lv_aload_n hx hb dL_law_443 rfl (lv_at hl 2 rfl) ?_
  refine lv_aload_n hx hb dL_law_444 rfl (lv_at hl 3 rfl) ?_
  refine lv_iload_n hx hb dL_law_445 rfl (lv_at hl 0 rfl) ?_
  refine lv_iconst (v := 1) hx hb dL_law_446 (by decide) ?_
  refine lv_iadd hx hb dL_law_447 ?_
  refine sldE (v := x1) hx hb hX hbl hbA hS (6 * n + 1) (ix_s1 hn hL) ex1 dL_law_448 ?_
  refine lv_aload_n hx hb dL_law_449 rfl (lv_at hl 3 rfl) ?_
  refine lv_iload_n hx hb dL_law_450 rfl (lv_at hl 0 rfl) ?_
  refine lv_iconst (v := 2) hx hb dL_law_451 (by decide) ?_
  refine lv_iadd hx hb dL_law_452 ?_
  refine sldE (v := x2) hx hb hX hbl hbA hS (6 * n + 2) (ix_s2 hn hL) ex2 dL_law_453 ?_
  refine lx_would C hK hA hG hP hD hS hf hl.1 (fun r8 w H locs hG hP hD hS => ?_)
  refine lv_pop hx hb dL_law_457 rfl ?_
  refine lv_aload_n hx hb dL_law_458 rfl (lv_at hl 1 rfl) ?_
  refine lv_aload_n hx hb dL_law_459 rfl (lv_at hl 3 rfl) ?_
  refine lv_iload_n hx hb dL_law_460 rfl (lv_at hl 0 rfl) ?_
  refine lv_iconst (v := 1) hx hb dL_law_461 (by decide) ?_
  refine lv_iadd hx hb dL_law_462 ?_
  refine sldE (v := x1) hx hb hX hbl hbA hS (6 * n + 1) (ix_s1 hn hL) ex1 dL_law_463 ?_
  refine lv_aload_n hx hb dL_law_464 rfl (lv_at hl 3 rfl) ?_
  refine lv_iload_n hx hb dL_law_465 rfl (lv_at hl 0 rfl) ?_
  refine lv_iconst (v := 2) hx hb dL_law_466 (by decide) ?_
  refine lv_iadd hx hb dL_law_467 ?_
  refine sldE (v := x2) hx hb hX hbl hbA hS (6 * n + 2) (ix_s2 hn hL) ex2 dL_law_468 ?_
  refine lm_would C hK hA hG hP hD hS hf hl.1 (fun r9 w H locs hG hP hD hS => ?_)
  refine lv_pop hx hb dL_law_472 rfl ?_
  refine lv_goto (tgt := 925) hx hb dL_law_473 (by decide) ?_
  exact T w H locs (gd_imp (fun B2 B6 Q5 z8 z5 zd z1 z9 wk ru im => sn_would (by omega)) hG) hP hD hS

set_option maxHeartbeats 4000000 in
set_option maxRecDepth 100000 in
theorem law_row {b L : Nat} {xs : Nat → Int32} (C : Cx p s m args meth c ML_law) (hX : va_X b L xs s s.heap) (hbl : b < s.heap.size) (hbA : ¬ A b) (hK : KK D a s) (hV : VV adK adV A s s.heap) (hA : ∀ q, s.heap.size ≤ q → A q) {n : Nat} (hn : 6 * n + 6 ≤ L) (hL : L ≤ 3072) (hG : Gd a q8 q9 (JN n) w) (hP : va_P D classes w H) (hD : va_D A w) (hS : va_S A s.heap H locs) (hf : cells + 13 ≤ 600000 ∧ slots + 441 ≤ 7302250) (hl : lv_has ls 4 [(3, .int (nI (6 * n))), (2, .ref q9), (1, .ref q8), (0, .ref b)])
    (T : ∀ (w1 : va_W) (H1 : Heap) (locs1 : List Loc), Gd a q8 q9 (JN (n + 1)) w1 → va_P D classes w1 H1 → va_D A w1 → va_S A s.heap H1 locs1 → W p l e room_1 s m args below meth c H1 locs1 (cells + 13) (slots + 441) Q (F0 m 925 ls [])) : W p l e room_1 s m args below meth c H locs cells slots Q (F0 m 476 ls []) := by
  obtain ⟨hx, hb, hml, hown, hts, hr, hlocks, hnm⟩ := id C
  have hb : c.code = cL_law := hb
  obtain ⟨x1, ex1⟩ : ∃ z : Int32, z = xs (6 * n + 1) := ⟨_, rfl⟩
  refine lv_aload_n hx hb dL_law_476 rfl (lv_at hl 2 rfl) ?_
  refine lv_aload_n hx hb dL_law_477 rfl (lv_at hl 3 rfl) ?_
  refine lv_iload_n hx hb dL_law_478 rfl (lv_at hl 0 rfl) ?_
  refine lv_iconst (v := 1) hx hb dL_law_479 (by decide) ?_
  refine lv_iadd hx hb dL_law_480 ?_
  refine sldE (v := x1) hx hb hX hbl hbA hS (6 * n + 1) (ix_s1 hn hL) ex1 dL_law_481 ?_
  refine lx_row C hK hA hG hP hD hS hf hl.1 (fun r8 w H locs hG hP hD hS => ?_)
  refine lv_pop hx hb dL_law_485 rfl ?_
  refine lv_aload_n hx hb dL_law_486 rfl (lv_at hl 1 rfl) ?_
  refine lv_aload_n hx hb dL_law_487 rfl (lv_at hl 3 rfl) ?_
  refine lv_iload_n hx hb dL_law_488 rfl (lv_at hl 0 rfl) ?_
  refine lv_iconst (v := 1) hx hb dL_law_489 (by decide) ?_
  refine lv_iadd hx hb dL_law_490 ?_
  refine sldE (v := x1) hx hb hX hbl hbA hS (6 * n + 1) (ix_s1 hn hL) ex1 dL_law_491 ?_
  refine lm_row C hK hA hG hP hD hS hf hl.1 (fun r9 w H locs hG hP hD hS => ?_)
  refine lv_pop hx hb dL_law_495 rfl ?_
  refine lv_goto (tgt := 925) hx hb dL_law_496 (by decide) ?_
  exact T w H locs (gd_imp (fun B2 B6 Q5 z8 z5 zd z1 z9 wk ru im => sn_row (by omega)) hG) hP hD hS

set_option maxHeartbeats 4000000 in
set_option maxRecDepth 100000 in
theorem law_worth {b L : Nat} {xs : Nat → Int32} (C : Cx p s m args meth c ML_law) (hX : va_X b L xs s s.heap) (hbl : b < s.heap.size) (hbA : ¬ A b) (hK : KK D a s) (hV : VV adK adV A s s.heap) (hA : ∀ q, s.heap.size ≤ q → A q) {n : Nat} (hn : 6 * n + 6 ≤ L) (hL : L ≤ 3072) (hG : Gd a q8 q9 (JN n) w) (hP : va_P D classes w H) (hD : va_D A w) (hS : va_S A s.heap H locs) (hf : cells + 13 ≤ 600000 ∧ slots + 441 ≤ 7302250) (hl : lv_has ls 4 [(3, .int (nI (6 * n))), (2, .ref q9), (1, .ref q8), (0, .ref b)])
    (T : ∀ (w1 : va_W) (H1 : Heap) (locs1 : List Loc), Gd a q8 q9 (JN (n + 1)) w1 → va_P D classes w1 H1 → va_D A w1 → va_S A s.heap H1 locs1 → W p l e room_1 s m args below meth c H1 locs1 (cells + 13) (slots + 441) Q (F0 m 925 ls [])) : W p l e room_1 s m args below meth c H locs cells slots Q (F0 m 499 ls []) := by
  obtain ⟨hx, hb, hml, hown, hts, hr, hlocks, hnm⟩ := id C
  have hb : c.code = cL_law := hb
  obtain ⟨x1, ex1⟩ : ∃ z : Int32, z = xs (6 * n + 1) := ⟨_, rfl⟩
  refine lv_aload_n hx hb dL_law_499 rfl (lv_at hl 2 rfl) ?_
  refine lv_aload_n hx hb dL_law_500 rfl (lv_at hl 3 rfl) ?_
  refine lv_iload_n hx hb dL_law_501 rfl (lv_at hl 0 rfl) ?_
  refine lv_iconst (v := 1) hx hb dL_law_502 (by decide) ?_
  refine lv_iadd hx hb dL_law_503 ?_
  refine sldE (v := x1) hx hb hX hbl hbA hS (6 * n + 1) (ix_s1 hn hL) ex1 dL_law_504 ?_
  refine lx_worth C hK hA hG hP hD hS hf hl.1 (fun r8 w H locs hG hP hD hS => ?_)
  refine lv_pop2_2 hx hb dL_law_508 rfl ?_
  refine lv_aload_n hx hb dL_law_509 rfl (lv_at hl 1 rfl) ?_
  refine lv_aload_n hx hb dL_law_510 rfl (lv_at hl 3 rfl) ?_
  refine lv_iload_n hx hb dL_law_511 rfl (lv_at hl 0 rfl) ?_
  refine lv_iconst (v := 1) hx hb dL_law_512 (by decide) ?_
  refine lv_iadd hx hb dL_law_513 ?_
  refine sldE (v := x1) hx hb hX hbl hbA hS (6 * n + 1) (ix_s1 hn hL) ex1 dL_law_514 ?_
  refine lm_worth C hK hA hG hP hD hS hf hl.1 (fun r9 w H locs hG hP hD hS => ?_)
  refine lv_pop2_2 hx hb dL_law_518 rfl ?_
  refine lv_goto (tgt := 925) hx hb dL_law_519 (by decide) ?_
  exact T w H locs (gd_imp (fun B2 B6 Q5 z8 z5 zd z1 z9 wk ru im => sn_worth (by omega)) hG) hP hD hS
end LAWX

section LAWX
variable {p : Program} {l : Launch} {e : Env} {s : State} {m : MethodId} {args : Array Value} {below : List Frame} {meth : Method} {c : Code} {H : Heap} {locs : List Loc} {cells slots : Nat} {Q : State → Prop} {ls : Array Slot} {D : va_G} {a : Nat → ClassId} {A : Nat → Prop} {w : va_W} {q8 q9 : Nat} {adK adV : Nat → Nat}
set_option maxHeartbeats 4000000 in
set_option maxRecDepth 100000 in
theorem law_fits {b L : Nat} {xs : Nat → Int32} (C : Cx p s m args meth c ML_law) (hX : va_X b L xs s s.heap) (hbl : b < s.heap.size) (hbA : ¬ A b) (hK : KK D a s) (hV : VV adK adV A s s.heap) (hA : ∀ q, s.heap.size ≤ q → A q) {n : Nat} (hn : 6 * n + 6 ≤ L) (hL : L ≤ 3072) (hG : Gd a q8 q9 (JN n) w) (hP : va_P D classes w H) (hD : va_D A w) (hS : va_S A s.heap H locs) (hf : cells + 13 ≤ 600000 ∧ slots + 441 ≤ 7302250) (hl : lv_has ls 4 [(3, .int (nI (6 * n))), (2, .ref q9), (1, .ref q8), (0, .ref b)])
    (T : ∀ (w1 : va_W) (H1 : Heap) (locs1 : List Loc), Gd a q8 q9 (JN (n + 1)) w1 → va_P D classes w1 H1 → va_D A w1 → va_S A s.heap H1 locs1 → W p l e room_1 s m args below meth c H1 locs1 (cells + 13) (slots + 441) Q (F0 m 925 ls [])) : W p l e room_1 s m args below meth c H locs cells slots Q (F0 m 734 ls []) := by
  obtain ⟨hx, hb, hml, hown, hts, hr, hlocks, hnm⟩ := id C
  have hb : c.code = cL_law := hb
  obtain ⟨x1, ex1⟩ : ∃ z : Int32, z = xs (6 * n + 1) := ⟨_, rfl⟩
  obtain ⟨x2, ex2⟩ : ∃ z : Int32, z = xs (6 * n + 2) := ⟨_, rfl⟩
  refine lv_aload_n hx hb dL_law_734 rfl (lv_at hl 2 rfl) ?_
  refine lv_aload_n hx hb dL_law_735 rfl (lv_at hl 3 rfl) ?_
  refine lv_iload_n hx hb dL_law_736 rfl (lv_at hl 0 rfl) ?_
  refine lv_iconst (v := 1) hx hb dL_law_737 (by decide) ?_
  refine lv_iadd hx hb dL_law_738 ?_
  refine sldE (v := x1) hx hb hX hbl hbA hS (6 * n + 1) (ix_s1 hn hL) ex1 dL_law_739 ?_
  refine lv_aload_n hx hb dL_law_740 rfl (lv_at hl 3 rfl) ?_
  refine lv_iload_n hx hb dL_law_741 rfl (lv_at hl 0 rfl) ?_
  refine lv_iconst (v := 2) hx hb dL_law_742 (by decide) ?_
  refine lv_iadd hx hb dL_law_743 ?_
  refine sldE (v := x2) hx hb hX hbl hbA hS (6 * n + 2) (ix_s2 hn hL) ex2 dL_law_744 ?_
  refine lx_fits C hK hA hG hP hD hS hf hl.1 (fun r8 w H locs hG hP hD hS => ?_)
  refine lv_pop hx hb dL_law_748 rfl ?_
  refine lv_aload_n hx hb dL_law_749 rfl (lv_at hl 1 rfl) ?_
  refine lv_aload_n hx hb dL_law_750 rfl (lv_at hl 3 rfl) ?_
  refine lv_iload_n hx hb dL_law_751 rfl (lv_at hl 0 rfl) ?_
  refine lv_iconst (v := 1) hx hb dL_law_752 (by decide) ?_
  refine lv_iadd hx hb dL_law_753 ?_
  refine sldE (v := x1) hx hb hX hbl hbA hS (6 * n + 1) (ix_s1 hn hL) ex1 dL_law_754 ?_
  refine lv_aload_n hx hb dL_law_755 rfl (lv_at hl 3 rfl) ?_
  refine lv_iload_n hx hb dL_law_756 rfl (lv_at hl 0 rfl) ?_
  refine lv_iconst (v := 2) hx hb dL_law_757 (by decide) ?_
  refine lv_iadd hx hb dL_law_758 ?_
  refine sldE (v := x2) hx hb hX hbl hbA hS (6 * n + 2) (ix_s2 hn hL) ex2 dL_law_759 ?_
  refine lm_fits C hK hA hG hP hD hS hf hl.1 (fun r9 w H locs hG hP hD hS => ?_)
  refine lv_pop hx hb dL_law_763 rfl ?_
  refine lv_goto (tgt := 925) hx hb dL_law_764 (by decide) ?_
  exact T w H locs (gd_imp (fun B2 B6 Q5 z8 z5 zd z1 z9 wk ru im => sn_fits (by omega)) hG) hP hD hS

set_option maxHeartbeats 4000000 in
set_option maxRecDepth 100000 in
theorem law_seed {b L : Nat} {xs : Nat → Int32} (C : Cx p s m args meth c ML_law) (hX : va_X b L xs s s.heap) (hbl : b < s.heap.size) (hbA : ¬ A b) (hK : KK D a s) (hV : VV adK adV A s s.heap) (hA : ∀ q, s.heap.size ≤ q → A q) {n : Nat} (hn : 6 * n + 6 ≤ L) (hL : L ≤ 3072) (hG : Gd a q8 q9 (JN n) w) (hP : va_P D classes w H) (hD : va_D A w) (hS : va_S A s.heap H locs) (hf : cells + 13 ≤ 600000 ∧ slots + 441 ≤ 7302250) (hl : lv_has ls 4 [(3, .int (nI (6 * n))), (2, .ref q9), (1, .ref q8), (0, .ref b)])
    (T : ∀ (w1 : va_W) (H1 : Heap) (locs1 : List Loc), Gd a q8 q9 (JN (n + 1)) w1 → va_P D classes w1 H1 → va_D A w1 → va_S A s.heap H1 locs1 → W p l e room_1 s m args below meth c H1 locs1 (cells + 13) (slots + 441) Q (F0 m 925 ls [])) : W p l e room_1 s m args below meth c H locs cells slots Q (F0 m 767 ls []) := by
  obtain ⟨hx, hb, hml, hown, hts, hr, hlocks, hnm⟩ := id C
  have hb : c.code = cL_law := hb
  obtain ⟨x1, ex1⟩ : ∃ z : Int32, z = xs (6 * n + 1) := ⟨_, rfl⟩
  refine lv_aload_n hx hb dL_law_767 rfl (lv_at hl 2 rfl) ?_
  refine lv_aload_n hx hb dL_law_768 rfl (lv_at hl 3 rfl) ?_
  refine lv_iload_n hx hb dL_law_769 rfl (lv_at hl 0 rfl) ?_
  refine lv_iconst (v := 1) hx hb dL_law_770 (by decide) ?_
  refine lv_iadd hx hb dL_law_771 ?_
  refine sldE (v := x1) hx hb hX hbl hbA hS (6 * n + 1) (ix_s1 hn hL) ex1 dL_law_772 ?_
  refine lx_seed C hK hA hG hP hD hS hf hl.1 (fun r8 w H locs hG hP hD hS => ?_)
  refine lv_pop hx hb dL_law_776 rfl ?_
  refine lv_aload_n hx hb dL_law_777 rfl (lv_at hl 1 rfl) ?_
  refine lv_aload_n hx hb dL_law_778 rfl (lv_at hl 3 rfl) ?_
  refine lv_iload_n hx hb dL_law_779 rfl (lv_at hl 0 rfl) ?_
  refine lv_iconst (v := 1) hx hb dL_law_780 (by decide) ?_
  refine lv_iadd hx hb dL_law_781 ?_
  refine sldE (v := x1) hx hb hX hbl hbA hS (6 * n + 1) (ix_s1 hn hL) ex1 dL_law_782 ?_
  refine lm_seed C hK hA hG hP hD hS hf hl.1 (fun r9 w H locs hG hP hD hS => ?_)
  refine lv_pop hx hb dL_law_786 rfl ?_
  refine lv_goto (tgt := 925) hx hb dL_law_787 (by decide) ?_
  exact T w H locs (gd_imp (fun B2 B6 Q5 z8 z5 zd z1 z9 wk ru im => sn_seed (by omega)) hG) hP hD hS

set_option maxHeartbeats 4000000 in
set_option maxRecDepth 100000 in
theorem law_weeks {b L : Nat} {xs : Nat → Int32} (C : Cx p s m args meth c ML_law) (hX : va_X b L xs s s.heap) (hbl : b < s.heap.size) (hbA : ¬ A b) (hK : KK D a s) (hV : VV adK adV A s s.heap) (hA : ∀ q, s.heap.size ≤ q → A q) {n : Nat} (hn : 6 * n + 6 ≤ L) (hL : L ≤ 3072) (hG : Gd a q8 q9 (JN n) w) (hP : va_P D classes w H) (hD : va_D A w) (hS : va_S A s.heap H locs) (hf : cells + 13 ≤ 600000 ∧ slots + 441 ≤ 7302250) (hl : lv_has ls 4 [(3, .int (nI (6 * n))), (2, .ref q9), (1, .ref q8), (0, .ref b)])
    (T : ∀ (w1 : va_W) (H1 : Heap) (locs1 : List Loc), Gd a q8 q9 (JN (n + 1)) w1 → va_P D classes w1 H1 → va_D A w1 → va_S A s.heap H1 locs1 → W p l e room_1 s m args below meth c H1 locs1 (cells + 13) (slots + 441) Q (F0 m 925 ls [])) : W p l e room_1 s m args below meth c H locs cells slots Q (F0 m 790 ls []) := by
  obtain ⟨hx, hb, hml, hown, hts, hr, hlocks, hnm⟩ := id C
  have hb : c.code = cL_law := hb
  obtain ⟨x1, ex1⟩ : ∃ z : Int32, z = xs (6 * n + 1) := ⟨_, rfl⟩
  obtain ⟨x2, ex2⟩ : ∃ z : Int32, z = xs (6 * n + 2) := ⟨_, rfl⟩
  obtain ⟨x3, ex3⟩ : ∃ z : Int32, z = xs (6 * n + 3) := ⟨_, rfl⟩
  refine lv_aload_n hx hb dL_law_790 rfl (lv_at hl 2 rfl) ?_
  refine lv_aload_n hx hb dL_law_791 rfl (lv_at hl 3 rfl) ?_
  refine lv_iload_n hx hb dL_law_792 rfl (lv_at hl 0 rfl) ?_
  refine lv_iconst (v := 1) hx hb dL_law_793 (by decide) ?_
  refine lv_iadd hx hb dL_law_794 ?_
  refine sldE (v := x1) hx hb hX hbl hbA hS (6 * n + 1) (ix_s1 hn hL) ex1 dL_law_795 ?_
  refine lv_aload_n hx hb dL_law_796 rfl (lv_at hl 3 rfl) ?_
  refine lv_iload_n hx hb dL_law_797 rfl (lv_at hl 0 rfl) ?_
  refine lv_iconst (v := 2) hx hb dL_law_798 (by decide) ?_
  refine lv_iadd hx hb dL_law_799 ?_
  refine sldE (v := x2) hx hb hX hbl hbA hS (6 * n + 2) (ix_s2 hn hL) ex2 dL_law_800 ?_
  refine lv_aload_n hx hb dL_law_801 rfl (lv_at hl 3 rfl) ?_
  refine lv_iload_n hx hb dL_law_802 rfl (lv_at hl 0 rfl) ?_
  refine lv_iconst (v := 3) hx hb dL_law_803 (by decide) ?_
  refine lv_iadd hx hb dL_law_804 ?_
  refine sldE (v := x3) hx hb hX hbl hbA hS (6 * n + 3) (ix_s3 hn hL) ex3 dL_law_805 ?_
  refine lx_weeks C hK hA hG hP hD hS hf hl.1 (fun r8 w H locs hG hP hD hS => ?_)
  refine lv_pop hx hb dL_law_809 rfl ?_
  refine lv_aload_n hx hb dL_law_810 rfl (lv_at hl 1 rfl) ?_
  refine lv_aload_n hx hb dL_law_811 rfl (lv_at hl 3 rfl) ?_
  refine lv_iload_n hx hb dL_law_812 rfl (lv_at hl 0 rfl) ?_
  refine lv_iconst (v := 1) hx hb dL_law_813 (by decide) ?_
  refine lv_iadd hx hb dL_law_814 ?_
  refine sldE (v := x1) hx hb hX hbl hbA hS (6 * n + 1) (ix_s1 hn hL) ex1 dL_law_815 ?_
  refine lv_aload_n hx hb dL_law_816 rfl (lv_at hl 3 rfl) ?_
  refine lv_iload_n hx hb dL_law_817 rfl (lv_at hl 0 rfl) ?_
  refine lv_iconst (v := 2) hx hb dL_law_818 (by decide) ?_
  refine lv_iadd hx hb dL_law_819 ?_
  refine sldE (v := x2) hx hb hX hbl hbA hS (6 * n + 2) (ix_s2 hn hL) ex2 dL_law_820 ?_
  refine lv_aload_n hx hb dL_law_821 rfl (lv_at hl 3 rfl) ?_
  refine lv_iload_n hx hb dL_law_822 rfl (lv_at hl 0 rfl) ?_
  refine lv_iconst (v := 3) hx hb dL_law_823 (by decide) ?_
  refine lv_iadd hx hb dL_law_824 ?_
  refine sldE (v := x3) hx hb hX hbl hbA hS (6 * n + 3) (ix_s3 hn hL) ex3 dL_law_825 ?_
  refine lm_weeks C hK hA hG hP hD hS hf hl.1 (fun r9 w H locs hG hP hD hS => ?_)
  refine lv_pop hx hb dL_law_829 rfl ?_
  refine lv_goto (tgt := 925) hx hb dL_law_830 (by decide) ?_
  exact T w H locs (gd_imp (fun B2 B6 Q5 z8 z5 zd z1 z9 wk ru im => sn_weeks (by omega)) hG) hP hD hS

set_option maxHeartbeats 4000000 in
set_option maxRecDepth 100000 in
theorem law_count {b L : Nat} {xs : Nat → Int32} (C : Cx p s m args meth c ML_law) (hX : va_X b L xs s s.heap) (hbl : b < s.heap.size) (hbA : ¬ A b) (hK : KK D a s) (hV : VV adK adV A s s.heap) (hA : ∀ q, s.heap.size ≤ q → A q) {n : Nat} (hn : 6 * n + 6 ≤ L) (hL : L ≤ 3072) (hG : Gd a q8 q9 (JN n) w) (hP : va_P D classes w H) (hD : va_D A w) (hS : va_S A s.heap H locs) (hf : cells + 13 ≤ 600000 ∧ slots + 441 ≤ 7302250) (hl : lv_has ls 4 [(3, .int (nI (6 * n))), (2, .ref q9), (1, .ref q8), (0, .ref b)])
    (T : ∀ (w1 : va_W) (H1 : Heap) (locs1 : List Loc), Gd a q8 q9 (JN (n + 1)) w1 → va_P D classes w1 H1 → va_D A w1 → va_S A s.heap H1 locs1 → W p l e room_1 s m args below meth c H1 locs1 (cells + 13) (slots + 441) Q (F0 m 925 ls [])) : W p l e room_1 s m args below meth c H locs cells slots Q (F0 m 833 ls []) := by
  obtain ⟨hx, hb, hml, hown, hts, hr, hlocks, hnm⟩ := id C
  have hb : c.code = cL_law := hb
  obtain ⟨x1, ex1⟩ : ∃ z : Int32, z = xs (6 * n + 1) := ⟨_, rfl⟩
  refine lv_aload_n hx hb dL_law_833 rfl (lv_at hl 2 rfl) ?_
  refine lv_aload_n hx hb dL_law_834 rfl (lv_at hl 3 rfl) ?_
  refine lv_iload_n hx hb dL_law_835 rfl (lv_at hl 0 rfl) ?_
  refine lv_iconst (v := 1) hx hb dL_law_836 (by decide) ?_
  refine lv_iadd hx hb dL_law_837 ?_
  refine sldE (v := x1) hx hb hX hbl hbA hS (6 * n + 1) (ix_s1 hn hL) ex1 dL_law_838 ?_
  refine lx_count C hK hA hG hP hD hS hf hl.1 (fun r8 w H locs hG hP hD hS => ?_)
  refine lv_pop hx hb dL_law_842 rfl ?_
  refine lv_aload_n hx hb dL_law_843 rfl (lv_at hl 1 rfl) ?_
  refine lv_aload_n hx hb dL_law_844 rfl (lv_at hl 3 rfl) ?_
  refine lv_iload_n hx hb dL_law_845 rfl (lv_at hl 0 rfl) ?_
  refine lv_iconst (v := 1) hx hb dL_law_846 (by decide) ?_
  refine lv_iadd hx hb dL_law_847 ?_
  refine sldE (v := x1) hx hb hX hbl hbA hS (6 * n + 1) (ix_s1 hn hL) ex1 dL_law_848 ?_
  refine lm_count C hK hA hG hP hD hS hf hl.1 (fun r9 w H locs hG hP hD hS => ?_)
  refine lv_pop hx hb dL_law_852 rfl ?_
  refine lv_goto (tgt := 925) hx hb dL_law_853 (by decide) ?_
  exact T w H locs (gd_imp (fun B2 B6 Q5 z8 z5 zd z1 z9 wk ru im => sn_count (by omega)) hG) hP hD hS

set_option maxHeartbeats 4000000 in
set_option maxRecDepth 100000 in
theorem law_coins {b L : Nat} {xs : Nat → Int32} (C : Cx p s m args meth c ML_law) (hX : va_X b L xs s s.heap) (hbl : b < s.heap.size) (hbA : ¬ A b) (hK : KK D a s) (hV : VV adK adV A s s.heap) (hA : ∀ q, s.heap.size ≤ q → A q) {n : Nat} (hn : 6 * n + 6 ≤ L) (hL : L ≤ 3072) (hG : Gd a q8 q9 (JN n) w) (hP : va_P D classes w H) (hD : va_D A w) (hS : va_S A s.heap H locs) (hf : cells + 13 ≤ 600000 ∧ slots + 441 ≤ 7302250) (hl : lv_has ls 4 [(3, .int (nI (6 * n))), (2, .ref q9), (1, .ref q8), (0, .ref b)])
    (T : ∀ (w1 : va_W) (H1 : Heap) (locs1 : List Loc), Gd a q8 q9 (JN (n + 1)) w1 → va_P D classes w1 H1 → va_D A w1 → va_S A s.heap H1 locs1 → W p l e room_1 s m args below meth c H1 locs1 (cells + 13) (slots + 441) Q (F0 m 925 ls [])) : W p l e room_1 s m args below meth c H locs cells slots Q (F0 m 856 ls []) := by
  obtain ⟨hx, hb, hml, hown, hts, hr, hlocks, hnm⟩ := id C
  have hb : c.code = cL_law := hb
  obtain ⟨x1, ex1⟩ : ∃ z : Int32, z = xs (6 * n + 1) := ⟨_, rfl⟩
  refine lv_aload_n hx hb dL_law_856 rfl (lv_at hl 2 rfl) ?_
  refine lv_aload_n hx hb dL_law_857 rfl (lv_at hl 3 rfl) ?_
  refine lv_iload_n hx hb dL_law_858 rfl (lv_at hl 0 rfl) ?_
  refine lv_iconst (v := 1) hx hb dL_law_859 (by decide) ?_
  refine lv_iadd hx hb dL_law_860 ?_
  refine sldE (v := x1) hx hb hX hbl hbA hS (6 * n + 1) (ix_s1 hn hL) ex1 dL_law_861 ?_
  refine lx_coins C hK hA hG hP hD hS hf hl.1 (fun r8 w H locs hG hP hD hS => ?_)
  refine lv_pop hx hb dL_law_865 rfl ?_
  refine lv_aload_n hx hb dL_law_866 rfl (lv_at hl 1 rfl) ?_
  refine lv_aload_n hx hb dL_law_867 rfl (lv_at hl 3 rfl) ?_
  refine lv_iload_n hx hb dL_law_868 rfl (lv_at hl 0 rfl) ?_
  refine lv_iconst (v := 1) hx hb dL_law_869 (by decide) ?_
  refine lv_iadd hx hb dL_law_870 ?_
  refine sldE (v := x1) hx hb hX hbl hbA hS (6 * n + 1) (ix_s1 hn hL) ex1 dL_law_871 ?_
  refine lm_coins C hK hA hG hP hD hS hf hl.1 (fun r9 w H locs hG hP hD hS => ?_)
  refine lv_pop hx hb dL_law_875 rfl ?_
  refine lv_goto (tgt := 925) hx hb dL_law_876 (by decide) ?_
  exact T w H locs (gd_imp (fun B2 B6 Q5 z8 z5 zd z1 z9 wk ru im => sn_coins (by omega)) hG) hP hD hS

set_option maxHeartbeats 4000000 in
set_option maxRecDepth 100000 in
theorem law_image {b L : Nat} {xs : Nat → Int32} (C : Cx p s m args meth c ML_law) (hX : va_X b L xs s s.heap) (hbl : b < s.heap.size) (hbA : ¬ A b) (hK : KK D a s) (hV : VV adK adV A s s.heap) (hA : ∀ q, s.heap.size ≤ q → A q) {n : Nat} (hn : 6 * n + 6 ≤ L) (hL : L ≤ 3072) (hG : Gd a q8 q9 (JN n) w) (hP : va_P D classes w H) (hD : va_D A w) (hS : va_S A s.heap H locs) (hf : cells + 13 ≤ 600000 ∧ slots + 441 ≤ 7302250) (hl : lv_has ls 4 [(3, .int (nI (6 * n))), (2, .ref q9), (1, .ref q8), (0, .ref b)])
    (T : ∀ (w1 : va_W) (H1 : Heap) (locs1 : List Loc), Gd a q8 q9 (JN (n + 1)) w1 → va_P D classes w1 H1 → va_D A w1 → va_S A s.heap H1 locs1 → W p l e room_1 s m args below meth c H1 locs1 (cells + 13) (slots + 441) Q (F0 m 925 ls [])) : W p l e room_1 s m args below meth c H locs cells slots Q (F0 m 879 ls []) := by
  obtain ⟨hx, hb, hml, hown, hts, hr, hlocks, hnm⟩ := id C
  have hb : c.code = cL_law := hb
  obtain ⟨x1, ex1⟩ : ∃ z : Int32, z = xs (6 * n + 1) := ⟨_, rfl⟩
  refine lv_aload_n hx hb dL_law_879 rfl (lv_at hl 2 rfl) ?_
  refine lv_aload_n hx hb dL_law_880 rfl (lv_at hl 3 rfl) ?_
  refine lv_iload_n hx hb dL_law_881 rfl (lv_at hl 0 rfl) ?_
  refine lv_iconst (v := 1) hx hb dL_law_882 (by decide) ?_
  refine lv_iadd hx hb dL_law_883 ?_
  refine sldE (v := x1) hx hb hX hbl hbA hS (6 * n + 1) (ix_s1 hn hL) ex1 dL_law_884 ?_
  refine lx_image C hK hA hG hP hD hS hf hl.1 (fun r8 w H locs hG hP hD hS => ?_)
  refine lv_pop hx hb dL_law_888 rfl ?_
  refine lv_aload_n hx hb dL_law_889 rfl (lv_at hl 1 rfl) ?_
  refine lv_aload_n hx hb dL_law_890 rfl (lv_at hl 3 rfl) ?_
  refine lv_iload_n hx hb dL_law_891 rfl (lv_at hl 0 rfl) ?_
  refine lv_iconst (v := 1) hx hb dL_law_892 (by decide) ?_
  refine lv_iadd hx hb dL_law_893 ?_
  refine sldE (v := x1) hx hb hX hbl hbA hS (6 * n + 1) (ix_s1 hn hL) ex1 dL_law_894 ?_
  refine lm_image C hK hA hG hP hD hS hf hl.1 (fun r9 w H locs hG hP hD hS => ?_)
  refine lv_pop hx hb dL_law_898 rfl ?_
  refine lv_goto (tgt := 925) hx hb dL_law_899 (by decide) ?_
  exact T w H locs (gd_imp (fun B2 B6 Q5 z8 z5 zd z1 z9 wk ru im => sn_image (by omega)) hG) hP hD hS

set_option maxHeartbeats 4000000 in
set_option maxRecDepth 100000 in
theorem law_back {b L : Nat} {xs : Nat → Int32} (C : Cx p s m args meth c ML_law) (hX : va_X b L xs s s.heap) (hbl : b < s.heap.size) (hbA : ¬ A b) (hK : KK D a s) (hV : VV adK adV A s s.heap) (hA : ∀ q, s.heap.size ≤ q → A q) {n : Nat} (hn : 6 * n + 6 ≤ L) (hL : L ≤ 3072) (hG : Gd a q8 q9 (JN n) w) (hP : va_P D classes w H) (hD : va_D A w) (hS : va_S A s.heap H locs) (hf : cells + 13 ≤ 600000 ∧ slots + 441 ≤ 7302250) (hl : lv_has ls 4 [(3, .int (nI (6 * n))), (2, .ref q9), (1, .ref q8), (0, .ref b)])
    (T : ∀ (w1 : va_W) (H1 : Heap) (locs1 : List Loc), Gd a q8 q9 (JN (n + 1)) w1 → va_P D classes w1 H1 → va_D A w1 → va_S A s.heap H1 locs1 → W p l e room_1 s m args below meth c H1 locs1 (cells + 13) (slots + 441) Q (F0 m 925 ls [])) : W p l e room_1 s m args below meth c H locs cells slots Q (F0 m 902 ls []) := by
  obtain ⟨hx, hb, hml, hown, hts, hr, hlocks, hnm⟩ := id C
  have hb : c.code = cL_law := hb
  obtain ⟨x1, ex1⟩ : ∃ z : Int32, z = xs (6 * n + 1) := ⟨_, rfl⟩
  refine lv_aload_n hx hb dL_law_902 rfl (lv_at hl 2 rfl) ?_
  refine lv_aload_n hx hb dL_law_903 rfl (lv_at hl 3 rfl) ?_
  refine lv_iload_n hx hb dL_law_904 rfl (lv_at hl 0 rfl) ?_
  refine lv_iconst (v := 1) hx hb dL_law_905 (by decide) ?_
  refine lv_iadd hx hb dL_law_906 ?_
  refine sldE (v := x1) hx hb hX hbl hbA hS (6 * n + 1) (ix_s1 hn hL) ex1 dL_law_907 ?_
  refine lx_back C hK hA hG hP hD hS hf hl.1 (fun r8 w H locs hG hP hD hS => ?_)
  refine lv_pop hx hb dL_law_911 rfl ?_
  refine lv_aload_n hx hb dL_law_912 rfl (lv_at hl 1 rfl) ?_
  refine lv_aload_n hx hb dL_law_913 rfl (lv_at hl 3 rfl) ?_
  refine lv_iload_n hx hb dL_law_914 rfl (lv_at hl 0 rfl) ?_
  refine lv_iconst (v := 1) hx hb dL_law_915 (by decide) ?_
  refine lv_iadd hx hb dL_law_916 ?_
  refine sldE (v := x1) hx hb hX hbl hbA hS (6 * n + 1) (ix_s1 hn hL) ex1 dL_law_917 ?_
  refine lm_back C hK hA hG hP hD hS hf hl.1 (fun r9 w H locs hG hP hD hS => ?_)
  refine lv_pop hx hb dL_law_921 rfl ?_
  refine lv_goto (tgt := 925) hx hb dL_law_922 (by decide) ?_
  exact T w H locs (gd_imp (fun B2 B6 Q5 z8 z5 zd z1 z9 wk ru im => sn_back (by omega)) hG) hP hD hS
end LAWX

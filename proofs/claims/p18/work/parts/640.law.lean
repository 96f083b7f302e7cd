section LAWX
variable {p : Program} {l : Launch} {e : Env} {s : State} {m : MethodId} {args : Array Value} {below : List Frame} {meth : Method} {c : Code} {H : Heap} {locs : List Loc} {cells slots : Nat} {Q : State → Prop} {ls : Array Slot} {D : va_G} {a : Nat → ClassId} {A : Nat → Prop} {w : va_W} {q8 q9 : Nat} {adK adV : Nat → Nat}
set_option maxHeartbeats 4000000 in
set_option maxRecDepth 100000 in
theorem law_feed {b L : Nat} {xs : Nat → Int32} (C : Cx p s m args meth c ML_law) (hX : va_X b L xs s s.heap) (hbl : b < s.heap.size) (hbA : ¬ A b) (hK : KK D a s) (hV : VV adK adV A s s.heap) (hA : ∀ q, s.heap.size ≤ q → A q) {n : Nat} (hn : 6 * n + 6 ≤ L) (hL : L ≤ 3072) (hG : Gd a q8 q9 (JN n) w) (hP : va_P D classes w H) (hD : va_D A w) (hS : va_S A s.heap H locs) (hf : cells + 13 ≤ 600000 ∧ slots + 441 ≤ 7302250) (hl : lv_has ls 4 [(3, .int (nI (6 * n))), (2, .ref q9), (1, .ref q8), (0, .ref b)])
    (T : ∀ (w1 : va_W) (H1 : Heap) (locs1 : List Loc), Gd a q8 q9 (JN (n + 1)) w1 → va_P D classes w1 H1 → va_D A w1 → va_S A s.heap H1 locs1 → W p l e room_1 s m args below meth c H1 locs1 (cells + 13) (slots + 441) Q (F0 m 925 ls [])) : W p l e room_1 s m args below meth c H locs cells slots Q (F0 m 160 ls []) := by
  obtain ⟨hx, hb, hml, hown, hts, hr, hlocks, hnm⟩ := id C
  have hb : c.code = cL_law := hb
  obtain ⟨x1, ex1⟩ : ∃ z : Int32, z = xs (6 * n + 1) := ⟨_, rfl⟩
  obtain ⟨x2, ex2⟩ : ∃ z : Int32, z = xs (6 * n + 2) := ⟨_, rfl⟩
  obtain ⟨x3, ex3⟩ : ∃ z : Int32, z = xs (6 * n + 3) := ⟨_, rfl⟩
  obtain ⟨x4, ex4⟩ : ∃ z : Int32, z = xs (6 * n + 4) := ⟨_, rfl⟩
  obtain ⟨x5, ex5⟩ : ∃ z : Int32, z = xs (6 * n + 5) := ⟨_, rfl⟩
  refine lv_aload_n hx hb dL_law_160 rfl (lv_at hl 2 rfl) ?_
  refine lv_aload_n hx hb dL_law_161 rfl (lv_at hl 3 rfl) ?_
  refine lv_iload_n hx hb dL_law_162 rfl (lv_at hl 0 rfl) ?_
  refine lv_iconst (v := 1) hx hb dL_law_163 (by decide) ?_
  refine lv_iadd hx hb dL_law_164 ?_
  refine sldE (v := x1) hx hb hX hbl hbA hS (6 * n + 1) (ix_s1 hn hL) ex1 dL_law_165 ?_
  refine lv_aload_n hx hb dL_law_166 rfl (lv_at hl 3 rfl) ?_
  refine lv_iload_n hx hb dL_law_167 rfl (lv_at hl 0 rfl) ?_
  refine lv_iconst (v := 2) hx hb dL_law_168 (by decide) ?_
  refine lv_iadd hx hb dL_law_169 ?_
  refine sldE (v := x2) hx hb hX hbl hbA hS (6 * n + 2) (ix_s2 hn hL) ex2 dL_law_170 ?_
  refine lv_aload_n hx hb dL_law_171 rfl (lv_at hl 3 rfl) ?_
  refine lv_iload_n hx hb dL_law_172 rfl (lv_at hl 0 rfl) ?_
  refine lv_iconst (v := 3) hx hb dL_law_173 (by decide) ?_
  refine lv_iadd hx hb dL_law_174 ?_
  refine sldE (v := x3) hx hb hX hbl hbA hS (6 * n + 3) (ix_s3 hn hL) ex3 dL_law_175 ?_
  refine lv_aload_n hx hb dL_law_176 rfl (lv_at hl 3 rfl) ?_
  refine lv_iload_n hx hb dL_law_177 rfl (lv_at hl 0 rfl) ?_
  refine lv_iconst (v := 4) hx hb dL_law_178 (by decide) ?_
  refine lv_iadd hx hb dL_law_179 ?_
  refine sldE (v := x4) hx hb hX hbl hbA hS (6 * n + 4) (ix_s4 hn hL) ex4 dL_law_180 ?_
  refine lv_aload_n hx hb dL_law_181 rfl (lv_at hl 3 rfl) ?_
  refine lv_iload_n hx hb dL_law_182 rfl (lv_at hl 0 rfl) ?_
  refine lv_iconst (v := 5) hx hb dL_law_183 (by decide) ?_
  refine lv_iadd hx hb dL_law_184 ?_
  refine sldE (v := x5) hx hb hX hbl hbA hS (6 * n + 5) (ix_s5 hn hL) ex5 dL_law_185 ?_
  refine lx_feed C hK hA hG hP hD hS hf hl.1 (fun r8 w H locs hG hP hD hS => ?_)
  refine lv_pop hx hb dL_law_189 rfl ?_
  refine lv_aload_n hx hb dL_law_190 rfl (lv_at hl 1 rfl) ?_
  refine lv_aload_n hx hb dL_law_191 rfl (lv_at hl 3 rfl) ?_
  refine lv_iload_n hx hb dL_law_192 rfl (lv_at hl 0 rfl) ?_
  refine lv_iconst (v := 1) hx hb dL_law_193 (by decide) ?_
  refine lv_iadd hx hb dL_law_194 ?_
  refine sldE (v := x1) hx hb hX hbl hbA hS (6 * n + 1) (ix_s1 hn hL) ex1 dL_law_195 ?_
  refine lv_aload_n hx hb dL_law_196 rfl (lv_at hl 3 rfl) ?_
  refine lv_iload_n hx hb dL_law_197 rfl (lv_at hl 0 rfl) ?_
  refine lv_iconst (v := 2) hx hb dL_law_198 (by decide) ?_
  refine lv_iadd hx hb dL_law_199 ?_
  refine sldE (v := x2) hx hb hX hbl hbA hS (6 * n + 2) (ix_s2 hn hL) ex2 dL_law_200 ?_
  refine lv_aload_n hx hb dL_law_201 rfl (lv_at hl 3 rfl) ?_
  refine lv_iload_n hx hb dL_law_202 rfl (lv_at hl 0 rfl) ?_
  refine lv_iconst (v := 3) hx hb dL_law_203 (by decide) ?_
  refine lv_iadd hx hb dL_law_204 ?_
  refine sldE (v := x3) hx hb hX hbl hbA hS (6 * n + 3) (ix_s3 hn hL) ex3 dL_law_205 ?_
  refine lv_aload_n hx hb dL_law_206 rfl (lv_at hl 3 rfl) ?_
  refine lv_iload_n hx hb dL_law_207 rfl (lv_at hl 0 rfl) ?_
  refine lv_iconst (v := 4) hx hb dL_law_208 (by decide) ?_
  refine lv_iadd hx hb dL_law_209 ?_
  refine sldE (v := x4) hx hb hX hbl hbA hS (6 * n + 4) (ix_s4 hn hL) ex4 dL_law_210 ?_
  refine lv_aload_n hx hb dL_law_211 rfl (lv_at hl 3 rfl) ?_
  refine lv_iload_n hx hb dL_law_212 rfl (lv_at hl 0 rfl) ?_
  refine lv_iconst (v := 5) hx hb dL_law_213 (by decide) ?_
  refine lv_iadd hx hb dL_law_214 ?_
  refine sldE (v := x5) hx hb hX hbl hbA hS (6 * n + 5) (ix_s5 hn hL) ex5 dL_law_215 ?_
  refine lm_feed C hK hA hG hP hD hS hf hl.1 (fun r9 w H locs hG hP hD hS => ?_)
  refine lv_pop hx hb dL_law_219 rfl ?_
  refine lv_goto (tgt := 925) hx hb dL_law_220 (by decide) ?_
  exact T w H locs (gd_imp (fun B2 B6 Q5 z8 z5 zd z1 z9 wk ru im => sn_feed (by omega)) hG) hP hD hS

set_option maxHeartbeats 4000000 in
set_option maxRecDepth 100000 in
theorem law_end {b L : Nat} {xs : Nat → Int32} (C : Cx p s m args meth c ML_law) (hX : va_X b L xs s s.heap) (hbl : b < s.heap.size) (hbA : ¬ A b) (hK : KK D a s) (hV : VV adK adV A s s.heap) (hA : ∀ q, s.heap.size ≤ q → A q) {n : Nat} (hn : 6 * n + 6 ≤ L) (hL : L ≤ 3072) (hG : Gd a q8 q9 (JN n) w) (hP : va_P D classes w H) (hD : va_D A w) (hS : va_S A s.heap H locs) (hf : cells + 13 ≤ 600000 ∧ slots + 441 ≤ 7302250) (hl : lv_has ls 4 [(3, .int (nI (6 * n))), (2, .ref q9), (1, .ref q8), (0, .ref b)])
    (T : ∀ (w1 : va_W) (H1 : Heap) (locs1 : List Loc), Gd a q8 q9 (JN (n + 1)) w1 → va_P D classes w1 H1 → va_D A w1 → va_S A s.heap H1 locs1 → W p l e room_1 s m args below meth c H1 locs1 (cells + 13) (slots + 441) Q (F0 m 925 ls [])) : W p l e room_1 s m args below meth c H locs cells slots Q (F0 m 223 ls []) := by
  obtain ⟨hx, hb, hml, hown, hts, hr, hlocks, hnm⟩ := id C
  have hb : c.code = cL_law := hb
  obtain ⟨x1, ex1⟩ : ∃ z : Int32, z = xs (6 * n + 1) := ⟨_, rfl⟩
  refine lv_aload_n hx hb dL_law_223 rfl (lv_at hl 2 rfl) ?_
  refine lv_aload_n hx hb dL_law_224 rfl (lv_at hl 3 rfl) ?_
  refine lv_iload_n hx hb dL_law_225 rfl (lv_at hl 0 rfl) ?_
  refine lv_iconst (v := 1) hx hb dL_law_226 (by decide) ?_
  refine lv_iadd hx hb dL_law_227 ?_
  refine sldE (v := x1) hx hb hX hbl hbA hS (6 * n + 1) (ix_s1 hn hL) ex1 dL_law_228 ?_
  refine lx_end C hK hA hG hP hD hS hf hl.1 (fun r8 w H locs hG hP hD hS => ?_)
  refine lv_pop hx hb dL_law_232 rfl ?_
  refine lv_aload_n hx hb dL_law_233 rfl (lv_at hl 1 rfl) ?_
  refine lv_aload_n hx hb dL_law_234 rfl (lv_at hl 3 rfl) ?_
  refine lv_iload_n hx hb dL_law_235 rfl (lv_at hl 0 rfl) ?_
  refine lv_iconst (v := 1) hx hb dL_law_236 (by decide) ?_
  refine lv_iadd hx hb dL_law_237 ?_
  refine sldE (v := x1) hx hb hX hbl hbA hS (6 * n + 1) (ix_s1 hn hL) ex1 dL_law_238 ?_
  refine lm_end C hK hA hG hP hD hS hf hl.1 (fun r9 w H locs hG hP hD hS => ?_)
  refine lv_pop hx hb dL_law_242 rfl ?_
  refine lv_goto (tgt := 925) hx hb dL_law_243 (by decide) ?_
  exact T w H locs (gd_imp (fun B2 B6 Q5 z8 z5 zd z1 z9 wk ru im => sn_end (by omega)) hG) hP hD hS

set_option maxHeartbeats 4000000 in
set_option maxRecDepth 100000 in
theorem law_work {b L : Nat} {xs : Nat → Int32} (C : Cx p s m args meth c ML_law) (hX : va_X b L xs s s.heap) (hbl : b < s.heap.size) (hbA : ¬ A b) (hK : KK D a s) (hV : VV adK adV A s s.heap) (hA : ∀ q, s.heap.size ≤ q → A q) {n : Nat} (hn : 6 * n + 6 ≤ L) (hL : L ≤ 3072) (hG : Gd a q8 q9 (JN n) w) (hP : va_P D classes w H) (hD : va_D A w) (hS : va_S A s.heap H locs) (hf : cells + 13 ≤ 600000 ∧ slots + 441 ≤ 7302250) (hl : lv_has ls 4 [(3, .int (nI (6 * n))), (2, .ref q9), (1, .ref q8), (0, .ref b)])
    (T : ∀ (w1 : va_W) (H1 : Heap) (locs1 : List Loc), Gd a q8 q9 (JN (n + 1)) w1 → va_P D classes w1 H1 → va_D A w1 → va_S A s.heap H1 locs1 → W p l e room_1 s m args below meth c H1 locs1 (cells + 13) (slots + 441) Q (F0 m 925 ls [])) : W p l e room_1 s m args below meth c H locs cells slots Q (F0 m 246 ls []) := by
  obtain ⟨hx, hb, hml, hown, hts, hr, hlocks, hnm⟩ := id C
  have hb : c.code = cL_law := hb
  refine lv_aload_n hx hb dL_law_246 rfl (lv_at hl 2 rfl) ?_
  refine lx_work C hK hV hA hG hP hD hS hf hl.1 (fun r8 w H locs hG hP hD hS => ?_)
  refine lv_pop hx hb dL_law_250 rfl ?_
  refine lv_aload_n hx hb dL_law_251 rfl (lv_at hl 1 rfl) ?_
  refine lm_work C hK hA hG hP hD hS hf hl.1 (fun r9 w H locs hG hP hD hS => ?_)
  refine lv_pop hx hb dL_law_255 rfl ?_
  refine lv_goto (tgt := 925) hx hb dL_law_256 (by decide) ?_
  exact T w H locs (gd_imp (fun B2 B6 Q5 z8 z5 zd z1 z9 wk ru im => sn_work (by omega)) hG) hP hD hS

set_option maxHeartbeats 4000000 in
set_option maxRecDepth 100000 in
theorem law_rule {b L : Nat} {xs : Nat → Int32} (C : Cx p s m args meth c ML_law) (hX : va_X b L xs s s.heap) (hbl : b < s.heap.size) (hbA : ¬ A b) (hK : KK D a s) (hV : VV adK adV A s s.heap) (hA : ∀ q, s.heap.size ≤ q → A q) {n : Nat} (hn : 6 * n + 6 ≤ L) (hL : L ≤ 3072) (hG : Gd a q8 q9 (JN n) w) (hP : va_P D classes w H) (hD : va_D A w) (hS : va_S A s.heap H locs) (hf : cells + 13 ≤ 600000 ∧ slots + 441 ≤ 7302250) (hl : lv_has ls 4 [(3, .int (nI (6 * n))), (2, .ref q9), (1, .ref q8), (0, .ref b)])
    (T : ∀ (w1 : va_W) (H1 : Heap) (locs1 : List Loc), Gd a q8 q9 (JN (n + 1)) w1 → va_P D classes w1 H1 → va_D A w1 → va_S A s.heap H1 locs1 → W p l e room_1 s m args below meth c H1 locs1 (cells + 13) (slots + 441) Q (F0 m 925 ls [])) : W p l e room_1 s m args below meth c H locs cells slots Q (F0 m 259 ls []) := by
  obtain ⟨hx, hb, hml, hown, hts, hr, hlocks, hnm⟩ := id C
  have hb : c.code = cL_law := hb
  refine lv_aload_n hx hb dL_law_259 rfl (lv_at hl 2 rfl) ?_
  refine lx_rule C hK hV hA hG hP hD hS hf hl.1 (fun r8 w H locs hG hP hD hS => ?_)
  refine lv_pop hx hb dL_law_263 rfl ?_
  refine lv_aload_n hx hb dL_law_264 rfl (lv_at hl 1 rfl) ?_
  refine lm_rule C hK hA hG hP hD hS hf hl.1 (fun r9 w H locs hG hP hD hS => ?_)
  refine lv_pop hx hb dL_law_268 rfl ?_
  refine lv_goto (tgt := 925) hx hb dL_law_269 (by decide) ?_
  exact T w H locs (gd_imp (fun B2 B6 Q5 z8 z5 zd z1 z9 wk ru im => sn_rule (by omega)) hG) hP hD hS

set_option maxHeartbeats 4000000 in
set_option maxRecDepth 100000 in
theorem law_kind {b L : Nat} {xs : Nat → Int32} (C : Cx p s m args meth c ML_law) (hX : va_X b L xs s s.heap) (hbl : b < s.heap.size) (hbA : ¬ A b) (hK : KK D a s) (hV : VV adK adV A s s.heap) (hA : ∀ q, s.heap.size ≤ q → A q) {n : Nat} (hn : 6 * n + 6 ≤ L) (hL : L ≤ 3072) (hG : Gd a q8 q9 (JN n) w) (hP : va_P D classes w H) (hD : va_D A w) (hS : va_S A s.heap H locs) (hf : cells + 13 ≤ 600000 ∧ slots + 441 ≤ 7302250) (hl : lv_has ls 4 [(3, .int (nI (6 * n))), (2, .ref q9), (1, .ref q8), (0, .ref b)])
    (T : ∀ (w1 : va_W) (H1 : Heap) (locs1 : List Loc), Gd a q8 q9 (JN (n + 1)) w1 → va_P D classes w1 H1 → va_D A w1 → va_S A s.heap H1 locs1 → W p l e room_1 s m args below meth c H1 locs1 (cells + 13) (slots + 441) Q (F0 m 925 ls [])) : W p l e room_1 s m args below meth c H locs cells slots Q (F0 m 272 ls []) := by
  obtain ⟨hx, hb, hml, hown, hts, hr, hlocks, hnm⟩ := id C
  have hb : c.code = cL_law := hb
  obtain ⟨x1, ex1⟩ : ∃ z : Int32, z = xs (6 * n + 1) := ⟨_, rfl⟩
  obtain ⟨x2, ex2⟩ : ∃ z : Int32, z = xs (6 * n + 2) := ⟨_, rfl⟩
  refine lv_aload_n hx hb dL_law_272 rfl (lv_at hl 2 rfl) ?_
  refine lv_aload_n hx hb dL_law_273 rfl (lv_at hl 3 rfl) ?_
  refine lv_iload_n hx hb dL_law_274 rfl (lv_at hl 0 rfl) ?_
  refine lv_iconst (v := 1) hx hb dL_law_275 (by decide) ?_
  refine lv_iadd hx hb dL_law_276 ?_
  refine sldE (v := x1) hx hb hX hbl hbA hS (6 * n + 1) (ix_s1 hn hL) ex1 dL_law_277 ?_
  refine lv_aload_n hx hb dL_law_278 rfl (lv_at hl 3 rfl) ?_
  refine lv_iload_n hx hb dL_law_279 rfl (lv_at hl 0 rfl) ?_
  refine lv_iconst (v := 2) hx hb dL_law_280 (by decide) ?_
  refine lv_iadd hx hb dL_law_281 ?_
  refine sldE (v := x2) hx hb hX hbl hbA hS (6 * n + 2) (ix_s2 hn hL) ex2 dL_law_282 ?_
  refine lx_kind C hK hA hG hP hD hS hf hl.1 (fun r8 w H locs hG hP hD hS => ?_)
  refine lv_pop hx hb dL_law_286 rfl ?_
  refine lv_aload_n hx hb dL_law_287 rfl (lv_at hl 1 rfl) ?_
  refine lv_aload_n hx hb dL_law_288 rfl (lv_at hl 3 rfl) ?_
  refine lv_iload_n hx hb dL_law_289 rfl (lv_at hl 0 rfl) ?_
  refine lv_iconst (v := 1) hx hb dL_law_290 (by decide) ?_
  refine lv_iadd hx hb dL_law_291 ?_
  refine sldE (v := x1) hx hb hX hbl hbA hS (6 * n + 1) (ix_s1 hn hL) ex1 dL_law_292 ?_
  refine lv_aload_n hx hb dL_law_293 rfl (lv_at hl 3 rfl) ?_
  refine lv_iload_n hx hb dL_law_294 rfl (lv_at hl 0 rfl) ?_
  refine lv_iconst (v := 2) hx hb dL_law_295 (by decide) ?_
  refine lv_iadd hx hb dL_law_296 ?_
  refine sldE (v := x2) hx hb hX hbl hbA hS (6 * n + 2) (ix_s2 hn hL) ex2 dL_law_297 ?_
  refine lm_kind C hK hA hG hP hD hS hf hl.1 (fun r9 w H locs hG hP hD hS => ?_)
  refine lv_pop hx hb dL_law_301 rfl ?_
  refine lv_goto (tgt := 925) hx hb dL_law_302 (by decide) ?_
  exact T w H locs (gd_imp (fun B2 B6 Q5 z8 z5 zd z1 z9 wk ru im => sn_kind (by omega)) hG) hP hD hS

set_option maxHeartbeats 4000000 in
set_option maxRecDepth 100000 in
theorem law_fault {b L : Nat} {xs : Nat → Int32} (C : Cx p s m args meth c ML_law) (hX : va_X b L xs s s.heap) (hbl : b < s.heap.size) (hbA : ¬ A b) (hK : KK D a s) (hV : VV adK adV A s s.heap) (hA : ∀ q, s.heap.size ≤ q → A q) {n : Nat} (hn : 6 * n + 6 ≤ L) (hL : L ≤ 3072) (hG : Gd a q8 q9 (JN n) w) (hP : va_P D classes w H) (hD : va_D A w) (hS : va_S A s.heap H locs) (hf : cells + 13 ≤ 600000 ∧ slots + 441 ≤ 7302250) (hl : lv_has ls 4 [(3, .int (nI (6 * n))), (2, .ref q9), (1, .ref q8), (0, .ref b)])
    (T : ∀ (w1 : va_W) (H1 : Heap) (locs1 : List Loc), Gd a q8 q9 (JN (n + 1)) w1 → va_P D classes w1 H1 → va_D A w1 → va_S A s.heap H1 locs1 → W p l e room_1 s m args below meth c H1 locs1 (cells + 13) (slots + 441) Q (F0 m 925 ls [])) : W p l e room_1 s m args below meth c H locs cells slots Q (F0 m 305 ls []) := by
  obtain ⟨hx, hb, hml, hown, hts, hr, hlocks, hnm⟩ := id C
  have hb : c.code = cL_law := hb
  obtain ⟨x1, ex1⟩ : ∃ z : Int32, z = xs (6 * n + 1) := ⟨_, rfl⟩
  obtain ⟨x2, ex2⟩ : ∃ z : Int32, z = xs (6 * n + 2) := ⟨_, rfl⟩
  refine lv_aload_n hx hb dL_law_305 rfl (lv_at hl 2 rfl) ?_
  refine lv_aload_n hx hb dL_law_306 rfl (lv_at hl 3 rfl) ?_
  refine lv_iload_n hx hb dL_law_307 rfl (lv_at hl 0 rfl) ?_
  refine lv_iconst (v := 1) hx hb dL_law_308 (by decide) ?_
  refine lv_iadd hx hb dL_law_309 ?_
  refine sldE (v := x1) hx hb hX hbl hbA hS (6 * n + 1) (ix_s1 hn hL) ex1 dL_law_310 ?_
  refine lv_aload_n hx hb dL_law_311 rfl (lv_at hl 3 rfl) ?_
  refine lv_iload_n hx hb dL_law_312 rfl (lv_at hl 0 rfl) ?_
  refine lv_iconst (v := 2) hx hb dL_law_313 (by decide) ?_
  refine lv_iadd hx hb dL_law_314 ?_
  refine sldE (v := x2) hx hb hX hbl hbA hS (6 * n + 2) (ix_s2 hn hL) ex2 dL_law_315 ?_
  refine lx_fault C hK hA hG hP hD hS hf hl.1 (fun r8 w H locs hG hP hD hS => ?_)
  refine lv_pop hx hb dL_law_319 rfl ?_
  refine lv_aload_n hx hb dL_law_320 rfl (lv_at hl 1 rfl) ?_
  refine lv_aload_n hx hb dL_law_321 rfl (lv_at hl 3 rfl) ?_
  refine lv_iload_n hx hb dL_law_322 rfl (lv_at hl 0 rfl) ?_
  refine lv_iconst (v := 1) hx hb dL_law_323 (by decide) ?_
  refine lv_iadd hx hb dL_law_324 ?_
  refine sldE (v := x1) hx hb hX hbl hbA hS (6 * n + 1) (ix_s1 hn hL) ex1 dL_law_325 ?_
  refine lv_aload_n hx hb dL_law_326 rfl (lv_at hl 3 rfl) ?_
  refine lv_iload_n hx hb dL_law_327 rfl (lv_at hl 0 rfl) ?_
  refine lv_iconst (v := 2) hx hb dL_law_328 (by decide) ?_
  refine lv_iadd hx hb dL_law_329 ?_
  refine sldE (v := x2) hx hb hX hbl hbA hS (6 * n + 2) (ix_s2 hn hL) ex2 dL_law_330 ?_
  refine lm_fault C hK hA hG hP hD hS hf hl.1 (fun r9 w H locs hG hP hD hS => ?_)
  refine lv_pop hx hb dL_law_334 rfl ?_
  refine lv_goto (tgt := 925) hx hb dL_law_335 (by decide) ?_
  exact T w H locs (gd_imp (fun B2 B6 Q5 z8 z5 zd z1 z9 wk ru im => sn_fault (by omega)) hG) hP hD hS

set_option maxHeartbeats 4000000 in
set_option maxRecDepth 100000 in
theorem law_look {b L : Nat} {xs : Nat → Int32} (C : Cx p s m args meth c ML_law) (hX : va_X b L xs s s.heap) (hbl : b < s.heap.size) (hbA : ¬ A b) (hK : KK D a s) (hV : VV adK adV A s s.heap) (hA : ∀ q, s.heap.size ≤ q → A q) {n : Nat} (hn : 6 * n + 6 ≤ L) (hL : L ≤ 3072) (hG : Gd a q8 q9 (JN n) w) (hP : va_P D classes w H) (hD : va_D A w) (hS : va_S A s.heap H locs) (hf : cells + 13 ≤ 600000 ∧ slots + 441 ≤ 7302250) (hl : lv_has ls 4 [(3, .int (nI (6 * n))), (2, .ref q9), (1, .ref q8), (0, .ref b)])
    (T : ∀ (w1 : va_W) (H1 : Heap) (locs1 : List Loc), Gd a q8 q9 (JN (n + 1)) w1 → va_P D classes w1 H1 → va_D A w1 → va_S A s.heap H1 locs1 → W p l e room_1 s m args below meth c H1 locs1 (cells + 13) (slots + 441) Q (F0 m 925 ls [])) : W p l e room_1 s m args below meth c H locs cells slots Q (F0 m 338 ls []) := by
  obtain ⟨hx, hb, hml, hown, hts, hr, hlocks, hnm⟩ := id C
  have hb : c.code = cL_law := hb
  obtain ⟨x1, ex1⟩ : ∃ z : Int32, z = xs (6 * n + 1) := ⟨_, rfl⟩
  refine lv_aload_n hx hb dL_law_338 rfl (lv_at hl 2 rfl) ?_
  refine lv_aload_n hx hb dL_law_339 rfl (lv_at hl 3 rfl) ?_
  refine lv_iload_n hx hb dL_law_340 rfl (lv_at hl 0 rfl) ?_
  refine lv_iconst (v := 1) hx hb dL_law_341 (by decide) ?_
  refine lv_iadd hx hb dL_law_342 ?_
  refine sldE (v := x1) hx hb hX hbl hbA hS (6 * n + 1) (ix_s1 hn hL) ex1 dL_law_343 ?_
  refine lx_look C hK hA hG hP hD hS hf hl.1 (fun r8 w H locs hG hP hD hS => ?_)
  refine lv_pop hx hb dL_law_347 rfl ?_
  refine lv_aload_n hx hb dL_law_348 rfl (lv_at hl 1 rfl) ?_
  refine lv_aload_n hx hb dL_law_349 rfl (lv_at hl 3 rfl) ?_
  refine lv_iload_n hx hb dL_law_350 rfl (lv_at hl 0 rfl) ?_
  refine lv_iconst (v := 1) hx hb dL_law_351 (by decide) ?_
  refine lv_iadd hx hb dL_law_352 ?_
  refine sldE (v := x1) hx hb hX hbl hbA hS (6 * n + 1) (ix_s1 hn hL) ex1 dL_law_353 ?_
  refine lm_look C hK hA hG hP hD hS hf hl.1 (fun r9 w H locs hG hP hD hS => ?_)
  refine lv_pop hx hb dL_law_357 rfl ?_
  refine lv_goto (tgt := 925) hx hb dL_law_358 (by decide) ?_
  exact T w H locs (gd_imp (fun B2 B6 Q5 z8 z5 zd z1 z9 wk ru im => sn_look (by omega)) hG) hP hD hS
end LAWX

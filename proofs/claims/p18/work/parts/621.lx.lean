section LAWX
variable {p : Program} {l : Launch} {e : Env} {s : State} {m : MethodId} {args : Array Value} {below : List Frame} {meth : Method} {c : Code} {H : Heap} {locs : List Loc} {cells slots : Nat} {Q : State → Prop} {ls : Array Slot} {D : va_G} {a : Nat → ClassId} {A : Nat → Prop} {w : va_W} {q8 q9 : Nat} {adK adV : Nat → Nat}
set_option maxHeartbeats 4000000 in
set_option maxRecDepth 100000 in
theorem lx_kind (C : Cx p s m args meth c ML_law) (hK : KK D a s) (hA : ∀ q, s.heap.size ≤ q → A q) {J : CT} (hG : Gd a q8 q9 J w) (hP : va_P D classes w H) (hD : va_D A w) (hS : va_S A s.heap H locs) (hf : cells + 13 ≤ 600000 ∧ slots + 441 ≤ 7302250) (hls : ls.size = 4) {x1 : Int32} {x2 : Int32}
    (kk : ∀ (r : Int32) (w1 : va_W) (H1 : Heap) (locs1 : List Loc), Gd a q8 q9 (JX_kind J x1 x2 r) w1 → va_P D classes w1 H1 → va_D A w1 → va_S A s.heap H1 locs1 → W p l e room_1 s m args below meth c H1 locs1 (cells + 13) (slots + 441) Q (F0 m 286 ls [.int r])) : W p l e room_1 s m args below meth c H locs cells slots Q (F0 m 283 ls [.int x2, .int x1, .ref q8]) := by
  obtain ⟨hf1, hf2⟩ := hf
  obtain ⟨Q8, z8, B2, B6, Q5, z5, Qd, zd, Qt, zt, Q4, z4, Q6, z6, Q2, z2, Q1, z1, Q9, z9, wk, ru, im, rfl, hI, hJ⟩ := hG
  obtain ⟨⟨qw, Qw, zw⟩, hwm, hqw⟩ := hI.1
  have hqw : qw = Q5 0 := hqw
  subst hqw
  obtain ⟨wkr, hw, -, -⟩ := fm_mem (F7 a) hwm
  have hw : (wk.flatMap (F7 a)).Perm (rc7 a (Q5 0) Qw zw ++ wkr.flatMap (F7 a)) := hw
  obtain ⟨y, hy, -⟩ := t_fX8_kind (z_t := z8) (z_t_5 := z5) (z_t_5_0 := zw) (x1 := x1) (x2 := x2)
  have hp : (WO a q8 q9 Q8 z8 B2 B6 Q5 z5 Qd zd Qt zt Q4 z4 Q6 z6 Q2 z2 Q1 z1 Q9 z9 wk ru im).Perm ((rc8 a q8 Q8 z8 ++ (rc5 a (Q8 5) Q5 z5 ++ (rc7 a (Q5 0) Qw zw))) ++ (rb4 a (Q8 2) 6 B2 ++ (rb5 a (Q8 6) 4 B6 ++ (rc0 a (Q5 1) Qd zd ++ (rc0 a (Q8 7) Qt zt ++ (rc4 a (Q8 8) Q4 z4 ++ (rc6 a (Q4 0) Q6 z6 ++ (rc2 a (Q8 9) Q2 z2 ++ (rc1 a (Q8 10) Q1 z1 ++ (rc9 a q9 Q9 z9 ++ (wkr.flatMap (F7 a) ++ (ru.flatMap (F3 a) ++ (im.flatMap (F5 a)))))))))))))) := pm_x8_x5_w1 (rc8 a q8 Q8 z8) (rb4 a (Q8 2) 6 B2) (rb5 a (Q8 6) 4 B6) (rc5 a (Q8 5) Q5 z5) (rc0 a (Q5 1) Qd zd) (rc0 a (Q8 7) Qt zt) (rc4 a (Q8 8) Q4 z4) (rc6 a (Q4 0) Q6 z6) (rc2 a (Q8 9) Q2 z2) (rc1 a (Q8 10) Q1 z1) (rc9 a q9 Q9 z9) (wk.flatMap (F7 a)) (ru.flatMap (F3 a)) (im.flatMap (F5 a)) (rc7 a (Q5 0) Qw zw) (wkr.flatMap (F7 a)) hw
  refine runRi (As := [.int x1, .int x2]) (rest := []) C hK hP hp (mX8_kind l D a (q_t := q8) (Q_t := Q8) (z_t := z8) (Q_t_5 := Q5) (z_t_5 := z5) (Q_t_5_0 := Qw) (z_t_5_0 := zw) (x1 := x1) (x2 := x2) hy) (recv8 hK hP) lk_V_L_32 okN_X8_kind ⟨Nat.le_of_ble_eq_true rfl, Nat.le_of_ble_eq_true rfl⟩ hls rfl (Nat.le_of_ble_eq_true rfl) dL_law_283 ⟨show cells ≤ 600000 by omega, show slots ≤ 7302250 by omega⟩ ?_
  refine W.widen (k := cells + 13) (n := slots + 441) (by omega) (by omega) ?_
  exact kk _ (WO a q8 q9 Q8 z8 B2 B6 Q5 z5 Qd zd Qt zt Q4 z4 Q6 z6 Q2 z2 Q1 z1 Q9 z9 wk ru im) H locs ⟨Q8, z8, B2, B6, Q5, z5, Qd, zd, Qt, zt, Q4, z4, Q6, z6, Q2, z2, Q1, z1, Q9, z9, wk, ru, im, rfl, hI, ⟨Qw, zw, y, hJ, hI, hwm, hy, rfl⟩⟩ hP hD hS

set_option maxHeartbeats 4000000 in
set_option maxRecDepth 100000 in
theorem lx_fault (C : Cx p s m args meth c ML_law) (hK : KK D a s) (hA : ∀ q, s.heap.size ≤ q → A q) {J : CT} (hG : Gd a q8 q9 J w) (hP : va_P D classes w H) (hD : va_D A w) (hS : va_S A s.heap H locs) (hf : cells + 13 ≤ 600000 ∧ slots + 441 ≤ 7302250) (hls : ls.size = 4) {x1 : Int32} {x2 : Int32}
    (kk : ∀ (r : Int32) (w1 : va_W) (H1 : Heap) (locs1 : List Loc), Gd a q8 q9 (JX_fault J x1 x2 r) w1 → va_P D classes w1 H1 → va_D A w1 → va_S A s.heap H1 locs1 → W p l e room_1 s m args below meth c H1 locs1 (cells + 13) (slots + 441) Q (F0 m 319 ls [.int r])) : W p l e room_1 s m args below meth c H locs cells slots Q (F0 m 316 ls [.int x2, .int x1, .ref q8]) := by
  obtain ⟨hf1, hf2⟩ := hf
  obtain ⟨Q8, z8, B2, B6, Q5, z5, Qd, zd, Qt, zt, Q4, z4, Q6, z6, Q2, z2, Q1, z1, Q9, z9, wk, ru, im, rfl, hI, hJ⟩ := hG
  obtain ⟨⟨qw, Qw, zw⟩, hwm, hqw⟩ := hI.1
  have hqw : qw = Q5 0 := hqw
  subst hqw
  obtain ⟨wkr, hw, -, -⟩ := fm_mem (F7 a) hwm
  have hw : (wk.flatMap (F7 a)).Perm (rc7 a (Q5 0) Qw zw ++ wkr.flatMap (F7 a)) := hw
  obtain ⟨y, hy, -⟩ := t_fX8_fault (z_t := z8) (z_t_5 := z5) (z_t_5_0 := zw) (z_t_5_1 := zd) (x1 := x1) (x2 := x2)
  have hp : (WO a q8 q9 Q8 z8 B2 B6 Q5 z5 Qd zd Qt zt Q4 z4 Q6 z6 Q2 z2 Q1 z1 Q9 z9 wk ru im).Perm ((rc8 a q8 Q8 z8 ++ (rc5 a (Q8 5) Q5 z5 ++ (rc7 a (Q5 0) Qw zw ++ (rc0 a (Q5 1) Qd zd)))) ++ (rb4 a (Q8 2) 6 B2 ++ (rb5 a (Q8 6) 4 B6 ++ (rc0 a (Q8 7) Qt zt ++ (rc4 a (Q8 8) Q4 z4 ++ (rc6 a (Q4 0) Q6 z6 ++ (rc2 a (Q8 9) Q2 z2 ++ (rc1 a (Q8 10) Q1 z1 ++ (rc9 a q9 Q9 z9 ++ (wkr.flatMap (F7 a) ++ (ru.flatMap (F3 a) ++ (im.flatMap (F5 a))))))))))))) := pm_x8_x5_w1_x0 (rc8 a q8 Q8 z8) (rb4 a (Q8 2) 6 B2) (rb5 a (Q8 6) 4 B6) (rc5 a (Q8 5) Q5 z5) (rc0 a (Q5 1) Qd zd) (rc0 a (Q8 7) Qt zt) (rc4 a (Q8 8) Q4 z4) (rc6 a (Q4 0) Q6 z6) (rc2 a (Q8 9) Q2 z2) (rc1 a (Q8 10) Q1 z1) (rc9 a q9 Q9 z9) (wk.flatMap (F7 a)) (ru.flatMap (F3 a)) (im.flatMap (F5 a)) (rc7 a (Q5 0) Qw zw) (wkr.flatMap (F7 a)) hw
  refine runRi (As := [.int x1, .int x2]) (rest := []) C hK hP hp (mX8_fault l D a (q_t := q8) (Q_t := Q8) (z_t := z8) (Q_t_5 := Q5) (z_t_5 := z5) (Q_t_5_0 := Qw) (z_t_5_0 := zw) (Q_t_5_1 := Qd) (z_t_5_1 := zd) (x1 := x1) (x2 := x2) hy) (recv8 hK hP) lk_V_L_37 okN_X8_fault ⟨Nat.le_of_ble_eq_true rfl, Nat.le_of_ble_eq_true rfl⟩ hls rfl (Nat.le_of_ble_eq_true rfl) dL_law_316 ⟨show cells ≤ 600000 by omega, show slots ≤ 7302250 by omega⟩ ?_
  refine W.widen (k := cells + 13) (n := slots + 441) (by omega) (by omega) ?_
  exact kk _ (WO a q8 q9 Q8 z8 B2 B6 Q5 z5 Qd zd Qt zt Q4 z4 Q6 z6 Q2 z2 Q1 z1 Q9 z9 wk ru im) H locs ⟨Q8, z8, B2, B6, Q5, z5, Qd, zd, Qt, zt, Q4, z4, Q6, z6, Q2, z2, Q1, z1, Q9, z9, wk, ru, im, rfl, hI, ⟨Qw, zw, y, hJ, hI, hwm, hy, rfl⟩⟩ hP hD hS

set_option maxHeartbeats 4000000 in
set_option maxRecDepth 100000 in
theorem lx_look (C : Cx p s m args meth c ML_law) (hK : KK D a s) (hA : ∀ q, s.heap.size ≤ q → A q) {J : CT} (hG : Gd a q8 q9 J w) (hP : va_P D classes w H) (hD : va_D A w) (hS : va_S A s.heap H locs) (hf : cells + 13 ≤ 600000 ∧ slots + 441 ≤ 7302250) (hls : ls.size = 4) {x1 : Int32}
    (kk : ∀ (r : Int32) (w1 : va_W) (H1 : Heap) (locs1 : List Loc), Gd a q8 q9 (JX_look J x1 r) w1 → va_P D classes w1 H1 → va_D A w1 → va_S A s.heap H1 locs1 → W p l e room_1 s m args below meth c H1 locs1 (cells + 13) (slots + 441) Q (F0 m 347 ls [.int r])) : W p l e room_1 s m args below meth c H locs cells slots Q (F0 m 344 ls [.int x1, .ref q8]) := by
  obtain ⟨hf1, hf2⟩ := hf
  obtain ⟨Q8, z8, B2, B6, Q5, z5, Qd, zd, Qt, zt, Q4, z4, Q6, z6, Q2, z2, Q1, z1, Q9, z9, wk, ru, im, rfl, hI, hJ⟩ := hG
  obtain ⟨⟨qw, Qw, zw⟩, hwm, hqw⟩ := hI.1
  have hqw : qw = Q5 0 := hqw
  subst hqw
  obtain ⟨wkr, hw, -, -⟩ := fm_mem (F7 a) hwm
  have hw : (wk.flatMap (F7 a)).Perm (rc7 a (Q5 0) Qw zw ++ wkr.flatMap (F7 a)) := hw
  obtain ⟨y, hy, -⟩ := t_fX8_look (z_t := z8) (z_t_5 := z5) (z_t_5_0 := zw) (z_t_5_1 := zd) (x1 := x1)
  have hp : (WO a q8 q9 Q8 z8 B2 B6 Q5 z5 Qd zd Qt zt Q4 z4 Q6 z6 Q2 z2 Q1 z1 Q9 z9 wk ru im).Perm ((rc8 a q8 Q8 z8 ++ (rc5 a (Q8 5) Q5 z5 ++ (rc7 a (Q5 0) Qw zw ++ (rc0 a (Q5 1) Qd zd)))) ++ (rb4 a (Q8 2) 6 B2 ++ (rb5 a (Q8 6) 4 B6 ++ (rc0 a (Q8 7) Qt zt ++ (rc4 a (Q8 8) Q4 z4 ++ (rc6 a (Q4 0) Q6 z6 ++ (rc2 a (Q8 9) Q2 z2 ++ (rc1 a (Q8 10) Q1 z1 ++ (rc9 a q9 Q9 z9 ++ (wkr.flatMap (F7 a) ++ (ru.flatMap (F3 a) ++ (im.flatMap (F5 a))))))))))))) := pm_x8_x5_w1_x0 (rc8 a q8 Q8 z8) (rb4 a (Q8 2) 6 B2) (rb5 a (Q8 6) 4 B6) (rc5 a (Q8 5) Q5 z5) (rc0 a (Q5 1) Qd zd) (rc0 a (Q8 7) Qt zt) (rc4 a (Q8 8) Q4 z4) (rc6 a (Q4 0) Q6 z6) (rc2 a (Q8 9) Q2 z2) (rc1 a (Q8 10) Q1 z1) (rc9 a q9 Q9 z9) (wk.flatMap (F7 a)) (ru.flatMap (F3 a)) (im.flatMap (F5 a)) (rc7 a (Q5 0) Qw zw) (wkr.flatMap (F7 a)) hw
  refine runMi (As := [.int x1]) (rest := []) C hK hP hD hS hA hp (mX8_look l D a (q_t := q8) (Q_t := Q8) (z_t := z8) (Q_t_5 := Q5) (z_t_5 := z5) (Q_t_5_0 := Qw) (z_t_5_0 := zw) (Q_t_5_1 := Qd) (z_t_5_1 := zd) (x1 := x1) hy H.size) (recv8 hK hP) lk_V_L_41 okN_X8_look ⟨Nat.le_of_ble_eq_true rfl, Nat.le_of_ble_eq_true rfl⟩ hls rfl (Nat.le_of_ble_eq_true rfl) dL_law_344 ⟨show cells + 0 ≤ 600000 by omega, show slots + 0 ≤ 7302250 by omega⟩ (fun rv u H locs hrv hP hD hS => ?_)
  have hq : (WO a q8 q9 Q8 z8 B2 B6 Q5 z5 Qd y.2 Qt zt Q4 z4 Q6 z6 Q2 z2 Q1 z1 Q9 z9 wk ru im).Perm ((rc8 a q8 Q8 z8 ++ (rc5 a (Q8 5) Q5 z5 ++ (rc7 a (Q5 0) Qw zw ++ (rc0 a (Q5 1) Qd y.2)))) ++ (rb4 a (Q8 2) 6 B2 ++ (rb5 a (Q8 6) 4 B6 ++ (rc0 a (Q8 7) Qt zt ++ (rc4 a (Q8 8) Q4 z4 ++ (rc6 a (Q4 0) Q6 z6 ++ (rc2 a (Q8 9) Q2 z2 ++ (rc1 a (Q8 10) Q1 z1 ++ (rc9 a q9 Q9 z9 ++ (wkr.flatMap (F7 a) ++ (ru.flatMap (F3 a) ++ (im.flatMap (F5 a))))))))))))) := pm_x8_x5_w1_x0 (rc8 a q8 Q8 z8) (rb4 a (Q8 2) 6 B2) (rb5 a (Q8 6) 4 B6) (rc5 a (Q8 5) Q5 z5) (rc0 a (Q5 1) Qd y.2) (rc0 a (Q8 7) Qt zt) (rc4 a (Q8 8) Q4 z4) (rc6 a (Q4 0) Q6 z6) (rc2 a (Q8 9) Q2 z2) (rc1 a (Q8 10) Q1 z1) (rc9 a q9 Q9 z9) (wk.flatMap (F7 a)) (ru.flatMap (F3 a)) (im.flatMap (F5 a)) (rc7 a (Q5 0) Qw zw) (wkr.flatMap (F7 a)) hw
  refine W.widen (k := cells + 13) (n := slots + 441) (by omega) (by omega) ?_
  exact kk rv (WO a q8 q9 Q8 z8 B2 B6 Q5 z5 Qd y.2 Qt zt Q4 z4 Q6 z6 Q2 z2 Q1 z1 Q9 z9 wk ru im) H locs ⟨Q8, z8, B2, B6, Q5, z5, Qd, y.2, Qt, zt, Q4, z4, Q6, z6, Q2, z2, Q1, z1, Q9, z9, wk, ru, im, rfl, hI, ⟨zd, Qw, zw, y, hJ, hI, hwm, hy, hrv, rfl⟩⟩ (P_perm hP hq.symm) (D_perm hD hq.symm) hS

set_option maxHeartbeats 4000000 in
set_option maxRecDepth 100000 in
theorem lx_fine (C : Cx p s m args meth c ML_law) (hK : KK D a s) (hA : ∀ q, s.heap.size ≤ q → A q) {J : CT} (hG : Gd a q8 q9 J w) (hP : va_P D classes w H) (hD : va_D A w) (hS : va_S A s.heap H locs) (hf : cells + 13 ≤ 600000 ∧ slots + 441 ≤ 7302250) (hls : ls.size = 4) {x1 : Int32}
    (kk : ∀ (r : Int32) (w1 : va_W) (H1 : Heap) (locs1 : List Loc), Gd a q8 q9 (JX_fine J x1 r) w1 → va_P D classes w1 H1 → va_D A w1 → va_S A s.heap H1 locs1 → W p l e room_1 s m args below meth c H1 locs1 (cells + 13) (slots + 441) Q (F0 m 370 ls [.int r])) : W p l e room_1 s m args below meth c H locs cells slots Q (F0 m 367 ls [.int x1, .ref q8]) := by
  obtain ⟨hf1, hf2⟩ := hf
  obtain ⟨Q8, z8, B2, B6, Q5, z5, Qd, zd, Qt, zt, Q4, z4, Q6, z6, Q2, z2, Q1, z1, Q9, z9, wk, ru, im, rfl, hI, hJ⟩ := hG
  obtain ⟨⟨qw, Qw, zw⟩, hwm, hqw⟩ := hI.1
  have hqw : qw = Q5 0 := hqw
  subst hqw
  obtain ⟨wkr, hw, -, -⟩ := fm_mem (F7 a) hwm
  have hw : (wk.flatMap (F7 a)).Perm (rc7 a (Q5 0) Qw zw ++ wkr.flatMap (F7 a)) := hw
  obtain ⟨y, hy, -⟩ := t_fX8_fine (z_t := z8) (z_t_5 := z5) (z_t_5_0 := zw) (z_t_5_1 := zd) (x1 := x1)
  have hp : (WO a q8 q9 Q8 z8 B2 B6 Q5 z5 Qd zd Qt zt Q4 z4 Q6 z6 Q2 z2 Q1 z1 Q9 z9 wk ru im).Perm ((rc8 a q8 Q8 z8 ++ (rc5 a (Q8 5) Q5 z5 ++ (rc7 a (Q5 0) Qw zw ++ (rc0 a (Q5 1) Qd zd)))) ++ (rb4 a (Q8 2) 6 B2 ++ (rb5 a (Q8 6) 4 B6 ++ (rc0 a (Q8 7) Qt zt ++ (rc4 a (Q8 8) Q4 z4 ++ (rc6 a (Q4 0) Q6 z6 ++ (rc2 a (Q8 9) Q2 z2 ++ (rc1 a (Q8 10) Q1 z1 ++ (rc9 a q9 Q9 z9 ++ (wkr.flatMap (F7 a) ++ (ru.flatMap (F3 a) ++ (im.flatMap (F5 a))))))))))))) := pm_x8_x5_w1_x0 (rc8 a q8 Q8 z8) (rb4 a (Q8 2) 6 B2) (rb5 a (Q8 6) 4 B6) (rc5 a (Q8 5) Q5 z5) (rc0 a (Q5 1) Qd zd) (rc0 a (Q8 7) Qt zt) (rc4 a (Q8 8) Q4 z4) (rc6 a (Q4 0) Q6 z6) (rc2 a (Q8 9) Q2 z2) (rc1 a (Q8 10) Q1 z1) (rc9 a q9 Q9 z9) (wk.flatMap (F7 a)) (ru.flatMap (F3 a)) (im.flatMap (F5 a)) (rc7 a (Q5 0) Qw zw) (wkr.flatMap (F7 a)) hw
  refine runMi (As := [.int x1]) (rest := []) C hK hP hD hS hA hp (mX8_fine l D a (q_t := q8) (Q_t := Q8) (z_t := z8) (Q_t_5 := Q5) (z_t_5 := z5) (Q_t_5_0 := Qw) (z_t_5_0 := zw) (Q_t_5_1 := Qd) (z_t_5_1 := zd) (x1 := x1) hy H.size) (recv8 hK hP) lk_V_L_45 okN_X8_fine ⟨Nat.le_of_ble_eq_true rfl, Nat.le_of_ble_eq_true rfl⟩ hls rfl (Nat.le_of_ble_eq_true rfl) dL_law_367 ⟨show cells + 0 ≤ 600000 by omega, show slots + 0 ≤ 7302250 by omega⟩ (fun rv u H locs hrv hP hD hS => ?_)
  have hq : (WO a q8 q9 Q8 z8 B2 B6 Q5 z5 Qd y.2 Qt zt Q4 z4 Q6 z6 Q2 z2 Q1 z1 Q9 z9 wk ru im).Perm ((rc8 a q8 Q8 z8 ++ (rc5 a (Q8 5) Q5 z5 ++ (rc7 a (Q5 0) Qw zw ++ (rc0 a (Q5 1) Qd y.2)))) ++ (rb4 a (Q8 2) 6 B2 ++ (rb5 a (Q8 6) 4 B6 ++ (rc0 a (Q8 7) Qt zt ++ (rc4 a (Q8 8) Q4 z4 ++ (rc6 a (Q4 0) Q6 z6 ++ (rc2 a (Q8 9) Q2 z2 ++ (rc1 a (Q8 10) Q1 z1 ++ (rc9 a q9 Q9 z9 ++ (wkr.flatMap (F7 a) ++ (ru.flatMap (F3 a) ++ (im.flatMap (F5 a))))))))))))) := pm_x8_x5_w1_x0 (rc8 a q8 Q8 z8) (rb4 a (Q8 2) 6 B2) (rb5 a (Q8 6) 4 B6) (rc5 a (Q8 5) Q5 z5) (rc0 a (Q5 1) Qd y.2) (rc0 a (Q8 7) Qt zt) (rc4 a (Q8 8) Q4 z4) (rc6 a (Q4 0) Q6 z6) (rc2 a (Q8 9) Q2 z2) (rc1 a (Q8 10) Q1 z1) (rc9 a q9 Q9 z9) (wk.flatMap (F7 a)) (ru.flatMap (F3 a)) (im.flatMap (F5 a)) (rc7 a (Q5 0) Qw zw) (wkr.flatMap (F7 a)) hw
  refine W.widen (k := cells + 13) (n := slots + 441) (by omega) (by omega) ?_
  exact kk rv (WO a q8 q9 Q8 z8 B2 B6 Q5 z5 Qd y.2 Qt zt Q4 z4 Q6 z6 Q2 z2 Q1 z1 Q9 z9 wk ru im) H locs ⟨Q8, z8, B2, B6, Q5, z5, Qd, y.2, Qt, zt, Q4, z4, Q6, z6, Q2, z2, Q1, z1, Q9, z9, wk, ru, im, rfl, hI, ⟨zd, Qw, zw, y, hJ, hI, hwm, hy, hrv, rfl⟩⟩ (P_perm hP hq.symm) (D_perm hD hq.symm) hS
end LAWX

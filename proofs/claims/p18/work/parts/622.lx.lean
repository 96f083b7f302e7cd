section LAWX
variable {p : Program} {l : Launch} {e : Env} {s : State} {m : MethodId} {args : Array Value} {below : List Frame} {meth : Method} {c : Code} {H : Heap} {locs : List Loc} {cells slots : Nat} {Q : State → Prop} {ls : Array Slot} {D : va_G} {a : Nat → ClassId} {A : Nat → Prop} {w : va_W} {q8 q9 : Nat} {adK adV : Nat → Nat}
set_option maxHeartbeats 4000000 in
set_option maxRecDepth 100000 in
theorem lx_mend (C : Cx p s m args meth c ML_law) (hK : KK D a s) (hA : ∀ q, s.heap.size ≤ q → A q) {J : CT} (hG : Gd a q8 q9 J w) (hP : va_P D classes w H) (hD : va_D A w) (hS : va_S A s.heap H locs) (hf : cells + 13 ≤ 600000 ∧ slots + 441 ≤ 7302250) (hls : ls.size = 4) {x1 : Int32}
    (kk : ∀ (r : Int32) (w1 : va_W) (H1 : Heap) (locs1 : List Loc), Gd a q8 q9 (JX_mend J x1 r) w1 → va_P D classes w1 H1 → va_D A w1 → va_S A s.heap H1 locs1 → W p l e room_1 s m args below meth c H1 locs1 (cells + 13) (slots + 441) Q (F0 m 393 ls [.int r])) : W p l e room_1 s m args below meth c H locs cells slots Q (F0 m 390 ls [.int x1, .ref q8]) := by
  obtain ⟨hf1, hf2⟩ := hf
  obtain ⟨Q8, z8, B2, B6, Q5, z5, Qd, zd, Qt, zt, Q4, z4, Q6, z6, Q2, z2, Q1, z1, Q9, z9, wk, ru, im, rfl, hI, hJ⟩ := hG
  obtain ⟨⟨qw, Qw, zw⟩, hwm, hqw⟩ := hI.1
  have hqw : qw = Q5 0 := hqw
  subst hqw
  obtain ⟨wkr, hw, -, -⟩ := fm_mem (F7 a) hwm
  have hw : (wk.flatMap (F7 a)).Perm (rc7 a (Q5 0) Qw zw ++ wkr.flatMap (F7 a)) := hw
  obtain ⟨y, hy, -⟩ := t_fX8_mend (z_t := z8) (z_t_5 := z5) (z_t_5_0 := zw) (z_t_5_1 := zd) (x1 := x1)
  have hp : (WO a q8 q9 Q8 z8 B2 B6 Q5 z5 Qd zd Qt zt Q4 z4 Q6 z6 Q2 z2 Q1 z1 Q9 z9 wk ru im).Perm ((rc8 a q8 Q8 z8 ++ (rc5 a (Q8 5) Q5 z5 ++ (rc7 a (Q5 0) Qw zw ++ (rc0 a (Q5 1) Qd zd)))) ++ (rb4 a (Q8 2) 6 B2 ++ (rb5 a (Q8 6) 4 B6 ++ (rc0 a (Q8 7) Qt zt ++ (rc4 a (Q8 8) Q4 z4 ++ (rc6 a (Q4 0) Q6 z6 ++ (rc2 a (Q8 9) Q2 z2 ++ (rc1 a (Q8 10) Q1 z1 ++ (rc9 a q9 Q9 z9 ++ (wkr.flatMap (F7 a) ++ (ru.flatMap (F3 a) ++ (im.flatMap (F5 a))))))))))))) := pm_x8_x5_w1_x0 (rc8 a q8 Q8 z8) (rb4 a (Q8 2) 6 B2) (rb5 a (Q8 6) 4 B6) (rc5 a (Q8 5) Q5 z5) (rc0 a (Q5 1) Qd zd) (rc0 a (Q8 7) Qt zt) (rc4 a (Q8 8) Q4 z4) (rc6 a (Q4 0) Q6 z6) (rc2 a (Q8 9) Q2 z2) (rc1 a (Q8 10) Q1 z1) (rc9 a q9 Q9 z9) (wk.flatMap (F7 a)) (ru.flatMap (F3 a)) (im.flatMap (F5 a)) (rc7 a (Q5 0) Qw zw) (wkr.flatMap (F7 a)) hw
  refine runMi (As := [.int x1]) (rest := []) C hK hP hD hS hA hp (mX8_mend l D a (q_t := q8) (Q_t := Q8) (z_t := z8) (Q_t_5 := Q5) (z_t_5 := z5) (Q_t_5_0 := Qw) (z_t_5_0 := zw) (Q_t_5_1 := Qd) (z_t_5_1 := zd) (x1 := x1) hy H.size) (recv8 hK hP) lk_V_L_49 okN_X8_mend ⟨Nat.le_of_ble_eq_true rfl, Nat.le_of_ble_eq_true rfl⟩ hls rfl (Nat.le_of_ble_eq_true rfl) dL_law_390 ⟨show cells + 0 ≤ 600000 by omega, show slots + 0 ≤ 7302250 by omega⟩ (fun rv u H locs hrv hP hD hS => ?_)
  have hq : (WO a q8 q9 Q8 z8 B2 B6 Q5 y.2.1 Qd y.2.2 Qt zt Q4 z4 Q6 z6 Q2 z2 Q1 z1 Q9 z9 wk ru im).Perm ((rc8 a q8 Q8 z8 ++ (rc5 a (Q8 5) Q5 y.2.1 ++ (rc7 a (Q5 0) Qw zw ++ (rc0 a (Q5 1) Qd y.2.2)))) ++ (rb4 a (Q8 2) 6 B2 ++ (rb5 a (Q8 6) 4 B6 ++ (rc0 a (Q8 7) Qt zt ++ (rc4 a (Q8 8) Q4 z4 ++ (rc6 a (Q4 0) Q6 z6 ++ (rc2 a (Q8 9) Q2 z2 ++ (rc1 a (Q8 10) Q1 z1 ++ (rc9 a q9 Q9 z9 ++ (wkr.flatMap (F7 a) ++ (ru.flatMap (F3 a) ++ (im.flatMap (F5 a))))))))))))) := pm_x8_x5_w1_x0 (rc8 a q8 Q8 z8) (rb4 a (Q8 2) 6 B2) (rb5 a (Q8 6) 4 B6) (rc5 a (Q8 5) Q5 y.2.1) (rc0 a (Q5 1) Qd y.2.2) (rc0 a (Q8 7) Qt zt) (rc4 a (Q8 8) Q4 z4) (rc6 a (Q4 0) Q6 z6) (rc2 a (Q8 9) Q2 z2) (rc1 a (Q8 10) Q1 z1) (rc9 a q9 Q9 z9) (wk.flatMap (F7 a)) (ru.flatMap (F3 a)) (im.flatMap (F5 a)) (rc7 a (Q5 0) Qw zw) (wkr.flatMap (F7 a)) hw
  refine W.widen (k := cells + 13) (n := slots + 441) (by omega) (by omega) ?_
  exact kk rv (WO a q8 q9 Q8 z8 B2 B6 Q5 y.2.1 Qd y.2.2 Qt zt Q4 z4 Q6 z6 Q2 z2 Q1 z1 Q9 z9 wk ru im) H locs ⟨Q8, z8, B2, B6, Q5, y.2.1, Qd, y.2.2, Qt, zt, Q4, z4, Q6, z6, Q2, z2, Q1, z1, Q9, z9, wk, ru, im, rfl, hI, ⟨z5, zd, Qw, zw, y, hJ, hI, hwm, hy, hrv, rfl, rfl⟩⟩ (P_perm hP hq.symm) (D_perm hD hq.symm) hS

set_option maxHeartbeats 4000000 in
set_option maxRecDepth 100000 in
theorem lx_dawn (C : Cx p s m args meth c ML_law) (hK : KK D a s) (hA : ∀ q, s.heap.size ≤ q → A q) {J : CT} (hG : Gd a q8 q9 J w) (hP : va_P D classes w H) (hD : va_D A w) (hS : va_S A s.heap H locs) (hf : cells + 13 ≤ 600000 ∧ slots + 441 ≤ 7302250) (hls : ls.size = 4)
    (kk : ∀ (r : Int32) (w1 : va_W) (H1 : Heap) (locs1 : List Loc), Gd a q8 q9 (JX_dawn J r) w1 → va_P D classes w1 H1 → va_D A w1 → va_S A s.heap H1 locs1 → W p l e room_1 s m args below meth c H1 locs1 (cells + 13) (slots + 441) Q (F0 m 411 ls [.int r])) : W p l e room_1 s m args below meth c H locs cells slots Q (F0 m 408 ls [.ref q8]) := by
  obtain ⟨hf1, hf2⟩ := hf
  obtain ⟨Q8, z8, B2, B6, Q5, z5, Qd, zd, Qt, zt, Q4, z4, Q6, z6, Q2, z2, Q1, z1, Q9, z9, wk, ru, im, rfl, hI, hJ⟩ := hG
  obtain ⟨⟨qw, Qw, zw⟩, hwm, hqw⟩ := hI.1
  have hqw : qw = Q5 0 := hqw
  subst hqw
  obtain ⟨wkr, hw, -, -⟩ := fm_mem (F7 a) hwm
  have hw : (wk.flatMap (F7 a)).Perm (rc7 a (Q5 0) Qw zw ++ wkr.flatMap (F7 a)) := hw
  obtain ⟨y, hy, -⟩ := t_fX8_dawn (z_t := z8) (z_t_5 := z5) (z_t_5_0 := zw) (z_t_5_1 := zd)
  have hp : (WO a q8 q9 Q8 z8 B2 B6 Q5 z5 Qd zd Qt zt Q4 z4 Q6 z6 Q2 z2 Q1 z1 Q9 z9 wk ru im).Perm ((rc8 a q8 Q8 z8 ++ (rc5 a (Q8 5) Q5 z5 ++ (rc7 a (Q5 0) Qw zw ++ (rc0 a (Q5 1) Qd zd)))) ++ (rb4 a (Q8 2) 6 B2 ++ (rb5 a (Q8 6) 4 B6 ++ (rc0 a (Q8 7) Qt zt ++ (rc4 a (Q8 8) Q4 z4 ++ (rc6 a (Q4 0) Q6 z6 ++ (rc2 a (Q8 9) Q2 z2 ++ (rc1 a (Q8 10) Q1 z1 ++ (rc9 a q9 Q9 z9 ++ (wkr.flatMap (F7 a) ++ (ru.flatMap (F3 a) ++ (im.flatMap (F5 a))))))))))))) := pm_x8_x5_w1_x0 (rc8 a q8 Q8 z8) (rb4 a (Q8 2) 6 B2) (rb5 a (Q8 6) 4 B6) (rc5 a (Q8 5) Q5 z5) (rc0 a (Q5 1) Qd zd) (rc0 a (Q8 7) Qt zt) (rc4 a (Q8 8) Q4 z4) (rc6 a (Q4 0) Q6 z6) (rc2 a (Q8 9) Q2 z2) (rc1 a (Q8 10) Q1 z1) (rc9 a q9 Q9 z9) (wk.flatMap (F7 a)) (ru.flatMap (F3 a)) (im.flatMap (F5 a)) (rc7 a (Q5 0) Qw zw) (wkr.flatMap (F7 a)) hw
  refine runMi (As := []) (rest := []) C hK hP hD hS hA hp (mX8_dawn l D a (q_t := q8) (Q_t := Q8) (z_t := z8) (Q_t_5 := Q5) (z_t_5 := z5) (Q_t_5_0 := Qw) (z_t_5_0 := zw) (Q_t_5_1 := Qd) (z_t_5_1 := zd) hy H.size) (recv8 hK hP) lk_V_L_53 okN_X8_dawn ⟨Nat.le_of_ble_eq_true rfl, Nat.le_of_ble_eq_true rfl⟩ hls rfl (Nat.le_of_ble_eq_true rfl) dL_law_408 ⟨show cells + 0 ≤ 600000 by omega, show slots + 0 ≤ 7302250 by omega⟩ (fun rv u H locs hrv hP hD hS => ?_)
  have hq : (WO a q8 q9 Q8 z8 B2 B6 Q5 y.2.1 Qd y.2.2 Qt zt Q4 z4 Q6 z6 Q2 z2 Q1 z1 Q9 z9 wk ru im).Perm ((rc8 a q8 Q8 z8 ++ (rc5 a (Q8 5) Q5 y.2.1 ++ (rc7 a (Q5 0) Qw zw ++ (rc0 a (Q5 1) Qd y.2.2)))) ++ (rb4 a (Q8 2) 6 B2 ++ (rb5 a (Q8 6) 4 B6 ++ (rc0 a (Q8 7) Qt zt ++ (rc4 a (Q8 8) Q4 z4 ++ (rc6 a (Q4 0) Q6 z6 ++ (rc2 a (Q8 9) Q2 z2 ++ (rc1 a (Q8 10) Q1 z1 ++ (rc9 a q9 Q9 z9 ++ (wkr.flatMap (F7 a) ++ (ru.flatMap (F3 a) ++ (im.flatMap (F5 a))))))))))))) := pm_x8_x5_w1_x0 (rc8 a q8 Q8 z8) (rb4 a (Q8 2) 6 B2) (rb5 a (Q8 6) 4 B6) (rc5 a (Q8 5) Q5 y.2.1) (rc0 a (Q5 1) Qd y.2.2) (rc0 a (Q8 7) Qt zt) (rc4 a (Q8 8) Q4 z4) (rc6 a (Q4 0) Q6 z6) (rc2 a (Q8 9) Q2 z2) (rc1 a (Q8 10) Q1 z1) (rc9 a q9 Q9 z9) (wk.flatMap (F7 a)) (ru.flatMap (F3 a)) (im.flatMap (F5 a)) (rc7 a (Q5 0) Qw zw) (wkr.flatMap (F7 a)) hw
  refine W.widen (k := cells + 13) (n := slots + 441) (by omega) (by omega) ?_
  exact kk rv (WO a q8 q9 Q8 z8 B2 B6 Q5 y.2.1 Qd y.2.2 Qt zt Q4 z4 Q6 z6 Q2 z2 Q1 z1 Q9 z9 wk ru im) H locs ⟨Q8, z8, B2, B6, Q5, y.2.1, Qd, y.2.2, Qt, zt, Q4, z4, Q6, z6, Q2, z2, Q1, z1, Q9, z9, wk, ru, im, rfl, hI, ⟨z5, zd, Qw, zw, y, hJ, hI, hwm, hy, hrv, rfl, rfl⟩⟩ (P_perm hP hq.symm) (D_perm hD hq.symm) hS

set_option maxHeartbeats 4000000 in
set_option maxRecDepth 100000 in
theorem lx_day (C : Cx p s m args meth c ML_law) (hK : KK D a s) (hA : ∀ q, s.heap.size ≤ q → A q) {J : CT} (hG : Gd a q8 q9 J w) (hP : va_P D classes w H) (hD : va_D A w) (hS : va_S A s.heap H locs) (hf : cells + 13 ≤ 600000 ∧ slots + 441 ≤ 7302250) (hls : ls.size = 4) {x1 : Int32}
    (kk : ∀ (r : Int32) (w1 : va_W) (H1 : Heap) (locs1 : List Loc), Gd a q8 q9 (JX_day J x1 r) w1 → va_P D classes w1 H1 → va_D A w1 → va_S A s.heap H1 locs1 → W p l e room_1 s m args below meth c H1 locs1 (cells + 13) (slots + 441) Q (F0 m 429 ls [.int r])) : W p l e room_1 s m args below meth c H locs cells slots Q (F0 m 426 ls [.int x1, .ref q8]) := by
  obtain ⟨hf1, hf2⟩ := hf
  obtain ⟨Q8, z8, B2, B6, Q5, z5, Qd, zd, Qt, zt, Q4, z4, Q6, z6, Q2, z2, Q1, z1, Q9, z9, wk, ru, im, rfl, hI, hJ⟩ := hG
  obtain ⟨⟨qw, Qw, zw⟩, hwm, hqw⟩ := hI.1
  have hqw : qw = Q5 0 := hqw
  subst hqw
  obtain ⟨wkr, hw, -, -⟩ := fm_mem (F7 a) hwm
  have hw : (wk.flatMap (F7 a)).Perm (rc7 a (Q5 0) Qw zw ++ wkr.flatMap (F7 a)) := hw
  obtain ⟨r0, hr0, -⟩ := t_fX8_ruleForWork (z_t := z8) (B_t_2 := B2) (z_t_5 := z5) (z_t_5_0 := zw) (x1 := x1)
  cases r0 with
  | none =>
    obtain ⟨y, hy, -⟩ := t_fX8_day_none (z_t := z8) (B_t_2 := B2) (z_t_5 := z5) (z_t_5_0 := zw) (x1 := x1)
    have hp : (WO a q8 q9 Q8 z8 B2 B6 Q5 z5 Qd zd Qt zt Q4 z4 Q6 z6 Q2 z2 Q1 z1 Q9 z9 wk ru im).Perm ((rc8 a q8 Q8 z8 ++ (rb4 a (Q8 2) 6 B2 ++ (rc5 a (Q8 5) Q5 z5 ++ (rc7 a (Q5 0) Qw zw)))) ++ (rb5 a (Q8 6) 4 B6 ++ (rc0 a (Q5 1) Qd zd ++ (rc0 a (Q8 7) Qt zt ++ (rc4 a (Q8 8) Q4 z4 ++ (rc6 a (Q4 0) Q6 z6 ++ (rc2 a (Q8 9) Q2 z2 ++ (rc1 a (Q8 10) Q1 z1 ++ (rc9 a q9 Q9 z9 ++ (wkr.flatMap (F7 a) ++ (ru.flatMap (F3 a) ++ (im.flatMap (F5 a))))))))))))) := pm_x8_b4_x5_w1 (rc8 a q8 Q8 z8) (rb4 a (Q8 2) 6 B2) (rb5 a (Q8 6) 4 B6) (rc5 a (Q8 5) Q5 z5) (rc0 a (Q5 1) Qd zd) (rc0 a (Q8 7) Qt zt) (rc4 a (Q8 8) Q4 z4) (rc6 a (Q4 0) Q6 z6) (rc2 a (Q8 9) Q2 z2) (rc1 a (Q8 10) Q1 z1) (rc9 a q9 Q9 z9) (wk.flatMap (F7 a)) (ru.flatMap (F3 a)) (im.flatMap (F5 a)) (rc7 a (Q5 0) Qw zw) (wkr.flatMap (F7 a)) hw
    refine runRi (As := [.int x1]) (rest := []) C hK hP hp (mX8_day_none l D a (q_t := q8) (Q_t := Q8) (z_t := z8) (B_t_2 := B2) (Q_t_5 := Q5) (z_t_5 := z5) (Q_t_5_0 := Qw) (z_t_5_0 := zw) (x1 := x1) hr0 hy) (recv8 hK hP) lk_V_L_57 okN_X8_day ⟨Nat.le_of_ble_eq_true rfl, Nat.le_of_ble_eq_true rfl⟩ hls rfl (Nat.le_of_ble_eq_true rfl) dL_law_426 ⟨show cells ≤ 600000 by omega, show slots ≤ 7302250 by omega⟩ ?_
    refine W.widen (k := cells + 13) (n := slots + 441) (by omega) (by omega) ?_
    exact kk _ (WO a q8 q9 Q8 z8 B2 B6 Q5 z5 Qd zd Qt zt Q4 z4 Q6 z6 Q2 z2 Q1 z1 Q9 z9 wk ru im) H locs ⟨Q8, z8, B2, B6, Q5, z5, Qd, zd, Qt, zt, Q4, z4, Q6, z6, Q2, z2, Q1, z1, Q9, z9, wk, ru, im, rfl, hI, (Or.inl ⟨Qw, zw, y, hJ, hI, hwm, hr0, hy, rfl⟩)⟩ hP hD hS
  | some q0 =>
    obtain ⟨⟨qR, QR, nR, zR⟩, hrm, hqr⟩ := hI.2.2.1 _ _ (rfw hr0)
    have hqr : qR = q0 := hqr
    subst hqr
    obtain ⟨rur, hr, -, -⟩ := fm_mem (F3 a) hrm
    have hr : (ru.flatMap (F3 a)).Perm (rc3 a qR QR nR zR ++ rur.flatMap (F3 a)) := hr
    obtain ⟨y, hy, -⟩ := t_fX8_day_some (z_t := z8) (B_t_2 := B2) (z_t_5 := z5) (z_t_5_0 := zw) (z_t_5_1 := zd) (z_t_9 := z2) (nc_R := nR) (z_R := zR) (x1 := x1) (show nR < 2147483648 from hI.2.2.2.1 _ hrm)
    have hp : (WO a q8 q9 Q8 z8 B2 B6 Q5 z5 Qd zd Qt zt Q4 z4 Q6 z6 Q2 z2 Q1 z1 Q9 z9 wk ru im).Perm ((rc8 a q8 Q8 z8 ++ (rb4 a (Q8 2) 6 B2 ++ (rc5 a (Q8 5) Q5 z5 ++ (rc7 a (Q5 0) Qw zw ++ (rc0 a (Q5 1) Qd zd ++ (rc2 a (Q8 9) Q2 z2 ++ (rc3 a qR QR nR zR))))))) ++ (rb5 a (Q8 6) 4 B6 ++ (rc0 a (Q8 7) Qt zt ++ (rc4 a (Q8 8) Q4 z4 ++ (rc6 a (Q4 0) Q6 z6 ++ (rc1 a (Q8 10) Q1 z1 ++ (rc9 a q9 Q9 z9 ++ (wkr.flatMap (F7 a) ++ (rur.flatMap (F3 a) ++ (im.flatMap (F5 a))))))))))) := pm_x8_b4_x5_w1_x0_x2_r1 (rc8 a q8 Q8 z8) (rb4 a (Q8 2) 6 B2) (rb5 a (Q8 6) 4 B6) (rc5 a (Q8 5) Q5 z5) (rc0 a (Q5 1) Qd zd) (rc0 a (Q8 7) Qt zt) (rc4 a (Q8 8) Q4 z4) (rc6 a (Q4 0) Q6 z6) (rc2 a (Q8 9) Q2 z2) (rc1 a (Q8 10) Q1 z1) (rc9 a q9 Q9 z9) (wk.flatMap (F7 a)) (ru.flatMap (F3 a)) (im.flatMap (F5 a)) (rc7 a (Q5 0) Qw zw) (wkr.flatMap (F7 a)) (rc3 a qR QR nR zR) (rur.flatMap (F3 a)) hw hr
    refine runMi (As := [.int x1]) (rest := []) C hK hP hD hS hA hp (mX8_day_some l D a (q_R := qR) (q_t := q8) (Q_t := Q8) (z_t := z8) (B_t_2 := B2) (Q_t_5 := Q5) (z_t_5 := z5) (Q_t_5_0 := Qw) (z_t_5_0 := zw) (Q_t_5_1 := Qd) (z_t_5_1 := zd) (Q_t_9 := Q2) (z_t_9 := z2) (Q_R := QR) (nc_R := nR) (z_R := zR) (x1 := x1) hr0 hy H.size) (recv8 hK hP) lk_V_L_57 okN_X8_day ⟨Nat.le_of_ble_eq_true rfl, Nat.le_of_ble_eq_true rfl⟩ hls rfl (Nat.le_of_ble_eq_true rfl) dL_law_426 ⟨show cells + 0 ≤ 600000 by omega, show slots + 0 ≤ 7302250 by omega⟩ (fun rv u H locs hrv hP hD hS => ?_)
    have hq : (WO a q8 q9 Q8 z8 B2 B6 Q5 z5 Qd y.2.1 Qt zt Q4 z4 Q6 z6 Q2 y.2.2 Q1 z1 Q9 z9 wk ru im).Perm ((rc8 a q8 Q8 z8 ++ (rb4 a (Q8 2) 6 B2 ++ (rc5 a (Q8 5) Q5 z5 ++ (rc7 a (Q5 0) Qw zw ++ (rc0 a (Q5 1) Qd y.2.1 ++ (rc2 a (Q8 9) Q2 y.2.2 ++ (rc3 a qR QR nR zR))))))) ++ (rb5 a (Q8 6) 4 B6 ++ (rc0 a (Q8 7) Qt zt ++ (rc4 a (Q8 8) Q4 z4 ++ (rc6 a (Q4 0) Q6 z6 ++ (rc1 a (Q8 10) Q1 z1 ++ (rc9 a q9 Q9 z9 ++ (wkr.flatMap (F7 a) ++ (rur.flatMap (F3 a) ++ (im.flatMap (F5 a))))))))))) := pm_x8_b4_x5_w1_x0_x2_r1 (rc8 a q8 Q8 z8) (rb4 a (Q8 2) 6 B2) (rb5 a (Q8 6) 4 B6) (rc5 a (Q8 5) Q5 z5) (rc0 a (Q5 1) Qd y.2.1) (rc0 a (Q8 7) Qt zt) (rc4 a (Q8 8) Q4 z4) (rc6 a (Q4 0) Q6 z6) (rc2 a (Q8 9) Q2 y.2.2) (rc1 a (Q8 10) Q1 z1) (rc9 a q9 Q9 z9) (wk.flatMap (F7 a)) (ru.flatMap (F3 a)) (im.flatMap (F5 a)) (rc7 a (Q5 0) Qw zw) (wkr.flatMap (F7 a)) (rc3 a qR QR nR zR) (rur.flatMap (F3 a)) hw hr
    refine W.widen (k := cells + 13) (n := slots + 441) (by omega) (by omega) ?_
    exact kk rv (WO a q8 q9 Q8 z8 B2 B6 Q5 z5 Qd y.2.1 Qt zt Q4 z4 Q6 z6 Q2 y.2.2 Q1 z1 Q9 z9 wk ru im) H locs ⟨Q8, z8, B2, B6, Q5, z5, Qd, y.2.1, Qt, zt, Q4, z4, Q6, z6, Q2, y.2.2, Q1, z1, Q9, z9, wk, ru, im, rfl, hI, (Or.inr (⟨zd, Qw, zw, qR, QR, nR, zR, z2, y, hJ, hI, hwm, hrm, hr0, hy, hrv, rfl⟩))⟩ (P_perm hP hq.symm) (D_perm hD hq.symm) hS

set_option maxHeartbeats 4000000 in
set_option maxRecDepth 100000 in
theorem lx_would (C : Cx p s m args meth c ML_law) (hK : KK D a s) (hA : ∀ q, s.heap.size ≤ q → A q) {J : CT} (hG : Gd a q8 q9 J w) (hP : va_P D classes w H) (hD : va_D A w) (hS : va_S A s.heap H locs) (hf : cells + 13 ≤ 600000 ∧ slots + 441 ≤ 7302250) (hls : ls.size = 4) {x1 : Int32} {x2 : Int32}
    (kk : ∀ (r : Int32) (w1 : va_W) (H1 : Heap) (locs1 : List Loc), Gd a q8 q9 (JX_would J x1 x2 r) w1 → va_P D classes w1 H1 → va_D A w1 → va_S A s.heap H1 locs1 → W p l e room_1 s m args below meth c H1 locs1 (cells + 13) (slots + 441) Q (F0 m 457 ls [.int r])) : W p l e room_1 s m args below meth c H locs cells slots Q (F0 m 454 ls [.int x2, .int x1, .ref q8]) := by
  obtain ⟨hf1, hf2⟩ := hf
  obtain ⟨Q8, z8, B2, B6, Q5, z5, Qd, zd, Qt, zt, Q4, z4, Q6, z6, Q2, z2, Q1, z1, Q9, z9, wk, ru, im, rfl, hI, hJ⟩ := hG
  obtain ⟨⟨qw, Qw, zw⟩, hwm, hqw⟩ := hI.1
  have hqw : qw = Q5 0 := hqw
  subst hqw
  obtain ⟨wkr, hw, -, -⟩ := fm_mem (F7 a) hwm
  have hw : (wk.flatMap (F7 a)).Perm (rc7 a (Q5 0) Qw zw ++ wkr.flatMap (F7 a)) := hw
  obtain ⟨r0, hr0, -⟩ := t_fX8_ruleForWork (z_t := z8) (B_t_2 := B2) (z_t_5 := z5) (z_t_5_0 := zw) (x1 := x1)
  cases r0 with
  | none =>
    obtain ⟨y, hy, -⟩ := t_fX8_would_none (z_t := z8) (B_t_2 := B2) (z_t_5 := z5) (z_t_5_0 := zw) (x1 := x1) (x2 := x2)
    have hp : (WO a q8 q9 Q8 z8 B2 B6 Q5 z5 Qd zd Qt zt Q4 z4 Q6 z6 Q2 z2 Q1 z1 Q9 z9 wk ru im).Perm ((rc8 a q8 Q8 z8 ++ (rb4 a (Q8 2) 6 B2 ++ (rc5 a (Q8 5) Q5 z5 ++ (rc7 a (Q5 0) Qw zw)))) ++ (rb5 a (Q8 6) 4 B6 ++ (rc0 a (Q5 1) Qd zd ++ (rc0 a (Q8 7) Qt zt ++ (rc4 a (Q8 8) Q4 z4 ++ (rc6 a (Q4 0) Q6 z6 ++ (rc2 a (Q8 9) Q2 z2 ++ (rc1 a (Q8 10) Q1 z1 ++ (rc9 a q9 Q9 z9 ++ (wkr.flatMap (F7 a) ++ (ru.flatMap (F3 a) ++ (im.flatMap (F5 a))))))))))))) := pm_x8_b4_x5_w1 (rc8 a q8 Q8 z8) (rb4 a (Q8 2) 6 B2) (rb5 a (Q8 6) 4 B6) (rc5 a (Q8 5) Q5 z5) (rc0 a (Q5 1) Qd zd) (rc0 a (Q8 7) Qt zt) (rc4 a (Q8 8) Q4 z4) (rc6 a (Q4 0) Q6 z6) (rc2 a (Q8 9) Q2 z2) (rc1 a (Q8 10) Q1 z1) (rc9 a q9 Q9 z9) (wk.flatMap (F7 a)) (ru.flatMap (F3 a)) (im.flatMap (F5 a)) (rc7 a (Q5 0) Qw zw) (wkr.flatMap (F7 a)) hw
    refine runRi (As := [.int x1, .int x2]) (rest := []) C hK hP hp (mX8_would_none l D a (q_t := q8) (Q_t := Q8) (z_t := z8) (B_t_2 := B2) (Q_t_5 := Q5) (z_t_5 := z5) (Q_t_5_0 := Qw) (z_t_5_0 := zw) (x1 := x1) (x2 := x2) hr0 hy) (recv8 hK hP) lk_V_L_61 okN_X8_would ⟨Nat.le_of_ble_eq_true rfl, Nat.le_of_ble_eq_true rfl⟩ hls rfl (Nat.le_of_ble_eq_true rfl) dL_law_454 ⟨show cells ≤ 600000 by omega, show slots ≤ 7302250 by omega⟩ ?_
    refine W.widen (k := cells + 13) (n := slots + 441) (by omega) (by omega) ?_
    exact kk _ (WO a q8 q9 Q8 z8 B2 B6 Q5 z5 Qd zd Qt zt Q4 z4 Q6 z6 Q2 z2 Q1 z1 Q9 z9 wk ru im) H locs ⟨Q8, z8, B2, B6, Q5, z5, Qd, zd, Qt, zt, Q4, z4, Q6, z6, Q2, z2, Q1, z1, Q9, z9, wk, ru, im, rfl, hI, (Or.inl ⟨Qw, zw, y, hJ, hI, hwm, hr0, hy, rfl⟩)⟩ hP hD hS
  | some q0 =>
    obtain ⟨⟨qR, QR, nR, zR⟩, hrm, hqr⟩ := hI.2.2.1 _ _ (rfw hr0)
    have hqr : qR = q0 := hqr
    subst hqr
    obtain ⟨rur, hr, -, -⟩ := fm_mem (F3 a) hrm
    have hr : (ru.flatMap (F3 a)).Perm (rc3 a qR QR nR zR ++ rur.flatMap (F3 a)) := hr
    obtain ⟨y, hy, -⟩ := t_fX8_would_some (z_t := z8) (B_t_2 := B2) (z_t_5 := z5) (z_t_5_0 := zw) (z_t_5_1 := zd) (z_t_7 := zt) (z_t_9 := z2) (nc_R := nR) (z_R := zR) (x1 := x1) (x2 := x2) (show nR < 2147483648 from hI.2.2.2.1 _ hrm)
    have hp : (WO a q8 q9 Q8 z8 B2 B6 Q5 z5 Qd zd Qt zt Q4 z4 Q6 z6 Q2 z2 Q1 z1 Q9 z9 wk ru im).Perm ((rc8 a q8 Q8 z8 ++ (rb4 a (Q8 2) 6 B2 ++ (rc5 a (Q8 5) Q5 z5 ++ (rc7 a (Q5 0) Qw zw ++ (rc0 a (Q5 1) Qd zd ++ (rc0 a (Q8 7) Qt zt ++ (rc2 a (Q8 9) Q2 z2 ++ (rc3 a qR QR nR zR)))))))) ++ (rb5 a (Q8 6) 4 B6 ++ (rc4 a (Q8 8) Q4 z4 ++ (rc6 a (Q4 0) Q6 z6 ++ (rc1 a (Q8 10) Q1 z1 ++ (rc9 a q9 Q9 z9 ++ (wkr.flatMap (F7 a) ++ (rur.flatMap (F3 a) ++ (im.flatMap (F5 a)))))))))) := pm_x8_b4_x5_w1_x0_xt_x2_r1 (rc8 a q8 Q8 z8) (rb4 a (Q8 2) 6 B2) (rb5 a (Q8 6) 4 B6) (rc5 a (Q8 5) Q5 z5) (rc0 a (Q5 1) Qd zd) (rc0 a (Q8 7) Qt zt) (rc4 a (Q8 8) Q4 z4) (rc6 a (Q4 0) Q6 z6) (rc2 a (Q8 9) Q2 z2) (rc1 a (Q8 10) Q1 z1) (rc9 a q9 Q9 z9) (wk.flatMap (F7 a)) (ru.flatMap (F3 a)) (im.flatMap (F5 a)) (rc7 a (Q5 0) Qw zw) (wkr.flatMap (F7 a)) (rc3 a qR QR nR zR) (rur.flatMap (F3 a)) hw hr
    refine runMi (As := [.int x1, .int x2]) (rest := []) C hK hP hD hS hA hp (mX8_would_some l D a (q_R := qR) (q_t := q8) (Q_t := Q8) (z_t := z8) (B_t_2 := B2) (Q_t_5 := Q5) (z_t_5 := z5) (Q_t_5_0 := Qw) (z_t_5_0 := zw) (Q_t_5_1 := Qd) (z_t_5_1 := zd) (Q_t_7 := Qt) (z_t_7 := zt) (Q_t_9 := Q2) (z_t_9 := z2) (Q_R := QR) (nc_R := nR) (z_R := zR) (x1 := x1) (x2 := x2) hr0 hy H.size) (recv8 hK hP) lk_V_L_61 okN_X8_would ⟨Nat.le_of_ble_eq_true rfl, Nat.le_of_ble_eq_true rfl⟩ hls rfl (Nat.le_of_ble_eq_true rfl) dL_law_454 ⟨show cells + 0 ≤ 600000 by omega, show slots + 0 ≤ 7302250 by omega⟩ (fun rv u H locs hrv hP hD hS => ?_)
    have hq : (WO a q8 q9 Q8 z8 B2 B6 Q5 z5 Qd zd Qt y.2.1 Q4 z4 Q6 z6 Q2 y.2.2 Q1 z1 Q9 z9 wk ru im).Perm ((rc8 a q8 Q8 z8 ++ (rb4 a (Q8 2) 6 B2 ++ (rc5 a (Q8 5) Q5 z5 ++ (rc7 a (Q5 0) Qw zw ++ (rc0 a (Q5 1) Qd zd ++ (rc0 a (Q8 7) Qt y.2.1 ++ (rc2 a (Q8 9) Q2 y.2.2 ++ (rc3 a qR QR nR zR)))))))) ++ (rb5 a (Q8 6) 4 B6 ++ (rc4 a (Q8 8) Q4 z4 ++ (rc6 a (Q4 0) Q6 z6 ++ (rc1 a (Q8 10) Q1 z1 ++ (rc9 a q9 Q9 z9 ++ (wkr.flatMap (F7 a) ++ (rur.flatMap (F3 a) ++ (im.flatMap (F5 a)))))))))) := pm_x8_b4_x5_w1_x0_xt_x2_r1 (rc8 a q8 Q8 z8) (rb4 a (Q8 2) 6 B2) (rb5 a (Q8 6) 4 B6) (rc5 a (Q8 5) Q5 z5) (rc0 a (Q5 1) Qd zd) (rc0 a (Q8 7) Qt y.2.1) (rc4 a (Q8 8) Q4 z4) (rc6 a (Q4 0) Q6 z6) (rc2 a (Q8 9) Q2 y.2.2) (rc1 a (Q8 10) Q1 z1) (rc9 a q9 Q9 z9) (wk.flatMap (F7 a)) (ru.flatMap (F3 a)) (im.flatMap (F5 a)) (rc7 a (Q5 0) Qw zw) (wkr.flatMap (F7 a)) (rc3 a qR QR nR zR) (rur.flatMap (F3 a)) hw hr
    refine W.widen (k := cells + 13) (n := slots + 441) (by omega) (by omega) ?_
    exact kk rv (WO a q8 q9 Q8 z8 B2 B6 Q5 z5 Qd zd Qt y.2.1 Q4 z4 Q6 z6 Q2 y.2.2 Q1 z1 Q9 z9 wk ru im) H locs ⟨Q8, z8, B2, B6, Q5, z5, Qd, zd, Qt, y.2.1, Q4, z4, Q6, z6, Q2, y.2.2, Q1, z1, Q9, z9, wk, ru, im, rfl, hI, (Or.inr (⟨Qw, zw, qR, QR, nR, zR, zt, z2, y, hJ, hI, hwm, hrm, hr0, hy, hrv⟩))⟩ (P_perm hP hq.symm) (D_perm hD hq.symm) hS
end LAWX

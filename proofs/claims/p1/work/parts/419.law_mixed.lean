set_option maxHeartbeats 4000000 in
set_option maxRecDepth 100000 in
theorem law_mixed {p : Program} {l : Launch} {e : Env} {s : State} {m : MethodId} {below : List Frame} {meth : Method} {c : Code} {D : va_G} {a : Nat → ClassId} {b : Nat} {xs : Nat → Int32} {A : Nat → Prop} (C : Cx p s m #[Value.ref b] meth c ML_law) (hX : va_X b 6 xs s s.heap) (hbl : b < s.heap.size) (hAi : ∀ q, A q → s.heap.size ≤ q) (hA : ∀ q, s.heap.size ≤ q → A q) (hK : KK D a s) {q1001 q1194 q1195 q1196 q1197 q1198 q1199 q1200 q1201 q1202 q1203 q1204 q1205 q1206 q1207 q1208 q1209 q1210 q1211 q1212 q1213 q1214 q1215 q1216 q1217 q1218 q1219 q1220 q1221 q1222 q1223 q1224 q1225 q1226 q1227 q1228 q1229 q1230 q1231 q1279 q1280 q1281 q1282 q1283 q1284 q1285 q1286 q1287 q1288 q1289 q1290 q1291 q1292 q1293 q1294 q1295 q1296 q1297 q1298 q1299 q1300 : Nat} {H : Heap} {locs : List Loc} (hP : va_P D classes [(q1001, .inr (8, [.ref q1194, .int 0, .ref q1195, .int 0, .int 0, .ref q1196, .ref q1197, .ref q1198, .ref q1199, .ref q1200, .ref q1201])), (q1194, .inl (a 0, 400, .inl (fun _ => 0))), (q1195, .inl (a 4, 6, .inr (.inr (.inr (.inr (fun _ => none)))))), (q1202, .inr (7, [.int 0, .int 0, .int 0, .int 0, .int 0, .ref q1203, .ref q1204, .ref q1205, .ref q1206, .ref q1207, .ref q1208, .ref q1209, .ref q1210, .ref q1211, .ref q1212, .ref q1213, .ref q1214, .int 0])), (q1203, .inl (a 0, 6, .inl (fun _ => 0))), (q1204, .inl (a 0, 6, .inl (fun _ => 0))), (q1205, .inl (a 0, 6, .inl (fun _ => 0))), (q1206, .inl (a 0, 10, .inl (fun _ => 0))), (q1207, .inl (a 0, 10, .inl (fun _ => 0))), (q1208, .inl (a 0, 10, .inl (fun _ => 0))), (q1209, .inl (a 0, 10, .inl (fun _ => 0))), (q1210, .inl (a 0, 10, .inl (fun _ => 0))), (q1211, .inl (a 0, 10, .inl (fun _ => 0))), (q1212, .inl (a 0, 10, .inl (fun _ => 0))), (q1213, .inl (a 0, 10, .inl (fun _ => 0))), (q1214, .inl (a 0, 10, .inl (fun _ => 0))), (q1196, .inr (5, [.ref q1202, .ref q1215, .int 0, .int 0, .int 0, .ref q1216, .int 0, .ref q1217])), (q1215, .inr (0, [.int 0, .int 0, .int 0, .int 0, .int 0, .ref q1218])), (q1218, .inl (a 0, 10, .inl (fun _ => 0))), (q1216, .inl (a 0, 8, .inl (fun _ => 0))), (q1217, .inl (a 0, 8, .inl (fun _ => 0))), (q1197, .inl (a 5, 4, .inr (.inr (.inr (.inr (fun _ => none)))))), (q1198, .inr (0, [.int 0, .int 0, .int 0, .int 0, .int 0, .ref q1219])), (q1219, .inl (a 0, 10, .inl (fun _ => 0))), (q1199, .inr (4, [.ref q1220, .ref q1221, .int 0, .int 0, .int 0, .ref q1222, .ref q1223, .ref q1224])), (q1220, .inr (6, [.ref q1225, .ref q1226, .ref q1227, .int 0, .int 0, .int 0, .int 0, .int 0, .int 0])), (q1225, .inl (a 0, 401, .inl (fun _ => 0))), (q1226, .inl (a 0, 401, .inl (fun _ => 0))), (q1227, .inl (a 0, 401, .inl (fun _ => 0))), (q1221, .inl (a 0, 400, .inl (fun _ => 0))), (q1222, .inl (a 0, 12, .inl (fun _ => 0))), (q1223, .inl (a 0, 12, .inl (fun _ => 0))), (q1224, .inl (a 0, 12, .inl (fun _ => 0))), (q1200, .inr (2, [.ref q1228])), (q1228, .inl (a 1, 32, .inr (.inl (fun _ => 0)))), (q1201, .inr (1, [.ref q1229, .ref q1230, .int 0, .long 0])), (q1229, .inl (a 1, 2048, .inr (.inl (fun _ => 0)))), (q1230, .inl (a 1, 2048, .inr (.inl (fun _ => 0)))), (q1231, .inr (9, [.ref q1279, .int 0, .int 0, .ref q1280, .ref q1281, .ref q1282, .ref q1283, .int 0, .int 0, .int 0, .ref q1284, .ref q1285, .int 0, .int 0, .int 0, .int 0, .int 0, .int 0, .int 0, .ref q1286, .int 0, .ref q1287, .int 0, .ref q1288, .ref q1289, .ref q1290, .ref q1291, .ref q1292, .ref q1293, .ref q1294, .ref q1295, .ref q1296, .ref q1297, .ref q1298, .ref q1299, .ref q1300])), (q1279, .inl (a 2, 400, .inl (fun _ => 0))), (q1280, .inl (a 0, 2400, .inl (fun _ => 0))), (q1281, .inl (a 0, 7, .inl (fun _ => 0))), (q1282, .inl (a 0, 360, .inl (fun _ => 0))), (q1283, .inl (a 0, 6, .inl (fun _ => 0))), (q1284, .inl (a 0, 18, .inl (fun _ => 0))), (q1285, .inl (a 0, 40, .inl (fun _ => 0))), (q1286, .inl (a 0, 400, .inl (fun _ => 0))), (q1287, .inl (a 1, 64, .inr (.inl (fun _ => 0)))), (q1288, .inl (a 1, 9, .inr (.inl (fun _ => 0)))), (q1289, .inl (a 0, 104, .inl (fun _ => 0))), (q1290, .inl (a 0, 104, .inl (fun _ => 0))), (q1291, .inl (a 0, 6, .inl (fun _ => 0))), (q1292, .inl (a 3, 6, .inl (fun _ => 0))), (q1293, .inl (a 1, 6, .inr (.inl (fun _ => 0)))), (q1294, .inl (a 1, 6, .inr (.inl (fun _ => 0)))), (q1295, .inl (a 1, 6, .inr (.inl (fun _ => 0)))), (q1296, .inl (a 1, 6, .inr (.inl (fun _ => 0)))), (q1297, .inl (a 0, 6, .inl (fun _ => 0))), (q1298, .inl (a 0, 6, .inl (fun _ => 0))), (q1299, .inl (a 0, 416, .inl (fun _ => 0))), (q1300, .inl (a 3, 4, .inl (fun _ => 0)))] H) (hD : va_D A [(q1001, .inr (8, [.ref q1194, .int 0, .ref q1195, .int 0, .int 0, .ref q1196, .ref q1197, .ref q1198, .ref q1199, .ref q1200, .ref q1201])), (q1194, .inl (a 0, 400, .inl (fun _ => 0))), (q1195, .inl (a 4, 6, .inr (.inr (.inr (.inr (fun _ => none)))))), (q1202, .inr (7, [.int 0, .int 0, .int 0, .int 0, .int 0, .ref q1203, .ref q1204, .ref q1205, .ref q1206, .ref q1207, .ref q1208, .ref q1209, .ref q1210, .ref q1211, .ref q1212, .ref q1213, .ref q1214, .int 0])), (q1203, .inl (a 0, 6, .inl (fun _ => 0))), (q1204, .inl (a 0, 6, .inl (fun _ => 0))), (q1205, .inl (a 0, 6, .inl (fun _ => 0))), (q1206, .inl (a 0, 10, .inl (fun _ => 0))), (q1207, .inl (a 0, 10, .inl (fun _ => 0))), (q1208, .inl (a 0, 10, .inl (fun _ => 0))), (q1209, .inl (a 0, 10, .inl (fun _ => 0))), (q1210, .inl (a 0, 10, .inl (fun _ => 0))), (q1211, .inl (a 0, 10, .inl (fun _ => 0))), (q1212, .inl (a 0, 10, .inl (fun _ => 0))), (q1213, .inl (a 0, 10, .inl (fun _ => 0))), (q1214, .inl (a 0, 10, .inl (fun _ => 0))), (q1196, .inr (5, [.ref q1202, .ref q1215, .int 0, .int 0, .int 0, .ref q1216, .int 0, .ref q1217])), (q1215, .inr (0, [.int 0, .int 0, .int 0, .int 0, .int 0, .ref q1218])), (q1218, .inl (a 0, 10, .inl (fun _ => 0))), (q1216, .inl (a 0, 8, .inl (fun _ => 0))), (q1217, .inl (a 0, 8, .inl (fun _ => 0))), (q1197, .inl (a 5, 4, .inr (.inr (.inr (.inr (fun _ => none)))))), (q1198, .inr (0, [.int 0, .int 0, .int 0, .int 0, .int 0, .ref q1219])), (q1219, .inl (a 0, 10, .inl (fun _ => 0))), (q1199, .inr (4, [.ref q1220, .ref q1221, .int 0, .int 0, .int 0, .ref q1222, .ref q1223, .ref q1224])), (q1220, .inr (6, [.ref q1225, .ref q1226, .ref q1227, .int 0, .int 0, .int 0, .int 0, .int 0, .int 0])), (q1225, .inl (a 0, 401, .inl (fun _ => 0))), (q1226, .inl (a 0, 401, .inl (fun _ => 0))), (q1227, .inl (a 0, 401, .inl (fun _ => 0))), (q1221, .inl (a 0, 400, .inl (fun _ => 0))), (q1222, .inl (a 0, 12, .inl (fun _ => 0))), (q1223, .inl (a 0, 12, .inl (fun _ => 0))), (q1224, .inl (a 0, 12, .inl (fun _ => 0))), (q1200, .inr (2, [.ref q1228])), (q1228, .inl (a 1, 32, .inr (.inl (fun _ => 0)))), (q1201, .inr (1, [.ref q1229, .ref q1230, .int 0, .long 0])), (q1229, .inl (a 1, 2048, .inr (.inl (fun _ => 0)))), (q1230, .inl (a 1, 2048, .inr (.inl (fun _ => 0)))), (q1231, .inr (9, [.ref q1279, .int 0, .int 0, .ref q1280, .ref q1281, .ref q1282, .ref q1283, .int 0, .int 0, .int 0, .ref q1284, .ref q1285, .int 0, .int 0, .int 0, .int 0, .int 0, .int 0, .int 0, .ref q1286, .int 0, .ref q1287, .int 0, .ref q1288, .ref q1289, .ref q1290, .ref q1291, .ref q1292, .ref q1293, .ref q1294, .ref q1295, .ref q1296, .ref q1297, .ref q1298, .ref q1299, .ref q1300])), (q1279, .inl (a 2, 400, .inl (fun _ => 0))), (q1280, .inl (a 0, 2400, .inl (fun _ => 0))), (q1281, .inl (a 0, 7, .inl (fun _ => 0))), (q1282, .inl (a 0, 360, .inl (fun _ => 0))), (q1283, .inl (a 0, 6, .inl (fun _ => 0))), (q1284, .inl (a 0, 18, .inl (fun _ => 0))), (q1285, .inl (a 0, 40, .inl (fun _ => 0))), (q1286, .inl (a 0, 400, .inl (fun _ => 0))), (q1287, .inl (a 1, 64, .inr (.inl (fun _ => 0)))), (q1288, .inl (a 1, 9, .inr (.inl (fun _ => 0)))), (q1289, .inl (a 0, 104, .inl (fun _ => 0))), (q1290, .inl (a 0, 104, .inl (fun _ => 0))), (q1291, .inl (a 0, 6, .inl (fun _ => 0))), (q1292, .inl (a 3, 6, .inl (fun _ => 0))), (q1293, .inl (a 1, 6, .inr (.inl (fun _ => 0)))), (q1294, .inl (a 1, 6, .inr (.inl (fun _ => 0)))), (q1295, .inl (a 1, 6, .inr (.inl (fun _ => 0)))), (q1296, .inl (a 1, 6, .inr (.inl (fun _ => 0)))), (q1297, .inl (a 0, 6, .inl (fun _ => 0))), (q1298, .inl (a 0, 6, .inl (fun _ => 0))), (q1299, .inl (a 0, 416, .inl (fun _ => 0))), (q1300, .inl (a 3, 4, .inl (fun _ => 0)))]) (hS : va_S A s.heap H locs) {ls : Array Slot} (hl : lv_has ls 4 [(3, .int 0), (2, .ref q1231), (1, .ref q1001), (0, .ref b)]) : W p l e room_1 s m #[Value.ref b] below meth c H locs 61 10808 (lw_Z below #[Value.ref b] s) (F0 m 671 ls []) := by
  obtain ⟨hx, hb, hml, hown, hts, hr, hlocks, hnm⟩ := id C
  have hb : c.code = cL_law := hb
  have hown : s.vm.findClass RL = some m.cls := hown
  have hbA : ¬ A b := fun q => Nat.not_le.mpr hbl (hAi b q)
  obtain ⟨x1, ex1⟩ : ∃ z : Int32, z = xs 1 := ⟨_, rfl⟩
  obtain ⟨x2, ex2⟩ : ∃ z : Int32, z = xs 2 := ⟨_, rfl⟩
  refine lv_aload_n hx hb dL_law_671 rfl (lv_at hl 2 rfl) ?_
  refine lv_aload_n hx hb dL_law_672 rfl (lv_at hl 3 rfl) ?_
  refine lv_iload_n hx hb dL_law_673 rfl (lv_at hl 0 rfl) ?_
  refine lv_iconst (v := 1) hx hb dL_law_674 (by decide) ?_
  refine lv_iadd hx hb dL_law_675 ?_
  refine lv_topi (fun x3488 ex3488 => ?_)
  obtain rfl : x3488 = 1 := ex3488.trans (by decide)
  refine sldE hx hb hX hbl hbA hS 1 (ix_lit (by decide)) ex1 dL_law_676 ?_
  refine lv_aload_n hx hb dL_law_677 rfl (lv_at hl 3 rfl) ?_
  refine lv_iload_n hx hb dL_law_678 rfl (lv_at hl 0 rfl) ?_
  refine lv_iconst (v := 2) hx hb dL_law_679 (by decide) ?_
  refine lv_iadd hx hb dL_law_680 ?_
  refine lv_topi (fun x3489 ex3489 => ?_)
  obtain rfl : x3489 = 2 := ex3489.trans (by decide)
  refine sldE hx hb hX hbl hbA hS 2 (ix_lit (by decide)) ex2 dL_law_681 ?_
  refine aftRi (runV (As := [.int x1, .int x2]) (rest := []) C (c_X8_mixed_0 l D a q1001 q1194 q1195 q1196 q1197 q1198 q1199 q1200 q1201 q1202 q1215 q1216 q1217 x1 x2) lk_V_L_95 (okN_X8_mixed) ⟨Nat.le_of_ble_eq_true rfl, Nat.le_of_ble_eq_true rfl⟩ ⟨rfl, rfl⟩ (preV (preR hK (P_of_map (wc := [(q1001, .inr (8, [.ref q1194, .int 0, .ref q1195, .int 0, .int 0, .ref q1196, .ref q1197, .ref q1198, .ref q1199, .ref q1200, .ref q1201])), (q1196, .inr (5, [.ref q1202, .ref q1215, .int 0, .int 0, .int 0, .ref q1216, .int 0, .ref q1217])), (q1217, .inl (a 0, 8, .inl (fun _ => 0)))]) hP [0, 16, 20] rfl)) (recvOf hK hP 0 rfl (ci := 8) rfl)) hl.1 rfl (Nat.le_of_ble_eq_true rfl) dL_law_682 ⟨Nat.le_of_ble_eq_true rfl, Nat.le_of_ble_eq_true rfl⟩) (fun x3592 hw => ?_)
  rcases hw with ⟨h3595, rfl⟩ | ⟨h3596, h3597, rfl⟩ | ⟨h3598, h3599, h3600, rfl⟩ | ⟨h3601, h3602, h3603, h3604, rfl⟩ | ⟨h3605, h3606, h3607, h3608, rfl⟩
  · refine lv_aload_n hx hb dL_law_685 rfl (lv_at hl 1 rfl) ?_
    refine lv_aload_n hx hb dL_law_686 rfl (lv_at hl 3 rfl) ?_
    refine lv_iload_n hx hb dL_law_687 rfl (lv_at hl 0 rfl) ?_
    refine lv_iconst (v := 1) hx hb dL_law_688 (by decide) ?_
    refine lv_iadd hx hb dL_law_689 ?_
    refine lv_topi (fun x3609 ex3609 => ?_)
    obtain rfl : x3609 = 1 := ex3609.trans (by decide)
    refine sldE hx hb hX hbl hbA hS 1 (ix_lit (by decide)) ex1 dL_law_690 ?_
    refine lv_aload_n hx hb dL_law_691 rfl (lv_at hl 3 rfl) ?_
    refine lv_iload_n hx hb dL_law_692 rfl (lv_at hl 0 rfl) ?_
    refine lv_iconst (v := 2) hx hb dL_law_693 (by decide) ?_
    refine lv_iadd hx hb dL_law_694 ?_
    refine lv_topi (fun x3610 ex3610 => ?_)
    obtain rfl : x3610 = 2 := ex3610.trans (by decide)
    refine sldE hx hb hX hbl hbA hS 2 (ix_lit (by decide)) ex2 dL_law_695 ?_
    refine aftRi (runV (As := [.int x1, .int x2]) (rest := [.int (-1)]) C (c_X9_mixed_0 l D a q1231 q1279 q1280 q1281 q1282 q1283 q1284 q1285 q1286 q1287 q1288 q1289 q1290 q1291 q1292 q1293 q1294 q1295 q1296 q1297 q1298 q1299 q1300 x1 x2) lk_V_L_98 (okN_X9_mixed) ⟨Nat.le_of_ble_eq_true rfl, Nat.le_of_ble_eq_true rfl⟩ ⟨rfl, rfl⟩ (preV (preR hK (P_of_map (wc := [(q1231, .inr (9, [.ref q1279, .int 0, .int 0, .ref q1280, .ref q1281, .ref q1282, .ref q1283, .int 0, .int 0, .int 0, .ref q1284, .ref q1285, .int 0, .int 0, .int 0, .int 0, .int 0, .int 0, .int 0, .ref q1286, .int 0, .ref q1287, .int 0, .ref q1288, .ref q1289, .ref q1290, .ref q1291, .ref q1292, .ref q1293, .ref q1294, .ref q1295, .ref q1296, .ref q1297, .ref q1298, .ref q1299, .ref q1300])), (q1289, .inl (a 0, 104, .inl (fun _ => 0)))]) hP [38, 49] rfl)) (recvOf hK hP 38 rfl (ci := 9) rfl)) hl.1 rfl (Nat.le_of_ble_eq_true rfl) dL_law_696 ⟨Nat.le_of_ble_eq_true rfl, Nat.le_of_ble_eq_true rfl⟩) (fun x3718 hw => ?_)
    rcases hw with ⟨h3721, rfl⟩ | ⟨h3722, h3723, rfl⟩ | ⟨h3724, h3725, h3726, rfl⟩ | ⟨h3727, h3728, h3729, h3730, rfl⟩ | ⟨h3731, h3732, h3733, h3734, rfl⟩
    · refine lv_icmp_eq (tgt := 928) hx hb dL_law_699 (by decide) (fun c9 => ?_) (fun c9 => absurd (by decide) c9)
      exact law_tail C hX hbl hAi hS (Nat.le_of_ble_eq_true rfl) (Nat.le_of_ble_eq_true rfl) (lv_sub hl [3, 0] rfl)
    · exfalso; omega
    · exfalso; omega
    · exfalso; omega
    · exfalso; omega
  · refine lv_aload_n hx hb dL_law_685 rfl (lv_at hl 1 rfl) ?_
    refine lv_aload_n hx hb dL_law_686 rfl (lv_at hl 3 rfl) ?_
    refine lv_iload_n hx hb dL_law_687 rfl (lv_at hl 0 rfl) ?_
    refine lv_iconst (v := 1) hx hb dL_law_688 (by decide) ?_
    refine lv_iadd hx hb dL_law_689 ?_
    refine lv_topi (fun x3735 ex3735 => ?_)
    obtain rfl : x3735 = 1 := ex3735.trans (by decide)
    refine sldE hx hb hX hbl hbA hS 1 (ix_lit (by decide)) ex1 dL_law_690 ?_
    refine lv_aload_n hx hb dL_law_691 rfl (lv_at hl 3 rfl) ?_
    refine lv_iload_n hx hb dL_law_692 rfl (lv_at hl 0 rfl) ?_
    refine lv_iconst (v := 2) hx hb dL_law_693 (by decide) ?_
    refine lv_iadd hx hb dL_law_694 ?_
    refine lv_topi (fun x3736 ex3736 => ?_)
    obtain rfl : x3736 = 2 := ex3736.trans (by decide)
    refine sldE hx hb hX hbl hbA hS 2 (ix_lit (by decide)) ex2 dL_law_695 ?_
    refine aftRi (runV (As := [.int x1, .int x2]) (rest := [.int (-1)]) C (c_X9_mixed_0 l D a q1231 q1279 q1280 q1281 q1282 q1283 q1284 q1285 q1286 q1287 q1288 q1289 q1290 q1291 q1292 q1293 q1294 q1295 q1296 q1297 q1298 q1299 q1300 x1 x2) lk_V_L_98 (okN_X9_mixed) ⟨Nat.le_of_ble_eq_true rfl, Nat.le_of_ble_eq_true rfl⟩ ⟨rfl, rfl⟩ (preV (preR hK (P_of_map (wc := [(q1231, .inr (9, [.ref q1279, .int 0, .int 0, .ref q1280, .ref q1281, .ref q1282, .ref q1283, .int 0, .int 0, .int 0, .ref q1284, .ref q1285, .int 0, .int 0, .int 0, .int 0, .int 0, .int 0, .int 0, .ref q1286, .int 0, .ref q1287, .int 0, .ref q1288, .ref q1289, .ref q1290, .ref q1291, .ref q1292, .ref q1293, .ref q1294, .ref q1295, .ref q1296, .ref q1297, .ref q1298, .ref q1299, .ref q1300])), (q1289, .inl (a 0, 104, .inl (fun _ => 0)))]) hP [38, 49] rfl)) (recvOf hK hP 38 rfl (ci := 9) rfl)) hl.1 rfl (Nat.le_of_ble_eq_true rfl) dL_law_696 ⟨Nat.le_of_ble_eq_true rfl, Nat.le_of_ble_eq_true rfl⟩) (fun x3737 hw => ?_)
    rcases hw with ⟨h3740, rfl⟩ | ⟨h3741, h3742, rfl⟩ | ⟨h3743, h3744, h3745, rfl⟩ | ⟨h3746, h3747, h3748, h3749, rfl⟩ | ⟨h3750, h3751, h3752, h3753, rfl⟩
    · exfalso; omega
    · refine lv_icmp_eq (tgt := 928) hx hb dL_law_699 (by decide) (fun c9 => ?_) (fun c9 => absurd (by decide) c9)
      exact law_tail C hX hbl hAi hS (Nat.le_of_ble_eq_true rfl) (Nat.le_of_ble_eq_true rfl) (lv_sub hl [3, 0] rfl)
    · exfalso; omega
    · exfalso; omega
    · exfalso; omega
  · refine lv_aload_n hx hb dL_law_685 rfl (lv_at hl 1 rfl) ?_
    refine lv_aload_n hx hb dL_law_686 rfl (lv_at hl 3 rfl) ?_
    refine lv_iload_n hx hb dL_law_687 rfl (lv_at hl 0 rfl) ?_
    refine lv_iconst (v := 1) hx hb dL_law_688 (by decide) ?_
    refine lv_iadd hx hb dL_law_689 ?_
    refine lv_topi (fun x3754 ex3754 => ?_)
    obtain rfl : x3754 = 1 := ex3754.trans (by decide)
    refine sldE hx hb hX hbl hbA hS 1 (ix_lit (by decide)) ex1 dL_law_690 ?_
    refine lv_aload_n hx hb dL_law_691 rfl (lv_at hl 3 rfl) ?_
    refine lv_iload_n hx hb dL_law_692 rfl (lv_at hl 0 rfl) ?_
    refine lv_iconst (v := 2) hx hb dL_law_693 (by decide) ?_
    refine lv_iadd hx hb dL_law_694 ?_
    refine lv_topi (fun x3755 ex3755 => ?_)
    obtain rfl : x3755 = 2 := ex3755.trans (by decide)
    refine sldE hx hb hX hbl hbA hS 2 (ix_lit (by decide)) ex2 dL_law_695 ?_
    refine aftRi (runV (As := [.int x1, .int x2]) (rest := [.int (-1)]) C (c_X9_mixed_0 l D a q1231 q1279 q1280 q1281 q1282 q1283 q1284 q1285 q1286 q1287 q1288 q1289 q1290 q1291 q1292 q1293 q1294 q1295 q1296 q1297 q1298 q1299 q1300 x1 x2) lk_V_L_98 (okN_X9_mixed) ⟨Nat.le_of_ble_eq_true rfl, Nat.le_of_ble_eq_true rfl⟩ ⟨rfl, rfl⟩ (preV (preR hK (P_of_map (wc := [(q1231, .inr (9, [.ref q1279, .int 0, .int 0, .ref q1280, .ref q1281, .ref q1282, .ref q1283, .int 0, .int 0, .int 0, .ref q1284, .ref q1285, .int 0, .int 0, .int 0, .int 0, .int 0, .int 0, .int 0, .ref q1286, .int 0, .ref q1287, .int 0, .ref q1288, .ref q1289, .ref q1290, .ref q1291, .ref q1292, .ref q1293, .ref q1294, .ref q1295, .ref q1296, .ref q1297, .ref q1298, .ref q1299, .ref q1300])), (q1289, .inl (a 0, 104, .inl (fun _ => 0)))]) hP [38, 49] rfl)) (recvOf hK hP 38 rfl (ci := 9) rfl)) hl.1 rfl (Nat.le_of_ble_eq_true rfl) dL_law_696 ⟨Nat.le_of_ble_eq_true rfl, Nat.le_of_ble_eq_true rfl⟩) (fun x3756 hw => ?_)
    rcases hw with ⟨h3759, rfl⟩ | ⟨h3760, h3761, rfl⟩ | ⟨h3762, h3763, h3764, rfl⟩ | ⟨h3765, h3766, h3767, h3768, rfl⟩ | ⟨h3769, h3770, h3771, h3772, rfl⟩
    · exfalso; omega
    · exfalso; omega
    · refine lv_icmp_eq (tgt := 928) hx hb dL_law_699 (by decide) (fun c9 => ?_) (fun c9 => absurd (by decide) c9)
      exact law_tail C hX hbl hAi hS (Nat.le_of_ble_eq_true rfl) (Nat.le_of_ble_eq_true rfl) (lv_sub hl [3, 0] rfl)
    · exfalso; omega
    · exfalso; omega
  · refine lv_aload_n hx hb dL_law_685 rfl (lv_at hl 1 rfl) ?_
    refine lv_aload_n hx hb dL_law_686 rfl (lv_at hl 3 rfl) ?_
    refine lv_iload_n hx hb dL_law_687 rfl (lv_at hl 0 rfl) ?_
    refine lv_iconst (v := 1) hx hb dL_law_688 (by decide) ?_
    refine lv_iadd hx hb dL_law_689 ?_
    refine lv_topi (fun x3773 ex3773 => ?_)
    obtain rfl : x3773 = 1 := ex3773.trans (by decide)
    refine sldE hx hb hX hbl hbA hS 1 (ix_lit (by decide)) ex1 dL_law_690 ?_
    refine lv_aload_n hx hb dL_law_691 rfl (lv_at hl 3 rfl) ?_
    refine lv_iload_n hx hb dL_law_692 rfl (lv_at hl 0 rfl) ?_
    refine lv_iconst (v := 2) hx hb dL_law_693 (by decide) ?_
    refine lv_iadd hx hb dL_law_694 ?_
    refine lv_topi (fun x3774 ex3774 => ?_)
    obtain rfl : x3774 = 2 := ex3774.trans (by decide)
    refine sldE hx hb hX hbl hbA hS 2 (ix_lit (by decide)) ex2 dL_law_695 ?_
    refine aftRi (runV (As := [.int x1, .int x2]) (rest := [.int (-2)]) C (c_X9_mixed_0 l D a q1231 q1279 q1280 q1281 q1282 q1283 q1284 q1285 q1286 q1287 q1288 q1289 q1290 q1291 q1292 q1293 q1294 q1295 q1296 q1297 q1298 q1299 q1300 x1 x2) lk_V_L_98 (okN_X9_mixed) ⟨Nat.le_of_ble_eq_true rfl, Nat.le_of_ble_eq_true rfl⟩ ⟨rfl, rfl⟩ (preV (preR hK (P_of_map (wc := [(q1231, .inr (9, [.ref q1279, .int 0, .int 0, .ref q1280, .ref q1281, .ref q1282, .ref q1283, .int 0, .int 0, .int 0, .ref q1284, .ref q1285, .int 0, .int 0, .int 0, .int 0, .int 0, .int 0, .int 0, .ref q1286, .int 0, .ref q1287, .int 0, .ref q1288, .ref q1289, .ref q1290, .ref q1291, .ref q1292, .ref q1293, .ref q1294, .ref q1295, .ref q1296, .ref q1297, .ref q1298, .ref q1299, .ref q1300])), (q1289, .inl (a 0, 104, .inl (fun _ => 0)))]) hP [38, 49] rfl)) (recvOf hK hP 38 rfl (ci := 9) rfl)) hl.1 rfl (Nat.le_of_ble_eq_true rfl) dL_law_696 ⟨Nat.le_of_ble_eq_true rfl, Nat.le_of_ble_eq_true rfl⟩) (fun x3775 hw => ?_)
    rcases hw with ⟨h3778, rfl⟩ | ⟨h3779, h3780, rfl⟩ | ⟨h3781, h3782, h3783, rfl⟩ | ⟨h3784, h3785, h3786, h3787, rfl⟩ | ⟨h3788, h3789, h3790, h3791, rfl⟩
    · exfalso; omega
    · exfalso; omega
    · exfalso; omega
    · exfalso; omega
    · refine lv_icmp_eq (tgt := 928) hx hb dL_law_699 (by decide) (fun c9 => ?_) (fun c9 => absurd (by decide) c9)
      exact law_tail C hX hbl hAi hS (Nat.le_of_ble_eq_true rfl) (Nat.le_of_ble_eq_true rfl) (lv_sub hl [3, 0] rfl)
  · refine lv_aload_n hx hb dL_law_685 rfl (lv_at hl 1 rfl) ?_
    refine lv_aload_n hx hb dL_law_686 rfl (lv_at hl 3 rfl) ?_
    refine lv_iload_n hx hb dL_law_687 rfl (lv_at hl 0 rfl) ?_
    refine lv_iconst (v := 1) hx hb dL_law_688 (by decide) ?_
    refine lv_iadd hx hb dL_law_689 ?_
    refine lv_topi (fun x3792 ex3792 => ?_)
    obtain rfl : x3792 = 1 := ex3792.trans (by decide)
    refine sldE hx hb hX hbl hbA hS 1 (ix_lit (by decide)) ex1 dL_law_690 ?_
    refine lv_aload_n hx hb dL_law_691 rfl (lv_at hl 3 rfl) ?_
    refine lv_iload_n hx hb dL_law_692 rfl (lv_at hl 0 rfl) ?_
    refine lv_iconst (v := 2) hx hb dL_law_693 (by decide) ?_
    refine lv_iadd hx hb dL_law_694 ?_
    refine lv_topi (fun x3793 ex3793 => ?_)
    obtain rfl : x3793 = 2 := ex3793.trans (by decide)
    refine sldE hx hb hX hbl hbA hS 2 (ix_lit (by decide)) ex2 dL_law_695 ?_
    refine aftRi (runV (As := [.int x1, .int x2]) (rest := [.int (-1)]) C (c_X9_mixed_0 l D a q1231 q1279 q1280 q1281 q1282 q1283 q1284 q1285 q1286 q1287 q1288 q1289 q1290 q1291 q1292 q1293 q1294 q1295 q1296 q1297 q1298 q1299 q1300 x1 x2) lk_V_L_98 (okN_X9_mixed) ⟨Nat.le_of_ble_eq_true rfl, Nat.le_of_ble_eq_true rfl⟩ ⟨rfl, rfl⟩ (preV (preR hK (P_of_map (wc := [(q1231, .inr (9, [.ref q1279, .int 0, .int 0, .ref q1280, .ref q1281, .ref q1282, .ref q1283, .int 0, .int 0, .int 0, .ref q1284, .ref q1285, .int 0, .int 0, .int 0, .int 0, .int 0, .int 0, .int 0, .ref q1286, .int 0, .ref q1287, .int 0, .ref q1288, .ref q1289, .ref q1290, .ref q1291, .ref q1292, .ref q1293, .ref q1294, .ref q1295, .ref q1296, .ref q1297, .ref q1298, .ref q1299, .ref q1300])), (q1289, .inl (a 0, 104, .inl (fun _ => 0)))]) hP [38, 49] rfl)) (recvOf hK hP 38 rfl (ci := 9) rfl)) hl.1 rfl (Nat.le_of_ble_eq_true rfl) dL_law_696 ⟨Nat.le_of_ble_eq_true rfl, Nat.le_of_ble_eq_true rfl⟩) (fun x3794 hw => ?_)
    rcases hw with ⟨h3797, rfl⟩ | ⟨h3798, h3799, rfl⟩ | ⟨h3800, h3801, h3802, rfl⟩ | ⟨h3803, h3804, h3805, h3806, rfl⟩ | ⟨h3807, h3808, h3809, h3810, rfl⟩
    · exfalso; omega
    · exfalso; omega
    · exfalso; omega
    · refine lv_icmp_eq (tgt := 928) hx hb dL_law_699 (by decide) (fun c9 => ?_) (fun c9 => absurd (by decide) c9)
      exact law_tail C hX hbl hAi hS (Nat.le_of_ble_eq_true rfl) (Nat.le_of_ble_eq_true rfl) (lv_sub hl [3, 0] rfl)
    · exfalso; omega

set_option maxHeartbeats 4000000 in
set_option maxRecDepth 100000 in
theorem law_count {p : Program} {l : Launch} {e : Env} {s : State} {m : MethodId} {below : List Frame} {meth : Method} {c : Code} {D : va_G} {a : Nat → ClassId} {b : Nat} {xs : Nat → Int32} {A : Nat → Prop} (C : Cx p s m #[Value.ref b] meth c ML_law) (hX : va_X b 6 xs s s.heap) (hbl : b < s.heap.size) (hAi : ∀ q, A q → s.heap.size ≤ q) (hA : ∀ q, s.heap.size ≤ q → A q) (hK : KK D a s) {q1001 q1194 q1195 q1196 q1197 q1198 q1199 q1200 q1201 q1202 q1203 q1204 q1205 q1206 q1207 q1208 q1209 q1210 q1211 q1212 q1213 q1214 q1215 q1216 q1217 q1218 q1219 q1220 q1221 q1222 q1223 q1224 q1225 q1226 q1227 q1228 q1229 q1230 q1231 q1279 q1280 q1281 q1282 q1283 q1284 q1285 q1286 q1287 q1288 q1289 q1290 q1291 q1292 q1293 q1294 q1295 q1296 q1297 q1298 q1299 q1300 : Nat} {H : Heap} {locs : List Loc} (hP : va_P D classes [(q1001, .inr (8, [.ref q1194, .int 0, .ref q1195, .int 0, .int 0, .ref q1196, .ref q1197, .ref q1198, .ref q1199, .ref q1200, .ref q1201])), (q1194, .inl (a 0, 400, .inl (fun _ => 0))), (q1195, .inl (a 4, 6, .inr (.inr (.inr (.inr (fun _ => none)))))), (q1202, .inr (7, [.int 0, .int 0, .int 0, .int 0, .int 0, .ref q1203, .ref q1204, .ref q1205, .ref q1206, .ref q1207, .ref q1208, .ref q1209, .ref q1210, .ref q1211, .ref q1212, .ref q1213, .ref q1214, .int 0])), (q1203, .inl (a 0, 6, .inl (fun _ => 0))), (q1204, .inl (a 0, 6, .inl (fun _ => 0))), (q1205, .inl (a 0, 6, .inl (fun _ => 0))), (q1206, .inl (a 0, 10, .inl (fun _ => 0))), (q1207, .inl (a 0, 10, .inl (fun _ => 0))), (q1208, .inl (a 0, 10, .inl (fun _ => 0))), (q1209, .inl (a 0, 10, .inl (fun _ => 0))), (q1210, .inl (a 0, 10, .inl (fun _ => 0))), (q1211, .inl (a 0, 10, .inl (fun _ => 0))), (q1212, .inl (a 0, 10, .inl (fun _ => 0))), (q1213, .inl (a 0, 10, .inl (fun _ => 0))), (q1214, .inl (a 0, 10, .inl (fun _ => 0))), (q1196, .inr (5, [.ref q1202, .ref q1215, .int 0, .int 0, .int 0, .ref q1216, .int 0, .ref q1217])), (q1215, .inr (0, [.int 0, .int 0, .int 0, .int 0, .int 0, .ref q1218])), (q1218, .inl (a 0, 10, .inl (fun _ => 0))), (q1216, .inl (a 0, 8, .inl (fun _ => 0))), (q1217, .inl (a 0, 8, .inl (fun _ => 0))), (q1197, .inl (a 5, 4, .inr (.inr (.inr (.inr (fun _ => none)))))), (q1198, .inr (0, [.int 0, .int 0, .int 0, .int 0, .int 0, .ref q1219])), (q1219, .inl (a 0, 10, .inl (fun _ => 0))), (q1199, .inr (4, [.ref q1220, .ref q1221, .int 0, .int 0, .int 0, .ref q1222, .ref q1223, .ref q1224])), (q1220, .inr (6, [.ref q1225, .ref q1226, .ref q1227, .int 0, .int 0, .int 0, .int 0, .int 0, .int 0])), (q1225, .inl (a 0, 401, .inl (fun _ => 0))), (q1226, .inl (a 0, 401, .inl (fun _ => 0))), (q1227, .inl (a 0, 401, .inl (fun _ => 0))), (q1221, .inl (a 0, 400, .inl (fun _ => 0))), (q1222, .inl (a 0, 12, .inl (fun _ => 0))), (q1223, .inl (a 0, 12, .inl (fun _ => 0))), (q1224, .inl (a 0, 12, .inl (fun _ => 0))), (q1200, .inr (2, [.ref q1228])), (q1228, .inl (a 1, 32, .inr (.inl (fun _ => 0)))), (q1201, .inr (1, [.ref q1229, .ref q1230, .int 0, .long 0])), (q1229, .inl (a 1, 2048, .inr (.inl (fun _ => 0)))), (q1230, .inl (a 1, 2048, .inr (.inl (fun _ => 0)))), (q1231, .inr (9, [.ref q1279, .int 0, .int 0, .ref q1280, .ref q1281, .ref q1282, .ref q1283, .int 0, .int 0, .int 0, .ref q1284, .ref q1285, .int 0, .int 0, .int 0, .int 0, .int 0, .int 0, .int 0, .ref q1286, .int 0, .ref q1287, .int 0, .ref q1288, .ref q1289, .ref q1290, .ref q1291, .ref q1292, .ref q1293, .ref q1294, .ref q1295, .ref q1296, .ref q1297, .ref q1298, .ref q1299, .ref q1300])), (q1279, .inl (a 2, 400, .inl (fun _ => 0))), (q1280, .inl (a 0, 2400, .inl (fun _ => 0))), (q1281, .inl (a 0, 7, .inl (fun _ => 0))), (q1282, .inl (a 0, 360, .inl (fun _ => 0))), (q1283, .inl (a 0, 6, .inl (fun _ => 0))), (q1284, .inl (a 0, 18, .inl (fun _ => 0))), (q1285, .inl (a 0, 40, .inl (fun _ => 0))), (q1286, .inl (a 0, 400, .inl (fun _ => 0))), (q1287, .inl (a 1, 64, .inr (.inl (fun _ => 0)))), (q1288, .inl (a 1, 9, .inr (.inl (fun _ => 0)))), (q1289, .inl (a 0, 104, .inl (fun _ => 0))), (q1290, .inl (a 0, 104, .inl (fun _ => 0))), (q1291, .inl (a 0, 6, .inl (fun _ => 0))), (q1292, .inl (a 3, 6, .inl (fun _ => 0))), (q1293, .inl (a 1, 6, .inr (.inl (fun _ => 0)))), (q1294, .inl (a 1, 6, .inr (.inl (fun _ => 0)))), (q1295, .inl (a 1, 6, .inr (.inl (fun _ => 0)))), (q1296, .inl (a 1, 6, .inr (.inl (fun _ => 0)))), (q1297, .inl (a 0, 6, .inl (fun _ => 0))), (q1298, .inl (a 0, 6, .inl (fun _ => 0))), (q1299, .inl (a 0, 416, .inl (fun _ => 0))), (q1300, .inl (a 3, 4, .inl (fun _ => 0)))] H) (hD : va_D A [(q1001, .inr (8, [.ref q1194, .int 0, .ref q1195, .int 0, .int 0, .ref q1196, .ref q1197, .ref q1198, .ref q1199, .ref q1200, .ref q1201])), (q1194, .inl (a 0, 400, .inl (fun _ => 0))), (q1195, .inl (a 4, 6, .inr (.inr (.inr (.inr (fun _ => none)))))), (q1202, .inr (7, [.int 0, .int 0, .int 0, .int 0, .int 0, .ref q1203, .ref q1204, .ref q1205, .ref q1206, .ref q1207, .ref q1208, .ref q1209, .ref q1210, .ref q1211, .ref q1212, .ref q1213, .ref q1214, .int 0])), (q1203, .inl (a 0, 6, .inl (fun _ => 0))), (q1204, .inl (a 0, 6, .inl (fun _ => 0))), (q1205, .inl (a 0, 6, .inl (fun _ => 0))), (q1206, .inl (a 0, 10, .inl (fun _ => 0))), (q1207, .inl (a 0, 10, .inl (fun _ => 0))), (q1208, .inl (a 0, 10, .inl (fun _ => 0))), (q1209, .inl (a 0, 10, .inl (fun _ => 0))), (q1210, .inl (a 0, 10, .inl (fun _ => 0))), (q1211, .inl (a 0, 10, .inl (fun _ => 0))), (q1212, .inl (a 0, 10, .inl (fun _ => 0))), (q1213, .inl (a 0, 10, .inl (fun _ => 0))), (q1214, .inl (a 0, 10, .inl (fun _ => 0))), (q1196, .inr (5, [.ref q1202, .ref q1215, .int 0, .int 0, .int 0, .ref q1216, .int 0, .ref q1217])), (q1215, .inr (0, [.int 0, .int 0, .int 0, .int 0, .int 0, .ref q1218])), (q1218, .inl (a 0, 10, .inl (fun _ => 0))), (q1216, .inl (a 0, 8, .inl (fun _ => 0))), (q1217, .inl (a 0, 8, .inl (fun _ => 0))), (q1197, .inl (a 5, 4, .inr (.inr (.inr (.inr (fun _ => none)))))), (q1198, .inr (0, [.int 0, .int 0, .int 0, .int 0, .int 0, .ref q1219])), (q1219, .inl (a 0, 10, .inl (fun _ => 0))), (q1199, .inr (4, [.ref q1220, .ref q1221, .int 0, .int 0, .int 0, .ref q1222, .ref q1223, .ref q1224])), (q1220, .inr (6, [.ref q1225, .ref q1226, .ref q1227, .int 0, .int 0, .int 0, .int 0, .int 0, .int 0])), (q1225, .inl (a 0, 401, .inl (fun _ => 0))), (q1226, .inl (a 0, 401, .inl (fun _ => 0))), (q1227, .inl (a 0, 401, .inl (fun _ => 0))), (q1221, .inl (a 0, 400, .inl (fun _ => 0))), (q1222, .inl (a 0, 12, .inl (fun _ => 0))), (q1223, .inl (a 0, 12, .inl (fun _ => 0))), (q1224, .inl (a 0, 12, .inl (fun _ => 0))), (q1200, .inr (2, [.ref q1228])), (q1228, .inl (a 1, 32, .inr (.inl (fun _ => 0)))), (q1201, .inr (1, [.ref q1229, .ref q1230, .int 0, .long 0])), (q1229, .inl (a 1, 2048, .inr (.inl (fun _ => 0)))), (q1230, .inl (a 1, 2048, .inr (.inl (fun _ => 0)))), (q1231, .inr (9, [.ref q1279, .int 0, .int 0, .ref q1280, .ref q1281, .ref q1282, .ref q1283, .int 0, .int 0, .int 0, .ref q1284, .ref q1285, .int 0, .int 0, .int 0, .int 0, .int 0, .int 0, .int 0, .ref q1286, .int 0, .ref q1287, .int 0, .ref q1288, .ref q1289, .ref q1290, .ref q1291, .ref q1292, .ref q1293, .ref q1294, .ref q1295, .ref q1296, .ref q1297, .ref q1298, .ref q1299, .ref q1300])), (q1279, .inl (a 2, 400, .inl (fun _ => 0))), (q1280, .inl (a 0, 2400, .inl (fun _ => 0))), (q1281, .inl (a 0, 7, .inl (fun _ => 0))), (q1282, .inl (a 0, 360, .inl (fun _ => 0))), (q1283, .inl (a 0, 6, .inl (fun _ => 0))), (q1284, .inl (a 0, 18, .inl (fun _ => 0))), (q1285, .inl (a 0, 40, .inl (fun _ => 0))), (q1286, .inl (a 0, 400, .inl (fun _ => 0))), (q1287, .inl (a 1, 64, .inr (.inl (fun _ => 0)))), (q1288, .inl (a 1, 9, .inr (.inl (fun _ => 0)))), (q1289, .inl (a 0, 104, .inl (fun _ => 0))), (q1290, .inl (a 0, 104, .inl (fun _ => 0))), (q1291, .inl (a 0, 6, .inl (fun _ => 0))), (q1292, .inl (a 3, 6, .inl (fun _ => 0))), (q1293, .inl (a 1, 6, .inr (.inl (fun _ => 0)))), (q1294, .inl (a 1, 6, .inr (.inl (fun _ => 0)))), (q1295, .inl (a 1, 6, .inr (.inl (fun _ => 0)))), (q1296, .inl (a 1, 6, .inr (.inl (fun _ => 0)))), (q1297, .inl (a 0, 6, .inl (fun _ => 0))), (q1298, .inl (a 0, 6, .inl (fun _ => 0))), (q1299, .inl (a 0, 416, .inl (fun _ => 0))), (q1300, .inl (a 3, 4, .inl (fun _ => 0)))]) (hS : va_S A s.heap H locs) {ls : Array Slot} (hl : lv_has ls 4 [(3, .int 0), (2, .ref q1231), (1, .ref q1001), (0, .ref b)]) : W p l e room_1 s m #[Value.ref b] below meth c H locs 61 10808 (lw_Z below #[Value.ref b] s) (F0 m 836 ls []) := by
  obtain ⟨hx, hb, hml, hown, hts, hr, hlocks, hnm⟩ := id C
  have hb : c.code = cL_law := hb
  have hown : s.vm.findClass RL = some m.cls := hown
  have hbA : ¬ A b := fun q => Nat.not_le.mpr hbl (hAi b q)
  obtain ⟨x1, ex1⟩ : ∃ z : Int32, z = xs 1 := ⟨_, rfl⟩
  refine lv_aload_n hx hb dL_law_836 rfl (lv_at hl 2 rfl) ?_
  refine lv_aload_n hx hb dL_law_837 rfl (lv_at hl 3 rfl) ?_
  refine lv_iload_n hx hb dL_law_838 rfl (lv_at hl 0 rfl) ?_
  refine lv_iconst (v := 1) hx hb dL_law_839 (by decide) ?_
  refine lv_iadd hx hb dL_law_840 ?_
  refine lv_topi (fun x4093 ex4093 => ?_)
  obtain rfl : x4093 = 1 := ex4093.trans (by decide)
  refine sldE hx hb hX hbl hbA hS 1 (ix_lit (by decide)) ex1 dL_law_841 ?_
  refine aftRi (runV (As := [.int x1]) (rest := []) C (c_X8_count_0 l D a q1001 q1194 q1195 q1196 q1197 q1198 q1199 q1200 q1201 q1202 q1203 q1204 q1205 q1206 q1207 q1208 q1209 q1210 q1211 q1212 q1213 q1214 q1215 q1216 q1217 q1218 x1) lk_V_L_116 (okN_X8_count) ⟨Nat.le_of_ble_eq_true rfl, Nat.le_of_ble_eq_true rfl⟩ ⟨rfl, rfl⟩ (preV (preR hK (P_of_map (wc := [(q1001, .inr (8, [.ref q1194, .int 0, .ref q1195, .int 0, .int 0, .ref q1196, .ref q1197, .ref q1198, .ref q1199, .ref q1200, .ref q1201])), (q1202, .inr (7, [.int 0, .int 0, .int 0, .int 0, .int 0, .ref q1203, .ref q1204, .ref q1205, .ref q1206, .ref q1207, .ref q1208, .ref q1209, .ref q1210, .ref q1211, .ref q1212, .ref q1213, .ref q1214, .int 0])), (q1196, .inr (5, [.ref q1202, .ref q1215, .int 0, .int 0, .int 0, .ref q1216, .int 0, .ref q1217])), (q1215, .inr (0, [.int 0, .int 0, .int 0, .int 0, .int 0, .ref q1218]))]) hP [0, 3, 16, 17] rfl)) (recvOf hK hP 0 rfl (ci := 8) rfl)) hl.1 rfl (Nat.le_of_ble_eq_true rfl) dL_law_842 ⟨Nat.le_of_ble_eq_true rfl, Nat.le_of_ble_eq_true rfl⟩) (fun x4182 hw => ?_)
  rcases hw with ⟨h4185, rfl⟩ | ⟨h4186, rfl⟩ | ⟨h4187, rfl⟩ | ⟨h4188, rfl⟩ | ⟨h4189, rfl⟩ | ⟨h4190, rfl⟩ | ⟨h4191, rfl⟩ | ⟨h4192, rfl⟩ | ⟨h4193, rfl⟩ | ⟨h4194, rfl⟩ | ⟨h4195, rfl⟩ | ⟨h4196, h4197, h4198, h4199, h4200, h4201, h4202, h4203, h4204, h4205, h4206, rfl⟩
  · refine lv_aload_n hx hb dL_law_845 rfl (lv_at hl 1 rfl) ?_
    refine lv_aload_n hx hb dL_law_846 rfl (lv_at hl 3 rfl) ?_
    refine lv_iload_n hx hb dL_law_847 rfl (lv_at hl 0 rfl) ?_
    refine lv_iconst (v := 1) hx hb dL_law_848 (by decide) ?_
    refine lv_iadd hx hb dL_law_849 ?_
    refine lv_topi (fun x4207 ex4207 => ?_)
    obtain rfl : x4207 = 1 := ex4207.trans (by decide)
    refine sldE hx hb hX hbl hbA hS 1 (ix_lit (by decide)) ex1 dL_law_850 ?_
    refine aftRi (runV (As := [.int x1]) (rest := [.int 0]) C (c_X9_count_0 l D a q1231 q1279 q1280 q1281 q1282 q1283 q1284 q1285 q1286 q1287 q1288 q1289 q1290 q1291 q1292 q1293 q1294 q1295 q1296 q1297 q1298 q1299 q1300 x1) lk_V_L_119 (okN_X9_count) ⟨Nat.le_of_ble_eq_true rfl, Nat.le_of_ble_eq_true rfl⟩ ⟨rfl, rfl⟩ (preV (preR hK (P_of_map (wc := [(q1231, .inr (9, [.ref q1279, .int 0, .int 0, .ref q1280, .ref q1281, .ref q1282, .ref q1283, .int 0, .int 0, .int 0, .ref q1284, .ref q1285, .int 0, .int 0, .int 0, .int 0, .int 0, .int 0, .int 0, .ref q1286, .int 0, .ref q1287, .int 0, .ref q1288, .ref q1289, .ref q1290, .ref q1291, .ref q1292, .ref q1293, .ref q1294, .ref q1295, .ref q1296, .ref q1297, .ref q1298, .ref q1299, .ref q1300])), (q1289, .inl (a 0, 104, .inl (fun _ => 0)))]) hP [38, 49] rfl)) (recvOf hK hP 38 rfl (ci := 9) rfl)) hl.1 rfl (Nat.le_of_ble_eq_true rfl) dL_law_851 ⟨Nat.le_of_ble_eq_true rfl, Nat.le_of_ble_eq_true rfl⟩) (fun x4278 hw => ?_)
    rcases hw with ⟨h4281, rfl⟩ | ⟨h4282, rfl⟩ | ⟨h4283, rfl⟩ | ⟨h4284, rfl⟩ | ⟨h4285, rfl⟩ | ⟨h4286, rfl⟩ | ⟨h4287, rfl⟩ | ⟨h4288, rfl⟩ | ⟨h4289, rfl⟩ | ⟨h4290, rfl⟩ | ⟨h4291, rfl⟩ | ⟨h4292, h4293, h4294, h4295, h4296, h4297, h4298, h4299, h4300, h4301, h4302, rfl⟩
    · refine lv_icmp_eq (tgt := 928) hx hb dL_law_854 (by decide) (fun c9 => ?_) (fun c9 => absurd (by decide) c9)
      exact law_tail C hX hbl hAi hS (Nat.le_of_ble_eq_true rfl) (Nat.le_of_ble_eq_true rfl) (lv_sub hl [3, 0] rfl)
    · exfalso; omega
    · exfalso; omega
    · exfalso; omega
    · exfalso; omega
    · exfalso; omega
    · exfalso; omega
    · exfalso; omega
    · exfalso; omega
    · exfalso; omega
    · exfalso; omega
    · exfalso; omega
  · refine lv_aload_n hx hb dL_law_845 rfl (lv_at hl 1 rfl) ?_
    refine lv_aload_n hx hb dL_law_846 rfl (lv_at hl 3 rfl) ?_
    refine lv_iload_n hx hb dL_law_847 rfl (lv_at hl 0 rfl) ?_
    refine lv_iconst (v := 1) hx hb dL_law_848 (by decide) ?_
    refine lv_iadd hx hb dL_law_849 ?_
    refine lv_topi (fun x4303 ex4303 => ?_)
    obtain rfl : x4303 = 1 := ex4303.trans (by decide)
    refine sldE hx hb hX hbl hbA hS 1 (ix_lit (by decide)) ex1 dL_law_850 ?_
    refine aftRi (runV (As := [.int x1]) (rest := [.int 0]) C (c_X9_count_0 l D a q1231 q1279 q1280 q1281 q1282 q1283 q1284 q1285 q1286 q1287 q1288 q1289 q1290 q1291 q1292 q1293 q1294 q1295 q1296 q1297 q1298 q1299 q1300 x1) lk_V_L_119 (okN_X9_count) ⟨Nat.le_of_ble_eq_true rfl, Nat.le_of_ble_eq_true rfl⟩ ⟨rfl, rfl⟩ (preV (preR hK (P_of_map (wc := [(q1231, .inr (9, [.ref q1279, .int 0, .int 0, .ref q1280, .ref q1281, .ref q1282, .ref q1283, .int 0, .int 0, .int 0, .ref q1284, .ref q1285, .int 0, .int 0, .int 0, .int 0, .int 0, .int 0, .int 0, .ref q1286, .int 0, .ref q1287, .int 0, .ref q1288, .ref q1289, .ref q1290, .ref q1291, .ref q1292, .ref q1293, .ref q1294, .ref q1295, .ref q1296, .ref q1297, .ref q1298, .ref q1299, .ref q1300])), (q1289, .inl (a 0, 104, .inl (fun _ => 0)))]) hP [38, 49] rfl)) (recvOf hK hP 38 rfl (ci := 9) rfl)) hl.1 rfl (Nat.le_of_ble_eq_true rfl) dL_law_851 ⟨Nat.le_of_ble_eq_true rfl, Nat.le_of_ble_eq_true rfl⟩) (fun x4304 hw => ?_)
    rcases hw with ⟨h4307, rfl⟩ | ⟨h4308, rfl⟩ | ⟨h4309, rfl⟩ | ⟨h4310, rfl⟩ | ⟨h4311, rfl⟩ | ⟨h4312, rfl⟩ | ⟨h4313, rfl⟩ | ⟨h4314, rfl⟩ | ⟨h4315, rfl⟩ | ⟨h4316, rfl⟩ | ⟨h4317, rfl⟩ | ⟨h4318, h4319, h4320, h4321, h4322, h4323, h4324, h4325, h4326, h4327, h4328, rfl⟩
    · exfalso; omega
    · refine lv_icmp_eq (tgt := 928) hx hb dL_law_854 (by decide) (fun c9 => ?_) (fun c9 => absurd (by decide) c9)
      exact law_tail C hX hbl hAi hS (Nat.le_of_ble_eq_true rfl) (Nat.le_of_ble_eq_true rfl) (lv_sub hl [3, 0] rfl)
    · exfalso; omega
    · exfalso; omega
    · exfalso; omega
    · exfalso; omega
    · exfalso; omega
    · exfalso; omega
    · exfalso; omega
    · exfalso; omega
    · exfalso; omega
    · exfalso; omega
  · refine lv_aload_n hx hb dL_law_845 rfl (lv_at hl 1 rfl) ?_
    refine lv_aload_n hx hb dL_law_846 rfl (lv_at hl 3 rfl) ?_
    refine lv_iload_n hx hb dL_law_847 rfl (lv_at hl 0 rfl) ?_
    refine lv_iconst (v := 1) hx hb dL_law_848 (by decide) ?_
    refine lv_iadd hx hb dL_law_849 ?_
    refine lv_topi (fun x4329 ex4329 => ?_)
    obtain rfl : x4329 = 1 := ex4329.trans (by decide)
    refine sldE hx hb hX hbl hbA hS 1 (ix_lit (by decide)) ex1 dL_law_850 ?_
    refine aftRi (runV (As := [.int x1]) (rest := [.int 0]) C (c_X9_count_0 l D a q1231 q1279 q1280 q1281 q1282 q1283 q1284 q1285 q1286 q1287 q1288 q1289 q1290 q1291 q1292 q1293 q1294 q1295 q1296 q1297 q1298 q1299 q1300 x1) lk_V_L_119 (okN_X9_count) ⟨Nat.le_of_ble_eq_true rfl, Nat.le_of_ble_eq_true rfl⟩ ⟨rfl, rfl⟩ (preV (preR hK (P_of_map (wc := [(q1231, .inr (9, [.ref q1279, .int 0, .int 0, .ref q1280, .ref q1281, .ref q1282, .ref q1283, .int 0, .int 0, .int 0, .ref q1284, .ref q1285, .int 0, .int 0, .int 0, .int 0, .int 0, .int 0, .int 0, .ref q1286, .int 0, .ref q1287, .int 0, .ref q1288, .ref q1289, .ref q1290, .ref q1291, .ref q1292, .ref q1293, .ref q1294, .ref q1295, .ref q1296, .ref q1297, .ref q1298, .ref q1299, .ref q1300])), (q1289, .inl (a 0, 104, .inl (fun _ => 0)))]) hP [38, 49] rfl)) (recvOf hK hP 38 rfl (ci := 9) rfl)) hl.1 rfl (Nat.le_of_ble_eq_true rfl) dL_law_851 ⟨Nat.le_of_ble_eq_true rfl, Nat.le_of_ble_eq_true rfl⟩) (fun x4330 hw => ?_)
    rcases hw with ⟨h4333, rfl⟩ | ⟨h4334, rfl⟩ | ⟨h4335, rfl⟩ | ⟨h4336, rfl⟩ | ⟨h4337, rfl⟩ | ⟨h4338, rfl⟩ | ⟨h4339, rfl⟩ | ⟨h4340, rfl⟩ | ⟨h4341, rfl⟩ | ⟨h4342, rfl⟩ | ⟨h4343, rfl⟩ | ⟨h4344, h4345, h4346, h4347, h4348, h4349, h4350, h4351, h4352, h4353, h4354, rfl⟩
    · exfalso; omega
    · exfalso; omega
    · refine lv_icmp_eq (tgt := 928) hx hb dL_law_854 (by decide) (fun c9 => ?_) (fun c9 => absurd (by decide) c9)
      exact law_tail C hX hbl hAi hS (Nat.le_of_ble_eq_true rfl) (Nat.le_of_ble_eq_true rfl) (lv_sub hl [3, 0] rfl)
    · exfalso; omega
    · exfalso; omega
    · exfalso; omega
    · exfalso; omega
    · exfalso; omega
    · exfalso; omega
    · exfalso; omega
    · exfalso; omega
    · exfalso; omega
  · refine lv_aload_n hx hb dL_law_845 rfl (lv_at hl 1 rfl) ?_
    refine lv_aload_n hx hb dL_law_846 rfl (lv_at hl 3 rfl) ?_
    refine lv_iload_n hx hb dL_law_847 rfl (lv_at hl 0 rfl) ?_
    refine lv_iconst (v := 1) hx hb dL_law_848 (by decide) ?_
    refine lv_iadd hx hb dL_law_849 ?_
    refine lv_topi (fun x4355 ex4355 => ?_)
    obtain rfl : x4355 = 1 := ex4355.trans (by decide)
    refine sldE hx hb hX hbl hbA hS 1 (ix_lit (by decide)) ex1 dL_law_850 ?_
    refine aftRi (runV (As := [.int x1]) (rest := [.int 0]) C (c_X9_count_0 l D a q1231 q1279 q1280 q1281 q1282 q1283 q1284 q1285 q1286 q1287 q1288 q1289 q1290 q1291 q1292 q1293 q1294 q1295 q1296 q1297 q1298 q1299 q1300 x1) lk_V_L_119 (okN_X9_count) ⟨Nat.le_of_ble_eq_true rfl, Nat.le_of_ble_eq_true rfl⟩ ⟨rfl, rfl⟩ (preV (preR hK (P_of_map (wc := [(q1231, .inr (9, [.ref q1279, .int 0, .int 0, .ref q1280, .ref q1281, .ref q1282, .ref q1283, .int 0, .int 0, .int 0, .ref q1284, .ref q1285, .int 0, .int 0, .int 0, .int 0, .int 0, .int 0, .int 0, .ref q1286, .int 0, .ref q1287, .int 0, .ref q1288, .ref q1289, .ref q1290, .ref q1291, .ref q1292, .ref q1293, .ref q1294, .ref q1295, .ref q1296, .ref q1297, .ref q1298, .ref q1299, .ref q1300])), (q1289, .inl (a 0, 104, .inl (fun _ => 0)))]) hP [38, 49] rfl)) (recvOf hK hP 38 rfl (ci := 9) rfl)) hl.1 rfl (Nat.le_of_ble_eq_true rfl) dL_law_851 ⟨Nat.le_of_ble_eq_true rfl, Nat.le_of_ble_eq_true rfl⟩) (fun x4356 hw => ?_)
    rcases hw with ⟨h4359, rfl⟩ | ⟨h4360, rfl⟩ | ⟨h4361, rfl⟩ | ⟨h4362, rfl⟩ | ⟨h4363, rfl⟩ | ⟨h4364, rfl⟩ | ⟨h4365, rfl⟩ | ⟨h4366, rfl⟩ | ⟨h4367, rfl⟩ | ⟨h4368, rfl⟩ | ⟨h4369, rfl⟩ | ⟨h4370, h4371, h4372, h4373, h4374, h4375, h4376, h4377, h4378, h4379, h4380, rfl⟩
    · exfalso; omega
    · exfalso; omega
    · exfalso; omega
    · refine lv_icmp_eq (tgt := 928) hx hb dL_law_854 (by decide) (fun c9 => ?_) (fun c9 => absurd (by decide) c9)
      exact law_tail C hX hbl hAi hS (Nat.le_of_ble_eq_true rfl) (Nat.le_of_ble_eq_true rfl) (lv_sub hl [3, 0] rfl)
    · exfalso; omega
    · exfalso; omega
    · exfalso; omega
    · exfalso; omega
    · exfalso; omega
    · exfalso; omega
    · exfalso; omega
    · exfalso; omega
  · refine lv_aload_n hx hb dL_law_845 rfl (lv_at hl 1 rfl) ?_
    refine lv_aload_n hx hb dL_law_846 rfl (lv_at hl 3 rfl) ?_
    refine lv_iload_n hx hb dL_law_847 rfl (lv_at hl 0 rfl) ?_
    refine lv_iconst (v := 1) hx hb dL_law_848 (by decide) ?_
    refine lv_iadd hx hb dL_law_849 ?_
    refine lv_topi (fun x4381 ex4381 => ?_)
    obtain rfl : x4381 = 1 := ex4381.trans (by decide)
    refine sldE hx hb hX hbl hbA hS 1 (ix_lit (by decide)) ex1 dL_law_850 ?_
    refine aftRi (runV (As := [.int x1]) (rest := [.int 0]) C (c_X9_count_0 l D a q1231 q1279 q1280 q1281 q1282 q1283 q1284 q1285 q1286 q1287 q1288 q1289 q1290 q1291 q1292 q1293 q1294 q1295 q1296 q1297 q1298 q1299 q1300 x1) lk_V_L_119 (okN_X9_count) ⟨Nat.le_of_ble_eq_true rfl, Nat.le_of_ble_eq_true rfl⟩ ⟨rfl, rfl⟩ (preV (preR hK (P_of_map (wc := [(q1231, .inr (9, [.ref q1279, .int 0, .int 0, .ref q1280, .ref q1281, .ref q1282, .ref q1283, .int 0, .int 0, .int 0, .ref q1284, .ref q1285, .int 0, .int 0, .int 0, .int 0, .int 0, .int 0, .int 0, .ref q1286, .int 0, .ref q1287, .int 0, .ref q1288, .ref q1289, .ref q1290, .ref q1291, .ref q1292, .ref q1293, .ref q1294, .ref q1295, .ref q1296, .ref q1297, .ref q1298, .ref q1299, .ref q1300])), (q1289, .inl (a 0, 104, .inl (fun _ => 0)))]) hP [38, 49] rfl)) (recvOf hK hP 38 rfl (ci := 9) rfl)) hl.1 rfl (Nat.le_of_ble_eq_true rfl) dL_law_851 ⟨Nat.le_of_ble_eq_true rfl, Nat.le_of_ble_eq_true rfl⟩) (fun x4382 hw => ?_)
    rcases hw with ⟨h4385, rfl⟩ | ⟨h4386, rfl⟩ | ⟨h4387, rfl⟩ | ⟨h4388, rfl⟩ | ⟨h4389, rfl⟩ | ⟨h4390, rfl⟩ | ⟨h4391, rfl⟩ | ⟨h4392, rfl⟩ | ⟨h4393, rfl⟩ | ⟨h4394, rfl⟩ | ⟨h4395, rfl⟩ | ⟨h4396, h4397, h4398, h4399, h4400, h4401, h4402, h4403, h4404, h4405, h4406, rfl⟩
    · exfalso; omega
    · exfalso; omega
    · exfalso; omega
    · exfalso; omega
    · refine lv_icmp_eq (tgt := 928) hx hb dL_law_854 (by decide) (fun c9 => ?_) (fun c9 => absurd (by decide) c9)
      exact law_tail C hX hbl hAi hS (Nat.le_of_ble_eq_true rfl) (Nat.le_of_ble_eq_true rfl) (lv_sub hl [3, 0] rfl)
    · exfalso; omega
    · exfalso; omega
    · exfalso; omega
    · exfalso; omega
    · exfalso; omega
    · exfalso; omega
    · exfalso; omega
  · refine lv_aload_n hx hb dL_law_845 rfl (lv_at hl 1 rfl) ?_
    refine lv_aload_n hx hb dL_law_846 rfl (lv_at hl 3 rfl) ?_
    refine lv_iload_n hx hb dL_law_847 rfl (lv_at hl 0 rfl) ?_
    refine lv_iconst (v := 1) hx hb dL_law_848 (by decide) ?_
    refine lv_iadd hx hb dL_law_849 ?_
    refine lv_topi (fun x4407 ex4407 => ?_)
    obtain rfl : x4407 = 1 := ex4407.trans (by decide)
    refine sldE hx hb hX hbl hbA hS 1 (ix_lit (by decide)) ex1 dL_law_850 ?_
    refine aftRi (runV (As := [.int x1]) (rest := [.int 0]) C (c_X9_count_0 l D a q1231 q1279 q1280 q1281 q1282 q1283 q1284 q1285 q1286 q1287 q1288 q1289 q1290 q1291 q1292 q1293 q1294 q1295 q1296 q1297 q1298 q1299 q1300 x1) lk_V_L_119 (okN_X9_count) ⟨Nat.le_of_ble_eq_true rfl, Nat.le_of_ble_eq_true rfl⟩ ⟨rfl, rfl⟩ (preV (preR hK (P_of_map (wc := [(q1231, .inr (9, [.ref q1279, .int 0, .int 0, .ref q1280, .ref q1281, .ref q1282, .ref q1283, .int 0, .int 0, .int 0, .ref q1284, .ref q1285, .int 0, .int 0, .int 0, .int 0, .int 0, .int 0, .int 0, .ref q1286, .int 0, .ref q1287, .int 0, .ref q1288, .ref q1289, .ref q1290, .ref q1291, .ref q1292, .ref q1293, .ref q1294, .ref q1295, .ref q1296, .ref q1297, .ref q1298, .ref q1299, .ref q1300])), (q1289, .inl (a 0, 104, .inl (fun _ => 0)))]) hP [38, 49] rfl)) (recvOf hK hP 38 rfl (ci := 9) rfl)) hl.1 rfl (Nat.le_of_ble_eq_true rfl) dL_law_851 ⟨Nat.le_of_ble_eq_true rfl, Nat.le_of_ble_eq_true rfl⟩) (fun x4408 hw => ?_)
    rcases hw with ⟨h4411, rfl⟩ | ⟨h4412, rfl⟩ | ⟨h4413, rfl⟩ | ⟨h4414, rfl⟩ | ⟨h4415, rfl⟩ | ⟨h4416, rfl⟩ | ⟨h4417, rfl⟩ | ⟨h4418, rfl⟩ | ⟨h4419, rfl⟩ | ⟨h4420, rfl⟩ | ⟨h4421, rfl⟩ | ⟨h4422, h4423, h4424, h4425, h4426, h4427, h4428, h4429, h4430, h4431, h4432, rfl⟩
    · exfalso; omega
    · exfalso; omega
    · exfalso; omega
    · exfalso; omega
    · exfalso; omega
    · refine lv_icmp_eq (tgt := 928) hx hb dL_law_854 (by decide) (fun c9 => ?_) (fun c9 => absurd (by decide) c9)
      exact law_tail C hX hbl hAi hS (Nat.le_of_ble_eq_true rfl) (Nat.le_of_ble_eq_true rfl) (lv_sub hl [3, 0] rfl)
    · exfalso; omega
    · exfalso; omega
    · exfalso; omega
    · exfalso; omega
    · exfalso; omega
    · exfalso; omega
  · refine lv_aload_n hx hb dL_law_845 rfl (lv_at hl 1 rfl) ?_
    refine lv_aload_n hx hb dL_law_846 rfl (lv_at hl 3 rfl) ?_
    refine lv_iload_n hx hb dL_law_847 rfl (lv_at hl 0 rfl) ?_
    refine lv_iconst (v := 1) hx hb dL_law_848 (by decide) ?_
    refine lv_iadd hx hb dL_law_849 ?_
    refine lv_topi (fun x4433 ex4433 => ?_)
    obtain rfl : x4433 = 1 := ex4433.trans (by decide)
    refine sldE hx hb hX hbl hbA hS 1 (ix_lit (by decide)) ex1 dL_law_850 ?_
    refine aftRi (runV (As := [.int x1]) (rest := [.int 0]) C (c_X9_count_0 l D a q1231 q1279 q1280 q1281 q1282 q1283 q1284 q1285 q1286 q1287 q1288 q1289 q1290 q1291 q1292 q1293 q1294 q1295 q1296 q1297 q1298 q1299 q1300 x1) lk_V_L_119 (okN_X9_count) ⟨Nat.le_of_ble_eq_true rfl, Nat.le_of_ble_eq_true rfl⟩ ⟨rfl, rfl⟩ (preV (preR hK (P_of_map (wc := [(q1231, .inr (9, [.ref q1279, .int 0, .int 0, .ref q1280, .ref q1281, .ref q1282, .ref q1283, .int 0, .int 0, .int 0, .ref q1284, .ref q1285, .int 0, .int 0, .int 0, .int 0, .int 0, .int 0, .int 0, .ref q1286, .int 0, .ref q1287, .int 0, .ref q1288, .ref q1289, .ref q1290, .ref q1291, .ref q1292, .ref q1293, .ref q1294, .ref q1295, .ref q1296, .ref q1297, .ref q1298, .ref q1299, .ref q1300])), (q1289, .inl (a 0, 104, .inl (fun _ => 0)))]) hP [38, 49] rfl)) (recvOf hK hP 38 rfl (ci := 9) rfl)) hl.1 rfl (Nat.le_of_ble_eq_true rfl) dL_law_851 ⟨Nat.le_of_ble_eq_true rfl, Nat.le_of_ble_eq_true rfl⟩) (fun x4434 hw => ?_)
    rcases hw with ⟨h4437, rfl⟩ | ⟨h4438, rfl⟩ | ⟨h4439, rfl⟩ | ⟨h4440, rfl⟩ | ⟨h4441, rfl⟩ | ⟨h4442, rfl⟩ | ⟨h4443, rfl⟩ | ⟨h4444, rfl⟩ | ⟨h4445, rfl⟩ | ⟨h4446, rfl⟩ | ⟨h4447, rfl⟩ | ⟨h4448, h4449, h4450, h4451, h4452, h4453, h4454, h4455, h4456, h4457, h4458, rfl⟩
    · exfalso; omega
    · exfalso; omega
    · exfalso; omega
    · exfalso; omega
    · exfalso; omega
    · exfalso; omega
    · refine lv_icmp_eq (tgt := 928) hx hb dL_law_854 (by decide) (fun c9 => ?_) (fun c9 => absurd (by decide) c9)
      exact law_tail C hX hbl hAi hS (Nat.le_of_ble_eq_true rfl) (Nat.le_of_ble_eq_true rfl) (lv_sub hl [3, 0] rfl)
    · exfalso; omega
    · exfalso; omega
    · exfalso; omega
    · exfalso; omega
    · exfalso; omega
  · refine lv_aload_n hx hb dL_law_845 rfl (lv_at hl 1 rfl) ?_
    refine lv_aload_n hx hb dL_law_846 rfl (lv_at hl 3 rfl) ?_
    refine lv_iload_n hx hb dL_law_847 rfl (lv_at hl 0 rfl) ?_
    refine lv_iconst (v := 1) hx hb dL_law_848 (by decide) ?_
    refine lv_iadd hx hb dL_law_849 ?_
    refine lv_topi (fun x4459 ex4459 => ?_)
    obtain rfl : x4459 = 1 := ex4459.trans (by decide)
    refine sldE hx hb hX hbl hbA hS 1 (ix_lit (by decide)) ex1 dL_law_850 ?_
    refine aftRi (runV (As := [.int x1]) (rest := [.int 0]) C (c_X9_count_0 l D a q1231 q1279 q1280 q1281 q1282 q1283 q1284 q1285 q1286 q1287 q1288 q1289 q1290 q1291 q1292 q1293 q1294 q1295 q1296 q1297 q1298 q1299 q1300 x1) lk_V_L_119 (okN_X9_count) ⟨Nat.le_of_ble_eq_true rfl, Nat.le_of_ble_eq_true rfl⟩ ⟨rfl, rfl⟩ (preV (preR hK (P_of_map (wc := [(q1231, .inr (9, [.ref q1279, .int 0, .int 0, .ref q1280, .ref q1281, .ref q1282, .ref q1283, .int 0, .int 0, .int 0, .ref q1284, .ref q1285, .int 0, .int 0, .int 0, .int 0, .int 0, .int 0, .int 0, .ref q1286, .int 0, .ref q1287, .int 0, .ref q1288, .ref q1289, .ref q1290, .ref q1291, .ref q1292, .ref q1293, .ref q1294, .ref q1295, .ref q1296, .ref q1297, .ref q1298, .ref q1299, .ref q1300])), (q1289, .inl (a 0, 104, .inl (fun _ => 0)))]) hP [38, 49] rfl)) (recvOf hK hP 38 rfl (ci := 9) rfl)) hl.1 rfl (Nat.le_of_ble_eq_true rfl) dL_law_851 ⟨Nat.le_of_ble_eq_true rfl, Nat.le_of_ble_eq_true rfl⟩) (fun x4460 hw => ?_)
    rcases hw with ⟨h4463, rfl⟩ | ⟨h4464, rfl⟩ | ⟨h4465, rfl⟩ | ⟨h4466, rfl⟩ | ⟨h4467, rfl⟩ | ⟨h4468, rfl⟩ | ⟨h4469, rfl⟩ | ⟨h4470, rfl⟩ | ⟨h4471, rfl⟩ | ⟨h4472, rfl⟩ | ⟨h4473, rfl⟩ | ⟨h4474, h4475, h4476, h4477, h4478, h4479, h4480, h4481, h4482, h4483, h4484, rfl⟩
    · exfalso; omega
    · exfalso; omega
    · exfalso; omega
    · exfalso; omega
    · exfalso; omega
    · exfalso; omega
    · exfalso; omega
    · refine lv_icmp_eq (tgt := 928) hx hb dL_law_854 (by decide) (fun c9 => ?_) (fun c9 => absurd (by decide) c9)
      exact law_tail C hX hbl hAi hS (Nat.le_of_ble_eq_true rfl) (Nat.le_of_ble_eq_true rfl) (lv_sub hl [3, 0] rfl)
    · exfalso; omega
    · exfalso; omega
    · exfalso; omega
    · exfalso; omega
  · refine lv_aload_n hx hb dL_law_845 rfl (lv_at hl 1 rfl) ?_
    refine lv_aload_n hx hb dL_law_846 rfl (lv_at hl 3 rfl) ?_
    refine lv_iload_n hx hb dL_law_847 rfl (lv_at hl 0 rfl) ?_
    refine lv_iconst (v := 1) hx hb dL_law_848 (by decide) ?_
    refine lv_iadd hx hb dL_law_849 ?_
    refine lv_topi (fun x4485 ex4485 => ?_)
    obtain rfl : x4485 = 1 := ex4485.trans (by decide)
    refine sldE hx hb hX hbl hbA hS 1 (ix_lit (by decide)) ex1 dL_law_850 ?_
    refine aftRi (runV (As := [.int x1]) (rest := [.int 0]) C (c_X9_count_0 l D a q1231 q1279 q1280 q1281 q1282 q1283 q1284 q1285 q1286 q1287 q1288 q1289 q1290 q1291 q1292 q1293 q1294 q1295 q1296 q1297 q1298 q1299 q1300 x1) lk_V_L_119 (okN_X9_count) ⟨Nat.le_of_ble_eq_true rfl, Nat.le_of_ble_eq_true rfl⟩ ⟨rfl, rfl⟩ (preV (preR hK (P_of_map (wc := [(q1231, .inr (9, [.ref q1279, .int 0, .int 0, .ref q1280, .ref q1281, .ref q1282, .ref q1283, .int 0, .int 0, .int 0, .ref q1284, .ref q1285, .int 0, .int 0, .int 0, .int 0, .int 0, .int 0, .int 0, .ref q1286, .int 0, .ref q1287, .int 0, .ref q1288, .ref q1289, .ref q1290, .ref q1291, .ref q1292, .ref q1293, .ref q1294, .ref q1295, .ref q1296, .ref q1297, .ref q1298, .ref q1299, .ref q1300])), (q1289, .inl (a 0, 104, .inl (fun _ => 0)))]) hP [38, 49] rfl)) (recvOf hK hP 38 rfl (ci := 9) rfl)) hl.1 rfl (Nat.le_of_ble_eq_true rfl) dL_law_851 ⟨Nat.le_of_ble_eq_true rfl, Nat.le_of_ble_eq_true rfl⟩) (fun x4486 hw => ?_)
    rcases hw with ⟨h4489, rfl⟩ | ⟨h4490, rfl⟩ | ⟨h4491, rfl⟩ | ⟨h4492, rfl⟩ | ⟨h4493, rfl⟩ | ⟨h4494, rfl⟩ | ⟨h4495, rfl⟩ | ⟨h4496, rfl⟩ | ⟨h4497, rfl⟩ | ⟨h4498, rfl⟩ | ⟨h4499, rfl⟩ | ⟨h4500, h4501, h4502, h4503, h4504, h4505, h4506, h4507, h4508, h4509, h4510, rfl⟩
    · exfalso; omega
    · exfalso; omega
    · exfalso; omega
    · exfalso; omega
    · exfalso; omega
    · exfalso; omega
    · exfalso; omega
    · exfalso; omega
    · refine lv_icmp_eq (tgt := 928) hx hb dL_law_854 (by decide) (fun c9 => ?_) (fun c9 => absurd (by decide) c9)
      exact law_tail C hX hbl hAi hS (Nat.le_of_ble_eq_true rfl) (Nat.le_of_ble_eq_true rfl) (lv_sub hl [3, 0] rfl)
    · exfalso; omega
    · exfalso; omega
    · exfalso; omega
  · refine lv_aload_n hx hb dL_law_845 rfl (lv_at hl 1 rfl) ?_
    refine lv_aload_n hx hb dL_law_846 rfl (lv_at hl 3 rfl) ?_
    refine lv_iload_n hx hb dL_law_847 rfl (lv_at hl 0 rfl) ?_
    refine lv_iconst (v := 1) hx hb dL_law_848 (by decide) ?_
    refine lv_iadd hx hb dL_law_849 ?_
    refine lv_topi (fun x4511 ex4511 => ?_)
    obtain rfl : x4511 = 1 := ex4511.trans (by decide)
    refine sldE hx hb hX hbl hbA hS 1 (ix_lit (by decide)) ex1 dL_law_850 ?_
    refine aftRi (runV (As := [.int x1]) (rest := [.int 0]) C (c_X9_count_0 l D a q1231 q1279 q1280 q1281 q1282 q1283 q1284 q1285 q1286 q1287 q1288 q1289 q1290 q1291 q1292 q1293 q1294 q1295 q1296 q1297 q1298 q1299 q1300 x1) lk_V_L_119 (okN_X9_count) ⟨Nat.le_of_ble_eq_true rfl, Nat.le_of_ble_eq_true rfl⟩ ⟨rfl, rfl⟩ (preV (preR hK (P_of_map (wc := [(q1231, .inr (9, [.ref q1279, .int 0, .int 0, .ref q1280, .ref q1281, .ref q1282, .ref q1283, .int 0, .int 0, .int 0, .ref q1284, .ref q1285, .int 0, .int 0, .int 0, .int 0, .int 0, .int 0, .int 0, .ref q1286, .int 0, .ref q1287, .int 0, .ref q1288, .ref q1289, .ref q1290, .ref q1291, .ref q1292, .ref q1293, .ref q1294, .ref q1295, .ref q1296, .ref q1297, .ref q1298, .ref q1299, .ref q1300])), (q1289, .inl (a 0, 104, .inl (fun _ => 0)))]) hP [38, 49] rfl)) (recvOf hK hP 38 rfl (ci := 9) rfl)) hl.1 rfl (Nat.le_of_ble_eq_true rfl) dL_law_851 ⟨Nat.le_of_ble_eq_true rfl, Nat.le_of_ble_eq_true rfl⟩) (fun x4512 hw => ?_)
    rcases hw with ⟨h4515, rfl⟩ | ⟨h4516, rfl⟩ | ⟨h4517, rfl⟩ | ⟨h4518, rfl⟩ | ⟨h4519, rfl⟩ | ⟨h4520, rfl⟩ | ⟨h4521, rfl⟩ | ⟨h4522, rfl⟩ | ⟨h4523, rfl⟩ | ⟨h4524, rfl⟩ | ⟨h4525, rfl⟩ | ⟨h4526, h4527, h4528, h4529, h4530, h4531, h4532, h4533, h4534, h4535, h4536, rfl⟩
    · exfalso; omega
    · exfalso; omega
    · exfalso; omega
    · exfalso; omega
    · exfalso; omega
    · exfalso; omega
    · exfalso; omega
    · exfalso; omega
    · exfalso; omega
    · refine lv_icmp_eq (tgt := 928) hx hb dL_law_854 (by decide) (fun c9 => ?_) (fun c9 => absurd (by decide) c9)
      exact law_tail C hX hbl hAi hS (Nat.le_of_ble_eq_true rfl) (Nat.le_of_ble_eq_true rfl) (lv_sub hl [3, 0] rfl)
    · exfalso; omega
    · exfalso; omega
  · refine lv_aload_n hx hb dL_law_845 rfl (lv_at hl 1 rfl) ?_
    refine lv_aload_n hx hb dL_law_846 rfl (lv_at hl 3 rfl) ?_
    refine lv_iload_n hx hb dL_law_847 rfl (lv_at hl 0 rfl) ?_
    refine lv_iconst (v := 1) hx hb dL_law_848 (by decide) ?_
    refine lv_iadd hx hb dL_law_849 ?_
    refine lv_topi (fun x4537 ex4537 => ?_)
    obtain rfl : x4537 = 1 := ex4537.trans (by decide)
    refine sldE hx hb hX hbl hbA hS 1 (ix_lit (by decide)) ex1 dL_law_850 ?_
    refine aftRi (runV (As := [.int x1]) (rest := [.int 0]) C (c_X9_count_0 l D a q1231 q1279 q1280 q1281 q1282 q1283 q1284 q1285 q1286 q1287 q1288 q1289 q1290 q1291 q1292 q1293 q1294 q1295 q1296 q1297 q1298 q1299 q1300 x1) lk_V_L_119 (okN_X9_count) ⟨Nat.le_of_ble_eq_true rfl, Nat.le_of_ble_eq_true rfl⟩ ⟨rfl, rfl⟩ (preV (preR hK (P_of_map (wc := [(q1231, .inr (9, [.ref q1279, .int 0, .int 0, .ref q1280, .ref q1281, .ref q1282, .ref q1283, .int 0, .int 0, .int 0, .ref q1284, .ref q1285, .int 0, .int 0, .int 0, .int 0, .int 0, .int 0, .int 0, .ref q1286, .int 0, .ref q1287, .int 0, .ref q1288, .ref q1289, .ref q1290, .ref q1291, .ref q1292, .ref q1293, .ref q1294, .ref q1295, .ref q1296, .ref q1297, .ref q1298, .ref q1299, .ref q1300])), (q1289, .inl (a 0, 104, .inl (fun _ => 0)))]) hP [38, 49] rfl)) (recvOf hK hP 38 rfl (ci := 9) rfl)) hl.1 rfl (Nat.le_of_ble_eq_true rfl) dL_law_851 ⟨Nat.le_of_ble_eq_true rfl, Nat.le_of_ble_eq_true rfl⟩) (fun x4538 hw => ?_)
    rcases hw with ⟨h4541, rfl⟩ | ⟨h4542, rfl⟩ | ⟨h4543, rfl⟩ | ⟨h4544, rfl⟩ | ⟨h4545, rfl⟩ | ⟨h4546, rfl⟩ | ⟨h4547, rfl⟩ | ⟨h4548, rfl⟩ | ⟨h4549, rfl⟩ | ⟨h4550, rfl⟩ | ⟨h4551, rfl⟩ | ⟨h4552, h4553, h4554, h4555, h4556, h4557, h4558, h4559, h4560, h4561, h4562, rfl⟩
    · exfalso; omega
    · exfalso; omega
    · exfalso; omega
    · exfalso; omega
    · exfalso; omega
    · exfalso; omega
    · exfalso; omega
    · exfalso; omega
    · exfalso; omega
    · exfalso; omega
    · refine lv_icmp_eq (tgt := 928) hx hb dL_law_854 (by decide) (fun c9 => ?_) (fun c9 => absurd (by decide) c9)
      exact law_tail C hX hbl hAi hS (Nat.le_of_ble_eq_true rfl) (Nat.le_of_ble_eq_true rfl) (lv_sub hl [3, 0] rfl)
    · exfalso; omega
  · refine lv_aload_n hx hb dL_law_845 rfl (lv_at hl 1 rfl) ?_
    refine lv_aload_n hx hb dL_law_846 rfl (lv_at hl 3 rfl) ?_
    refine lv_iload_n hx hb dL_law_847 rfl (lv_at hl 0 rfl) ?_
    refine lv_iconst (v := 1) hx hb dL_law_848 (by decide) ?_
    refine lv_iadd hx hb dL_law_849 ?_
    refine lv_topi (fun x4563 ex4563 => ?_)
    obtain rfl : x4563 = 1 := ex4563.trans (by decide)
    refine sldE hx hb hX hbl hbA hS 1 (ix_lit (by decide)) ex1 dL_law_850 ?_
    refine aftRi (runV (As := [.int x1]) (rest := [.int (-1)]) C (c_X9_count_0 l D a q1231 q1279 q1280 q1281 q1282 q1283 q1284 q1285 q1286 q1287 q1288 q1289 q1290 q1291 q1292 q1293 q1294 q1295 q1296 q1297 q1298 q1299 q1300 x1) lk_V_L_119 (okN_X9_count) ⟨Nat.le_of_ble_eq_true rfl, Nat.le_of_ble_eq_true rfl⟩ ⟨rfl, rfl⟩ (preV (preR hK (P_of_map (wc := [(q1231, .inr (9, [.ref q1279, .int 0, .int 0, .ref q1280, .ref q1281, .ref q1282, .ref q1283, .int 0, .int 0, .int 0, .ref q1284, .ref q1285, .int 0, .int 0, .int 0, .int 0, .int 0, .int 0, .int 0, .ref q1286, .int 0, .ref q1287, .int 0, .ref q1288, .ref q1289, .ref q1290, .ref q1291, .ref q1292, .ref q1293, .ref q1294, .ref q1295, .ref q1296, .ref q1297, .ref q1298, .ref q1299, .ref q1300])), (q1289, .inl (a 0, 104, .inl (fun _ => 0)))]) hP [38, 49] rfl)) (recvOf hK hP 38 rfl (ci := 9) rfl)) hl.1 rfl (Nat.le_of_ble_eq_true rfl) dL_law_851 ⟨Nat.le_of_ble_eq_true rfl, Nat.le_of_ble_eq_true rfl⟩) (fun x4564 hw => ?_)
    rcases hw with ⟨h4567, rfl⟩ | ⟨h4568, rfl⟩ | ⟨h4569, rfl⟩ | ⟨h4570, rfl⟩ | ⟨h4571, rfl⟩ | ⟨h4572, rfl⟩ | ⟨h4573, rfl⟩ | ⟨h4574, rfl⟩ | ⟨h4575, rfl⟩ | ⟨h4576, rfl⟩ | ⟨h4577, rfl⟩ | ⟨h4578, h4579, h4580, h4581, h4582, h4583, h4584, h4585, h4586, h4587, h4588, rfl⟩
    · exfalso; omega
    · exfalso; omega
    · exfalso; omega
    · exfalso; omega
    · exfalso; omega
    · exfalso; omega
    · exfalso; omega
    · exfalso; omega
    · exfalso; omega
    · exfalso; omega
    · exfalso; omega
    · refine lv_icmp_eq (tgt := 928) hx hb dL_law_854 (by decide) (fun c9 => ?_) (fun c9 => absurd (by decide) c9)
      exact law_tail C hX hbl hAi hS (Nat.le_of_ble_eq_true rfl) (Nat.le_of_ble_eq_true rfl) (lv_sub hl [3, 0] rfl)

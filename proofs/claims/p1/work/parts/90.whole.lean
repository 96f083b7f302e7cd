theorem len_lt {L : Nat} (h : L < 6) : Int32.ofNat L - 6 < 0 := by
  match L, h with
  | 0, _ => decide
  | 1, _ => decide
  | 2, _ => decide
  | 3, _ => decide
  | 4, _ => decide
  | 5, _ => decide
  | L + 6, h => omega
set_option maxHeartbeats 4000000 in
set_option maxRecDepth 100000 in
theorem whole_start {p : Program} {e : Env} {s : State} {m : MethodId} {below : List Frame} {meth : Method} {c : Code} (l : Launch) {b L : Nat} {xs : Nat → Int32} (hL : L ≤ 6) (C0 : lw_At p s m meth c b L xs) : W p l e room_1 s m #[Value.ref b] below meth c s.heap [] 0 0 (lw_Z below #[Value.ref b] s) (entryFrame m ([Value.ref b] : List Value).toArray 4) := by
  obtain ⟨hx, hb, hr, hml, hown, hts0, hX, hbl, hlocks, hgv⟩ := id C0
  obtain ⟨D, a, hK⟩ := kk_start hts0
  have C : Cx p s m #[Value.ref b] meth c ML_law := ⟨hx, hb, hml, hown, fun w h => hts0 w (List.mem_filter.mp h).1, hr, hlocks, fun h => absurd h (by decide)⟩
  have hts := C.2.2.2.2.1
  have hb : c.code = cL_law := hb
  have hown : s.vm.findClass RL = some m.cls := hown
  obtain ⟨A, hAe⟩ : ∃ A : Nat → Prop, A = fun q : Nat => s.heap.size ≤ q := ⟨_, rfl⟩
  have hA : ∀ q, s.heap.size ≤ q → A q := fun q h => by rw [hAe]; exact h
  have hAi : ∀ q, A q → s.heap.size ≤ q := fun q h => by rw [hAe] at h; exact h
  have hbA : ¬ A b := fun q => Nat.not_le.mpr hbl (hAi b q)
  have hS : va_S A s.heap s.heap [] := va_S.rf
  have hP : va_P D classes [] s.heap := fun k q h => by simp at h
  have hD : va_D A [] := ⟨fun i j p q h => by simp at h, fun k q h => by simp at h⟩
  have hl := lv_entry ([.ref b]) (n := 4) (Nat.le_of_ble_eq_true rfl)
  rw [lg_entry_eq]
  generalize (lg_sl ([.ref b]) ++ List.replicate (4 - (lg_sl ([.ref b])).length) Slot.unset).toArray = ls at hl ⊢
  have hl : lv_has ls 4 [(0, .ref b)] := hl
  refine va_new (ci := 8) (fs := [.null, .int 0, .null, .int 0, .int 0, .null, .null, .null, .null, .null, .null]) (C := RX8) (T := TX8) (N := 11) hx hb hts iX8 tyX8 tyX8_ok hown (hts _ t_19) (hts _ t_20) (hts _ t_1) hK.1 hP hD hS hA rfl (dfX8) (Nat.le_of_ble_eq_true rfl) (Nat.le_of_ble_eq_true rfl) dL_law_0 (fun q1001 H hP hD hS => ?_)
  have hP : va_P D classes [(q1001, .inr (8, [.null, .int 0, .null, .int 0, .int 0, .null, .null, .null, .null, .null, .null]))] H := hP
  have hD : va_D A [(q1001, .inr (8, [.null, .int 0, .null, .int 0, .int 0, .null, .null, .null, .null, .null, .null]))] := hD
  refine W.cs (cells' := 1) (slots' := 11) rfl rfl ?_
  refine lv_dup hx hb dL_law_3 rfl ?_
  refine afMv (runI (As := []) (rest := [.ref q1001]) C (c_X8_init_0 l D a q1001 H.size) lk_I_L_9 (okN_X8_init) ⟨Nat.le_of_ble_eq_true rfl, Nat.le_of_ble_eq_true rfl⟩ ⟨rfl, rfl⟩ (preM hK (P_of_map (wc := [(q1001, .inr (8, [.null, .int 0, .null, .int 0, .int 0, .null, .null, .null, .null, .null, .null]))]) hP [0] rfl) (hD.sub (ws' := [(q1001, .inr (8, [.null, .int 0, .null, .int 0, .int 0, .null, .null, .null, .null, .null, .null]))]) [0] (by decide) rfl)) hl.1 rfl (Nat.le_of_ble_eq_true rfl) dL_law_4 ⟨Nat.le_of_ble_eq_true rfl, Nat.le_of_ble_eq_true rfl⟩) hP hD hS hA [0] [] (wr := []) rfl rfl (by decide) (by decide) (fun u H locs hw hP hD hS => ?_)
  obtain ⟨q1194, q1195, q1196, q1197, q1198, q1199, q1200, q1201, q1202, q1203, q1204, q1205, q1206, q1207, q1208, q1209, q1210, q1211, q1212, q1213, q1214, q1215, q1216, q1217, q1218, q1219, q1220, q1221, q1222, q1223, q1224, q1225, q1226, q1227, q1228, q1229, q1230, rfl⟩ := hw
  have hP : va_P D classes [(q1001, .inr (8, [.ref q1194, .int 0, .ref q1195, .int 0, .int 0, .ref q1196, .ref q1197, .ref q1198, .ref q1199, .ref q1200, .ref q1201])), (q1194, .inl (a 0, 400, .inl (fun _ => 0))), (q1195, .inl (a 4, 6, .inr (.inr (.inr (.inr (fun _ => none)))))), (q1202, .inr (7, [.int 0, .int 0, .int 0, .int 0, .int 0, .ref q1203, .ref q1204, .ref q1205, .ref q1206, .ref q1207, .ref q1208, .ref q1209, .ref q1210, .ref q1211, .ref q1212, .ref q1213, .ref q1214, .int 0])), (q1203, .inl (a 0, 6, .inl (fun _ => 0))), (q1204, .inl (a 0, 6, .inl (fun _ => 0))), (q1205, .inl (a 0, 6, .inl (fun _ => 0))), (q1206, .inl (a 0, 10, .inl (fun _ => 0))), (q1207, .inl (a 0, 10, .inl (fun _ => 0))), (q1208, .inl (a 0, 10, .inl (fun _ => 0))), (q1209, .inl (a 0, 10, .inl (fun _ => 0))), (q1210, .inl (a 0, 10, .inl (fun _ => 0))), (q1211, .inl (a 0, 10, .inl (fun _ => 0))), (q1212, .inl (a 0, 10, .inl (fun _ => 0))), (q1213, .inl (a 0, 10, .inl (fun _ => 0))), (q1214, .inl (a 0, 10, .inl (fun _ => 0))), (q1196, .inr (5, [.ref q1202, .ref q1215, .int 0, .int 0, .int 0, .ref q1216, .int 0, .ref q1217])), (q1215, .inr (0, [.int 0, .int 0, .int 0, .int 0, .int 0, .ref q1218])), (q1218, .inl (a 0, 10, .inl (fun _ => 0))), (q1216, .inl (a 0, 8, .inl (fun _ => 0))), (q1217, .inl (a 0, 8, .inl (fun _ => 0))), (q1197, .inl (a 5, 4, .inr (.inr (.inr (.inr (fun _ => none)))))), (q1198, .inr (0, [.int 0, .int 0, .int 0, .int 0, .int 0, .ref q1219])), (q1219, .inl (a 0, 10, .inl (fun _ => 0))), (q1199, .inr (4, [.ref q1220, .ref q1221, .int 0, .int 0, .int 0, .ref q1222, .ref q1223, .ref q1224])), (q1220, .inr (6, [.ref q1225, .ref q1226, .ref q1227, .int 0, .int 0, .int 0, .int 0, .int 0, .int 0])), (q1225, .inl (a 0, 401, .inl (fun _ => 0))), (q1226, .inl (a 0, 401, .inl (fun _ => 0))), (q1227, .inl (a 0, 401, .inl (fun _ => 0))), (q1221, .inl (a 0, 400, .inl (fun _ => 0))), (q1222, .inl (a 0, 12, .inl (fun _ => 0))), (q1223, .inl (a 0, 12, .inl (fun _ => 0))), (q1224, .inl (a 0, 12, .inl (fun _ => 0))), (q1200, .inr (2, [.ref q1228])), (q1228, .inl (a 1, 32, .inr (.inl (fun _ => 0)))), (q1201, .inr (1, [.ref q1229, .ref q1230, .int 0, .long 0])), (q1229, .inl (a 1, 2048, .inr (.inl (fun _ => 0)))), (q1230, .inl (a 1, 2048, .inr (.inl (fun _ => 0))))] H := hP
  have hD : va_D A [(q1001, .inr (8, [.ref q1194, .int 0, .ref q1195, .int 0, .int 0, .ref q1196, .ref q1197, .ref q1198, .ref q1199, .ref q1200, .ref q1201])), (q1194, .inl (a 0, 400, .inl (fun _ => 0))), (q1195, .inl (a 4, 6, .inr (.inr (.inr (.inr (fun _ => none)))))), (q1202, .inr (7, [.int 0, .int 0, .int 0, .int 0, .int 0, .ref q1203, .ref q1204, .ref q1205, .ref q1206, .ref q1207, .ref q1208, .ref q1209, .ref q1210, .ref q1211, .ref q1212, .ref q1213, .ref q1214, .int 0])), (q1203, .inl (a 0, 6, .inl (fun _ => 0))), (q1204, .inl (a 0, 6, .inl (fun _ => 0))), (q1205, .inl (a 0, 6, .inl (fun _ => 0))), (q1206, .inl (a 0, 10, .inl (fun _ => 0))), (q1207, .inl (a 0, 10, .inl (fun _ => 0))), (q1208, .inl (a 0, 10, .inl (fun _ => 0))), (q1209, .inl (a 0, 10, .inl (fun _ => 0))), (q1210, .inl (a 0, 10, .inl (fun _ => 0))), (q1211, .inl (a 0, 10, .inl (fun _ => 0))), (q1212, .inl (a 0, 10, .inl (fun _ => 0))), (q1213, .inl (a 0, 10, .inl (fun _ => 0))), (q1214, .inl (a 0, 10, .inl (fun _ => 0))), (q1196, .inr (5, [.ref q1202, .ref q1215, .int 0, .int 0, .int 0, .ref q1216, .int 0, .ref q1217])), (q1215, .inr (0, [.int 0, .int 0, .int 0, .int 0, .int 0, .ref q1218])), (q1218, .inl (a 0, 10, .inl (fun _ => 0))), (q1216, .inl (a 0, 8, .inl (fun _ => 0))), (q1217, .inl (a 0, 8, .inl (fun _ => 0))), (q1197, .inl (a 5, 4, .inr (.inr (.inr (.inr (fun _ => none)))))), (q1198, .inr (0, [.int 0, .int 0, .int 0, .int 0, .int 0, .ref q1219])), (q1219, .inl (a 0, 10, .inl (fun _ => 0))), (q1199, .inr (4, [.ref q1220, .ref q1221, .int 0, .int 0, .int 0, .ref q1222, .ref q1223, .ref q1224])), (q1220, .inr (6, [.ref q1225, .ref q1226, .ref q1227, .int 0, .int 0, .int 0, .int 0, .int 0, .int 0])), (q1225, .inl (a 0, 401, .inl (fun _ => 0))), (q1226, .inl (a 0, 401, .inl (fun _ => 0))), (q1227, .inl (a 0, 401, .inl (fun _ => 0))), (q1221, .inl (a 0, 400, .inl (fun _ => 0))), (q1222, .inl (a 0, 12, .inl (fun _ => 0))), (q1223, .inl (a 0, 12, .inl (fun _ => 0))), (q1224, .inl (a 0, 12, .inl (fun _ => 0))), (q1200, .inr (2, [.ref q1228])), (q1228, .inl (a 1, 32, .inr (.inl (fun _ => 0)))), (q1201, .inr (1, [.ref q1229, .ref q1230, .int 0, .long 0])), (q1229, .inl (a 1, 2048, .inr (.inl (fun _ => 0)))), (q1230, .inl (a 1, 2048, .inr (.inl (fun _ => 0))))] := hD
  refine W.cs (cells' := 38) (slots' := 6392) rfl rfl ?_
  refine lv_astore_n (lv' := [(1, .ref q1001), (0, .ref b)]) hx hb dL_law_7 rfl hl (by decide) rfl (fun ls hl => ?_)
  refine va_new (ci := 9) (fs := [.null, .int 0, .int 0, .null, .null, .null, .null, .int 0, .int 0, .int 0, .null, .null, .int 0, .int 0, .int 0, .int 0, .int 0, .int 0, .int 0, .null, .int 0, .null, .int 0, .null, .null, .null, .null, .null, .null, .null, .null, .null, .null, .null, .null, .null]) (C := RX9) (T := TX9) (N := 36) hx hb hts iX9 tyX9 tyX9_ok hown (hts _ t_876) (hts _ t_877) (hts _ t_9) hK.1 hP hD hS hA rfl (dfX9) (Nat.le_of_ble_eq_true rfl) (Nat.le_of_ble_eq_true rfl) dL_law_8 (fun q1231 H hP hD hS => ?_)
  have hP : va_P D classes [(q1001, .inr (8, [.ref q1194, .int 0, .ref q1195, .int 0, .int 0, .ref q1196, .ref q1197, .ref q1198, .ref q1199, .ref q1200, .ref q1201])), (q1194, .inl (a 0, 400, .inl (fun _ => 0))), (q1195, .inl (a 4, 6, .inr (.inr (.inr (.inr (fun _ => none)))))), (q1202, .inr (7, [.int 0, .int 0, .int 0, .int 0, .int 0, .ref q1203, .ref q1204, .ref q1205, .ref q1206, .ref q1207, .ref q1208, .ref q1209, .ref q1210, .ref q1211, .ref q1212, .ref q1213, .ref q1214, .int 0])), (q1203, .inl (a 0, 6, .inl (fun _ => 0))), (q1204, .inl (a 0, 6, .inl (fun _ => 0))), (q1205, .inl (a 0, 6, .inl (fun _ => 0))), (q1206, .inl (a 0, 10, .inl (fun _ => 0))), (q1207, .inl (a 0, 10, .inl (fun _ => 0))), (q1208, .inl (a 0, 10, .inl (fun _ => 0))), (q1209, .inl (a 0, 10, .inl (fun _ => 0))), (q1210, .inl (a 0, 10, .inl (fun _ => 0))), (q1211, .inl (a 0, 10, .inl (fun _ => 0))), (q1212, .inl (a 0, 10, .inl (fun _ => 0))), (q1213, .inl (a 0, 10, .inl (fun _ => 0))), (q1214, .inl (a 0, 10, .inl (fun _ => 0))), (q1196, .inr (5, [.ref q1202, .ref q1215, .int 0, .int 0, .int 0, .ref q1216, .int 0, .ref q1217])), (q1215, .inr (0, [.int 0, .int 0, .int 0, .int 0, .int 0, .ref q1218])), (q1218, .inl (a 0, 10, .inl (fun _ => 0))), (q1216, .inl (a 0, 8, .inl (fun _ => 0))), (q1217, .inl (a 0, 8, .inl (fun _ => 0))), (q1197, .inl (a 5, 4, .inr (.inr (.inr (.inr (fun _ => none)))))), (q1198, .inr (0, [.int 0, .int 0, .int 0, .int 0, .int 0, .ref q1219])), (q1219, .inl (a 0, 10, .inl (fun _ => 0))), (q1199, .inr (4, [.ref q1220, .ref q1221, .int 0, .int 0, .int 0, .ref q1222, .ref q1223, .ref q1224])), (q1220, .inr (6, [.ref q1225, .ref q1226, .ref q1227, .int 0, .int 0, .int 0, .int 0, .int 0, .int 0])), (q1225, .inl (a 0, 401, .inl (fun _ => 0))), (q1226, .inl (a 0, 401, .inl (fun _ => 0))), (q1227, .inl (a 0, 401, .inl (fun _ => 0))), (q1221, .inl (a 0, 400, .inl (fun _ => 0))), (q1222, .inl (a 0, 12, .inl (fun _ => 0))), (q1223, .inl (a 0, 12, .inl (fun _ => 0))), (q1224, .inl (a 0, 12, .inl (fun _ => 0))), (q1200, .inr (2, [.ref q1228])), (q1228, .inl (a 1, 32, .inr (.inl (fun _ => 0)))), (q1201, .inr (1, [.ref q1229, .ref q1230, .int 0, .long 0])), (q1229, .inl (a 1, 2048, .inr (.inl (fun _ => 0)))), (q1230, .inl (a 1, 2048, .inr (.inl (fun _ => 0)))), (q1231, .inr (9, [.null, .int 0, .int 0, .null, .null, .null, .null, .int 0, .int 0, .int 0, .null, .null, .int 0, .int 0, .int 0, .int 0, .int 0, .int 0, .int 0, .null, .int 0, .null, .int 0, .null, .null, .null, .null, .null, .null, .null, .null, .null, .null, .null, .null, .null]))] H := hP
  have hD : va_D A [(q1001, .inr (8, [.ref q1194, .int 0, .ref q1195, .int 0, .int 0, .ref q1196, .ref q1197, .ref q1198, .ref q1199, .ref q1200, .ref q1201])), (q1194, .inl (a 0, 400, .inl (fun _ => 0))), (q1195, .inl (a 4, 6, .inr (.inr (.inr (.inr (fun _ => none)))))), (q1202, .inr (7, [.int 0, .int 0, .int 0, .int 0, .int 0, .ref q1203, .ref q1204, .ref q1205, .ref q1206, .ref q1207, .ref q1208, .ref q1209, .ref q1210, .ref q1211, .ref q1212, .ref q1213, .ref q1214, .int 0])), (q1203, .inl (a 0, 6, .inl (fun _ => 0))), (q1204, .inl (a 0, 6, .inl (fun _ => 0))), (q1205, .inl (a 0, 6, .inl (fun _ => 0))), (q1206, .inl (a 0, 10, .inl (fun _ => 0))), (q1207, .inl (a 0, 10, .inl (fun _ => 0))), (q1208, .inl (a 0, 10, .inl (fun _ => 0))), (q1209, .inl (a 0, 10, .inl (fun _ => 0))), (q1210, .inl (a 0, 10, .inl (fun _ => 0))), (q1211, .inl (a 0, 10, .inl (fun _ => 0))), (q1212, .inl (a 0, 10, .inl (fun _ => 0))), (q1213, .inl (a 0, 10, .inl (fun _ => 0))), (q1214, .inl (a 0, 10, .inl (fun _ => 0))), (q1196, .inr (5, [.ref q1202, .ref q1215, .int 0, .int 0, .int 0, .ref q1216, .int 0, .ref q1217])), (q1215, .inr (0, [.int 0, .int 0, .int 0, .int 0, .int 0, .ref q1218])), (q1218, .inl (a 0, 10, .inl (fun _ => 0))), (q1216, .inl (a 0, 8, .inl (fun _ => 0))), (q1217, .inl (a 0, 8, .inl (fun _ => 0))), (q1197, .inl (a 5, 4, .inr (.inr (.inr (.inr (fun _ => none)))))), (q1198, .inr (0, [.int 0, .int 0, .int 0, .int 0, .int 0, .ref q1219])), (q1219, .inl (a 0, 10, .inl (fun _ => 0))), (q1199, .inr (4, [.ref q1220, .ref q1221, .int 0, .int 0, .int 0, .ref q1222, .ref q1223, .ref q1224])), (q1220, .inr (6, [.ref q1225, .ref q1226, .ref q1227, .int 0, .int 0, .int 0, .int 0, .int 0, .int 0])), (q1225, .inl (a 0, 401, .inl (fun _ => 0))), (q1226, .inl (a 0, 401, .inl (fun _ => 0))), (q1227, .inl (a 0, 401, .inl (fun _ => 0))), (q1221, .inl (a 0, 400, .inl (fun _ => 0))), (q1222, .inl (a 0, 12, .inl (fun _ => 0))), (q1223, .inl (a 0, 12, .inl (fun _ => 0))), (q1224, .inl (a 0, 12, .inl (fun _ => 0))), (q1200, .inr (2, [.ref q1228])), (q1228, .inl (a 1, 32, .inr (.inl (fun _ => 0)))), (q1201, .inr (1, [.ref q1229, .ref q1230, .int 0, .long 0])), (q1229, .inl (a 1, 2048, .inr (.inl (fun _ => 0)))), (q1230, .inl (a 1, 2048, .inr (.inl (fun _ => 0)))), (q1231, .inr (9, [.null, .int 0, .int 0, .null, .null, .null, .null, .int 0, .int 0, .int 0, .null, .null, .int 0, .int 0, .int 0, .int 0, .int 0, .int 0, .int 0, .null, .int 0, .null, .int 0, .null, .null, .null, .null, .null, .null, .null, .null, .null, .null, .null, .null, .null]))] := hD
  refine W.cs (cells' := 39) (slots' := 6428) rfl rfl ?_
  refine lv_dup hx hb dL_law_11 rfl ?_
  refine afMv (runI (As := []) (rest := [.ref q1231]) C (c_X9_init_0 l D a q1231 H.size) lk_I_L_12 (okN_X9_init) ⟨Nat.le_of_ble_eq_true rfl, Nat.le_of_ble_eq_true rfl⟩ ⟨rfl, rfl⟩ (preM hK (P_of_map (wc := [(q1231, .inr (9, [.null, .int 0, .int 0, .null, .null, .null, .null, .int 0, .int 0, .int 0, .null, .null, .int 0, .int 0, .int 0, .int 0, .int 0, .int 0, .int 0, .null, .int 0, .null, .int 0, .null, .null, .null, .null, .null, .null, .null, .null, .null, .null, .null, .null, .null]))]) hP [38] rfl) (hD.sub (ws' := [(q1231, .inr (9, [.null, .int 0, .int 0, .null, .null, .null, .null, .int 0, .int 0, .int 0, .null, .null, .int 0, .int 0, .int 0, .int 0, .int 0, .int 0, .int 0, .null, .int 0, .null, .int 0, .null, .null, .null, .null, .null, .null, .null, .null, .null, .null, .null, .null, .null]))]) [38] (by decide) rfl)) hl.1 rfl (Nat.le_of_ble_eq_true rfl) dL_law_12 ⟨Nat.le_of_ble_eq_true rfl, Nat.le_of_ble_eq_true rfl⟩) hP hD hS hA [38] [0, 1, 2, 3, 4, 5, 6, 7, 8, 9, 10, 11, 12, 13, 14, 15, 16, 17, 18, 19, 20, 21, 22, 23, 24, 25, 26, 27, 28, 29, 30, 31, 32, 33, 34, 35, 36, 37] (wr := [(q1001, .inr (8, [.ref q1194, .int 0, .ref q1195, .int 0, .int 0, .ref q1196, .ref q1197, .ref q1198, .ref q1199, .ref q1200, .ref q1201])), (q1194, .inl (a 0, 400, .inl (fun _ => 0))), (q1195, .inl (a 4, 6, .inr (.inr (.inr (.inr (fun _ => none)))))), (q1202, .inr (7, [.int 0, .int 0, .int 0, .int 0, .int 0, .ref q1203, .ref q1204, .ref q1205, .ref q1206, .ref q1207, .ref q1208, .ref q1209, .ref q1210, .ref q1211, .ref q1212, .ref q1213, .ref q1214, .int 0])), (q1203, .inl (a 0, 6, .inl (fun _ => 0))), (q1204, .inl (a 0, 6, .inl (fun _ => 0))), (q1205, .inl (a 0, 6, .inl (fun _ => 0))), (q1206, .inl (a 0, 10, .inl (fun _ => 0))), (q1207, .inl (a 0, 10, .inl (fun _ => 0))), (q1208, .inl (a 0, 10, .inl (fun _ => 0))), (q1209, .inl (a 0, 10, .inl (fun _ => 0))), (q1210, .inl (a 0, 10, .inl (fun _ => 0))), (q1211, .inl (a 0, 10, .inl (fun _ => 0))), (q1212, .inl (a 0, 10, .inl (fun _ => 0))), (q1213, .inl (a 0, 10, .inl (fun _ => 0))), (q1214, .inl (a 0, 10, .inl (fun _ => 0))), (q1196, .inr (5, [.ref q1202, .ref q1215, .int 0, .int 0, .int 0, .ref q1216, .int 0, .ref q1217])), (q1215, .inr (0, [.int 0, .int 0, .int 0, .int 0, .int 0, .ref q1218])), (q1218, .inl (a 0, 10, .inl (fun _ => 0))), (q1216, .inl (a 0, 8, .inl (fun _ => 0))), (q1217, .inl (a 0, 8, .inl (fun _ => 0))), (q1197, .inl (a 5, 4, .inr (.inr (.inr (.inr (fun _ => none)))))), (q1198, .inr (0, [.int 0, .int 0, .int 0, .int 0, .int 0, .ref q1219])), (q1219, .inl (a 0, 10, .inl (fun _ => 0))), (q1199, .inr (4, [.ref q1220, .ref q1221, .int 0, .int 0, .int 0, .ref q1222, .ref q1223, .ref q1224])), (q1220, .inr (6, [.ref q1225, .ref q1226, .ref q1227, .int 0, .int 0, .int 0, .int 0, .int 0, .int 0])), (q1225, .inl (a 0, 401, .inl (fun _ => 0))), (q1226, .inl (a 0, 401, .inl (fun _ => 0))), (q1227, .inl (a 0, 401, .inl (fun _ => 0))), (q1221, .inl (a 0, 400, .inl (fun _ => 0))), (q1222, .inl (a 0, 12, .inl (fun _ => 0))), (q1223, .inl (a 0, 12, .inl (fun _ => 0))), (q1224, .inl (a 0, 12, .inl (fun _ => 0))), (q1200, .inr (2, [.ref q1228])), (q1228, .inl (a 1, 32, .inr (.inl (fun _ => 0)))), (q1201, .inr (1, [.ref q1229, .ref q1230, .int 0, .long 0])), (q1229, .inl (a 1, 2048, .inr (.inl (fun _ => 0)))), (q1230, .inl (a 1, 2048, .inr (.inl (fun _ => 0))))]) rfl rfl (by decide) (by decide) (fun u H locs hw hP hD hS => ?_)
  obtain ⟨q1279, q1280, q1281, q1282, q1283, q1284, q1285, q1286, q1287, q1288, q1289, q1290, q1291, q1292, q1293, q1294, q1295, q1296, q1297, q1298, q1299, q1300, rfl⟩ := hw
  have hP : va_P D classes [(q1001, .inr (8, [.ref q1194, .int 0, .ref q1195, .int 0, .int 0, .ref q1196, .ref q1197, .ref q1198, .ref q1199, .ref q1200, .ref q1201])), (q1194, .inl (a 0, 400, .inl (fun _ => 0))), (q1195, .inl (a 4, 6, .inr (.inr (.inr (.inr (fun _ => none)))))), (q1202, .inr (7, [.int 0, .int 0, .int 0, .int 0, .int 0, .ref q1203, .ref q1204, .ref q1205, .ref q1206, .ref q1207, .ref q1208, .ref q1209, .ref q1210, .ref q1211, .ref q1212, .ref q1213, .ref q1214, .int 0])), (q1203, .inl (a 0, 6, .inl (fun _ => 0))), (q1204, .inl (a 0, 6, .inl (fun _ => 0))), (q1205, .inl (a 0, 6, .inl (fun _ => 0))), (q1206, .inl (a 0, 10, .inl (fun _ => 0))), (q1207, .inl (a 0, 10, .inl (fun _ => 0))), (q1208, .inl (a 0, 10, .inl (fun _ => 0))), (q1209, .inl (a 0, 10, .inl (fun _ => 0))), (q1210, .inl (a 0, 10, .inl (fun _ => 0))), (q1211, .inl (a 0, 10, .inl (fun _ => 0))), (q1212, .inl (a 0, 10, .inl (fun _ => 0))), (q1213, .inl (a 0, 10, .inl (fun _ => 0))), (q1214, .inl (a 0, 10, .inl (fun _ => 0))), (q1196, .inr (5, [.ref q1202, .ref q1215, .int 0, .int 0, .int 0, .ref q1216, .int 0, .ref q1217])), (q1215, .inr (0, [.int 0, .int 0, .int 0, .int 0, .int 0, .ref q1218])), (q1218, .inl (a 0, 10, .inl (fun _ => 0))), (q1216, .inl (a 0, 8, .inl (fun _ => 0))), (q1217, .inl (a 0, 8, .inl (fun _ => 0))), (q1197, .inl (a 5, 4, .inr (.inr (.inr (.inr (fun _ => none)))))), (q1198, .inr (0, [.int 0, .int 0, .int 0, .int 0, .int 0, .ref q1219])), (q1219, .inl (a 0, 10, .inl (fun _ => 0))), (q1199, .inr (4, [.ref q1220, .ref q1221, .int 0, .int 0, .int 0, .ref q1222, .ref q1223, .ref q1224])), (q1220, .inr (6, [.ref q1225, .ref q1226, .ref q1227, .int 0, .int 0, .int 0, .int 0, .int 0, .int 0])), (q1225, .inl (a 0, 401, .inl (fun _ => 0))), (q1226, .inl (a 0, 401, .inl (fun _ => 0))), (q1227, .inl (a 0, 401, .inl (fun _ => 0))), (q1221, .inl (a 0, 400, .inl (fun _ => 0))), (q1222, .inl (a 0, 12, .inl (fun _ => 0))), (q1223, .inl (a 0, 12, .inl (fun _ => 0))), (q1224, .inl (a 0, 12, .inl (fun _ => 0))), (q1200, .inr (2, [.ref q1228])), (q1228, .inl (a 1, 32, .inr (.inl (fun _ => 0)))), (q1201, .inr (1, [.ref q1229, .ref q1230, .int 0, .long 0])), (q1229, .inl (a 1, 2048, .inr (.inl (fun _ => 0)))), (q1230, .inl (a 1, 2048, .inr (.inl (fun _ => 0)))), (q1231, .inr (9, [.ref q1279, .int 0, .int 0, .ref q1280, .ref q1281, .ref q1282, .ref q1283, .int 0, .int 0, .int 0, .ref q1284, .ref q1285, .int 0, .int 0, .int 0, .int 0, .int 0, .int 0, .int 0, .ref q1286, .int 0, .ref q1287, .int 0, .ref q1288, .ref q1289, .ref q1290, .ref q1291, .ref q1292, .ref q1293, .ref q1294, .ref q1295, .ref q1296, .ref q1297, .ref q1298, .ref q1299, .ref q1300])), (q1279, .inl (a 2, 400, .inl (fun _ => 0))), (q1280, .inl (a 0, 2400, .inl (fun _ => 0))), (q1281, .inl (a 0, 7, .inl (fun _ => 0))), (q1282, .inl (a 0, 360, .inl (fun _ => 0))), (q1283, .inl (a 0, 6, .inl (fun _ => 0))), (q1284, .inl (a 0, 18, .inl (fun _ => 0))), (q1285, .inl (a 0, 40, .inl (fun _ => 0))), (q1286, .inl (a 0, 400, .inl (fun _ => 0))), (q1287, .inl (a 1, 64, .inr (.inl (fun _ => 0)))), (q1288, .inl (a 1, 9, .inr (.inl (fun _ => 0)))), (q1289, .inl (a 0, 104, .inl (fun _ => 0))), (q1290, .inl (a 0, 104, .inl (fun _ => 0))), (q1291, .inl (a 0, 6, .inl (fun _ => 0))), (q1292, .inl (a 3, 6, .inl (fun _ => 0))), (q1293, .inl (a 1, 6, .inr (.inl (fun _ => 0)))), (q1294, .inl (a 1, 6, .inr (.inl (fun _ => 0)))), (q1295, .inl (a 1, 6, .inr (.inl (fun _ => 0)))), (q1296, .inl (a 1, 6, .inr (.inl (fun _ => 0)))), (q1297, .inl (a 0, 6, .inl (fun _ => 0))), (q1298, .inl (a 0, 6, .inl (fun _ => 0))), (q1299, .inl (a 0, 416, .inl (fun _ => 0))), (q1300, .inl (a 3, 4, .inl (fun _ => 0)))] H := hP
  have hD : va_D A [(q1001, .inr (8, [.ref q1194, .int 0, .ref q1195, .int 0, .int 0, .ref q1196, .ref q1197, .ref q1198, .ref q1199, .ref q1200, .ref q1201])), (q1194, .inl (a 0, 400, .inl (fun _ => 0))), (q1195, .inl (a 4, 6, .inr (.inr (.inr (.inr (fun _ => none)))))), (q1202, .inr (7, [.int 0, .int 0, .int 0, .int 0, .int 0, .ref q1203, .ref q1204, .ref q1205, .ref q1206, .ref q1207, .ref q1208, .ref q1209, .ref q1210, .ref q1211, .ref q1212, .ref q1213, .ref q1214, .int 0])), (q1203, .inl (a 0, 6, .inl (fun _ => 0))), (q1204, .inl (a 0, 6, .inl (fun _ => 0))), (q1205, .inl (a 0, 6, .inl (fun _ => 0))), (q1206, .inl (a 0, 10, .inl (fun _ => 0))), (q1207, .inl (a 0, 10, .inl (fun _ => 0))), (q1208, .inl (a 0, 10, .inl (fun _ => 0))), (q1209, .inl (a 0, 10, .inl (fun _ => 0))), (q1210, .inl (a 0, 10, .inl (fun _ => 0))), (q1211, .inl (a 0, 10, .inl (fun _ => 0))), (q1212, .inl (a 0, 10, .inl (fun _ => 0))), (q1213, .inl (a 0, 10, .inl (fun _ => 0))), (q1214, .inl (a 0, 10, .inl (fun _ => 0))), (q1196, .inr (5, [.ref q1202, .ref q1215, .int 0, .int 0, .int 0, .ref q1216, .int 0, .ref q1217])), (q1215, .inr (0, [.int 0, .int 0, .int 0, .int 0, .int 0, .ref q1218])), (q1218, .inl (a 0, 10, .inl (fun _ => 0))), (q1216, .inl (a 0, 8, .inl (fun _ => 0))), (q1217, .inl (a 0, 8, .inl (fun _ => 0))), (q1197, .inl (a 5, 4, .inr (.inr (.inr (.inr (fun _ => none)))))), (q1198, .inr (0, [.int 0, .int 0, .int 0, .int 0, .int 0, .ref q1219])), (q1219, .inl (a 0, 10, .inl (fun _ => 0))), (q1199, .inr (4, [.ref q1220, .ref q1221, .int 0, .int 0, .int 0, .ref q1222, .ref q1223, .ref q1224])), (q1220, .inr (6, [.ref q1225, .ref q1226, .ref q1227, .int 0, .int 0, .int 0, .int 0, .int 0, .int 0])), (q1225, .inl (a 0, 401, .inl (fun _ => 0))), (q1226, .inl (a 0, 401, .inl (fun _ => 0))), (q1227, .inl (a 0, 401, .inl (fun _ => 0))), (q1221, .inl (a 0, 400, .inl (fun _ => 0))), (q1222, .inl (a 0, 12, .inl (fun _ => 0))), (q1223, .inl (a 0, 12, .inl (fun _ => 0))), (q1224, .inl (a 0, 12, .inl (fun _ => 0))), (q1200, .inr (2, [.ref q1228])), (q1228, .inl (a 1, 32, .inr (.inl (fun _ => 0)))), (q1201, .inr (1, [.ref q1229, .ref q1230, .int 0, .long 0])), (q1229, .inl (a 1, 2048, .inr (.inl (fun _ => 0)))), (q1230, .inl (a 1, 2048, .inr (.inl (fun _ => 0)))), (q1231, .inr (9, [.ref q1279, .int 0, .int 0, .ref q1280, .ref q1281, .ref q1282, .ref q1283, .int 0, .int 0, .int 0, .ref q1284, .ref q1285, .int 0, .int 0, .int 0, .int 0, .int 0, .int 0, .int 0, .ref q1286, .int 0, .ref q1287, .int 0, .ref q1288, .ref q1289, .ref q1290, .ref q1291, .ref q1292, .ref q1293, .ref q1294, .ref q1295, .ref q1296, .ref q1297, .ref q1298, .ref q1299, .ref q1300])), (q1279, .inl (a 2, 400, .inl (fun _ => 0))), (q1280, .inl (a 0, 2400, .inl (fun _ => 0))), (q1281, .inl (a 0, 7, .inl (fun _ => 0))), (q1282, .inl (a 0, 360, .inl (fun _ => 0))), (q1283, .inl (a 0, 6, .inl (fun _ => 0))), (q1284, .inl (a 0, 18, .inl (fun _ => 0))), (q1285, .inl (a 0, 40, .inl (fun _ => 0))), (q1286, .inl (a 0, 400, .inl (fun _ => 0))), (q1287, .inl (a 1, 64, .inr (.inl (fun _ => 0)))), (q1288, .inl (a 1, 9, .inr (.inl (fun _ => 0)))), (q1289, .inl (a 0, 104, .inl (fun _ => 0))), (q1290, .inl (a 0, 104, .inl (fun _ => 0))), (q1291, .inl (a 0, 6, .inl (fun _ => 0))), (q1292, .inl (a 3, 6, .inl (fun _ => 0))), (q1293, .inl (a 1, 6, .inr (.inl (fun _ => 0)))), (q1294, .inl (a 1, 6, .inr (.inl (fun _ => 0)))), (q1295, .inl (a 1, 6, .inr (.inl (fun _ => 0)))), (q1296, .inl (a 1, 6, .inr (.inl (fun _ => 0)))), (q1297, .inl (a 0, 6, .inl (fun _ => 0))), (q1298, .inl (a 0, 6, .inl (fun _ => 0))), (q1299, .inl (a 0, 416, .inl (fun _ => 0))), (q1300, .inl (a 3, 4, .inl (fun _ => 0)))] := hD
  refine W.cs (cells' := 61) (slots' := 10808) rfl rfl ?_
  refine lv_astore_n (lv' := [(2, .ref q1231), (1, .ref q1001), (0, .ref b)]) hx hb dL_law_15 rfl hl (by decide) rfl (fun ls hl => ?_)
  refine lv_iconst (v := 0) hx hb dL_law_16 (by decide) ?_
  refine lv_istore_n (lv' := [(3, .int 0), (2, .ref q1231), (1, .ref q1001), (0, .ref b)]) hx hb dL_law_17 rfl hl (by decide) rfl (fun ls hl => ?_)
  refine lv_iload_n hx hb dL_law_18 rfl (lv_at hl 0 rfl) ?_
  refine lv_aload_n hx hb dL_law_19 rfl (lv_at hl 3 rfl) ?_
  refine va_slen hx hb hX hbl hbA hS dL_law_20 ?_
  refine lv_bipush (v := 6) hx hb dL_law_21 (by decide) ?_
  refine lv_isub hx hb dL_law_23 ?_
  rcases Nat.lt_or_ge L 6 with h6 | h6
  · refine lv_icmp_gt (tgt := 934) hx hb dL_law_24 (by decide) (fun c9 => ?_) (fun c9 => absurd (len_lt h6) c9)
    refine lv_iconst (v := 1) hx hb dL_law_934 (by decide) ?_
    refine va_forget (fun q hq => hAi _ (hS.2.2 q hq)) ?_
    refine W.widen (k := 600000) (n := 7302250) (Nat.le_of_ble_eq_true rfl) (Nat.le_of_ble_eq_true rfl) ?_
    exact lw_ret hx hb hr hlocks dL_law_935
  obtain rfl : L = 6 := Nat.le_antisymm hL h6
  refine lv_icmp_gt (tgt := 934) hx hb dL_law_24 (by decide) (fun c9 => absurd c9 (by decide)) (fun c9 => ?_)
  refine lv_aload_n hx hb dL_law_27 rfl (lv_at hl 3 rfl) ?_
  refine lv_iload_n hx hb dL_law_28 rfl (lv_at hl 0 rfl) ?_
  refine sld hx hb hX hbl hbA hS 0 (ix_lit (by decide)) dL_law_29 ?_
  refine lv_bipush (v := 31) hx hb dL_law_30 (by decide) ?_
  refine lv_iand hx hb dL_law_32 ?_
  refine lv_topi (fun z ez => ?_)
  by_cases g0 : z = 0
  · refine lv_tableIn (off := 127) (tgt := 160) hx hb dL_law_33 (by rw [g0]; decide) (by rw [g0]; decide) (by rw [g0]; decide) (by decide) ?_
    exact law_feed C hX hbl hAi hA hK hP hD hS hl
  by_cases g1 : z = 1
  · refine lv_tableIn (off := 190) (tgt := 223) hx hb dL_law_33 (by rw [g1]; decide) (by rw [g1]; decide) (by rw [g1]; decide) (by decide) ?_
    exact law_end C hX hbl hAi hA hK hP hD hS hl
  by_cases g2 : z = 2
  · refine lv_tableIn (off := 213) (tgt := 246) hx hb dL_law_33 (by rw [g2]; decide) (by rw [g2]; decide) (by rw [g2]; decide) (by decide) ?_
    exact law_work C hX hbl hAi hA hK hP hD hS hl
  by_cases g3 : z = 3
  · refine lv_tableIn (off := 226) (tgt := 259) hx hb dL_law_33 (by rw [g3]; decide) (by rw [g3]; decide) (by rw [g3]; decide) (by decide) ?_
    exact law_rule C hX hbl hAi hA hK hP hD hS hl
  by_cases g4 : z = 4
  · refine lv_tableIn (off := 239) (tgt := 272) hx hb dL_law_33 (by rw [g4]; decide) (by rw [g4]; decide) (by rw [g4]; decide) (by decide) ?_
    exact law_kind C hX hbl hAi hA hK hP hD hS hl
  by_cases g5 : z = 5
  · refine lv_tableIn (off := 272) (tgt := 305) hx hb dL_law_33 (by rw [g5]; decide) (by rw [g5]; decide) (by rw [g5]; decide) (by decide) ?_
    exact law_fault C hX hbl hAi hA hK hP hD hS hl
  by_cases g6 : z = 6
  · refine lv_tableIn (off := 305) (tgt := 338) hx hb dL_law_33 (by rw [g6]; decide) (by rw [g6]; decide) (by rw [g6]; decide) (by decide) ?_
    exact law_look C hX hbl hAi hA hK hP hD hS hl
  by_cases g7 : z = 7
  · refine lv_tableIn (off := 328) (tgt := 361) hx hb dL_law_33 (by rw [g7]; decide) (by rw [g7]; decide) (by rw [g7]; decide) (by decide) ?_
    exact law_fine C hX hbl hAi hA hK hP hD hS hl
  by_cases g8 : z = 8
  · refine lv_tableIn (off := 351) (tgt := 384) hx hb dL_law_33 (by rw [g8]; decide) (by rw [g8]; decide) (by rw [g8]; decide) (by decide) ?_
    exact law_mend C hX hbl hAi hA hK hP hD hS hl
  by_cases g9 : z = 9
  · refine lv_tableIn (off := 374) (tgt := 407) hx hb dL_law_33 (by rw [g9]; decide) (by rw [g9]; decide) (by rw [g9]; decide) (by decide) ?_
    exact law_dawn C hX hbl hAi hA hK hP hD hS hl
  by_cases g10 : z = 10
  · refine lv_tableIn (off := 387) (tgt := 420) hx hb dL_law_33 (by rw [g10]; decide) (by rw [g10]; decide) (by rw [g10]; decide) (by decide) ?_
    exact law_day C hX hbl hAi hA hK hP hD hS hl
  by_cases g11 : z = 11
  · refine lv_tableIn (off := 410) (tgt := 443) hx hb dL_law_33 (by rw [g11]; decide) (by rw [g11]; decide) (by rw [g11]; decide) (by decide) ?_
    exact law_would C hX hbl hAi hA hK hP hD hS hl
  by_cases g12 : z = 12
  · refine lv_tableIn (off := 443) (tgt := 476) hx hb dL_law_33 (by rw [g12]; decide) (by rw [g12]; decide) (by rw [g12]; decide) (by decide) ?_
    exact law_row C hX hbl hAi hA hK hP hD hS hl
  by_cases g13 : z = 13
  · refine lv_tableIn (off := 466) (tgt := 499) hx hb dL_law_33 (by rw [g13]; decide) (by rw [g13]; decide) (by rw [g13]; decide) (by decide) ?_
    exact law_worth C hX hbl hAi hA hK hP hD hS hl
  by_cases g14 : z = 14
  · refine lv_tableIn (off := 490) (tgt := 523) hx hb dL_law_33 (by rw [g14]; decide) (by rw [g14]; decide) (by rw [g14]; decide) (by decide) ?_
    exact law_seen C hX hbl hAi hA hK hP hD hS hl
  by_cases g15 : z = 15
  · refine lv_tableIn (off := 524) (tgt := 557) hx hb dL_law_33 (by rw [g15]; decide) (by rw [g15]; decide) (by rw [g15]; decide) (by decide) ?_
    exact law_best C hX hbl hAi hA hK hP hD hS hl
  by_cases g16 : z = 16
  · refine lv_tableIn (off := 558) (tgt := 591) hx hb dL_law_33 (by rw [g16]; decide) (by rw [g16]; decide) (by rw [g16]; decide) (by decide) ?_
    exact law_master C hX hbl hAi hA hK hP hD hS hl
  by_cases g17 : z = 17
  · refine lv_tableIn (off := 592) (tgt := 625) hx hb dL_law_33 (by rw [g17]; decide) (by rw [g17]; decide) (by rw [g17]; decide) (by decide) ?_
    exact law_game C hX hbl hAi hA hK hP hD hS hl
  by_cases g18 : z = 18
  · refine lv_tableIn (off := 625) (tgt := 658) hx hb dL_law_33 (by rw [g18]; decide) (by rw [g18]; decide) (by rw [g18]; decide) (by decide) ?_
    exact law_rests C hX hbl hAi hA hK hP hD hS hl
  by_cases g19 : z = 19
  · refine lv_tableIn (off := 638) (tgt := 671) hx hb dL_law_33 (by rw [g19]; decide) (by rw [g19]; decide) (by rw [g19]; decide) (by decide) ?_
    exact law_mixed C hX hbl hAi hA hK hP hD hS hl
  by_cases g20 : z = 20
  · refine lv_tableIn (off := 671) (tgt := 704) hx hb dL_law_33 (by rw [g20]; decide) (by rw [g20]; decide) (by rw [g20]; decide) (by decide) ?_
    exact law_checks C hX hbl hAi hA hK hP hD hS hl
  by_cases g21 : z = 21
  · refine lv_tableIn (off := 704) (tgt := 737) hx hb dL_law_33 (by rw [g21]; decide) (by rw [g21]; decide) (by rw [g21]; decide) (by decide) ?_
    exact law_fits C hX hbl hAi hA hK hP hD hS hl
  by_cases g22 : z = 22
  · refine lv_tableIn (off := 737) (tgt := 770) hx hb dL_law_33 (by rw [g22]; decide) (by rw [g22]; decide) (by rw [g22]; decide) (by decide) ?_
    exact law_seed C hX hbl hAi hA hK hP hD hS hl
  by_cases g23 : z = 23
  · refine lv_tableIn (off := 760) (tgt := 793) hx hb dL_law_33 (by rw [g23]; decide) (by rw [g23]; decide) (by rw [g23]; decide) (by decide) ?_
    exact law_weeks C hX hbl hAi hA hK hP hD hS hl
  by_cases g24 : z = 24
  · refine lv_tableIn (off := 803) (tgt := 836) hx hb dL_law_33 (by rw [g24]; decide) (by rw [g24]; decide) (by rw [g24]; decide) (by decide) ?_
    exact law_count C hX hbl hAi hA hK hP hD hS hl
  by_cases g25 : z = 25
  · refine lv_tableIn (off := 826) (tgt := 859) hx hb dL_law_33 (by rw [g25]; decide) (by rw [g25]; decide) (by rw [g25]; decide) (by decide) ?_
    exact law_coins C hX hbl hAi hA hK hP hD hS hl
  by_cases g26 : z = 26
  · refine lv_tableIn (off := 849) (tgt := 882) hx hb dL_law_33 (by rw [g26]; decide) (by rw [g26]; decide) (by rw [g26]; decide) (by decide) ?_
    exact law_image C hX hbl hAi hA hK hP hD hS hl
  by_cases g27 : z = 27
  · refine lv_tableIn (off := 872) (tgt := 905) hx hb dL_law_33 (by rw [g27]; decide) (by rw [g27]; decide) (by rw [g27]; decide) (by decide) ?_
    exact law_back C hX hbl hAi hA hK hP hD hS hl
  refine lv_tableOut (tgt := 928) hx hb dL_law_33 (by have := lv_neT g0 (show (0 : Int32).toInt = 0 by decide); have := lv_neT g1 (show (1 : Int32).toInt = 1 by decide); have := lv_neT g2 (show (2 : Int32).toInt = 2 by decide); have := lv_neT g3 (show (3 : Int32).toInt = 3 by decide); have := lv_neT g4 (show (4 : Int32).toInt = 4 by decide); have := lv_neT g5 (show (5 : Int32).toInt = 5 by decide); have := lv_neT g6 (show (6 : Int32).toInt = 6 by decide); have := lv_neT g7 (show (7 : Int32).toInt = 7 by decide); have := lv_neT g8 (show (8 : Int32).toInt = 8 by decide); have := lv_neT g9 (show (9 : Int32).toInt = 9 by decide); have := lv_neT g10 (show (10 : Int32).toInt = 10 by decide); have := lv_neT g11 (show (11 : Int32).toInt = 11 by decide); have := lv_neT g12 (show (12 : Int32).toInt = 12 by decide); have := lv_neT g13 (show (13 : Int32).toInt = 13 by decide); have := lv_neT g14 (show (14 : Int32).toInt = 14 by decide); have := lv_neT g15 (show (15 : Int32).toInt = 15 by decide); have := lv_neT g16 (show (16 : Int32).toInt = 16 by decide); have := lv_neT g17 (show (17 : Int32).toInt = 17 by decide); have := lv_neT g18 (show (18 : Int32).toInt = 18 by decide); have := lv_neT g19 (show (19 : Int32).toInt = 19 by decide); have := lv_neT g20 (show (20 : Int32).toInt = 20 by decide); have := lv_neT g21 (show (21 : Int32).toInt = 21 by decide); have := lv_neT g22 (show (22 : Int32).toInt = 22 by decide); have := lv_neT g23 (show (23 : Int32).toInt = 23 by decide); have := lv_neT g24 (show (24 : Int32).toInt = 24 by decide); have := lv_neT g25 (show (25 : Int32).toInt = 25 by decide); have := lv_neT g26 (show (26 : Int32).toInt = 26 by decide); have := lv_neT g27 (show (27 : Int32).toInt = 27 by decide); omega) (by decide) ?_
  exact law_tail C hX hbl hAi hS (Nat.le_of_ble_eq_true rfl) (Nat.le_of_ble_eq_true rfl) (lv_sub hl [3, 0] rfl)
-- ===== YOUR PART ENDS =====
set_option maxHeartbeats 4000000 in
theorem lw_walk (l : Launch) (b : Addr) (xs : List Int32) : MetFree l x (headSpec (Jvm.Cond.code x code maxLocals ret :: tables_1) room_1) (lw_P b xs) (fun _ _ _ _ _ => True) lw_Q := by
  refine MetFree.of_bodyS (code := code) (maxLocals := maxLocals) (ret := ret) (by decide) ?_ ?_
  · intro args s m h hn
    obtain ⟨meth, c, h1, h2, h3, h4, h5, h6, -, -⟩ := Cond.code_spec hn (atoms_spec (ws := Jvm.Cond.code x code maxLocals ret :: tables_1) h _ List.mem_cons_self)
    exact ⟨meth, c, h1, h2, h3, h4, h5, h6⟩
  · intro p e s m args below meth c s₁ B hml0 hP _
    obtain ⟨rfl, hx, hbd, hgv⟩ := hP
    obtain ⟨scr, harrAt, hlist, hof, hsmall⟩ := hx
    obtain ⟨hcb, hkn, -, -⟩ := State.arrayAt?_spec harrAt
    have hown : s.vm.findClass R_law = some m.cls := findClass_of_methodNamed B.named
    have hts0 : ∀ c ∈ (Jvm.Cond.code x code maxLocals ret :: tables_1), c.before #[Value.ref b] s = true := atoms_spec (ws := Jvm.Cond.code x code maxLocals ret :: tables_1) B.pre
    have hts : ∀ w ∈ lw_tbl, w.before #[Value.ref b] s = true := k2_hts_sels lw_privs (fun w hw => hts0 w (List.mem_cons_of_mem _ hw)) lw_privs_ok
    have hml : c.maxLocals = 4 := B.maxLocals_eq (hts0 _ List.mem_cons_self)
    have X₀ : Stand p l e room_1 s m #[Value.ref b] below meth c s₁ [] 0 0 := Stand.of_body B
    have hh0 : s₁.heap = s.heap := by rw [B.state]; rfl
    have hsz : scr.slots.size = xs.length := by rw [← Array.length_toList, hlist, List.length_map]
    have hval : ∀ j : Nat, j < xs.length → scr.slots[j]? = some (.int (xs.getD j 0)) := fun j hj => by
      rw [← Array.getElem?_toList, hlist]
      simp [hj]
    have hbl : b < s.heap.size := (Array.getElem?_eq_some_iff.mp hcb).1
    have hX : va_X b xs.length (fun j => xs.getD j 0) s s.heap := ⟨scr, hcb, hof, hkn, hsz, hval⟩
    have K : W p l e room_1 s m #[Value.ref b] below meth c s₁.heap [] 0 0 (lw_Z below #[Value.ref b] s) (entryFrame m ([Value.ref b] : List Value).toArray 4) := by
      rw [hh0]
      exact whole_start l hbd ⟨B.exec, B.bytes, B.returns, hml, hown, hts, hX, hbl, B.notSynchronized, hgv⟩
    obtain ⟨t, a1, o, b1, b2, b3⟩ := K s₁ rfl X₀
    exact ⟨t, o, a1, b1, b2, b3⟩
theorem lw_pre_spec {args : Array Value} {s : State} (h : (Jvm.Cond.and given_1 narrow_1).before args s = true) (hr : rest_1_c.before args s = true) : ∃ (b : Addr) (xs : List Int32), lw_P b xs args s := by
  have hs := flat_of_before _ h
  have hq := flat_of_before _ hr
  have hc : (Cond.count 1).before args s = true := hs _ (by decide +kernel)
  have harr : (Cond.arrayOf (.arg 0) .int).before args s = true := hs _ (by decide +kernel)
  have hle : (Cond.le (.length (.arg 0)) (.int 6)).before args s = true := hs _ (by decide +kernel)
  have hlen : (Cond.isInt (.length (.arg 0))).before args s = true := hq _ (by decide +kernel)
  have hall : (Cond.all (.arg 0) (.isInt (.elem (.arg 0) (.index 0)))).before args s = true := hq _ (by decide +kernel)
  obtain ⟨b, xs, hb, hx⟩ := State.ints_of_pre rfl harr hlen hall
  have hsm : xs.length < 2 ^ 31 := hx.choose_spec.2.2.2
  have hev : (Term.length (.arg 0)).eval args s none [] s = some (.int xs.length.toInt32) := hx.length_eval hb
  have hv := Cond.le_ints hev (show (Term.int 6).eval args s none [] s = some (.int 6) from rfl)
  have hd : xs.length.toInt32 ≤ 6 := by
    simpa [Cond.before, Cond.holds, hv] using hle
  have hN : xs.length ≤ 6 := (Int32.ofNat_le_ofNat hsm (by decide)).mp (show Int32.ofNat xs.length ≤ Int32.ofNat 6 from hd)
  exact ⟨b, xs, Cond.one_arg hc (show args[0]? = some (.ref b) from hb), hx, hN, h⟩
theorem lw_comes (l : Launch) : Comes l x (Jvm.Cond.code x code maxLocals ret :: tables_1) room_1 (fun tb e args s => Calls_1 tb e args s ∧ rest_1 tb e args s ∧ Pre_1 tb e args s)
    (fun _ _ args s o t => lw_Q args s o t) := by
  intro p e ha hc hk s m args below hf hfit hheap happ hpre
  obtain ⟨b, xs, hP⟩ := lw_pre_spec hpre.2.2 hpre.2.1
  obtain ⟨k, o, h1, h2, h3, hQ⟩ := lw_walk l b xs p e ha hc hk s m args below hf ((Spec.applies_iff_loose hf).mp happ).1 hP trivial
  exact ⟨k, o, h1, h2, h3, hQ⟩
theorem lw_frame {s t : State} {o : Outcome} {args : Array Value} (h : Framed s o t [] 600000 7302250) :
    Framed s o t (fieldLocs frame_1_writes args s ++ arrayLocs frame_1_arrays args s ++ staticLocs frame_1_statics s) 600000 7302250 := h
theorem lw_limb (L : Cond) (hL : ∀ (args : Array Value) (s t : State), L.after args s (.returned (some (.int 1))) t = true) :
    ArmFor flags0 classFile x code maxLocals ret World_1 tables_1 room_1 Calls_1 rest_1 Pre_1
      (fun tb e a s o t => postC L tb e a s o t ∧ Framed s o t (fieldLocs frame_1_writes a s ++ arrayLocs frame_1_arrays a s ++ staticLocs frame_1_statics s) 600000 7302250) := by
  intro l _ _ _ p e ha hc hk s m args below hf hfit hheap happ hpre
  obtain ⟨k, o, h1, h2, h3, rfl, hF⟩ := lw_comes l p e ha hc hk s m args below hf hfit hheap happ hpre
  exact ⟨k, _, h1, h2, h3, hL args s _, lw_frame hF⟩
theorem i_vc : Claimed_1_1 ∧ Claimed_1_2 := ⟨lw_limb limb_1_1 (fun args s t => by simp [limb_1_1, Cond.after, Cond.holds, Cond.value]), lw_limb limb_1_2 (fun args s t => Cond.after_iff.mpr (by
  first | (rw [show limb_1_2 = Cond.eq .result (.int 1) from rfl, Cond.eq_ints (x := 1) (y := 1) rfl rfl]; simp; done) | (simp [limb_1_2, Cond.value, Term.eval]; done)))⟩

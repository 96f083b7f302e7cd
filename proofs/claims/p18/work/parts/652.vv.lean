/-! The String constants at the start. -/
def GV : List Cond := flatC (Jvm.Cond.and given_1 narrow_1)
def tmS (i : Nat) : Term := .string RX6 (sidx.getD i 0)
def gx : List Nat := [29, 37, 47, 57, 66, 78, 89, 102, 116, 133, 150, 167, 186, 209, 230, 253, 277]
def gc : List Nat := [30, 38, 48, 58, 67, 79, 90, 103, 117, 134, 151, 168, 187, 210, 231, 254, 278]
def gr : List Nat := [31, 39, 49, 59, 68, 80, 91, 104, 118, 135, 152, 169, 188, 211, 232, 255, 279]
def gl : List Nat := [32, 40, 50, 60, 69, 81, 92, 105, 119, 136, 153, 170, 189, 212, 233, 256, 280]
def ge : List (List Nat) := [[33, 34, 35, 36], [41, 42, 43, 44, 45], [51, 52, 53, 54], [61, 62], [70, 71, 72, 73], [82, 83], [93, 94, 95], [106, 107, 108], [120, 121, 122, 123, 124], [137, 138, 139, 140], [154, 155, 156], [171, 172, 173, 174], [190, 191, 192, 193, 194, 195, 196], [213, 214, 215, 216], [234, 235, 236, 237, 238], [257, 258, 259, 260, 261], [281, 282, 283, 284, 285, 286]]
def gn : List (List Nat) := [[0, 46, 55, 63, 74, 84, 96, 109, 125, 141, 157, 175, 197, 217, 239, 262, 287], [0, 0, 56, 64, 75, 85, 97, 110, 126, 142, 158, 176, 198, 218, 240, 263, 288], [0, 0, 0, 65, 76, 86, 98, 111, 127, 143, 159, 177, 199, 219, 241, 264, 289], [0, 0, 0, 0, 77, 87, 99, 112, 128, 144, 160, 178, 200, 220, 242, 265, 290], [0, 0, 0, 0, 0, 88, 100, 113, 129, 145, 161, 179, 201, 221, 243, 266, 291], [0, 0, 0, 0, 0, 0, 101, 114, 130, 146, 162, 180, 202, 222, 244, 267, 292], [0, 0, 0, 0, 0, 0, 0, 115, 131, 147, 163, 181, 203, 223, 245, 268, 293], [0, 0, 0, 0, 0, 0, 0, 0, 132, 148, 164, 182, 204, 224, 246, 269, 294], [0, 0, 0, 0, 0, 0, 0, 0, 0, 149, 165, 183, 205, 225, 247, 270, 295], [0, 0, 0, 0, 0, 0, 0, 0, 0, 0, 166, 184, 206, 226, 248, 271, 296], [0, 0, 0, 0, 0, 0, 0, 0, 0, 0, 0, 185, 207, 227, 249, 272, 297], [0, 0, 0, 0, 0, 0, 0, 0, 0, 0, 0, 0, 208, 228, 250, 273, 298], [0, 0, 0, 0, 0, 0, 0, 0, 0, 0, 0, 0, 0, 229, 251, 274, 299], [0, 0, 0, 0, 0, 0, 0, 0, 0, 0, 0, 0, 0, 0, 252, 275, 300], [0, 0, 0, 0, 0, 0, 0, 0, 0, 0, 0, 0, 0, 0, 0, 276, 301], [0, 0, 0, 0, 0, 0, 0, 0, 0, 0, 0, 0, 0, 0, 0, 0, 302], [0, 0, 0, 0, 0, 0, 0, 0, 0, 0, 0, 0, 0, 0, 0, 0, 0]]
def gs : List Nat := [385, 437, 438, 439, 440, 441, 442, 443, 447, 448, 449, 450, 451, 452, 453, 454, 455]
theorem gv_x : ∀ i, i < 17 → GV[gx.getD i 0]? = some (.exactly (tmS i) "java/lang/String") := by decide +kernel
theorem gv_c : ∀ i, i < 17 → GV[gc.getD i 0]? = some (.eq (.field (tmS i) "java/lang/String" "coder" "B") (.int 0)) := by decide +kernel
theorem gv_r : ∀ i, i < 17 → GV[gr.getD i 0]? = some (.arrayOf (.field (tmS i) "java/lang/String" "value" "[B") .byte) := by decide +kernel
theorem gv_l : ∀ i, i < 17 → GV[gl.getD i 0]? = some (.eq (.length (.field (tmS i) "java/lang/String" "value" "[B")) (.int (Int32.ofNat (slen.getD i 0)))) := by decide +kernel
theorem gv_e : ∀ i, i < 17 → ∀ j, j < slen.getD i 0 → GV[(ge.getD i []).getD j 0]? = some (.eq (.elem (.field (tmS i) "java/lang/String" "value" "[B") (.int (Int32.ofNat j))) (.int ((sbyt.getD i []).getD j 0))) := by decide +kernel
theorem gv_n : ∀ i, i < 17 → ∀ j, j < 17 → i < j → GV[(gn.getD i []).getD j 0]? = some (.not (.eq (tmS i) (tmS j))) := by decide +kernel
theorem gv_s : ∀ i, i < 17 → tables_1[gs.getD i 0]? = some (.stringRef RX6 (sidx.getD i 0) (stx.getD i "")) := by decide +kernel
theorem gv_1 : GV[4]? = some (.eq (.static "java/lang/String" "COMPACT_STRINGS" "Z") (.int 1)) := by decide +kernel
theorem gv_2 : GV[5]? = some (.isRef (.static "jdk/internal/util/Preconditions" "SIOOBE_FORMATTER" "Ljava/util/function/BiFunction;")) := by decide +kernel
theorem gv_3 : tables_1[398]? = some (.laysStatic "java/lang/String" "COMPACT_STRINGS" "Z") := by decide +kernel
theorem gv_4 : tables_1[414]? = some (.laysStatic "jdk/internal/util/Preconditions" "SIOOBE_FORMATTER" "Ljava/util/function/BiFunction;") := by decide +kernel
theorem gv_5 : tables_1[10]? = some (.initialized "java/lang/String") := by decide +kernel
theorem gv_6 : tables_1[12]? = some (.initialized "jdk/internal/util/Preconditions") := by decide +kernel
theorem gv_len : ∀ i, i < 17 → slen.getD i 0 < 2 ^ 31 := by decide
theorem vv_start {s : State} {b : Nat} {A : Nat → Prop} (hts : ∀ w ∈ lw_tbl, w.before #[Value.ref b] s = true) (hgv : (Jvm.Cond.and given_1 narrow_1).before #[Value.ref b] s = true) (hA : ∀ q : Nat, q < s.heap.size → ¬ A q) : ∃ adK adV : Nat → Nat, VV adK adV A s s.heap := by
  have hT : ∀ {k : Nat} {w : Cond}, tables_1[k]? = some w → w.before #[Value.ref b] s = true := fun h => hts _ (List.mem_append_right _ (List.mem_of_getElem? h))
  have hs := flat_of_before _ hgv
  have hG : ∀ {k : Nat} {w : Cond}, GV[k]? = some w → w.before #[Value.ref b] s = true := fun h => hs _ (List.mem_of_getElem? h)
  obtain ⟨adK, adV, hK, hE⟩ := vk_Sof (A := A) (tm := tmS) (len := slen) (byt := sbyt) (N := 17) gv_len (fun i hi => hG (gv_x i hi)) (fun i hi => hG (gv_c i hi)) (fun i hi => hG (gv_r i hi)) (fun i hi => hG (gv_l i hi)) (fun i hi j hj => hG (gv_e i hi j hj)) (fun i j hi hj hij => (Nat.lt_or_gt_of_ne hij).elim (fun h => Or.inl (hG (gv_n i hi j hj h))) (fun h => Or.inr (hG (gv_n j hj i hi h)))) hA
  exact ⟨adK, adV, hK, fun i hi => vk_R.of (hT (gv_s i hi)) (hE i hi), va_Zof (hT gv_3) (hT gv_5) (va_eqi (hG gv_1)) hA, va_Zqof (hT gv_4) (hT gv_6) (hG gv_2) hA⟩

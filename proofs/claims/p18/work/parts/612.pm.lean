theorem pm_x8 {α : Type} (x8 b4 b5 x5 x0 xt x4 x6 x2 x1 x9 w r i : List α) : (x8 ++ (b4 ++ (b5 ++ (x5 ++ (x0 ++ (xt ++ (x4 ++ (x6 ++ (x2 ++ (x1 ++ (x9 ++ (w ++ (r ++ (i)))))))))))))).Perm ((x8) ++ (b4 ++ (b5 ++ (x5 ++ (x0 ++ (xt ++ (x4 ++ (x6 ++ (x2 ++ (x1 ++ (x9 ++ (w ++ (r ++ (i)))))))))))))) := by
  classical
  refine List.perm_iff_count.2 (fun a => ?_)
  simp only [List.count_append] <;> omega

theorem pm_x8_x5_x0_x4_x6 {α : Type} (x8 b4 b5 x5 x0 xt x4 x6 x2 x1 x9 w r i : List α) : (x8 ++ (b4 ++ (b5 ++ (x5 ++ (x0 ++ (xt ++ (x4 ++ (x6 ++ (x2 ++ (x1 ++ (x9 ++ (w ++ (r ++ (i)))))))))))))).Perm ((x8 ++ (x5 ++ (x0 ++ (x4 ++ (x6))))) ++ (b4 ++ (b5 ++ (xt ++ (x2 ++ (x1 ++ (x9 ++ (w ++ (r ++ (i)))))))))) := by
  classical
  refine List.perm_iff_count.2 (fun a => ?_)
  simp only [List.count_append] <;> omega

theorem pm_x8_x5_x0_x4_x6_w1 {α : Type} (x8 b4 b5 x5 x0 xt x4 x6 x2 x1 x9 w r i w1 wr : List α) (hw : w.Perm (w1 ++ wr)) : (x8 ++ (b4 ++ (b5 ++ (x5 ++ (x0 ++ (xt ++ (x4 ++ (x6 ++ (x2 ++ (x1 ++ (x9 ++ (w ++ (r ++ (i)))))))))))))).Perm ((x8 ++ (x5 ++ (x0 ++ (x4 ++ (x6 ++ (w1)))))) ++ (b4 ++ (b5 ++ (xt ++ (x2 ++ (x1 ++ (x9 ++ (wr ++ (r ++ (i)))))))))) := by
  classical
  refine List.perm_iff_count.2 (fun a => ?_)
  have hw1 := hw.count_eq a
  simp only [List.count_append] at hw1 ⊢ <;> omega

theorem pm_x8_b4_x4_x6 {α : Type} (x8 b4 b5 x5 x0 xt x4 x6 x2 x1 x9 w r i : List α) : (x8 ++ (b4 ++ (b5 ++ (x5 ++ (x0 ++ (xt ++ (x4 ++ (x6 ++ (x2 ++ (x1 ++ (x9 ++ (w ++ (r ++ (i)))))))))))))).Perm ((x8 ++ (b4 ++ (x4 ++ (x6)))) ++ (b5 ++ (x5 ++ (x0 ++ (xt ++ (x2 ++ (x1 ++ (x9 ++ (w ++ (r ++ (i))))))))))) := by
  classical
  refine List.perm_iff_count.2 (fun a => ?_)
  simp only [List.count_append] <;> omega

theorem pm_x8_b4_x4_x6_r1 {α : Type} (x8 b4 b5 x5 x0 xt x4 x6 x2 x1 x9 w r i r1 rr : List α) (hr : r.Perm (r1 ++ rr)) : (x8 ++ (b4 ++ (b5 ++ (x5 ++ (x0 ++ (xt ++ (x4 ++ (x6 ++ (x2 ++ (x1 ++ (x9 ++ (w ++ (r ++ (i)))))))))))))).Perm ((x8 ++ (b4 ++ (x4 ++ (x6 ++ (r1))))) ++ (b5 ++ (x5 ++ (x0 ++ (xt ++ (x2 ++ (x1 ++ (x9 ++ (w ++ (rr ++ (i))))))))))) := by
  classical
  refine List.perm_iff_count.2 (fun a => ?_)
  have hr1 := hr.count_eq a
  simp only [List.count_append] at hr1 ⊢ <;> omega

theorem pm_x8_x5_w1 {α : Type} (x8 b4 b5 x5 x0 xt x4 x6 x2 x1 x9 w r i w1 wr : List α) (hw : w.Perm (w1 ++ wr)) : (x8 ++ (b4 ++ (b5 ++ (x5 ++ (x0 ++ (xt ++ (x4 ++ (x6 ++ (x2 ++ (x1 ++ (x9 ++ (w ++ (r ++ (i)))))))))))))).Perm ((x8 ++ (x5 ++ (w1))) ++ (b4 ++ (b5 ++ (x0 ++ (xt ++ (x4 ++ (x6 ++ (x2 ++ (x1 ++ (x9 ++ (wr ++ (r ++ (i))))))))))))) := by
  classical
  refine List.perm_iff_count.2 (fun a => ?_)
  have hw1 := hw.count_eq a
  simp only [List.count_append] at hw1 ⊢ <;> omega

theorem pm_x8_x5_w1_x0 {α : Type} (x8 b4 b5 x5 x0 xt x4 x6 x2 x1 x9 w r i w1 wr : List α) (hw : w.Perm (w1 ++ wr)) : (x8 ++ (b4 ++ (b5 ++ (x5 ++ (x0 ++ (xt ++ (x4 ++ (x6 ++ (x2 ++ (x1 ++ (x9 ++ (w ++ (r ++ (i)))))))))))))).Perm ((x8 ++ (x5 ++ (w1 ++ (x0)))) ++ (b4 ++ (b5 ++ (xt ++ (x4 ++ (x6 ++ (x2 ++ (x1 ++ (x9 ++ (wr ++ (r ++ (i)))))))))))) := by
  classical
  refine List.perm_iff_count.2 (fun a => ?_)
  have hw1 := hw.count_eq a
  simp only [List.count_append] at hw1 ⊢ <;> omega

theorem pm_x8_b4_x5_w1 {α : Type} (x8 b4 b5 x5 x0 xt x4 x6 x2 x1 x9 w r i w1 wr : List α) (hw : w.Perm (w1 ++ wr)) : (x8 ++ (b4 ++ (b5 ++ (x5 ++ (x0 ++ (xt ++ (x4 ++ (x6 ++ (x2 ++ (x1 ++ (x9 ++ (w ++ (r ++ (i)))))))))))))).Perm ((x8 ++ (b4 ++ (x5 ++ (w1)))) ++ (b5 ++ (x0 ++ (xt ++ (x4 ++ (x6 ++ (x2 ++ (x1 ++ (x9 ++ (wr ++ (r ++ (i)))))))))))) := by
  classical
  refine List.perm_iff_count.2 (fun a => ?_)
  have hw1 := hw.count_eq a
  simp only [List.count_append] at hw1 ⊢ <;> omega

theorem pm_x8_b4_x5_w1_x0_x2_r1 {α : Type} (x8 b4 b5 x5 x0 xt x4 x6 x2 x1 x9 w r i w1 wr r1 rr : List α) (hw : w.Perm (w1 ++ wr)) (hr : r.Perm (r1 ++ rr)) : (x8 ++ (b4 ++ (b5 ++ (x5 ++ (x0 ++ (xt ++ (x4 ++ (x6 ++ (x2 ++ (x1 ++ (x9 ++ (w ++ (r ++ (i)))))))))))))).Perm ((x8 ++ (b4 ++ (x5 ++ (w1 ++ (x0 ++ (x2 ++ (r1))))))) ++ (b5 ++ (xt ++ (x4 ++ (x6 ++ (x1 ++ (x9 ++ (wr ++ (rr ++ (i)))))))))) := by
  classical
  refine List.perm_iff_count.2 (fun a => ?_)
  have hw1 := hw.count_eq a
  have hr1 := hr.count_eq a
  simp only [List.count_append] at hw1 hr1 ⊢ <;> omega

theorem pm_x8_b4_x5_w1_x0_xt_x2_r1 {α : Type} (x8 b4 b5 x5 x0 xt x4 x6 x2 x1 x9 w r i w1 wr r1 rr : List α) (hw : w.Perm (w1 ++ wr)) (hr : r.Perm (r1 ++ rr)) : (x8 ++ (b4 ++ (b5 ++ (x5 ++ (x0 ++ (xt ++ (x4 ++ (x6 ++ (x2 ++ (x1 ++ (x9 ++ (w ++ (r ++ (i)))))))))))))).Perm ((x8 ++ (b4 ++ (x5 ++ (w1 ++ (x0 ++ (xt ++ (x2 ++ (r1)))))))) ++ (b5 ++ (x4 ++ (x6 ++ (x1 ++ (x9 ++ (wr ++ (rr ++ (i))))))))) := by
  classical
  refine List.perm_iff_count.2 (fun a => ?_)
  have hw1 := hw.count_eq a
  have hr1 := hr.count_eq a
  simp only [List.count_append] at hw1 hr1 ⊢ <;> omega

theorem pm_x8_x5_w1_x0_x1 {α : Type} (x8 b4 b5 x5 x0 xt x4 x6 x2 x1 x9 w r i w1 wr : List α) (hw : w.Perm (w1 ++ wr)) : (x8 ++ (b4 ++ (b5 ++ (x5 ++ (x0 ++ (xt ++ (x4 ++ (x6 ++ (x2 ++ (x1 ++ (x9 ++ (w ++ (r ++ (i)))))))))))))).Perm ((x8 ++ (x5 ++ (w1 ++ (x0 ++ (x1))))) ++ (b4 ++ (b5 ++ (xt ++ (x4 ++ (x6 ++ (x2 ++ (x9 ++ (wr ++ (r ++ (i))))))))))) := by
  classical
  refine List.perm_iff_count.2 (fun a => ?_)
  have hw1 := hw.count_eq a
  simp only [List.count_append] at hw1 ⊢ <;> omega

theorem pm_x8_x5 {α : Type} (x8 b4 b5 x5 x0 xt x4 x6 x2 x1 x9 w r i : List α) : (x8 ++ (b4 ++ (b5 ++ (x5 ++ (x0 ++ (xt ++ (x4 ++ (x6 ++ (x2 ++ (x1 ++ (x9 ++ (w ++ (r ++ (i)))))))))))))).Perm ((x8 ++ (x5)) ++ (b4 ++ (b5 ++ (x0 ++ (xt ++ (x4 ++ (x6 ++ (x2 ++ (x1 ++ (x9 ++ (w ++ (r ++ (i))))))))))))) := by
  classical
  refine List.perm_iff_count.2 (fun a => ?_)
  simp only [List.count_append] <;> omega

theorem pm_none {α : Type} (x8 b4 b5 x5 x0 xt x4 x6 x2 x1 x9 w r i : List α) : (x8 ++ (b4 ++ (b5 ++ (x5 ++ (x0 ++ (xt ++ (x4 ++ (x6 ++ (x2 ++ (x1 ++ (x9 ++ (w ++ (r ++ (i)))))))))))))).Perm (([]) ++ (x8 ++ (b4 ++ (b5 ++ (x5 ++ (x0 ++ (xt ++ (x4 ++ (x6 ++ (x2 ++ (x1 ++ (x9 ++ (w ++ (r ++ (i))))))))))))))) := by
  classical
  refine List.perm_iff_count.2 (fun a => ?_)
  simp only [List.count_append, List.count_nil] <;> omega

theorem pm_x8_x5_x0 {α : Type} (x8 b4 b5 x5 x0 xt x4 x6 x2 x1 x9 w r i : List α) : (x8 ++ (b4 ++ (b5 ++ (x5 ++ (x0 ++ (xt ++ (x4 ++ (x6 ++ (x2 ++ (x1 ++ (x9 ++ (w ++ (r ++ (i)))))))))))))).Perm ((x8 ++ (x5 ++ (x0))) ++ (b4 ++ (b5 ++ (xt ++ (x4 ++ (x6 ++ (x2 ++ (x1 ++ (x9 ++ (w ++ (r ++ (i)))))))))))) := by
  classical
  refine List.perm_iff_count.2 (fun a => ?_)
  simp only [List.count_append] <;> omega

theorem pm_x8_x5_x0_b5 {α : Type} (x8 b4 b5 x5 x0 xt x4 x6 x2 x1 x9 w r i : List α) : (x8 ++ (b4 ++ (b5 ++ (x5 ++ (x0 ++ (xt ++ (x4 ++ (x6 ++ (x2 ++ (x1 ++ (x9 ++ (w ++ (r ++ (i)))))))))))))).Perm ((x8 ++ (x5 ++ (x0 ++ (b5)))) ++ (b4 ++ (xt ++ (x4 ++ (x6 ++ (x2 ++ (x1 ++ (x9 ++ (w ++ (r ++ (i))))))))))) := by
  classical
  refine List.perm_iff_count.2 (fun a => ?_)
  simp only [List.count_append] <;> omega

theorem pm_x8_x5_x0_b5_i5_i0 {α : Type} (x8 b4 b5 x5 x0 xt x4 x6 x2 x1 x9 w r i i5 i0 ir : List α) (hi : i.Perm ((i5 ++ i0) ++ ir)) : (x8 ++ (b4 ++ (b5 ++ (x5 ++ (x0 ++ (xt ++ (x4 ++ (x6 ++ (x2 ++ (x1 ++ (x9 ++ (w ++ (r ++ (i)))))))))))))).Perm ((x8 ++ (x5 ++ (x0 ++ (b5 ++ (i5 ++ (i0)))))) ++ (b4 ++ (xt ++ (x4 ++ (x6 ++ (x2 ++ (x1 ++ (x9 ++ (w ++ (r ++ (ir))))))))))) := by
  classical
  refine List.perm_iff_count.2 (fun a => ?_)
  have hi1 := hi.count_eq a
  simp only [List.count_append] at hi1 ⊢ <;> omega

theorem pm_x8_b5 {α : Type} (x8 b4 b5 x5 x0 xt x4 x6 x2 x1 x9 w r i : List α) : (x8 ++ (b4 ++ (b5 ++ (x5 ++ (x0 ++ (xt ++ (x4 ++ (x6 ++ (x2 ++ (x1 ++ (x9 ++ (w ++ (r ++ (i)))))))))))))).Perm ((x8 ++ (b5)) ++ (b4 ++ (x5 ++ (x0 ++ (xt ++ (x4 ++ (x6 ++ (x2 ++ (x1 ++ (x9 ++ (w ++ (r ++ (i))))))))))))) := by
  classical
  refine List.perm_iff_count.2 (fun a => ?_)
  simp only [List.count_append] <;> omega

theorem pm_x9 {α : Type} (x8 b4 b5 x5 x0 xt x4 x6 x2 x1 x9 w r i : List α) : (x8 ++ (b4 ++ (b5 ++ (x5 ++ (x0 ++ (xt ++ (x4 ++ (x6 ++ (x2 ++ (x1 ++ (x9 ++ (w ++ (r ++ (i)))))))))))))).Perm ((x9) ++ (x8 ++ (b4 ++ (b5 ++ (x5 ++ (x0 ++ (xt ++ (x4 ++ (x6 ++ (x2 ++ (x1 ++ (w ++ (r ++ (i)))))))))))))) := by
  classical
  refine List.perm_iff_count.2 (fun a => ?_)
  simp only [List.count_append] <;> omega

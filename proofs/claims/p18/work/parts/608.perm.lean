theorem P_perm {D : va_G} {ws wc : va_W} {H : Heap} (h : va_P D classes ws H) (hp : ws.Perm wc) : va_P D classes wc H := by
  intro k q hk
  obtain ⟨i, hi⟩ := List.getElem?_of_mem (hp.mem_iff.2 (List.mem_of_getElem? hk))
  exact h i q hi

theorem D_of_nd {A : Nat → Prop} {ws : va_W} (h1 : (ws.map Prod.fst).Nodup) (h2 : ∀ q ∈ ws, A q.1) : va_D A ws := by
  refine ⟨fun i j p q hi hj hpq => ?_, fun k q hk => h2 q (List.mem_of_getElem? hk)⟩
  have hl : i < (ws.map Prod.fst).length := by
    rw [List.length_map]; exact (List.getElem?_eq_some_iff.1 hi).1
  refine (List.getElem?_inj hl h1).1 ?_
  rw [List.getElem?_map, List.getElem?_map, hi, hj]
  exact congrArg some hpq

theorem nd_of_D {A : Nat → Prop} {ws : va_W} (h : va_D A ws) : (ws.map Prod.fst).Nodup := by
  refine List.pairwise_iff_getElem.2 ?_
  intro i j hi hj hij hE
  rw [List.length_map] at hi hj
  rw [List.getElem_map, List.getElem_map] at hE
  exact absurd (h.1 i j _ _ (List.getElem?_eq_getElem hi) (List.getElem?_eq_getElem hj) hE) (Nat.ne_of_lt hij)

theorem D_perm {A : Nat → Prop} {ws wc : va_W} (h : va_D A ws) (hp : ws.Perm wc) : va_D A wc := by
  refine D_of_nd ((hp.map Prod.fst).nodup_iff.1 (nd_of_D h)) (fun q hq => ?_)
  obtain ⟨i, hi⟩ := List.getElem?_of_mem (hp.mem_iff.2 hq)
  exact h.2 i q hi

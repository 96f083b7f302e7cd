theorem rg_l (w r : va_W) : (List.range w.length).map (fun i => (w ++ r)[i]?) = w.map some := by
  refine List.ext_getElem (by simp) (fun i h1 h2 => ?_)
  have hi : i < w.length := by simpa using h1
  simp [List.getElem?_append_left hi, List.getElem?_eq_getElem hi]

theorem rg_r (w r : va_W) : (List.range' w.length r.length).map (fun i => (w ++ r)[i]?) = r.map some := by
  refine List.ext_getElem (by simp) (fun i h1 h2 => ?_)
  have hi : i < r.length := by simpa using h1
  simp [List.getElem?_append_right, hi]

theorem rg_dis (a b : Nat) : ∀ i ∈ List.range' a b, i ∉ List.range a := by
  intro i h1 h2
  have h3 := List.mem_range.1 h2
  have h4 := (List.mem_range'_1.1 h1).1
  omega

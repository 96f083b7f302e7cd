theorem rg_nd : ∀ (b a : Nat), va_nd (List.range' a b) = true
  | 0, _ => rfl
  | b + 1, a => by
    show (decide (a ∉ List.range' (a + 1) b) && va_nd (List.range' (a + 1) b)) = true
    rw [rg_nd b (a + 1), Bool.and_true, decide_eq_true_eq]
    intro h
    have := (List.mem_range'_1.1 h).1
    omega

theorem joinP {A : Nat → Prop} {D : va_G} {wc wr w1 : va_W} {H H1 : Heap} (hP : va_P D classes (wc ++ wr) H) (hD : va_D A (wc ++ wr)) (hk : ∀ q : Nat, q < H.size → ¬ va_A wc H.size q → H1[q]? = H[q]?) (hF : ∀ q, va_A wc H.size q → A q) (hP1 : va_P D classes w1 H1) (hD1 : va_D (va_A wc H.size) w1) : va_P D classes (w1 ++ wr) H1 ∧ va_D A (w1 ++ wr) := by
  obtain ⟨h1, h2⟩ := va_join hP hD (List.range wc.length) (List.range' wc.length wr.length) (rg_l wc wr) (rg_r wc wr) (rg_nd _ _) (rg_dis _ _) hk hF hP1 hD1
  exact ⟨P_perm h1 List.perm_append_comm, D_perm h2 List.perm_append_comm⟩

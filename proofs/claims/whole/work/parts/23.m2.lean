theorem MI.lnf {τ : Sg} (h : MI τ) {j : Nat} (hj : j < 4) : f_X6_of τ j 8 = nI (MLn τ j) ∧ MLn τ j ≤ 16 := h.ln hj
theorem grow_at {τ : Sg} {j w : Nat} {v : Int32} : t_X6_grow τ j w v 1 (57 * j + w) = τ 1 (57 * j + w) + v := by simp [t_X6_grow, up]
theorem lay_at {τ : Sg} {j w : Nat} {v : Int32} : t_X6_lay τ j w v 1 (57 * j + w) = v := by simp [t_X6_lay, up]
theorem lay8 {τ : Sg} {j w : Nat} {v : Int32} (h : w ≠ 8) : t_X6_lay τ j w v 1 (57 * j + 8) = τ 1 (57 * j + 8) := up_nb (by omega)
theorem grow8 {τ : Sg} {j w : Nat} {v : Int32} (h : w ≠ 8) : t_X6_grow τ j w v 1 (57 * j + 8) = τ 1 (57 * j + 8) := up_nb (by omega)
theorem turns8 {τ : Sg} {j : Nat} {y : Int32} : t_X6_turns τ j y 1 (57 * j + 8) = τ 1 (57 * j + 8) := by
  unfold t_X6_turns
  repeat' split
  all_goals exact lay8 (by decide)
theorem nI_dec {a : Nat} (h : 1 ≤ a) : nI a + (-1) = nI (a - 1) := by
  obtain ⟨b, rfl⟩ : ∃ b, a = b + 1 := ⟨a - 1, by omega⟩
  rw [pk_m1]
  rfl
theorem mlA {τ : Sg} {j : Nat} (h : τ 1 (57 * j + 8) = 16) : f_X6_of (t_X6_grow τ j 8 (-1)) j 8 = nI (MLn (t_X6_grow τ j 8 (-1)) j) ∧ MLn (t_X6_grow τ j 8 (-1)) j ≤ 15 := by
  have e : t_X6_grow τ j 8 (-1) 1 (57 * j + 8) = nI 15 := by rw [grow_at, h]; rfl
  rw [MLn_of e (by omega)]
  exact ⟨e, by omega⟩
theorem mlB {τ : Sg} {j : Nat} (h : MI τ) (hj : j < 4) (c : ¬ f_X6_of τ j 8 = 16) : f_X6_of τ j 8 = nI (MLn τ j) ∧ MLn τ j ≤ 15 := by
  obtain ⟨h1, h2⟩ := h.lnf hj
  refine ⟨h1, ?_⟩
  rcases Nat.lt_or_ge (MLn τ j) 16 with h | h
  · omega
  · exact absurd (by rw [h1, show MLn τ j = 16 by omega]; rfl) c
theorem gm8 {τ : Sg} {j q i : Nat} (h : τ 1 (57 * j + 8) = nI (q - i)) (hi : i < q) : t_X6_grow τ j 8 (-1) 1 (57 * j + 8) = nI (q - (i + 1)) := by
  rw [grow_at, h, nI_dec (by omega)]
  rfl
theorem mlG {τ : Sg} {j q i : Nat} (h : τ 1 (57 * j + 8) = nI (q - i)) (hi : i < q) (hq : q ≤ 16) : f_X6_of (t_X6_grow τ j 8 (-1)) j 8 = nI (MLn (t_X6_grow τ j 8 (-1)) j) ∧ MLn (t_X6_grow τ j 8 (-1)) j ≤ 15 := by
  have e := gm8 h hi
  rw [MLn_of e (by omega)]
  exact ⟨e, by omega⟩

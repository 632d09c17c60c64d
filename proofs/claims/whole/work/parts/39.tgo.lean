/-- where the reading begins -/
def go0 (τ : Sg) : Sg := up (up (up τ 0 9 0) 0 10 0) 0 11 0
theorem go0_tt {τ : Sg} (h : TLI τ) : TT (up (up (up τ 0 9 0) 0 10 0) 0 11 0) := ⟨h, 0, by omega, rfl⟩
theorem ord0_ne {τ : Sg} (h : TT τ) : ¬ f_X6_isOrdered_0 τ = 0 := by rw [ord0_f h]; decide
theorem go_n {τ : Sg} {n : Nat} {x : Int32} (h : TT τ) (hn : 1 ≤ n + 1 ∧ (¬ x = 0 → 82 ≤ MA τ + (n + 1))) (c : ¬ x = 0) : 1 ≤ n := by
  have := hn.2 c
  have := h.2.of.2
  omega
theorem go_m {τ : Sg} {n : Nat} {x v : Int32} (h : TT τ) (hn : 1 ≤ n + 1 ∧ (¬ x = 0 → 82 ≤ MA τ + (n + 1))) (c : ¬ x = 0) (c2 : (t_X6_sign (up (t_X6_isOrdered_0 τ) 0 11 v) 59 59) 0 10 = 0) : 82 ≤ MA (t_X6_sign (up (t_X6_isOrdered_0 τ) 0 11 v) 59 59) + n := by
  have h1 := hn.2 c
  have h2 := ord0_tt h
  have h3 := (sgn_ma (x := 59) (y := 59) (h2.1.up11 (v := v)) (by decide)).2 c2
  have h4 : MA (up (t_X6_isOrdered_0 τ) 0 11 v) = MA (t_X6_isOrdered_0 τ) := rfl
  omega
theorem go_m1 {τ : Sg} {n : Nat} {x v : Int32} (h : TT τ) (hM : MI τ) (hB : (t_X6_isOrdered_0 τ) 0 10 = 0) (hn : 1 ≤ n + 1 ∧ (¬ x = 0 → 82 ≤ MA τ + (n + 1))) (c : ¬ x = 0) (c2 : (t_X6_sign (up (t_X6_isOrdered_1 τ) 0 11 v) 59 59) 0 10 = 0) : 82 ≤ MA (t_X6_sign (up (t_X6_isOrdered_1 τ) 0 11 v) 59 59) + n := by
  have h1 := hn.2 c
  have h2 := ord1_tt h hM hB
  have h3 := (sgn_ma (x := 59) (y := 59) (h2.1.up11 (v := v)) (by decide)).2 c2
  have h4 : MA (up (t_X6_isOrdered_1 τ) 0 11 v) = MA (t_X6_isOrdered_1 τ) := rfl
  omega

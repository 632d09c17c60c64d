theorem glead {σ τ : Sg} {B : Nat} (h : GR σ 1 (τ 1) B) : ∀ (n x i : Nat), x < 4 → gf_X5_leader σ 0 n (nI x) i = gf_X6_leader τ n x i := by
  intro n
  induction n with
  | zero => intro x i _; rfl
  | succ n ih =>
    intro x i hx
    rw [gf_X5_leader, gf_X6_leader]
    by_cases c : 4 ≤ i
    · rw [if_pos c, if_pos c]
    · rw [if_neg c, if_neg c]
      have e : ∀ j, j < 4 → σ (f_X0_snail σ (0 + 1) (nI j)) 2 = f_X6_of τ j 1 := fun j hj => by
        rw [snail_nI hj]
        exact (h.1 j hj).1.1.2.1
      rw [e i (by omega), e x hx]
      split
      · exact ih x (i + 1) hx
      · exact ih i (i + 1) (by omega)
theorem op_leader {n : Nat} {σ τ : Sg} (h : RR n σ τ) : f_X5_leader σ 0 = f_X6_leader τ ∧ RR (n + 1) σ (t_X6_leader τ) := by
  have h1 : RR n σ (up τ 0 8 0) := h.up8
  exact ⟨glead (τ := up τ 0 8 0) h1.1 4 0 1 (by omega), h1.nx⟩

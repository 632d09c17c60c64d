theorem go_00 (n : Nat) (τ : Sg) : gt_X6_go_0 n 0 τ = τ := by
  cases n with
  | zero => rfl
  | succ n => rw [gt_X6_go_0, if_pos rfl]
theorem u11_b {τ : Sg} {v : Int32} : (up τ 0 11 v) 0 10 = τ 0 10 := rfl
theorem gnx_tx {a b : Sg} (h : TxEq a b) : TxEq (up a 0 11 (a 0 11 + 1)) (up b 0 11 (b 0 11 + 1)) := by rw [h.2.2.2.2]; exact h.up11 _
theorem go_tx : ∀ (n : Nat) (x : Int32) (a b : Sg), TxEq a b → TxEq (gt_X6_go_0 n x a) (gt_X6_go_0 n x b) := by
  intro n
  induction n with
  | zero => exact fun x a b h => h
  | succ n ih =>
    intro x a b h
    have h1 := gnx_tx (ord0_tx h)
    have h2 := sign_tx h1 59 59
    rw [gt_X6_go_0, gt_X6_go_0, h1.2.2.2.1, h1.2.1, h1.2.2.1, h2.2.2.2.1]
    split
    · exact h
    · split
      · split
        · exact ih _ _ _ h1
        · split
          · exact ih _ _ _ h2
          · exact ih _ _ _ h2
      · exact ih _ _ _ h1
theorem go_b1 {τ : Sg} {n : Nat} {x : Int32} (c : ¬ x = 0) (h : (gt_X6_go_0 (n + 1) x τ) 0 10 = 0) : (t_X6_isOrdered_0 τ) 0 10 = 0 := by
  rw [gt_X6_go_0, if_neg c] at h
  split at h
  · assumption
  · rw [go_00] at h
    exact h
theorem gk1 {τ : Sg} {n : Nat} {x : Int32} (c : ¬ x = 0) (hf : ¬ f_X6_isOrdered_1 τ = 0) (h : (gt_X6_go_0 (n + 1) x τ) 0 10 = 0) : (up (t_X6_isOrdered_1 τ) 0 11 (((t_X6_isOrdered_1 τ) 0 11) + 1)) 0 10 = 0 := by
  rw [(gnx_tx (ord1_tx hf)).2.2.2.1]
  exact go_b1 c h
theorem gk2 {τ : Sg} {n : Nat} {x : Int32} (c : ¬ x = 0) (hf : ¬ f_X6_isOrdered_1 τ = 0) (h : (gt_X6_go_0 (n + 1) x τ) 0 10 = 0) (hl : ¬ (up (t_X6_isOrdered_1 τ) 0 11 (((t_X6_isOrdered_1 τ) 0 11) + 1)) 0 7 ≤ (up (t_X6_isOrdered_1 τ) 0 11 (((t_X6_isOrdered_1 τ) 0 11) + 1)) 0 9) : (t_X6_sign (up (t_X6_isOrdered_1 τ) 0 11 (((t_X6_isOrdered_1 τ) 0 11) + 1)) 59 59) 0 10 = 0 ∧ (gt_X6_go_0 n 1 (t_X6_sign (up (t_X6_isOrdered_1 τ) 0 11 (((t_X6_isOrdered_1 τ) 0 11) + 1)) 59 59)) 0 10 = 0 := by
  have hb := gk1 c hf h
  have h1 := gnx_tx (ord1_tx hf)
  have h2 := sign_tx h1 59 59
  rw [gt_X6_go_0, if_neg c, if_pos (by rw [← h1.2.2.2.1]; exact hb), if_neg (by rw [← h1.2.1, ← h1.2.2.1]; exact hl)] at h
  split at h
  · rename_i q
    refine ⟨by rw [h2.2.2.2.1]; exact q, ?_⟩
    rw [(go_tx n 1 _ _ h2).2.2.2.1]
    exact h
  · rename_i q
    rw [go_00] at h
    exact absurd h q

theorem felt0_t {τ : Sg} {x : Int32} : t_X6_isFelt_0 τ x = t_X6_sign τ 48 51 := by
  unfold t_X6_isFelt_0
  repeat' split
  all_goals rfl
theorem felt0_tt {τ : Sg} {x : Int32} (h : TT τ) : TT (t_X6_isFelt_0 τ x) := by rw [felt0_t]; exact h.sign (by decide)
theorem felt0_f {τ : Sg} {x : Int32} : f_X6_isFelt_0 τ x = 1 := by
  unfold f_X6_isFelt_0
  repeat' split
  all_goals rfl
theorem next_ok {τ : Sg} {x y : Int32} (c : ¬ f_X6_isNext τ x y = 0) : (t_X6_sign τ x y) 0 10 = 0 := by
  rw [(nxt_sgn c).1]
  simp [up]
theorem felt0_ma {τ : Sg} {x : Int32} (h : TT τ) (c : ¬ f_X6_isNext τ 48 51 = 0) : MA (t_X6_isFelt_0 τ x) = MA τ + 1 := by
  rw [felt0_t]
  exact (sgn_ma h (by decide)).2 (next_ok c)
theorem nz_X6_isFelt_1 (τ : Sg) (j : Nat) : narrow .boolean (.int (f_X6_isFelt_1 τ j)) = .int (f_X6_isFelt_1 τ j) := by
  unfold f_X6_isFelt_1
  repeat' split
  all_goals first | exact nar_z1 | exact nar_z0 | exact nz_X6_canFeel _ _ _ _
theorem felt1_fr {τ : Sg} {j : Nat} : FrT T1 (t_X6_sign τ 48 51) (t_X6_isFelt_1 τ j) := by
  unfold t_X6_isFelt_1
  repeat' split
  all_goals first | exact FrT.rf | exact feels_T1
theorem felt1_tx {τ : Sg} {j : Nat} : TxEq (t_X6_sign τ 48 51) (t_X6_isFelt_1 τ j) := TxEq.of felt1_fr
theorem felt1_mi {τ : Sg} {j : Nat} (h : MI τ) (hj : j < 4) : MI (t_X6_isFelt_1 τ j) := by
  unfold t_X6_isFelt_1
  repeat' split
  all_goals first | exact h.sign | exact h.sign.feels hj
theorem felt1_tt {τ : Sg} {j : Nat} (h : TT τ) : TT (t_X6_isFelt_1 τ j) := felt1_tx.tt (h.sign (by decide))
theorem felt1_ma {τ : Sg} {j : Nat} (h : TT τ) (c : ¬ f_X6_isNext τ 48 51 = 0) : MA (t_X6_isFelt_1 τ j) = MA τ + 1 := by
  rw [felt1_tx.ma]
  exact (sgn_ma h (by decide)).2 (next_ok c)
theorem MI.up9 {τ : Sg} {v : Int32} (h : MI τ) : MI (up τ 0 9 v) := h
theorem MI.up10 {τ : Sg} {v : Int32} (h : MI τ) : MI (up τ 0 10 v) := h
theorem MI.up11 {τ : Sg} {v : Int32} (h : MI τ) : MI (up τ 0 11 v) := h
theorem TT.up11 {τ : Sg} {v : Int32} (h : TT τ) : TT (up τ 0 11 v) := h
theorem TT.up10 {τ : Sg} {v : Int32} (h : TT τ) : TT (up τ 0 10 v) := h

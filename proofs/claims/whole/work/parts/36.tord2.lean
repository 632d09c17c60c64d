abbrev TS : Nat → Nat → Prop := fun a b => a = 0 ∧ (b = 9 ∨ b = 10)
theorem gord0_fr {y : Int32} : ∀ (n : Nat) (x : Int32) (τ τ0 : Sg), FrT TS τ0 τ → FrT TS τ0 (gt_X6_isOrdered_0 y n x τ) := by
  intro n
  induction n with
  | zero => exact fun x τ τ0 h => h
  | succ n ih =>
    intro x τ τ0 h
    rw [gt_X6_isOrdered_0]
    split
    · exact h
    · split
      · exact h
      · exact ih _ _ _ (by rw [felt0_t]; exact h.tr (sgn_fr _ _ _))
theorem ord0_fr {τ : Sg} : FrT TS τ (t_X6_isOrdered_0 τ) := by
  unfold t_X6_isOrdered_0
  repeat' split
  · exact ((sgn_fr _ _ _).tr (sgn_fr _ _ _)).tr (sgn_fr _ _ _)
  · exact (((sgn_fr _ _ _).tr (sgn_fr _ _ _)).tr (sgn_fr _ _ _)).tr (sgn_fr _ _ _)
  · exact ((sgn_fr _ _ _).tr (sgn_fr _ _ _)).tr (sgn_fr _ _ _)
  · exact frT_up (sgn_fr _ _ _) ⟨rfl, Or.inl rfl⟩
  · apply gord0_fr
    rw [felt0_t]
    exact (frT_up (sgn_fr _ _ _) ⟨rfl, Or.inl rfl⟩).tr (sgn_fr _ _ _)
theorem gord0_tt {y : Int32} : ∀ (n : Nat) (x : Int32) (τ : Sg), TT τ → TT (gt_X6_isOrdered_0 y n x τ) ∧ MA τ ≤ MA (gt_X6_isOrdered_0 y n x τ) := by
  intro n
  induction n with
  | zero => exact fun x τ h => ⟨h, Nat.le_refl _⟩
  | succ n ih =>
    intro x τ h
    rw [gt_X6_isOrdered_0]
    split
    · exact ⟨h, Nat.le_refl _⟩
    · split
      · exact ⟨h, Nat.le_refl _⟩
      · rename_i c
        have := ih (f_X6_isFelt_0 τ y) (t_X6_isFelt_0 τ y) (felt0_tt h)
        exact ⟨this.1, by have := felt0_ma (x := y) h c; omega⟩
theorem ord0_tt {τ : Sg} (h : TT τ) : TT (t_X6_isOrdered_0 τ) ∧ MA τ ≤ MA (t_X6_isOrdered_0 τ) := by
  have a1 := sgn_ma (x := 48) (y := 51) h (by decide)
  have h1 : TT (t_X6_sign τ 48 51) := h.sign (by decide)
  have a2 := sgn_ma (x := 98) (y := 98) h1 (by decide)
  have h2 : TT (t_X6_sign (t_X6_sign τ 48 51) 98 98) := h1.sign (by decide)
  have a3 := sgn_ma (x := 49) (y := 57) h2 (by decide)
  have h3 : TT (t_X6_sign (t_X6_sign (t_X6_sign τ 48 51) 98 98) 49 57) := h2.sign (by decide)
  have a4 := sgn_ma (x := 48) (y := 54) h3 (by decide)
  have h4 := h3.sign (x := 48) (y := 54) (by decide)
  unfold t_X6_isOrdered_0
  split
  · split
    · split
      · split
        · exact ⟨h3, by omega⟩
        · exact ⟨h4, by omega⟩
      · exact ⟨h3, by omega⟩
    · rename_i c
      exact ⟨h1.inc c, by have := inc_ma h1 c; omega⟩
  · rename_i c
    have b1 := h1.inc c
    have b2 := inc_ma h1 c
    have b3 := felt0_tt (x := f_X6_sign τ 48 51 - 48) b1
    have b4 := sgn_ma (x := 48) (y := 51) b1 (by decide)
    have b5 := gord0_tt (y := f_X6_sign τ 48 51 - 48) 82 (f_X6_isFelt_0 (up (t_X6_sign τ 48 51) 0 9 (((t_X6_sign τ 48 51) 0 9) + 1)) ((f_X6_sign τ 48 51) - 48)) _ b3
    refine ⟨b5.1, Nat.le_trans ?_ b5.2⟩
    rw [felt0_t]
    omega
theorem gord0_b {y : Int32} : ∀ (n : Nat) (x : Int32) (τ : Sg), (gt_X6_isOrdered_0 y n x τ) 0 10 = 0 → τ 0 10 = 0 := by
  intro n
  induction n with
  | zero => exact fun x τ h => h
  | succ n ih =>
    intro x τ h
    rw [gt_X6_isOrdered_0] at h
    split at h
    · exact h
    · split at h
      · exact h
      · have := ih _ _ h
        rw [felt0_t] at this
        exact sgn_b this
theorem ord0_b1 {τ : Sg} (h : (t_X6_isOrdered_0 τ) 0 10 = 0) : (t_X6_sign τ 48 51) 0 10 = 0 := by
  unfold t_X6_isOrdered_0 at h
  split at h
  · split at h
    · split at h
      · split at h
        · exact sgn_b (sgn_b h)
        · exact sgn_b (sgn_b (sgn_b h))
      · exact sgn_b (sgn_b h)
    · exact h
  · have := gord0_b _ _ _ h
    rw [felt0_t] at this
    have h9 := sgn_b this
    exact h9
theorem ord0_bn {τ : Sg} (h : (t_X6_isOrdered_0 τ) 0 10 = 0) (c : f_X6_isNext (t_X6_sign τ 48 51) 58 58 = 0) (c' : f_X6_isNext (t_X6_sign τ 48 51) 109 109 = 0) : (t_X6_sign (t_X6_sign (t_X6_sign τ 48 51) 98 98) 49 57) 0 10 = 0 := by
  unfold t_X6_isOrdered_0 at h
  rw [if_pos c, if_pos c'] at h
  split at h
  · split at h
    · exact h
    · exact sgn_b h
  · exact h
theorem gord0_tx {y : Int32} : ∀ (n : Nat) (x y' : Int32) (a b : Sg), TxEq a b → TxEq (gt_X6_isOrdered_0 y n x a) (gt_X6_isOrdered_0 y' n x b) := by
  intro n
  induction n with
  | zero => exact fun x _ a b h => h
  | succ n ih =>
    intro x y' a b h
    rw [gt_X6_isOrdered_0, gt_X6_isOrdered_0, next_f h]
    split
    · exact h
    · split
      · exact h
      · rw [felt0_f, felt0_f, felt0_t, felt0_t]
        exact ih _ _ _ _ (sign_tx h _ _)
theorem inc_tx {a b : Sg} (h : TxEq a b) : TxEq (up a 0 9 (a 0 9 + 1)) (up b 0 9 (b 0 9 + 1)) := by rw [h.2.2.1]; exact h.up9 _
theorem ord0_tx {a b : Sg} (h : TxEq a b) : TxEq (t_X6_isOrdered_0 a) (t_X6_isOrdered_0 b) := by
  have h1 := sign_tx h 48 51
  have h2 := sign_tx h1 98 98
  have h3 := sign_tx h2 49 57
  have h4 := sign_tx h3 48 54
  unfold t_X6_isOrdered_0
  rw [next_f h1, next_f h1, next_f h3, sign_f h2, felt0_f, felt0_f, felt0_t, felt0_t]
  split
  · split
    · split
      · split
        · exact h3
        · exact h4
      · exact h3
    · exact inc_tx h1
  · exact gord0_tx _ _ _ _ _ (sign_tx (inc_tx h1) _ _)
theorem gord0_f {y : Int32} : ∀ (n : Nat) (x : Int32) (τ : Sg), x = 1 → TT τ → 82 ≤ MA τ + n → gf_X6_isOrdered_0 y n x τ = 1 := by
  intro n
  induction n with
  | zero => exact fun x τ h ht hn => absurd ht.2.of.2 (by omega)
  | succ n ih =>
    intro x τ h ht hn
    rw [gf_X6_isOrdered_0]
    split
    · exact h
    · split
      · exact h
      · rename_i c
        exact ih _ _ felt0_f (felt0_tt ht) (by rw [felt0_ma ht c]; omega)
theorem ord0_f {τ : Sg} (h : TT τ) : f_X6_isOrdered_0 τ = 1 := by
  unfold f_X6_isOrdered_0
  split
  · repeat' split
    all_goals rfl
  · rename_i c
    exact gord0_f _ _ _ felt0_f (felt0_tt ((h.sign (by decide)).inc c)) (by omega)
/-- a number to go back by -/
def NB (c : Int32) : Nat := (c - 48).toNatClampNeg
theorem nb_of {τ : Sg} (h : (t_X6_sign τ 49 57) 0 10 = 0) : f_X6_sign τ 49 57 - 48 = nI (NB (f_X6_sign τ 49 57)) ∧ 1 ≤ NB (f_X6_sign τ 49 57) ∧ NB (f_X6_sign τ 49 57) ≤ 9 := by
  obtain ⟨-, -, -, -, h5, h6⟩ := sgn_ok (by decide) h
  exact dig_of (a := 1) (b := 9) h5 h6 (by omega) (by omega)
theorem nt_of {τ : Sg} (c : ¬ f_X6_isNext τ 48 54 = 0) : (10 : Int32) + f_X6_sign τ 48 54 - 48 = nI (10 + NB (f_X6_sign τ 48 54)) ∧ NB (f_X6_sign τ 48 54) ≤ 6 := by
  obtain ⟨-, -, -, -, h5, h6⟩ := sgn_ok (by decide) (next_ok c)
  obtain ⟨e, -, b⟩ := dig_of (a := 0) (b := 6) h5 h6 (by omega) (by omega)
  refine ⟨?_, b⟩
  have : (10 : Int32) + f_X6_sign τ 48 54 - 48 = 10 + (f_X6_sign τ 48 54 - 48) := by
    rw [Int32.sub_eq_add_neg, Int32.sub_eq_add_neg, Int32.add_assoc]
  rw [this, e, show (10 : Int32) = nI 10 from rfl, nI_add]
  rfl
theorem gcg_01 {τ : Sg} {j L : Nat} : ∀ (n : Nat) (x y : Int32) (i : Nat), gf_X6_canGoBack τ j L n x y i = 0 ∨ gf_X6_canGoBack τ j L n x y i = 1 := by
  intro n
  induction n with
  | zero => exact fun x y i => Or.inl rfl
  | succ n ih =>
    intro x y i
    rw [gf_X6_canGoBack]
    repeat' split
    all_goals first | exact Or.inl rfl | exact Or.inr rfl | exact ih _ _ _
theorem cgb_01 (τ : Sg) (j f : Nat) : f_X6_canGoBack τ j f = 0 ∨ f_X6_canGoBack τ j f = 1 := by
  unfold f_X6_canGoBack
  split
  · exact gcg_01 _ _ _ _
  · exact Or.inl rfl
theorem nz_X6_canGoBack (τ : Sg) (j f : Nat) : narrow .boolean (.int (f_X6_canGoBack τ j f)) = .int (f_X6_canGoBack τ j f) := by
  rcases cgb_01 τ j f with h | h
  · rw [h]; exact nar_z0
  · rw [h]; exact nar_z1

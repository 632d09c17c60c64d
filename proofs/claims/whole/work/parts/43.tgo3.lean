theorem go0_tx {a b : Sg} (h5 : b 5 = a 5) (h7 : b 0 7 = a 0 7) : TxEq (t_X6_go_0 a) (t_X6_go_0 b) := by
  unfold t_X6_go_0
  refine go_tx _ _ _ _ ⟨?_, ?_, ?_, ?_, ?_⟩
  · funext i; simp [up, h5]
  · simp [up, h7]
  · simp [up]
  · simp [up]
  · simp [up]
abbrev T3 : Nat → Nat → Prop := fun a b => a = 0 ∧ (b = 9 ∨ b = 10 ∨ b = 11)
abbrev T4 : Nat → Nat → Prop := fun a b => a = 1 ∨ (a = 0 ∧ (b = 9 ∨ b = 10 ∨ b = 11))
theorem ts_3 {τ τ' : Sg} (h : FrT TS τ τ') : FrT T3 τ τ' := h.mono fun a b h => ⟨h.1, by rcases h.2 with q | q <;> omega⟩
theorem ggo0_fr : ∀ (n : Nat) (x : Int32) (τ τ0 : Sg), FrT T3 τ0 τ → FrT T3 τ0 (gt_X6_go_0 n x τ) := by
  intro n
  induction n with
  | zero => exact fun x τ τ0 h => h
  | succ n ih =>
    intro x τ τ0 h
    have h1 : FrT T3 τ0 (up (t_X6_isOrdered_0 τ) 0 11 (((t_X6_isOrdered_0 τ) 0 11) + 1)) := frT_up (h.tr (ts_3 ord0_fr)) ⟨rfl, by omega⟩
    have h2 : FrT T3 τ0 (t_X6_sign (up (t_X6_isOrdered_0 τ) 0 11 (((t_X6_isOrdered_0 τ) 0 11) + 1)) 59 59) := h1.tr (ts_3 (sgn_fr _ _ _))
    rw [gt_X6_go_0]
    split
    · exact h
    · split
      · split
        · exact ih _ _ _ h1
        · split
          · exact ih _ _ _ h2
          · exact ih _ _ _ h2
      · exact ih _ _ _ h1
theorem go0_fr {τ : Sg} : FrT T3 τ (t_X6_go_0 τ) := ggo0_fr _ _ _ _ (frT_up (frT_up (frT_up FrT.rf ⟨rfl, by omega⟩) ⟨rfl, by omega⟩) ⟨rfl, by omega⟩)
theorem t2_4 {τ τ' : Sg} (h : FrT T2 τ τ') : FrT T4 τ τ' := h.mono fun a b h => by rcases h with q | q; exact Or.inl q; exact Or.inr ⟨q.1, by rcases q.2 with q | q <;> omega⟩
theorem t3_4 {τ τ' : Sg} (h : FrT T3 τ τ') : FrT T4 τ τ' := h.mono fun a b h => Or.inr h
theorem ggo1_fr : ∀ (n : Nat) (x : Int32) (τ τ0 : Sg), FrT T4 τ0 τ → FrT T4 τ0 (gt_X6_go_1 n x τ) := by
  intro n
  induction n with
  | zero => exact fun x τ τ0 h => h
  | succ n ih =>
    intro x τ τ0 h
    have h0 : FrT T4 τ0 (t_X6_isOrdered_1 τ) := h.tr (t2_4 ord1_fr)
    have h1 : FrT T4 τ0 (up (t_X6_isOrdered_1 τ) 0 11 (((t_X6_isOrdered_1 τ) 0 11) + 1)) := frT_up h0 (Or.inr ⟨rfl, by omega⟩)
    have h2 : FrT T4 τ0 (t_X6_sign (up (t_X6_isOrdered_1 τ) 0 11 (((t_X6_isOrdered_1 τ) 0 11) + 1)) 59 59) := h1.tr (t3_4 (ts_3 (sgn_fr _ _ _)))
    rw [gt_X6_go_1]
    split
    · exact h
    · split
      · exact h0
      · split
        · exact ih _ _ _ h1
        · exact ih _ _ _ h2
theorem go1_fr {τ : Sg} : FrT T4 τ (t_X6_go_1 τ) := ggo1_fr _ _ _ _ (t3_4 (frT_up (frT_up (frT_up FrT.rf ⟨rfl, by omega⟩) ⟨rfl, by omega⟩) ⟨rfl, by omega⟩))
theorem ggo1_01 : ∀ (n : Nat) (x : Int32) (τ : Sg), gf_X6_go_1 n x τ = 0 ∨ gf_X6_go_1 n x τ = 1 := by
  intro n
  induction n with
  | zero => exact fun x τ => Or.inl rfl
  | succ n ih =>
    intro x τ
    rw [gf_X6_go_1]
    split
    · exact Or.inr rfl
    · split
      · exact Or.inl rfl
      · split
        · exact ih _ _
        · exact ih _ _
theorem go1_01 (τ : Sg) : f_X6_go_1 τ = 0 ∨ f_X6_go_1 τ = 1 := ggo1_01 _ _ _
theorem nz_X6_go_1 (τ : Sg) : narrow .boolean (.int (f_X6_go_1 τ)) = .int (f_X6_go_1 τ) := by
  rcases go1_01 τ with h | h
  · rw [h]; exact nar_z0
  · rw [h]; exact nar_z1
theorem go0_again {τ : Sg} : TxEq (t_X6_go_0 τ) (t_X6_go_0 (t_X6_go_0 τ)) :=
  go0_tx (funext fun b => go0_fr 5 b (by omega)) (go0_fr 0 7 (by omega))
theorem MI.go0 {τ : Sg} (h : MI τ) : MI (t_X6_go_0 τ) := h.fr go0_fr (fun b q => by cases q.1) (by omega)
theorem TLI.go0 {τ : Sg} (h : TLI τ) : TLI (t_X6_go_0 τ) := h.fr go0_fr (by omega)
theorem go0_4 {τ : Sg} {i : Nat} {v : Int32} (h : (t_X6_go_0 τ) 0 10 = 0) : (t_X6_go_0 (up τ 4 i v)) 0 10 = 0 := by
  rw [(go0_tx (a := τ) (b := up τ 4 i v) (funext fun b => by simp [up]) (by simp [up])).2.2.2.1]
  exact h
theorem MI.up4 {τ : Sg} {i : Nat} {v : Int32} (h : MI τ) : MI (up τ 4 i v) := h.fr (P := fun a _ => a = 4) (frT_up FrT.rf rfl) (fun b q => by cases q) (by omega)
theorem TLI.up4 {τ : Sg} {i : Nat} {v : Int32} (h : TLI τ) : TLI (up τ 4 i v) := h.fr (P := fun a _ => a = 4) (frT_up FrT.rf rfl) (by omega)

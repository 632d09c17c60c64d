theorem p35_t {x : Int32} : ∀ (n i : Nat) (τ : Sg), i ≤ 230 → 231 ≤ i + n → FrT (fun a _ => a = 1) τ (gt_X6_isPossible_35 x n i τ) ∧ ∀ b, b < 230 → (gt_X6_isPossible_35 x n i τ) 1 b = if i ≤ b then τ 4 b else τ 1 b := by
  intro n
  induction n with
  | zero => exact fun i τ h1 h2 => absurd h2 (by omega)
  | succ n ih =>
    intro i τ h1 h2
    rw [gt_X6_isPossible_35]
    split
    · exact ⟨FrT.rf, fun b hb => by rw [if_neg (by omega)]⟩
    · obtain ⟨a1, a2⟩ := ih (i + 1) (up τ 1 i (τ 4 i)) (by omega) (by omega)
      refine ⟨(frT_up (P := fun a _ => a = 1) FrT.rf rfl).tr a1, fun b hb => ?_⟩
      rw [a2 b hb]
      by_cases c : b = i
      · subst c
        rw [if_neg (by omega), if_pos (Nat.le_refl _), up_eq]
      · by_cases c2 : i + 1 ≤ b
        · rw [if_pos c2, if_pos (by omega)]
          simp [up]
        · rw [if_neg c2, if_neg (by omega), up_nb c]
theorem p35_f {x : Int32} : ∀ (n i : Nat) (τ : Sg), i ≤ 230 → 231 ≤ i + n → gf_X6_isPossible_35 x n i τ = x := by
  intro n
  induction n with
  | zero => exact fun i τ h1 h2 => absurd h2 (by omega)
  | succ n ih =>
    intro i τ h1 h2
    rw [gf_X6_isPossible_35]
    split
    · rfl
    · exact ih _ _ (by omega) (by omega)
theorem p2_t : ∀ (n i : Nat) (τ : Sg), i ≤ 230 → 231 ≤ i + n → ∃ τ' : Sg, FrT (fun a _ => a = 4) τ τ' ∧ (∀ b, b < 230 → τ' 4 b = if i ≤ b then τ 1 b else τ 4 b) ∧ gt_X6_isPossible_2 n i τ = gt_X6_isPossible_35 (f_X6_go_1 τ') 231 0 (t_X6_go_1 τ') ∧ gf_X6_isPossible_2 n i τ = gf_X6_isPossible_35 (f_X6_go_1 τ') 231 0 (t_X6_go_1 τ') := by
  intro n
  induction n with
  | zero => exact fun i τ h1 h2 => absurd h2 (by omega)
  | succ n ih =>
    intro i τ h1 h2
    rw [gt_X6_isPossible_2, gf_X6_isPossible_2]
    by_cases c0 : 230 ≤ i
    · rw [if_pos c0, if_pos c0]
      exact ⟨τ, FrT.rf, fun b hb => by rw [if_neg (by omega)], rfl, rfl⟩
    · rw [if_neg c0, if_neg c0]
      obtain ⟨τ', a1, a2, a3, a4⟩ := ih (i + 1) (up τ 4 i (τ 1 i)) (by omega) (by omega)
      refine ⟨τ', (frT_up (P := fun a _ => a = 4) FrT.rf rfl).tr a1, fun b hb => ?_, a3, a4⟩
      rw [a2 b hb]
      by_cases c : b = i
      · subst c
        rw [if_neg (by omega), if_pos (Nat.le_refl _), up_eq]
      · by_cases c2 : i + 1 ≤ b
        · rw [if_pos c2, if_pos (by omega)]
          simp [up]
        · rw [if_neg c2, if_neg (by omega), up_nb c]
/-- on trial: a look-alike is gone through; the snails' table comes back -/
theorem poss_of {τ : Sg} : ∃ τ' : Sg, FrT (fun a _ => a = 4) τ τ' ∧ f_X6_isPossible τ = f_X6_go_1 τ' ∧ (∀ b, b < 230 → (t_X6_isPossible τ) 1 b = τ 1 b) ∧ FrT (fun a _ => a = 1) (t_X6_go_1 τ') (t_X6_isPossible τ) := by
  obtain ⟨τ', a1, a2, a3, a4⟩ := p2_t 231 0 τ (by omega) (by omega)
  obtain ⟨b1, b2⟩ := p35_t (x := f_X6_go_1 τ') 231 0 (t_X6_go_1 τ') (by omega) (by omega)
  refine ⟨τ', a1, ?_, ?_, ?_⟩
  · show gf_X6_isPossible_2 231 0 τ = _
    rw [a4, p35_f _ _ _ (by omega) (by omega)]
  · intro b hb
    show gt_X6_isPossible_2 231 0 τ 1 b = _
    rw [a3, b2 b hb, if_pos (Nat.zero_le _), go1_fr 4 b (by omega), a2 b hb, if_pos (Nat.zero_le _)]
  · show FrT _ _ (gt_X6_isPossible_2 231 0 τ)
    rw [a3]
    exact b1
theorem poss_fr {τ : Sg} {a b : Nat} (h : ¬ T4 a b) (h4 : a ≠ 4) : (t_X6_isPossible τ) a b = τ a b := by
  obtain ⟨τ', a1, -, -, a4⟩ := poss_of (τ := τ)
  rw [a4 a b (fun q => h (Or.inl q)), go1_fr a b h, a1 a b h4]
theorem MI.poss {τ : Sg} (h : MI τ) : MI (t_X6_isPossible τ) := by
  obtain ⟨τ', -, -, h1, -⟩ := poss_of (τ := τ)
  obtain ⟨a, b, c⟩ := h
  refine ⟨fun j hj => ?_, ?_, ?_⟩
  · rw [h1 _ (by omega)]; exact a j hj
  · rw [h1 _ (by omega)]; exact b
  · rw [poss_fr (by omega) (by omega)]; exact c
theorem poss_t0 {τ : Sg} {b : Nat} (h : ¬ (b = 9 ∨ b = 10 ∨ b = 11)) : (t_X6_isPossible τ) 0 b = τ 0 b := poss_fr (by omega) (by omega)
theorem poss_5 {τ : Sg} : (t_X6_isPossible τ) 5 = τ 5 := funext fun b => poss_fr (by omega) (by omega)
theorem TLI.poss {τ : Sg} (h : TLI τ) : TLI (t_X6_isPossible τ) := by
  obtain ⟨L, hL, e⟩ := h
  exact ⟨L, hL, by rw [poss_t0 (by omega)]; exact e⟩
theorem grec51_o {q : Nat} : ∀ (n i : Nat) (τ : Sg), FrT (fun a b => a = 2 ∨ (a = 0 ∧ b = 2)) τ (gt_X6_record_51 q n i τ) := by
  intro n
  induction n with
  | zero => exact fun i τ => FrT.rf
  | succ n ih =>
    intro i τ
    rw [gt_X6_record_51]
    split
    · exact frT_up FrT.rf (Or.inr ⟨rfl, rfl⟩)
    · exact (frT_up FrT.rf (Or.inl rfl)).tr (ih _ _)
theorem grec10_o : ∀ (n i : Nat) (τ : Sg), FrT (fun a b => a = 2 ∨ (a = 0 ∧ b = 2)) τ (gt_X6_record_10 n i τ) := by
  intro n
  induction n with
  | zero => exact fun i τ => FrT.rf
  | succ n ih =>
    intro i τ
    rw [gt_X6_record_10]
    split
    · exact (frT_up FrT.rf (Or.inr ⟨rfl, rfl⟩)).tr (grec51_o _ _ _)
    · exact (frT_up FrT.rf (Or.inl rfl)).tr (ih _ _)
theorem rec_fr {τ : Sg} : FrT (fun a b => a = 2 ∨ (a = 0 ∧ b = 2)) τ (t_X6_record τ) := by
  unfold t_X6_record
  split
  · exact grec10_o _ _ _
  · exact grec51_o _ _ _
theorem TLI.rec {τ : Sg} (h : TLI τ) : TLI (t_X6_record τ) := h.fr rec_fr (by omega)
/-- what 'carryOut' needs along its way -/
theorem co_b {τ : Sg} (h : (t_X6_go_0 τ) 0 10 = 0) : (t_X6_go_0 (t_X6_record (t_X6_isPossible (t_X6_go_0 τ)))) 0 10 = 0 := by
  have : TxEq (t_X6_go_0 τ) (t_X6_go_0 (t_X6_record (t_X6_isPossible (t_X6_go_0 τ)))) := by
    refine go0_tx (funext fun b => ?_) ?_
    · rw [rec_fr 5 b (by omega), poss_5, go0_fr 5 b (by omega)]
    · rw [rec_fr 0 7 (by omega), poss_t0 (by omega), go0_fr 0 7 (by omega)]
  rw [this.2.2.2.1]
  exact h
theorem po_b {τ : Sg} (h : (t_X6_go_0 τ) 0 10 = 0) : (t_X6_go_0 (t_X6_go_0 τ)) 0 10 = 0 := by
  rw [go0_again.2.2.2.1]
  exact h

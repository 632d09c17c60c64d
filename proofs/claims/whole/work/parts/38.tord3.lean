abbrev T2 : Nat → Nat → Prop := fun a b => a = 1 ∨ (a = 0 ∧ (b = 9 ∨ b = 10))
theorem FrT.mono {P Q : Nat → Nat → Prop} {τ τ' : Sg} (h : FrT P τ τ') (hpq : ∀ a b, P a b → Q a b) : FrT Q τ τ' := fun a b hn => h a b (fun hp => hn (hpq a b hp))
theorem t1_2 {τ τ' : Sg} (h : FrT T1 τ τ') : FrT T2 τ τ' := h.mono fun _ _ h => Or.inl h
theorem ts_2 {τ τ' : Sg} (h : FrT TS τ τ') : FrT T2 τ τ' := h.mono fun _ _ h => Or.inr h
theorem felt1_fr2 {τ : Sg} {j : Nat} : FrT T2 τ (t_X6_isFelt_1 τ j) := (ts_2 (sgn_fr _ _ _)).tr (t1_2 felt1_fr)
theorem gord1_fr {j : Nat} : ∀ (n : Nat) (x : Int32) (τ τ0 : Sg), FrT T2 τ0 τ → FrT T2 τ0 (gt_X6_isOrdered_1 j n x τ) := by
  intro n
  induction n with
  | zero => exact fun x τ τ0 h => h
  | succ n ih =>
    intro x τ τ0 h
    rw [gt_X6_isOrdered_1]
    split
    · exact h
    · split
      · exact h
      · exact ih _ _ _ (h.tr felt1_fr2)
theorem ord1_fr {τ : Sg} : FrT T2 τ (t_X6_isOrdered_1 τ) := by
  have s3 : FrT T2 τ (t_X6_sign (t_X6_sign (t_X6_sign τ 48 51) 98 98) 49 57) := ts_2 (((sgn_fr _ _ _).tr (sgn_fr _ _ _)).tr (sgn_fr _ _ _))
  have s4 : FrT T2 τ (t_X6_sign (t_X6_sign (t_X6_sign (t_X6_sign τ 48 51) 98 98) 49 57) 48 54) := s3.tr (ts_2 (sgn_fr _ _ _))
  have s1 : FrT T2 τ (up (t_X6_sign τ 48 51) 0 9 (((t_X6_sign τ 48 51) 0 9) + 1)) := ts_2 (frT_up (sgn_fr _ _ _) ⟨rfl, Or.inl rfl⟩)
  unfold t_X6_isOrdered_1
  split
  · split
    · split
      · split
        · split
          · exact s3
          · exact s3.tr (t1_2 goesBack_T1)
        · split
          · exact s4
          · exact s4.tr (t1_2 goesBack_T1)
      · split
        · exact s3
        · exact s3.tr (t1_2 goesBack_T1)
    · exact s1.tr (t1_2 meets_T1)
  · exact gord1_fr _ _ _ _ (s1.tr felt1_fr2)
theorem gord1_tt {j : Nat} : ∀ (n : Nat) (x : Int32) (τ : Sg), TT τ → MI τ → j < 4 → TT (gt_X6_isOrdered_1 j n x τ) ∧ MI (gt_X6_isOrdered_1 j n x τ) ∧ MA τ ≤ MA (gt_X6_isOrdered_1 j n x τ) := by
  intro n
  induction n with
  | zero => exact fun x τ h hm _ => ⟨h, hm, Nat.le_refl _⟩
  | succ n ih =>
    intro x τ h hm hj
    rw [gt_X6_isOrdered_1]
    split
    · exact ⟨h, hm, Nat.le_refl _⟩
    · split
      · exact ⟨h, hm, Nat.le_refl _⟩
      · rename_i c
        have := ih (f_X6_isFelt_1 τ j) (t_X6_isFelt_1 τ j) (felt1_tt h) (felt1_mi hm hj) hj
        exact ⟨this.1, this.2.1, by have := felt1_ma (j := j) h c; omega⟩
theorem ord1_tt {τ : Sg} (h : TT τ) (hM : MI τ) (hB : (t_X6_isOrdered_0 τ) 0 10 = 0) : TT (t_X6_isOrdered_1 τ) ∧ MI (t_X6_isOrdered_1 τ) ∧ MA τ ≤ MA (t_X6_isOrdered_1 τ) := by
  have hj9 := sj_of (ord0_b1 hB)
  have a1 := sgn_ma (x := 48) (y := 51) h (by decide)
  have h1 : TT (t_X6_sign τ 48 51) := h.sign (by decide)
  have a2 := sgn_ma (x := 98) (y := 98) h1 (by decide)
  have h2 : TT (t_X6_sign (t_X6_sign τ 48 51) 98 98) := h1.sign (by decide)
  have a3 := sgn_ma (x := 49) (y := 57) h2 (by decide)
  have h3 : TT (t_X6_sign (t_X6_sign (t_X6_sign τ 48 51) 98 98) 49 57) := h2.sign (by decide)
  have a4 := sgn_ma (x := 48) (y := 54) h3 (by decide)
  have h4 : TT (t_X6_sign (t_X6_sign (t_X6_sign (t_X6_sign τ 48 51) 98 98) 49 57) 48 54) := h3.sign (x := 48) (y := 54) (by decide)
  have gb : ∀ {t : Sg} {f : Nat}, TT t → MI t → MA τ ≤ MA t → ¬ f_X6_canGoBack t (SJ τ) f = 0 → TT (t_X6_goesBack t (SJ τ) f) ∧ MI (t_X6_goesBack t (SJ τ) f) ∧ MA τ ≤ MA (t_X6_goesBack t (SJ τ) f) := fun ht hm hl c =>
    ⟨(TxEq.of goesBack_T1).tt ht, hm.goesBack hj9.2 (gb_le' c), by rw [(TxEq.of goesBack_T1).ma]; exact hl⟩
  unfold t_X6_isOrdered_1
  split
  · split
    · split
      · split
        · split
          · exact ⟨h3, hM.sign.sign.sign, by omega⟩
          · rename_i c; exact gb h3 hM.sign.sign.sign (by omega) c
        · split
          · exact ⟨h4, hM.sign.sign.sign.sign, by omega⟩
          · rename_i c; exact gb h4 hM.sign.sign.sign.sign (by omega) c
      · split
        · exact ⟨h3, hM.sign.sign.sign, by omega⟩
        · rename_i c; exact gb h3 hM.sign.sign.sign (by omega) c
    · rename_i c
      have := inc_ma h1 c
      exact ⟨(TxEq.of meets_T1).tt (h1.inc c), hM.sign.up9.meets hj9.2, by rw [(TxEq.of meets_T1).ma]; omega⟩
  · rename_i c
    have b1 := h1.inc c
    have b2 := inc_ma h1 c
    have b4 := sgn_ma (x := 48) (y := 51) b1 (by decide)
    have b5 := gord1_tt (j := SJ τ) 82 (f_X6_isFelt_1 (up (t_X6_sign τ 48 51) 0 9 (((t_X6_sign τ 48 51) 0 9) + 1)) (SJ τ)) _ (felt1_tt b1) (felt1_mi hM.sign.up9 hj9.2) hj9.2
    refine ⟨b5.1, b5.2.1, Nat.le_trans ?_ b5.2.2⟩
    rw [felt1_tx.ma]
    omega
theorem gord1_tx {j : Nat} {y : Int32} : ∀ (n : Nat) (x x' : Int32) (a b : Sg), x = 1 → ¬ gf_X6_isOrdered_1 j n x' b = 0 → TxEq a b → TxEq (gt_X6_isOrdered_0 y n x a) (gt_X6_isOrdered_1 j n x' b) := by
  intro n
  induction n with
  | zero => exact fun x x' a b _ _ h => h
  | succ n ih =>
    intro x x' a b h1 hf h
    rw [gf_X6_isOrdered_1] at hf
    rw [gt_X6_isOrdered_0, gt_X6_isOrdered_1, next_f h, if_neg (show ¬ x = 0 by rw [h1]; decide)]
    by_cases c : x' = 0
    · rw [if_pos c] at hf
      exact absurd c hf
    · rw [if_neg c] at hf ⊢
      rw [next_f h] at hf
      by_cases c2 : f_X6_isNext a 48 51 = 0
      · rw [if_pos c2, if_pos c2]
        exact h
      · rw [if_neg c2] at hf
        rw [if_neg c2, if_neg c2]
        refine ih _ _ _ _ felt0_f hf ?_
        rw [felt0_t]
        exact (sign_tx h _ _).tr felt1_tx
theorem ord1_tx {τ : Sg} (hf : ¬ f_X6_isOrdered_1 τ = 0) : TxEq (t_X6_isOrdered_0 τ) (t_X6_isOrdered_1 τ) := by
  unfold f_X6_isOrdered_1 at hf
  unfold t_X6_isOrdered_0 t_X6_isOrdered_1
  by_cases c1 : f_X6_isNext (t_X6_sign τ 48 51) 58 58 = 0
  · rw [if_pos c1, if_pos c1]
    by_cases c2 : f_X6_isNext (t_X6_sign τ 48 51) 109 109 = 0
    · rw [if_pos c2, if_pos c2]
      split
      · split
        · split
          · exact TxEq.rf
          · exact TxEq.of goesBack_T1
        · split
          · exact TxEq.rf
          · exact TxEq.of goesBack_T1
      · split
        · exact TxEq.rf
        · exact TxEq.of goesBack_T1
    · rw [if_neg c2, if_neg c2]
      exact TxEq.of meets_T1
  · rw [if_neg c1] at hf
    rw [if_neg c1, if_neg c1]
    refine gord1_tx _ _ _ _ _ felt0_f hf ?_
    rw [felt0_t]
    exact felt1_tx
theorem gord1_01 {j : Nat} : ∀ (n : Nat) (x : Int32) (τ : Sg), (x = 0 ∨ x = 1) → gf_X6_isOrdered_1 j n x τ = 0 ∨ gf_X6_isOrdered_1 j n x τ = 1 := by
  intro n
  induction n with
  | zero => exact fun x τ _ => Or.inl rfl
  | succ n ih =>
    intro x τ h
    rw [gf_X6_isOrdered_1]
    split
    · exact h
    · split
      · exact h
      · refine ih _ _ ?_
        unfold f_X6_isFelt_1 f_X6_canFeel
        repeat' split
        all_goals first | exact Or.inl rfl | exact Or.inr rfl

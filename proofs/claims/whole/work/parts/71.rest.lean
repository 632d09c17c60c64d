theorem grest : ∀ (n i : Nat) (τ : Sg), i ≤ 230 → 231 ≤ i + n → FrT T1 τ (gt_X6_restoreSnapshot n i τ) ∧ (∀ b, b < 230 → (gt_X6_restoreSnapshot n i τ) 1 b = if i ≤ b then τ 3 b else τ 1 b) ∧ gf_X6_restoreSnapshot n i τ = f_X6_sum (gt_X6_restoreSnapshot n i τ) := by
  intro n
  induction n with
  | zero => exact fun i τ h1 h2 => absurd h2 (by omega)
  | succ n ih =>
    intro i τ h1 h2
    rw [gt_X6_restoreSnapshot, gf_X6_restoreSnapshot]
    by_cases c : 230 ≤ i
    · rw [if_pos c, if_pos c]
      exact ⟨FrT.rf, fun b hb => by rw [if_neg (by omega)], rfl⟩
    · rw [if_neg c, if_neg c]
      obtain ⟨a1, a2, a3⟩ := ih (i + 1) (up τ 1 i (τ 3 i)) (by omega) (by omega)
      refine ⟨(frT_up (P := T1) FrT.rf rfl).tr a1, fun b hb => ?_, a3⟩
      rw [a2 b hb]
      by_cases e : b = i
      · subst e
        rw [if_neg (by omega), if_pos (Nat.le_refl _), up_eq]
      · by_cases e2 : i + 1 ≤ b
        · rw [if_pos e2, if_pos (by omega), up_ne (by decide)]
        · rw [if_neg e2, if_neg (by omega), up_nb e]
theorem op_restoreSnapshot {n : Nat} {σ τ : Sg} (h : RR n σ τ) : Ans n (x_X5_restoreSnapshot σ 0) (hk1 (x_X5_restoreSnapshot σ 0)) (f_X5_restoreSnapshot σ 0) (f_X6_restoreSnapshot τ) (s_X5_restoreSnapshot σ 0) (t_X6_restoreSnapshot τ) := by
  have h1 : RR n σ (up τ 0 8 0) := h.up8
  have h2 := rr_keep h1
  unfold x_X5_restoreSnapshot f_X5_restoreSnapshot s_X5_restoreSnapshot f_X6_restoreSnapshot t_X6_restoreSnapshot
  have e4 : σ 0 5 = (up τ 0 8 0) 0 4 := h1.2.2.1.1
  by_cases c : σ 0 5 = 0
  · rw [if_pos c, if_pos c, if_pos c, if_pos (e4.symm.trans c), if_pos (e4.symm.trans c)]
    exact Ans.thr h1 (by decide) rfl
  · have c' : ¬ (up τ 0 8 0) 0 4 = 0 := fun q => c (e4.trans q)
    rw [if_neg c, if_neg c, if_neg c, if_neg c', if_neg c']
    obtain ⟨u1, u2, u3⟩ := grest 231 0 (t_X6_record (up τ 0 8 0)) (by omega) (by omega)
    have e5 : s_X3_keep σ 40 1 0 = σ 0 := (keep_rc h1.2.1 h1.1).2 0 (by omega)
    have hsn := h2.2.2.1.2.2 (by rw [e5]; exact c)
    obtain ⟨p1, p2⟩ := cp0 (σ := s_X3_keep σ 40 1) (d := 1) (s := 27) (by omega)
    have hnow : GR (s_X0_copyFrom (s_X3_keep σ 40 1) 1 27) 1 ((gt_X6_restoreSnapshot 231 0 (t_X6_record (up τ 0 8 0))) 1) (100000 * n) := (p1 _ _ hsn).cg (fun _ _ _ => rfl) (fun a ha => by rw [u2 a ha, if_pos (Nat.zero_le _)]) (Nat.le_refl _)
    refine ⟨?_, fun _ => ?_, h2.mv hnow (by omega) (fun q hq => p2 q (by omega)) (LGA_copy0 h2.2.2.2.2.1 rfl rfl) (u1.mono fun a b hp => Or.inl hp)⟩
    · rw [u1 0 8 (by decide), rec_8, up_eq]
      rfl
    · rw [u3]
      exact sum_gr hnow

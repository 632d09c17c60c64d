theorem gundo {q : Nat} : ∀ (n i : Nat) (τ : Sg), i ≤ 230 → 231 ≤ i + n → FrT T1 τ (gt_X6_undo q n i τ) ∧ (∀ b, b < 230 → (gt_X6_undo q n i τ) 1 b = if i ≤ b then τ 2 (230 * q + b) else τ 1 b) ∧ gf_X6_undo q n i τ = τ 0 2 := by
  intro n
  induction n with
  | zero => exact fun i τ h1 h2 => absurd h2 (by omega)
  | succ n ih =>
    intro i τ h1 h2
    rw [gt_X6_undo, gf_X6_undo]
    by_cases c : 230 ≤ i
    · rw [if_pos c, if_pos c]
      exact ⟨FrT.rf, fun b hb => by rw [if_neg (by omega)], rfl⟩
    · rw [if_neg c, if_neg c]
      obtain ⟨a1, a2, a3⟩ := ih (i + 1) (up τ 1 i (τ 2 (230 * q + i))) (by omega) (by omega)
      refine ⟨(frT_up (P := T1) FrT.rf rfl).tr a1, fun b hb => ?_, ?_⟩
      · rw [a2 b hb]
        by_cases e : b = i
        · subst e
          rw [if_neg (by omega), if_pos (Nat.le_refl _), up_eq]
        · by_cases e2 : i + 1 ≤ b
          · rw [if_pos e2, if_pos (by omega), up_ne (by decide)]
          · rw [if_neg e2, if_neg (by omega), up_nb e]
      · rw [a3, up_ne (by decide)]
theorem op_undo {n : Nat} {σ τ : Sg} (h : RR n σ τ) : Ans n (x_X5_undo σ 0) (hk1 (x_X5_undo σ 0)) (f_X5_undo σ 0) (f_X6_undo τ) (s_X5_undo σ 0) (t_X6_undo τ) := by
  have h1 : RR n σ (up τ 0 8 0) := h.up8
  obtain ⟨hg, ⟨O, K, k1, k2, k3, k4, k5, k6⟩, hsp, htx, hL, hT⟩ := id h1
  have l1 : (1 : Int32) ≤ σ (0 + 40) 5 ↔ 1 ≤ K := by
    show (1 : Int32) ≤ σ 40 5 ↔ _
    rw [k4]; exact cI_le (x := 1) (y := nI K) rfl rfl (by omega) (by omega)
  unfold x_X5_undo f_X5_undo s_X5_undo f_X6_undo t_X6_undo
  by_cases c : K = 0
  · have e0 : (up τ 0 8 0) 0 2 = 0 := by rw [k5, c]; rfl
    have e1 : ¬ (1 : Int32) ≤ σ (0 + 40) 5 := fun q => by have := l1.mp q; omega
    rw [if_neg e1, if_neg e1, if_neg e1, if_pos e0, if_pos e0]
    exact Ans.thr h1 (by decide) rfl
  · have e0 : ¬ (up τ 0 8 0) 0 2 = 0 := fun q => c ((nI_eq (a := K) (b := 0) (by omega) (by omega)).mp (by rw [← k5, q]; rfl))
    have e1 : (1 : Int32) ≤ σ (0 + 40) 5 := l1.mpr (by omega)
    rw [if_pos e1, if_pos e1, if_pos e1, if_neg e0, if_neg e0]
    have ek : (up τ 0 8 0) 0 2 - 1 = nI (K - 1) := by rw [k5]; exact pk_sub (a := K) (b := 1) (by omega)
    rw [ek, KN_of (τ := up (up τ 0 8 0) 0 2 (nI (K - 1))) up_eq (by omega)]
    obtain ⟨u1, u2, u3⟩ := gundo (q := K - 1) 231 0 (up (up τ 0 8 0) 0 2 (nI (K - 1))) (by omega) (by omega)
    have hne : ¬ σ 40 5 ≤ 0 := by
      rw [k4, show (0 : Int32) = nI 0 from rfl, nI_leI (by omega) (by omega)]
      omega
    have hs : s_X3_giveBackLatest σ (0 + 40) (0 + 1) = up (s_X0_copyFrom σ 1 (41 + 13 * ((O + K - 1) % 4))) 40 5 (nI (K - 1)) := by
      show s_X3_giveBackLatest σ 40 1 = _
      unfold s_X3_giveBackLatest
      have hq := (cp0 (σ := σ) (d := 1) (s := 40 + 1 + 13 * ((O + K - 1) % 4)) (by omega)).2 40 (by omega)
      rw [if_neg hne, latest_nI k3 k4 k1 (by omega) k2, hq, k4, show nI K - 1 = nI (K - 1) from pk_sub (a := K) (b := 1) (by omega)]
    rw [hs]
    obtain ⟨p1, p2⟩ := cp0 (σ := σ) (d := 1) (s := 41 + 13 * ((O + K - 1) % 4)) (by omega)
    have hb : O + (K - 1) = O + K - 1 := by omega
    have hlast := k6 (K - 1) (by omega)
    rw [hb] at hlast
    have hnow := p1 _ _ hlast
    refine ⟨?_, fun _ => ?_, RR.nx ⟨hnow.cg (fun q q1 q2 => up_ne (by omega)) (fun a ha => ?_) (Nat.le_refl _), ⟨O, K - 1, k1, by omega, ?_, up_eq, ?_, fun i hi => ?_⟩, ?_, ?_, ?_, ?_⟩⟩
    · rw [u1 0 8 (by decide), up_nb (by decide), up_eq]
      rfl
    · rw [u3, up_eq]
      exact up_eq.symm
    · rw [u2 a ha, if_pos (Nat.zero_le _)]
      show (up (up τ 0 8 0) 0 2 (nI (K - 1))) 2 (230 * (K - 1) + a) = (up τ 0 8 0) 2 (230 * (K - 1) + a)
      rw [up_ne (by decide)]
    · rw [up_nb (by decide), p2 40 (by omega)]; exact k3
    · rw [u1 0 2 (by decide), up_eq]
    · refine (k6 i (by omega)).cg (fun q q1 q2 => ?_) (fun a ha => ?_) (Nat.le_refl _)
      · rw [up_ne (by omega), p2 q (by omega)]
      · show (gt_X6_undo (K - 1) 231 0 (up (up τ 0 8 0) 0 2 (nI (K - 1)))) 2 (230 * i + a) = (up τ 0 8 0) 2 (230 * i + a)
        rw [u1 2 _ (by omega), up_ne (by decide)]
    · exact hsp.mv (Nat.le_refl _) (by rw [up_ne (by omega), p2 0 (by omega)]) (fun q q1 q2 => by rw [up_ne (by omega), p2 q (by omega)]) (fun b => by rw [u1 3 b (by omega), up_ne (by decide)]) (by rw [u1 0 4 (by decide), up_nb (by decide)])
    · exact htx.mv (by rw [up_ne (by omega), p2 93 (by omega)]) (by rw [up_ne (by omega), p2 94 (by omega)]) (by rw [u1 0 7 (by decide), up_nb (by decide)]) (fun b => by rw [u1 5 b (by omega), up_ne (by decide)])
    · refine LGA_up (LGA_copy0 hL rfl ?_) (by decide)
      have hm : (O + K - 1) % 4 = 0 ∨ (O + K - 1) % 4 = 1 ∨ (O + K - 1) % 4 = 2 ∨ (O + K - 1) % 4 = 3 := by omega
      rcases hm with hm | hm | hm | hm <;> rw [hm] <;> rfl
    · exact TXA_up (TXA_copy0 hT rfl) (by decide)

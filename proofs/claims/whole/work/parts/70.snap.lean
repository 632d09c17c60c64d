abbrev TK : Nat → Nat → Prop := fun a b => a = 3 ∨ (a = 0 ∧ b = 4)
theorem gsnap : ∀ (n i : Nat) (τ : Sg), i ≤ 230 → 231 ≤ i + n → FrT TK τ (gt_X6_takeSnapshot n i τ) ∧ (∀ b, b < 230 → (gt_X6_takeSnapshot n i τ) 3 b = if i ≤ b then τ 1 b else τ 3 b) ∧ (gt_X6_takeSnapshot n i τ) 0 4 = 1 ∧ gf_X6_takeSnapshot n i τ = f_X6_sum τ := by
  intro n
  induction n with
  | zero => exact fun i τ h1 h2 => absurd h2 (by omega)
  | succ n ih =>
    intro i τ h1 h2
    rw [gt_X6_takeSnapshot, gf_X6_takeSnapshot]
    by_cases c : 230 ≤ i
    · rw [if_pos c, if_pos c]
      exact ⟨frT_up FrT.rf (Or.inr ⟨rfl, rfl⟩), fun b hb => by rw [if_neg (by omega), up_ne (by decide)], up_eq, rfl⟩
    · rw [if_neg c, if_neg c]
      obtain ⟨a1, a2, a3, a4⟩ := ih (i + 1) (up τ 3 i (τ 1 i)) (by omega) (by omega)
      refine ⟨(frT_up (P := TK) FrT.rf (Or.inl rfl)).tr a1, fun b hb => ?_, a3, a4⟩
      rw [a2 b hb, up_ne (show 1 ≠ 3 by decide)]
      by_cases e : b = i
      · subst e
        rw [if_neg (by omega), if_pos (Nat.le_refl _), up_eq]
      · by_cases e2 : i + 1 ≤ b
        · rw [if_pos e2, if_pos (by omega)]
        · rw [if_neg e2, if_neg (by omega), up_nb e]
theorem sum_gr {σ τ : Sg} {B : Nat} (h : GR σ 1 (τ 1) B) : f_X0_sumOfPositions σ 1 = f_X6_sum τ := by
  have e : ∀ j, j < 4 → σ (1 + 1 + 3 * j) 2 = f_X6_of τ j 1 := fun j hj => (h.1 j hj).1.1.2.1
  unfold f_X0_sumOfPositions f_X6_sum
  rw [← e 0 (by omega), ← e 1 (by omega), ← e 2 (by omega), ← e 3 (by omega)]
theorem op_takeSnapshot {n : Nat} {σ τ : Sg} (h : RR n σ τ) : f_X5_takeSnapshot σ 0 = f_X6_takeSnapshot τ ∧ RR (n + 1) (s_X5_takeSnapshot σ 0) (t_X6_takeSnapshot τ) := by
  have h1 : RR n σ (up τ 0 8 0) := h.up8
  obtain ⟨hg, hrc, hsp, htx, hL, hT⟩ := id h1
  obtain ⟨u1, u2, u3, u4⟩ := gsnap 231 0 (up τ 0 8 0) (by omega) (by omega)
  obtain ⟨p1, p2⟩ := cp0 (σ := σ) (d := 27) (s := 1) (by omega)
  have hs : ∀ q, q ≠ 0 → (q < 27 ∨ 40 ≤ q) → up (s_X0_copyFrom σ 27 1) 0 5 1 q = σ q := fun q q1 q2 => by rw [up_ne q1, p2 q (by omega)]
  have hnow : GR (up (s_X0_copyFrom σ 27 1) 0 5 1) 1 ((up τ 0 8 0) 1) (100000 * n) := hg.cg (fun q q1 q2 => hs q (by omega) (by omega)) (fun _ _ => rfl) (Nat.le_refl _)
  refine ⟨?_, RR.nx ⟨hnow.cg (fun _ _ _ => rfl) (fun a _ => u1 1 a (by omega)) (Nat.le_refl _), ?_, ⟨?_, ?_, fun _ => ?_⟩, ?_, ?_, ?_⟩⟩
  · show f_X0_sumOfPositions (up (s_X0_copyFrom σ 27 1) 0 5 1) 1 = gf_X6_takeSnapshot 231 0 (up τ 0 8 0)
    rw [u4]
    exact sum_gr hnow
  · obtain ⟨O, K, k1, k2, k3, k4, k5, k6⟩ := hrc
    refine ⟨O, K, k1, k2, (congrFun (hs 40 (by omega) (by omega)) 4).trans k3, (congrFun (hs 40 (by omega) (by omega)) 5).trans k4, (u1 0 2 (by omega)).trans k5, fun i hi => ?_⟩
    exact (k6 i hi).cg (fun q q1 q2 => hs q (by omega) (by omega)) (fun a _ => by show (gt_X6_takeSnapshot 231 0 (up τ 0 8 0)) 2 (230 * i + a) = (up τ 0 8 0) 2 (230 * i + a); exact u1 2 (230 * i + a) (by omega)) (Nat.le_refl _)
  · exact up_eq.trans u3.symm
  · exact Or.inr up_eq
  · refine (p1 _ _ hg).cg (fun q q1 q2 => up_ne (by omega)) (fun a ha => ?_) (Nat.le_refl _)
    show (gt_X6_takeSnapshot 231 0 (up τ 0 8 0)) 3 a = _
    rw [u2 a ha, if_pos (Nat.zero_le _)]
  · exact htx.mv (hs 93 (by omega) (by omega)) (hs 94 (by omega) (by omega)) (u1 0 7 (by omega)) (fun b => u1 5 b (by omega))
  · exact LGA_up (LGA_copy0 hL rfl rfl) (by decide)
  · exact TXA_up (TXA_copy0 hT rfl) (by decide)

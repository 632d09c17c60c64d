/-! copies -/
theorem cp1_g {k j : Nat} (h : k + 1 < j ∨ j + 1 < k) : ∀ (n i : Nat) (σ : Sg), i ≤ 48 → 49 ≤ i + n →
    (∀ c, c < 48 → gs_X1_copyFrom k j n i σ (k + 1) c = if i ≤ c then σ (j + 1) c else σ (k + 1) c) ∧ gs_X1_copyFrom k j n i σ k 1 = σ j 1 ∧ gs_X1_copyFrom k j n i σ k 2 = σ j 2 ∧ ∀ q, q ≠ k → q ≠ k + 1 → gs_X1_copyFrom k j n i σ q = σ q := by
  intro n
  induction n with
  | zero => exact fun i σ h1 h2 => absurd h2 (by omega)
  | succ n ih =>
    intro i σ h1 h2
    rw [gs_X1_copyFrom]
    by_cases c0 : 48 ≤ i
    · rw [if_pos c0]
      refine ⟨fun c hc => ?_, ?_, ?_, fun q q1 q2 => ?_⟩
      · rw [if_neg (by omega), up_ne (by omega), up_ne (by omega)]
      · rw [up_nb (by decide), up_eq]
      · rw [up_eq, up_ne (by omega)]
      · rw [up_ne q1, up_ne q1]
    · rw [if_neg c0]
      obtain ⟨a1, a2, a3, a4⟩ := ih (i + 1) (up σ (k + 1) i (σ (j + 1) i)) (by omega) (by omega)
      refine ⟨fun c hc => ?_, ?_, ?_, fun q q1 q2 => ?_⟩
      · rw [a1 c hc, up_ne (show j + 1 ≠ k + 1 by omega)]
        by_cases e : c = i
        · subst e
          rw [if_neg (by omega), if_pos (Nat.le_refl _), up_eq]
        · rw [up_nb e]
          by_cases e2 : i + 1 ≤ c
          · rw [if_pos e2, if_pos (by omega)]
          · rw [if_neg e2, if_neg (by omega)]
      · rw [a2, up_ne (by omega)]
      · rw [a3, up_ne (by omega)]
      · rw [a4 q q1 q2, up_ne q2]
theorem cp4 {σ : Sg} {k j : Nat} (h : k + 2 < j ∨ j + 2 < k) : (∀ a, 1 ≤ a → a ≤ 11 → s_X4_copyFrom σ k j k a = σ j a) ∧ s_X4_copyFrom σ k j (k + 1) 1 = σ (j + 1) 1 ∧ s_X4_copyFrom σ k j (k + 1) 2 = σ (j + 1) 2 ∧ (∀ c, c < 48 → s_X4_copyFrom σ k j (k + 2) c = σ (j + 2) c) ∧ ∀ q, q ≠ k → q ≠ k + 1 → q ≠ k + 2 → s_X4_copyFrom σ k j q = σ q := by
  obtain ⟨a1, a2, a3, a4⟩ := cp1_g (k := k + 1) (j := j + 1) (by omega) 49 0 σ (by omega) (by omega)
  have hjk : j ≠ k := by omega
  have ha : ∀ q, q ≠ k + 1 → q ≠ k + 2 → s_X1_copyFrom σ (k + 1) (j + 1) q = σ q := a4
  have hq : ∀ q, q ≠ k → s_X4_copyFrom σ k j q = s_X1_copyFrom σ (k + 1) (j + 1) q := by
    intro q q1
    unfold s_X4_copyFrom
    rw [up_ne q1, up_ne q1, up_ne q1, up_ne q1, up_ne q1, up_ne q1, up_ne q1, up_ne q1, up_ne q1, up_ne q1, up_ne q1]
  refine ⟨fun a h1 h2 => ?_, ?_, ?_, fun c hc => ?_, fun q q1 q2 q3 => ?_⟩
  · unfold s_X4_copyFrom
    simp only [up_ne hjk, up_k]
    rw [ha j (by omega) (by omega)]
    have hc : a = 1 ∨ a = 2 ∨ a = 3 ∨ a = 4 ∨ a = 5 ∨ a = 6 ∨ a = 7 ∨ a = 8 ∨ a = 9 ∨ a = 10 ∨ a = 11 := by omega
    rcases hc with h | h | h | h | h | h | h | h | h | h | h <;> subst h <;> rfl
  · rw [hq _ (by omega)]; exact a2
  · rw [hq _ (by omega)]; exact a3
  · rw [hq _ (by omega)]
    have := a1 c hc
    rw [if_pos (Nat.zero_le _)] at this
    exact this
  · rw [hq q q1]; exact ha q q2 q3
theorem SnR.cp {σ σ' : Sg} {k j : Nat} {T : Nat → Int32} (h : SnR σ j T) (e0 : ∀ a, 1 ≤ a → a ≤ 11 → σ' k a = σ j a) (e1 : σ' (k + 1) 1 = σ (j + 1) 1) (e2 : σ' (k + 1) 2 = σ (j + 1) 2) (e3 : ∀ c, c < 48 → σ' (k + 2) c = σ (j + 2) c) : SnR σ' k T := by
  obtain ⟨hW, L, O, h1, h2, h3, h4, h5, h6, h7⟩ := h
  refine ⟨?_, L, O, h1, h2, by rw [e2]; exact h3, h4, by rw [e1]; exact h5, fun i hi c hc => ?_, h7⟩
  · unfold WdR at *
    rw [e0 1 (by omega) (by omega), e0 2 (by omega) (by omega), e0 3 (by omega) (by omega), e0 4 (by omega) (by omega), e0 5 (by omega) (by omega), e0 6 (by omega) (by omega), e0 7 (by omega) (by omega), e0 8 (by omega) (by omega), e0 9 (by omega) (by omega), e0 10 (by omega) (by omega), e0 11 (by omega) (by omega)]
    exact hW
  · rw [show k + 1 + 1 = k + 2 from rfl, e3 _ (by omega)]
    exact h6 i hi c hc
/-- a garden, copied -/
theorem cp0 {σ : Sg} {d s : Nat} (h : d + 13 ≤ s ∨ s + 13 ≤ d) : (∀ T B, GR σ s T B → GR (s_X0_copyFrom σ d s) d T B) ∧ ∀ q, q < d ∨ d + 13 ≤ q → s_X0_copyFrom σ d s q = σ q := by
  obtain ⟨a1, a2, a3, a4, a5⟩ := cp4 (σ := σ) (k := d + 1) (j := s + 1) (by omega)
  obtain ⟨b1, b2, b3, b4, b5⟩ := cp4 (σ := s_X4_copyFrom σ (d + 1) (s + 1)) (k := d + 4) (j := s + 4) (by omega)
  obtain ⟨c1, c2, c3, c4, c5⟩ := cp4 (σ := s_X4_copyFrom (s_X4_copyFrom σ (d + 1) (s + 1)) (d + 4) (s + 4)) (k := d + 7) (j := s + 7) (by omega)
  obtain ⟨e1, e2, e3, e4, e5⟩ := cp4 (σ := s_X4_copyFrom (s_X4_copyFrom (s_X4_copyFrom σ (d + 1) (s + 1)) (d + 4) (s + 4)) (d + 7) (s + 7)) (k := d + 10) (j := s + 10) (by omega)
  have hsd : s ≠ d := by omega
  have hq : ∀ q, q ≠ d → s_X0_copyFrom σ d s q = s_X4_copyFrom (s_X4_copyFrom (s_X4_copyFrom (s_X4_copyFrom σ (d + 1) (s + 1)) (d + 4) (s + 4)) (d + 7) (s + 7)) (d + 10) (s + 10) q := by
    intro q q1
    unfold s_X0_copyFrom
    rw [up_ne q1, up_ne q1]
  have hs : ∀ q, (q < d ∨ d + 13 ≤ q) → s_X4_copyFrom (s_X4_copyFrom (s_X4_copyFrom (s_X4_copyFrom σ (d + 1) (s + 1)) (d + 4) (s + 4)) (d + 7) (s + 7)) (d + 10) (s + 10) q = σ q := by
    intro q q1
    rw [e5 q (by omega) (by omega) (by omega), c5 q (by omega) (by omega) (by omega), b5 q (by omega) (by omega) (by omega), a5 q (by omega) (by omega) (by omega)]
  constructor
  · intro T B hG
    obtain ⟨h1, h2, h3, h4, h5⟩ := hG
    refine ⟨fun j hj => ⟨?_, (h1 j hj).2⟩, ?_, h3, ?_, h5⟩
    · have hj4 : j = 0 ∨ j = 1 ∨ j = 2 ∨ j = 3 := by omega
      rcases hj4 with rfl | rfl | rfl | rfl
      · refine (h1 0 hj).1.cp (j := s + 1 + 3 * 0) ?_ ?_ ?_ ?_
        · intro a x y
          rw [hq _ (by omega), e5 _ (by omega) (by omega) (by omega), c5 _ (by omega) (by omega) (by omega), b5 _ (by omega) (by omega) (by omega)]
          exact a1 a x y
        · rw [hq _ (by omega), e5 _ (by omega) (by omega) (by omega), c5 _ (by omega) (by omega) (by omega), b5 _ (by omega) (by omega) (by omega)]
          exact a2
        · rw [hq _ (by omega), e5 _ (by omega) (by omega) (by omega), c5 _ (by omega) (by omega) (by omega), b5 _ (by omega) (by omega) (by omega)]
          exact a3
        · intro c x
          rw [hq _ (by omega), e5 _ (by omega) (by omega) (by omega), c5 _ (by omega) (by omega) (by omega), b5 _ (by omega) (by omega) (by omega)]
          exact a4 c x
      · refine (h1 1 hj).1.cp (j := s + 1 + 3 * 1) ?_ ?_ ?_ ?_
        · intro a x y
          rw [hq _ (by omega), e5 _ (by omega) (by omega) (by omega), c5 _ (by omega) (by omega) (by omega)]
          exact (b1 a x y).trans (by rw [a5 _ (by omega) (by omega) (by omega)])
        · rw [hq _ (by omega), e5 _ (by omega) (by omega) (by omega), c5 _ (by omega) (by omega) (by omega)]
          exact b2.trans (by rw [a5 _ (by omega) (by omega) (by omega)])
        · rw [hq _ (by omega), e5 _ (by omega) (by omega) (by omega), c5 _ (by omega) (by omega) (by omega)]
          exact b3.trans (by rw [a5 _ (by omega) (by omega) (by omega)])
        · intro c x
          rw [hq _ (by omega), e5 _ (by omega) (by omega) (by omega), c5 _ (by omega) (by omega) (by omega)]
          exact (b4 c x).trans (by rw [a5 _ (by omega) (by omega) (by omega)])
      · refine (h1 2 hj).1.cp (j := s + 1 + 3 * 2) ?_ ?_ ?_ ?_
        · intro a x y
          rw [hq _ (by omega), e5 _ (by omega) (by omega) (by omega)]
          exact (c1 a x y).trans (by rw [b5 _ (by omega) (by omega) (by omega), a5 _ (by omega) (by omega) (by omega)])
        · rw [hq _ (by omega), e5 _ (by omega) (by omega) (by omega)]
          exact c2.trans (by rw [b5 _ (by omega) (by omega) (by omega), a5 _ (by omega) (by omega) (by omega)])
        · rw [hq _ (by omega), e5 _ (by omega) (by omega) (by omega)]
          exact c3.trans (by rw [b5 _ (by omega) (by omega) (by omega), a5 _ (by omega) (by omega) (by omega)])
        · intro c x
          rw [hq _ (by omega), e5 _ (by omega) (by omega) (by omega)]
          exact (c4 c x).trans (by rw [b5 _ (by omega) (by omega) (by omega), a5 _ (by omega) (by omega) (by omega)])
      · refine (h1 3 hj).1.cp (j := s + 1 + 3 * 3) ?_ ?_ ?_ ?_
        · intro a x y
          rw [hq _ (by omega)]
          exact (e1 a x y).trans (by rw [c5 _ (by omega) (by omega) (by omega), b5 _ (by omega) (by omega) (by omega), a5 _ (by omega) (by omega) (by omega)])
        · rw [hq _ (by omega)]
          exact e2.trans (by rw [c5 _ (by omega) (by omega) (by omega), b5 _ (by omega) (by omega) (by omega), a5 _ (by omega) (by omega) (by omega)])
        · rw [hq _ (by omega)]
          exact e3.trans (by rw [c5 _ (by omega) (by omega) (by omega), b5 _ (by omega) (by omega) (by omega), a5 _ (by omega) (by omega) (by omega)])
        · intro c x
          rw [hq _ (by omega)]
          exact (e4 c x).trans (by rw [c5 _ (by omega) (by omega) (by omega), b5 _ (by omega) (by omega) (by omega), a5 _ (by omega) (by omega) (by omega)])
    · rw [← h2, ← hs s (by omega)]
      unfold s_X0_copyFrom
      rw [up_nb (by decide), up_eq]
    · rw [← h4, ← hs s (by omega)]
      unfold s_X0_copyFrom
      rw [up_eq, up_ne hsd]
  · intro q q1
    rw [hq q (by omega), hs q q1]

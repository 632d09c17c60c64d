/-! texts: what stands at a place -/
def sgA (σ : Sg) (i : Nat) : Int32 := f_X2_sign σ 93 (nI i)
theorem sg_eq {σ τ : Sg} {L i : Nat} (h1 : L ≤ 80) (h2 : σ 93 1 = nI L) (h4 : ∀ i, i < L → chr (σ 94 i) = τ 5 i) (hi : i ≤ 200) : sgA σ i = if i < L then τ 5 i else 0 := by
  unfold sgA f_X2_sign
  have a1 : ¬ nI i < 0 := by
    rw [show (0 : Int32) = nI 0 from rfl, nI_ltI (by omega) (by omega)]
    omega
  rw [if_neg a1, h2]
  by_cases c : i < L
  · rw [if_pos c, if_neg (fun q => by have := (nI_leI (by omega) (by omega)).mp q; omega), if_pos, nI_clamp (by omega)]
    · exact h4 i c
    · rw [show (80 : Int32) = nI 80 from rfl, nI_ltI (by omega) (by omega)]
      omega
  · rw [if_neg c, if_pos ((nI_leI (by omega) (by omega)).mpr (by omega))]
theorem btw {a y b : Int32} : f_X2_isBetween a y b = f_X6_in y a b := by
  unfold f_X2_isBetween
  by_cases h1 : y < a
  · rw [if_pos h1, in_0 (fun q => absurd q.1 (Int32.not_le.mpr h1))]
  · rw [if_neg h1]
    by_cases h2 : b < y
    · rw [if_pos h2, in_0 (fun q => absurd q.2 (Int32.not_le.mpr h2))]
    · rw [if_neg h2, in_1 (Int32.not_lt.mp h1) (Int32.not_lt.mp h2)]

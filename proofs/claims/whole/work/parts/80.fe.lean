/-! the automaton of the class -/
def FE (σ : Sg) (L : Nat) (p : Int32) (i : Nat) : Int32 := gf_X2_firstError σ 93 L (L + 1 - i) p i
def TxC (σ : Sg) (c : Nat → Int32) (L : Nat) : Prop := L ≤ 80 ∧ σ 93 1 = nI L ∧ ∀ i, i ≤ 200 → f_X2_sign σ 93 (nI i) = Cc c L i
theorem TxC.of {σ τ : Sg} (h : TxR σ τ) : ∃ L, TxC σ (τ 5) L ∧ Tx τ (τ 5) L := by
  obtain ⟨L, h1, h2, h3, h4⟩ := h
  exact ⟨L, ⟨h1, h2, fun i hi => sg_eq h1 h2 h4 hi⟩, fun _ => rfl, h1, h3⟩
theorem fe_lt {σ : Sg} {c : Nat → Int32} {L i : Nat} {p : Int32} (h : TxC σ c L) (hi : i < L) : FE σ L p i = if f_X2_placeAfter p (Cc c L i) = -1 then nI i else FE σ L (f_X2_placeAfter p (Cc c L i)) (i + 1) := by
  unfold FE
  rw [show L + 1 - i = (L + 1 - (i + 1)) + 1 by omega, gf_X2_firstError, if_neg (by omega), h.2.2 i (by have := h.1; omega)]
theorem fe_end {σ : Sg} {c : Nat → Int32} {L : Nat} {p : Int32} (h : TxC σ c L) : FE σ L p L = if f_X2_mayEnd p = 0 then nI L else -1 := by
  unfold FE
  rw [show L + 1 - L = 0 + 1 by omega, gf_X2_firstError, if_pos (Nat.le_refl _), h.2.1]
theorem fe_fuel {σ : Sg} {L : Nat} : ∀ (n n' i : Nat) (p : Int32), L + 1 ≤ i + n → L + 1 ≤ i + n' → 1 ≤ n → 1 ≤ n' → gf_X2_firstError σ 93 L n p i = gf_X2_firstError σ 93 L n' p i := by
  intro n
  induction n with
  | zero => intro n' i p _ _ h; exact absurd h (by omega)
  | succ n ih =>
    intro n' i p h1 h2 h3 h4
    obtain ⟨n', rfl⟩ : ∃ a, n' = a + 1 := ⟨n' - 1, by omega⟩
    rw [gf_X2_firstError, gf_X2_firstError]
    by_cases c : L ≤ i
    · rw [if_pos c, if_pos c]
    · rw [if_neg c, if_neg c, ih n' (i + 1) _ (by omega) (by omega) (by omega) (by omega)]
theorem fe_first {σ : Sg} {c : Nat → Int32} {L : Nat} (h : TxC σ c L) : f_X2_firstError σ 93 = FE σ L 0 0 := by
  have hl : TL σ 93 = L := by unfold TL; rw [h.2.1]; exact nI_clamp (by have := h.1; omega)
  unfold f_X2_firstError FE
  rw [hl]
  exact fe_fuel _ _ _ _ (by have := h.1; omega) (by omega) (by omega) (by omega)
theorem cc_lt {c : Nat → Int32} {L i : Nat} {x : Int32} (h0 : (0 : Int32) < x) (h : x ≤ Cc c L i) : i < L := by
  rcases Nat.lt_or_ge i L with q | q
  · exact q
  · exfalso
    have : Cc c L i = 0 := by unfold Cc; rw [if_neg (by omega)]
    rw [this] at h
    exact absurd h (Int32.not_le.mpr h0)
/-- one step of the automaton, where the sign is one it takes -/
theorem fe_go {σ : Sg} {c : Nat → Int32} {L i : Nat} {p p' : Int32} (h : TxC σ c L) (hi : i < L) (hp : f_X2_placeAfter p (Cc c L i) = p') (hn : p' ≠ -1) : FE σ L p i = FE σ L p' (i + 1) := by
  rw [fe_lt h hi, hp, if_neg hn]
/-- and where it isn't, at a place where no text may end -/
theorem fe_no {σ : Sg} {c : Nat → Int32} {L i : Nat} {p : Int32} (h : TxC σ c L) (hi : i ≤ L) (hm : f_X2_mayEnd p = 0) (hp : i < L → f_X2_placeAfter p (Cc c L i) = -1) : FE σ L p i = nI i := by
  by_cases hl : i < L
  · rw [fe_lt h hl, if_pos (hp hl)]
  · have : i = L := by omega
    subst this
    rw [fe_end h, if_pos hm]
theorem btw1 {a y b : Int32} (h : a ≤ y ∧ y ≤ b) : ¬ f_X2_isBetween a y b = 0 := by rw [btw, in_1 h.1 h.2]; decide
theorem btw0 {a y b : Int32} (h : ¬ (a ≤ y ∧ y ≤ b)) : f_X2_isBetween a y b = 0 := by rw [btw]; exact in_0 h
theorem ne59 {y a b : Int32} (h : a ≤ y ∧ y ≤ b) (hb : b < 59) : ¬ y = 59 := fun e => by
  rw [e] at h
  exact absurd h.2 (Int32.not_le.mpr hb)

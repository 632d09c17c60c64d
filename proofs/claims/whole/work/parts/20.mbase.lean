/-! the reference's numbers -/
theorem ix_of {j w : Nat} : (57 : Int32) * nI j + nI w = nI (57 * j + w) := by rw [show (57 : Int32) = nI 57 from rfl, pk_mul, nI_add]
theorem ix_9 {j : Nat} : (57 : Int32) * nI j + 9 = nI (57 * j + 9) := ix_of
theorem at_of {l : Nat} : (9 : Int32) + 3 * nI l = nI (9 + 3 * l) := by rw [show (3 : Int32) = nI 3 from rfl, show (9 : Int32) = nI 9 from rfl, pk_mul, nI_add]
theorem ir_of {q i : Nat} : (230 : Int32) * nI q + nI i = nI (230 * q + i) := by rw [show (230 : Int32) = nI 230 from rfl, pk_mul, nI_add]
theorem ir_i {i : Nat} : (230 : Int32) + nI i = nI (230 + i) := by rw [show (230 : Int32) = nI 230 from rfl, nI_add]
theorem nI_2 (a : Nat) : nI a + 2 = nI (a + 2) := nI_add a 2
theorem nI_3 (a : Nat) : nI a + 3 = nI (a + 3) := nI_add a 3
theorem nI_45 (a : Nat) : nI a + 45 = nI (a + 45) := nI_add a 45
theorem vp228 : vp_in 228 230 := by unfold vp_in; decide
theorem vp229 : vp_in 229 230 := by unfold vp_in; decide
theorem cl228 : (228 : Int32).toNatClampNeg = 228 := by decide
theorem cl229 : (229 : Int32).toNatClampNeg = 229 := by decide
/-- lengths: of a log, of the records -/
def MLn (τ : Sg) (j : Nat) : Nat := (τ 1 (57 * j + 8)).toNatClampNeg
def KN (τ : Sg) : Nat := (τ 0 2).toNatClampNeg
/-- what the reference's numbers keep to -/
def MI (τ : Sg) : Prop := (∀ j, j < 4 → ∃ l : Nat, l ≤ 16 ∧ τ 1 (57 * j + 8) = nI l) ∧ ¬ τ 1 229 = 0 ∧ (∃ q : Nat, q ≤ 4 ∧ τ 0 2 = nI q)
theorem MLn_of {τ : Sg} {j l : Nat} (h : τ 1 (57 * j + 8) = nI l) (hl : l ≤ 16) : MLn τ j = l := by unfold MLn; rw [h]; exact nI_clamp (by omega)
theorem KN_of {τ : Sg} {q : Nat} (h : τ 0 2 = nI q) (hq : q ≤ 4) : KN τ = q := by unfold KN; rw [h]; exact nI_clamp (by omega)
theorem MI.ln {τ : Sg} (h : MI τ) {j : Nat} (hj : j < 4) : τ 1 (57 * j + 8) = nI (MLn τ j) ∧ MLn τ j ≤ 16 := by
  obtain ⟨l, hl, e⟩ := h.1 j hj
  rw [MLn_of e hl]
  exact ⟨e, hl⟩
theorem MI.kn {τ : Sg} (h : MI τ) : τ 0 2 = nI (KN τ) ∧ KN τ ≤ 4 := by
  obtain ⟨q, hq, e⟩ := h.2.2
  rw [KN_of e hq]
  exact ⟨e, hq⟩
theorem knA {τ : Sg} (h : τ 0 2 = 4) : (up τ 0 2 ((τ 0 2) - 1)) 0 2 = nI (KN (up τ 0 2 ((τ 0 2) - 1))) ∧ KN (up τ 0 2 ((τ 0 2) - 1)) ≤ 3 := by
  have e : (up τ 0 2 ((τ 0 2) - 1)) 0 2 = nI 3 := by simp only [up, and_self, if_true]; rw [h]; rfl
  rw [KN_of e (by omega)]
  exact ⟨e, by omega⟩
theorem knB {τ : Sg} (h : MI τ) (hn : ¬ τ 0 2 = 4) : τ 0 2 = nI (KN τ) ∧ KN τ ≤ 3 := by
  obtain ⟨h1, h2⟩ := h.kn
  refine ⟨h1, ?_⟩
  rcases Nat.lt_or_ge (KN τ) 4 with h | h
  · omega
  · exact absurd (by rw [h1, show KN τ = 4 by omega]; rfl) hn
theorem up_eq {τ : Sg} {a b : Nat} {v : Int32} : up τ a b v a b = v := by simp [up]
theorem up_nb {τ : Sg} {a b a' b' : Nat} {v : Int32} (h : b' ≠ b) : up τ a b v a' b' = τ a' b' := by simp [up, h]

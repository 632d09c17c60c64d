/-- where the text is read: the place is no further than its end -/
def TA (τ : Sg) : Prop := ∃ a : Nat, a ≤ 80 ∧ τ 0 9 = nI a
theorem TA.of {τ : Sg} (h : TA τ) : τ 0 9 = nI (MA τ) ∧ MA τ ≤ 80 := by
  obtain ⟨L, hL, e⟩ := h
  have : MA τ = L := by unfold MA; rw [e]; exact nI_clamp (by omega)
  rw [this]
  exact ⟨e, hL⟩
def TT (τ : Sg) : Prop := TLI τ ∧ TA τ
theorem ma_lt {τ : Sg} (h : TT τ) (c : ¬ τ 0 7 ≤ τ 0 9) : MA τ < 80 := by
  obtain ⟨h1, h2⟩ := h.1.of
  obtain ⟨h3, h4⟩ := h.2.of
  rw [h1, h3] at c
  have := mt (cI_le (x := nI (ML τ)) (y := nI (MA τ)) rfl rfl (by omega) (by omega)).mpr c
  omega
theorem ma_ltL {τ : Sg} (h : TT τ) : τ 0 7 ≤ τ 0 9 ↔ ML τ ≤ MA τ := by
  obtain ⟨h1, h2⟩ := h.1.of
  obtain ⟨h3, h4⟩ := h.2.of
  rw [h1, h3]
  exact cI_le (x := nI (ML τ)) (y := nI (MA τ)) rfl rfl (by omega) (by omega)

/-! the reader of the reference: unbroken at a place, broken at a place -/
def Tx (τ : Sg) (c : Nat → Int32) (L : Nat) : Prop := (∀ i, τ 5 i = c i) ∧ L ≤ 80 ∧ τ 0 7 = nI L
def Cc (c : Nat → Int32) (L i : Nat) : Int32 := if i < L then c i else 0
def Un (τ : Sg) (a : Nat) : Prop := a ≤ 80 ∧ τ 0 10 = 0 ∧ τ 0 9 = nI a
def Br (τ : Sg) (a : Nat) : Prop := a ≤ 80 ∧ ¬ τ 0 10 = 0 ∧ τ 0 9 = nI a
theorem Tx.fr {P : Nat → Nat → Prop} {τ τ' : Sg} {c : Nat → Int32} {L : Nat} (h : Tx τ c L) (hF : FrT P τ τ') (h5 : ∀ b, ¬ P 5 b) (h7 : ¬ P 0 7) : Tx τ' c L := ⟨fun i => (hF 5 i (h5 i)).trans (h.1 i), h.2.1, (hF 0 7 h7).trans h.2.2⟩
theorem Tx.sign {τ : Sg} {c : Nat → Int32} {L : Nat} {x y : Int32} (h : Tx τ c L) : Tx (t_X6_sign τ x y) c L := h.fr (sgn_fr τ x y) (fun b q => by cases q.1) (by omega)
theorem Un.ma {τ : Sg} {a : Nat} (h : Un τ a) : MA τ = a := by unfold MA; rw [h.2.2]; exact nI_clamp (by have := h.1; omega)
theorem Br.ma {τ : Sg} {a : Nat} (h : Br τ a) : MA τ = a := by unfold MA; rw [h.2.2]; exact nI_clamp (by have := h.1; omega)
theorem Un.le {τ : Sg} {a L : Nat} {c : Nat → Int32} (h : Un τ a) (hx : Tx τ c L) : τ 0 7 ≤ τ 0 9 ↔ L ≤ a := by
  have := h.1
  have := hx.2.1
  rw [hx.2.2, h.2.2]
  exact nI_leI (by omega) (by omega)
theorem s_f {τ : Sg} {a L : Nat} {c : Nat → Int32} {x y : Int32} (h : Un τ a) (hx : Tx τ c L) : f_X6_sign τ x y = Cc c L a := by
  have hl := h.le hx
  unfold f_X6_sign
  simp only [up3, up4, h.2.1, if_true]
  by_cases d : L ≤ a
  · have hC : Cc c L a = 0 := if_neg (by omega)
    rw [hC]
    simp only [hl.mpr d, if_true]
    repeat' split
    all_goals rfl
  · have hC : Cc c L a = c a := if_pos (by omega)
    rw [hC]
    have hn : ¬ τ 0 7 ≤ τ 0 9 := fun q => d (hl.mp q)
    simp only [if_neg hn, h.ma, hx.1]
    repeat' split
    all_goals rfl
theorem s_ok {τ : Sg} {a L : Nat} {c : Nat → Int32} {x y : Int32} (h : Un τ a) (hx : Tx τ c L) (h0 : (0 : Int32) < x) (hc : x ≤ Cc c L a ∧ Cc c L a ≤ y) : Un (t_X6_sign τ x y) (a + 1) ∧ a < L := by
  have hL := hx.2.1
  have ha : a < L := by
    rcases Nat.lt_or_ge a L with q | q
    · exact q
    · exfalso
      have : Cc c L a = 0 := by unfold Cc; rw [if_neg (by omega)]
      rw [this] at hc
      exact absurd hc.1 (Int32.not_le.mpr h0)
  rcases sgn τ x y with ⟨e, -⟩ | ⟨-, e2⟩
  · refine ⟨⟨by omega, ?_, ?_⟩, ha⟩
    · rw [e]; simp [up]
    · rw [e, up_eq, h.2.2, nI_1]
  · have := e2 h.2.1
    rw [s_f h hx] at this
    exact absurd hc (in_iff.mp this)
theorem s_no {τ : Sg} {a L : Nat} {c : Nat → Int32} {x y : Int32} (h : Un τ a) (hx : Tx τ c L) (hc : ¬ (x ≤ Cc c L a ∧ Cc c L a ≤ y)) : Br (t_X6_sign τ x y) a := by
  rcases sgn τ x y with ⟨-, -, e3, -⟩ | ⟨e, -⟩
  · rw [s_f h hx] at e3
    exact absurd (in_iff.mpr hc) e3
  · refine ⟨h.1, ?_, ?_⟩
    · rw [e]; simp [up]
    · rw [e, up_eq, h.2.2]; exact Int32.add_zero _
theorem s_br {τ : Sg} {a : Nat} {x y : Int32} (h : Br τ a) : Br (t_X6_sign τ x y) a := by
  rcases sgn τ x y with ⟨-, e2, -⟩ | ⟨e, -⟩
  · exact absurd e2 h.2.1
  · refine ⟨h.1, ?_, ?_⟩
    · rw [e]; simp [up]
    · rw [e, up_eq, h.2.2]; exact Int32.add_zero _
theorem n_br {τ : Sg} {a : Nat} {x y : Int32} (h : Br τ a) : f_X6_isNext τ x y = 0 := by
  unfold f_X6_isNext
  rw [if_neg h.2.1]
theorem n_un {τ : Sg} {a L : Nat} {c : Nat → Int32} {x y : Int32} (h : Un τ a) (hx : Tx τ c L) (h0 : (0 : Int32) < x) : f_X6_isNext τ x y = 0 ↔ ¬ (x ≤ Cc c L a ∧ Cc c L a ≤ y) := by
  unfold f_X6_isNext
  rw [if_pos h.2.1]
  by_cases d : L ≤ a
  · have hC : Cc c L a = 0 := if_neg (by omega)
    rw [if_pos ((h.le hx).mpr d), hC]
    exact ⟨fun _ q => absurd q.1 (Int32.not_le.mpr h0), fun _ => rfl⟩
  · have hC : Cc c L a = c a := if_pos (by omega)
    rw [if_neg (fun q => d ((h.le hx).mp q)), hC, h.ma, hx.1, ← in_iff]
    by_cases e : f_X6_in (c a) x y = 0
    · rw [if_pos e]
      exact ⟨fun _ => e, fun _ => rfl⟩
    · rw [if_neg e]
      exact ⟨fun q => absurd q (by decide), fun q => absurd q e⟩

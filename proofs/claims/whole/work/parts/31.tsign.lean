theorem up3 {τ : Sg} {v : Int32} : (up τ 0 10 v) 0 10 = v := by simp [up]
theorem up4 {τ : Sg} {v : Int32} : (up τ 0 10 v) 0 9 = τ 0 9 := by simp [up]
theorem sgn (τ : Sg) (x y : Int32) : (t_X6_sign τ x y = up (up τ 0 10 0) 0 9 (τ 0 9 + 1) ∧ τ 0 10 = 0 ∧ ¬ f_X6_in (f_X6_sign τ x y) x y = 0 ∧ ((¬ τ 0 7 ≤ τ 0 9 ∧ f_X6_sign τ x y = τ 5 (MA τ)) ∨ (τ 0 7 ≤ τ 0 9 ∧ f_X6_sign τ x y = 0))) ∨ (t_X6_sign τ x y = up (up τ 0 10 1) 0 9 (τ 0 9 + 0) ∧ (τ 0 10 = 0 → f_X6_in (f_X6_sign τ x y) x y = 0)) := by
  unfold t_X6_sign f_X6_sign
  simp only [up3, up4]
  by_cases h1 : τ 0 7 ≤ τ 0 9 <;> by_cases h2 : τ 0 10 = 0
  · by_cases h3 : f_X6_in 0 x y = 0 <;> simp [h1, h2, h3]
  · simp [h1, h2]
  · by_cases h3 : f_X6_in (τ 5 (MA τ)) x y = 0 <;> simp [h1, h2, h3]
  · simp [h1, h2]
theorem in_iff {x a b : Int32} : f_X6_in x a b = 0 ↔ ¬ (a ≤ x ∧ x ≤ b) := by
  constructor
  · intro h q
    rw [in_1 q.1 q.2] at h
    exact absurd h (by decide)
  · exact in_0
/-- a sign that was read -/
theorem sgn_ok {τ : Sg} {x y : Int32} (hx : (0 : Int32) < x) (h : (t_X6_sign τ x y) 0 10 = 0) : t_X6_sign τ x y = up (up τ 0 10 0) 0 9 (τ 0 9 + 1) ∧ τ 0 10 = 0 ∧ ¬ τ 0 7 ≤ τ 0 9 ∧ f_X6_sign τ x y = τ 5 (MA τ) ∧ x ≤ f_X6_sign τ x y ∧ f_X6_sign τ x y ≤ y := by
  rcases sgn τ x y with ⟨h1, h2, h3, h4⟩ | ⟨h1, -⟩
  · have h5 : x ≤ f_X6_sign τ x y ∧ f_X6_sign τ x y ≤ y := by
      rcases Classical.em (x ≤ f_X6_sign τ x y ∧ f_X6_sign τ x y ≤ y) with q | q
      · exact q
      · exact absurd (in_iff.mpr q) h3
    rcases h4 with ⟨h6, h7⟩ | ⟨h6, h7⟩
    · exact ⟨h1, h2, h6, h7, h5.1, h5.2⟩
    · exact absurd h5.1 (by rw [h7]; exact Int32.not_le.mpr hx)
  · rw [h1] at h
    exact absurd h (by simp [up])
theorem sgn_bad {τ : Sg} {x y : Int32} (h : ¬ (t_X6_sign τ x y) 0 10 = 0) : t_X6_sign τ x y = up (up τ 0 10 1) 0 9 (τ 0 9 + 0) := by
  rcases sgn τ x y with ⟨h1, -⟩ | ⟨h1, -⟩
  · rw [h1] at h
    exact absurd (by simp [up]) h
  · exact h1
/-- only the place and the mark 'broken' move -/
theorem sgn_fr (τ : Sg) (x y : Int32) : FrT (fun a b => a = 0 ∧ (b = 9 ∨ b = 10)) τ (t_X6_sign τ x y) := by
  rcases sgn τ x y with ⟨h1, -⟩ | ⟨h1, -⟩ <;> rw [h1]
  · exact frT_up (frT_up FrT.rf ⟨rfl, Or.inr rfl⟩) ⟨rfl, Or.inl rfl⟩
  · exact frT_up (frT_up FrT.rf ⟨rfl, Or.inr rfl⟩) ⟨rfl, Or.inl rfl⟩
theorem TLI.fr {P : Nat → Nat → Prop} {τ τ' : Sg} (h : TLI τ) (hF : FrT P τ τ') (hP : ¬ P 0 7) : TLI τ' := by
  obtain ⟨L, hL, e⟩ := h
  exact ⟨L, hL, by rw [hF 0 7 hP]; exact e⟩
theorem TA.fr {P : Nat → Nat → Prop} {τ τ' : Sg} (h : TA τ) (hF : FrT P τ τ') (hP : ¬ P 0 9) : TA τ' := by
  obtain ⟨L, hL, e⟩ := h
  exact ⟨L, hL, by rw [hF 0 9 hP]; exact e⟩
theorem TT.fr {P : Nat → Nat → Prop} {τ τ' : Sg} (h : TT τ) (hF : FrT P τ τ') (h7 : ¬ P 0 7) (h9 : ¬ P 0 9) : TT τ' := ⟨h.1.fr hF h7, h.2.fr hF h9⟩
theorem MI.fr {P : Nat → Nat → Prop} {τ τ' : Sg} (h : MI τ) (hF : FrT P τ τ') (h1 : ∀ b, ¬ P 1 b) (h2 : ¬ P 0 2) : MI τ' := by
  obtain ⟨a, b, c⟩ := h
  refine ⟨fun j hj => ?_, ?_, ?_⟩
  · rw [hF 1 _ (h1 _)]; exact a j hj
  · rw [hF 1 _ (h1 _)]; exact b
  · rw [hF 0 2 h2]; exact c
theorem inc_ok {τ : Sg} (h : TT τ) (c : ¬ τ 0 7 ≤ τ 0 9) : TA (up τ 0 9 (τ 0 9 + 1)) := by
  have hl := ma_lt h c
  obtain ⟨h3, h4⟩ := h.2.of
  exact ⟨MA τ + 1, by omega, by rw [up_eq, h3, nI_1]⟩
theorem TT.sign {τ : Sg} {x y : Int32} (h : TT τ) (hx : (0 : Int32) < x) : TT (t_X6_sign τ x y) := by
  refine ⟨h.1.fr (sgn_fr τ x y) (by omega), ?_⟩
  by_cases hb : (t_X6_sign τ x y) 0 10 = 0
  · obtain ⟨h1, h2, h3, -⟩ := sgn_ok hx hb
    rw [h1]
    obtain ⟨a, ha, e⟩ := inc_ok h h3
    exact ⟨a, ha, by rw [up_eq]; rw [up_eq] at e; exact e⟩
  · rw [sgn_bad hb]
    obtain ⟨h3, h4⟩ := h.2.of
    exact ⟨MA τ, h4, by rw [up_eq, h3]; exact Int32.add_zero _⟩
theorem MI.sign {τ : Sg} {x y : Int32} (h : MI τ) : MI (t_X6_sign τ x y) := h.fr (sgn_fr τ x y) (fun b q => by cases q.1) (by omega)
/-- a sign that comes next -/
theorem nxt {τ : Sg} {x y : Int32} (c : ¬ f_X6_isNext τ x y = 0) : τ 0 10 = 0 ∧ ¬ τ 0 7 ≤ τ 0 9 ∧ x ≤ τ 5 (MA τ) ∧ τ 5 (MA τ) ≤ y := by
  unfold f_X6_isNext at c
  by_cases h1 : τ 0 10 = 0
  · rw [if_pos h1] at c
    by_cases h2 : τ 0 7 ≤ τ 0 9
    · rw [if_pos h2] at c
      exact absurd rfl c
    · rw [if_neg h2] at c
      by_cases h3 : f_X6_in (τ 5 (MA τ)) x y = 0
      · rw [if_pos h3] at c
        exact absurd rfl c
      · have h5 : x ≤ τ 5 (MA τ) ∧ τ 5 (MA τ) ≤ y := by
          rcases Classical.em (x ≤ τ 5 (MA τ) ∧ τ 5 (MA τ) ≤ y) with q | q
          · exact q
          · exact absurd (in_iff.mpr q) h3
        exact ⟨h1, h2, h5.1, h5.2⟩
  · rw [if_neg h1] at c
    exact absurd rfl c
theorem TT.inc {τ : Sg} {x y : Int32} (h : TT τ) (c : ¬ f_X6_isNext τ x y = 0) : TT (up τ 0 9 (τ 0 9 + 1)) :=
  ⟨h.1.fr (P := fun a b => a = 0 ∧ b = 9) (frT_up FrT.rf ⟨rfl, rfl⟩) (by omega), inc_ok h (nxt c).2.1⟩
/-- what comes next is read -/
theorem nxt_sgn {τ : Sg} {x y : Int32} (c : ¬ f_X6_isNext τ x y = 0) : t_X6_sign τ x y = up (up τ 0 10 0) 0 9 (τ 0 9 + 1) ∧ f_X6_sign τ x y = τ 5 (MA τ) := by
  obtain ⟨h1, h2, h3, h4⟩ := nxt c
  have e : f_X6_sign τ x y = τ 5 (MA τ) := by
    unfold f_X6_sign
    simp only [up3, h1, if_true, if_neg h2]
    repeat' split
    all_goals rfl
  rcases sgn τ x y with ⟨a1, -, -, -⟩ | ⟨-, a2⟩
  · exact ⟨a1, e⟩
  · have := a2 h1
    rw [e] at this
    exact absurd (in_iff.mp this) (fun q => q ⟨h3, h4⟩)
/-- signs as numbers -/
theorem dig_of {c : Int32} {a b : Nat} (h1 : nI (48 + a) ≤ c) (h2 : c ≤ nI (48 + b)) (hb : b ≤ 100) (ha : a ≤ b) : c - 48 = nI (c - 48).toNatClampNeg ∧ a ≤ (c - 48).toNatClampNeg ∧ (c - 48).toNatClampNeg ≤ b := by
  have a1 := Int32.le_iff_toInt_le.mp h1
  have a2 := Int32.le_iff_toInt_le.mp h2
  rw [nI_toInt (by omega)] at a1 a2
  have e : (c - 48).toInt = c.toInt - 48 := by
    rw [Int32.toInt_sub, show (48 : Int32).toInt = 48 from rfl]
    apply Int.bmod_eq_of_le <;> omega
  have h4 := (i32_nat (c - 48)).2 (by omega)
  refine ⟨?_, by omega, by omega⟩
  apply Int32.toInt_inj.mp
  rw [nI_toInt (by omega), h4]
def SJ (τ : Sg) : Nat := (f_X6_sign τ 48 51 - 48).toNatClampNeg
theorem sj_of {τ : Sg} (h : (t_X6_sign τ 48 51) 0 10 = 0) : f_X6_sign τ 48 51 - 48 = nI (SJ τ) ∧ SJ τ < 4 := by
  obtain ⟨-, -, -, -, h5, h6⟩ := sgn_ok (by decide) h
  have := dig_of (a := 0) (b := 3) h5 h6 (by omega) (by omega)
  exact ⟨this.1, by show (f_X6_sign τ 48 51 - 48).toNatClampNeg < 4; omega⟩

theorem szm {y : Int32} (h : ¬ f_X6_in y (-100) 100 = 0) : f_X6_size y = nI (f_X6_size y).toNatClampNeg ∧ (f_X6_size y).toNatClampNeg ≤ 100 := by
  have hb : (-100 : Int32) ≤ y ∧ y ≤ 100 := by
    rcases Classical.em ((-100 : Int32) ≤ y ∧ y ≤ 100) with q | q
    · exact q
    · exact absurd (in_0 q) h
  have a := Int32.le_iff_toInt_le.mp hb.1
  have b := Int32.le_iff_toInt_le.mp hb.2
  rw [show (-100 : Int32).toInt = -100 from rfl] at a
  rw [show (100 : Int32).toInt = 100 from rfl] at b
  have hab : 0 ≤ (f_X6_size y).toInt ∧ (f_X6_size y).toInt ≤ 100 := by
    unfold f_X6_size
    split
    · rename_i h
      have h3 := Int32.le_iff_toInt_le.mp h
      rw [show (0 : Int32).toInt = 0 from rfl] at h3
      omega
    · rename_i h
      have h3 := Int32.lt_iff_toInt_lt.mp (Int32.not_le.mp h)
      rw [show (0 : Int32).toInt = 0 from rfl] at h3
      rw [Int32.toInt_neg, Int.bmod_eq_of_le (by omega) (by omega)]
      omega
  have h4 := (i32_nat (f_X6_size y)).2 hab.1
  refine ⟨?_, by omega⟩
  apply Int32.toInt_inj.mp
  rw [nI_toInt (by omega), h4]
theorem in_ne {f a b : Nat} (h1 : a ≤ f) (h2 : f ≤ b) (hb : b < 2 ^ 31) : ¬ f_X6_in (nI f) (nI a) (nI b) = 0 := by
  rw [in_1 ((nI_leI (by omega) (by omega)).mpr h1) ((nI_leI (by omega) (by omega)).mpr h2)]
  decide
theorem knU {τ : Sg} (h : MI τ) (hn : ¬ (up τ 0 8 0) 0 2 = 0) : (up (up τ 0 8 0) 0 2 (((up τ 0 8 0) 0 2) - 1)) 0 2 = nI (KN (up (up τ 0 8 0) 0 2 (((up τ 0 8 0) 0 2) - 1))) ∧ KN (up (up τ 0 8 0) 0 2 (((up τ 0 8 0) 0 2) - 1)) ≤ 3 := by
  obtain ⟨h1, h2⟩ := h.kn
  have hn' : ¬ τ 0 2 = 0 := hn
  have hp : 1 ≤ KN τ := by
    rcases Nat.lt_or_ge 0 (KN τ) with q | q
    · exact q
    · exact absurd (by rw [h1, show KN τ = 0 by omega]; rfl) hn'
  have e : (up (up τ 0 8 0) 0 2 (((up τ 0 8 0) 0 2) - 1)) 0 2 = nI (KN τ - 1) := by
    rw [up_eq]
    show τ 0 2 - 1 = _
    rw [h1]
    exact pk_sub (a := KN τ) (b := 1) hp
  rw [KN_of e (by omega)]
  exact ⟨e, by omega⟩
/-- the text's numbers -/
def ML (τ : Sg) : Nat := (τ 0 7).toNatClampNeg
def MA (τ : Sg) : Nat := (τ 0 9).toNatClampNeg
def TLI (τ : Sg) : Prop := ∃ L : Nat, L ≤ 80 ∧ τ 0 7 = nI L
theorem TLI.of {τ : Sg} (h : TLI τ) : τ 0 7 = nI (ML τ) ∧ ML τ ≤ 80 := by
  obtain ⟨L, hL, e⟩ := h
  have : ML τ = L := by unfold ML; rw [e]; exact nI_clamp (by omega)
  rw [this]
  exact ⟨e, hL⟩
theorem ml80 {τ : Sg} (h : TLI τ) (hn : ¬ (up τ 0 8 0) 0 7 = 80) : (up τ 0 8 0) 0 7 = nI (ML τ) ∧ ML τ ≤ 79 := by
  obtain ⟨h1, h2⟩ := h.of
  refine ⟨h1, ?_⟩
  rcases Nat.lt_or_ge (ML τ) 80 with q | q
  · omega
  · exact absurd (by show τ 0 7 = 80; rw [h1, show ML τ = 80 by omega]; rfl) hn
theorem gb_le {τ : Sg} {j f : Nat} (hM : MI τ) (hj : j < 4) (hf : f ≤ 16) (h : ¬ f_X6_canGoBack (t_X6_isThere τ (nI j)) j f = 0) : f ≤ MLn (t_X6_record (t_X6_isThere τ (nI j))) j := by
  have e1 : MLn (t_X6_record (t_X6_isThere τ (nI j))) j = MLn (t_X6_isThere τ (nI j)) j := by unfold MLn; rw [rec_1]
  rw [e1]
  rcases Nat.lt_or_ge (MLn (t_X6_isThere τ (nI j)) j) f with q | q
  · exact absurd (by unfold f_X6_canGoBack; rw [if_neg (by omega)]) h
  · exact q
theorem ls_ne {τ : Sg} {j f : Nat} (hM : MI τ) (hj : j < 4) (hf : f < MLn τ j) : ¬ f_X6_in (nI f) 0 (f_X6_of (t_X6_isThere τ (nI j)) j 8 - 1) = 0 := by
  obtain ⟨h1, h2⟩ := hM.ln hj
  have e : f_X6_of (t_X6_isThere τ (nI j)) j 8 = nI (MLn τ j) := by
    rw [(isT_ok hj).2]
    exact h1
  rw [e, show nI (MLn τ j) - 1 = nI (MLn τ j - 1) from pk_sub (a := MLn τ j) (b := 1) (by omega)]
  exact in_ne (a := 0) (by omega) (by omega) (by omega)

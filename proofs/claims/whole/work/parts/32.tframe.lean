/-- only the snails' table moves -/
abbrev T1 : Nat → Nat → Prop := fun a _ => a = 1
theorem fT_lay {τ τ' : Sg} {j w : Nat} {v : Int32} (h : FrT T1 τ τ') : FrT T1 τ (t_X6_lay τ' j w v) := frT_up h rfl
theorem fT_grow {τ τ' : Sg} {j w : Nat} {v : Int32} (h : FrT T1 τ τ') : FrT T1 τ (t_X6_grow τ' j w v) := frT_up h rfl
theorem fT_turns {τ τ' : Sg} {j : Nat} {y : Int32} (h : FrT T1 τ τ') : FrT T1 τ (t_X6_turns τ' j y) := by
  unfold t_X6_turns
  repeat' split
  all_goals exact fT_lay h
theorem gfeels_T1 {j : Nat} {y w u v : Int32} : ∀ (n i : Nat) (τ τ0 : Sg), FrT T1 τ0 τ → FrT T1 τ0 (gt_X6_feels j y w u v n i τ) := by
  intro n
  induction n with
  | zero => exact fun i τ τ0 h => h
  | succ n ih =>
    intro i τ τ0 h
    rw [gt_X6_feels]
    split
    · repeat' split
      all_goals
        repeat first | with_reducible apply fT_turns | with_reducible apply fT_grow | with_reducible apply fT_lay | with_reducible exact h
    · exact ih _ _ _ (frT_up h rfl)
theorem feels_T1 {τ : Sg} {j : Nat} {y w : Int32} : FrT T1 τ (t_X6_feels τ j y w) := by
  unfold t_X6_feels
  repeat' split
  all_goals first | exact gfeels_T1 _ _ _ _ FrT.rf | skip
  all_goals
    repeat first | with_reducible apply fT_turns | with_reducible apply fT_grow | with_reducible apply fT_lay | with_reducible exact FrT.rf
theorem meets_T1 {τ : Sg} {j : Nat} : FrT T1 τ (t_X6_meets τ j) := by
  unfold t_X6_meets
  split
  all_goals exact fT_grow (fT_grow FrT.rf)
theorem ggoesBack_T1 {j f : Nat} : ∀ (n i : Nat) (τ τ0 : Sg), FrT T1 τ0 τ → FrT T1 τ0 (gt_X6_goesBack j f n i τ) := by
  intro n
  induction n with
  | zero => exact fun i τ τ0 h => h
  | succ n ih =>
    intro i τ τ0 h
    rw [gt_X6_goesBack]
    split
    · exact h
    · split
      all_goals
        apply ih
        repeat first | with_reducible apply fT_turns | with_reducible apply fT_grow | with_reducible apply fT_lay | with_reducible exact h
theorem goesBack_T1 {τ : Sg} {j f : Nat} : FrT T1 τ (t_X6_goesBack τ j f) := ggoesBack_T1 _ _ _ _ FrT.rf
theorem meets_row {τ : Sg} {j : Nat} (hM : MI τ) (hj : j < 4) : RowT j τ (t_X6_meets τ j) := by
  refine ⟨?_, MLn τ j, (hM.ln hj).2, ?_⟩
  · unfold t_X6_meets
    split
    all_goals exact frT_grow (frT_grow FrT.rf (by omega)) (by omega)
  · rw [← (hM.ln hj).1]
    unfold t_X6_meets
    split
    all_goals simp (disch := omega) only [grow8]
theorem MI.meets {τ : Sg} {j : Nat} (hM : MI τ) (hj : j < 4) : MI (t_X6_meets τ j) := hM.row hj (meets_row hM hj)
theorem ggoesBack_row {j f q : Nat} (hj : j < 4) (hq : q ≤ 16) (hf : f ≤ q) : ∀ (n i : Nat) (τ τ0 : Sg), FrT (snT j) τ0 τ → τ 1 (57 * j + 8) = nI (q - i) → i ≤ f → RowT j τ0 (gt_X6_goesBack j f n i τ) := by
  intro n
  induction n with
  | zero => exact fun i τ τ0 h h8 _ => ⟨h, q - i, by omega, h8⟩
  | succ n ih =>
    intro i τ τ0 h h8 hi
    rw [gt_X6_goesBack]
    split
    · exact ⟨h, q - i, by omega, h8⟩
    · rename_i c
      have b9 := (mlG h8 (by omega) hq).2
      split
      all_goals
        refine ih _ _ _ ?_ ?_ (by omega)
        · repeat first | with_reducible apply frT_turns | with_reducible apply frT_grow | with_reducible apply frT_lay | with_reducible exact h
          all_goals omega
        · simp (disch := omega) only [lay8, grow8, turns8]
          exact gm8 h8 (by omega)
theorem MI.goesBack {τ : Sg} {j f : Nat} (hM : MI τ) (hj : j < 4) (hfL : f ≤ MLn τ j) : MI (t_X6_goesBack τ j f) :=
  hM.row hj (ggoesBack_row hj (hM.ln hj).2 hfL _ _ _ _ FrT.rf (hM.ln hj).1 (by omega))
theorem gb_le' {τ : Sg} {j f : Nat} (h : ¬ f_X6_canGoBack τ j f = 0) : f ≤ MLn τ j := by
  rcases Nat.lt_or_ge (MLn τ j) f with q | q
  · exact absurd (by unfold f_X6_canGoBack; rw [if_neg (by omega)]) h
  · exact q
/-- what the reading of the text hangs on -/
def TxEq (τ τ' : Sg) : Prop := τ' 5 = τ 5 ∧ τ' 0 7 = τ 0 7 ∧ τ' 0 9 = τ 0 9 ∧ τ' 0 10 = τ 0 10 ∧ τ' 0 11 = τ 0 11
theorem TxEq.rf {τ : Sg} : TxEq τ τ := ⟨rfl, rfl, rfl, rfl, rfl⟩
theorem TxEq.tr {a b c : Sg} (h1 : TxEq a b) (h2 : TxEq b c) : TxEq a c :=
  ⟨h2.1.trans h1.1, h2.2.1.trans h1.2.1, h2.2.2.1.trans h1.2.2.1, h2.2.2.2.1.trans h1.2.2.2.1, h2.2.2.2.2.trans h1.2.2.2.2⟩
theorem TxEq.sy {a b : Sg} (h : TxEq a b) : TxEq b a := ⟨h.1.symm, h.2.1.symm, h.2.2.1.symm, h.2.2.2.1.symm, h.2.2.2.2.symm⟩
theorem TxEq.of {τ τ' : Sg} (h : FrT T1 τ τ') : TxEq τ τ' := ⟨funext fun b => h 5 b (by omega), h 0 7 (by omega), h 0 9 (by omega), h 0 10 (by omega), h 0 11 (by omega)⟩
theorem TxEq.up9 {a b : Sg} (h : TxEq a b) (v : Int32) : TxEq (up a 0 9 v) (up b 0 9 v) := by
  obtain ⟨h1, h2, h3, h4, h5⟩ := h
  refine ⟨funext fun i => ?_, ?_, ?_, ?_, ?_⟩ <;> simp [up, h1, h2, h3, h4, h5]
theorem TxEq.up10 {a b : Sg} (h : TxEq a b) (v : Int32) : TxEq (up a 0 10 v) (up b 0 10 v) := by
  obtain ⟨h1, h2, h3, h4, h5⟩ := h
  refine ⟨funext fun i => ?_, ?_, ?_, ?_, ?_⟩ <;> simp [up, h1, h2, h3, h4, h5]
theorem TxEq.up11 {a b : Sg} (h : TxEq a b) (v : Int32) : TxEq (up a 0 11 v) (up b 0 11 v) := by
  obtain ⟨h1, h2, h3, h4, h5⟩ := h
  refine ⟨funext fun i => ?_, ?_, ?_, ?_, ?_⟩ <;> simp [up, h1, h2, h3, h4, h5]
theorem TxEq.ma {a b : Sg} (h : TxEq a b) : MA b = MA a := by unfold MA; rw [h.2.2.1]
theorem TxEq.tt {a b : Sg} (h : TxEq a b) (ht : TT a) : TT b := by
  obtain ⟨⟨L, hL, e⟩, A, hA, e'⟩ := ht
  exact ⟨⟨L, hL, by rw [h.2.1]; exact e⟩, A, hA, by rw [h.2.2.1]; exact e'⟩
theorem sign_f {a b : Sg} (h : TxEq a b) (x y : Int32) : f_X6_sign b x y = f_X6_sign a x y := by
  unfold f_X6_sign
  simp only [up3, h.1, h.2.1, h.2.2.1, h.2.2.2.1, h.ma]
theorem sign_tx {a b : Sg} (h : TxEq a b) (x y : Int32) : TxEq (t_X6_sign a x y) (t_X6_sign b x y) := by
  have e := sign_f h x y
  rcases sgn a x y with ⟨h1, h2, h3, -⟩ | ⟨h1, h2⟩ <;> rcases sgn b x y with ⟨g1, g2, g3, -⟩ | ⟨g1, g2⟩
  · rw [h1, g1, h.2.2.1]; exact (h.up10 0).up9 _
  · rw [e, h.2.2.2.1] at g2; exact absurd (g2 h2) h3
  · rw [e, ] at g3; rw [h.2.2.2.1] at g2; exact absurd (h2 g2) g3
  · rw [h1, g1, h.2.2.1]; exact (h.up10 1).up9 _
theorem next_f {a b : Sg} (h : TxEq a b) (x y : Int32) : f_X6_isNext b x y = f_X6_isNext a x y := by
  unfold f_X6_isNext
  simp only [h.1, h.2.1, h.2.2.1, h.2.2.2.1, h.ma]
/-- a broken reading stays broken -/
theorem sgn_b {τ : Sg} {x y : Int32} (h : (t_X6_sign τ x y) 0 10 = 0) : τ 0 10 = 0 := by
  rcases sgn τ x y with ⟨-, h2, -⟩ | ⟨h1, -⟩
  · exact h2
  · rw [h1] at h
    exact absurd h (by simp [up])
theorem sgn_ma {τ : Sg} {x y : Int32} (ht : TT τ) (hx : (0 : Int32) < x) : MA τ ≤ MA (t_X6_sign τ x y) ∧ ((t_X6_sign τ x y) 0 10 = 0 → MA (t_X6_sign τ x y) = MA τ + 1) := by
  obtain ⟨h3, h4⟩ := ht.2.of
  rcases Classical.em ((t_X6_sign τ x y) 0 10 = 0) with hb | hb
  · obtain ⟨h1, -, h5, -⟩ := sgn_ok hx hb
    have e : MA (t_X6_sign τ x y) = MA τ + 1 := by
      have : (t_X6_sign τ x y) 0 9 = nI (MA τ + 1) := by rw [h1, up_eq, h3, nI_1]
      unfold MA at this ⊢
      rw [this]
      exact nI_clamp (by have := ma_lt ht h5; unfold MA at this; omega)
    exact ⟨by omega, fun _ => e⟩
  · have e : MA (t_X6_sign τ x y) = MA τ := by
      unfold MA
      rw [sgn_bad hb, up_eq, Int32.add_zero]
    exact ⟨by omega, fun q => absurd q hb⟩
theorem inc_ma {τ : Sg} {x y : Int32} (h : TT τ) (c : ¬ f_X6_isNext τ x y = 0) : MA (up τ 0 9 (τ 0 9 + 1)) = MA τ + 1 := by
  obtain ⟨h3, h4⟩ := h.2.of
  have hl := ma_lt h (nxt c).2.1
  have : (up τ 0 9 (τ 0 9 + 1)) 0 9 = nI (MA τ + 1) := by rw [up_eq, h3, nI_1]
  unfold MA at this hl ⊢
  rw [this]
  exact nI_clamp (by omega)

def FrT (P : Nat → Nat → Prop) (τ τ' : Sg) : Prop := ∀ a b, ¬ P a b → τ' a b = τ a b
theorem FrT.rf {P : Nat → Nat → Prop} {τ : Sg} : FrT P τ τ := fun _ _ _ => rfl
theorem FrT.tr {P : Nat → Nat → Prop} {τ τ' τ'' : Sg} (h1 : FrT P τ τ') (h2 : FrT P τ' τ'') : FrT P τ τ'' := fun a b h => (h2 a b h).trans (h1 a b h)
theorem frT_up {P : Nat → Nat → Prop} {τ τ' : Sg} {a b : Nat} {v : Int32} (h : FrT P τ τ') (hp : P a b) : FrT P τ (up τ' a b v) := fun a' b' hn => by
  have : ¬ (a' = a ∧ b' = b) := fun e => hn (by rw [e.1, e.2]; exact hp)
  show (if a' = a ∧ b' = b then v else τ' a' b') = τ a' b'
  rw [if_neg this]
  exact h a' b' hn
abbrev snT (j : Nat) : Nat → Nat → Prop := fun a b => a = 1 ∧ 57 * j ≤ b ∧ b < 57 * j + 57
theorem frT_lay {τ τ' : Sg} {j w : Nat} {v : Int32} (h : FrT (snT j) τ τ') (hw : w < 57) : FrT (snT j) τ (t_X6_lay τ' j w v) := frT_up h ⟨rfl, by omega, by omega⟩
theorem frT_grow {τ τ' : Sg} {j w : Nat} {v : Int32} (h : FrT (snT j) τ τ') (hw : w < 57) : FrT (snT j) τ (t_X6_grow τ' j w v) := frT_up h ⟨rfl, by omega, by omega⟩
theorem frT_turns {τ τ' : Sg} {j : Nat} {y : Int32} (h : FrT (snT j) τ τ') : FrT (snT j) τ (t_X6_turns τ' j y) := by
  unfold t_X6_turns
  repeat' split
  all_goals exact frT_lay h (by decide)
/-- a snail's row: what else there is stays; the log's length stays a length -/
def RowT (j : Nat) (τ τ' : Sg) : Prop := FrT (snT j) τ τ' ∧ ∃ l : Nat, l ≤ 16 ∧ τ' 1 (57 * j + 8) = nI l
theorem MI.row {τ τ' : Sg} {j : Nat} (h : MI τ) (hj : j < 4) (hr : RowT j τ τ') : MI τ' := by
  obtain ⟨h1, h2, h3⟩ := h
  obtain ⟨hf, l, hl, e⟩ := hr
  refine ⟨fun j' hj' => ?_, ?_, ?_⟩
  · by_cases hjj : j' = j
    · subst hjj
      exact ⟨l, hl, e⟩
    · rw [hf 1 (57 * j' + 8) (fun hs => by obtain ⟨-, a, b⟩ := hs; omega)]
      exact h1 j' hj'
  · rw [hf 1 229 (fun hs => by obtain ⟨-, a, b⟩ := hs; omega)]
    exact h2
  · rw [hf 0 2 (fun hs => by cases hs.1)]
    exact h3
theorem gfeels_row {j : Nat} {y w u v : Int32} (hj : j < 4) : ∀ (n i : Nat) (τ τ0 : Sg), FrT (snT j) τ0 τ → τ 1 (57 * j + 8) = 16 → 57 * j + 9 ≤ i → i ≤ 57 * j + 54 → RowT j τ0 (gt_X6_feels j y w u v n i τ) := by
  intro n
  induction n with
  | zero => exact fun i τ τ0 h h8 _ _ => ⟨h, 16, by omega, h8⟩
  | succ n ih =>
    intro i τ τ0 h h8 hi1 hi2
    rw [gt_X6_feels]
    have b9 := (mlA h8).2
    split
    · refine ⟨?_, 16, by omega, ?_⟩
      · repeat' split
        all_goals
          repeat first | apply frT_turns | apply frT_grow | apply frT_lay | exact h
          all_goals omega
      · repeat' split
        all_goals
          simp (disch := omega) only [lay8, turns8, grow8, grow_at]
          rw [h8]
          rfl
    · rename_i c
      exact ih _ _ _ (frT_up h ⟨rfl, by omega, by omega⟩) (by rw [up_nb (by omega)]; exact h8) (by omega) (by omega)
theorem feels_row {τ : Sg} {j : Nat} {y w : Int32} (hM : MI τ) (hj : j < 4) : RowT j τ (t_X6_feels τ j y w) := by
  unfold t_X6_feels
  by_cases c : f_X6_of τ j 8 = 16
  · rw [if_pos c]
    exact gfeels_row hj _ _ _ _ FrT.rf c (by omega) (by omega)
  · rw [if_neg c]
    obtain ⟨e9, b9⟩ := mlB hM hj c
    have e8 : τ 1 (57 * j + 8) = nI (MLn τ j) := e9
    refine ⟨?_, MLn τ j + 1, by omega, ?_⟩
    · repeat' split
      all_goals
        repeat first | apply frT_turns | apply frT_grow | apply frT_lay | exact FrT.rf
        all_goals omega
    · repeat' split
      all_goals
        simp (disch := omega) only [lay8, turns8, grow8, grow_at]
        rw [e8, nI_1]
theorem MI.feels {τ : Sg} {j : Nat} {y w : Int32} (hM : MI τ) (hj : j < 4) : MI (t_X6_feels τ j y w) := hM.row hj (feels_row hM hj)
theorem MI.up8 {τ : Sg} {v : Int32} (h : MI τ) : MI (up τ 0 8 v) := h
theorem isT_t (τ : Sg) (x : Int32) : ∃ v, t_X6_isThere τ x = up τ 0 8 v := by
  unfold t_X6_isThere
  repeat' split
  all_goals exact ⟨_, rfl⟩
theorem MI.isT {τ : Sg} {x : Int32} (h : MI τ) : MI (t_X6_isThere τ x) := by
  obtain ⟨v, e⟩ := isT_t τ x
  rw [e]
  exact h.up8
theorem grec51 {q : Nat} : ∀ (n i : Nat) (τ : Sg), (gt_X6_record_51 q n i τ) 1 = τ 1 ∧ ((gt_X6_record_51 q n i τ) 0 2 = τ 0 2 ∨ (gt_X6_record_51 q n i τ) 0 2 = τ 0 2 + 1) := by
  intro n
  induction n with
  | zero => exact fun i τ => ⟨rfl, Or.inl rfl⟩
  | succ n ih =>
    intro i τ
    rw [gt_X6_record_51]
    split
    · exact ⟨rfl, Or.inr rfl⟩
    · exact ih _ _
theorem grec10 : ∀ (n i : Nat) (τ : Sg), τ 0 2 = 4 → (gt_X6_record_10 n i τ) 1 = τ 1 ∧ ((gt_X6_record_10 n i τ) 0 2 = 3 ∨ (gt_X6_record_10 n i τ) 0 2 = 4) := by
  intro n
  induction n with
  | zero => exact fun i τ h => ⟨rfl, Or.inr h⟩
  | succ n ih =>
    intro i τ h
    rw [gt_X6_record_10]
    split
    · obtain ⟨h1, h2⟩ := grec51 (q := KN (up τ 0 2 ((τ 0 2) - 1))) 231 0 (up τ 0 2 ((τ 0 2) - 1))
      have e3 : (up τ 0 2 ((τ 0 2) - 1)) 0 2 = 3 := by rw [up_eq, h]; rfl
      rw [e3] at h2
      exact ⟨h1, h2⟩
    · exact ih _ _ h
theorem rec_1 {τ : Sg} : (t_X6_record τ) 1 = τ 1 := by
  unfold t_X6_record
  split
  · rename_i c
    exact (grec10 _ _ _ c).1
  · exact (grec51 _ _ _).1
theorem MI.rec {τ : Sg} (h : MI τ) : MI (t_X6_record τ) := by
  refine ⟨fun j hj => by rw [rec_1]; exact h.1 j hj, by rw [rec_1]; exact h.2.1, ?_⟩
  unfold t_X6_record
  split
  · rename_i c
    rcases (grec10 691 0 τ c).2 with e | e
    · exact ⟨3, by omega, e⟩
    · exact ⟨4, by omega, e⟩
  · rename_i c
    obtain ⟨e, hq⟩ := knB h c
    rcases (grec51 (q := KN τ) 231 0 τ).2 with e1 | e1
    · exact ⟨KN τ, by omega, by rw [e1, e]⟩
    · exact ⟨KN τ + 1, by omega, by rw [e1, e, nI_1]⟩
theorem in_1 {x a b : Int32} (h1 : a ≤ x) (h2 : x ≤ b) : f_X6_in x a b = 1 := by
  unfold f_X6_in
  repeat' split
  all_goals first | rfl | (rename_i c; exact absurd (Int32.not_le.mpr c) (by simp [h1, h2])) | (rename_i c _; exact absurd (Int32.not_le.mpr c) (by simp [h1, h2]))
theorem isT_ok {τ : Sg} {j : Nat} (hj : j < 4) : f_X6_isThere τ (nI j) = 1 ∧ t_X6_isThere τ (nI j) = up τ 0 8 0 := by
  have h0 : (0 : Int32) ≤ nI j := nI_pos' (by omega)
  have h3 : nI j ≤ 3 := (cI_le (x := nI j) (y := 3) (a := j) (b := 3) rfl rfl (by omega) (by omega)).mpr (by omega)
  unfold f_X6_isThere t_X6_isThere
  rw [in_1 h0 h3]
  exact ⟨by simp [up], rfl⟩
theorem isT_ne {τ : Sg} {j : Nat} (hj : j < 4) : ¬ f_X6_isThere τ (nI j) = 0 := by rw [(isT_ok hj).1]; decide
def InS (x : Int32) : Prop := ∃ j : Nat, j < 4 ∧ x = nI j
theorem in_0 {x a b : Int32} (h : ¬ (a ≤ x ∧ x ≤ b)) : f_X6_in x a b = 0 := by
  unfold f_X6_in
  repeat' split
  all_goals first | rfl | (exfalso; simp_all)
theorem isT_no {τ : Sg} {x : Int32} (hx : ¬ InS x) : f_X6_isThere τ x = 0 ∧ t_X6_isThere τ x = up τ 0 8 1 := by
  have h : f_X6_in x 0 3 = 0 := in_0 fun ⟨h1, h2⟩ => hx (by
    obtain ⟨j, hj, e⟩ := nI_of2 (M := 3) (n := 3) rfl (Int32.not_lt.mpr h1) h2
    exact ⟨j, by omega, e⟩)
  unfold f_X6_isThere t_X6_isThere
  rw [h]
  exact ⟨by simp [up], rfl⟩

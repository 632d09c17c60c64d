/-! the whole text read: the reader of the reference and the automaton -/
theorem pa59 {p : Int32} (h : ¬ f_X2_mayEnd p = 0) : f_X2_placeAfter p 59 = 0 := by
  unfold f_X2_placeAfter
  rw [if_pos rfl, if_neg h]
theorem Tx.ord {τ : Sg} {c : Nat → Int32} {L : Nat} (h : Tx τ c L) : Tx (t_X6_isOrdered_0 τ) c L := h.fr ord0_fr (fun b q => by cases q.1) (by omega)
theorem Tx.up11 {τ : Sg} {c : Nat → Int32} {L : Nat} {v : Int32} (h : Tx τ c L) : Tx (up τ 0 11 v) c L := h.fr (P := fun a b => a = 0 ∧ b = 11) (frT_up FrT.rf ⟨rfl, rfl⟩) (fun b q => by cases q.1) (by omega)
theorem Un.up11 {τ : Sg} {a : Nat} {v : Int32} (h : Un τ a) : Un (up τ 0 11 v) a := ⟨h.1, by rw [up_nb (by decide)]; exact h.2.1, by rw [up_nb (by decide)]; exact h.2.2⟩
theorem Br.up11 {τ : Sg} {a : Nat} {v : Int32} (h : Br τ a) : Br (up τ 0 11 v) a := ⟨h.1, by rw [up_nb (by decide)]; exact h.2.1, by rw [up_nb (by decide)]; exact h.2.2⟩
/-- where an order has been read and the text goes on -/
theorem fe_next {σ : Sg} {c : Nat → Int32} {L b : Nat} {p : Int32} (h : TxC σ c L) (hb : b < L) (hm : ¬ f_X2_mayEnd p = 0) (hp : ¬ Cc c L b = 59 → f_X2_placeAfter p (Cc c L b) = -1) : (Cc c L b = 59 ∧ FE σ L p b = FE σ L 0 (b + 1)) ∨ (¬ Cc c L b = 59 ∧ FE σ L p b = nI b) := by
  by_cases d : Cc c L b = 59
  · exact Or.inl ⟨d, fe_go h hb (by rw [d]; exact pa59 hm) (by decide)⟩
  · refine Or.inr ⟨d, ?_⟩
    rw [fe_lt h hb, if_pos (hp d)]
theorem go0_sp {σ : Sg} {c : Nat → Int32} {L : Nat} (h : TxC σ c L) : ∀ (n : Nat) (x : Int32) (t : Sg) (a : Nat), x = 1 → Un t a → Tx t c L → a ≤ L → 82 ≤ a + n → (∃ e, e ≤ L ∧ Br (gt_X6_go_0 n x t) e ∧ FE σ L 0 a = nI e) ∨ ((gt_X6_go_0 n x t) 0 10 = 0 ∧ FE σ L 0 a = -1) := by
  intro n
  induction n with
  | zero => intro x t a _ hu _ _ h2; exact absurd h2 (by have := hu.1; omega)
  | succ n ih =>
    intro x t a hx hu ht ha hn
    rw [gt_X6_go_0, if_neg (show ¬ x = 0 by rw [hx]; decide)]
    have hO := ord_sp (N := 82) (Nat.le_refl _) h hu ht ha
    rw [← tO0_eq] at hO
    have hT : Tx (t_X6_isOrdered_0 t) c L := ht.ord
    generalize t_X6_isOrdered_0 t = t1 at hO hT ⊢
    have hT' : Tx (up t1 0 11 (t1 0 11 + 1)) c L := hT.up11
    rcases hO with ⟨e, e1, e2, e3⟩ | ⟨b, p, b1, b2, b3, b4, b5, b6, -⟩
    · have e2' : Br (up t1 0 11 (t1 0 11 + 1)) e := e2.up11
      rw [if_neg e2'.2.1, go_00]
      exact Or.inl ⟨e, e1, e2', e3⟩
    · have b3' : Un (up t1 0 11 (t1 0 11 + 1)) b := b3.up11
      rw [if_pos b3'.2.1]
      have hle := b3'.le hT'
      by_cases d : L ≤ b
      · have : b = L := by omega
        subst this
        rw [if_pos (hle.mpr d), go_00]
        refine Or.inr ⟨b3'.2.1, ?_⟩
        rw [b4, fe_end h, if_neg b5]
      · rw [if_neg (fun q => d (hle.mp q))]
        rcases fe_next h (by omega) b5 (b6 (by omega)) with ⟨q1, q2⟩ | ⟨q1, q2⟩
        · obtain ⟨u1, -⟩ := s_ok (x := 59) (y := 59) b3' hT' (by decide) (in_one.mpr q1)
          rw [if_pos u1.2.1, b4, q2]
          exact ih 1 _ (b + 1) rfl u1 hT'.sign (by omega) (by omega)
        · have br := s_no (x := 59) (y := 59) b3' hT' (fun q => q1 (in_one.mp q))
          rw [if_neg br.2.1, go_00, b4, q2]
          exact Or.inl ⟨b, b2, br, rfl⟩
theorem Tx.go0 {τ : Sg} {c : Nat → Int32} {L : Nat} (h : Tx τ c L) : Tx (up (up (up τ 0 9 0) 0 10 0) 0 11 0) c L := h.fr (P := T3) (frT_up (frT_up (frT_up FrT.rf ⟨rfl, by omega⟩) ⟨rfl, by omega⟩) ⟨rfl, by omega⟩) (fun b q => by cases q.1) (by omega)
theorem Un.go0 {τ : Sg} : Un (up (up (up τ 0 9 0) 0 10 0) 0 11 0) 0 := ⟨by omega, rfl, rfl⟩
/-- the text read from its first sign -/
theorem go0_fe {σ τ : Sg} {c : Nat → Int32} {L : Nat} (h : TxC σ c L) (hx : Tx τ c L) : (∃ e, e ≤ L ∧ Br (t_X6_go_0 τ) e ∧ f_X2_firstError σ 93 = nI e) ∨ ((t_X6_go_0 τ) 0 10 = 0 ∧ f_X2_firstError σ 93 = -1) := by
  rw [fe_first h]
  unfold t_X6_go_0
  exact go0_sp h 83 1 _ 0 rfl Un.go0 hx.go0 (Nat.zero_le _) (by decide)
theorem RR.tx {n : Nat} {σ τ : Sg} (h : RR n σ τ) : ∃ L, TxC σ (τ 5) L ∧ Tx τ (τ 5) L := TxC.of h.2.2.2.1
theorem RR.fr3 {n : Nat} {σ τ τ' : Sg} (h : RR n σ τ) (hF : FrT T3 τ τ') : RR n σ τ' := by
  refine ⟨h.1.cg (fun _ _ _ => rfl) (fun b _ => hF 1 b (by omega)) (Nat.le_refl _), h.2.now (Nat.le_refl _) (fun _ _ => rfl) h.2.2.2.2.1 h.2.2.2.2.2 (hF.mono fun a b hp => ?_)⟩
  omega
theorem tl_8 {τ : Sg} {c : Nat → Int32} {L : Nat} {v : Int32} (h : Tx τ c L) : Tx (up τ 0 8 v) c L := h.fr (P := fun a b => a = 0 ∧ b = 8) (frT_up FrT.rf ⟨rfl, rfl⟩) (fun b q => by cases q.1) (by omega)
theorem op_textError {n : Nat} {σ τ : Sg} (h : RR n σ τ) : f_X5_textError σ 0 = f_X6_textError τ ∧ RR (n + 1) σ (t_X6_textError τ) ∧ (t_X6_textError τ) 0 8 = 0 := by
  obtain ⟨L, h1, h2⟩ := h.tx
  have e : t_X6_textError τ = t_X6_go_0 (up τ 0 8 0) := by
    unfold t_X6_textError
    split <;> rfl
  refine ⟨?_, ?_, ?_⟩
  · unfold f_X5_textError f_X6_textError
    show f_X2_firstError σ 93 = _
    rcases go0_fe h1 (tl_8 (v := 0) h2) with ⟨e, -, e2, e3⟩ | ⟨e1, e2⟩
    · rw [if_neg e2.2.1, e3, e2.2.2]
    · rw [if_pos e1, e2]
  · rw [e]
    exact ((h.up8 (v := 0)).fr3 go0_fr).nx
  · rw [e, go0_fr 0 8 (by omega), up_eq]

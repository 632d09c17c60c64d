/-- the shape of an order from a to b -/
def Sh (c : Nat → Int32) (L a b : Nat) : Prop :=
  (48 ≤ Cc c L a ∧ Cc c L a ≤ 51) ∧ ((Cc c L (a + 1) = 58 ∧ a + 3 ≤ b ∧ ∀ i, a + 2 ≤ i → i < b → 48 ≤ Cc c L i ∧ Cc c L i ≤ 51) ∨ (Cc c L (a + 1) = 109 ∧ b = a + 2) ∨ (Cc c L (a + 1) = 98 ∧ Cc c L (a + 2) = 49 ∧ (48 ≤ Cc c L (a + 3) ∧ Cc c L (a + 3) ≤ 54) ∧ b = a + 4) ∨ (Cc c L (a + 1) = 98 ∧ (49 ≤ Cc c L (a + 2) ∧ Cc c L (a + 2) ≤ 57) ∧ (Cc c L (a + 2) = 49 → ¬ (48 ≤ Cc c L (a + 3) ∧ Cc c L (a + 3) ≤ 54)) ∧ b = a + 3))
/-- what reading one order comes to -/
def OS (σ : Sg) (c : Nat → Int32) (L a : Nat) (f : Int32) (t : Sg) : Prop :=
  (∃ e, e ≤ L ∧ Br t e ∧ f = nI e) ∨ (∃ b p, a < b ∧ b ≤ L ∧ Un t b ∧ f = FE σ L p b ∧ ¬ f_X2_mayEnd p = 0 ∧ (b < L → ¬ Cc c L b = 59 → f_X2_placeAfter p (Cc c L b) = -1) ∧ Sh c L a b)
theorem pa0 {y : Int32} (h : 48 ≤ y ∧ y ≤ 51) : f_X2_placeAfter 0 y = 1 := by
  unfold f_X2_placeAfter
  rw [if_neg (ne59 h (by decide)), if_pos rfl, if_neg (btw1 h)]
theorem pa0n {y : Int32} (h : ¬ (48 ≤ y ∧ y ≤ 51)) : f_X2_placeAfter 0 y = -1 := by
  unfold f_X2_placeAfter
  by_cases c : y = 59
  · rw [if_pos c]; rfl
  · rw [if_neg c, if_pos rfl, if_pos (btw0 h)]
theorem pa2 {y : Int32} (h : 48 ≤ y ∧ y ≤ 51) : f_X2_placeAfter 2 y = 3 := by
  unfold f_X2_placeAfter
  rw [if_neg (ne59 h (by decide)), if_neg (by decide), if_neg (by decide), if_pos rfl, if_neg (btw1 h)]
theorem pa2n {y : Int32} (h : ¬ (48 ≤ y ∧ y ≤ 51)) : f_X2_placeAfter 2 y = -1 := by
  unfold f_X2_placeAfter
  by_cases c : y = 59
  · rw [if_pos c]; rfl
  · rw [if_neg c, if_neg (by decide), if_neg (by decide), if_pos rfl, if_pos (btw0 h)]
theorem pa3 {y : Int32} (h : 48 ≤ y ∧ y ≤ 51) : f_X2_placeAfter 3 y = 3 := by
  unfold f_X2_placeAfter
  rw [if_neg (ne59 h (by decide)), if_neg (by decide), if_neg (by decide), if_neg (by decide), if_pos rfl, if_neg (btw1 h)]
theorem pa3n {y : Int32} (h : ¬ (48 ≤ y ∧ y ≤ 51)) (c : ¬ y = 59) : f_X2_placeAfter 3 y = -1 := by
  unfold f_X2_placeAfter
  rw [if_neg c, if_neg (by decide), if_neg (by decide), if_neg (by decide), if_pos rfl, if_pos (btw0 h)]
theorem pa1n {y : Int32} (h1 : ¬ y = 58) (h2 : ¬ y = 98) (h3 : ¬ y = 109) : f_X2_placeAfter 1 y = -1 := by
  unfold f_X2_placeAfter f_X2_placeAfterSnail
  by_cases c : y = 59
  · rw [if_pos c]; rfl
  · rw [if_neg c, if_neg (by decide), if_pos rfl, if_neg h1, if_neg h2, if_neg h3]
theorem pa4 {y : Int32} (h : 49 ≤ y ∧ y ≤ 57) : f_X2_placeAfter 4 y = if y = 49 then 5 else 6 := by
  unfold f_X2_placeAfter
  rw [if_neg (ne59 h (by decide)), if_neg (by decide), if_neg (by decide), if_neg (by decide), if_neg (by decide), if_pos rfl]
  by_cases c : y = 49
  · rw [if_pos c, if_pos c]
  · rw [if_neg c, if_neg c, if_neg]
    refine btw1 ⟨?_, h.2⟩
    have h1 := h.1
    rw [Int32.le_iff_toInt_le] at h1 ⊢
    have : y.toInt ≠ (49 : Int32).toInt := fun q => c (Int32.toInt_inj.mp q)
    rw [show (49 : Int32).toInt = 49 from rfl] at h1 this
    rw [show (50 : Int32).toInt = 50 from rfl]
    omega
theorem pa4n {y : Int32} (h : ¬ (49 ≤ y ∧ y ≤ 57)) : f_X2_placeAfter 4 y = -1 := by
  unfold f_X2_placeAfter
  by_cases c : y = 59
  · rw [if_pos c]; rfl
  · rw [if_neg c, if_neg (by decide), if_neg (by decide), if_neg (by decide), if_neg (by decide), if_pos rfl, if_neg, if_pos]
    · refine btw0 (fun q => h ⟨?_, q.2⟩)
      exact Int32.le_trans (by decide) q.1
    · intro e
      exact h (by rw [e]; exact ⟨by decide, by decide⟩)
theorem pa5 {y : Int32} (h : 48 ≤ y ∧ y ≤ 54) : f_X2_placeAfter 5 y = 6 := by
  unfold f_X2_placeAfter
  rw [if_neg (ne59 h (by decide)), if_neg (by decide), if_neg (by decide), if_neg (by decide), if_neg (by decide), if_neg (by decide), if_pos rfl, if_neg (btw1 h)]
theorem pa5n {y : Int32} (h : ¬ (48 ≤ y ∧ y ≤ 54)) (c : ¬ y = 59) : f_X2_placeAfter 5 y = -1 := by
  unfold f_X2_placeAfter
  rw [if_neg c, if_neg (by decide), if_neg (by decide), if_neg (by decide), if_neg (by decide), if_neg (by decide), if_pos rfl, if_pos (btw0 h)]
theorem pa6n {y : Int32} (c : ¬ y = 59) : f_X2_placeAfter 6 y = -1 := by
  unfold f_X2_placeAfter
  rw [if_neg c, if_neg (by decide), if_neg (by decide), if_neg (by decide), if_neg (by decide), if_neg (by decide), if_neg (by decide)]
theorem in_one {x y : Int32} : (x ≤ y ∧ y ≤ x) ↔ y = x := ⟨fun h => Int32.le_antisymm h.2 h.1, fun h => by rw [h]; exact ⟨Int32.le_refl _, Int32.le_refl _⟩⟩
/-- the feelings of an order -/
theorem gord_sp {σ : Sg} {c : Nat → Int32} {L : Nat} {y : Int32} (h : TxC σ c L) : ∀ (n : Nat) (x : Int32) (t : Sg) (i : Nat), x = 1 → Un t i → Tx t c L → i ≤ L → L + 1 ≤ i + n → ∃ b, i ≤ b ∧ b ≤ L ∧ Un (gt_X6_isOrdered_0 y n x t) b ∧ FE σ L 3 i = FE σ L 3 b ∧ ¬ (48 ≤ Cc c L b ∧ Cc c L b ≤ 51) ∧ ∀ q, i ≤ q → q < b → 48 ≤ Cc c L q ∧ Cc c L q ≤ 51 := by
  intro n
  induction n with
  | zero => intro x t i _ _ _ h1 h2; exact absurd h2 (by omega)
  | succ n ih =>
    intro x t i hx hu ht h1 h2
    rw [gt_X6_isOrdered_0, if_neg (show ¬ x = 0 by rw [hx]; decide)]
    by_cases d : 48 ≤ Cc c L i ∧ Cc c L i ≤ 51
    · have hn : ¬ f_X6_isNext t 48 51 = 0 := fun q => (n_un hu ht (by decide)).mp q d
      obtain ⟨hu', hl⟩ := s_ok hu ht (by decide) d
      rw [if_neg hn, felt0_f, felt0_t]
      obtain ⟨b, b1, b2, b3, b4, b5, b6⟩ := ih 1 (t_X6_sign t 48 51) (i + 1) rfl hu' ht.sign (by omega) (by omega)
      refine ⟨b, by omega, b2, b3, (fe_go h hl (pa3 d) (by decide)).trans b4, b5, fun q q1 q2 => ?_⟩
      rcases Nat.lt_or_ge i q with r | r
      · exact b6 q (by omega) q2
      · rw [show q = i by omega]; exact d
    · rw [if_pos ((n_un hu ht (by decide)).mpr d)]
      exact ⟨i, Nat.le_refl _, h1, hu, rfl, d, fun q q1 q2 => absurd q2 (by omega)⟩
theorem gord_br {y : Int32} : ∀ (n : Nat) (x : Int32) (t : Sg) (i : Nat), Br t i → Br (gt_X6_isOrdered_0 y n x t) i := by
  intro n
  induction n with
  | zero => intro x t i h; exact h
  | succ n ih =>
    intro x t i h
    rw [gt_X6_isOrdered_0]
    split
    · exact h
    · rw [if_pos (n_br h)]
      exact h
theorem un_inc {t : Sg} {a L : Nat} {c : Nat → Int32} (h : Un t a) (hx : Tx t c L) (ha : a < L) : Un (up t 0 9 (t 0 9 + 1)) (a + 1) := ⟨by have := hx.2.1; omega, by rw [up_nb (by decide)]; exact h.2.1, by rw [up_eq, h.2.2, nI_1]⟩
theorem Tx.inc {t : Sg} {c : Nat → Int32} {L : Nat} (h : Tx t c L) : Tx (up t 0 9 (t 0 9 + 1)) c L := h.fr (P := fun a b => a = 0 ∧ b = 9) (frT_up FrT.rf ⟨rfl, rfl⟩) (fun b q => by cases q.1) (by omega)
theorem ord_c {σ t : Sg} {c : Nat → Int32} {L a : Nat} {y : Int32} (h : TxC σ c L) (u1 : Un t (a + 1)) (x1 : Tx t c L) (bl : a + 1 < L) (d : 48 ≤ Cc c L a ∧ Cc c L a ≤ 51) (d58 : Cc c L (a + 1) = 58) (N : Nat) (s : Sg) (hs : s = t_X6_sign (up t 0 9 (t 0 9 + 1)) 48 51) (hN : 82 ≤ N) : OS σ c L a (FE σ L 2 (a + 1 + 1)) (gt_X6_isOrdered_0 y N 1 s) := by
  subst hs
  have hL := x1.2.1
  have u2 := un_inc u1 x1 bl
  have x2 := x1.inc
  by_cases e : 48 ≤ Cc c L (a + 1 + 1) ∧ Cc c L (a + 1 + 1) ≤ 51
  · obtain ⟨u3, cl⟩ := s_ok u2 x2 (by decide) e
    obtain ⟨b, b1, b2, b3, b4, b5, b6⟩ := gord_sp (y := y) h N 1 _ (a + 1 + 1 + 1) rfl u3 x2.sign (by omega) (by omega)
    rw [fe_go h cl (pa2 e) (by decide), b4]
    refine Or.inr ⟨b, 3, by omega, b2, b3, rfl, by decide, fun _ q => pa3n b5 q, d, Or.inl ⟨d58, by omega, fun i i1 i2 => ?_⟩⟩
    rcases Nat.lt_or_ge (a + 2) i with r | r
    · exact b6 i (by omega) i2
    · rw [show i = a + 1 + 1 by omega]; exact e
  · have br := s_no u2 x2 (x := 48) (y := 51) e
    exact Or.inl ⟨a + 1 + 1, by omega, gord_br _ _ _ _ br, fe_no h (by omega) rfl (fun _ => pa2n e)⟩
theorem ite_id {p : Prop} [Decidable p] {α : Type} (x : α) : (if p then x else x) = x := by split <;> rfl
/-- the order read, its loop's bound a letter -/
def tO0 (N : Nat) (τ : Sg) : Sg :=
  if (f_X6_isNext (t_X6_sign τ 48 51) 58 58) = 0 then
    if (f_X6_isNext (t_X6_sign τ 48 51) 109 109) = 0 then
      if ((f_X6_sign (t_X6_sign (t_X6_sign τ 48 51) 98 98) 49 57) - 48) = 1 then
        if (f_X6_isNext (t_X6_sign (t_X6_sign (t_X6_sign τ 48 51) 98 98) 49 57) 48 54) = 0 then
          t_X6_sign (t_X6_sign (t_X6_sign τ 48 51) 98 98) 49 57
        else
          t_X6_sign (t_X6_sign (t_X6_sign (t_X6_sign τ 48 51) 98 98) 49 57) 48 54
      else
        t_X6_sign (t_X6_sign (t_X6_sign τ 48 51) 98 98) 49 57
    else
      up (t_X6_sign τ 48 51) 0 9 (((t_X6_sign τ 48 51) 0 9) + 1)
  else
    gt_X6_isOrdered_0 ((f_X6_sign τ 48 51) - 48) N (f_X6_isFelt_0 (up (t_X6_sign τ 48 51) 0 9 (((t_X6_sign τ 48 51) 0 9) + 1)) ((f_X6_sign τ 48 51) - 48)) (t_X6_isFelt_0 (up (t_X6_sign τ 48 51) 0 9 (((t_X6_sign τ 48 51) 0 9) + 1)) ((f_X6_sign τ 48 51) - 48))
theorem tO0_eq (τ : Sg) : t_X6_isOrdered_0 τ = tO0 82 τ := rfl
theorem ord_sp {σ t : Sg} {c : Nat → Int32} {L a : Nat} {N : Nat} (hN : 82 ≤ N) (h : TxC σ c L) (hu : Un t a) (hx : Tx t c L) (ha : a ≤ L) : OS σ c L a (FE σ L 0 a) (tO0 N t) := by
  unfold tO0
  have hL := hx.2.1
  by_cases d : 48 ≤ Cc c L a ∧ Cc c L a ≤ 51
  · obtain ⟨u1, al⟩ := s_ok hu hx (by decide) d
    have x1 := hx.sign (x := 48) (y := 51)
    have f1 := fe_go h al (pa0 d) (by decide)
    rw [f1]
    by_cases d58 : Cc c L (a + 1) = 58
    · have hn : ¬ f_X6_isNext (t_X6_sign t 48 51) 58 58 = 0 := fun q => (n_un u1 x1 (by decide)).mp q (in_one.mpr d58)
      have bl : a + 1 < L := cc_lt (x := 58) (by decide) (by rw [d58]; decide)
      rw [if_neg hn, felt0_f, felt0_t]
      rw [fe_go h bl (p' := 2) (by rw [d58]; rfl) (by decide)]
      exact ord_c h u1 x1 bl d d58 N _ rfl hN
    · have hn : f_X6_isNext (t_X6_sign t 48 51) 58 58 = 0 := (n_un u1 x1 (by decide)).mpr (fun q => d58 (in_one.mp q))
      rw [if_pos hn]
      by_cases d109 : Cc c L (a + 1) = 109
      · have hn2 : ¬ f_X6_isNext (t_X6_sign t 48 51) 109 109 = 0 := fun q => (n_un u1 x1 (by decide)).mp q (in_one.mpr d109)
        have bl : a + 1 < L := cc_lt (x := 109) (by decide) (by rw [d109]; decide)
        rw [if_neg hn2, fe_go h bl (p' := 6) (by rw [d109]; rfl) (by decide)]
        exact Or.inr ⟨a + 1 + 1, 6, by omega, by omega, un_inc u1 x1 bl, rfl, by decide, fun _ q => pa6n q, d, Or.inr (Or.inl ⟨d109, rfl⟩)⟩
      · have hn2 : f_X6_isNext (t_X6_sign t 48 51) 109 109 = 0 := (n_un u1 x1 (by decide)).mpr (fun q => d109 (in_one.mp q))
        rw [if_pos hn2]
        by_cases d98 : Cc c L (a + 1) = 98
        · obtain ⟨u2, bl⟩ := s_ok u1 x1 (x := 98) (y := 98) (by decide) (in_one.mpr d98)
          have x2 := x1.sign (x := 98) (y := 98)
          rw [fe_go h bl (p' := 4) (by rw [d98]; rfl) (by decide), s_f u2 x2]
          by_cases e : 49 ≤ Cc c L (a + 1 + 1) ∧ Cc c L (a + 1 + 1) ≤ 57
          · obtain ⟨u3, cl⟩ := s_ok u2 x2 (by decide) e
            have x3 := x2.sign (x := 49) (y := 57)
            by_cases e1 : Cc c L (a + 1 + 1) = 49
            · rw [fe_go h cl (p' := 5) (by rw [pa4 e, if_pos e1]) (by decide), if_pos (by rw [e1]; decide)]
              by_cases g : 48 ≤ Cc c L (a + 1 + 1 + 1) ∧ Cc c L (a + 1 + 1 + 1) ≤ 54
              · obtain ⟨u4, dl⟩ := s_ok u3 x3 (by decide) g
                have hn3 : ¬ f_X6_isNext (t_X6_sign (t_X6_sign (t_X6_sign t 48 51) 98 98) 49 57) 48 54 = 0 := fun q => (n_un u3 x3 (by decide)).mp q g
                rw [if_neg hn3, fe_go h dl (pa5 g) (by decide)]
                exact Or.inr ⟨a + 1 + 1 + 1 + 1, 6, by omega, by omega, u4, rfl, by decide, fun _ q => pa6n q, d, Or.inr (Or.inr (Or.inl ⟨d98, e1, g, rfl⟩))⟩
              · have hn3 : f_X6_isNext (t_X6_sign (t_X6_sign (t_X6_sign t 48 51) 98 98) 49 57) 48 54 = 0 := (n_un u3 x3 (by decide)).mpr g
                rw [if_pos hn3]
                exact Or.inr ⟨a + 1 + 1 + 1, 5, by omega, by omega, u3, rfl, by decide, fun _ q => pa5n g q, d, Or.inr (Or.inr (Or.inr ⟨d98, e, fun _ => g, rfl⟩))⟩
            · have hne : ¬ Cc c L (a + 1 + 1) - 48 = 1 := fun q => e1 (by
                have : Cc c L (a + 1 + 1) = (Cc c L (a + 1 + 1) - 48) + 48 := (Int32.sub_add_cancel _ _).symm
                rw [this, q]
                decide)
              rw [fe_go h cl (p' := 6) (by rw [pa4 e, if_neg e1]) (by decide), if_neg hne]
              exact Or.inr ⟨a + 1 + 1 + 1, 6, by omega, by omega, u3, rfl, by decide, fun _ q => pa6n q, d, Or.inr (Or.inr (Or.inr ⟨d98, e, fun q => absurd q e1, rfl⟩))⟩
          · have br := s_no u2 x2 (x := 49) (y := 57) e
            have hf : FE σ L 4 (a + 1 + 1) = nI (a + 1 + 1) := fe_no h (by omega) rfl (fun _ => pa4n e)
            rw [hf, n_br br]
            refine Or.inl ⟨a + 1 + 1, by omega, ?_, rfl⟩
            rw [if_pos rfl, ite_id]
            exact br
        · have br := s_no u1 x1 (x := 98) (y := 98) (fun q => d98 (in_one.mp q))
          have br3 := s_br (x := 49) (y := 57) br
          have hf : FE σ L 1 (a + 1) = nI (a + 1) := fe_no h (by omega) rfl (fun _ => pa1n d58 d98 d109)
          rw [hf, n_br br3]
          refine Or.inl ⟨a + 1, by omega, ?_, rfl⟩
          rw [if_pos rfl, ite_id]
          exact br3
  · have br := s_no hu hx (x := 48) (y := 51) d
    have br3 := s_br (x := 49) (y := 57) (s_br (x := 98) (y := 98) br)
    have hf : FE σ L 0 a = nI a := fe_no h ha rfl (fun _ => pa0n d)
    rw [hf, if_pos (n_br br), if_pos (n_br br), n_br br3]
    refine Or.inl ⟨a, ha, ?_, rfl⟩
    rw [if_pos rfl, ite_id]
    exact br3

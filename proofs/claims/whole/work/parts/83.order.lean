/-! one order, carried out by both -/
theorem TxC.fr {σ σ' : Sg} {c : Nat → Int32} {L : Nat} (h : TxC σ c L) (h1 : σ' 93 = σ 93) (h2 : σ' 94 = σ 94) : TxC σ' c L := by
  refine ⟨h.1, by rw [h1]; exact h.2.1, fun i hi => ?_⟩
  rw [← h.2.2 i hi]
  unfold f_X2_sign
  rw [h1, show σ' (93 + 1) = σ (93 + 1) from h2]
theorem cc_ge {c : Nat → Int32} {L i : Nat} (h : L ≤ i) : Cc c L i = 0 := if_neg (by omega)
/-- a sign that is a number's -/
theorem dgo_of {y : Int32} {m : Nat} (hm : m ≤ 9) (h : 48 ≤ y ∧ y ≤ nI (48 + m)) : ∃ q, q ≤ m ∧ y = nI (48 + q) ∧ y - 48 = nI q := by
  have h1 := h.1
  have h2 := h.2
  rw [Int32.le_iff_toInt_le] at h1 h2
  rw [show (48 : Int32).toInt = 48 from rfl] at h1
  rw [nI_int (by omega)] at h2
  have e : y = nI (48 + (y.toInt.toNat - 48)) := Int32.toInt_inj.mp (by rw [nI_int (by omega)]; omega)
  refine ⟨y.toInt.toNat - 48, by omega, e, ?_⟩
  conv => lhs; rw [e]
  have := pk_sub (a := 48 + (y.toInt.toNat - 48)) (b := 48) (by omega)
  rw [Nat.add_sub_cancel_left] at this
  exact this
theorem dig4 {y : Int32} (h : 48 ≤ y ∧ y ≤ 51) : ∃ q, q < 4 ∧ y - 48 = nI q ∧ St (y - 48) := by
  obtain ⟨q, q1, q2, q3⟩ := dgo_of (y := y) (m := 3) (by omega) h
  refine ⟨q, by omega, q3, ?_⟩
  rw [q3]
  have : q = 0 ∨ q = 1 ∨ q = 2 ∨ q = 3 := by omega
  rcases this with rfl | rfl | rfl | rfl
  · exact Or.inl rfl
  · exact Or.inr (Or.inl rfl)
  · exact Or.inr (Or.inr (Or.inl rfl))
  · exact Or.inr (Or.inr (Or.inr rfl))
/-- where an order ends -/
theorem geo {σ : Sg} {c : Nat → Int32} {L b : Nat} (h : TxC σ c L) (hb : b ≤ L) (hB : b = L ∨ Cc c L b = 59) : ∀ (n i : Nat), i ≤ b → b + 1 ≤ i + n → (∀ q, i ≤ q → q < b → ¬ Cc c L q = 59) → gf_X2_endOfOrder σ 93 L n i = nI b := by
  have hL := h.1
  intro n
  induction n with
  | zero => intro i h1 h2; exact absurd h2 (by omega)
  | succ n ih =>
    intro i h1 h2 hn
    rw [gf_X2_endOfOrder]
    by_cases d : L ≤ i
    · rw [if_pos d, show b = L by omega]
    · rw [if_neg d, h.2.2 i (by omega)]
      by_cases e : i = b
      · subst e
        rcases hB with q | q
        · exact absurd q (by omega)
        · rw [if_pos q]
      · rw [if_neg (hn i (Nat.le_refl _) (by omega))]
        exact ih (i + 1) (by omega) (by omega) (fun q q1 q2 => hn q (by omega) q2)
theorem tl_of {σ : Sg} {c : Nat → Int32} {L : Nat} (h : TxC σ c L) : TL σ 93 = L := by
  unfold TL
  rw [h.2.1]
  exact nI_clamp (by have := h.1; omega)
theorem eoe_of {σ : Sg} {c : Nat → Int32} {L a b : Nat} (h : TxC σ c L) (ha : a ≤ b) (hb : b ≤ L) (hB : b = L ∨ Cc c L b = 59) (hn : ∀ q, a ≤ q → q < b → ¬ Cc c L q = 59) : EO σ 93 a = b := by
  unfold EO f_X2_endOfOrder
  have hL := h.1
  rw [tl_of h, geo h hb hB 81 a ha (by omega) hn]
  exact nI_clamp (by omega)
theorem sgn_1 {t : Sg} {x y : Int32} : (t_X6_sign t x y) 1 = t 1 := funext fun b => sgn_fr t x y 1 b (by omega)
theorem up0_1 {t : Sg} {i : Nat} {v : Int32} : (up t 0 i v) 1 = t 1 := up_ne (by decide)
theorem sgn_2 {t : Sg} {x y : Int32} : (t_X6_sign t x y) 0 2 = t 0 2 := sgn_fr t x y 0 2 (by omega)
theorem fl_1 {τ : Sg} {j : Nat} {y w : Int32} (h1 : ∀ b, τ 5 b = τ 5 b) : (t_X6_feels τ j y w) 0 9 = τ 0 9 ∧ (t_X6_feels τ j y w) 0 10 = τ 0 10 := ⟨feels_T1 0 9 (by decide), feels_T1 0 10 (by decide)⟩
theorem Un.t1 {τ τ' : Sg} {a : Nat} (h : Un τ a) (hF : FrT T1 τ τ') : Un τ' a := ⟨h.1, by rw [hF 0 10 (by decide)]; exact h.2.1, by rw [hF 0 9 (by decide)]; exact h.2.2⟩
theorem Tx.t1 {τ τ' : Sg} {c : Nat → Int32} {L : Nat} (h : Tx τ c L) (hF : FrT T1 τ τ') : Tx τ' c L := h.fr hF (fun b q => by cases q) (by decide)
/-- the feelings of one order -/
theorem gfeel {c : Nat → Int32} {L b B j : Nat} {r : Int32} (hj : j < 4) (hb : b ≤ L) (hB : B + 400 ≤ 2000000000) (hr : ¬ (48 ≤ Cc c L b ∧ Cc c L b ≤ 51)) : ∀ (n m i : Nat) (σ t : Sg), TxC σ c L → i ≤ b → b + 1 ≤ i + n → b + 1 ≤ i + m → (∀ q, i ≤ q → q < b → 48 ≤ Cc c L q ∧ Cc c L q ≤ 51) → Un t i → Tx t c L → (∃ q : Nat, q ≤ 4 ∧ t 0 2 = nI q) → σ 14 4 = r → GR σ 14 (t 1) (B + 2 * i) →
    gf_X5_feelAll 0 (14 + 1 + 3 * j) r b n i σ = gf_X6_isOrdered_1 j m 1 t ∧ (∀ q, q < 15 ∨ 27 ≤ q → gs_X5_feelAll 0 (14 + 1 + 3 * j) r b n i σ q = σ q) ∧ (¬ gf_X6_isOrdered_1 j m 1 t = 0 → GR (gs_X5_feelAll 0 (14 + 1 + 3 * j) r b n i σ) 14 ((gt_X6_isOrdered_1 j m 1 t) 1) (B + 2 * b)) := by
  intro n
  induction n with
  | zero => intro m i σ t _ h1 h2; exact absurd h2 (by omega)
  | succ n ih =>
    intro m i σ t hC h1 h2 h3 hs hu hx hk hσ hG
    obtain ⟨m, rfl⟩ : ∃ a, m = a + 1 := ⟨m - 1, by omega⟩
    have hL := hC.1
    rw [gf_X5_feelAll, gs_X5_feelAll, gf_X6_isOrdered_1, gt_X6_isOrdered_1, if_neg (show ¬ (1 : Int32) = 0 by decide), if_neg (show ¬ (1 : Int32) = 0 by decide)]
    by_cases d : b ≤ i
    · have : i = b := by omega
      subst this
      have e := (n_un hu hx (x := 48) (y := 51) (by decide)).mpr hr
      rw [if_pos d, if_pos d, if_pos e, if_pos e]
      exact ⟨rfl, fun _ _ => rfl, fun _ => hG⟩
    · have hi := hs i (Nat.le_refl _) (by omega)
      have e : ¬ f_X6_isNext t 48 51 = 0 := fun q => (n_un hu hx (by decide)).mp q hi
      obtain ⟨u1, il⟩ := s_ok hu hx (x := 48) (y := 51) (by decide) hi
      rw [if_neg d, if_neg d, if_neg e, if_neg e]
      have ed : f_X2_digit σ (0 + 93) (nI i) = Cc c L i - 48 := by
        show f_X2_digit σ 93 (nI i) = _
        unfold f_X2_digit
        rw [hC.2.2 i (by omega)]
      obtain ⟨-, -, -, hy⟩ := dig4 hi
      have x1 := hx.sign (x := 48) (y := 51)
      have hG1 : GR σ 14 ((t_X6_sign t 48 51) 1) (B + 2 * i) := by rw [sgn_1]; exact hG
      have hk1 : ∃ q : Nat, q ≤ 4 ∧ (t_X6_sign t 48 51) 0 2 = nI q := by rw [sgn_2]; exact hk
      obtain ⟨e1, -⟩ := step_gr (τ := t_X6_sign t 48 51) hG1 hj hy
      rw [hσ] at e1
      have er := room_gr (τ := t_X6_sign t 48 51) (y := Cc c L i - 48) (w := 1) hG1 hj
      rw [ed, e1, er]
      have ef : f_X6_isFelt_1 t j = f_X6_canFeel (t_X6_sign t 48 51) j (Cc c L i - 48) 1 := by
        unfold f_X6_isFelt_1
        rw [if_pos u1.2.1, s_f hu hx]
        split <;> rfl
      have et : t_X6_isFelt_1 t j = if f_X6_canFeel (t_X6_sign t 48 51) j (Cc c L i - 48) 1 = 0 then t_X6_sign t 48 51 else t_X6_feels (t_X6_sign t 48 51) j (Cc c L i - 48) 1 := by
        unfold t_X6_isFelt_1
        rw [if_pos u1.2.1, s_f hu hx]
      rw [ef, et]
      by_cases c3 : f_X6_canFeel (t_X6_sign t 48 51) j (Cc c L i - 48) 1 = 0
      · rw [if_pos c3, if_pos c3, if_pos c3, c3]
        have z : ∀ m t, gf_X6_isOrdered_1 j m 0 t = 0 := by
          intro m t
          cases m with
          | zero => rfl
          | succ m => rw [gf_X6_isOrdered_1, if_pos rfl]
        rw [z]
        exact ⟨rfl, fun _ _ => rfl, fun q => absurd rfl q⟩
      · rw [if_neg c3, if_neg c3, if_neg c3]
        have c1 : f_X6_canFeel (t_X6_sign t 48 51) j (Cc c L i - 48) 1 = 1 := by
          unfold f_X6_canFeel at c3 ⊢
          repeat' split
          all_goals first | rfl | (exfalso; simp_all)
        rw [c1]
        obtain ⟨g1, -, -, g4⟩ := feel_gr (τ := t_X6_sign t 48 51) (y := Cc c L i - 48) (w := 1) hG1 hk1 hj hy (by decide) (by omega)
        have g5 : ∀ q, q < 15 ∨ 27 ≤ q → s_X4_sense σ (14 + 1 + 3 * j) (Cc c L i - 48) (f_X6_stepOf (t_X6_sign t 48 51) j (Cc c L i - 48)) 1 q = σ q := fun q hq => g4 q (by omega) (by omega) (by omega)
        have fT : FrT T1 (t_X6_sign t 48 51) (t_X6_feels (t_X6_sign t 48 51) j (Cc c L i - 48) 1) := feels_T1
        generalize t_X6_feels (t_X6_sign t 48 51) j (Cc c L i - 48) 1 = t2 at g1 fT ⊢
        generalize s_X4_sense σ (14 + 1 + 3 * j) (Cc c L i - 48) (f_X6_stepOf (t_X6_sign t 48 51) j (Cc c L i - 48)) 1 = σ2 at g1 g5 ⊢
        obtain ⟨a1, a2, a3⟩ := ih m (i + 1) σ2 t2 (hC.fr (g5 93 (by omega)) (g5 94 (by omega))) (by omega) (by omega) (by omega) (fun q q1 q2 => hs q (by omega) q2) (u1.t1 fT) (x1.t1 fT) (by rw [fT 0 2 (by decide)]; exact hk1) (by rw [g5 14 (by omega)]; exact hσ) (g1.cg (fun _ _ _ => rfl) (fun _ _ => rfl) (by omega))
        exact ⟨a1, fun q hq => (a2 q hq).trans (g5 q hq), a3⟩

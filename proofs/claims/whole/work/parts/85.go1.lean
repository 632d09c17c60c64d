/-! the orders of a valid text, one after another -/
theorem fe_cg {σ σ' : Sg} {c : Nat → Int32} {L : Nat} (h : TxC σ c L) (h' : TxC σ' c L) : ∀ (n i : Nat) (p : Int32), i ≤ L → L ≤ i + n → FE σ' L p i = FE σ L p i := by
  intro n
  induction n with
  | zero =>
    intro i p h1 h2
    have : i = L := by omega
    subst this
    rw [fe_end h, fe_end h']
  | succ n ih =>
    intro i p h1 h2
    by_cases d : i = L
    · subst d
      rw [fe_end h, fe_end h']
    · rw [fe_lt h (by omega), fe_lt h' (by omega), ih (i + 1) _ (by omega) (by omega)]
theorem sh_no {c : Nat → Int32} {L a b : Nat} (h : Sh c L a b) : ∀ q, a ≤ q → q < b → ¬ Cc c L q = 59 := by
  have r : ∀ {y m : Int32} {l : Int32}, m < 59 → (l ≤ y ∧ y ≤ m) → ¬ y = 59 := fun hm hy e => by
    rw [e] at hy
    exact absurd hy.2 (Int32.not_le.mpr hm)
  intro q h1 h2
  have k0 : q = a → ¬ Cc c L q = 59 := fun e => by rw [e]; exact r (by decide) h.1
  have k1 : ∀ x : Int32, x ≠ 59 → Cc c L (a + 1) = x → q = a + 1 → ¬ Cc c L q = 59 := fun x hx e1 e => by rw [e, e1]; exact hx
  rcases h.2 with ⟨e1, e2, e3⟩ | ⟨e1, e2⟩ | ⟨e1, e2, e3, e4⟩ | ⟨e1, e2, e3, e4⟩
  · rcases Nat.lt_or_ge q (a + 2) with d | d
    · rcases Nat.lt_or_ge q (a + 1) with d2 | d2
      · exact k0 (by omega)
      · exact k1 _ (by decide) e1 (by omega)
    · exact r (by decide) (e3 q d h2)
  · rcases Nat.lt_or_ge q (a + 1) with d2 | d2
    · exact k0 (by omega)
    · exact k1 _ (by decide) e1 (by omega)
  · rcases Nat.lt_or_ge q (a + 1) with d2 | d2
    · exact k0 (by omega)
    · rcases Nat.lt_or_ge q (a + 2) with d3 | d3
      · exact k1 _ (by decide) e1 (by omega)
      · rcases Nat.lt_or_ge q (a + 3) with d4 | d4
        · rw [show q = a + 2 by omega, e2]; decide
        · rw [show q = a + 3 by omega]; exact r (by decide) e3
  · rcases Nat.lt_or_ge q (a + 1) with d2 | d2
    · exact k0 (by omega)
    · rcases Nat.lt_or_ge q (a + 2) with d3 | d3
      · exact k1 _ (by decide) e1 (by omega)
      · rw [show q = a + 2 by omega]; exact r (by decide) e2
/-- how many orders there are from here, k counted before -/
def OCc (c : Nat → Int32) (L : Nat) : Nat → Nat → Nat → Nat
  | 0, k, _ => k
  | n + 1, k, i => if Cc c L i = 59 then OCc c L n (k + 1) (i + 1) else OCc c L n k (i + 1)
theorem oc_le {c : Nat → Int32} {L : Nat} : ∀ (n k i : Nat), k ≤ OCc c L n k i ∧ OCc c L n k i ≤ k + n := by
  intro n
  induction n with
  | zero => intro k i; exact ⟨Nat.le_refl _, Nat.le_refl _⟩
  | succ n ih =>
    intro k i
    rw [OCc]
    split
    · have := ih (k + 1) (i + 1); omega
    · have := ih k (i + 1); omega
theorem oc_gf {σ : Sg} {c : Nat → Int32} {L : Nat} (h : TxC σ c L) : ∀ (n m k i : Nat), i + m = L → m + 1 ≤ n → gf_X2_orders σ 93 L n (nI k) i = nI (OCc c L m k i) := by
  have hL := h.1
  intro n
  induction n with
  | zero => intro m k i _ h2; exact absurd h2 (by omega)
  | succ n ih =>
    intro m k i h1 h2
    rw [gf_X2_orders]
    cases m with
    | zero => rw [if_pos (by omega)]; rfl
    | succ m =>
      rw [if_neg (by omega), h.2.2 i (by omega), OCc]
      by_cases e : Cc c L i = 59
      · rw [if_pos e, if_pos e, nI_1]
        exact ih m (k + 1) (i + 1) (by omega) (by omega)
      · rw [if_neg e, if_neg e]
        exact ih m k (i + 1) (by omega) (by omega)
theorem oc_of {σ : Sg} {c : Nat → Int32} {L : Nat} (h : TxC σ c L) : f_X2_orders σ 93 = nI (OCc c L L 1 0) := by
  unfold f_X2_orders
  rw [tl_of h]
  exact oc_gf h 81 L 1 0 (by omega) (by have := h.1; omega)
theorem oc_skip {c : Nat → Int32} {L b : Nat} : ∀ (n k a : Nat), a + n = b → b ≤ L → (∀ q, a ≤ q → q < b → ¬ Cc c L q = 59) → OCc c L (L - a) k a = OCc c L (L - b) k b := by
  intro n
  induction n with
  | zero => intro k a h1 _ _; rw [show a = b by omega]
  | succ n ih =>
    intro k a h1 h2 hn
    rw [show L - a = (L - (a + 1)) + 1 by omega, OCc, if_neg (hn a (Nat.le_refl _) (by omega))]
    exact ih k (a + 1) (by omega) h2 (fun q q1 q2 => hn q (by omega) q2)
/-- what carrying the orders out comes to, on the garden for trials -/
def G1 (σ σ' : Sg) (B v : Nat) (F R : Int32) (W : Sg) : Prop := (∀ q, q < 14 ∨ 27 ≤ q → σ' q = σ q) ∧ ((R = 0 ∧ F = W 0 11 ∧ ∃ i, i ≤ 100 ∧ F = nI i) ∨ (R = 1 ∧ F = -1 ∧ W 0 11 = nI v ∧ GR σ' 14 (W 1) B))
theorem go1_00 (n : Nat) (hn : 1 ≤ n) (τ : Sg) : gt_X6_go_1 n 0 τ = τ ∧ gf_X6_go_1 n 0 τ = 1 := by
  cases n with
  | zero => exact absurd hn (by omega)
  | succ n => rw [gt_X6_go_1, gf_X6_go_1, if_pos rfl, if_pos rfl]; exact ⟨rfl, rfl⟩
theorem go1_sp {c : Nat → Int32} {L B v : Nat} (hB : B + 100000 ≤ 2000000000) : ∀ (n m i a : Nat) (x : Int32) (σ t : Sg), x = 1 → TxC σ c L → Un t a → Tx t c L → a ≤ L → FE σ L 0 a = -1 → GR σ 14 (t 1) (B + 400 * a) → (∃ q : Nat, q ≤ 4 ∧ t 0 2 = nI q) → t 0 11 = nI i → i ≤ a → OCc c L (L - a) (i + 1) a = v → 82 ≤ a + n → v + 1 ≤ i + m → G1 σ (gs_X5_firstFailing 0 14 v m a i σ) (B + 40000) v (gf_X5_firstFailing 0 14 v m a i σ) (gf_X6_go_1 n x t) (gt_X6_go_1 n x t) := by
  intro n
  induction n with
  | zero => intro m i a x σ t _ h _ hx ha _ _ _ _ _ _ h2; exact absurd h2 (by have := h.1; omega)
  | succ n ih =>
    intro m i a x σ t hx1 h hu hx ha hv hG hk hi hia hoc hn hm
    have hL := h.1
    have hvi := (oc_le (c := c) (L := L) (L - a) (i + 1) a).1
    rw [hoc] at hvi
    obtain ⟨m, rfl⟩ : ∃ q, m = q + 1 := ⟨m - 1, by omega⟩
    rw [gf_X6_go_1, gt_X6_go_1, if_neg (show ¬ x = 0 by rw [hx1]; decide), if_neg (show ¬ x = 0 by rw [hx1]; decide), gf_X5_firstFailing, gs_X5_firstFailing, if_neg (show ¬ v ≤ i by omega), if_neg (show ¬ v ≤ i by omega)]
    have hO := ord_sp (N := 82) (Nat.le_refl _) h hu hx ha
    rw [← tO0_eq] at hO
    rcases hO with ⟨e, e1, e2, e3⟩ | ⟨b, p, b1, b2, b3, b4, b5, b6, b7⟩
    · exfalso
      rw [hv, show (-1 : Int32) = nI 4294967295 from by decide] at e3
      rw [show (nI 4294967295 : Int32) = -1 from by decide] at e3
      have := congrArg Int32.toInt e3
      rw [nI_int (by omega), show (-1 : Int32).toInt = -1 from rfl] at this
      omega
    · have hE : b = L ∨ (Cc c L b = 59 ∧ FE σ L 0 (b + 1) = -1) := by
        by_cases d : b < L
        · rcases fe_next h d b5 (b6 d) with ⟨q1, q2⟩ | ⟨q1, q2⟩
          · exact Or.inr ⟨q1, by rw [← q2, ← b4]; exact hv⟩
          · exfalso
            rw [hv] at b4
            rw [q2] at b4
            have := congrArg Int32.toInt b4
            rw [nI_int (by omega), show (-1 : Int32).toInt = -1 from rfl] at this
            omega
        · exact Or.inl (by omega)
      have hE' : b = L ∨ Cc c L b = 59 := hE.imp_right (fun q => q.1)
      have hno := sh_no b7
      have heo : EO σ 93 a = b := eoe_of h (by omega) b2 hE' hno
      have hord := ord1 (N := 82) (Nat.le_refl _) h hu hx b2 b7 hE' heo hG hk (by omega)
      rw [← fO1_eq, ← tO1_eq] at hord
      obtain ⟨o1, o3, o4⟩ := hord
      have hTx : Tx (t_X6_isOrdered_1 t) c L → ¬ f_X6_isOrdered_1 t = 0 → Un (t_X6_isOrdered_1 t) b := fun _ q => by
        have e := ord1_tx q
        exact ⟨b3.1, by rw [e.2.2.2.1]; exact b3.2.1, by rw [e.2.2.1]; exact b3.2.2⟩
      have hx1' : Tx (t_X6_isOrdered_1 t) c L := hx.fr ord1_fr (fun b q => by rcases q with q | q; cases q; cases q.1) (by omega)
      have h11 : (t_X6_isOrdered_1 t) 0 11 = nI i := by rw [ord1_fr 0 11 (by omega)]; exact hi
      have h2 : ∃ q : Nat, q ≤ 4 ∧ (t_X6_isOrdered_1 t) 0 2 = nI q := by rw [ord1_fr 0 2 (by omega)]; exact hk
      have heo2 : EO (s_X5_follow σ 0 14 a) 93 a = b := by
        have h' : TxC (s_X5_follow σ 0 14 a) c L := h.fr (o3 93 (by omega)) (o3 94 (by omega))
        exact eoe_of h' (by omega) b2 hE' hno
      rw [show EO (s_X5_follow σ 0 14 a) (0 + 93) a = b from heo2]
      have hT' : TxC (s_X5_follow σ 0 14 a) c L := h.fr (o3 93 (by omega)) (o3 94 (by omega))
      generalize f_X6_isOrdered_1 t = g at *
      generalize t_X6_isOrdered_1 t = t1 at *
      generalize s_X5_follow σ 0 14 a = σ1 at *
      by_cases g0 : g = 0
      · rw [if_pos g0, if_pos g0, if_pos (o1.mpr g0), if_pos (o1.mpr g0)]
        exact ⟨o3, Or.inl ⟨rfl, h11.symm, i, by omega, rfl⟩⟩
      · have g0' := mt o1.mp g0
        rw [if_neg g0, if_neg g0, if_neg g0', if_neg g0']
        have u1 : Un (up t1 0 11 (t1 0 11 + 1)) b := (hTx hx1' g0).up11
        have x1 : Tx (up t1 0 11 (t1 0 11 + 1)) c L := hx1'.up11
        have r1 : (up t1 0 11 (t1 0 11 + 1)) 0 11 = nI (i + 1) := by rw [up_eq, h11, nI_1]
        have gr1 := o4 g0
        have hle := u1.le x1
        rw [oc_skip (b := b) (b - a) (i + 1) a (by omega) b2 hno] at hoc
        by_cases d : L ≤ b
        · have hbL : b = L := by omega
          subst hbL
          rw [if_pos (hle.mpr d), if_pos (hle.mpr d), (go1_00 n (by omega) _).1, (go1_00 n (by omega) _).2]
          have hv1 : v = i + 1 := by rw [← hoc, Nat.sub_self]; rfl
          obtain ⟨m, rfl⟩ : ∃ q, m = q + 1 := ⟨m - 1, by omega⟩
          rw [gf_X5_firstFailing, gs_X5_firstFailing, if_pos (show v ≤ i + 1 by omega), if_pos (show v ≤ i + 1 by omega)]
          refine ⟨o3, Or.inr ⟨rfl, rfl, by rw [r1, hv1], ?_⟩⟩
          rw [up0_1]
          exact gr1.cg (fun _ _ _ => rfl) (fun _ _ => rfl) (by omega)
        · rw [if_neg (fun q => d (hle.mp q)), if_neg (fun q => d (hle.mp q))]
          rcases hE with q | ⟨q1, q2⟩
          · exact absurd q (by omega)
          · obtain ⟨u2, -⟩ := s_ok (x := 59) (y := 59) u1 x1 (by decide) (in_one.mpr q1)
            have x2 := x1.sign (x := 59) (y := 59)
            have r2 : (t_X6_sign (up t1 0 11 (t1 0 11 + 1)) 59 59) 0 11 = nI (i + 1) := by rw [sgn_fr _ _ _ 0 11 (by omega)]; exact r1
            have gr2 : GR σ1 14 ((t_X6_sign (up t1 0 11 (t1 0 11 + 1)) 59 59) 1) (B + 400 * (b + 1)) := by
              rw [sgn_1, up0_1]
              exact gr1.cg (fun _ _ _ => rfl) (fun _ _ => rfl) (by omega)
            have k2 : ∃ q : Nat, q ≤ 4 ∧ (t_X6_sign (up t1 0 11 (t1 0 11 + 1)) 59 59) 0 2 = nI q := by
              rw [sgn_2, up_nb (by decide)]
              exact h2
            have oc2 : OCc c L (L - (b + 1)) (i + 1 + 1) (b + 1) = v := by
              rw [← hoc, show L - b = (L - (b + 1)) + 1 by omega, OCc, if_pos q1]
            have fe2 : FE σ1 L 0 (b + 1) = -1 := by rw [fe_cg h hT' L (b + 1) 0 (by omega) (by omega)]; exact q2
            obtain ⟨a1, a2⟩ := ih m (i + 1) (b + 1) 1 σ1 _ rfl hT' u2 x2 (by omega) fe2 gr2 k2 r2 (by omega) oc2 (by omega) (by omega)
            exact ⟨fun q hq => (a1 q hq).trans (o3 q hq), a2⟩

/-! the relation between the class and the reference -/
def TxR (σ τ : Sg) : Prop := ∃ L : Nat, L ≤ 80 ∧ σ 93 1 = nI L ∧ τ 0 7 = nI L ∧ ∀ i, i < L → chr (σ 94 i) = τ 5 i
def SpR (σ τ : Sg) (B : Nat) : Prop := σ 0 5 = τ 0 4 ∧ Ru (σ 0 5) ∧ (¬ σ 0 5 = 0 → GR σ 27 (τ 3) B)
def R0 (B : Nat) (σ τ : Sg) : Prop := RcR σ τ B ∧ SpR σ τ B ∧ TxR σ τ ∧ LGA σ ∧ TXA σ
def RR (n : Nat) (σ τ : Sg) : Prop := GR σ 1 (τ 1) (100000 * n) ∧ R0 (100000 * n) σ τ
abbrev TN : Nat → Nat → Prop := fun a b => a = 1 ∨ a = 4 ∨ (a = 0 ∧ 8 ≤ b)
theorem RcR.mv {σ σ' τ τ' : Sg} {B B' : Nat} (h : RcR σ τ B) (hB : B ≤ B') (hs : ∀ q, 40 ≤ q → q < 93 → σ' q = σ q) (ht : FrT TN τ τ') : RcR σ' τ' B' := by
  obtain ⟨O, K, h1, h2, h3, h4, h5, h6⟩ := h
  refine ⟨O, K, h1, h2, by rw [hs 40 (by omega) (by omega)]; exact h3, by rw [hs 40 (by omega) (by omega)]; exact h4, by rw [ht 0 2 (by omega)]; exact h5, fun i hi => ?_⟩
  exact (h6 i hi).cg (fun q q1 q2 => hs q (by omega) (by omega)) (fun a _ => ht 2 _ (by omega)) hB
theorem SpR.mv {σ σ' τ τ' : Sg} {B B' : Nat} (h : SpR σ τ B) (hB : B ≤ B') (h0 : σ' 0 = σ 0) (hs : ∀ q, 27 ≤ q → q < 40 → σ' q = σ q) (ht : ∀ b, τ' 3 b = τ 3 b) (h4 : τ' 0 4 = τ 0 4) : SpR σ' τ' B' := by
  obtain ⟨h1, h2, h3⟩ := h
  refine ⟨by rw [h0, h4]; exact h1, by rw [h0]; exact h2, fun hn => ?_⟩
  rw [h0] at hn
  exact (h3 hn).cg (fun q q1 q2 => hs q (by omega) (by omega)) (fun a _ => ht a) hB
theorem TxR.mv {σ σ' τ τ' : Sg} (h : TxR σ τ) (h93 : σ' 93 = σ 93) (h94 : σ' 94 = σ 94) (h7 : τ' 0 7 = τ 0 7) (h5 : ∀ b, τ' 5 b = τ 5 b) : TxR σ' τ' := by
  obtain ⟨L, h1, h2, h3, h4⟩ := h
  exact ⟨L, h1, by rw [h93]; exact h2, by rw [h7]; exact h3, fun i hi => by rw [h94, h5]; exact h4 i hi⟩
/-- only the garden of now has moved -/
theorem R0.now {σ σ' τ τ' : Sg} {B B' : Nat} (h : R0 B σ τ) (hB : B ≤ B') (hs : ∀ q, (q = 0 ∨ 27 ≤ q) → σ' q = σ q) (hG : LGA σ') (hT : TXA σ') (ht : FrT TN τ τ') : R0 B' σ' τ' := by
  obtain ⟨h1, h2, h3, -, -⟩ := h
  exact ⟨h1.mv hB (fun q a b => hs q (by omega)) ht, h2.mv hB (hs 0 (by omega)) (fun q a b => hs q (by omega)) (fun b => ht 3 b (by omega)) (ht 0 4 (by omega)), h3.mv (hs 93 (by omega)) (hs 94 (by omega)) (ht 0 7 (by omega)) (fun b => ht 5 b (by omega)), hG, hT⟩
theorem R0.keep {σ τ : Sg} {B : Nat} (h : R0 B σ τ) (hn : GR σ 1 (τ 1) B) : R0 B (s_X3_keep σ 40 1) (t_X6_record τ) ∧ GR (s_X3_keep σ 40 1) 1 ((t_X6_record τ) 1) B := by
  obtain ⟨h1, h2, h3, h4, h5⟩ := h
  obtain ⟨a1, a2⟩ := keep_rc h1 hn
  have ht : ∀ a b, a ≠ 2 → ¬ (a = 0 ∧ b = 2) → (t_X6_record τ) a b = τ a b := fun a b x y => rec_fr a b (fun q => q.elim x y)
  refine ⟨⟨a1, h2.mv (Nat.le_refl _) (a2 0 (by omega)) (fun q x y => a2 q (by omega)) (fun b => ht 3 b (by omega) (by omega)) (ht 0 4 (by omega) (by omega)), h3.mv (a2 93 (by omega)) (a2 94 (by omega)) (ht 0 7 (by omega) (by omega)) (fun b => ht 5 b (by omega) (by omega)), LGA_keep h4 rfl rfl, TXA_keep h5 rfl⟩, ?_⟩
  rw [rec_1]
  exact hn.cg (fun q x y => a2 q (by omega)) (fun _ _ => rfl) (Nat.le_refl _)
theorem RR.kn {n : Nat} {σ τ : Sg} (h : RR n σ τ) : ∃ q : Nat, q ≤ 4 ∧ τ 0 2 = nI q := by
  obtain ⟨-, ⟨O, K, -, h2, -, -, h5, -⟩, -⟩ := h
  exact ⟨K, h2, h5⟩
theorem R0.kn {B : Nat} {σ τ : Sg} (h : R0 B σ τ) : ∃ q : Nat, q ≤ 4 ∧ τ 0 2 = nI q := by
  obtain ⟨⟨O, K, -, h2, -, -, h5, -⟩, -⟩ := h
  exact ⟨K, h2, h5⟩
theorem RR.mi {n : Nat} {σ τ : Sg} (h : RR n σ τ) : MI τ := MI.gr h.1 h.kn
theorem RR.up8 {n : Nat} {σ τ : Sg} {v : Int32} (h : RR n σ τ) : RR n σ (up τ 0 8 v) := by
  obtain ⟨h1, h2⟩ := h
  refine ⟨by rw [up_ne (by decide)]; exact h1, h2.now (Nat.le_refl _) (fun _ _ => rfl) h2.2.2.2.1 h2.2.2.2.2 (frT_up FrT.rf (by omega))⟩
theorem RR.nx {n : Nat} {σ τ : Sg} (h : RR n σ τ) : RR (n + 1) σ τ := by
  obtain ⟨h1, h2⟩ := h
  exact ⟨h1.cg (fun _ _ _ => rfl) (fun _ _ => rfl) (by omega), h2.now (by omega) (fun _ _ => rfl) h2.2.2.2.1 h2.2.2.2.2 FrT.rf⟩
/-- a snail that is there -/
theorem num_ok {σ : Sg} {j : Nat} (hj : j < 4) : x_X5_snailNumbered σ 0 (nI j) = 0 ∧ f_X5_snailNumbered σ 0 (nI j) = 1 + 1 + 3 * j := by
  have : j = 0 ∨ j = 1 ∨ j = 2 ∨ j = 3 := by omega
  rcases this with rfl | rfl | rfl | rfl <;> exact ⟨rfl, rfl⟩
theorem num_no {σ : Sg} {x : Int32} (hx : ¬ InS x) : x_X5_snailNumbered σ 0 x = 1 := by
  unfold x_X5_snailNumbered
  by_cases h0 : x < 0
  · rw [if_pos h0]
  · rw [if_neg h0]
    by_cases h4 : x < 4
    · exfalso
      apply hx
      rcases st_of h0 h4 with h | h | h | h
      · exact ⟨0, by omega, h⟩
      · exact ⟨1, by omega, h⟩
      · exact ⟨2, by omega, h⟩
      · exact ⟨3, by omega, h⟩
    · rw [if_neg h4]
theorem in_st {y : Int32} : f_X6_in y 0 3 = 0 ↔ ¬ x_X5_demandState y = 0 := by
  rw [in_iff]
  unfold x_X5_demandState
  have e4 : y < 4 ↔ y ≤ 3 := by
    rw [Int32.lt_iff_toInt_lt, Int32.le_iff_toInt_le, show (4 : Int32).toInt = 4 from rfl, show (3 : Int32).toInt = 3 from rfl]
    omega
  by_cases h0 : y < 0
  · rw [if_pos h0]
    exact ⟨fun _ => by decide, fun _ q => absurd q.1 (Int32.not_le.mpr h0)⟩
  · rw [if_neg h0]
    by_cases h4 : y < 4
    · rw [if_pos h4]
      exact ⟨fun q => absurd ⟨Int32.not_lt.mp h0, e4.mp h4⟩ q, fun q => absurd rfl q⟩
    · rw [if_neg h4]
      exact ⟨fun _ => by decide, fun _ q => h4 (e4.mpr q.2)⟩
theorem dst_st {y : Int32} (h : x_X5_demandState y = 0) : St y := by
  unfold x_X5_demandState at h
  by_cases h0 : y < 0
  · rw [if_pos h0] at h; cases h
  · rw [if_neg h0] at h
    by_cases h4 : y < 4
    · exact st_of h0 h4
    · rw [if_neg h4] at h; cases h
/-- an answer: the tag is what the reference tells, the answers are one, the relation goes on -/
def Ans (n : Nat) (t : Nat) (kt f g : Int32) (σ τ : Sg) : Prop := τ 0 8 = kt ∧ (t = 0 → f = g) ∧ RR (n + 1) σ τ

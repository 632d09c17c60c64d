/-! a garden -/
def CT (c : Int32) : Prop := ∃ n : Nat, 1 ≤ n ∧ n ≤ 100 ∧ c = nI (4 * n)
theorem CT.ne {c : Int32} (h : CT c) : ¬ c = 0 := by
  obtain ⟨n, h1, h2, rfl⟩ := h
  intro e
  have := (nI_eq (a := 4 * n) (b := 0) (by omega) (by omega)).mp e
  omega
def PB (B : Nat) (x : Int32) : Prop := -(B : Int) ≤ x.toInt ∧ x.toInt ≤ (B : Int)
theorem PB.mono {B B' : Nat} {x : Int32} (h : PB B x) (hB : B ≤ B') : PB B' x := ⟨by have := h.1; omega, by have := h.2; omega⟩
theorem PB.add {B C : Nat} {x y : Int32} (h : PB B x) (hy : PB C y) (hB : B + C ≤ 2000000000) : PB (B + C) (x + y) := by
  obtain ⟨a, b⟩ := h
  obtain ⟨c, d⟩ := hy
  have e : (x + y).toInt = x.toInt + y.toInt := by
    rw [Int32.toInt_add]
    apply Int.bmod_eq_of_le <;> omega
  exact ⟨by omega, by omega⟩
/-- row j of a table -/
def tr (T : Nat → Int32) (j : Nat) : Nat → Int32 := fun a => T (57 * j + a)
def GR (σ : Sg) (g : Nat) (T : Nat → Int32) (B : Nat) : Prop := (∀ j, j < 4 → SnR σ (g + 1 + 3 * j) (tr T j) ∧ PB B (T (57 * j + 1))) ∧ σ g 4 = T 228 ∧ Ru (T 228) ∧ σ g 5 = T 229 ∧ CT (T 229)
theorem SnR.cg {σ σ' : Sg} {k : Nat} {T T' : Nat → Int32} (h : SnR σ k T) (e0 : σ' k = σ k) (e1 : σ' (k + 1) = σ (k + 1)) (e2 : σ' (k + 2) = σ (k + 2)) (hT : ∀ a, a < 57 → T' a = T a) : SnR σ' k T' := by
  obtain ⟨hW, L, O, h1, h2, h3, h4, h5, h6, h7⟩ := h
  refine ⟨?_, L, O, h1, h2, by rw [e1]; exact h3, by rw [hT 8 (by omega)]; exact h4, by rw [e1]; exact h5, fun i hi c hc => ?_, fun i hi => ?_⟩
  · obtain ⟨w0, w1, w2, w3, w4, w5, w6, w7, w8, w9, w10⟩ := hW
    rw [← hT 0 (by omega)] at w0 w9
    rw [← hT 1 (by omega)] at w1
    rw [← hT 2 (by omega)] at w2 w10
    rw [← hT 7 (by omega)] at w3
    rw [← hT 3 (by omega)] at w4
    rw [← hT 4 (by omega)] at w5
    rw [← hT 5 (by omega)] at w6
    rw [← hT 6 (by omega)] at w7
    unfold WdR
    rw [e0]
    exact ⟨w0, w1, w2, w3, w4, w5, w6, w7, w8, w9, w10⟩
  · rw [show k + 1 + 1 = k + 2 from rfl, e2, hT _ (by omega)]
    exact h6 i hi c hc
  · have := h7 i hi
    unfold EB at *
    rw [hT (9 + 3 * i + 2) (by omega), hT (9 + 3 * i) (by omega), hT (9 + 3 * i + 1) (by omega), hT 0 (by omega)]
    by_cases c : i + 1 = L
    · rw [if_pos c] at this ⊢
      exact this
    · rw [if_neg c] at this ⊢
      rw [hT _ (by omega)]
      exact this
theorem GR.cg {σ σ' : Sg} {g B B' : Nat} {T T' : Nat → Int32} (h : GR σ g T B) (hs : ∀ q, g ≤ q → q < g + 13 → σ' q = σ q) (hT : ∀ a, a < 230 → T' a = T a) (hB : B ≤ B') : GR σ' g T' B' := by
  obtain ⟨h1, h2, h3, h4, h5⟩ := h
  refine ⟨fun j hj => ⟨(h1 j hj).1.cg (hs _ (by omega) (by omega)) (hs _ (by omega) (by omega)) (hs _ (by omega) (by omega)) (fun a ha => hT _ (by omega)), by rw [hT _ (by omega)]; exact (h1 j hj).2.mono hB⟩, ?_, ?_, ?_, ?_⟩
  · rw [hs g (by omega) (by omega), hT 228 (by omega)]; exact h2
  · rw [hT 228 (by omega)]; exact h3
  · rw [hs g (by omega) (by omega), hT 229 (by omega)]; exact h4
  · rw [hT 229 (by omega)]; exact h5
/-- one snail of a garden has moved, nothing else -/
theorem GR.one {σ σ' : Sg} {g B B' j : Nat} {T T' : Nat → Int32} (h : GR σ g T B) (hj : j < 4) (hs : ∀ q, q ≠ g + 1 + 3 * j → q ≠ g + 1 + 3 * j + 1 → q ≠ g + 1 + 3 * j + 2 → σ' q = σ q) (hT : ∀ a, ¬ (57 * j ≤ a ∧ a < 57 * j + 57) → T' a = T a) (hn : SnR σ' (g + 1 + 3 * j) (tr T' j)) (hp : PB B' (T' (57 * j + 1))) (hB : B ≤ B') : GR σ' g T' B' := by
  obtain ⟨h1, h2, h3, h4, h5⟩ := h
  refine ⟨fun i hi => ?_, ?_, ?_, ?_, ?_⟩
  · by_cases c : i = j
    · subst c
      exact ⟨hn, hp⟩
    · exact ⟨(h1 i hi).1.cg (hs _ (by omega) (by omega) (by omega)) (hs _ (by omega) (by omega) (by omega)) (hs _ (by omega) (by omega) (by omega)) (fun a ha => hT _ (by omega)), by rw [hT _ (by omega)]; exact (h1 i hi).2.mono hB⟩
  · rw [hs g (by omega) (by omega) (by omega), hT 228 (by omega)]; exact h2
  · rw [hT 228 (by omega)]; exact h3
  · rw [hs g (by omega) (by omega) (by omega), hT 229 (by omega)]; exact h4
  · rw [hT 229 (by omega)]; exact h5
theorem snail_nI {σ : Sg} {g j : Nat} (hj : j < 4) : f_X0_snail σ g (nI j) = g + 1 + 3 * j := by
  have : j = 0 ∨ j = 1 ∨ j = 2 ∨ j = 3 := by omega
  rcases this with rfl | rfl | rfl | rfl <;> rfl
theorem MI.gr {σ : Sg} {g B : Nat} {τ : Sg} (h : GR σ g (τ 1) B) (hk : ∃ q : Nat, q ≤ 4 ∧ τ 0 2 = nI q) : MI τ := by
  refine ⟨fun j hj => ?_, h.2.2.2.2.ne, hk⟩
  obtain ⟨⟨-, L, O, l1, -, -, l4, -⟩, -⟩ := h.1 j hj
  exact ⟨L, l1, l4⟩
/-- the step of a state -/
theorem step_gr {σ : Sg} {g B j : Nat} {τ : Sg} {y : Int32} (h : GR σ g (τ 1) B) (hj : j < 4) (hy : St y) : f_X4_stepUnder σ (g + 1 + 3 * j) (σ g 4) y = f_X6_stepOf τ j y ∧ Mv (tr (τ 1) j 0) y (f_X6_stepOf τ j y) := by
  obtain ⟨⟨⟨w0, w1, w2, w3, w4, w5, w6, w7, w8, w9, w10⟩, -⟩, -⟩ := h.1 j hj
  obtain ⟨-, h2, h3, -, -⟩ := h
  have hu : St (σ (g + 1 + 3 * j) 1) := by rw [w0]; exact w9
  have e : f_X4_stepUnder σ (g + 1 + 3 * j) (σ g 4) y = f_X6_stepOf τ j y := by
    unfold f_X4_stepUnder f_X6_stepOf f_X4_neighbour
    rw [st_step hu hy (by rw [h2]; exact h3), h2, w0, w2]
    rfl
  refine ⟨e, ?_⟩
  rw [← e]
  unfold f_X4_stepUnder Mv
  rw [← w0]
  have hd : Dr (σ (g + 1 + 3 * j) 3) := by rw [w2]; exact w10
  refine ⟨fun q => ?_, ?_⟩
  · rw [q, if_neg (by decide), if_pos (st_xor0 hu hy q)]
  · repeat' split
    · rcases hd with d | d | d <;> rw [d] <;> decide
    · decide
    · decide
    · decide
    · decide
theorem room_gr {σ : Sg} {g B j : Nat} {τ : Sg} {y w : Int32} (h : GR σ g (τ 1) B) (hj : j < 4) : f_X4_hasRoom σ (g + 1 + 3 * j) w (ab (f_X6_stepOf τ j y)) = f_X6_canFeel τ j y w := by
  obtain ⟨⟨⟨w0, w1, w2, w3, w4, w5, w6, w7, w8, w9, w10⟩, -⟩, -⟩ := h.1 j hj
  unfold f_X4_hasRoom f_X6_canFeel
  rw [w7, w6, size_ab]
  rfl
/-- a feeling, in the garden -/
theorem feel_gr {σ : Sg} {g B j : Nat} {τ : Sg} {y w : Int32} (h : GR σ g (τ 1) B) (hk : ∃ q : Nat, q ≤ 4 ∧ τ 0 2 = nI q) (hj : j < 4) (hy : St y) (hw : 1 ≤ w.toInt ∧ w.toInt ≤ 1000) (hB : B + 2 ≤ 2000000000) :
    GR (s_X4_sense σ (g + 1 + 3 * j) y (f_X6_stepOf τ j y) w) g ((t_X6_feels τ j y w) 1) (B + 2) ∧ f_X6_feels τ j y w = f_X6_stepOf τ j y ∧ (t_X6_feels τ j y w) 1 (57 * j + 1) = τ 1 (57 * j + 1) + f_X6_stepOf τ j y ∧ ∀ q, q ≠ g + 1 + 3 * j → q ≠ g + 1 + 3 * j + 1 → q ≠ g + 1 + 3 * j + 2 → s_X4_sense σ (g + 1 + 3 * j) y (f_X6_stepOf τ j y) w q = σ q := by
  obtain ⟨hS, hP⟩ := h.1 j hj
  obtain ⟨e, hmv⟩ := step_gr h hj hy
  obtain ⟨L, l1, l2, hn, hf⟩ := sn_sense hS hy hmv hw
  obtain ⟨a1, a2⟩ := feels_eq (y := y) (w := w) hj l1 l2
  have hrow : ∀ a, (t_X6_feels τ j y w) 1 (57 * j + a) = fR' (tr (τ 1) j) L (f_X6_stepOf τ j y) w y a := a1
  have hpos : (t_X6_feels τ j y w) 1 (57 * j + 1) = τ 1 (57 * j + 1) + f_X6_stepOf τ j y := by
    rw [hrow, (fR_lo _ _ _ _ _).2.1]
    rfl
  refine ⟨h.one hj hf ?_ ?_ ?_ (by omega), a2, hpos, hf⟩
  · intro a ha
    exact (feels_row (MI.gr h hk) hj).1 1 a (fun q => ha q.2)
  · have : tr ((t_X6_feels τ j y w) 1) j = fR' (tr (τ 1) j) L (f_X6_stepOf τ j y) w y := funext hrow
    rw [this]
    exact hn
  · rw [hpos]
    exact hP.add (C := 2) ⟨by have := hmv.2.1; omega, by have := hmv.2.2; omega⟩ hB

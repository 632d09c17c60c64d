/-! what is read -/
theorem rx_stateOf {σ : Sg} {i : Nat} (hi : i < 4) : x_X5_stateOf σ 0 (nI i) = 0 := by
  unfold x_X5_stateOf
  rw [if_pos (num_ok hi).1]
theorem rd_stateOf {σ : Sg} {i : Nat} (hi : i < 4) : f_X5_stateOf σ 0 (nI i) = σ (1 + 1 + 3 * i) 1 := by
  unfold f_X5_stateOf
  rw [if_pos (num_ok hi).1, (num_ok hi).2]
theorem rx_positionOf {σ : Sg} {i : Nat} (hi : i < 4) : x_X5_positionOf σ 0 (nI i) = 0 := by
  unfold x_X5_positionOf
  rw [if_pos (num_ok hi).1]
theorem rd_positionOf {σ : Sg} {i : Nat} (hi : i < 4) : f_X5_positionOf σ 0 (nI i) = σ (1 + 1 + 3 * i) 2 := by
  unfold f_X5_positionOf
  rw [if_pos (num_ok hi).1, (num_ok hi).2]
theorem rx_directionOf {σ : Sg} {i : Nat} (hi : i < 4) : x_X5_directionOf σ 0 (nI i) = 0 := by
  unfold x_X5_directionOf
  rw [if_pos (num_ok hi).1]
theorem rd_directionOf {σ : Sg} {i : Nat} (hi : i < 4) : f_X5_directionOf σ 0 (nI i) = σ (1 + 1 + 3 * i) 3 := by
  unfold f_X5_directionOf
  rw [if_pos (num_ok hi).1, (num_ok hi).2]
theorem rx_countOfA {σ : Sg} {i : Nat} (hi : i < 4) : x_X5_countOfA σ 0 (nI i) = 0 := by
  unfold x_X5_countOfA
  rw [if_pos (num_ok hi).1]
theorem rd_countOfA {σ : Sg} {i : Nat} (hi : i < 4) : f_X5_countOfA σ 0 (nI i) = σ (1 + 1 + 3 * i) 4 := by
  unfold f_X5_countOfA
  rw [if_pos (num_ok hi).1, (num_ok hi).2]
theorem rx_errorsOf {σ : Sg} {i : Nat} (hi : i < 4) : x_X5_errorsOf σ 0 (nI i) = 0 := by
  unfold x_X5_errorsOf
  rw [if_pos (num_ok hi).1]
theorem rd_errorsOf {σ : Sg} {i : Nat} (hi : i < 4) : f_X5_errorsOf σ 0 (nI i) = σ (1 + 1 + 3 * i) 8 := by
  unfold f_X5_errorsOf
  rw [if_pos (num_ok hi).1, (num_ok hi).2]
theorem rx_slipsOf {σ : Sg} {i : Nat} (hi : i < 4) : x_X5_slipsOf σ 0 (nI i) = 0 := by
  unfold x_X5_slipsOf
  rw [if_pos (num_ok hi).1]
theorem rd_slipsOf {σ : Sg} {i : Nat} (hi : i < 4) : f_X5_slipsOf σ 0 (nI i) = σ (1 + 1 + 3 * i) 9 := by
  unfold f_X5_slipsOf
  rw [if_pos (num_ok hi).1, (num_ok hi).2]
theorem rx_distanceOf {σ : Sg} {i : Nat} (hi : i < 4) : x_X5_distanceOf σ 0 (nI i) = 0 := by
  unfold x_X5_distanceOf
  rw [if_pos (num_ok hi).1]
theorem rd_distanceOf {σ : Sg} {i : Nat} (hi : i < 4) : f_X5_distanceOf σ 0 (nI i) = σ (1 + 1 + 3 * i) 10 := by
  unfold f_X5_distanceOf
  rw [if_pos (num_ok hi).1, (num_ok hi).2]
theorem rx_ticksOf {σ : Sg} {i : Nat} (hi : i < 4) : x_X5_ticksOf σ 0 (nI i) = 0 := by
  unfold x_X5_ticksOf
  rw [if_pos (num_ok hi).1]
theorem rd_ticksOf {σ : Sg} {i : Nat} (hi : i < 4) : f_X5_ticksOf σ 0 (nI i) = σ (1 + 1 + 3 * i) 11 := by
  unfold f_X5_ticksOf
  rw [if_pos (num_ok hi).1, (num_ok hi).2]
theorem rx_positionByTracks {σ : Sg} {i : Nat} (hi : i < 4) : x_X5_positionByTracks σ 0 (nI i) = 0 := by
  unfold x_X5_positionByTracks
  rw [if_pos (num_ok hi).1]
theorem rd_positionByTracks {σ : Sg} {i : Nat} (hi : i < 4) : f_X5_positionByTracks σ 0 (nI i) = σ (1 + 1 + 3 * i) 4 + σ (1 + 1 + 3 * i) 5 + σ (1 + 1 + 3 * i) 6 - σ (1 + 1 + 3 * i) 7 := by
  unfold f_X5_positionByTracks
  rw [if_pos (num_ok hi).1, (num_ok hi).2]
theorem rx_logLength {σ : Sg} {i : Nat} (hi : i < 4) : x_X5_logLength σ 0 (nI i) = 0 := by
  unfold x_X5_logLength
  rw [if_pos (num_ok hi).1]
theorem rd_logLength {σ : Sg} {i : Nat} (hi : i < 4) : f_X5_logLength σ 0 (nI i) = σ ((1 + 1 + 3 * i) + 1) 2 := by
  unfold f_X5_logLength
  rw [if_pos (num_ok hi).1, (num_ok hi).2]
theorem rx_turnsOf {σ : Sg} {i : Nat} (hi : i < 4) : x_X5_turnsOf σ 0 (nI i) = 0 := by
  unfold x_X5_turnsOf
  rw [if_pos (num_ok hi).1]
theorem rd_turnsOf {σ : Sg} {i : Nat} (hi : i < 4) : f_X5_turnsOf σ 0 (nI i) = f_X4_turnsOver σ (1 + 1 + 3 * i) (σ 1 5) := by
  unfold f_X5_turnsOf
  rw [if_pos (num_ok hi).1, (num_ok hi).2]
theorem rx_placeOf {σ : Sg} {i : Nat} (hi : i < 4) : x_X5_placeOf σ 0 (nI i) = 0 := by
  unfold x_X5_placeOf
  rw [if_pos (num_ok hi).1]
theorem rd_placeOf {σ : Sg} {i : Nat} (hi : i < 4) : f_X5_placeOf σ 0 (nI i) = f_X4_placeIn σ (1 + 1 + 3 * i) (σ 1 5) := by
  unfold f_X5_placeOf
  rw [if_pos (num_ok hi).1, (num_ok hi).2]
theorem rx_speedOf {σ : Sg} {i : Nat} (hi : i < 4) : x_X5_speedOf σ 0 (nI i) = 0 := by
  unfold x_X5_speedOf
  rw [if_pos (num_ok hi).1]
theorem rd_speedOf {σ : Sg} {i : Nat} (hi : i < 4) : f_X5_speedOf σ 0 (nI i) = f_X1_speed σ ((1 + 1 + 3 * i) + 1) := by
  unfold f_X5_speedOf
  rw [if_pos (num_ok hi).1, (num_ok hi).2]
theorem rx_stepTo {σ : Sg} {i : Nat} {y : Int32} (hi : i < 4) (hy : St y) : x_X5_stepTo σ 0 (nI i) y = 0 := by
  unfold x_X5_stepTo
  rw [if_pos (num_ok hi).1, if_pos (st_dem hy)]
theorem rd_stepTo {σ : Sg} {i : Nat} {y : Int32} (hi : i < 4) (hy : St y) : f_X5_stepTo σ 0 (nI i) y = f_X4_stepUnder σ (1 + 1 + 3 * i) (σ 1 4) y := by
  unfold f_X5_stepTo
  rw [if_pos (num_ok hi).1, if_pos (st_dem hy), (num_ok hi).2]
theorem lg_lt {L a : Nat} {x : Int32} (hL : L ≤ 16) (hx : x = nI L) (ha : a < L) : ¬ nI a < 0 ∧ nI a < x := by
  constructor
  · rw [show (0 : Int32) = nI 0 from rfl, nI_ltI (by omega) (by omega)]
    omega
  · rw [hx, nI_ltI (by omega) (by omega)]
    exact ha
theorem rx_loggedStep {σ : Sg} {i L a : Nat} (hi : i < 4) (hL : L ≤ 16) (hl : σ ((1 + 1 + 3 * i) + 1) 2 = nI L) (ha : a < L) : x_X5_loggedStep σ 0 (nI i) (nI a) = 0 := by
  obtain ⟨d1, d2⟩ := lg_lt hL hl ha
  unfold x_X5_loggedStep
  rw [if_pos (num_ok hi).1, if_neg d1, (num_ok hi).2, if_pos d2]
theorem rd_loggedStep {σ : Sg} {i L B a : Nat} {E : Nat → Nat → Int32} (hi : i < 4) (hS : SnN σ (1 + 1 + 3 * i) E L B) (ha : a < L) : f_X5_loggedStep σ 0 (nI i) (nI a) = E (L - 1 - a) 0 := by
  obtain ⟨-, -, -, -, O, l1, l2, l3, l4, l6, -⟩ := hS
  obtain ⟨d1, d2⟩ := lg_lt l1 l3 ha
  unfold f_X5_loggedStep
  rw [if_pos (num_ok hi).1, if_neg d1, (num_ok hi).2, if_pos d2, step_nI l4 (by omega)]
  have := l6 (L - 1 - a) (by omega) 0 (by omega)
  rw [show L - 1 - (L - 1 - a) = a by omega] at this
  exact this
theorem rd_counts {σ : Sg} : f_X5_counts σ 0 = σ 1 5 := rfl
theorem rd_rule {σ : Sg} : f_X5_rule σ 0 = σ 1 4 := rfl
/-- the first of those that are farthest -/
theorem glead {σ : Sg} : ∀ (n x i : Nat), x < i → i ≤ 4 → 5 ≤ i + n → (∀ j, j < i → σ (1 + 1 + 3 * j) 2 ≤ σ (1 + 1 + 3 * x) 2) → (∀ j, j < x → σ (1 + 1 + 3 * j) 2 < σ (1 + 1 + 3 * x) 2) → ∃ b, b < 4 ∧ gf_X5_leader σ 0 n (nI x) i = nI b ∧ (∀ j, j < 4 → σ (1 + 1 + 3 * j) 2 ≤ σ (1 + 1 + 3 * b) 2) ∧ (∀ j, j < b → σ (1 + 1 + 3 * j) 2 < σ (1 + 1 + 3 * b) 2) := by
  intro n
  induction n with
  | zero => intro x i _ h1 h2; exact absurd h2 (by omega)
  | succ n ih =>
    intro x i h0 h1 h2 h3 h4
    rw [gf_X5_leader]
    by_cases c : 4 ≤ i
    · rw [if_pos c]
      exact ⟨x, by omega, rfl, fun j hj => h3 j (by omega), h4⟩
    · rw [if_neg c, snail_nI (g := 0 + 1) (j := i) (by omega), snail_nI (g := 0 + 1) (j := x) (by omega)]
      by_cases c2 : σ (0 + 1 + 1 + 3 * i) 2 ≤ σ (0 + 1 + 1 + 3 * x) 2
      · rw [if_pos c2]
        refine ih x (i + 1) (by omega) (by omega) (by omega) (fun j hj => ?_) h4
        by_cases e : j = i
        · rw [e]; exact c2
        · exact h3 j (by omega)
      · rw [if_neg c2]
        have c3 : σ (1 + 1 + 3 * x) 2 < σ (1 + 1 + 3 * i) 2 := Int32.not_le.mp c2
        refine ih i (i + 1) (by omega) (by omega) (by omega) (fun j hj => ?_) (fun j hj => ?_)
        · by_cases e : j = i
          · rw [e]; exact Int32.le_refl _
          · exact Int32.le_of_lt (Int32.lt_of_le_of_lt (h3 j (by omega)) c3)
        · exact Int32.lt_of_le_of_lt (h3 j hj) c3
theorem lead_ok (σ : Sg) : ∃ b, b < 4 ∧ f_X5_leader σ 0 = nI b ∧ (∀ j, j < 4 → σ (1 + 1 + 3 * j) 2 ≤ σ (1 + 1 + 3 * b) 2) ∧ (∀ j, j < b → σ (1 + 1 + 3 * j) 2 < σ (1 + 1 + 3 * b) 2) :=
  glead 4 0 1 (by omega) (by omega) (by omega) (fun j hj => by rw [show j = 0 by omega]; exact Int32.le_refl _) (fun j hj => absurd hj (Nat.not_lt_zero j))
/-- how many states are one step on, one step back -/
def cn (σ : Sg) (k : Nat) (r t : Int32) : Nat → Int32
  | 0 => 0
  | j + 1 => cn σ k r t j + (if f_X4_stepUnder σ k r (nI j) = t then 1 else 0)
def stF (s d r y : Int32) : Int32 := if s ^^^ y = 3 then (if r = 1 then 2 * d else 0) else if y = s then 0 else if y = f_X4_ring ((f_X4_ring s + 1) &&& 3) then 1 else -1
theorem cn_ok {σ : Sg} {k : Nat} {r : Int32} (h1 : St (σ k 1)) (h2 : Dr (σ k 3)) (hr : Ru r) : cn σ k r 1 4 = 1 ∧ cn σ k r (-1) 4 = 1 := by
  have e : ∀ y, f_X4_stepUnder σ k r y = stF (σ k 1) (σ k 3) r y := fun _ => rfl
  unfold cn cn cn cn cn
  rw [e, e, e, e]
  generalize σ k 1 = s at h1
  generalize σ k 3 = d at h2
  rcases h1 with rfl | rfl | rfl | rfl <;> rcases h2 with rfl | rfl | rfl <;> rcases hr with rfl | rfl <;> decide
theorem st_j : ∀ j, j < 4 → St (nI j) := by
  intro j hj
  have : j = 0 ∨ j = 1 ∨ j = 2 ∨ j = 3 := by omega
  rcases this with rfl | rfl | rfl | rfl <;> (unfold St; decide)
theorem step_self {σ : Sg} {k : Nat} {r : Int32} : f_X4_stepUnder σ k r (σ k 1) = 0 := by
  unfold f_X4_stepUnder
  rw [if_neg (by rw [Int32.xor_self]; decide), if_pos rfl]

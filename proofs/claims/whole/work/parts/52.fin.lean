/-! the pure part: the class's words and the reference's words agree -/
def St (x : Int32) : Prop := x = 0 ∨ x = 1 ∨ x = 2 ∨ x = 3
def Dr (x : Int32) : Prop := x = -1 ∨ x = 0 ∨ x = 1
def Ru (x : Int32) : Prop := x = 0 ∨ x = 1
theorem st_on {a b : Int32} (ha : St a) (hb : St b) : f_X6_onward a b = 2 ↔ a ^^^ b = 3 := by
  rcases ha with rfl | rfl | rfl | rfl <;> rcases hb with rfl | rfl | rfl | rfl <;> decide
theorem st_on3 {a b : Int32} (ha : St a) (hb : St b) (h : ¬ a ^^^ b = 3) : (if f_X6_onward a b = 3 then (-1 : Int32) else f_X6_onward a b) = if b = a then 0 else if b = f_X4_ring ((f_X4_ring a + 1) &&& 3) then 1 else -1 := by
  revert h
  rcases ha with rfl | rfl | rfl | rfl <;> rcases hb with rfl | rfl | rfl | rfl <;> decide
theorem st_step {a b r d : Int32} (ha : St a) (hb : St b) (hr : Ru r) : (if a ^^^ b = 3 then (if r = 1 then 2 * d else 0) else if b = a then 0 else if b = f_X4_ring ((f_X4_ring a + 1) &&& 3) then 1 else -1) = if f_X6_onward a b = 2 then (if r = 0 then 0 else 2 * d) else if f_X6_onward a b = 3 then -1 else f_X6_onward a b := by
  by_cases h : a ^^^ b = 3
  · rw [if_pos h, if_pos ((st_on ha hb).mpr h)]
    rcases hr with rfl | rfl
    · rw [if_neg (by decide), if_pos rfl]
    · rw [if_pos rfl, if_neg (by decide)]
  · rw [if_neg h, if_neg (fun q => h ((st_on ha hb).mp q)), st_on3 ha hb h]
theorem st_nb {a y : Int32} (ha : St a) (hy : y = 1 ∨ y = -1) : f_X4_ring ((f_X4_ring a + y) &&& 3) = f_X6_ahead a y ∧ St (f_X6_ahead a y) := by
  rcases ha with rfl | rfl | rfl | rfl <;> rcases hy with rfl | rfl <;> (unfold St; decide)
theorem st_xor {a b : Int32} (ha : St a) (hb : St b) : a ^^^ b = 0 ∨ a ^^^ b = 1 ∨ a ^^^ b = 2 ∨ a ^^^ b = 3 := by
  rcases ha with rfl | rfl | rfl | rfl <;> rcases hb with rfl | rfl | rfl | rfl <;> decide
theorem st_xor0 {a b : Int32} (ha : St a) (hb : St b) (h : a ^^^ b = 0) : b = a := by
  revert h
  rcases ha with rfl | rfl | rfl | rfl <;> rcases hb with rfl | rfl | rfl | rfl <;> decide
theorem st_comm {a b : Int32} (ha : St a) (hb : St b) : a ^^^ b = b ^^^ a := by
  rcases ha with rfl | rfl | rfl | rfl <;> rcases hb with rfl | rfl | rfl | rfl <;> decide
theorem st_of {x : Int32} (h1 : ¬ x < 0) (h2 : x < 4) : St x := by
  have a := Int32.le_iff_toInt_le.mp (Int32.not_lt.mp h1)
  have b := Int32.lt_iff_toInt_lt.mp h2
  rw [show (0 : Int32).toInt = 0 from rfl] at a
  rw [show (4 : Int32).toInt = 4 from rfl] at b
  have : x.toInt = 0 ∨ x.toInt = 1 ∨ x.toInt = 2 ∨ x.toInt = 3 := by omega
  unfold St
  rcases this with h | h | h | h
  · exact Or.inl (Int32.toInt_inj.mp h)
  · exact Or.inr (Or.inl (Int32.toInt_inj.mp h))
  · exact Or.inr (Or.inr (Or.inl (Int32.toInt_inj.mp h)))
  · exact Or.inr (Or.inr (Or.inr (Int32.toInt_inj.mp h)))
theorem size_ab (x : Int32) : f_X6_size x = ab x := by
  unfold f_X6_size
  split
  · rfl
  · simp
/-- a snail's row of the table -/
def rw1 (τ : Sg) (j : Nat) : Nat → Int32 := fun a => τ 1 (57 * j + a)
theorem lay_r {τ : Sg} {j a b : Nat} {v : Int32} : t_X6_lay τ j a v 1 (57 * j + b) = if b = a then v else τ 1 (57 * j + b) := by
  unfold t_X6_lay up
  by_cases h : b = a
  · rw [if_pos h, if_pos ⟨rfl, by omega⟩]
  · rw [if_neg h, if_neg (by omega)]
theorem grow_r {τ : Sg} {j a b : Nat} {v : Int32} : t_X6_grow τ j a v 1 (57 * j + b) = if b = a then τ 1 (57 * j + a) + v else τ 1 (57 * j + b) := by
  unfold t_X6_grow up
  by_cases h : b = a
  · rw [if_pos h, if_pos ⟨rfl, by omega⟩]
  · rw [if_neg h, if_neg (by omega)]
def dirOf (s d : Int32) : Int32 := if s ≤ 0 then if 0 ≤ s then d else -1 else 1
theorem turns_r {τ : Sg} {j b : Nat} {y : Int32} : t_X6_turns τ j y 1 (57 * j + b) = if b = 2 then dirOf y (τ 1 (57 * j + 2)) else τ 1 (57 * j + b) := by
  unfold t_X6_turns dirOf
  split
  · split
    · rw [lay_r]; rfl
    · rw [lay_r]
  · rw [lay_r]
/-- a row after a feeling; L: how many entries the log has -/
def fR (T : Nat → Int32) (L : Nat) (v w u y e q : Int32) : Nat → Int32 := fun a =>
  if a = 0 then y else if a = 1 then T 1 + v else if a = 2 then dirOf v (T 2) else if a = 3 then T 3 + e else if a = 5 then T 5 + f_X6_size v else if a = 6 then T 6 + w else if a = 7 then T 7 + q else if a = 8 then T 8 + 1 else if a = 9 + 3 * L then v else if a = 9 + 3 * L + 1 then w else if a = 9 + 3 * L + 2 then u else T a
theorem chain_r {τ : Sg} {j L : Nat} {v w u y e q : Int32} (a : Nat) : (t_X6_turns (t_X6_grow (t_X6_grow (t_X6_grow (t_X6_grow (t_X6_grow (t_X6_lay (t_X6_grow (t_X6_lay (t_X6_lay (t_X6_lay τ j (9 + 3 * L) v) j (9 + 3 * L + 1) w) j (9 + 3 * L + 2) u) j 8 1) j 0 y) j 1 v) j 3 e) j 7 q) j 5 (f_X6_size v)) j 6 w) j v) 1 (57 * j + a) = fR (rw1 τ j) L v w u y e q a := by
  unfold fR rw1
  simp only [turns_r, grow_r, lay_r]
  have hc : a = 0 ∨ a = 1 ∨ a = 2 ∨ a = 3 ∨ a = 4 ∨ a = 5 ∨ a = 6 ∨ a = 7 ∨ a = 8 ∨ 9 ≤ a := by omega
  rcases hc with h | h | h | h | h | h | h | h | h | h
  all_goals
    first
    | subst h
      simp (disch := omega) only [if_pos, if_neg, if_true, if_false]
      repeat first | rw [if_neg (by omega)] | rw [if_pos (by omega)]
    | skip
  by_cases h1 : a = 9 + 3 * L
  · subst h1
    repeat first | rw [if_neg (by omega)] | rw [if_pos (by omega)]
  · by_cases h2 : a = 9 + 3 * L + 1
    · subst h2
      repeat first | rw [if_neg (by omega)] | rw [if_pos (by omega)]
    · by_cases h3 : a = 9 + 3 * L + 2
      · subst h3
        repeat first | rw [if_neg (by omega)] | rw [if_pos (by omega)]
      · repeat first | rw [if_neg (by omega)] | rw [if_pos (by omega)]
/-- what a feeling leaves, whatever its error and its track -/
def eo (u y : Int32) : Int32 := if f_X6_onward u y = 2 then 1 else 0
def qo (u y v : Int32) : Int32 := if f_X6_isA u y = 0 then 0 else v
def shR (T : Nat → Int32) (i : Nat) : Nat → Int32 := fun b => if i ≤ b ∧ b < 54 then T (b + 3) else T b
theorem gfeels_eq {j : Nat} {y w u v : Int32} (hj : j < 4) : ∀ (n i : Nat) (τ : Sg), 9 ≤ i → i ≤ 54 → 55 ≤ i + n → τ 1 (57 * j + 8) = 16 → (∀ a, (gt_X6_feels j y w u v n (57 * j + i) τ) 1 (57 * j + a) = fR (fun b => if b = 8 then 15 else shR (rw1 τ j) i b) 15 v w u y (eo u y) (qo u y v) a) ∧ gf_X6_feels j y w u v n (57 * j + i) τ = v := by
  intro n
  induction n with
  | zero => exact fun i τ h1 h2 h3 _ => absurd h3 (by omega)
  | succ n ih =>
    intro i τ h1 h2 h3 h8
    have hl : MLn (t_X6_grow τ j 8 (-1)) j = 15 := by
      unfold MLn
      rw [grow_at, h8]
      decide
    by_cases c : i = 54
    · subst c
      have hr : ∀ b, rw1 (t_X6_grow τ j 8 (-1)) j b = if b = 8 then 15 else shR (rw1 τ j) 54 b := by
        intro b
        unfold rw1 shR
        rw [grow_r]
        by_cases hb : b = 8
        · subst hb
          rw [if_pos rfl, if_pos rfl, h8]
          decide
        · rw [if_neg hb, if_neg hb, if_neg (by omega)]
      have hr' : rw1 (t_X6_grow τ j 8 (-1)) j = fun b => if b = 8 then 15 else shR (rw1 τ j) 54 b := funext hr
      constructor
      · intro a
        rw [gt_X6_feels, if_pos (by omega), hl, ← hr']
        unfold eo qo
        split
        · split
          · exact chain_r a
          · exact chain_r a
        · split
          · exact chain_r a
          · exact chain_r a
      · rw [gf_X6_feels, if_pos (by omega)]
        repeat' split
        all_goals rfl
    · obtain ⟨a1, a2⟩ := ih (i + 1) (up τ 1 (57 * j + i) (τ 1 (57 * j + i + 3))) (by omega) (by omega) (by omega) (by rw [up_nb (by omega)]; exact h8)
      have hs : (fun b => if b = 8 then (15 : Int32) else shR (rw1 (up τ 1 (57 * j + i) (τ 1 (57 * j + i + 3))) j) (i + 1) b) = fun b => if b = 8 then 15 else shR (rw1 τ j) i b := by
        funext b
        by_cases hb : b = 8
        · rw [if_pos hb, if_pos hb]
        · rw [if_neg hb, if_neg hb]
          unfold shR rw1
          by_cases hb2 : b = i
          · subst hb2
            rw [if_neg (by omega), if_pos ⟨Nat.le_refl _, by omega⟩, up_eq]
            rfl
          · by_cases hb3 : i ≤ b ∧ b < 54
            · rw [if_pos hb3, if_pos (by omega), up_nb (by omega)]
            · rw [if_neg hb3, if_neg (by omega), up_nb (by omega)]
      constructor
      · intro a
        rw [gt_X6_feels, if_neg (by omega), ← hs]
        exact a1 a
      · rw [gf_X6_feels, if_neg (by omega)]
        exact a2
theorem feels_eq {τ : Sg} {j L : Nat} {y w : Int32} (hj : j < 4) (hL : L ≤ 16) (h8 : τ 1 (57 * j + 8) = nI L) : (∀ a, (t_X6_feels τ j y w) 1 (57 * j + a) = fR (if L = 16 then (fun b => if b = 8 then 15 else shR (rw1 τ j) 9 b) else rw1 τ j) (if L = 16 then 15 else L) (f_X6_stepOf τ j y) w (rw1 τ j 0) y (eo (rw1 τ j 0) y) (qo (rw1 τ j 0) y (f_X6_stepOf τ j y)) a) ∧ f_X6_feels τ j y w = f_X6_stepOf τ j y := by
  have h8' : f_X6_of τ j 8 = nI L := h8
  have hm : MLn τ j = L := MLn_of h8 hL
  have hu : f_X6_of τ j 0 = rw1 τ j 0 := rfl
  by_cases c : L = 16
  · have c16 : f_X6_of τ j 8 = 16 := by rw [h8', c]; rfl
    obtain ⟨a1, a2⟩ := gfeels_eq (y := y) (w := w) (u := f_X6_of τ j 0) (v := f_X6_stepOf τ j y) hj 46 9 τ (by omega) (by omega) (by omega) (by rw [h8, c]; rfl)
    rw [if_pos c, if_pos c]
    constructor
    · intro a
      unfold t_X6_feels
      rw [if_pos c16]
      exact a1 a
    · unfold f_X6_feels
      rw [if_pos c16]
      exact a2
  · have c16 : ¬ f_X6_of τ j 8 = 16 := fun q => c ((nI_eq (a := L) (b := 16) (by omega) (by omega)).mp (by rw [← h8', q]; rfl))
    rw [if_neg c, if_neg c]
    constructor
    · intro a
      unfold t_X6_feels
      rw [if_neg c16, hm, hu]
      unfold eo qo
      split
      · split
        · exact chain_r a
        · exact chain_r a
      · split
        · exact chain_r a
        · exact chain_r a
    · unfold f_X6_feels
      rw [if_neg c16]
      repeat' split
      all_goals rfl

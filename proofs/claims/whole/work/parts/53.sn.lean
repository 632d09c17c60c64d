/-! one snail: the class's cells -/
theorem row_eq : ∀ a, a < 64 → (nI a - nI a / 16 * 16) * 3 = nI (a % 16 * 3) := by decide +kernel
theorem row_eq1 : ∀ a, a < 64 → nI a - nI a / 16 * 16 = nI (a % 16) := by decide +kernel
theorem rowOf_nI {σ : Sg} {q O i : Nat} (hO : σ q 1 = nI O) (h : O + i < 64) : f_X1_rowOf σ q (nI i) = nI ((O + i) % 16 * 3) := by
  unfold f_X1_rowOf
  rw [hO, nI_add]
  exact row_eq _ h
theorem write_nI {σ : Sg} {q r : Nat} {v : Int32} (hr : r < 48) : s_X1_write σ q (nI r) v = up σ (q + 1) r v := by
  unfold s_X1_write
  have h0 : ¬ nI r < 0 := by
    rw [show (0 : Int32) = nI 0 from rfl, nI_ltI (by omega) (by omega)]
    omega
  have h1 : ¬ (48 : Int32) ≤ nI r := by
    rw [show (48 : Int32) = nI 48 from rfl, nI_leI (by omega) (by omega)]
    omega
  rw [if_neg h0, if_neg h1, nI_clamp (by omega)]
theorem read_nI {σ : Sg} {q O i c : Nat} (hO : σ q 1 = nI O) (h : O + i < 64) (hc : c < 3) : f_X1_read σ q (nI i) (nI c) = σ (q + 1) ((O + i) % 16 * 3 + c) := by
  unfold f_X1_read
  rw [rowOf_nI hO h, nI_add]
  have h0 : ¬ nI ((O + i) % 16 * 3 + c) < 0 := by
    rw [show (0 : Int32) = nI 0 from rfl, nI_ltI (by omega) (by omega)]
    omega
  have h1 : nI ((O + i) % 16 * 3 + c) < 48 := by
    rw [show (48 : Int32) = nI 48 from rfl, nI_ltI (by omega) (by omega)]
    omega
  rw [if_neg h0, if_pos h1, nI_clamp (by omega)]
theorem step_nI {σ : Sg} {q O i : Nat} (hO : σ q 1 = nI O) (h : O + i < 64) : f_X1_step σ q (nI i) = σ (q + 1) ((O + i) % 16 * 3 + 0) := read_nI (c := 0) hO h (by omega)
theorem spent_nI {σ : Sg} {q O i : Nat} (hO : σ q 1 = nI O) (h : O + i < 64) : f_X1_spent σ q (nI i) = σ (q + 1) ((O + i) % 16 * 3 + 1) := read_nI (c := 1) hO h (by omega)
theorem before_nI {σ : Sg} {q O i : Nat} (hO : σ q 1 = nI O) (h : O + i < 64) : f_X1_before σ q (nI i) = σ (q + 1) ((O + i) % 16 * 3 + 2) := read_nI (c := 2) hO h (by omega)
/-- the log with one entry more: where its oldest row lies, how many entries -/
def lO (O L : Nat) : Nat := if L = 16 then (O + 1) % 16 else O
def lL (L : Nat) : Nat := if L = 16 then 16 else L + 1
theorem add_eq {σ : Sg} {q O L : Nat} {x y w : Int32} (hO : σ q 1 = nI O) (hO16 : O < 16) (hL : σ q 2 = nI L) (hL16 : L ≤ 16) :
    s_X1_add σ q x y w = up (up (up (up (up σ q 1 (nI (lO O L))) q 2 (nI (lL L))) (q + 1) ((O + L) % 16 * 3) x) (q + 1) ((O + L) % 16 * 3 + 1) y) (q + 1) ((O + L) % 16 * 3 + 2) w := by
  unfold s_X1_add lO lL
  have hle : (16 : Int32) ≤ σ q 2 ↔ 16 ≤ L := by rw [hL]; exact cI_le (x := 16) (y := nI L) rfl rfl (by omega) (by omega)
  by_cases c : L = 16
  · rw [if_pos (hle.mpr (by omega)), if_pos c, if_pos c]
    have e1 : (σ q 1 + 1) - (σ q 1 + 1) / 16 * 16 = nI ((O + 1) % 16) := by
      rw [hO, nI_1]
      exact row_eq1 _ (by omega)
    rw [e1]
    have e2 : (up σ q 1 (nI ((O + 1) % 16))) q 2 - 1 = nI 15 := by
      rw [up_nb (by decide), hL, c]
      rfl
    rw [e2, rowOf_nI (O := (O + 1) % 16) up_eq (by omega), show ((O + 1) % 16 + 15) % 16 = (O + L) % 16 by omega]
    have hup : up (up σ q 1 (nI ((O + 1) % 16))) q 2 (nI 16) = up σ q 1 (nI ((O + 1) % 16)) := by
      funext a b
      unfold up
      by_cases h : a = q ∧ b = 2
      · rw [if_pos h, if_neg (by omega), h.1, h.2, hL, c]
      · rw [if_neg h]
    rw [hup, show nI ((O + L) % 16 * 3) + 0 = nI ((O + L) % 16 * 3) from nI_add _ 0, show nI ((O + L) % 16 * 3) + 1 = nI ((O + L) % 16 * 3 + 1) from nI_1 _, show nI ((O + L) % 16 * 3) + 2 = nI ((O + L) % 16 * 3 + 2) from nI_2 _, write_nI (by omega), write_nI (by omega), write_nI (by omega)]
  · rw [if_neg (fun h => c (by have := hle.mp h; omega)), if_neg c, if_neg c]
    have hup : up (up σ q 1 (nI O)) q 2 (nI (L + 1)) = up σ q 2 (σ q 2 + 1) := by
      funext a b
      unfold up
      by_cases h : a = q ∧ b = 2
      · rw [if_pos h, if_pos h, hL, nI_1]
      · rw [if_neg h, if_neg h]
        by_cases h2 : a = q ∧ b = 1
        · rw [if_pos h2, h2.1, h2.2, hO]
        · rw [if_neg h2]
    have e2 : (up σ q 2 (σ q 2 + 1)) q 2 - 1 = nI L := by
      rw [up_eq, hL, nI_1]
      exact pk_sub (a := L + 1) (b := 1) (by omega)
    rw [hup, e2, rowOf_nI (O := O) (by rw [up_nb (by decide)]; exact hO) (by omega), show nI ((O + L) % 16 * 3) + 0 = nI ((O + L) % 16 * 3) from nI_add _ 0, show nI ((O + L) % 16 * 3) + 1 = nI ((O + L) % 16 * 3 + 1) from nI_1 _, show nI ((O + L) % 16 * 3) + 2 = nI ((O + L) % 16 * 3 + 2) from nI_2 _, write_nI (by omega), write_nI (by omega), write_nI (by omega)]
/-- a snail after a step: its words -/
def mvK (σ : Sg) (k : Nat) (x y w : Int32) : Nat → Int32 := fun a =>
  if a = 1 then x else if a = 2 then σ k 2 + y else if a = 3 then dirOf y (σ k 3) else if a = 4 then (if σ k 1 ^^^ x = 2 then σ k 4 + y else σ k 4) else if a = 5 then (if σ k 1 ^^^ x = 1 then σ k 5 + y else σ k 5) else if a = 6 then (if σ k 1 ^^^ x = 3 then σ k 6 + y else σ k 6) else if a = 10 then σ k 10 + ab y else if a = 11 then σ k 11 + w else σ k a
theorem book_k {σ : Sg} {k a : Nat} {x y : Int32} : s_X4_book σ k x y k a = if a = 4 then (if x = 2 then σ k 4 + y else σ k 4) else if a = 5 then (if x = 1 then σ k 5 + y else σ k 5) else if a = 6 then (if x = 3 then σ k 6 + y else σ k 6) else σ k a := by
  unfold s_X4_book
  by_cases h1 : x = 1
  · subst h1
    rw [if_pos rfl]
    unfold up
    by_cases ha : a = 5
    · subst ha; simp
    · rw [if_neg (by omega)]
      by_cases h4 : a = 4
      · subst h4; simp
      · rw [if_neg h4, if_neg ha]
        by_cases h6 : a = 6
        · subst h6; simp
        · rw [if_neg h6]
  · rw [if_neg h1]
    by_cases h2 : x = 2
    · subst h2
      rw [if_pos rfl]
      unfold up
      by_cases ha : a = 4
      · subst ha; simp
      · rw [if_neg (by omega), if_neg ha]
        by_cases h5 : a = 5
        · subst h5; simp
        · rw [if_neg h5]
          by_cases h6 : a = 6
          · subst h6; simp
          · rw [if_neg h6]
    · rw [if_neg h2]
      by_cases h3 : x = 3
      · subst h3
        rw [if_pos rfl]
        unfold up
        by_cases ha : a = 6
        · subst ha; simp
        · rw [if_neg (by omega)]
          by_cases h4 : a = 4
          · subst h4; simp
          · rw [if_neg h4]
            by_cases h5 : a = 5
            · subst h5; simp
            · rw [if_neg h5, if_neg ha]
      · rw [if_neg h3, if_neg h2, if_neg h1, if_neg h3]
        by_cases h4 : a = 4
        · subst h4; simp
        · rw [if_neg h4]
          by_cases h5 : a = 5
          · subst h5; simp
          · rw [if_neg h5]
            by_cases h6 : a = 6
            · subst h6; simp
            · rw [if_neg h6]
theorem book_ne {σ : Sg} {k q : Nat} {x y : Int32} (h : q ≠ k) : s_X4_book σ k x y q = σ q := by
  unfold s_X4_book
  repeat' split
  all_goals first | exact up_ne h | rfl
theorem up_k {σ : Sg} {k a b : Nat} {v : Int32} : up σ k a v k b = if b = a then v else σ k b := by
  unfold up
  by_cases h : b = a
  · rw [if_pos ⟨rfl, h⟩, if_pos h]
  · rw [if_neg (fun q => h q.2), if_neg h]
theorem move_k {σ : Sg} {k a : Nat} {x y w : Int32} : s_X4_move σ k x y w k a = mvK σ k x y w a := by
  have hc : a = 1 ∨ a = 2 ∨ a = 3 ∨ a = 4 ∨ a = 5 ∨ a = 6 ∨ a = 10 ∨ a = 11 ∨ (a ≠ 1 ∧ a ≠ 2 ∧ a ≠ 3 ∧ a ≠ 4 ∧ a ≠ 5 ∧ a ≠ 6 ∧ a ≠ 10 ∧ a ≠ 11) := by omega
  unfold s_X4_move mvK dirOf
  by_cases h0 : y = 0
  · subst h0
    rw [if_pos rfl]
    simp only [up_k, book_k]
    rcases hc with h | h | h | h | h | h | h | h | h
    all_goals first | (subst h; simp; done) | skip
    obtain ⟨h1, h2, h3, h4, h5, h6, h7, h8⟩ := h
    simp [h1, h2, h3, h4, h5, h6, h7, h8]
  · rw [if_neg h0]
    by_cases hy : y ≤ 0
    · have hy2 : ¬ 0 ≤ y := fun q => h0 (Int32.le_antisymm hy q)
      rw [if_pos hy]
      simp only [up_k, book_k]
      rcases hc with h | h | h | h | h | h | h | h | h
      all_goals first | (subst h; simp [hy, hy2]; done) | skip
      obtain ⟨h1, h2, h3, h4, h5, h6, h7, h8⟩ := h
      simp [h1, h2, h3, h4, h5, h6, h7, h8]
    · rw [if_neg hy]
      simp only [up_k, book_k]
      rcases hc with h | h | h | h | h | h | h | h | h
      all_goals first | (subst h; simp [hy]; done) | skip
      obtain ⟨h1, h2, h3, h4, h5, h6, h7, h8⟩ := h
      simp [h1, h2, h3, h4, h5, h6, h7, h8]
theorem move_ne {σ : Sg} {k q : Nat} {x y w : Int32} (h : q ≠ k) : s_X4_move σ k x y w q = σ q := by
  unfold s_X4_move
  split
  · rw [up_ne h, up_ne h, up_ne h, up_ne h, book_ne h]
  · split
    · rw [up_ne h, up_ne h, up_ne h, up_ne h, up_ne h, book_ne h]
    · rw [up_ne h, up_ne h, up_ne h, up_ne h, up_ne h, book_ne h]

def EB (T : Nat → Int32) (L i : Nat) : Prop := (T (9 + 3 * i + 2) ^^^ (if i + 1 = L then T 0 else T (9 + 3 * (i + 1) + 2)) = 0 → T (9 + 3 * i) = 0) ∧ (-2 ≤ (T (9 + 3 * i)).toInt ∧ (T (9 + 3 * i)).toInt ≤ 2) ∧ (1 ≤ (T (9 + 3 * i + 1)).toInt ∧ (T (9 + 3 * i + 1)).toInt ≤ 1000) ∧ St (T (9 + 3 * i + 2))
/-- a log: the ring of the class, the row of the reference -/
def LgR (σ : Sg) (q : Nat) (T : Nat → Int32) (L O : Nat) : Prop := L ≤ 16 ∧ O < 16 ∧ σ q 2 = nI L ∧ T 8 = nI L ∧ σ q 1 = nI O ∧ (∀ i, i < L → ∀ c, c < 3 → σ (q + 1) ((O + i) % 16 * 3 + c) = T (9 + 3 * i + c)) ∧ (∀ i, i < L → EB T L i)
/-- a snail: the class's words, the reference's row -/
def WdR (σ : Sg) (k : Nat) (T : Nat → Int32) : Prop := σ k 1 = T 0 ∧ σ k 2 = T 1 ∧ σ k 3 = T 2 ∧ σ k 4 = T 7 ∧ σ k 8 = T 3 ∧ σ k 9 = T 4 ∧ σ k 10 = T 5 ∧ σ k 11 = T 6 ∧ σ k 4 + σ k 5 + σ k 6 - σ k 7 = σ k 2 ∧ St (T 0) ∧ Dr (T 2)
def SnR (σ : Sg) (k : Nat) (T : Nat → Int32) : Prop := WdR σ k T ∧ ∃ L O : Nat, LgR σ (k + 1) T L O
theorem i32_a {a b c d v : Int32} : a + v + b + c - d = (a + b + c - d) + v := by grind
theorem i32_b {a b c d v : Int32} : a + (b + v) + c - d = (a + b + c - d) + v := by grind
theorem i32_c {a b c d v : Int32} : a + b + (c + v) - d = (a + b + c - d) + v := by grind
theorem dirOf_dr {s d : Int32} (h : Dr d) : Dr (dirOf s d) := by
  unfold dirOf
  split
  · split
    · exact h
    · exact Or.inl rfl
  · exact Or.inr (Or.inr rfl)
/-- what a step must be: none where the state stays -/
def Mv (u x y : Int32) : Prop := (u ^^^ x = 0 → y = 0) ∧ -2 ≤ y.toInt ∧ y.toInt ≤ 2
theorem wd_move {σ : Sg} {k : Nat} {T : Nat → Int32} {x y w : Int32} (h : WdR σ k T) (hx : St x) (hy : σ k 1 ^^^ x = 0 → y = 0) :
    (mvK σ k x y w 4 + mvK σ k x y w 5 + mvK σ k x y w 6 - mvK σ k x y w 7 = mvK σ k x y w 2) := by
  obtain ⟨h1, h2, h3, h4, h5, h6, h7, h8, h9, h10, h11⟩ := h
  have hu : St (σ k 1) := by rw [h1]; exact h10
  show (if σ k 1 ^^^ x = 2 then σ k 4 + y else σ k 4) + (if σ k 1 ^^^ x = 1 then σ k 5 + y else σ k 5) + (if σ k 1 ^^^ x = 3 then σ k 6 + y else σ k 6) - σ k 7 = σ k 2 + y
  rw [← h9]
  rcases st_xor hu hx with q | q | q | q
  · rw [q, hy q]
    simp
  · rw [q, if_neg (by decide), if_pos rfl, if_neg (by decide)]
    exact i32_b
  · rw [q, if_pos rfl, if_neg (by decide), if_neg (by decide)]
    exact i32_a
  · rw [q, if_neg (by decide), if_neg (by decide), if_pos rfl]
    exact i32_c
/-- the log with one entry more -/
theorem lg_add {σ : Sg} {q : Nat} {T T' : Nat → Int32} {L O : Nat} {x y w : Int32} (h : LgR σ q T L O) (hx : -2 ≤ x.toInt ∧ x.toInt ≤ 2) (hy : 1 ≤ y.toInt ∧ y.toInt ≤ 1000) (hw : St w) (hw0 : w = T 0) (hch : w ^^^ T' 0 = 0 → x = 0)
    (h8 : T' 8 = nI (lL L)) (hn : ∀ c, c < 3 → T' (9 + 3 * (lL L - 1) + c) = if c = 0 then x else if c = 1 then y else w) (ho : ∀ i, i < lL L - 1 → ∀ c, c < 3 → T' (9 + 3 * i + c) = if L = 16 then T (9 + 3 * (i + 1) + c) else T (9 + 3 * i + c)) :
    LgR (s_X1_add σ q x y w) q T' (lL L) (lO O L) := by
  obtain ⟨h1, h2, h3, h4, h5, h6, h7⟩ := h
  rw [add_eq h5 h2 h3 h1]
  have hLL : lL L ≤ 16 ∧ 1 ≤ lL L := by unfold lL; split <;> omega
  have hOO : lO O L < 16 := by unfold lO; split <;> omega
  have hrow : (lO O L + (lL L - 1)) % 16 = (O + L) % 16 := by
    unfold lO lL
    by_cases c : L = 16
    · rw [if_pos c, if_pos c, c]; omega
    · rw [if_neg c, if_neg c]; omega
  refine ⟨hLL.1, hOO, ?_, h8, ?_, ?_, ?_⟩
  · rw [up_ne (by omega), up_ne (by omega), up_ne (by omega), up_eq]
  · rw [up_ne (by omega), up_ne (by omega), up_ne (by omega), up_nb (by decide), up_eq]
  · intro i hi c hc
    by_cases hl : i = lL L - 1
    · subst hl
      rw [hn c hc, hrow]
      have hc3 : c = 0 ∨ c = 1 ∨ c = 2 := by omega
      rcases hc3 with rfl | rfl | rfl
      · rw [up_nb (by omega), up_nb (by omega)]; exact up_eq
      · rw [up_nb (by omega)]; exact up_eq
      · exact up_eq
    · have hlt : i < lL L - 1 := by omega
      have hr : (lO O L + i) % 16 ≠ (O + L) % 16 := by
        unfold lO lL at *
        by_cases cL : L = 16
        · rw [if_pos cL] at *; omega
        · rw [if_neg cL] at *; omega
      rw [ho i hlt c hc, up_nb (by omega), up_nb (by omega), up_nb (by omega), up_ne (by omega), up_ne (by omega)]
      unfold lO
      by_cases cL : L = 16
      · rw [if_pos cL, if_pos cL]
        have := h6 (i + 1) (by unfold lL at hlt; rw [if_pos cL] at hlt; omega) c hc
        rw [← this]
        congr 2
        omega
      · rw [if_neg cL, if_neg cL]
        exact h6 i (by unfold lL at hlt; rw [if_neg cL] at hlt; omega) c hc
  · intro i hi
    by_cases hl : i = lL L - 1
    · subst hl
      have e0 := hn 0 (by omega)
      have e1 := hn 1 (by omega)
      have e2 := hn 2 (by omega)
      rw [if_pos rfl] at e0
      rw [if_neg (by decide), if_pos rfl] at e1
      rw [if_neg (by decide), if_neg (by decide)] at e2
      unfold EB
      rw [if_pos (by omega), show 9 + 3 * (lL L - 1) = 9 + 3 * (lL L - 1) + 0 from rfl, e0, e1, e2]
      exact ⟨hch, hx, hy, hw⟩
    · have hlt : i < lL L - 1 := by omega
      have e0 := ho i hlt 0 (by omega)
      have e1 := ho i hlt 1 (by omega)
      have e2 := ho i hlt 2 (by omega)
      have en : T' (9 + 3 * (i + 1) + 2) = if L = 16 then (if i + 2 = L then T 0 else T (9 + 3 * (i + 2) + 2)) else (if i + 1 = L then T 0 else T (9 + 3 * (i + 1) + 2)) := by
        by_cases hl2 : i + 1 = lL L - 1
        · have := hn 2 (by omega)
          rw [if_neg (by decide), if_neg (by decide), ← hl2, hw0] at this
          rw [this]
          unfold lL at hl2
          by_cases cL : L = 16
          · rw [if_pos cL] at hl2
            rw [if_pos cL, if_pos (by omega)]
          · rw [if_neg cL] at hl2
            rw [if_neg cL, if_pos (by omega)]
        · rw [ho (i + 1) (by omega) 2 (by omega)]
          unfold lL at hl2
          by_cases cL : L = 16
          · rw [if_pos cL] at hl2
            rw [if_pos cL, if_pos cL, if_neg (by omega)]
          · rw [if_neg cL] at hl2
            rw [if_neg cL, if_neg cL, if_neg (by omega)]
      unfold EB
      rw [if_neg (show ¬ i + 1 = lL L by omega), en, show 9 + 3 * i = 9 + 3 * i + 0 from rfl, e0, e1, e2]
      by_cases cL : L = 16
      · rw [if_pos cL, if_pos cL, if_pos cL, if_pos cL]
        exact h7 (i + 1) (by unfold lL at hlt; rw [if_pos cL] at hlt; omega)
      · rw [if_neg cL, if_neg cL, if_neg cL, if_neg cL]
        exact h7 i (by unfold lL at hlt; rw [if_neg cL] at hlt; omega)

/-! the pure part: numbers, one snail's cells -/
theorem up_eq {τ : Sg} {a b : Nat} {v : Int32} : up τ a b v a b = v := by simp [up]
theorem up_nb {τ : Sg} {a b a' b' : Nat} {v : Int32} (h : b' ≠ b) : up τ a b v a' b' = τ a' b' := by simp [up, h]
theorem nI_2 (a : Nat) : nI a + 2 = nI (a + 2) := nI_add a 2
def St (x : Int32) : Prop := x = 0 ∨ x = 1 ∨ x = 2 ∨ x = 3
def Dr (x : Int32) : Prop := x = -1 ∨ x = 0 ∨ x = 1
def Ru (x : Int32) : Prop := x = 0 ∨ x = 1
theorem st_xor {a b : Int32} (ha : St a) (hb : St b) : a ^^^ b = 0 ∨ a ^^^ b = 1 ∨ a ^^^ b = 2 ∨ a ^^^ b = 3 := by
  rcases ha with rfl | rfl | rfl | rfl <;> rcases hb with rfl | rfl | rfl | rfl <;> decide
theorem st_xor0 {a b : Int32} (ha : St a) (hb : St b) (h : a ^^^ b = 0) : b = a := by
  revert h
  rcases ha with rfl | rfl | rfl | rfl <;> rcases hb with rfl | rfl | rfl | rfl <;> decide
theorem st_comm {a b : Int32} (ha : St a) (hb : St b) : a ^^^ b = b ^^^ a := by
  rcases ha with rfl | rfl | rfl | rfl <;> rcases hb with rfl | rfl | rfl | rfl <;> decide
theorem st_of {x : Int32} (h1 : ¬ x < 0) (h2 : x < 4) : St x := by
  have a := Int32.le_iff_toInt_le.mp (Int32.not_lt.mp h1)
  have b := Int32.lt_iff_toInt_lt.mp h2
  rw [show (0 : Int32).toInt = 0 from rfl] at a
  rw [show (4 : Int32).toInt = 4 from rfl] at b
  have : x.toInt = 0 ∨ x.toInt = 1 ∨ x.toInt = 2 ∨ x.toInt = 3 := by omega
  unfold St
  rcases this with h | h | h | h
  · exact Or.inl (Int32.toInt_inj.mp h)
  · exact Or.inr (Or.inl (Int32.toInt_inj.mp h))
  · exact Or.inr (Or.inr (Or.inl (Int32.toInt_inj.mp h)))
  · exact Or.inr (Or.inr (Or.inr (Int32.toInt_inj.mp h)))
def dirOf (s d : Int32) : Int32 := if s ≤ 0 then if 0 ≤ s then d else -1 else 1
theorem row_eq : ∀ a, a < 64 → (nI a - nI a / 16 * 16) * 3 = nI (a % 16 * 3) := by decide +kernel
theorem row_eq1 : ∀ a, a < 64 → nI a - nI a / 16 * 16 = nI (a % 16) := by decide +kernel
theorem rowOf_nI {σ : Sg} {q O i : Nat} (hO : σ q 1 = nI O) (h : O + i < 64) : f_X1_rowOf σ q (nI i) = nI ((O + i) % 16 * 3) := by
  unfold f_X1_rowOf
  rw [hO, nI_add]
  exact row_eq _ h
theorem write_nI {σ : Sg} {q r : Nat} {v : Int32} (hr : r < 48) : s_X1_write σ q (nI r) v = up σ (q + 1) r v := by
  unfold s_X1_write
  have h0 : ¬ nI r < 0 := by
    rw [show (0 : Int32) = nI 0 from rfl, nI_ltI (by omega) (by omega)]
    omega
  have h1 : ¬ (48 : Int32) ≤ nI r := by
    rw [show (48 : Int32) = nI 48 from rfl, nI_leI (by omega) (by omega)]
    omega
  rw [if_neg h0, if_neg h1, nI_clamp (by omega)]
theorem read_nI {σ : Sg} {q O i c : Nat} (hO : σ q 1 = nI O) (h : O + i < 64) (hc : c < 3) : f_X1_read σ q (nI i) (nI c) = σ (q + 1) ((O + i) % 16 * 3 + c) := by
  unfold f_X1_read
  rw [rowOf_nI hO h, nI_add]
  have h0 : ¬ nI ((O + i) % 16 * 3 + c) < 0 := by
    rw [show (0 : Int32) = nI 0 from rfl, nI_ltI (by omega) (by omega)]
    omega
  have h1 : nI ((O + i) % 16 * 3 + c) < 48 := by
    rw [show (48 : Int32) = nI 48 from rfl, nI_ltI (by omega) (by omega)]
    omega
  rw [if_neg h0, if_pos h1, nI_clamp (by omega)]
theorem step_nI {σ : Sg} {q O i : Nat} (hO : σ q 1 = nI O) (h : O + i < 64) : f_X1_step σ q (nI i) = σ (q + 1) ((O + i) % 16 * 3 + 0) := read_nI (c := 0) hO h (by omega)
theorem spent_nI {σ : Sg} {q O i : Nat} (hO : σ q 1 = nI O) (h : O + i < 64) : f_X1_spent σ q (nI i) = σ (q + 1) ((O + i) % 16 * 3 + 1) := read_nI (c := 1) hO h (by omega)
theorem before_nI {σ : Sg} {q O i : Nat} (hO : σ q 1 = nI O) (h : O + i < 64) : f_X1_before σ q (nI i) = σ (q + 1) ((O + i) % 16 * 3 + 2) := read_nI (c := 2) hO h (by omega)
/-- the log with one entry more: where its oldest row lies, how many entries -/
def lO (O L : Nat) : Nat := if L = 16 then (O + 1) % 16 else O
def lL (L : Nat) : Nat := if L = 16 then 16 else L + 1
theorem add_eq {σ : Sg} {q O L : Nat} {x y w : Int32} (hO : σ q 1 = nI O) (hO16 : O < 16) (hL : σ q 2 = nI L) (hL16 : L ≤ 16) :
    s_X1_add σ q x y w = up (up (up (up (up σ q 1 (nI (lO O L))) q 2 (nI (lL L))) (q + 1) ((O + L) % 16 * 3) x) (q + 1) ((O + L) % 16 * 3 + 1) y) (q + 1) ((O + L) % 16 * 3 + 2) w := by
  unfold s_X1_add lO lL
  have hle : (16 : Int32) ≤ σ q 2 ↔ 16 ≤ L := by rw [hL]; exact cI_le (x := 16) (y := nI L) rfl rfl (by omega) (by omega)
  by_cases c : L = 16
  · rw [if_pos (hle.mpr (by omega)), if_pos c, if_pos c]
    have e1 : (σ q 1 + 1) - (σ q 1 + 1) / 16 * 16 = nI ((O + 1) % 16) := by
      rw [hO, nI_1]
      exact row_eq1 _ (by omega)
    rw [e1]
    have e2 : (up σ q 1 (nI ((O + 1) % 16))) q 2 - 1 = nI 15 := by
      rw [up_nb (by decide), hL, c]
      rfl
    rw [e2, rowOf_nI (O := (O + 1) % 16) up_eq (by omega), show ((O + 1) % 16 + 15) % 16 = (O + L) % 16 by omega]
    have hup : up (up σ q 1 (nI ((O + 1) % 16))) q 2 (nI 16) = up σ q 1 (nI ((O + 1) % 16)) := by
      funext a b
      unfold up
      by_cases h : a = q ∧ b = 2
      · rw [if_pos h, if_neg (by omega), h.1, h.2, hL, c]
      · rw [if_neg h]
    rw [hup, show nI ((O + L) % 16 * 3) + 0 = nI ((O + L) % 16 * 3) from nI_add _ 0, show nI ((O + L) % 16 * 3) + 1 = nI ((O + L) % 16 * 3 + 1) from nI_1 _, show nI ((O + L) % 16 * 3) + 2 = nI ((O + L) % 16 * 3 + 2) from nI_2 _, write_nI (by omega), write_nI (by omega), write_nI (by omega)]
  · rw [if_neg (fun h => c (by have := hle.mp h; omega)), if_neg c, if_neg c]
    have hup : up (up σ q 1 (nI O)) q 2 (nI (L + 1)) = up σ q 2 (σ q 2 + 1) := by
      funext a b
      unfold up
      by_cases h : a = q ∧ b = 2
      · rw [if_pos h, if_pos h, hL, nI_1]
      · rw [if_neg h, if_neg h]
        by_cases h2 : a = q ∧ b = 1
        · rw [if_pos h2, h2.1, h2.2, hO]
        · rw [if_neg h2]
    have e2 : (up σ q 2 (σ q 2 + 1)) q 2 - 1 = nI L := by
      rw [up_eq, hL, nI_1]
      exact pk_sub (a := L + 1) (b := 1) (by omega)
    rw [hup, e2, rowOf_nI (O := O) (by rw [up_nb (by decide)]; exact hO) (by omega), show nI ((O + L) % 16 * 3) + 0 = nI ((O + L) % 16 * 3) from nI_add _ 0, show nI ((O + L) % 16 * 3) + 1 = nI ((O + L) % 16 * 3 + 1) from nI_1 _, show nI ((O + L) % 16 * 3) + 2 = nI ((O + L) % 16 * 3 + 2) from nI_2 _, write_nI (by omega), write_nI (by omega), write_nI (by omega)]
/-- a snail after a step: its words -/
def mvK (σ : Sg) (k : Nat) (x y w : Int32) : Nat → Int32 := fun a =>
  if a = 1 then x else if a = 2 then σ k 2 + y else if a = 3 then dirOf y (σ k 3) else if a = 4 then (if σ k 1 ^^^ x = 2 then σ k 4 + y else σ k 4) else if a = 5 then (if σ k 1 ^^^ x = 1 then σ k 5 + y else σ k 5) else if a = 6 then (if σ k 1 ^^^ x = 3 then σ k 6 + y else σ k 6) else if a = 10 then σ k 10 + ab y else if a = 11 then σ k 11 + w else σ k a
theorem book_k {σ : Sg} {k a : Nat} {x y : Int32} : s_X4_book σ k x y k a = if a = 4 then (if x = 2 then σ k 4 + y else σ k 4) else if a = 5 then (if x = 1 then σ k 5 + y else σ k 5) else if a = 6 then (if x = 3 then σ k 6 + y else σ k 6) else σ k a := by
  unfold s_X4_book
  by_cases h1 : x = 1
  · subst h1
    rw [if_pos rfl]
    unfold up
    by_cases ha : a = 5
    · subst ha; simp
    · rw [if_neg (by omega)]
      by_cases h4 : a = 4
      · subst h4; simp
      · rw [if_neg h4, if_neg ha]
        by_cases h6 : a = 6
        · subst h6; simp
        · rw [if_neg h6]
  · rw [if_neg h1]
    by_cases h2 : x = 2
    · subst h2
      rw [if_pos rfl]
      unfold up
      by_cases ha : a = 4
      · subst ha; simp
      · rw [if_neg (by omega), if_neg ha]
        by_cases h5 : a = 5
        · subst h5; simp
        · rw [if_neg h5]
          by_cases h6 : a = 6
          · subst h6; simp
          · rw [if_neg h6]
    · rw [if_neg h2]
      by_cases h3 : x = 3
      · subst h3
        rw [if_pos rfl]
        unfold up
        by_cases ha : a = 6
        · subst ha; simp
        · rw [if_neg (by omega)]
          by_cases h4 : a = 4
          · subst h4; simp
          · rw [if_neg h4]
            by_cases h5 : a = 5
            · subst h5; simp
            · rw [if_neg h5, if_neg ha]
      · rw [if_neg h3, if_neg h2, if_neg h1, if_neg h3]
        by_cases h4 : a = 4
        · subst h4; simp
        · rw [if_neg h4]
          by_cases h5 : a = 5
          · subst h5; simp
          · rw [if_neg h5]
            by_cases h6 : a = 6
            · subst h6; simp
            · rw [if_neg h6]
theorem book_ne {σ : Sg} {k q : Nat} {x y : Int32} (h : q ≠ k) : s_X4_book σ k x y q = σ q := by
  unfold s_X4_book
  repeat' split
  all_goals first | exact up_ne h | rfl
theorem up_k {σ : Sg} {k a b : Nat} {v : Int32} : up σ k a v k b = if b = a then v else σ k b := by
  unfold up
  by_cases h : b = a
  · rw [if_pos ⟨rfl, h⟩, if_pos h]
  · rw [if_neg (fun q => h q.2), if_neg h]
theorem move_k {σ : Sg} {k a : Nat} {x y w : Int32} : s_X4_move σ k x y w k a = mvK σ k x y w a := by
  have hc : a = 1 ∨ a = 2 ∨ a = 3 ∨ a = 4 ∨ a = 5 ∨ a = 6 ∨ a = 10 ∨ a = 11 ∨ (a ≠ 1 ∧ a ≠ 2 ∧ a ≠ 3 ∧ a ≠ 4 ∧ a ≠ 5 ∧ a ≠ 6 ∧ a ≠ 10 ∧ a ≠ 11) := by omega
  unfold s_X4_move mvK dirOf
  by_cases h0 : y = 0
  · subst h0
    rw [if_pos rfl]
    simp only [up_k, book_k]
    rcases hc with h | h | h | h | h | h | h | h | h
    all_goals first | (subst h; simp; done) | skip
    obtain ⟨h1, h2, h3, h4, h5, h6, h7, h8⟩ := h
    simp [h1, h2, h3, h4, h5, h6, h7, h8]
  · rw [if_neg h0]
    by_cases hy : y ≤ 0
    · have hy2 : ¬ 0 ≤ y := fun q => h0 (Int32.le_antisymm hy q)
      rw [if_pos hy]
      simp only [up_k, book_k]
      rcases hc with h | h | h | h | h | h | h | h | h
      all_goals first | (subst h; simp [hy, hy2]; done) | skip
      obtain ⟨h1, h2, h3, h4, h5, h6, h7, h8⟩ := h
      simp [h1, h2, h3, h4, h5, h6, h7, h8]
    · rw [if_neg hy]
      simp only [up_k, book_k]
      rcases hc with h | h | h | h | h | h | h | h | h
      all_goals first | (subst h; simp [hy]; done) | skip
      obtain ⟨h1, h2, h3, h4, h5, h6, h7, h8⟩ := h
      simp [h1, h2, h3, h4, h5, h6, h7, h8]
theorem move_ne {σ : Sg} {k q : Nat} {x y w : Int32} (h : q ≠ k) : s_X4_move σ k x y w q = σ q := by
  unfold s_X4_move
  split
  · rw [up_ne h, up_ne h, up_ne h, up_ne h, book_ne h]
  · split
    · rw [up_ne h, up_ne h, up_ne h, up_ne h, up_ne h, book_ne h]
    · rw [up_ne h, up_ne h, up_ne h, up_ne h, up_ne h, book_ne h]
theorem i32_a {a b c d v : Int32} : a + v + b + c - d = (a + b + c - d) + v := by grind
theorem i32_b {a b c d v : Int32} : a + (b + v) + c - d = (a + b + c - d) + v := by grind
theorem i32_c {a b c d v : Int32} : a + b + (c + v) - d = (a + b + c - d) + v := by grind
theorem dirOf_dr {s d : Int32} (h : Dr d) : Dr (dirOf s d) := by
  unfold dirOf
  split
  · split
    · exact h
    · exact Or.inl rfl
  · exact Or.inr (Or.inr rfl)
/-- what a step must be: none where the state stays -/
def Mv (u x y : Int32) : Prop := (u ^^^ x = 0 → y = 0) ∧ -2 ≤ y.toInt ∧ y.toInt ≤ 2
theorem add_ne {σ : Sg} {q a : Nat} {x y w : Int32} {O L : Nat} (hO : σ q 1 = nI O) (hO16 : O < 16) (hL : σ q 2 = nI L) (hL16 : L ≤ 16) (h1 : a ≠ q) (h2 : a ≠ q + 1) : s_X1_add σ q x y w a = σ a := by
  rw [add_eq hO hO16 hL hL16, up_ne h2, up_ne h2, up_ne h2, up_ne h1, up_ne h1]
def CT (c : Int32) : Prop := ∃ n : Nat, 1 ≤ n ∧ n ≤ 100 ∧ c = nI (4 * n)
theorem CT.ne {c : Int32} (h : CT c) : ¬ c = 0 := by
  obtain ⟨n, h1, h2, rfl⟩ := h
  intro e
  have := (nI_eq (a := 4 * n) (b := 0) (by omega) (by omega)).mp e
  omega
theorem snail_nI {σ : Sg} {g j : Nat} (hj : j < 4) : f_X0_snail σ g (nI j) = g + 1 + 3 * j := by
  have : j = 0 ∨ j = 1 ∨ j = 2 ∨ j = 3 := by omega
  rcases this with rfl | rfl | rfl | rfl <;> rfl
theorem nI_int {a : Nat} (h : a < 2 ^ 31) : (nI a).toInt = (a : Int) := nI_toInt h
theorem CT.int {c : Int32} (h : CT c) : 4 ≤ c.toInt ∧ c.toInt ≤ 400 := by
  obtain ⟨n, h1, h2, rfl⟩ := h
  rw [nI_int (by omega)]
  omega
theorem tdiv_bd {a b : Int} (hb : 1 ≤ b) : a.tdiv b * b + a.tmod b = a ∧ (0 ≤ a → 0 ≤ a.tmod b ∧ a.tmod b < b ∧ 0 ≤ a.tdiv b) ∧ (a < 0 → a.tmod b ≤ 0 ∧ -b < a.tmod b ∧ a.tdiv b ≤ 0) := by
  refine ⟨Int.tdiv_mul_add_tmod a b, fun ha => ⟨Int.tmod_nonneg b ha, Int.tmod_lt_of_pos a (by omega), Int.tdiv_nonneg ha (by omega)⟩, fun ha => ?_⟩
  have e1 : a.tmod b = -((-a).tmod b) := by rw [Int.neg_tmod]; omega
  have e2 : a.tdiv b = -((-a).tdiv b) := by rw [Int.neg_tdiv]; omega
  have := Int.tmod_nonneg b (show 0 ≤ -a by omega)
  have := Int.tmod_lt_of_pos (-a) (show 0 < b by omega)
  have := Int.tdiv_nonneg (show 0 ≤ -a by omega) (show 0 ≤ b by omega)
  omega
theorem bm {a : Int} (h1 : -2147483648 ≤ a) (h2 : a ≤ 2147483647) : a.bmod (2 ^ 32) = a := by
  apply Int.bmod_eq_of_le <;> omega
theorem rem_int {x y : Int32} (hy : 1 ≤ y.toInt) : (x / y).toInt = x.toInt.tdiv y.toInt ∧ (x / y * y).toInt = x.toInt.tdiv y.toInt * y.toInt ∧ (x - x / y * y).toInt = x.toInt.tmod y.toInt := by
  have hx1 := Int32.le_toInt x
  have hx2 := Int32.toInt_lt x
  obtain ⟨e, p, n⟩ := tdiv_bd (a := x.toInt) hy
  have hq : -2147483648 ≤ x.toInt.tdiv y.toInt * y.toInt ∧ x.toInt.tdiv y.toInt * y.toInt ≤ 2147483647 := by
    rcases Int.lt_or_le x.toInt 0 with h | h
    · have h3 := n h
      have := Int.mul_le_mul_of_nonneg_right h3.2.2 (show 0 ≤ y.toInt by omega)
      omega
    · have h3 := p h
      have := Int.mul_nonneg h3.2.2 (show 0 ≤ y.toInt by omega)
      omega
  have hd : -2147483648 ≤ x.toInt.tdiv y.toInt ∧ x.toInt.tdiv y.toInt ≤ 2147483647 := by
    rcases Int.lt_or_le x.toInt 0 with h | h
    · obtain ⟨-, -, h3⟩ := n h
      refine ⟨?_, by omega⟩
      have : x.toInt.tdiv y.toInt * y.toInt ≤ x.toInt.tdiv y.toInt * 1 := Int.mul_le_mul_of_nonpos_left h3 hy
      omega
    · obtain ⟨-, -, h3⟩ := p h
      refine ⟨by omega, ?_⟩
      have : x.toInt.tdiv y.toInt * 1 ≤ x.toInt.tdiv y.toInt * y.toInt := Int.mul_le_mul_of_nonneg_left hy h3
      omega
  have e1 : (x / y).toInt = x.toInt.tdiv y.toInt := by
    rw [Int32.toInt_div]
    exact bm hd.1 hd.2
  have e2 : (x / y * y).toInt = x.toInt.tdiv y.toInt * y.toInt := by
    rw [Int32.toInt_mul, e1]
    exact bm hq.1 hq.2
  refine ⟨e1, e2, ?_⟩
  rw [Int32.toInt_sub, e2]
  rw [show x.toInt - x.toInt.tdiv y.toInt * y.toInt = x.toInt.tmod y.toInt by omega]
  rcases Int.lt_or_le x.toInt 0 with h | h
  · have := n h
    have := Int32.toInt_lt y
    exact bm (by omega) (by omega)
  · have := p h
    have := Int32.toInt_lt y
    exact bm (by omega) (by omega)
theorem xor_sg {x y : Int32} (hy : 0 ≤ y.toInt) : (0 ≤ x ^^^ y) ↔ 0 ≤ x := by
  have h0 : ∀ v : Int32, (0 : Int32) ≤ v ↔ v.toBitVec.msb = false := by
    intro v
    rw [Int32.le_iff_toInt_le, show (0 : Int32).toInt = 0 from rfl]
    have : v.toBitVec.msb = decide (v.toBitVec.toInt < 0) := BitVec.msb_eq_toInt
    rw [this, show v.toBitVec.toInt = v.toInt from rfl]
    simp
  rw [h0, h0, Int32.toBitVec_xor, BitVec.msb_xor]
  have hy' : y.toBitVec.msb = false := (h0 y).mp (Int32.le_iff_toInt_le.mpr (by rw [show (0 : Int32).toInt = 0 from rfl]; exact hy))
  rw [hy', Bool.xor_false]
/-- the place in a turn, by the class and by the reference -/
theorem mod_pl {x y : Int32} (hy : 1 ≤ y.toInt) : f_J9_floorMod_7cf53 x y = (if 0 ≤ x - x / y * y then x - x / y * y else x - x / y * y + y) ∧ 0 ≤ (f_J9_floorMod_7cf53 x y).toInt ∧ (f_J9_floorMod_7cf53 x y).toInt < y.toInt := by
  obtain ⟨-, -, hr⟩ := rem_int (x := x) hy
  obtain ⟨e, p, n⟩ := tdiv_bd (a := x.toInt) hy
  have hx0 : 0 ≤ x ↔ 0 ≤ x.toInt := by rw [Int32.le_iff_toInt_le]; rfl
  have hr0 : 0 ≤ x - x / y * y ↔ 0 ≤ (x - x / y * y).toInt := by rw [Int32.le_iff_toInt_le]; rfl
  have hrz : x - x / y * y = 0 ↔ (x - x / y * y).toInt = 0 := by rw [← Int32.toInt_inj]; rfl
  have hy2 := Int32.toInt_lt y
  unfold f_J9_floorMod_7cf53
  by_cases hx : 0 ≤ x
  · have hp := p (hx0.mp hx)
    rw [if_pos ((xor_sg (by omega)).mpr hx), if_pos (hr0.mpr (by omega))]
    exact ⟨rfl, by omega, by omega⟩
  · have hn := n (by have := mt hx0.mpr hx; omega)
    rw [if_neg (mt (xor_sg (by omega)).mp hx)]
    by_cases hz : x - x / y * y = 0
    · rw [if_pos hz, if_pos (by rw [hz]; decide)]
      exact ⟨rfl, by rw [hz]; decide, by rw [hz]; show (0 : Int) < _; omega⟩
    · have hz' := mt hrz.mpr hz
      rw [if_neg hz, if_neg (fun h => by have := hr0.mp h; omega)]
      have e3 : (x - x / y * y + y).toInt = (x - x / y * y).toInt + y.toInt := by
        rw [Int32.toInt_add]
        exact bm (by omega) (by omega)
      exact ⟨rfl, by omega, by omega⟩
/-- a snail that is there -/
theorem num_ok {σ : Sg} {j : Nat} (hj : j < 4) : x_X5_snailNumbered σ 0 (nI j) = 0 ∧ f_X5_snailNumbered σ 0 (nI j) = 1 + 1 + 3 * j := by
  have : j = 0 ∨ j = 1 ∨ j = 2 ∨ j = 3 := by omega
  rcases this with rfl | rfl | rfl | rfl <;> exact ⟨rfl, rfl⟩
theorem kd_sn {j : Nat} (hj : j < 4) : kd (1 + 1 + 3 * j) = 4 := by
  have : j = 0 ∨ j = 1 ∨ j = 2 ∨ j = 3 := by omega
  rcases this with rfl | rfl | rfl | rfl <;> rfl
theorem ct_of {x : Int32} (h1 : 4 ≤ x.toInt) (h2 : x.toInt ≤ 400) (h3 : x - x / 4 * 4 = 0) : CT x := by
  have h := (rem_int (x := x) (y := 4) (by decide)).2.2
  rw [h3, show (0 : Int32).toInt = 0 from rfl, show (4 : Int32).toInt = 4 from rfl] at h
  have e := (tdiv_bd (a := x.toInt) (b := 4) (by omega)).1
  refine ⟨(x.toInt.tdiv 4).toNat, by omega, by omega, ?_⟩
  apply Int32.toInt_inj.mp
  rw [nI_int (by omega)]
  omega
def wayOf (y : Int32) : Int32 := if 0 ≤ y then 1 else -1
theorem wayOf_v (y : Int32) : wayOf y = 1 ∨ wayOf y = -1 := by
  unfold wayOf
  split
  · exact Or.inl rfl
  · exact Or.inr rfl

/-! marks, turns and places -/
theorem nI_int {a : Nat} (h : a < 2 ^ 31) : (nI a).toInt = (a : Int) := nI_toInt h
theorem CT.int {c : Int32} (h : CT c) : 4 ≤ c.toInt ∧ c.toInt ≤ 400 := by
  obtain ⟨n, h1, h2, rfl⟩ := h
  rw [nI_int (by omega)]
  omega
theorem tdiv_bd {a b : Int} (hb : 1 ≤ b) : a.tdiv b * b + a.tmod b = a ∧ (0 ≤ a → 0 ≤ a.tmod b ∧ a.tmod b < b ∧ 0 ≤ a.tdiv b) ∧ (a < 0 → a.tmod b ≤ 0 ∧ -b < a.tmod b ∧ a.tdiv b ≤ 0) := by
  refine ⟨Int.tdiv_mul_add_tmod a b, fun ha => ⟨Int.tmod_nonneg b ha, Int.tmod_lt_of_pos a (by omega), Int.tdiv_nonneg ha (by omega)⟩, fun ha => ?_⟩
  have e1 : a.tmod b = -((-a).tmod b) := by rw [Int.neg_tmod]; omega
  have e2 : a.tdiv b = -((-a).tdiv b) := by rw [Int.neg_tdiv]; omega
  have := Int.tmod_nonneg b (show 0 ≤ -a by omega)
  have := Int.tmod_lt_of_pos (-a) (show 0 < b by omega)
  have := Int.tdiv_nonneg (show 0 ≤ -a by omega) (show 0 ≤ b by omega)
  omega
theorem bm {a : Int} (h1 : -2147483648 ≤ a) (h2 : a ≤ 2147483647) : a.bmod (2 ^ 32) = a := by
  apply Int.bmod_eq_of_le <;> omega
theorem rem_int {x y : Int32} (hy : 1 ≤ y.toInt) : (x / y).toInt = x.toInt.tdiv y.toInt ∧ (x / y * y).toInt = x.toInt.tdiv y.toInt * y.toInt ∧ (x - x / y * y).toInt = x.toInt.tmod y.toInt := by
  have hx1 := Int32.le_toInt x
  have hx2 := Int32.toInt_lt x
  obtain ⟨e, p, n⟩ := tdiv_bd (a := x.toInt) hy
  have hq : -2147483648 ≤ x.toInt.tdiv y.toInt * y.toInt ∧ x.toInt.tdiv y.toInt * y.toInt ≤ 2147483647 := by
    rcases Int.lt_or_le x.toInt 0 with h | h
    · have h3 := n h
      have := Int.mul_le_mul_of_nonneg_right h3.2.2 (show 0 ≤ y.toInt by omega)
      omega
    · have h3 := p h
      have := Int.mul_nonneg h3.2.2 (show 0 ≤ y.toInt by omega)
      omega
  have hd : -2147483648 ≤ x.toInt.tdiv y.toInt ∧ x.toInt.tdiv y.toInt ≤ 2147483647 := by
    rcases Int.lt_or_le x.toInt 0 with h | h
    · obtain ⟨-, -, h3⟩ := n h
      refine ⟨?_, by omega⟩
      have : x.toInt.tdiv y.toInt * y.toInt ≤ x.toInt.tdiv y.toInt * 1 := Int.mul_le_mul_of_nonpos_left h3 hy
      omega
    · obtain ⟨-, -, h3⟩ := p h
      refine ⟨by omega, ?_⟩
      have : x.toInt.tdiv y.toInt * 1 ≤ x.toInt.tdiv y.toInt * y.toInt := Int.mul_le_mul_of_nonneg_left hy h3
      omega
  have e1 : (x / y).toInt = x.toInt.tdiv y.toInt := by
    rw [Int32.toInt_div]
    exact bm hd.1 hd.2
  have e2 : (x / y * y).toInt = x.toInt.tdiv y.toInt * y.toInt := by
    rw [Int32.toInt_mul, e1]
    exact bm hq.1 hq.2
  refine ⟨e1, e2, ?_⟩
  rw [Int32.toInt_sub, e2]
  rw [show x.toInt - x.toInt.tdiv y.toInt * y.toInt = x.toInt.tmod y.toInt by omega]
  rcases Int.lt_or_le x.toInt 0 with h | h
  · have := n h
    have := Int32.toInt_lt y
    exact bm (by omega) (by omega)
  · have := p h
    have := Int32.toInt_lt y
    exact bm (by omega) (by omega)
theorem xor_sg {x y : Int32} (hy : 0 ≤ y.toInt) : (0 ≤ x ^^^ y) ↔ 0 ≤ x := by
  have h0 : ∀ v : Int32, (0 : Int32) ≤ v ↔ v.toBitVec.msb = false := by
    intro v
    rw [Int32.le_iff_toInt_le, show (0 : Int32).toInt = 0 from rfl]
    have : v.toBitVec.msb = decide (v.toBitVec.toInt < 0) := BitVec.msb_eq_toInt
    rw [this, show v.toBitVec.toInt = v.toInt from rfl]
    simp
  rw [h0, h0, Int32.toBitVec_xor, BitVec.msb_xor]
  have hy' : y.toBitVec.msb = false := (h0 y).mp (Int32.le_iff_toInt_le.mpr (by rw [show (0 : Int32).toInt = 0 from rfl]; exact hy))
  rw [hy', Bool.xor_false]
/-- the place in a turn, by the class and by the reference -/
theorem mod_pl {x y : Int32} (hy : 1 ≤ y.toInt) : f_J9_floorMod_7cf53 x y = (if 0 ≤ x - x / y * y then x - x / y * y else x - x / y * y + y) ∧ 0 ≤ (f_J9_floorMod_7cf53 x y).toInt ∧ (f_J9_floorMod_7cf53 x y).toInt < y.toInt := by
  obtain ⟨-, -, hr⟩ := rem_int (x := x) hy
  obtain ⟨e, p, n⟩ := tdiv_bd (a := x.toInt) hy
  have hx0 : 0 ≤ x ↔ 0 ≤ x.toInt := by rw [Int32.le_iff_toInt_le]; rfl
  have hr0 : 0 ≤ x - x / y * y ↔ 0 ≤ (x - x / y * y).toInt := by rw [Int32.le_iff_toInt_le]; rfl
  have hrz : x - x / y * y = 0 ↔ (x - x / y * y).toInt = 0 := by rw [← Int32.toInt_inj]; rfl
  have hy2 := Int32.toInt_lt y
  unfold f_J9_floorMod_7cf53
  by_cases hx : 0 ≤ x
  · have hp := p (hx0.mp hx)
    rw [if_pos ((xor_sg (by omega)).mpr hx), if_pos (hr0.mpr (by omega))]
    exact ⟨rfl, by omega, by omega⟩
  · have hn := n (by have := mt hx0.mpr hx; omega)
    rw [if_neg (mt (xor_sg (by omega)).mp hx)]
    by_cases hz : x - x / y * y = 0
    · rw [if_pos hz, if_pos (by rw [hz]; decide)]
      exact ⟨rfl, by rw [hz]; decide, by rw [hz]; show (0 : Int) < _; omega⟩
    · have hz' := mt hrz.mpr hz
      rw [if_neg hz, if_neg (fun h => by have := hr0.mp h; omega)]
      have e3 : (x - x / y * y + y).toInt = (x - x / y * y).toInt + y.toInt := by
        rw [Int32.toInt_add]
        exact bm (by omega) (by omega)
      exact ⟨rfl, by omega, by omega⟩
/-- the turns, by the class and by the reference -/
theorem div_pl {x y : Int32} (hy : 1 ≤ y.toInt) (hy4 : y.toInt ≤ 400) (hx : -2000000000 ≤ x.toInt) : f_J9_floorDiv_7cf53 x y = (x - (if 0 ≤ x - x / y * y then x - x / y * y else x - x / y * y + y)) / y := by
  obtain ⟨hd, hq, hr⟩ := rem_int (x := x) hy
  obtain ⟨e, p, n⟩ := tdiv_bd (a := x.toInt) hy
  have hx1 := Int32.le_toInt x
  have hx2 := Int32.toInt_lt x
  have hx0 : 0 ≤ x ↔ 0 ≤ x.toInt := by rw [Int32.le_iff_toInt_le]; rfl
  have hr0 : 0 ≤ x - x / y * y ↔ 0 ≤ (x - x / y * y).toInt := by rw [Int32.le_iff_toInt_le]; rfl
  have hqx : x / y * y = x ↔ x.toInt.tdiv y.toInt * y.toInt = x.toInt := by rw [← Int32.toInt_inj, hq]
  have key : ∀ v : Int32, ∀ m : Int, v.toInt = m * y.toInt → (v / y).toInt = m := by
    intro v m hv
    rw [(rem_int hy).1, hv]
    exact Int.mul_tdiv_cancel m (by omega)
  apply Int32.toInt_inj.mp
  unfold f_J9_floorDiv_7cf53
  by_cases h : 0 ≤ x
  · have hp := p (hx0.mp h)
    rw [if_pos ((xor_sg (by omega)).mpr h), if_pos (hr0.mpr (by omega)), hd]
    refine (key _ _ ?_).symm
    rw [Int32.toInt_sub, hr, bm (by omega) (by omega)]
    omega
  · have hn := n (by have := mt hx0.mpr h; omega)
    rw [if_neg (mt (xor_sg (by omega)).mp h)]
    by_cases hz : x.toInt.tmod y.toInt = 0
    · rw [if_pos (hqx.mpr (by omega)), if_pos (hr0.mpr (by omega)), hd]
      refine (key _ _ ?_).symm
      rw [Int32.toInt_sub, hr, bm (by omega) (by omega)]
      omega
    · rw [if_neg (fun q => by have := hqx.mp q; omega), if_neg (fun q => by have := hr0.mp q; omega)]
      have e3 : (x - x / y * y + y).toInt = x.toInt.tmod y.toInt + y.toInt := by
        rw [Int32.toInt_add, hr]
        exact bm (by omega) (by omega)
      have e4 : (x / y - 1).toInt = x.toInt.tdiv y.toInt - 1 := by
        rw [Int32.toInt_sub, hd, show (1 : Int32).toInt = 1 from rfl]
        refine bm ?_ (by omega)
        have : x.toInt.tdiv y.toInt * y.toInt ≤ x.toInt.tdiv y.toInt * 1 := Int.mul_le_mul_of_nonpos_left hn.2.2 hy
        omega
      rw [e4]
      refine (key _ _ ?_).symm
      rw [Int32.toInt_sub, e3, bm (by omega) (by omega), Int.sub_mul]
      omega
/-- a mark, in the garden -/
theorem place_gr {σ : Sg} {g B j : Nat} {τ : Sg} (h : GR σ g (τ 1) B) (hj : j < 4) : f_X4_placeIn σ (g + 1 + 3 * j) (σ g 5) = f_X6_placed τ j ∧ 0 ≤ (f_X6_placed τ j).toInt ∧ (f_X6_placed τ j).toInt < (τ 1 229).toInt := by
  obtain ⟨⟨⟨w0, w1, w2, w3, w4, w5, w6, w7, w8, w9, w10⟩, -⟩, -⟩ := h.1 j hj
  obtain ⟨-, -, -, h4, h5⟩ := h
  have hc := h5.int
  obtain ⟨m1, m2, m3⟩ := mod_pl (x := τ 1 (57 * j + 1)) (y := τ 1 229) (by omega)
  have hp : f_X6_placed τ j = f_J9_floorMod_7cf53 (τ 1 (57 * j + 1)) (τ 1 229) := by
    rw [m1]
    rfl
  refine ⟨?_, by rw [hp]; exact m2, by rw [hp]; exact m3⟩
  unfold f_X4_placeIn
  rw [h4, if_pos (by rw [Int32.le_iff_toInt_le]; show (1 : Int) ≤ _; omega), w1, hp]
  rfl
theorem turns_gr {σ : Sg} {g B j : Nat} {τ : Sg} (h : GR σ g (τ 1) B) (hj : j < 4) (hB : B ≤ 2000000000) : f_X4_turnsOver σ (g + 1 + 3 * j) (σ g 5) = (f_X6_of τ j 1 - f_X6_placed τ j) / (τ 1 229) := by
  obtain ⟨⟨⟨w0, w1, w2, w3, w4, w5, w6, w7, w8, w9, w10⟩, -⟩, hp⟩ := h.1 j hj
  obtain ⟨-, -, -, h4, h5⟩ := h
  have hc := h5.int
  unfold f_X4_turnsOver
  rw [h4, if_pos (by rw [Int32.le_iff_toInt_le]; show (1 : Int) ≤ _; omega), w1]
  exact div_pl (x := τ 1 (57 * j + 1)) (by omega) (by omega) (by have := hp.1; omega)
theorem ab_0 {x : Int32} : f_X6_size x = ab x := size_ab x
/-- words: a snail at its mark -/
theorem sn_mark {σ : Sg} {k : Nat} {T T' : Nat → Int32} {f : Int32} (h : SnR σ k T) (h1 : T' 1 = T 1 + -f) (h4 : T' 4 = T 4 + f_X6_size f) (ho : ∀ a, a < 57 → a ≠ 1 → a ≠ 4 → T' a = T a) : SnR (up (up (up σ k 2 (σ k 2 - f)) k 7 ((up σ k 2 (σ k 2 - f)) k 7 + f)) k 9 ((up (up σ k 2 (σ k 2 - f)) k 7 ((up σ k 2 (σ k 2 - f)) k 7 + f)) k 9 + ab f)) k T' := by
  obtain ⟨⟨w0, w1, w2, w3, w4, w5, w6, w7, w8, w9, w10⟩, L, O, l1, l2, l3, l4, l5, l6, l7⟩ := h
  refine ⟨⟨?_, ?_, ?_, ?_, ?_, ?_, ?_, ?_, ?_, ?_, ?_⟩, L, O, l1, l2, ?_, ?_, ?_, ?_, ?_⟩
  · rw [ho 0 (by omega) (by omega) (by omega), ← w0]; simp [up]
  · rw [h1, ← w1]; simp [up, Int32.sub_eq_add_neg]
  · rw [ho 2 (by omega) (by omega) (by omega), ← w2]; simp [up]
  · rw [ho 7 (by omega) (by omega) (by omega), ← w3]; simp [up]
  · rw [ho 3 (by omega) (by omega) (by omega), ← w4]; simp [up]
  · rw [h4, ← w5, size_ab]; simp [up]
  · rw [ho 5 (by omega) (by omega) (by omega), ← w6]; simp [up]
  · rw [ho 6 (by omega) (by omega) (by omega), ← w7]; simp [up]
  · have e : σ k 4 + σ k 5 + σ k 6 - (σ k 7 + f) = σ k 2 - f := by rw [← w8]; grind
    simpa [up] using e
  · rw [ho 0 (by omega) (by omega) (by omega)]; exact w9
  · rw [ho 2 (by omega) (by omega) (by omega)]; exact w10
  · rw [up_ne (by omega), up_ne (by omega), up_ne (by omega)]; exact l3
  · rw [ho 8 (by omega) (by omega) (by omega)]; exact l4
  · rw [up_ne (by omega), up_ne (by omega), up_ne (by omega)]; exact l5
  · intro i hi c hc
    rw [up_ne (by omega), up_ne (by omega), up_ne (by omega), ho _ (by omega) (by omega) (by omega)]
    exact l6 i hi c hc
  · intro i hi
    have := l7 i hi
    unfold EB at *
    rw [ho (9 + 3 * i + 2) (by omega) (by omega) (by omega), ho (9 + 3 * i) (by omega) (by omega) (by omega), ho (9 + 3 * i + 1) (by omega) (by omega) (by omega), ho 0 (by omega) (by omega) (by omega)]
    by_cases c : i + 1 = L
    · rw [if_pos c] at this ⊢
      exact this
    · rw [if_neg c] at this ⊢
      rw [ho _ (by omega) (by omega) (by omega)]
      exact this
theorem mark_gr {σ : Sg} {g B j : Nat} {τ : Sg} (h : GR σ g (τ 1) B) (hk : ∃ q : Nat, q ≤ 4 ∧ τ 0 2 = nI q) (hj : j < 4) (hB : B + 400 ≤ 2000000000) :
    GR (s_X4_passMark σ (g + 1 + 3 * j) (σ g 5)) g ((t_X6_meets τ j) 1) (B + 400) ∧ f_X4_passMark σ (g + 1 + 3 * j) (σ g 5) = f_X6_meets τ j ∧ ∀ q, q ≠ g + 1 + 3 * j → s_X4_passMark σ (g + 1 + 3 * j) (σ g 5) q = σ q := by
  obtain ⟨e, p1, p2⟩ := place_gr h hj
  obtain ⟨hS, hP⟩ := h.1 j hj
  have hM := MI.gr h hk
  have h4 := h.2.2.2.1
  have hc := h.2.2.2.2.int
  have hfr := (meets_row hM hj).1
  -- with any way off
  have key : ∀ f : Int32, -400 ≤ f.toInt → f.toInt ≤ 400 → ∀ t : Sg, t = t_X6_grow (t_X6_grow τ j 1 (-f)) j 4 (f_X6_size f) → (∀ a b, ¬ (a = 1 ∧ 57 * j ≤ b ∧ b < 57 * j + 57) → t a b = τ a b) →
      GR (up (up (up σ (g + 1 + 3 * j) 2 (σ (g + 1 + 3 * j) 2 - f)) (g + 1 + 3 * j) 7 ((up σ (g + 1 + 3 * j) 2 (σ (g + 1 + 3 * j) 2 - f)) (g + 1 + 3 * j) 7 + f)) (g + 1 + 3 * j) 9 ((up (up σ (g + 1 + 3 * j) 2 (σ (g + 1 + 3 * j) 2 - f)) (g + 1 + 3 * j) 7 ((up σ (g + 1 + 3 * j) 2 (σ (g + 1 + 3 * j) 2 - f)) (g + 1 + 3 * j) 7 + f)) (g + 1 + 3 * j) 9 + ab f)) g (t 1) (B + 400) := by
    intro f f1 f2 t ht hf
    have e1 : t 1 (57 * j + 1) = τ 1 (57 * j + 1) + -f := by
      rw [ht]; simp only [grow_r]; simp
    refine h.one hj (fun q q1 q2 q3 => by rw [up_ne q1, up_ne q1, up_ne q1]) (fun a ha => hf 1 a (fun q => ha q.2)) ?_ ?_ (by omega)
    · refine sn_mark hS e1 ?_ ?_
      · show t 1 (57 * j + 4) = τ 1 (57 * j + 4) + _
        rw [ht]; simp only [grow_r]; simp
      · intro a ha a1 a4
        show t 1 (57 * j + a) = τ 1 (57 * j + a)
        rw [ht]
        simp only [grow_r]
        rw [if_neg a4, if_neg a1]
    · rw [e1]
      refine hP.add (C := 400) ?_ hB
      have : (-f).toInt = -f.toInt := by
        rw [Int32.toInt_neg]
        exact bm (by omega) (by omega)
      exact ⟨by omega, by omega⟩
  have hfr' : ∀ a b, ¬ (a = 1 ∧ 57 * j ≤ b ∧ b < 57 * j + 57) → (t_X6_meets τ j) a b = τ a b := hfr
  unfold s_X4_passMark f_X4_passMark f_X6_meets
  rw [e, h4]
  unfold t_X6_meets at hfr' ⊢
  by_cases c : τ 1 229 < 2 * f_X6_placed τ j
  · rw [if_pos c] at hfr' ⊢
    rw [if_pos c, if_pos c]
    have ef : (f_X6_placed τ j - τ 1 229).toInt = (f_X6_placed τ j).toInt - (τ 1 229).toInt := by
      rw [Int32.toInt_sub]
      exact bm (by omega) (by omega)
    exact ⟨key _ (by omega) (by omega) _ rfl hfr', rfl, fun q q1 => by rw [up_ne q1, up_ne q1, up_ne q1]⟩
  · rw [if_neg c] at hfr' ⊢
    rw [if_neg c, if_neg c]
    exact ⟨key _ (by omega) (by omega) _ rfl hfr', rfl, fun q q1 => by rw [up_ne q1, up_ne q1, up_ne q1]⟩

/-! the way back -/
def bR (T : Nat → Int32) (M : Nat) (e : Int32) : Nat → Int32 := fun a =>
  if a = 0 then T (9 + 3 * M + 2) else if a = 1 then T 1 + -T (9 + 3 * M) else if a = 2 then dirOf (-T (9 + 3 * M)) (T 2) else if a = 5 then T 5 + f_X6_size (T (9 + 3 * M)) else if a = 6 then T 6 + T (9 + 3 * M + 1) else if a = 7 then T 7 + e else if a = 8 then T 8 + -1 else if a = 9 + 3 * M then 0 else if a = 9 + 3 * M + 1 then 0 else if a = 9 + 3 * M + 2 then 0 else T a
theorem back_r {τ : Sg} {j M : Nat} {e s b : Int32} (hs : s = τ 1 (57 * j + (9 + 3 * M))) (hb : b = τ 1 (57 * j + (9 + 3 * M + 2))) (a : Nat) : (t_X6_lay (t_X6_lay (t_X6_lay (t_X6_turns (t_X6_lay (t_X6_grow (t_X6_grow (t_X6_grow (t_X6_grow (t_X6_grow τ j 8 (-1)) j 7 e) j 1 (-s)) j 5 (f_X6_size s)) j 6 (f_X6_of (t_X6_grow (t_X6_grow (t_X6_grow (t_X6_grow τ j 8 (-1)) j 7 e) j 1 (-s)) j 5 (f_X6_size s)) j (9 + 3 * M + 1))) j 0 b) j (-s)) j (9 + 3 * M) 0) j (9 + 3 * M + 1) 0) j (9 + 3 * M + 2) 0) 1 (57 * j + a) = bR (rw1 τ j) M e a := by
  have h1 : f_X6_of (t_X6_grow (t_X6_grow (t_X6_grow (t_X6_grow τ j 8 (-1)) j 7 e) j 1 (-s)) j 5 (f_X6_size s)) j (9 + 3 * M + 1) = τ 1 (57 * j + (9 + 3 * M + 1)) := by
    unfold f_X6_of
    simp only [grow_r]
    rw [if_neg (by omega), if_neg (by omega), if_neg (by omega), if_neg (by omega)]
  rw [h1]
  unfold bR rw1
  rw [← hs, ← hb]
  simp only [turns_r, grow_r, lay_r]
  have hc : a = 0 ∨ a = 1 ∨ a = 2 ∨ a = 3 ∨ a = 4 ∨ a = 5 ∨ a = 6 ∨ a = 7 ∨ a = 8 ∨ 9 ≤ a := by omega
  rcases hc with h | h | h | h | h | h | h | h | h | h
  all_goals
    first
    | subst h
      simp (disch := omega) only [if_pos, if_neg, if_true, if_false]
      repeat first | rw [if_neg (by omega)] | rw [if_pos (by omega)]
    | skip
  by_cases h1 : a = 9 + 3 * M
  · subst h1
    repeat first | rw [if_neg (by omega)] | rw [if_pos (by omega)]
  · by_cases h2 : a = 9 + 3 * M + 1
    · subst h2
      repeat first | rw [if_neg (by omega)] | rw [if_pos (by omega)]
    · by_cases h3 : a = 9 + 3 * M + 2
      · subst h3
        repeat first | rw [if_neg (by omega)] | rw [if_pos (by omega)]
      · repeat first | rw [if_neg (by omega)] | rw [if_pos (by omega)]
theorem bR_lo (T : Nat → Int32) (M : Nat) (e : Int32) : bR T M e 0 = T (9 + 3 * M + 2) ∧ bR T M e 1 = T 1 + -T (9 + 3 * M) ∧ bR T M e 2 = dirOf (-T (9 + 3 * M)) (T 2) ∧ bR T M e 3 = T 3 ∧ bR T M e 4 = T 4 ∧ bR T M e 5 = T 5 + f_X6_size (T (9 + 3 * M)) ∧ bR T M e 6 = T 6 + T (9 + 3 * M + 1) ∧ bR T M e 7 = T 7 + e ∧ bR T M e 8 = T 8 + -1 ∧ ∀ a, 9 ≤ a → a < 9 + 3 * M → bR T M e a = T a := by
  unfold bR
  refine ⟨rfl, rfl, rfl, ?_, ?_, rfl, rfl, rfl, rfl, fun a h1 h2 => ?_⟩
  all_goals repeat rw [if_neg (by omega)]
/-- a snail goes back by one entry -/
theorem sn_back {σ : Sg} {k L O : Nat} {T : Nat → Int32} (hW : WdR σ k T) (hL : LgR σ (k + 1) T L O) (h1 : 1 ≤ L) :
    let σ' := s_X1_dropLatest (s_X4_move σ k (f_X1_before σ (k + 1) ((σ (k + 1) 2) - 1)) (-(f_X1_step σ (k + 1) ((σ (k + 1) 2) - 1))) (f_X1_spent σ (k + 1) ((σ (k + 1) 2) - 1))) (k + 1)
    let T' := bR T (L - 1) (if f_X6_isA (T (9 + 3 * (L - 1) + 2)) (T 0) = 0 then 0 else -T (9 + 3 * (L - 1)))
    WdR σ' k T' ∧ LgR σ' (k + 1) T' (L - 1) O ∧ ∀ q, q ≠ k → q ≠ k + 1 → σ' q = σ q := by
  intro σ' T'
  obtain ⟨l1, l2, l3, l4, l5, l6, l7⟩ := hL
  have e1 : σ (k + 1) 2 - 1 = nI (L - 1) := by rw [l3]; exact pk_sub (a := L) (b := 1) h1
  have es := l6 (L - 1) (by omega) 0 (by omega)
  have ep := l6 (L - 1) (by omega) 1 (by omega)
  have eb := l6 (L - 1) (by omega) 2 (by omega)
  have hE := l7 (L - 1) (by omega)
  have hfs : f_X1_step σ (k + 1) ((σ (k + 1) 2) - 1) = T (9 + 3 * (L - 1)) := by rw [e1, step_nI l5 (by omega)]; exact es
  have hfp : f_X1_spent σ (k + 1) ((σ (k + 1) 2) - 1) = T (9 + 3 * (L - 1) + 1) := by rw [e1, spent_nI l5 (by omega)]; exact ep
  have hfb : f_X1_before σ (k + 1) ((σ (k + 1) 2) - 1) = T (9 + 3 * (L - 1) + 2) := by rw [e1, before_nI l5 (by omega)]; exact eb
  obtain ⟨hch, hs, hp, hb⟩ := hE
  rw [if_pos (by omega)] at hch
  have hdef : σ' = up (s_X4_move σ k (T (9 + 3 * (L - 1) + 2)) (-T (9 + 3 * (L - 1))) (T (9 + 3 * (L - 1) + 1))) (k + 1) 2 (nI (L - 1)) := by
    show s_X1_dropLatest _ _ = _
    rw [hfs, hfp, hfb]
    unfold s_X1_dropLatest
    have hne : ¬ (s_X4_move σ k (T (9 + 3 * (L - 1) + 2)) (-T (9 + 3 * (L - 1))) (T (9 + 3 * (L - 1) + 1))) (k + 1) 2 ≤ 0 := by
      rw [move_ne (by omega), l3, show (0 : Int32) = nI 0 from rfl, nI_leI (by omega) (by omega)]
      omega
    rw [if_neg hne, move_ne (show k + 1 ≠ k by omega), e1]
  obtain ⟨f0, f1, f2, f3, f4, f5, f6, f7, f8, f9⟩ := bR_lo T (L - 1) (if f_X6_isA (T (9 + 3 * (L - 1) + 2)) (T 0) = 0 then 0 else -T (9 + 3 * (L - 1)))
  have hk : σ' k = s_X4_move σ k (T (9 + 3 * (L - 1) + 2)) (-T (9 + 3 * (L - 1))) (T (9 + 3 * (L - 1) + 1)) k := by rw [hdef, up_ne (by omega)]
  have hW0 := hW
  obtain ⟨w0, w1, w2, w3, w4, w5, w6, w7, w8, w9, w10⟩ := hW
  have hu : St (σ k 1) := by rw [w0]; exact w9
  have hxor : σ k 1 ^^^ T (9 + 3 * (L - 1) + 2) = T (9 + 3 * (L - 1) + 2) ^^^ T 0 := by rw [w0]; exact st_comm w9 hb
  have hz : σ k 1 ^^^ T (9 + 3 * (L - 1) + 2) = 0 → -T (9 + 3 * (L - 1)) = 0 := fun q => by rw [hch (by rw [← hxor]; exact q)]; decide
  refine ⟨⟨?_, ?_, ?_, ?_, ?_, ?_, ?_, ?_, ?_, ?_, ?_⟩, ⟨by omega, l2, ?_, ?_, ?_, ?_, ?_⟩, ?_⟩
  · rw [hk, move_k]; exact f0.symm
  · rw [hk, move_k]; show σ k 2 + _ = _; rw [w1]; exact f1.symm
  · rw [hk, move_k]; show dirOf _ (σ k 3) = _; rw [w2]; exact f2.symm
  · rw [hk, move_k]
    show (if σ k 1 ^^^ T (9 + 3 * (L - 1) + 2) = 2 then σ k 4 + -T (9 + 3 * (L - 1)) else σ k 4) = T' 7
    rw [show T' 7 = _ from f7, hxor, w3]
    unfold f_X6_isA
    by_cases c : T (9 + 3 * (L - 1) + 2) ^^^ T 0 = 2
    · rw [if_pos c, if_pos c, if_neg (by decide)]
    · rw [if_neg c, if_neg c, if_pos rfl, Int32.add_zero]
  · rw [hk, move_k]; show σ k 8 = _; rw [w4]; exact f3.symm
  · rw [hk, move_k]; show σ k 9 = _; rw [w5]; exact f4.symm
  · rw [hk, move_k]
    show σ k 10 + ab (-T (9 + 3 * (L - 1))) = T' 5
    rw [w6, show T' 5 = _ from f5, size_ab]
    have : ab (-T (9 + 3 * (L - 1))) = ab (T (9 + 3 * (L - 1))) := by
      have hn : (-T (9 + 3 * (L - 1))).toInt = -(T (9 + 3 * (L - 1))).toInt := by
        rw [Int32.toInt_neg]; exact bm (by omega) (by omega)
      have h0 : ∀ v : Int32, (0 : Int32) ≤ v ↔ 0 ≤ v.toInt := fun v => by rw [Int32.le_iff_toInt_le]; rfl
      unfold ab
      by_cases c : 0 ≤ T (9 + 3 * (L - 1))
      · rw [if_pos c]
        by_cases c2 : 0 ≤ -T (9 + 3 * (L - 1))
        · rw [if_pos c2]
          apply Int32.toInt_inj.mp
          have := (h0 _).mp c
          have := (h0 _).mp c2
          omega
        · rw [if_neg c2]; simp
      · rw [if_neg c, if_pos ((h0 _).mpr (by have := mt (h0 _).mpr c; omega))]
        simp
    rw [this]
  · rw [hk, move_k]; show σ k 11 + _ = _; rw [w7]; exact f6.symm
  · have := wd_move (w := T (9 + 3 * (L - 1) + 1)) hW0 hb hz
    rw [hk, move_k, move_k, move_k, move_k, move_k]
    exact this
  · rw [show T' 0 = _ from f0]; exact hb
  · rw [show T' 2 = _ from f2]; exact dirOf_dr w10
  · rw [hdef, up_eq]
  · rw [show T' 8 = _ from f8, l4]
    have : nI L + -1 = nI L - 1 := (Int32.sub_eq_add_neg _ _).symm
    rw [this]
    exact pk_sub (a := L) (b := 1) h1
  · rw [hdef, up_nb (by decide), move_ne (show k + 1 ≠ k by omega)]; exact l5
  · intro i hi c hc
    rw [hdef, up_ne (by omega), move_ne (by omega), show T' _ = _ from f9 (9 + 3 * i + c) (by omega) (by omega)]
    exact l6 i (by omega) c hc
  · intro i hi
    have hh := l7 i (by omega)
    unfold EB at hh ⊢
    rw [if_neg (by omega)] at hh
    rw [show T' (9 + 3 * i + 2) = _ from f9 _ (by omega) (by omega), show T' (9 + 3 * i) = _ from f9 _ (by omega) (by omega), show T' (9 + 3 * i + 1) = _ from f9 _ (by omega) (by omega)]
    by_cases c : i + 1 = L - 1
    · rw [if_pos c, show T' 0 = _ from f0, ← c]
      exact hh
    · rw [if_neg c, show T' (9 + 3 * (i + 1) + 2) = _ from f9 _ (by omega) (by omega)]
      exact hh
  · intro q q1 q2
    rw [hdef, up_ne q2, move_ne q1]

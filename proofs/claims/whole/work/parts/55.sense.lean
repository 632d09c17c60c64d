/-- the reference's row after a feeling, with the log's length known -/
def fR' (T : Nat → Int32) (L : Nat) (v w y : Int32) : Nat → Int32 := fR (if L = 16 then (fun b => if b = 8 then 15 else shR T 9 b) else T) (if L = 16 then 15 else L) v w (T 0) y (eo (T 0) y) (qo (T 0) y v)
theorem fR_lo (T : Nat → Int32) (L : Nat) (v w y : Int32) : fR' T L v w y 0 = y ∧ fR' T L v w y 1 = T 1 + v ∧ fR' T L v w y 2 = dirOf v (T 2) ∧ fR' T L v w y 3 = T 3 + eo (T 0) y ∧ fR' T L v w y 4 = T 4 ∧ fR' T L v w y 5 = T 5 + f_X6_size v ∧ fR' T L v w y 6 = T 6 + w ∧ fR' T L v w y 7 = T 7 + qo (T 0) y v ∧ fR' T L v w y 8 = (if L = 16 then 15 else T 8) + 1 := by
  unfold fR' fR
  by_cases c : L = 16
  · subst c
    simp [shR]
  · simp only [c, if_false]
    refine ⟨rfl, rfl, rfl, rfl, ?_, rfl, rfl, rfl, rfl⟩
    repeat rw [if_neg (by omega)]
theorem fR_n {T : Nat → Int32} {L : Nat} {v w y : Int32} (hL : L ≤ 16) (c : Nat) (hc : c < 3) : fR' T L v w y (9 + 3 * (lL L - 1) + c) = if c = 0 then v else if c = 1 then w else T 0 := by
  have hl : lL L - 1 = if L = 16 then 15 else L := by unfold lL; split <;> omega
  unfold fR' fR
  rw [hl]
  generalize (if L = 16 then 15 else L) = M
  have hc3 : c = 0 ∨ c = 1 ∨ c = 2 := by omega
  rcases hc3 with rfl | rfl | rfl
  · repeat first | rw [if_neg (by omega)] | rw [if_pos (by omega)]
  · repeat first | rw [if_neg (by omega)] | rw [if_pos (by omega)]
  · repeat first | rw [if_neg (by omega)] | rw [if_pos (by omega)]
theorem fR_o {T : Nat → Int32} {L : Nat} {v w y : Int32} (hL : L ≤ 16) (i : Nat) (hi : i < lL L - 1) (c : Nat) (hc : c < 3) : fR' T L v w y (9 + 3 * i + c) = if L = 16 then T (9 + 3 * (i + 1) + c) else T (9 + 3 * i + c) := by
  unfold fR' fR
  by_cases cL : L = 16
  · have hi' : i < 15 := by unfold lL at hi; rw [if_pos cL] at hi; omega
    simp only [cL, if_true]
    repeat rw [if_neg (by omega)]
    unfold shR
    rw [if_pos (by omega)]
    congr 1
    omega
  · have hi' : i < L := by unfold lL at hi; rw [if_neg cL] at hi; omega
    simp only [cL, if_false]
    repeat rw [if_neg (by omega)]
theorem qo_eq {u y v : Int32} : qo u y v = if u ^^^ y = 2 then v else 0 := by
  unfold qo f_X6_isA
  by_cases h : u ^^^ y = 2
  · rw [if_pos h, if_pos h, if_neg (by decide)]
  · rw [if_neg h, if_neg h, if_pos rfl]
theorem add_ne {σ : Sg} {q a : Nat} {x y w : Int32} {O L : Nat} (hO : σ q 1 = nI O) (hO16 : O < 16) (hL : σ q 2 = nI L) (hL16 : L ≤ 16) (h1 : a ≠ q) (h2 : a ≠ q + 1) : s_X1_add σ q x y w a = σ a := by
  rw [add_eq hO hO16 hL hL16, up_ne h2, up_ne h2, up_ne h2, up_ne h1, up_ne h1]
theorem LgR.cg {σ σ' : Sg} {q : Nat} {T : Nat → Int32} {L O : Nat} (h : LgR σ q T L O) (e1 : σ' q = σ q) (e2 : σ' (q + 1) = σ (q + 1)) : LgR σ' q T L O := by
  obtain ⟨h1, h2, h3, h4, h5, h6, h7⟩ := h
  exact ⟨h1, h2, by rw [e1]; exact h3, h4, by rw [e1]; exact h5, fun i hi c hc => by rw [e2]; exact h6 i hi c hc, h7⟩
theorem WdR.cg {σ σ' : Sg} {k : Nat} {T : Nat → Int32} (h : WdR σ k T) (e : σ' k = σ k) : WdR σ' k T := by
  unfold WdR at *
  rw [e]
  exact h
/-- words: a snail that has felt -/
theorem wd_sense {σ1 σ : Sg} {k : Nat} {T : Nat → Int32} {L : Nat} {y v w : Int32} (h : WdR σ k T) (hy : St y) (hv : Mv (T 0) y v) (h1 : ∀ a, a ≠ 8 → σ1 k a = σ k a) (h8 : σ1 k 8 = if σ k 1 ^^^ y = 3 then σ k 8 + 1 else σ k 8) : WdR (s_X4_move σ1 k y v w) k (fR' T L v w y) := by
  obtain ⟨f0, f1, f2, f3, f4, f5, f6, f7, f8⟩ := fR_lo T L v w y
  have hW : WdR σ k T := h
  obtain ⟨w0, w1, w2, w3, w4, w5, w6, w7, w8, w9, w10⟩ := h
  have hu : St (σ k 1) := by rw [w0]; exact w9
  refine ⟨?_, ?_, ?_, ?_, ?_, ?_, ?_, ?_, ?_, ?_, ?_⟩
  · rw [move_k, f0]; rfl
  · rw [move_k, f1, ← w1]
    show σ1 k 2 + v = _
    rw [h1 2 (by decide)]
  · rw [move_k, f2, ← w2]
    show dirOf v (σ1 k 3) = _
    rw [h1 3 (by decide)]
  · rw [move_k, f7, ← w3, qo_eq, ← w0]
    show (if σ1 k 1 ^^^ y = 2 then σ1 k 4 + v else σ1 k 4) = _
    rw [h1 1 (by decide), h1 4 (by decide)]
    split
    · rfl
    · exact (Int32.add_zero _).symm
  · rw [move_k, f3, ← w4]
    show σ1 k 8 = _
    rw [h8, ← w0]
    unfold eo
    by_cases c : σ k 1 ^^^ y = 3
    · rw [if_pos c, if_pos ((st_on hu hy).mpr c)]
    · rw [if_neg c, if_neg (fun q => c ((st_on hu hy).mp q)), Int32.add_zero]
  · rw [move_k, f4, ← w5]
    show σ1 k 9 = _
    rw [h1 9 (by decide)]
  · rw [move_k, f5, ← w6, size_ab]
    show σ1 k 10 + ab v = _
    rw [h1 10 (by decide)]
  · rw [move_k, f6, ← w7]
    show σ1 k 11 + w = _
    rw [h1 11 (by decide)]
  · have hm : WdR σ1 k (fun a => if a = 3 then σ1 k 8 else T a) := by
      refine ⟨?_, ?_, ?_, ?_, ?_, ?_, ?_, ?_, ?_, ?_, ?_⟩
      · rw [h1 1 (by decide)]; exact w0
      · rw [h1 2 (by decide)]; exact w1
      · rw [h1 3 (by decide)]; exact w2
      · rw [h1 4 (by decide)]; exact w3
      · rfl
      · rw [h1 9 (by decide)]; exact w5
      · rw [h1 10 (by decide)]; exact w6
      · rw [h1 11 (by decide)]; exact w7
      · rw [h1 4 (by decide), h1 5 (by decide), h1 6 (by decide), h1 7 (by decide), h1 2 (by decide)]; exact w8
      · exact w9
      · exact w10
    have := wd_move (w := w) hm hy (by rw [h1 1 (by decide), w0]; exact hv.1)
    rw [move_k, move_k, move_k, move_k, move_k]
    exact this
  · rw [f0]; exact hy
  · rw [f2]; exact dirOf_dr w10
/-- a snail that has felt -/
theorem sn_sense {σ : Sg} {k : Nat} {T : Nat → Int32} {y v w : Int32} (h : SnR σ k T) (hy : St y) (hv : Mv (T 0) y v) (hw : 1 ≤ w.toInt ∧ w.toInt ≤ 1000) : ∃ L : Nat, L ≤ 16 ∧ T 8 = nI L ∧ SnR (s_X4_sense σ k y v w) k (fR' T L v w y) ∧ ∀ q, q ≠ k → q ≠ k + 1 → q ≠ k + 2 → s_X4_sense σ k y v w q = σ q := by
  obtain ⟨hW, L, O, hL⟩ := h
  have hL' := hL
  obtain ⟨l1, l2, l3, l4, l5, -, -⟩ := hL
  have hu : St (σ k 1) := by rw [hW.1]; exact hW.2.2.2.2.2.2.2.2.2.1
  refine ⟨L, l1, l4, ?_⟩
  -- the state before the move
  have key : ∀ σ0 : Sg, (∀ q, q ≠ k → σ0 q = σ q) → (∀ a, a ≠ 8 → σ0 k a = σ k a) → (σ0 k 8 = if σ k 1 ^^^ y = 3 then σ k 8 + 1 else σ k 8) → SnR (s_X4_move (s_X1_add σ0 (k + 1) v w (σ k 1)) k y v w) k (fR' T L v w y) ∧ ∀ q, q ≠ k → q ≠ k + 1 → q ≠ k + 2 → s_X4_move (s_X1_add σ0 (k + 1) v w (σ k 1)) k y v w q = σ q := by
    intro σ0 g1 g2 g3
    have hL0 : LgR σ0 (k + 1) T L O := hL'.cg (g1 _ (by omega)) (g1 _ (by omega))
    have hk : s_X1_add σ0 (k + 1) v w (σ k 1) k = σ0 k := add_ne (by rw [g1 _ (by omega)]; exact l5) l2 (by rw [g1 _ (by omega)]; exact l3) l1 (by omega) (by omega)
    refine ⟨⟨wd_sense hW hy hv (fun a ha => by rw [hk]; exact g2 a ha) (by rw [hk]; exact g3), lL L, lO O L, ?_⟩, ?_⟩
    · have hA := lg_add (T' := fR' T L v w y) (x := v) (y := w) (w := σ k 1) hL0 hv.2 hw hu hW.1 (by rw [(fR_lo T L v w y).1, hW.1]; exact hv.1) ?_ ?_ ?_
      · exact hA.cg (move_ne (by omega)) (move_ne (by omega))
      · rw [(fR_lo T L v w y).2.2.2.2.2.2.2.2]
        unfold lL
        by_cases c : L = 16
        · rw [if_pos c, if_pos c]; rfl
        · rw [if_neg c, if_neg c, l4, nI_1]
      · intro c hc
        rw [fR_n l1 c hc, hW.1]
      · exact fun i hi c hc => fR_o l1 i hi c hc
    · intro q q1 q2 q3
      rw [move_ne q1, add_ne (by rw [g1 _ (by omega)]; exact l5) l2 (by rw [g1 _ (by omega)]; exact l3) l1 q2 q3, g1 q q1]
  unfold s_X4_sense
  by_cases c : σ k 1 ^^^ y = 3
  · rw [if_pos c]
    have e : (up σ k 8 (σ k 8 + 1)) k 1 = σ k 1 := up_nb (by decide)
    rw [e]
    exact key (up σ k 8 (σ k 8 + 1)) (fun q hq => up_ne hq) (fun a ha => up_nb ha) (by rw [up_eq, if_pos c])
  · rw [if_neg c]
    exact key σ (fun _ _ => rfl) (fun _ _ => rfl) (by rw [if_neg c])

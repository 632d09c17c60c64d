theorem kd14 {q : Nat} (h : kd q = 2) : q = 93 := by
  unfold kd at h
  repeat' split at h
  all_goals try dsimp only at h
  all_goals repeat' split at h
  all_goals first | omega | cases h
theorem RR.mv {n B' : Nat} {σ σ' τ τ' : Sg} (h : RR n σ τ) (hg : GR σ' 1 (τ' 1) B') (hB : B' ≤ 100000 * (n + 1)) (hs : ∀ q, q = 0 ∨ 14 ≤ q → σ' q = σ q) (hG : LGA σ') (ht : FrT TN τ τ') : RR (n + 1) σ' τ' := by
  refine ⟨hg.cg (fun _ _ _ => rfl) (fun _ _ => rfl) hB, h.2.now (by omega) (fun q hq => hs q (by omega)) hG ?_ ht⟩
  intro q hq
  have := kd14 hq
  rw [hs q (by omega)]
  exact h.2.2.2.2.2 q hq
theorem kd_sn {j : Nat} (hj : j < 4) : kd (1 + 1 + 3 * j) = 4 := by
  have : j = 0 ∨ j = 1 ∨ j = 2 ∨ j = 3 := by omega
  rcases this with rfl | rfl | rfl | rfl <;> rfl
theorem op_mark_no {n : Nat} {σ τ : Sg} {x : Int32} (h : RR n σ τ) (hx : ¬ InS x) : Ans n (x_X5_meetMark σ 0 x) (hk1 (x_X5_meetMark σ 0 x)) (f_X5_meetMark σ 0 x) (f_X6_meetMark_no τ x) (s_X5_meetMark σ 0 x) (t_X6_meetMark_no τ x) := by
  have e : x_X5_meetMark σ 0 x = 1 := by
    unfold x_X5_meetMark
    rw [if_neg (by rw [num_no hx]; decide), num_no hx]
  have es : s_X5_meetMark σ 0 x = σ := by
    unfold s_X5_meetMark
    rw [if_neg (by rw [num_no hx]; decide)]
  rw [e, es]
  exact Ans.no h hx (by decide) rfl
theorem op_mark_ok {n j : Nat} {σ τ : Sg} (h : RR n σ τ) (hj : j < 4) (hn : n ≤ 1000) : Ans n (x_X5_meetMark σ 0 (nI j)) (hk1 (x_X5_meetMark σ 0 (nI j))) (f_X5_meetMark σ 0 (nI j)) (f_X6_meetMark_ok τ j) (s_X5_meetMark σ 0 (nI j)) (t_X6_meetMark_ok τ j) := by
  obtain ⟨n0, n1⟩ := num_ok (σ := σ) hj
  have h2 := rr_keep (h.up8 (v := 0))
  unfold x_X5_meetMark f_X5_meetMark s_X5_meetMark f_X6_meetMark_ok t_X6_meetMark_ok
  rw [(isT_ok hj).2, n1]
  simp only [if_pos n0, Nat.zero_add]
  obtain ⟨g1, g2, g3⟩ := mark_gr h2.1 h2.kn hj (by omega)
  refine ⟨?_, fun _ => g2, h2.mv g1 (by omega) (fun q hq => g3 q (by omega)) (LGA_passMark h2.2.2.2.2.1 (kd_sn hj)) (meets_T1.mono fun a b hp => Or.inl hp)⟩
  rw [meets_T1 0 8 (by decide), rec_8, up_eq]
  rfl
theorem op_back_no {n : Nat} {σ τ : Sg} {x y : Int32} (h : RR n σ τ) (hx : ¬ InS x) : Ans n (x_X5_goBack σ 0 x y) (hkt (x_X5_goBack σ 0 x y)) (f_X5_goBack σ 0 x y) (f_X6_goBack_no τ x y) (s_X5_goBack σ 0 x y) (t_X6_goBack_no τ x y) := by
  have e : x_X5_goBack σ 0 x y = 1 := by
    unfold x_X5_goBack
    rw [if_neg (by rw [num_no hx]; decide), num_no hx]
  have es : s_X5_goBack σ 0 x y = σ := by
    unfold s_X5_goBack
    rw [if_neg (by rw [num_no hx]; decide)]
  rw [e, es]
  exact Ans.no h hx (by decide) rfl
theorem op_back_bad {n j : Nat} {σ τ : Sg} {y : Int32} (h : RR n σ τ) (hj : j < 4) (hy : f_X6_in y 1 16 = 0) : Ans n (x_X5_goBack σ 0 (nI j) y) (hkt (x_X5_goBack σ 0 (nI j) y)) (f_X5_goBack σ 0 (nI j) y) (f_X6_goBack_bad τ j y) (s_X5_goBack σ 0 (nI j) y) (t_X6_goBack_bad τ j y) := by
  obtain ⟨n0, n1⟩ := num_ok (σ := σ) hj
  have hy' := in_iff.mp hy
  have h1y : y < 1 ↔ ¬ 1 ≤ y := Int32.not_le.symm
  have e : x_X5_goBack σ 0 (nI j) y = 2 := by
    unfold x_X5_goBack
    rw [if_pos n0]
    by_cases c : y < 1
    · rw [if_pos c]
    · rw [if_neg c, if_neg (fun q => hy' ⟨Int32.not_lt.mp c, q⟩)]
  have es : s_X5_goBack σ 0 (nI j) y = σ := by
    unfold s_X5_goBack
    rw [if_pos n0]
    by_cases c : y < 1
    · rw [if_pos c]
    · rw [if_neg c, if_neg (fun q => hy' ⟨Int32.not_lt.mp c, q⟩)]
  rw [e, es]
  unfold f_X6_goBack_bad t_X6_goBack_bad
  rw [(isT_ok hj).2]
  exact Ans.thr h.up8 (by decide) rfl
theorem op_back_ok {n j f : Nat} {σ τ : Sg} (h : RR n σ τ) (hj : j < 4) (hn : n ≤ 1000) (hf : 1 ≤ f ∧ f ≤ 16) : Ans n (x_X5_goBack σ 0 (nI j) (nI f)) (hkt (x_X5_goBack σ 0 (nI j) (nI f))) (f_X5_goBack σ 0 (nI j) (nI f)) (f_X6_goBack_ok τ j f) (s_X5_goBack σ 0 (nI j) (nI f)) (t_X6_goBack_ok τ j f) := by
  obtain ⟨n0, n1⟩ := num_ok (σ := σ) hj
  have h1 : RR n σ (up τ 0 8 0) := h.up8
  have h2 := rr_keep h1
  have d1 : ¬ nI f < 1 := by
    rw [show (1 : Int32) = nI 1 from rfl, nI_ltI (by omega) (by omega)]
    omega
  have d2 : nI f ≤ 16 := by
    rw [show (16 : Int32) = nI 16 from rfl, nI_leI (by omega) (by omega)]
    omega
  unfold x_X5_goBack f_X5_goBack s_X5_goBack f_X6_goBack_ok t_X6_goBack_ok
  rw [(isT_ok hj).2, n1]
  simp only [if_pos n0, Nat.zero_add, if_neg d1, if_pos d2]
  have ec := can_gr (f := f) h1.1 hj (by omega)
  rw [ec]
  by_cases c : f_X6_canGoBack (up τ 0 8 0) j f = 0
  · simp only [if_pos c]
    exact Ans.thr h1 (by decide) rfl
  · simp only [if_neg c]
    have hl : f ≤ MLn (t_X6_record (up τ 0 8 0)) j := by
      have := gb_le' c
      unfold MLn at this ⊢
      rw [rec_1]
      exact this
    obtain ⟨g1, g2, g3⟩ := back_gr h2.1 h2.kn hj hl (by omega)
    refine ⟨?_, fun _ => ?_, h2.mv g1 (by omega) (fun q hq => g3 q (by omega) (by omega)) (LGA_retrace h2.2.2.2.2.1 (kd_sn hj)) (goesBack_T1.mono fun a b hp => Or.inl hp)⟩
    · rw [goesBack_T1 0 8 (by decide), rec_8, up_eq]
      rfl
    · rw [g2]
      exact (g1.1 j hj).1.1.2.1

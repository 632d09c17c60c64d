/-! the public methods, one by one -/
/-- a call that throws: nothing has moved but what is told -/
theorem Ans.thr {n t : Nat} {kt f g v : Int32} {σ τ : Sg} (h : RR n σ τ) (ht : t ≠ 0) (hk : v = kt) : Ans n t kt f g σ (up τ 0 8 v) := ⟨by rw [up_eq]; exact hk, fun q => absurd q ht, h.nx.up8⟩
theorem Ans.no {n t : Nat} {kt f g x : Int32} {σ τ : Sg} (h : RR n σ τ) (hx : ¬ InS x) (ht : t ≠ 0) (hk : (1 : Int32) = kt) : Ans n t kt f g σ (t_X6_isThere τ x) := by
  rw [(isT_no hx).2]
  exact Ans.thr h ht hk
theorem op_feel_no {n : Nat} {σ τ : Sg} {x y w : Int32} (h : RR n σ τ) (hx : ¬ InS x) : Ans n (x_X5_feel σ 0 x y w) (hkt (x_X5_feel σ 0 x y w)) (f_X5_feel σ 0 x y w) (f_X6_feel_no τ x y w) (s_X5_feel σ 0 x y w) (t_X6_feel_no τ x y w) := by
  have e : x_X5_feel σ 0 x y w = 1 := by
    unfold x_X5_feel
    rw [if_neg (by rw [num_no hx]; decide), num_no hx]
  have es : s_X5_feel σ 0 x y w = σ := by
    unfold s_X5_feel
    rw [if_neg (by rw [num_no hx]; decide)]
  rw [e, es]
  exact Ans.no h hx (by decide) rfl
theorem rr_keep {n : Nat} {σ τ : Sg} (h : RR n σ τ) : RR n (s_X3_keep σ 40 1) (t_X6_record τ) := ⟨(h.2.keep h.1).2, (h.2.keep h.1).1⟩
theorem rec_8 {τ : Sg} : (t_X6_record τ) 0 8 = τ 0 8 := rec_fr 0 8 (by omega)
theorem op_feel_ok {n j : Nat} {σ τ : Sg} {y w : Int32} (h : RR n σ τ) (hj : j < 4) (hn : n ≤ 1000) : Ans n (x_X5_feel σ 0 (nI j) y w) (hkt (x_X5_feel σ 0 (nI j) y w)) (f_X5_feel σ 0 (nI j) y w) (f_X6_feel_ok τ j y w) (s_X5_feel σ 0 (nI j) y w) (t_X6_feel_ok τ j y w) := by
  obtain ⟨n0, n1⟩ := num_ok (σ := σ) hj
  have h1 : RR n σ (up τ 0 8 0) := h.up8
  unfold x_X5_feel f_X5_feel s_X5_feel f_X6_feel_ok t_X6_feel_ok
  rw [(isT_ok hj).2, n1]
  simp only [if_pos n0, Nat.zero_add]
  by_cases c1 : x_X5_demandState y = 0
  · have hy := dst_st c1
    have c1' : ¬ f_X6_in y 0 3 = 0 := fun q => in_st.mp q c1
    simp only [if_pos c1, if_neg c1']
    have h1w : w < 1 ↔ ¬ 1 ≤ w.toInt := by
      rw [Int32.lt_iff_toInt_lt, show (1 : Int32).toInt = 1 from rfl]; omega
    have h2w : w ≤ 1000 ↔ w.toInt ≤ 1000 := by
      rw [Int32.le_iff_toInt_le, show (1000 : Int32).toInt = 1000 from rfl]
    have hin : f_X6_in w 1 1000 = 0 ↔ ¬ (1 ≤ w.toInt ∧ w.toInt ≤ 1000) := by
      rw [in_iff, Int32.le_iff_toInt_le, Int32.le_iff_toInt_le]
      rfl
    by_cases c2 : 1 ≤ w.toInt ∧ w.toInt ≤ 1000
    · have d1 : ¬ w < 1 := fun q => h1w.mp q c2.1
      have d2 : w ≤ 1000 := h2w.mpr c2.2
      have d3 : ¬ f_X6_in w 1 1000 = 0 := fun q => hin.mp q c2
      simp only [if_neg d1, if_pos d2, if_neg d3]
      obtain ⟨e1, e2⟩ := step_gr (τ := up τ 0 8 0) h1.1 hj hy
      have er := room_gr (y := y) (w := w) h1.1 hj
      rw [e1]
      unfold x_X5_demandRoom
      rw [er]
      by_cases c3 : f_X6_canFeel (up τ 0 8 0) j y w = 0
      · simp only [if_pos c3]
        exact Ans.thr h1 (by decide) rfl
      · simp only [if_neg c3, if_true]
        have h2 := rr_keep h1
        have es : f_X6_stepOf (t_X6_record (up τ 0 8 0)) j y = f_X6_stepOf (up τ 0 8 0) j y := by
          unfold f_X6_stepOf f_X6_of
          rw [rec_1]
        obtain ⟨g1, g2, g3, g4⟩ := feel_gr (y := y) (w := w) h2.1 h2.kn hj hy c2 (by omega)
        rw [es] at g1 g2 g4
        refine ⟨?_, fun _ => g2.symm, g1.cg (fun _ _ _ => rfl) (fun _ _ => rfl) (by omega), h2.2.now (by omega) (fun q hq => g4 q (by omega) (by omega) (by omega)) (LGA_sense h2.2.2.2.2.1 ?_) ?_ ?_⟩
        · rw [feels_T1 0 8 (by decide), rec_8, up_eq]
          rfl
        · have : j = 0 ∨ j = 1 ∨ j = 2 ∨ j = 3 := by omega
          rcases this with rfl | rfl | rfl | rfl <;> rfl
        · refine h2.2.2.2.2.2.fr (P := fun q => q < 14) (fun q hq => g4 q ?_ ?_ ?_) (fun q hq hl => ?_)
          · omega
          · omega
          · omega
          · have : kd q ≠ 2 := by
              unfold kd
              repeat' split
              all_goals try dsimp only
              all_goals repeat' split
              all_goals first | decide | omega
            exact this hq
        · exact feels_T1.mono fun a b hp => Or.inl hp
    · have hc : (if w < 1 then (2 : Nat) else if w ≤ 1000 then (if x_X5_demandRoom σ (1 + 1 + 3 * j) w (ab (f_X4_stepUnder σ (1 + 1 + 3 * j) (σ 1 4) y)) = 0 then 0 else x_X5_demandRoom σ (1 + 1 + 3 * j) w (ab (f_X4_stepUnder σ (1 + 1 + 3 * j) (σ 1 4) y))) else 2) = 2 := by
        by_cases d1 : w < 1
        · rw [if_pos d1]
        · rw [if_neg d1, if_neg (fun q => c2 ⟨by have := mt h1w.mpr d1; omega, h2w.mp q⟩)]
      have hs : ∀ a : Sg, (if w < 1 then σ else if w ≤ 1000 then (if x_X5_demandRoom σ (1 + 1 + 3 * j) w (ab (f_X4_stepUnder σ (1 + 1 + 3 * j) (σ 1 4) y)) = 0 then a else σ) else σ) = σ := by
        intro a
        by_cases d1 : w < 1
        · rw [if_pos d1]
        · rw [if_neg d1, if_neg (fun q => c2 ⟨by have := mt h1w.mpr d1; omega, h2w.mp q⟩)]
      rw [hc, hs, if_pos (hin.mpr c2), if_pos (hin.mpr c2)]
      exact Ans.thr h1 (by decide) rfl
  · have c1' : f_X6_in y 0 3 = 0 := in_st.mpr c1
    have e2 : x_X5_demandState y = 2 := by
      unfold x_X5_demandState at c1 ⊢
      repeat' split
      all_goals first | rfl | (rename_i a b; rw [if_neg a, if_pos b] at c1; exact absurd rfl c1)
    simp only [if_neg c1, if_pos c1']
    rw [e2]
    exact Ans.thr h1 (by decide) rfl

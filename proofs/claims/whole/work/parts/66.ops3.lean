theorem ct_of {x : Int32} (h1 : 4 ≤ x.toInt) (h2 : x.toInt ≤ 400) (h3 : x - x / 4 * 4 = 0) : CT x := by
  have h := (rem_int (x := x) (y := 4) (by decide)).2.2
  rw [h3, show (0 : Int32).toInt = 0 from rfl, show (4 : Int32).toInt = 4 from rfl] at h
  have e := (tdiv_bd (a := x.toInt) (b := 4) (by omega)).1
  refine ⟨(x.toInt.tdiv 4).toNat, by omega, by omega, ?_⟩
  apply Int32.toInt_inj.mp
  rw [nI_int (by omega)]
  omega
theorem op_setCounts {n : Nat} {σ τ : Sg} {x : Int32} (h : RR n σ τ) : Ans n (x_X5_setCounts σ 0 x) (hk1 (x_X5_setCounts σ 0 x)) (f_X5_setCounts σ 0 x) (f_X6_setCounts τ x) (s_X5_setCounts σ 0 x) (t_X6_setCounts τ x) := by
  have h1 : RR n σ (up τ 0 8 0) := h.up8
  have h2 := rr_keep h1
  have hi : f_X6_in x 4 400 = 0 ↔ ¬ (4 ≤ x.toInt ∧ x.toInt ≤ 400) := by
    rw [in_iff, Int32.le_iff_toInt_le, Int32.le_iff_toInt_le]
    rfl
  have l4 : x < 4 ↔ x.toInt < 4 := by rw [Int32.lt_iff_toInt_lt]; rfl
  have l400 : 400 < x ↔ 400 < x.toInt := by rw [Int32.lt_iff_toInt_lt]; rfl
  unfold x_X5_setCounts f_X5_setCounts s_X5_setCounts f_X6_setCounts t_X6_setCounts
  by_cases c : 4 ≤ x.toInt ∧ x.toInt ≤ 400
  · have a1 : ¬ x < 4 := fun q => by have := l4.mp q; omega
    have a2 : ¬ 400 < x := fun q => by have := l400.mp q; omega
    have a3 : ¬ f_X6_in x 4 400 = 0 := fun q => hi.mp q c
    rw [if_neg a1, if_neg a2, if_neg a1, if_neg a2, if_neg a1, if_neg a2, if_neg a3, if_neg a3]
    by_cases c2 : x - x / 4 * 4 = 0
    · rw [if_pos c2, if_pos c2, if_pos c2, if_pos c2, if_pos c2]
      refine ⟨?_, fun _ => h2.1.2.2.2.1, h2.mv (h2.1.counts (ct_of c.1 c.2 c2) rfl (fun a _ => ?_)) (by omega) (fun q hq => up_ne (by omega)) (LGA_up h2.2.2.2.2.1 (by decide)) (frT_up FrT.rf (Or.inl rfl))⟩
      · rw [up_ne (by decide), rec_8, up_eq]; rfl
      · show (if 1 = 1 ∧ a = 229 then x else _) = _
        simp
    · rw [if_neg c2, if_neg c2, if_neg c2, if_neg c2, if_neg c2]
      exact Ans.thr h1 (by decide) rfl
  · have a3 : f_X6_in x 4 400 = 0 := hi.mpr c
    rw [if_pos a3, if_pos a3]
    have e : ∀ {α : Type} (a b : α), (if x < 4 then b else if 400 < x then b else if x - x / 4 * 4 = 0 then a else b) = b := by
      intro α a b
      by_cases a1 : x < 4
      · rw [if_pos a1]
      · rw [if_neg a1, if_pos (l400.mpr (by have := mt l4.mpr a1; omega))]
    rw [e, e, e]
    exact Ans.thr h1 (by decide) rfl
theorem R0.tx {B : Nat} {σ σ' τ τ' : Sg} (h : R0 B σ τ) (hs : ∀ q, q ≠ 93 → q ≠ 94 → σ' q = σ q) (ht : FrT (fun a b => a = 5 ∨ (a = 0 ∧ 7 ≤ b)) τ τ') (hx : TxR σ' τ') (hT : TXA σ') : R0 B σ' τ' := by
  obtain ⟨⟨O, K, h1, h2, h3, h4, h5, h6⟩, ⟨s1, s2, s3⟩, -, hG, -⟩ := h
  refine ⟨⟨O, K, h1, h2, by rw [hs 40 (by omega) (by omega)]; exact h3, by rw [hs 40 (by omega) (by omega)]; exact h4, by rw [ht 0 2 (by omega)]; exact h5, fun i hi => ?_⟩, ⟨by rw [hs 0 (by omega) (by omega), ht 0 4 (by omega)]; exact s1, by rw [hs 0 (by omega) (by omega)]; exact s2, fun hn => ?_⟩, hx, fun q hq => ?_, hT⟩
  · exact (h6 i hi).cg (fun q q1 q2 => hs q (by omega) (by omega)) (fun a _ => ht 2 _ (by omega)) (Nat.le_refl _)
  · rw [hs 0 (by omega) (by omega)] at hn
    exact (s3 hn).cg (fun q q1 q2 => hs q (by omega) (by omega)) (fun a _ => ht 3 _ (by omega)) (Nat.le_refl _)
  · have h93 : q ≠ 93 := fun e => by rw [e] at hq; exact absurd hq (by decide)
    have h94 : q ≠ 94 := fun e => by rw [e] at hq; exact absurd hq (by decide)
    rw [hs q h93 h94]
    exact hG q hq
theorem op_clearText {n : Nat} {σ τ : Sg} (h : RR n σ τ) : f_X5_clearText σ 0 = f_X6_clearText τ ∧ RR (n + 1) (s_X5_clearText σ 0) (t_X6_clearText τ) := by
  obtain ⟨L, t1, t2, t3, t4⟩ := h.2.2.2.1
  refine ⟨t2.trans t3.symm, RR.nx ⟨h.1.cg (fun q q1 q2 => up_ne (by omega)) (fun _ _ => rfl) (Nat.le_refl _), h.2.tx (fun q q1 _ => up_ne q1) (frT_up (frT_up FrT.rf (Or.inr ⟨rfl, by omega⟩)) (Or.inr ⟨rfl, by omega⟩)) ⟨0, by omega, up_eq, up_eq, fun i hi => absurd hi (by omega)⟩ ?_⟩⟩
  intro q hq
  have := kd14 hq
  subst this
  exact ⟨0, by omega, up_eq⟩
theorem op_stepTo_no {n : Nat} {σ τ : Sg} {x y : Int32} (h : RR n σ τ) (hx : ¬ InS x) : Ans n (x_X5_stepTo σ 0 x y) (hkt (x_X5_stepTo σ 0 x y)) (f_X5_stepTo σ 0 x y) (f_X6_stepTo_no τ x y) σ (t_X6_stepTo_no τ x y) := by
  have e : x_X5_stepTo σ 0 x y = 1 := by
    unfold x_X5_stepTo
    rw [if_neg (by rw [num_no hx]; decide), num_no hx]
  rw [e]
  exact Ans.no h hx (by decide) rfl
theorem dst_2 {y : Int32} (c1 : ¬ x_X5_demandState y = 0) : x_X5_demandState y = 2 := by
  unfold x_X5_demandState at c1 ⊢
  repeat' split
  all_goals first | rfl | (rename_i a b; rw [if_neg a, if_pos b] at c1; exact absurd rfl c1)
theorem op_stepTo_ok {n j : Nat} {σ τ : Sg} {y : Int32} (h : RR n σ τ) (hj : j < 4) : Ans n (x_X5_stepTo σ 0 (nI j) y) (hkt (x_X5_stepTo σ 0 (nI j) y)) (f_X5_stepTo σ 0 (nI j) y) (f_X6_stepTo_ok τ j y) σ (t_X6_stepTo_ok τ j y) := by
  obtain ⟨n0, n1⟩ := num_ok (σ := σ) hj
  have h1 : RR n σ (up τ 0 8 0) := h.up8
  unfold x_X5_stepTo f_X5_stepTo f_X6_stepTo_ok t_X6_stepTo_ok
  rw [(isT_ok hj).2, n1]
  simp only [if_pos n0, Nat.zero_add]
  by_cases c1 : x_X5_demandState y = 0
  · have c1' : ¬ f_X6_in y 0 3 = 0 := fun q => in_st.mp q c1
    simp only [if_pos c1, if_neg c1']
    exact ⟨rfl, fun _ => (step_gr (τ := up τ 0 8 0) h1.1 hj (dst_st c1)).1, h1.nx⟩
  · have c1' : f_X6_in y 0 3 = 0 := in_st.mpr c1
    simp only [if_neg c1, if_pos c1']
    rw [dst_2 c1]
    exact Ans.thr h1 (by decide) rfl
theorem op_loggedStep_no {n : Nat} {σ τ : Sg} {x y : Int32} (h : RR n σ τ) (hx : ¬ InS x) : Ans n (x_X5_loggedStep σ 0 x y) (hk1 (x_X5_loggedStep σ 0 x y)) (f_X5_loggedStep σ 0 x y) (f_X6_loggedStep_no τ x y) σ (t_X6_loggedStep_no τ x y) := by
  have e : x_X5_loggedStep σ 0 x y = 1 := by
    unfold x_X5_loggedStep
    rw [if_neg (by rw [num_no hx]; decide), num_no hx]
  rw [e]
  exact Ans.no h hx (by decide) rfl
theorem op_loggedStep_ok {n j f : Nat} {σ τ : Sg} (h : RR n σ τ) (hj : j < 4) (hf : f < MLn τ j) : Ans n (x_X5_loggedStep σ 0 (nI j) (nI f)) (hk1 (x_X5_loggedStep σ 0 (nI j) (nI f))) (f_X5_loggedStep σ 0 (nI j) (nI f)) (f_X6_loggedStep_ok τ j f) σ (t_X6_loggedStep_ok τ j f) := by
  obtain ⟨n0, n1⟩ := num_ok (σ := σ) hj
  obtain ⟨⟨-, L, O, l1, l2, l3, l4, l5, l6, -⟩, -⟩ := h.1.1 j hj
  have e2 : MLn τ j = L := MLn_of l4 l1
  rw [e2] at hf
  unfold x_X5_loggedStep f_X5_loggedStep f_X6_loggedStep_ok t_X6_loggedStep_ok
  have d1 : ¬ nI f < 0 := by
    rw [show (0 : Int32) = nI 0 from rfl, nI_ltI (by omega) (by omega)]
    omega
  have d2 : nI f < σ (1 + 1 + 3 * j + 1) 2 := by
    rw [l3, nI_ltI (by omega) (by omega)]
    exact hf
  rw [(isT_ok hj).2, n1]
  simp only [if_pos n0, Nat.zero_add, if_neg d1, if_pos d2]
  refine ⟨rfl, fun _ => ?_, h.nx.up8⟩
  rw [step_nI l5 (by omega)]
  exact l6 f hf 0 (by omega)
theorem op_loggedStep_bad {n j : Nat} {σ τ : Sg} {y : Int32} (h : RR n σ τ) (hj : j < 4) (hy : f_X6_in y 0 (f_X6_of (t_X6_isThere τ (nI j)) j 8 - 1) = 0) : Ans n (x_X5_loggedStep σ 0 (nI j) y) (hk1 (x_X5_loggedStep σ 0 (nI j) y)) (f_X5_loggedStep σ 0 (nI j) y) (f_X6_loggedStep_bad τ j y) σ (t_X6_loggedStep_bad τ j y) := by
  obtain ⟨n0, n1⟩ := num_ok (σ := σ) hj
  obtain ⟨⟨-, L, O, l1, l2, l3, l4, l5, l6, -⟩, -⟩ := h.1.1 j hj
  have hy' := in_iff.mp hy
  have e8 : f_X6_of (t_X6_isThere τ (nI j)) j 8 = nI L := by rw [(isT_ok hj).2]; exact l4
  have e : x_X5_loggedStep σ 0 (nI j) y = 1 := by
    unfold x_X5_loggedStep
    rw [if_pos n0, n1]
    by_cases d1 : y < 0
    · rw [if_pos d1]
    · rw [if_neg d1, if_neg]
      intro q
      apply hy'
      refine ⟨Int32.not_lt.mp d1, ?_⟩
      rw [l3, Int32.lt_iff_toInt_lt, nI_int (by omega)] at q
      have h0 := Int32.le_iff_toInt_le.mp (Int32.not_lt.mp d1)
      rw [show (0 : Int32).toInt = 0 from rfl] at h0
      rw [e8, Int32.le_iff_toInt_le, show nI L - 1 = nI (L - 1) from pk_sub (a := L) (b := 1) (by omega), nI_int (by omega)]
      omega
  rw [e]
  unfold f_X6_loggedStep_bad t_X6_loggedStep_bad
  rw [(isT_ok hj).2]
  exact Ans.thr h.up8 (by decide) rfl

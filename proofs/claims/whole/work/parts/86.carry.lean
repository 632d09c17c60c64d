/-! the orders on trial, and carried out -/
theorem nI_ne1 {i : Nat} (h : i ≤ 100) : nI i ≠ -1 := fun e => by
  have := congrArg Int32.toInt e
  rw [nI_int (by omega), show (-1 : Int32).toInt = -1 from rfl] at this
  omega
theorem ore_of {σ : Sg} {c : Nat → Int32} {L : Nat} (h : TxC σ c L) : OR σ 93 = OCc c L L 1 0 := by
  unfold OR
  rw [oc_of h]
  have := oc_le (c := c) (L := L) L 1 0
  exact nI_clamp (by have := h.1; omega)
/-- carried out on a garden that was copied for it -/
theorem trial_sp {n : Nat} {σ τ t : Sg} {L : Nat} (h : RR n σ τ) (hn : n ≤ 1000) (h1 : TxC σ (τ 5) L) (hv : f_X2_firstError σ 93 = -1) (ht : Tx t (τ 5) L) (h1t : ∀ b, b < 230 → t 1 b = τ 1 b) (hk : ∃ q : Nat, q ≤ 4 ∧ t 0 2 = nI q) : G1 (s_X0_copyFrom σ 14 1) (s_X5_firstFailing (s_X0_copyFrom σ 14 1) 0 14) (100000 * n + 40000) (OCc (τ 5) L L 1 0) (f_X5_firstFailing (s_X0_copyFrom σ 14 1) 0 14) (f_X6_go_1 t) (t_X6_go_1 t) := by
  obtain ⟨p1, p2⟩ := cp0 (σ := σ) (d := 14) (s := 1) (by omega)
  have hC : TxC (s_X0_copyFrom σ 14 1) (τ 5) L := h1.fr (p2 93 (by omega)) (p2 94 (by omega))
  have hG : GR (s_X0_copyFrom σ 14 1) 14 ((up (up (up t 0 9 0) 0 10 0) 0 11 0) 1) (100000 * n + 400 * 0) := by
    rw [up0_1, up0_1, up0_1]
    exact (p1 _ _ h.1).cg (fun _ _ _ => rfl) h1t (by omega)
  have hF : FE (s_X0_copyFrom σ 14 1) L 0 0 = -1 := by
    rw [fe_cg h1 hC L 0 0 (by omega) (by omega), ← fe_first h1]
    exact hv
  have hL := h1.1
  have ho := oc_le (c := τ 5) (L := L) L 1 0
  unfold f_X5_firstFailing s_X5_firstFailing f_X6_go_1 t_X6_go_1
  rw [show OR (s_X0_copyFrom σ 14 1) (0 + 93) = OCc (τ 5) L L 1 0 from ore_of hC]
  exact go1_sp (by omega) 83 83 0 0 1 _ _ rfl hC Un.go0 ht.go0 (Nat.zero_le _) hF hG (by
    rw [up_nb (by decide), up_nb (by decide), up_nb (by decide)]; exact hk) up_eq (Nat.le_refl _) rfl (by omega) (by omega)
/-- after a trial: nothing told has moved -/
theorem trial_rr {n : Nat} {σ τ : Sg} (h : RR n σ τ) (hs : ∀ q, q < 14 ∨ 27 ≤ q → (s_X5_firstFailing (s_X0_copyFrom σ 14 1) 0 14) q = (s_X0_copyFrom σ 14 1) q) : RR n (s_X5_firstFailing (s_X0_copyFrom σ 14 1) 0 14) (t_X6_isPossible τ) := by
  obtain ⟨-, p2⟩ := cp0 (σ := σ) (d := 14) (s := 1) (by omega)
  obtain ⟨τ', -, -, q3, -⟩ := poss_of (τ := τ)
  refine ⟨h.1.cg (fun q q1 q2 => (hs q (by omega)).trans (p2 q (by omega))) q3 (Nat.le_refl _), h.2.now (Nat.le_refl _) (fun q hq => (hs q (by omega)).trans (p2 q (by omega))) (LGA_ff (LGA_copy0 h.2.2.2.2.1 rfl rfl) rfl) (TXA_ff (TXA_copy0 h.2.2.2.2.2 rfl) rfl) (fun a b hp => poss_fr (fun q => hp ?_) (fun q => hp ?_))⟩
  · omega
  · omega
theorem op_impossibleOrder {n : Nat} {σ τ : Sg} (h : RR n σ τ) (hn : n ≤ 1000) : Ans n (x_X5_impossibleOrder σ 0) (hk1 (x_X5_impossibleOrder σ 0)) (f_X5_impossibleOrder σ 0) (f_X6_impossibleOrder τ) (s_X5_impossibleOrder σ 0) (t_X6_impossibleOrder τ) := by
  have h0 : RR n σ (up τ 0 8 0) := h.up8
  obtain ⟨L, h1, h2⟩ := h0.tx
  have hg : RR n σ (t_X6_go_0 (up τ 0 8 0)) := h0.fr3 go0_fr
  have g8 : (t_X6_go_0 (up τ 0 8 0)) 0 8 = 0 := by rw [go0_fr 0 8 (by omega), up_eq]
  have g5 : (t_X6_go_0 (up τ 0 8 0)) 5 = (up τ 0 8 0) 5 := funext fun b => go0_fr 5 b (by omega)
  have g7 : Tx (t_X6_go_0 (up τ 0 8 0)) ((up τ 0 8 0) 5) L := h2.fr go0_fr (fun b q => by cases q.1) (by omega)
  have hfe := go0_fe h1 h2
  unfold x_X5_impossibleOrder f_X5_impossibleOrder s_X5_impossibleOrder f_X6_impossibleOrder t_X6_impossibleOrder x_X5_demandValidText
  show Ans n _ _ (if (if f_X2_firstError σ 93 = -1 then 0 else 3) = 0 then f_X5_firstFailing (s_X0_copyFrom σ 14 1) 0 14 else 0) _ (if (if f_X2_firstError σ 93 = -1 then 0 else 3) = 0 then s_X5_firstFailing (s_X0_copyFrom σ 14 1) 0 14 else σ) _
  rw [ite_id]
  generalize t_X6_go_0 (up τ 0 8 0) = τg at *
  rcases hfe with ⟨e, e1, e2, e3⟩ | ⟨e1, e2⟩
  · have ne : ¬ f_X2_firstError σ 93 = -1 := by rw [e3]; exact nI_ne1 (by have := h1.1; omega)
    rw [if_neg e2.2.1, if_neg e2.2.1]
    simp only [show f_X2_firstError σ (0 + 93) = f_X2_firstError σ 93 from rfl, if_neg ne]
    exact Ans.thr hg (by decide) rfl
  · rw [if_pos e1, if_pos e1]
    simp only [show f_X2_firstError σ (0 + 93) = f_X2_firstError σ 93 from rfl, if_pos e2, if_true, ite_id]
    obtain ⟨τ', q1, q2, q3, q4⟩ := poss_of (τ := τg)
    have g1 : G1 _ _ _ _ _ (f_X6_go_1 τ') (t_X6_go_1 τ') := trial_sp hg hn (by rw [g5]; exact h1) e2 (by rw [g5]; exact g7.fr q1 (fun b q => by cases q) (by decide)) (fun b _ => q1 1 b (by omega)) (by rw [q1 0 2 (by decide)]; exact hg.kn)
    have rr := trial_rr hg g1.1
    rw [← q2] at g1
    have w11 : (t_X6_isPossible τg) 0 11 = (t_X6_go_1 τ') 0 11 := q4 0 11 (by decide)
    refine ⟨by rw [poss_t0 (by omega), g8]; rfl, fun _ => ?_, rr.nx⟩
    rcases g1.2 with ⟨r1, r2, -⟩ | ⟨r1, r2, -, -⟩
    · rw [if_pos r1, w11]
      exact r2
    · rw [if_neg (by rw [r1]; decide)]
      exact r2
theorem op_carryOut {n : Nat} {σ τ : Sg} (h : RR n σ τ) (hn : n ≤ 1000) : Ans n (x_X5_carryOut σ 0) (hk1 (x_X5_carryOut σ 0)) (f_X5_carryOut σ 0) (f_X6_carryOut τ) (s_X5_carryOut σ 0) (t_X6_carryOut τ) := by
  have h0 : RR n σ (up τ 0 8 0) := h.up8
  obtain ⟨L, h1, h2⟩ := h0.tx
  have hg : RR n σ (t_X6_go_0 (up τ 0 8 0)) := h0.fr3 go0_fr
  have g8 : (t_X6_go_0 (up τ 0 8 0)) 0 8 = 0 := by rw [go0_fr 0 8 (by omega), up_eq]
  have g5 : (t_X6_go_0 (up τ 0 8 0)) 5 = (up τ 0 8 0) 5 := funext fun b => go0_fr 5 b (by omega)
  have g7 : Tx (t_X6_go_0 (up τ 0 8 0)) ((up τ 0 8 0) 5) L := h2.fr go0_fr (fun b q => by cases q.1) (by omega)
  have hfe := go0_fe h1 h2
  unfold x_X5_carryOut f_X5_carryOut s_X5_carryOut f_X6_carryOut t_X6_carryOut x_X5_demandValidText
  simp only [Nat.zero_add]
  generalize t_X6_go_0 (up τ 0 8 0) = τg at *
  rcases hfe with ⟨e, e1, e2, e3⟩ | ⟨e1, e2⟩
  · have ne : ¬ f_X2_firstError σ 93 = -1 := by rw [e3]; exact nI_ne1 (by have := h1.1; omega)
    rw [if_neg e2.2.1, if_neg e2.2.1]
    simp only [if_neg ne]
    exact Ans.thr hg (show (3 : Nat) ≠ 0 by decide) rfl
  · rw [if_pos e1, if_pos e1]
    simp only [if_pos e2, if_true]
    obtain ⟨τ', q1, q2, q3, q4⟩ := poss_of (τ := τg)
    have h1' : TxC σ (τg 5) L := by rw [g5]; exact h1
    have g1 : G1 _ _ _ _ _ (f_X6_go_1 τ') (t_X6_go_1 τ') := trial_sp hg hn h1' e2 (by rw [g5]; exact g7.fr q1 (fun b q => by cases q) (by decide)) (fun b _ => q1 1 b (by omega)) (by rw [q1 0 2 (by decide)]; exact hg.kn)
    have rr := trial_rr hg g1.1
    rw [← q2] at g1
    have p8 : (t_X6_isPossible τg) 0 8 = 0 := by rw [poss_t0 (by omega), g8]
    rcases g1.2 with ⟨r1, -, i, i1, i2⟩ | ⟨r1, r2, -, -⟩
    · have nf : ¬ f_X5_firstFailing (s_X0_copyFrom σ 14 1) 0 14 = -1 := by rw [i2]; exact nI_ne1 i1
      rw [if_pos r1, if_pos r1]
      simp only [if_neg nf]
      exact Ans.thr rr (by decide) rfl
    · have nr : ¬ f_X6_isPossible τg = 0 := by rw [r1]; decide
      rw [if_neg nr, if_neg nr]
      simp only [if_pos r2]
      have hT3 : Tx (t_X6_record (t_X6_isPossible τg)) (τg 5) L := by
        rw [g5]
        exact (g7.fr (P := fun a b => T4 a b ∨ a = 4) (fun a b q => poss_fr (fun e => q (Or.inl e)) (fun e => q (Or.inr e))) (fun b q => by omega) (by omega)).fr rec_fr (fun b q => by omega) (by omega)
      have rk : RR n (s_X3_keep (s_X5_firstFailing (s_X0_copyFrom σ 14 1) 0 14) 40 1) (t_X6_record (t_X6_isPossible τg)) := rr_keep rr
      have kf := (keep_rc rr.2.1 rr.1).2
      have g2 := trial_sp hg hn h1' e2 hT3 (fun b hb => by rw [rec_1]; exact q3 b hb) rk.kn
      have r8 : (t_X6_record (t_X6_isPossible τg)) 0 8 = 0 := by rw [rec_8, p8]
      have s1 := g1.1
      clear g1
      generalize t_X6_record (t_X6_isPossible τg) = τr at *
      obtain ⟨p1, p2⟩ := cp0 (σ := s_X3_keep (s_X5_firstFailing (s_X0_copyFrom σ 14 1) 0 14) 40 1) (d := 1) (s := 14) (by omega)
      obtain ⟨-, p4⟩ := cp0 (σ := σ) (d := 14) (s := 1) (by omega)
      rcases g2.2 with ⟨-, -, i, i1, i2⟩ | ⟨-, -, w1, w2⟩
      · exact absurd (i2.symm.trans r2) (nI_ne1 i1)
      · have fr : ∀ q, q < 1 ∨ 93 ≤ q → (s_X0_copyFrom (s_X3_keep (s_X5_firstFailing (s_X0_copyFrom σ 14 1) 0 14) 40 1) 1 14) q = σ q := fun q hq => ((p2 q (by omega)).trans (kf q (by omega))).trans ((s1 q (by omega)).trans (p4 q (by omega)))
        refine ⟨by rw [go1_fr 0 8 (by omega), r8]; rfl, fun _ => ?_, (p1 _ _ (w2.cg (fun q _ _ => kf q (by omega)) (fun _ _ => rfl) (Nat.le_refl _))).cg (fun _ _ _ => rfl) (fun _ _ => rfl) (by omega), rk.2.now (by omega) (fun q hq => p2 q (by omega)) (LGA_copy0 rk.2.2.2.2.1 rfl rfl) (TXA_copy0 rk.2.2.2.2.2 rfl) (go1_fr.mono fun a b hp => by omega)⟩
        rw [w1]
        exact oc_of (h1'.fr (fr 93 (by omega)) (fr 94 (by omega)))

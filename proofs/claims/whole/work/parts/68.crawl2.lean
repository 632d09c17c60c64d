theorem op_crawl_ok {n j : Nat} {σ τ : Sg} {y : Int32} (h : RR n σ τ) (hj : j < 4) (hn : n ≤ 1000) : Ans n (x_X5_crawl σ 0 (nI j) y) (hkt (x_X5_crawl σ 0 (nI j) y)) (f_X5_crawl σ 0 (nI j) y) (f_X6_crawl_ok τ j y) (s_X5_crawl σ 0 (nI j) y) (t_X6_crawl_ok τ j y) := by
  obtain ⟨n0, n1⟩ := num_ok (σ := σ) hj
  have h1 : RR n σ (up τ 0 8 0) := h.up8
  have h2 := rr_keep h1
  unfold x_X5_crawl f_X5_crawl s_X5_crawl f_X6_crawl_ok t_X6_crawl_ok
  rw [(isT_ok hj).2, n1]
  simp only [if_pos n0, Nat.zero_add]
  have l1 : y < -100 ↔ ¬ (-100 : Int32) ≤ y := Int32.not_le.symm
  by_cases c : f_X6_in y (-100) 100 = 0
  · have hc := in_iff.mp c
    have e : ∀ {α : Type} (a b : α), (if y < -100 then b else if y ≤ 100 then a else b) = b := by
      intro α a b
      by_cases a1 : y < -100
      · rw [if_pos a1]
      · rw [if_neg a1, if_neg (fun q => hc ⟨Int32.not_lt.mp a1, q⟩)]
    rw [e, e, e, if_pos c, if_pos c]
    exact Ans.thr h1 (by decide) rfl
  · have hc : (-100 : Int32) ≤ y ∧ y ≤ 100 := Classical.byContradiction fun q => c (in_iff.mpr q)
    have a1 : ¬ y < -100 := fun q => (l1.mp q) hc.1
    obtain ⟨z1, z2⟩ := szm c
    rw [← size_ab]
    have z3 : nI (f_X6_size y).toNatClampNeg = f_X6_size y := z1.symm
    rw [z3]
    simp only [if_neg a1, if_pos hc.2, if_neg c]
    obtain ⟨⟨⟨w0, w1, w2, w3, w4, w5, w6, w7, w8, w9, w10⟩, -⟩, -⟩ := h1.1.1 j hj
    have e6 : σ (1 + 1 + 3 * j) 11 = f_X6_of (up τ 0 8 0) j 6 := w7
    have e5 : σ (1 + 1 + 3 * j) 10 = f_X6_of (up τ 0 8 0) j 5 := w6
    unfold x_X5_demandRoom f_X4_hasRoom
    rw [e6, e5]
    by_cases c1 : 1000000000 < f_X6_of (up τ 0 8 0) j 6 + f_X6_size y
    · simp only [if_pos c1, if_true]
      exact Ans.thr h1 (by show (3 : Nat) ≠ 0; decide) rfl
    · by_cases c2 : 1000000000 < f_X6_of (up τ 0 8 0) j 5 + f_X6_size y
      · have c2' : ¬ f_X6_of (up τ 0 8 0) j 5 + f_X6_size y ≤ 1000000000 := Int32.not_le.mpr c2
        simp only [if_neg c1, if_pos c2, if_neg c2', if_true]
        exact Ans.thr h1 (by show (3 : Nat) ≠ 0; decide) rfl
      · have c2' : f_X6_of (up τ 0 8 0) j 5 + f_X6_size y ≤ 1000000000 := Int32.not_lt.mp c2
        have hx : (if (if 1000000000 < f_X6_of (up τ 0 8 0) j 6 + f_X6_size y then (0 : Int32) else if 1000000000 < f_X6_of (up τ 0 8 0) j 5 + f_X6_size y then 0 else 1) = 0 then (3 : Nat) else 0) = 0 := by
          rw [if_neg c1, if_neg c2]
          rfl
        rw [hx, if_neg c1, if_neg c1, if_pos c2', if_pos c2']
        obtain ⟨g1, g2, g3, g4, g5⟩ := gcrawl (B := 100000 * n) (y := y) (b := (f_X6_size y).toNatClampNeg) hj (by omega) z2 101 0 _ _ (by omega) (by omega) h2.1 h2.kn h2.2.2.2.2.1
        have ew : ∀ {α : Type} (F : Int32 → α), (if 0 ≤ y then F 1 else F (-1)) = F (wayOf y) := by
          intro α F
          unfold wayOf
          split <;> rfl
        rw [if_pos rfl, if_pos rfl, if_pos rfl, ew (fun v => gf_X5_crawl (1 + 1 + 3 * j) v (f_X6_size y).toNatClampNeg 101 0 (s_X3_keep σ 40 1)), ew (fun v => gs_X5_crawl (1 + 1 + 3 * j) v (f_X6_size y).toNatClampNeg 101 0 (s_X3_keep σ 40 1)), show (if 0 ≤ y then (0 : Nat) else 0) = 0 by split <;> rfl]
        refine ⟨?_, fun _ => g2, h2.mv g1 (by omega) (fun q hq => g3 q (by omega) (by omega) (by omega)) g5 (g4.mono fun a b hp => Or.inl hp)⟩
        rw [g4 0 8 (by decide), rec_8, up_eq]
        rfl

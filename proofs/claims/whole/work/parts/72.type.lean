theorem op_type {n : Nat} {σ τ : Sg} {x : Int32} (h : RR n σ τ) (hx : chr x = x) : Ans n (x_X5_type σ 0 x) (hk1 (x_X5_type σ 0 x)) (f_X5_type σ 0 x) (f_X6_type τ x) (s_X5_type σ 0 x) (t_X6_type τ x) := by
  have h1 : RR n σ (up τ 0 8 0) := h.up8
  obtain ⟨L, t1, t2, t3, t4⟩ := h1.2.2.2.1
  have hm : ML τ = L := by unfold ML; rw [show τ 0 7 = nI L from t3]; exact nI_clamp (by omega)
  have l80 : σ (0 + 93) 1 < 80 ↔ L < 80 := by
    show σ 93 1 < 80 ↔ _
    rw [t2]
    exact cI_lt (x := nI L) (y := 80) rfl rfl (by omega) (by omega)
  unfold x_X5_type f_X5_type s_X5_type f_X6_type t_X6_type
  by_cases c : L < 80
  · have e0 : ¬ (up τ 0 8 0) 0 7 = 80 := fun q => by
      have := (nI_eq (a := L) (b := 80) (by omega) (by omega)).mp (by rw [← t3, q]; rfl)
      omega
    rw [if_pos (l80.mpr c), if_pos (l80.mpr c), if_pos (l80.mpr c), if_neg e0, if_neg e0, hm]
    have a1 : ¬ σ 93 1 < 0 := by
      rw [t2, show (0 : Int32) = nI 0 from rfl, nI_ltI (by omega) (by omega)]
      omega
    have a2 : ¬ (80 : Int32) ≤ σ 93 1 := by
      rw [t2, show (80 : Int32) = nI 80 from rfl, nI_leI (by omega) (by omega)]
      omega
    have hs : s_X2_append σ (0 + 93) x = up (up σ 94 L x) 93 1 (nI (L + 1)) := by
      show s_X2_append σ 93 x = _
      unfold s_X2_append
      rw [if_neg a1, if_neg a2, up_ne (show 93 ≠ 93 + 1 by decide), t2, nI_clamp (by omega), nI_1]
    have ht : (up (up τ 0 8 0) 5 L x) 0 7 + 1 = nI (L + 1) := by
      rw [up_ne (by decide), t3, nI_1]
    rw [hs, ht]
    refine ⟨?_, fun _ => ?_, RR.nx ⟨h1.1.cg (fun q q1 q2 => by rw [up_ne (by omega), up_ne (by omega)]) (fun _ _ => ?_) (Nat.le_refl _), h1.2.tx (fun q q1 q2 => by rw [up_ne q1, up_ne q2]) (frT_up (frT_up FrT.rf (Or.inl rfl)) (Or.inr ⟨rfl, by omega⟩)) ⟨L + 1, by omega, up_eq, up_eq, fun i hi => ?_⟩ ?_⟩⟩
    · rw [up_nb (by decide), up_ne (by decide), up_eq]
      rfl
    · exact (up_eq (τ := up σ 94 L x)).trans (up_eq (τ := up (up τ 0 8 0) 5 L x)).symm
    · rw [up_ne (by decide), up_ne (by decide)]
    · rw [up_ne (show 94 ≠ 93 by decide), up_ne (show 5 ≠ 0 by decide)]
      by_cases e : i = L
      · subst e
        rw [up_eq, up_eq]
        exact hx
      · rw [up_nb e, up_nb e]
        exact t4 i (by omega)
    · intro q hq
      have := kd14 hq
      subst this
      exact ⟨L + 1, by omega, up_eq⟩
  · have hL : L = 80 := by omega
    have e0 : (up τ 0 8 0) 0 7 = 80 := by rw [t3, hL]; rfl
    have c' : ¬ σ (0 + 93) 1 < 80 := fun q => c (l80.mp q)
    rw [if_neg c', if_neg c', if_neg c', if_pos e0, if_pos e0]
    exact Ans.thr h1 (by decide) rfl

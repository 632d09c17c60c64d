theorem gspd_t {j L : Nat} : ∀ (n : Nat) (τ0 : Sg) (x y : Int32) (i : Nat) (τ : Sg), gt_X6_speedOf_ok τ0 j L n x y i τ = τ := by
  intro n
  induction n with
  | zero => intro τ0 x y i τ; rfl
  | succ n ih =>
    intro τ0 x y i τ
    rw [gt_X6_speedOf_ok]
    split
    · rfl
    · exact ih _ _ _ _ _
theorem op_speedOf_t {n j : Nat} {σ τ : Sg} (h : RR n σ τ) (hj : j < 4) : (t_X6_speedOf_ok τ j) 0 8 = 0 ∧ RR (n + 1) σ (t_X6_speedOf_ok τ j) := by
  have e : t_X6_speedOf_ok τ j = up τ 0 8 0 := by
    unfold t_X6_speedOf_ok
    rw [(isT_ok hj).2]
    split
    · rfl
    · exact gspd_t _ _ _ _ _ _
  rw [e]
  exact ⟨up_eq, h.nx.up8⟩
theorem tki_gr {σ τ : Sg} {g B j : Nat} (h : GR σ g (τ 1) B) (hj : j < 4) : TKI τ j := by
  obtain ⟨⟨-, L, O, l1, l2, l3, l4, l5, l6, l7⟩, -⟩ := h.1 j hj
  have e2 : MLn τ j = L := MLn_of l4 l1
  intro i hi
  rw [e2] at hi
  exact (l7 i hi).2.2.1

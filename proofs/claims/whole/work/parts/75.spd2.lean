theorem sp_eq {x : Int32} (h : -32 ≤ x.toInt ∧ x.toInt ≤ 32) : FP.dmul 4652007308841189376 (FP.i2d x) = FP.i2d (1000 * x) := by
  have e : x = nI (x.toInt + 32).toNat - 32 := by
    apply Int32.toInt_inj.mp
    rw [Int32.toInt_sub, nI_int (by omega), show (32 : Int32).toInt = 32 from rfl, bm (by omega) (by omega)]
    omega
  rw [e]
  exact sp_tab _ (by omega)
theorem gspd {σ τ : Sg} {q j L O : Nat} (hL : LgR σ q (rw1 τ j) L O) (h1 : 1 ≤ L) : ∀ (n i : Nat) (x y : Int32), i ≤ L → L + 1 ≤ i + n → (-(2 * (i : Int)) ≤ x.toInt ∧ x.toInt ≤ 2 * (i : Int)) → ((i : Int) ≤ y.toInt ∧ y.toInt ≤ 1000 * (i : Int)) → gf_X1_speed σ q L n x y i = gf_X6_speedOf_ok τ j L n x y i τ := by
  intro n
  induction n with
  | zero => intro i x y _ _ _ _; rfl
  | succ n ih =>
    intro i x y hi hn hx hy
    have l1 := hL.1
    rw [gf_X1_speed, gf_X6_speedOf_ok]
    by_cases c : L ≤ i
    · rw [if_pos c, if_pos c, if_pos (by rw [Int32.le_iff_toInt_le]; show (1 : Int) ≤ _; omega), sp_eq ⟨by omega, by omega⟩]
    · rw [if_neg c, if_neg c]
      obtain ⟨-, l2, l3, l4, l5, l6, l7⟩ := hL
      have es := l6 i (by omega) 0 (by omega)
      have ep := l6 i (by omega) 1 (by omega)
      obtain ⟨-, b1, b2, -⟩ := l7 i (by omega)
      rw [step_nI l5 (by omega), spent_nI l5 (by omega), es, ep]
      have ex : (x + rw1 τ j (9 + 3 * i + 0)).toInt = x.toInt + (rw1 τ j (9 + 3 * i)).toInt := by
        rw [Int32.toInt_add]
        exact bm (by show _ ≤ x.toInt + (rw1 τ j (9 + 3 * i)).toInt; omega) (by show x.toInt + (rw1 τ j (9 + 3 * i)).toInt ≤ _; omega)
      exact ih (i + 1) _ _ (by omega) (by omega) ⟨by omega, by omega⟩ (tk_add hy (by omega) b2)
theorem op_speedOf_no {n : Nat} {σ τ : Sg} {x : Int32} (h : RR n σ τ) (hx : ¬ InS x) : x_X5_speedOf σ 0 x = 1 ∧ (t_X6_speedOf_no τ x) 0 8 = 1 ∧ RR (n + 1) σ (t_X6_speedOf_no τ x) := by
  have e : x_X5_speedOf σ 0 x = 1 := by
    unfold x_X5_speedOf
    rw [if_neg (by rw [num_no hx]; decide), num_no hx]
  refine ⟨e, ?_⟩
  show (t_X6_isThere τ x) 0 8 = 1 ∧ RR (n + 1) σ (t_X6_isThere τ x)
  rw [(isT_no hx).2]
  exact ⟨up_eq, h.nx.up8⟩
theorem op_speedOf_f {n j : Nat} {σ τ : Sg} (h : RR n σ τ) (hj : j < 4) : x_X5_speedOf σ 0 (nI j) = 0 ∧ f_X5_speedOf σ 0 (nI j) = f_X6_speedOf_ok τ j := by
  obtain ⟨n0, n1⟩ := num_ok (σ := σ) hj
  have h1 : RR n σ (up τ 0 8 0) := h.up8
  obtain ⟨⟨-, L, O, hL⟩, -⟩ := h1.1.1 j hj
  have hl := hL
  obtain ⟨l1, l2, l3, l4, -⟩ := hL
  have e1 : Ln σ (1 + 1 + 3 * j + 1) = L := by unfold Ln; rw [l3]; exact nI_clamp (by omega)
  have e2 : MLn (up τ 0 8 0) j = L := MLn_of l4 l1
  refine ⟨?_, ?_⟩
  · unfold x_X5_speedOf
    rw [if_pos n0]
  · unfold f_X5_speedOf f_X6_speedOf_ok f_X1_speed
    rw [if_pos n0, n1, (isT_ok hj).2, e1, e2]
    have h8 : f_X6_of (up τ 0 8 0) j 8 = nI L := l4
    by_cases c : L = 0
    · rw [if_pos (by rw [h8, c]; rfl), c]
      rfl
    · rw [if_neg (fun q => c ((nI_eq (a := L) (b := 0) (by omega) (by omega)).mp (by rw [← h8, q]; rfl)))]
      exact gspd (τ := up τ 0 8 0) hl (by omega) 17 0 0 0 (by omega) (by omega) (by decide) (by decide)

theorem sp_eq {x : Int32} (h : -32 ≤ x.toInt ∧ x.toInt ≤ 32) : FP.dmul 4652007308841189376 (FP.i2d x) = FP.i2d (1000 * x) := by
  have e : x = nI (x.toInt + 32).toNat - 32 := by
    apply Int32.toInt_inj.mp
    rw [Int32.toInt_sub, nI_int (by omega), show (32 : Int32).toInt = 32 from rfl, bm (by omega) (by omega)]
    omega
  rw [e]
  exact sp_tab _ (by omega)
theorem gspd {σ τ : Sg} {q j L O : Nat} (hL : LgR σ q (rw1 τ j) L O) (h1 : 1 ≤ L) : ∀ (n i : Nat) (x y : Int32), i ≤ L → L + 1 ≤ i + n → (-(2 * (i : Int)) ≤ x.toInt ∧ x.toInt ≤ 2 * (i : Int)) → ((i : Int) ≤ y.toInt ∧ y.toInt ≤ 1000 * (i : Int)) → gf_X1_speed σ q L n x y i = gf_X6_speedOf_ok τ j L n x y i τ := by
  intro n
  induction n with
  | zero => intro i x y _ _ _ _; rfl
  | succ n ih =>
    intro i x y hi hn hx hy
    have l1 := hL.1
    rw [gf_X1_speed, gf_X6_speedOf_ok]
    by_cases c : L ≤ i
    · rw [if_pos c, if_pos c, if_pos (by rw [Int32.le_iff_toInt_le]; show (1 : Int) ≤ _; omega), sp_eq ⟨by omega, by omega⟩]
    · rw [if_neg c, if_neg c]
      obtain ⟨-, l2, l3, l4, l5, l6, l7⟩ := hL
      have es := l6 i (by omega) 0 (by omega)
      have ep := l6 i (by omega) 1 (by omega)
      obtain ⟨-, b1, b2, -⟩ := l7 i (by omega)
      rw [step_nI l5 (by omega), spent_nI l5 (by omega), es, ep]
      have ex : (x + rw1 τ j (9 + 3 * i + 0)).toInt = x.toInt + (rw1 τ j (9 + 3 * i)).toInt := by
        rw [Int32.toInt_add]
        exact bm (by show _ ≤ x.toInt + (rw1 τ j (9 + 3 * i)).toInt; omega) (by show x.toInt + (rw1 τ j (9 + 3 * i)).toInt ≤ _; omega)
      exact ih (i + 1) _ _ (by omega) (by omega) ⟨by omega, by omega⟩ (tk_add hy (by omega) b2)

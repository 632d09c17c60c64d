theorem fr_gcopy1 {P : Nat → Prop} {σ : Sg} {k j : Nat} (hk : P k) (hk1 : P (k + 1)) : ∀ (n i : Nat) (σ' : Sg), Fr P σ σ' → Fr P σ (gs_X1_copyFrom k j n i σ') := by
  intro n
  induction n with
  | zero => exact fun i σ' h => h
  | succ n ih =>
    intro i σ' h
    rw [gs_X1_copyFrom]
    split
    · exact (h.up hk).up hk
    · exact ih _ _ (h.up hk1)
theorem fr_copy1 {P : Nat → Prop} {σ σ' : Sg} {k j : Nat} (h : Fr P σ σ') (hk : P k) (hk1 : P (k + 1)) : Fr P σ (s_X1_copyFrom σ' k j) := fr_gcopy1 hk hk1 _ _ _ h
theorem fr_copy4 {P : Nat → Prop} {σ σ' : Sg} {k j : Nat} (h : Fr P σ σ') (hk : P k) (hk1 : P (k + 1)) (hk2 : P (k + 2)) : Fr P σ (s_X4_copyFrom σ' k j) := by
  unfold s_X4_copyFrom
  exact (((((((((((fr_copy1 h hk1 hk2).up hk).up hk).up hk).up hk).up hk).up hk).up hk).up hk).up hk).up hk).up hk
/-- the cells of a garden -/
abbrev gd (k : Nat) : Nat → Prop := fun q => k ≤ q ∧ q < k + 13
theorem fr_copy0 {P : Nat → Prop} {σ σ' : Sg} {k j : Nat} (h : Fr P σ σ') (hk : ∀ q, gd k q → P q) : Fr P σ (s_X0_copyFrom σ' k j) := by
  unfold s_X0_copyFrom
  have H : ∀ i, i < 13 → P (k + i) := fun i hi => hk _ ⟨Nat.le_add_right _ _, by omega⟩
  have hk0 : P k := H 0 (by omega)
  exact ((fr_copy4 (fr_copy4 (fr_copy4 (fr_copy4 h (H 1 (by omega)) (H 2 (by omega)) (H 3 (by omega))) (H 4 (by omega)) (H 5 (by omega)) (H 6 (by omega))) (H 7 (by omega)) (H 8 (by omega)) (H 9 (by omega))) (H 10 (by omega)) (H 11 (by omega)) (H 12 (by omega))).up hk0).up hk0
theorem kr_any {σ : Sg} {k : Nat} (hk : kd k = 3) : kd (f_X3_latest σ k) = 0 := kr_X3_latest σ hk
/-- a garden's cells are none of the others -/
theorem gd_kd {k : Nat} (hk : kd k = 0) : ∀ q, gd k q → kd q = 0 ∨ kd q = 4 ∨ kd q = 1 ∨ kd q = 7 := by
  have key : ∀ k, k < 95 → kd k = 0 → ∀ i, i < 13 → kd (k + i) = 0 ∨ kd (k + i) = 4 ∨ kd (k + i) = 1 ∨ kd (k + i) = 7 := by decide +kernel
  intro q hq
  obtain ⟨h1, h2⟩ := hq
  have := key k (kd_lt (by rw [hk]; decide)) hk (q - k) (by omega)
  rwa [show k + (q - k) = q by omega] at this
theorem TXA_copy0 {σ : Sg} {k j : Nat} (h : TXA σ) (hk : kd k = 0) : TXA (s_X0_copyFrom σ k j) := h.fr (P := fun q => kd q ≠ 2) (fr_copy0 Fr.rf (fun q hq => by have := gd_kd hk q hq; omega)) (fun q hq h => h hq)
theorem LGA_up {σ : Sg} {k j : Nat} {v : Int32} (h : LGA σ) (hj : j ≠ 2) : LGA (up σ k j v) := by
  intro q hq
  obtain ⟨L, hL, e⟩ := h q hq
  exact ⟨L, hL, by simp [up, Ne.symm hj, e]⟩
theorem LGA_up7 {σ : Sg} {k j : Nat} {v : Int32} (h : LGA σ) (hk : kd k ≠ 1) : LGA (up σ k j v) := h.fr (P := fun q => q = k) (Fr.rf.up rfl) (fun q hq e => by subst e; omega)
theorem LGA_set {σ : Sg} {k j : Nat} (h : LGA σ) (hj : kd j = 1) : LGA (up σ k 2 (σ j 2)) := by
  intro q hq
  by_cases hqk : q = k
  · obtain ⟨L, hL, e⟩ := h j hj
    exact ⟨L, hL, by simp [up, hqk, e]⟩
  · rw [up_ne hqk]
    exact h q hq
theorem LGA_gcopy1 {k j : Nat} (hk : kd k = 1) (hj : kd j = 1) : ∀ (n i : Nat) (σ : Sg), LGA σ → LGA (gs_X1_copyFrom k j n i σ) := by
  intro n
  induction n with
  | zero => exact fun i σ h => h
  | succ n ih =>
    intro i σ h
    rw [gs_X1_copyFrom]
    split
    · exact LGA_set (LGA_up h (by decide)) hj
    · exact ih _ _ (LGA_up7 h (by have := kd1_1 hk; omega))
theorem LGA_copy4 {σ : Sg} {k j : Nat} (h : LGA σ) (hk : kd k = 4) (hj : kd j = 4) : LGA (s_X4_copyFrom σ k j) := by
  unfold s_X4_copyFrom
  have h0 : LGA (s_X1_copyFrom σ (k + 1) (j + 1)) := LGA_gcopy1 (kd4_1 hk) (kd4_1 hj) _ _ _ h
  exact LGA_up4 (LGA_up4 (LGA_up4 (LGA_up4 (LGA_up4 (LGA_up4 (LGA_up4 (LGA_up4 (LGA_up4 (LGA_up4 (LGA_up4 h0 hk) hk) hk) hk) hk) hk) hk) hk) hk) hk) hk
theorem LGA_copy0 {σ : Sg} {k j : Nat} (h : LGA σ) (hk : kd k = 0) (hj : kd j = 0) : LGA (s_X0_copyFrom σ k j) := by
  unfold s_X0_copyFrom
  exact LGA_up7 (LGA_up7 (LGA_copy4 (LGA_copy4 (LGA_copy4 (LGA_copy4 h (kd0_1 hk) (kd0_1 hj)) (kd0_4 hk) (kd0_4 hj)) (kd0_7 hk) (kd0_7 hj)) (kd0_10 hk) (kd0_10 hj)) (by omega)) (by omega)
theorem TXA_up {σ : Sg} {k j : Nat} {v : Int32} (h : TXA σ) (hk : kd k ≠ 2) : TXA (up σ k j v) := h.fr (P := fun q => q = k) (Fr.rf.up rfl) (fun q hq e => by subst e; omega)
theorem LGA_keep {σ : Sg} {k j : Nat} (h : LGA σ) (hk : kd k = 3) (hj : kd j = 0) : LGA (s_X3_keep σ k j) := by
  unfold s_X3_keep
  split <;> exact LGA_copy0 (LGA_up7 h (by omega)) (kr_X3_latest _ hk) hj
theorem TXA_keep {σ : Sg} {k j : Nat} (h : TXA σ) (hk : kd k = 3) : TXA (s_X3_keep σ k j) := by
  unfold s_X3_keep
  split <;> exact TXA_copy0 (TXA_up h (by omega)) (kr_X3_latest _ hk)
theorem rng16 {x : Int32} (h1 : ¬ x < 1) (h2 : x ≤ 16) : -1000 ≤ x.toInt ∧ x.toInt ≤ 1000000 := by
  have a := Int32.le_iff_toInt_le.mp (Int32.not_lt.mp h1)
  have b := Int32.le_iff_toInt_le.mp h2
  rw [show (1 : Int32).toInt = 1 from rfl] at a
  rw [show (16 : Int32).toInt = 16 from rfl] at b
  omega
theorem sz100 {x : Int32} (h1 : ¬ x < (-100)) (h2 : x ≤ 100) : ab x = nI (ab x).toNatClampNeg ∧ (ab x).toNatClampNeg ≤ 100 := by
  have a := Int32.le_iff_toInt_le.mp (Int32.not_lt.mp h1)
  have b := Int32.le_iff_toInt_le.mp h2
  rw [show (-100 : Int32).toInt = -100 from rfl] at a
  rw [show (100 : Int32).toInt = 100 from rfl] at b
  have hab : 0 ≤ (ab x).toInt ∧ (ab x).toInt ≤ 100 := by
    unfold ab
    split
    · rename_i h
      have h3 := Int32.le_iff_toInt_le.mp h
      rw [show (0 : Int32).toInt = 0 from rfl] at h3
      omega
    · rename_i h
      have h3 := Int32.lt_iff_toInt_lt.mp (Int32.not_le.mp h)
      rw [show (0 : Int32).toInt = 0 from rfl] at h3
      rw [Int32.toInt_sub, show (0 : Int32).toInt = 0 from rfl, Int.bmod_eq_of_le (by omega) (by omega)]
      omega
  have h4 := (i32_nat (ab x)).2 hab.1
  refine ⟨?_, by omega⟩
  apply Int32.toInt_inj.mp
  rw [nI_toInt (by omega), h4]

/-- only cells of P are written -/
def Fr (P : Nat → Prop) (σ σ' : Sg) : Prop := ∀ q, ¬ P q → σ' q = σ q
theorem Fr.rf {P : Nat → Prop} {σ : Sg} : Fr P σ σ := fun _ _ => rfl
theorem Fr.tr {P : Nat → Prop} {σ σ' σ'' : Sg} (h1 : Fr P σ σ') (h2 : Fr P σ' σ'') : Fr P σ σ'' := fun q h => (h2 q h).trans (h1 q h)
theorem Fr.up {P : Nat → Prop} {σ σ' : Sg} {k j : Nat} {v : Int32} (h : Fr P σ σ') (hk : P k) : Fr P σ (up σ' k j v) := fun q hq => (up_ne (fun e => hq (by rw [e]; exact hk))).trans (h q hq)
theorem Fr.mono {P P' : Nat → Prop} {σ σ' : Sg} (h : Fr P σ σ') (hP : ∀ q, P q → P' q) : Fr P' σ σ' := fun q hq => h q (fun hp => hq (hP q hp))
theorem fr_write {P : Nat → Prop} {σ σ' : Sg} {k : Nat} {x y : Int32} (h : Fr P σ σ') (hk : P (k + 1)) : Fr P σ (s_X1_write σ' k x y) := by
  unfold s_X1_write
  repeat' split
  · exact h
  · exact h
  · exact h.up hk
theorem fr_add {P : Nat → Prop} {σ σ' : Sg} {k : Nat} {x y w : Int32} (h : Fr P σ σ') (hk : P k) (hk1 : P (k + 1)) : Fr P σ (s_X1_add σ' k x y w) := by
  unfold s_X1_add
  split <;> exact fr_write (fr_write (fr_write (h.up hk) hk1) hk1) hk1
theorem fr_drop {P : Nat → Prop} {σ σ' : Sg} {k : Nat} (h : Fr P σ σ') (hk : P k) : Fr P σ (s_X1_dropLatest σ' k) := by
  unfold s_X1_dropLatest
  split
  · exact h
  · exact h.up hk
theorem fr_book {P : Nat → Prop} {σ σ' : Sg} {k : Nat} {x y : Int32} (h : Fr P σ σ') (hk : P k) : Fr P σ (s_X4_book σ' k x y) := by
  unfold s_X4_book
  repeat' split
  · exact h.up hk
  · exact h.up hk
  · exact h.up hk
  · exact h
theorem fr_move {P : Nat → Prop} {σ σ' : Sg} {k : Nat} {x y w : Int32} (h : Fr P σ σ') (hk : P k) : Fr P σ (s_X4_move σ' k x y w) := by
  unfold s_X4_move
  repeat' split
  · exact ((((fr_book h hk).up hk).up hk).up hk).up hk
  · exact (((((fr_book h hk).up hk).up hk).up hk).up hk).up hk
  · exact (((((fr_book h hk).up hk).up hk).up hk).up hk).up hk
theorem fr_sense {P : Nat → Prop} {σ σ' : Sg} {k : Nat} {x y w : Int32} (h : Fr P σ σ') (hk : P k) (hk1 : P (k + 1)) (hk2 : P (k + 2)) : Fr P σ (s_X4_sense σ' k x y w) := by
  unfold s_X4_sense
  split
  · exact fr_move (fr_add (h.up hk) hk1 hk2) hk
  · exact fr_move (fr_add h hk1 hk2) hk
theorem fr_passMark {P : Nat → Prop} {σ σ' : Sg} {k : Nat} {x : Int32} (h : Fr P σ σ') (hk : P k) : Fr P σ (s_X4_passMark σ' k x) := by
  unfold s_X4_passMark
  split <;> exact ((h.up hk).up hk).up hk
theorem fr_gretrace {P : Nat → Prop} {σ : Sg} {k : Nat} {x : Int32} (hk : P k) (hk1 : P (k + 1)) : ∀ (n i : Nat) (σ' : Sg), Fr P σ σ' → Fr P σ (gs_X4_retrace k x n i σ') := by
  intro n
  induction n with
  | zero => exact fun i σ' h => h
  | succ n ih =>
    intro i σ' h
    rw [gs_X4_retrace]
    split
    · exact h
    · exact ih _ _ (fr_drop (fr_move h hk) hk1)
theorem fr_retrace {P : Nat → Prop} {σ σ' : Sg} {k : Nat} {x : Int32} (h : Fr P σ σ') (hk : P k) (hk1 : P (k + 1)) : Fr P σ (s_X4_retrace σ' k x) := fr_gretrace hk hk1 _ _ _ h
/-- lengths stay lengths -/
theorem TXA.fr {P : Nat → Prop} {σ σ' : Sg} (h : TXA σ) (hF : Fr P σ σ') (hP : ∀ q, kd q = 2 → ¬ P q) : TXA σ' := fun q hq => by rw [hF q (hP q hq)]; exact h q hq
theorem LGA.fr {P : Nat → Prop} {σ σ' : Sg} (h : LGA σ) (hF : Fr P σ σ') (hP : ∀ q, kd q = 1 → ¬ P q) : LGA σ' := fun q hq => by rw [hF q (hP q hq)]; exact h q hq
abbrev sn (k : Nat) : Nat → Prop := fun q => q = k ∨ q = k + 1 ∨ q = k + 2
theorem sn_not2 {k : Nat} (hk : kd k = 4) : ∀ q, kd q = 2 → ¬ sn k q := by
  intro q hq h
  rcases h with rfl | rfl | rfl
  · omega
  · have := kd4_1 hk; omega
  · have : kd (k + 2) = 7 := kd1_1 (kd4_1 hk)
    omega
theorem wr_ne {σ : Sg} {k q : Nat} {x y : Int32} (h : q ≠ k + 1) : s_X1_write σ k x y q = σ q := fr_write (P := fun q => q = k + 1) (σ := σ) Fr.rf rfl q h
theorem LGA_add {σ : Sg} {k : Nat} {x y w : Int32} (h : LGA σ) (hk : kd k = 1) : LGA (s_X1_add σ k x y w) := by
  intro q hq
  have h7 := kd1_1 hk
  have hq1 : q ≠ k + 1 := fun e => by rw [e] at hq; omega
  obtain ⟨L, hL, e⟩ := h k hk
  unfold s_X1_add
  split
  · rename_i c
    rw [wr_ne hq1, wr_ne hq1, wr_ne hq1]
    by_cases hqk : q = k
    · subst hqk
      exact ⟨L, hL, by simp [up, e]⟩
    · rw [up_ne hqk]
      exact h q hq
  · rename_i c
    rw [wr_ne hq1, wr_ne hq1, wr_ne hq1]
    by_cases hqk : q = k
    · subst hqk
      have hlt : L < 16 := by
        rw [e] at c
        have := mt (cI_le (x := 16) (y := nI L) (a := 16) (b := L) rfl rfl (by omega) (by omega)).mpr c
        omega
      exact ⟨L + 1, by omega, by simp [up, e, nI_1]⟩
    · rw [up_ne hqk]
      exact h q hq
theorem LGA_up4 {σ : Sg} {k j : Nat} {v : Int32} (h : LGA σ) (hk : kd k = 4) : LGA (up σ k j v) := h.fr (P := fun q => q = k) (Fr.rf.up rfl) (fun q hq e => by subst e; omega)
theorem LGA_move {σ : Sg} {k : Nat} {x y w : Int32} (h : LGA σ) (hk : kd k = 4) : LGA (s_X4_move σ k x y w) := h.fr (P := fun q => q = k) (fr_move Fr.rf rfl) (fun q hq e => by subst e; omega)
theorem LGA_passMark {σ : Sg} {k : Nat} {x : Int32} (h : LGA σ) (hk : kd k = 4) : LGA (s_X4_passMark σ k x) := h.fr (P := fun q => q = k) (fr_passMark Fr.rf rfl) (fun q hq e => by subst e; omega)
theorem LGA_sense {σ : Sg} {k : Nat} {x y w : Int32} (h : LGA σ) (hk : kd k = 4) : LGA (s_X4_sense σ k x y w) := by
  unfold s_X4_sense
  split
  · exact LGA_move (LGA_add (LGA_up4 h hk) (kd4_1 hk)) hk
  · exact LGA_move (LGA_add h (kd4_1 hk)) hk
theorem LGA_drop {σ : Sg} {k : Nat} (h : LGA σ) (hk : kd k = 1) : LGA (s_X1_dropLatest σ k) := by
  intro q hq
  obtain ⟨L, hL, e⟩ := h k hk
  unfold s_X1_dropLatest
  split
  · exact h q hq
  · rename_i c
    by_cases hqk : q = k
    · subst hqk
      have hpos : 0 < L := by
        rw [e] at c
        have := mt (cI_le (x := nI L) (y := 0) (a := L) (b := 0) rfl rfl (by omega) (by omega)).mpr c
        omega
      obtain ⟨L', rfl⟩ : ∃ L', L = L' + 1 := ⟨L - 1, by omega⟩
      exact ⟨L', by omega, by simp [up, e, nI_pred]⟩
    · rw [up_ne hqk]
      exact h q hq
theorem LGA_gretrace {k : Nat} {x : Int32} (hk : kd k = 4) : ∀ (n i : Nat) (σ : Sg), LGA σ → LGA (gs_X4_retrace k x n i σ) := by
  intro n
  induction n with
  | zero => exact fun i σ' h => h
  | succ n ih =>
    intro i σ' h
    rw [gs_X4_retrace]
    split
    · exact h
    · exact ih _ _ (LGA_drop (LGA_move h hk) (kd4_1 hk))
theorem LGA_retrace {σ : Sg} {k : Nat} {x : Int32} (h : LGA σ) (hk : kd k = 4) : LGA (s_X4_retrace σ k x) := LGA_gretrace hk _ _ _ h

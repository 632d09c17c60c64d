/-! the recorded states -/
theorem rec51_eq {q : Nat} (hq : q ≤ 3) : ∀ (n i : Nat) (τ : Sg), i ≤ 230 → 231 ≤ i + n → (∀ b, (gt_X6_record_51 q n i τ) 2 b = if 230 * q + i ≤ b ∧ b < 230 * q + 230 then τ 1 (b - 230 * q) else τ 2 b) ∧ (gt_X6_record_51 q n i τ) 0 2 = τ 0 2 + 1 := by
  intro n
  induction n with
  | zero => exact fun i τ h1 h2 => absurd h2 (by omega)
  | succ n ih =>
    intro i τ h1 h2
    rw [gt_X6_record_51]
    by_cases c0 : 230 ≤ i
    · rw [if_pos c0]
      refine ⟨fun b => ?_, up_eq⟩
      rw [if_neg (by omega)]
      simp [up]
    · rw [if_neg c0]
      obtain ⟨a1, a2⟩ := ih (i + 1) (up τ 2 (230 * q + i) (τ 1 i)) (by omega) (by omega)
      refine ⟨fun b => ?_, ?_⟩
      · rw [a1 b, up_ne (show 1 ≠ 2 by decide)]
        by_cases e : b = 230 * q + i
        · subst e
          rw [if_neg (by omega), if_pos (by omega), up_eq, show 230 * q + i - 230 * q = i by omega]
        · rw [up_nb e]
          by_cases e2 : 230 * q + (i + 1) ≤ b ∧ b < 230 * q + 230
          · rw [if_pos e2, if_pos (by omega)]
          · rw [if_neg e2, if_neg (by omega)]
      · rw [a2]
        simp [up]
theorem rec10_eq : ∀ (n i : Nat) (τ : Sg), i ≤ 690 → 691 ≤ i + n → τ 0 2 = 4 → (∀ b, b < 920 → (gt_X6_record_10 n i τ) 2 b = if 690 ≤ b then τ 1 (b - 690) else if i ≤ b then τ 2 (230 + b) else τ 2 b) ∧ (gt_X6_record_10 n i τ) 0 2 = 4 := by
  intro n
  induction n with
  | zero => exact fun i τ h1 h2 _ => absurd h2 (by omega)
  | succ n ih =>
    intro i τ h1 h2 h3
    rw [gt_X6_record_10]
    by_cases c0 : 690 ≤ i
    · rw [if_pos c0]
      have hk : KN (up τ 0 2 (τ 0 2 - 1)) = 3 := by
        unfold KN
        rw [up_eq, h3]
        decide
      rw [hk]
      obtain ⟨a1, a2⟩ := rec51_eq (q := 3) (by omega) 231 0 (up τ 0 2 (τ 0 2 - 1)) (by omega) (by omega)
      refine ⟨fun b hb => ?_, ?_⟩
      · rw [a1 b]
        by_cases e : 690 ≤ b
        · rw [if_pos (by omega), if_pos e]
          simp [up]
        · rw [if_neg (by omega), if_neg e, if_neg (by omega)]
          simp [up]
      · rw [a2, up_eq, h3]
        decide
    · rw [if_neg c0]
      obtain ⟨a1, a2⟩ := ih (i + 1) (up τ 2 i (τ 2 (230 + i))) (by omega) (by omega) (by simpa [up] using h3)
      refine ⟨fun b hb => ?_, a2⟩
      rw [a1 b hb, up_ne (show 1 ≠ 2 by decide)]
      by_cases e0 : 690 ≤ b
      · rw [if_pos e0, if_pos e0]
      · rw [if_neg e0, if_neg e0]
        by_cases e : b = i
        · subst e
          rw [if_neg (by omega), if_pos (Nat.le_refl _), up_eq]
        · by_cases e2 : i + 1 ≤ b
          · rw [if_pos e2, if_pos (by omega), up_nb (by omega)]
          · rw [if_neg e2, if_neg (by omega), up_nb e]
/-- the reference's record, block by block -/
theorem rec_eq {τ : Sg} {K : Nat} (hK : K ≤ 4) (h2 : τ 0 2 = nI K) : (t_X6_record τ) 0 2 = nI (if K = 4 then 4 else K + 1) ∧ ∀ i b, i < 4 → b < 230 → (t_X6_record τ) 2 (230 * i + b) = if K = 4 then (if i = 3 then τ 1 b else τ 2 (230 * (i + 1) + b)) else (if i = K then τ 1 b else τ 2 (230 * i + b)) := by
  unfold t_X6_record
  by_cases c : K = 4
  · subst c
    have h2' : τ 0 2 = 4 := h2
    obtain ⟨a1, a2⟩ := rec10_eq 691 0 τ (by omega) (by omega) h2'
    rw [if_pos h2']
    refine ⟨by rw [a2, if_pos rfl]; rfl, fun i b hi hb => ?_⟩
    rw [a1 _ (by omega), if_pos rfl]
    by_cases e : i = 3
    · subst e
      rw [if_pos (by omega), if_pos rfl, show 230 * 3 + b - 690 = b by omega]
    · rw [if_neg (by omega), if_pos (Nat.zero_le _), if_neg e, show 230 + (230 * i + b) = 230 * (i + 1) + b by omega]
  · have h4 : ¬ τ 0 2 = 4 := fun q => c ((nI_eq (a := K) (b := 4) (by omega) (by omega)).mp (by rw [← h2, q]; rfl))
    have hk : KN τ = K := KN_of h2 hK
    obtain ⟨a1, a2⟩ := rec51_eq (q := K) (by omega) 231 0 τ (by omega) (by omega)
    rw [if_neg h4, hk]
    refine ⟨by rw [a2, h2, if_neg c, nI_1], fun i b hi hb => ?_⟩
    rw [a1, if_neg c]
    by_cases e : i = K
    · subst e
      rw [if_pos (by omega), if_pos rfl, show 230 * i + b - 230 * i = b by omega]
    · rw [if_neg (by omega), if_neg e]
/-- block i of the table of recorded states -/
def blk (T : Nat → Int32) (i : Nat) : Nat → Int32 := fun b => T (230 * i + b)
def RcR (σ τ : Sg) (B : Nat) : Prop := ∃ O K : Nat, O < 4 ∧ K ≤ 4 ∧ σ 40 4 = nI O ∧ σ 40 5 = nI K ∧ τ 0 2 = nI K ∧ ∀ i, i < K → GR σ (41 + 13 * ((O + i) % 4)) (blk (τ 2) i) B
theorem mod4 : ∀ a, a < 16 → nI a - nI a / 4 * 4 = nI (a % 4) := by decide +kernel
theorem latest_nI {σ : Sg} {k O K : Nat} (hO : σ k 4 = nI O) (hK : σ k 5 = nI K) (h1 : O < 4) (h2 : 1 ≤ K) (h3 : K ≤ 4) : f_X3_latest σ k = k + 1 + 13 * ((O + K - 1) % 4) := by
  unfold f_X3_latest
  have e : σ k 4 + σ k 5 - 1 = nI (O + K - 1) := by
    rw [hO, hK, nI_add]
    exact pk_sub (a := O + K) (b := 1) (by omega)
  rw [e, mod4 _ (by omega)]
  have hm : (O + K - 1) % 4 = 0 ∨ (O + K - 1) % 4 = 1 ∨ (O + K - 1) % 4 = 2 ∨ (O + K - 1) % 4 = 3 := by omega
  rcases hm with h | h | h | h <;> rw [h]
  · rw [if_pos (show nI 0 = 0 from rfl)]
  · rw [if_neg (by decide), if_pos (show nI 1 = 1 from rfl)]
  · rw [if_neg (by decide), if_neg (by decide), if_pos (show nI 2 = 2 from rfl)]
  · rw [if_neg (by decide), if_neg (by decide), if_neg (by decide)]
/-- a state is kept -/
theorem keep_rc {σ τ : Sg} {B : Nat} (h : RcR σ τ B) (hn : GR σ 1 (τ 1) B) : RcR (s_X3_keep σ 40 1) (t_X6_record τ) B ∧ ∀ q, q < 40 ∨ 93 ≤ q → s_X3_keep σ 40 1 q = σ q := by
  obtain ⟨O, K, h1, h2, h3, h4, h5, h6⟩ := h
  obtain ⟨r1, r2⟩ := rec_eq h2 h5
  unfold s_X3_keep
  have hle : (4 : Int32) ≤ σ 40 5 ↔ 4 ≤ K := by rw [h4]; exact cI_le (x := 4) (y := nI K) rfl rfl (by omega) (by omega)
  by_cases c : K = 4
  · subst c
    rw [if_pos (hle.mpr (Nat.le_refl _))]
    have e1 : σ 40 4 + 1 - (σ 40 4 + 1) / 4 * 4 = nI ((O + 1) % 4) := by
      rw [h3, nI_1]
      exact mod4 _ (by omega)
    rw [e1, latest_nI (σ := up σ 40 4 (nI ((O + 1) % 4))) (k := 40) (O := (O + 1) % 4) (K := 4) up_eq (by rw [up_nb (by decide)]; exact h4) (by omega) (by omega) (by omega)]
    have hd : ((O + 1) % 4 + 4 - 1) % 4 = O := by omega
    rw [hd]
    obtain ⟨c1, c2⟩ := cp0 (σ := up σ 40 4 (nI ((O + 1) % 4))) (d := 40 + 1 + 13 * O) (s := 1) (by omega)
    refine ⟨⟨(O + 1) % 4, 4, by omega, by omega, ?_, ?_, by rw [r1, if_pos rfl], fun i hi => ?_⟩, fun q hq => ?_⟩
    · rw [c2 40 (by omega), up_eq]
    · rw [c2 40 (by omega), up_nb (by decide)]; exact h4
    · by_cases e : i = 3
      · subst e
        rw [show 41 + 13 * (((O + 1) % 4 + 3) % 4) = 40 + 1 + 13 * O by omega]
        refine (c1 (τ 1) B (hn.cg (fun q q1 q2 => up_ne (by omega)) (fun a _ => rfl) (Nat.le_refl _))).cg (fun _ _ _ => rfl) (fun a ha => ?_) (Nat.le_refl _)
        show (t_X6_record τ) 2 (230 * 3 + a) = _
        rw [r2 3 a (by omega) ha, if_pos rfl, if_pos rfl]
      · have hp : ((O + 1) % 4 + i) % 4 = (O + (i + 1)) % 4 := by omega
        rw [hp]
        refine (h6 (i + 1) (by omega)).cg (fun q q1 q2 => ?_) (fun a ha => ?_) (Nat.le_refl _)
        · have : (O + (i + 1)) % 4 ≠ O := by omega
          rw [c2 q (by omega), up_ne (by omega)]
        · show (t_X6_record τ) 2 (230 * i + a) = τ 2 (230 * (i + 1) + a)
          rw [r2 i a (by omega) ha, if_pos rfl, if_neg e]
    · rw [c2 q (by omega), up_ne (by omega)]
  · rw [if_neg (fun q => c (by have := hle.mp q; omega))]
    have e1 : σ 40 5 + 1 = nI (K + 1) := by rw [h4, nI_1]
    rw [e1, latest_nI (σ := up σ 40 5 (nI (K + 1))) (k := 40) (O := O) (K := K + 1) (by rw [up_nb (by decide)]; exact h3) up_eq (by omega) (by omega) (by omega)]
    have hd : (O + (K + 1) - 1) % 4 = (O + K) % 4 := by omega
    rw [hd]
    obtain ⟨c1, c2⟩ := cp0 (σ := up σ 40 5 (nI (K + 1))) (d := 40 + 1 + 13 * ((O + K) % 4)) (s := 1) (by omega)
    refine ⟨⟨O, K + 1, by omega, by omega, ?_, ?_, by rw [r1, if_neg c], fun i hi => ?_⟩, fun q hq => ?_⟩
    · rw [c2 40 (by omega), up_nb (by decide)]; exact h3
    · rw [c2 40 (by omega), up_eq]
    · by_cases e : i = K
      · subst e
        refine (c1 (τ 1) B (hn.cg (fun q q1 q2 => up_ne (by omega)) (fun a _ => rfl) (Nat.le_refl _))).cg (fun _ _ _ => rfl) (fun a ha => ?_) (Nat.le_refl _)
        show (t_X6_record τ) 2 (230 * i + a) = _
        rw [r2 i a (by omega) ha, if_neg c, if_pos rfl]
      · refine (h6 i (by omega)).cg (fun q q1 q2 => ?_) (fun a ha => ?_) (Nat.le_refl _)
        · have : (O + i) % 4 ≠ (O + K) % 4 := by omega
          rw [c2 q (by omega), up_ne (by omega)]
        · show (t_X6_record τ) 2 (230 * i + a) = τ 2 (230 * i + a)
          rw [r2 i a (by omega) ha, if_neg c, if_neg e]
    · rw [c2 q (by omega), up_ne (by omega)]

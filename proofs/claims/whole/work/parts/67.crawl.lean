theorem st_ah {a r d v : Int32} (ha : St a) (hv : v = 1 ∨ v = -1) : (if f_X6_onward a (f_X6_ahead a v) = 2 then (if r = 0 then 0 else 2 * d) else if f_X6_onward a (f_X6_ahead a v) = 3 then -1 else f_X6_onward a (f_X6_ahead a v)) = v := by
  rcases ha with rfl | rfl | rfl | rfl <;> rcases hv with rfl | rfl <;> rfl
def wayOf (y : Int32) : Int32 := if 0 ≤ y then 1 else -1
theorem wayOf_v (y : Int32) : wayOf y = 1 ∨ wayOf y = -1 := by
  unfold wayOf
  split
  · exact Or.inl rfl
  · exact Or.inr rfl
theorem gcrawl {j b B : Nat} {y : Int32} (hj : j < 4) (hB : B + 400 ≤ 2000000000) (hb : b ≤ 100) : ∀ (n i : Nat) (σ τ : Sg), i ≤ b → b + 1 ≤ i + n → GR σ 1 (τ 1) (B + 2 * i) → (∃ q : Nat, q ≤ 4 ∧ τ 0 2 = nI q) → LGA σ →
    GR (gs_X5_crawl (1 + 1 + 3 * j) (wayOf y) b n i σ) 1 ((gt_X6_crawl_ok j b y n i τ) 1) (B + 2 * b) ∧ gf_X5_crawl (1 + 1 + 3 * j) (wayOf y) b n i σ = gf_X6_crawl_ok j b y n i τ ∧ (∀ q, q ≠ 1 + 1 + 3 * j → q ≠ 1 + 1 + 3 * j + 1 → q ≠ 1 + 1 + 3 * j + 2 → gs_X5_crawl (1 + 1 + 3 * j) (wayOf y) b n i σ q = σ q) ∧ FrT T1 τ (gt_X6_crawl_ok j b y n i τ) ∧ LGA (gs_X5_crawl (1 + 1 + 3 * j) (wayOf y) b n i σ) := by
  intro n
  induction n with
  | zero => exact fun i σ τ h1 h2 => absurd h2 (by omega)
  | succ n ih =>
    intro i σ τ h1 h2 hG hk hL
    rw [gs_X5_crawl, gf_X5_crawl]
    by_cases c : b ≤ i
    · have hi : i = b := by omega
      subst hi
      rw [gt_X6_crawl_ok, gf_X6_crawl_ok, if_pos c, if_pos c, if_pos c, if_pos c]
      exact ⟨hG, (hG.1 j hj).1.1.2.1, fun _ _ _ _ => rfl, FrT.rf, hL⟩
    · rw [if_neg c, if_neg c]
      have et : gt_X6_crawl_ok j b y (n + 1) i τ = gt_X6_crawl_ok j b y n (i + 1) (t_X6_feels τ j (f_X6_ahead (f_X6_of τ j 0) (wayOf y)) 1) := by
        rw [gt_X6_crawl_ok, if_neg c]
        unfold wayOf
        split <;> rfl
      have ef : gf_X6_crawl_ok j b y (n + 1) i τ = gf_X6_crawl_ok j b y n (i + 1) (t_X6_feels τ j (f_X6_ahead (f_X6_of τ j 0) (wayOf y)) 1) := by
        rw [gf_X6_crawl_ok, if_neg c]
        unfold wayOf
        split <;> rfl
      rw [et, ef]
      have hw := (hG.1 j hj).1.1
      have hs : St (f_X6_of τ j 0) := hw.2.2.2.2.2.2.2.2.2.1
      obtain ⟨e1, e2⟩ := st_nb hs (wayOf_v y)
      have en : f_X4_neighbour σ (1 + 1 + 3 * j) (wayOf y) = f_X6_ahead (f_X6_of τ j 0) (wayOf y) := by
        unfold f_X4_neighbour
        rw [hw.1]
        exact e1
      have es : f_X6_stepOf τ j (f_X6_ahead (f_X6_of τ j 0) (wayOf y)) = wayOf y := by
        unfold f_X6_stepOf
        exact st_ah hs (wayOf_v y)
      obtain ⟨g1, -, -, g4⟩ := feel_gr (y := f_X6_ahead (f_X6_of τ j 0) (wayOf y)) (w := 1) hG hk hj e2 (by decide) (by omega)
      rw [es] at g1 g4
      rw [en]
      obtain ⟨a1, a2, a3, a4, a5⟩ := ih (i + 1) (s_X4_sense σ (1 + 1 + 3 * j) (f_X6_ahead (f_X6_of τ j 0) (wayOf y)) (wayOf y) 1) (t_X6_feels τ j (f_X6_ahead (f_X6_of τ j 0) (wayOf y)) 1) (by omega) (by omega) (g1.cg (fun _ _ _ => rfl) (fun _ _ => rfl) (by omega)) (by rw [feels_T1 0 2 (by decide)]; exact hk) (LGA_sense hL (kd_sn hj))
      exact ⟨a1, a2, fun q q1 q2 q3 => (a3 q q1 q2 q3).trans (g4 q q1 q2 q3), feels_T1.tr a4, a5⟩
theorem op_crawl_no {n : Nat} {σ τ : Sg} {x y : Int32} (h : RR n σ τ) (hx : ¬ InS x) : Ans n (x_X5_crawl σ 0 x y) (hkt (x_X5_crawl σ 0 x y)) (f_X5_crawl σ 0 x y) (f_X6_crawl_no τ x y) (s_X5_crawl σ 0 x y) (t_X6_crawl_no τ x y) := by
  have e : x_X5_crawl σ 0 x y = 1 := by
    unfold x_X5_crawl
    rw [if_neg (by rw [num_no hx]; decide), num_no hx]
  have es : s_X5_crawl σ 0 x y = σ := by
    unfold s_X5_crawl
    rw [if_neg (by rw [num_no hx]; decide)]
  rw [e, es]
  exact Ans.no h hx (by decide) rfl

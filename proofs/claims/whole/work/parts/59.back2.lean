theorem gback {k j f q O B : Nat} (hj : j < 4) (hf : f ≤ q) (hq : q ≤ 16) (hB : B + 100 ≤ 2000000000) : ∀ (m n n' i : Nat) (σ τ : Sg), m + i = f → f + 1 ≤ i + n → f + 1 ≤ i + n' → WdR σ k (rw1 τ j) → LgR σ (k + 1) (rw1 τ j) (q - i) O → PB (B + 2 * i) (rw1 τ j 1) →
    WdR (gs_X4_retrace k (nI f) n i σ) k (rw1 (gt_X6_goesBack j f n' i τ) j) ∧ LgR (gs_X4_retrace k (nI f) n i σ) (k + 1) (rw1 (gt_X6_goesBack j f n' i τ) j) (q - f) O ∧ PB (B + 2 * f) (rw1 (gt_X6_goesBack j f n' i τ) j 1) ∧ (∀ p, p ≠ k → p ≠ k + 1 → gs_X4_retrace k (nI f) n i σ p = σ p) ∧ gf_X6_goesBack j f n' i τ = rw1 (gt_X6_goesBack j f n' i τ) j 1 := by
  intro m
  induction m with
  | zero =>
    intro n n' i σ τ h1 h2 h3 hW hL hP
    obtain ⟨n, rfl⟩ : ∃ a, n = a + 1 := ⟨n - 1, by omega⟩
    obtain ⟨n', rfl⟩ : ∃ a, n' = a + 1 := ⟨n' - 1, by omega⟩
    have hi : i = f := by omega
    subst hi
    rw [gs_X4_retrace, gt_X6_goesBack, gf_X6_goesBack, if_pos ((nI_leI (by omega) (by omega)).mpr (Nat.le_refl _)), if_pos (Nat.le_refl _), if_pos (Nat.le_refl _)]
    exact ⟨hW, hL, hP, fun _ _ _ => rfl, rfl⟩
  | succ m ih =>
    intro n n' i σ τ h1 h2 h3 hW hL hP
    obtain ⟨n, rfl⟩ : ∃ a, n = a + 1 := ⟨n - 1, by omega⟩
    obtain ⟨n', rfl⟩ : ∃ a, n' = a + 1 := ⟨n' - 1, by omega⟩
    obtain ⟨b1, b2, b3⟩ := sn_back hW hL (by omega)
    have h8 : τ 1 (57 * j + 8) = nI (q - i) := hL.2.2.2.1
    have hM : MLn (t_X6_grow τ j 8 (-1)) j = q - i - 1 := by
      unfold MLn
      rw [gm8 h8 (by omega), nI_clamp (by omega)]
      omega
    have hs : f_X6_of (t_X6_grow τ j 8 (-1)) j (9 + 3 * (q - i - 1)) = rw1 τ j (9 + 3 * (q - i - 1)) := by
      unfold f_X6_of rw1
      rw [grow_r, if_neg (by omega)]
    have hb : f_X6_of (t_X6_grow τ j 8 (-1)) j (9 + 3 * (q - i - 1) + 2) = rw1 τ j (9 + 3 * (q - i - 1) + 2) := by
      unfold f_X6_of rw1
      rw [grow_r, if_neg (by omega)]
    have h0 : f_X6_of (t_X6_grow τ j 8 (-1)) j 0 = rw1 τ j 0 := by
      unfold f_X6_of rw1
      rw [grow_r, if_neg (by omega)]
    have hstep := (hL.2.2.2.2.2.2 (q - i - 1) (by omega)).2.1
    have hne : ¬ nI f ≤ nI i := by
      rw [nI_leI (by omega) (by omega)]
      omega
    have hpos : ∀ e, PB (B + 2 * (i + 1)) (bR (rw1 τ j) (q - i - 1) e 1) := by
      intro e
      rw [(bR_lo _ _ _).2.1]
      refine (hP.add (C := 2) ?_ (by omega)).mono (by omega)
      have : (-rw1 τ j (9 + 3 * (q - i - 1))).toInt = -(rw1 τ j (9 + 3 * (q - i - 1))).toInt := by
        rw [Int32.toInt_neg]
        exact bm (by omega) (by omega)
      exact ⟨by omega, by omega⟩
    -- whichever track: the reference's row
    have key : ∀ τ' : Sg, (∀ a, τ' 1 (57 * j + a) = bR (rw1 τ j) (q - i - 1) (if f_X6_isA (rw1 τ j (9 + 3 * (q - i - 1) + 2)) (rw1 τ j 0) = 0 then 0 else -rw1 τ j (9 + 3 * (q - i - 1))) a) → gt_X6_goesBack j f (n' + 1) i τ = gt_X6_goesBack j f n' (i + 1) τ' → gf_X6_goesBack j f (n' + 1) i τ = gf_X6_goesBack j f n' (i + 1) τ' →
        WdR (gs_X4_retrace k (nI f) (n + 1) i σ) k (rw1 (gt_X6_goesBack j f (n' + 1) i τ) j) ∧ LgR (gs_X4_retrace k (nI f) (n + 1) i σ) (k + 1) (rw1 (gt_X6_goesBack j f (n' + 1) i τ) j) (q - f) O ∧ PB (B + 2 * f) (rw1 (gt_X6_goesBack j f (n' + 1) i τ) j 1) ∧ (∀ p, p ≠ k → p ≠ k + 1 → gs_X4_retrace k (nI f) (n + 1) i σ p = σ p) ∧ gf_X6_goesBack j f (n' + 1) i τ = rw1 (gt_X6_goesBack j f (n' + 1) i τ) j 1 := by
      intro τ' hr e1 e2
      have hr' : rw1 τ' j = bR (rw1 τ j) (q - i - 1) (if f_X6_isA (rw1 τ j (9 + 3 * (q - i - 1) + 2)) (rw1 τ j 0) = 0 then 0 else -rw1 τ j (9 + 3 * (q - i - 1))) := funext hr
      rw [e1, e2, gs_X4_retrace, if_neg hne]
      rw [← hr'] at b1 b2
      obtain ⟨c1, c2, c3, c4, c5⟩ := ih n n' (i + 1) _ τ' (by omega) (by omega) (by omega) b1 (by rw [show q - (i + 1) = q - i - 1 by omega]; exact b2) (by rw [hr']; exact hpos _)
      exact ⟨c1, c2, c3, fun p p1 p2 => (c4 p p1 p2).trans (b3 p p1 p2), c5⟩
    by_cases c : f_X6_isA (rw1 τ j (9 + 3 * (q - i - 1) + 2)) (rw1 τ j 0) = 0
    · refine key _ (fun a => ?_) (by rw [gt_X6_goesBack, if_neg (by omega), hM, hb, h0, hs, if_pos c]) (by rw [gf_X6_goesBack, if_neg (by omega), hM, hb, h0, hs, if_pos c])
      rw [if_pos c]
      exact back_r rfl rfl a
    · refine key _ (fun a => ?_) (by rw [gt_X6_goesBack, if_neg (by omega), hM, hb, h0, hs, if_neg c]) (by rw [gf_X6_goesBack, if_neg (by omega), hM, hb, h0, hs, if_neg c])
      rw [if_neg c]
      exact back_r rfl rfl a
/-- whether the way back can be gone -/
theorem can_eq {σ : Sg} {k j L O : Nat} {τ : Sg} (hW : WdR σ k (rw1 τ j)) (hL : LgR σ (k + 1) (rw1 τ j) L O) : ∀ (n i : Nat) (x y u v : Int32), L + 1 ≤ i + n → u = σ k 11 + x → v = σ k 10 + y → gf_X4_canRetrace σ k L n x y i = gf_X6_canGoBack τ j L n u v i := by
  intro n
  induction n with
  | zero =>
    intro i x y u v h hu hv
    rfl
  | succ n ih =>
    intro i x y u v h hu hv
    rw [gf_X4_canRetrace, gf_X6_canGoBack]
    by_cases c : L ≤ i
    · rw [if_pos c, if_pos c, hu, hv]
      rfl
    · rw [if_neg c, if_neg c]
      obtain ⟨l1, l2, l3, l4, l5, l6, l7⟩ := hL
      have es := l6 i (by omega) 0 (by omega)
      have ep := l6 i (by omega) 1 (by omega)
      refine ih (i + 1) _ _ _ _ (by omega) ?_ ?_
      · rw [spent_nI l5 (by omega), ep, hu, Int32.add_assoc]
        rfl
      · rw [step_nI l5 (by omega), es, hv, size_ab, Int32.add_assoc]
        rfl
theorem can_gr {σ : Sg} {g B j f : Nat} {τ : Sg} (h : GR σ g (τ 1) B) (hj : j < 4) (hf : f ≤ 1000) : f_X4_canRetrace σ (g + 1 + 3 * j) (nI f) = f_X6_canGoBack τ j f := by
  obtain ⟨⟨hW, L, O, hL⟩, -⟩ := h.1 j hj
  have hl := hL
  obtain ⟨l1, l2, l3, l4, l5, l6, l7⟩ := hL
  have e1 : Ln σ (g + 1 + 3 * j + 1) = L := by unfold Ln; rw [l3]; exact nI_clamp (by omega)
  have e2 : MLn τ j = L := MLn_of l4 l1
  unfold f_X4_canRetrace f_X6_canGoBack
  rw [e1, e2]
  by_cases c : f ≤ L
  · have hs : nI L - nI f = nI (L - f) := pk_sub c
    rw [if_pos ((nI_leI (by omega) (by omega)).mpr c), if_pos c, hs, nI_clamp (by omega)]
    refine can_eq hW hl 17 (L - f) 0 0 _ _ (by omega) ?_ ?_
    · rw [Int32.add_zero]; exact hW.2.2.2.2.2.2.2.1.symm
    · rw [Int32.add_zero]; exact hW.2.2.2.2.2.2.1.symm
  · rw [if_neg (fun q => c ((nI_leI (by omega) (by omega)).mp q)), if_neg c]
theorem back_gr {σ : Sg} {g B j f : Nat} {τ : Sg} (h : GR σ g (τ 1) B) (hk : ∃ q : Nat, q ≤ 4 ∧ τ 0 2 = nI q) (hj : j < 4) (hf : f ≤ MLn τ j) (hB : B + 100 ≤ 2000000000) :
    GR (s_X4_retrace σ (g + 1 + 3 * j) (nI f)) g ((t_X6_goesBack τ j f) 1) (B + 32) ∧ f_X6_goesBack τ j f = (t_X6_goesBack τ j f) 1 (57 * j + 1) ∧ ∀ q, q ≠ g + 1 + 3 * j → q ≠ g + 1 + 3 * j + 1 → s_X4_retrace σ (g + 1 + 3 * j) (nI f) q = σ q := by
  obtain ⟨⟨hW, L, O, hL⟩, hP⟩ := h.1 j hj
  have e2 : MLn τ j = L := MLn_of hL.2.2.2.1 hL.1
  have hM := MI.gr h hk
  have hfr := (ggoesBack_row (f := f) hj (hM.ln hj).2 hf 17 0 τ τ FrT.rf (hM.ln hj).1 (by omega)).1
  rw [e2] at hf
  have hL16 := hL.1
  obtain ⟨c1, c2, c3, c4, c5⟩ := gback (B := B) hj hf hL16 hB f (f + 1) 17 0 σ τ (by omega) (by omega) (by omega) hW hL hP
  have hcl : (nI f).toNatClampNeg + 1 = f + 1 := by rw [nI_clamp (by omega)]
  have hs : s_X4_retrace σ (g + 1 + 3 * j) (nI f) = gs_X4_retrace (g + 1 + 3 * j) (nI f) (f + 1) 0 σ := by
    unfold s_X4_retrace
    rw [hcl]
  rw [hs]
  refine ⟨h.one hj (fun q q1 q2 _ => c4 q q1 q2) (fun a ha => hfr 1 a (fun q => ha q.2)) ⟨c1, L - f, O, c2⟩ (PB.mono c3 (by omega)) (by omega), c5, c4⟩

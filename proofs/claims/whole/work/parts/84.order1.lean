/-- the order carried out, its loop's bound a letter -/
def fO1 (N : Nat) (τ : Sg) : Int32 :=
  if (f_X6_isNext (t_X6_sign τ 48 51) 58 58) = 0 then
    if (f_X6_isNext (t_X6_sign τ 48 51) 109 109) = 0 then
      if ((f_X6_sign (t_X6_sign (t_X6_sign τ 48 51) 98 98) 49 57) - 48) = 1 then
        if (f_X6_isNext (t_X6_sign (t_X6_sign (t_X6_sign τ 48 51) 98 98) 49 57) 48 54) = 0 then
          f_X6_canGoBack (t_X6_sign (t_X6_sign (t_X6_sign τ 48 51) 98 98) 49 57) (SJ τ) (NB (f_X6_sign (t_X6_sign (t_X6_sign τ 48 51) 98 98) 49 57))
        else
          f_X6_canGoBack (t_X6_sign (t_X6_sign (t_X6_sign (t_X6_sign τ 48 51) 98 98) 49 57) 48 54) (SJ τ) (10 + NB (f_X6_sign (t_X6_sign (t_X6_sign (t_X6_sign τ 48 51) 98 98) 49 57) 48 54))
      else
        f_X6_canGoBack (t_X6_sign (t_X6_sign (t_X6_sign τ 48 51) 98 98) 49 57) (SJ τ) (NB (f_X6_sign (t_X6_sign (t_X6_sign τ 48 51) 98 98) 49 57))
    else
      1
  else
    gf_X6_isOrdered_1 (SJ τ) N (f_X6_isFelt_1 (up (t_X6_sign τ 48 51) 0 9 (((t_X6_sign τ 48 51) 0 9) + 1)) (SJ τ)) (t_X6_isFelt_1 (up (t_X6_sign τ 48 51) 0 9 (((t_X6_sign τ 48 51) 0 9) + 1)) (SJ τ))
def tO1 (N : Nat) (τ : Sg) : Sg :=
  if (f_X6_isNext (t_X6_sign τ 48 51) 58 58) = 0 then
    if (f_X6_isNext (t_X6_sign τ 48 51) 109 109) = 0 then
      if ((f_X6_sign (t_X6_sign (t_X6_sign τ 48 51) 98 98) 49 57) - 48) = 1 then
        if (f_X6_isNext (t_X6_sign (t_X6_sign (t_X6_sign τ 48 51) 98 98) 49 57) 48 54) = 0 then
          if (f_X6_canGoBack (t_X6_sign (t_X6_sign (t_X6_sign τ 48 51) 98 98) 49 57) (SJ τ) (NB (f_X6_sign (t_X6_sign (t_X6_sign τ 48 51) 98 98) 49 57))) = 0 then
            t_X6_sign (t_X6_sign (t_X6_sign τ 48 51) 98 98) 49 57
          else
            t_X6_goesBack (t_X6_sign (t_X6_sign (t_X6_sign τ 48 51) 98 98) 49 57) (SJ τ) (NB (f_X6_sign (t_X6_sign (t_X6_sign τ 48 51) 98 98) 49 57))
        else
          if (f_X6_canGoBack (t_X6_sign (t_X6_sign (t_X6_sign (t_X6_sign τ 48 51) 98 98) 49 57) 48 54) (SJ τ) (10 + NB (f_X6_sign (t_X6_sign (t_X6_sign (t_X6_sign τ 48 51) 98 98) 49 57) 48 54))) = 0 then
            t_X6_sign (t_X6_sign (t_X6_sign (t_X6_sign τ 48 51) 98 98) 49 57) 48 54
          else
            t_X6_goesBack (t_X6_sign (t_X6_sign (t_X6_sign (t_X6_sign τ 48 51) 98 98) 49 57) 48 54) (SJ τ) (10 + NB (f_X6_sign (t_X6_sign (t_X6_sign (t_X6_sign τ 48 51) 98 98) 49 57) 48 54))
      else
        if (f_X6_canGoBack (t_X6_sign (t_X6_sign (t_X6_sign τ 48 51) 98 98) 49 57) (SJ τ) (NB (f_X6_sign (t_X6_sign (t_X6_sign τ 48 51) 98 98) 49 57))) = 0 then
          t_X6_sign (t_X6_sign (t_X6_sign τ 48 51) 98 98) 49 57
        else
          t_X6_goesBack (t_X6_sign (t_X6_sign (t_X6_sign τ 48 51) 98 98) 49 57) (SJ τ) (NB (f_X6_sign (t_X6_sign (t_X6_sign τ 48 51) 98 98) 49 57))
    else
      t_X6_meets (up (t_X6_sign τ 48 51) 0 9 (((t_X6_sign τ 48 51) 0 9) + 1)) (SJ τ)
  else
    gt_X6_isOrdered_1 (SJ τ) N (f_X6_isFelt_1 (up (t_X6_sign τ 48 51) 0 9 (((t_X6_sign τ 48 51) 0 9) + 1)) (SJ τ)) (t_X6_isFelt_1 (up (t_X6_sign τ 48 51) 0 9 (((t_X6_sign τ 48 51) 0 9) + 1)) (SJ τ))
theorem fO1_eq (τ : Sg) : f_X6_isOrdered_1 τ = fO1 82 τ := by
  unfold f_X6_isOrdered_1 fO1
  generalize 82 = N
  simp only [ite_id]
theorem tO1_eq (τ : Sg) : t_X6_isOrdered_1 τ = tO1 82 τ := rfl
/-- what one order comes to, on the garden for trials -/
def O1 (σ σ' : Sg) (B : Nat) (f g : Int32) (t' : Sg) : Prop := (f = 0 ↔ g = 0) ∧ (∀ q, q < 14 ∨ 27 ≤ q → σ' q = σ q) ∧ (¬ g = 0 → GR σ' 14 (t' 1) (B + 400))
/-- going back by so many, by both -/
theorem gob {σ t : Sg} {B j f : Nat} (hG : GR σ 14 (t 1) B) (hk : ∃ q : Nat, q ≤ 4 ∧ t 0 2 = nI q) (hj : j < 4) (hf : f ≤ 100) (hB : B + 400 ≤ 2000000000) : O1 σ (if f_X4_canRetrace σ (14 + 1 + 3 * j) (nI f) = 0 then σ else s_X4_retrace σ (14 + 1 + 3 * j) (nI f)) B (if f_X4_canRetrace σ (14 + 1 + 3 * j) (nI f) = 0 then 0 else 1) (f_X6_canGoBack t j f) (if f_X6_canGoBack t j f = 0 then t else t_X6_goesBack t j f) := by
  rw [can_gr (f := f) hG hj (by omega)]
  by_cases c : f_X6_canGoBack t j f = 0
  · rw [if_pos c, if_pos c, c]
    exact ⟨Iff.rfl, fun _ _ => rfl, fun q => absurd rfl q⟩
  · rw [if_neg c, if_neg c, if_neg c]
    obtain ⟨g1, -, g3⟩ := back_gr hG hk hj (gb_le' c) (by omega)
    exact ⟨⟨fun q => absurd q (by decide), fun q => absurd q c⟩, fun q hq => g3 q (by omega) (by omega), fun _ => g1.cg (fun _ _ _ => rfl) (fun _ _ => rfl) (by omega)⟩
theorem sj_nI {t : Sg} {c : Nat → Int32} {L a j : Nat} (hu : Un t a) (hx : Tx t c L) (e : Cc c L a - 48 = nI j) (hj : j < 4) : SJ t = j := by
  unfold SJ
  rw [s_f hu hx, e]
  exact nI_clamp (by omega)
theorem nb_nI {x : Int32} {j : Nat} (e : x - 48 = nI j) (hj : j < 100) : NB x = j := by
  unfold NB
  rw [e]
  exact nI_clamp (by omega)
theorem ord1 {σ t : Sg} {c : Nat → Int32} {L a b N B : Nat} (hN : 82 ≤ N) (h : TxC σ c L) (hu : Un t a) (hx : Tx t c L) (hb : b ≤ L) (hS : Sh c L a b) (hE : b = L ∨ Cc c L b = 59) (he : EO σ 93 a = b) (hG : GR σ 14 (t 1) B) (hk : ∃ q : Nat, q ≤ 4 ∧ t 0 2 = nI q) (hB : B + 1000 ≤ 2000000000) : O1 σ (s_X5_follow σ 0 14 a) B (f_X5_follow σ 0 14 a) (fO1 N t) (tO1 N t) := by
  have hL := h.1
  obtain ⟨d, hS⟩ := hS
  obtain ⟨j, hj, ej, hy⟩ := dig4 d
  obtain ⟨u1, al⟩ := s_ok hu hx (x := 48) (y := 51) (by decide) d
  have x1 := hx.sign (x := 48) (y := 51)
  have eS := sj_nI hu hx ej hj
  have d1 : f_X2_sign σ (0 + 93) (nI a + 1) = Cc c L (a + 1) := by rw [nI_1]; exact h.2.2 (a + 1) (by omega)
  have d2 : f_X2_sign σ (0 + 93) (nI a + 2) = Cc c L (a + 2) := by rw [nI_2]; exact h.2.2 (a + 2) (by omega)
  have d3 : f_X2_sign σ (0 + 93) (nI a + 2 + 1) = Cc c L (a + 3) := by rw [nI_2, nI_1]; exact h.2.2 (a + 3) (by omega)
  have dj : f_X0_snail σ 14 (f_X2_digit σ (0 + 93) (nI a)) = 14 + 1 + 3 * j := by
    unfold f_X2_digit
    rw [show f_X2_sign σ (0 + 93) (nI a) = Cc c L a from h.2.2 a (by omega), ej]
    exact snail_nI hj
  have hbn : ¬ (48 ≤ Cc c L b ∧ Cc c L b ≤ 57) := by
    rcases hE with q | q
    · rw [cc_ge (by omega)]; decide
    · rw [q]; decide
  have hbn1 : ¬ (48 ≤ Cc c L b ∧ Cc c L b ≤ 51) := fun q => hbn ⟨q.1, Int32.le_trans q.2 (by decide)⟩
  have i0 : ∀ x : Int32, 0 < x → (f_X6_isNext (t_X6_sign t 48 51) x x = 0 ↔ ¬ Cc c L (a + 1) = x) := fun x hx0 => (n_un u1 x1 hx0).trans (not_congr in_one)
  have g1 : GR σ 14 ((t_X6_sign t 48 51) 1) B := by rw [sgn_1]; exact hG
  have k1 : ∃ q : Nat, q ≤ 4 ∧ (t_X6_sign t 48 51) 0 2 = nI q := by rw [sgn_2]; exact hk
  unfold f_X5_follow s_X5_follow fO1 tO1
  rw [d1, dj, eS, show EO σ (0 + 93) a = b from he]
  rcases hS with ⟨e58, hb3, hs⟩ | ⟨e109, hb2⟩ | ⟨e98, e49, hr, hb4⟩ | ⟨e98, hr, hq, hb3⟩
  · have n58 : ¬ f_X6_isNext (t_X6_sign t 48 51) 58 58 = 0 := fun q => (i0 58 (by decide)).mp q e58
    have m1 : ¬ Cc c L (a + 1) = 109 := by rw [e58]; decide
    have m2 : ¬ Cc c L (a + 1) = 98 := by rw [e58]; decide
    rw [if_neg n58, if_neg n58, if_neg m1, if_neg m2, if_neg m1, if_neg m2]
    have u2 := un_inc u1 x1 (show a + 1 < L by omega)
    have x2 := x1.inc
    have g2 : GR σ 14 ((up (t_X6_sign t 48 51) 0 9 ((t_X6_sign t 48 51) 0 9 + 1)) 1) (B + 2 * (a + 2)) := by rw [up0_1]; exact g1.cg (fun _ _ _ => rfl) (fun _ _ => rfl) (by omega)
    have k2 : ∃ q : Nat, q ≤ 4 ∧ (up (t_X6_sign t 48 51) 0 9 ((t_X6_sign t 48 51) 0 9 + 1)) 0 2 = nI q := by rw [up_nb (by decide)]; exact k1
    generalize up (t_X6_sign t 48 51) 0 9 ((t_X6_sign t 48 51) 0 9 + 1) = w at u2 x2 g2 k2 ⊢
    obtain ⟨a1, a2, a3⟩ := gfeel (B := B) (r := σ 14 4) hj hb (by omega) hbn1 (b + 1) (N + 1) (a + 2) σ w h (by omega) (by omega) (by omega) hs u2 x2 k2 rfl g2
    have nx : ¬ f_X6_isNext w 48 51 = 0 := fun q => (n_un u2 x2 (by decide)).mp q (hs (a + 2) (Nat.le_refl _) (by omega))
    rw [gf_X6_isOrdered_1, if_neg (show ¬ (1 : Int32) = 0 by decide), if_neg nx] at a1 a3
    rw [gt_X6_isOrdered_1, if_neg (show ¬ (1 : Int32) = 0 by decide), if_neg nx] at a3
    refine ⟨by rw [← a1]; exact Iff.rfl, fun q hq => a2 q (by omega), fun q => (a3 q).cg (fun _ _ _ => rfl) (fun _ _ => rfl) (by omega)⟩
  · have n58 : f_X6_isNext (t_X6_sign t 48 51) 58 58 = 0 := (i0 58 (by decide)).mpr (by rw [e109]; decide)
    have n109 : ¬ f_X6_isNext (t_X6_sign t 48 51) 109 109 = 0 := fun q => (i0 109 (by decide)).mp q e109
    rw [if_pos n58, if_pos n58, if_neg n109, if_neg n109, if_pos e109, if_pos e109]
    have g2 : GR σ 14 ((up (t_X6_sign t 48 51) 0 9 ((t_X6_sign t 48 51) 0 9 + 1)) 1) B := by rw [up0_1]; exact g1
    have k2 : ∃ q : Nat, q ≤ 4 ∧ (up (t_X6_sign t 48 51) 0 9 ((t_X6_sign t 48 51) 0 9 + 1)) 0 2 = nI q := by rw [up_nb (by decide)]; exact k1
    obtain ⟨a1, -, a3⟩ := mark_gr g2 k2 hj (by omega)
    exact ⟨Iff.rfl, fun q hq => a3 q (by omega), fun _ => a1⟩
  · have n58 : f_X6_isNext (t_X6_sign t 48 51) 58 58 = 0 := (i0 58 (by decide)).mpr (by rw [e98]; decide)
    have n109 : f_X6_isNext (t_X6_sign t 48 51) 109 109 = 0 := (i0 109 (by decide)).mpr (by rw [e98]; decide)
    have m1 : ¬ Cc c L (a + 1) = 109 := by rw [e98]; decide
    rw [if_pos n58, if_pos n58, if_pos n109, if_pos n109, if_neg m1, if_pos e98, if_neg m1, if_pos e98]
    obtain ⟨u2, bl⟩ := s_ok u1 x1 (x := 98) (y := 98) (by decide) (in_one.mpr e98)
    have x2 := x1.sign (x := 98) (y := 98)
    obtain ⟨u3, cl⟩ := s_ok u2 x2 (x := 49) (y := 57) (by decide) (show 49 ≤ Cc c L (a + 2) ∧ Cc c L (a + 2) ≤ 57 by rw [e49]; decide)
    have x3 := x2.sign (x := 49) (y := 57)
    obtain ⟨u4, dl⟩ := s_ok u3 x3 (x := 48) (y := 54) (by decide) hr
    have x4 := x3.sign (x := 48) (y := 54)
    have p1 : f_X6_sign (t_X6_sign (t_X6_sign t 48 51) 98 98) 49 57 - 48 = 1 := by rw [s_f u2 x2, show Cc c L (a + 1 + 1) = 49 from e49]; decide
    have p2 : ¬ f_X6_isNext (t_X6_sign (t_X6_sign (t_X6_sign t 48 51) 98 98) 49 57) 48 54 = 0 := fun q => (n_un u3 x3 (by decide)).mp q hr
    rw [if_pos p1, if_pos p1, if_neg p2, if_neg p2]
    obtain ⟨f, f1, f2, f3⟩ := dgo_of (y := Cc c L (a + 3)) (m := 6) (by omega) hr
    have en : f_X2_number σ (0 + 93) (nI a + 2) = nI (10 + f) := by
      unfold f_X2_number f_X2_digit
      rw [d3, d2, if_neg (btw1 ⟨hr.1, Int32.le_trans hr.2 (by decide)⟩), e49, f3, show (10 : Int32) * (49 - 48) = nI 10 from by decide, nI_add]
    have eb : NB (f_X6_sign (t_X6_sign (t_X6_sign (t_X6_sign t 48 51) 98 98) 49 57) 48 54) = f := by
      rw [s_f u3 x3]
      exact nb_nI f3 (by omega)
    rw [en, eb]
    exact gob (by rw [sgn_1, sgn_1, sgn_1]; exact g1) (by rw [sgn_2, sgn_2, sgn_2]; exact k1) hj (by omega) (by omega)
  · have n58 : f_X6_isNext (t_X6_sign t 48 51) 58 58 = 0 := (i0 58 (by decide)).mpr (by rw [e98]; decide)
    have n109 : f_X6_isNext (t_X6_sign t 48 51) 109 109 = 0 := (i0 109 (by decide)).mpr (by rw [e98]; decide)
    have m1 : ¬ Cc c L (a + 1) = 109 := by rw [e98]; decide
    rw [if_pos n58, if_pos n58, if_pos n109, if_pos n109, if_neg m1, if_pos e98, if_neg m1, if_pos e98]
    obtain ⟨u2, bl⟩ := s_ok u1 x1 (x := 98) (y := 98) (by decide) (in_one.mpr e98)
    have x2 := x1.sign (x := 98) (y := 98)
    obtain ⟨u3, cl⟩ := s_ok u2 x2 (x := 49) (y := 57) (by decide) hr
    have x3 := x2.sign (x := 49) (y := 57)
    obtain ⟨f, f1, f2, f3⟩ := dgo_of (y := Cc c L (a + 2)) (m := 9) (by omega) ⟨Int32.le_trans (by decide) hr.1, hr.2⟩
    have hb3' : b = a + 3 := hb3
    have en : f_X2_number σ (0 + 93) (nI a + 2) = nI f := by
      unfold f_X2_number f_X2_digit
      rw [d3, d2, if_pos (btw0 (by rw [← hb3']; exact hbn)), f3]
    have ef : f_X6_sign (t_X6_sign (t_X6_sign t 48 51) 98 98) 49 57 = Cc c L (a + 2) := s_f u2 x2
    have eb : NB (f_X6_sign (t_X6_sign (t_X6_sign t 48 51) 98 98) 49 57) = f := by
      rw [ef]
      exact nb_nI f3 (by omega)
    have p2 : f_X6_isNext (t_X6_sign (t_X6_sign (t_X6_sign t 48 51) 98 98) 49 57) 48 54 = 0 := (n_un u3 x3 (by decide)).mpr (fun q => hbn (by rw [hb3']; exact ⟨q.1, Int32.le_trans q.2 (by decide)⟩))
    rw [if_pos p2, if_pos p2, ite_id, ite_id, en, eb]
    exact gob (by rw [sgn_1, sgn_1]; exact g1) (by rw [sgn_2, sgn_2]; exact k1) hj (by omega) (by omega)

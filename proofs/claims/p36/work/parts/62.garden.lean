/-! the garden, and the calls that change it -/
theorem fl_int {x y : Int32} (hy : 1 ≤ y.toInt) (hy4 : y.toInt ≤ 400) : (f_J9_floorDiv_7cf53 x y).toInt = x.toInt / y.toInt ∧ (f_J9_floorMod_7cf53 x y).toInt = x.toInt % y.toInt := by
  obtain ⟨hd, hq, hr⟩ := rem_int (x := x) hy
  obtain ⟨e, p, n⟩ := tdiv_bd (a := x.toInt) hy
  have hx1 := Int32.le_toInt x
  have hx2 := Int32.toInt_lt x
  have hx0 : 0 ≤ x ↔ 0 ≤ x.toInt := le0
  have hrz : x - x / y * y = 0 ↔ (x - x / y * y).toInt = 0 := by rw [← Int32.toInt_inj]; rfl
  have hqx : x / y * y = x ↔ x.toInt.tdiv y.toInt * y.toInt = x.toInt := by rw [← Int32.toInt_inj, hq]
  have key : ∀ a m : Int, a + y.toInt * m = x.toInt → 0 ≤ a → a < y.toInt → x.toInt / y.toInt = m ∧ x.toInt % y.toInt = a := fun a m h1 h2 h3 => (Int.ediv_emod_unique (by omega)).mpr ⟨h1, h2, h3⟩
  have hc : y.toInt * x.toInt.tdiv y.toInt = x.toInt.tdiv y.toInt * y.toInt := Int.mul_comm _ _
  unfold f_J9_floorDiv_7cf53 f_J9_floorMod_7cf53
  by_cases h : 0 ≤ x
  · have hp := p (hx0.mp h)
    obtain ⟨k1, k2⟩ := key (x.toInt.tmod y.toInt) (x.toInt.tdiv y.toInt) (by omega) hp.1 hp.2.1
    rw [if_pos ((xor_sg (by omega)).mpr h), if_pos ((xor_sg (by omega)).mpr h), hd, hr, k1, k2]
    exact ⟨rfl, rfl⟩
  · have hn := n (by have := mt hx0.mpr h; omega)
    rw [if_neg (mt (xor_sg (by omega)).mp h), if_neg (mt (xor_sg (by omega)).mp h)]
    by_cases hz : x.toInt.tmod y.toInt = 0
    · obtain ⟨k1, k2⟩ := key 0 (x.toInt.tdiv y.toInt) (by omega) (by omega) (by omega)
      rw [if_pos (hqx.mpr (by omega)), if_pos (hrz.mpr (by rw [hr]; exact hz)), hd, hr, k1, k2]
      exact ⟨rfl, hz⟩
    · obtain ⟨k1, k2⟩ := key (x.toInt.tmod y.toInt + y.toInt) (x.toInt.tdiv y.toInt - 1) (by rw [Int.mul_sub, Int.mul_one]; omega) (by omega) (by omega)
      rw [if_neg (fun q => by have := hqx.mp q; omega), if_neg (fun q => hz (by rw [← hr]; exact hrz.mp q)), k1, k2]
      constructor
      · rw [Int32.toInt_sub, hd, show (1 : Int32).toInt = 1 from rfl]
        refine bm ?_ (by omega)
        have : x.toInt.tdiv y.toInt * y.toInt ≤ x.toInt.tdiv y.toInt * 1 := Int.mul_le_mul_of_nonpos_left hn.2.2 hy
        omega
      · rw [Int32.toInt_add, hr]
        exact bm (by omega) (by omega)
def GN (B : Nat) (σ : Sg) : Prop := (∀ j, j < 4 → ∃ (E : Nat → Nat → Int32) (L : Nat), SnN σ (1 + 1 + 3 * j) E L B) ∧ Ru (σ 1 4) ∧ CT (σ 1 5) ∧ LGA σ
theorem latest_ge (σ : Sg) : 41 ≤ f_X3_latest σ 40 := by
  unfold f_X3_latest
  repeat' split
  all_goals omega
theorem keep_ne {σ : Sg} {q : Nat} (hq : q < 40) : s_X3_keep σ 40 1 q = σ q := by
  unfold s_X3_keep
  split
  · exact fr_copy0 (P := fun q => 40 ≤ q) (Fr.rf.up (Nat.le_refl 40)) (fun q hq => Nat.le_trans (Nat.le_trans (by omega) (latest_ge _)) hq.1) q (by omega)
  · exact fr_copy0 (P := fun q => 40 ≤ q) (Fr.rf.up (Nat.le_refl 40)) (fun q hq => Nat.le_trans (Nat.le_trans (by omega) (latest_ge _)) hq.1) q (by omega)
theorem GN.mono {B B' : Nat} {σ : Sg} (h : GN B σ) (hB : B ≤ B') : GN B' σ := ⟨fun j hj => by
  obtain ⟨E, L, q⟩ := h.1 j hj
  exact ⟨E, L, q.cg rfl rfl rfl hB⟩, h.2⟩
theorem GN.keep {B : Nat} {σ : Sg} (h : GN B σ) : GN B (s_X3_keep σ 40 1) := by
  obtain ⟨h1, h2, h3, h4⟩ := h
  refine ⟨fun j hj => ?_, ?_, ?_, LGA_keep h4 rfl rfl⟩
  · obtain ⟨E, L, q⟩ := h1 j hj
    exact ⟨E, L, q.cg (keep_ne (by omega)) (keep_ne (by omega)) (keep_ne (by omega)) (Nat.le_refl B)⟩
  · rw [keep_ne (by omega)]; exact h2
  · rw [keep_ne (by omega)]; exact h3
/-- one snail has moved -/
theorem GN.one {B B' j : Nat} {σ σ' : Sg} {E : Nat → Nat → Int32} {L : Nat} (h : GN B σ) (hj : j < 4) (hs : ∀ q, q < 40 → q ≠ (1 + 1 + 3 * j) → q ≠ (1 + 1 + 3 * j) + 1 → q ≠ (1 + 1 + 3 * j) + 2 → σ' q = σ q) (hn : SnN σ' (1 + 1 + 3 * j) E L B') (hG : LGA σ') (hB : B ≤ B') : GN B' σ' := by
  obtain ⟨h1, h2, h3, h4⟩ := h
  refine ⟨fun i hi => ?_, ?_, ?_, hG⟩
  · by_cases c : i = j
    · subst c
      exact ⟨E, L, hn⟩
    · obtain ⟨E', L', q⟩ := h1 i hi
      exact ⟨E', L', q.cg (hs _ (by omega) (by omega) (by omega) (by omega)) (hs _ (by omega) (by omega) (by omega) (by omega)) (hs _ (by omega) (by omega) (by omega) (by omega)) hB⟩
  · rw [hs 1 (by omega) (by omega) (by omega) (by omega)]; exact h2
  · rw [hs 1 (by omega) (by omega) (by omega) (by omega)]; exact h3
theorem st_dem {y : Int32} (h : St y) : x_X5_demandState y = 0 := by
  rcases h with rfl | rfl | rfl | rfl <;> rfl
theorem room_ok {σ : Sg} {k B : Nat} {x y : Int32} (h : AC B (σ k)) (hx : 0 ≤ x.toInt ∧ x.toInt ≤ 20000) (hy : 0 ≤ y.toInt ∧ y.toInt ≤ 20000) (hB : B + 20000 ≤ 1000000000) : f_X4_hasRoom σ k x y = 1 := by
  obtain ⟨h1, h2, h3, -, -⟩ := h
  unfold f_X4_hasRoom
  rw [if_neg, if_neg]
  · rw [Int32.lt_iff_toInt_lt, Int32.toInt_add, bm (by omega) (by omega), show (1000000000 : Int32).toInt = 1000000000 from rfl]
    omega
  · rw [Int32.lt_iff_toInt_lt, Int32.toInt_add, bm (by omega) (by omega), show (1000000000 : Int32).toInt = 1000000000 from rfl]
    omega
theorem dem_room {σ : Sg} {k : Nat} {x y : Int32} (h : f_X4_hasRoom σ k x y = 1) : x_X5_demandRoom σ k x y = 0 := by
  unfold x_X5_demandRoom
  rw [h]
  rfl
theorem step_mv {σ : Sg} {k : Nat} {r y : Int32} (s1 : St (σ k 1)) (s2 : Dr (σ k 3)) (hy : St y) : Mv (σ k 1) y (f_X4_stepUnder σ k r y) := by
  unfold f_X4_stepUnder Mv
  refine ⟨fun q => ?_, ?_⟩
  · rw [q, if_neg (by decide), if_pos (st_xor0 s1 hy q)]
  · repeat' split
    · rcases s2 with d | d | d <;> rw [d] <;> decide
    · decide
    · decide
    · decide
    · decide
theorem i1_le {w : Int32} : (1 : Int32) ≤ w ↔ 1 ≤ w.toInt := by rw [Int32.le_iff_toInt_le]; rfl
theorem i1_lt {w : Int32} : w < (1 : Int32) ↔ w.toInt < 1 := by rw [Int32.lt_iff_toInt_lt]; rfl
theorem step_eq {σ σ' : Sg} {k : Nat} {r y : Int32} (h : σ' k = σ k) : f_X4_stepUnder σ' k r y = f_X4_stepUnder σ k r y := by
  unfold f_X4_stepUnder f_X4_neighbour
  rw [h]
/-- a feeling -/
theorem feel_ok {σ : Sg} {B i L : Nat} {y w : Int32} {E : Nat → Nat → Int32} (h : GN B σ) (hS : SnN σ (1 + 1 + 3 * i) E L B) (hi : i < 4) (hy : St y) (hw : 1 ≤ w.toInt ∧ w.toInt ≤ 1000) (hB : B + 20000 ≤ 1000000000) :
    x_X5_feel σ 0 (nI i) y w = 0 ∧ f_X5_feel σ 0 (nI i) y w = f_X4_stepUnder σ (1 + 1 + 3 * i) (σ 1 4) y ∧ GN (B + 1000) (s_X5_feel σ 0 (nI i) y w) ∧ SnN (s_X5_feel σ 0 (nI i) y w) (1 + 1 + 3 * i) (psh E (f_X4_stepUnder σ (1 + 1 + 3 * i) (σ 1 4) y) w (σ (1 + 1 + 3 * i) 1)) (lL L) (B + 1000) ∧ s_X5_feel σ 0 (nI i) y w (1 + 1 + 3 * i) = snK σ (1 + 1 + 3 * i) y (f_X4_stepUnder σ (1 + 1 + 3 * i) (σ 1 4) y) w ∧ s_X5_feel σ 0 (nI i) y w 1 = σ 1 := by
  obtain ⟨n0, n1⟩ := num_ok (σ := σ) hi
  have hmv := step_mv (r := σ 1 4) hS.1 hS.2.1 hy
  obtain ⟨a1, a2⟩ := ab_int (v := f_X4_stepUnder σ (1 + 1 + 3 * i) (σ 1 4) y) (M := 2) ⟨by have := hmv.2; omega, by have := hmv.2; omega⟩ (by omega)
  have ha : 0 ≤ (ab (f_X4_stepUnder σ (1 + 1 + 3 * i) (σ 1 4) y)).toInt ∧ (ab (f_X4_stepUnder σ (1 + 1 + 3 * i) (σ 1 4) y)).toInt ≤ 20000 := by
    have := hmv.2
    rcases Int.lt_or_le (f_X4_stepUnder σ (1 + 1 + 3 * i) (σ 1 4) y).toInt 0 with q | q
    · have := a2 q; omega
    · have := a1 q; omega
  have hr := dem_room (room_ok hS.2.2.2.1 (x := w) (y := ab (f_X4_stepUnder σ (1 + 1 + 3 * i) (σ 1 4) y)) ⟨by omega, by omega⟩ ha hB)
  have d0 := st_dem hy
  have d1 : ¬ w < 1 := fun q => by have := i1_lt.mp q; omega
  have d2 : w ≤ 1000 := by rw [Int32.le_iff_toInt_le]; exact hw.2
  have es : s_X5_feel σ 0 (nI i) y w = s_X4_sense (s_X3_keep σ 40 1) (1 + 1 + 3 * i) y (f_X4_stepUnder σ (1 + 1 + 3 * i) (σ 1 4) y) w := by
    unfold s_X5_feel
    simp only [if_pos n0, n1, Nat.zero_add, if_pos d0, if_neg d1, if_pos d2]
    rw [if_pos hr]
  have hk : s_X3_keep σ 40 1 (1 + 1 + 3 * i) = σ (1 + 1 + 3 * i) := keep_ne (by omega)
  have hS' : SnN (s_X3_keep σ 40 1) (1 + 1 + 3 * i) E L B := hS.cg hk (keep_ne (by omega)) (keep_ne (by omega)) (Nat.le_refl B)
  obtain ⟨f1, f2, f3⟩ := sn_feel (w := w) hS' hy (by rw [hk]; exact hmv) hw (by omega)
  rw [es]
  rw [hk] at f1
  refine ⟨?_, ?_, h.keep.one hi (fun q q0 q1 q2 q3 => f3 q q1 q2 q3) f1 (LGA_sense h.keep.2.2.2 (kd_sn hi)) (by omega), f1, ?_, ?_⟩
  · unfold x_X5_feel
    simp only [if_pos n0, n1, Nat.zero_add, if_pos d0, if_neg d1, if_pos d2]
    rw [if_pos hr]
  · unfold f_X5_feel
    simp only [if_pos n0, n1, Nat.zero_add, if_pos d0, if_neg d1, if_pos d2]
    rw [if_pos hr]
  · rw [f2]
    unfold snK mvK
    rw [hk]
  · rw [f3 1 (by omega) (by omega) (by omega), keep_ne (by omega)]
/-- back by the log -/
theorem can_ok {σ : Sg} {k L O B : Nat} {s : Int32} {E : Nat → Nat → Int32} (hA : AC B (σ k)) (hL : LgN σ (k + 1) s E L O) (hB : B + 20000 ≤ 1000000000) : ∀ (n i : Nat) (x y : Int32), i ≤ L → L + 1 ≤ i + n → (0 ≤ x.toInt ∧ x.toInt ≤ 1000 * i) → (0 ≤ y.toInt ∧ y.toInt ≤ 2 * i) → gf_X4_canRetrace σ k L n x y i = 1 := by
  intro n
  induction n with
  | zero => intro i x y h1 h2; exact absurd h2 (by omega)
  | succ n ih =>
    intro i x y h1 h2 hx hy
    have l1 := hL.1
    rw [gf_X4_canRetrace]
    by_cases c : L ≤ i
    · rw [if_pos c]
      exact room_ok hA ⟨hx.1, by omega⟩ ⟨hy.1, by omega⟩ hB
    · rw [if_neg c]
      have hL' := hL
      obtain ⟨-, l2, l3, l4, l6, l7⟩ := hL
      have es := l6 (L - 1 - i) (by omega) 0 (by omega)
      have ep := l6 (L - 1 - i) (by omega) 1 (by omega)
      obtain ⟨-, n2, n3, -⟩ := l7 (L - 1 - i) (by omega)
      rw [show L - 1 - (L - 1 - i) = i by omega] at es ep
      rw [spent_nI l4 (by omega), step_nI l4 (by omega), es, ep]
      obtain ⟨a1, a2⟩ := ab_int (v := E (L - 1 - i) 0) (M := 2) ⟨by omega, by omega⟩ (by omega)
      refine ih (i + 1) _ _ (by omega) (by omega) ?_ ?_
      · rw [Int32.toInt_add, bm (by omega) (by omega)]
        omega
      · rcases Int.lt_or_le (E (L - 1 - i) 0).toInt 0 with q | q
        · have := a2 q
          rw [Int32.toInt_add, bm (by omega) (by omega)]
          omega
        · have := a1 q
          rw [Int32.toInt_add, bm (by omega) (by omega)]
          omega
theorem back_ok {σ : Sg} {B i L f : Nat} {E : Nat → Nat → Int32} (h : GN B σ) (hS : SnN σ (1 + 1 + 3 * i) E L B) (hi : i < 4) (hf1 : 1 ≤ f) (hfL : f ≤ L) (hB : B + 20000 ≤ 1000000000) :
    x_X5_goBack σ 0 (nI i) (nI f) = 0 ∧ f_X5_goBack σ 0 (nI i) (nI f) = s_X5_goBack σ 0 (nI i) (nI f) (1 + 1 + 3 * i) 2 ∧ GN (B + 16000) (s_X5_goBack σ 0 (nI i) (nI f)) ∧ SnN (s_X5_goBack σ 0 (nI i) (nI f)) (1 + 1 + 3 * i) (fun a => E (a + f)) (L - f) (B + 16000) ∧ s_X5_goBack σ 0 (nI i) (nI f) (1 + 1 + 3 * i) 2 = σ (1 + 1 + 3 * i) 2 - PS E f ∧ s_X5_goBack σ 0 (nI i) (nI f) (1 + 1 + 3 * i) 10 = σ (1 + 1 + 3 * i) 10 + PA E f ∧ s_X5_goBack σ 0 (nI i) (nI f) (1 + 1 + 3 * i) 8 = σ (1 + 1 + 3 * i) 8 ∧ (s_X5_goBack σ 0 (nI i) (nI f) (1 + 1 + 3 * i) 1, s_X5_goBack σ 0 (nI i) (nI f) (1 + 1 + 3 * i) 2, s_X5_goBack σ 0 (nI i) (nI f) (1 + 1 + 3 * i) 4) = bk3 f E (σ (1 + 1 + 3 * i) 1, σ (1 + 1 + 3 * i) 2, σ (1 + 1 + 3 * i) 4) := by
  obtain ⟨n0, n1⟩ := num_ok (σ := σ) hi
  have hS0 := hS
  obtain ⟨-, -, -, hA, O, hL⟩ := hS
  have l1 := hL.1
  have l3 := hL.2.2.1
  have e1 : Ln σ ((1 + 1 + 3 * i) + 1) = L := by unfold Ln; rw [l3]; exact nI_clamp (by omega)
  have d1 : ¬ nI f < 1 := by
    rw [show (1 : Int32) = nI 1 from rfl, nI_ltI (by omega) (by omega)]
    omega
  have d2 : nI f ≤ 16 := by
    rw [show (16 : Int32) = nI 16 from rfl, nI_leI (by omega) (by omega)]
    omega
  have hc : f_X4_canRetrace σ (1 + 1 + 3 * i) (nI f) = 1 := by
    unfold f_X4_canRetrace
    rw [e1, if_pos ((nI_leI (by omega) (by omega)).mpr hfL), show nI L - nI f = nI (L - f) from pk_sub hfL, nI_clamp (by omega)]
    exact can_ok hA hL hB 17 (L - f) 0 0 (by omega) (by omega) ⟨by decide, by show (0 : Int) ≤ _; omega⟩ ⟨by decide, by show (0 : Int) ≤ _; omega⟩
  have hk : s_X3_keep σ 40 1 (1 + 1 + 3 * i) = σ (1 + 1 + 3 * i) := keep_ne (by omega)
  have hS' : SnN (s_X3_keep σ 40 1) (1 + 1 + 3 * i) E L B := hS0.cg hk (keep_ne (by omega)) (keep_ne (by omega)) (Nat.le_refl B)
  have es : s_X5_goBack σ 0 (nI i) (nI f) = gs_X4_retrace (1 + 1 + 3 * i) (nI f) (f + 1) 0 (s_X3_keep σ 40 1) := by
    unfold s_X5_goBack s_X4_retrace
    simp only [if_pos n0, n1, Nat.zero_add, if_neg d1, if_pos d2, hc]
    rw [if_neg (by decide), nI_clamp (by omega)]
  have hBf : B + 1000 * f ≤ B + 16000 := Nat.add_le_add_left (Nat.mul_le_mul_left 1000 (Nat.le_trans hfL l1)) B
  obtain ⟨c1, c2, c3, c4, c5, c6⟩ := sn_retr (k := (1 + 1 + 3 * i)) (f := f) (by omega) f (f + 1) 0 _ E L B (by omega) (by omega) hfL hS' (Nat.le_trans hBf (by omega))
  rw [hk] at c2 c3 c4 c5
  rw [es]
  have c1' := c1.cg (B' := B + 16000) rfl rfl rfl hBf
  refine ⟨?_, ?_, h.keep.one hi (fun q q0 q1 q2 q3 => c6 q q1 q2) c1' (LGA_gretrace (kd_sn hi) _ _ _ h.keep.2.2.2) (by omega), c1', c2, c3, c4, c5⟩
  · unfold x_X5_goBack
    simp only [if_pos n0, n1, if_neg d1, if_pos d2, hc]
    rw [if_neg (by decide)]
  · rw [← es]
    unfold f_X5_goBack s_X5_goBack
    simp only [if_pos n0, n1, Nat.zero_add, if_neg d1, if_pos d2, hc]
    rw [if_neg (by decide), if_neg (by decide)]

/-! one snail, its log with the newest entry first -/
def psh (E : Nat → Nat → Int32) (v w u : Int32) : Nat → Nat → Int32 := fun i => match i with
  | 0 => fun c => if c = 0 then v else if c = 1 then w else u
  | i + 1 => E i
def EN (E : Nat → Nat → Int32) (s : Int32) (i : Nat) : Prop := (E i 2 ^^^ (if i = 0 then s else E (i - 1) 2) = 0 → E i 0 = 0) ∧ (-2 ≤ (E i 0).toInt ∧ (E i 0).toInt ≤ 2) ∧ (1 ≤ (E i 1).toInt ∧ (E i 1).toInt ≤ 1000) ∧ St (E i 2)
def LgN (σ : Sg) (q : Nat) (s : Int32) (E : Nat → Nat → Int32) (L O : Nat) : Prop := L ≤ 16 ∧ O < 16 ∧ σ q 2 = nI L ∧ σ q 1 = nI O ∧ (∀ i, i < L → ∀ c, c < 3 → σ (q + 1) ((O + (L - 1 - i)) % 16 * 3 + c) = E i c) ∧ ∀ i, i < L → EN E s i
/-- the accounts -/
def AC (B : Nat) (f : Nat → Int32) : Prop := (0 ≤ (f 9).toInt ∧ (f 9).toInt ≤ B) ∧ (0 ≤ (f 10).toInt ∧ (f 10).toInt ≤ B) ∧ (0 ≤ (f 11).toInt ∧ (f 11).toInt ≤ B) ∧ -((f 10).toInt + (f 9).toInt) ≤ (f 2).toInt ∧ (f 2).toInt ≤ (f 10).toInt + (f 9).toInt
def SnN (σ : Sg) (k : Nat) (E : Nat → Nat → Int32) (L B : Nat) : Prop := St (σ k 1) ∧ Dr (σ k 3) ∧ σ k 4 + σ k 5 + σ k 6 - σ k 7 = σ k 2 ∧ AC B (σ k) ∧ ∃ O, LgN σ (k + 1) (σ k 1) E L O
theorem LgN.cg {σ σ' : Sg} {q : Nat} {s : Int32} {E : Nat → Nat → Int32} {L O : Nat} (h : LgN σ q s E L O) (e1 : σ' q = σ q) (e2 : σ' (q + 1) = σ (q + 1)) : LgN σ' q s E L O := by
  obtain ⟨h1, h2, h3, h4, h6, h7⟩ := h
  exact ⟨h1, h2, by rw [e1]; exact h3, by rw [e1]; exact h4, fun i hi c hc => by rw [e2]; exact h6 i hi c hc, h7⟩
theorem AC.mono {B B' : Nat} {f : Nat → Int32} (h : AC B f) (hB : B ≤ B') : AC B' f := by
  obtain ⟨h1, h2, h3, h4, h5⟩ := h
  exact ⟨⟨h1.1, by omega⟩, ⟨h2.1, by omega⟩, ⟨h3.1, by omega⟩, h4, h5⟩
theorem SnN.cg {σ σ' : Sg} {k : Nat} {E : Nat → Nat → Int32} {L B B' : Nat} (h : SnN σ k E L B) (e0 : σ' k = σ k) (e1 : σ' (k + 1) = σ (k + 1)) (e2 : σ' (k + 2) = σ (k + 2)) (hB : B ≤ B') : SnN σ' k E L B' := by
  obtain ⟨h1, h2, h3, h4, O, h5⟩ := h
  unfold SnN
  rw [e0]
  exact ⟨h1, h2, h3, h4.mono hB, O, h5.cg e1 e2⟩
theorem lg_push {σ : Sg} {q : Nat} {s s' : Int32} {E : Nat → Nat → Int32} {L O : Nat} {x y : Int32} (h : LgN σ q s E L O) (hx : -2 ≤ x.toInt ∧ x.toInt ≤ 2) (hy : 1 ≤ y.toInt ∧ y.toInt ≤ 1000) (hs : St s) (hch : s ^^^ s' = 0 → x = 0) :
    LgN (s_X1_add σ q x y s) q s' (psh E x y s) (lL L) (lO O L) := by
  obtain ⟨h1, h2, h3, h4, h6, h7⟩ := h
  rw [add_eq h4 h2 h3 h1]
  have hLL : lL L ≤ 16 ∧ 1 ≤ lL L ∧ lL L ≤ L + 1 := by unfold lL; split <;> omega
  have hOO : lO O L < 16 := by unfold lO; split <;> omega
  have hrow : (lO O L + (lL L - 1)) % 16 = (O + L) % 16 := by
    unfold lO lL
    by_cases c : L = 16
    · rw [if_pos c, if_pos c, c]; omega
    · rw [if_neg c, if_neg c]; omega
  refine ⟨hLL.1, hOO, ?_, ?_, ?_, ?_⟩
  · rw [up_ne (by omega), up_ne (by omega), up_ne (by omega), up_eq]
  · rw [up_ne (by omega), up_ne (by omega), up_ne (by omega), up_nb (by decide), up_eq]
  · intro i hi c hc
    cases i with
    | zero =>
      rw [Nat.sub_zero, hrow]
      have hc3 : c = 0 ∨ c = 1 ∨ c = 2 := by omega
      rcases hc3 with rfl | rfl | rfl
      · rw [up_nb (by omega), up_nb (by omega)]; exact up_eq
      · rw [up_nb (by omega)]; exact up_eq
      · exact up_eq
    | succ i =>
      have hr : (lO O L + (lL L - 1 - (i + 1))) % 16 = (O + (L - 1 - i)) % 16 := by
        unfold lO lL at *
        by_cases cL : L = 16
        · rw [if_pos cL] at *; omega
        · rw [if_neg cL] at *; omega
      have hiL : i < L := by omega
      have hne : (O + (L - 1 - i)) % 16 ≠ (O + L) % 16 := by
        unfold lL at hi
        by_cases cL : L = 16
        · rw [if_pos cL] at hi; omega
        · omega
      rw [hr, up_nb (by omega), up_nb (by omega), up_nb (by omega), up_ne (by omega), up_ne (by omega)]
      exact h6 i hiL c hc
  · intro i hi
    cases i with
    | zero => exact ⟨fun q => hch q, hx, hy, hs⟩
    | succ i =>
      have hh := h7 i (by omega)
      unfold EN at hh ⊢
      rw [if_neg (Nat.succ_ne_zero i)]
      cases i with
      | zero => exact hh
      | succ i =>
        rw [if_neg (Nat.succ_ne_zero i)] at hh
        exact hh
theorem lg_pop {σ σ' : Sg} {q : Nat} {s : Int32} {E : Nat → Nat → Int32} {L O : Nat} (h : LgN σ q s E L O) (hL : 1 ≤ L) (e2 : σ' q 2 = nI (L - 1)) (e1 : σ' q 1 = σ q 1) (ec : σ' (q + 1) = σ (q + 1)) : LgN σ' q (E 0 2) (fun i => E (i + 1)) (L - 1) O := by
  obtain ⟨h1, h2, h3, h4, h6, h7⟩ := h
  refine ⟨by omega, h2, e2, by rw [e1]; exact h4, ?_, ?_⟩
  · intro i hi c hc
    rw [ec, show L - 1 - 1 - i = L - 1 - (i + 1) by omega]
    exact h6 (i + 1) (by omega) c hc
  · intro i hi
    have hh := h7 (i + 1) (by omega)
    unfold EN at hh ⊢
    rw [if_neg (Nat.succ_ne_zero i)] at hh
    cases i with
    | zero => exact hh
    | succ i =>
      rw [if_neg (Nat.succ_ne_zero i)]
      exact hh
theorem le0 {v : Int32} : (0 : Int32) ≤ v ↔ 0 ≤ v.toInt := by rw [Int32.le_iff_toInt_le]; rfl
theorem ab_int {v : Int32} {M : Nat} (h : -(M : Int) ≤ v.toInt ∧ v.toInt ≤ M) (hM : M ≤ 2000000000) : (0 ≤ v.toInt → (ab v).toInt = v.toInt) ∧ (v.toInt < 0 → (ab v).toInt = -v.toInt) := by
  unfold ab
  refine ⟨fun q => ?_, fun q => ?_⟩
  · rw [if_pos (le0.mpr q)]
  · rw [if_neg (fun p => by have := le0.mp p; omega), Int32.toInt_sub, show (0 : Int32).toInt = 0 from rfl, bm (by omega) (by omega)]
    omega
theorem ac_move {B : Nat} {f f' : Nat → Int32} {v w : Int32} (h : AC B f) (hv : -2 ≤ v.toInt ∧ v.toInt ≤ 2) (hw : 1 ≤ w.toInt ∧ w.toInt ≤ 1000) (hB : B + 1000 ≤ 1000000000) (e2 : f' 2 = f 2 + v) (e9 : f' 9 = f 9) (e10 : f' 10 = f 10 + ab v) (e11 : f' 11 = f 11 + w) : AC (B + 1000) f' := by
  obtain ⟨h1, h2, h3, h4, h5⟩ := h
  obtain ⟨a1, a2⟩ := ab_int (v := v) (M := 2) ⟨by omega, by omega⟩ (by omega)
  have ha : 0 ≤ (ab v).toInt ∧ (ab v).toInt ≤ 2 ∧ -(ab v).toInt ≤ v.toInt ∧ v.toInt ≤ (ab v).toInt := by
    rcases Int.lt_or_le v.toInt 0 with q | q
    · have := a2 q; omega
    · have := a1 q; omega
  have g2 : (f' 2).toInt = (f 2).toInt + v.toInt := by rw [e2, Int32.toInt_add]; exact bm (by omega) (by omega)
  have g10 : (f' 10).toInt = (f 10).toInt + (ab v).toInt := by rw [e10, Int32.toInt_add]; exact bm (by omega) (by omega)
  have g11 : (f' 11).toInt = (f 11).toInt + w.toInt := by rw [e11, Int32.toInt_add]; exact bm (by omega) (by omega)
  unfold AC
  rw [e9, g2, g10, g11]
  omega
theorem mv_sum {σ : Sg} {k : Nat} {x y w : Int32} (hu : St (σ k 1)) (hx : St x) (h9 : σ k 4 + σ k 5 + σ k 6 - σ k 7 = σ k 2) (hy : σ k 1 ^^^ x = 0 → y = 0) :
    (mvK σ k x y w 4 + mvK σ k x y w 5 + mvK σ k x y w 6 - mvK σ k x y w 7 = mvK σ k x y w 2) := by
  show (if σ k 1 ^^^ x = 2 then σ k 4 + y else σ k 4) + (if σ k 1 ^^^ x = 1 then σ k 5 + y else σ k 5) + (if σ k 1 ^^^ x = 3 then σ k 6 + y else σ k 6) - σ k 7 = σ k 2 + y
  rw [← h9]
  rcases st_xor hu hx with q | q | q | q
  · rw [q, hy q]
    simp
  · rw [q, if_neg (by decide), if_pos rfl, if_neg (by decide)]
    exact i32_b
  · rw [q, if_pos rfl, if_neg (by decide), if_neg (by decide)]
    exact i32_a
  · rw [q, if_neg (by decide), if_neg (by decide), if_pos rfl]
    exact i32_c
/-- a snail's words after a feeling -/
def snK (σ : Sg) (k : Nat) (y v w : Int32) : Nat → Int32 := fun a => if a = 8 then (if σ k 1 ^^^ y = 3 then σ k 8 + 1 else σ k 8) else mvK σ k y v w a
theorem sn_feel {σ : Sg} {k : Nat} {E : Nat → Nat → Int32} {L B : Nat} {y v w : Int32} (h : SnN σ k E L B) (hy : St y) (hv : Mv (σ k 1) y v) (hw : 1 ≤ w.toInt ∧ w.toInt ≤ 1000) (hB : B + 1000 ≤ 1000000000) :
    SnN (s_X4_sense σ k y v w) k (psh E v w (σ k 1)) (lL L) (B + 1000) ∧ s_X4_sense σ k y v w k = snK σ k y v w ∧ ∀ q, q ≠ k → q ≠ k + 1 → q ≠ k + 2 → s_X4_sense σ k y v w q = σ q := by
  obtain ⟨s1, s2, s3, s4, O, hL⟩ := h
  have hL' := hL
  obtain ⟨l1, l2, l3, l4, -, -⟩ := hL
  have key : ∀ σ0 : Sg, (∀ q, q ≠ k → σ0 q = σ q) → (∀ a, a ≠ 8 → σ0 k a = σ k a) → (σ0 k 8 = if σ k 1 ^^^ y = 3 then σ k 8 + 1 else σ k 8) → SnN (s_X4_move (s_X1_add σ0 (k + 1) v w (σ k 1)) k y v w) k (psh E v w (σ k 1)) (lL L) (B + 1000) ∧ s_X4_move (s_X1_add σ0 (k + 1) v w (σ k 1)) k y v w k = snK σ k y v w ∧ ∀ q, q ≠ k → q ≠ k + 1 → q ≠ k + 2 → s_X4_move (s_X1_add σ0 (k + 1) v w (σ k 1)) k y v w q = σ q := by
    intro σ0 g1 g2 g3
    have hL0 : LgN σ0 (k + 1) (σ k 1) E L O := hL'.cg (g1 _ (by omega)) (g1 _ (by omega))
    have hk : s_X1_add σ0 (k + 1) v w (σ k 1) k = σ0 k := add_ne (by rw [g1 _ (by omega)]; exact l4) l2 (by rw [g1 _ (by omega)]; exact l3) l1 (by omega) (by omega)
    have hwd : s_X4_move (s_X1_add σ0 (k + 1) v w (σ k 1)) k y v w k = snK σ k y v w := by
      funext a
      rw [move_k]
      unfold snK
      by_cases ha : a = 8
      · subst ha
        rw [if_pos rfl, ← g3, ← hk]
        rfl
      · rw [if_neg ha]
        unfold mvK
        simp only [hk, g2 1 (by decide), g2 2 (by decide), g2 3 (by decide), g2 4 (by decide), g2 5 (by decide), g2 6 (by decide), g2 10 (by decide), g2 11 (by decide), g2 a ha]
    refine ⟨?_, hwd, ?_⟩
    · unfold SnN
      rw [hwd]
      refine ⟨hy, dirOf_dr s2, mv_sum (w := w) s1 hy s3 hv.1, ac_move s4 hv.2 hw hB rfl rfl rfl rfl, lO O L, ?_⟩
      exact (lg_push (s' := y) hL0 hv.2 hw s1 hv.1).cg (move_ne (by omega)) (move_ne (by omega))
    · intro q q1 q2 q3
      rw [move_ne q1, add_ne (by rw [g1 _ (by omega)]; exact l4) l2 (by rw [g1 _ (by omega)]; exact l3) l1 q2 q3, g1 q q1]
  unfold s_X4_sense
  by_cases c : σ k 1 ^^^ y = 3
  · rw [if_pos c]
    have e : (up σ k 8 (σ k 8 + 1)) k 1 = σ k 1 := up_nb (by decide)
    rw [e]
    exact key (up σ k 8 (σ k 8 + 1)) (fun q hq => up_ne hq) (fun a ha => up_nb ha) (by rw [up_eq, if_pos c])
  · rw [if_neg c]
    exact key σ (fun _ _ => rfl) (fun _ _ => rfl) (by rw [if_neg c])
/-- one entry back -/
def bkS (σ : Sg) (k : Nat) : Sg := s_X1_dropLatest (s_X4_move σ k (f_X1_before σ (k + 1) ((σ (k + 1) 2) - 1)) (-(f_X1_step σ (k + 1) ((σ (k + 1) 2) - 1))) (f_X1_spent σ (k + 1) ((σ (k + 1) 2) - 1))) (k + 1)
theorem neg_int {v : Int32} (h : -2 ≤ v.toInt ∧ v.toInt ≤ 2) : (-v).toInt = -v.toInt := by
  rw [Int32.toInt_neg]
  exact bm (by omega) (by omega)
theorem ab_neg {v : Int32} (h : -2 ≤ v.toInt ∧ v.toInt ≤ 2) : ab (-v) = ab v := by
  have hn := neg_int h
  obtain ⟨a1, a2⟩ := ab_int (v := v) (M := 2) ⟨by omega, by omega⟩ (by omega)
  obtain ⟨b1, b2⟩ := ab_int (v := -v) (M := 2) ⟨by omega, by omega⟩ (by omega)
  apply Int32.toInt_inj.mp
  rcases Int.lt_trichotomy v.toInt 0 with q | q | q
  · rw [a2 q, b1 (by omega), hn]
  · rw [a1 (by omega), b1 (by omega), hn]
    omega
  · rw [a1 (by omega), b2 (by omega), hn]
    omega
theorem sn_back {σ : Sg} {k : Nat} {E : Nat → Nat → Int32} {L B : Nat} (h : SnN σ k E L B) (hL1 : 1 ≤ L) (hB : B + 1000 ≤ 1000000000) :
    SnN (bkS σ k) k (fun i => E (i + 1)) (L - 1) (B + 1000) ∧ bkS σ k k = mvK σ k (E 0 2) (-(E 0 0)) (E 0 1) ∧ ∀ q, q ≠ k → q ≠ k + 1 → bkS σ k q = σ q := by
  obtain ⟨s1, s2, s3, s4, O, hL⟩ := h
  have hL' := hL
  obtain ⟨l1, l2, l3, l4, l6, l7⟩ := hL
  have e1 : σ (k + 1) 2 - 1 = nI (L - 1) := by rw [l3]; exact pk_sub (a := L) (b := 1) hL1
  have hfs : f_X1_step σ (k + 1) ((σ (k + 1) 2) - 1) = E 0 0 := by rw [e1, step_nI l4 (by omega)]; exact l6 0 (by omega) 0 (by omega)
  have hfp : f_X1_spent σ (k + 1) ((σ (k + 1) 2) - 1) = E 0 1 := by rw [e1, spent_nI l4 (by omega)]; exact l6 0 (by omega) 1 (by omega)
  have hfb : f_X1_before σ (k + 1) ((σ (k + 1) 2) - 1) = E 0 2 := by rw [e1, before_nI l4 (by omega)]; exact l6 0 (by omega) 2 (by omega)
  obtain ⟨n1, n2, n3, n4⟩ := l7 0 (by omega)
  rw [if_pos rfl] at n1
  have hdef : bkS σ k = up (s_X4_move σ k (E 0 2) (-(E 0 0)) (E 0 1)) (k + 1) 2 (nI (L - 1)) := by
    unfold bkS
    rw [hfs, hfp, hfb]
    unfold s_X1_dropLatest
    have hne : ¬ (s_X4_move σ k (E 0 2) (-(E 0 0)) (E 0 1)) (k + 1) 2 ≤ 0 := by
      rw [move_ne (by omega), l3, show (0 : Int32) = nI 0 from rfl, nI_leI (by omega) (by omega)]
      omega
    rw [if_neg hne, move_ne (show k + 1 ≠ k by omega), e1]
  have hk : bkS σ k k = mvK σ k (E 0 2) (-(E 0 0)) (E 0 1) := by
    rw [hdef, up_ne (by omega)]
    funext a
    exact move_k
  have hz : σ k 1 ^^^ E 0 2 = 0 → -(E 0 0) = 0 := fun q => by rw [n1 (by rw [st_comm n4 s1]; exact q)]; decide
  have hn := neg_int n2
  refine ⟨?_, hk, ?_⟩
  · unfold SnN
    rw [hk]
    refine ⟨n4, dirOf_dr s2, mv_sum (w := E 0 1) s1 n4 s3 hz, ac_move s4 ⟨by omega, by omega⟩ n3 hB rfl rfl rfl rfl, O, ?_⟩
    exact lg_pop hL' hL1 (by rw [hdef, up_eq]) (by rw [hdef, up_nb (by decide), move_ne (by omega)]) (by rw [hdef, up_ne (by omega), move_ne (by omega)])
  · intro q q1 q2
    rw [hdef, up_ne q2, move_ne q1]
/-- sums over the newest entries -/
def PS (E : Nat → Nat → Int32) : Nat → Int32
  | 0 => 0
  | m + 1 => PS E m + E m 0
def PA (E : Nat → Nat → Int32) : Nat → Int32
  | 0 => 0
  | m + 1 => PA E m + ab (E m 0)
theorem PS_s (E : Nat → Nat → Int32) : ∀ m, PS E (m + 1) = E 0 0 + PS (fun i => E (i + 1)) m := by
  intro m
  induction m with
  | zero => show 0 + E 0 0 = E 0 0 + 0; grind
  | succ m ih =>
    show PS E (m + 1) + E (m + 1) 0 = E 0 0 + (PS (fun i => E (i + 1)) m + E (m + 1) 0)
    rw [ih]
    grind
theorem PA_s (E : Nat → Nat → Int32) : ∀ m, PA E (m + 1) = ab (E 0 0) + PA (fun i => E (i + 1)) m := by
  intro m
  induction m with
  | zero => show 0 + ab (E 0 0) = ab (E 0 0) + 0; grind
  | succ m ih =>
    show PA E (m + 1) + ab (E (m + 1) 0) = ab (E 0 0) + (PA (fun i => E (i + 1)) m + ab (E (m + 1) 0))
    rw [ih]
    grind
/-- state, position, the count of track A, as the ways back leave them -/
def bk3 : Nat → (Nat → Nat → Int32) → Int32 × Int32 × Int32 → Int32 × Int32 × Int32
  | 0, _, t => t
  | m + 1, E, t => bk3 m (fun i => E (i + 1)) (E 0 2, t.2.1 + -(E 0 0), if t.1 ^^^ E 0 2 = 2 then t.2.2 + -(E 0 0) else t.2.2)
theorem sn_retr {k f : Nat} (hf : f ≤ 1000) : ∀ (m n i : Nat) (σ : Sg) (E : Nat → Nat → Int32) (L B : Nat), m + i = f → f + 1 ≤ i + n → m ≤ L → SnN σ k E L B → B + 1000 * m ≤ 1000000000 →
    SnN (gs_X4_retrace k (nI f) n i σ) k (fun i => E (i + m)) (L - m) (B + 1000 * m) ∧ gs_X4_retrace k (nI f) n i σ k 2 = σ k 2 - PS E m ∧ gs_X4_retrace k (nI f) n i σ k 10 = σ k 10 + PA E m ∧ gs_X4_retrace k (nI f) n i σ k 8 = σ k 8 ∧ (gs_X4_retrace k (nI f) n i σ k 1, gs_X4_retrace k (nI f) n i σ k 2, gs_X4_retrace k (nI f) n i σ k 4) = bk3 m E (σ k 1, σ k 2, σ k 4) ∧ ∀ q, q ≠ k → q ≠ k + 1 → gs_X4_retrace k (nI f) n i σ q = σ q := by
  intro m
  induction m with
  | zero =>
    intro n i σ E L B h1 h2 h3 hS hB
    obtain ⟨n, rfl⟩ : ∃ a, n = a + 1 := ⟨n - 1, by omega⟩
    have hi : i = f := by omega
    subst hi
    rw [gs_X4_retrace, if_pos ((nI_leI (by omega) (by omega)).mpr (Nat.le_refl _))]
    refine ⟨hS, ?_, ?_, rfl, rfl, fun _ _ _ => rfl⟩
    · show σ k 2 = σ k 2 - 0; grind
    · show σ k 10 = σ k 10 + 0; grind
  | succ m ih =>
    intro n i σ E L B h1 h2 h3 hS hB
    obtain ⟨n, rfl⟩ : ∃ a, n = a + 1 := ⟨n - 1, by omega⟩
    have hB1 : B + 1000 ≤ 1000000000 := Nat.le_trans (Nat.add_le_add_left (Nat.le_mul_of_pos_right 1000 (Nat.succ_pos m)) B) hB
    have hB2 : B + 1000 + 1000 * m ≤ 1000000000 := by rw [Nat.add_assoc, show 1000 + 1000 * m = 1000 * (m + 1) by rw [Nat.mul_add, Nat.mul_one, Nat.add_comm]]; exact hB
    clear hB
    have hL1 : 1 ≤ L := by omega
    have hne : ¬ nI f ≤ nI i := by
      rw [nI_leI (by omega) (by omega)]
      omega
    obtain ⟨n1, n2, n3, n4⟩ := hS.2.2.2.2.choose_spec.2.2.2.2.2 0 (by omega)
    obtain ⟨b1, b2, b3⟩ := sn_back hS hL1 hB1
    have hg : gs_X4_retrace k (nI f) (n + 1) i σ = gs_X4_retrace k (nI f) n (i + 1) (bkS σ k) := by
      rw [gs_X4_retrace, if_neg hne]
      rfl
    obtain ⟨c1, c2, c3, c4, c5, c6⟩ := ih n (i + 1) (bkS σ k) _ (L - 1) (B + 1000) (by omega) (by omega) (by omega) b1 hB2
    rw [hg]
    have w2 : bkS σ k k 2 = σ k 2 + -(E 0 0) := by rw [b2]; rfl
    have w10 : bkS σ k k 10 = σ k 10 + ab (-(E 0 0)) := by rw [b2]; rfl
    refine ⟨?_, ?_, ?_, ?_, ?_, fun q q1 q2 => (c6 q q1 q2).trans (b3 q q1 q2)⟩
    · have e : (fun i => E (i + (m + 1))) = fun i => (fun i => E (i + 1)) (i + m) := by
        funext i
        show E (i + (m + 1)) = E (i + m + 1)
        rfl
      rw [e, show L - (m + 1) = L - 1 - m by omega, show B + 1000 * (m + 1) = B + 1000 + 1000 * m by rw [Nat.add_assoc, Nat.mul_add, Nat.mul_one, Nat.add_comm 1000]]
      exact c1
    · rw [c2, w2, PS_s]
      grind
    · rw [c3, w10, ab_neg n2, PA_s]
      grind
    · rw [c4, b2]
      rfl
    · rw [c5, b2]
      rfl

/-! crawl, meetMark, setRule, setCounts -/
theorem st_ngh {a v : Int32} (ha : St a) (hv : v = 1 ∨ v = -1) : St (f_X4_ring ((f_X4_ring a + v) &&& 3)) ∧ ¬ a ^^^ f_X4_ring ((f_X4_ring a + v) &&& 3) = 3 ∧ ¬ a ^^^ f_X4_ring ((f_X4_ring a + v) &&& 3) = 0 := by
  rcases ha with rfl | rfl | rfl | rfl <;> rcases hv with rfl | rfl <;> (unfold St; decide)
theorem nI_suc {x v : Int32} {m : Nat} : x + v + nI m * v = x + nI (m + 1) * v := by
  rw [← nI_1]
  grind
theorem nI_suc1 {x : Int32} {m : Nat} : x + 1 + nI m = x + nI (m + 1) := by
  rw [← nI_1]
  grind
theorem sn_crawl {k b : Nat} {v : Int32} (hv : v = 1 ∨ v = -1) : ∀ (m n i : Nat) (σ : Sg) (E : Nat → Nat → Int32) (L B : Nat), m + i = b → b + 1 ≤ i + n → SnN σ k E L B → B + 1000 * m ≤ 1000000000 → kd k = 4 → LGA σ →
    (∃ (E' : Nat → Nat → Int32) (L' : Nat), SnN (gs_X5_crawl k v b n i σ) k E' L' (B + 1000 * m)) ∧ gf_X5_crawl k v b n i σ = gs_X5_crawl k v b n i σ k 2 ∧ gs_X5_crawl k v b n i σ k 2 = σ k 2 + nI m * v ∧ gs_X5_crawl k v b n i σ k 8 = σ k 8 ∧ gs_X5_crawl k v b n i σ k 10 = σ k 10 + nI m ∧ LGA (gs_X5_crawl k v b n i σ) ∧ ∀ q, q ≠ k → q ≠ k + 1 → q ≠ k + 2 → gs_X5_crawl k v b n i σ q = σ q := by
  intro m
  induction m with
  | zero =>
    intro n i σ E L B h1 h2 hS hB hk hG
    obtain ⟨n, rfl⟩ : ∃ a, n = a + 1 := ⟨n - 1, by omega⟩
    rw [gs_X5_crawl, gf_X5_crawl, if_pos (by omega), if_pos (by omega)]
    refine ⟨⟨E, L, hS⟩, rfl, ?_, rfl, ?_, hG, fun _ _ _ _ => rfl⟩
    · show σ k 2 = σ k 2 + 0 * v; grind
    · show σ k 10 = σ k 10 + 0; grind
  | succ m ih =>
    intro n i σ E L B h1 h2 hS hB hk hG
    have hB1 : B + 1000 ≤ 1000000000 := Nat.le_trans (Nat.add_le_add_left (Nat.le_mul_of_pos_right 1000 (Nat.succ_pos m)) B) hB
    have hB3 : B + 1000 * (m + 1) = B + 1000 + 1000 * m := by rw [Nat.add_assoc, Nat.mul_add, Nat.mul_one, Nat.add_comm 1000]
    rw [hB3] at hB ⊢
    obtain ⟨n, rfl⟩ : ∃ a, n = a + 1 := ⟨n - 1, by omega⟩
    obtain ⟨t1, t2, t3⟩ := st_ngh hS.1 hv
    have hv2 : -2 ≤ v.toInt ∧ v.toInt ≤ 2 := by rcases hv with rfl | rfl <;> decide
    have hab : ab v = 1 := by rcases hv with rfl | rfl <;> decide
    obtain ⟨f1, f2, f3⟩ := sn_feel (y := f_X4_neighbour σ k v) (v := v) (w := 1) hS t1 ⟨fun q => absurd q t3, hv2⟩ (by decide) hB1
    have e1 : gs_X5_crawl k v b (n + 1) i σ = gs_X5_crawl k v b n (i + 1) (s_X4_sense σ k (f_X4_neighbour σ k v) v 1) := by rw [gs_X5_crawl, if_neg (by omega)]
    have e2 : gf_X5_crawl k v b (n + 1) i σ = gf_X5_crawl k v b n (i + 1) (s_X4_sense σ k (f_X4_neighbour σ k v) v 1) := by rw [gf_X5_crawl, if_neg (by omega)]
    obtain ⟨c1, c2, c3, c4, c5, c6, c7⟩ := ih n (i + 1) _ _ _ _ (by omega) (by omega) f1 hB hk (LGA_sense hG hk)
    rw [e1, e2]
    have w8 : s_X4_sense σ k (f_X4_neighbour σ k v) v 1 k 8 = σ k 8 := by
      rw [f2]
      show (if σ k 1 ^^^ f_X4_neighbour σ k v = 3 then _ else _) = _
      exact if_neg t2
    have w2 : s_X4_sense σ k (f_X4_neighbour σ k v) v 1 k 2 = σ k 2 + v := by rw [f2]; rfl
    have w10 : s_X4_sense σ k (f_X4_neighbour σ k v) v 1 k 10 = σ k 10 + 1 := by rw [f2, ← hab]; rfl
    refine ⟨c1, c2, ?_, ?_, ?_, c6, fun q q1 q2 q3 => (c7 q q1 q2 q3).trans (f3 q q1 q2 q3)⟩
    · rw [c3, w2, nI_suc]
    · rw [c4, w8]
    · rw [c5, w10, nI_suc1]
theorem crawl_ok {σ : Sg} {B i : Nat} {y : Int32} (h : GN B σ) (hi : i < 4) (hy : -100 ≤ y.toInt ∧ y.toInt ≤ 100) (hB : B + 200000 ≤ 1000000000) :
    x_X5_crawl σ 0 (nI i) y = 0 ∧ f_X5_crawl σ 0 (nI i) y = s_X5_crawl σ 0 (nI i) y (1 + 1 + 3 * i) 2 ∧ GN (B + 100000) (s_X5_crawl σ 0 (nI i) y) ∧ s_X5_crawl σ 0 (nI i) y (1 + 1 + 3 * i) 2 = σ (1 + 1 + 3 * i) 2 + y ∧ s_X5_crawl σ 0 (nI i) y (1 + 1 + 3 * i) 8 = σ (1 + 1 + 3 * i) 8 ∧ s_X5_crawl σ 0 (nI i) y (1 + 1 + 3 * i) 10 = σ (1 + 1 + 3 * i) 10 + ab y := by
  obtain ⟨n0, n1⟩ := num_ok (σ := σ) hi
  obtain ⟨E, L, hS⟩ := h.1 i hi
  have d1 : ¬ y < -100 := by rw [Int32.lt_iff_toInt_lt, show (-100 : Int32).toInt = -100 from rfl]; omega
  have d2 : y ≤ 100 := by rw [Int32.le_iff_toInt_le, show (100 : Int32).toInt = 100 from rfl]; omega
  obtain ⟨z1, z2⟩ := sz100 d1 d2
  have hz := nI_int (a := (ab y).toNatClampNeg) (by omega)
  have hr := dem_room (room_ok hS.2.2.2.1 (x := nI (ab y).toNatClampNeg) (y := nI (ab y).toNatClampNeg) ⟨by omega, by omega⟩ ⟨by omega, by omega⟩ (by omega))
  have hk : s_X3_keep σ 40 1 (1 + 1 + 3 * i) = σ (1 + 1 + 3 * i) := keep_ne (by omega)
  have hS' : SnN (s_X3_keep σ 40 1) (1 + 1 + 3 * i) E L B := hS.cg hk (keep_ne (by omega)) (keep_ne (by omega)) (Nat.le_refl B)
  have hBf : B + 1000 * (ab y).toNatClampNeg ≤ B + 100000 := Nat.add_le_add_left (Nat.mul_le_mul_left 1000 z2) B
  obtain ⟨⟨E', L', c1⟩, c2, c3, c4, c5, c6, c7⟩ := sn_crawl (k := (1 + 1 + 3 * i)) (b := (ab y).toNatClampNeg) (wayOf_v y) (ab y).toNatClampNeg 101 0 _ E L B rfl (by omega) hS' (Nat.le_trans hBf (by omega)) (kd_sn hi) h.keep.2.2.2
  rw [hk] at c3 c4 c5
  have es : s_X5_crawl σ 0 (nI i) y = gs_X5_crawl (1 + 1 + 3 * i) (wayOf y) (ab y).toNatClampNeg 101 0 (s_X3_keep σ 40 1) := by
    unfold s_X5_crawl wayOf
    simp only [if_pos n0, n1, Nat.zero_add, if_neg d1, if_pos d2]
    rw [if_pos hr]
    split <;> rfl
  have ef : f_X5_crawl σ 0 (nI i) y = gf_X5_crawl (1 + 1 + 3 * i) (wayOf y) (ab y).toNatClampNeg 101 0 (s_X3_keep σ 40 1) := by
    unfold f_X5_crawl wayOf
    simp only [if_pos n0, n1, Nat.zero_add, if_neg d1, if_pos d2]
    rw [if_pos hr]
    split <;> rfl
  rw [es, ef]
  refine ⟨?_, c2, h.keep.one hi (fun q q0 q1 q2 q3 => c7 q q1 q2 q3) (c1.cg rfl rfl rfl hBf) c6 (by omega), ?_, c4, ?_⟩
  · unfold x_X5_crawl
    simp only [if_pos n0, n1, if_neg d1, if_pos d2]
    rw [if_pos hr]
    split <;> rfl
  · rw [c3]
    congr 1
    rw [← z1]
    unfold wayOf ab
    split
    · exact Int32.mul_one _
    · rw [Int32.zero_sub]
      grind
  · rw [c5, ← z1]
/-- a mark -/
def mkS (σ : Sg) (k : Nat) (f : Int32) : Sg := up (up (up σ k 2 (σ k 2 - f)) k 7 ((up σ k 2 (σ k 2 - f)) k 7 + f)) k 9 ((up (up σ k 2 (σ k 2 - f)) k 7 ((up σ k 2 (σ k 2 - f)) k 7 + f)) k 9 + ab f)
theorem mk_k {σ : Sg} {k a : Nat} {f : Int32} : mkS σ k f k a = if a = 2 then σ k 2 - f else if a = 7 then σ k 7 + f else if a = 9 then σ k 9 + ab f else σ k a := by
  unfold mkS
  simp only [up_k]
  by_cases h2 : a = 2
  · subst h2; simp
  · by_cases h7 : a = 7
    · subst h7; simp
    · by_cases h9 : a = 9
      · subst h9; simp
      · simp [h2, h7, h9]
theorem mk_ne {σ : Sg} {k q : Nat} {f : Int32} (h : q ≠ k) : mkS σ k f q = σ q := by
  unfold mkS
  rw [up_ne h, up_ne h, up_ne h]
theorem sn_mark {σ : Sg} {k L B : Nat} {E : Nat → Nat → Int32} {f : Int32} (h : SnN σ k E L B) (hf : -400 ≤ f.toInt ∧ f.toInt ≤ 400) (hB : B + 1000 ≤ 1000000000) : SnN (mkS σ k f) k E L (B + 1000) := by
  obtain ⟨s1, s2, s3, s4, O, hL⟩ := h
  have e1 : mkS σ k f k 1 = σ k 1 := by rw [mk_k]; rfl
  have e2 : mkS σ k f k 2 = σ k 2 - f := by rw [mk_k]; rfl
  have e9 : mkS σ k f k 9 = σ k 9 + ab f := by rw [mk_k]; rfl
  have e10 : mkS σ k f k 10 = σ k 10 := by rw [mk_k]; rfl
  have e11 : mkS σ k f k 11 = σ k 11 := by rw [mk_k]; rfl
  refine ⟨by rw [e1]; exact s1, ?_, ?_, ?_, O, ?_⟩
  · rw [mk_k]; exact s2
  · rw [e2, ← s3, mk_k, mk_k, mk_k, mk_k]
    show σ k 4 + σ k 5 + σ k 6 - (σ k 7 + f) = _
    grind
  · obtain ⟨h1, h2, h3, h4, h5⟩ := s4
    obtain ⟨a1, a2⟩ := ab_int (v := f) (M := 400) ⟨by omega, by omega⟩ (by omega)
    have ha : 0 ≤ (ab f).toInt ∧ (ab f).toInt ≤ 400 ∧ -(ab f).toInt ≤ f.toInt ∧ f.toInt ≤ (ab f).toInt := by
      rcases Int.lt_or_le f.toInt 0 with q | q
      · have := a2 q; omega
      · have := a1 q; omega
    have g2 : (mkS σ k f k 2).toInt = (σ k 2).toInt - f.toInt := by rw [e2, Int32.toInt_sub]; exact bm (by omega) (by omega)
    have g9 : (mkS σ k f k 9).toInt = (σ k 9).toInt + (ab f).toInt := by rw [e9, Int32.toInt_add]; exact bm (by omega) (by omega)
    unfold AC
    rw [e10, e11, g2, g9]
    omega
  · rw [e1]
    exact hL.cg (mk_ne (by omega)) (mk_ne (by omega))
theorem place_int {σ : Sg} {k : Nat} {c : Int32} (hc : CT c) : (f_X4_placeIn σ k c).toInt = (σ k 2).toInt % c.toInt ∧ (f_X4_turnsOver σ k c).toInt = (σ k 2).toInt / c.toInt := by
  have h := hc.int
  obtain ⟨f1, f2⟩ := fl_int (x := σ k 2) (y := c) (by omega) (by omega)
  unfold f_X4_placeIn f_X4_turnsOver
  rw [if_pos (i1_le.mpr (by omega)), if_pos (i1_le.mpr (by omega))]
  exact ⟨f2, f1⟩
theorem two_lt {c p : Int32} (hc : 4 ≤ c.toInt ∧ c.toInt ≤ 400) (hp : 0 ≤ p.toInt ∧ p.toInt < c.toInt) : c < 2 * p ↔ c.toInt < 2 * p.toInt := by
  rw [Int32.lt_iff_toInt_lt, Int32.toInt_mul, show (2 : Int32).toInt = 2 from rfl, bm (by omega) (by omega)]
theorem mark_int {σ : Sg} {k : Nat} {c : Int32} (hc : CT c) : (-400 ≤ (f_X4_passMark σ k c).toInt ∧ (f_X4_passMark σ k c).toInt ≤ 400) ∧ ((f_X4_passMark σ k c).toInt = (σ k 2).toInt % c.toInt ∨ (f_X4_passMark σ k c).toInt = (σ k 2).toInt % c.toInt - c.toInt) ∧ ((σ k 2).toInt % c.toInt = 0 → f_X4_passMark σ k c = 0) := by
  have h := hc.int
  have hp := (place_int (σ := σ) (k := k) hc).1
  have h0 := Int.emod_nonneg (σ k 2).toInt (show c.toInt ≠ 0 by omega)
  have h1 := Int.emod_lt_of_pos (σ k 2).toInt (show 0 < c.toInt by omega)
  have ht := two_lt (c := c) (p := f_X4_placeIn σ k c) h ⟨by omega, by omega⟩
  unfold f_X4_passMark
  by_cases g : c < 2 * f_X4_placeIn σ k c
  · have g' := ht.mp g
    rw [if_pos g, Int32.toInt_sub, bm (by omega) (by omega), hp]
    exact ⟨⟨by omega, by omega⟩, Or.inr rfl, fun q => absurd q (by omega)⟩
  · rw [if_neg g, hp]
    refine ⟨⟨by omega, by omega⟩, Or.inl rfl, fun q => ?_⟩
    apply Int32.toInt_inj.mp
    rw [hp, q]
    rfl
theorem mark_ok {σ : Sg} {B i : Nat} (h : GN B σ) (hi : i < 4) (hB : B + 20000 ≤ 1000000000) :
    x_X5_meetMark σ 0 (nI i) = 0 ∧ f_X5_meetMark σ 0 (nI i) = f_X4_passMark σ (1 + 1 + 3 * i) (σ 1 5) ∧ GN (B + 1000) (s_X5_meetMark σ 0 (nI i)) ∧ s_X5_meetMark σ 0 (nI i) (1 + 1 + 3 * i) 9 = σ (1 + 1 + 3 * i) 9 + ab (f_X4_passMark σ (1 + 1 + 3 * i) (σ 1 5)) ∧ s_X5_meetMark σ 0 (nI i) (1 + 1 + 3 * i) 2 = σ (1 + 1 + 3 * i) 2 - f_X4_passMark σ (1 + 1 + 3 * i) (σ 1 5) ∧ (s_X5_meetMark σ 0 (nI i) (1 + 1 + 3 * i) 2).toInt % (σ 1 5).toInt = 0 ∧ s_X5_meetMark σ 0 (nI i) 1 = σ 1 := by
  obtain ⟨n0, n1⟩ := num_ok (σ := σ) hi
  obtain ⟨E, L, hS⟩ := h.1 i hi
  have hc := h.2.2.1
  have hci := hc.int
  have hk : s_X3_keep σ 40 1 (1 + 1 + 3 * i) = σ (1 + 1 + 3 * i) := keep_ne (by omega)
  have hk1 : s_X3_keep σ 40 1 1 = σ 1 := keep_ne (by omega)
  have hS' : SnN (s_X3_keep σ 40 1) (1 + 1 + 3 * i) E L B := hS.cg hk (keep_ne (by omega)) (keep_ne (by omega)) (Nat.le_refl B)
  have ep : f_X4_passMark (s_X3_keep σ 40 1) (1 + 1 + 3 * i) (σ 1 5) = f_X4_passMark σ (1 + 1 + 3 * i) (σ 1 5) := by
    unfold f_X4_passMark f_X4_placeIn
    rw [hk]
  obtain ⟨m1, m2, -⟩ := mark_int (σ := σ) (k := (1 + 1 + 3 * i)) hc
  have es : s_X5_meetMark σ 0 (nI i) = mkS (s_X3_keep σ 40 1) (1 + 1 + 3 * i) (f_X4_passMark σ (1 + 1 + 3 * i) (σ 1 5)) := by
    unfold s_X5_meetMark
    simp only [if_pos n0, n1, Nat.zero_add]
    rw [hk1, ← ep]
    unfold s_X4_passMark f_X4_passMark mkS
    split <;> rfl
  have hn := sn_mark hS' m1 (by omega)
  have w2 : s_X5_meetMark σ 0 (nI i) (1 + 1 + 3 * i) 2 = σ (1 + 1 + 3 * i) 2 - f_X4_passMark σ (1 + 1 + 3 * i) (σ 1 5) := by
    rw [es, mk_k, hk]
    rfl
  refine ⟨?_, ?_, ?_, ?_, w2, ?_, ?_⟩
  · unfold x_X5_meetMark
    rw [if_pos n0]
  · unfold f_X5_meetMark
    simp only [if_pos n0, n1, Nat.zero_add]
    rw [hk1, ep]
  · rw [es]
    exact h.keep.one hi (fun q q0 q1 q2 q3 => mk_ne q1) hn (h.keep.2.2.2.fr (P := fun q => q = (1 + 1 + 3 * i)) (fun q hq => mk_ne hq) (fun q hq e => by have := kd_sn hi; rw [e] at hq; omega)) (by omega)
  · rw [es, mk_k, hk]
    rfl
  · obtain ⟨-, -, -, h4, h5⟩ := hS.2.2.2.1
    obtain ⟨a1, a2, a3, -, -⟩ := hS.2.2.2.1
    rw [w2, Int32.toInt_sub, bm (by omega) (by omega)]
    have e := Int.emod_add_mul_ediv (σ (1 + 1 + 3 * i) 2).toInt (σ 1 5).toInt
    rcases m2 with q | q
    · rw [q, show (σ (1 + 1 + 3 * i) 2).toInt - (σ (1 + 1 + 3 * i) 2).toInt % (σ 1 5).toInt = (σ 1 5).toInt * ((σ (1 + 1 + 3 * i) 2).toInt / (σ 1 5).toInt) by omega]
      exact Int.mul_emod_right _ _
    · rw [q, show (σ (1 + 1 + 3 * i) 2).toInt - ((σ (1 + 1 + 3 * i) 2).toInt % (σ 1 5).toInt - (σ 1 5).toInt) = (σ 1 5).toInt * ((σ (1 + 1 + 3 * i) 2).toInt / (σ 1 5).toInt + 1) by rw [Int.mul_add, Int.mul_one]; omega]
      exact Int.mul_emod_right _ _
  · rw [es, mk_ne (by omega), hk1]
theorem GN.up1 {B a : Nat} {v : Int32} {σ : Sg} (h : GN B σ) (hr : a = 4 → Ru v) (hc : a = 5 → CT v) (ha : a = 4 ∨ a = 5) : GN B (up σ 1 a v) := by
  obtain ⟨h1, h2, h3, h4⟩ := h
  refine ⟨fun j hj => ?_, ?_, ?_, LGA_up h4 (by omega)⟩
  · obtain ⟨E, L, q⟩ := h1 j hj
    exact ⟨E, L, q.cg (up_ne (by omega)) (up_ne (by omega)) (up_ne (by omega)) (Nat.le_refl B)⟩
  · rw [up_k]
    split
    · exact hr (by omega)
    · exact h2
  · rw [up_k]
    split
    · exact hc (by omega)
    · exact h3
theorem rule_ok {σ : Sg} {B : Nat} {x : Int32} (h : GN B σ) (hx : Ru x) : x_X5_setRule σ 0 x = 0 ∧ f_X5_setRule σ 0 x = σ 1 4 ∧ GN B (s_X5_setRule σ 0 x) ∧ s_X5_setRule σ 0 x 1 4 = x := by
  have hk1 : s_X3_keep σ 40 1 1 = σ 1 := keep_ne (by omega)
  have es : s_X5_setRule σ 0 x = up (s_X3_keep σ 40 1) 1 4 x := by
    unfold s_X5_setRule
    rcases hx with rfl | rfl
    · rw [if_pos rfl]
    · rw [if_neg (by decide), if_pos rfl]
  refine ⟨?_, ?_, ?_, ?_⟩
  · unfold x_X5_setRule
    rcases hx with rfl | rfl <;> rfl
  · unfold f_X5_setRule
    rw [← hk1]
    rcases hx with rfl | rfl
    · rw [if_pos rfl]
    · rw [if_neg (by decide), if_pos rfl]
  · rw [es]
    exact h.keep.up1 (fun _ => hx) (fun q => absurd q (by decide)) (Or.inl rfl)
  · rw [es, up_eq]
theorem cts_ok {σ : Sg} {B n : Nat} (h : GN B σ) (h1 : 1 ≤ n) (h2 : n ≤ 100) : x_X5_setCounts σ 0 (nI (4 * n)) = 0 ∧ f_X5_setCounts σ 0 (nI (4 * n)) = σ 1 5 ∧ GN B (s_X5_setCounts σ 0 (nI (4 * n))) ∧ s_X5_setCounts σ 0 (nI (4 * n)) 1 5 = nI (4 * n) := by
  have hk1 : s_X3_keep σ 40 1 1 = σ 1 := keep_ne (by omega)
  have hi := nI_int (a := 4 * n) (by omega)
  have d1 : ¬ nI (4 * n) < 4 := by rw [Int32.lt_iff_toInt_lt, hi, show (4 : Int32).toInt = 4 from rfl]; omega
  have d2 : ¬ 400 < nI (4 * n) := by rw [Int32.lt_iff_toInt_lt, hi, show (400 : Int32).toInt = 400 from rfl]; omega
  have d3 : nI (4 * n) - nI (4 * n) / 4 * 4 = 0 := by
    apply Int32.toInt_inj.mp
    rw [(rem_int (x := nI (4 * n)) (y := 4) (by decide)).2.2, hi, show (4 : Int32).toInt = 4 from rfl, show (0 : Int32).toInt = 0 from rfl, show ((4 * n : Nat) : Int) = 4 * (n : Int) by omega]
    exact Int.mul_tmod_right _ _
  have es : s_X5_setCounts σ 0 (nI (4 * n)) = up (s_X3_keep σ 40 1) 1 5 (nI (4 * n)) := by
    unfold s_X5_setCounts
    rw [if_neg d1, if_neg d2, if_pos d3]
  refine ⟨?_, ?_, ?_, ?_⟩
  · unfold x_X5_setCounts
    rw [if_neg d1, if_neg d2, if_pos d3]
  · unfold f_X5_setCounts
    rw [if_neg d1, if_neg d2, if_pos d3]
    rw [hk1]
  · rw [es]
    exact h.keep.up1 (fun q => absurd q (by decide)) (fun _ => ⟨n, h1, h2, rfl⟩) (Or.inr rfl)
  · rw [es, up_eq]

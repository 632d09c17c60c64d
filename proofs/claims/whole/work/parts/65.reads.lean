theorem op_stateOf_no {n : Nat} {σ τ : Sg} {x : Int32} (h : RR n σ τ) (hx : ¬ InS x) : Ans n (x_X5_stateOf σ 0 x) (hk1 (x_X5_stateOf σ 0 x)) (f_X5_stateOf σ 0 x) (f_X6_stateOf_no τ x) σ (t_X6_stateOf_no τ x) := by
  have e : x_X5_stateOf σ 0 x = 1 := by
    unfold x_X5_stateOf
    rw [if_neg (by rw [num_no hx]; decide), num_no hx]
  rw [e]
  exact Ans.no h hx (by decide) rfl
theorem op_stateOf_ok {n j : Nat} {σ τ : Sg} (h : RR n σ τ) (hj : j < 4) (hn : n ≤ 1000) : Ans n (x_X5_stateOf σ 0 (nI j)) (hk1 (x_X5_stateOf σ 0 (nI j))) (f_X5_stateOf σ 0 (nI j)) (f_X6_stateOf_ok τ j) σ (t_X6_stateOf_ok τ j) := by
  obtain ⟨n0, n1⟩ := num_ok (σ := σ) hj
  unfold x_X5_stateOf f_X5_stateOf
  simp only [if_pos n0, n1, Nat.zero_add]
  obtain ⟨⟨⟨w0, w1, w2, w3, w4, w5, w6, w7, w8, w9, w10⟩, L, O, l1, l2, l3, l4, -⟩, -⟩ := h.1.1 j hj
  show Ans n 0 _ _ (f_X6_of (t_X6_isThere τ (nI j)) j 0) σ (t_X6_isThere τ (nI j))
  rw [(isT_ok hj).2]
  exact ⟨rfl, fun _ => w0, h.nx.up8⟩
theorem op_positionOf_no {n : Nat} {σ τ : Sg} {x : Int32} (h : RR n σ τ) (hx : ¬ InS x) : Ans n (x_X5_positionOf σ 0 x) (hk1 (x_X5_positionOf σ 0 x)) (f_X5_positionOf σ 0 x) (f_X6_positionOf_no τ x) σ (t_X6_positionOf_no τ x) := by
  have e : x_X5_positionOf σ 0 x = 1 := by
    unfold x_X5_positionOf
    rw [if_neg (by rw [num_no hx]; decide), num_no hx]
  rw [e]
  exact Ans.no h hx (by decide) rfl
theorem op_positionOf_ok {n j : Nat} {σ τ : Sg} (h : RR n σ τ) (hj : j < 4) (hn : n ≤ 1000) : Ans n (x_X5_positionOf σ 0 (nI j)) (hk1 (x_X5_positionOf σ 0 (nI j))) (f_X5_positionOf σ 0 (nI j)) (f_X6_positionOf_ok τ j) σ (t_X6_positionOf_ok τ j) := by
  obtain ⟨n0, n1⟩ := num_ok (σ := σ) hj
  unfold x_X5_positionOf f_X5_positionOf
  simp only [if_pos n0, n1, Nat.zero_add]
  obtain ⟨⟨⟨w0, w1, w2, w3, w4, w5, w6, w7, w8, w9, w10⟩, L, O, l1, l2, l3, l4, -⟩, -⟩ := h.1.1 j hj
  show Ans n 0 _ _ (f_X6_of (t_X6_isThere τ (nI j)) j 1) σ (t_X6_isThere τ (nI j))
  rw [(isT_ok hj).2]
  exact ⟨rfl, fun _ => w1, h.nx.up8⟩
theorem op_positionByTracks_no {n : Nat} {σ τ : Sg} {x : Int32} (h : RR n σ τ) (hx : ¬ InS x) : Ans n (x_X5_positionByTracks σ 0 x) (hk1 (x_X5_positionByTracks σ 0 x)) (f_X5_positionByTracks σ 0 x) (f_X6_positionByTracks_no τ x) σ (t_X6_positionByTracks_no τ x) := by
  have e : x_X5_positionByTracks σ 0 x = 1 := by
    unfold x_X5_positionByTracks
    rw [if_neg (by rw [num_no hx]; decide), num_no hx]
  rw [e]
  exact Ans.no h hx (by decide) rfl
theorem op_positionByTracks_ok {n j : Nat} {σ τ : Sg} (h : RR n σ τ) (hj : j < 4) (hn : n ≤ 1000) : Ans n (x_X5_positionByTracks σ 0 (nI j)) (hk1 (x_X5_positionByTracks σ 0 (nI j))) (f_X5_positionByTracks σ 0 (nI j)) (f_X6_positionByTracks_ok τ j) σ (t_X6_positionByTracks_ok τ j) := by
  obtain ⟨n0, n1⟩ := num_ok (σ := σ) hj
  unfold x_X5_positionByTracks f_X5_positionByTracks
  simp only [if_pos n0, n1, Nat.zero_add]
  obtain ⟨⟨⟨w0, w1, w2, w3, w4, w5, w6, w7, w8, w9, w10⟩, L, O, l1, l2, l3, l4, -⟩, -⟩ := h.1.1 j hj
  show Ans n 0 _ _ (f_X6_of (t_X6_isThere τ (nI j)) j 1) σ (t_X6_isThere τ (nI j))
  rw [(isT_ok hj).2]
  exact ⟨rfl, fun _ => w8.trans w1, h.nx.up8⟩
theorem op_directionOf_no {n : Nat} {σ τ : Sg} {x : Int32} (h : RR n σ τ) (hx : ¬ InS x) : Ans n (x_X5_directionOf σ 0 x) (hk1 (x_X5_directionOf σ 0 x)) (f_X5_directionOf σ 0 x) (f_X6_directionOf_no τ x) σ (t_X6_directionOf_no τ x) := by
  have e : x_X5_directionOf σ 0 x = 1 := by
    unfold x_X5_directionOf
    rw [if_neg (by rw [num_no hx]; decide), num_no hx]
  rw [e]
  exact Ans.no h hx (by decide) rfl
theorem op_directionOf_ok {n j : Nat} {σ τ : Sg} (h : RR n σ τ) (hj : j < 4) (hn : n ≤ 1000) : Ans n (x_X5_directionOf σ 0 (nI j)) (hk1 (x_X5_directionOf σ 0 (nI j))) (f_X5_directionOf σ 0 (nI j)) (f_X6_directionOf_ok τ j) σ (t_X6_directionOf_ok τ j) := by
  obtain ⟨n0, n1⟩ := num_ok (σ := σ) hj
  unfold x_X5_directionOf f_X5_directionOf
  simp only [if_pos n0, n1, Nat.zero_add]
  obtain ⟨⟨⟨w0, w1, w2, w3, w4, w5, w6, w7, w8, w9, w10⟩, L, O, l1, l2, l3, l4, -⟩, -⟩ := h.1.1 j hj
  show Ans n 0 _ _ (f_X6_of (t_X6_isThere τ (nI j)) j 2) σ (t_X6_isThere τ (nI j))
  rw [(isT_ok hj).2]
  exact ⟨rfl, fun _ => w2, h.nx.up8⟩
theorem op_countOfA_no {n : Nat} {σ τ : Sg} {x : Int32} (h : RR n σ τ) (hx : ¬ InS x) : Ans n (x_X5_countOfA σ 0 x) (hk1 (x_X5_countOfA σ 0 x)) (f_X5_countOfA σ 0 x) (f_X6_countOfA_no τ x) σ (t_X6_countOfA_no τ x) := by
  have e : x_X5_countOfA σ 0 x = 1 := by
    unfold x_X5_countOfA
    rw [if_neg (by rw [num_no hx]; decide), num_no hx]
  rw [e]
  exact Ans.no h hx (by decide) rfl
theorem op_countOfA_ok {n j : Nat} {σ τ : Sg} (h : RR n σ τ) (hj : j < 4) (hn : n ≤ 1000) : Ans n (x_X5_countOfA σ 0 (nI j)) (hk1 (x_X5_countOfA σ 0 (nI j))) (f_X5_countOfA σ 0 (nI j)) (f_X6_countOfA_ok τ j) σ (t_X6_countOfA_ok τ j) := by
  obtain ⟨n0, n1⟩ := num_ok (σ := σ) hj
  unfold x_X5_countOfA f_X5_countOfA
  simp only [if_pos n0, n1, Nat.zero_add]
  obtain ⟨⟨⟨w0, w1, w2, w3, w4, w5, w6, w7, w8, w9, w10⟩, L, O, l1, l2, l3, l4, -⟩, -⟩ := h.1.1 j hj
  show Ans n 0 _ _ (f_X6_of (t_X6_isThere τ (nI j)) j 7) σ (t_X6_isThere τ (nI j))
  rw [(isT_ok hj).2]
  exact ⟨rfl, fun _ => w3, h.nx.up8⟩
theorem op_errorsOf_no {n : Nat} {σ τ : Sg} {x : Int32} (h : RR n σ τ) (hx : ¬ InS x) : Ans n (x_X5_errorsOf σ 0 x) (hk1 (x_X5_errorsOf σ 0 x)) (f_X5_errorsOf σ 0 x) (f_X6_errorsOf_no τ x) σ (t_X6_errorsOf_no τ x) := by
  have e : x_X5_errorsOf σ 0 x = 1 := by
    unfold x_X5_errorsOf
    rw [if_neg (by rw [num_no hx]; decide), num_no hx]
  rw [e]
  exact Ans.no h hx (by decide) rfl
theorem op_errorsOf_ok {n j : Nat} {σ τ : Sg} (h : RR n σ τ) (hj : j < 4) (hn : n ≤ 1000) : Ans n (x_X5_errorsOf σ 0 (nI j)) (hk1 (x_X5_errorsOf σ 0 (nI j))) (f_X5_errorsOf σ 0 (nI j)) (f_X6_errorsOf_ok τ j) σ (t_X6_errorsOf_ok τ j) := by
  obtain ⟨n0, n1⟩ := num_ok (σ := σ) hj
  unfold x_X5_errorsOf f_X5_errorsOf
  simp only [if_pos n0, n1, Nat.zero_add]
  obtain ⟨⟨⟨w0, w1, w2, w3, w4, w5, w6, w7, w8, w9, w10⟩, L, O, l1, l2, l3, l4, -⟩, -⟩ := h.1.1 j hj
  show Ans n 0 _ _ (f_X6_of (t_X6_isThere τ (nI j)) j 3) σ (t_X6_isThere τ (nI j))
  rw [(isT_ok hj).2]
  exact ⟨rfl, fun _ => w4, h.nx.up8⟩
theorem op_slipsOf_no {n : Nat} {σ τ : Sg} {x : Int32} (h : RR n σ τ) (hx : ¬ InS x) : Ans n (x_X5_slipsOf σ 0 x) (hk1 (x_X5_slipsOf σ 0 x)) (f_X5_slipsOf σ 0 x) (f_X6_slipsOf_no τ x) σ (t_X6_slipsOf_no τ x) := by
  have e : x_X5_slipsOf σ 0 x = 1 := by
    unfold x_X5_slipsOf
    rw [if_neg (by rw [num_no hx]; decide), num_no hx]
  rw [e]
  exact Ans.no h hx (by decide) rfl
theorem op_slipsOf_ok {n j : Nat} {σ τ : Sg} (h : RR n σ τ) (hj : j < 4) (hn : n ≤ 1000) : Ans n (x_X5_slipsOf σ 0 (nI j)) (hk1 (x_X5_slipsOf σ 0 (nI j))) (f_X5_slipsOf σ 0 (nI j)) (f_X6_slipsOf_ok τ j) σ (t_X6_slipsOf_ok τ j) := by
  obtain ⟨n0, n1⟩ := num_ok (σ := σ) hj
  unfold x_X5_slipsOf f_X5_slipsOf
  simp only [if_pos n0, n1, Nat.zero_add]
  obtain ⟨⟨⟨w0, w1, w2, w3, w4, w5, w6, w7, w8, w9, w10⟩, L, O, l1, l2, l3, l4, -⟩, -⟩ := h.1.1 j hj
  show Ans n 0 _ _ (f_X6_of (t_X6_isThere τ (nI j)) j 4) σ (t_X6_isThere τ (nI j))
  rw [(isT_ok hj).2]
  exact ⟨rfl, fun _ => w5, h.nx.up8⟩
theorem op_distanceOf_no {n : Nat} {σ τ : Sg} {x : Int32} (h : RR n σ τ) (hx : ¬ InS x) : Ans n (x_X5_distanceOf σ 0 x) (hk1 (x_X5_distanceOf σ 0 x)) (f_X5_distanceOf σ 0 x) (f_X6_distanceOf_no τ x) σ (t_X6_distanceOf_no τ x) := by
  have e : x_X5_distanceOf σ 0 x = 1 := by
    unfold x_X5_distanceOf
    rw [if_neg (by rw [num_no hx]; decide), num_no hx]
  rw [e]
  exact Ans.no h hx (by decide) rfl
theorem op_distanceOf_ok {n j : Nat} {σ τ : Sg} (h : RR n σ τ) (hj : j < 4) (hn : n ≤ 1000) : Ans n (x_X5_distanceOf σ 0 (nI j)) (hk1 (x_X5_distanceOf σ 0 (nI j))) (f_X5_distanceOf σ 0 (nI j)) (f_X6_distanceOf_ok τ j) σ (t_X6_distanceOf_ok τ j) := by
  obtain ⟨n0, n1⟩ := num_ok (σ := σ) hj
  unfold x_X5_distanceOf f_X5_distanceOf
  simp only [if_pos n0, n1, Nat.zero_add]
  obtain ⟨⟨⟨w0, w1, w2, w3, w4, w5, w6, w7, w8, w9, w10⟩, L, O, l1, l2, l3, l4, -⟩, -⟩ := h.1.1 j hj
  show Ans n 0 _ _ (f_X6_of (t_X6_isThere τ (nI j)) j 5) σ (t_X6_isThere τ (nI j))
  rw [(isT_ok hj).2]
  exact ⟨rfl, fun _ => w6, h.nx.up8⟩
theorem op_ticksOf_no {n : Nat} {σ τ : Sg} {x : Int32} (h : RR n σ τ) (hx : ¬ InS x) : Ans n (x_X5_ticksOf σ 0 x) (hk1 (x_X5_ticksOf σ 0 x)) (f_X5_ticksOf σ 0 x) (f_X6_ticksOf_no τ x) σ (t_X6_ticksOf_no τ x) := by
  have e : x_X5_ticksOf σ 0 x = 1 := by
    unfold x_X5_ticksOf
    rw [if_neg (by rw [num_no hx]; decide), num_no hx]
  rw [e]
  exact Ans.no h hx (by decide) rfl
theorem op_ticksOf_ok {n j : Nat} {σ τ : Sg} (h : RR n σ τ) (hj : j < 4) (hn : n ≤ 1000) : Ans n (x_X5_ticksOf σ 0 (nI j)) (hk1 (x_X5_ticksOf σ 0 (nI j))) (f_X5_ticksOf σ 0 (nI j)) (f_X6_ticksOf_ok τ j) σ (t_X6_ticksOf_ok τ j) := by
  obtain ⟨n0, n1⟩ := num_ok (σ := σ) hj
  unfold x_X5_ticksOf f_X5_ticksOf
  simp only [if_pos n0, n1, Nat.zero_add]
  obtain ⟨⟨⟨w0, w1, w2, w3, w4, w5, w6, w7, w8, w9, w10⟩, L, O, l1, l2, l3, l4, -⟩, -⟩ := h.1.1 j hj
  show Ans n 0 _ _ (f_X6_of (t_X6_isThere τ (nI j)) j 6) σ (t_X6_isThere τ (nI j))
  rw [(isT_ok hj).2]
  exact ⟨rfl, fun _ => w7, h.nx.up8⟩
theorem op_logLength_no {n : Nat} {σ τ : Sg} {x : Int32} (h : RR n σ τ) (hx : ¬ InS x) : Ans n (x_X5_logLength σ 0 x) (hk1 (x_X5_logLength σ 0 x)) (f_X5_logLength σ 0 x) (f_X6_logLength_no τ x) σ (t_X6_logLength_no τ x) := by
  have e : x_X5_logLength σ 0 x = 1 := by
    unfold x_X5_logLength
    rw [if_neg (by rw [num_no hx]; decide), num_no hx]
  rw [e]
  exact Ans.no h hx (by decide) rfl
theorem op_logLength_ok {n j : Nat} {σ τ : Sg} (h : RR n σ τ) (hj : j < 4) (hn : n ≤ 1000) : Ans n (x_X5_logLength σ 0 (nI j)) (hk1 (x_X5_logLength σ 0 (nI j))) (f_X5_logLength σ 0 (nI j)) (f_X6_logLength_ok τ j) σ (t_X6_logLength_ok τ j) := by
  obtain ⟨n0, n1⟩ := num_ok (σ := σ) hj
  unfold x_X5_logLength f_X5_logLength
  simp only [if_pos n0, n1, Nat.zero_add]
  obtain ⟨⟨⟨w0, w1, w2, w3, w4, w5, w6, w7, w8, w9, w10⟩, L, O, l1, l2, l3, l4, -⟩, -⟩ := h.1.1 j hj
  show Ans n 0 _ _ (f_X6_of (t_X6_isThere τ (nI j)) j 8) σ (t_X6_isThere τ (nI j))
  rw [(isT_ok hj).2]
  exact ⟨rfl, fun _ => l3.trans l4.symm, h.nx.up8⟩
theorem op_turnsOf_no {n : Nat} {σ τ : Sg} {x : Int32} (h : RR n σ τ) (hx : ¬ InS x) : Ans n (x_X5_turnsOf σ 0 x) (hk1 (x_X5_turnsOf σ 0 x)) (f_X5_turnsOf σ 0 x) (f_X6_turnsOf_no τ x) σ (t_X6_turnsOf_no τ x) := by
  have e : x_X5_turnsOf σ 0 x = 1 := by
    unfold x_X5_turnsOf
    rw [if_neg (by rw [num_no hx]; decide), num_no hx]
  rw [e]
  exact Ans.no h hx (by decide) rfl
theorem op_turnsOf_ok {n j : Nat} {σ τ : Sg} (h : RR n σ τ) (hj : j < 4) (hn : n ≤ 1000) : Ans n (x_X5_turnsOf σ 0 (nI j)) (hk1 (x_X5_turnsOf σ 0 (nI j))) (f_X5_turnsOf σ 0 (nI j)) (f_X6_turnsOf_ok τ j) σ (t_X6_turnsOf_ok τ j) := by
  obtain ⟨n0, n1⟩ := num_ok (σ := σ) hj
  unfold x_X5_turnsOf f_X5_turnsOf
  simp only [if_pos n0, n1, Nat.zero_add]
  unfold f_X6_turnsOf_ok t_X6_turnsOf_ok
  rw [(isT_ok hj).2]
  exact ⟨rfl, fun _ => turns_gr (τ := up τ 0 8 0) (h.up8 (v := 0)).1 hj (by omega), h.nx.up8⟩
theorem op_placeOf_no {n : Nat} {σ τ : Sg} {x : Int32} (h : RR n σ τ) (hx : ¬ InS x) : Ans n (x_X5_placeOf σ 0 x) (hk1 (x_X5_placeOf σ 0 x)) (f_X5_placeOf σ 0 x) (f_X6_placeOf_no τ x) σ (t_X6_placeOf_no τ x) := by
  have e : x_X5_placeOf σ 0 x = 1 := by
    unfold x_X5_placeOf
    rw [if_neg (by rw [num_no hx]; decide), num_no hx]
  rw [e]
  exact Ans.no h hx (by decide) rfl
theorem op_placeOf_ok {n j : Nat} {σ τ : Sg} (h : RR n σ τ) (hj : j < 4) (hn : n ≤ 1000) : Ans n (x_X5_placeOf σ 0 (nI j)) (hk1 (x_X5_placeOf σ 0 (nI j))) (f_X5_placeOf σ 0 (nI j)) (f_X6_placeOf_ok τ j) σ (t_X6_placeOf_ok τ j) := by
  obtain ⟨n0, n1⟩ := num_ok (σ := σ) hj
  unfold x_X5_placeOf f_X5_placeOf
  simp only [if_pos n0, n1, Nat.zero_add]
  unfold f_X6_placeOf_ok t_X6_placeOf_ok
  rw [(isT_ok hj).2]
  exact ⟨rfl, fun _ => (place_gr (τ := up τ 0 8 0) (h.up8 (v := 0)).1 hj).1, h.nx.up8⟩
theorem GR.rule {σ σ' : Sg} {g B : Nat} {T T' : Nat → Int32} {x : Int32} (h : GR σ g T B) (hx : Ru x) (hs : σ' = up σ g 4 x) (hT : ∀ a, a < 230 → T' a = if a = 228 then x else T a) : GR σ' g T' B := by
  obtain ⟨h1, h2, h3, h4, h5⟩ := h
  subst hs
  refine ⟨fun j hj => ⟨(h1 j hj).1.cg (up_ne (by omega)) (up_ne (by omega)) (up_ne (by omega)) (fun a ha => ?_), ?_⟩, ?_, ?_, ?_, ?_⟩
  · show T' _ = T _
    rw [hT _ (by omega), if_neg (by omega)]
  · rw [hT _ (by omega), if_neg (by omega)]; exact (h1 j hj).2
  · rw [up_eq, hT 228 (by omega), if_pos rfl]
  · rw [hT 228 (by omega), if_pos rfl]; exact hx
  · rw [up_nb (by decide), hT 229 (by omega), if_neg (by decide)]; exact h4
  · rw [hT 229 (by omega), if_neg (by decide)]; exact h5
theorem GR.counts {σ σ' : Sg} {g B : Nat} {T T' : Nat → Int32} {x : Int32} (h : GR σ g T B) (hx : CT x) (hs : σ' = up σ g 5 x) (hT : ∀ a, a < 230 → T' a = if a = 229 then x else T a) : GR σ' g T' B := by
  obtain ⟨h1, h2, h3, h4, h5⟩ := h
  subst hs
  refine ⟨fun j hj => ⟨(h1 j hj).1.cg (up_ne (by omega)) (up_ne (by omega)) (up_ne (by omega)) (fun a ha => ?_), ?_⟩, ?_, ?_, ?_, ?_⟩
  · show T' _ = T _
    rw [hT _ (by omega), if_neg (by omega)]
  · rw [hT _ (by omega), if_neg (by omega)]; exact (h1 j hj).2
  · rw [up_nb (by decide), hT 228 (by omega), if_neg (by decide)]; exact h2
  · rw [hT 228 (by omega), if_neg (by decide)]; exact h3
  · rw [up_eq, hT 229 (by omega), if_pos rfl]
  · rw [hT 229 (by omega), if_pos rfl]; exact hx
theorem op_setRule {n : Nat} {σ τ : Sg} {x : Int32} (h : RR n σ τ) : Ans n (x_X5_setRule σ 0 x) (hk1 (x_X5_setRule σ 0 x)) (f_X5_setRule σ 0 x) (f_X6_setRule τ x) (s_X5_setRule σ 0 x) (t_X6_setRule τ x) := by
  have h1 : RR n σ (up τ 0 8 0) := h.up8
  have h2 := rr_keep h1
  have hi : f_X6_in x 0 1 = 0 ↔ ¬ (x = 0 ∨ x = 1) := by
    rw [in_iff, Int32.le_iff_toInt_le, Int32.le_iff_toInt_le, ← Int32.toInt_inj, ← Int32.toInt_inj, show (0 : Int32).toInt = 0 from rfl, show (1 : Int32).toInt = 1 from rfl]
    omega
  have key : Ru x → Ans n 0 (hk1 0) ((s_X3_keep σ (0 + 40) (0 + 1)) (0 + 1) 4) ((t_X6_record (up τ 0 8 0)) 1 228) (up (s_X3_keep σ (0 + 40) (0 + 1)) (0 + 1) 4 x) (up (t_X6_record (up τ 0 8 0)) 1 228 x) := by
    intro hx
    refine ⟨?_, fun _ => h2.1.2.1, h2.mv (h2.1.rule hx rfl (fun a _ => ?_)) (by omega) (fun q hq => up_ne (by omega)) (LGA_up h2.2.2.2.2.1 (by decide)) (frT_up FrT.rf (Or.inl rfl))⟩
    · rw [up_ne (by decide), rec_8, up_eq]; rfl
    · show (if 1 = 1 ∧ a = 228 then x else _) = _
      simp
  unfold x_X5_setRule f_X5_setRule s_X5_setRule f_X6_setRule t_X6_setRule
  by_cases c0 : x = 0
  · rw [if_pos c0, if_pos c0, if_pos c0, if_neg (fun q => hi.mp q (Or.inl c0)), if_neg (fun q => hi.mp q (Or.inl c0))]
    exact key (Or.inl c0)
  · rw [if_neg c0, if_neg c0, if_neg c0]
    by_cases c1 : x = 1
    · rw [if_pos c1, if_pos c1, if_pos c1, if_neg (fun q => hi.mp q (Or.inr c1)), if_neg (fun q => hi.mp q (Or.inr c1))]
      exact key (Or.inr c1)
    · have c2 : f_X6_in x 0 1 = 0 := hi.mpr (fun q => q.elim c0 c1)
      rw [if_neg c1, if_neg c1, if_neg c1, if_pos c2, if_pos c2]
      exact Ans.thr h1 (by decide) rfl


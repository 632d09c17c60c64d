/-! the reference's calls: a contract, and that it answers as the class does -/
/-- a call of the reference at the law's room -/
def MC (l : Launch) (y : MethodName) (bc : ByteArray) (nl : Nat) (D : va_G) (cy : Nat → ClassId) (z : Nat) (As : List Value) (o : Int64) (d : UInt64) (σ τ : Sg) (g : Int32) (τ' : Sg) : Prop := ∃ f lo : Nat, f ≤ 10 ∧ lo ≤ 300 ∧ KI l y bc nl (some .int) { frames := f, cells := 0, slots := 0, locals := lo } D cy z As o d σ τ g σ τ'
theorem k95 : kd 95 = 6 := rfl
theorem RR.tli {n : Nat} {σ τ : Sg} (h : RR n σ τ) : TLI τ := by
  obtain ⟨L, -, h2⟩ := h.tx
  exact ⟨L, h2.2.1, h2.2.2⟩
theorem le10 {a b : Nat} (h : Nat.ble a b = true) : a ≤ b := Nat.le_of_ble_eq_true h

theorem in_nat {y : Int32} {a b : Nat} (hb : b < 2 ^ 31) (h : ¬ f_X6_in y (nI a) (nI b) = 0) (hab : a ≤ b := by omega) : ∃ f : Nat, (a ≤ f ∧ f ≤ b) ∧ y = nI f := by
  have h1 : nI a ≤ y ∧ y ≤ nI b := Decidable.byContradiction (fun q => h (in_iff.mpr q))
  obtain ⟨h2, h3⟩ := h1
  rw [Int32.le_iff_toInt_le, nI_int (by omega)] at h2 h3
  refine ⟨y.toInt.toNat, by omega, Int32.toInt_inj.mp ?_⟩
  rw [nI_int (by omega)]
  omega
theorem in_ml {y : Int32} {M : Nat} (hM : M ≤ 16) (h : ¬ f_X6_in y 0 (nI M - 1) = 0) : ∃ f : Nat, f < M ∧ y = nI f := by
  by_cases m0 : M = 0
  · subst m0
    exfalso
    refine h (in_iff.mpr (fun q => ?_))
    exact absurd (Int32.le_trans q.1 q.2) (by decide)
  · rw [show (1 : Int32) = nI 1 from rfl, pk_sub (by omega)] at h
    obtain ⟨f, f1, f2⟩ := in_nat (a := 0) (by omega) h
    exact ⟨f, by omega, f2⟩
theorem am_feel (l : Launch) (D : va_G) (cy : Nat → ClassId) (z : Nat) (o : Int64) (d : UInt64) {n : Nat} {σ τ : Sg} (x : Int32) (y : Int32) (w : Int32) (h : RR n σ τ) (hn : n ≤ 1000) : ∃ (g : Int32) (τ' : Sg), (∀ σ2 o2 d2, MC l yX6_feel cX6_feel 4 D cy z [.ref (z + 95), .int x, .int y, .int w] o2 d2 σ2 τ g τ') ∧ Ans n (x_X5_feel σ 0 x y w) (hkt (x_X5_feel σ 0 x y w)) (f_X5_feel σ 0 x y w) g (s_X5_feel σ 0 x y w) τ' := by
  by_cases hx : InS x
  · obtain ⟨j, hj, rfl⟩ := hx
    exact ⟨_, _, fun σ2 o2 d2 => ⟨_, _, le10 rfl, le10 rfl, k_X6_feel_ok l D cy z o2 d2 σ2 τ k95 j y w h.mi hj⟩, op_feel_ok h hj hn⟩
  · exact ⟨_, _, fun σ2 o2 d2 => ⟨_, _, le10 rfl, le10 rfl, k_X6_feel_no l D cy z o2 d2 σ2 τ k95 x y w hx⟩, op_feel_no h hx⟩
theorem am_crawl (l : Launch) (D : va_G) (cy : Nat → ClassId) (z : Nat) (o : Int64) (d : UInt64) {n : Nat} {σ τ : Sg} (x : Int32) (y : Int32) (h : RR n σ τ) (hn : n ≤ 1000) : ∃ (g : Int32) (τ' : Sg), (∀ σ2 o2 d2, MC l yX6_crawl cX6_crawl 5 D cy z [.ref (z + 95), .int x, .int y] o2 d2 σ2 τ g τ') ∧ Ans n (x_X5_crawl σ 0 x y) (hkt (x_X5_crawl σ 0 x y)) (f_X5_crawl σ 0 x y) g (s_X5_crawl σ 0 x y) τ' := by
  by_cases hx : InS x
  · obtain ⟨j, hj, rfl⟩ := hx
    exact ⟨_, _, fun σ2 o2 d2 => ⟨_, _, le10 rfl, le10 rfl, k_X6_crawl_ok l D cy z o2 d2 σ2 τ k95 j y h.mi hj⟩, op_crawl_ok h hj hn⟩
  · exact ⟨_, _, fun σ2 o2 d2 => ⟨_, _, le10 rfl, le10 rfl, k_X6_crawl_no l D cy z o2 d2 σ2 τ k95 x y hx⟩, op_crawl_no h hx⟩
theorem am_meetMark (l : Launch) (D : va_G) (cy : Nat → ClassId) (z : Nat) (o : Int64) (d : UInt64) {n : Nat} {σ τ : Sg} (x : Int32) (h : RR n σ τ) (hn : n ≤ 1000) : ∃ (g : Int32) (τ' : Sg), (∀ σ2 o2 d2, MC l yX6_meetMark cX6_meetMark 2 D cy z [.ref (z + 95), .int x] o2 d2 σ2 τ g τ') ∧ Ans n (x_X5_meetMark σ 0 x) (hk1 (x_X5_meetMark σ 0 x)) (f_X5_meetMark σ 0 x) g (s_X5_meetMark σ 0 x) τ' := by
  by_cases hx : InS x
  · obtain ⟨j, hj, rfl⟩ := hx
    exact ⟨_, _, fun σ2 o2 d2 => ⟨_, _, le10 rfl, le10 rfl, k_X6_meetMark_ok l D cy z o2 d2 σ2 τ k95 j h.mi hj⟩, op_mark_ok h hj hn⟩
  · exact ⟨_, _, fun σ2 o2 d2 => ⟨_, _, le10 rfl, le10 rfl, k_X6_meetMark_no l D cy z o2 d2 σ2 τ k95 x hx⟩, op_mark_no h hx⟩
theorem am_stepTo (l : Launch) (D : va_G) (cy : Nat → ClassId) (z : Nat) (o : Int64) (d : UInt64) {n : Nat} {σ τ : Sg} (x : Int32) (y : Int32) (h : RR n σ τ) (hn : n ≤ 1000) : ∃ (g : Int32) (τ' : Sg), (∀ σ2 o2 d2, MC l yX6_stepTo cX6_stepTo 3 D cy z [.ref (z + 95), .int x, .int y] o2 d2 σ2 τ g τ') ∧ Ans n (x_X5_stepTo σ 0 x y) (hkt (x_X5_stepTo σ 0 x y)) (f_X5_stepTo σ 0 x y) g σ τ' := by
  by_cases hx : InS x
  · obtain ⟨j, hj, rfl⟩ := hx
    exact ⟨_, _, fun σ2 o2 d2 => ⟨_, _, le10 rfl, le10 rfl, k_X6_stepTo_ok l D cy z o2 d2 σ2 τ k95 j y hj⟩, op_stepTo_ok h hj⟩
  · exact ⟨_, _, fun σ2 o2 d2 => ⟨_, _, le10 rfl, le10 rfl, k_X6_stepTo_no l D cy z o2 d2 σ2 τ k95 x y hx⟩, op_stepTo_no h hx⟩
theorem am_stateOf (l : Launch) (D : va_G) (cy : Nat → ClassId) (z : Nat) (o : Int64) (d : UInt64) {n : Nat} {σ τ : Sg} (x : Int32) (h : RR n σ τ) (hn : n ≤ 1000) : ∃ (g : Int32) (τ' : Sg), (∀ σ2 o2 d2, MC l yX6_stateOf cX6_stateOf 2 D cy z [.ref (z + 95), .int x] o2 d2 σ2 τ g τ') ∧ Ans n (x_X5_stateOf σ 0 x) (hk1 (x_X5_stateOf σ 0 x)) (f_X5_stateOf σ 0 x) g σ τ' := by
  by_cases hx : InS x
  · obtain ⟨j, hj, rfl⟩ := hx
    exact ⟨_, _, fun σ2 o2 d2 => ⟨_, _, le10 rfl, le10 rfl, k_X6_stateOf_ok l D cy z o2 d2 σ2 τ k95 j hj⟩, op_stateOf_ok h hj hn⟩
  · exact ⟨_, _, fun σ2 o2 d2 => ⟨_, _, le10 rfl, le10 rfl, k_X6_stateOf_no l D cy z o2 d2 σ2 τ k95 x hx⟩, op_stateOf_no h hx⟩
theorem am_positionOf (l : Launch) (D : va_G) (cy : Nat → ClassId) (z : Nat) (o : Int64) (d : UInt64) {n : Nat} {σ τ : Sg} (x : Int32) (h : RR n σ τ) (hn : n ≤ 1000) : ∃ (g : Int32) (τ' : Sg), (∀ σ2 o2 d2, MC l yX6_positionOf cX6_positionOf 2 D cy z [.ref (z + 95), .int x] o2 d2 σ2 τ g τ') ∧ Ans n (x_X5_positionOf σ 0 x) (hk1 (x_X5_positionOf σ 0 x)) (f_X5_positionOf σ 0 x) g σ τ' := by
  by_cases hx : InS x
  · obtain ⟨j, hj, rfl⟩ := hx
    exact ⟨_, _, fun σ2 o2 d2 => ⟨_, _, le10 rfl, le10 rfl, k_X6_positionOf_ok l D cy z o2 d2 σ2 τ k95 j hj⟩, op_positionOf_ok h hj hn⟩
  · exact ⟨_, _, fun σ2 o2 d2 => ⟨_, _, le10 rfl, le10 rfl, k_X6_positionOf_no l D cy z o2 d2 σ2 τ k95 x hx⟩, op_positionOf_no h hx⟩
theorem am_positionByTracks (l : Launch) (D : va_G) (cy : Nat → ClassId) (z : Nat) (o : Int64) (d : UInt64) {n : Nat} {σ τ : Sg} (x : Int32) (h : RR n σ τ) (hn : n ≤ 1000) : ∃ (g : Int32) (τ' : Sg), (∀ σ2 o2 d2, MC l yX6_positionByTracks cX6_positionByTracks 2 D cy z [.ref (z + 95), .int x] o2 d2 σ2 τ g τ') ∧ Ans n (x_X5_positionByTracks σ 0 x) (hk1 (x_X5_positionByTracks σ 0 x)) (f_X5_positionByTracks σ 0 x) g σ τ' := by
  by_cases hx : InS x
  · obtain ⟨j, hj, rfl⟩ := hx
    exact ⟨_, _, fun σ2 o2 d2 => ⟨_, _, le10 rfl, le10 rfl, k_X6_positionByTracks_ok l D cy z o2 d2 σ2 τ k95 j hj⟩, op_positionByTracks_ok h hj hn⟩
  · exact ⟨_, _, fun σ2 o2 d2 => ⟨_, _, le10 rfl, le10 rfl, k_X6_positionByTracks_no l D cy z o2 d2 σ2 τ k95 x hx⟩, op_positionByTracks_no h hx⟩
theorem am_directionOf (l : Launch) (D : va_G) (cy : Nat → ClassId) (z : Nat) (o : Int64) (d : UInt64) {n : Nat} {σ τ : Sg} (x : Int32) (h : RR n σ τ) (hn : n ≤ 1000) : ∃ (g : Int32) (τ' : Sg), (∀ σ2 o2 d2, MC l yX6_directionOf cX6_directionOf 2 D cy z [.ref (z + 95), .int x] o2 d2 σ2 τ g τ') ∧ Ans n (x_X5_directionOf σ 0 x) (hk1 (x_X5_directionOf σ 0 x)) (f_X5_directionOf σ 0 x) g σ τ' := by
  by_cases hx : InS x
  · obtain ⟨j, hj, rfl⟩ := hx
    exact ⟨_, _, fun σ2 o2 d2 => ⟨_, _, le10 rfl, le10 rfl, k_X6_directionOf_ok l D cy z o2 d2 σ2 τ k95 j hj⟩, op_directionOf_ok h hj hn⟩
  · exact ⟨_, _, fun σ2 o2 d2 => ⟨_, _, le10 rfl, le10 rfl, k_X6_directionOf_no l D cy z o2 d2 σ2 τ k95 x hx⟩, op_directionOf_no h hx⟩
theorem am_countOfA (l : Launch) (D : va_G) (cy : Nat → ClassId) (z : Nat) (o : Int64) (d : UInt64) {n : Nat} {σ τ : Sg} (x : Int32) (h : RR n σ τ) (hn : n ≤ 1000) : ∃ (g : Int32) (τ' : Sg), (∀ σ2 o2 d2, MC l yX6_countOfA cX6_countOfA 2 D cy z [.ref (z + 95), .int x] o2 d2 σ2 τ g τ') ∧ Ans n (x_X5_countOfA σ 0 x) (hk1 (x_X5_countOfA σ 0 x)) (f_X5_countOfA σ 0 x) g σ τ' := by
  by_cases hx : InS x
  · obtain ⟨j, hj, rfl⟩ := hx
    exact ⟨_, _, fun σ2 o2 d2 => ⟨_, _, le10 rfl, le10 rfl, k_X6_countOfA_ok l D cy z o2 d2 σ2 τ k95 j hj⟩, op_countOfA_ok h hj hn⟩
  · exact ⟨_, _, fun σ2 o2 d2 => ⟨_, _, le10 rfl, le10 rfl, k_X6_countOfA_no l D cy z o2 d2 σ2 τ k95 x hx⟩, op_countOfA_no h hx⟩
theorem am_logLength (l : Launch) (D : va_G) (cy : Nat → ClassId) (z : Nat) (o : Int64) (d : UInt64) {n : Nat} {σ τ : Sg} (x : Int32) (h : RR n σ τ) (hn : n ≤ 1000) : ∃ (g : Int32) (τ' : Sg), (∀ σ2 o2 d2, MC l yX6_logLength cX6_logLength 2 D cy z [.ref (z + 95), .int x] o2 d2 σ2 τ g τ') ∧ Ans n (x_X5_logLength σ 0 x) (hk1 (x_X5_logLength σ 0 x)) (f_X5_logLength σ 0 x) g σ τ' := by
  by_cases hx : InS x
  · obtain ⟨j, hj, rfl⟩ := hx
    exact ⟨_, _, fun σ2 o2 d2 => ⟨_, _, le10 rfl, le10 rfl, k_X6_logLength_ok l D cy z o2 d2 σ2 τ k95 j hj⟩, op_logLength_ok h hj hn⟩
  · exact ⟨_, _, fun σ2 o2 d2 => ⟨_, _, le10 rfl, le10 rfl, k_X6_logLength_no l D cy z o2 d2 σ2 τ k95 x hx⟩, op_logLength_no h hx⟩
theorem am_errorsOf (l : Launch) (D : va_G) (cy : Nat → ClassId) (z : Nat) (o : Int64) (d : UInt64) {n : Nat} {σ τ : Sg} (x : Int32) (h : RR n σ τ) (hn : n ≤ 1000) : ∃ (g : Int32) (τ' : Sg), (∀ σ2 o2 d2, MC l yX6_errorsOf cX6_errorsOf 2 D cy z [.ref (z + 95), .int x] o2 d2 σ2 τ g τ') ∧ Ans n (x_X5_errorsOf σ 0 x) (hk1 (x_X5_errorsOf σ 0 x)) (f_X5_errorsOf σ 0 x) g σ τ' := by
  by_cases hx : InS x
  · obtain ⟨j, hj, rfl⟩ := hx
    exact ⟨_, _, fun σ2 o2 d2 => ⟨_, _, le10 rfl, le10 rfl, k_X6_errorsOf_ok l D cy z o2 d2 σ2 τ k95 j hj⟩, op_errorsOf_ok h hj hn⟩
  · exact ⟨_, _, fun σ2 o2 d2 => ⟨_, _, le10 rfl, le10 rfl, k_X6_errorsOf_no l D cy z o2 d2 σ2 τ k95 x hx⟩, op_errorsOf_no h hx⟩
theorem am_slipsOf (l : Launch) (D : va_G) (cy : Nat → ClassId) (z : Nat) (o : Int64) (d : UInt64) {n : Nat} {σ τ : Sg} (x : Int32) (h : RR n σ τ) (hn : n ≤ 1000) : ∃ (g : Int32) (τ' : Sg), (∀ σ2 o2 d2, MC l yX6_slipsOf cX6_slipsOf 2 D cy z [.ref (z + 95), .int x] o2 d2 σ2 τ g τ') ∧ Ans n (x_X5_slipsOf σ 0 x) (hk1 (x_X5_slipsOf σ 0 x)) (f_X5_slipsOf σ 0 x) g σ τ' := by
  by_cases hx : InS x
  · obtain ⟨j, hj, rfl⟩ := hx
    exact ⟨_, _, fun σ2 o2 d2 => ⟨_, _, le10 rfl, le10 rfl, k_X6_slipsOf_ok l D cy z o2 d2 σ2 τ k95 j hj⟩, op_slipsOf_ok h hj hn⟩
  · exact ⟨_, _, fun σ2 o2 d2 => ⟨_, _, le10 rfl, le10 rfl, k_X6_slipsOf_no l D cy z o2 d2 σ2 τ k95 x hx⟩, op_slipsOf_no h hx⟩
theorem am_distanceOf (l : Launch) (D : va_G) (cy : Nat → ClassId) (z : Nat) (o : Int64) (d : UInt64) {n : Nat} {σ τ : Sg} (x : Int32) (h : RR n σ τ) (hn : n ≤ 1000) : ∃ (g : Int32) (τ' : Sg), (∀ σ2 o2 d2, MC l yX6_distanceOf cX6_distanceOf 2 D cy z [.ref (z + 95), .int x] o2 d2 σ2 τ g τ') ∧ Ans n (x_X5_distanceOf σ 0 x) (hk1 (x_X5_distanceOf σ 0 x)) (f_X5_distanceOf σ 0 x) g σ τ' := by
  by_cases hx : InS x
  · obtain ⟨j, hj, rfl⟩ := hx
    exact ⟨_, _, fun σ2 o2 d2 => ⟨_, _, le10 rfl, le10 rfl, k_X6_distanceOf_ok l D cy z o2 d2 σ2 τ k95 j hj⟩, op_distanceOf_ok h hj hn⟩
  · exact ⟨_, _, fun σ2 o2 d2 => ⟨_, _, le10 rfl, le10 rfl, k_X6_distanceOf_no l D cy z o2 d2 σ2 τ k95 x hx⟩, op_distanceOf_no h hx⟩
theorem am_ticksOf (l : Launch) (D : va_G) (cy : Nat → ClassId) (z : Nat) (o : Int64) (d : UInt64) {n : Nat} {σ τ : Sg} (x : Int32) (h : RR n σ τ) (hn : n ≤ 1000) : ∃ (g : Int32) (τ' : Sg), (∀ σ2 o2 d2, MC l yX6_ticksOf cX6_ticksOf 2 D cy z [.ref (z + 95), .int x] o2 d2 σ2 τ g τ') ∧ Ans n (x_X5_ticksOf σ 0 x) (hk1 (x_X5_ticksOf σ 0 x)) (f_X5_ticksOf σ 0 x) g σ τ' := by
  by_cases hx : InS x
  · obtain ⟨j, hj, rfl⟩ := hx
    exact ⟨_, _, fun σ2 o2 d2 => ⟨_, _, le10 rfl, le10 rfl, k_X6_ticksOf_ok l D cy z o2 d2 σ2 τ k95 j hj⟩, op_ticksOf_ok h hj hn⟩
  · exact ⟨_, _, fun σ2 o2 d2 => ⟨_, _, le10 rfl, le10 rfl, k_X6_ticksOf_no l D cy z o2 d2 σ2 τ k95 x hx⟩, op_ticksOf_no h hx⟩
theorem am_turnsOf (l : Launch) (D : va_G) (cy : Nat → ClassId) (z : Nat) (o : Int64) (d : UInt64) {n : Nat} {σ τ : Sg} (x : Int32) (h : RR n σ τ) (hn : n ≤ 1000) : ∃ (g : Int32) (τ' : Sg), (∀ σ2 o2 d2, MC l yX6_turnsOf cX6_turnsOf 2 D cy z [.ref (z + 95), .int x] o2 d2 σ2 τ g τ') ∧ Ans n (x_X5_turnsOf σ 0 x) (hk1 (x_X5_turnsOf σ 0 x)) (f_X5_turnsOf σ 0 x) g σ τ' := by
  by_cases hx : InS x
  · obtain ⟨j, hj, rfl⟩ := hx
    exact ⟨_, _, fun σ2 o2 d2 => ⟨_, _, le10 rfl, le10 rfl, k_X6_turnsOf_ok l D cy z o2 d2 σ2 τ k95 j h.mi hj⟩, op_turnsOf_ok h hj hn⟩
  · exact ⟨_, _, fun σ2 o2 d2 => ⟨_, _, le10 rfl, le10 rfl, k_X6_turnsOf_no l D cy z o2 d2 σ2 τ k95 x hx⟩, op_turnsOf_no h hx⟩
theorem am_placeOf (l : Launch) (D : va_G) (cy : Nat → ClassId) (z : Nat) (o : Int64) (d : UInt64) {n : Nat} {σ τ : Sg} (x : Int32) (h : RR n σ τ) (hn : n ≤ 1000) : ∃ (g : Int32) (τ' : Sg), (∀ σ2 o2 d2, MC l yX6_placeOf cX6_placeOf 2 D cy z [.ref (z + 95), .int x] o2 d2 σ2 τ g τ') ∧ Ans n (x_X5_placeOf σ 0 x) (hk1 (x_X5_placeOf σ 0 x)) (f_X5_placeOf σ 0 x) g σ τ' := by
  by_cases hx : InS x
  · obtain ⟨j, hj, rfl⟩ := hx
    exact ⟨_, _, fun σ2 o2 d2 => ⟨_, _, le10 rfl, le10 rfl, k_X6_placeOf_ok l D cy z o2 d2 σ2 τ k95 j h.mi hj⟩, op_placeOf_ok h hj hn⟩
  · exact ⟨_, _, fun σ2 o2 d2 => ⟨_, _, le10 rfl, le10 rfl, k_X6_placeOf_no l D cy z o2 d2 σ2 τ k95 x hx⟩, op_placeOf_no h hx⟩
theorem am_goBack (l : Launch) (D : va_G) (cy : Nat → ClassId) (z : Nat) (o : Int64) (d : UInt64) {n : Nat} {σ τ : Sg} (x : Int32) (y : Int32) (h : RR n σ τ) (hn : n ≤ 1000) : ∃ (g : Int32) (τ' : Sg), (∀ σ2 o2 d2, MC l yX6_goBack cX6_goBack 3 D cy z [.ref (z + 95), .int x, .int y] o2 d2 σ2 τ g τ') ∧ Ans n (x_X5_goBack σ 0 x y) (hkt (x_X5_goBack σ 0 x y)) (f_X5_goBack σ 0 x y) g (s_X5_goBack σ 0 x y) τ' := by
  by_cases hx : InS x
  · obtain ⟨j, hj, rfl⟩ := hx
    by_cases hy : f_X6_in y 1 16 = 0
    · exact ⟨_, _, fun σ2 o2 d2 => ⟨_, _, le10 rfl, le10 rfl, k_X6_goBack_bad l D cy z o2 d2 σ2 τ k95 j y hj hy⟩, op_back_bad h hj hy⟩
    · obtain ⟨f, hf, rfl⟩ : ∃ f : Nat, (1 ≤ f ∧ f ≤ 16) ∧ y = nI f := in_nat (a := 1) (b := 16) (by omega) hy
      exact ⟨_, _, fun σ2 o2 d2 => ⟨_, _, le10 rfl, le10 rfl, k_X6_goBack_ok l D cy z o2 d2 σ2 τ k95 j f h.mi hj hf⟩, op_back_ok h hj hn hf⟩
  · exact ⟨_, _, fun σ2 o2 d2 => ⟨_, _, le10 rfl, le10 rfl, k_X6_goBack_no l D cy z o2 d2 σ2 τ k95 x y hx⟩, op_back_no h hx⟩
theorem am_loggedStep (l : Launch) (D : va_G) (cy : Nat → ClassId) (z : Nat) (o : Int64) (d : UInt64) {n : Nat} {σ τ : Sg} (x : Int32) (y : Int32) (h : RR n σ τ) (hn : n ≤ 1000) : ∃ (g : Int32) (τ' : Sg), (∀ σ2 o2 d2, MC l yX6_loggedStep cX6_loggedStep 3 D cy z [.ref (z + 95), .int x, .int y] o2 d2 σ2 τ g τ') ∧ Ans n (x_X5_loggedStep σ 0 x y) (hk1 (x_X5_loggedStep σ 0 x y)) (f_X5_loggedStep σ 0 x y) g σ τ' := by
  by_cases hx : InS x
  · obtain ⟨j, hj, rfl⟩ := hx
    by_cases hy : f_X6_in y 0 (f_X6_of (t_X6_isThere τ (nI j)) j 8 - 1) = 0
    · exact ⟨_, _, fun σ2 o2 d2 => ⟨_, _, le10 rfl, le10 rfl, k_X6_loggedStep_bad l D cy z o2 d2 σ2 τ k95 j y hj hy⟩, op_loggedStep_bad h hj hy⟩
    · obtain ⟨M, hM1, hM2⟩ : ∃ M : Nat, M ≤ 16 ∧ f_X6_of (t_X6_isThere τ (nI j)) j 8 = nI M := by
        obtain ⟨M, m1, m2⟩ := h.mi.1 j hj
        refine ⟨M, m1, ?_⟩
        rw [← m2]
        exact (isT_ok hj).2 ▸ rfl
      have hml : MLn τ j = M := by
        have e : τ 1 (57 * j + 8) = nI M := by
          rw [← hM2]
          exact ((isT_ok hj).2 ▸ rfl : τ 1 (57 * j + 8) = f_X6_of (t_X6_isThere τ (nI j)) j 8)
        unfold MLn
        rw [e]
        exact nI_clamp (by omega)
      rw [hM2] at hy
      obtain ⟨f, hf, rfl⟩ : ∃ f : Nat, f < M ∧ y = nI f := in_ml hM1 hy
      exact ⟨_, _, fun σ2 o2 d2 => ⟨_, _, le10 rfl, le10 rfl, k_X6_loggedStep_ok l D cy z o2 d2 σ2 τ k95 j f h.mi hj (by rw [hml]; exact hf)⟩, op_loggedStep_ok h hj (by rw [hml]; exact hf)⟩
  · exact ⟨_, _, fun σ2 o2 d2 => ⟨_, _, le10 rfl, le10 rfl, k_X6_loggedStep_no l D cy z o2 d2 σ2 τ k95 x y hx⟩, op_loggedStep_no h hx⟩
theorem am_setRule (l : Launch) (D : va_G) (cy : Nat → ClassId) (z : Nat) (o : Int64) (d : UInt64) {n : Nat} {σ τ : Sg} (x : Int32) (h : RR n σ τ) (hn : n ≤ 1000) : ∃ (g : Int32) (τ' : Sg), (∀ σ2 o2 d2, MC l yX6_setRule cX6_setRule 3 D cy z [.ref (z + 95), .int x] o2 d2 σ2 τ g τ') ∧ Ans n (x_X5_setRule σ 0 x) (hk1 (x_X5_setRule σ 0 x)) (f_X5_setRule σ 0 x) g (s_X5_setRule σ 0 x) τ' := by
  exact ⟨_, _, fun σ2 o2 d2 => ⟨_, _, le10 rfl, le10 rfl, k_X6_setRule l D cy z o2 d2 σ2 τ k95 x h.mi⟩, op_setRule h⟩
theorem am_setCounts (l : Launch) (D : va_G) (cy : Nat → ClassId) (z : Nat) (o : Int64) (d : UInt64) {n : Nat} {σ τ : Sg} (x : Int32) (h : RR n σ τ) (hn : n ≤ 1000) : ∃ (g : Int32) (τ' : Sg), (∀ σ2 o2 d2, MC l yX6_setCounts cX6_setCounts 3 D cy z [.ref (z + 95), .int x] o2 d2 σ2 τ g τ') ∧ Ans n (x_X5_setCounts σ 0 x) (hk1 (x_X5_setCounts σ 0 x)) (f_X5_setCounts σ 0 x) g (s_X5_setCounts σ 0 x) τ' := by
  exact ⟨_, _, fun σ2 o2 d2 => ⟨_, _, le10 rfl, le10 rfl, k_X6_setCounts l D cy z o2 d2 σ2 τ k95 x h.mi⟩, op_setCounts h⟩
theorem am_undo (l : Launch) (D : va_G) (cy : Nat → ClassId) (z : Nat) (o : Int64) (d : UInt64) {n : Nat} {σ τ : Sg}  (h : RR n σ τ) (hn : n ≤ 1000) : ∃ (g : Int32) (τ' : Sg), (∀ σ2 o2 d2, MC l yX6_undo cX6_undo 2 D cy z [.ref (z + 95)] o2 d2 σ2 τ g τ') ∧ Ans n (x_X5_undo σ 0) (hk1 (x_X5_undo σ 0)) (f_X5_undo σ 0) g (s_X5_undo σ 0) τ' := by
  exact ⟨_, _, fun σ2 o2 d2 => ⟨_, _, le10 rfl, le10 rfl, k_X6_undo l D cy z o2 d2 σ2 τ k95 h.mi⟩, op_undo h⟩
theorem am_restoreSnapshot (l : Launch) (D : va_G) (cy : Nat → ClassId) (z : Nat) (o : Int64) (d : UInt64) {n : Nat} {σ τ : Sg}  (h : RR n σ τ) (hn : n ≤ 1000) : ∃ (g : Int32) (τ' : Sg), (∀ σ2 o2 d2, MC l yX6_restoreSnapshot cX6_restoreSnapshot 2 D cy z [.ref (z + 95)] o2 d2 σ2 τ g τ') ∧ Ans n (x_X5_restoreSnapshot σ 0) (hk1 (x_X5_restoreSnapshot σ 0)) (f_X5_restoreSnapshot σ 0) g (s_X5_restoreSnapshot σ 0) τ' := by
  exact ⟨_, _, fun σ2 o2 d2 => ⟨_, _, le10 rfl, le10 rfl, k_X6_restoreSnapshot l D cy z o2 d2 σ2 τ k95 h.mi⟩, op_restoreSnapshot h⟩
theorem am_impossibleOrder (l : Launch) (D : va_G) (cy : Nat → ClassId) (z : Nat) (o : Int64) (d : UInt64) {n : Nat} {σ τ : Sg}  (h : RR n σ τ) (hn : n ≤ 1000) : ∃ (g : Int32) (τ' : Sg), (∀ σ2 o2 d2, MC l yX6_impossibleOrder cX6_impossibleOrder 2 D cy z [.ref (z + 95)] o2 d2 σ2 τ g τ') ∧ Ans n (x_X5_impossibleOrder σ 0) (hk1 (x_X5_impossibleOrder σ 0)) (f_X5_impossibleOrder σ 0) g (s_X5_impossibleOrder σ 0) τ' := by
  exact ⟨_, _, fun σ2 o2 d2 => ⟨_, _, le10 rfl, le10 rfl, k_X6_impossibleOrder l D cy z o2 d2 σ2 τ k95 h.mi h.tli⟩, op_impossibleOrder h hn⟩
theorem am_carryOut (l : Launch) (D : va_G) (cy : Nat → ClassId) (z : Nat) (o : Int64) (d : UInt64) {n : Nat} {σ τ : Sg}  (h : RR n σ τ) (hn : n ≤ 1000) : ∃ (g : Int32) (τ' : Sg), (∀ σ2 o2 d2, MC l yX6_carryOut cX6_carryOut 2 D cy z [.ref (z + 95)] o2 d2 σ2 τ g τ') ∧ Ans n (x_X5_carryOut σ 0) (hk1 (x_X5_carryOut σ 0)) (f_X5_carryOut σ 0) g (s_X5_carryOut σ 0) τ' := by
  exact ⟨_, _, fun σ2 o2 d2 => ⟨_, _, le10 rfl, le10 rfl, k_X6_carryOut l D cy z o2 d2 σ2 τ k95 h.mi h.tli⟩, op_carryOut h hn⟩
theorem am_type (l : Launch) (D : va_G) (cy : Nat → ClassId) (z : Nat) (o : Int64) (d : UInt64) {n : Nat} {σ τ : Sg} (x : Int32) (h : RR n σ τ) (hn : n ≤ 1000) (hx : chr x = x) : ∃ (g : Int32) (τ' : Sg), (∀ σ2 o2 d2, MC l yX6_type cX6_type 2 D cy z [.ref (z + 95), .int x] o2 d2 σ2 τ g τ') ∧ Ans n (x_X5_type σ 0 x) (hk1 (x_X5_type σ 0 x)) (f_X5_type σ 0 x) g (s_X5_type σ 0 x) τ' := by
  exact ⟨_, _, fun σ2 o2 d2 => ⟨_, _, le10 rfl, le10 rfl, k_X6_type l D cy z o2 d2 σ2 τ k95 x h.tli⟩, op_type h hx⟩

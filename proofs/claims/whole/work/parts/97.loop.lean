/-! the law's loop, from its start to its end -/
theorem rr0 : RR 0 sg0 ta0 := by
  have hT : ∀ j c, j < 4 → c < 57 → tr (ta0 1) j c = 0 := fun j c hj hc => ta0_n (by omega)
  refine ⟨⟨fun j hj => ⟨⟨?_, 0, 0, ?_⟩, ?_⟩, sg0_m (by decide), Or.inl rfl, sg0_5 rfl, ?_⟩, ⟨0, 0, by omega, by omega, sg0_m (by decide), sg0_n (by decide), rfl, fun i hi => absurd hi (by omega)⟩, ⟨sg0_n (by decide), Or.inl (sg0_n (by decide)), fun q => absurd (sg0_n (by decide)) q⟩, ⟨0, by omega, sg0_m (by decide), rfl, fun i hi => absurd hi (by omega)⟩, fun q hq => ⟨0, by omega, sg0_m (by decide)⟩, fun q hq => ⟨0, by omega, sg0_m (by decide)⟩⟩
  · have k4 : kd (1 + 1 + 3 * j) ≠ 0 := by rw [kd_sn hj]; decide
    have e : ∀ c, sg0 (1 + 1 + 3 * j) c = 0 := fun c => sg0_n k4
    unfold WdR
    simp only [e, hT j _ hj (show 0 < 57 by decide), hT j _ hj (show 1 < 57 by decide), hT j _ hj (show 2 < 57 by decide), hT j _ hj (show 3 < 57 by decide), hT j _ hj (show 4 < 57 by decide), hT j _ hj (show 5 < 57 by decide), hT j _ hj (show 6 < 57 by decide), hT j _ hj (show 7 < 57 by decide)]
    refine ⟨trivial, trivial, trivial, trivial, trivial, trivial, trivial, trivial, by decide, Or.inl rfl, by first | exact Or.inl rfl | exact Or.inr (Or.inl rfl) | exact Or.inr (Or.inr rfl)⟩
  · have k5 : kd (1 + 1 + 3 * j + 1) ≠ 0 := by
      have : j = 0 ∨ j = 1 ∨ j = 2 ∨ j = 3 := by omega
      rcases this with rfl | rfl | rfl | rfl <;> decide
    exact ⟨by omega, by omega, sg0_n k5, hT j 8 hj (by decide), sg0_n k5, fun i hi => absurd hi (by omega), fun i hi => absurd hi (by omega)⟩
  · have e : ta0 1 (57 * j + 1) = 0 := ta0_n (by omega)
    rw [e]
    exact ⟨by decide, by decide⟩
  · show CT (24 : Int32)
    exact ⟨6, by omega, by omega, rfl⟩
theorem sub4 {L : Nat} (h : L ≤ 2048) : (nI L - 4).toInt = (L : Int) - 4 := by
  by_cases c : 4 ≤ L
  · rw [show (4 : Int32) = nI 4 from rfl, pk_sub c, nI_int (by omega)]
    omega
  · have : L = 0 ∨ L = 1 ∨ L = 2 ∨ L = 3 := by omega
    rcases this with rfl | rfl | rfl | rfl <;> rfl
theorem and63 (x : Int32) : 0 ≤ (x &&& 63).toInt ∧ (x &&& 63).toInt ≤ 63 := by
  have h : x &&& 63 = nI (x.toBitVec.toNat % 64) := by
    apply Int32.toBitVec_inj.mp
    apply BitVec.eq_of_toNat_eq
    rw [Int32.toBitVec_and, BitVec.toNat_and]
    show x.toBitVec.toNat &&& 63 = (BitVec.ofNat 32 (x.toBitVec.toNat % 64)).toNat
    rw [BitVec.toNat_ofNat, Nat.and_two_pow_sub_one_eq_mod _ 6]
    omega
  rw [h, nI_int (by omega)]
  omega
section Law
variable {p : Program} {l : Launch} {e : Env} {s : State} {m : MethodId} {b L : Nat} {xs : Nat → Int32} {below : List Frame} {meth : Method} {c : Code} {Q : State → Prop} {D : va_G} {cy : Nat → ClassId} {z : Nat}
set_option maxHeartbeats 4000000 in
set_option maxRecDepth 100000 in
/-- the switch -/
theorem law_switch {n : Nat} (C : LBd p s m b meth c D cy z) (hNC : NC s) (hfl : l.stackTraces = false) (hX : va_X b L xs s s.heap) (hbl : b < s.heap.size) (hz : s.heap.size ≤ z) (hL : L ≤ 2048) (hn : 4 * n + 4 ≤ L) {σ τ : Sg} {o : Int64} {d : UInt64} {H : Heap} {locs : List Loc} {ls : Array Slot} (hR : RR n σ τ) (hP : WP D cy z σ τ o d H) (hS : va_S (fz z) s.heap H locs) (hl : lv_has ls 9 (lvB b z (4 * n))) (kk : KNx p l e s m b below meth c D cy z n Q) (v : Int32) (h1 : 0 ≤ v.toInt) (h2 : v.toInt ≤ 63) : W p l e room_1 s m #[Value.ref b] below meth c H locs (103 + n) (3604 + 6 * n) Q (F0 m 44 ls [.int v]) := by
  obtain ⟨hx, hb, hr, hml, hown, hW, hlocks, hAm⟩ := id C
  by_cases h33 : 32 < v.toInt
  · refine lv_tableOut (tgt := 1786) hx hb dL_law_44 (Or.inr h33) (by decide) ?_
    exact W.widen (k := 103 + (n + 1)) (n := 3604 + 6 * (n + 1)) (by omega) (by omega) (kk _ _ _ _ _ _ _ hR.nx hP hS hl)
  · obtain ⟨k, hk, ek⟩ : ∃ k : Nat, k ≤ 32 ∧ v.toInt = (k : Int) := ⟨v.toInt.toNat, by omega, by omega⟩
    have go : ∀ (off : Int) (tgt : Nat), (#[148, 228, 296, 352, 420, 476, 532, 590, 603, 616, 660, 704, 748, 761, 805, 861, 917, 973, 1029, 1085, 1141, 1197, 1210, 1278, 1334, 1402, 1479, 1535, 1591, 1647, 1703, 1716, 1729] : Array Int)[k]? = some off → ((44 : Nat) : Int) + off = (tgt : Int) → CS p l e s m b L xs below meth c D cy z n Q tgt → W p l e room_1 s m #[Value.ref b] below meth c H locs (103 + n) (3604 + 6 * n) Q (F0 m 44 ls [.int v]) := fun off tgt q1 q2 q3 => by
      refine lv_tableIn (tgt := tgt) hx hb dL_law_44 (by omega) (by omega) ?_ q2 (q3 _ _ _ _ _ _ _ C hNC hfl hX hbl hz hL hn hR hP hS hl kk)
      rw [ek, show ((k : Int) - 0).toNat = k by omega]
      exact q1
    have hc : k = 0 ∨ k = 1 ∨ k = 2 ∨ k = 3 ∨ k = 4 ∨ k = 5 ∨ k = 6 ∨ k = 7 ∨ k = 8 ∨ k = 9 ∨ k = 10 ∨ k = 11 ∨ k = 12 ∨ k = 13 ∨ k = 14 ∨ k = 15 ∨ k = 16 ∨ k = 17 ∨ k = 18 ∨ k = 19 ∨ k = 20 ∨ k = 21 ∨ k = 22 ∨ k = 23 ∨ k = 24 ∨ k = 25 ∨ k = 26 ∨ k = 27 ∨ k = 28 ∨ k = 29 ∨ k = 30 ∨ k = 31 ∨ k = 32 := by omega
    rcases hc with rfl | rfl | rfl | rfl | rfl | rfl | rfl | rfl | rfl | rfl | rfl | rfl | rfl | rfl | rfl | rfl | rfl | rfl | rfl | rfl | rfl | rfl | rfl | rfl | rfl | rfl | rfl | rfl | rfl | rfl | rfl | rfl | rfl
    · exact go 148 192 rfl rfl cs_feel
    · exact go 228 272 rfl rfl cs_crawl
    · exact go 296 340 rfl rfl cs_meetMark
    · exact go 352 396 rfl rfl cs_goBack
    · exact go 420 464 rfl rfl cs_setRule
    · exact go 476 520 rfl rfl cs_setCounts
    · exact go 532 576 rfl rfl cs_type
    · exact go 590 634 rfl rfl cs_clearText
    · exact go 603 647 rfl rfl cs_textError
    · exact go 616 660 rfl rfl cs_impossibleOrder
    · exact go 660 704 rfl rfl cs_carryOut
    · exact go 704 748 rfl rfl cs_undo
    · exact go 748 792 rfl rfl cs_takeSnapshot
    · exact go 761 805 rfl rfl cs_restoreSnapshot
    · exact go 805 849 rfl rfl cs_stateOf
    · exact go 861 905 rfl rfl cs_positionOf
    · exact go 917 961 rfl rfl cs_positionByTracks
    · exact go 973 1017 rfl rfl cs_turnsOf
    · exact go 1029 1073 rfl rfl cs_placeOf
    · exact go 1085 1129 rfl rfl cs_directionOf
    · exact go 1141 1185 rfl rfl cs_countOfA
    · exact go 1197 1241 rfl rfl cs_leader
    · exact go 1210 1254 rfl rfl cs_stepTo
    · exact go 1278 1322 rfl rfl cs_logLength
    · exact go 1334 1378 rfl rfl cs_loggedStep
    · exact go 1402 1446 rfl rfl cs_speedOf
    · exact go 1479 1523 rfl rfl cs_errorsOf
    · exact go 1535 1579 rfl rfl cs_slipsOf
    · exact go 1591 1635 rfl rfl cs_distanceOf
    · exact go 1647 1691 rfl rfl cs_ticksOf
    · exact go 1703 1747 rfl rfl cs_counts
    · exact go 1716 1760 rfl rfl cs_rule
    · exact go 1729 1773 rfl rfl cs_recordedStates
set_option maxHeartbeats 4000000 in
set_option maxRecDepth 100000 in
/-- the loop -/
theorem law_loop (C : LBd p s m b meth c D cy z) (hNC : NC s) (hfl : l.stackTraces = false) (hX : va_X b L xs s s.heap) (hbl : b < s.heap.size) (hz : s.heap.size ≤ z) (hL : L ≤ 2048) (hend : ∀ (H : Heap) (locs : List Loc) (ls : Array Slot), va_S (fz z) s.heap H locs → W p l e room_1 s m #[Value.ref b] below meth c H locs 1142 11886 Q (F0 m 1792 ls [])) : ∀ (r n : Nat) (σ τ : Sg) (o : Int64) (d : UInt64) (H : Heap) (locs : List Loc) (ls : Array Slot), 4 * n ≤ L → L < 4 * (n + r) → RR n σ τ → WP D cy z σ τ o d H → va_S (fz z) s.heap H locs → lv_has ls 9 (lvB b z (4 * n)) → W p l e room_1 s m #[Value.ref b] below meth c H locs (103 + n) (3604 + 6 * n) Q (F0 m 28 ls []) := by
  obtain ⟨hx, hb, hr, hml, hown, hW, hlocks, hAm⟩ := id C
  intro r
  induction r with
  | zero => intro n _ _ _ _ _ _ _ h1 h2; exact absurd h2 (by omega)
  | succ r ih =>
    intro n σ τ o d H locs ls h1 h2 hR hP hS hl
    have hbA : ¬ (fz z) b := fun q => absurd hbl (by have : z ≤ b := q; omega)
    refine lv_iload hx hb dL_law_28 (lv_at hl 5 rfl) ?_
    refine lv_aload_n hx hb dL_law_30 rfl (lv_at hl 0 rfl) ?_
    refine va_slen (A := fz z) hx hb hX hbl hbA hS dL_law_31 ?_
    refine lv_iconst (v := 4) hx hb dL_law_32 (by decide) ?_
    refine lv_isub hx hb dL_law_33 ?_
    have e4 : (Int32.ofNat L - 4).toInt = (L : Int) - 4 := sub4 hL
    have e5 : (nI (4 * n)).toInt = ((4 * n : Nat) : Int) := nI_int (by omega)
    refine lv_icmp_gt (tgt := 1792) hx hb dL_law_34 (by decide) (fun g => ?_) (fun g => ?_)
    · exact W.widen (k := 1142) (n := 11886) (by omega) (by omega) (hend H locs ls hS)
    · rw [Int32.lt_iff_toInt_lt, e4, e5] at g
      have hn4 : 4 * n + 4 ≤ L := by omega
      refine lv_aload_n hx hb dL_law_37 rfl (lv_at hl 0 rfl) ?_
      refine lv_iload hx hb dL_law_38 (lv_at hl 5 rfl) ?_
      refine va_sld (A := fz z) hx hb hX hbl hbA hS (vp_in_nI (by omega) (by omega)) dL_law_40 ?_
      refine lv_bipush (v := 63) hx hb dL_law_41 (by decide) ?_
      refine lv_iand hx hb dL_law_43 ?_
      have ha := and63 (xs (nI (4 * n)).toNatClampNeg)
      refine law_switch C hNC hfl hX hbl hz hL hn4 hR hP hS hl ?_ _ ha.1 ha.2
      intro σ τ o d H locs ls hR hP hS hl
      refine lv_iinc (v := nI (4 * (n + 1))) (lv' := [(5, .int (nI (4 * (n + 1)))), (0, .ref b), (1, .ref (z + 0)), (2, .ref (z + 95)), (3, .ref (z + 101)), (4, .ref (z + 102))]) hx hb dL_law_1786 hl (k := 5) rfl (nI_add (4 * n) 4) (by decide) rfl (fun ls hl => ?_)
      refine lv_goto (tgt := 28) hx hb dL_law_1789 (by decide) ?_
      exact ih (n + 1) σ τ o d H locs ls (by omega) (by omega) hR hP hS (lv_sub hl [1, 2, 3, 4, 5, 0] rfl)
theorem GW.all {n a : Nat} {I : Nat → va_E} {H : Heap} (h : GW D z n (cut I a (I a) I) H) : GW D z n I H := h.cg fun k _ => by
  by_cases c1 : k < a
  · exact cut_lt c1
  · by_cases c2 : k = a
    · subst c2; exact cut_eq
    · exact cut_gt (by omega)
set_option maxHeartbeats 4000000 in
set_option maxRecDepth 100000 in
/-- from the law's entry to its end -/
theorem law_walk (C : LBd p s m b meth c D cy s.heap.size) (hNC : NC s) (hfl : l.stackTraces = false) (hX : va_X b L xs s s.heap) (hbl : b < s.heap.size) (hL : L ≤ 2048) (hend : ∀ (H : Heap) (locs : List Loc) (ls : Array Slot), va_S (fz s.heap.size) s.heap H locs → W p l e room_1 s m #[Value.ref b] below meth c H locs 1142 11886 Q (F0 m 1792 ls [])) {ls : Array Slot} (hl : lv_has ls 9 [(0, .ref b)]) : W p l e room_1 s m #[Value.ref b] below meth c s.heap [] 0 0 Q (F0 m 0 ls []) := by
  obtain ⟨hx, hb, hr, hml, hown, hW, hlocks, hAm⟩ := id C
  have hS : va_S (fz s.heap.size) s.heap s.heap [] := va_S.rf
  have hG : GW D s.heap.size 0 (IN s.heap.size cy) s.heap := ⟨rfl, fun k q hq => absurd (mwl_of hq).1 (Nat.not_lt_zero k)⟩
  generalize hzz : s.heap.size = z at C hS hG hend
  have hz : s.heap.size ≤ z := by omega
  refine c_new (n := 0) C hG hS (ci := 5) (R := RX5) (T := TX5) (N := 6) (ty0 := tyX5) (fs := [.null, .null, .null, .null, .null, .int 0]) rfl inWX5 tyX5_ok (mA1 (i := 15) rfl rfl) (mA1 (i := 16) rfl rfl) (mA1 (i := 1) rfl rfl) (fun j hj => by rcases (show j = 0 ∨ j = 1 ∨ j = 2 ∨ j = 3 ∨ j = 4 ∨ j = 5 by omega) with rfl | rfl | rfl | rfl | rfl | rfl <;> rfl) (le10 rfl) (le10 rfl) dL_law_0 (fun H hG hS => ?_)
  refine lv_dup hx hb dL_law_3 rfl ?_
  refine c_runI (n := 0) (n' := 95) C (k_X5_init l D cy z (a := 0) rfl rfl _) hG hS (mA1 (i := 17) rfl rfl) (mA1 (i := 1) rfl rfl) (mA1 (i := 18) rfl rfl) (mA1 (i := 19) rfl rfl) rfl ⟨by decide +kernel, by decide +kernel, by decide +kernel⟩ ⟨le10 rfl, le10 rfl⟩ (le10 rfl) hl.1 ⟨le10 rfl, le10 rfl⟩ dL_law_4 (fun H locs hG hS => ?_)
  have hG := hG.all
  refine lv_astore_n (lv' := [(1, .ref (z + 0)), (0, .ref b)]) hx hb dL_law_7 rfl hl (by decide) rfl (fun ls hl => ?_)
  refine c_new (n := 95) C hG hS (ci := 6) (R := RX6) (T := TX6) (N := 12) (ty0 := tyX6) (fs := [.null, .null, .int 0, .null, .int 0, .null, .null, .int 0, .int 0, .int 0, .int 0, .int 0]) rfl inWX6 tyX6_ok (mA3 (i := 234) rfl rfl) (mA3 (i := 235) rfl rfl) (mA1 (i := 7) rfl rfl) (fun j hj => by rcases (show j = 0 ∨ j = 1 ∨ j = 2 ∨ j = 3 ∨ j = 4 ∨ j = 5 ∨ j = 6 ∨ j = 7 ∨ j = 8 ∨ j = 9 ∨ j = 10 ∨ j = 11 by omega) with rfl | rfl | rfl | rfl | rfl | rfl | rfl | rfl | rfl | rfl | rfl | rfl <;> rfl) (le10 rfl) (le10 rfl) dL_law_8 (fun H hG hS => ?_)
  refine lv_dup hx hb dL_law_11 rfl ?_
  refine c_runI (n := 95) (n' := 101) C (k_X6_init l D cy z (a := 95) rfl rfl _) hG hS (mA3 (i := 236) rfl rfl) (mA1 (i := 7) rfl rfl) (mA3 (i := 237) rfl rfl) (mA3 (i := 238) rfl rfl) rfl ⟨by decide +kernel, by decide +kernel, by decide +kernel⟩ ⟨le10 rfl, le10 rfl⟩ (le10 rfl) hl.1 ⟨le10 rfl, le10 rfl⟩ dL_law_12 (fun H locs hG hS => ?_)
  have hG := hG.all
  refine lv_astore_n (lv' := [(2, .ref (z + 95)), (1, .ref (z + 0)), (0, .ref b)]) hx hb dL_law_15 rfl hl (by decide) rfl (fun ls hl => ?_)
  refine lv_iconst (v := 1) hx hb dL_law_16 (by decide) ?_
  refine c_newa (n := 101) (I := IN z cy) C hG hS (at0 := .long) (ty := .long) (mA5 (i := 43) rfl rfl) rfl (t0 := 2) (N := 1) (x := ((1, .inr (.inl (fun _ => 0))) : vp_A)) rfl (fun q => q) rfl (by decide) rfl (le10 rfl) (le10 rfl) (le10 rfl) dL_law_17 (fun H hG hS => ?_)
  have hI : IN z cy 101 = .inl (cy 2, ((1, .inr (.inl (fun _ => 0))) : vp_A)) := by rw [IN, ent_15 rfl]
  rw [← hI] at hG
  have hG := hG.all
  refine lv_astore_n (lv' := [(3, .ref (z + 101)), (2, .ref (z + 95)), (1, .ref (z + 0)), (0, .ref b)]) hx hb dL_law_19 rfl hl (by decide) rfl (fun ls hl => ?_)
  refine lv_iconst (v := 1) hx hb dL_law_20 (by decide) ?_
  refine c_newa (n := 102) (I := IN z cy) C hG hS (at0 := .double) (ty := .double) (mA5 (i := 44) rfl rfl) rfl (t0 := 3) (N := 1) (x := ((1, .inr (.inr (.inr (.inl (fun _ => 0))))) : vp_A)) rfl (fun q => q) rfl (by decide) rfl (le10 rfl) (le10 rfl) (le10 rfl) dL_law_21 (fun H hG hS => ?_)
  have hI : IN z cy 102 = .inl (cy 3, ((1, .inr (.inr (.inr (.inl (fun _ => 0))))) : vp_A)) := by rw [IN, ent_16 rfl]
  rw [← hI] at hG
  have hG := hG.all
  refine lv_astore (lv' := [(4, .ref (z + 102)), (3, .ref (z + 101)), (2, .ref (z + 95)), (1, .ref (z + 0)), (0, .ref b)]) hx hb dL_law_23 hl (by decide) rfl (fun ls hl => ?_)
  refine lv_iconst (v := 0) hx hb dL_law_25 (by decide) ?_
  refine lv_istore (lv' := [(5, .int 0), (4, .ref (z + 102)), (3, .ref (z + 101)), (2, .ref (z + 95)), (1, .ref (z + 0)), (0, .ref b)]) hx hb dL_law_26 hl (by decide) rfl (fun ls hl => ?_)
  exact law_loop C hNC hfl hX hbl hz hL hend (L + 1) 0 sg0 ta0 0 0 _ _ _ (by omega) (by omega) rr0 hG.2 hS (lv_sub hl [5, 4, 3, 2, 1, 0] rfl)
end Law

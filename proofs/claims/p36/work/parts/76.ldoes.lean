/-! the law's does -/
abbrev rm_L_does : Room := { frames := 10, cells := 0, slots := 0, locals := 191 }
theorem d_w {a : Nat} (h : a < 50) : 1 ≤ (nI (1 + a)).toInt ∧ (nI (1 + a)).toInt ≤ 1000 := by
  rw [nI_int (by omega)]
  omega
theorem d_y {a : Nat} (h : a < 81) : -100 ≤ (nI a - 40).toInt ∧ (nI a - 40).toInt ≤ 100 := by
  rw [Int32.toInt_sub, nI_int (by omega), show (40 : Int32).toInt = 40 from rfl, bm (by omega) (by omega)]
  omega
theorem and_lo {x m : Int32} {b : Nat} (hm : m.toBitVec.toNat = 2 ^ b - 1) (hb : b ≤ 8) : x &&& m = nI (x.toBitVec.toNat % 2 ^ b) := by
  apply Int32.toBitVec_inj.mp
  apply BitVec.eq_of_toNat_eq
  have h1 : x.toBitVec.toNat % 2 ^ b < 2 ^ b := Nat.mod_lt _ (Nat.two_pow_pos b)
  have h2 : 2 ^ b ≤ 2 ^ 8 := Nat.pow_le_pow_right (by omega) hb
  rw [Int32.toBitVec_and, BitVec.toNat_and, hm, Nat.and_two_pow_sub_one_eq_mod]
  show _ = (BitVec.ofNat 32 (x.toBitVec.toNat % 2 ^ b)).toNat
  rw [BitVec.toNat_ofNat]
  omega
theorem d_1 (x : Int32) : Ru (x &&& 1) := by
  rw [and_lo (m := 1) (b := 1) rfl (by omega)]
  have : x.toBitVec.toNat % 2 ^ 1 = 0 ∨ x.toBitVec.toNat % 2 ^ 1 = 1 := by omega
  rcases this with e | e
  · rw [e]; exact Or.inl rfl
  · rw [e]; exact Or.inr rfl
theorem d_c {a : Nat} : 4 + 4 * nI a = nI (4 * (a + 1)) := by
  have h1 : (4 : Int32) * nI a = nI (4 * a) := pk_mul 4 a
  have h2 : (4 : Int32) + nI (4 * a) = nI (4 + 4 * a) := nI_add 4 (4 * a)
  rw [h1, h2, Nat.mul_add, Nat.mul_one, Nat.add_comm]
theorem cw_L_does : cwSt yL_does cL_does 11 (some .boolean) 3 := ⟨(mA1 (i := 189) rfl rfl), (mA1 (i := 0) rfl rfl), (mA1 (i := 190) rfl rfl), by decide +kernel⟩
set_option maxHeartbeats 4000000 in
set_option maxRecDepth 100000 in
theorem k_L_does_A (l : Launch) (hfl : l.stackTraces = false) (D : va_G) (cy : Nat → ClassId) (z : Nat) (o : Int64) (d : UInt64) (τ : Sg) {σ : Sg} {B i : Nat} {v w : Int32} (h : GN B σ) (hB : B + 300000 ≤ 1000000000) (hi9 : lowN (v >>> (4 &&& 31)) 3 = i) (hv : v &&& 15 = 0 ∨ v &&& 15 = 1 ∨ v &&& 15 = 2 ∨ v &&& 15 = 3 ∨ v &&& 15 = 4 ∨ v &&& 15 = 5 ∨ v &&& 15 = 6) : KI l yL_does cL_does 11 (some .boolean) rm_L_does D cy z [.ref (z + 0), .int v, .int w] o d σ τ 1 (s_X5_feel σ 0 (nI i) (nI (lowN w 4)) (nI (1 + lowN (w >>> (2 &&& 31)) 50))) τ := by
  refine met_of RL (plainFor_of_name (by decide)) rfl (Nat.le_of_ble_eq_true rfl) ?_
  intro p e s m args below meth c C hP hS ls hl
  obtain ⟨hx, hb, hr, hml, hown, hW, hlocks, hAm⟩ := id C
  have hl : lv_has ls 11 [(0, .ref (z + 0)), (1, .int v), (2, .int w)] := hl
  have hi : i < 4 := by have : lowN (v >>> (4 &&& 31)) 3 < 3 := Nat.mod_lt _ (by decide); omega
  have hsw : ¬ (v &&& 15).toInt < 0 ∧ ¬ 14 < (v &&& 15).toInt ∧ ∃ off : Int, (#[76, 76, 76, 76, 76, 76, 76, 97, 97, 189, 189, 195, 195, 203, 237] : Array Int)[((v &&& 15).toInt - 0).toNat]? = some off ∧ ((12 : Nat) : Int) + off = ((88 : Nat) : Int) := by
    rcases hv with c9 | c9 | c9 | c9 | c9 | c9 | c9 <;> (rw [c9]; exact ⟨by decide, by decide, 76, rfl, rfl⟩)
  obtain ⟨E, L, hN⟩ := h.1 i hi
  refine lv_iload_n hx hb dL_does_0 rfl (lv_at hl 1 rfl) ?_
  refine lv_iconst (v := 4) hx hb dL_does_1 (by decide) ?_
  refine lv_ishr hx hb dL_does_2 ?_
  refine lv_iconst (v := 3) hx hb dL_does_3 (by decide) ?_
  refine thnE_I (Eq.trans (low_ok (v >>> (4 &&& 31)) 3 (by decide) (by decide)).1 (congrArg nI hi9)) rfl (run_S (As := [.int (v >>> (4 &&& 31)), .int 3]) (rest := []) C (k_L_low l D cy z o d σ τ (v >>> (4 &&& 31)) 3 (by decide)) hP hS cw_L_low (mA1 (i := 184) rfl rfl) ⟨rfl, rfl⟩ ⟨Nat.le_of_ble_eq_true rfl, Nat.le_of_ble_eq_true rfl⟩ rfl (Nat.le_of_ble_eq_true rfl) hl.1 ⟨Nat.zero_le _, Nat.zero_le _⟩ dL_does_4) hS (fun H locs hP hS => ?_)
  refine lv_istore_n (lv' := [(3, .int (nI i)), (0, .ref (z + 0)), (1, .int v), (2, .int w)]) hx hb dL_does_7 rfl hl (by decide) rfl (fun ls hl => ?_)
  refine lv_iload_n hx hb dL_does_8 rfl (lv_at hl 2 rfl) ?_
  refine lv_bipush (v := 15) hx hb dL_does_9 (by decide) ?_
  refine lv_iand hx hb dL_does_11 ?_
  refine tab_at (tgt := 88) C dL_does_12 hsw ?_
  refine lv_aload_n hx hb dL_does_88 rfl (lv_at hl 1 rfl) ?_
  refine lv_iload_n hx hb dL_does_89 rfl (lv_at hl 0 rfl) ?_
  refine lv_iload_n hx hb dL_does_90 rfl (lv_at hl 3 rfl) ?_
  refine lv_iconst (v := 4) hx hb dL_does_91 (by decide) ?_
  refine thnE_I (low_ok w 4 (by decide) (by decide)).1 rfl (run_S (As := [.int w, .int 4]) (rest := [.int (nI i), .ref (z + 0)]) C (k_L_low l D cy z o d σ τ w 4 (by decide)) hP hS cw_L_low (mA1 (i := 184) rfl rfl) ⟨rfl, rfl⟩ ⟨Nat.le_of_ble_eq_true rfl, Nat.le_of_ble_eq_true rfl⟩ rfl (Nat.le_of_ble_eq_true rfl) hl.1 ⟨Nat.zero_le _, Nat.zero_le _⟩ dL_does_92) hS (fun H locs hP hS => ?_)
  refine lv_iconst (v := 1) hx hb dL_does_95 (by decide) ?_
  refine lv_iload_n hx hb dL_does_96 rfl (lv_at hl 3 rfl) ?_
  refine lv_iconst (v := 2) hx hb dL_does_97 (by decide) ?_
  refine lv_ishr hx hb dL_does_98 ?_
  refine lv_bipush (v := 50) hx hb dL_does_99 (by decide) ?_
  refine thnE_I (low_ok (w >>> (2 &&& 31)) 50 (by decide) (by decide)).1 rfl (run_S (As := [.int (w >>> (2 &&& 31)), .int 50]) (rest := [.int 1, .int (nI (lowN w 4)), .int (nI i), .ref (z + 0)]) C (k_L_low l D cy z o d σ τ (w >>> (2 &&& 31)) 50 (by decide)) hP hS cw_L_low (mA1 (i := 184) rfl rfl) ⟨rfl, rfl⟩ ⟨Nat.le_of_ble_eq_true rfl, Nat.le_of_ble_eq_true rfl⟩ rfl (Nat.le_of_ble_eq_true rfl) hl.1 ⟨Nat.zero_le _, Nat.zero_le _⟩ dL_does_101) hS (fun H locs hP hS => ?_)
  refine lv_iadd hx hb dL_does_104 ?_
  rw [nI_c1]
  refine thnE_I rfl rfl (run_S (As := [.ref (z + 0), .int (nI i), .int (nI (lowN w 4)), .int (nI (1 + lowN (w >>> (2 &&& 31)) 50))]) (rest := []) C (k_L_isFelt l hfl D cy z o d τ h hN hi (st_j _ (Nat.mod_lt _ (by decide))) (d_w (Nat.mod_lt _ (by decide))) (by omega)) hP hS cw_L_isFelt (mA1 (i := 191) rfl rfl) ⟨rfl, rfl⟩ ⟨Nat.le_of_ble_eq_true rfl, Nat.le_of_ble_eq_true rfl⟩ rfl (Nat.le_of_ble_eq_true rfl) hl.1 ⟨Nat.zero_le _, Nat.zero_le _⟩ dL_does_105) hS (fun H locs hP hS => ?_)
  exact ret_I C hP hS nar_z1 rfl rfl rfl rfl dL_does_108
set_option maxHeartbeats 4000000 in
set_option maxRecDepth 100000 in
theorem k_L_does_B (l : Launch) (hfl : l.stackTraces = false) (D : va_G) (cy : Nat → ClassId) (z : Nat) (o : Int64) (d : UInt64) (τ : Sg) {σ : Sg} {B i : Nat} {v w : Int32} (h : GN B σ) (hB : B + 300000 ≤ 1000000000) (hi9 : lowN (v >>> (4 &&& 31)) 3 = i) (hv : v &&& 15 = 7 ∨ v &&& 15 = 8) : KI l yL_does cL_does 11 (some .boolean) rm_L_does D cy z [.ref (z + 0), .int v, .int w] o d σ τ 1 (s_X5_crawl σ 0 (nI i) (nI (lowN w 81) - 40)) τ := by
  refine met_of RL (plainFor_of_name (by decide)) rfl (Nat.le_of_ble_eq_true rfl) ?_
  intro p e s m args below meth c C hP hS ls hl
  obtain ⟨hx, hb, hr, hml, hown, hW, hlocks, hAm⟩ := id C
  have hl : lv_has ls 11 [(0, .ref (z + 0)), (1, .int v), (2, .int w)] := hl
  have hi : i < 4 := by have : lowN (v >>> (4 &&& 31)) 3 < 3 := Nat.mod_lt _ (by decide); omega
  have hsw : ¬ (v &&& 15).toInt < 0 ∧ ¬ 14 < (v &&& 15).toInt ∧ ∃ off : Int, (#[76, 76, 76, 76, 76, 76, 76, 97, 97, 189, 189, 195, 195, 203, 237] : Array Int)[((v &&& 15).toInt - 0).toNat]? = some off ∧ ((12 : Nat) : Int) + off = ((109 : Nat) : Int) := by
    rcases hv with c9 | c9 <;> (rw [c9]; exact ⟨by decide, by decide, 97, rfl, rfl⟩)
  obtain ⟨cx, cf, -, c2, c8, c10⟩ := crawl_ok h hi (y := nI (lowN w 81) - 40) (d_y (Nat.mod_lt _ (by decide))) (by omega)
  generalize hs1 : s_X5_crawl σ 0 (nI i) (nI (lowN w 81) - 40) = σ1 at cf c2 c8 c10 ⊢
  refine lv_iload_n hx hb dL_does_0 rfl (lv_at hl 1 rfl) ?_
  refine lv_iconst (v := 4) hx hb dL_does_1 (by decide) ?_
  refine lv_ishr hx hb dL_does_2 ?_
  refine lv_iconst (v := 3) hx hb dL_does_3 (by decide) ?_
  refine thnE_I (Eq.trans (low_ok (v >>> (4 &&& 31)) 3 (by decide) (by decide)).1 (congrArg nI hi9)) rfl (run_S (As := [.int (v >>> (4 &&& 31)), .int 3]) (rest := []) C (k_L_low l D cy z o d σ τ (v >>> (4 &&& 31)) 3 (by decide)) hP hS cw_L_low (mA1 (i := 184) rfl rfl) ⟨rfl, rfl⟩ ⟨Nat.le_of_ble_eq_true rfl, Nat.le_of_ble_eq_true rfl⟩ rfl (Nat.le_of_ble_eq_true rfl) hl.1 ⟨Nat.zero_le _, Nat.zero_le _⟩ dL_does_4) hS (fun H locs hP hS => ?_)
  refine lv_istore_n (lv' := [(3, .int (nI i)), (0, .ref (z + 0)), (1, .int v), (2, .int w)]) hx hb dL_does_7 rfl hl (by decide) rfl (fun ls hl => ?_)
  refine lv_iload_n hx hb dL_does_8 rfl (lv_at hl 2 rfl) ?_
  refine lv_bipush (v := 15) hx hb dL_does_9 (by decide) ?_
  refine lv_iand hx hb dL_does_11 ?_
  refine tab_at (tgt := 109) C dL_does_12 hsw ?_
  refine lv_aload_n hx hb dL_does_109 rfl (lv_at hl 1 rfl) ?_
  refine lv_iload_n hx hb dL_does_110 rfl (lv_at hl 0 rfl) ?_
  refine okE_I (rx_positionOf hi) (rd_positionOf hi) rfl (runT_V (As := [.int (nI i)]) (rest := []) C (k_X5_positionOf l hfl D cy z o d σ τ (rfl : kd 0 = 5) (nI i)) hP hS cw_X5_positionOf (mA2 (i := 64) rfl rfl) (rfl : kd 0 = 5) ⟨Nat.le_of_ble_eq_true rfl, Nat.le_of_ble_eq_true rfl⟩ rfl (Nat.le_of_ble_eq_true rfl) hl.1 (tcc_0 (rx_positionOf hi) ⟨Nat.zero_le _, Nat.zero_le _⟩) dL_does_111) hS (fun H locs hP hS => ?_)
  refine lv_istore (lv' := [(4, .int (σ (1 + 1 + 3 * i) 2)), (3, .int (nI i)), (0, .ref (z + 0)), (1, .int v), (2, .int w)]) hx hb dL_does_114 hl (by decide) rfl (fun ls hl => ?_)
  refine lv_iload_n hx hb dL_does_116 rfl (lv_at hl 4 rfl) ?_
  refine lv_bipush (v := 81) hx hb dL_does_117 (by decide) ?_
  refine thnE_I (low_ok w 81 (by decide) (by decide)).1 rfl (run_S (As := [.int w, .int 81]) (rest := []) C (k_L_low l D cy z o d σ τ w 81 (by decide)) hP hS cw_L_low (mA1 (i := 184) rfl rfl) ⟨rfl, rfl⟩ ⟨Nat.le_of_ble_eq_true rfl, Nat.le_of_ble_eq_true rfl⟩ rfl (Nat.le_of_ble_eq_true rfl) hl.1 ⟨Nat.zero_le _, Nat.zero_le _⟩ dL_does_119) hS (fun H locs hP hS => ?_)
  refine lv_bipush (v := 40) hx hb dL_does_122 (by decide) ?_
  refine lv_isub hx hb dL_does_124 ?_
  refine lv_istore (lv' := [(5, .int ((nI (lowN w 81)) - 40)), (4, .int (σ (1 + 1 + 3 * i) 2)), (3, .int (nI i)), (0, .ref (z + 0)), (1, .int v), (2, .int w)]) hx hb dL_does_125 hl (by decide) rfl (fun ls hl => ?_)
  refine lv_aload_n hx hb dL_does_127 rfl (lv_at hl 3 rfl) ?_
  refine lv_iload_n hx hb dL_does_128 rfl (lv_at hl 2 rfl) ?_
  refine okE_I (rx_errorsOf hi) (rd_errorsOf hi) rfl (runT_V (As := [.int (nI i)]) (rest := []) C (k_X5_errorsOf l hfl D cy z o d σ τ (rfl : kd 0 = 5) (nI i)) hP hS cw_X5_errorsOf (mA2 (i := 84) rfl rfl) (rfl : kd 0 = 5) ⟨Nat.le_of_ble_eq_true rfl, Nat.le_of_ble_eq_true rfl⟩ rfl (Nat.le_of_ble_eq_true rfl) hl.1 (tcc_0 (rx_errorsOf hi) ⟨Nat.zero_le _, Nat.zero_le _⟩) dL_does_129) hS (fun H locs hP hS => ?_)
  refine lv_istore (lv' := [(6, .int (σ (1 + 1 + 3 * i) 8)), (5, .int ((nI (lowN w 81)) - 40)), (4, .int (σ (1 + 1 + 3 * i) 2)), (3, .int (nI i)), (0, .ref (z + 0)), (1, .int v), (2, .int w)]) hx hb dL_does_132 hl (by decide) rfl (fun ls hl => ?_)
  refine lv_aload_n hx hb dL_does_134 rfl (lv_at hl 4 rfl) ?_
  refine lv_iload_n hx hb dL_does_135 rfl (lv_at hl 3 rfl) ?_
  refine okE_I (rx_distanceOf hi) (rd_distanceOf hi) rfl (runT_V (As := [.int (nI i)]) (rest := []) C (k_X5_distanceOf l hfl D cy z o d σ τ (rfl : kd 0 = 5) (nI i)) hP hS cw_X5_distanceOf (mA2 (i := 88) rfl rfl) (rfl : kd 0 = 5) ⟨Nat.le_of_ble_eq_true rfl, Nat.le_of_ble_eq_true rfl⟩ rfl (Nat.le_of_ble_eq_true rfl) hl.1 (tcc_0 (rx_distanceOf hi) ⟨Nat.zero_le _, Nat.zero_le _⟩) dL_does_136) hS (fun H locs hP hS => ?_)
  refine lv_istore (lv' := [(7, .int (σ (1 + 1 + 3 * i) 10)), (6, .int (σ (1 + 1 + 3 * i) 8)), (5, .int ((nI (lowN w 81)) - 40)), (4, .int (σ (1 + 1 + 3 * i) 2)), (3, .int (nI i)), (0, .ref (z + 0)), (1, .int v), (2, .int w)]) hx hb dL_does_139 hl (by decide) rfl (fun ls hl => ?_)
  refine lv_aload_n hx hb dL_does_141 rfl (lv_at hl 5 rfl) ?_
  refine lv_iload_n hx hb dL_does_142 rfl (lv_at hl 4 rfl) ?_
  refine lv_iload hx hb dL_does_143 (lv_at hl 2 rfl) ?_
  refine okE_I cx (cf.trans c2) hs1 (runT_V (As := [.int (nI i), .int ((nI (lowN w 81)) - 40)]) (rest := []) C (k_X5_crawl l hfl D cy z o d σ τ (rfl : kd 0 = 5) (nI i) ((nI (lowN w 81)) - 40)) hP hS cw_X5_crawl (mA2 (i := 189) rfl rfl) (rfl : kd 0 = 5) ⟨Nat.le_of_ble_eq_true rfl, Nat.le_of_ble_eq_true rfl⟩ rfl (Nat.le_of_ble_eq_true rfl) hl.1 (tcc_0 cx ⟨Nat.zero_le _, Nat.zero_le _⟩) dL_does_145) hS (fun H locs hP hS => ?_)
  refine lv_iload hx hb dL_does_148 (lv_at hl 3 rfl) ?_
  refine lv_iload hx hb dL_does_150 (lv_at hl 2 rfl) ?_
  refine lv_iadd hx hb dL_does_152 ?_
  refine lv_icmp_ne (tgt := 199) hx hb dL_does_153 (by decide) (fun c_153 => ?_) (fun c_153 => ?_)
  · exact absurd rfl c_153
  · refine lv_aload_n hx hb dL_does_156 rfl (lv_at hl 5 rfl) ?_
    refine lv_iload_n hx hb dL_does_157 rfl (lv_at hl 4 rfl) ?_
    refine okE_I (rx_positionOf hi) (rd_positionOf hi) rfl (runT_V (As := [.int (nI i)]) (rest := []) C (k_X5_positionOf l hfl D cy z o d σ1 τ (rfl : kd 0 = 5) (nI i)) hP hS cw_X5_positionOf (mA2 (i := 64) rfl rfl) (rfl : kd 0 = 5) ⟨Nat.le_of_ble_eq_true rfl, Nat.le_of_ble_eq_true rfl⟩ rfl (Nat.le_of_ble_eq_true rfl) hl.1 (tcc_0 (rx_positionOf hi) ⟨Nat.zero_le _, Nat.zero_le _⟩) dL_does_158) hS (fun H locs hP hS => ?_)
    refine lv_iload hx hb dL_does_161 (lv_at hl 3 rfl) ?_
    refine lv_iload hx hb dL_does_163 (lv_at hl 2 rfl) ?_
    refine lv_iadd hx hb dL_does_165 ?_
    refine lv_icmp_ne (tgt := 199) hx hb dL_does_166 (by decide) (fun c_166 => ?_) (fun c_166 => ?_)
    · exact absurd c2 c_166
    · refine lv_aload_n hx hb dL_does_169 rfl (lv_at hl 5 rfl) ?_
      refine lv_iload_n hx hb dL_does_170 rfl (lv_at hl 4 rfl) ?_
      refine okE_I (rx_errorsOf hi) (rd_errorsOf hi) rfl (runT_V (As := [.int (nI i)]) (rest := []) C (k_X5_errorsOf l hfl D cy z o d σ1 τ (rfl : kd 0 = 5) (nI i)) hP hS cw_X5_errorsOf (mA2 (i := 84) rfl rfl) (rfl : kd 0 = 5) ⟨Nat.le_of_ble_eq_true rfl, Nat.le_of_ble_eq_true rfl⟩ rfl (Nat.le_of_ble_eq_true rfl) hl.1 (tcc_0 (rx_errorsOf hi) ⟨Nat.zero_le _, Nat.zero_le _⟩) dL_does_171) hS (fun H locs hP hS => ?_)
      refine lv_iload hx hb dL_does_174 (lv_at hl 1 rfl) ?_
      refine lv_icmp_ne (tgt := 199) hx hb dL_does_176 (by decide) (fun c_176 => ?_) (fun c_176 => ?_)
      · exact absurd c8 c_176
      · refine lv_aload_n hx hb dL_does_179 rfl (lv_at hl 5 rfl) ?_
        refine lv_iload_n hx hb dL_does_180 rfl (lv_at hl 4 rfl) ?_
        refine okE_I (rx_distanceOf hi) (rd_distanceOf hi) rfl (runT_V (As := [.int (nI i)]) (rest := []) C (k_X5_distanceOf l hfl D cy z o d σ1 τ (rfl : kd 0 = 5) (nI i)) hP hS cw_X5_distanceOf (mA2 (i := 88) rfl rfl) (rfl : kd 0 = 5) ⟨Nat.le_of_ble_eq_true rfl, Nat.le_of_ble_eq_true rfl⟩ rfl (Nat.le_of_ble_eq_true rfl) hl.1 (tcc_0 (rx_distanceOf hi) ⟨Nat.zero_le _, Nat.zero_le _⟩) dL_does_181) hS (fun H locs hP hS => ?_)
        refine lv_iload hx hb dL_does_184 (lv_at hl 0 rfl) ?_
        refine lv_iload hx hb dL_does_186 (lv_at hl 2 rfl) ?_
        refine thnE_I rfl rfl (run_S (As := [.int ((nI (lowN w 81)) - 40)]) (rest := [.int (σ (1 + 1 + 3 * i) 10), .int (σ1 (1 + 1 + 3 * i) 10)]) C (k_L_size l D cy z o d σ1 τ ((nI (lowN w 81)) - 40)) hP hS cw_L_size (mA2 (i := 169) rfl rfl) ⟨rfl, rfl⟩ ⟨Nat.le_of_ble_eq_true rfl, Nat.le_of_ble_eq_true rfl⟩ rfl (Nat.le_of_ble_eq_true rfl) hl.1 ⟨Nat.zero_le _, Nat.zero_le _⟩ dL_does_188) hS (fun H locs hP hS => ?_)
        refine lv_iadd hx hb dL_does_191 ?_
        refine lv_icmp_ne (tgt := 199) hx hb dL_does_192 (by decide) (fun c_192 => ?_) (fun c_192 => ?_)
        · exact absurd (by rw [c10, size_ab]) c_192
        · refine lv_iconst (v := 1) hx hb dL_does_195 (by decide) ?_
          refine lv_goto (tgt := 200) hx hb dL_does_196 (by decide) ?_
          exact ret_I C hP hS nar_z1 rfl rfl rfl rfl dL_does_200
set_option maxHeartbeats 4000000 in
set_option maxRecDepth 100000 in
theorem k_L_does_C (l : Launch) (hfl : l.stackTraces = false) (D : va_G) (cy : Nat → ClassId) (z : Nat) (o : Int64) (d : UInt64) (τ : Sg) {σ : Sg} {B i : Nat} {v w : Int32} (h : GN B σ) (hB : B + 300000 ≤ 1000000000) (hi9 : lowN (v >>> (4 &&& 31)) 3 = i) (hv : v &&& 15 = 9 ∨ v &&& 15 = 10) : KI l yL_does cL_does 11 (some .boolean) rm_L_does D cy z [.ref (z + 0), .int v, .int w] o d σ τ 1 (s_X5_meetMark (s_X5_meetMark σ 0 (nI i)) 0 (nI i)) τ := by
  refine met_of RL (plainFor_of_name (by decide)) rfl (Nat.le_of_ble_eq_true rfl) ?_
  intro p e s m args below meth c C hP hS ls hl
  obtain ⟨hx, hb, hr, hml, hown, hW, hlocks, hAm⟩ := id C
  have hl : lv_has ls 11 [(0, .ref (z + 0)), (1, .int v), (2, .int w)] := hl
  have hi : i < 4 := by have : lowN (v >>> (4 &&& 31)) 3 < 3 := Nat.mod_lt _ (by decide); omega
  have hsw : ¬ (v &&& 15).toInt < 0 ∧ ¬ 14 < (v &&& 15).toInt ∧ ∃ off : Int, (#[76, 76, 76, 76, 76, 76, 76, 97, 97, 189, 189, 195, 195, 203, 237] : Array Int)[((v &&& 15).toInt - 0).toNat]? = some off ∧ ((12 : Nat) : Int) + off = ((201 : Nat) : Int) := by
    rcases hv with c9 | c9 <;> (rw [c9]; exact ⟨by decide, by decide, 189, rfl, rfl⟩)
  refine lv_iload_n hx hb dL_does_0 rfl (lv_at hl 1 rfl) ?_
  refine lv_iconst (v := 4) hx hb dL_does_1 (by decide) ?_
  refine lv_ishr hx hb dL_does_2 ?_
  refine lv_iconst (v := 3) hx hb dL_does_3 (by decide) ?_
  refine thnE_I (Eq.trans (low_ok (v >>> (4 &&& 31)) 3 (by decide) (by decide)).1 (congrArg nI hi9)) rfl (run_S (As := [.int (v >>> (4 &&& 31)), .int 3]) (rest := []) C (k_L_low l D cy z o d σ τ (v >>> (4 &&& 31)) 3 (by decide)) hP hS cw_L_low (mA1 (i := 184) rfl rfl) ⟨rfl, rfl⟩ ⟨Nat.le_of_ble_eq_true rfl, Nat.le_of_ble_eq_true rfl⟩ rfl (Nat.le_of_ble_eq_true rfl) hl.1 ⟨Nat.zero_le _, Nat.zero_le _⟩ dL_does_4) hS (fun H locs hP hS => ?_)
  refine lv_istore_n (lv' := [(3, .int (nI i)), (0, .ref (z + 0)), (1, .int v), (2, .int w)]) hx hb dL_does_7 rfl hl (by decide) rfl (fun ls hl => ?_)
  refine lv_iload_n hx hb dL_does_8 rfl (lv_at hl 2 rfl) ?_
  refine lv_bipush (v := 15) hx hb dL_does_9 (by decide) ?_
  refine lv_iand hx hb dL_does_11 ?_
  refine tab_at (tgt := 201) C dL_does_12 hsw ?_
  refine lv_aload_n hx hb dL_does_201 rfl (lv_at hl 1 rfl) ?_
  refine lv_iload_n hx hb dL_does_202 rfl (lv_at hl 0 rfl) ?_
  refine thnE_I rfl rfl (run_S (As := [.ref (z + 0), .int (nI i)]) (rest := []) C (k_L_isMarked l hfl D cy z o d τ h hi (by omega)) hP hS cw_L_isMarked (mA2 (i := 195) rfl rfl) ⟨rfl, rfl⟩ ⟨Nat.le_of_ble_eq_true rfl, Nat.le_of_ble_eq_true rfl⟩ rfl (Nat.le_of_ble_eq_true rfl) hl.1 ⟨Nat.zero_le _, Nat.zero_le _⟩ dL_does_203) hS (fun H locs hP hS => ?_)
  exact ret_I C hP hS nar_z1 rfl rfl rfl rfl dL_does_206
set_option maxHeartbeats 4000000 in
set_option maxRecDepth 100000 in
theorem k_L_does_D (l : Launch) (hfl : l.stackTraces = false) (D : va_G) (cy : Nat → ClassId) (z : Nat) (o : Int64) (d : UInt64) (τ : Sg) {σ : Sg} {B i : Nat} {v w : Int32} (h : GN B σ) (hB : B + 300000 ≤ 1000000000) (hi9 : lowN (v >>> (4 &&& 31)) 3 = i) (hv : v &&& 15 = 11 ∨ v &&& 15 = 12) : KI l yL_does cL_does 11 (some .boolean) rm_L_does D cy z [.ref (z + 0), .int v, .int w] o d σ τ 1 (s_X5_goBack (TBs i v (1 + lowN w 8 - 0) 0 σ) 0 (nI i) (nI (1 + lowN w 8))) τ := by
  refine met_of RL (plainFor_of_name (by decide)) rfl (Nat.le_of_ble_eq_true rfl) ?_
  intro p e s m args below meth c C hP hS ls hl
  obtain ⟨hx, hb, hr, hml, hown, hW, hlocks, hAm⟩ := id C
  have hl : lv_has ls 11 [(0, .ref (z + 0)), (1, .int v), (2, .int w)] := hl
  have hi : i < 4 := by have : lowN (v >>> (4 &&& 31)) 3 < 3 := Nat.mod_lt _ (by decide); omega
  have hsw : ¬ (v &&& 15).toInt < 0 ∧ ¬ 14 < (v &&& 15).toInt ∧ ∃ off : Int, (#[76, 76, 76, 76, 76, 76, 76, 97, 97, 189, 189, 195, 195, 203, 237] : Array Int)[((v &&& 15).toInt - 0).toNat]? = some off ∧ ((12 : Nat) : Int) + off = ((207 : Nat) : Int) := by
    rcases hv with c9 | c9 <;> (rw [c9]; exact ⟨by decide, by decide, 195, rfl, rfl⟩)
  refine lv_iload_n hx hb dL_does_0 rfl (lv_at hl 1 rfl) ?_
  refine lv_iconst (v := 4) hx hb dL_does_1 (by decide) ?_
  refine lv_ishr hx hb dL_does_2 ?_
  refine lv_iconst (v := 3) hx hb dL_does_3 (by decide) ?_
  refine thnE_I (Eq.trans (low_ok (v >>> (4 &&& 31)) 3 (by decide) (by decide)).1 (congrArg nI hi9)) rfl (run_S (As := [.int (v >>> (4 &&& 31)), .int 3]) (rest := []) C (k_L_low l D cy z o d σ τ (v >>> (4 &&& 31)) 3 (by decide)) hP hS cw_L_low (mA1 (i := 184) rfl rfl) ⟨rfl, rfl⟩ ⟨Nat.le_of_ble_eq_true rfl, Nat.le_of_ble_eq_true rfl⟩ rfl (Nat.le_of_ble_eq_true rfl) hl.1 ⟨Nat.zero_le _, Nat.zero_le _⟩ dL_does_4) hS (fun H locs hP hS => ?_)
  refine lv_istore_n (lv' := [(3, .int (nI i)), (0, .ref (z + 0)), (1, .int v), (2, .int w)]) hx hb dL_does_7 rfl hl (by decide) rfl (fun ls hl => ?_)
  refine lv_iload_n hx hb dL_does_8 rfl (lv_at hl 2 rfl) ?_
  refine lv_bipush (v := 15) hx hb dL_does_9 (by decide) ?_
  refine lv_iand hx hb dL_does_11 ?_
  refine tab_at (tgt := 207) C dL_does_12 hsw ?_
  refine lv_aload_n hx hb dL_does_207 rfl (lv_at hl 1 rfl) ?_
  refine lv_iload_n hx hb dL_does_208 rfl (lv_at hl 0 rfl) ?_
  refine lv_iload_n hx hb dL_does_209 rfl (lv_at hl 2 rfl) ?_
  refine lv_iload_n hx hb dL_does_210 rfl (lv_at hl 3 rfl) ?_
  refine thnE_I rfl rfl (run_S (As := [.ref (z + 0), .int (nI i), .int v, .int w]) (rest := []) C (k_L_isThereAndBack l hfl D cy z o d τ (v := v) (w := w) h hi (by omega)) hP hS cw_L_isThereAndBack (mA2 (i := 226) rfl rfl) ⟨rfl, rfl⟩ ⟨Nat.le_of_ble_eq_true rfl, Nat.le_of_ble_eq_true rfl⟩ rfl (Nat.le_of_ble_eq_true rfl) hl.1 ⟨Nat.zero_le _, Nat.zero_le _⟩ dL_does_211) hS (fun H locs hP hS => ?_)
  exact ret_I C hP hS nar_z1 rfl rfl rfl rfl dL_does_214
set_option maxHeartbeats 4000000 in
set_option maxRecDepth 100000 in
theorem k_L_does_E (l : Launch) (hfl : l.stackTraces = false) (D : va_G) (cy : Nat → ClassId) (z : Nat) (o : Int64) (d : UInt64) (τ : Sg) {σ : Sg} {B i : Nat} {v w : Int32} (h : GN B σ) (hB : B + 300000 ≤ 1000000000) (hi9 : lowN (v >>> (4 &&& 31)) 3 = i) (hv : v &&& 15 = 13) : KI l yL_does cL_does 11 (some .boolean) rm_L_does D cy z [.ref (z + 0), .int v, .int w] o d σ τ 1 (s_X5_setRule σ 0 (w &&& 1)) τ := by
  refine met_of RL (plainFor_of_name (by decide)) rfl (Nat.le_of_ble_eq_true rfl) ?_
  intro p e s m args below meth c C hP hS ls hl
  obtain ⟨hx, hb, hr, hml, hown, hW, hlocks, hAm⟩ := id C
  have hl : lv_has ls 11 [(0, .ref (z + 0)), (1, .int v), (2, .int w)] := hl
  have hi : i < 4 := by have : lowN (v >>> (4 &&& 31)) 3 < 3 := Nat.mod_lt _ (by decide); omega
  have hsw : ¬ (v &&& 15).toInt < 0 ∧ ¬ 14 < (v &&& 15).toInt ∧ ∃ off : Int, (#[76, 76, 76, 76, 76, 76, 76, 97, 97, 189, 189, 195, 195, 203, 237] : Array Int)[((v &&& 15).toInt - 0).toNat]? = some off ∧ ((12 : Nat) : Int) + off = ((215 : Nat) : Int) := by
    rw [hv]
    exact ⟨by decide, by decide, 203, rfl, rfl⟩
  obtain ⟨rx, rf, -, r4⟩ := rule_ok h (x := w &&& 1) (d_1 w)
  generalize hs1 : s_X5_setRule σ 0 (w &&& 1) = σ1 at r4 ⊢
  refine lv_iload_n hx hb dL_does_0 rfl (lv_at hl 1 rfl) ?_
  refine lv_iconst (v := 4) hx hb dL_does_1 (by decide) ?_
  refine lv_ishr hx hb dL_does_2 ?_
  refine lv_iconst (v := 3) hx hb dL_does_3 (by decide) ?_
  refine thnE_I (Eq.trans (low_ok (v >>> (4 &&& 31)) 3 (by decide) (by decide)).1 (congrArg nI hi9)) rfl (run_S (As := [.int (v >>> (4 &&& 31)), .int 3]) (rest := []) C (k_L_low l D cy z o d σ τ (v >>> (4 &&& 31)) 3 (by decide)) hP hS cw_L_low (mA1 (i := 184) rfl rfl) ⟨rfl, rfl⟩ ⟨Nat.le_of_ble_eq_true rfl, Nat.le_of_ble_eq_true rfl⟩ rfl (Nat.le_of_ble_eq_true rfl) hl.1 ⟨Nat.zero_le _, Nat.zero_le _⟩ dL_does_4) hS (fun H locs hP hS => ?_)
  refine lv_istore_n (lv' := [(3, .int (nI i)), (0, .ref (z + 0)), (1, .int v), (2, .int w)]) hx hb dL_does_7 rfl hl (by decide) rfl (fun ls hl => ?_)
  refine lv_iload_n hx hb dL_does_8 rfl (lv_at hl 2 rfl) ?_
  refine lv_bipush (v := 15) hx hb dL_does_9 (by decide) ?_
  refine lv_iand hx hb dL_does_11 ?_
  refine tab_at (tgt := 215) C dL_does_12 hsw ?_
  refine lv_aload_n hx hb dL_does_215 rfl (lv_at hl 1 rfl) ?_
  refine thnE_I rd_rule rfl (run_V (As := []) (rest := []) C (k_X5_rule l D cy z o d σ τ (rfl : kd 0 = 5)) hP hS cw_X5_rule (mA2 (i := 185) rfl rfl) (rfl : kd 0 = 5) ⟨rfl, rfl⟩ ⟨Nat.le_of_ble_eq_true rfl, Nat.le_of_ble_eq_true rfl⟩ rfl (Nat.le_of_ble_eq_true rfl) hl.1 ⟨Nat.zero_le _, Nat.zero_le _⟩ dL_does_216) hS (fun H locs hP hS => ?_)
  refine lv_istore (lv' := [(8, .int (σ 1 4)), (3, .int (nI i)), (0, .ref (z + 0)), (1, .int v), (2, .int w)]) hx hb dL_does_219 hl (by decide) rfl (fun ls hl => ?_)
  refine lv_aload_n hx hb dL_does_221 rfl (lv_at hl 2 rfl) ?_
  refine lv_iload_n hx hb dL_does_222 rfl (lv_at hl 4 rfl) ?_
  refine lv_iconst (v := 1) hx hb dL_does_223 (by decide) ?_
  refine lv_iand hx hb dL_does_224 ?_
  refine okE_I rx rf hs1 (runT_V (As := [.int (w &&& 1)]) (rest := []) C (k_X5_setRule l hfl D cy z o d σ τ (rfl : kd 0 = 5) (w &&& 1)) hP hS cw_X5_setRule (mA3 (i := 21) rfl rfl) (rfl : kd 0 = 5) ⟨Nat.le_of_ble_eq_true rfl, Nat.le_of_ble_eq_true rfl⟩ rfl (Nat.le_of_ble_eq_true rfl) hl.1 (tcc_0 rx ⟨Nat.zero_le _, Nat.zero_le _⟩) dL_does_225) hS (fun H locs hP hS => ?_)
  refine lv_iload hx hb dL_does_228 (lv_at hl 0 rfl) ?_
  refine lv_icmp_ne (tgt := 247) hx hb dL_does_230 (by decide) (fun c_230 => ?_) (fun c_230 => ?_)
  · exact absurd rfl c_230
  · refine lv_aload_n hx hb dL_does_233 rfl (lv_at hl 2 rfl) ?_
    refine thnE_I rd_rule rfl (run_V (As := []) (rest := []) C (k_X5_rule l D cy z o d σ1 τ (rfl : kd 0 = 5)) hP hS cw_X5_rule (mA2 (i := 185) rfl rfl) (rfl : kd 0 = 5) ⟨rfl, rfl⟩ ⟨Nat.le_of_ble_eq_true rfl, Nat.le_of_ble_eq_true rfl⟩ rfl (Nat.le_of_ble_eq_true rfl) hl.1 ⟨Nat.zero_le _, Nat.zero_le _⟩ dL_does_234) hS (fun H locs hP hS => ?_)
    refine lv_iload_n hx hb dL_does_237 rfl (lv_at hl 4 rfl) ?_
    refine lv_iconst (v := 1) hx hb dL_does_238 (by decide) ?_
    refine lv_iand hx hb dL_does_239 ?_
    refine lv_icmp_ne (tgt := 247) hx hb dL_does_240 (by decide) (fun c_240 => ?_) (fun c_240 => ?_)
    · exact absurd r4 c_240
    · refine lv_iconst (v := 1) hx hb dL_does_243 (by decide) ?_
      refine lv_goto (tgt := 248) hx hb dL_does_244 (by decide) ?_
      exact ret_I C hP hS nar_z1 rfl rfl rfl rfl dL_does_248
set_option maxHeartbeats 4000000 in
set_option maxRecDepth 100000 in
theorem k_L_does_F (l : Launch) (hfl : l.stackTraces = false) (D : va_G) (cy : Nat → ClassId) (z : Nat) (o : Int64) (d : UInt64) (τ : Sg) {σ : Sg} {B i : Nat} {v w : Int32} (h : GN B σ) (hB : B + 300000 ≤ 1000000000) (hi9 : lowN (v >>> (4 &&& 31)) 3 = i) (hv : v &&& 15 = 14) : KI l yL_does cL_does 11 (some .boolean) rm_L_does D cy z [.ref (z + 0), .int v, .int w] o d σ τ 1 (s_X5_setCounts σ 0 (nI (4 * (lowN w 20 + 1)))) τ := by
  refine met_of RL (plainFor_of_name (by decide)) rfl (Nat.le_of_ble_eq_true rfl) ?_
  intro p e s m args below meth c C hP hS ls hl
  obtain ⟨hx, hb, hr, hml, hown, hW, hlocks, hAm⟩ := id C
  have hl : lv_has ls 11 [(0, .ref (z + 0)), (1, .int v), (2, .int w)] := hl
  have hi : i < 4 := by have : lowN (v >>> (4 &&& 31)) 3 < 3 := Nat.mod_lt _ (by decide); omega
  have hsw : ¬ (v &&& 15).toInt < 0 ∧ ¬ 14 < (v &&& 15).toInt ∧ ∃ off : Int, (#[76, 76, 76, 76, 76, 76, 76, 97, 97, 189, 189, 195, 195, 203, 237] : Array Int)[((v &&& 15).toInt - 0).toNat]? = some off ∧ ((12 : Nat) : Int) + off = ((249 : Nat) : Int) := by
    rw [hv]
    exact ⟨by decide, by decide, 237, rfl, rfl⟩
  have hw20 : lowN w 20 < 20 := Nat.mod_lt _ (by decide)
  obtain ⟨rx, rf, -, r5⟩ := cts_ok h (n := lowN w 20 + 1) (by omega) (by omega)
  generalize hs1 : s_X5_setCounts σ 0 (nI (4 * (lowN w 20 + 1))) = σ1 at r5 ⊢
  refine lv_iload_n hx hb dL_does_0 rfl (lv_at hl 1 rfl) ?_
  refine lv_iconst (v := 4) hx hb dL_does_1 (by decide) ?_
  refine lv_ishr hx hb dL_does_2 ?_
  refine lv_iconst (v := 3) hx hb dL_does_3 (by decide) ?_
  refine thnE_I (Eq.trans (low_ok (v >>> (4 &&& 31)) 3 (by decide) (by decide)).1 (congrArg nI hi9)) rfl (run_S (As := [.int (v >>> (4 &&& 31)), .int 3]) (rest := []) C (k_L_low l D cy z o d σ τ (v >>> (4 &&& 31)) 3 (by decide)) hP hS cw_L_low (mA1 (i := 184) rfl rfl) ⟨rfl, rfl⟩ ⟨Nat.le_of_ble_eq_true rfl, Nat.le_of_ble_eq_true rfl⟩ rfl (Nat.le_of_ble_eq_true rfl) hl.1 ⟨Nat.zero_le _, Nat.zero_le _⟩ dL_does_4) hS (fun H locs hP hS => ?_)
  refine lv_istore_n (lv' := [(3, .int (nI i)), (0, .ref (z + 0)), (1, .int v), (2, .int w)]) hx hb dL_does_7 rfl hl (by decide) rfl (fun ls hl => ?_)
  refine lv_iload_n hx hb dL_does_8 rfl (lv_at hl 2 rfl) ?_
  refine lv_bipush (v := 15) hx hb dL_does_9 (by decide) ?_
  refine lv_iand hx hb dL_does_11 ?_
  refine tab_at (tgt := 249) C dL_does_12 hsw ?_
  refine lv_aload_n hx hb dL_does_249 rfl (lv_at hl 1 rfl) ?_
  refine thnE_I rd_counts rfl (run_V (As := []) (rest := []) C (k_X5_counts l D cy z o d σ τ (rfl : kd 0 = 5)) hP hS cw_X5_counts (mA2 (i := 213) rfl rfl) (rfl : kd 0 = 5) ⟨rfl, rfl⟩ ⟨Nat.le_of_ble_eq_true rfl, Nat.le_of_ble_eq_true rfl⟩ rfl (Nat.le_of_ble_eq_true rfl) hl.1 ⟨Nat.zero_le _, Nat.zero_le _⟩ dL_does_250) hS (fun H locs hP hS => ?_)
  refine lv_istore (lv' := [(9, .int (σ 1 5)), (3, .int (nI i)), (0, .ref (z + 0)), (1, .int v), (2, .int w)]) hx hb dL_does_253 hl (by decide) rfl (fun ls hl => ?_)
  refine lv_aload_n hx hb dL_does_255 rfl (lv_at hl 2 rfl) ?_
  refine lv_iconst (v := 4) hx hb dL_does_256 (by decide) ?_
  refine lv_iconst (v := 4) hx hb dL_does_257 (by decide) ?_
  refine lv_iload_n hx hb dL_does_258 rfl (lv_at hl 4 rfl) ?_
  refine lv_bipush (v := 20) hx hb dL_does_259 (by decide) ?_
  refine thnE_I (low_ok w 20 (by decide) (by decide)).1 rfl (run_S (As := [.int w, .int 20]) (rest := [.int 4, .int 4, .ref (z + 0)]) C (k_L_low l D cy z o d σ τ w 20 (by decide)) hP hS cw_L_low (mA1 (i := 184) rfl rfl) ⟨rfl, rfl⟩ ⟨Nat.le_of_ble_eq_true rfl, Nat.le_of_ble_eq_true rfl⟩ rfl (Nat.le_of_ble_eq_true rfl) hl.1 ⟨Nat.zero_le _, Nat.zero_le _⟩ dL_does_261) hS (fun H locs hP hS => ?_)
  refine lv_imul hx hb dL_does_264 ?_
  refine lv_iadd hx hb dL_does_265 ?_
  rw [d_c]
  refine okE_I rx rf hs1 (runT_V (As := [.int (nI (4 * (lowN w 20 + 1)))]) (rest := []) C (k_X5_setCounts l hfl D cy z o d σ τ (rfl : kd 0 = 5) (nI (4 * (lowN w 20 + 1)))) hP hS cw_X5_setCounts (mA3 (i := 26) rfl rfl) (rfl : kd 0 = 5) ⟨Nat.le_of_ble_eq_true rfl, Nat.le_of_ble_eq_true rfl⟩ rfl (Nat.le_of_ble_eq_true rfl) hl.1 (tcc_0 rx ⟨Nat.zero_le _, Nat.zero_le _⟩) dL_does_266) hS (fun H locs hP hS => ?_)
  refine lv_iload hx hb dL_does_269 (lv_at hl 0 rfl) ?_
  refine lv_icmp_ne (tgt := 295) hx hb dL_does_271 (by decide) (fun c_271 => ?_) (fun c_271 => ?_)
  · exact absurd rfl c_271
  · refine lv_aload_n hx hb dL_does_274 rfl (lv_at hl 2 rfl) ?_
    refine thnE_I rd_counts rfl (run_V (As := []) (rest := []) C (k_X5_counts l D cy z o d σ1 τ (rfl : kd 0 = 5)) hP hS cw_X5_counts (mA2 (i := 213) rfl rfl) (rfl : kd 0 = 5) ⟨rfl, rfl⟩ ⟨Nat.le_of_ble_eq_true rfl, Nat.le_of_ble_eq_true rfl⟩ rfl (Nat.le_of_ble_eq_true rfl) hl.1 ⟨Nat.zero_le _, Nat.zero_le _⟩ dL_does_275) hS (fun H locs hP hS => ?_)
    refine lv_iconst (v := 4) hx hb dL_does_278 (by decide) ?_
    refine lv_iconst (v := 4) hx hb dL_does_279 (by decide) ?_
    refine lv_iload_n hx hb dL_does_280 rfl (lv_at hl 4 rfl) ?_
    refine lv_bipush (v := 20) hx hb dL_does_281 (by decide) ?_
    refine thnE_I (low_ok w 20 (by decide) (by decide)).1 rfl (run_S (As := [.int w, .int 20]) (rest := [.int 4, .int 4, .int (σ1 1 5)]) C (k_L_low l D cy z o d σ1 τ w 20 (by decide)) hP hS cw_L_low (mA1 (i := 184) rfl rfl) ⟨rfl, rfl⟩ ⟨Nat.le_of_ble_eq_true rfl, Nat.le_of_ble_eq_true rfl⟩ rfl (Nat.le_of_ble_eq_true rfl) hl.1 ⟨Nat.zero_le _, Nat.zero_le _⟩ dL_does_283) hS (fun H locs hP hS => ?_)
    refine lv_imul hx hb dL_does_286 ?_
    refine lv_iadd hx hb dL_does_287 ?_
    rw [d_c]
    refine lv_icmp_ne (tgt := 295) hx hb dL_does_288 (by decide) (fun c_288 => ?_) (fun c_288 => ?_)
    · exact absurd r5 c_288
    · refine lv_iconst (v := 1) hx hb dL_does_291 (by decide) ?_
      refine lv_goto (tgt := 296) hx hb dL_does_292 (by decide) ?_
      exact ret_I C hP hS nar_z1 rfl rfl rfl rfl dL_does_296
set_option maxHeartbeats 4000000 in
set_option maxRecDepth 100000 in
theorem k_L_does_G (l : Launch) (hfl : l.stackTraces = false) (D : va_G) (cy : Nat → ClassId) (z : Nat) (o : Int64) (d : UInt64) (τ : Sg) {σ : Sg} {B i : Nat} {v w : Int32} (h : GN B σ) (hB : B + 300000 ≤ 1000000000) (hi9 : lowN (v >>> (4 &&& 31)) 3 = i) (hv : v &&& 15 = 15) {E : Nat → Nat → Int32} {L : Nat} (hN : SnN σ (1 + 1 + 3 * i) E L B) (hL0 : L = 0) : KI l yL_does cL_does 11 (some .boolean) rm_L_does D cy z [.ref (z + 0), .int v, .int w] o d σ τ 1 σ τ := by
  refine met_of RL (plainFor_of_name (by decide)) rfl (Nat.le_of_ble_eq_true rfl) ?_
  intro p e s m args below meth c C hP hS ls hl
  obtain ⟨hx, hb, hr, hml, hown, hW, hlocks, hAm⟩ := id C
  have hl : lv_has ls 11 [(0, .ref (z + 0)), (1, .int v), (2, .int w)] := hl
  have hi : i < 4 := by have : lowN (v >>> (4 &&& 31)) 3 < 3 := Nat.mod_lt _ (by decide); omega
  have hsw : (v &&& 15).toInt < 0 ∨ 14 < (v &&& 15).toInt := Or.inr (by rw [hv]; decide)
  have hl9 : σ (1 + 1 + 3 * i + 1) 2 = nI L := hN.2.2.2.2.choose_spec.2.2.1
  have hL9 : L ≤ 16 := hN.2.2.2.2.choose_spec.1
  refine lv_iload_n hx hb dL_does_0 rfl (lv_at hl 1 rfl) ?_
  refine lv_iconst (v := 4) hx hb dL_does_1 (by decide) ?_
  refine lv_ishr hx hb dL_does_2 ?_
  refine lv_iconst (v := 3) hx hb dL_does_3 (by decide) ?_
  refine thnE_I (Eq.trans (low_ok (v >>> (4 &&& 31)) 3 (by decide) (by decide)).1 (congrArg nI hi9)) rfl (run_S (As := [.int (v >>> (4 &&& 31)), .int 3]) (rest := []) C (k_L_low l D cy z o d σ τ (v >>> (4 &&& 31)) 3 (by decide)) hP hS cw_L_low (mA1 (i := 184) rfl rfl) ⟨rfl, rfl⟩ ⟨Nat.le_of_ble_eq_true rfl, Nat.le_of_ble_eq_true rfl⟩ rfl (Nat.le_of_ble_eq_true rfl) hl.1 ⟨Nat.zero_le _, Nat.zero_le _⟩ dL_does_4) hS (fun H locs hP hS => ?_)
  refine lv_istore_n (lv' := [(3, .int (nI i)), (0, .ref (z + 0)), (1, .int v), (2, .int w)]) hx hb dL_does_7 rfl hl (by decide) rfl (fun ls hl => ?_)
  refine lv_iload_n hx hb dL_does_8 rfl (lv_at hl 2 rfl) ?_
  refine lv_bipush (v := 15) hx hb dL_does_9 (by decide) ?_
  refine lv_iand hx hb dL_does_11 ?_
  refine lv_tableOut (tgt := 297) hx hb dL_does_12 hsw (by decide) ?_
  refine lv_aload_n hx hb dL_does_297 rfl (lv_at hl 1 rfl) ?_
  refine lv_iload_n hx hb dL_does_298 rfl (lv_at hl 0 rfl) ?_
  refine okE_I (rx_logLength hi) (rd_logLength hi) rfl (runT_V (As := [.int (nI i)]) (rest := []) C (k_X5_logLength l hfl D cy z o d σ τ (rfl : kd 0 = 5) (nI i)) hP hS cw_X5_logLength (mA2 (i := 72) rfl rfl) (rfl : kd 0 = 5) ⟨Nat.le_of_ble_eq_true rfl, Nat.le_of_ble_eq_true rfl⟩ rfl (Nat.le_of_ble_eq_true rfl) hl.1 (tcc_0 (rx_logLength hi) ⟨Nat.zero_le _, Nat.zero_le _⟩) dL_does_299) hS (fun H locs hP hS => ?_)
  rw [hl9]
  refine lv_istore (lv' := [(10, .int (nI L)), (3, .int (nI i)), (0, .ref (z + 0)), (1, .int v), (2, .int w)]) hx hb dL_does_302 hl (by decide) rfl (fun ls hl => ?_)
  refine lv_iload hx hb dL_does_304 (lv_at hl 0 rfl) ?_
  refine lv_if_eq (tgt := 325) hx hb dL_does_306 (by decide) (fun c_306 => ?_) (fun c_306 => ?_)
  · refine lv_iconst (v := 1) hx hb dL_does_325 (by decide) ?_
    refine lv_goto (tgt := 330) hx hb dL_does_326 (by decide) ?_
    exact ret_I C hP hS nar_z1 rfl rfl rfl rfl dL_does_330
  · exact absurd (hL0 ▸ rfl) c_306
set_option maxHeartbeats 4000000 in
set_option maxRecDepth 100000 in
theorem k_L_does_H (l : Launch) (hfl : l.stackTraces = false) (D : va_G) (cy : Nat → ClassId) (z : Nat) (o : Int64) (d : UInt64) (τ : Sg) {σ : Sg} {B i : Nat} {v w : Int32} (h : GN B σ) (hB : B + 300000 ≤ 1000000000) (hi9 : lowN (v >>> (4 &&& 31)) 3 = i) (hv : v &&& 15 = 15) {E : Nat → Nat → Int32} {L : Nat} (hN : SnN σ (1 + 1 + 3 * i) E L B) (hL0 : ¬ L = 0) : KI l yL_does cL_does 11 (some .boolean) rm_L_does D cy z [.ref (z + 0), .int v, .int w] o d σ τ 1 (s_X5_goBack σ 0 (nI i) (nI (1 + lowN w L))) τ := by
  refine met_of RL (plainFor_of_name (by decide)) rfl (Nat.le_of_ble_eq_true rfl) ?_
  intro p e s m args below meth c C hP hS ls hl
  obtain ⟨hx, hb, hr, hml, hown, hW, hlocks, hAm⟩ := id C
  have hl : lv_has ls 11 [(0, .ref (z + 0)), (1, .int v), (2, .int w)] := hl
  have hi : i < 4 := by have : lowN (v >>> (4 &&& 31)) 3 < 3 := Nat.mod_lt _ (by decide); omega
  have hsw : (v &&& 15).toInt < 0 ∨ 14 < (v &&& 15).toInt := Or.inr (by rw [hv]; decide)
  have hl9 : σ (1 + 1 + 3 * i + 1) 2 = nI L := hN.2.2.2.2.choose_spec.2.2.1
  have hL9 : L ≤ 16 := hN.2.2.2.2.choose_spec.1
  have hne9 : ¬ nI L = 0 := fun q => hL0 ((nI_eq (a := L) (b := 0) (by omega) (by omega)).mp q)
  have hf9 : 1 + lowN w L ≤ L := by have := (low_ok w L (by omega) (by omega)).2; omega
  refine lv_iload_n hx hb dL_does_0 rfl (lv_at hl 1 rfl) ?_
  refine lv_iconst (v := 4) hx hb dL_does_1 (by decide) ?_
  refine lv_ishr hx hb dL_does_2 ?_
  refine lv_iconst (v := 3) hx hb dL_does_3 (by decide) ?_
  refine thnE_I (Eq.trans (low_ok (v >>> (4 &&& 31)) 3 (by decide) (by decide)).1 (congrArg nI hi9)) rfl (run_S (As := [.int (v >>> (4 &&& 31)), .int 3]) (rest := []) C (k_L_low l D cy z o d σ τ (v >>> (4 &&& 31)) 3 (by decide)) hP hS cw_L_low (mA1 (i := 184) rfl rfl) ⟨rfl, rfl⟩ ⟨Nat.le_of_ble_eq_true rfl, Nat.le_of_ble_eq_true rfl⟩ rfl (Nat.le_of_ble_eq_true rfl) hl.1 ⟨Nat.zero_le _, Nat.zero_le _⟩ dL_does_4) hS (fun H locs hP hS => ?_)
  refine lv_istore_n (lv' := [(3, .int (nI i)), (0, .ref (z + 0)), (1, .int v), (2, .int w)]) hx hb dL_does_7 rfl hl (by decide) rfl (fun ls hl => ?_)
  refine lv_iload_n hx hb dL_does_8 rfl (lv_at hl 2 rfl) ?_
  refine lv_bipush (v := 15) hx hb dL_does_9 (by decide) ?_
  refine lv_iand hx hb dL_does_11 ?_
  refine lv_tableOut (tgt := 297) hx hb dL_does_12 hsw (by decide) ?_
  refine lv_aload_n hx hb dL_does_297 rfl (lv_at hl 1 rfl) ?_
  refine lv_iload_n hx hb dL_does_298 rfl (lv_at hl 0 rfl) ?_
  refine okE_I (rx_logLength hi) (rd_logLength hi) rfl (runT_V (As := [.int (nI i)]) (rest := []) C (k_X5_logLength l hfl D cy z o d σ τ (rfl : kd 0 = 5) (nI i)) hP hS cw_X5_logLength (mA2 (i := 72) rfl rfl) (rfl : kd 0 = 5) ⟨Nat.le_of_ble_eq_true rfl, Nat.le_of_ble_eq_true rfl⟩ rfl (Nat.le_of_ble_eq_true rfl) hl.1 (tcc_0 (rx_logLength hi) ⟨Nat.zero_le _, Nat.zero_le _⟩) dL_does_299) hS (fun H locs hP hS => ?_)
  rw [hl9]
  refine lv_istore (lv' := [(10, .int (nI L)), (3, .int (nI i)), (0, .ref (z + 0)), (1, .int v), (2, .int w)]) hx hb dL_does_302 hl (by decide) rfl (fun ls hl => ?_)
  refine lv_iload hx hb dL_does_304 (lv_at hl 0 rfl) ?_
  refine lv_if_eq (tgt := 325) hx hb dL_does_306 (by decide) (fun c_306 => ?_) (fun c_306 => ?_)
  · exact absurd c_306 hne9
  · refine lv_aload_n hx hb dL_does_309 rfl (lv_at hl 2 rfl) ?_
    refine lv_iload_n hx hb dL_does_310 rfl (lv_at hl 1 rfl) ?_
    refine lv_iconst (v := 1) hx hb dL_does_311 (by decide) ?_
    refine lv_iload_n hx hb dL_does_312 rfl (lv_at hl 4 rfl) ?_
    refine lv_iload hx hb dL_does_313 (lv_at hl 0 rfl) ?_
    refine thnE_I (low_ok w L (by omega) (by omega)).1 rfl (run_S (As := [.int w, .int (nI L)]) (rest := [.int 1, .int (nI i), .ref (z + 0)]) C (k_L_low l D cy z o d σ τ w (nI L) hne9) hP hS cw_L_low (mA1 (i := 184) rfl rfl) ⟨rfl, rfl⟩ ⟨Nat.le_of_ble_eq_true rfl, Nat.le_of_ble_eq_true rfl⟩ rfl (Nat.le_of_ble_eq_true rfl) hl.1 ⟨Nat.zero_le _, Nat.zero_le _⟩ dL_does_315) hS (fun H locs hP hS => ?_)
    refine lv_iadd hx hb dL_does_318 ?_
    rw [nI_c1]
    refine thnE_I rfl rfl (run_S (As := [.ref (z + 0), .int (nI i), .int (nI (1 + lowN w L))]) (rest := []) C (k_L_isBack l hfl D cy z o d τ h hN hi (by omega) hf9 (by omega)) hP hS cw_L_isBack (mA3 (i := 31) rfl rfl) ⟨rfl, rfl⟩ ⟨Nat.le_of_ble_eq_true rfl, Nat.le_of_ble_eq_true rfl⟩ rfl (Nat.le_of_ble_eq_true rfl) hl.1 ⟨Nat.zero_le _, Nat.zero_le _⟩ dL_does_319) hS (fun H locs hP hS => ?_)
    refine lv_if_eq (tgt := 329) hx hb dL_does_322 (by decide) (fun c_322 => ?_) (fun c_322 => ?_)
    · exact absurd c_322 (by decide)
    · refine lv_iconst (v := 1) hx hb dL_does_325 (by decide) ?_
      refine lv_goto (tgt := 330) hx hb dL_does_326 (by decide) ?_
      exact ret_I C hP hS nar_z1 rfl rfl rfl rfl dL_does_330
theorem does_all (l : Launch) (hfl : l.stackTraces = false) (D : va_G) (cy : Nat → ClassId) (z : Nat) (o : Int64) (d : UInt64) (τ : Sg) {σ : Sg} {B : Nat} (v w : Int32) (h : GN B σ) (hB : B + 300000 ≤ 1000000000) : ∃ σ' : Sg, GN (B + 200000) σ' ∧ KI l yL_does cL_does 11 (some .boolean) rm_L_does D cy z [.ref (z + 0), .int v, .int w] o d σ τ 1 σ' τ := by
  obtain ⟨i, hi9⟩ : ∃ i : Nat, lowN (v >>> (4 &&& 31)) 3 = i := ⟨_, rfl⟩
  have hi : i < 4 := by have : lowN (v >>> (4 &&& 31)) 3 < 3 := Nat.mod_lt _ (by decide); omega
  obtain ⟨E, L, hN⟩ := h.1 i hi
  have hr := and_lo (x := v) (m := 15) (b := 4) rfl (by omega)
  have hr2 : v.toBitVec.toNat % 2 ^ 4 < 16 := Nat.mod_lt _ (by decide)
  generalize v.toBitVec.toNat % 2 ^ 4 = r at hr hr2
  have hc : r ≤ 6 ∨ r = 7 ∨ r = 8 ∨ r = 9 ∨ r = 10 ∨ r = 11 ∨ r = 12 ∨ r = 13 ∨ r = 14 ∨ r = 15 := by omega
  have fA := fun (hv : v &&& 15 = 0 ∨ v &&& 15 = 1 ∨ v &&& 15 = 2 ∨ v &&& 15 = 3 ∨ v &&& 15 = 4 ∨ v &&& 15 = 5 ∨ v &&& 15 = 6) => show ∃ σ' : Sg, GN (B + 200000) σ' ∧ KI l yL_does cL_does 11 (some .boolean) rm_L_does D cy z [.ref (z + 0), .int v, .int w] o d σ τ 1 σ' τ from ⟨s_X5_feel σ 0 (nI i) (nI (lowN w 4)) (nI (1 + lowN (w >>> (2 &&& 31)) 50)), ((feel_ok h hN hi (st_j (lowN w 4) (Nat.mod_lt _ (by decide))) (d_w (a := lowN (w >>> (2 &&& 31)) 50) (Nat.mod_lt _ (by decide))) (by omega)).2.2.1).mono (by omega), k_L_does_A l hfl D cy z o d τ h hB hi9 hv⟩
  have fB := fun (hv : v &&& 15 = 7 ∨ v &&& 15 = 8) => show ∃ σ' : Sg, GN (B + 200000) σ' ∧ KI l yL_does cL_does 11 (some .boolean) rm_L_does D cy z [.ref (z + 0), .int v, .int w] o d σ τ 1 σ' τ from ⟨s_X5_crawl σ 0 (nI i) (nI (lowN w 81) - 40), ((crawl_ok h hi (y := nI (lowN w 81) - 40) (d_y (Nat.mod_lt _ (by decide))) (by omega)).2.2.1).mono (by omega), k_L_does_B l hfl D cy z o d τ h hB hi9 hv⟩
  have fC := fun (hv : v &&& 15 = 9 ∨ v &&& 15 = 10) => show ∃ σ' : Sg, GN (B + 200000) σ' ∧ KI l yL_does cL_does 11 (some .boolean) rm_L_does D cy z [.ref (z + 0), .int v, .int w] o d σ τ 1 σ' τ from ⟨(s_X5_meetMark (s_X5_meetMark σ 0 (nI i)) 0 (nI i)), (marked_gn h hi (by omega)).mono (by omega), k_L_does_C l hfl D cy z o d τ h hB hi9 hv⟩
  have fD := fun (hv : v &&& 15 = 11 ∨ v &&& 15 = 12) => show ∃ σ' : Sg, GN (B + 200000) σ' ∧ KI l yL_does cL_does 11 (some .boolean) rm_L_does D cy z [.ref (z + 0), .int v, .int w] o d σ τ 1 σ' τ from ⟨(s_X5_goBack (TBs i v (1 + lowN w 8 - 0) 0 σ) 0 (nI i) (nI (1 + lowN w 8))), (there_gn (v := v) (w := w) h hi (by omega)).mono (by omega), k_L_does_D l hfl D cy z o d τ h hB hi9 hv⟩
  rcases hc with e | e | e | e | e | e | e | e | e | e
  · have : r = 0 ∨ r = 1 ∨ r = 2 ∨ r = 3 ∨ r = 4 ∨ r = 5 ∨ r = 6 := by omega
    rcases this with e | e | e | e | e | e | e <;> rw [e] at hr
    · exact fA (Or.inl hr)
    · exact fA (Or.inr (Or.inl hr))
    · exact fA (Or.inr (Or.inr (Or.inl hr)))
    · exact fA (Or.inr (Or.inr (Or.inr (Or.inl hr))))
    · exact fA (Or.inr (Or.inr (Or.inr (Or.inr (Or.inl hr)))))
    · exact fA (Or.inr (Or.inr (Or.inr (Or.inr (Or.inr (Or.inl hr))))))
    · exact fA (Or.inr (Or.inr (Or.inr (Or.inr (Or.inr (Or.inr hr))))))
  · rw [e] at hr; exact fB (Or.inl hr)
  · rw [e] at hr; exact fB (Or.inr hr)
  · rw [e] at hr; exact fC (Or.inl hr)
  · rw [e] at hr; exact fC (Or.inr hr)
  · rw [e] at hr; exact fD (Or.inl hr)
  · rw [e] at hr; exact fD (Or.inr hr)
  · rw [e] at hr
    exact ⟨s_X5_setRule σ 0 (w &&& 1), ((rule_ok h (d_1 w)).2.2.1).mono (by omega), k_L_does_E l hfl D cy z o d τ h hB hi9 hr⟩
  · rw [e] at hr
    have hw20 : lowN w 20 < 20 := Nat.mod_lt _ (by decide)
    exact ⟨s_X5_setCounts σ 0 (nI (4 * (lowN w 20 + 1))), ((cts_ok h (n := lowN w 20 + 1) (by omega) (by omega)).2.2.1).mono (by omega), k_L_does_F l hfl D cy z o d τ h hB hi9 hr⟩
  · rw [e] at hr
    by_cases hL0 : L = 0
    · exact ⟨σ, h.mono (by omega), k_L_does_G l hfl D cy z o d τ h hB hi9 hr hN hL0⟩
    · have hL9 : L ≤ 16 := hN.2.2.2.2.choose_spec.1
      have hf9 : 1 + lowN w L ≤ L := by have := (low_ok w L (by omega) (by omega)).2; omega
      exact ⟨s_X5_goBack σ 0 (nI i) (nI (1 + lowN w L)), ((back_ok h hN hi (by omega) hf9 (by omega)).2.2.1).mono (by omega), k_L_does_H l hfl D cy z o d τ h hB hi9 hr hN hL0⟩

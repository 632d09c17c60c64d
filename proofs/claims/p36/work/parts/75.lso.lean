/-! the law's isSnailSo -/
theorem so_facts {σ : Sg} {B i L : Nat} {E : Nat → Nat → Int32} (h : GN B σ) (hN : SnN σ (1 + 1 + 3 * i) E L B) (hB : B ≤ 500000000) :
    σ (1 + 1 + 3 * i) 4 + σ (1 + 1 + 3 * i) 5 + σ (1 + 1 + 3 * i) 6 - σ (1 + 1 + 3 * i) 7 = σ (1 + 1 + 3 * i) 2 ∧ f_X4_turnsOver σ (1 + 1 + 3 * i) (σ 1 5) * σ 1 5 + f_X4_placeIn σ (1 + 1 + 3 * i) (σ 1 5) = σ (1 + 1 + 3 * i) 2 ∧ ¬ f_X4_placeIn σ (1 + 1 + 3 * i) (σ 1 5) < 0 ∧ ¬ σ 1 5 ≤ f_X4_placeIn σ (1 + 1 + 3 * i) (σ 1 5) ∧ ¬ σ (1 + 1 + 3 * i) 10 < f_L_size (σ (1 + 1 + 3 * i) 2) - σ (1 + 1 + 3 * i) 9 := by
  have hc := h.2.2.1.int
  obtain ⟨p1, p2⟩ := place_int (σ := σ) (k := (1 + 1 + 3 * i)) h.2.2.1
  obtain ⟨a1, a2, a3, a4, a5⟩ := hN.2.2.2.1
  have m0 := Int.emod_nonneg (σ (1 + 1 + 3 * i) 2).toInt (show (σ 1 5).toInt ≠ 0 by omega)
  have m1 := Int.emod_lt_of_pos (σ (1 + 1 + 3 * i) 2).toInt (show 0 < (σ 1 5).toInt by omega)
  have e := Int.emod_add_mul_ediv (σ (1 + 1 + 3 * i) 2).toInt (σ 1 5).toInt
  have ec : (σ 1 5).toInt * ((σ (1 + 1 + 3 * i) 2).toInt / (σ 1 5).toInt) = (σ (1 + 1 + 3 * i) 2).toInt / (σ 1 5).toInt * (σ 1 5).toInt := Int.mul_comm _ _
  refine ⟨hN.2.2.1, ?_, ?_, ?_, ?_⟩
  · apply Int32.toInt_inj.mp
    rw [Int32.toInt_add, Int32.toInt_mul, p1, p2, bm (a := _ * _) (by omega) (by omega), bm (by omega) (by omega)]
    omega
  · rw [Int32.lt_iff_toInt_lt, p1]
    show ¬ _ < (0 : Int)
    omega
  · rw [Int32.le_iff_toInt_le, p1]
    omega
  · obtain ⟨b1, b2⟩ := ab_int (v := σ (1 + 1 + 3 * i) 2) (M := 1000000000) ⟨by omega, by omega⟩ (by omega)
    have hab : (ab (σ (1 + 1 + 3 * i) 2)).toInt ≤ (σ (1 + 1 + 3 * i) 10).toInt + (σ (1 + 1 + 3 * i) 9).toInt ∧ 0 ≤ (ab (σ (1 + 1 + 3 * i) 2)).toInt := by
      rcases Int.lt_or_le (σ (1 + 1 + 3 * i) 2).toInt 0 with q | q
      · have := b2 q; omega
      · have := b1 q; omega
    rw [size_ab, Int32.lt_iff_toInt_lt, Int32.toInt_sub, bm (by omega) (by omega)]
    omega
theorem cn_y {σ : Sg} {k a : Nat} {r t x : Int32} (h : x = cn σ k r t a) (c : f_X4_stepUnder σ k r (nI a) = t) : x + 1 = cn σ k r t (a + 1) := by
  show _ = cn σ k r t a + (if f_X4_stepUnder σ k r (nI a) = t then 1 else 0)
  rw [if_pos c, h]
theorem cn_n {σ : Sg} {k a : Nat} {r t x : Int32} (h : x = cn σ k r t a) (c : ¬ f_X4_stepUnder σ k r (nI a) = t) : x + 0 = cn σ k r t (a + 1) := by
  show _ = cn σ k r t a + (if f_X4_stepUnder σ k r (nI a) = t then 1 else 0)
  rw [if_neg c, h]
theorem cn_e {σ : Sg} {k a : Nat} {r t x : Int32} (h : x = cn σ k r t a) (c : 4 ≤ a) (c2 : a ≤ 4) (h4 : cn σ k r t 4 = 1) : x = 1 := by
  rw [h, show a = 4 by omega, h4]
theorem so_a {L : Nat} (h : L ≤ 16) : ¬ nI L < 0 ∧ ¬ 17 ≤ nI L := by
  constructor
  · rw [show (0 : Int32) = nI 0 from rfl, nI_ltI (by omega) (by omega)]
    omega
  · rw [show (17 : Int32) = nI 17 from rfl, nI_leI (by omega) (by omega)]
    omega
theorem so_b {σ : Sg} {b i : Nat} (hb : b < 4) (hi : i < 4) (hk : ∀ j, j < b → σ (1 + 1 + 3 * j) 2 < σ (1 + 1 + 3 * b) 2) (c : ¬ σ (1 + 1 + 3 * i) 2 < σ (1 + 1 + 3 * b) 2) : ¬ nI i < nI b := by
  rw [nI_ltI (by omega) (by omega)]
  exact fun q => c (hk i q)
theorem cw_L_isSnailSo : cwSt yL_isSnailSo cL_isSnailSo 7 (some .boolean) 2 := ⟨(mA3 (i := 35) rfl rfl), (mA1 (i := 0) rfl rfl), (mA3 (i := 36) rfl rfl), by decide +kernel⟩
abbrev rm_L_isSnailSo : Room := { frames := 8, cells := 0, slots := 0, locals := 126 }
set_option maxHeartbeats 4000000 in
set_option maxRecDepth 100000 in
theorem lpK_L_isSnailSo {p : Program} {l : Launch} {e : Env} {s : State} {m : MethodId} {args : Array Value} {below : List Frame} {meth : Method} {c : Code} {D : va_G} {cy : Nat → ClassId} {z : Nat} (C : Bd p s m args meth c cL_isSnailSo 7 (some .boolean) RL D cy z) (o : Int64) (d : UInt64) {τ : Sg} (hfl : l.stackTraces = false) {σ : Sg} {B i L b : Nat} {E : Nat → Nat → Int32} (h : GN B σ) (hN : SnN σ (1 + 1 + 3 * i) E L B) (hi : i < 4) (hc1 : cn σ (1 + 1 + 3 * i) (σ 1 4) 1 4 = 1) (hc2 : cn σ (1 + 1 + 3 * i) (σ 1 4) (-1) 4 = 1) (hl9 : σ (1 + 1 + 3 * i + 1) 2 = nI L) (hL9 : L ≤ 16) (hs9 : Spd (f_X1_speed σ (1 + 1 + 3 * i + 1))) (hd9 : ¬ σ (1 + 1 + 3 * i) 10 < f_L_size (σ (1 + 1 + 3 * i) 2) - σ (1 + 1 + 3 * i) 9) (hb4 : b < 4) (he9 : f_X5_leader σ 0 = nI b) (hm9 : ∀ j, j < 4 → σ (1 + 1 + 3 * j) 2 ≤ σ (1 + 1 + 3 * b) 2) (hk9 : ∀ j, j < b → σ (1 + 1 + 3 * j) 2 < σ (1 + 1 + 3 * b) 2) :
    ∀ (n : Nat) (x3 : Int32) (x4 : Int32) (a : Nat) (H : Heap) (locs : List Loc), (x3 = cn σ (1 + 1 + 3 * i) (σ 1 4) 1 a) → (x4 = cn σ (1 + 1 + 3 * i) (σ 1 4) (-1) a) → (a ≤ 4 ∧ 5 ≤ a + n) → WP D cy z σ τ o d H → va_S (fz z) s.heap H locs → ∀ ls : Array Slot, lv_has ls 7 [(0, .ref (z + 0)), (1, .int (nI i)), (2, .int (f_X4_placeIn σ (1 + 1 + 3 * i) (σ 1 5))), (3, .int x3), (4, .int x4), (5, .int 1), (6, .int (nI a))] → W p l e rm_L_isSnailSo s m args below meth c H locs 0 0 (MQ below (PoI D cy z o d 1 σ τ) args s 0 0 (fz z)) (F0 m 79 ls []) := by
  obtain ⟨hx, hb, hr, hml, hown, hW, hlocks, hAm⟩ := id C
  intro n
  induction n with
  | zero =>
    intro x3 x4 a H locs hp9 hq9 hn9 hP hS ls hl
    exact absurd hn9 (by omega)
  | succ n ih =>
    intro x3 x4 a H locs hp9 hq9 hn9 hP hS ls hl
    refine lv_iload hx hb dL_isSnailSo_79 (lv_at hl 6 rfl) ?_
    refine lv_iconst (v := 4) hx hb dL_isSnailSo_81 (by decide) ?_
    refine lv_icmp_ge (tgt := 131) hx hb dL_isSnailSo_82 (by decide) (fun c_82 => ?_) (fun c_82 => ?_)
    · have d_82 : 4 ≤ a := (cI_le (a := 4) (b := a) rfl rfl (by omega) (by omega)).mp c_82
      refine lv_iload hx hb dL_isSnailSo_131 (lv_at hl 5 rfl) ?_
      refine lv_if_eq (tgt := 193) hx hb dL_isSnailSo_133 (by decide) (fun c_133 => ?_) (fun c_133 => ?_)
      · exact absurd c_133 (by decide)
      · refine lv_iload_n hx hb dL_isSnailSo_136 rfl (lv_at hl 3 rfl) ?_
        refine lv_iconst (v := 1) hx hb dL_isSnailSo_137 (by decide) ?_
        refine lv_icmp_ne (tgt := 193) hx hb dL_isSnailSo_138 (by decide) (fun c_138 => ?_) (fun c_138 => ?_)
        · exact absurd (cn_e hp9 d_82 hn9.1 hc1) c_138
        · refine lv_iload hx hb dL_isSnailSo_141 (lv_at hl 4 rfl) ?_
          refine lv_iconst (v := 1) hx hb dL_isSnailSo_143 (by decide) ?_
          refine lv_icmp_ne (tgt := 193) hx hb dL_isSnailSo_144 (by decide) (fun c_144 => ?_) (fun c_144 => ?_)
          · exact absurd (cn_e hq9 d_82 hn9.1 hc2) c_144
          · refine lv_aload_n hx hb dL_isSnailSo_147 rfl (lv_at hl 0 rfl) ?_
            refine lv_iload_n hx hb dL_isSnailSo_148 rfl (lv_at hl 1 rfl) ?_
            refine okE_I (rx_logLength hi) (rd_logLength hi) rfl (runT_V (As := [.int (nI i)]) (rest := []) C (k_X5_logLength l hfl D cy z o d σ τ (rfl : kd 0 = 5) (nI i)) hP hS cw_X5_logLength (mA2 (i := 72) rfl rfl) (rfl : kd 0 = 5) ⟨Nat.le_of_ble_eq_true rfl, Nat.le_of_ble_eq_true rfl⟩ rfl (Nat.le_of_ble_eq_true rfl) hl.1 (tcc_0 (rx_logLength hi) ⟨Nat.zero_le _, Nat.zero_le _⟩) dL_isSnailSo_149) hS (fun H locs hP hS => ?_)
            rw [hl9]
            refine lv_if_lt (tgt := 193) hx hb dL_isSnailSo_152 (by decide) (fun c_152 => ?_) (fun c_152 => ?_)
            · exact absurd c_152 ((so_a hL9).1)
            · refine lv_aload_n hx hb dL_isSnailSo_155 rfl (lv_at hl 0 rfl) ?_
              refine lv_iload_n hx hb dL_isSnailSo_156 rfl (lv_at hl 1 rfl) ?_
              refine okE_I (rx_logLength hi) (rd_logLength hi) rfl (runT_V (As := [.int (nI i)]) (rest := []) C (k_X5_logLength l hfl D cy z o d σ τ (rfl : kd 0 = 5) (nI i)) hP hS cw_X5_logLength (mA2 (i := 72) rfl rfl) (rfl : kd 0 = 5) ⟨Nat.le_of_ble_eq_true rfl, Nat.le_of_ble_eq_true rfl⟩ rfl (Nat.le_of_ble_eq_true rfl) hl.1 (tcc_0 (rx_logLength hi) ⟨Nat.zero_le _, Nat.zero_le _⟩) dL_isSnailSo_157) hS (fun H locs hP hS => ?_)
              rw [hl9]
              refine lv_bipush (v := 17) hx hb dL_isSnailSo_160 (by decide) ?_
              refine lv_icmp_ge (tgt := 193) hx hb dL_isSnailSo_162 (by decide) (fun c_162 => ?_) (fun c_162 => ?_)
              · exact absurd c_162 ((so_a hL9).2)
              · refine lv_aload_n hx hb dL_isSnailSo_165 rfl (lv_at hl 0 rfl) ?_
                refine lv_iload_n hx hb dL_isSnailSo_166 rfl (lv_at hl 1 rfl) ?_
                refine okE_D (rx_speedOf hi) (rd_speedOf hi) rfl (runT_V (As := [.int (nI i)]) (rest := []) C (k_X5_speedOf l hfl D cy z o d σ τ (rfl : kd 0 = 5) (nI i) h.2.2.2) hP hS cw_X5_speedOf (mA3 (i := 52) rfl rfl) (rfl : kd 0 = 5) ⟨Nat.le_of_ble_eq_true rfl, Nat.le_of_ble_eq_true rfl⟩ rfl (Nat.le_of_ble_eq_true rfl) hl.1 (tcc_0 (rx_speedOf hi) ⟨Nat.zero_le _, Nat.zero_le _⟩) dL_isSnailSo_167) hS (fun H locs hP hS => ?_)
                refine lv_ldc2d (v := 13879882945323335680) hx hb hown (hW _ (mA3 (i := 63) rfl rfl)) dL_isSnailSo_170 ?_
                refine lv_dcmp hx hb dL_isSnailSo_173 ?_
                refine lv_if_lt (tgt := 193) hx hb dL_isSnailSo_174 (by decide) (fun c_174 => ?_) (fun c_174 => ?_)
                · exact absurd c_174 (hs9.1)
                · refine lv_aload_n hx hb dL_isSnailSo_177 rfl (lv_at hl 0 rfl) ?_
                  refine lv_iload_n hx hb dL_isSnailSo_178 rfl (lv_at hl 1 rfl) ?_
                  refine okE_D (rx_speedOf hi) (rd_speedOf hi) rfl (runT_V (As := [.int (nI i)]) (rest := []) C (k_X5_speedOf l hfl D cy z o d σ τ (rfl : kd 0 = 5) (nI i) h.2.2.2) hP hS cw_X5_speedOf (mA3 (i := 52) rfl rfl) (rfl : kd 0 = 5) ⟨Nat.le_of_ble_eq_true rfl, Nat.le_of_ble_eq_true rfl⟩ rfl (Nat.le_of_ble_eq_true rfl) hl.1 (tcc_0 (rx_speedOf hi) ⟨Nat.zero_le _, Nat.zero_le _⟩) dL_isSnailSo_179) hS (fun H locs hP hS => ?_)
                  refine lv_ldc2d (v := 4656510908468559872) hx hb hown (hW _ (mA3 (i := 64) rfl rfl)) dL_isSnailSo_182 ?_
                  refine lv_dcmp hx hb dL_isSnailSo_185 ?_
                  refine lv_if_gt (tgt := 193) hx hb dL_isSnailSo_186 (by decide) (fun c_186 => ?_) (fun c_186 => ?_)
                  · exact absurd c_186 (hs9.2)
                  · refine lv_iconst (v := 1) hx hb dL_isSnailSo_189 (by decide) ?_
                    refine lv_goto (tgt := 194) hx hb dL_isSnailSo_190 (by decide) ?_
                    refine lv_istore (lv' := [(5, .int 1), (0, .ref (z + 0)), (1, .int (nI i)), (2, .int (f_X4_placeIn σ (1 + 1 + 3 * i) (σ 1 5))), (3, .int x3), (4, .int x4), (6, .int (nI a))]) hx hb dL_isSnailSo_194 hl (by decide) rfl (fun ls hl => ?_)
                    refine lv_iload hx hb dL_isSnailSo_196 (lv_at hl 0 rfl) ?_
                    refine lv_if_eq (tgt := 267) hx hb dL_isSnailSo_198 (by decide) (fun c_198 => ?_) (fun c_198 => ?_)
                    · exact absurd c_198 (by decide)
                    · refine lv_aload_n hx hb dL_isSnailSo_201 rfl (lv_at hl 1 rfl) ?_
                      refine lv_iload_n hx hb dL_isSnailSo_202 rfl (lv_at hl 2 rfl) ?_
                      refine okE_I (rx_distanceOf hi) (rd_distanceOf hi) rfl (runT_V (As := [.int (nI i)]) (rest := []) C (k_X5_distanceOf l hfl D cy z o d σ τ (rfl : kd 0 = 5) (nI i)) hP hS cw_X5_distanceOf (mA2 (i := 88) rfl rfl) (rfl : kd 0 = 5) ⟨Nat.le_of_ble_eq_true rfl, Nat.le_of_ble_eq_true rfl⟩ rfl (Nat.le_of_ble_eq_true rfl) hl.1 (tcc_0 (rx_distanceOf hi) ⟨Nat.zero_le _, Nat.zero_le _⟩) dL_isSnailSo_203) hS (fun H locs hP hS => ?_)
                      refine lv_aload_n hx hb dL_isSnailSo_206 rfl (lv_at hl 1 rfl) ?_
                      refine lv_iload_n hx hb dL_isSnailSo_207 rfl (lv_at hl 2 rfl) ?_
                      refine okE_I (rx_positionOf hi) (rd_positionOf hi) rfl (runT_V (As := [.int (nI i)]) (rest := [.int (σ (1 + 1 + 3 * i) 10)]) C (k_X5_positionOf l hfl D cy z o d σ τ (rfl : kd 0 = 5) (nI i)) hP hS cw_X5_positionOf (mA2 (i := 64) rfl rfl) (rfl : kd 0 = 5) ⟨Nat.le_of_ble_eq_true rfl, Nat.le_of_ble_eq_true rfl⟩ rfl (Nat.le_of_ble_eq_true rfl) hl.1 (tcc_0 (rx_positionOf hi) ⟨Nat.zero_le _, Nat.zero_le _⟩) dL_isSnailSo_208) hS (fun H locs hP hS => ?_)
                      refine thnE_I rfl rfl (run_S (As := [.int (σ (1 + 1 + 3 * i) 2)]) (rest := [.int (σ (1 + 1 + 3 * i) 10)]) C (k_L_size l D cy z o d σ τ (σ (1 + 1 + 3 * i) 2)) hP hS cw_L_size (mA2 (i := 169) rfl rfl) ⟨rfl, rfl⟩ ⟨Nat.le_of_ble_eq_true rfl, Nat.le_of_ble_eq_true rfl⟩ rfl (Nat.le_of_ble_eq_true rfl) hl.1 ⟨Nat.zero_le _, Nat.zero_le _⟩ dL_isSnailSo_211) hS (fun H locs hP hS => ?_)
                      refine lv_aload_n hx hb dL_isSnailSo_214 rfl (lv_at hl 1 rfl) ?_
                      refine lv_iload_n hx hb dL_isSnailSo_215 rfl (lv_at hl 2 rfl) ?_
                      refine okE_I (rx_slipsOf hi) (rd_slipsOf hi) rfl (runT_V (As := [.int (nI i)]) (rest := [.int (f_L_size (σ (1 + 1 + 3 * i) 2)), .int (σ (1 + 1 + 3 * i) 10)]) C (k_X5_slipsOf l hfl D cy z o d σ τ (rfl : kd 0 = 5) (nI i)) hP hS cw_X5_slipsOf (mA2 (i := 209) rfl rfl) (rfl : kd 0 = 5) ⟨Nat.le_of_ble_eq_true rfl, Nat.le_of_ble_eq_true rfl⟩ rfl (Nat.le_of_ble_eq_true rfl) hl.1 (tcc_0 (rx_slipsOf hi) ⟨Nat.zero_le _, Nat.zero_le _⟩) dL_isSnailSo_216) hS (fun H locs hP hS => ?_)
                      refine lv_isub hx hb dL_isSnailSo_219 ?_
                      refine lv_icmp_lt (tgt := 267) hx hb dL_isSnailSo_220 (by decide) (fun c_220 => ?_) (fun c_220 => ?_)
                      · exact absurd c_220 hd9
                      · refine lv_aload_n hx hb dL_isSnailSo_223 rfl (lv_at hl 1 rfl) ?_
                        refine lv_aload_n hx hb dL_isSnailSo_224 rfl (lv_at hl 1 rfl) ?_
                        refine thnE_I he9 rfl (run_V (As := []) (rest := [.ref (z + 0)]) C (k_X5_leader l D cy z o d σ τ (rfl : kd 0 = 5)) hP hS cw_X5_leader (mA3 (i := 65) rfl rfl) (rfl : kd 0 = 5) ⟨rfl, rfl⟩ ⟨Nat.le_of_ble_eq_true rfl, Nat.le_of_ble_eq_true rfl⟩ rfl (Nat.le_of_ble_eq_true rfl) hl.1 ⟨Nat.zero_le _, Nat.zero_le _⟩ dL_isSnailSo_225) hS (fun H locs hP hS => ?_)
                        refine okE_I (rx_positionOf hb4) (rd_positionOf hb4) rfl (runT_V (As := [.int (nI b)]) (rest := []) C (k_X5_positionOf l hfl D cy z o d σ τ (rfl : kd 0 = 5) (nI b)) hP hS cw_X5_positionOf (mA2 (i := 64) rfl rfl) (rfl : kd 0 = 5) ⟨Nat.le_of_ble_eq_true rfl, Nat.le_of_ble_eq_true rfl⟩ rfl (Nat.le_of_ble_eq_true rfl) hl.1 (tcc_0 (rx_positionOf hb4) ⟨Nat.zero_le _, Nat.zero_le _⟩) dL_isSnailSo_228) hS (fun H locs hP hS => ?_)
                        refine lv_aload_n hx hb dL_isSnailSo_231 rfl (lv_at hl 1 rfl) ?_
                        refine lv_iload_n hx hb dL_isSnailSo_232 rfl (lv_at hl 2 rfl) ?_
                        refine okE_I (rx_positionOf hi) (rd_positionOf hi) rfl (runT_V (As := [.int (nI i)]) (rest := [.int (σ (1 + 1 + 3 * b) 2)]) C (k_X5_positionOf l hfl D cy z o d σ τ (rfl : kd 0 = 5) (nI i)) hP hS cw_X5_positionOf (mA2 (i := 64) rfl rfl) (rfl : kd 0 = 5) ⟨Nat.le_of_ble_eq_true rfl, Nat.le_of_ble_eq_true rfl⟩ rfl (Nat.le_of_ble_eq_true rfl) hl.1 (tcc_0 (rx_positionOf hi) ⟨Nat.zero_le _, Nat.zero_le _⟩) dL_isSnailSo_233) hS (fun H locs hP hS => ?_)
                        refine lv_icmp_lt (tgt := 267) hx hb dL_isSnailSo_236 (by decide) (fun c_236 => ?_) (fun c_236 => ?_)
                        · exact absurd c_236 (Int32.not_lt.mpr (hm9 i hi))
                        · refine lv_aload_n hx hb dL_isSnailSo_239 rfl (lv_at hl 1 rfl) ?_
                          refine lv_aload_n hx hb dL_isSnailSo_240 rfl (lv_at hl 1 rfl) ?_
                          refine thnE_I he9 rfl (run_V (As := []) (rest := [.ref (z + 0)]) C (k_X5_leader l D cy z o d σ τ (rfl : kd 0 = 5)) hP hS cw_X5_leader (mA3 (i := 65) rfl rfl) (rfl : kd 0 = 5) ⟨rfl, rfl⟩ ⟨Nat.le_of_ble_eq_true rfl, Nat.le_of_ble_eq_true rfl⟩ rfl (Nat.le_of_ble_eq_true rfl) hl.1 ⟨Nat.zero_le _, Nat.zero_le _⟩ dL_isSnailSo_241) hS (fun H locs hP hS => ?_)
                          refine okE_I (rx_positionOf hb4) (rd_positionOf hb4) rfl (runT_V (As := [.int (nI b)]) (rest := []) C (k_X5_positionOf l hfl D cy z o d σ τ (rfl : kd 0 = 5) (nI b)) hP hS cw_X5_positionOf (mA2 (i := 64) rfl rfl) (rfl : kd 0 = 5) ⟨Nat.le_of_ble_eq_true rfl, Nat.le_of_ble_eq_true rfl⟩ rfl (Nat.le_of_ble_eq_true rfl) hl.1 (tcc_0 (rx_positionOf hb4) ⟨Nat.zero_le _, Nat.zero_le _⟩) dL_isSnailSo_244) hS (fun H locs hP hS => ?_)
                          refine lv_aload_n hx hb dL_isSnailSo_247 rfl (lv_at hl 1 rfl) ?_
                          refine lv_iload_n hx hb dL_isSnailSo_248 rfl (lv_at hl 2 rfl) ?_
                          refine okE_I (rx_positionOf hi) (rd_positionOf hi) rfl (runT_V (As := [.int (nI i)]) (rest := [.int (σ (1 + 1 + 3 * b) 2)]) C (k_X5_positionOf l hfl D cy z o d σ τ (rfl : kd 0 = 5) (nI i)) hP hS cw_X5_positionOf (mA2 (i := 64) rfl rfl) (rfl : kd 0 = 5) ⟨Nat.le_of_ble_eq_true rfl, Nat.le_of_ble_eq_true rfl⟩ rfl (Nat.le_of_ble_eq_true rfl) hl.1 (tcc_0 (rx_positionOf hi) ⟨Nat.zero_le _, Nat.zero_le _⟩) dL_isSnailSo_249) hS (fun H locs hP hS => ?_)
                          refine lv_icmp_gt (tgt := 263) hx hb dL_isSnailSo_252 (by decide) (fun c_252 => ?_) (fun c_252 => ?_)
                          · refine lv_iconst (v := 1) hx hb dL_isSnailSo_263 (by decide) ?_
                            refine lv_goto (tgt := 268) hx hb dL_isSnailSo_264 (by decide) ?_
                            exact ret_I C hP hS nar_z1 rfl rfl rfl rfl dL_isSnailSo_268
                          · refine lv_aload_n hx hb dL_isSnailSo_255 rfl (lv_at hl 1 rfl) ?_
                            refine thnE_I he9 rfl (run_V (As := []) (rest := []) C (k_X5_leader l D cy z o d σ τ (rfl : kd 0 = 5)) hP hS cw_X5_leader (mA3 (i := 65) rfl rfl) (rfl : kd 0 = 5) ⟨rfl, rfl⟩ ⟨Nat.le_of_ble_eq_true rfl, Nat.le_of_ble_eq_true rfl⟩ rfl (Nat.le_of_ble_eq_true rfl) hl.1 ⟨Nat.zero_le _, Nat.zero_le _⟩ dL_isSnailSo_256) hS (fun H locs hP hS => ?_)
                            refine lv_iload_n hx hb dL_isSnailSo_259 rfl (lv_at hl 2 rfl) ?_
                            refine lv_icmp_gt (tgt := 267) hx hb dL_isSnailSo_260 (by decide) (fun c_260 => ?_) (fun c_260 => ?_)
                            · exact absurd c_260 (so_b hb4 hi hk9 c_252)
                            · refine lv_iconst (v := 1) hx hb dL_isSnailSo_263 (by decide) ?_
                              refine lv_goto (tgt := 268) hx hb dL_isSnailSo_264 (by decide) ?_
                              exact ret_I C hP hS nar_z1 rfl rfl rfl rfl dL_isSnailSo_268
    · have d_82 : ¬ (4 ≤ a) := fun h9 => c_82 ((cI_le (a := 4) (b := a) rfl rfl (by omega) (by omega)).mpr h9)
      refine lv_iload_n hx hb dL_isSnailSo_85 rfl (lv_at hl 3 rfl) ?_
      refine lv_aload_n hx hb dL_isSnailSo_86 rfl (lv_at hl 0 rfl) ?_
      refine lv_iload_n hx hb dL_isSnailSo_87 rfl (lv_at hl 1 rfl) ?_
      refine lv_iload hx hb dL_isSnailSo_88 (lv_at hl 6 rfl) ?_
      refine okE_I (rx_stepTo hi (st_j a (by omega))) (rd_stepTo hi (st_j a (by omega))) rfl (runT_V (As := [.int (nI i), .int (nI a)]) (rest := [.int x3]) C (k_X5_stepTo l hfl D cy z o d σ τ (rfl : kd 0 = 5) (nI i) (nI a)) hP hS cw_X5_stepTo (mA1 (i := 194) rfl rfl) (rfl : kd 0 = 5) ⟨Nat.le_of_ble_eq_true rfl, Nat.le_of_ble_eq_true rfl⟩ rfl (Nat.le_of_ble_eq_true rfl) hl.1 (tcc_0 (rx_stepTo hi (st_j a (by omega))) ⟨Nat.zero_le _, Nat.zero_le _⟩) dL_isSnailSo_90) hS (fun H locs hP hS => ?_)
      refine lv_iconst (v := 1) hx hb dL_isSnailSo_93 (by decide) ?_
      refine lv_icmp_ne (tgt := 101) hx hb dL_isSnailSo_94 (by decide) (fun c_94 => ?_) (fun c_94 => ?_)
      · refine lv_iconst (v := 0) hx hb dL_isSnailSo_101 (by decide) ?_
        refine lv_iadd hx hb dL_isSnailSo_102 ?_
        refine lv_istore_n (lv' := [(3, .int (x3 + 0)), (0, .ref (z + 0)), (1, .int (nI i)), (2, .int (f_X4_placeIn σ (1 + 1 + 3 * i) (σ 1 5))), (4, .int x4), (5, .int 1), (6, .int (nI a))]) hx hb dL_isSnailSo_103 rfl hl (by decide) rfl (fun ls hl => ?_)
        refine lv_iload hx hb dL_isSnailSo_104 (lv_at hl 4 rfl) ?_
        refine lv_aload_n hx hb dL_isSnailSo_106 rfl (lv_at hl 1 rfl) ?_
        refine lv_iload_n hx hb dL_isSnailSo_107 rfl (lv_at hl 2 rfl) ?_
        refine lv_iload hx hb dL_isSnailSo_108 (lv_at hl 6 rfl) ?_
        refine okE_I (rx_stepTo hi (st_j a (by omega))) (rd_stepTo hi (st_j a (by omega))) rfl (runT_V (As := [.int (nI i), .int (nI a)]) (rest := [.int x4]) C (k_X5_stepTo l hfl D cy z o d σ τ (rfl : kd 0 = 5) (nI i) (nI a)) hP hS cw_X5_stepTo (mA1 (i := 194) rfl rfl) (rfl : kd 0 = 5) ⟨Nat.le_of_ble_eq_true rfl, Nat.le_of_ble_eq_true rfl⟩ rfl (Nat.le_of_ble_eq_true rfl) hl.1 (tcc_0 (rx_stepTo hi (st_j a (by omega))) ⟨Nat.zero_le _, Nat.zero_le _⟩) dL_isSnailSo_110) hS (fun H locs hP hS => ?_)
        refine lv_iconst (v := (-1)) hx hb dL_isSnailSo_113 (by decide) ?_
        refine lv_icmp_ne (tgt := 121) hx hb dL_isSnailSo_114 (by decide) (fun c_114 => ?_) (fun c_114 => ?_)
        · refine lv_iconst (v := 0) hx hb dL_isSnailSo_121 (by decide) ?_
          refine lv_iadd hx hb dL_isSnailSo_122 ?_
          refine lv_istore (lv' := [(4, .int (x4 + 0)), (3, .int (x3 + 0)), (0, .ref (z + 0)), (1, .int (nI i)), (2, .int (f_X4_placeIn σ (1 + 1 + 3 * i) (σ 1 5))), (5, .int 1), (6, .int (nI a))]) hx hb dL_isSnailSo_123 hl (by decide) rfl (fun ls hl => ?_)
          refine lv_iinc (v := nI (a + 1)) (lv' := [(6, .int (nI (a + 1))), (4, .int (x4 + 0)), (3, .int (x3 + 0)), (0, .ref (z + 0)), (1, .int (nI i)), (2, .int (f_X4_placeIn σ (1 + 1 + 3 * i) (σ 1 5))), (5, .int 1)]) hx hb dL_isSnailSo_125 hl (k := 6) rfl (nI_1 a) (by decide) rfl (fun ls hl => ?_)
          refine lv_goto (tgt := 79) hx hb dL_isSnailSo_128 (by decide) ?_
          exact ih (x3 + 0) (x4 + 0) (a + 1) _ _ (cn_n hp9 c_94) (cn_n hq9 c_114) ⟨by omega, by omega⟩ hP hS ls (lv_sub hl [3, 4, 5, 2, 1, 6, 0] rfl)
        · refine lv_iconst (v := 1) hx hb dL_isSnailSo_117 (by decide) ?_
          refine lv_goto (tgt := 122) hx hb dL_isSnailSo_118 (by decide) ?_
          refine lv_iadd hx hb dL_isSnailSo_122 ?_
          refine lv_istore (lv' := [(4, .int (x4 + 1)), (3, .int (x3 + 0)), (0, .ref (z + 0)), (1, .int (nI i)), (2, .int (f_X4_placeIn σ (1 + 1 + 3 * i) (σ 1 5))), (5, .int 1), (6, .int (nI a))]) hx hb dL_isSnailSo_123 hl (by decide) rfl (fun ls hl => ?_)
          refine lv_iinc (v := nI (a + 1)) (lv' := [(6, .int (nI (a + 1))), (4, .int (x4 + 1)), (3, .int (x3 + 0)), (0, .ref (z + 0)), (1, .int (nI i)), (2, .int (f_X4_placeIn σ (1 + 1 + 3 * i) (σ 1 5))), (5, .int 1)]) hx hb dL_isSnailSo_125 hl (k := 6) rfl (nI_1 a) (by decide) rfl (fun ls hl => ?_)
          refine lv_goto (tgt := 79) hx hb dL_isSnailSo_128 (by decide) ?_
          exact ih (x3 + 0) (x4 + 1) (a + 1) _ _ (cn_n hp9 c_94) (cn_y hq9 c_114) ⟨by omega, by omega⟩ hP hS ls (lv_sub hl [3, 4, 5, 2, 1, 6, 0] rfl)
      · refine lv_iconst (v := 1) hx hb dL_isSnailSo_97 (by decide) ?_
        refine lv_goto (tgt := 102) hx hb dL_isSnailSo_98 (by decide) ?_
        refine lv_iadd hx hb dL_isSnailSo_102 ?_
        refine lv_istore_n (lv' := [(3, .int (x3 + 1)), (0, .ref (z + 0)), (1, .int (nI i)), (2, .int (f_X4_placeIn σ (1 + 1 + 3 * i) (σ 1 5))), (4, .int x4), (5, .int 1), (6, .int (nI a))]) hx hb dL_isSnailSo_103 rfl hl (by decide) rfl (fun ls hl => ?_)
        refine lv_iload hx hb dL_isSnailSo_104 (lv_at hl 4 rfl) ?_
        refine lv_aload_n hx hb dL_isSnailSo_106 rfl (lv_at hl 1 rfl) ?_
        refine lv_iload_n hx hb dL_isSnailSo_107 rfl (lv_at hl 2 rfl) ?_
        refine lv_iload hx hb dL_isSnailSo_108 (lv_at hl 6 rfl) ?_
        refine okE_I (rx_stepTo hi (st_j a (by omega))) (rd_stepTo hi (st_j a (by omega))) rfl (runT_V (As := [.int (nI i), .int (nI a)]) (rest := [.int x4]) C (k_X5_stepTo l hfl D cy z o d σ τ (rfl : kd 0 = 5) (nI i) (nI a)) hP hS cw_X5_stepTo (mA1 (i := 194) rfl rfl) (rfl : kd 0 = 5) ⟨Nat.le_of_ble_eq_true rfl, Nat.le_of_ble_eq_true rfl⟩ rfl (Nat.le_of_ble_eq_true rfl) hl.1 (tcc_0 (rx_stepTo hi (st_j a (by omega))) ⟨Nat.zero_le _, Nat.zero_le _⟩) dL_isSnailSo_110) hS (fun H locs hP hS => ?_)
        refine lv_iconst (v := (-1)) hx hb dL_isSnailSo_113 (by decide) ?_
        refine lv_icmp_ne (tgt := 121) hx hb dL_isSnailSo_114 (by decide) (fun c_114 => ?_) (fun c_114 => ?_)
        · refine lv_iconst (v := 0) hx hb dL_isSnailSo_121 (by decide) ?_
          refine lv_iadd hx hb dL_isSnailSo_122 ?_
          refine lv_istore (lv' := [(4, .int (x4 + 0)), (3, .int (x3 + 1)), (0, .ref (z + 0)), (1, .int (nI i)), (2, .int (f_X4_placeIn σ (1 + 1 + 3 * i) (σ 1 5))), (5, .int 1), (6, .int (nI a))]) hx hb dL_isSnailSo_123 hl (by decide) rfl (fun ls hl => ?_)
          refine lv_iinc (v := nI (a + 1)) (lv' := [(6, .int (nI (a + 1))), (4, .int (x4 + 0)), (3, .int (x3 + 1)), (0, .ref (z + 0)), (1, .int (nI i)), (2, .int (f_X4_placeIn σ (1 + 1 + 3 * i) (σ 1 5))), (5, .int 1)]) hx hb dL_isSnailSo_125 hl (k := 6) rfl (nI_1 a) (by decide) rfl (fun ls hl => ?_)
          refine lv_goto (tgt := 79) hx hb dL_isSnailSo_128 (by decide) ?_
          exact ih (x3 + 1) (x4 + 0) (a + 1) _ _ (cn_y hp9 c_94) (cn_n hq9 c_114) ⟨by omega, by omega⟩ hP hS ls (lv_sub hl [3, 4, 5, 2, 1, 6, 0] rfl)
        · refine lv_iconst (v := 1) hx hb dL_isSnailSo_117 (by decide) ?_
          refine lv_goto (tgt := 122) hx hb dL_isSnailSo_118 (by decide) ?_
          refine lv_iadd hx hb dL_isSnailSo_122 ?_
          refine lv_istore (lv' := [(4, .int (x4 + 1)), (3, .int (x3 + 1)), (0, .ref (z + 0)), (1, .int (nI i)), (2, .int (f_X4_placeIn σ (1 + 1 + 3 * i) (σ 1 5))), (5, .int 1), (6, .int (nI a))]) hx hb dL_isSnailSo_123 hl (by decide) rfl (fun ls hl => ?_)
          refine lv_iinc (v := nI (a + 1)) (lv' := [(6, .int (nI (a + 1))), (4, .int (x4 + 1)), (3, .int (x3 + 1)), (0, .ref (z + 0)), (1, .int (nI i)), (2, .int (f_X4_placeIn σ (1 + 1 + 3 * i) (σ 1 5))), (5, .int 1)]) hx hb dL_isSnailSo_125 hl (k := 6) rfl (nI_1 a) (by decide) rfl (fun ls hl => ?_)
          refine lv_goto (tgt := 79) hx hb dL_isSnailSo_128 (by decide) ?_
          exact ih (x3 + 1) (x4 + 1) (a + 1) _ _ (cn_y hp9 c_94) (cn_y hq9 c_114) ⟨by omega, by omega⟩ hP hS ls (lv_sub hl [3, 4, 5, 2, 1, 6, 0] rfl)
set_option maxHeartbeats 4000000 in
set_option maxRecDepth 100000 in
theorem k_L_isSnailSo (l : Launch) (hfl : l.stackTraces = false) (D : va_G) (cy : Nat → ClassId) (z : Nat) (o : Int64) (d : UInt64) (τ : Sg) {σ : Sg} {B i : Nat} (h : GN B σ) (hi : i < 4) (hB : B ≤ 500000000) : KI l yL_isSnailSo cL_isSnailSo 7 (some .boolean) rm_L_isSnailSo D cy z [.ref (z + 0), .int (nI i)] o d σ τ 1 σ τ := by
  refine met_of RL (plainFor_of_name (by decide)) rfl (Nat.le_of_ble_eq_true rfl) ?_
  intro p e s m args below meth c C hP hS ls hl
  obtain ⟨hx, hb, hr, hml, hown, hW, hlocks, hAm⟩ := id C
  have hl : lv_has ls 7 [(0, .ref (z + 0)), (1, .int (nI i))] := hl
  obtain ⟨E, L, hN⟩ := h.1 i hi
  obtain ⟨q1, q2, q3, q4, hd9⟩ := so_facts h hN hB
  obtain ⟨hc1, hc2⟩ := cn_ok hN.1 hN.2.1 h.2.1
  have hl9 : σ (1 + 1 + 3 * i + 1) 2 = nI L := hN.2.2.2.2.choose_spec.2.2.1
  have hL9 : L ≤ 16 := hN.2.2.2.2.choose_spec.1
  have hs9 := spd_ok hN
  obtain ⟨b, hb4, he9, hm9, hk9⟩ := lead_ok σ
  refine lv_aload_n hx hb dL_isSnailSo_0 rfl (lv_at hl 0 rfl) ?_
  refine lv_iload_n hx hb dL_isSnailSo_1 rfl (lv_at hl 1 rfl) ?_
  refine okE_I (rx_placeOf hi) (rd_placeOf hi) rfl (runT_V (As := [.int (nI i)]) (rest := []) C (k_X5_placeOf l hfl D cy z o d σ τ (rfl : kd 0 = 5) (nI i)) hP hS cw_X5_placeOf (mA2 (i := 198) rfl rfl) (rfl : kd 0 = 5) ⟨Nat.le_of_ble_eq_true rfl, Nat.le_of_ble_eq_true rfl⟩ rfl (Nat.le_of_ble_eq_true rfl) hl.1 (tcc_0 (rx_placeOf hi) ⟨Nat.zero_le _, Nat.zero_le _⟩) dL_isSnailSo_2) hS (fun H locs hP hS => ?_)
  refine lv_istore_n (lv' := [(2, .int (f_X4_placeIn σ (1 + 1 + 3 * i) (σ 1 5))), (0, .ref (z + 0)), (1, .int (nI i))]) hx hb dL_isSnailSo_5 rfl hl (by decide) rfl (fun ls hl => ?_)
  refine lv_iconst (v := 0) hx hb dL_isSnailSo_6 (by decide) ?_
  refine lv_istore_n (lv' := [(3, .int 0), (2, .int (f_X4_placeIn σ (1 + 1 + 3 * i) (σ 1 5))), (0, .ref (z + 0)), (1, .int (nI i))]) hx hb dL_isSnailSo_7 rfl hl (by decide) rfl (fun ls hl => ?_)
  refine lv_iconst (v := 0) hx hb dL_isSnailSo_8 (by decide) ?_
  refine lv_istore (lv' := [(4, .int 0), (3, .int 0), (2, .int (f_X4_placeIn σ (1 + 1 + 3 * i) (σ 1 5))), (0, .ref (z + 0)), (1, .int (nI i))]) hx hb dL_isSnailSo_9 hl (by decide) rfl (fun ls hl => ?_)
  refine lv_aload_n hx hb dL_isSnailSo_11 rfl (lv_at hl 3 rfl) ?_
  refine lv_iload_n hx hb dL_isSnailSo_12 rfl (lv_at hl 4 rfl) ?_
  refine okE_I (rx_positionByTracks hi) (rd_positionByTracks hi) rfl (runT_V (As := [.int (nI i)]) (rest := []) C (k_X5_positionByTracks l hfl D cy z o d σ τ (rfl : kd 0 = 5) (nI i)) hP hS cw_X5_positionByTracks (mA3 (i := 37) rfl rfl) (rfl : kd 0 = 5) ⟨Nat.le_of_ble_eq_true rfl, Nat.le_of_ble_eq_true rfl⟩ rfl (Nat.le_of_ble_eq_true rfl) hl.1 (tcc_0 (rx_positionByTracks hi) ⟨Nat.zero_le _, Nat.zero_le _⟩) dL_isSnailSo_13) hS (fun H locs hP hS => ?_)
  refine lv_aload_n hx hb dL_isSnailSo_16 rfl (lv_at hl 3 rfl) ?_
  refine lv_iload_n hx hb dL_isSnailSo_17 rfl (lv_at hl 4 rfl) ?_
  refine okE_I (rx_positionOf hi) (rd_positionOf hi) rfl (runT_V (As := [.int (nI i)]) (rest := [.int (σ (1 + 1 + 3 * i) 4 + σ (1 + 1 + 3 * i) 5 + σ (1 + 1 + 3 * i) 6 - σ (1 + 1 + 3 * i) 7)]) C (k_X5_positionOf l hfl D cy z o d σ τ (rfl : kd 0 = 5) (nI i)) hP hS cw_X5_positionOf (mA2 (i := 64) rfl rfl) (rfl : kd 0 = 5) ⟨Nat.le_of_ble_eq_true rfl, Nat.le_of_ble_eq_true rfl⟩ rfl (Nat.le_of_ble_eq_true rfl) hl.1 (tcc_0 (rx_positionOf hi) ⟨Nat.zero_le _, Nat.zero_le _⟩) dL_isSnailSo_18) hS (fun H locs hP hS => ?_)
  refine lv_icmp_ne (tgt := 73) hx hb dL_isSnailSo_21 (by decide) (fun c_21 => ?_) (fun c_21 => ?_)
  · exact absurd q1 c_21
  · refine lv_aload_n hx hb dL_isSnailSo_24 rfl (lv_at hl 3 rfl) ?_
    refine lv_iload_n hx hb dL_isSnailSo_25 rfl (lv_at hl 4 rfl) ?_
    refine okE_I (rx_turnsOf hi) (rd_turnsOf hi) rfl (runT_V (As := [.int (nI i)]) (rest := []) C (k_X5_turnsOf l hfl D cy z o d σ τ (rfl : kd 0 = 5) (nI i)) hP hS cw_X5_turnsOf (mA3 (i := 41) rfl rfl) (rfl : kd 0 = 5) ⟨Nat.le_of_ble_eq_true rfl, Nat.le_of_ble_eq_true rfl⟩ rfl (Nat.le_of_ble_eq_true rfl) hl.1 (tcc_0 (rx_turnsOf hi) ⟨Nat.zero_le _, Nat.zero_le _⟩) dL_isSnailSo_26) hS (fun H locs hP hS => ?_)
    refine lv_aload_n hx hb dL_isSnailSo_29 rfl (lv_at hl 3 rfl) ?_
    refine thnE_I rd_counts rfl (run_V (As := []) (rest := [.int (f_X4_turnsOver σ (1 + 1 + 3 * i) (σ 1 5))]) C (k_X5_counts l D cy z o d σ τ (rfl : kd 0 = 5)) hP hS cw_X5_counts (mA2 (i := 213) rfl rfl) (rfl : kd 0 = 5) ⟨rfl, rfl⟩ ⟨Nat.le_of_ble_eq_true rfl, Nat.le_of_ble_eq_true rfl⟩ rfl (Nat.le_of_ble_eq_true rfl) hl.1 ⟨Nat.zero_le _, Nat.zero_le _⟩ dL_isSnailSo_30) hS (fun H locs hP hS => ?_)
    refine lv_imul hx hb dL_isSnailSo_33 ?_
    refine lv_iload_n hx hb dL_isSnailSo_34 rfl (lv_at hl 2 rfl) ?_
    refine lv_iadd hx hb dL_isSnailSo_35 ?_
    refine lv_aload_n hx hb dL_isSnailSo_36 rfl (lv_at hl 3 rfl) ?_
    refine lv_iload_n hx hb dL_isSnailSo_37 rfl (lv_at hl 4 rfl) ?_
    refine okE_I (rx_positionOf hi) (rd_positionOf hi) rfl (runT_V (As := [.int (nI i)]) (rest := [.int (((f_X4_turnsOver σ (1 + 1 + 3 * i) (σ 1 5)) * (σ 1 5)) + (f_X4_placeIn σ (1 + 1 + 3 * i) (σ 1 5)))]) C (k_X5_positionOf l hfl D cy z o d σ τ (rfl : kd 0 = 5) (nI i)) hP hS cw_X5_positionOf (mA2 (i := 64) rfl rfl) (rfl : kd 0 = 5) ⟨Nat.le_of_ble_eq_true rfl, Nat.le_of_ble_eq_true rfl⟩ rfl (Nat.le_of_ble_eq_true rfl) hl.1 (tcc_0 (rx_positionOf hi) ⟨Nat.zero_le _, Nat.zero_le _⟩) dL_isSnailSo_38) hS (fun H locs hP hS => ?_)
    refine lv_icmp_ne (tgt := 73) hx hb dL_isSnailSo_41 (by decide) (fun c_41 => ?_) (fun c_41 => ?_)
    · exact absurd q2 c_41
    · refine lv_iload_n hx hb dL_isSnailSo_44 rfl (lv_at hl 2 rfl) ?_
      refine lv_if_lt (tgt := 73) hx hb dL_isSnailSo_45 (by decide) (fun c_45 => ?_) (fun c_45 => ?_)
      · exact absurd c_45 q3
      · refine lv_iload_n hx hb dL_isSnailSo_48 rfl (lv_at hl 2 rfl) ?_
        refine lv_aload_n hx hb dL_isSnailSo_49 rfl (lv_at hl 3 rfl) ?_
        refine thnE_I rd_counts rfl (run_V (As := []) (rest := [.int (f_X4_placeIn σ (1 + 1 + 3 * i) (σ 1 5))]) C (k_X5_counts l D cy z o d σ τ (rfl : kd 0 = 5)) hP hS cw_X5_counts (mA2 (i := 213) rfl rfl) (rfl : kd 0 = 5) ⟨rfl, rfl⟩ ⟨Nat.le_of_ble_eq_true rfl, Nat.le_of_ble_eq_true rfl⟩ rfl (Nat.le_of_ble_eq_true rfl) hl.1 ⟨Nat.zero_le _, Nat.zero_le _⟩ dL_isSnailSo_50) hS (fun H locs hP hS => ?_)
        refine lv_icmp_ge (tgt := 73) hx hb dL_isSnailSo_53 (by decide) (fun c_53 => ?_) (fun c_53 => ?_)
        · exact absurd c_53 q4
        · refine lv_aload_n hx hb dL_isSnailSo_56 rfl (lv_at hl 3 rfl) ?_
          refine lv_iload_n hx hb dL_isSnailSo_57 rfl (lv_at hl 4 rfl) ?_
          refine lv_aload_n hx hb dL_isSnailSo_58 rfl (lv_at hl 3 rfl) ?_
          refine lv_iload_n hx hb dL_isSnailSo_59 rfl (lv_at hl 4 rfl) ?_
          refine okE_I (rx_stateOf hi) (rd_stateOf hi) rfl (runT_V (As := [.int (nI i)]) (rest := [.int (nI i), .ref (z + 0)]) C (k_X5_stateOf l hfl D cy z o d σ τ (rfl : kd 0 = 5) (nI i)) hP hS cw_X5_stateOf (mA2 (i := 80) rfl rfl) (rfl : kd 0 = 5) ⟨Nat.le_of_ble_eq_true rfl, Nat.le_of_ble_eq_true rfl⟩ rfl (Nat.le_of_ble_eq_true rfl) hl.1 (tcc_0 (rx_stateOf hi) ⟨Nat.zero_le _, Nat.zero_le _⟩) dL_isSnailSo_60) hS (fun H locs hP hS => ?_)
          refine okE_I (rx_stepTo hi hN.1) ((rd_stepTo hi hN.1).trans step_self) rfl (runT_V (As := [.int (nI i), .int (σ (1 + 1 + 3 * i) 1)]) (rest := []) C (k_X5_stepTo l hfl D cy z o d σ τ (rfl : kd 0 = 5) (nI i) (σ (1 + 1 + 3 * i) 1)) hP hS cw_X5_stepTo (mA1 (i := 194) rfl rfl) (rfl : kd 0 = 5) ⟨Nat.le_of_ble_eq_true rfl, Nat.le_of_ble_eq_true rfl⟩ rfl (Nat.le_of_ble_eq_true rfl) hl.1 (tcc_0 (rx_stepTo hi hN.1) ⟨Nat.zero_le _, Nat.zero_le _⟩) dL_isSnailSo_63) hS (fun H locs hP hS => ?_)
          refine lv_if_ne (tgt := 73) hx hb dL_isSnailSo_66 (by decide) (fun c_66 => ?_) (fun c_66 => ?_)
          · exact absurd rfl c_66
          · refine lv_iconst (v := 1) hx hb dL_isSnailSo_69 (by decide) ?_
            refine lv_goto (tgt := 74) hx hb dL_isSnailSo_70 (by decide) ?_
            refine lv_istore (lv' := [(5, .int 1), (4, .int 0), (3, .int 0), (2, .int (f_X4_placeIn σ (1 + 1 + 3 * i) (σ 1 5))), (0, .ref (z + 0)), (1, .int (nI i))]) hx hb dL_isSnailSo_74 hl (by decide) rfl (fun ls hl => ?_)
            refine lv_iconst (v := 0) hx hb dL_isSnailSo_76 (by decide) ?_
            refine lv_istore (lv' := [(6, .int 0), (5, .int 1), (4, .int 0), (3, .int 0), (2, .int (f_X4_placeIn σ (1 + 1 + 3 * i) (σ 1 5))), (0, .ref (z + 0)), (1, .int (nI i))]) hx hb dL_isSnailSo_77 hl (by decide) rfl (fun ls hl => ?_)
            exact lpK_L_isSnailSo C o d hfl h hN hi hc1 hc2 hl9 hL9 hs9 hd9 hb4 he9 hm9 hk9 5 0 0 0 _ _ rfl rfl ⟨by omega, by omega⟩ hP hS ls (lv_sub hl [5, 6, 4, 3, 2, 1, 0] rfl)

/-! the law's isBack -/
theorem ps_step {E : Nat → Nat → Int32} {L a : Nat} {x t : Int32} (h : x + PS E (L - a) = t) (ha : a < L) : x + E (L - 1 - a) 0 + PS E (L - (a + 1)) = t := by
  rw [show L - a = (L - 1 - a) + 1 by omega] at h
  rw [show L - (a + 1) = L - 1 - a by omega, ← h]
  show _ = x + (PS E (L - 1 - a) + E (L - 1 - a) 0)
  grind
theorem pa_step {E : Nat → Nat → Int32} {L a : Nat} {x t : Int32} (h : x + PA E (L - a) = t) (ha : a < L) : x + f_L_size (E (L - 1 - a) 0) + PA E (L - (a + 1)) = t := by
  rw [show L - a = (L - 1 - a) + 1 by omega] at h
  rw [show L - (a + 1) = L - 1 - a by omega, ← h, size_ab]
  show _ = x + (PA E (L - 1 - a) + ab (E (L - 1 - a) 0))
  grind
theorem ps_init {E : Nat → Nat → Int32} {L f : Nat} (h : f ≤ L) : 0 + PS E (L - (L - f)) = PS E f := by
  rw [show L - (L - f) = f by omega]
  exact Int32.zero_add _
theorem pa_init {E : Nat → Nat → Int32} {L f : Nat} (h : f ≤ L) : 0 + PA E (L - (L - f)) = PA E f := by
  rw [show L - (L - f) = f by omega]
  exact Int32.zero_add _
theorem ps_end {P : Nat → Int32} {L a : Nat} {x t : Int32} (h : x + P (L - a) = t) (ha : L ≤ a) (h0 : P 0 = 0 := by rfl) : x = t := by
  rw [show L - a = 0 by omega, h0, Int32.add_zero] at h
  exact h
theorem cw_L_isBack : cwSt yL_isBack cL_isBack 9 (some .boolean) 3 := ⟨(mA3 (i := 32) rfl rfl), (mA1 (i := 0) rfl rfl), (mA3 (i := 33) rfl rfl), by decide +kernel⟩
abbrev rm_L_isBack : Room := { frames := 8, cells := 0, slots := 0, locals := 126 }
set_option maxHeartbeats 4000000 in
set_option maxRecDepth 100000 in
theorem lpK_L_isBack {p : Program} {l : Launch} {e : Env} {s : State} {m : MethodId} {args : Array Value} {below : List Frame} {meth : Method} {c : Code} {D : va_G} {cy : Nat → ClassId} {z : Nat} (C : Bd p s m args meth c cL_isBack 9 (some .boolean) RL D cy z) (o : Int64) (d : UInt64) {τ : Sg} (hfl : l.stackTraces = false) {σ σ1 : Sg} {B i L f : Nat} {E : Nat → Nat → Int32} (h : GN B σ) (hN : SnN σ (1 + 1 + 3 * i) E L B) (hi : i < 4) (hL9 : L ≤ 16) (hl9 : σ (1 + 1 + 3 * i + 1) 2 = nI L) (hfL : f ≤ L) (bx : x_X5_goBack σ 0 (nI i) (nI f) = 0) (bf : f_X5_goBack σ 0 (nI i) (nI f) = σ1 (1 + 1 + 3 * i) 2) (b2 : σ1 (1 + 1 + 3 * i) 2 = σ (1 + 1 + 3 * i) 2 - PS E f) (hs1 : s_X5_goBack σ 0 (nI i) (nI f) = σ1) (bl : σ1 (1 + 1 + 3 * i + 1) 2 = nI (L - f)) (b10 : σ1 (1 + 1 + 3 * i) 10 = σ (1 + 1 + 3 * i) 10 + PA E f) (b8 : σ1 (1 + 1 + 3 * i) 8 = σ (1 + 1 + 3 * i) 8) :
    ∀ (n : Nat) (x4 : Int32) (x5 : Int32) (a : Nat) (H : Heap) (locs : List Loc), (x4 + PS E (L - a) = PS E f) → (x5 + PA E (L - a) = PA E f) → (a ≤ L ∧ L - f ≤ a ∧ L + 1 ≤ a + n) → WP D cy z σ τ o d H → va_S (fz z) s.heap H locs → ∀ ls : Array Slot, lv_has ls 9 [(0, .ref (z + 0)), (1, .int (nI i)), (2, .int (nI f)), (3, .int (nI L)), (4, .int x4), (5, .int x5), (6, .int (nI a))] → W p l e rm_L_isBack s m args below meth c H locs 0 0 (MQ below (PoI D cy z o d 1 σ1 τ) args s 0 0 (fz z)) (F0 m 17 ls []) := by
  obtain ⟨hx, hb, hr, hml, hown, hW, hlocks, hAm⟩ := id C
  intro n
  induction n with
  | zero =>
    intro x4 x5 a H locs hp9 hq9 hn9 hP hS ls hl
    exact absurd hn9 (by omega)
  | succ n ih =>
    intro x4 x5 a H locs hp9 hq9 hn9 hP hS ls hl
    refine lv_iload hx hb dL_isBack_17 (lv_at hl 6 rfl) ?_
    refine lv_iload_n hx hb dL_isBack_19 rfl (lv_at hl 3 rfl) ?_
    refine lv_icmp_ge (tgt := 56) hx hb dL_isBack_20 (by decide) (fun c_20 => ?_) (fun c_20 => ?_)
    · have d_20 : L ≤ a := (cI_le rfl rfl (by omega) (by omega)).mp c_20
      refine lv_aload_n hx hb dL_isBack_56 rfl (lv_at hl 0 rfl) ?_
      refine lv_iload_n hx hb dL_isBack_57 rfl (lv_at hl 1 rfl) ?_
      refine okE_I (rx_positionOf hi) (rd_positionOf hi) rfl (runT_V (As := [.int (nI i)]) (rest := []) C (k_X5_positionOf l hfl D cy z o d σ τ (rfl : kd 0 = 5) (nI i)) hP hS cw_X5_positionOf (mA2 (i := 64) rfl rfl) (rfl : kd 0 = 5) ⟨Nat.le_of_ble_eq_true rfl, Nat.le_of_ble_eq_true rfl⟩ rfl (Nat.le_of_ble_eq_true rfl) hl.1 (tcc_0 (rx_positionOf hi) ⟨Nat.zero_le _, Nat.zero_le _⟩) dL_isBack_58) hS (fun H locs hP hS => ?_)
      refine lv_istore (lv' := [(6, .int (σ (1 + 1 + 3 * i) 2)), (0, .ref (z + 0)), (1, .int (nI i)), (2, .int (nI f)), (3, .int (nI L)), (4, .int x4), (5, .int x5)]) hx hb dL_isBack_61 hl (by decide) rfl (fun ls hl => ?_)
      refine lv_aload_n hx hb dL_isBack_63 rfl (lv_at hl 1 rfl) ?_
      refine lv_iload_n hx hb dL_isBack_64 rfl (lv_at hl 2 rfl) ?_
      refine okE_I (rx_distanceOf hi) (rd_distanceOf hi) rfl (runT_V (As := [.int (nI i)]) (rest := []) C (k_X5_distanceOf l hfl D cy z o d σ τ (rfl : kd 0 = 5) (nI i)) hP hS cw_X5_distanceOf (mA2 (i := 88) rfl rfl) (rfl : kd 0 = 5) ⟨Nat.le_of_ble_eq_true rfl, Nat.le_of_ble_eq_true rfl⟩ rfl (Nat.le_of_ble_eq_true rfl) hl.1 (tcc_0 (rx_distanceOf hi) ⟨Nat.zero_le _, Nat.zero_le _⟩) dL_isBack_65) hS (fun H locs hP hS => ?_)
      refine lv_istore (lv' := [(7, .int (σ (1 + 1 + 3 * i) 10)), (6, .int (σ (1 + 1 + 3 * i) 2)), (0, .ref (z + 0)), (1, .int (nI i)), (2, .int (nI f)), (3, .int (nI L)), (4, .int x4), (5, .int x5)]) hx hb dL_isBack_68 hl (by decide) rfl (fun ls hl => ?_)
      refine lv_aload_n hx hb dL_isBack_70 rfl (lv_at hl 2 rfl) ?_
      refine lv_iload_n hx hb dL_isBack_71 rfl (lv_at hl 3 rfl) ?_
      refine okE_I (rx_errorsOf hi) (rd_errorsOf hi) rfl (runT_V (As := [.int (nI i)]) (rest := []) C (k_X5_errorsOf l hfl D cy z o d σ τ (rfl : kd 0 = 5) (nI i)) hP hS cw_X5_errorsOf (mA2 (i := 84) rfl rfl) (rfl : kd 0 = 5) ⟨Nat.le_of_ble_eq_true rfl, Nat.le_of_ble_eq_true rfl⟩ rfl (Nat.le_of_ble_eq_true rfl) hl.1 (tcc_0 (rx_errorsOf hi) ⟨Nat.zero_le _, Nat.zero_le _⟩) dL_isBack_72) hS (fun H locs hP hS => ?_)
      refine lv_istore (lv' := [(8, .int (σ (1 + 1 + 3 * i) 8)), (7, .int (σ (1 + 1 + 3 * i) 10)), (6, .int (σ (1 + 1 + 3 * i) 2)), (0, .ref (z + 0)), (1, .int (nI i)), (2, .int (nI f)), (3, .int (nI L)), (4, .int x4), (5, .int x5)]) hx hb dL_isBack_75 hl (by decide) rfl (fun ls hl => ?_)
      refine lv_aload_n hx hb dL_isBack_77 rfl (lv_at hl 3 rfl) ?_
      refine lv_iload_n hx hb dL_isBack_78 rfl (lv_at hl 4 rfl) ?_
      refine lv_iload_n hx hb dL_isBack_79 rfl (lv_at hl 5 rfl) ?_
      refine okE_I bx (bf.trans b2) hs1 (runT_V (As := [.int (nI i), .int (nI f)]) (rest := []) C (k_X5_goBack l hfl D cy z o d σ τ (rfl : kd 0 = 5) (nI i) (nI f) h.2.2.2) hP hS cw_X5_goBack (mA2 (i := 233) rfl rfl) (rfl : kd 0 = 5) ⟨Nat.le_of_ble_eq_true rfl, Nat.le_of_ble_eq_true rfl⟩ rfl (Nat.le_of_ble_eq_true rfl) hl.1 (tcc_0 bx ⟨Nat.zero_le _, Nat.zero_le _⟩) dL_isBack_80) hS (fun H locs hP hS => ?_)
      refine lv_iload hx hb dL_isBack_83 (lv_at hl 2 rfl) ?_
      refine lv_iload hx hb dL_isBack_85 (lv_at hl 7 rfl) ?_
      refine lv_isub hx hb dL_isBack_87 ?_
      refine lv_icmp_ne (tgt := 129) hx hb dL_isBack_88 (by decide) (fun c_88 => ?_) (fun c_88 => ?_)
      · exact absurd (by rw [ps_end hp9 d_20]) c_88
      · refine lv_aload_n hx hb dL_isBack_91 rfl (lv_at hl 3 rfl) ?_
        refine lv_iload_n hx hb dL_isBack_92 rfl (lv_at hl 4 rfl) ?_
        refine okE_I (rx_logLength hi) (rd_logLength hi) rfl (runT_V (As := [.int (nI i)]) (rest := []) C (k_X5_logLength l hfl D cy z o d σ1 τ (rfl : kd 0 = 5) (nI i)) hP hS cw_X5_logLength (mA2 (i := 72) rfl rfl) (rfl : kd 0 = 5) ⟨Nat.le_of_ble_eq_true rfl, Nat.le_of_ble_eq_true rfl⟩ rfl (Nat.le_of_ble_eq_true rfl) hl.1 (tcc_0 (rx_logLength hi) ⟨Nat.zero_le _, Nat.zero_le _⟩) dL_isBack_93) hS (fun H locs hP hS => ?_)
        refine lv_iload_n hx hb dL_isBack_96 rfl (lv_at hl 6 rfl) ?_
        refine lv_iload_n hx hb dL_isBack_97 rfl (lv_at hl 5 rfl) ?_
        refine lv_isub hx hb dL_isBack_98 ?_
        refine lv_icmp_ne (tgt := 129) hx hb dL_isBack_99 (by decide) (fun c_99 => ?_) (fun c_99 => ?_)
        · exact absurd (by rw [bl]; exact (pk_sub hfL).symm) c_99
        · refine lv_aload_n hx hb dL_isBack_102 rfl (lv_at hl 3 rfl) ?_
          refine lv_iload_n hx hb dL_isBack_103 rfl (lv_at hl 4 rfl) ?_
          refine okE_I (rx_distanceOf hi) (rd_distanceOf hi) rfl (runT_V (As := [.int (nI i)]) (rest := []) C (k_X5_distanceOf l hfl D cy z o d σ1 τ (rfl : kd 0 = 5) (nI i)) hP hS cw_X5_distanceOf (mA2 (i := 88) rfl rfl) (rfl : kd 0 = 5) ⟨Nat.le_of_ble_eq_true rfl, Nat.le_of_ble_eq_true rfl⟩ rfl (Nat.le_of_ble_eq_true rfl) hl.1 (tcc_0 (rx_distanceOf hi) ⟨Nat.zero_le _, Nat.zero_le _⟩) dL_isBack_104) hS (fun H locs hP hS => ?_)
          refine lv_iload hx hb dL_isBack_107 (lv_at hl 1 rfl) ?_
          refine lv_iload hx hb dL_isBack_109 (lv_at hl 8 rfl) ?_
          refine lv_iadd hx hb dL_isBack_111 ?_
          refine lv_icmp_ne (tgt := 129) hx hb dL_isBack_112 (by decide) (fun c_112 => ?_) (fun c_112 => ?_)
          · exact absurd (by rw [b10, ps_end hq9 d_20]) c_112
          · refine lv_aload_n hx hb dL_isBack_115 rfl (lv_at hl 3 rfl) ?_
            refine lv_iload_n hx hb dL_isBack_116 rfl (lv_at hl 4 rfl) ?_
            refine okE_I (rx_errorsOf hi) (rd_errorsOf hi) rfl (runT_V (As := [.int (nI i)]) (rest := []) C (k_X5_errorsOf l hfl D cy z o d σ1 τ (rfl : kd 0 = 5) (nI i)) hP hS cw_X5_errorsOf (mA2 (i := 84) rfl rfl) (rfl : kd 0 = 5) ⟨Nat.le_of_ble_eq_true rfl, Nat.le_of_ble_eq_true rfl⟩ rfl (Nat.le_of_ble_eq_true rfl) hl.1 (tcc_0 (rx_errorsOf hi) ⟨Nat.zero_le _, Nat.zero_le _⟩) dL_isBack_117) hS (fun H locs hP hS => ?_)
            refine lv_iload hx hb dL_isBack_120 (lv_at hl 0 rfl) ?_
            refine lv_icmp_ne (tgt := 129) hx hb dL_isBack_122 (by decide) (fun c_122 => ?_) (fun c_122 => ?_)
            · exact absurd b8 c_122
            · refine lv_iconst (v := 1) hx hb dL_isBack_125 (by decide) ?_
              refine lv_goto (tgt := 130) hx hb dL_isBack_126 (by decide) ?_
              exact ret_I C hP hS nar_z1 rfl rfl rfl rfl dL_isBack_130
    · have d_20 : ¬ (L ≤ a) := fun h9 => c_20 ((cI_le rfl rfl (by omega) (by omega)).mpr h9)
      refine lv_iload hx hb dL_isBack_23 (lv_at hl 4 rfl) ?_
      refine lv_aload_n hx hb dL_isBack_25 rfl (lv_at hl 0 rfl) ?_
      refine lv_iload_n hx hb dL_isBack_26 rfl (lv_at hl 1 rfl) ?_
      refine lv_iload hx hb dL_isBack_27 (lv_at hl 6 rfl) ?_
      refine okE_I (rx_loggedStep hi hL9 hl9 (by omega)) (rd_loggedStep hi hN (by omega)) rfl (runT_V (As := [.int (nI i), .int (nI a)]) (rest := [.int x4]) C (k_X5_loggedStep l hfl D cy z o d σ τ (rfl : kd 0 = 5) (nI i) (nI a)) hP hS cw_X5_loggedStep (mA2 (i := 172) rfl rfl) (rfl : kd 0 = 5) ⟨Nat.le_of_ble_eq_true rfl, Nat.le_of_ble_eq_true rfl⟩ rfl (Nat.le_of_ble_eq_true rfl) hl.1 (tcc_0 (rx_loggedStep hi hL9 hl9 (by omega)) ⟨Nat.zero_le _, Nat.zero_le _⟩) dL_isBack_29) hS (fun H locs hP hS => ?_)
      refine lv_iadd hx hb dL_isBack_32 ?_
      refine lv_istore (lv' := [(4, .int (x4 + (E (L - 1 - a) 0))), (0, .ref (z + 0)), (1, .int (nI i)), (2, .int (nI f)), (3, .int (nI L)), (5, .int x5), (6, .int (nI a))]) hx hb dL_isBack_33 hl (by decide) rfl (fun ls hl => ?_)
      refine lv_iload hx hb dL_isBack_35 (lv_at hl 5 rfl) ?_
      refine lv_aload_n hx hb dL_isBack_37 rfl (lv_at hl 1 rfl) ?_
      refine lv_iload_n hx hb dL_isBack_38 rfl (lv_at hl 2 rfl) ?_
      refine lv_iload hx hb dL_isBack_39 (lv_at hl 6 rfl) ?_
      refine okE_I (rx_loggedStep hi hL9 hl9 (by omega)) (rd_loggedStep hi hN (by omega)) rfl (runT_V (As := [.int (nI i), .int (nI a)]) (rest := [.int x5]) C (k_X5_loggedStep l hfl D cy z o d σ τ (rfl : kd 0 = 5) (nI i) (nI a)) hP hS cw_X5_loggedStep (mA2 (i := 172) rfl rfl) (rfl : kd 0 = 5) ⟨Nat.le_of_ble_eq_true rfl, Nat.le_of_ble_eq_true rfl⟩ rfl (Nat.le_of_ble_eq_true rfl) hl.1 (tcc_0 (rx_loggedStep hi hL9 hl9 (by omega)) ⟨Nat.zero_le _, Nat.zero_le _⟩) dL_isBack_41) hS (fun H locs hP hS => ?_)
      refine thnE_I rfl rfl (run_S (As := [.int (E (L - 1 - a) 0)]) (rest := [.int x5]) C (k_L_size l D cy z o d σ τ (E (L - 1 - a) 0)) hP hS cw_L_size (mA2 (i := 169) rfl rfl) ⟨rfl, rfl⟩ ⟨Nat.le_of_ble_eq_true rfl, Nat.le_of_ble_eq_true rfl⟩ rfl (Nat.le_of_ble_eq_true rfl) hl.1 ⟨Nat.zero_le _, Nat.zero_le _⟩ dL_isBack_44) hS (fun H locs hP hS => ?_)
      refine lv_iadd hx hb dL_isBack_47 ?_
      refine lv_istore (lv' := [(5, .int (x5 + (f_L_size (E (L - 1 - a) 0)))), (4, .int (x4 + (E (L - 1 - a) 0))), (0, .ref (z + 0)), (1, .int (nI i)), (2, .int (nI f)), (3, .int (nI L)), (6, .int (nI a))]) hx hb dL_isBack_48 hl (by decide) rfl (fun ls hl => ?_)
      refine lv_iinc (v := nI (a + 1)) (lv' := [(6, .int (nI (a + 1))), (5, .int (x5 + (f_L_size (E (L - 1 - a) 0)))), (4, .int (x4 + (E (L - 1 - a) 0))), (0, .ref (z + 0)), (1, .int (nI i)), (2, .int (nI f)), (3, .int (nI L))]) hx hb dL_isBack_50 hl (k := 6) rfl (nI_1 a) (by decide) rfl (fun ls hl => ?_)
      refine lv_goto (tgt := 17) hx hb dL_isBack_53 (by decide) ?_
      exact ih (x4 + (E (L - 1 - a) 0)) (x5 + (f_L_size (E (L - 1 - a) 0))) (a + 1) _ _ (ps_step hp9 (by omega)) (pa_step hq9 (by omega)) ⟨by omega, by omega, by omega⟩ hP hS ls (lv_sub hl [3, 4, 5, 6, 2, 1, 0] rfl)
set_option maxHeartbeats 4000000 in
set_option maxRecDepth 100000 in
theorem k_L_isBack (l : Launch) (hfl : l.stackTraces = false) (D : va_G) (cy : Nat → ClassId) (z : Nat) (o : Int64) (d : UInt64) (τ : Sg) {σ : Sg} {B i L f : Nat} {E : Nat → Nat → Int32} (h : GN B σ) (hN : SnN σ (1 + 1 + 3 * i) E L B) (hi : i < 4) (hf1 : 1 ≤ f) (hfL : f ≤ L) (hB : B + 20000 ≤ 1000000000) : KI l yL_isBack cL_isBack 9 (some .boolean) rm_L_isBack D cy z [.ref (z + 0), .int (nI i), .int (nI f)] o d σ τ 1 (s_X5_goBack σ 0 (nI i) (nI f)) τ := by
  refine met_of RL (plainFor_of_name (by decide)) rfl (Nat.le_of_ble_eq_true rfl) ?_
  intro p e s m args below meth c C hP hS ls hl
  obtain ⟨hx, hb, hr, hml, hown, hW, hlocks, hAm⟩ := id C
  have hl : lv_has ls 9 [(0, .ref (z + 0)), (1, .int (nI i)), (2, .int (nI f))] := hl
  obtain ⟨bx, bf, bG, bS, b2, b10, b8, -⟩ := back_ok h hN hi hf1 hfL hB
  have hl9 : σ (1 + 1 + 3 * i + 1) 2 = nI L := hN.2.2.2.2.choose_spec.2.2.1
  have hL9 : L ≤ 16 := hN.2.2.2.2.choose_spec.1
  generalize hs1 : s_X5_goBack σ 0 (nI i) (nI f) = σ1 at bf bG bS b2 b10 b8 ⊢
  have bl : σ1 (1 + 1 + 3 * i + 1) 2 = nI (L - f) := bS.2.2.2.2.choose_spec.2.2.1
  refine lv_aload_n hx hb dL_isBack_0 rfl (lv_at hl 0 rfl) ?_
  refine lv_iload_n hx hb dL_isBack_1 rfl (lv_at hl 1 rfl) ?_
  refine okE_I (rx_logLength hi) (rd_logLength hi) rfl (runT_V (As := [.int (nI i)]) (rest := []) C (k_X5_logLength l hfl D cy z o d σ τ (rfl : kd 0 = 5) (nI i)) hP hS cw_X5_logLength (mA2 (i := 72) rfl rfl) (rfl : kd 0 = 5) ⟨Nat.le_of_ble_eq_true rfl, Nat.le_of_ble_eq_true rfl⟩ rfl (Nat.le_of_ble_eq_true rfl) hl.1 (tcc_0 (rx_logLength hi) ⟨Nat.zero_le _, Nat.zero_le _⟩) dL_isBack_2) hS (fun H locs hP hS => ?_)
  rw [hl9]
  refine lv_istore_n (lv' := [(3, .int (nI L)), (0, .ref (z + 0)), (1, .int (nI i)), (2, .int (nI f))]) hx hb dL_isBack_5 rfl hl (by decide) rfl (fun ls hl => ?_)
  refine lv_iconst (v := 0) hx hb dL_isBack_6 (by decide) ?_
  refine lv_istore (lv' := [(4, .int 0), (3, .int (nI L)), (0, .ref (z + 0)), (1, .int (nI i)), (2, .int (nI f))]) hx hb dL_isBack_7 hl (by decide) rfl (fun ls hl => ?_)
  refine lv_iconst (v := 0) hx hb dL_isBack_9 (by decide) ?_
  refine lv_istore (lv' := [(5, .int 0), (4, .int 0), (3, .int (nI L)), (0, .ref (z + 0)), (1, .int (nI i)), (2, .int (nI f))]) hx hb dL_isBack_10 hl (by decide) rfl (fun ls hl => ?_)
  refine lv_iload_n hx hb dL_isBack_12 rfl (lv_at hl 2 rfl) ?_
  refine lv_iload_n hx hb dL_isBack_13 rfl (lv_at hl 5 rfl) ?_
  refine lv_isub hx hb dL_isBack_14 ?_
  rw [pk_sub hfL]
  refine lv_istore (lv' := [(6, .int (nI (L - f))), (5, .int 0), (4, .int 0), (3, .int (nI L)), (0, .ref (z + 0)), (1, .int (nI i)), (2, .int (nI f))]) hx hb dL_isBack_15 hl (by decide) rfl (fun ls hl => ?_)
  exact lpK_L_isBack C o d hfl h hN hi hL9 hl9 hfL bx bf b2 hs1 bl b10 b8 (f + 1) 0 0 (L - f) _ _ (ps_init hfL) (pa_init hfL) ⟨by omega, by omega, by omega⟩ hP hS ls (lv_sub hl [4, 5, 6, 3, 2, 1, 0] rfl)

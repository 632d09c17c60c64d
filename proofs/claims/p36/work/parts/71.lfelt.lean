/-! the law's isFelt -/
theorem felt_facts {σ σ1 : Sg} {B B' i L : Nat} {y w : Int32} {E : Nat → Nat → Int32} (h : GN B σ) (hS : SnN σ (1 + 1 + 3 * i) E L B) (hi : i < 4) (hy : St y) (fS : SnN σ1 (1 + 1 + 3 * i) (psh E (f_X4_stepUnder σ (1 + 1 + 3 * i) (σ 1 4) y) w (σ (1 + 1 + 3 * i) 1)) (lL L) B') (fk : σ1 (1 + 1 + 3 * i) = snK σ (1 + 1 + 3 * i) y (f_X4_stepUnder σ (1 + 1 + 3 * i) (σ 1 4) y) w) (f1 : σ1 1 = σ 1) :
    ((σ (1 + 1 + 3 * i) 1 ^^^ y = 3 → σ1 (1 + 1 + 3 * i) 8 = σ (1 + 1 + 3 * i) 8 + 1) ∧ (¬ σ (1 + 1 + 3 * i) 1 ^^^ y = 3 → σ1 (1 + 1 + 3 * i) 8 = σ (1 + 1 + 3 * i) 8 + 0)) ∧
    ((¬ 16 ≤ σ ((1 + 1 + 3 * i) + 1) 2 → σ1 ((1 + 1 + 3 * i) + 1) 2 = σ ((1 + 1 + 3 * i) + 1) 2 + 1) ∧ (16 ≤ σ ((1 + 1 + 3 * i) + 1) 2 → σ1 ((1 + 1 + 3 * i) + 1) 2 = 16)) ∧
    (x_X5_loggedStep σ1 0 (nI i) (σ1 ((1 + 1 + 3 * i) + 1) 2 - 1) = 0 ∧ f_X5_loggedStep σ1 0 (nI i) (σ1 ((1 + 1 + 3 * i) + 1) 2 - 1) = (f_X4_stepUnder σ (1 + 1 + 3 * i) (σ 1 4) y)) ∧
    ((¬ (f_X4_stepUnder σ (1 + 1 + 3 * i) (σ 1 4) y) ≤ 0 → σ1 (1 + 1 + 3 * i) 3 = 1) ∧ ((f_X4_stepUnder σ (1 + 1 + 3 * i) (σ 1 4) y) ≤ 0 → ¬ 0 ≤ (f_X4_stepUnder σ (1 + 1 + 3 * i) (σ 1 4) y) → σ1 (1 + 1 + 3 * i) 3 = -1) ∧ ((f_X4_stepUnder σ (1 + 1 + 3 * i) (σ 1 4) y) ≤ 0 → 0 ≤ (f_X4_stepUnder σ (1 + 1 + 3 * i) (σ 1 4) y) → σ1 (1 + 1 + 3 * i) 3 = σ (1 + 1 + 3 * i) 3)) ∧
    (¬ σ (1 + 1 + 3 * i) 1 ^^^ y = 3 → ¬ (f_X4_stepUnder σ (1 + 1 + 3 * i) (σ 1 4) y) < -1 ∧ ¬ 1 < (f_X4_stepUnder σ (1 + 1 + 3 * i) (σ 1 4) y)) ∧
    (σ (1 + 1 + 3 * i) 1 ^^^ y = 3 → (σ1 1 4 = 0 → (f_X4_stepUnder σ (1 + 1 + 3 * i) (σ 1 4) y) = 0) ∧ (¬ σ1 1 4 = 0 → (f_X4_stepUnder σ (1 + 1 + 3 * i) (σ 1 4) y) = 2 * σ (1 + 1 + 3 * i) 3)) := by
  have hl : σ ((1 + 1 + 3 * i) + 1) 2 = nI L := hS.2.2.2.2.choose_spec.2.2.1
  have hL : L ≤ 16 := hS.2.2.2.2.choose_spec.1
  have hl1 : σ1 ((1 + 1 + 3 * i) + 1) 2 = nI (lL L) := fS.2.2.2.2.choose_spec.2.2.1
  have hL1 : lL L ≤ 16 := fS.2.2.2.2.choose_spec.1
  have hpos : 1 ≤ lL L := by unfold lL; split <;> omega
  have hd : σ1 (1 + 1 + 3 * i) 3 = dirOf (f_X4_stepUnder σ (1 + 1 + 3 * i) (σ 1 4) y) (σ (1 + 1 + 3 * i) 3) := by rw [fk]; rfl
  refine ⟨⟨fun q => ?_, fun q => ?_⟩, ⟨fun q => ?_, fun q => ?_⟩, ?_, ⟨fun q => ?_, fun q q2 => ?_, fun q q2 => ?_⟩, fun q => ?_, fun q => ?_⟩
  · rw [fk]
    exact (if_pos q : (if σ (1 + 1 + 3 * i) 1 ^^^ y = 3 then σ (1 + 1 + 3 * i) 8 + 1 else σ (1 + 1 + 3 * i) 8) = _)
  · rw [fk, Int32.add_zero]
    exact (if_neg q : (if σ (1 + 1 + 3 * i) 1 ^^^ y = 3 then σ (1 + 1 + 3 * i) 8 + 1 else σ (1 + 1 + 3 * i) 8) = _)
  · rw [hl1, hl, nI_1]
    rw [hl, show (16 : Int32) = nI 16 from rfl, nI_leI (by omega) (by omega)] at q
    unfold lL
    rw [if_neg (by omega)]
  · rw [hl1]
    rw [hl, show (16 : Int32) = nI 16 from rfl, nI_leI (by omega) (by omega)] at q
    unfold lL
    rw [if_pos (by omega)]
    rfl
  · rw [hl1, show nI (lL L) - 1 = nI (lL L - 1) from pk_sub (a := lL L) (b := 1) hpos]
    refine ⟨rx_loggedStep hi hL1 hl1 (by omega), ?_⟩
    rw [rd_loggedStep hi fS (by omega), Nat.sub_self]
    rfl
  · rw [hd]
    unfold dirOf
    rw [if_neg q]
  · rw [hd]
    unfold dirOf
    rw [if_pos q, if_neg q2]
  · rw [hd]
    unfold dirOf
    rw [if_pos q, if_pos q2]
  · unfold f_X4_stepUnder
    rw [if_neg q]
    split
    · decide
    · split <;> decide
  · rw [f1]
    unfold f_X4_stepUnder
    rw [if_pos q]
    rcases h.2.1 with e | e
    · rw [e]
      exact ⟨fun _ => by rw [if_neg (by decide)], fun q2 => absurd rfl q2⟩
    · rw [e]
      exact ⟨fun q2 => absurd q2 (by decide), fun _ => by rw [if_pos rfl]⟩
theorem cw_L_isFelt : cwSt yL_isFelt cL_isFelt 13 (some .boolean) 4 := ⟨(mA1 (i := 192) rfl rfl), (mA1 (i := 0) rfl rfl), (mA1 (i := 193) rfl rfl), by decide +kernel⟩
abbrev rm_L_isFelt : Room := { frames := 8, cells := 0, slots := 0, locals := 129 }
set_option maxHeartbeats 4000000 in
set_option maxRecDepth 100000 in
theorem k_L_isFelt (l : Launch) (hfl : l.stackTraces = false) (D : va_G) (cy : Nat → ClassId) (z : Nat) (o : Int64) (d : UInt64) (τ : Sg) {σ : Sg} {B i L : Nat} {y w : Int32} {E : Nat → Nat → Int32} (h : GN B σ) (hN : SnN σ (1 + 1 + 3 * i) E L B) (hi : i < 4) (hy : St y) (hw : 1 ≤ w.toInt ∧ w.toInt ≤ 1000) (hB : B + 20000 ≤ 1000000000) : KI l yL_isFelt cL_isFelt 13 (some .boolean) rm_L_isFelt D cy z [.ref (z + 0), .int (nI i), .int y, .int w] o d σ τ 1 (s_X5_feel σ 0 (nI i) y w) τ := by
  refine met_of RL (plainFor_of_name (by decide)) rfl (Nat.le_of_ble_eq_true rfl) ?_
  intro p e s m args below meth c C hP hS ls hl
  obtain ⟨hx, hb, hr, hml, hown, hW, hlocks, hAm⟩ := id C
  have hl : lv_has ls 13 [(0, .ref (z + 0)), (1, .int (nI i)), (2, .int y), (3, .int w)] := hl
  obtain ⟨fx, ff, fG, fS, fk, f1⟩ := feel_ok h hN hi hy hw hB
  obtain ⟨fk8, fl, fg, fd, fn, fy⟩ := felt_facts h hN hi hy fS fk f1
  generalize hs1 : s_X5_feel σ 0 (nI i) y w = σ1 at fG fS fk f1 fk8 fl fg fd fn fy ⊢
  refine lv_aload_n hx hb dL_isFelt_0 rfl (lv_at hl 0 rfl) ?_
  refine lv_iload_n hx hb dL_isFelt_1 rfl (lv_at hl 1 rfl) ?_
  refine lv_iload_n hx hb dL_isFelt_2 rfl (lv_at hl 2 rfl) ?_
  refine okE_I (rx_stepTo hi hy) (rd_stepTo hi hy) rfl (runT_V (As := [.int (nI i), .int y]) (rest := []) C (k_X5_stepTo l hfl D cy z o d σ τ (rfl : kd 0 = 5) (nI i) y) hP hS cw_X5_stepTo (mA1 (i := 194) rfl rfl) (rfl : kd 0 = 5) ⟨Nat.le_of_ble_eq_true rfl, Nat.le_of_ble_eq_true rfl⟩ rfl (Nat.le_of_ble_eq_true rfl) hl.1 (tcc_0 (rx_stepTo hi hy) ⟨Nat.zero_le _, Nat.zero_le _⟩) dL_isFelt_3) hS (fun H locs hP hS => ?_)
  refine lv_istore (lv' := [(4, .int (f_X4_stepUnder σ (1 + 1 + 3 * i) (σ 1 4) y)), (0, .ref (z + 0)), (1, .int (nI i)), (2, .int y), (3, .int w)]) hx hb dL_isFelt_6 hl (by decide) rfl (fun ls hl => ?_)
  refine lv_aload_n hx hb dL_isFelt_8 rfl (lv_at hl 1 rfl) ?_
  refine lv_iload_n hx hb dL_isFelt_9 rfl (lv_at hl 2 rfl) ?_
  refine okE_I (rx_positionOf hi) (rd_positionOf hi) rfl (runT_V (As := [.int (nI i)]) (rest := []) C (k_X5_positionOf l hfl D cy z o d σ τ (rfl : kd 0 = 5) (nI i)) hP hS cw_X5_positionOf (mA2 (i := 64) rfl rfl) (rfl : kd 0 = 5) ⟨Nat.le_of_ble_eq_true rfl, Nat.le_of_ble_eq_true rfl⟩ rfl (Nat.le_of_ble_eq_true rfl) hl.1 (tcc_0 (rx_positionOf hi) ⟨Nat.zero_le _, Nat.zero_le _⟩) dL_isFelt_10) hS (fun H locs hP hS => ?_)
  refine lv_istore (lv' := [(5, .int (σ (1 + 1 + 3 * i) 2)), (4, .int (f_X4_stepUnder σ (1 + 1 + 3 * i) (σ 1 4) y)), (0, .ref (z + 0)), (1, .int (nI i)), (2, .int y), (3, .int w)]) hx hb dL_isFelt_13 hl (by decide) rfl (fun ls hl => ?_)
  refine lv_aload_n hx hb dL_isFelt_15 rfl (lv_at hl 2 rfl) ?_
  refine lv_iload_n hx hb dL_isFelt_16 rfl (lv_at hl 3 rfl) ?_
  refine okE_I (rx_ticksOf hi) (rd_ticksOf hi) rfl (runT_V (As := [.int (nI i)]) (rest := []) C (k_X5_ticksOf l hfl D cy z o d σ τ (rfl : kd 0 = 5) (nI i)) hP hS cw_X5_ticksOf (mA2 (i := 68) rfl rfl) (rfl : kd 0 = 5) ⟨Nat.le_of_ble_eq_true rfl, Nat.le_of_ble_eq_true rfl⟩ rfl (Nat.le_of_ble_eq_true rfl) hl.1 (tcc_0 (rx_ticksOf hi) ⟨Nat.zero_le _, Nat.zero_le _⟩) dL_isFelt_17) hS (fun H locs hP hS => ?_)
  refine lv_istore (lv' := [(6, .int (σ (1 + 1 + 3 * i) 11)), (5, .int (σ (1 + 1 + 3 * i) 2)), (4, .int (f_X4_stepUnder σ (1 + 1 + 3 * i) (σ 1 4) y)), (0, .ref (z + 0)), (1, .int (nI i)), (2, .int y), (3, .int w)]) hx hb dL_isFelt_20 hl (by decide) rfl (fun ls hl => ?_)
  refine lv_aload_n hx hb dL_isFelt_22 rfl (lv_at hl 3 rfl) ?_
  refine lv_iload_n hx hb dL_isFelt_23 rfl (lv_at hl 4 rfl) ?_
  refine okE_I (rx_logLength hi) (rd_logLength hi) rfl (runT_V (As := [.int (nI i)]) (rest := []) C (k_X5_logLength l hfl D cy z o d σ τ (rfl : kd 0 = 5) (nI i)) hP hS cw_X5_logLength (mA2 (i := 72) rfl rfl) (rfl : kd 0 = 5) ⟨Nat.le_of_ble_eq_true rfl, Nat.le_of_ble_eq_true rfl⟩ rfl (Nat.le_of_ble_eq_true rfl) hl.1 (tcc_0 (rx_logLength hi) ⟨Nat.zero_le _, Nat.zero_le _⟩) dL_isFelt_24) hS (fun H locs hP hS => ?_)
  refine lv_istore (lv' := [(7, .int (σ (1 + 1 + 3 * i + 1) 2)), (6, .int (σ (1 + 1 + 3 * i) 11)), (5, .int (σ (1 + 1 + 3 * i) 2)), (4, .int (f_X4_stepUnder σ (1 + 1 + 3 * i) (σ 1 4) y)), (0, .ref (z + 0)), (1, .int (nI i)), (2, .int y), (3, .int w)]) hx hb dL_isFelt_27 hl (by decide) rfl (fun ls hl => ?_)
  refine lv_aload_n hx hb dL_isFelt_29 rfl (lv_at hl 4 rfl) ?_
  refine lv_iload_n hx hb dL_isFelt_30 rfl (lv_at hl 5 rfl) ?_
  refine okE_I (rx_directionOf hi) (rd_directionOf hi) rfl (runT_V (As := [.int (nI i)]) (rest := []) C (k_X5_directionOf l hfl D cy z o d σ τ (rfl : kd 0 = 5) (nI i)) hP hS cw_X5_directionOf (mA2 (i := 76) rfl rfl) (rfl : kd 0 = 5) ⟨Nat.le_of_ble_eq_true rfl, Nat.le_of_ble_eq_true rfl⟩ rfl (Nat.le_of_ble_eq_true rfl) hl.1 (tcc_0 (rx_directionOf hi) ⟨Nat.zero_le _, Nat.zero_le _⟩) dL_isFelt_31) hS (fun H locs hP hS => ?_)
  refine lv_istore (lv' := [(8, .int (σ (1 + 1 + 3 * i) 3)), (7, .int (σ (1 + 1 + 3 * i + 1) 2)), (6, .int (σ (1 + 1 + 3 * i) 11)), (5, .int (σ (1 + 1 + 3 * i) 2)), (4, .int (f_X4_stepUnder σ (1 + 1 + 3 * i) (σ 1 4) y)), (0, .ref (z + 0)), (1, .int (nI i)), (2, .int y), (3, .int w)]) hx hb dL_isFelt_34 hl (by decide) rfl (fun ls hl => ?_)
  refine lv_aload_n hx hb dL_isFelt_36 rfl (lv_at hl 5 rfl) ?_
  refine lv_iload_n hx hb dL_isFelt_37 rfl (lv_at hl 6 rfl) ?_
  refine okE_I (rx_stateOf hi) (rd_stateOf hi) rfl (runT_V (As := [.int (nI i)]) (rest := []) C (k_X5_stateOf l hfl D cy z o d σ τ (rfl : kd 0 = 5) (nI i)) hP hS cw_X5_stateOf (mA2 (i := 80) rfl rfl) (rfl : kd 0 = 5) ⟨Nat.le_of_ble_eq_true rfl, Nat.le_of_ble_eq_true rfl⟩ rfl (Nat.le_of_ble_eq_true rfl) hl.1 (tcc_0 (rx_stateOf hi) ⟨Nat.zero_le _, Nat.zero_le _⟩) dL_isFelt_38) hS (fun H locs hP hS => ?_)
  refine lv_iload_n hx hb dL_isFelt_41 rfl (lv_at hl 7 rfl) ?_
  refine lv_ixor hx hb dL_isFelt_42 ?_
  refine lv_iconst (v := 3) hx hb dL_isFelt_43 (by decide) ?_
  refine lv_icmp_ne (tgt := 51) hx hb dL_isFelt_44 (by decide) (fun c_44 => ?_) (fun c_44 => ?_)
  · refine lv_iconst (v := 0) hx hb dL_isFelt_51 (by decide) ?_
    refine lv_istore (lv' := [(9, .int 0), (8, .int (σ (1 + 1 + 3 * i) 3)), (7, .int (σ (1 + 1 + 3 * i + 1) 2)), (6, .int (σ (1 + 1 + 3 * i) 11)), (5, .int (σ (1 + 1 + 3 * i) 2)), (4, .int (f_X4_stepUnder σ (1 + 1 + 3 * i) (σ 1 4) y)), (0, .ref (z + 0)), (1, .int (nI i)), (2, .int y), (3, .int w)]) hx hb dL_isFelt_52 hl (by decide) rfl (fun ls hl => ?_)
    refine lv_aload_n hx hb dL_isFelt_54 rfl (lv_at hl 6 rfl) ?_
    refine lv_iload_n hx hb dL_isFelt_55 rfl (lv_at hl 7 rfl) ?_
    refine okE_I (rx_errorsOf hi) (rd_errorsOf hi) rfl (runT_V (As := [.int (nI i)]) (rest := []) C (k_X5_errorsOf l hfl D cy z o d σ τ (rfl : kd 0 = 5) (nI i)) hP hS cw_X5_errorsOf (mA2 (i := 84) rfl rfl) (rfl : kd 0 = 5) ⟨Nat.le_of_ble_eq_true rfl, Nat.le_of_ble_eq_true rfl⟩ rfl (Nat.le_of_ble_eq_true rfl) hl.1 (tcc_0 (rx_errorsOf hi) ⟨Nat.zero_le _, Nat.zero_le _⟩) dL_isFelt_56) hS (fun H locs hP hS => ?_)
    refine lv_istore (lv' := [(10, .int (σ (1 + 1 + 3 * i) 8)), (9, .int 0), (8, .int (σ (1 + 1 + 3 * i) 3)), (7, .int (σ (1 + 1 + 3 * i + 1) 2)), (6, .int (σ (1 + 1 + 3 * i) 11)), (5, .int (σ (1 + 1 + 3 * i) 2)), (4, .int (f_X4_stepUnder σ (1 + 1 + 3 * i) (σ 1 4) y)), (0, .ref (z + 0)), (1, .int (nI i)), (2, .int y), (3, .int w)]) hx hb dL_isFelt_59 hl (by decide) rfl (fun ls hl => ?_)
    refine lv_aload_n hx hb dL_isFelt_61 rfl (lv_at hl 7 rfl) ?_
    refine lv_iload_n hx hb dL_isFelt_62 rfl (lv_at hl 8 rfl) ?_
    refine okE_I (rx_distanceOf hi) (rd_distanceOf hi) rfl (runT_V (As := [.int (nI i)]) (rest := []) C (k_X5_distanceOf l hfl D cy z o d σ τ (rfl : kd 0 = 5) (nI i)) hP hS cw_X5_distanceOf (mA2 (i := 88) rfl rfl) (rfl : kd 0 = 5) ⟨Nat.le_of_ble_eq_true rfl, Nat.le_of_ble_eq_true rfl⟩ rfl (Nat.le_of_ble_eq_true rfl) hl.1 (tcc_0 (rx_distanceOf hi) ⟨Nat.zero_le _, Nat.zero_le _⟩) dL_isFelt_63) hS (fun H locs hP hS => ?_)
    refine lv_istore (lv' := [(11, .int (σ (1 + 1 + 3 * i) 10)), (10, .int (σ (1 + 1 + 3 * i) 8)), (9, .int 0), (8, .int (σ (1 + 1 + 3 * i) 3)), (7, .int (σ (1 + 1 + 3 * i + 1) 2)), (6, .int (σ (1 + 1 + 3 * i) 11)), (5, .int (σ (1 + 1 + 3 * i) 2)), (4, .int (f_X4_stepUnder σ (1 + 1 + 3 * i) (σ 1 4) y)), (0, .ref (z + 0)), (1, .int (nI i)), (2, .int y), (3, .int w)]) hx hb dL_isFelt_66 hl (by decide) rfl (fun ls hl => ?_)
    refine lv_aload_n hx hb dL_isFelt_68 rfl (lv_at hl 8 rfl) ?_
    refine lv_iload_n hx hb dL_isFelt_69 rfl (lv_at hl 9 rfl) ?_
    refine lv_iload_n hx hb dL_isFelt_70 rfl (lv_at hl 10 rfl) ?_
    refine lv_iload_n hx hb dL_isFelt_71 rfl (lv_at hl 11 rfl) ?_
    refine okE_I fx ff hs1 (runT_V (As := [.int (nI i), .int y, .int w]) (rest := []) C (k_X5_feel l hfl D cy z o d σ τ (rfl : kd 0 = 5) (nI i) y w) hP hS cw_X5_feel (mA2 (i := 92) rfl rfl) (rfl : kd 0 = 5) ⟨Nat.le_of_ble_eq_true rfl, Nat.le_of_ble_eq_true rfl⟩ rfl (Nat.le_of_ble_eq_true rfl) hl.1 (tcc_0 fx ⟨Nat.zero_le _, Nat.zero_le _⟩) dL_isFelt_72) hS (fun H locs hP hS => ?_)
    refine lv_iload hx hb dL_isFelt_75 (lv_at hl 7 rfl) ?_
    refine lv_icmp_ne (tgt := 147) hx hb dL_isFelt_77 (by decide) (fun c_77 => ?_) (fun c_77 => ?_)
    · exact absurd rfl c_77
    · refine lv_aload_n hx hb dL_isFelt_80 rfl (lv_at hl 8 rfl) ?_
      refine lv_iload_n hx hb dL_isFelt_81 rfl (lv_at hl 9 rfl) ?_
      refine okE_I (rx_stateOf hi) (rd_stateOf hi) rfl (runT_V (As := [.int (nI i)]) (rest := []) C (k_X5_stateOf l hfl D cy z o d σ1 τ (rfl : kd 0 = 5) (nI i)) hP hS cw_X5_stateOf (mA2 (i := 80) rfl rfl) (rfl : kd 0 = 5) ⟨Nat.le_of_ble_eq_true rfl, Nat.le_of_ble_eq_true rfl⟩ rfl (Nat.le_of_ble_eq_true rfl) hl.1 (tcc_0 (rx_stateOf hi) ⟨Nat.zero_le _, Nat.zero_le _⟩) dL_isFelt_82) hS (fun H locs hP hS => ?_)
      refine lv_iload_n hx hb dL_isFelt_85 rfl (lv_at hl 10 rfl) ?_
      refine lv_icmp_ne (tgt := 147) hx hb dL_isFelt_86 (by decide) (fun c_86 => ?_) (fun c_86 => ?_)
      · exact absurd (by rw [fk]; rfl) c_86
      · refine lv_aload_n hx hb dL_isFelt_89 rfl (lv_at hl 8 rfl) ?_
        refine lv_iload_n hx hb dL_isFelt_90 rfl (lv_at hl 9 rfl) ?_
        refine okE_I (rx_positionOf hi) (rd_positionOf hi) rfl (runT_V (As := [.int (nI i)]) (rest := []) C (k_X5_positionOf l hfl D cy z o d σ1 τ (rfl : kd 0 = 5) (nI i)) hP hS cw_X5_positionOf (mA2 (i := 64) rfl rfl) (rfl : kd 0 = 5) ⟨Nat.le_of_ble_eq_true rfl, Nat.le_of_ble_eq_true rfl⟩ rfl (Nat.le_of_ble_eq_true rfl) hl.1 (tcc_0 (rx_positionOf hi) ⟨Nat.zero_le _, Nat.zero_le _⟩) dL_isFelt_91) hS (fun H locs hP hS => ?_)
        refine lv_iload hx hb dL_isFelt_94 (lv_at hl 6 rfl) ?_
        refine lv_iload hx hb dL_isFelt_96 (lv_at hl 7 rfl) ?_
        refine lv_iadd hx hb dL_isFelt_98 ?_
        refine lv_icmp_ne (tgt := 147) hx hb dL_isFelt_99 (by decide) (fun c_99 => ?_) (fun c_99 => ?_)
        · exact absurd (by rw [fk]; rfl) c_99
        · refine lv_aload_n hx hb dL_isFelt_102 rfl (lv_at hl 8 rfl) ?_
          refine lv_iload_n hx hb dL_isFelt_103 rfl (lv_at hl 9 rfl) ?_
          refine okE_I (rx_ticksOf hi) (rd_ticksOf hi) rfl (runT_V (As := [.int (nI i)]) (rest := []) C (k_X5_ticksOf l hfl D cy z o d σ1 τ (rfl : kd 0 = 5) (nI i)) hP hS cw_X5_ticksOf (mA2 (i := 68) rfl rfl) (rfl : kd 0 = 5) ⟨Nat.le_of_ble_eq_true rfl, Nat.le_of_ble_eq_true rfl⟩ rfl (Nat.le_of_ble_eq_true rfl) hl.1 (tcc_0 (rx_ticksOf hi) ⟨Nat.zero_le _, Nat.zero_le _⟩) dL_isFelt_104) hS (fun H locs hP hS => ?_)
          refine lv_iload hx hb dL_isFelt_107 (lv_at hl 5 rfl) ?_
          refine lv_iload_n hx hb dL_isFelt_109 rfl (lv_at hl 11 rfl) ?_
          refine lv_iadd hx hb dL_isFelt_110 ?_
          refine lv_icmp_ne (tgt := 147) hx hb dL_isFelt_111 (by decide) (fun c_111 => ?_) (fun c_111 => ?_)
          · exact absurd (by rw [fk]; rfl) c_111
          · refine lv_aload_n hx hb dL_isFelt_114 rfl (lv_at hl 8 rfl) ?_
            refine lv_iload_n hx hb dL_isFelt_115 rfl (lv_at hl 9 rfl) ?_
            refine okE_I (rx_errorsOf hi) (rd_errorsOf hi) rfl (runT_V (As := [.int (nI i)]) (rest := []) C (k_X5_errorsOf l hfl D cy z o d σ1 τ (rfl : kd 0 = 5) (nI i)) hP hS cw_X5_errorsOf (mA2 (i := 84) rfl rfl) (rfl : kd 0 = 5) ⟨Nat.le_of_ble_eq_true rfl, Nat.le_of_ble_eq_true rfl⟩ rfl (Nat.le_of_ble_eq_true rfl) hl.1 (tcc_0 (rx_errorsOf hi) ⟨Nat.zero_le _, Nat.zero_le _⟩) dL_isFelt_116) hS (fun H locs hP hS => ?_)
            refine lv_iload hx hb dL_isFelt_119 (lv_at hl 1 rfl) ?_
            refine lv_iload hx hb dL_isFelt_121 (lv_at hl 2 rfl) ?_
            refine lv_iadd hx hb dL_isFelt_123 ?_
            refine lv_icmp_ne (tgt := 147) hx hb dL_isFelt_124 (by decide) (fun c_124 => ?_) (fun c_124 => ?_)
            · exact absurd (fk8.2 c_44) c_124
            · refine lv_aload_n hx hb dL_isFelt_127 rfl (lv_at hl 8 rfl) ?_
              refine lv_iload_n hx hb dL_isFelt_128 rfl (lv_at hl 9 rfl) ?_
              refine okE_I (rx_distanceOf hi) (rd_distanceOf hi) rfl (runT_V (As := [.int (nI i)]) (rest := []) C (k_X5_distanceOf l hfl D cy z o d σ1 τ (rfl : kd 0 = 5) (nI i)) hP hS cw_X5_distanceOf (mA2 (i := 88) rfl rfl) (rfl : kd 0 = 5) ⟨Nat.le_of_ble_eq_true rfl, Nat.le_of_ble_eq_true rfl⟩ rfl (Nat.le_of_ble_eq_true rfl) hl.1 (tcc_0 (rx_distanceOf hi) ⟨Nat.zero_le _, Nat.zero_le _⟩) dL_isFelt_129) hS (fun H locs hP hS => ?_)
              refine lv_iload hx hb dL_isFelt_132 (lv_at hl 0 rfl) ?_
              refine lv_iload hx hb dL_isFelt_134 (lv_at hl 7 rfl) ?_
              refine thnE_I rfl rfl (run_S (As := [.int (f_X4_stepUnder σ (1 + 1 + 3 * i) (σ 1 4) y)]) (rest := [.int (σ (1 + 1 + 3 * i) 10), .int (σ1 (1 + 1 + 3 * i) 10)]) C (k_L_size l D cy z o d σ1 τ (f_X4_stepUnder σ (1 + 1 + 3 * i) (σ 1 4) y)) hP hS cw_L_size (mA2 (i := 169) rfl rfl) ⟨rfl, rfl⟩ ⟨Nat.le_of_ble_eq_true rfl, Nat.le_of_ble_eq_true rfl⟩ rfl (Nat.le_of_ble_eq_true rfl) hl.1 ⟨Nat.zero_le _, Nat.zero_le _⟩ dL_isFelt_136) hS (fun H locs hP hS => ?_)
              refine lv_iadd hx hb dL_isFelt_139 ?_
              refine lv_icmp_ne (tgt := 147) hx hb dL_isFelt_140 (by decide) (fun c_140 => ?_) (fun c_140 => ?_)
              · exact absurd (by rw [fk, size_ab]; rfl) c_140
              · refine lv_iconst (v := 1) hx hb dL_isFelt_143 (by decide) ?_
                refine lv_goto (tgt := 148) hx hb dL_isFelt_144 (by decide) ?_
                refine lv_istore (lv' := [(12, .int 1), (11, .int (σ (1 + 1 + 3 * i) 10)), (10, .int (σ (1 + 1 + 3 * i) 8)), (9, .int 0), (8, .int (σ (1 + 1 + 3 * i) 3)), (7, .int (σ (1 + 1 + 3 * i + 1) 2)), (6, .int (σ (1 + 1 + 3 * i) 11)), (5, .int (σ (1 + 1 + 3 * i) 2)), (4, .int (f_X4_stepUnder σ (1 + 1 + 3 * i) (σ 1 4) y)), (0, .ref (z + 0)), (1, .int (nI i)), (2, .int y), (3, .int w)]) hx hb dL_isFelt_148 hl (by decide) rfl (fun ls hl => ?_)
                refine lv_iload hx hb dL_isFelt_150 (lv_at hl 0 rfl) ?_
                refine lv_if_eq (tgt := 228) hx hb dL_isFelt_152 (by decide) (fun c_152 => ?_) (fun c_152 => ?_)
                · exact absurd c_152 (by decide)
                · refine lv_aload_n hx hb dL_isFelt_155 rfl (lv_at hl 9 rfl) ?_
                  refine lv_iload_n hx hb dL_isFelt_156 rfl (lv_at hl 10 rfl) ?_
                  refine okE_I (rx_logLength hi) (rd_logLength hi) rfl (runT_V (As := [.int (nI i)]) (rest := []) C (k_X5_logLength l hfl D cy z o d σ1 τ (rfl : kd 0 = 5) (nI i)) hP hS cw_X5_logLength (mA2 (i := 72) rfl rfl) (rfl : kd 0 = 5) ⟨Nat.le_of_ble_eq_true rfl, Nat.le_of_ble_eq_true rfl⟩ rfl (Nat.le_of_ble_eq_true rfl) hl.1 (tcc_0 (rx_logLength hi) ⟨Nat.zero_le _, Nat.zero_le _⟩) dL_isFelt_157) hS (fun H locs hP hS => ?_)
                  refine lv_iload hx hb dL_isFelt_160 (lv_at hl 5 rfl) ?_
                  refine lv_bipush (v := 16) hx hb dL_isFelt_162 (by decide) ?_
                  refine lv_icmp_ge (tgt := 174) hx hb dL_isFelt_164 (by decide) (fun c_164 => ?_) (fun c_164 => ?_)
                  · refine lv_bipush (v := 16) hx hb dL_isFelt_174 (by decide) ?_
                    refine lv_icmp_ne (tgt := 228) hx hb dL_isFelt_176 (by decide) (fun c_176 => ?_) (fun c_176 => ?_)
                    · exact absurd (fl.2 c_164) c_176
                    · refine lv_aload_n hx hb dL_isFelt_179 rfl (lv_at hl 9 rfl) ?_
                      refine lv_iload_n hx hb dL_isFelt_180 rfl (lv_at hl 10 rfl) ?_
                      refine lv_aload_n hx hb dL_isFelt_181 rfl (lv_at hl 9 rfl) ?_
                      refine lv_iload_n hx hb dL_isFelt_182 rfl (lv_at hl 10 rfl) ?_
                      refine okE_I (rx_logLength hi) (rd_logLength hi) rfl (runT_V (As := [.int (nI i)]) (rest := [.int (nI i), .ref (z + 0)]) C (k_X5_logLength l hfl D cy z o d σ1 τ (rfl : kd 0 = 5) (nI i)) hP hS cw_X5_logLength (mA2 (i := 72) rfl rfl) (rfl : kd 0 = 5) ⟨Nat.le_of_ble_eq_true rfl, Nat.le_of_ble_eq_true rfl⟩ rfl (Nat.le_of_ble_eq_true rfl) hl.1 (tcc_0 (rx_logLength hi) ⟨Nat.zero_le _, Nat.zero_le _⟩) dL_isFelt_183) hS (fun H locs hP hS => ?_)
                      refine lv_iconst (v := 1) hx hb dL_isFelt_186 (by decide) ?_
                      refine lv_isub hx hb dL_isFelt_187 ?_
                      refine okE_I fg.1 fg.2 rfl (runT_V (As := [.int (nI i), .int ((σ1 (1 + 1 + 3 * i + 1) 2) - 1)]) (rest := []) C (k_X5_loggedStep l hfl D cy z o d σ1 τ (rfl : kd 0 = 5) (nI i) ((σ1 (1 + 1 + 3 * i + 1) 2) - 1)) hP hS cw_X5_loggedStep (mA2 (i := 172) rfl rfl) (rfl : kd 0 = 5) ⟨Nat.le_of_ble_eq_true rfl, Nat.le_of_ble_eq_true rfl⟩ rfl (Nat.le_of_ble_eq_true rfl) hl.1 (tcc_0 fg.1 ⟨Nat.zero_le _, Nat.zero_le _⟩) dL_isFelt_188) hS (fun H locs hP hS => ?_)
                      refine lv_iload hx hb dL_isFelt_191 (lv_at hl 8 rfl) ?_
                      refine lv_icmp_ne (tgt := 228) hx hb dL_isFelt_193 (by decide) (fun c_193 => ?_) (fun c_193 => ?_)
                      · exact absurd rfl c_193
                      · refine lv_aload_n hx hb dL_isFelt_196 rfl (lv_at hl 9 rfl) ?_
                        refine lv_iload_n hx hb dL_isFelt_197 rfl (lv_at hl 10 rfl) ?_
                        refine okE_I (rx_directionOf hi) (rd_directionOf hi) rfl (runT_V (As := [.int (nI i)]) (rest := []) C (k_X5_directionOf l hfl D cy z o d σ1 τ (rfl : kd 0 = 5) (nI i)) hP hS cw_X5_directionOf (mA2 (i := 76) rfl rfl) (rfl : kd 0 = 5) ⟨Nat.le_of_ble_eq_true rfl, Nat.le_of_ble_eq_true rfl⟩ rfl (Nat.le_of_ble_eq_true rfl) hl.1 (tcc_0 (rx_directionOf hi) ⟨Nat.zero_le _, Nat.zero_le _⟩) dL_isFelt_198) hS (fun H locs hP hS => ?_)
                        refine lv_iload hx hb dL_isFelt_201 (lv_at hl 8 rfl) ?_
                        refine lv_if_le (tgt := 210) hx hb dL_isFelt_203 (by decide) (fun c_203 => ?_) (fun c_203 => ?_)
                        · refine lv_iload hx hb dL_isFelt_210 (lv_at hl 8 rfl) ?_
                          refine lv_if_ge (tgt := 219) hx hb dL_isFelt_212 (by decide) (fun c_212 => ?_) (fun c_212 => ?_)
                          · refine lv_iload hx hb dL_isFelt_219 (lv_at hl 4 rfl) ?_
                            refine lv_icmp_ne (tgt := 228) hx hb dL_isFelt_221 (by decide) (fun c_221 => ?_) (fun c_221 => ?_)
                            · exact absurd (fd.2.2 c_203 c_212) c_221
                            · refine lv_iconst (v := 1) hx hb dL_isFelt_224 (by decide) ?_
                              refine lv_goto (tgt := 229) hx hb dL_isFelt_225 (by decide) ?_
                              refine lv_istore (lv' := [(12, .int 1), (11, .int (σ (1 + 1 + 3 * i) 10)), (10, .int (σ (1 + 1 + 3 * i) 8)), (9, .int 0), (8, .int (σ (1 + 1 + 3 * i) 3)), (7, .int (σ (1 + 1 + 3 * i + 1) 2)), (6, .int (σ (1 + 1 + 3 * i) 11)), (5, .int (σ (1 + 1 + 3 * i) 2)), (4, .int (f_X4_stepUnder σ (1 + 1 + 3 * i) (σ 1 4) y)), (0, .ref (z + 0)), (1, .int (nI i)), (2, .int y), (3, .int w)]) hx hb dL_isFelt_229 hl (by decide) rfl (fun ls hl => ?_)
                              refine lv_iload hx hb dL_isFelt_231 (lv_at hl 0 rfl) ?_
                              refine lv_if_eq (tgt := 280) hx hb dL_isFelt_233 (by decide) (fun c_233 => ?_) (fun c_233 => ?_)
                              · exact absurd c_233 (by decide)
                              · refine lv_iload hx hb dL_isFelt_236 (lv_at hl 3 rfl) ?_
                                refine lv_if_ne (tgt := 256) hx hb dL_isFelt_238 (by decide) (fun c_238 => ?_) (fun c_238 => ?_)
                                · exact absurd rfl c_238
                                · refine lv_iload hx hb dL_isFelt_241 (lv_at hl 8 rfl) ?_
                                  refine lv_iconst (v := (-1)) hx hb dL_isFelt_243 (by decide) ?_
                                  refine lv_icmp_lt (tgt := 280) hx hb dL_isFelt_244 (by decide) (fun c_244 => ?_) (fun c_244 => ?_)
                                  · exact absurd c_244 ((fn c_44).1)
                                  · refine lv_iload hx hb dL_isFelt_247 (lv_at hl 8 rfl) ?_
                                    refine lv_iconst (v := 1) hx hb dL_isFelt_249 (by decide) ?_
                                    refine lv_icmp_gt (tgt := 280) hx hb dL_isFelt_250 (by decide) (fun c_250 => ?_) (fun c_250 => ?_)
                                    · exact absurd c_250 ((fn c_44).2)
                                    · refine lv_goto (tgt := 276) hx hb dL_isFelt_253 (by decide) ?_
                                      refine lv_iconst (v := 1) hx hb dL_isFelt_276 (by decide) ?_
                                      refine lv_goto (tgt := 281) hx hb dL_isFelt_277 (by decide) ?_
                                      exact ret_I C hP hS nar_z1 rfl rfl rfl rfl dL_isFelt_281
                          · refine lv_iconst (v := (-1)) hx hb dL_isFelt_215 (by decide) ?_
                            refine lv_goto (tgt := 221) hx hb dL_isFelt_216 (by decide) ?_
                            refine lv_icmp_ne (tgt := 228) hx hb dL_isFelt_221 (by decide) (fun c_221 => ?_) (fun c_221 => ?_)
                            · exact absurd (fd.2.1 c_203 c_212) c_221
                            · refine lv_iconst (v := 1) hx hb dL_isFelt_224 (by decide) ?_
                              refine lv_goto (tgt := 229) hx hb dL_isFelt_225 (by decide) ?_
                              refine lv_istore (lv' := [(12, .int 1), (11, .int (σ (1 + 1 + 3 * i) 10)), (10, .int (σ (1 + 1 + 3 * i) 8)), (9, .int 0), (8, .int (σ (1 + 1 + 3 * i) 3)), (7, .int (σ (1 + 1 + 3 * i + 1) 2)), (6, .int (σ (1 + 1 + 3 * i) 11)), (5, .int (σ (1 + 1 + 3 * i) 2)), (4, .int (f_X4_stepUnder σ (1 + 1 + 3 * i) (σ 1 4) y)), (0, .ref (z + 0)), (1, .int (nI i)), (2, .int y), (3, .int w)]) hx hb dL_isFelt_229 hl (by decide) rfl (fun ls hl => ?_)
                              refine lv_iload hx hb dL_isFelt_231 (lv_at hl 0 rfl) ?_
                              refine lv_if_eq (tgt := 280) hx hb dL_isFelt_233 (by decide) (fun c_233 => ?_) (fun c_233 => ?_)
                              · exact absurd c_233 (by decide)
                              · refine lv_iload hx hb dL_isFelt_236 (lv_at hl 3 rfl) ?_
                                refine lv_if_ne (tgt := 256) hx hb dL_isFelt_238 (by decide) (fun c_238 => ?_) (fun c_238 => ?_)
                                · exact absurd rfl c_238
                                · refine lv_iload hx hb dL_isFelt_241 (lv_at hl 8 rfl) ?_
                                  refine lv_iconst (v := (-1)) hx hb dL_isFelt_243 (by decide) ?_
                                  refine lv_icmp_lt (tgt := 280) hx hb dL_isFelt_244 (by decide) (fun c_244 => ?_) (fun c_244 => ?_)
                                  · exact absurd c_244 ((fn c_44).1)
                                  · refine lv_iload hx hb dL_isFelt_247 (lv_at hl 8 rfl) ?_
                                    refine lv_iconst (v := 1) hx hb dL_isFelt_249 (by decide) ?_
                                    refine lv_icmp_gt (tgt := 280) hx hb dL_isFelt_250 (by decide) (fun c_250 => ?_) (fun c_250 => ?_)
                                    · exact absurd c_250 ((fn c_44).2)
                                    · refine lv_goto (tgt := 276) hx hb dL_isFelt_253 (by decide) ?_
                                      refine lv_iconst (v := 1) hx hb dL_isFelt_276 (by decide) ?_
                                      refine lv_goto (tgt := 281) hx hb dL_isFelt_277 (by decide) ?_
                                      exact ret_I C hP hS nar_z1 rfl rfl rfl rfl dL_isFelt_281
                        · refine lv_iconst (v := 1) hx hb dL_isFelt_206 (by decide) ?_
                          refine lv_goto (tgt := 221) hx hb dL_isFelt_207 (by decide) ?_
                          refine lv_icmp_ne (tgt := 228) hx hb dL_isFelt_221 (by decide) (fun c_221 => ?_) (fun c_221 => ?_)
                          · exact absurd (fd.1 c_203) c_221
                          · refine lv_iconst (v := 1) hx hb dL_isFelt_224 (by decide) ?_
                            refine lv_goto (tgt := 229) hx hb dL_isFelt_225 (by decide) ?_
                            refine lv_istore (lv' := [(12, .int 1), (11, .int (σ (1 + 1 + 3 * i) 10)), (10, .int (σ (1 + 1 + 3 * i) 8)), (9, .int 0), (8, .int (σ (1 + 1 + 3 * i) 3)), (7, .int (σ (1 + 1 + 3 * i + 1) 2)), (6, .int (σ (1 + 1 + 3 * i) 11)), (5, .int (σ (1 + 1 + 3 * i) 2)), (4, .int (f_X4_stepUnder σ (1 + 1 + 3 * i) (σ 1 4) y)), (0, .ref (z + 0)), (1, .int (nI i)), (2, .int y), (3, .int w)]) hx hb dL_isFelt_229 hl (by decide) rfl (fun ls hl => ?_)
                            refine lv_iload hx hb dL_isFelt_231 (lv_at hl 0 rfl) ?_
                            refine lv_if_eq (tgt := 280) hx hb dL_isFelt_233 (by decide) (fun c_233 => ?_) (fun c_233 => ?_)
                            · exact absurd c_233 (by decide)
                            · refine lv_iload hx hb dL_isFelt_236 (lv_at hl 3 rfl) ?_
                              refine lv_if_ne (tgt := 256) hx hb dL_isFelt_238 (by decide) (fun c_238 => ?_) (fun c_238 => ?_)
                              · exact absurd rfl c_238
                              · refine lv_iload hx hb dL_isFelt_241 (lv_at hl 8 rfl) ?_
                                refine lv_iconst (v := (-1)) hx hb dL_isFelt_243 (by decide) ?_
                                refine lv_icmp_lt (tgt := 280) hx hb dL_isFelt_244 (by decide) (fun c_244 => ?_) (fun c_244 => ?_)
                                · exact absurd c_244 ((fn c_44).1)
                                · refine lv_iload hx hb dL_isFelt_247 (lv_at hl 8 rfl) ?_
                                  refine lv_iconst (v := 1) hx hb dL_isFelt_249 (by decide) ?_
                                  refine lv_icmp_gt (tgt := 280) hx hb dL_isFelt_250 (by decide) (fun c_250 => ?_) (fun c_250 => ?_)
                                  · exact absurd c_250 ((fn c_44).2)
                                  · refine lv_goto (tgt := 276) hx hb dL_isFelt_253 (by decide) ?_
                                    refine lv_iconst (v := 1) hx hb dL_isFelt_276 (by decide) ?_
                                    refine lv_goto (tgt := 281) hx hb dL_isFelt_277 (by decide) ?_
                                    exact ret_I C hP hS nar_z1 rfl rfl rfl rfl dL_isFelt_281
                  · refine lv_iload hx hb dL_isFelt_167 (lv_at hl 5 rfl) ?_
                    refine lv_iconst (v := 1) hx hb dL_isFelt_169 (by decide) ?_
                    refine lv_iadd hx hb dL_isFelt_170 ?_
                    refine lv_goto (tgt := 176) hx hb dL_isFelt_171 (by decide) ?_
                    refine lv_icmp_ne (tgt := 228) hx hb dL_isFelt_176 (by decide) (fun c_176 => ?_) (fun c_176 => ?_)
                    · exact absurd (fl.1 c_164) c_176
                    · refine lv_aload_n hx hb dL_isFelt_179 rfl (lv_at hl 9 rfl) ?_
                      refine lv_iload_n hx hb dL_isFelt_180 rfl (lv_at hl 10 rfl) ?_
                      refine lv_aload_n hx hb dL_isFelt_181 rfl (lv_at hl 9 rfl) ?_
                      refine lv_iload_n hx hb dL_isFelt_182 rfl (lv_at hl 10 rfl) ?_
                      refine okE_I (rx_logLength hi) (rd_logLength hi) rfl (runT_V (As := [.int (nI i)]) (rest := [.int (nI i), .ref (z + 0)]) C (k_X5_logLength l hfl D cy z o d σ1 τ (rfl : kd 0 = 5) (nI i)) hP hS cw_X5_logLength (mA2 (i := 72) rfl rfl) (rfl : kd 0 = 5) ⟨Nat.le_of_ble_eq_true rfl, Nat.le_of_ble_eq_true rfl⟩ rfl (Nat.le_of_ble_eq_true rfl) hl.1 (tcc_0 (rx_logLength hi) ⟨Nat.zero_le _, Nat.zero_le _⟩) dL_isFelt_183) hS (fun H locs hP hS => ?_)
                      refine lv_iconst (v := 1) hx hb dL_isFelt_186 (by decide) ?_
                      refine lv_isub hx hb dL_isFelt_187 ?_
                      refine okE_I fg.1 fg.2 rfl (runT_V (As := [.int (nI i), .int ((σ1 (1 + 1 + 3 * i + 1) 2) - 1)]) (rest := []) C (k_X5_loggedStep l hfl D cy z o d σ1 τ (rfl : kd 0 = 5) (nI i) ((σ1 (1 + 1 + 3 * i + 1) 2) - 1)) hP hS cw_X5_loggedStep (mA2 (i := 172) rfl rfl) (rfl : kd 0 = 5) ⟨Nat.le_of_ble_eq_true rfl, Nat.le_of_ble_eq_true rfl⟩ rfl (Nat.le_of_ble_eq_true rfl) hl.1 (tcc_0 fg.1 ⟨Nat.zero_le _, Nat.zero_le _⟩) dL_isFelt_188) hS (fun H locs hP hS => ?_)
                      refine lv_iload hx hb dL_isFelt_191 (lv_at hl 8 rfl) ?_
                      refine lv_icmp_ne (tgt := 228) hx hb dL_isFelt_193 (by decide) (fun c_193 => ?_) (fun c_193 => ?_)
                      · exact absurd rfl c_193
                      · refine lv_aload_n hx hb dL_isFelt_196 rfl (lv_at hl 9 rfl) ?_
                        refine lv_iload_n hx hb dL_isFelt_197 rfl (lv_at hl 10 rfl) ?_
                        refine okE_I (rx_directionOf hi) (rd_directionOf hi) rfl (runT_V (As := [.int (nI i)]) (rest := []) C (k_X5_directionOf l hfl D cy z o d σ1 τ (rfl : kd 0 = 5) (nI i)) hP hS cw_X5_directionOf (mA2 (i := 76) rfl rfl) (rfl : kd 0 = 5) ⟨Nat.le_of_ble_eq_true rfl, Nat.le_of_ble_eq_true rfl⟩ rfl (Nat.le_of_ble_eq_true rfl) hl.1 (tcc_0 (rx_directionOf hi) ⟨Nat.zero_le _, Nat.zero_le _⟩) dL_isFelt_198) hS (fun H locs hP hS => ?_)
                        refine lv_iload hx hb dL_isFelt_201 (lv_at hl 8 rfl) ?_
                        refine lv_if_le (tgt := 210) hx hb dL_isFelt_203 (by decide) (fun c_203 => ?_) (fun c_203 => ?_)
                        · refine lv_iload hx hb dL_isFelt_210 (lv_at hl 8 rfl) ?_
                          refine lv_if_ge (tgt := 219) hx hb dL_isFelt_212 (by decide) (fun c_212 => ?_) (fun c_212 => ?_)
                          · refine lv_iload hx hb dL_isFelt_219 (lv_at hl 4 rfl) ?_
                            refine lv_icmp_ne (tgt := 228) hx hb dL_isFelt_221 (by decide) (fun c_221 => ?_) (fun c_221 => ?_)
                            · exact absurd (fd.2.2 c_203 c_212) c_221
                            · refine lv_iconst (v := 1) hx hb dL_isFelt_224 (by decide) ?_
                              refine lv_goto (tgt := 229) hx hb dL_isFelt_225 (by decide) ?_
                              refine lv_istore (lv' := [(12, .int 1), (11, .int (σ (1 + 1 + 3 * i) 10)), (10, .int (σ (1 + 1 + 3 * i) 8)), (9, .int 0), (8, .int (σ (1 + 1 + 3 * i) 3)), (7, .int (σ (1 + 1 + 3 * i + 1) 2)), (6, .int (σ (1 + 1 + 3 * i) 11)), (5, .int (σ (1 + 1 + 3 * i) 2)), (4, .int (f_X4_stepUnder σ (1 + 1 + 3 * i) (σ 1 4) y)), (0, .ref (z + 0)), (1, .int (nI i)), (2, .int y), (3, .int w)]) hx hb dL_isFelt_229 hl (by decide) rfl (fun ls hl => ?_)
                              refine lv_iload hx hb dL_isFelt_231 (lv_at hl 0 rfl) ?_
                              refine lv_if_eq (tgt := 280) hx hb dL_isFelt_233 (by decide) (fun c_233 => ?_) (fun c_233 => ?_)
                              · exact absurd c_233 (by decide)
                              · refine lv_iload hx hb dL_isFelt_236 (lv_at hl 3 rfl) ?_
                                refine lv_if_ne (tgt := 256) hx hb dL_isFelt_238 (by decide) (fun c_238 => ?_) (fun c_238 => ?_)
                                · exact absurd rfl c_238
                                · refine lv_iload hx hb dL_isFelt_241 (lv_at hl 8 rfl) ?_
                                  refine lv_iconst (v := (-1)) hx hb dL_isFelt_243 (by decide) ?_
                                  refine lv_icmp_lt (tgt := 280) hx hb dL_isFelt_244 (by decide) (fun c_244 => ?_) (fun c_244 => ?_)
                                  · exact absurd c_244 ((fn c_44).1)
                                  · refine lv_iload hx hb dL_isFelt_247 (lv_at hl 8 rfl) ?_
                                    refine lv_iconst (v := 1) hx hb dL_isFelt_249 (by decide) ?_
                                    refine lv_icmp_gt (tgt := 280) hx hb dL_isFelt_250 (by decide) (fun c_250 => ?_) (fun c_250 => ?_)
                                    · exact absurd c_250 ((fn c_44).2)
                                    · refine lv_goto (tgt := 276) hx hb dL_isFelt_253 (by decide) ?_
                                      refine lv_iconst (v := 1) hx hb dL_isFelt_276 (by decide) ?_
                                      refine lv_goto (tgt := 281) hx hb dL_isFelt_277 (by decide) ?_
                                      exact ret_I C hP hS nar_z1 rfl rfl rfl rfl dL_isFelt_281
                          · refine lv_iconst (v := (-1)) hx hb dL_isFelt_215 (by decide) ?_
                            refine lv_goto (tgt := 221) hx hb dL_isFelt_216 (by decide) ?_
                            refine lv_icmp_ne (tgt := 228) hx hb dL_isFelt_221 (by decide) (fun c_221 => ?_) (fun c_221 => ?_)
                            · exact absurd (fd.2.1 c_203 c_212) c_221
                            · refine lv_iconst (v := 1) hx hb dL_isFelt_224 (by decide) ?_
                              refine lv_goto (tgt := 229) hx hb dL_isFelt_225 (by decide) ?_
                              refine lv_istore (lv' := [(12, .int 1), (11, .int (σ (1 + 1 + 3 * i) 10)), (10, .int (σ (1 + 1 + 3 * i) 8)), (9, .int 0), (8, .int (σ (1 + 1 + 3 * i) 3)), (7, .int (σ (1 + 1 + 3 * i + 1) 2)), (6, .int (σ (1 + 1 + 3 * i) 11)), (5, .int (σ (1 + 1 + 3 * i) 2)), (4, .int (f_X4_stepUnder σ (1 + 1 + 3 * i) (σ 1 4) y)), (0, .ref (z + 0)), (1, .int (nI i)), (2, .int y), (3, .int w)]) hx hb dL_isFelt_229 hl (by decide) rfl (fun ls hl => ?_)
                              refine lv_iload hx hb dL_isFelt_231 (lv_at hl 0 rfl) ?_
                              refine lv_if_eq (tgt := 280) hx hb dL_isFelt_233 (by decide) (fun c_233 => ?_) (fun c_233 => ?_)
                              · exact absurd c_233 (by decide)
                              · refine lv_iload hx hb dL_isFelt_236 (lv_at hl 3 rfl) ?_
                                refine lv_if_ne (tgt := 256) hx hb dL_isFelt_238 (by decide) (fun c_238 => ?_) (fun c_238 => ?_)
                                · exact absurd rfl c_238
                                · refine lv_iload hx hb dL_isFelt_241 (lv_at hl 8 rfl) ?_
                                  refine lv_iconst (v := (-1)) hx hb dL_isFelt_243 (by decide) ?_
                                  refine lv_icmp_lt (tgt := 280) hx hb dL_isFelt_244 (by decide) (fun c_244 => ?_) (fun c_244 => ?_)
                                  · exact absurd c_244 ((fn c_44).1)
                                  · refine lv_iload hx hb dL_isFelt_247 (lv_at hl 8 rfl) ?_
                                    refine lv_iconst (v := 1) hx hb dL_isFelt_249 (by decide) ?_
                                    refine lv_icmp_gt (tgt := 280) hx hb dL_isFelt_250 (by decide) (fun c_250 => ?_) (fun c_250 => ?_)
                                    · exact absurd c_250 ((fn c_44).2)
                                    · refine lv_goto (tgt := 276) hx hb dL_isFelt_253 (by decide) ?_
                                      refine lv_iconst (v := 1) hx hb dL_isFelt_276 (by decide) ?_
                                      refine lv_goto (tgt := 281) hx hb dL_isFelt_277 (by decide) ?_
                                      exact ret_I C hP hS nar_z1 rfl rfl rfl rfl dL_isFelt_281
                        · refine lv_iconst (v := 1) hx hb dL_isFelt_206 (by decide) ?_
                          refine lv_goto (tgt := 221) hx hb dL_isFelt_207 (by decide) ?_
                          refine lv_icmp_ne (tgt := 228) hx hb dL_isFelt_221 (by decide) (fun c_221 => ?_) (fun c_221 => ?_)
                          · exact absurd (fd.1 c_203) c_221
                          · refine lv_iconst (v := 1) hx hb dL_isFelt_224 (by decide) ?_
                            refine lv_goto (tgt := 229) hx hb dL_isFelt_225 (by decide) ?_
                            refine lv_istore (lv' := [(12, .int 1), (11, .int (σ (1 + 1 + 3 * i) 10)), (10, .int (σ (1 + 1 + 3 * i) 8)), (9, .int 0), (8, .int (σ (1 + 1 + 3 * i) 3)), (7, .int (σ (1 + 1 + 3 * i + 1) 2)), (6, .int (σ (1 + 1 + 3 * i) 11)), (5, .int (σ (1 + 1 + 3 * i) 2)), (4, .int (f_X4_stepUnder σ (1 + 1 + 3 * i) (σ 1 4) y)), (0, .ref (z + 0)), (1, .int (nI i)), (2, .int y), (3, .int w)]) hx hb dL_isFelt_229 hl (by decide) rfl (fun ls hl => ?_)
                            refine lv_iload hx hb dL_isFelt_231 (lv_at hl 0 rfl) ?_
                            refine lv_if_eq (tgt := 280) hx hb dL_isFelt_233 (by decide) (fun c_233 => ?_) (fun c_233 => ?_)
                            · exact absurd c_233 (by decide)
                            · refine lv_iload hx hb dL_isFelt_236 (lv_at hl 3 rfl) ?_
                              refine lv_if_ne (tgt := 256) hx hb dL_isFelt_238 (by decide) (fun c_238 => ?_) (fun c_238 => ?_)
                              · exact absurd rfl c_238
                              · refine lv_iload hx hb dL_isFelt_241 (lv_at hl 8 rfl) ?_
                                refine lv_iconst (v := (-1)) hx hb dL_isFelt_243 (by decide) ?_
                                refine lv_icmp_lt (tgt := 280) hx hb dL_isFelt_244 (by decide) (fun c_244 => ?_) (fun c_244 => ?_)
                                · exact absurd c_244 ((fn c_44).1)
                                · refine lv_iload hx hb dL_isFelt_247 (lv_at hl 8 rfl) ?_
                                  refine lv_iconst (v := 1) hx hb dL_isFelt_249 (by decide) ?_
                                  refine lv_icmp_gt (tgt := 280) hx hb dL_isFelt_250 (by decide) (fun c_250 => ?_) (fun c_250 => ?_)
                                  · exact absurd c_250 ((fn c_44).2)
                                  · refine lv_goto (tgt := 276) hx hb dL_isFelt_253 (by decide) ?_
                                    refine lv_iconst (v := 1) hx hb dL_isFelt_276 (by decide) ?_
                                    refine lv_goto (tgt := 281) hx hb dL_isFelt_277 (by decide) ?_
                                    exact ret_I C hP hS nar_z1 rfl rfl rfl rfl dL_isFelt_281
  · refine lv_iconst (v := 1) hx hb dL_isFelt_47 (by decide) ?_
    refine lv_goto (tgt := 52) hx hb dL_isFelt_48 (by decide) ?_
    refine lv_istore (lv' := [(9, .int 1), (8, .int (σ (1 + 1 + 3 * i) 3)), (7, .int (σ (1 + 1 + 3 * i + 1) 2)), (6, .int (σ (1 + 1 + 3 * i) 11)), (5, .int (σ (1 + 1 + 3 * i) 2)), (4, .int (f_X4_stepUnder σ (1 + 1 + 3 * i) (σ 1 4) y)), (0, .ref (z + 0)), (1, .int (nI i)), (2, .int y), (3, .int w)]) hx hb dL_isFelt_52 hl (by decide) rfl (fun ls hl => ?_)
    refine lv_aload_n hx hb dL_isFelt_54 rfl (lv_at hl 6 rfl) ?_
    refine lv_iload_n hx hb dL_isFelt_55 rfl (lv_at hl 7 rfl) ?_
    refine okE_I (rx_errorsOf hi) (rd_errorsOf hi) rfl (runT_V (As := [.int (nI i)]) (rest := []) C (k_X5_errorsOf l hfl D cy z o d σ τ (rfl : kd 0 = 5) (nI i)) hP hS cw_X5_errorsOf (mA2 (i := 84) rfl rfl) (rfl : kd 0 = 5) ⟨Nat.le_of_ble_eq_true rfl, Nat.le_of_ble_eq_true rfl⟩ rfl (Nat.le_of_ble_eq_true rfl) hl.1 (tcc_0 (rx_errorsOf hi) ⟨Nat.zero_le _, Nat.zero_le _⟩) dL_isFelt_56) hS (fun H locs hP hS => ?_)
    refine lv_istore (lv' := [(10, .int (σ (1 + 1 + 3 * i) 8)), (9, .int 1), (8, .int (σ (1 + 1 + 3 * i) 3)), (7, .int (σ (1 + 1 + 3 * i + 1) 2)), (6, .int (σ (1 + 1 + 3 * i) 11)), (5, .int (σ (1 + 1 + 3 * i) 2)), (4, .int (f_X4_stepUnder σ (1 + 1 + 3 * i) (σ 1 4) y)), (0, .ref (z + 0)), (1, .int (nI i)), (2, .int y), (3, .int w)]) hx hb dL_isFelt_59 hl (by decide) rfl (fun ls hl => ?_)
    refine lv_aload_n hx hb dL_isFelt_61 rfl (lv_at hl 7 rfl) ?_
    refine lv_iload_n hx hb dL_isFelt_62 rfl (lv_at hl 8 rfl) ?_
    refine okE_I (rx_distanceOf hi) (rd_distanceOf hi) rfl (runT_V (As := [.int (nI i)]) (rest := []) C (k_X5_distanceOf l hfl D cy z o d σ τ (rfl : kd 0 = 5) (nI i)) hP hS cw_X5_distanceOf (mA2 (i := 88) rfl rfl) (rfl : kd 0 = 5) ⟨Nat.le_of_ble_eq_true rfl, Nat.le_of_ble_eq_true rfl⟩ rfl (Nat.le_of_ble_eq_true rfl) hl.1 (tcc_0 (rx_distanceOf hi) ⟨Nat.zero_le _, Nat.zero_le _⟩) dL_isFelt_63) hS (fun H locs hP hS => ?_)
    refine lv_istore (lv' := [(11, .int (σ (1 + 1 + 3 * i) 10)), (10, .int (σ (1 + 1 + 3 * i) 8)), (9, .int 1), (8, .int (σ (1 + 1 + 3 * i) 3)), (7, .int (σ (1 + 1 + 3 * i + 1) 2)), (6, .int (σ (1 + 1 + 3 * i) 11)), (5, .int (σ (1 + 1 + 3 * i) 2)), (4, .int (f_X4_stepUnder σ (1 + 1 + 3 * i) (σ 1 4) y)), (0, .ref (z + 0)), (1, .int (nI i)), (2, .int y), (3, .int w)]) hx hb dL_isFelt_66 hl (by decide) rfl (fun ls hl => ?_)
    refine lv_aload_n hx hb dL_isFelt_68 rfl (lv_at hl 8 rfl) ?_
    refine lv_iload_n hx hb dL_isFelt_69 rfl (lv_at hl 9 rfl) ?_
    refine lv_iload_n hx hb dL_isFelt_70 rfl (lv_at hl 10 rfl) ?_
    refine lv_iload_n hx hb dL_isFelt_71 rfl (lv_at hl 11 rfl) ?_
    refine okE_I fx ff hs1 (runT_V (As := [.int (nI i), .int y, .int w]) (rest := []) C (k_X5_feel l hfl D cy z o d σ τ (rfl : kd 0 = 5) (nI i) y w) hP hS cw_X5_feel (mA2 (i := 92) rfl rfl) (rfl : kd 0 = 5) ⟨Nat.le_of_ble_eq_true rfl, Nat.le_of_ble_eq_true rfl⟩ rfl (Nat.le_of_ble_eq_true rfl) hl.1 (tcc_0 fx ⟨Nat.zero_le _, Nat.zero_le _⟩) dL_isFelt_72) hS (fun H locs hP hS => ?_)
    refine lv_iload hx hb dL_isFelt_75 (lv_at hl 7 rfl) ?_
    refine lv_icmp_ne (tgt := 147) hx hb dL_isFelt_77 (by decide) (fun c_77 => ?_) (fun c_77 => ?_)
    · exact absurd rfl c_77
    · refine lv_aload_n hx hb dL_isFelt_80 rfl (lv_at hl 8 rfl) ?_
      refine lv_iload_n hx hb dL_isFelt_81 rfl (lv_at hl 9 rfl) ?_
      refine okE_I (rx_stateOf hi) (rd_stateOf hi) rfl (runT_V (As := [.int (nI i)]) (rest := []) C (k_X5_stateOf l hfl D cy z o d σ1 τ (rfl : kd 0 = 5) (nI i)) hP hS cw_X5_stateOf (mA2 (i := 80) rfl rfl) (rfl : kd 0 = 5) ⟨Nat.le_of_ble_eq_true rfl, Nat.le_of_ble_eq_true rfl⟩ rfl (Nat.le_of_ble_eq_true rfl) hl.1 (tcc_0 (rx_stateOf hi) ⟨Nat.zero_le _, Nat.zero_le _⟩) dL_isFelt_82) hS (fun H locs hP hS => ?_)
      refine lv_iload_n hx hb dL_isFelt_85 rfl (lv_at hl 10 rfl) ?_
      refine lv_icmp_ne (tgt := 147) hx hb dL_isFelt_86 (by decide) (fun c_86 => ?_) (fun c_86 => ?_)
      · exact absurd (by rw [fk]; rfl) c_86
      · refine lv_aload_n hx hb dL_isFelt_89 rfl (lv_at hl 8 rfl) ?_
        refine lv_iload_n hx hb dL_isFelt_90 rfl (lv_at hl 9 rfl) ?_
        refine okE_I (rx_positionOf hi) (rd_positionOf hi) rfl (runT_V (As := [.int (nI i)]) (rest := []) C (k_X5_positionOf l hfl D cy z o d σ1 τ (rfl : kd 0 = 5) (nI i)) hP hS cw_X5_positionOf (mA2 (i := 64) rfl rfl) (rfl : kd 0 = 5) ⟨Nat.le_of_ble_eq_true rfl, Nat.le_of_ble_eq_true rfl⟩ rfl (Nat.le_of_ble_eq_true rfl) hl.1 (tcc_0 (rx_positionOf hi) ⟨Nat.zero_le _, Nat.zero_le _⟩) dL_isFelt_91) hS (fun H locs hP hS => ?_)
        refine lv_iload hx hb dL_isFelt_94 (lv_at hl 6 rfl) ?_
        refine lv_iload hx hb dL_isFelt_96 (lv_at hl 7 rfl) ?_
        refine lv_iadd hx hb dL_isFelt_98 ?_
        refine lv_icmp_ne (tgt := 147) hx hb dL_isFelt_99 (by decide) (fun c_99 => ?_) (fun c_99 => ?_)
        · exact absurd (by rw [fk]; rfl) c_99
        · refine lv_aload_n hx hb dL_isFelt_102 rfl (lv_at hl 8 rfl) ?_
          refine lv_iload_n hx hb dL_isFelt_103 rfl (lv_at hl 9 rfl) ?_
          refine okE_I (rx_ticksOf hi) (rd_ticksOf hi) rfl (runT_V (As := [.int (nI i)]) (rest := []) C (k_X5_ticksOf l hfl D cy z o d σ1 τ (rfl : kd 0 = 5) (nI i)) hP hS cw_X5_ticksOf (mA2 (i := 68) rfl rfl) (rfl : kd 0 = 5) ⟨Nat.le_of_ble_eq_true rfl, Nat.le_of_ble_eq_true rfl⟩ rfl (Nat.le_of_ble_eq_true rfl) hl.1 (tcc_0 (rx_ticksOf hi) ⟨Nat.zero_le _, Nat.zero_le _⟩) dL_isFelt_104) hS (fun H locs hP hS => ?_)
          refine lv_iload hx hb dL_isFelt_107 (lv_at hl 5 rfl) ?_
          refine lv_iload_n hx hb dL_isFelt_109 rfl (lv_at hl 11 rfl) ?_
          refine lv_iadd hx hb dL_isFelt_110 ?_
          refine lv_icmp_ne (tgt := 147) hx hb dL_isFelt_111 (by decide) (fun c_111 => ?_) (fun c_111 => ?_)
          · exact absurd (by rw [fk]; rfl) c_111
          · refine lv_aload_n hx hb dL_isFelt_114 rfl (lv_at hl 8 rfl) ?_
            refine lv_iload_n hx hb dL_isFelt_115 rfl (lv_at hl 9 rfl) ?_
            refine okE_I (rx_errorsOf hi) (rd_errorsOf hi) rfl (runT_V (As := [.int (nI i)]) (rest := []) C (k_X5_errorsOf l hfl D cy z o d σ1 τ (rfl : kd 0 = 5) (nI i)) hP hS cw_X5_errorsOf (mA2 (i := 84) rfl rfl) (rfl : kd 0 = 5) ⟨Nat.le_of_ble_eq_true rfl, Nat.le_of_ble_eq_true rfl⟩ rfl (Nat.le_of_ble_eq_true rfl) hl.1 (tcc_0 (rx_errorsOf hi) ⟨Nat.zero_le _, Nat.zero_le _⟩) dL_isFelt_116) hS (fun H locs hP hS => ?_)
            refine lv_iload hx hb dL_isFelt_119 (lv_at hl 1 rfl) ?_
            refine lv_iload hx hb dL_isFelt_121 (lv_at hl 2 rfl) ?_
            refine lv_iadd hx hb dL_isFelt_123 ?_
            refine lv_icmp_ne (tgt := 147) hx hb dL_isFelt_124 (by decide) (fun c_124 => ?_) (fun c_124 => ?_)
            · exact absurd (fk8.1 c_44) c_124
            · refine lv_aload_n hx hb dL_isFelt_127 rfl (lv_at hl 8 rfl) ?_
              refine lv_iload_n hx hb dL_isFelt_128 rfl (lv_at hl 9 rfl) ?_
              refine okE_I (rx_distanceOf hi) (rd_distanceOf hi) rfl (runT_V (As := [.int (nI i)]) (rest := []) C (k_X5_distanceOf l hfl D cy z o d σ1 τ (rfl : kd 0 = 5) (nI i)) hP hS cw_X5_distanceOf (mA2 (i := 88) rfl rfl) (rfl : kd 0 = 5) ⟨Nat.le_of_ble_eq_true rfl, Nat.le_of_ble_eq_true rfl⟩ rfl (Nat.le_of_ble_eq_true rfl) hl.1 (tcc_0 (rx_distanceOf hi) ⟨Nat.zero_le _, Nat.zero_le _⟩) dL_isFelt_129) hS (fun H locs hP hS => ?_)
              refine lv_iload hx hb dL_isFelt_132 (lv_at hl 0 rfl) ?_
              refine lv_iload hx hb dL_isFelt_134 (lv_at hl 7 rfl) ?_
              refine thnE_I rfl rfl (run_S (As := [.int (f_X4_stepUnder σ (1 + 1 + 3 * i) (σ 1 4) y)]) (rest := [.int (σ (1 + 1 + 3 * i) 10), .int (σ1 (1 + 1 + 3 * i) 10)]) C (k_L_size l D cy z o d σ1 τ (f_X4_stepUnder σ (1 + 1 + 3 * i) (σ 1 4) y)) hP hS cw_L_size (mA2 (i := 169) rfl rfl) ⟨rfl, rfl⟩ ⟨Nat.le_of_ble_eq_true rfl, Nat.le_of_ble_eq_true rfl⟩ rfl (Nat.le_of_ble_eq_true rfl) hl.1 ⟨Nat.zero_le _, Nat.zero_le _⟩ dL_isFelt_136) hS (fun H locs hP hS => ?_)
              refine lv_iadd hx hb dL_isFelt_139 ?_
              refine lv_icmp_ne (tgt := 147) hx hb dL_isFelt_140 (by decide) (fun c_140 => ?_) (fun c_140 => ?_)
              · exact absurd (by rw [fk, size_ab]; rfl) c_140
              · refine lv_iconst (v := 1) hx hb dL_isFelt_143 (by decide) ?_
                refine lv_goto (tgt := 148) hx hb dL_isFelt_144 (by decide) ?_
                refine lv_istore (lv' := [(12, .int 1), (11, .int (σ (1 + 1 + 3 * i) 10)), (10, .int (σ (1 + 1 + 3 * i) 8)), (9, .int 1), (8, .int (σ (1 + 1 + 3 * i) 3)), (7, .int (σ (1 + 1 + 3 * i + 1) 2)), (6, .int (σ (1 + 1 + 3 * i) 11)), (5, .int (σ (1 + 1 + 3 * i) 2)), (4, .int (f_X4_stepUnder σ (1 + 1 + 3 * i) (σ 1 4) y)), (0, .ref (z + 0)), (1, .int (nI i)), (2, .int y), (3, .int w)]) hx hb dL_isFelt_148 hl (by decide) rfl (fun ls hl => ?_)
                refine lv_iload hx hb dL_isFelt_150 (lv_at hl 0 rfl) ?_
                refine lv_if_eq (tgt := 228) hx hb dL_isFelt_152 (by decide) (fun c_152 => ?_) (fun c_152 => ?_)
                · exact absurd c_152 (by decide)
                · refine lv_aload_n hx hb dL_isFelt_155 rfl (lv_at hl 9 rfl) ?_
                  refine lv_iload_n hx hb dL_isFelt_156 rfl (lv_at hl 10 rfl) ?_
                  refine okE_I (rx_logLength hi) (rd_logLength hi) rfl (runT_V (As := [.int (nI i)]) (rest := []) C (k_X5_logLength l hfl D cy z o d σ1 τ (rfl : kd 0 = 5) (nI i)) hP hS cw_X5_logLength (mA2 (i := 72) rfl rfl) (rfl : kd 0 = 5) ⟨Nat.le_of_ble_eq_true rfl, Nat.le_of_ble_eq_true rfl⟩ rfl (Nat.le_of_ble_eq_true rfl) hl.1 (tcc_0 (rx_logLength hi) ⟨Nat.zero_le _, Nat.zero_le _⟩) dL_isFelt_157) hS (fun H locs hP hS => ?_)
                  refine lv_iload hx hb dL_isFelt_160 (lv_at hl 5 rfl) ?_
                  refine lv_bipush (v := 16) hx hb dL_isFelt_162 (by decide) ?_
                  refine lv_icmp_ge (tgt := 174) hx hb dL_isFelt_164 (by decide) (fun c_164 => ?_) (fun c_164 => ?_)
                  · refine lv_bipush (v := 16) hx hb dL_isFelt_174 (by decide) ?_
                    refine lv_icmp_ne (tgt := 228) hx hb dL_isFelt_176 (by decide) (fun c_176 => ?_) (fun c_176 => ?_)
                    · exact absurd (fl.2 c_164) c_176
                    · refine lv_aload_n hx hb dL_isFelt_179 rfl (lv_at hl 9 rfl) ?_
                      refine lv_iload_n hx hb dL_isFelt_180 rfl (lv_at hl 10 rfl) ?_
                      refine lv_aload_n hx hb dL_isFelt_181 rfl (lv_at hl 9 rfl) ?_
                      refine lv_iload_n hx hb dL_isFelt_182 rfl (lv_at hl 10 rfl) ?_
                      refine okE_I (rx_logLength hi) (rd_logLength hi) rfl (runT_V (As := [.int (nI i)]) (rest := [.int (nI i), .ref (z + 0)]) C (k_X5_logLength l hfl D cy z o d σ1 τ (rfl : kd 0 = 5) (nI i)) hP hS cw_X5_logLength (mA2 (i := 72) rfl rfl) (rfl : kd 0 = 5) ⟨Nat.le_of_ble_eq_true rfl, Nat.le_of_ble_eq_true rfl⟩ rfl (Nat.le_of_ble_eq_true rfl) hl.1 (tcc_0 (rx_logLength hi) ⟨Nat.zero_le _, Nat.zero_le _⟩) dL_isFelt_183) hS (fun H locs hP hS => ?_)
                      refine lv_iconst (v := 1) hx hb dL_isFelt_186 (by decide) ?_
                      refine lv_isub hx hb dL_isFelt_187 ?_
                      refine okE_I fg.1 fg.2 rfl (runT_V (As := [.int (nI i), .int ((σ1 (1 + 1 + 3 * i + 1) 2) - 1)]) (rest := []) C (k_X5_loggedStep l hfl D cy z o d σ1 τ (rfl : kd 0 = 5) (nI i) ((σ1 (1 + 1 + 3 * i + 1) 2) - 1)) hP hS cw_X5_loggedStep (mA2 (i := 172) rfl rfl) (rfl : kd 0 = 5) ⟨Nat.le_of_ble_eq_true rfl, Nat.le_of_ble_eq_true rfl⟩ rfl (Nat.le_of_ble_eq_true rfl) hl.1 (tcc_0 fg.1 ⟨Nat.zero_le _, Nat.zero_le _⟩) dL_isFelt_188) hS (fun H locs hP hS => ?_)
                      refine lv_iload hx hb dL_isFelt_191 (lv_at hl 8 rfl) ?_
                      refine lv_icmp_ne (tgt := 228) hx hb dL_isFelt_193 (by decide) (fun c_193 => ?_) (fun c_193 => ?_)
                      · exact absurd rfl c_193
                      · refine lv_aload_n hx hb dL_isFelt_196 rfl (lv_at hl 9 rfl) ?_
                        refine lv_iload_n hx hb dL_isFelt_197 rfl (lv_at hl 10 rfl) ?_
                        refine okE_I (rx_directionOf hi) (rd_directionOf hi) rfl (runT_V (As := [.int (nI i)]) (rest := []) C (k_X5_directionOf l hfl D cy z o d σ1 τ (rfl : kd 0 = 5) (nI i)) hP hS cw_X5_directionOf (mA2 (i := 76) rfl rfl) (rfl : kd 0 = 5) ⟨Nat.le_of_ble_eq_true rfl, Nat.le_of_ble_eq_true rfl⟩ rfl (Nat.le_of_ble_eq_true rfl) hl.1 (tcc_0 (rx_directionOf hi) ⟨Nat.zero_le _, Nat.zero_le _⟩) dL_isFelt_198) hS (fun H locs hP hS => ?_)
                        refine lv_iload hx hb dL_isFelt_201 (lv_at hl 8 rfl) ?_
                        refine lv_if_le (tgt := 210) hx hb dL_isFelt_203 (by decide) (fun c_203 => ?_) (fun c_203 => ?_)
                        · refine lv_iload hx hb dL_isFelt_210 (lv_at hl 8 rfl) ?_
                          refine lv_if_ge (tgt := 219) hx hb dL_isFelt_212 (by decide) (fun c_212 => ?_) (fun c_212 => ?_)
                          · refine lv_iload hx hb dL_isFelt_219 (lv_at hl 4 rfl) ?_
                            refine lv_icmp_ne (tgt := 228) hx hb dL_isFelt_221 (by decide) (fun c_221 => ?_) (fun c_221 => ?_)
                            · exact absurd (fd.2.2 c_203 c_212) c_221
                            · refine lv_iconst (v := 1) hx hb dL_isFelt_224 (by decide) ?_
                              refine lv_goto (tgt := 229) hx hb dL_isFelt_225 (by decide) ?_
                              refine lv_istore (lv' := [(12, .int 1), (11, .int (σ (1 + 1 + 3 * i) 10)), (10, .int (σ (1 + 1 + 3 * i) 8)), (9, .int 1), (8, .int (σ (1 + 1 + 3 * i) 3)), (7, .int (σ (1 + 1 + 3 * i + 1) 2)), (6, .int (σ (1 + 1 + 3 * i) 11)), (5, .int (σ (1 + 1 + 3 * i) 2)), (4, .int (f_X4_stepUnder σ (1 + 1 + 3 * i) (σ 1 4) y)), (0, .ref (z + 0)), (1, .int (nI i)), (2, .int y), (3, .int w)]) hx hb dL_isFelt_229 hl (by decide) rfl (fun ls hl => ?_)
                              refine lv_iload hx hb dL_isFelt_231 (lv_at hl 0 rfl) ?_
                              refine lv_if_eq (tgt := 280) hx hb dL_isFelt_233 (by decide) (fun c_233 => ?_) (fun c_233 => ?_)
                              · exact absurd c_233 (by decide)
                              · refine lv_iload hx hb dL_isFelt_236 (lv_at hl 3 rfl) ?_
                                refine lv_if_ne (tgt := 256) hx hb dL_isFelt_238 (by decide) (fun c_238 => ?_) (fun c_238 => ?_)
                                · refine lv_iload hx hb dL_isFelt_256 (lv_at hl 8 rfl) ?_
                                  refine lv_aload_n hx hb dL_isFelt_258 rfl (lv_at hl 9 rfl) ?_
                                  refine thnE_I rd_rule rfl (run_V (As := []) (rest := [.int (f_X4_stepUnder σ (1 + 1 + 3 * i) (σ 1 4) y)]) C (k_X5_rule l D cy z o d σ1 τ (rfl : kd 0 = 5)) hP hS cw_X5_rule (mA2 (i := 185) rfl rfl) (rfl : kd 0 = 5) ⟨rfl, rfl⟩ ⟨Nat.le_of_ble_eq_true rfl, Nat.le_of_ble_eq_true rfl⟩ rfl (Nat.le_of_ble_eq_true rfl) hl.1 ⟨Nat.zero_le _, Nat.zero_le _⟩ dL_isFelt_259) hS (fun H locs hP hS => ?_)
                                  refine lv_if_ne (tgt := 269) hx hb dL_isFelt_262 (by decide) (fun c_262 => ?_) (fun c_262 => ?_)
                                  · refine lv_iconst (v := 2) hx hb dL_isFelt_269 (by decide) ?_
                                    refine lv_iload hx hb dL_isFelt_270 (lv_at hl 4 rfl) ?_
                                    refine lv_imul hx hb dL_isFelt_272 ?_
                                    refine lv_icmp_ne (tgt := 280) hx hb dL_isFelt_273 (by decide) (fun c_273 => ?_) (fun c_273 => ?_)
                                    · exact absurd ((fy c_44).2 c_262) c_273
                                    · refine lv_iconst (v := 1) hx hb dL_isFelt_276 (by decide) ?_
                                      refine lv_goto (tgt := 281) hx hb dL_isFelt_277 (by decide) ?_
                                      exact ret_I C hP hS nar_z1 rfl rfl rfl rfl dL_isFelt_281
                                  · refine lv_iconst (v := 0) hx hb dL_isFelt_265 (by decide) ?_
                                    refine lv_goto (tgt := 273) hx hb dL_isFelt_266 (by decide) ?_
                                    refine lv_icmp_ne (tgt := 280) hx hb dL_isFelt_273 (by decide) (fun c_273 => ?_) (fun c_273 => ?_)
                                    · exact absurd ((fy c_44).1 c_262) c_273
                                    · refine lv_iconst (v := 1) hx hb dL_isFelt_276 (by decide) ?_
                                      refine lv_goto (tgt := 281) hx hb dL_isFelt_277 (by decide) ?_
                                      exact ret_I C hP hS nar_z1 rfl rfl rfl rfl dL_isFelt_281
                                · exact absurd c_238 (by decide)
                          · refine lv_iconst (v := (-1)) hx hb dL_isFelt_215 (by decide) ?_
                            refine lv_goto (tgt := 221) hx hb dL_isFelt_216 (by decide) ?_
                            refine lv_icmp_ne (tgt := 228) hx hb dL_isFelt_221 (by decide) (fun c_221 => ?_) (fun c_221 => ?_)
                            · exact absurd (fd.2.1 c_203 c_212) c_221
                            · refine lv_iconst (v := 1) hx hb dL_isFelt_224 (by decide) ?_
                              refine lv_goto (tgt := 229) hx hb dL_isFelt_225 (by decide) ?_
                              refine lv_istore (lv' := [(12, .int 1), (11, .int (σ (1 + 1 + 3 * i) 10)), (10, .int (σ (1 + 1 + 3 * i) 8)), (9, .int 1), (8, .int (σ (1 + 1 + 3 * i) 3)), (7, .int (σ (1 + 1 + 3 * i + 1) 2)), (6, .int (σ (1 + 1 + 3 * i) 11)), (5, .int (σ (1 + 1 + 3 * i) 2)), (4, .int (f_X4_stepUnder σ (1 + 1 + 3 * i) (σ 1 4) y)), (0, .ref (z + 0)), (1, .int (nI i)), (2, .int y), (3, .int w)]) hx hb dL_isFelt_229 hl (by decide) rfl (fun ls hl => ?_)
                              refine lv_iload hx hb dL_isFelt_231 (lv_at hl 0 rfl) ?_
                              refine lv_if_eq (tgt := 280) hx hb dL_isFelt_233 (by decide) (fun c_233 => ?_) (fun c_233 => ?_)
                              · exact absurd c_233 (by decide)
                              · refine lv_iload hx hb dL_isFelt_236 (lv_at hl 3 rfl) ?_
                                refine lv_if_ne (tgt := 256) hx hb dL_isFelt_238 (by decide) (fun c_238 => ?_) (fun c_238 => ?_)
                                · refine lv_iload hx hb dL_isFelt_256 (lv_at hl 8 rfl) ?_
                                  refine lv_aload_n hx hb dL_isFelt_258 rfl (lv_at hl 9 rfl) ?_
                                  refine thnE_I rd_rule rfl (run_V (As := []) (rest := [.int (f_X4_stepUnder σ (1 + 1 + 3 * i) (σ 1 4) y)]) C (k_X5_rule l D cy z o d σ1 τ (rfl : kd 0 = 5)) hP hS cw_X5_rule (mA2 (i := 185) rfl rfl) (rfl : kd 0 = 5) ⟨rfl, rfl⟩ ⟨Nat.le_of_ble_eq_true rfl, Nat.le_of_ble_eq_true rfl⟩ rfl (Nat.le_of_ble_eq_true rfl) hl.1 ⟨Nat.zero_le _, Nat.zero_le _⟩ dL_isFelt_259) hS (fun H locs hP hS => ?_)
                                  refine lv_if_ne (tgt := 269) hx hb dL_isFelt_262 (by decide) (fun c_262 => ?_) (fun c_262 => ?_)
                                  · refine lv_iconst (v := 2) hx hb dL_isFelt_269 (by decide) ?_
                                    refine lv_iload hx hb dL_isFelt_270 (lv_at hl 4 rfl) ?_
                                    refine lv_imul hx hb dL_isFelt_272 ?_
                                    refine lv_icmp_ne (tgt := 280) hx hb dL_isFelt_273 (by decide) (fun c_273 => ?_) (fun c_273 => ?_)
                                    · exact absurd ((fy c_44).2 c_262) c_273
                                    · refine lv_iconst (v := 1) hx hb dL_isFelt_276 (by decide) ?_
                                      refine lv_goto (tgt := 281) hx hb dL_isFelt_277 (by decide) ?_
                                      exact ret_I C hP hS nar_z1 rfl rfl rfl rfl dL_isFelt_281
                                  · refine lv_iconst (v := 0) hx hb dL_isFelt_265 (by decide) ?_
                                    refine lv_goto (tgt := 273) hx hb dL_isFelt_266 (by decide) ?_
                                    refine lv_icmp_ne (tgt := 280) hx hb dL_isFelt_273 (by decide) (fun c_273 => ?_) (fun c_273 => ?_)
                                    · exact absurd ((fy c_44).1 c_262) c_273
                                    · refine lv_iconst (v := 1) hx hb dL_isFelt_276 (by decide) ?_
                                      refine lv_goto (tgt := 281) hx hb dL_isFelt_277 (by decide) ?_
                                      exact ret_I C hP hS nar_z1 rfl rfl rfl rfl dL_isFelt_281
                                · exact absurd c_238 (by decide)
                        · refine lv_iconst (v := 1) hx hb dL_isFelt_206 (by decide) ?_
                          refine lv_goto (tgt := 221) hx hb dL_isFelt_207 (by decide) ?_
                          refine lv_icmp_ne (tgt := 228) hx hb dL_isFelt_221 (by decide) (fun c_221 => ?_) (fun c_221 => ?_)
                          · exact absurd (fd.1 c_203) c_221
                          · refine lv_iconst (v := 1) hx hb dL_isFelt_224 (by decide) ?_
                            refine lv_goto (tgt := 229) hx hb dL_isFelt_225 (by decide) ?_
                            refine lv_istore (lv' := [(12, .int 1), (11, .int (σ (1 + 1 + 3 * i) 10)), (10, .int (σ (1 + 1 + 3 * i) 8)), (9, .int 1), (8, .int (σ (1 + 1 + 3 * i) 3)), (7, .int (σ (1 + 1 + 3 * i + 1) 2)), (6, .int (σ (1 + 1 + 3 * i) 11)), (5, .int (σ (1 + 1 + 3 * i) 2)), (4, .int (f_X4_stepUnder σ (1 + 1 + 3 * i) (σ 1 4) y)), (0, .ref (z + 0)), (1, .int (nI i)), (2, .int y), (3, .int w)]) hx hb dL_isFelt_229 hl (by decide) rfl (fun ls hl => ?_)
                            refine lv_iload hx hb dL_isFelt_231 (lv_at hl 0 rfl) ?_
                            refine lv_if_eq (tgt := 280) hx hb dL_isFelt_233 (by decide) (fun c_233 => ?_) (fun c_233 => ?_)
                            · exact absurd c_233 (by decide)
                            · refine lv_iload hx hb dL_isFelt_236 (lv_at hl 3 rfl) ?_
                              refine lv_if_ne (tgt := 256) hx hb dL_isFelt_238 (by decide) (fun c_238 => ?_) (fun c_238 => ?_)
                              · refine lv_iload hx hb dL_isFelt_256 (lv_at hl 8 rfl) ?_
                                refine lv_aload_n hx hb dL_isFelt_258 rfl (lv_at hl 9 rfl) ?_
                                refine thnE_I rd_rule rfl (run_V (As := []) (rest := [.int (f_X4_stepUnder σ (1 + 1 + 3 * i) (σ 1 4) y)]) C (k_X5_rule l D cy z o d σ1 τ (rfl : kd 0 = 5)) hP hS cw_X5_rule (mA2 (i := 185) rfl rfl) (rfl : kd 0 = 5) ⟨rfl, rfl⟩ ⟨Nat.le_of_ble_eq_true rfl, Nat.le_of_ble_eq_true rfl⟩ rfl (Nat.le_of_ble_eq_true rfl) hl.1 ⟨Nat.zero_le _, Nat.zero_le _⟩ dL_isFelt_259) hS (fun H locs hP hS => ?_)
                                refine lv_if_ne (tgt := 269) hx hb dL_isFelt_262 (by decide) (fun c_262 => ?_) (fun c_262 => ?_)
                                · refine lv_iconst (v := 2) hx hb dL_isFelt_269 (by decide) ?_
                                  refine lv_iload hx hb dL_isFelt_270 (lv_at hl 4 rfl) ?_
                                  refine lv_imul hx hb dL_isFelt_272 ?_
                                  refine lv_icmp_ne (tgt := 280) hx hb dL_isFelt_273 (by decide) (fun c_273 => ?_) (fun c_273 => ?_)
                                  · exact absurd ((fy c_44).2 c_262) c_273
                                  · refine lv_iconst (v := 1) hx hb dL_isFelt_276 (by decide) ?_
                                    refine lv_goto (tgt := 281) hx hb dL_isFelt_277 (by decide) ?_
                                    exact ret_I C hP hS nar_z1 rfl rfl rfl rfl dL_isFelt_281
                                · refine lv_iconst (v := 0) hx hb dL_isFelt_265 (by decide) ?_
                                  refine lv_goto (tgt := 273) hx hb dL_isFelt_266 (by decide) ?_
                                  refine lv_icmp_ne (tgt := 280) hx hb dL_isFelt_273 (by decide) (fun c_273 => ?_) (fun c_273 => ?_)
                                  · exact absurd ((fy c_44).1 c_262) c_273
                                  · refine lv_iconst (v := 1) hx hb dL_isFelt_276 (by decide) ?_
                                    refine lv_goto (tgt := 281) hx hb dL_isFelt_277 (by decide) ?_
                                    exact ret_I C hP hS nar_z1 rfl rfl rfl rfl dL_isFelt_281
                              · exact absurd c_238 (by decide)
                  · refine lv_iload hx hb dL_isFelt_167 (lv_at hl 5 rfl) ?_
                    refine lv_iconst (v := 1) hx hb dL_isFelt_169 (by decide) ?_
                    refine lv_iadd hx hb dL_isFelt_170 ?_
                    refine lv_goto (tgt := 176) hx hb dL_isFelt_171 (by decide) ?_
                    refine lv_icmp_ne (tgt := 228) hx hb dL_isFelt_176 (by decide) (fun c_176 => ?_) (fun c_176 => ?_)
                    · exact absurd (fl.1 c_164) c_176
                    · refine lv_aload_n hx hb dL_isFelt_179 rfl (lv_at hl 9 rfl) ?_
                      refine lv_iload_n hx hb dL_isFelt_180 rfl (lv_at hl 10 rfl) ?_
                      refine lv_aload_n hx hb dL_isFelt_181 rfl (lv_at hl 9 rfl) ?_
                      refine lv_iload_n hx hb dL_isFelt_182 rfl (lv_at hl 10 rfl) ?_
                      refine okE_I (rx_logLength hi) (rd_logLength hi) rfl (runT_V (As := [.int (nI i)]) (rest := [.int (nI i), .ref (z + 0)]) C (k_X5_logLength l hfl D cy z o d σ1 τ (rfl : kd 0 = 5) (nI i)) hP hS cw_X5_logLength (mA2 (i := 72) rfl rfl) (rfl : kd 0 = 5) ⟨Nat.le_of_ble_eq_true rfl, Nat.le_of_ble_eq_true rfl⟩ rfl (Nat.le_of_ble_eq_true rfl) hl.1 (tcc_0 (rx_logLength hi) ⟨Nat.zero_le _, Nat.zero_le _⟩) dL_isFelt_183) hS (fun H locs hP hS => ?_)
                      refine lv_iconst (v := 1) hx hb dL_isFelt_186 (by decide) ?_
                      refine lv_isub hx hb dL_isFelt_187 ?_
                      refine okE_I fg.1 fg.2 rfl (runT_V (As := [.int (nI i), .int ((σ1 (1 + 1 + 3 * i + 1) 2) - 1)]) (rest := []) C (k_X5_loggedStep l hfl D cy z o d σ1 τ (rfl : kd 0 = 5) (nI i) ((σ1 (1 + 1 + 3 * i + 1) 2) - 1)) hP hS cw_X5_loggedStep (mA2 (i := 172) rfl rfl) (rfl : kd 0 = 5) ⟨Nat.le_of_ble_eq_true rfl, Nat.le_of_ble_eq_true rfl⟩ rfl (Nat.le_of_ble_eq_true rfl) hl.1 (tcc_0 fg.1 ⟨Nat.zero_le _, Nat.zero_le _⟩) dL_isFelt_188) hS (fun H locs hP hS => ?_)
                      refine lv_iload hx hb dL_isFelt_191 (lv_at hl 8 rfl) ?_
                      refine lv_icmp_ne (tgt := 228) hx hb dL_isFelt_193 (by decide) (fun c_193 => ?_) (fun c_193 => ?_)
                      · exact absurd rfl c_193
                      · refine lv_aload_n hx hb dL_isFelt_196 rfl (lv_at hl 9 rfl) ?_
                        refine lv_iload_n hx hb dL_isFelt_197 rfl (lv_at hl 10 rfl) ?_
                        refine okE_I (rx_directionOf hi) (rd_directionOf hi) rfl (runT_V (As := [.int (nI i)]) (rest := []) C (k_X5_directionOf l hfl D cy z o d σ1 τ (rfl : kd 0 = 5) (nI i)) hP hS cw_X5_directionOf (mA2 (i := 76) rfl rfl) (rfl : kd 0 = 5) ⟨Nat.le_of_ble_eq_true rfl, Nat.le_of_ble_eq_true rfl⟩ rfl (Nat.le_of_ble_eq_true rfl) hl.1 (tcc_0 (rx_directionOf hi) ⟨Nat.zero_le _, Nat.zero_le _⟩) dL_isFelt_198) hS (fun H locs hP hS => ?_)
                        refine lv_iload hx hb dL_isFelt_201 (lv_at hl 8 rfl) ?_
                        refine lv_if_le (tgt := 210) hx hb dL_isFelt_203 (by decide) (fun c_203 => ?_) (fun c_203 => ?_)
                        · refine lv_iload hx hb dL_isFelt_210 (lv_at hl 8 rfl) ?_
                          refine lv_if_ge (tgt := 219) hx hb dL_isFelt_212 (by decide) (fun c_212 => ?_) (fun c_212 => ?_)
                          · refine lv_iload hx hb dL_isFelt_219 (lv_at hl 4 rfl) ?_
                            refine lv_icmp_ne (tgt := 228) hx hb dL_isFelt_221 (by decide) (fun c_221 => ?_) (fun c_221 => ?_)
                            · exact absurd (fd.2.2 c_203 c_212) c_221
                            · refine lv_iconst (v := 1) hx hb dL_isFelt_224 (by decide) ?_
                              refine lv_goto (tgt := 229) hx hb dL_isFelt_225 (by decide) ?_
                              refine lv_istore (lv' := [(12, .int 1), (11, .int (σ (1 + 1 + 3 * i) 10)), (10, .int (σ (1 + 1 + 3 * i) 8)), (9, .int 1), (8, .int (σ (1 + 1 + 3 * i) 3)), (7, .int (σ (1 + 1 + 3 * i + 1) 2)), (6, .int (σ (1 + 1 + 3 * i) 11)), (5, .int (σ (1 + 1 + 3 * i) 2)), (4, .int (f_X4_stepUnder σ (1 + 1 + 3 * i) (σ 1 4) y)), (0, .ref (z + 0)), (1, .int (nI i)), (2, .int y), (3, .int w)]) hx hb dL_isFelt_229 hl (by decide) rfl (fun ls hl => ?_)
                              refine lv_iload hx hb dL_isFelt_231 (lv_at hl 0 rfl) ?_
                              refine lv_if_eq (tgt := 280) hx hb dL_isFelt_233 (by decide) (fun c_233 => ?_) (fun c_233 => ?_)
                              · exact absurd c_233 (by decide)
                              · refine lv_iload hx hb dL_isFelt_236 (lv_at hl 3 rfl) ?_
                                refine lv_if_ne (tgt := 256) hx hb dL_isFelt_238 (by decide) (fun c_238 => ?_) (fun c_238 => ?_)
                                · refine lv_iload hx hb dL_isFelt_256 (lv_at hl 8 rfl) ?_
                                  refine lv_aload_n hx hb dL_isFelt_258 rfl (lv_at hl 9 rfl) ?_
                                  refine thnE_I rd_rule rfl (run_V (As := []) (rest := [.int (f_X4_stepUnder σ (1 + 1 + 3 * i) (σ 1 4) y)]) C (k_X5_rule l D cy z o d σ1 τ (rfl : kd 0 = 5)) hP hS cw_X5_rule (mA2 (i := 185) rfl rfl) (rfl : kd 0 = 5) ⟨rfl, rfl⟩ ⟨Nat.le_of_ble_eq_true rfl, Nat.le_of_ble_eq_true rfl⟩ rfl (Nat.le_of_ble_eq_true rfl) hl.1 ⟨Nat.zero_le _, Nat.zero_le _⟩ dL_isFelt_259) hS (fun H locs hP hS => ?_)
                                  refine lv_if_ne (tgt := 269) hx hb dL_isFelt_262 (by decide) (fun c_262 => ?_) (fun c_262 => ?_)
                                  · refine lv_iconst (v := 2) hx hb dL_isFelt_269 (by decide) ?_
                                    refine lv_iload hx hb dL_isFelt_270 (lv_at hl 4 rfl) ?_
                                    refine lv_imul hx hb dL_isFelt_272 ?_
                                    refine lv_icmp_ne (tgt := 280) hx hb dL_isFelt_273 (by decide) (fun c_273 => ?_) (fun c_273 => ?_)
                                    · exact absurd ((fy c_44).2 c_262) c_273
                                    · refine lv_iconst (v := 1) hx hb dL_isFelt_276 (by decide) ?_
                                      refine lv_goto (tgt := 281) hx hb dL_isFelt_277 (by decide) ?_
                                      exact ret_I C hP hS nar_z1 rfl rfl rfl rfl dL_isFelt_281
                                  · refine lv_iconst (v := 0) hx hb dL_isFelt_265 (by decide) ?_
                                    refine lv_goto (tgt := 273) hx hb dL_isFelt_266 (by decide) ?_
                                    refine lv_icmp_ne (tgt := 280) hx hb dL_isFelt_273 (by decide) (fun c_273 => ?_) (fun c_273 => ?_)
                                    · exact absurd ((fy c_44).1 c_262) c_273
                                    · refine lv_iconst (v := 1) hx hb dL_isFelt_276 (by decide) ?_
                                      refine lv_goto (tgt := 281) hx hb dL_isFelt_277 (by decide) ?_
                                      exact ret_I C hP hS nar_z1 rfl rfl rfl rfl dL_isFelt_281
                                · exact absurd c_238 (by decide)
                          · refine lv_iconst (v := (-1)) hx hb dL_isFelt_215 (by decide) ?_
                            refine lv_goto (tgt := 221) hx hb dL_isFelt_216 (by decide) ?_
                            refine lv_icmp_ne (tgt := 228) hx hb dL_isFelt_221 (by decide) (fun c_221 => ?_) (fun c_221 => ?_)
                            · exact absurd (fd.2.1 c_203 c_212) c_221
                            · refine lv_iconst (v := 1) hx hb dL_isFelt_224 (by decide) ?_
                              refine lv_goto (tgt := 229) hx hb dL_isFelt_225 (by decide) ?_
                              refine lv_istore (lv' := [(12, .int 1), (11, .int (σ (1 + 1 + 3 * i) 10)), (10, .int (σ (1 + 1 + 3 * i) 8)), (9, .int 1), (8, .int (σ (1 + 1 + 3 * i) 3)), (7, .int (σ (1 + 1 + 3 * i + 1) 2)), (6, .int (σ (1 + 1 + 3 * i) 11)), (5, .int (σ (1 + 1 + 3 * i) 2)), (4, .int (f_X4_stepUnder σ (1 + 1 + 3 * i) (σ 1 4) y)), (0, .ref (z + 0)), (1, .int (nI i)), (2, .int y), (3, .int w)]) hx hb dL_isFelt_229 hl (by decide) rfl (fun ls hl => ?_)
                              refine lv_iload hx hb dL_isFelt_231 (lv_at hl 0 rfl) ?_
                              refine lv_if_eq (tgt := 280) hx hb dL_isFelt_233 (by decide) (fun c_233 => ?_) (fun c_233 => ?_)
                              · exact absurd c_233 (by decide)
                              · refine lv_iload hx hb dL_isFelt_236 (lv_at hl 3 rfl) ?_
                                refine lv_if_ne (tgt := 256) hx hb dL_isFelt_238 (by decide) (fun c_238 => ?_) (fun c_238 => ?_)
                                · refine lv_iload hx hb dL_isFelt_256 (lv_at hl 8 rfl) ?_
                                  refine lv_aload_n hx hb dL_isFelt_258 rfl (lv_at hl 9 rfl) ?_
                                  refine thnE_I rd_rule rfl (run_V (As := []) (rest := [.int (f_X4_stepUnder σ (1 + 1 + 3 * i) (σ 1 4) y)]) C (k_X5_rule l D cy z o d σ1 τ (rfl : kd 0 = 5)) hP hS cw_X5_rule (mA2 (i := 185) rfl rfl) (rfl : kd 0 = 5) ⟨rfl, rfl⟩ ⟨Nat.le_of_ble_eq_true rfl, Nat.le_of_ble_eq_true rfl⟩ rfl (Nat.le_of_ble_eq_true rfl) hl.1 ⟨Nat.zero_le _, Nat.zero_le _⟩ dL_isFelt_259) hS (fun H locs hP hS => ?_)
                                  refine lv_if_ne (tgt := 269) hx hb dL_isFelt_262 (by decide) (fun c_262 => ?_) (fun c_262 => ?_)
                                  · refine lv_iconst (v := 2) hx hb dL_isFelt_269 (by decide) ?_
                                    refine lv_iload hx hb dL_isFelt_270 (lv_at hl 4 rfl) ?_
                                    refine lv_imul hx hb dL_isFelt_272 ?_
                                    refine lv_icmp_ne (tgt := 280) hx hb dL_isFelt_273 (by decide) (fun c_273 => ?_) (fun c_273 => ?_)
                                    · exact absurd ((fy c_44).2 c_262) c_273
                                    · refine lv_iconst (v := 1) hx hb dL_isFelt_276 (by decide) ?_
                                      refine lv_goto (tgt := 281) hx hb dL_isFelt_277 (by decide) ?_
                                      exact ret_I C hP hS nar_z1 rfl rfl rfl rfl dL_isFelt_281
                                  · refine lv_iconst (v := 0) hx hb dL_isFelt_265 (by decide) ?_
                                    refine lv_goto (tgt := 273) hx hb dL_isFelt_266 (by decide) ?_
                                    refine lv_icmp_ne (tgt := 280) hx hb dL_isFelt_273 (by decide) (fun c_273 => ?_) (fun c_273 => ?_)
                                    · exact absurd ((fy c_44).1 c_262) c_273
                                    · refine lv_iconst (v := 1) hx hb dL_isFelt_276 (by decide) ?_
                                      refine lv_goto (tgt := 281) hx hb dL_isFelt_277 (by decide) ?_
                                      exact ret_I C hP hS nar_z1 rfl rfl rfl rfl dL_isFelt_281
                                · exact absurd c_238 (by decide)
                        · refine lv_iconst (v := 1) hx hb dL_isFelt_206 (by decide) ?_
                          refine lv_goto (tgt := 221) hx hb dL_isFelt_207 (by decide) ?_
                          refine lv_icmp_ne (tgt := 228) hx hb dL_isFelt_221 (by decide) (fun c_221 => ?_) (fun c_221 => ?_)
                          · exact absurd (fd.1 c_203) c_221
                          · refine lv_iconst (v := 1) hx hb dL_isFelt_224 (by decide) ?_
                            refine lv_goto (tgt := 229) hx hb dL_isFelt_225 (by decide) ?_
                            refine lv_istore (lv' := [(12, .int 1), (11, .int (σ (1 + 1 + 3 * i) 10)), (10, .int (σ (1 + 1 + 3 * i) 8)), (9, .int 1), (8, .int (σ (1 + 1 + 3 * i) 3)), (7, .int (σ (1 + 1 + 3 * i + 1) 2)), (6, .int (σ (1 + 1 + 3 * i) 11)), (5, .int (σ (1 + 1 + 3 * i) 2)), (4, .int (f_X4_stepUnder σ (1 + 1 + 3 * i) (σ 1 4) y)), (0, .ref (z + 0)), (1, .int (nI i)), (2, .int y), (3, .int w)]) hx hb dL_isFelt_229 hl (by decide) rfl (fun ls hl => ?_)
                            refine lv_iload hx hb dL_isFelt_231 (lv_at hl 0 rfl) ?_
                            refine lv_if_eq (tgt := 280) hx hb dL_isFelt_233 (by decide) (fun c_233 => ?_) (fun c_233 => ?_)
                            · exact absurd c_233 (by decide)
                            · refine lv_iload hx hb dL_isFelt_236 (lv_at hl 3 rfl) ?_
                              refine lv_if_ne (tgt := 256) hx hb dL_isFelt_238 (by decide) (fun c_238 => ?_) (fun c_238 => ?_)
                              · refine lv_iload hx hb dL_isFelt_256 (lv_at hl 8 rfl) ?_
                                refine lv_aload_n hx hb dL_isFelt_258 rfl (lv_at hl 9 rfl) ?_
                                refine thnE_I rd_rule rfl (run_V (As := []) (rest := [.int (f_X4_stepUnder σ (1 + 1 + 3 * i) (σ 1 4) y)]) C (k_X5_rule l D cy z o d σ1 τ (rfl : kd 0 = 5)) hP hS cw_X5_rule (mA2 (i := 185) rfl rfl) (rfl : kd 0 = 5) ⟨rfl, rfl⟩ ⟨Nat.le_of_ble_eq_true rfl, Nat.le_of_ble_eq_true rfl⟩ rfl (Nat.le_of_ble_eq_true rfl) hl.1 ⟨Nat.zero_le _, Nat.zero_le _⟩ dL_isFelt_259) hS (fun H locs hP hS => ?_)
                                refine lv_if_ne (tgt := 269) hx hb dL_isFelt_262 (by decide) (fun c_262 => ?_) (fun c_262 => ?_)
                                · refine lv_iconst (v := 2) hx hb dL_isFelt_269 (by decide) ?_
                                  refine lv_iload hx hb dL_isFelt_270 (lv_at hl 4 rfl) ?_
                                  refine lv_imul hx hb dL_isFelt_272 ?_
                                  refine lv_icmp_ne (tgt := 280) hx hb dL_isFelt_273 (by decide) (fun c_273 => ?_) (fun c_273 => ?_)
                                  · exact absurd ((fy c_44).2 c_262) c_273
                                  · refine lv_iconst (v := 1) hx hb dL_isFelt_276 (by decide) ?_
                                    refine lv_goto (tgt := 281) hx hb dL_isFelt_277 (by decide) ?_
                                    exact ret_I C hP hS nar_z1 rfl rfl rfl rfl dL_isFelt_281
                                · refine lv_iconst (v := 0) hx hb dL_isFelt_265 (by decide) ?_
                                  refine lv_goto (tgt := 273) hx hb dL_isFelt_266 (by decide) ?_
                                  refine lv_icmp_ne (tgt := 280) hx hb dL_isFelt_273 (by decide) (fun c_273 => ?_) (fun c_273 => ?_)
                                  · exact absurd ((fy c_44).1 c_262) c_273
                                  · refine lv_iconst (v := 1) hx hb dL_isFelt_276 (by decide) ?_
                                    refine lv_goto (tgt := 281) hx hb dL_isFelt_277 (by decide) ?_
                                    exact ret_I C hP hS nar_z1 rfl rfl rfl rfl dL_isFelt_281
                              · exact absurd c_238 (by decide)

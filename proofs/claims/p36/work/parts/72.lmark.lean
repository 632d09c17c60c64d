/-! the law's isMarked -/
theorem cw_L_isMarked : cwSt yL_isMarked cL_isMarked 6 (some .boolean) 2 := ⟨(mA2 (i := 196) rfl rfl), (mA1 (i := 0) rfl rfl), (mA2 (i := 197) rfl rfl), by decide +kernel⟩
abbrev rm_L_isMarked : Room := { frames := 8, cells := 0, slots := 0, locals := 125 }
set_option maxHeartbeats 4000000 in
set_option maxRecDepth 100000 in
theorem k_L_isMarked (l : Launch) (hfl : l.stackTraces = false) (D : va_G) (cy : Nat → ClassId) (z : Nat) (o : Int64) (d : UInt64) (τ : Sg) {σ : Sg} {B i : Nat} (h : GN B σ) (hi : i < 4) (hB : B + 40000 ≤ 1000000000) : KI l yL_isMarked cL_isMarked 6 (some .boolean) rm_L_isMarked D cy z [.ref (z + 0), .int (nI i)] o d σ τ 1 (s_X5_meetMark (s_X5_meetMark σ 0 (nI i)) 0 (nI i)) τ := by
  refine met_of RL (plainFor_of_name (by decide)) rfl (Nat.le_of_ble_eq_true rfl) ?_
  intro p e s m args below meth c C hP hS ls hl
  obtain ⟨hx, hb, hr, hml, hown, hW, hlocks, hAm⟩ := id C
  have hl : lv_has ls 6 [(0, .ref (z + 0)), (1, .int (nI i))] := hl
  obtain ⟨mx, mf, mG, m9, m2, mm, m1⟩ := mark_ok h hi (by omega)
  generalize hs1 : s_X5_meetMark σ 0 (nI i) = σ1 at mG m9 m2 mm m1 ⊢
  obtain ⟨nx, nf, nG, -, -, -, -⟩ := mark_ok mG hi (by omega)
  rw [← m1] at mm
  have mp0 : f_X4_placeIn σ1 (1 + 1 + 3 * i) (σ1 1 5) = 0 := by
    apply Int32.toInt_inj.mp
    rw [(place_int mG.2.2.1).1, mm]
    rfl
  have nf0 : f_X4_passMark σ1 (1 + 1 + 3 * i) (σ1 1 5) = 0 := (mark_int mG.2.2.1).2.2 mm
  generalize hs2 : s_X5_meetMark σ1 0 (nI i) = σ2 at nG ⊢
  refine lv_aload_n hx hb dL_isMarked_0 rfl (lv_at hl 0 rfl) ?_
  refine lv_iload_n hx hb dL_isMarked_1 rfl (lv_at hl 1 rfl) ?_
  refine okE_I (rx_placeOf hi) (rd_placeOf hi) rfl (runT_V (As := [.int (nI i)]) (rest := []) C (k_X5_placeOf l hfl D cy z o d σ τ (rfl : kd 0 = 5) (nI i)) hP hS cw_X5_placeOf (mA2 (i := 198) rfl rfl) (rfl : kd 0 = 5) ⟨Nat.le_of_ble_eq_true rfl, Nat.le_of_ble_eq_true rfl⟩ rfl (Nat.le_of_ble_eq_true rfl) hl.1 (tcc_0 (rx_placeOf hi) ⟨Nat.zero_le _, Nat.zero_le _⟩) dL_isMarked_2) hS (fun H locs hP hS => ?_)
  refine lv_istore_n (lv' := [(2, .int (f_X4_placeIn σ (1 + 1 + 3 * i) (σ 1 5))), (0, .ref (z + 0)), (1, .int (nI i))]) hx hb dL_isMarked_5 rfl hl (by decide) rfl (fun ls hl => ?_)
  refine lv_aload_n hx hb dL_isMarked_6 rfl (lv_at hl 1 rfl) ?_
  refine lv_iload_n hx hb dL_isMarked_7 rfl (lv_at hl 2 rfl) ?_
  refine okE_I (rx_slipsOf hi) (rd_slipsOf hi) rfl (runT_V (As := [.int (nI i)]) (rest := []) C (k_X5_slipsOf l hfl D cy z o d σ τ (rfl : kd 0 = 5) (nI i)) hP hS cw_X5_slipsOf (mA2 (i := 209) rfl rfl) (rfl : kd 0 = 5) ⟨Nat.le_of_ble_eq_true rfl, Nat.le_of_ble_eq_true rfl⟩ rfl (Nat.le_of_ble_eq_true rfl) hl.1 (tcc_0 (rx_slipsOf hi) ⟨Nat.zero_le _, Nat.zero_le _⟩) dL_isMarked_8) hS (fun H locs hP hS => ?_)
  refine lv_istore_n (lv' := [(3, .int (σ (1 + 1 + 3 * i) 9)), (2, .int (f_X4_placeIn σ (1 + 1 + 3 * i) (σ 1 5))), (0, .ref (z + 0)), (1, .int (nI i))]) hx hb dL_isMarked_11 rfl hl (by decide) rfl (fun ls hl => ?_)
  refine lv_aload_n hx hb dL_isMarked_12 rfl (lv_at hl 2 rfl) ?_
  refine lv_iload_n hx hb dL_isMarked_13 rfl (lv_at hl 3 rfl) ?_
  refine okE_I (rx_positionOf hi) (rd_positionOf hi) rfl (runT_V (As := [.int (nI i)]) (rest := []) C (k_X5_positionOf l hfl D cy z o d σ τ (rfl : kd 0 = 5) (nI i)) hP hS cw_X5_positionOf (mA2 (i := 64) rfl rfl) (rfl : kd 0 = 5) ⟨Nat.le_of_ble_eq_true rfl, Nat.le_of_ble_eq_true rfl⟩ rfl (Nat.le_of_ble_eq_true rfl) hl.1 (tcc_0 (rx_positionOf hi) ⟨Nat.zero_le _, Nat.zero_le _⟩) dL_isMarked_14) hS (fun H locs hP hS => ?_)
  refine lv_istore (lv' := [(4, .int (σ (1 + 1 + 3 * i) 2)), (3, .int (σ (1 + 1 + 3 * i) 9)), (2, .int (f_X4_placeIn σ (1 + 1 + 3 * i) (σ 1 5))), (0, .ref (z + 0)), (1, .int (nI i))]) hx hb dL_isMarked_17 hl (by decide) rfl (fun ls hl => ?_)
  refine lv_iconst (v := 2) hx hb dL_isMarked_19 (by decide) ?_
  refine lv_iload_n hx hb dL_isMarked_20 rfl (lv_at hl 2 rfl) ?_
  refine lv_imul hx hb dL_isMarked_21 ?_
  refine lv_aload_n hx hb dL_isMarked_22 rfl (lv_at hl 3 rfl) ?_
  refine thnE_I rd_counts rfl (run_V (As := []) (rest := [.int (2 * (f_X4_placeIn σ (1 + 1 + 3 * i) (σ 1 5)))]) C (k_X5_counts l D cy z o d σ τ (rfl : kd 0 = 5)) hP hS cw_X5_counts (mA2 (i := 213) rfl rfl) (rfl : kd 0 = 5) ⟨rfl, rfl⟩ ⟨Nat.le_of_ble_eq_true rfl, Nat.le_of_ble_eq_true rfl⟩ rfl (Nat.le_of_ble_eq_true rfl) hl.1 ⟨Nat.zero_le _, Nat.zero_le _⟩ dL_isMarked_23) hS (fun H locs hP hS => ?_)
  refine lv_icmp_gt (tgt := 33) hx hb dL_isMarked_26 (by decide) (fun c_26 => ?_) (fun c_26 => ?_)
  · refine lv_iload_n hx hb dL_isMarked_33 rfl (lv_at hl 2 rfl) ?_
    refine lv_aload_n hx hb dL_isMarked_34 rfl (lv_at hl 3 rfl) ?_
    refine thnE_I rd_counts rfl (run_V (As := []) (rest := [.int (f_X4_placeIn σ (1 + 1 + 3 * i) (σ 1 5))]) C (k_X5_counts l D cy z o d σ τ (rfl : kd 0 = 5)) hP hS cw_X5_counts (mA2 (i := 213) rfl rfl) (rfl : kd 0 = 5) ⟨rfl, rfl⟩ ⟨Nat.le_of_ble_eq_true rfl, Nat.le_of_ble_eq_true rfl⟩ rfl (Nat.le_of_ble_eq_true rfl) hl.1 ⟨Nat.zero_le _, Nat.zero_le _⟩ dL_isMarked_35) hS (fun H locs hP hS => ?_)
    refine lv_isub hx hb dL_isMarked_38 ?_
    have ho : f_X4_passMark σ (1 + 1 + 3 * i) (σ 1 5) = (f_X4_placeIn σ (1 + 1 + 3 * i) (σ 1 5)) - (σ 1 5) := by unfold f_X4_passMark; exact if_pos c_26
    refine lv_istore (lv' := [(5, .int ((f_X4_placeIn σ (1 + 1 + 3 * i) (σ 1 5)) - (σ 1 5))), (4, .int (σ (1 + 1 + 3 * i) 2)), (3, .int (σ (1 + 1 + 3 * i) 9)), (2, .int (f_X4_placeIn σ (1 + 1 + 3 * i) (σ 1 5))), (0, .ref (z + 0)), (1, .int (nI i))]) hx hb dL_isMarked_39 hl (by decide) rfl (fun ls hl => ?_)
    refine lv_aload_n hx hb dL_isMarked_41 rfl (lv_at hl 4 rfl) ?_
    refine lv_iload_n hx hb dL_isMarked_42 rfl (lv_at hl 5 rfl) ?_
    refine okE_I mx (mf.trans ho) hs1 (runT_V (As := [.int (nI i)]) (rest := []) C (k_X5_meetMark l hfl D cy z o d σ τ (rfl : kd 0 = 5) (nI i)) hP hS cw_X5_meetMark (mA2 (i := 217) rfl rfl) (rfl : kd 0 = 5) ⟨Nat.le_of_ble_eq_true rfl, Nat.le_of_ble_eq_true rfl⟩ rfl (Nat.le_of_ble_eq_true rfl) hl.1 (tcc_0 mx ⟨Nat.zero_le _, Nat.zero_le _⟩) dL_isMarked_43) hS (fun H locs hP hS => ?_)
    refine lv_iload hx hb dL_isMarked_46 (lv_at hl 0 rfl) ?_
    refine lv_icmp_ne (tgt := 99) hx hb dL_isMarked_48 (by decide) (fun c_48 => ?_) (fun c_48 => ?_)
    · exact absurd rfl c_48
    · refine lv_aload_n hx hb dL_isMarked_51 rfl (lv_at hl 4 rfl) ?_
      refine lv_iload_n hx hb dL_isMarked_52 rfl (lv_at hl 5 rfl) ?_
      refine okE_I (rx_slipsOf hi) (rd_slipsOf hi) rfl (runT_V (As := [.int (nI i)]) (rest := []) C (k_X5_slipsOf l hfl D cy z o d σ1 τ (rfl : kd 0 = 5) (nI i)) hP hS cw_X5_slipsOf (mA2 (i := 209) rfl rfl) (rfl : kd 0 = 5) ⟨Nat.le_of_ble_eq_true rfl, Nat.le_of_ble_eq_true rfl⟩ rfl (Nat.le_of_ble_eq_true rfl) hl.1 (tcc_0 (rx_slipsOf hi) ⟨Nat.zero_le _, Nat.zero_le _⟩) dL_isMarked_53) hS (fun H locs hP hS => ?_)
      refine lv_iload_n hx hb dL_isMarked_56 rfl (lv_at hl 2 rfl) ?_
      refine lv_iload hx hb dL_isMarked_57 (lv_at hl 0 rfl) ?_
      refine thnE_I rfl rfl (run_S (As := [.int ((f_X4_placeIn σ (1 + 1 + 3 * i) (σ 1 5)) - (σ 1 5))]) (rest := [.int (σ (1 + 1 + 3 * i) 9), .int (σ1 (1 + 1 + 3 * i) 9)]) C (k_L_size l D cy z o d σ1 τ ((f_X4_placeIn σ (1 + 1 + 3 * i) (σ 1 5)) - (σ 1 5))) hP hS cw_L_size (mA2 (i := 169) rfl rfl) ⟨rfl, rfl⟩ ⟨Nat.le_of_ble_eq_true rfl, Nat.le_of_ble_eq_true rfl⟩ rfl (Nat.le_of_ble_eq_true rfl) hl.1 ⟨Nat.zero_le _, Nat.zero_le _⟩ dL_isMarked_59) hS (fun H locs hP hS => ?_)
      refine lv_iadd hx hb dL_isMarked_62 ?_
      refine lv_icmp_ne (tgt := 99) hx hb dL_isMarked_63 (by decide) (fun c_63 => ?_) (fun c_63 => ?_)
      · exact absurd (by rw [m9, ho, size_ab]) c_63
      · refine lv_aload_n hx hb dL_isMarked_66 rfl (lv_at hl 4 rfl) ?_
        refine lv_iload_n hx hb dL_isMarked_67 rfl (lv_at hl 5 rfl) ?_
        refine okE_I (rx_positionOf hi) (rd_positionOf hi) rfl (runT_V (As := [.int (nI i)]) (rest := []) C (k_X5_positionOf l hfl D cy z o d σ1 τ (rfl : kd 0 = 5) (nI i)) hP hS cw_X5_positionOf (mA2 (i := 64) rfl rfl) (rfl : kd 0 = 5) ⟨Nat.le_of_ble_eq_true rfl, Nat.le_of_ble_eq_true rfl⟩ rfl (Nat.le_of_ble_eq_true rfl) hl.1 (tcc_0 (rx_positionOf hi) ⟨Nat.zero_le _, Nat.zero_le _⟩) dL_isMarked_68) hS (fun H locs hP hS => ?_)
        refine lv_iload hx hb dL_isMarked_71 (lv_at hl 1 rfl) ?_
        refine lv_iload hx hb dL_isMarked_73 (lv_at hl 0 rfl) ?_
        refine lv_isub hx hb dL_isMarked_75 ?_
        refine lv_icmp_ne (tgt := 99) hx hb dL_isMarked_76 (by decide) (fun c_76 => ?_) (fun c_76 => ?_)
        · exact absurd (by rw [m2, ho]) c_76
        · refine lv_aload_n hx hb dL_isMarked_79 rfl (lv_at hl 4 rfl) ?_
          refine lv_iload_n hx hb dL_isMarked_80 rfl (lv_at hl 5 rfl) ?_
          refine okE_I (rx_placeOf hi) (rd_placeOf hi) rfl (runT_V (As := [.int (nI i)]) (rest := []) C (k_X5_placeOf l hfl D cy z o d σ1 τ (rfl : kd 0 = 5) (nI i)) hP hS cw_X5_placeOf (mA2 (i := 198) rfl rfl) (rfl : kd 0 = 5) ⟨Nat.le_of_ble_eq_true rfl, Nat.le_of_ble_eq_true rfl⟩ rfl (Nat.le_of_ble_eq_true rfl) hl.1 (tcc_0 (rx_placeOf hi) ⟨Nat.zero_le _, Nat.zero_le _⟩) dL_isMarked_81) hS (fun H locs hP hS => ?_)
          refine lv_if_ne (tgt := 99) hx hb dL_isMarked_84 (by decide) (fun c_84 => ?_) (fun c_84 => ?_)
          · exact absurd mp0 c_84
          · refine lv_aload_n hx hb dL_isMarked_87 rfl (lv_at hl 4 rfl) ?_
            refine lv_iload_n hx hb dL_isMarked_88 rfl (lv_at hl 5 rfl) ?_
            refine okE_I nx (nf.trans nf0) hs2 (runT_V (As := [.int (nI i)]) (rest := []) C (k_X5_meetMark l hfl D cy z o d σ1 τ (rfl : kd 0 = 5) (nI i)) hP hS cw_X5_meetMark (mA2 (i := 217) rfl rfl) (rfl : kd 0 = 5) ⟨Nat.le_of_ble_eq_true rfl, Nat.le_of_ble_eq_true rfl⟩ rfl (Nat.le_of_ble_eq_true rfl) hl.1 (tcc_0 nx ⟨Nat.zero_le _, Nat.zero_le _⟩) dL_isMarked_89) hS (fun H locs hP hS => ?_)
            refine lv_if_ne (tgt := 99) hx hb dL_isMarked_92 (by decide) (fun c_92 => ?_) (fun c_92 => ?_)
            · exact absurd rfl c_92
            · refine lv_iconst (v := 1) hx hb dL_isMarked_95 (by decide) ?_
              refine lv_goto (tgt := 100) hx hb dL_isMarked_96 (by decide) ?_
              exact ret_I C hP hS nar_z1 rfl rfl rfl rfl dL_isMarked_100
  · refine lv_iload_n hx hb dL_isMarked_29 rfl (lv_at hl 2 rfl) ?_
    refine lv_goto (tgt := 39) hx hb dL_isMarked_30 (by decide) ?_
    have ho : f_X4_passMark σ (1 + 1 + 3 * i) (σ 1 5) = f_X4_placeIn σ (1 + 1 + 3 * i) (σ 1 5) := by unfold f_X4_passMark; exact if_neg c_26
    refine lv_istore (lv' := [(5, .int (f_X4_placeIn σ (1 + 1 + 3 * i) (σ 1 5))), (4, .int (σ (1 + 1 + 3 * i) 2)), (3, .int (σ (1 + 1 + 3 * i) 9)), (2, .int (f_X4_placeIn σ (1 + 1 + 3 * i) (σ 1 5))), (0, .ref (z + 0)), (1, .int (nI i))]) hx hb dL_isMarked_39 hl (by decide) rfl (fun ls hl => ?_)
    refine lv_aload_n hx hb dL_isMarked_41 rfl (lv_at hl 4 rfl) ?_
    refine lv_iload_n hx hb dL_isMarked_42 rfl (lv_at hl 5 rfl) ?_
    refine okE_I mx (mf.trans ho) hs1 (runT_V (As := [.int (nI i)]) (rest := []) C (k_X5_meetMark l hfl D cy z o d σ τ (rfl : kd 0 = 5) (nI i)) hP hS cw_X5_meetMark (mA2 (i := 217) rfl rfl) (rfl : kd 0 = 5) ⟨Nat.le_of_ble_eq_true rfl, Nat.le_of_ble_eq_true rfl⟩ rfl (Nat.le_of_ble_eq_true rfl) hl.1 (tcc_0 mx ⟨Nat.zero_le _, Nat.zero_le _⟩) dL_isMarked_43) hS (fun H locs hP hS => ?_)
    refine lv_iload hx hb dL_isMarked_46 (lv_at hl 0 rfl) ?_
    refine lv_icmp_ne (tgt := 99) hx hb dL_isMarked_48 (by decide) (fun c_48 => ?_) (fun c_48 => ?_)
    · exact absurd rfl c_48
    · refine lv_aload_n hx hb dL_isMarked_51 rfl (lv_at hl 4 rfl) ?_
      refine lv_iload_n hx hb dL_isMarked_52 rfl (lv_at hl 5 rfl) ?_
      refine okE_I (rx_slipsOf hi) (rd_slipsOf hi) rfl (runT_V (As := [.int (nI i)]) (rest := []) C (k_X5_slipsOf l hfl D cy z o d σ1 τ (rfl : kd 0 = 5) (nI i)) hP hS cw_X5_slipsOf (mA2 (i := 209) rfl rfl) (rfl : kd 0 = 5) ⟨Nat.le_of_ble_eq_true rfl, Nat.le_of_ble_eq_true rfl⟩ rfl (Nat.le_of_ble_eq_true rfl) hl.1 (tcc_0 (rx_slipsOf hi) ⟨Nat.zero_le _, Nat.zero_le _⟩) dL_isMarked_53) hS (fun H locs hP hS => ?_)
      refine lv_iload_n hx hb dL_isMarked_56 rfl (lv_at hl 2 rfl) ?_
      refine lv_iload hx hb dL_isMarked_57 (lv_at hl 0 rfl) ?_
      refine thnE_I rfl rfl (run_S (As := [.int (f_X4_placeIn σ (1 + 1 + 3 * i) (σ 1 5))]) (rest := [.int (σ (1 + 1 + 3 * i) 9), .int (σ1 (1 + 1 + 3 * i) 9)]) C (k_L_size l D cy z o d σ1 τ (f_X4_placeIn σ (1 + 1 + 3 * i) (σ 1 5))) hP hS cw_L_size (mA2 (i := 169) rfl rfl) ⟨rfl, rfl⟩ ⟨Nat.le_of_ble_eq_true rfl, Nat.le_of_ble_eq_true rfl⟩ rfl (Nat.le_of_ble_eq_true rfl) hl.1 ⟨Nat.zero_le _, Nat.zero_le _⟩ dL_isMarked_59) hS (fun H locs hP hS => ?_)
      refine lv_iadd hx hb dL_isMarked_62 ?_
      refine lv_icmp_ne (tgt := 99) hx hb dL_isMarked_63 (by decide) (fun c_63 => ?_) (fun c_63 => ?_)
      · exact absurd (by rw [m9, ho, size_ab]) c_63
      · refine lv_aload_n hx hb dL_isMarked_66 rfl (lv_at hl 4 rfl) ?_
        refine lv_iload_n hx hb dL_isMarked_67 rfl (lv_at hl 5 rfl) ?_
        refine okE_I (rx_positionOf hi) (rd_positionOf hi) rfl (runT_V (As := [.int (nI i)]) (rest := []) C (k_X5_positionOf l hfl D cy z o d σ1 τ (rfl : kd 0 = 5) (nI i)) hP hS cw_X5_positionOf (mA2 (i := 64) rfl rfl) (rfl : kd 0 = 5) ⟨Nat.le_of_ble_eq_true rfl, Nat.le_of_ble_eq_true rfl⟩ rfl (Nat.le_of_ble_eq_true rfl) hl.1 (tcc_0 (rx_positionOf hi) ⟨Nat.zero_le _, Nat.zero_le _⟩) dL_isMarked_68) hS (fun H locs hP hS => ?_)
        refine lv_iload hx hb dL_isMarked_71 (lv_at hl 1 rfl) ?_
        refine lv_iload hx hb dL_isMarked_73 (lv_at hl 0 rfl) ?_
        refine lv_isub hx hb dL_isMarked_75 ?_
        refine lv_icmp_ne (tgt := 99) hx hb dL_isMarked_76 (by decide) (fun c_76 => ?_) (fun c_76 => ?_)
        · exact absurd (by rw [m2, ho]) c_76
        · refine lv_aload_n hx hb dL_isMarked_79 rfl (lv_at hl 4 rfl) ?_
          refine lv_iload_n hx hb dL_isMarked_80 rfl (lv_at hl 5 rfl) ?_
          refine okE_I (rx_placeOf hi) (rd_placeOf hi) rfl (runT_V (As := [.int (nI i)]) (rest := []) C (k_X5_placeOf l hfl D cy z o d σ1 τ (rfl : kd 0 = 5) (nI i)) hP hS cw_X5_placeOf (mA2 (i := 198) rfl rfl) (rfl : kd 0 = 5) ⟨Nat.le_of_ble_eq_true rfl, Nat.le_of_ble_eq_true rfl⟩ rfl (Nat.le_of_ble_eq_true rfl) hl.1 (tcc_0 (rx_placeOf hi) ⟨Nat.zero_le _, Nat.zero_le _⟩) dL_isMarked_81) hS (fun H locs hP hS => ?_)
          refine lv_if_ne (tgt := 99) hx hb dL_isMarked_84 (by decide) (fun c_84 => ?_) (fun c_84 => ?_)
          · exact absurd mp0 c_84
          · refine lv_aload_n hx hb dL_isMarked_87 rfl (lv_at hl 4 rfl) ?_
            refine lv_iload_n hx hb dL_isMarked_88 rfl (lv_at hl 5 rfl) ?_
            refine okE_I nx (nf.trans nf0) hs2 (runT_V (As := [.int (nI i)]) (rest := []) C (k_X5_meetMark l hfl D cy z o d σ1 τ (rfl : kd 0 = 5) (nI i)) hP hS cw_X5_meetMark (mA2 (i := 217) rfl rfl) (rfl : kd 0 = 5) ⟨Nat.le_of_ble_eq_true rfl, Nat.le_of_ble_eq_true rfl⟩ rfl (Nat.le_of_ble_eq_true rfl) hl.1 (tcc_0 nx ⟨Nat.zero_le _, Nat.zero_le _⟩) dL_isMarked_89) hS (fun H locs hP hS => ?_)
            refine lv_if_ne (tgt := 99) hx hb dL_isMarked_92 (by decide) (fun c_92 => ?_) (fun c_92 => ?_)
            · exact absurd rfl c_92
            · refine lv_iconst (v := 1) hx hb dL_isMarked_95 (by decide) ?_
              refine lv_goto (tgt := 100) hx hb dL_isMarked_96 (by decide) ?_
              exact ret_I C hP hS nar_z1 rfl rfl rfl rfl dL_isMarked_100
theorem marked_gn {σ : Sg} {B i : Nat} (h : GN B σ) (hi : i < 4) (hB : B + 40000 ≤ 1000000000) : GN (B + 2000) (s_X5_meetMark (s_X5_meetMark σ 0 (nI i)) 0 (nI i)) := (mark_ok (mark_ok h hi (by omega)).2.2.1 hi (by omega)).2.2.1

/-! the law's cell: a number of the script, or one made up -/
def clF (xs : Nat → Int32) (L : Nat) (x : Int32) : Int32 := if Int32.ofNat L ≤ x then 7919 * (x + 3) * (x + 11) else xs x.toNatClampNeg
abbrev rm_L_cell : Room := { frames := 0, cells := 0, slots := 0, locals := 0 }
theorem cw_L_cell : cwSt yL_cell cL_cell 2 (some .int) 2 := ⟨(mA1 (i := 182) rfl rfl), (mA1 (i := 0) rfl rfl), (mA1 (i := 183) rfl rfl), by decide +kernel⟩
set_option maxHeartbeats 4000000 in
theorem k_L_cell (l : Launch) (D : va_G) (cy : Nat → ClassId) (z : Nat) (o : Int64) (d : UInt64) (σ τ : Sg) {b L : Nat} {xs : Nat → Int32} (x : Int32) (hx0 : 0 ≤ x.toInt) (hL : L ≤ 260) : KX l yL_cell cL_cell 2 (some .int) rm_L_cell D cy z b L xs [.ref b, .int x] o d σ τ (clF xs L x) := by
  refine metX_of RL (plainFor_of_name (by decide)) rfl (Nat.le_of_ble_eq_true rfl) ?_
  intro p e s m args below meth c C hX hbl hbz hP hS ls hl
  obtain ⟨hx, hb, hr, hml, hown, hW, hlocks, hAm⟩ := id C
  have hl : lv_has ls 2 [(0, .ref b), (1, .int x)] := hl
  have hbA : ¬ (fz z) b := fun q => absurd hbz (Nat.not_lt.mpr q)
  refine lv_iload_n hx hb dL_cell_0 rfl (lv_at hl 1 rfl) ?_
  refine lv_aload_n hx hb dL_cell_1 rfl (lv_at hl 0 rfl) ?_
  refine va_slen (A := fz z) hx hb hX hbl hbA hS dL_cell_2 ?_
  refine lv_icmp_ge (tgt := 12) hx hb dL_cell_3 (by decide) (fun c_3 => ?_) (fun c_3 => ?_)
  · refine lv_sipush (v := 7919) hx hb dL_cell_12 (by decide) ?_
    refine lv_iload_n hx hb dL_cell_15 rfl (lv_at hl 1 rfl) ?_
    refine lv_iconst (v := 3) hx hb dL_cell_16 (by decide) ?_
    refine lv_iadd hx hb dL_cell_17 ?_
    refine lv_imul hx hb dL_cell_18 ?_
    refine lv_iload_n hx hb dL_cell_19 rfl (lv_at hl 1 rfl) ?_
    refine lv_bipush (v := 11) hx hb dL_cell_20 (by decide) ?_
    refine lv_iadd hx hb dL_cell_22 ?_
    refine lv_imul hx hb dL_cell_23 ?_
    exact ret_I C hP hS (nar_i _) rfl (by unfold clF; rw [if_pos c_3]) rfl rfl dL_cell_24
  · have hin : vp_in x L := vpin_of (N := Int32.ofNat L) (fun q => by have := Int32.lt_iff_toInt_lt.mp q; rw [show (0 : Int32).toInt = 0 from rfl] at this; omega) c_3 (nI_int (by omega))
    refine lv_aload_n hx hb dL_cell_6 rfl (lv_at hl 0 rfl) ?_
    refine lv_iload_n hx hb dL_cell_7 rfl (lv_at hl 1 rfl) ?_
    refine va_sld (A := fz z) hx hb hX hbl hbA hS hin dL_cell_8 ?_
    refine lv_goto (tgt := 24) hx hb dL_cell_9 (by decide) ?_
    exact ret_I C hP hS (nar_i _) rfl (by unfold clF; rw [if_neg c_3]) rfl rfl dL_cell_24

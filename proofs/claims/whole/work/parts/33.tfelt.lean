theorem cw_X6_isFelt : cwVt yX6_isFelt cX6_isFelt 6 (some .boolean) 6 2 := ⟨(mA4 (i := 173) rfl rfl), (mA0 (i := 30) rfl rfl), (mA1 (i := 7) rfl rfl), (mA4 (i := 174) rfl rfl), by decide +kernel, ⟨_, rfl, rfl⟩, by decide⟩
abbrev rm_X6_isFelt_0 : Room := { frames := 2, cells := 0, slots := 0, locals := 45 }
def f_X6_isFelt_0 (τ : Sg) (x : Int32) : Int32 :=
  if ((t_X6_sign τ 48 51) 0 10) = 0 then
    1
  else
    1
def t_X6_isFelt_0 (τ : Sg) (x : Int32) : Sg :=
  if ((t_X6_sign τ 48 51) 0 10) = 0 then
    t_X6_sign τ 48 51
  else
    t_X6_sign τ 48 51
set_option maxHeartbeats 4000000 in
set_option maxRecDepth 100000 in
theorem k_X6_isFelt_0 (l : Launch) (D : va_G) (cy : Nat → ClassId) (z : Nat) (o : Int64) (d : UInt64) (σ τ : Sg) {k : Nat} (hk : kd k = 6) (x : Int32) (hTT : TT τ) : KI l yX6_isFelt cX6_isFelt 6 (some .boolean) rm_X6_isFelt_0 D cy z [.ref (z + k), .int x, .int 0] o d σ τ (f_X6_isFelt_0 τ x) σ (t_X6_isFelt_0 τ x) := by
  refine met_of RX6 (plainFor_of_name (by decide)) rfl (Nat.le_of_ble_eq_true rfl) ?_
  intro p e s m args below meth c C hP hS ls hl
  obtain ⟨hx, hb, hr, hml, hown, hW, hlocks, hAm⟩ := id C
  have hl : lv_has ls 6 [(0, .ref (z + k)), (1, .int x), (2, .int 0)] := hl
  refine lv_aload_n hx hb dX6_isFelt_0 rfl (lv_at hl 0 rfl) ?_
  refine lv_bipush (v := 48) hx hb dX6_isFelt_1 (by decide) ?_
  refine lv_bipush (v := 51) hx hb dX6_isFelt_3 (by decide) ?_
  refine thn_I (run_V (As := [.int 48, .int 51]) (rest := []) C (k_X6_sign l D cy z o d σ τ hk 48 51 hTT) hP hS cw_X6_sign (mA4 (i := 163) rfl rfl) hk ⟨rfl, rfl⟩ ⟨Nat.le_of_ble_eq_true rfl, Nat.le_of_ble_eq_true rfl⟩ rfl (Nat.le_of_ble_eq_true rfl) hl.1 ⟨Nat.zero_le _, Nat.zero_le _⟩ dX6_isFelt_5) hS (fun H locs hP hS => ?_)
  refine lv_bipush (v := 48) hx hb dX6_isFelt_8 (by decide) ?_
  refine lv_isub hx hb dX6_isFelt_10 ?_
  refine lv_istore_n (lv' := [(3, .int ((f_X6_sign τ 48 51) - 48)), (0, .ref (z + k)), (1, .int x), (2, .int 0)]) hx hb dX6_isFelt_11 rfl hl (by decide) rfl (fun ls hl => ?_)
  refine lv_aload_n hx hb dX6_isFelt_12 rfl (lv_at hl 1 rfl) ?_
  refine gf_X6_110 C hP hk dX6_isFelt_13 ?_
  refine lv_if_ne (tgt := 23) hx hb dX6_isFelt_16 (by decide) (fun c_16 => ?_) (fun c_16 => ?_)
  · refine lv_iconst (v := 1) hx hb dX6_isFelt_23 (by decide) ?_
    exact ret_I C hP hS nar_z1 rfl (by unfold f_X6_isFelt_0; rw [if_neg c_16]) rfl (by unfold t_X6_isFelt_0; rw [if_neg c_16]) dX6_isFelt_24
  · refine lv_iload_n hx hb dX6_isFelt_19 rfl (lv_at hl 3 rfl) ?_
    refine lv_if_ne (tgt := 25) hx hb dX6_isFelt_20 (by decide) (fun c_20 => ?_) (fun c_20 => ?_)
    · exact absurd (rfl : (0:Int32) = 0) c_20
    · refine lv_iconst (v := 1) hx hb dX6_isFelt_23 (by decide) ?_
      exact ret_I C hP hS nar_z1 rfl (by unfold f_X6_isFelt_0; rw [if_pos c_16]) rfl (by unfold t_X6_isFelt_0; rw [if_pos c_16]) dX6_isFelt_24
theorem nz_X6_isFelt_0 (τ : Sg) (x : Int32) : narrow .boolean (.int (f_X6_isFelt_0 τ x)) = .int (f_X6_isFelt_0 τ x) := by
  unfold f_X6_isFelt_0
  repeat' split
  all_goals first | exact nar_z1 | exact nar_z0

abbrev rm_X6_isFelt_1 : Room := { frames := 4, cells := 0, slots := 0, locals := 90 }
def f_X6_isFelt_1 (τ : Sg) (j : Nat) : Int32 :=
  if ((t_X6_sign τ 48 51) 0 10) = 0 then
    if (f_X6_canFeel (t_X6_sign τ 48 51) j ((f_X6_sign τ 48 51) - 48) 1) = 0 then
      f_X6_canFeel (t_X6_sign τ 48 51) j ((f_X6_sign τ 48 51) - 48) 1
    else
      f_X6_canFeel (t_X6_sign τ 48 51) j ((f_X6_sign τ 48 51) - 48) 1
  else
    1
def t_X6_isFelt_1 (τ : Sg) (j : Nat) : Sg :=
  if ((t_X6_sign τ 48 51) 0 10) = 0 then
    if (f_X6_canFeel (t_X6_sign τ 48 51) j ((f_X6_sign τ 48 51) - 48) 1) = 0 then
      t_X6_sign τ 48 51
    else
      t_X6_feels (t_X6_sign τ 48 51) j ((f_X6_sign τ 48 51) - 48) 1
  else
    t_X6_sign τ 48 51
set_option maxHeartbeats 4000000 in
set_option maxRecDepth 100000 in
theorem k_X6_isFelt_1 (l : Launch) (D : va_G) (cy : Nat → ClassId) (z : Nat) (o : Int64) (d : UInt64) (σ τ : Sg) {k : Nat} (hk : kd k = 6) (j : Nat) (hM : MI τ) (hj : j < 4) (hTT : TT τ) : KI l yX6_isFelt cX6_isFelt 6 (some .boolean) rm_X6_isFelt_1 D cy z [.ref (z + k), .int (nI j), .int 1] o d σ τ (f_X6_isFelt_1 τ j) σ (t_X6_isFelt_1 τ j) := by
  refine met_of RX6 (plainFor_of_name (by decide)) rfl (Nat.le_of_ble_eq_true rfl) ?_
  intro p e s m args below meth c C hP hS ls hl
  obtain ⟨hx, hb, hr, hml, hown, hW, hlocks, hAm⟩ := id C
  have hl : lv_has ls 6 [(0, .ref (z + k)), (1, .int (nI j)), (2, .int 1)] := hl
  refine lv_aload_n hx hb dX6_isFelt_0 rfl (lv_at hl 0 rfl) ?_
  refine lv_bipush (v := 48) hx hb dX6_isFelt_1 (by decide) ?_
  refine lv_bipush (v := 51) hx hb dX6_isFelt_3 (by decide) ?_
  refine thn_I (run_V (As := [.int 48, .int 51]) (rest := []) C (k_X6_sign l D cy z o d σ τ hk 48 51 hTT) hP hS cw_X6_sign (mA4 (i := 163) rfl rfl) hk ⟨rfl, rfl⟩ ⟨Nat.le_of_ble_eq_true rfl, Nat.le_of_ble_eq_true rfl⟩ rfl (Nat.le_of_ble_eq_true rfl) hl.1 ⟨Nat.zero_le _, Nat.zero_le _⟩ dX6_isFelt_5) hS (fun H locs hP hS => ?_)
  refine lv_bipush (v := 48) hx hb dX6_isFelt_8 (by decide) ?_
  refine lv_isub hx hb dX6_isFelt_10 ?_
  refine lv_istore_n (lv' := [(3, .int ((f_X6_sign τ 48 51) - 48)), (0, .ref (z + k)), (1, .int (nI j)), (2, .int 1)]) hx hb dX6_isFelt_11 rfl hl (by decide) rfl (fun ls hl => ?_)
  refine lv_aload_n hx hb dX6_isFelt_12 rfl (lv_at hl 1 rfl) ?_
  refine gf_X6_110 C hP hk dX6_isFelt_13 ?_
  refine lv_if_ne (tgt := 23) hx hb dX6_isFelt_16 (by decide) (fun c_16 => ?_) (fun c_16 => ?_)
  · refine lv_iconst (v := 1) hx hb dX6_isFelt_23 (by decide) ?_
    exact ret_I C hP hS nar_z1 rfl (by unfold f_X6_isFelt_1; rw [if_neg c_16]) rfl (by unfold t_X6_isFelt_1; rw [if_neg c_16]) dX6_isFelt_24
  · refine lv_iload_n hx hb dX6_isFelt_19 rfl (lv_at hl 3 rfl) ?_
    refine lv_if_ne (tgt := 25) hx hb dX6_isFelt_20 (by decide) (fun c_20 => ?_) (fun c_20 => ?_)
    · refine lv_aload_n hx hb dX6_isFelt_25 rfl (lv_at hl 1 rfl) ?_
      refine lv_iload_n hx hb dX6_isFelt_26 rfl (lv_at hl 2 rfl) ?_
      refine lv_iload_n hx hb dX6_isFelt_27 rfl (lv_at hl 0 rfl) ?_
      refine lv_iconst (v := 1) hx hb dX6_isFelt_28 (by decide) ?_
      refine thn_I (run_V (As := [.int (nI j), .int ((f_X6_sign τ 48 51) - 48), .int 1]) (rest := []) C (k_X6_canFeel l D cy z o d σ (t_X6_sign τ 48 51) hk j ((f_X6_sign τ 48 51) - 48) 1 hj) hP hS cw_X6_canFeel (mA4 (i := 56) rfl rfl) hk ⟨rfl, rfl⟩ ⟨Nat.le_of_ble_eq_true rfl, Nat.le_of_ble_eq_true rfl⟩ rfl (Nat.le_of_ble_eq_true rfl) hl.1 ⟨Nat.zero_le _, Nat.zero_le _⟩ dX6_isFelt_29) hS (fun H locs hP hS => ?_)
      refine lv_istore (lv' := [(4, .int (f_X6_canFeel (t_X6_sign τ 48 51) j ((f_X6_sign τ 48 51) - 48) 1)), (3, .int ((f_X6_sign τ 48 51) - 48)), (0, .ref (z + k)), (1, .int (nI j)), (2, .int 1)]) hx hb dX6_isFelt_32 hl (by decide) rfl (fun ls hl => ?_)
      refine lv_iload hx hb dX6_isFelt_34 (lv_at hl 0 rfl) ?_
      refine lv_if_eq (tgt := 49) hx hb dX6_isFelt_36 (by decide) (fun c_36 => ?_) (fun c_36 => ?_)
      · refine lv_iconst (v := 0) hx hb dX6_isFelt_49 (by decide) ?_
        refine lv_istore (lv' := [(5, .int 0), (4, .int (f_X6_canFeel (t_X6_sign τ 48 51) j ((f_X6_sign τ 48 51) - 48) 1)), (3, .int ((f_X6_sign τ 48 51) - 48)), (0, .ref (z + k)), (1, .int (nI j)), (2, .int 1)]) hx hb dX6_isFelt_50 hl (by decide) rfl (fun ls hl => ?_)
        refine lv_iload hx hb dX6_isFelt_52 (lv_at hl 1 rfl) ?_
        exact ret_I C hP hS (nz_X6_canFeel _ _ _ _) rfl (by unfold f_X6_isFelt_1; rw [if_pos c_16, if_pos c_36]) rfl (by unfold t_X6_isFelt_1; rw [if_pos c_16, if_pos c_36]) dX6_isFelt_54
      · refine lv_aload_n hx hb dX6_isFelt_39 rfl (lv_at hl 2 rfl) ?_
        refine lv_iload_n hx hb dX6_isFelt_40 rfl (lv_at hl 3 rfl) ?_
        refine lv_iload_n hx hb dX6_isFelt_41 rfl (lv_at hl 1 rfl) ?_
        refine lv_iconst (v := 1) hx hb dX6_isFelt_42 (by decide) ?_
        refine thn_I (run_V (As := [.int (nI j), .int ((f_X6_sign τ 48 51) - 48), .int 1]) (rest := []) C (k_X6_feels l D cy z o d σ (t_X6_sign τ 48 51) hk j ((f_X6_sign τ 48 51) - 48) 1 hM.sign hj) hP hS cw_X6_feels (mA4 (i := 82) rfl rfl) hk ⟨rfl, rfl⟩ ⟨Nat.le_of_ble_eq_true rfl, Nat.le_of_ble_eq_true rfl⟩ rfl (Nat.le_of_ble_eq_true rfl) hl.1 ⟨Nat.zero_le _, Nat.zero_le _⟩ dX6_isFelt_43) hS (fun H locs hP hS => ?_)
        refine lv_goto (tgt := 50) hx hb dX6_isFelt_46 (by decide) ?_
        refine lv_istore (lv' := [(5, .int (f_X6_feels (t_X6_sign τ 48 51) j ((f_X6_sign τ 48 51) - 48) 1)), (4, .int (f_X6_canFeel (t_X6_sign τ 48 51) j ((f_X6_sign τ 48 51) - 48) 1)), (3, .int ((f_X6_sign τ 48 51) - 48)), (0, .ref (z + k)), (1, .int (nI j)), (2, .int 1)]) hx hb dX6_isFelt_50 hl (by decide) rfl (fun ls hl => ?_)
        refine lv_iload hx hb dX6_isFelt_52 (lv_at hl 1 rfl) ?_
        exact ret_I C hP hS (nz_X6_canFeel _ _ _ _) rfl (by unfold f_X6_isFelt_1; rw [if_pos c_16, if_neg c_36]) rfl (by unfold t_X6_isFelt_1; rw [if_pos c_16, if_neg c_36]) dX6_isFelt_54
    · exact absurd c_20 (by decide : ¬ (1:Int32) = 0)


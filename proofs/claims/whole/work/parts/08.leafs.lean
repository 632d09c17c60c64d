theorem cw_J9_floorDiv_7cf53 : cwSt yJ9_floorDiv_7cf53 cJ9_floorDiv_7cf53 3 (some .int) 2 := ⟨(mA3 (i := 145) rfl rfl), (mA1 (i := 13) rfl rfl), (mA3 (i := 146) rfl rfl), by decide +kernel⟩
abbrev rm_J9_floorDiv_7cf53 : Room := { frames := 0, cells := 0, slots := 0, locals := 0 }
def f_J9_floorDiv_7cf53  (x : Int32) (y : Int32) : Int32 :=
  if 0 ≤ (x ^^^ y) then
    x / y
  else
    if ((x / y) * y) = x then
      x / y
    else
      (x / y) - 1
set_option maxHeartbeats 4000000 in
set_option maxRecDepth 100000 in
theorem k_J9_floorDiv_7cf53 (l : Launch) (D : va_G) (cy : Nat → ClassId) (z : Nat) (o : Int64) (d : UInt64) (σ τ : Sg) (x : Int32) (y : Int32) (hne : ¬ y = 0) : KI l yJ9_floorDiv_7cf53 cJ9_floorDiv_7cf53 3 (some .int) rm_J9_floorDiv_7cf53 D cy z [.int x, .int y] o d σ τ (f_J9_floorDiv_7cf53 x y) σ τ := by
  refine met_of RJ9 (by decide +kernel) rfl (Nat.le_of_ble_eq_true rfl) ?_
  intro p e s m args below meth c C hP hS ls hl
  obtain ⟨hx, hb, hr, hml, hown, hW, hlocks, hAm⟩ := id C
  have hl : lv_has ls 3 [(0, .int x), (1, .int y)] := hl
  refine lv_iload_n hx hb dJ9_floorDiv_7cf53_0 rfl (lv_at hl 0 rfl) ?_
  refine lv_iload_n hx hb dJ9_floorDiv_7cf53_1 rfl (lv_at hl 1 rfl) ?_
  refine lv_idiv hx hb dJ9_floorDiv_7cf53_2 hne ?_
  refine lv_istore_n (lv' := [(2, .int (x / y)), (0, .int x), (1, .int y)]) hx hb dJ9_floorDiv_7cf53_3 rfl hl (by decide) rfl (fun ls hl => ?_)
  refine lv_iload_n hx hb dJ9_floorDiv_7cf53_4 rfl (lv_at hl 1 rfl) ?_
  refine lv_iload_n hx hb dJ9_floorDiv_7cf53_5 rfl (lv_at hl 2 rfl) ?_
  refine lv_ixor hx hb dJ9_floorDiv_7cf53_6 ?_
  refine lv_if_ge (tgt := 21) hx hb dJ9_floorDiv_7cf53_7 (by decide) (fun c_7 => ?_) (fun c_7 => ?_)
  · refine lv_iload_n hx hb dJ9_floorDiv_7cf53_21 rfl (lv_at hl 0 rfl) ?_
    exact ret_I C hP hS (nar_i _) rfl (by unfold f_J9_floorDiv_7cf53; rw [if_pos c_7]) rfl rfl dJ9_floorDiv_7cf53_22
  · refine lv_iload_n hx hb dJ9_floorDiv_7cf53_10 rfl (lv_at hl 0 rfl) ?_
    refine lv_iload_n hx hb dJ9_floorDiv_7cf53_11 rfl (lv_at hl 2 rfl) ?_
    refine lv_imul hx hb dJ9_floorDiv_7cf53_12 ?_
    refine lv_iload_n hx hb dJ9_floorDiv_7cf53_13 rfl (lv_at hl 1 rfl) ?_
    refine lv_icmp_eq (tgt := 21) hx hb dJ9_floorDiv_7cf53_14 (by decide) (fun c_14 => ?_) (fun c_14 => ?_)
    · refine lv_iload_n hx hb dJ9_floorDiv_7cf53_21 rfl (lv_at hl 0 rfl) ?_
      exact ret_I C hP hS (nar_i _) rfl (by unfold f_J9_floorDiv_7cf53; rw [if_neg c_7, if_pos c_14]) rfl rfl dJ9_floorDiv_7cf53_22
    · refine lv_iload_n hx hb dJ9_floorDiv_7cf53_17 rfl (lv_at hl 0 rfl) ?_
      refine lv_iconst (v := 1) hx hb dJ9_floorDiv_7cf53_18 (by decide) ?_
      refine lv_isub hx hb dJ9_floorDiv_7cf53_19 ?_
      exact ret_I C hP hS (nar_i _) rfl (by unfold f_J9_floorDiv_7cf53; rw [if_neg c_7, if_neg c_14]) rfl rfl dJ9_floorDiv_7cf53_20

theorem cw_J9_floorMod_7cf53 : cwSt yJ9_floorMod_7cf53 cJ9_floorMod_7cf53 3 (some .int) 2 := ⟨(mA2 (i := 214) rfl rfl), (mA1 (i := 13) rfl rfl), (mA2 (i := 215) rfl rfl), by decide +kernel⟩
abbrev rm_J9_floorMod_7cf53 : Room := { frames := 0, cells := 0, slots := 0, locals := 0 }
def f_J9_floorMod_7cf53  (x : Int32) (y : Int32) : Int32 :=
  if 0 ≤ (x ^^^ y) then
    x - x / y * y
  else
    if (x - x / y * y) = 0 then
      x - x / y * y
    else
      (x - x / y * y) + y
set_option maxHeartbeats 4000000 in
set_option maxRecDepth 100000 in
theorem k_J9_floorMod_7cf53 (l : Launch) (D : va_G) (cy : Nat → ClassId) (z : Nat) (o : Int64) (d : UInt64) (σ τ : Sg) (x : Int32) (y : Int32) (hne : ¬ y = 0) : KI l yJ9_floorMod_7cf53 cJ9_floorMod_7cf53 3 (some .int) rm_J9_floorMod_7cf53 D cy z [.int x, .int y] o d σ τ (f_J9_floorMod_7cf53 x y) σ τ := by
  refine met_of RJ9 (by decide +kernel) rfl (Nat.le_of_ble_eq_true rfl) ?_
  intro p e s m args below meth c C hP hS ls hl
  obtain ⟨hx, hb, hr, hml, hown, hW, hlocks, hAm⟩ := id C
  have hl : lv_has ls 3 [(0, .int x), (1, .int y)] := hl
  refine lv_iload_n hx hb dJ9_floorMod_7cf53_0 rfl (lv_at hl 0 rfl) ?_
  refine lv_iload_n hx hb dJ9_floorMod_7cf53_1 rfl (lv_at hl 1 rfl) ?_
  refine lv_irem hx hb dJ9_floorMod_7cf53_2 hne ?_
  refine lv_istore_n (lv' := [(2, .int (x - x / y * y)), (0, .int x), (1, .int y)]) hx hb dJ9_floorMod_7cf53_3 rfl hl (by decide) rfl (fun ls hl => ?_)
  refine lv_iload_n hx hb dJ9_floorMod_7cf53_4 rfl (lv_at hl 1 rfl) ?_
  refine lv_iload_n hx hb dJ9_floorMod_7cf53_5 rfl (lv_at hl 2 rfl) ?_
  refine lv_ixor hx hb dJ9_floorMod_7cf53_6 ?_
  refine lv_if_ge (tgt := 18) hx hb dJ9_floorMod_7cf53_7 (by decide) (fun c_7 => ?_) (fun c_7 => ?_)
  · refine lv_iload_n hx hb dJ9_floorMod_7cf53_18 rfl (lv_at hl 0 rfl) ?_
    exact ret_I C hP hS (nar_i _) rfl (by unfold f_J9_floorMod_7cf53; rw [if_pos c_7]) rfl rfl dJ9_floorMod_7cf53_19
  · refine lv_iload_n hx hb dJ9_floorMod_7cf53_10 rfl (lv_at hl 0 rfl) ?_
    refine lv_if_eq (tgt := 18) hx hb dJ9_floorMod_7cf53_11 (by decide) (fun c_11 => ?_) (fun c_11 => ?_)
    · refine lv_iload_n hx hb dJ9_floorMod_7cf53_18 rfl (lv_at hl 0 rfl) ?_
      exact ret_I C hP hS (nar_i _) rfl (by unfold f_J9_floorMod_7cf53; rw [if_neg c_7, if_pos c_11]) rfl rfl dJ9_floorMod_7cf53_19
    · refine lv_iload_n hx hb dJ9_floorMod_7cf53_14 rfl (lv_at hl 0 rfl) ?_
      refine lv_iload_n hx hb dJ9_floorMod_7cf53_15 rfl (lv_at hl 2 rfl) ?_
      refine lv_iadd hx hb dJ9_floorMod_7cf53_16 ?_
      exact ret_I C hP hS (nar_i _) rfl (by unfold f_J9_floorMod_7cf53; rw [if_neg c_7, if_neg c_11]) rfl rfl dJ9_floorMod_7cf53_17

theorem cw_X1_rowOf : cwVt yX1_rowOf cX1_rowOf 2 (some .int) 1 1 := ⟨(mA2 (i := 174) rfl rfl), (mA0 (i := 3) rfl rfl), (mA1 (i := 4) rfl rfl), (mA2 (i := 175) rfl rfl), by decide +kernel, ⟨_, rfl, rfl⟩, by decide⟩
abbrev rm_X1_rowOf : Room := { frames := 0, cells := 0, slots := 0, locals := 0 }
def f_X1_rowOf (σ : Sg) (k : Nat) (x : Int32) : Int32 :=
  (((σ k 1) + x) - ((σ k 1) + x) / 16 * 16) * 3
set_option maxHeartbeats 4000000 in
set_option maxRecDepth 100000 in
theorem k_X1_rowOf (l : Launch) (D : va_G) (cy : Nat → ClassId) (z : Nat) (o : Int64) (d : UInt64) (σ τ : Sg) {k : Nat} (hk : kd k = 1) (x : Int32) : KI l yX1_rowOf cX1_rowOf 2 (some .int) rm_X1_rowOf D cy z [.ref (z + k), .int x] o d σ τ (f_X1_rowOf σ k x) σ τ := by
  refine met_of RX1 (plainFor_of_name (by decide)) rfl (Nat.le_of_ble_eq_true rfl) ?_
  intro p e s m args below meth c C hP hS ls hl
  obtain ⟨hx, hb, hr, hml, hown, hW, hlocks, hAm⟩ := id C
  have hl : lv_has ls 2 [(0, .ref (z + k)), (1, .int x)] := hl
  refine lv_aload_n hx hb dX1_rowOf_0 rfl (lv_at hl 0 rfl) ?_
  refine gf_X1_19 C hP hk dX1_rowOf_1 ?_
  refine lv_iload_n hx hb dX1_rowOf_4 rfl (lv_at hl 1 rfl) ?_
  refine lv_iadd hx hb dX1_rowOf_5 ?_
  refine lv_bipush (v := 16) hx hb dX1_rowOf_6 (by decide) ?_
  refine lv_irem hx hb dX1_rowOf_8 (by decide) ?_
  refine lv_iconst (v := 3) hx hb dX1_rowOf_9 (by decide) ?_
  refine lv_imul hx hb dX1_rowOf_10 ?_
  exact ret_I C hP hS (nar_i _) rfl rfl rfl rfl dX1_rowOf_11

theorem cw_X1_read : cwVt yX1_read cX1_read 4 (some .int) 1 2 := ⟨(mA2 (i := 234) rfl rfl), (mA0 (i := 7) rfl rfl), (mA1 (i := 4) rfl rfl), (mA2 (i := 235) rfl rfl), by decide +kernel, ⟨_, rfl, rfl⟩, by decide⟩
abbrev rm_X1_read : Room := { frames := 1, cells := 0, slots := 0, locals := 21 }
def f_X1_read (σ : Sg) (k : Nat) (x : Int32) (y : Int32) : Int32 :=
  if ((f_X1_rowOf σ k x) + y) < 0 then
    0
  else
    if ((f_X1_rowOf σ k x) + y) < 48 then
      σ (k + 1) (((f_X1_rowOf σ k x) + y).toNatClampNeg)
    else
      0
set_option maxHeartbeats 4000000 in
set_option maxRecDepth 100000 in
theorem k_X1_read (l : Launch) (D : va_G) (cy : Nat → ClassId) (z : Nat) (o : Int64) (d : UInt64) (σ τ : Sg) {k : Nat} (hk : kd k = 1) (x : Int32) (y : Int32) : KI l yX1_read cX1_read 4 (some .int) rm_X1_read D cy z [.ref (z + k), .int x, .int y] o d σ τ (f_X1_read σ k x y) σ τ := by
  refine met_of RX1 (plainFor_of_name (by decide)) rfl (Nat.le_of_ble_eq_true rfl) ?_
  intro p e s m args below meth c C hP hS ls hl
  obtain ⟨hx, hb, hr, hml, hown, hW, hlocks, hAm⟩ := id C
  have hl : lv_has ls 4 [(0, .ref (z + k)), (1, .int x), (2, .int y)] := hl
  refine lv_aload_n hx hb dX1_read_0 rfl (lv_at hl 0 rfl) ?_
  refine lv_iload_n hx hb dX1_read_1 rfl (lv_at hl 1 rfl) ?_
  refine thn_I (run_V (As := [.int x]) (rest := []) C (k_X1_rowOf l D cy z o d σ τ hk x) hP hS cw_X1_rowOf (mA2 (i := 172) rfl rfl) hk ⟨rfl, rfl⟩ ⟨Nat.le_of_ble_eq_true rfl, Nat.le_of_ble_eq_true rfl⟩ rfl (Nat.le_of_ble_eq_true rfl) hl.1 ⟨Nat.zero_le _, Nat.zero_le _⟩ dX1_read_2) hS (fun H locs hP hS => ?_)
  refine lv_iload_n hx hb dX1_read_5 rfl (lv_at hl 2 rfl) ?_
  refine lv_iadd hx hb dX1_read_6 ?_
  refine lv_istore_n (lv' := [(3, .int ((f_X1_rowOf σ k x) + y)), (0, .ref (z + k)), (1, .int x), (2, .int y)]) hx hb dX1_read_7 rfl hl (by decide) rfl (fun ls hl => ?_)
  refine lv_iload_n hx hb dX1_read_8 rfl (lv_at hl 0 rfl) ?_
  refine lv_if_lt (tgt := 21) hx hb dX1_read_9 (by decide) (fun c_9 => ?_) (fun c_9 => ?_)
  · refine lv_iconst (v := 0) hx hb dX1_read_21 (by decide) ?_
    refine lv_goto (tgt := 31) hx hb dX1_read_22 (by decide) ?_
    exact ret_I C hP hS (nar_i _) rfl (by unfold f_X1_read; rw [if_pos c_9]) rfl rfl dX1_read_31
  · refine lv_iload_n hx hb dX1_read_12 rfl (lv_at hl 0 rfl) ?_
    refine lv_aload_n hx hb dX1_read_13 rfl (lv_at hl 1 rfl) ?_
    refine gf_X1_11 C hP hk dX1_read_14 ?_
    refine ln_7 C hP (kd1_1 hk) dX1_read_17 ?_
    refine lv_icmp_lt (tgt := 25) hx hb dX1_read_18 (by decide) (fun c_18 => ?_) (fun c_18 => ?_)
    · refine lv_aload_n hx hb dX1_read_25 rfl (lv_at hl 1 rfl) ?_
      refine gf_X1_11 C hP hk dX1_read_26 ?_
      refine lv_iload_n hx hb dX1_read_29 rfl (lv_at hl 0 rfl) ?_
      refine al_7 C hP (kd1_1 hk) (vpin_of' c_9 c_18 (by decide)) dX1_read_30 ?_
      exact ret_I C hP hS (nar_i _) rfl (by unfold f_X1_read; rw [if_neg c_9, if_pos c_18]) rfl rfl dX1_read_31
    · refine lv_iconst (v := 0) hx hb dX1_read_21 (by decide) ?_
      refine lv_goto (tgt := 31) hx hb dX1_read_22 (by decide) ?_
      exact ret_I C hP hS (nar_i _) rfl (by unfold f_X1_read; rw [if_neg c_9, if_neg c_18]) rfl rfl dX1_read_31

theorem cw_X1_step : cwVt yX1_step cX1_step 2 (some .int) 1 1 := ⟨(mA2 (i := 237) rfl rfl), (mA2 (i := 238) rfl rfl), (mA1 (i := 4) rfl rfl), (mA2 (i := 239) rfl rfl), by decide +kernel, ⟨_, rfl, rfl⟩, by decide⟩
abbrev rm_X1_step : Room := { frames := 2, cells := 0, slots := 0, locals := 44 }
def f_X1_step (σ : Sg) (k : Nat) (x : Int32) : Int32 :=
  f_X1_read σ k x 0
set_option maxHeartbeats 4000000 in
set_option maxRecDepth 100000 in
theorem k_X1_step (l : Launch) (D : va_G) (cy : Nat → ClassId) (z : Nat) (o : Int64) (d : UInt64) (σ τ : Sg) {k : Nat} (hk : kd k = 1) (x : Int32) : KI l yX1_step cX1_step 2 (some .int) rm_X1_step D cy z [.ref (z + k), .int x] o d σ τ (f_X1_step σ k x) σ τ := by
  refine met_of RX1 (plainFor_of_name (by decide)) rfl (Nat.le_of_ble_eq_true rfl) ?_
  intro p e s m args below meth c C hP hS ls hl
  obtain ⟨hx, hb, hr, hml, hown, hW, hlocks, hAm⟩ := id C
  have hl : lv_has ls 2 [(0, .ref (z + k)), (1, .int x)] := hl
  refine lv_aload_n hx hb dX1_step_0 rfl (lv_at hl 0 rfl) ?_
  refine lv_iload_n hx hb dX1_step_1 rfl (lv_at hl 1 rfl) ?_
  refine lv_iconst (v := 0) hx hb dX1_step_2 (by decide) ?_
  refine thn_I (run_V (As := [.int x, .int 0]) (rest := []) C (k_X1_read l D cy z o d σ τ hk x 0) hP hS cw_X1_read (mA2 (i := 232) rfl rfl) hk ⟨rfl, rfl⟩ ⟨Nat.le_of_ble_eq_true rfl, Nat.le_of_ble_eq_true rfl⟩ rfl (Nat.le_of_ble_eq_true rfl) hl.1 ⟨Nat.zero_le _, Nat.zero_le _⟩ dX1_step_3) hS (fun H locs hP hS => ?_)
  exact ret_I C hP hS (nar_i _) rfl rfl rfl rfl dX1_step_6

theorem cw_X1_spent : cwVt yX1_spent cX1_spent 2 (some .int) 1 1 := ⟨(mA2 (i := 229) rfl rfl), (mA2 (i := 230) rfl rfl), (mA1 (i := 4) rfl rfl), (mA2 (i := 231) rfl rfl), by decide +kernel, ⟨_, rfl, rfl⟩, by decide⟩
abbrev rm_X1_spent : Room := { frames := 2, cells := 0, slots := 0, locals := 44 }
def f_X1_spent (σ : Sg) (k : Nat) (x : Int32) : Int32 :=
  f_X1_read σ k x 1
set_option maxHeartbeats 4000000 in
set_option maxRecDepth 100000 in
theorem k_X1_spent (l : Launch) (D : va_G) (cy : Nat → ClassId) (z : Nat) (o : Int64) (d : UInt64) (σ τ : Sg) {k : Nat} (hk : kd k = 1) (x : Int32) : KI l yX1_spent cX1_spent 2 (some .int) rm_X1_spent D cy z [.ref (z + k), .int x] o d σ τ (f_X1_spent σ k x) σ τ := by
  refine met_of RX1 (plainFor_of_name (by decide)) rfl (Nat.le_of_ble_eq_true rfl) ?_
  intro p e s m args below meth c C hP hS ls hl
  obtain ⟨hx, hb, hr, hml, hown, hW, hlocks, hAm⟩ := id C
  have hl : lv_has ls 2 [(0, .ref (z + k)), (1, .int x)] := hl
  refine lv_aload_n hx hb dX1_spent_0 rfl (lv_at hl 0 rfl) ?_
  refine lv_iload_n hx hb dX1_spent_1 rfl (lv_at hl 1 rfl) ?_
  refine lv_iconst (v := 1) hx hb dX1_spent_2 (by decide) ?_
  refine thn_I (run_V (As := [.int x, .int 1]) (rest := []) C (k_X1_read l D cy z o d σ τ hk x 1) hP hS cw_X1_read (mA2 (i := 232) rfl rfl) hk ⟨rfl, rfl⟩ ⟨Nat.le_of_ble_eq_true rfl, Nat.le_of_ble_eq_true rfl⟩ rfl (Nat.le_of_ble_eq_true rfl) hl.1 ⟨Nat.zero_le _, Nat.zero_le _⟩ dX1_spent_3) hS (fun H locs hP hS => ?_)
  exact ret_I C hP hS (nar_i _) rfl rfl rfl rfl dX1_spent_6

theorem cw_X1_before : cwVt yX1_before cX1_before 2 (some .int) 1 1 := ⟨(mA3 (i := 7) rfl rfl), (mA3 (i := 8) rfl rfl), (mA1 (i := 4) rfl rfl), (mA3 (i := 9) rfl rfl), by decide +kernel, ⟨_, rfl, rfl⟩, by decide⟩
abbrev rm_X1_before : Room := { frames := 2, cells := 0, slots := 0, locals := 44 }
def f_X1_before (σ : Sg) (k : Nat) (x : Int32) : Int32 :=
  f_X1_read σ k x 2
set_option maxHeartbeats 4000000 in
set_option maxRecDepth 100000 in
theorem k_X1_before (l : Launch) (D : va_G) (cy : Nat → ClassId) (z : Nat) (o : Int64) (d : UInt64) (σ τ : Sg) {k : Nat} (hk : kd k = 1) (x : Int32) : KI l yX1_before cX1_before 2 (some .int) rm_X1_before D cy z [.ref (z + k), .int x] o d σ τ (f_X1_before σ k x) σ τ := by
  refine met_of RX1 (plainFor_of_name (by decide)) rfl (Nat.le_of_ble_eq_true rfl) ?_
  intro p e s m args below meth c C hP hS ls hl
  obtain ⟨hx, hb, hr, hml, hown, hW, hlocks, hAm⟩ := id C
  have hl : lv_has ls 2 [(0, .ref (z + k)), (1, .int x)] := hl
  refine lv_aload_n hx hb dX1_before_0 rfl (lv_at hl 0 rfl) ?_
  refine lv_iload_n hx hb dX1_before_1 rfl (lv_at hl 1 rfl) ?_
  refine lv_iconst (v := 2) hx hb dX1_before_2 (by decide) ?_
  refine thn_I (run_V (As := [.int x, .int 2]) (rest := []) C (k_X1_read l D cy z o d σ τ hk x 2) hP hS cw_X1_read (mA2 (i := 232) rfl rfl) hk ⟨rfl, rfl⟩ ⟨Nat.le_of_ble_eq_true rfl, Nat.le_of_ble_eq_true rfl⟩ rfl (Nat.le_of_ble_eq_true rfl) hl.1 ⟨Nat.zero_le _, Nat.zero_le _⟩ dX1_before_3) hS (fun H locs hP hS => ?_)
  exact ret_I C hP hS (nar_i _) rfl rfl rfl rfl dX1_before_6

theorem cw_X1_write : cwVt yX1_write cX1_write 3 none 1 2 := ⟨(mA2 (i := 178) rfl rfl), (mA0 (i := 4) rfl rfl), (mA1 (i := 4) rfl rfl), (mA2 (i := 179) rfl rfl), by decide +kernel, ⟨_, rfl, rfl⟩, by decide⟩
abbrev rm_X1_write : Room := { frames := 0, cells := 0, slots := 0, locals := 0 }
def s_X1_write (σ : Sg) (k : Nat) (x : Int32) (y : Int32) : Sg :=
  if x < 0 then
    σ
  else
    if 48 ≤ x then
      σ
    else
      up σ (k + 1) (x.toNatClampNeg) y
set_option maxHeartbeats 4000000 in
set_option maxRecDepth 100000 in
theorem k_X1_write (l : Launch) (D : va_G) (cy : Nat → ClassId) (z : Nat) (o : Int64) (d : UInt64) (σ τ : Sg) {k : Nat} (hk : kd k = 1) (x : Int32) (y : Int32) : KV l yX1_write cX1_write 3 rm_X1_write D cy z [.ref (z + k), .int x, .int y] o d σ τ (s_X1_write σ k x y) τ := by
  refine met_of RX1 (plainFor_of_name (by decide)) rfl (Nat.le_of_ble_eq_true rfl) ?_
  intro p e s m args below meth c C hP hS ls hl
  obtain ⟨hx, hb, hr, hml, hown, hW, hlocks, hAm⟩ := id C
  have hl : lv_has ls 3 [(0, .ref (z + k)), (1, .int x), (2, .int y)] := hl
  refine lv_iload_n hx hb dX1_write_0 rfl (lv_at hl 1 rfl) ?_
  refine lv_if_lt (tgt := 20) hx hb dX1_write_1 (by decide) (fun c_1 => ?_) (fun c_1 => ?_)
  · exact ret_V C hP hS (by unfold s_X1_write; rw [if_pos c_1]) rfl dX1_write_20
  · refine lv_iload_n hx hb dX1_write_4 rfl (lv_at hl 1 rfl) ?_
    refine lv_aload_n hx hb dX1_write_5 rfl (lv_at hl 0 rfl) ?_
    refine gf_X1_11 C hP hk dX1_write_6 ?_
    refine ln_7 C hP (kd1_1 hk) dX1_write_9 ?_
    refine lv_icmp_ge (tgt := 20) hx hb dX1_write_10 (by decide) (fun c_10 => ?_) (fun c_10 => ?_)
    · exact ret_V C hP hS (by unfold s_X1_write; rw [if_neg c_1, if_pos c_10]) rfl dX1_write_20
    · refine lv_aload_n hx hb dX1_write_13 rfl (lv_at hl 0 rfl) ?_
      refine gf_X1_11 C hP hk dX1_write_14 ?_
      refine lv_iload_n hx hb dX1_write_17 rfl (lv_at hl 1 rfl) ?_
      refine lv_iload_n hx hb dX1_write_18 rfl (lv_at hl 2 rfl) ?_
      refine as_7 C hP hS (kd1_1 hk) (vpin_of c_1 c_10 (by decide)) dX1_write_19 (fun H locs hP hS => ?_)
      exact ret_V C hP hS (by unfold s_X1_write; rw [if_neg c_1, if_neg c_10]) rfl dX1_write_20

theorem cw_X1_add : cwVt yX1_add cX1_add 5 none 1 3 := ⟨(mA2 (i := 169) rfl rfl), (mA2 (i := 170) rfl rfl), (mA1 (i := 4) rfl rfl), (mA2 (i := 171) rfl rfl), by decide +kernel, ⟨_, rfl, rfl⟩, by decide⟩
abbrev rm_X1_add : Room := { frames := 1, cells := 0, slots := 0, locals := 22 }
def s_X1_add (σ : Sg) (k : Nat) (x : Int32) (y : Int32) (w : Int32) : Sg :=
  if 16 ≤ (σ k 2) then
    s_X1_write (s_X1_write (s_X1_write (up σ k 1 (((σ k 1) + 1) - ((σ k 1) + 1) / 16 * 16)) k ((f_X1_rowOf (up σ k 1 (((σ k 1) + 1) - ((σ k 1) + 1) / 16 * 16)) k (((up σ k 1 (((σ k 1) + 1) - ((σ k 1) + 1) / 16 * 16)) k 2) - 1)) + 0) x) k ((f_X1_rowOf (up σ k 1 (((σ k 1) + 1) - ((σ k 1) + 1) / 16 * 16)) k (((up σ k 1 (((σ k 1) + 1) - ((σ k 1) + 1) / 16 * 16)) k 2) - 1)) + 1) y) k ((f_X1_rowOf (up σ k 1 (((σ k 1) + 1) - ((σ k 1) + 1) / 16 * 16)) k (((up σ k 1 (((σ k 1) + 1) - ((σ k 1) + 1) / 16 * 16)) k 2) - 1)) + 2) w
  else
    s_X1_write (s_X1_write (s_X1_write (up σ k 2 ((σ k 2) + 1)) k ((f_X1_rowOf (up σ k 2 ((σ k 2) + 1)) k (((up σ k 2 ((σ k 2) + 1)) k 2) - 1)) + 0) x) k ((f_X1_rowOf (up σ k 2 ((σ k 2) + 1)) k (((up σ k 2 ((σ k 2) + 1)) k 2) - 1)) + 1) y) k ((f_X1_rowOf (up σ k 2 ((σ k 2) + 1)) k (((up σ k 2 ((σ k 2) + 1)) k 2) - 1)) + 2) w
set_option maxHeartbeats 4000000 in
set_option maxRecDepth 100000 in
theorem k_X1_add (l : Launch) (D : va_G) (cy : Nat → ClassId) (z : Nat) (o : Int64) (d : UInt64) (σ τ : Sg) {k : Nat} (hk : kd k = 1) (x : Int32) (y : Int32) (w : Int32) : KV l yX1_add cX1_add 5 rm_X1_add D cy z [.ref (z + k), .int x, .int y, .int w] o d σ τ (s_X1_add σ k x y w) τ := by
  refine met_of RX1 (plainFor_of_name (by decide)) rfl (Nat.le_of_ble_eq_true rfl) ?_
  intro p e s m args below meth c C hP hS ls hl
  obtain ⟨hx, hb, hr, hml, hown, hW, hlocks, hAm⟩ := id C
  have hl : lv_has ls 5 [(0, .ref (z + k)), (1, .int x), (2, .int y), (3, .int w)] := hl
  refine lv_aload_n hx hb dX1_add_0 rfl (lv_at hl 0 rfl) ?_
  refine gf_X1_15 C hP hk dX1_add_1 ?_
  refine lv_bipush (v := 16) hx hb dX1_add_4 (by decide) ?_
  refine lv_icmp_ge (tgt := 22) hx hb dX1_add_6 (by decide) (fun c_6 => ?_) (fun c_6 => ?_)
  · refine lv_aload_n hx hb dX1_add_22 rfl (lv_at hl 0 rfl) ?_
    refine lv_aload_n hx hb dX1_add_23 rfl (lv_at hl 0 rfl) ?_
    refine gf_X1_19 C hP hk dX1_add_24 ?_
    refine lv_iconst (v := 1) hx hb dX1_add_27 (by decide) ?_
    refine lv_iadd hx hb dX1_add_28 ?_
    refine lv_bipush (v := 16) hx hb dX1_add_29 (by decide) ?_
    refine lv_irem hx hb dX1_add_31 (by decide) ?_
    refine pf_X1_19 C hP hS hk dX1_add_32 (fun H locs hP hS => ?_)
    refine lv_aload_n hx hb dX1_add_35 rfl (lv_at hl 0 rfl) ?_
    refine lv_aload_n hx hb dX1_add_36 rfl (lv_at hl 0 rfl) ?_
    refine gf_X1_15 C hP hk dX1_add_37 ?_
    refine lv_iconst (v := 1) hx hb dX1_add_40 (by decide) ?_
    refine lv_isub hx hb dX1_add_41 ?_
    refine thn_I (run_V (As := [.int (((up σ k 1 (((σ k 1) + 1) - ((σ k 1) + 1) / 16 * 16)) k 2) - 1)]) (rest := []) C (k_X1_rowOf l D cy z o d (up σ k 1 (((σ k 1) + 1) - ((σ k 1) + 1) / 16 * 16)) τ hk (((up σ k 1 (((σ k 1) + 1) - ((σ k 1) + 1) / 16 * 16)) k 2) - 1)) hP hS cw_X1_rowOf (mA2 (i := 172) rfl rfl) hk ⟨rfl, rfl⟩ ⟨Nat.le_of_ble_eq_true rfl, Nat.le_of_ble_eq_true rfl⟩ rfl (Nat.le_of_ble_eq_true rfl) hl.1 ⟨Nat.zero_le _, Nat.zero_le _⟩ dX1_add_42) hS (fun H locs hP hS => ?_)
    refine lv_istore (lv' := [(4, .int (f_X1_rowOf (up σ k 1 (((σ k 1) + 1) - ((σ k 1) + 1) / 16 * 16)) k (((up σ k 1 (((σ k 1) + 1) - ((σ k 1) + 1) / 16 * 16)) k 2) - 1))), (0, .ref (z + k)), (1, .int x), (2, .int y), (3, .int w)]) hx hb dX1_add_45 hl (by decide) rfl (fun ls hl => ?_)
    refine lv_aload_n hx hb dX1_add_47 rfl (lv_at hl 1 rfl) ?_
    refine lv_iload hx hb dX1_add_48 (lv_at hl 0 rfl) ?_
    refine lv_iconst (v := 0) hx hb dX1_add_50 (by decide) ?_
    refine lv_iadd hx hb dX1_add_51 ?_
    refine lv_iload_n hx hb dX1_add_52 rfl (lv_at hl 2 rfl) ?_
    refine thn_V (run_V (As := [.int ((f_X1_rowOf (up σ k 1 (((σ k 1) + 1) - ((σ k 1) + 1) / 16 * 16)) k (((up σ k 1 (((σ k 1) + 1) - ((σ k 1) + 1) / 16 * 16)) k 2) - 1)) + 0), .int x]) (rest := []) C (k_X1_write l D cy z o d (up σ k 1 (((σ k 1) + 1) - ((σ k 1) + 1) / 16 * 16)) τ hk ((f_X1_rowOf (up σ k 1 (((σ k 1) + 1) - ((σ k 1) + 1) / 16 * 16)) k (((up σ k 1 (((σ k 1) + 1) - ((σ k 1) + 1) / 16 * 16)) k 2) - 1)) + 0) x) hP hS cw_X1_write (mA2 (i := 176) rfl rfl) hk ⟨rfl, rfl⟩ ⟨Nat.le_of_ble_eq_true rfl, Nat.le_of_ble_eq_true rfl⟩ rfl (Nat.le_of_ble_eq_true rfl) hl.1 ⟨Nat.zero_le _, Nat.zero_le _⟩ dX1_add_53) hS (fun H locs hP hS => ?_)
    refine lv_aload_n hx hb dX1_add_56 rfl (lv_at hl 1 rfl) ?_
    refine lv_iload hx hb dX1_add_57 (lv_at hl 0 rfl) ?_
    refine lv_iconst (v := 1) hx hb dX1_add_59 (by decide) ?_
    refine lv_iadd hx hb dX1_add_60 ?_
    refine lv_iload_n hx hb dX1_add_61 rfl (lv_at hl 3 rfl) ?_
    refine thn_V (run_V (As := [.int ((f_X1_rowOf (up σ k 1 (((σ k 1) + 1) - ((σ k 1) + 1) / 16 * 16)) k (((up σ k 1 (((σ k 1) + 1) - ((σ k 1) + 1) / 16 * 16)) k 2) - 1)) + 1), .int y]) (rest := []) C (k_X1_write l D cy z o d (s_X1_write (up σ k 1 (((σ k 1) + 1) - ((σ k 1) + 1) / 16 * 16)) k ((f_X1_rowOf (up σ k 1 (((σ k 1) + 1) - ((σ k 1) + 1) / 16 * 16)) k (((up σ k 1 (((σ k 1) + 1) - ((σ k 1) + 1) / 16 * 16)) k 2) - 1)) + 0) x) τ hk ((f_X1_rowOf (up σ k 1 (((σ k 1) + 1) - ((σ k 1) + 1) / 16 * 16)) k (((up σ k 1 (((σ k 1) + 1) - ((σ k 1) + 1) / 16 * 16)) k 2) - 1)) + 1) y) hP hS cw_X1_write (mA2 (i := 176) rfl rfl) hk ⟨rfl, rfl⟩ ⟨Nat.le_of_ble_eq_true rfl, Nat.le_of_ble_eq_true rfl⟩ rfl (Nat.le_of_ble_eq_true rfl) hl.1 ⟨Nat.zero_le _, Nat.zero_le _⟩ dX1_add_62) hS (fun H locs hP hS => ?_)
    refine lv_aload_n hx hb dX1_add_65 rfl (lv_at hl 1 rfl) ?_
    refine lv_iload hx hb dX1_add_66 (lv_at hl 0 rfl) ?_
    refine lv_iconst (v := 2) hx hb dX1_add_68 (by decide) ?_
    refine lv_iadd hx hb dX1_add_69 ?_
    refine lv_iload_n hx hb dX1_add_70 rfl (lv_at hl 4 rfl) ?_
    refine thn_V (run_V (As := [.int ((f_X1_rowOf (up σ k 1 (((σ k 1) + 1) - ((σ k 1) + 1) / 16 * 16)) k (((up σ k 1 (((σ k 1) + 1) - ((σ k 1) + 1) / 16 * 16)) k 2) - 1)) + 2), .int w]) (rest := []) C (k_X1_write l D cy z o d (s_X1_write (s_X1_write (up σ k 1 (((σ k 1) + 1) - ((σ k 1) + 1) / 16 * 16)) k ((f_X1_rowOf (up σ k 1 (((σ k 1) + 1) - ((σ k 1) + 1) / 16 * 16)) k (((up σ k 1 (((σ k 1) + 1) - ((σ k 1) + 1) / 16 * 16)) k 2) - 1)) + 0) x) k ((f_X1_rowOf (up σ k 1 (((σ k 1) + 1) - ((σ k 1) + 1) / 16 * 16)) k (((up σ k 1 (((σ k 1) + 1) - ((σ k 1) + 1) / 16 * 16)) k 2) - 1)) + 1) y) τ hk ((f_X1_rowOf (up σ k 1 (((σ k 1) + 1) - ((σ k 1) + 1) / 16 * 16)) k (((up σ k 1 (((σ k 1) + 1) - ((σ k 1) + 1) / 16 * 16)) k 2) - 1)) + 2) w) hP hS cw_X1_write (mA2 (i := 176) rfl rfl) hk ⟨rfl, rfl⟩ ⟨Nat.le_of_ble_eq_true rfl, Nat.le_of_ble_eq_true rfl⟩ rfl (Nat.le_of_ble_eq_true rfl) hl.1 ⟨Nat.zero_le _, Nat.zero_le _⟩ dX1_add_71) hS (fun H locs hP hS => ?_)
    exact ret_V C hP hS (by unfold s_X1_add; rw [if_pos c_6]) rfl dX1_add_74
  · refine lv_aload_n hx hb dX1_add_9 rfl (lv_at hl 0 rfl) ?_
    refine lv_dup hx hb dX1_add_10 rfl ?_
    refine gf_X1_15 C hP hk dX1_add_11 ?_
    refine lv_iconst (v := 1) hx hb dX1_add_14 (by decide) ?_
    refine lv_iadd hx hb dX1_add_15 ?_
    refine pf_X1_15 C hP hS hk dX1_add_16 (fun H locs hP hS => ?_)
    refine lv_goto (tgt := 35) hx hb dX1_add_19 (by decide) ?_
    refine lv_aload_n hx hb dX1_add_35 rfl (lv_at hl 0 rfl) ?_
    refine lv_aload_n hx hb dX1_add_36 rfl (lv_at hl 0 rfl) ?_
    refine gf_X1_15 C hP hk dX1_add_37 ?_
    refine lv_iconst (v := 1) hx hb dX1_add_40 (by decide) ?_
    refine lv_isub hx hb dX1_add_41 ?_
    refine thn_I (run_V (As := [.int (((up σ k 2 ((σ k 2) + 1)) k 2) - 1)]) (rest := []) C (k_X1_rowOf l D cy z o d (up σ k 2 ((σ k 2) + 1)) τ hk (((up σ k 2 ((σ k 2) + 1)) k 2) - 1)) hP hS cw_X1_rowOf (mA2 (i := 172) rfl rfl) hk ⟨rfl, rfl⟩ ⟨Nat.le_of_ble_eq_true rfl, Nat.le_of_ble_eq_true rfl⟩ rfl (Nat.le_of_ble_eq_true rfl) hl.1 ⟨Nat.zero_le _, Nat.zero_le _⟩ dX1_add_42) hS (fun H locs hP hS => ?_)
    refine lv_istore (lv' := [(4, .int (f_X1_rowOf (up σ k 2 ((σ k 2) + 1)) k (((up σ k 2 ((σ k 2) + 1)) k 2) - 1))), (0, .ref (z + k)), (1, .int x), (2, .int y), (3, .int w)]) hx hb dX1_add_45 hl (by decide) rfl (fun ls hl => ?_)
    refine lv_aload_n hx hb dX1_add_47 rfl (lv_at hl 1 rfl) ?_
    refine lv_iload hx hb dX1_add_48 (lv_at hl 0 rfl) ?_
    refine lv_iconst (v := 0) hx hb dX1_add_50 (by decide) ?_
    refine lv_iadd hx hb dX1_add_51 ?_
    refine lv_iload_n hx hb dX1_add_52 rfl (lv_at hl 2 rfl) ?_
    refine thn_V (run_V (As := [.int ((f_X1_rowOf (up σ k 2 ((σ k 2) + 1)) k (((up σ k 2 ((σ k 2) + 1)) k 2) - 1)) + 0), .int x]) (rest := []) C (k_X1_write l D cy z o d (up σ k 2 ((σ k 2) + 1)) τ hk ((f_X1_rowOf (up σ k 2 ((σ k 2) + 1)) k (((up σ k 2 ((σ k 2) + 1)) k 2) - 1)) + 0) x) hP hS cw_X1_write (mA2 (i := 176) rfl rfl) hk ⟨rfl, rfl⟩ ⟨Nat.le_of_ble_eq_true rfl, Nat.le_of_ble_eq_true rfl⟩ rfl (Nat.le_of_ble_eq_true rfl) hl.1 ⟨Nat.zero_le _, Nat.zero_le _⟩ dX1_add_53) hS (fun H locs hP hS => ?_)
    refine lv_aload_n hx hb dX1_add_56 rfl (lv_at hl 1 rfl) ?_
    refine lv_iload hx hb dX1_add_57 (lv_at hl 0 rfl) ?_
    refine lv_iconst (v := 1) hx hb dX1_add_59 (by decide) ?_
    refine lv_iadd hx hb dX1_add_60 ?_
    refine lv_iload_n hx hb dX1_add_61 rfl (lv_at hl 3 rfl) ?_
    refine thn_V (run_V (As := [.int ((f_X1_rowOf (up σ k 2 ((σ k 2) + 1)) k (((up σ k 2 ((σ k 2) + 1)) k 2) - 1)) + 1), .int y]) (rest := []) C (k_X1_write l D cy z o d (s_X1_write (up σ k 2 ((σ k 2) + 1)) k ((f_X1_rowOf (up σ k 2 ((σ k 2) + 1)) k (((up σ k 2 ((σ k 2) + 1)) k 2) - 1)) + 0) x) τ hk ((f_X1_rowOf (up σ k 2 ((σ k 2) + 1)) k (((up σ k 2 ((σ k 2) + 1)) k 2) - 1)) + 1) y) hP hS cw_X1_write (mA2 (i := 176) rfl rfl) hk ⟨rfl, rfl⟩ ⟨Nat.le_of_ble_eq_true rfl, Nat.le_of_ble_eq_true rfl⟩ rfl (Nat.le_of_ble_eq_true rfl) hl.1 ⟨Nat.zero_le _, Nat.zero_le _⟩ dX1_add_62) hS (fun H locs hP hS => ?_)
    refine lv_aload_n hx hb dX1_add_65 rfl (lv_at hl 1 rfl) ?_
    refine lv_iload hx hb dX1_add_66 (lv_at hl 0 rfl) ?_
    refine lv_iconst (v := 2) hx hb dX1_add_68 (by decide) ?_
    refine lv_iadd hx hb dX1_add_69 ?_
    refine lv_iload_n hx hb dX1_add_70 rfl (lv_at hl 4 rfl) ?_
    refine thn_V (run_V (As := [.int ((f_X1_rowOf (up σ k 2 ((σ k 2) + 1)) k (((up σ k 2 ((σ k 2) + 1)) k 2) - 1)) + 2), .int w]) (rest := []) C (k_X1_write l D cy z o d (s_X1_write (s_X1_write (up σ k 2 ((σ k 2) + 1)) k ((f_X1_rowOf (up σ k 2 ((σ k 2) + 1)) k (((up σ k 2 ((σ k 2) + 1)) k 2) - 1)) + 0) x) k ((f_X1_rowOf (up σ k 2 ((σ k 2) + 1)) k (((up σ k 2 ((σ k 2) + 1)) k 2) - 1)) + 1) y) τ hk ((f_X1_rowOf (up σ k 2 ((σ k 2) + 1)) k (((up σ k 2 ((σ k 2) + 1)) k 2) - 1)) + 2) w) hP hS cw_X1_write (mA2 (i := 176) rfl rfl) hk ⟨rfl, rfl⟩ ⟨Nat.le_of_ble_eq_true rfl, Nat.le_of_ble_eq_true rfl⟩ rfl (Nat.le_of_ble_eq_true rfl) hl.1 ⟨Nat.zero_le _, Nat.zero_le _⟩ dX1_add_71) hS (fun H locs hP hS => ?_)
    exact ret_V C hP hS (by unfold s_X1_add; rw [if_neg c_6]) rfl dX1_add_74

theorem cw_X1_dropLatest : cwVt yX1_dropLatest cX1_dropLatest 1 none 1 0 := ⟨(mA3 (i := 11) rfl rfl), (mA3 (i := 12) rfl rfl), (mA1 (i := 4) rfl rfl), (mA3 (i := 13) rfl rfl), by decide +kernel, ⟨_, rfl, rfl⟩, by decide⟩
abbrev rm_X1_dropLatest : Room := { frames := 0, cells := 0, slots := 0, locals := 0 }
def s_X1_dropLatest (σ : Sg) (k : Nat) : Sg :=
  if (σ k 2) ≤ 0 then
    σ
  else
    up σ k 2 ((σ k 2) - 1)
set_option maxHeartbeats 4000000 in
set_option maxRecDepth 100000 in
theorem k_X1_dropLatest (l : Launch) (D : va_G) (cy : Nat → ClassId) (z : Nat) (o : Int64) (d : UInt64) (σ τ : Sg) {k : Nat} (hk : kd k = 1) : KV l yX1_dropLatest cX1_dropLatest 1 rm_X1_dropLatest D cy z [.ref (z + k)] o d σ τ (s_X1_dropLatest σ k) τ := by
  refine met_of RX1 (plainFor_of_name (by decide)) rfl (Nat.le_of_ble_eq_true rfl) ?_
  intro p e s m args below meth c C hP hS ls hl
  obtain ⟨hx, hb, hr, hml, hown, hW, hlocks, hAm⟩ := id C
  have hl : lv_has ls 1 [(0, .ref (z + k))] := hl
  refine lv_aload_n hx hb dX1_dropLatest_0 rfl (lv_at hl 0 rfl) ?_
  refine gf_X1_15 C hP hk dX1_dropLatest_1 ?_
  refine lv_if_le (tgt := 17) hx hb dX1_dropLatest_4 (by decide) (fun c_4 => ?_) (fun c_4 => ?_)
  · exact ret_V C hP hS (by unfold s_X1_dropLatest; rw [if_pos c_4]) rfl dX1_dropLatest_17
  · refine lv_aload_n hx hb dX1_dropLatest_7 rfl (lv_at hl 0 rfl) ?_
    refine lv_dup hx hb dX1_dropLatest_8 rfl ?_
    refine gf_X1_15 C hP hk dX1_dropLatest_9 ?_
    refine lv_iconst (v := 1) hx hb dX1_dropLatest_12 (by decide) ?_
    refine lv_isub hx hb dX1_dropLatest_13 ?_
    refine pf_X1_15 C hP hS hk dX1_dropLatest_14 (fun H locs hP hS => ?_)
    exact ret_V C hP hS (by unfold s_X1_dropLatest; rw [if_neg c_4]) rfl dX1_dropLatest_17

theorem cw_X2_append : cwVt yX2_append cX2_append 2 none 2 1 := ⟨(mA3 (i := 39) rfl rfl), (mA3 (i := 40) rfl rfl), (mA1 (i := 6) rfl rfl), (mA3 (i := 41) rfl rfl), by decide +kernel, ⟨_, rfl, rfl⟩, by decide⟩
abbrev rm_X2_append : Room := { frames := 0, cells := 0, slots := 0, locals := 0 }
def s_X2_append (σ : Sg) (k : Nat) (x : Int32) : Sg :=
  if (σ k 1) < 0 then
    σ
  else
    if 80 ≤ (σ k 1) then
      σ
    else
      up (up σ (k + 1) ((σ k 1).toNatClampNeg) x) k 1 (((up σ (k + 1) ((σ k 1).toNatClampNeg) x) k 1) + 1)
set_option maxHeartbeats 4000000 in
set_option maxRecDepth 100000 in
theorem k_X2_append (l : Launch) (D : va_G) (cy : Nat → ClassId) (z : Nat) (o : Int64) (d : UInt64) (σ τ : Sg) {k : Nat} (hk : kd k = 2) (x : Int32) : KV l yX2_append cX2_append 2 rm_X2_append D cy z [.ref (z + k), .int x] o d σ τ (s_X2_append σ k x) τ := by
  refine met_of RX2 (plainFor_of_name (by decide)) rfl (Nat.le_of_ble_eq_true rfl) ?_
  intro p e s m args below meth c C hP hS ls hl
  obtain ⟨hx, hb, hr, hml, hown, hW, hlocks, hAm⟩ := id C
  have hl : lv_has ls 2 [(0, .ref (z + k)), (1, .int x)] := hl
  refine lv_aload_n hx hb dX2_append_0 rfl (lv_at hl 0 rfl) ?_
  refine gf_X2_15 C hP hk dX2_append_1 ?_
  refine lv_if_lt (tgt := 39) hx hb dX2_append_4 (by decide) (fun c_4 => ?_) (fun c_4 => ?_)
  · exact ret_V C hP hS (by unfold s_X2_append; rw [if_pos c_4]) rfl dX2_append_39
  · refine lv_aload_n hx hb dX2_append_7 rfl (lv_at hl 0 rfl) ?_
    refine gf_X2_15 C hP hk dX2_append_8 ?_
    refine lv_aload_n hx hb dX2_append_11 rfl (lv_at hl 0 rfl) ?_
    refine gf_X2_9 C hP hk dX2_append_12 ?_
    refine ln_8 C hP (kd2_1 hk) dX2_append_15 ?_
    refine lv_icmp_ge (tgt := 39) hx hb dX2_append_16 (by decide) (fun c_16 => ?_) (fun c_16 => ?_)
    · exact ret_V C hP hS (by unfold s_X2_append; rw [if_neg c_4, if_pos c_16]) rfl dX2_append_39
    · refine lv_aload_n hx hb dX2_append_19 rfl (lv_at hl 0 rfl) ?_
      refine gf_X2_9 C hP hk dX2_append_20 ?_
      refine lv_aload_n hx hb dX2_append_23 rfl (lv_at hl 0 rfl) ?_
      refine gf_X2_15 C hP hk dX2_append_24 ?_
      refine lv_iload_n hx hb dX2_append_27 rfl (lv_at hl 1 rfl) ?_
      refine as_8 C hP hS (kd2_1 hk) (vpin_of c_4 c_16 (by decide)) dX2_append_28 (fun H locs hP hS => ?_)
      refine lv_aload_n hx hb dX2_append_29 rfl (lv_at hl 0 rfl) ?_
      refine lv_dup hx hb dX2_append_30 rfl ?_
      refine gf_X2_15 C hP hk dX2_append_31 ?_
      refine lv_iconst (v := 1) hx hb dX2_append_34 (by decide) ?_
      refine lv_iadd hx hb dX2_append_35 ?_
      refine pf_X2_15 C hP hS hk dX2_append_36 (fun H locs hP hS => ?_)
      exact ret_V C hP hS (by unfold s_X2_append; rw [if_neg c_4, if_neg c_16]) rfl dX2_append_39

theorem cw_X2_sign : cwVt yX2_sign cX2_sign 2 (some .char) 2 1 := ⟨(mA1 (i := 200) rfl rfl), (mA1 (i := 201) rfl rfl), (mA1 (i := 6) rfl rfl), (mA1 (i := 202) rfl rfl), by decide +kernel, ⟨_, rfl, rfl⟩, by decide⟩
abbrev rm_X2_sign : Room := { frames := 0, cells := 0, slots := 0, locals := 0 }
def f_X2_sign (σ : Sg) (k : Nat) (x : Int32) : Int32 :=
  if x < 0 then
    0
  else
    if (σ k 1) ≤ x then
      0
    else
      if x < 80 then
        chr (σ (k + 1) (x.toNatClampNeg))
      else
        0
set_option maxHeartbeats 4000000 in
set_option maxRecDepth 100000 in
theorem k_X2_sign (l : Launch) (D : va_G) (cy : Nat → ClassId) (z : Nat) (o : Int64) (d : UInt64) (σ τ : Sg) {k : Nat} (hk : kd k = 2) (x : Int32) : KI l yX2_sign cX2_sign 2 (some .char) rm_X2_sign D cy z [.ref (z + k), .int x] o d σ τ (f_X2_sign σ k x) σ τ := by
  refine met_of RX2 (plainFor_of_name (by decide)) rfl (Nat.le_of_ble_eq_true rfl) ?_
  intro p e s m args below meth c C hP hS ls hl
  obtain ⟨hx, hb, hr, hml, hown, hW, hlocks, hAm⟩ := id C
  have hl : lv_has ls 2 [(0, .ref (z + k)), (1, .int x)] := hl
  refine lv_iload_n hx hb dX2_sign_0 rfl (lv_at hl 1 rfl) ?_
  refine lv_if_lt (tgt := 21) hx hb dX2_sign_1 (by decide) (fun c_1 => ?_) (fun c_1 => ?_)
  · refine lv_iconst (v := 0) hx hb dX2_sign_21 (by decide) ?_
    refine lv_goto (tgt := 31) hx hb dX2_sign_22 (by decide) ?_
    exact ret_I C hP hS (by decide) rfl (by unfold f_X2_sign; rw [if_pos c_1]) rfl rfl dX2_sign_31
  · refine lv_iload_n hx hb dX2_sign_4 rfl (lv_at hl 1 rfl) ?_
    refine lv_aload_n hx hb dX2_sign_5 rfl (lv_at hl 0 rfl) ?_
    refine gf_X2_15 C hP hk dX2_sign_6 ?_
    refine lv_icmp_ge (tgt := 21) hx hb dX2_sign_9 (by decide) (fun c_9 => ?_) (fun c_9 => ?_)
    · refine lv_iconst (v := 0) hx hb dX2_sign_21 (by decide) ?_
      refine lv_goto (tgt := 31) hx hb dX2_sign_22 (by decide) ?_
      exact ret_I C hP hS (by decide) rfl (by unfold f_X2_sign; rw [if_neg c_1, if_pos c_9]) rfl rfl dX2_sign_31
    · refine lv_iload_n hx hb dX2_sign_12 rfl (lv_at hl 1 rfl) ?_
      refine lv_aload_n hx hb dX2_sign_13 rfl (lv_at hl 0 rfl) ?_
      refine gf_X2_9 C hP hk dX2_sign_14 ?_
      refine ln_8 C hP (kd2_1 hk) dX2_sign_17 ?_
      refine lv_icmp_lt (tgt := 25) hx hb dX2_sign_18 (by decide) (fun c_18 => ?_) (fun c_18 => ?_)
      · refine lv_aload_n hx hb dX2_sign_25 rfl (lv_at hl 0 rfl) ?_
        refine gf_X2_9 C hP hk dX2_sign_26 ?_
        refine lv_iload_n hx hb dX2_sign_29 rfl (lv_at hl 1 rfl) ?_
        refine al_8 C hP (kd2_1 hk) (vpin_of' c_1 c_18 (by decide)) dX2_sign_30 ?_
        exact ret_I C hP hS (nar_c _) rfl (by unfold f_X2_sign; rw [if_neg c_1, if_neg c_9, if_pos c_18]) rfl rfl dX2_sign_31
      · refine lv_iconst (v := 0) hx hb dX2_sign_21 (by decide) ?_
        refine lv_goto (tgt := 31) hx hb dX2_sign_22 (by decide) ?_
        exact ret_I C hP hS (by decide) rfl (by unfold f_X2_sign; rw [if_neg c_1, if_neg c_9, if_neg c_18]) rfl rfl dX2_sign_31

theorem cw_X2_digit : cwVt yX2_digit cX2_digit 2 (some .int) 2 1 := ⟨(mA3 (i := 67) rfl rfl), (mA3 (i := 68) rfl rfl), (mA1 (i := 6) rfl rfl), (mA3 (i := 69) rfl rfl), by decide +kernel, ⟨_, rfl, rfl⟩, by decide⟩
abbrev rm_X2_digit : Room := { frames := 1, cells := 0, slots := 0, locals := 21 }
def f_X2_digit (σ : Sg) (k : Nat) (x : Int32) : Int32 :=
  (f_X2_sign σ k x) - 48
set_option maxHeartbeats 4000000 in
set_option maxRecDepth 100000 in
theorem k_X2_digit (l : Launch) (D : va_G) (cy : Nat → ClassId) (z : Nat) (o : Int64) (d : UInt64) (σ τ : Sg) {k : Nat} (hk : kd k = 2) (x : Int32) : KI l yX2_digit cX2_digit 2 (some .int) rm_X2_digit D cy z [.ref (z + k), .int x] o d σ τ (f_X2_digit σ k x) σ τ := by
  refine met_of RX2 (plainFor_of_name (by decide)) rfl (Nat.le_of_ble_eq_true rfl) ?_
  intro p e s m args below meth c C hP hS ls hl
  obtain ⟨hx, hb, hr, hml, hown, hW, hlocks, hAm⟩ := id C
  have hl : lv_has ls 2 [(0, .ref (z + k)), (1, .int x)] := hl
  refine lv_aload_n hx hb dX2_digit_0 rfl (lv_at hl 0 rfl) ?_
  refine lv_iload_n hx hb dX2_digit_1 rfl (lv_at hl 1 rfl) ?_
  refine thn_I (run_V (As := [.int x]) (rest := []) C (k_X2_sign l D cy z o d σ τ hk x) hP hS cw_X2_sign (mA1 (i := 199) rfl rfl) hk ⟨rfl, rfl⟩ ⟨Nat.le_of_ble_eq_true rfl, Nat.le_of_ble_eq_true rfl⟩ rfl (Nat.le_of_ble_eq_true rfl) hl.1 ⟨Nat.zero_le _, Nat.zero_le _⟩ dX2_digit_2) hS (fun H locs hP hS => ?_)
  refine lv_bipush (v := 48) hx hb dX2_digit_5 (by decide) ?_
  refine lv_isub hx hb dX2_digit_7 ?_
  exact ret_I C hP hS (nar_i _) rfl rfl rfl rfl dX2_digit_8

theorem cw_X2_isBetween : cwSt yX2_isBetween cX2_isBetween 3 (some .boolean) 3 := ⟨(mA1 (i := 210) rfl rfl), (mA1 (i := 6) rfl rfl), (mA1 (i := 211) rfl rfl), by decide +kernel⟩
abbrev rm_X2_isBetween : Room := { frames := 0, cells := 0, slots := 0, locals := 0 }
def f_X2_isBetween  (x : Int32) (y : Int32) (w : Int32) : Int32 :=
  if y < x then
    0
  else
    if w < y then
      0
    else
      1
set_option maxHeartbeats 4000000 in
set_option maxRecDepth 100000 in
theorem k_X2_isBetween (l : Launch) (D : va_G) (cy : Nat → ClassId) (z : Nat) (o : Int64) (d : UInt64) (σ τ : Sg) (x : Int32) (y : Int32) (w : Int32) : KI l yX2_isBetween cX2_isBetween 3 (some .boolean) rm_X2_isBetween D cy z [.int x, .int y, .int w] o d σ τ (f_X2_isBetween x y w) σ τ := by
  refine met_of RX2 (plainFor_of_name (by decide)) rfl (Nat.le_of_ble_eq_true rfl) ?_
  intro p e s m args below meth c C hP hS ls hl
  obtain ⟨hx, hb, hr, hml, hown, hW, hlocks, hAm⟩ := id C
  have hl : lv_has ls 3 [(0, .int x), (1, .int y), (2, .int w)] := hl
  refine lv_iload_n hx hb dX2_isBetween_0 rfl (lv_at hl 1 rfl) ?_
  refine lv_iload_n hx hb dX2_isBetween_1 rfl (lv_at hl 0 rfl) ?_
  refine lv_icmp_lt (tgt := 14) hx hb dX2_isBetween_2 (by decide) (fun c_2 => ?_) (fun c_2 => ?_)
  · refine lv_iconst (v := 0) hx hb dX2_isBetween_14 (by decide) ?_
    exact ret_I C hP hS nar_z0 rfl (by unfold f_X2_isBetween; rw [if_pos c_2]) rfl rfl dX2_isBetween_15
  · refine lv_iload_n hx hb dX2_isBetween_5 rfl (lv_at hl 1 rfl) ?_
    refine lv_iload_n hx hb dX2_isBetween_6 rfl (lv_at hl 2 rfl) ?_
    refine lv_icmp_gt (tgt := 14) hx hb dX2_isBetween_7 (by decide) (fun c_7 => ?_) (fun c_7 => ?_)
    · refine lv_iconst (v := 0) hx hb dX2_isBetween_14 (by decide) ?_
      exact ret_I C hP hS nar_z0 rfl (by unfold f_X2_isBetween; rw [if_neg c_2, if_pos c_7]) rfl rfl dX2_isBetween_15
    · refine lv_iconst (v := 1) hx hb dX2_isBetween_10 (by decide) ?_
      refine lv_goto (tgt := 15) hx hb dX2_isBetween_11 (by decide) ?_
      exact ret_I C hP hS nar_z1 rfl (by unfold f_X2_isBetween; rw [if_neg c_2, if_neg c_7]) rfl rfl dX2_isBetween_15
theorem nz_X2_isBetween  (x : Int32) (y : Int32) (w : Int32) : narrow .boolean (.int (f_X2_isBetween x y w)) = .int (f_X2_isBetween x y w) := by
  unfold f_X2_isBetween
  repeat' split
  all_goals first | exact nar_z1 | exact nar_z0

theorem cw_X2_number : cwVt yX2_number cX2_number 4 (some .int) 2 1 := ⟨(mA3 (i := 80) rfl rfl), (mA3 (i := 81) rfl rfl), (mA1 (i := 6) rfl rfl), (mA3 (i := 82) rfl rfl), by decide +kernel, ⟨_, rfl, rfl⟩, by decide⟩
abbrev rm_X2_number : Room := { frames := 2, cells := 0, slots := 0, locals := 42 }
def f_X2_number (σ : Sg) (k : Nat) (x : Int32) : Int32 :=
  if (f_X2_isBetween 48 (f_X2_sign σ k (x + 1)) 57) = 0 then
    f_X2_digit σ k x
  else
    (10 * (f_X2_digit σ k x)) + ((f_X2_sign σ k (x + 1)) - 48)
set_option maxHeartbeats 4000000 in
set_option maxRecDepth 100000 in
theorem k_X2_number (l : Launch) (D : va_G) (cy : Nat → ClassId) (z : Nat) (o : Int64) (d : UInt64) (σ τ : Sg) {k : Nat} (hk : kd k = 2) (x : Int32) : KI l yX2_number cX2_number 4 (some .int) rm_X2_number D cy z [.ref (z + k), .int x] o d σ τ (f_X2_number σ k x) σ τ := by
  refine met_of RX2 (plainFor_of_name (by decide)) rfl (Nat.le_of_ble_eq_true rfl) ?_
  intro p e s m args below meth c C hP hS ls hl
  obtain ⟨hx, hb, hr, hml, hown, hW, hlocks, hAm⟩ := id C
  have hl : lv_has ls 4 [(0, .ref (z + k)), (1, .int x)] := hl
  refine lv_aload_n hx hb dX2_number_0 rfl (lv_at hl 0 rfl) ?_
  refine lv_iload_n hx hb dX2_number_1 rfl (lv_at hl 1 rfl) ?_
  refine thn_I (run_V (As := [.int x]) (rest := []) C (k_X2_digit l D cy z o d σ τ hk x) hP hS cw_X2_digit (mA3 (i := 83) rfl rfl) hk ⟨rfl, rfl⟩ ⟨Nat.le_of_ble_eq_true rfl, Nat.le_of_ble_eq_true rfl⟩ rfl (Nat.le_of_ble_eq_true rfl) hl.1 ⟨Nat.zero_le _, Nat.zero_le _⟩ dX2_number_2) hS (fun H locs hP hS => ?_)
  refine lv_istore_n (lv' := [(2, .int (f_X2_digit σ k x)), (0, .ref (z + k)), (1, .int x)]) hx hb dX2_number_5 rfl hl (by decide) rfl (fun ls hl => ?_)
  refine lv_aload_n hx hb dX2_number_6 rfl (lv_at hl 1 rfl) ?_
  refine lv_iload_n hx hb dX2_number_7 rfl (lv_at hl 2 rfl) ?_
  refine lv_iconst (v := 1) hx hb dX2_number_8 (by decide) ?_
  refine lv_iadd hx hb dX2_number_9 ?_
  refine thn_I (run_V (As := [.int (x + 1)]) (rest := []) C (k_X2_sign l D cy z o d σ τ hk (x + 1)) hP hS cw_X2_sign (mA1 (i := 199) rfl rfl) hk ⟨rfl, rfl⟩ ⟨Nat.le_of_ble_eq_true rfl, Nat.le_of_ble_eq_true rfl⟩ rfl (Nat.le_of_ble_eq_true rfl) hl.1 ⟨Nat.zero_le _, Nat.zero_le _⟩ dX2_number_10) hS (fun H locs hP hS => ?_)
  refine lv_istore_n (lv' := [(3, .int (f_X2_sign σ k (x + 1))), (2, .int (f_X2_digit σ k x)), (0, .ref (z + k)), (1, .int x)]) hx hb dX2_number_13 rfl hl (by decide) rfl (fun ls hl => ?_)
  refine lv_bipush (v := 48) hx hb dX2_number_14 (by decide) ?_
  refine lv_iload_n hx hb dX2_number_16 rfl (lv_at hl 0 rfl) ?_
  refine lv_bipush (v := 57) hx hb dX2_number_17 (by decide) ?_
  refine thn_I (run_S (As := [.int 48, .int (f_X2_sign σ k (x + 1)), .int 57]) (rest := []) C (k_X2_isBetween l D cy z o d σ τ 48 (f_X2_sign σ k (x + 1)) 57) hP hS cw_X2_isBetween (mA1 (i := 209) rfl rfl) ⟨rfl, rfl⟩ ⟨Nat.le_of_ble_eq_true rfl, Nat.le_of_ble_eq_true rfl⟩ rfl (Nat.le_of_ble_eq_true rfl) hl.1 ⟨Nat.zero_le _, Nat.zero_le _⟩ dX2_number_19) hS (fun H locs hP hS => ?_)
  refine lv_if_eq (tgt := 37) hx hb dX2_number_22 (by decide) (fun c_22 => ?_) (fun c_22 => ?_)
  · refine lv_iload_n hx hb dX2_number_37 rfl (lv_at hl 1 rfl) ?_
    exact ret_I C hP hS (nar_i _) rfl (by unfold f_X2_number; rw [if_pos c_22]) rfl rfl dX2_number_38
  · refine lv_bipush (v := 10) hx hb dX2_number_25 (by decide) ?_
    refine lv_iload_n hx hb dX2_number_27 rfl (lv_at hl 1 rfl) ?_
    refine lv_imul hx hb dX2_number_28 ?_
    refine lv_iload_n hx hb dX2_number_29 rfl (lv_at hl 0 rfl) ?_
    refine lv_bipush (v := 48) hx hb dX2_number_30 (by decide) ?_
    refine lv_isub hx hb dX2_number_32 ?_
    refine lv_iadd hx hb dX2_number_33 ?_
    refine lv_goto (tgt := 38) hx hb dX2_number_34 (by decide) ?_
    exact ret_I C hP hS (nar_i _) rfl (by unfold f_X2_number; rw [if_neg c_22]) rfl rfl dX2_number_38

theorem cw_X2_mayEnd : cwSt yX2_mayEnd cX2_mayEnd 1 (some .boolean) 1 := ⟨(mA1 (i := 207) rfl rfl), (mA1 (i := 6) rfl rfl), (mA1 (i := 208) rfl rfl), by decide +kernel⟩
abbrev rm_X2_mayEnd : Room := { frames := 0, cells := 0, slots := 0, locals := 0 }
def f_X2_mayEnd  (x : Int32) : Int32 :=
  if x = 3 then
    1
  else
    if x = 5 then
      1
    else
      if x = 6 then
        1
      else
        0
set_option maxHeartbeats 4000000 in
set_option maxRecDepth 100000 in
theorem k_X2_mayEnd (l : Launch) (D : va_G) (cy : Nat → ClassId) (z : Nat) (o : Int64) (d : UInt64) (σ τ : Sg) (x : Int32) : KI l yX2_mayEnd cX2_mayEnd 1 (some .boolean) rm_X2_mayEnd D cy z [.int x] o d σ τ (f_X2_mayEnd x) σ τ := by
  refine met_of RX2 (plainFor_of_name (by decide)) rfl (Nat.le_of_ble_eq_true rfl) ?_
  intro p e s m args below meth c C hP hS ls hl
  obtain ⟨hx, hb, hr, hml, hown, hW, hlocks, hAm⟩ := id C
  have hl : lv_has ls 1 [(0, .int x)] := hl
  refine lv_iload_n hx hb dX2_mayEnd_0 rfl (lv_at hl 0 rfl) ?_
  refine lv_iconst (v := 3) hx hb dX2_mayEnd_1 (by decide) ?_
  refine lv_icmp_eq (tgt := 16) hx hb dX2_mayEnd_2 (by decide) (fun c_2 => ?_) (fun c_2 => ?_)
  · refine lv_iconst (v := 1) hx hb dX2_mayEnd_16 (by decide) ?_
    refine lv_goto (tgt := 21) hx hb dX2_mayEnd_17 (by decide) ?_
    exact ret_I C hP hS nar_z1 rfl (by unfold f_X2_mayEnd; rw [if_pos c_2]) rfl rfl dX2_mayEnd_21
  · refine lv_iload_n hx hb dX2_mayEnd_5 rfl (lv_at hl 0 rfl) ?_
    refine lv_iconst (v := 5) hx hb dX2_mayEnd_6 (by decide) ?_
    refine lv_icmp_eq (tgt := 16) hx hb dX2_mayEnd_7 (by decide) (fun c_7 => ?_) (fun c_7 => ?_)
    · refine lv_iconst (v := 1) hx hb dX2_mayEnd_16 (by decide) ?_
      refine lv_goto (tgt := 21) hx hb dX2_mayEnd_17 (by decide) ?_
      exact ret_I C hP hS nar_z1 rfl (by unfold f_X2_mayEnd; rw [if_neg c_2, if_pos c_7]) rfl rfl dX2_mayEnd_21
    · refine lv_iload_n hx hb dX2_mayEnd_10 rfl (lv_at hl 0 rfl) ?_
      refine lv_bipush (v := 6) hx hb dX2_mayEnd_11 (by decide) ?_
      refine lv_icmp_ne (tgt := 20) hx hb dX2_mayEnd_13 (by decide) (fun c_13 => ?_) (fun c_13 => ?_)
      · refine lv_iconst (v := 0) hx hb dX2_mayEnd_20 (by decide) ?_
        exact ret_I C hP hS nar_z0 rfl (by unfold f_X2_mayEnd; rw [if_neg c_2, if_neg c_7, if_neg c_13]) rfl rfl dX2_mayEnd_21
      · refine lv_iconst (v := 1) hx hb dX2_mayEnd_16 (by decide) ?_
        refine lv_goto (tgt := 21) hx hb dX2_mayEnd_17 (by decide) ?_
        exact ret_I C hP hS nar_z1 rfl (by unfold f_X2_mayEnd; rw [if_neg c_2, if_neg c_7, if_pos c_13]) rfl rfl dX2_mayEnd_21
theorem nz_X2_mayEnd  (x : Int32) : narrow .boolean (.int (f_X2_mayEnd x)) = .int (f_X2_mayEnd x) := by
  unfold f_X2_mayEnd
  repeat' split
  all_goals first | exact nar_z1 | exact nar_z0

theorem cw_X2_placeAfterSnail : cwSt yX2_placeAfterSnail cX2_placeAfterSnail 1 (some .int) 1 := ⟨(mA1 (i := 213) rfl rfl), (mA1 (i := 6) rfl rfl), (mA1 (i := 214) rfl rfl), by decide +kernel⟩
abbrev rm_X2_placeAfterSnail : Room := { frames := 0, cells := 0, slots := 0, locals := 0 }
def f_X2_placeAfterSnail  (x : Int32) : Int32 :=
  if x = 58 then
    2
  else
    if x = 98 then
      4
    else
      if x = 109 then
        6
      else
        (-1)
set_option maxHeartbeats 4000000 in
set_option maxRecDepth 100000 in
theorem k_X2_placeAfterSnail (l : Launch) (D : va_G) (cy : Nat → ClassId) (z : Nat) (o : Int64) (d : UInt64) (σ τ : Sg) (x : Int32) : KI l yX2_placeAfterSnail cX2_placeAfterSnail 1 (some .int) rm_X2_placeAfterSnail D cy z [.int x] o d σ τ (f_X2_placeAfterSnail x) σ τ := by
  refine met_of RX2 (plainFor_of_name (by decide)) rfl (Nat.le_of_ble_eq_true rfl) ?_
  intro p e s m args below meth c C hP hS ls hl
  obtain ⟨hx, hb, hr, hml, hown, hW, hlocks, hAm⟩ := id C
  have hl : lv_has ls 1 [(0, .int x)] := hl
  refine lv_iload_n hx hb dX2_placeAfterSnail_0 rfl (lv_at hl 0 rfl) ?_
  refine lv_bipush (v := 58) hx hb dX2_placeAfterSnail_1 (by decide) ?_
  refine lv_icmp_ne (tgt := 8) hx hb dX2_placeAfterSnail_3 (by decide) (fun c_3 => ?_) (fun c_3 => ?_)
  · refine lv_iload_n hx hb dX2_placeAfterSnail_8 rfl (lv_at hl 0 rfl) ?_
    refine lv_bipush (v := 98) hx hb dX2_placeAfterSnail_9 (by decide) ?_
    refine lv_icmp_ne (tgt := 16) hx hb dX2_placeAfterSnail_11 (by decide) (fun c_11 => ?_) (fun c_11 => ?_)
    · refine lv_iload_n hx hb dX2_placeAfterSnail_16 rfl (lv_at hl 0 rfl) ?_
      refine lv_bipush (v := 109) hx hb dX2_placeAfterSnail_17 (by decide) ?_
      refine lv_icmp_ne (tgt := 27) hx hb dX2_placeAfterSnail_19 (by decide) (fun c_19 => ?_) (fun c_19 => ?_)
      · refine lv_iconst (v := (-1)) hx hb dX2_placeAfterSnail_27 (by decide) ?_
        exact ret_I C hP hS (nar_i _) rfl (by unfold f_X2_placeAfterSnail; rw [if_neg c_3, if_neg c_11, if_neg c_19]) rfl rfl dX2_placeAfterSnail_28
      · refine lv_bipush (v := 6) hx hb dX2_placeAfterSnail_22 (by decide) ?_
        refine lv_goto (tgt := 28) hx hb dX2_placeAfterSnail_24 (by decide) ?_
        exact ret_I C hP hS (nar_i _) rfl (by unfold f_X2_placeAfterSnail; rw [if_neg c_3, if_neg c_11, if_pos c_19]) rfl rfl dX2_placeAfterSnail_28
    · refine lv_iconst (v := 4) hx hb dX2_placeAfterSnail_14 (by decide) ?_
      exact ret_I C hP hS (nar_i _) rfl (by unfold f_X2_placeAfterSnail; rw [if_neg c_3, if_pos c_11]) rfl rfl dX2_placeAfterSnail_15
  · refine lv_iconst (v := 2) hx hb dX2_placeAfterSnail_6 (by decide) ?_
    exact ret_I C hP hS (nar_i _) rfl (by unfold f_X2_placeAfterSnail; rw [if_pos c_3]) rfl rfl dX2_placeAfterSnail_7

theorem cw_X2_placeAfter : cwSt yX2_placeAfter cX2_placeAfter 2 (some .int) 2 := ⟨(mA1 (i := 204) rfl rfl), (mA1 (i := 6) rfl rfl), (mA1 (i := 205) rfl rfl), by decide +kernel⟩
abbrev rm_X2_placeAfter : Room := { frames := 1, cells := 0, slots := 0, locals := 22 }
def f_X2_placeAfter  (x : Int32) (y : Int32) : Int32 :=
  if y = 59 then
    if (f_X2_mayEnd x) = 0 then
      (-1)
    else
      0
  else
    if x = 0 then
      if (f_X2_isBetween 48 y 51) = 0 then
        (-1)
      else
        1
    else
      if x = 1 then
        f_X2_placeAfterSnail y
      else
        if x = 2 then
          if (f_X2_isBetween 48 y 51) = 0 then
            (-1)
          else
            3
        else
          if x = 3 then
            if (f_X2_isBetween 48 y 51) = 0 then
              (-1)
            else
              3
          else
            if x = 4 then
              if y = 49 then
                5
              else
                if (f_X2_isBetween 50 y 57) = 0 then
                  (-1)
                else
                  6
            else
              if x = 5 then
                if (f_X2_isBetween 48 y 54) = 0 then
                  (-1)
                else
                  6
              else
                (-1)
set_option maxHeartbeats 4000000 in
set_option maxRecDepth 100000 in
theorem k_X2_placeAfter (l : Launch) (D : va_G) (cy : Nat → ClassId) (z : Nat) (o : Int64) (d : UInt64) (σ τ : Sg) (x : Int32) (y : Int32) : KI l yX2_placeAfter cX2_placeAfter 2 (some .int) rm_X2_placeAfter D cy z [.int x, .int y] o d σ τ (f_X2_placeAfter x y) σ τ := by
  refine met_of RX2 (plainFor_of_name (by decide)) rfl (Nat.le_of_ble_eq_true rfl) ?_
  intro p e s m args below meth c C hP hS ls hl
  obtain ⟨hx, hb, hr, hml, hown, hW, hlocks, hAm⟩ := id C
  have hl : lv_has ls 2 [(0, .int x), (1, .int y)] := hl
  refine lv_iload_n hx hb dX2_placeAfter_0 rfl (lv_at hl 1 rfl) ?_
  refine lv_bipush (v := 59) hx hb dX2_placeAfter_1 (by decide) ?_
  refine lv_icmp_ne (tgt := 19) hx hb dX2_placeAfter_3 (by decide) (fun c_3 => ?_) (fun c_3 => ?_)
  · refine lv_iload_n hx hb dX2_placeAfter_19 rfl (lv_at hl 0 rfl) ?_
    by_cases c_20_0 : x = 0
    · refine lv_tableIn (tgt := 60) hx hb dX2_placeAfter_20 (by rw [c_20_0]; decide) (by rw [c_20_0]; decide) (by rw [c_20_0]; rfl) (by decide) ?_
      refine lv_bipush (v := 48) hx hb dX2_placeAfter_60 (by decide) ?_
      refine lv_iload_n hx hb dX2_placeAfter_62 rfl (lv_at hl 1 rfl) ?_
      refine lv_bipush (v := 51) hx hb dX2_placeAfter_63 (by decide) ?_
      refine thn_I (run_S (As := [.int 48, .int y, .int 51]) (rest := []) C (k_X2_isBetween l D cy z o d σ τ 48 y 51) hP hS cw_X2_isBetween (mA1 (i := 209) rfl rfl) ⟨rfl, rfl⟩ ⟨Nat.le_of_ble_eq_true rfl, Nat.le_of_ble_eq_true rfl⟩ rfl (Nat.le_of_ble_eq_true rfl) hl.1 ⟨Nat.zero_le _, Nat.zero_le _⟩ dX2_placeAfter_65) hS (fun H locs hP hS => ?_)
      refine lv_if_eq (tgt := 75) hx hb dX2_placeAfter_68 (by decide) (fun c_68 => ?_) (fun c_68 => ?_)
      · refine lv_iconst (v := (-1)) hx hb dX2_placeAfter_75 (by decide) ?_
        exact ret_I C hP hS (nar_i _) rfl (by unfold f_X2_placeAfter; rw [if_neg c_3, if_pos c_20_0, if_pos c_68]) rfl rfl dX2_placeAfter_76
      · refine lv_iconst (v := 1) hx hb dX2_placeAfter_71 (by decide) ?_
        refine lv_goto (tgt := 76) hx hb dX2_placeAfter_72 (by decide) ?_
        exact ret_I C hP hS (nar_i _) rfl (by unfold f_X2_placeAfter; rw [if_neg c_3, if_pos c_20_0, if_neg c_68]) rfl rfl dX2_placeAfter_76
    · by_cases c_20_1 : x = 1
      · refine lv_tableIn (tgt := 77) hx hb dX2_placeAfter_20 (by rw [c_20_1]; decide) (by rw [c_20_1]; decide) (by rw [c_20_1]; rfl) (by decide) ?_
        refine lv_iload_n hx hb dX2_placeAfter_77 rfl (lv_at hl 1 rfl) ?_
        refine thn_I (run_S (As := [.int y]) (rest := []) C (k_X2_placeAfterSnail l D cy z o d σ τ y) hP hS cw_X2_placeAfterSnail (mA1 (i := 212) rfl rfl) ⟨rfl, rfl⟩ ⟨Nat.le_of_ble_eq_true rfl, Nat.le_of_ble_eq_true rfl⟩ rfl (Nat.le_of_ble_eq_true rfl) hl.1 ⟨Nat.zero_le _, Nat.zero_le _⟩ dX2_placeAfter_78) hS (fun H locs hP hS => ?_)
        exact ret_I C hP hS (nar_i _) rfl (by unfold f_X2_placeAfter; rw [if_neg c_3, if_neg c_20_0, if_pos c_20_1]) rfl rfl dX2_placeAfter_81
      · by_cases c_20_2 : x = 2
        · refine lv_tableIn (tgt := 82) hx hb dX2_placeAfter_20 (by rw [c_20_2]; decide) (by rw [c_20_2]; decide) (by rw [c_20_2]; rfl) (by decide) ?_
          refine lv_bipush (v := 48) hx hb dX2_placeAfter_82 (by decide) ?_
          refine lv_iload_n hx hb dX2_placeAfter_84 rfl (lv_at hl 1 rfl) ?_
          refine lv_bipush (v := 51) hx hb dX2_placeAfter_85 (by decide) ?_
          refine thn_I (run_S (As := [.int 48, .int y, .int 51]) (rest := []) C (k_X2_isBetween l D cy z o d σ τ 48 y 51) hP hS cw_X2_isBetween (mA1 (i := 209) rfl rfl) ⟨rfl, rfl⟩ ⟨Nat.le_of_ble_eq_true rfl, Nat.le_of_ble_eq_true rfl⟩ rfl (Nat.le_of_ble_eq_true rfl) hl.1 ⟨Nat.zero_le _, Nat.zero_le _⟩ dX2_placeAfter_87) hS (fun H locs hP hS => ?_)
          refine lv_if_eq (tgt := 97) hx hb dX2_placeAfter_90 (by decide) (fun c_90 => ?_) (fun c_90 => ?_)
          · refine lv_iconst (v := (-1)) hx hb dX2_placeAfter_97 (by decide) ?_
            exact ret_I C hP hS (nar_i _) rfl (by unfold f_X2_placeAfter; rw [if_neg c_3, if_neg c_20_0, if_neg c_20_1, if_pos c_20_2, if_pos c_90]) rfl rfl dX2_placeAfter_98
          · refine lv_iconst (v := 3) hx hb dX2_placeAfter_93 (by decide) ?_
            refine lv_goto (tgt := 98) hx hb dX2_placeAfter_94 (by decide) ?_
            exact ret_I C hP hS (nar_i _) rfl (by unfold f_X2_placeAfter; rw [if_neg c_3, if_neg c_20_0, if_neg c_20_1, if_pos c_20_2, if_neg c_90]) rfl rfl dX2_placeAfter_98
        · by_cases c_20_3 : x = 3
          · refine lv_tableIn (tgt := 82) hx hb dX2_placeAfter_20 (by rw [c_20_3]; decide) (by rw [c_20_3]; decide) (by rw [c_20_3]; rfl) (by decide) ?_
            refine lv_bipush (v := 48) hx hb dX2_placeAfter_82 (by decide) ?_
            refine lv_iload_n hx hb dX2_placeAfter_84 rfl (lv_at hl 1 rfl) ?_
            refine lv_bipush (v := 51) hx hb dX2_placeAfter_85 (by decide) ?_
            refine thn_I (run_S (As := [.int 48, .int y, .int 51]) (rest := []) C (k_X2_isBetween l D cy z o d σ τ 48 y 51) hP hS cw_X2_isBetween (mA1 (i := 209) rfl rfl) ⟨rfl, rfl⟩ ⟨Nat.le_of_ble_eq_true rfl, Nat.le_of_ble_eq_true rfl⟩ rfl (Nat.le_of_ble_eq_true rfl) hl.1 ⟨Nat.zero_le _, Nat.zero_le _⟩ dX2_placeAfter_87) hS (fun H locs hP hS => ?_)
            refine lv_if_eq (tgt := 97) hx hb dX2_placeAfter_90 (by decide) (fun c_90 => ?_) (fun c_90 => ?_)
            · refine lv_iconst (v := (-1)) hx hb dX2_placeAfter_97 (by decide) ?_
              exact ret_I C hP hS (nar_i _) rfl (by unfold f_X2_placeAfter; rw [if_neg c_3, if_neg c_20_0, if_neg c_20_1, if_neg c_20_2, if_pos c_20_3, if_pos c_90]) rfl rfl dX2_placeAfter_98
            · refine lv_iconst (v := 3) hx hb dX2_placeAfter_93 (by decide) ?_
              refine lv_goto (tgt := 98) hx hb dX2_placeAfter_94 (by decide) ?_
              exact ret_I C hP hS (nar_i _) rfl (by unfold f_X2_placeAfter; rw [if_neg c_3, if_neg c_20_0, if_neg c_20_1, if_neg c_20_2, if_pos c_20_3, if_neg c_90]) rfl rfl dX2_placeAfter_98
          · by_cases c_20_4 : x = 4
            · refine lv_tableIn (tgt := 99) hx hb dX2_placeAfter_20 (by rw [c_20_4]; decide) (by rw [c_20_4]; decide) (by rw [c_20_4]; rfl) (by decide) ?_
              refine lv_iload_n hx hb dX2_placeAfter_99 rfl (lv_at hl 1 rfl) ?_
              refine lv_bipush (v := 49) hx hb dX2_placeAfter_100 (by decide) ?_
              refine lv_icmp_ne (tgt := 107) hx hb dX2_placeAfter_102 (by decide) (fun c_102 => ?_) (fun c_102 => ?_)
              · refine lv_bipush (v := 50) hx hb dX2_placeAfter_107 (by decide) ?_
                refine lv_iload_n hx hb dX2_placeAfter_109 rfl (lv_at hl 1 rfl) ?_
                refine lv_bipush (v := 57) hx hb dX2_placeAfter_110 (by decide) ?_
                refine thn_I (run_S (As := [.int 50, .int y, .int 57]) (rest := []) C (k_X2_isBetween l D cy z o d σ τ 50 y 57) hP hS cw_X2_isBetween (mA1 (i := 209) rfl rfl) ⟨rfl, rfl⟩ ⟨Nat.le_of_ble_eq_true rfl, Nat.le_of_ble_eq_true rfl⟩ rfl (Nat.le_of_ble_eq_true rfl) hl.1 ⟨Nat.zero_le _, Nat.zero_le _⟩ dX2_placeAfter_112) hS (fun H locs hP hS => ?_)
                refine lv_if_eq (tgt := 123) hx hb dX2_placeAfter_115 (by decide) (fun c_115 => ?_) (fun c_115 => ?_)
                · refine lv_iconst (v := (-1)) hx hb dX2_placeAfter_123 (by decide) ?_
                  exact ret_I C hP hS (nar_i _) rfl (by unfold f_X2_placeAfter; rw [if_neg c_3, if_neg c_20_0, if_neg c_20_1, if_neg c_20_2, if_neg c_20_3, if_pos c_20_4, if_neg c_102, if_pos c_115]) rfl rfl dX2_placeAfter_124
                · refine lv_bipush (v := 6) hx hb dX2_placeAfter_118 (by decide) ?_
                  refine lv_goto (tgt := 124) hx hb dX2_placeAfter_120 (by decide) ?_
                  exact ret_I C hP hS (nar_i _) rfl (by unfold f_X2_placeAfter; rw [if_neg c_3, if_neg c_20_0, if_neg c_20_1, if_neg c_20_2, if_neg c_20_3, if_pos c_20_4, if_neg c_102, if_neg c_115]) rfl rfl dX2_placeAfter_124
              · refine lv_iconst (v := 5) hx hb dX2_placeAfter_105 (by decide) ?_
                exact ret_I C hP hS (nar_i _) rfl (by unfold f_X2_placeAfter; rw [if_neg c_3, if_neg c_20_0, if_neg c_20_1, if_neg c_20_2, if_neg c_20_3, if_pos c_20_4, if_pos c_102]) rfl rfl dX2_placeAfter_106
            · by_cases c_20_5 : x = 5
              · refine lv_tableIn (tgt := 125) hx hb dX2_placeAfter_20 (by rw [c_20_5]; decide) (by rw [c_20_5]; decide) (by rw [c_20_5]; rfl) (by decide) ?_
                refine lv_bipush (v := 48) hx hb dX2_placeAfter_125 (by decide) ?_
                refine lv_iload_n hx hb dX2_placeAfter_127 rfl (lv_at hl 1 rfl) ?_
                refine lv_bipush (v := 54) hx hb dX2_placeAfter_128 (by decide) ?_
                refine thn_I (run_S (As := [.int 48, .int y, .int 54]) (rest := []) C (k_X2_isBetween l D cy z o d σ τ 48 y 54) hP hS cw_X2_isBetween (mA1 (i := 209) rfl rfl) ⟨rfl, rfl⟩ ⟨Nat.le_of_ble_eq_true rfl, Nat.le_of_ble_eq_true rfl⟩ rfl (Nat.le_of_ble_eq_true rfl) hl.1 ⟨Nat.zero_le _, Nat.zero_le _⟩ dX2_placeAfter_130) hS (fun H locs hP hS => ?_)
                refine lv_if_eq (tgt := 141) hx hb dX2_placeAfter_133 (by decide) (fun c_133 => ?_) (fun c_133 => ?_)
                · refine lv_iconst (v := (-1)) hx hb dX2_placeAfter_141 (by decide) ?_
                  exact ret_I C hP hS (nar_i _) rfl (by unfold f_X2_placeAfter; rw [if_neg c_3, if_neg c_20_0, if_neg c_20_1, if_neg c_20_2, if_neg c_20_3, if_neg c_20_4, if_pos c_20_5, if_pos c_133]) rfl rfl dX2_placeAfter_142
                · refine lv_bipush (v := 6) hx hb dX2_placeAfter_136 (by decide) ?_
                  refine lv_goto (tgt := 142) hx hb dX2_placeAfter_138 (by decide) ?_
                  exact ret_I C hP hS (nar_i _) rfl (by unfold f_X2_placeAfter; rw [if_neg c_3, if_neg c_20_0, if_neg c_20_1, if_neg c_20_2, if_neg c_20_3, if_neg c_20_4, if_pos c_20_5, if_neg c_133]) rfl rfl dX2_placeAfter_142
              · refine lv_tableOut (tgt := 143) hx hb dX2_placeAfter_20 (tab_out6 (lv_neT c_20_0 (k := 0) (a := 0) rfl) (lv_neT c_20_1 (k := 1) (a := 1) rfl) (lv_neT c_20_2 (k := 2) (a := 2) rfl) (lv_neT c_20_3 (k := 3) (a := 3) rfl) (lv_neT c_20_4 (k := 4) (a := 4) rfl) (lv_neT c_20_5 (k := 5) (a := 5) rfl)) (by decide) ?_
                refine lv_iconst (v := (-1)) hx hb dX2_placeAfter_143 (by decide) ?_
                exact ret_I C hP hS (nar_i _) rfl (by unfold f_X2_placeAfter; rw [if_neg c_3, if_neg c_20_0, if_neg c_20_1, if_neg c_20_2, if_neg c_20_3, if_neg c_20_4, if_neg c_20_5]) rfl rfl dX2_placeAfter_144
  · refine lv_iload_n hx hb dX2_placeAfter_6 rfl (lv_at hl 0 rfl) ?_
    refine thn_I (run_S (As := [.int x]) (rest := []) C (k_X2_mayEnd l D cy z o d σ τ x) hP hS cw_X2_mayEnd (mA1 (i := 206) rfl rfl) ⟨rfl, rfl⟩ ⟨Nat.le_of_ble_eq_true rfl, Nat.le_of_ble_eq_true rfl⟩ rfl (Nat.le_of_ble_eq_true rfl) hl.1 ⟨Nat.zero_le _, Nat.zero_le _⟩ dX2_placeAfter_7) hS (fun H locs hP hS => ?_)
    refine lv_if_eq (tgt := 17) hx hb dX2_placeAfter_10 (by decide) (fun c_10 => ?_) (fun c_10 => ?_)
    · refine lv_iconst (v := (-1)) hx hb dX2_placeAfter_17 (by decide) ?_
      exact ret_I C hP hS (nar_i _) rfl (by unfold f_X2_placeAfter; rw [if_pos c_3, if_pos c_10]) rfl rfl dX2_placeAfter_18
    · refine lv_iconst (v := 0) hx hb dX2_placeAfter_13 (by decide) ?_
      refine lv_goto (tgt := 18) hx hb dX2_placeAfter_14 (by decide) ?_
      exact ret_I C hP hS (nar_i _) rfl (by unfold f_X2_placeAfter; rw [if_pos c_3, if_neg c_10]) rfl rfl dX2_placeAfter_18


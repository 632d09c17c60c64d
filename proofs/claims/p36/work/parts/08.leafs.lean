theorem cw_J9_floorDiv_7cf53 : cwSt yJ9_floorDiv_7cf53 cJ9_floorDiv_7cf53 3 (some .int) 2 := ⟨(mA3 (i := 50) rfl rfl), (mA1 (i := 12) rfl rfl), (mA3 (i := 51) rfl rfl), by decide +kernel⟩
abbrev rm_J9_floorDiv_7cf53 : Room := { frames := 0, cells := 0, slots := 0, locals := 0 }
def f_J9_floorDiv_7cf53  (x : Int32) (y : Int32) : Int32 :=
  if 0 ≤ (x ^^^ y) then
    x / y
  else
    if ((x / y) * y) = x then
      x / y
    else
      (x / y) - 1
set_option maxHeartbeats 4000000 in
set_option maxRecDepth 100000 in
theorem k_J9_floorDiv_7cf53 (l : Launch) (D : va_G) (cy : Nat → ClassId) (z : Nat) (o : Int64) (d : UInt64) (σ τ : Sg) (x : Int32) (y : Int32) (hne : ¬ y = 0) : KI l yJ9_floorDiv_7cf53 cJ9_floorDiv_7cf53 3 (some .int) rm_J9_floorDiv_7cf53 D cy z [.int x, .int y] o d σ τ (f_J9_floorDiv_7cf53 x y) σ τ := by
  refine met_of RJ9 (by decide +kernel) rfl (Nat.le_of_ble_eq_true rfl) ?_
  intro p e s m args below meth c C hP hS ls hl
  obtain ⟨hx, hb, hr, hml, hown, hW, hlocks, hAm⟩ := id C
  have hl : lv_has ls 3 [(0, .int x), (1, .int y)] := hl
  refine lv_iload_n hx hb dJ9_floorDiv_7cf53_0 rfl (lv_at hl 0 rfl) ?_
  refine lv_iload_n hx hb dJ9_floorDiv_7cf53_1 rfl (lv_at hl 1 rfl) ?_
  refine lv_idiv hx hb dJ9_floorDiv_7cf53_2 hne ?_
  refine lv_istore_n (lv' := [(2, .int (x / y)), (0, .int x), (1, .int y)]) hx hb dJ9_floorDiv_7cf53_3 rfl hl (by decide) rfl (fun ls hl => ?_)
  refine lv_iload_n hx hb dJ9_floorDiv_7cf53_4 rfl (lv_at hl 1 rfl) ?_
  refine lv_iload_n hx hb dJ9_floorDiv_7cf53_5 rfl (lv_at hl 2 rfl) ?_
  refine lv_ixor hx hb dJ9_floorDiv_7cf53_6 ?_
  refine lv_if_ge (tgt := 21) hx hb dJ9_floorDiv_7cf53_7 (by decide) (fun c_7 => ?_) (fun c_7 => ?_)
  · refine lv_iload_n hx hb dJ9_floorDiv_7cf53_21 rfl (lv_at hl 0 rfl) ?_
    exact ret_I C hP hS (nar_i _) rfl (by unfold f_J9_floorDiv_7cf53; rw [if_pos c_7]) rfl rfl dJ9_floorDiv_7cf53_22
  · refine lv_iload_n hx hb dJ9_floorDiv_7cf53_10 rfl (lv_at hl 0 rfl) ?_
    refine lv_iload_n hx hb dJ9_floorDiv_7cf53_11 rfl (lv_at hl 2 rfl) ?_
    refine lv_imul hx hb dJ9_floorDiv_7cf53_12 ?_
    refine lv_iload_n hx hb dJ9_floorDiv_7cf53_13 rfl (lv_at hl 1 rfl) ?_
    refine lv_icmp_eq (tgt := 21) hx hb dJ9_floorDiv_7cf53_14 (by decide) (fun c_14 => ?_) (fun c_14 => ?_)
    · refine lv_iload_n hx hb dJ9_floorDiv_7cf53_21 rfl (lv_at hl 0 rfl) ?_
      exact ret_I C hP hS (nar_i _) rfl (by unfold f_J9_floorDiv_7cf53; rw [if_neg c_7, if_pos c_14]) rfl rfl dJ9_floorDiv_7cf53_22
    · refine lv_iload_n hx hb dJ9_floorDiv_7cf53_17 rfl (lv_at hl 0 rfl) ?_
      refine lv_iconst (v := 1) hx hb dJ9_floorDiv_7cf53_18 (by decide) ?_
      refine lv_isub hx hb dJ9_floorDiv_7cf53_19 ?_
      exact ret_I C hP hS (nar_i _) rfl (by unfold f_J9_floorDiv_7cf53; rw [if_neg c_7, if_neg c_14]) rfl rfl dJ9_floorDiv_7cf53_20

theorem cw_J9_floorMod_7cf53 : cwSt yJ9_floorMod_7cf53 cJ9_floorMod_7cf53 3 (some .int) 2 := ⟨(mA2 (i := 207) rfl rfl), (mA1 (i := 12) rfl rfl), (mA2 (i := 208) rfl rfl), by decide +kernel⟩
abbrev rm_J9_floorMod_7cf53 : Room := { frames := 0, cells := 0, slots := 0, locals := 0 }
def f_J9_floorMod_7cf53  (x : Int32) (y : Int32) : Int32 :=
  if 0 ≤ (x ^^^ y) then
    x - x / y * y
  else
    if (x - x / y * y) = 0 then
      x - x / y * y
    else
      (x - x / y * y) + y
set_option maxHeartbeats 4000000 in
set_option maxRecDepth 100000 in
theorem k_J9_floorMod_7cf53 (l : Launch) (D : va_G) (cy : Nat → ClassId) (z : Nat) (o : Int64) (d : UInt64) (σ τ : Sg) (x : Int32) (y : Int32) (hne : ¬ y = 0) : KI l yJ9_floorMod_7cf53 cJ9_floorMod_7cf53 3 (some .int) rm_J9_floorMod_7cf53 D cy z [.int x, .int y] o d σ τ (f_J9_floorMod_7cf53 x y) σ τ := by
  refine met_of RJ9 (by decide +kernel) rfl (Nat.le_of_ble_eq_true rfl) ?_
  intro p e s m args below meth c C hP hS ls hl
  obtain ⟨hx, hb, hr, hml, hown, hW, hlocks, hAm⟩ := id C
  have hl : lv_has ls 3 [(0, .int x), (1, .int y)] := hl
  refine lv_iload_n hx hb dJ9_floorMod_7cf53_0 rfl (lv_at hl 0 rfl) ?_
  refine lv_iload_n hx hb dJ9_floorMod_7cf53_1 rfl (lv_at hl 1 rfl) ?_
  refine lv_irem hx hb dJ9_floorMod_7cf53_2 hne ?_
  refine lv_istore_n (lv' := [(2, .int (x - x / y * y)), (0, .int x), (1, .int y)]) hx hb dJ9_floorMod_7cf53_3 rfl hl (by decide) rfl (fun ls hl => ?_)
  refine lv_iload_n hx hb dJ9_floorMod_7cf53_4 rfl (lv_at hl 1 rfl) ?_
  refine lv_iload_n hx hb dJ9_floorMod_7cf53_5 rfl (lv_at hl 2 rfl) ?_
  refine lv_ixor hx hb dJ9_floorMod_7cf53_6 ?_
  refine lv_if_ge (tgt := 18) hx hb dJ9_floorMod_7cf53_7 (by decide) (fun c_7 => ?_) (fun c_7 => ?_)
  · refine lv_iload_n hx hb dJ9_floorMod_7cf53_18 rfl (lv_at hl 0 rfl) ?_
    exact ret_I C hP hS (nar_i _) rfl (by unfold f_J9_floorMod_7cf53; rw [if_pos c_7]) rfl rfl dJ9_floorMod_7cf53_19
  · refine lv_iload_n hx hb dJ9_floorMod_7cf53_10 rfl (lv_at hl 0 rfl) ?_
    refine lv_if_eq (tgt := 18) hx hb dJ9_floorMod_7cf53_11 (by decide) (fun c_11 => ?_) (fun c_11 => ?_)
    · refine lv_iload_n hx hb dJ9_floorMod_7cf53_18 rfl (lv_at hl 0 rfl) ?_
      exact ret_I C hP hS (nar_i _) rfl (by unfold f_J9_floorMod_7cf53; rw [if_neg c_7, if_pos c_11]) rfl rfl dJ9_floorMod_7cf53_19
    · refine lv_iload_n hx hb dJ9_floorMod_7cf53_14 rfl (lv_at hl 0 rfl) ?_
      refine lv_iload_n hx hb dJ9_floorMod_7cf53_15 rfl (lv_at hl 2 rfl) ?_
      refine lv_iadd hx hb dJ9_floorMod_7cf53_16 ?_
      exact ret_I C hP hS (nar_i _) rfl (by unfold f_J9_floorMod_7cf53; rw [if_neg c_7, if_neg c_11]) rfl rfl dJ9_floorMod_7cf53_17

theorem cw_X1_rowOf : cwVt yX1_rowOf cX1_rowOf 2 (some .int) 1 1 := ⟨(mA2 (i := 154) rfl rfl), (mA0 (i := 3) rfl rfl), (mA1 (i := 4) rfl rfl), (mA2 (i := 155) rfl rfl), by decide +kernel, ⟨_, rfl, rfl⟩, by decide⟩
abbrev rm_X1_rowOf : Room := { frames := 0, cells := 0, slots := 0, locals := 0 }
def f_X1_rowOf (σ : Sg) (k : Nat) (x : Int32) : Int32 :=
  (((σ k 1) + x) - ((σ k 1) + x) / 16 * 16) * 3
set_option maxHeartbeats 4000000 in
set_option maxRecDepth 100000 in
theorem k_X1_rowOf (l : Launch) (D : va_G) (cy : Nat → ClassId) (z : Nat) (o : Int64) (d : UInt64) (σ τ : Sg) {k : Nat} (hk : kd k = 1) (x : Int32) : KI l yX1_rowOf cX1_rowOf 2 (some .int) rm_X1_rowOf D cy z [.ref (z + k), .int x] o d σ τ (f_X1_rowOf σ k x) σ τ := by
  refine met_of RX1 (plainFor_of_name (by decide)) rfl (Nat.le_of_ble_eq_true rfl) ?_
  intro p e s m args below meth c C hP hS ls hl
  obtain ⟨hx, hb, hr, hml, hown, hW, hlocks, hAm⟩ := id C
  have hl : lv_has ls 2 [(0, .ref (z + k)), (1, .int x)] := hl
  refine lv_aload_n hx hb dX1_rowOf_0 rfl (lv_at hl 0 rfl) ?_
  refine gf_X1_19 C hP hk dX1_rowOf_1 ?_
  refine lv_iload_n hx hb dX1_rowOf_4 rfl (lv_at hl 1 rfl) ?_
  refine lv_iadd hx hb dX1_rowOf_5 ?_
  refine lv_bipush (v := 16) hx hb dX1_rowOf_6 (by decide) ?_
  refine lv_irem hx hb dX1_rowOf_8 (by decide) ?_
  refine lv_iconst (v := 3) hx hb dX1_rowOf_9 (by decide) ?_
  refine lv_imul hx hb dX1_rowOf_10 ?_
  exact ret_I C hP hS (nar_i _) rfl rfl rfl rfl dX1_rowOf_11

theorem cw_X1_read : cwVt yX1_read cX1_read 4 (some .int) 1 2 := ⟨(mA2 (i := 183) rfl rfl), (mA0 (i := 7) rfl rfl), (mA1 (i := 4) rfl rfl), (mA2 (i := 184) rfl rfl), by decide +kernel, ⟨_, rfl, rfl⟩, by decide⟩
abbrev rm_X1_read : Room := { frames := 1, cells := 0, slots := 0, locals := 21 }
def f_X1_read (σ : Sg) (k : Nat) (x : Int32) (y : Int32) : Int32 :=
  if ((f_X1_rowOf σ k x) + y) < 0 then
    0
  else
    if ((f_X1_rowOf σ k x) + y) < 48 then
      σ (k + 1) (((f_X1_rowOf σ k x) + y).toNatClampNeg)
    else
      0
set_option maxHeartbeats 4000000 in
set_option maxRecDepth 100000 in
theorem k_X1_read (l : Launch) (D : va_G) (cy : Nat → ClassId) (z : Nat) (o : Int64) (d : UInt64) (σ τ : Sg) {k : Nat} (hk : kd k = 1) (x : Int32) (y : Int32) : KI l yX1_read cX1_read 4 (some .int) rm_X1_read D cy z [.ref (z + k), .int x, .int y] o d σ τ (f_X1_read σ k x y) σ τ := by
  refine met_of RX1 (plainFor_of_name (by decide)) rfl (Nat.le_of_ble_eq_true rfl) ?_
  intro p e s m args below meth c C hP hS ls hl
  obtain ⟨hx, hb, hr, hml, hown, hW, hlocks, hAm⟩ := id C
  have hl : lv_has ls 4 [(0, .ref (z + k)), (1, .int x), (2, .int y)] := hl
  refine lv_aload_n hx hb dX1_read_0 rfl (lv_at hl 0 rfl) ?_
  refine lv_iload_n hx hb dX1_read_1 rfl (lv_at hl 1 rfl) ?_
  refine thn_I (run_V (As := [.int x]) (rest := []) C (k_X1_rowOf l D cy z o d σ τ hk x) hP hS cw_X1_rowOf (mA2 (i := 152) rfl rfl) hk ⟨rfl, rfl⟩ ⟨Nat.le_of_ble_eq_true rfl, Nat.le_of_ble_eq_true rfl⟩ rfl (Nat.le_of_ble_eq_true rfl) hl.1 ⟨Nat.zero_le _, Nat.zero_le _⟩ dX1_read_2) hS (fun H locs hP hS => ?_)
  refine lv_iload_n hx hb dX1_read_5 rfl (lv_at hl 2 rfl) ?_
  refine lv_iadd hx hb dX1_read_6 ?_
  refine lv_istore_n (lv' := [(3, .int ((f_X1_rowOf σ k x) + y)), (0, .ref (z + k)), (1, .int x), (2, .int y)]) hx hb dX1_read_7 rfl hl (by decide) rfl (fun ls hl => ?_)
  refine lv_iload_n hx hb dX1_read_8 rfl (lv_at hl 0 rfl) ?_
  refine lv_if_lt (tgt := 21) hx hb dX1_read_9 (by decide) (fun c_9 => ?_) (fun c_9 => ?_)
  · refine lv_iconst (v := 0) hx hb dX1_read_21 (by decide) ?_
    refine lv_goto (tgt := 31) hx hb dX1_read_22 (by decide) ?_
    exact ret_I C hP hS (nar_i _) rfl (by unfold f_X1_read; rw [if_pos c_9]) rfl rfl dX1_read_31
  · refine lv_iload_n hx hb dX1_read_12 rfl (lv_at hl 0 rfl) ?_
    refine lv_aload_n hx hb dX1_read_13 rfl (lv_at hl 1 rfl) ?_
    refine gf_X1_11 C hP hk dX1_read_14 ?_
    refine ln_7 C hP (kd1_1 hk) dX1_read_17 ?_
    refine lv_icmp_lt (tgt := 25) hx hb dX1_read_18 (by decide) (fun c_18 => ?_) (fun c_18 => ?_)
    · refine lv_aload_n hx hb dX1_read_25 rfl (lv_at hl 1 rfl) ?_
      refine gf_X1_11 C hP hk dX1_read_26 ?_
      refine lv_iload_n hx hb dX1_read_29 rfl (lv_at hl 0 rfl) ?_
      refine al_7 C hP (kd1_1 hk) (vpin_of' c_9 c_18 (by decide)) dX1_read_30 ?_
      exact ret_I C hP hS (nar_i _) rfl (by unfold f_X1_read; rw [if_neg c_9, if_pos c_18]) rfl rfl dX1_read_31
    · refine lv_iconst (v := 0) hx hb dX1_read_21 (by decide) ?_
      refine lv_goto (tgt := 31) hx hb dX1_read_22 (by decide) ?_
      exact ret_I C hP hS (nar_i _) rfl (by unfold f_X1_read; rw [if_neg c_9, if_neg c_18]) rfl rfl dX1_read_31

theorem cw_X1_step : cwVt yX1_step cX1_step 2 (some .int) 1 1 := ⟨(mA2 (i := 178) rfl rfl), (mA2 (i := 179) rfl rfl), (mA1 (i := 4) rfl rfl), (mA2 (i := 180) rfl rfl), by decide +kernel, ⟨_, rfl, rfl⟩, by decide⟩
abbrev rm_X1_step : Room := { frames := 2, cells := 0, slots := 0, locals := 44 }
def f_X1_step (σ : Sg) (k : Nat) (x : Int32) : Int32 :=
  f_X1_read σ k x 0
set_option maxHeartbeats 4000000 in
set_option maxRecDepth 100000 in
theorem k_X1_step (l : Launch) (D : va_G) (cy : Nat → ClassId) (z : Nat) (o : Int64) (d : UInt64) (σ τ : Sg) {k : Nat} (hk : kd k = 1) (x : Int32) : KI l yX1_step cX1_step 2 (some .int) rm_X1_step D cy z [.ref (z + k), .int x] o d σ τ (f_X1_step σ k x) σ τ := by
  refine met_of RX1 (plainFor_of_name (by decide)) rfl (Nat.le_of_ble_eq_true rfl) ?_
  intro p e s m args below meth c C hP hS ls hl
  obtain ⟨hx, hb, hr, hml, hown, hW, hlocks, hAm⟩ := id C
  have hl : lv_has ls 2 [(0, .ref (z + k)), (1, .int x)] := hl
  refine lv_aload_n hx hb dX1_step_0 rfl (lv_at hl 0 rfl) ?_
  refine lv_iload_n hx hb dX1_step_1 rfl (lv_at hl 1 rfl) ?_
  refine lv_iconst (v := 0) hx hb dX1_step_2 (by decide) ?_
  refine thn_I (run_V (As := [.int x, .int 0]) (rest := []) C (k_X1_read l D cy z o d σ τ hk x 0) hP hS cw_X1_read (mA2 (i := 181) rfl rfl) hk ⟨rfl, rfl⟩ ⟨Nat.le_of_ble_eq_true rfl, Nat.le_of_ble_eq_true rfl⟩ rfl (Nat.le_of_ble_eq_true rfl) hl.1 ⟨Nat.zero_le _, Nat.zero_le _⟩ dX1_step_3) hS (fun H locs hP hS => ?_)
  exact ret_I C hP hS (nar_i _) rfl rfl rfl rfl dX1_step_6

theorem cw_X1_spent : cwVt yX1_spent cX1_spent 2 (some .int) 1 1 := ⟨(mA3 (i := 3) rfl rfl), (mA3 (i := 4) rfl rfl), (mA1 (i := 4) rfl rfl), (mA3 (i := 5) rfl rfl), by decide +kernel, ⟨_, rfl, rfl⟩, by decide⟩
abbrev rm_X1_spent : Room := { frames := 2, cells := 0, slots := 0, locals := 44 }
def f_X1_spent (σ : Sg) (k : Nat) (x : Int32) : Int32 :=
  f_X1_read σ k x 1
set_option maxHeartbeats 4000000 in
set_option maxRecDepth 100000 in
theorem k_X1_spent (l : Launch) (D : va_G) (cy : Nat → ClassId) (z : Nat) (o : Int64) (d : UInt64) (σ τ : Sg) {k : Nat} (hk : kd k = 1) (x : Int32) : KI l yX1_spent cX1_spent 2 (some .int) rm_X1_spent D cy z [.ref (z + k), .int x] o d σ τ (f_X1_spent σ k x) σ τ := by
  refine met_of RX1 (plainFor_of_name (by decide)) rfl (Nat.le_of_ble_eq_true rfl) ?_
  intro p e s m args below meth c C hP hS ls hl
  obtain ⟨hx, hb, hr, hml, hown, hW, hlocks, hAm⟩ := id C
  have hl : lv_has ls 2 [(0, .ref (z + k)), (1, .int x)] := hl
  refine lv_aload_n hx hb dX1_spent_0 rfl (lv_at hl 0 rfl) ?_
  refine lv_iload_n hx hb dX1_spent_1 rfl (lv_at hl 1 rfl) ?_
  refine lv_iconst (v := 1) hx hb dX1_spent_2 (by decide) ?_
  refine thn_I (run_V (As := [.int x, .int 1]) (rest := []) C (k_X1_read l D cy z o d σ τ hk x 1) hP hS cw_X1_read (mA2 (i := 181) rfl rfl) hk ⟨rfl, rfl⟩ ⟨Nat.le_of_ble_eq_true rfl, Nat.le_of_ble_eq_true rfl⟩ rfl (Nat.le_of_ble_eq_true rfl) hl.1 ⟨Nat.zero_le _, Nat.zero_le _⟩ dX1_spent_3) hS (fun H locs hP hS => ?_)
  exact ret_I C hP hS (nar_i _) rfl rfl rfl rfl dX1_spent_6

theorem cw_X1_before : cwVt yX1_before cX1_before 2 (some .int) 1 1 := ⟨(mA3 (i := 14) rfl rfl), (mA3 (i := 15) rfl rfl), (mA1 (i := 4) rfl rfl), (mA3 (i := 16) rfl rfl), by decide +kernel, ⟨_, rfl, rfl⟩, by decide⟩
abbrev rm_X1_before : Room := { frames := 2, cells := 0, slots := 0, locals := 44 }
def f_X1_before (σ : Sg) (k : Nat) (x : Int32) : Int32 :=
  f_X1_read σ k x 2
set_option maxHeartbeats 4000000 in
set_option maxRecDepth 100000 in
theorem k_X1_before (l : Launch) (D : va_G) (cy : Nat → ClassId) (z : Nat) (o : Int64) (d : UInt64) (σ τ : Sg) {k : Nat} (hk : kd k = 1) (x : Int32) : KI l yX1_before cX1_before 2 (some .int) rm_X1_before D cy z [.ref (z + k), .int x] o d σ τ (f_X1_before σ k x) σ τ := by
  refine met_of RX1 (plainFor_of_name (by decide)) rfl (Nat.le_of_ble_eq_true rfl) ?_
  intro p e s m args below meth c C hP hS ls hl
  obtain ⟨hx, hb, hr, hml, hown, hW, hlocks, hAm⟩ := id C
  have hl : lv_has ls 2 [(0, .ref (z + k)), (1, .int x)] := hl
  refine lv_aload_n hx hb dX1_before_0 rfl (lv_at hl 0 rfl) ?_
  refine lv_iload_n hx hb dX1_before_1 rfl (lv_at hl 1 rfl) ?_
  refine lv_iconst (v := 2) hx hb dX1_before_2 (by decide) ?_
  refine thn_I (run_V (As := [.int x, .int 2]) (rest := []) C (k_X1_read l D cy z o d σ τ hk x 2) hP hS cw_X1_read (mA2 (i := 181) rfl rfl) hk ⟨rfl, rfl⟩ ⟨Nat.le_of_ble_eq_true rfl, Nat.le_of_ble_eq_true rfl⟩ rfl (Nat.le_of_ble_eq_true rfl) hl.1 ⟨Nat.zero_le _, Nat.zero_le _⟩ dX1_before_3) hS (fun H locs hP hS => ?_)
  exact ret_I C hP hS (nar_i _) rfl rfl rfl rfl dX1_before_6

theorem cw_X1_write : cwVt yX1_write cX1_write 3 none 1 2 := ⟨(mA2 (i := 158) rfl rfl), (mA0 (i := 4) rfl rfl), (mA1 (i := 4) rfl rfl), (mA2 (i := 159) rfl rfl), by decide +kernel, ⟨_, rfl, rfl⟩, by decide⟩
abbrev rm_X1_write : Room := { frames := 0, cells := 0, slots := 0, locals := 0 }
def s_X1_write (σ : Sg) (k : Nat) (x : Int32) (y : Int32) : Sg :=
  if x < 0 then
    σ
  else
    if 48 ≤ x then
      σ
    else
      up σ (k + 1) (x.toNatClampNeg) y
set_option maxHeartbeats 4000000 in
set_option maxRecDepth 100000 in
theorem k_X1_write (l : Launch) (D : va_G) (cy : Nat → ClassId) (z : Nat) (o : Int64) (d : UInt64) (σ τ : Sg) {k : Nat} (hk : kd k = 1) (x : Int32) (y : Int32) : KV l yX1_write cX1_write 3 rm_X1_write D cy z [.ref (z + k), .int x, .int y] o d σ τ (s_X1_write σ k x y) τ := by
  refine met_of RX1 (plainFor_of_name (by decide)) rfl (Nat.le_of_ble_eq_true rfl) ?_
  intro p e s m args below meth c C hP hS ls hl
  obtain ⟨hx, hb, hr, hml, hown, hW, hlocks, hAm⟩ := id C
  have hl : lv_has ls 3 [(0, .ref (z + k)), (1, .int x), (2, .int y)] := hl
  refine lv_iload_n hx hb dX1_write_0 rfl (lv_at hl 1 rfl) ?_
  refine lv_if_lt (tgt := 20) hx hb dX1_write_1 (by decide) (fun c_1 => ?_) (fun c_1 => ?_)
  · exact ret_V C hP hS (by unfold s_X1_write; rw [if_pos c_1]) rfl dX1_write_20
  · refine lv_iload_n hx hb dX1_write_4 rfl (lv_at hl 1 rfl) ?_
    refine lv_aload_n hx hb dX1_write_5 rfl (lv_at hl 0 rfl) ?_
    refine gf_X1_11 C hP hk dX1_write_6 ?_
    refine ln_7 C hP (kd1_1 hk) dX1_write_9 ?_
    refine lv_icmp_ge (tgt := 20) hx hb dX1_write_10 (by decide) (fun c_10 => ?_) (fun c_10 => ?_)
    · exact ret_V C hP hS (by unfold s_X1_write; rw [if_neg c_1, if_pos c_10]) rfl dX1_write_20
    · refine lv_aload_n hx hb dX1_write_13 rfl (lv_at hl 0 rfl) ?_
      refine gf_X1_11 C hP hk dX1_write_14 ?_
      refine lv_iload_n hx hb dX1_write_17 rfl (lv_at hl 1 rfl) ?_
      refine lv_iload_n hx hb dX1_write_18 rfl (lv_at hl 2 rfl) ?_
      refine as_7 C hP hS (kd1_1 hk) (vpin_of c_1 c_10 (by decide)) dX1_write_19 (fun H locs hP hS => ?_)
      exact ret_V C hP hS (by unfold s_X1_write; rw [if_neg c_1, if_neg c_10]) rfl dX1_write_20

theorem cw_X1_add : cwVt yX1_add cX1_add 5 none 1 3 := ⟨(mA2 (i := 149) rfl rfl), (mA2 (i := 150) rfl rfl), (mA1 (i := 4) rfl rfl), (mA2 (i := 151) rfl rfl), by decide +kernel, ⟨_, rfl, rfl⟩, by decide⟩
abbrev rm_X1_add : Room := { frames := 1, cells := 0, slots := 0, locals := 22 }
def s_X1_add (σ : Sg) (k : Nat) (x : Int32) (y : Int32) (w : Int32) : Sg :=
  if 16 ≤ (σ k 2) then
    s_X1_write (s_X1_write (s_X1_write (up σ k 1 (((σ k 1) + 1) - ((σ k 1) + 1) / 16 * 16)) k ((f_X1_rowOf (up σ k 1 (((σ k 1) + 1) - ((σ k 1) + 1) / 16 * 16)) k (((up σ k 1 (((σ k 1) + 1) - ((σ k 1) + 1) / 16 * 16)) k 2) - 1)) + 0) x) k ((f_X1_rowOf (up σ k 1 (((σ k 1) + 1) - ((σ k 1) + 1) / 16 * 16)) k (((up σ k 1 (((σ k 1) + 1) - ((σ k 1) + 1) / 16 * 16)) k 2) - 1)) + 1) y) k ((f_X1_rowOf (up σ k 1 (((σ k 1) + 1) - ((σ k 1) + 1) / 16 * 16)) k (((up σ k 1 (((σ k 1) + 1) - ((σ k 1) + 1) / 16 * 16)) k 2) - 1)) + 2) w
  else
    s_X1_write (s_X1_write (s_X1_write (up σ k 2 ((σ k 2) + 1)) k ((f_X1_rowOf (up σ k 2 ((σ k 2) + 1)) k (((up σ k 2 ((σ k 2) + 1)) k 2) - 1)) + 0) x) k ((f_X1_rowOf (up σ k 2 ((σ k 2) + 1)) k (((up σ k 2 ((σ k 2) + 1)) k 2) - 1)) + 1) y) k ((f_X1_rowOf (up σ k 2 ((σ k 2) + 1)) k (((up σ k 2 ((σ k 2) + 1)) k 2) - 1)) + 2) w
set_option maxHeartbeats 4000000 in
set_option maxRecDepth 100000 in
theorem k_X1_add (l : Launch) (D : va_G) (cy : Nat → ClassId) (z : Nat) (o : Int64) (d : UInt64) (σ τ : Sg) {k : Nat} (hk : kd k = 1) (x : Int32) (y : Int32) (w : Int32) : KV l yX1_add cX1_add 5 rm_X1_add D cy z [.ref (z + k), .int x, .int y, .int w] o d σ τ (s_X1_add σ k x y w) τ := by
  refine met_of RX1 (plainFor_of_name (by decide)) rfl (Nat.le_of_ble_eq_true rfl) ?_
  intro p e s m args below meth c C hP hS ls hl
  obtain ⟨hx, hb, hr, hml, hown, hW, hlocks, hAm⟩ := id C
  have hl : lv_has ls 5 [(0, .ref (z + k)), (1, .int x), (2, .int y), (3, .int w)] := hl
  refine lv_aload_n hx hb dX1_add_0 rfl (lv_at hl 0 rfl) ?_
  refine gf_X1_15 C hP hk dX1_add_1 ?_
  refine lv_bipush (v := 16) hx hb dX1_add_4 (by decide) ?_
  refine lv_icmp_ge (tgt := 22) hx hb dX1_add_6 (by decide) (fun c_6 => ?_) (fun c_6 => ?_)
  · refine lv_aload_n hx hb dX1_add_22 rfl (lv_at hl 0 rfl) ?_
    refine lv_aload_n hx hb dX1_add_23 rfl (lv_at hl 0 rfl) ?_
    refine gf_X1_19 C hP hk dX1_add_24 ?_
    refine lv_iconst (v := 1) hx hb dX1_add_27 (by decide) ?_
    refine lv_iadd hx hb dX1_add_28 ?_
    refine lv_bipush (v := 16) hx hb dX1_add_29 (by decide) ?_
    refine lv_irem hx hb dX1_add_31 (by decide) ?_
    refine pf_X1_19 C hP hS hk dX1_add_32 (fun H locs hP hS => ?_)
    refine lv_aload_n hx hb dX1_add_35 rfl (lv_at hl 0 rfl) ?_
    refine lv_aload_n hx hb dX1_add_36 rfl (lv_at hl 0 rfl) ?_
    refine gf_X1_15 C hP hk dX1_add_37 ?_
    refine lv_iconst (v := 1) hx hb dX1_add_40 (by decide) ?_
    refine lv_isub hx hb dX1_add_41 ?_
    refine thn_I (run_V (As := [.int (((up σ k 1 (((σ k 1) + 1) - ((σ k 1) + 1) / 16 * 16)) k 2) - 1)]) (rest := []) C (k_X1_rowOf l D cy z o d (up σ k 1 (((σ k 1) + 1) - ((σ k 1) + 1) / 16 * 16)) τ hk (((up σ k 1 (((σ k 1) + 1) - ((σ k 1) + 1) / 16 * 16)) k 2) - 1)) hP hS cw_X1_rowOf (mA2 (i := 152) rfl rfl) hk ⟨rfl, rfl⟩ ⟨Nat.le_of_ble_eq_true rfl, Nat.le_of_ble_eq_true rfl⟩ rfl (Nat.le_of_ble_eq_true rfl) hl.1 ⟨Nat.zero_le _, Nat.zero_le _⟩ dX1_add_42) hS (fun H locs hP hS => ?_)
    refine lv_istore (lv' := [(4, .int (f_X1_rowOf (up σ k 1 (((σ k 1) + 1) - ((σ k 1) + 1) / 16 * 16)) k (((up σ k 1 (((σ k 1) + 1) - ((σ k 1) + 1) / 16 * 16)) k 2) - 1))), (0, .ref (z + k)), (1, .int x), (2, .int y), (3, .int w)]) hx hb dX1_add_45 hl (by decide) rfl (fun ls hl => ?_)
    refine lv_aload_n hx hb dX1_add_47 rfl (lv_at hl 1 rfl) ?_
    refine lv_iload hx hb dX1_add_48 (lv_at hl 0 rfl) ?_
    refine lv_iconst (v := 0) hx hb dX1_add_50 (by decide) ?_
    refine lv_iadd hx hb dX1_add_51 ?_
    refine lv_iload_n hx hb dX1_add_52 rfl (lv_at hl 2 rfl) ?_
    refine thn_V (run_V (As := [.int ((f_X1_rowOf (up σ k 1 (((σ k 1) + 1) - ((σ k 1) + 1) / 16 * 16)) k (((up σ k 1 (((σ k 1) + 1) - ((σ k 1) + 1) / 16 * 16)) k 2) - 1)) + 0), .int x]) (rest := []) C (k_X1_write l D cy z o d (up σ k 1 (((σ k 1) + 1) - ((σ k 1) + 1) / 16 * 16)) τ hk ((f_X1_rowOf (up σ k 1 (((σ k 1) + 1) - ((σ k 1) + 1) / 16 * 16)) k (((up σ k 1 (((σ k 1) + 1) - ((σ k 1) + 1) / 16 * 16)) k 2) - 1)) + 0) x) hP hS cw_X1_write (mA2 (i := 156) rfl rfl) hk ⟨rfl, rfl⟩ ⟨Nat.le_of_ble_eq_true rfl, Nat.le_of_ble_eq_true rfl⟩ rfl (Nat.le_of_ble_eq_true rfl) hl.1 ⟨Nat.zero_le _, Nat.zero_le _⟩ dX1_add_53) hS (fun H locs hP hS => ?_)
    refine lv_aload_n hx hb dX1_add_56 rfl (lv_at hl 1 rfl) ?_
    refine lv_iload hx hb dX1_add_57 (lv_at hl 0 rfl) ?_
    refine lv_iconst (v := 1) hx hb dX1_add_59 (by decide) ?_
    refine lv_iadd hx hb dX1_add_60 ?_
    refine lv_iload_n hx hb dX1_add_61 rfl (lv_at hl 3 rfl) ?_
    refine thn_V (run_V (As := [.int ((f_X1_rowOf (up σ k 1 (((σ k 1) + 1) - ((σ k 1) + 1) / 16 * 16)) k (((up σ k 1 (((σ k 1) + 1) - ((σ k 1) + 1) / 16 * 16)) k 2) - 1)) + 1), .int y]) (rest := []) C (k_X1_write l D cy z o d (s_X1_write (up σ k 1 (((σ k 1) + 1) - ((σ k 1) + 1) / 16 * 16)) k ((f_X1_rowOf (up σ k 1 (((σ k 1) + 1) - ((σ k 1) + 1) / 16 * 16)) k (((up σ k 1 (((σ k 1) + 1) - ((σ k 1) + 1) / 16 * 16)) k 2) - 1)) + 0) x) τ hk ((f_X1_rowOf (up σ k 1 (((σ k 1) + 1) - ((σ k 1) + 1) / 16 * 16)) k (((up σ k 1 (((σ k 1) + 1) - ((σ k 1) + 1) / 16 * 16)) k 2) - 1)) + 1) y) hP hS cw_X1_write (mA2 (i := 156) rfl rfl) hk ⟨rfl, rfl⟩ ⟨Nat.le_of_ble_eq_true rfl, Nat.le_of_ble_eq_true rfl⟩ rfl (Nat.le_of_ble_eq_true rfl) hl.1 ⟨Nat.zero_le _, Nat.zero_le _⟩ dX1_add_62) hS (fun H locs hP hS => ?_)
    refine lv_aload_n hx hb dX1_add_65 rfl (lv_at hl 1 rfl) ?_
    refine lv_iload hx hb dX1_add_66 (lv_at hl 0 rfl) ?_
    refine lv_iconst (v := 2) hx hb dX1_add_68 (by decide) ?_
    refine lv_iadd hx hb dX1_add_69 ?_
    refine lv_iload_n hx hb dX1_add_70 rfl (lv_at hl 4 rfl) ?_
    refine thn_V (run_V (As := [.int ((f_X1_rowOf (up σ k 1 (((σ k 1) + 1) - ((σ k 1) + 1) / 16 * 16)) k (((up σ k 1 (((σ k 1) + 1) - ((σ k 1) + 1) / 16 * 16)) k 2) - 1)) + 2), .int w]) (rest := []) C (k_X1_write l D cy z o d (s_X1_write (s_X1_write (up σ k 1 (((σ k 1) + 1) - ((σ k 1) + 1) / 16 * 16)) k ((f_X1_rowOf (up σ k 1 (((σ k 1) + 1) - ((σ k 1) + 1) / 16 * 16)) k (((up σ k 1 (((σ k 1) + 1) - ((σ k 1) + 1) / 16 * 16)) k 2) - 1)) + 0) x) k ((f_X1_rowOf (up σ k 1 (((σ k 1) + 1) - ((σ k 1) + 1) / 16 * 16)) k (((up σ k 1 (((σ k 1) + 1) - ((σ k 1) + 1) / 16 * 16)) k 2) - 1)) + 1) y) τ hk ((f_X1_rowOf (up σ k 1 (((σ k 1) + 1) - ((σ k 1) + 1) / 16 * 16)) k (((up σ k 1 (((σ k 1) + 1) - ((σ k 1) + 1) / 16 * 16)) k 2) - 1)) + 2) w) hP hS cw_X1_write (mA2 (i := 156) rfl rfl) hk ⟨rfl, rfl⟩ ⟨Nat.le_of_ble_eq_true rfl, Nat.le_of_ble_eq_true rfl⟩ rfl (Nat.le_of_ble_eq_true rfl) hl.1 ⟨Nat.zero_le _, Nat.zero_le _⟩ dX1_add_71) hS (fun H locs hP hS => ?_)
    exact ret_V C hP hS (by unfold s_X1_add; rw [if_pos c_6]) rfl dX1_add_74
  · refine lv_aload_n hx hb dX1_add_9 rfl (lv_at hl 0 rfl) ?_
    refine lv_dup hx hb dX1_add_10 rfl ?_
    refine gf_X1_15 C hP hk dX1_add_11 ?_
    refine lv_iconst (v := 1) hx hb dX1_add_14 (by decide) ?_
    refine lv_iadd hx hb dX1_add_15 ?_
    refine pf_X1_15 C hP hS hk dX1_add_16 (fun H locs hP hS => ?_)
    refine lv_goto (tgt := 35) hx hb dX1_add_19 (by decide) ?_
    refine lv_aload_n hx hb dX1_add_35 rfl (lv_at hl 0 rfl) ?_
    refine lv_aload_n hx hb dX1_add_36 rfl (lv_at hl 0 rfl) ?_
    refine gf_X1_15 C hP hk dX1_add_37 ?_
    refine lv_iconst (v := 1) hx hb dX1_add_40 (by decide) ?_
    refine lv_isub hx hb dX1_add_41 ?_
    refine thn_I (run_V (As := [.int (((up σ k 2 ((σ k 2) + 1)) k 2) - 1)]) (rest := []) C (k_X1_rowOf l D cy z o d (up σ k 2 ((σ k 2) + 1)) τ hk (((up σ k 2 ((σ k 2) + 1)) k 2) - 1)) hP hS cw_X1_rowOf (mA2 (i := 152) rfl rfl) hk ⟨rfl, rfl⟩ ⟨Nat.le_of_ble_eq_true rfl, Nat.le_of_ble_eq_true rfl⟩ rfl (Nat.le_of_ble_eq_true rfl) hl.1 ⟨Nat.zero_le _, Nat.zero_le _⟩ dX1_add_42) hS (fun H locs hP hS => ?_)
    refine lv_istore (lv' := [(4, .int (f_X1_rowOf (up σ k 2 ((σ k 2) + 1)) k (((up σ k 2 ((σ k 2) + 1)) k 2) - 1))), (0, .ref (z + k)), (1, .int x), (2, .int y), (3, .int w)]) hx hb dX1_add_45 hl (by decide) rfl (fun ls hl => ?_)
    refine lv_aload_n hx hb dX1_add_47 rfl (lv_at hl 1 rfl) ?_
    refine lv_iload hx hb dX1_add_48 (lv_at hl 0 rfl) ?_
    refine lv_iconst (v := 0) hx hb dX1_add_50 (by decide) ?_
    refine lv_iadd hx hb dX1_add_51 ?_
    refine lv_iload_n hx hb dX1_add_52 rfl (lv_at hl 2 rfl) ?_
    refine thn_V (run_V (As := [.int ((f_X1_rowOf (up σ k 2 ((σ k 2) + 1)) k (((up σ k 2 ((σ k 2) + 1)) k 2) - 1)) + 0), .int x]) (rest := []) C (k_X1_write l D cy z o d (up σ k 2 ((σ k 2) + 1)) τ hk ((f_X1_rowOf (up σ k 2 ((σ k 2) + 1)) k (((up σ k 2 ((σ k 2) + 1)) k 2) - 1)) + 0) x) hP hS cw_X1_write (mA2 (i := 156) rfl rfl) hk ⟨rfl, rfl⟩ ⟨Nat.le_of_ble_eq_true rfl, Nat.le_of_ble_eq_true rfl⟩ rfl (Nat.le_of_ble_eq_true rfl) hl.1 ⟨Nat.zero_le _, Nat.zero_le _⟩ dX1_add_53) hS (fun H locs hP hS => ?_)
    refine lv_aload_n hx hb dX1_add_56 rfl (lv_at hl 1 rfl) ?_
    refine lv_iload hx hb dX1_add_57 (lv_at hl 0 rfl) ?_
    refine lv_iconst (v := 1) hx hb dX1_add_59 (by decide) ?_
    refine lv_iadd hx hb dX1_add_60 ?_
    refine lv_iload_n hx hb dX1_add_61 rfl (lv_at hl 3 rfl) ?_
    refine thn_V (run_V (As := [.int ((f_X1_rowOf (up σ k 2 ((σ k 2) + 1)) k (((up σ k 2 ((σ k 2) + 1)) k 2) - 1)) + 1), .int y]) (rest := []) C (k_X1_write l D cy z o d (s_X1_write (up σ k 2 ((σ k 2) + 1)) k ((f_X1_rowOf (up σ k 2 ((σ k 2) + 1)) k (((up σ k 2 ((σ k 2) + 1)) k 2) - 1)) + 0) x) τ hk ((f_X1_rowOf (up σ k 2 ((σ k 2) + 1)) k (((up σ k 2 ((σ k 2) + 1)) k 2) - 1)) + 1) y) hP hS cw_X1_write (mA2 (i := 156) rfl rfl) hk ⟨rfl, rfl⟩ ⟨Nat.le_of_ble_eq_true rfl, Nat.le_of_ble_eq_true rfl⟩ rfl (Nat.le_of_ble_eq_true rfl) hl.1 ⟨Nat.zero_le _, Nat.zero_le _⟩ dX1_add_62) hS (fun H locs hP hS => ?_)
    refine lv_aload_n hx hb dX1_add_65 rfl (lv_at hl 1 rfl) ?_
    refine lv_iload hx hb dX1_add_66 (lv_at hl 0 rfl) ?_
    refine lv_iconst (v := 2) hx hb dX1_add_68 (by decide) ?_
    refine lv_iadd hx hb dX1_add_69 ?_
    refine lv_iload_n hx hb dX1_add_70 rfl (lv_at hl 4 rfl) ?_
    refine thn_V (run_V (As := [.int ((f_X1_rowOf (up σ k 2 ((σ k 2) + 1)) k (((up σ k 2 ((σ k 2) + 1)) k 2) - 1)) + 2), .int w]) (rest := []) C (k_X1_write l D cy z o d (s_X1_write (s_X1_write (up σ k 2 ((σ k 2) + 1)) k ((f_X1_rowOf (up σ k 2 ((σ k 2) + 1)) k (((up σ k 2 ((σ k 2) + 1)) k 2) - 1)) + 0) x) k ((f_X1_rowOf (up σ k 2 ((σ k 2) + 1)) k (((up σ k 2 ((σ k 2) + 1)) k 2) - 1)) + 1) y) τ hk ((f_X1_rowOf (up σ k 2 ((σ k 2) + 1)) k (((up σ k 2 ((σ k 2) + 1)) k 2) - 1)) + 2) w) hP hS cw_X1_write (mA2 (i := 156) rfl rfl) hk ⟨rfl, rfl⟩ ⟨Nat.le_of_ble_eq_true rfl, Nat.le_of_ble_eq_true rfl⟩ rfl (Nat.le_of_ble_eq_true rfl) hl.1 ⟨Nat.zero_le _, Nat.zero_le _⟩ dX1_add_71) hS (fun H locs hP hS => ?_)
    exact ret_V C hP hS (by unfold s_X1_add; rw [if_neg c_6]) rfl dX1_add_74

theorem cw_X1_dropLatest : cwVt yX1_dropLatest cX1_dropLatest 1 none 1 0 := ⟨(mA3 (i := 18) rfl rfl), (mA3 (i := 19) rfl rfl), (mA1 (i := 4) rfl rfl), (mA3 (i := 20) rfl rfl), by decide +kernel, ⟨_, rfl, rfl⟩, by decide⟩
abbrev rm_X1_dropLatest : Room := { frames := 0, cells := 0, slots := 0, locals := 0 }
def s_X1_dropLatest (σ : Sg) (k : Nat) : Sg :=
  if (σ k 2) ≤ 0 then
    σ
  else
    up σ k 2 ((σ k 2) - 1)
set_option maxHeartbeats 4000000 in
set_option maxRecDepth 100000 in
theorem k_X1_dropLatest (l : Launch) (D : va_G) (cy : Nat → ClassId) (z : Nat) (o : Int64) (d : UInt64) (σ τ : Sg) {k : Nat} (hk : kd k = 1) : KV l yX1_dropLatest cX1_dropLatest 1 rm_X1_dropLatest D cy z [.ref (z + k)] o d σ τ (s_X1_dropLatest σ k) τ := by
  refine met_of RX1 (plainFor_of_name (by decide)) rfl (Nat.le_of_ble_eq_true rfl) ?_
  intro p e s m args below meth c C hP hS ls hl
  obtain ⟨hx, hb, hr, hml, hown, hW, hlocks, hAm⟩ := id C
  have hl : lv_has ls 1 [(0, .ref (z + k))] := hl
  refine lv_aload_n hx hb dX1_dropLatest_0 rfl (lv_at hl 0 rfl) ?_
  refine gf_X1_15 C hP hk dX1_dropLatest_1 ?_
  refine lv_if_le (tgt := 17) hx hb dX1_dropLatest_4 (by decide) (fun c_4 => ?_) (fun c_4 => ?_)
  · exact ret_V C hP hS (by unfold s_X1_dropLatest; rw [if_pos c_4]) rfl dX1_dropLatest_17
  · refine lv_aload_n hx hb dX1_dropLatest_7 rfl (lv_at hl 0 rfl) ?_
    refine lv_dup hx hb dX1_dropLatest_8 rfl ?_
    refine gf_X1_15 C hP hk dX1_dropLatest_9 ?_
    refine lv_iconst (v := 1) hx hb dX1_dropLatest_12 (by decide) ?_
    refine lv_isub hx hb dX1_dropLatest_13 ?_
    refine pf_X1_15 C hP hS hk dX1_dropLatest_14 (fun H locs hP hS => ?_)
    exact ret_V C hP hS (by unfold s_X1_dropLatest; rw [if_neg c_4]) rfl dX1_dropLatest_17


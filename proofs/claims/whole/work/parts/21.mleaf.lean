theorem cw_X6_size : cwSt yX6_size cX6_size 1 (some .int) 1 := ⟨(mA4 (i := 76) rfl rfl), (mA1 (i := 7) rfl rfl), (mA4 (i := 77) rfl rfl), by decide +kernel⟩
abbrev rm_X6_size : Room := { frames := 0, cells := 0, slots := 0, locals := 0 }
def f_X6_size  (x : Int32) : Int32 :=
  if 0 ≤ x then
    x
  else
    -x
set_option maxHeartbeats 4000000 in
set_option maxRecDepth 100000 in
theorem k_X6_size (l : Launch) (D : va_G) (cy : Nat → ClassId) (z : Nat) (o : Int64) (d : UInt64) (σ τ : Sg) (x : Int32) : KI l yX6_size cX6_size 1 (some .int) rm_X6_size D cy z [.int x] o d σ τ (f_X6_size x) σ τ := by
  refine met_of RX6 (plainFor_of_name (by decide)) rfl (Nat.le_of_ble_eq_true rfl) ?_
  intro p e s m args below meth c C hP hS ls hl
  obtain ⟨hx, hb, hr, hml, hown, hW, hlocks, hAm⟩ := id C
  have hl : lv_has ls 1 [(0, .int x)] := hl
  refine lv_iload_n hx hb dX6_size_0 rfl (lv_at hl 0 rfl) ?_
  refine lv_if_ge (tgt := 9) hx hb dX6_size_1 (by decide) (fun c_1 => ?_) (fun c_1 => ?_)
  · refine lv_iload_n hx hb dX6_size_9 rfl (lv_at hl 0 rfl) ?_
    exact ret_I C hP hS (nar_i _) rfl (by unfold f_X6_size; rw [if_pos c_1]) rfl rfl dX6_size_10
  · refine lv_iload_n hx hb dX6_size_4 rfl (lv_at hl 0 rfl) ?_
    refine lv_ineg hx hb dX6_size_5 ?_
    refine lv_goto (tgt := 10) hx hb dX6_size_6 (by decide) ?_
    exact ret_I C hP hS (nar_i _) rfl (by unfold f_X6_size; rw [if_neg c_1]) rfl rfl dX6_size_10

theorem cw_X6_order : cwSt yX6_order cX6_order 1 (some .int) 1 := ⟨(mA4 (i := 73) rfl rfl), (mA1 (i := 7) rfl rfl), (mA4 (i := 74) rfl rfl), by decide +kernel⟩
abbrev rm_X6_order : Room := { frames := 0, cells := 0, slots := 0, locals := 0 }
def f_X6_order  (x : Int32) : Int32 :=
  if x = 3 then
    2
  else
    if x = 2 then
      3
    else
      x
set_option maxHeartbeats 4000000 in
set_option maxRecDepth 100000 in
theorem k_X6_order (l : Launch) (D : va_G) (cy : Nat → ClassId) (z : Nat) (o : Int64) (d : UInt64) (σ τ : Sg) (x : Int32) : KI l yX6_order cX6_order 1 (some .int) rm_X6_order D cy z [.int x] o d σ τ (f_X6_order x) σ τ := by
  refine met_of RX6 (plainFor_of_name (by decide)) rfl (Nat.le_of_ble_eq_true rfl) ?_
  intro p e s m args below meth c C hP hS ls hl
  obtain ⟨hx, hb, hr, hml, hown, hW, hlocks, hAm⟩ := id C
  have hl : lv_has ls 1 [(0, .int x)] := hl
  refine lv_iload_n hx hb dX6_order_0 rfl (lv_at hl 0 rfl) ?_
  refine lv_iconst (v := 3) hx hb dX6_order_1 (by decide) ?_
  refine lv_icmp_ne (tgt := 9) hx hb dX6_order_2 (by decide) (fun c_2 => ?_) (fun c_2 => ?_)
  · refine lv_iload_n hx hb dX6_order_9 rfl (lv_at hl 0 rfl) ?_
    refine lv_iconst (v := 2) hx hb dX6_order_10 (by decide) ?_
    refine lv_icmp_ne (tgt := 18) hx hb dX6_order_11 (by decide) (fun c_11 => ?_) (fun c_11 => ?_)
    · refine lv_iload_n hx hb dX6_order_18 rfl (lv_at hl 0 rfl) ?_
      exact ret_I C hP hS (nar_i _) rfl (by unfold f_X6_order; rw [if_neg c_2, if_neg c_11]) rfl rfl dX6_order_19
    · refine lv_iconst (v := 3) hx hb dX6_order_14 (by decide) ?_
      refine lv_goto (tgt := 19) hx hb dX6_order_15 (by decide) ?_
      exact ret_I C hP hS (nar_i _) rfl (by unfold f_X6_order; rw [if_neg c_2, if_pos c_11]) rfl rfl dX6_order_19
  · refine lv_iconst (v := 2) hx hb dX6_order_5 (by decide) ?_
    refine lv_goto (tgt := 19) hx hb dX6_order_6 (by decide) ?_
    exact ret_I C hP hS (nar_i _) rfl (by unfold f_X6_order; rw [if_pos c_2]) rfl rfl dX6_order_19

theorem cw_X6_state : cwSt yX6_state cX6_state 1 (some .int) 1 := ⟨(mA4 (i := 109) rfl rfl), (mA1 (i := 7) rfl rfl), (mA4 (i := 110) rfl rfl), by decide +kernel⟩
abbrev rm_X6_state : Room := { frames := 1, cells := 0, slots := 0, locals := 20 }
def f_X6_state  (x : Int32) : Int32 :=
  f_X6_order (x &&& 3)
set_option maxHeartbeats 4000000 in
set_option maxRecDepth 100000 in
theorem k_X6_state (l : Launch) (D : va_G) (cy : Nat → ClassId) (z : Nat) (o : Int64) (d : UInt64) (σ τ : Sg) (x : Int32) : KI l yX6_state cX6_state 1 (some .int) rm_X6_state D cy z [.int x] o d σ τ (f_X6_state x) σ τ := by
  refine met_of RX6 (plainFor_of_name (by decide)) rfl (Nat.le_of_ble_eq_true rfl) ?_
  intro p e s m args below meth c C hP hS ls hl
  obtain ⟨hx, hb, hr, hml, hown, hW, hlocks, hAm⟩ := id C
  have hl : lv_has ls 1 [(0, .int x)] := hl
  refine lv_iload_n hx hb dX6_state_0 rfl (lv_at hl 0 rfl) ?_
  refine lv_iconst (v := 3) hx hb dX6_state_1 (by decide) ?_
  refine lv_iand hx hb dX6_state_2 ?_
  refine thn_I (run_S (As := [.int (x &&& 3)]) (rest := []) C (k_X6_order l D cy z o d σ τ (x &&& 3)) hP hS cw_X6_order (mA4 (i := 72) rfl rfl) ⟨rfl, rfl⟩ ⟨Nat.le_of_ble_eq_true rfl, Nat.le_of_ble_eq_true rfl⟩ rfl (Nat.le_of_ble_eq_true rfl) hl.1 ⟨Nat.zero_le _, Nat.zero_le _⟩ dX6_state_3) hS (fun H locs hP hS => ?_)
  exact ret_I C hP hS (nar_i _) rfl rfl rfl rfl dX6_state_6

theorem cw_X6_onward : cwSt yX6_onward cX6_onward 2 (some .int) 2 := ⟨(mA4 (i := 70) rfl rfl), (mA1 (i := 7) rfl rfl), (mA4 (i := 71) rfl rfl), by decide +kernel⟩
abbrev rm_X6_onward : Room := { frames := 1, cells := 0, slots := 0, locals := 20 }
def f_X6_onward  (x : Int32) (y : Int32) : Int32 :=
  (((f_X6_order y) - (f_X6_order x)) + 4) &&& 3
set_option maxHeartbeats 4000000 in
set_option maxRecDepth 100000 in
theorem k_X6_onward (l : Launch) (D : va_G) (cy : Nat → ClassId) (z : Nat) (o : Int64) (d : UInt64) (σ τ : Sg) (x : Int32) (y : Int32) : KI l yX6_onward cX6_onward 2 (some .int) rm_X6_onward D cy z [.int x, .int y] o d σ τ (f_X6_onward x y) σ τ := by
  refine met_of RX6 (plainFor_of_name (by decide)) rfl (Nat.le_of_ble_eq_true rfl) ?_
  intro p e s m args below meth c C hP hS ls hl
  obtain ⟨hx, hb, hr, hml, hown, hW, hlocks, hAm⟩ := id C
  have hl : lv_has ls 2 [(0, .int x), (1, .int y)] := hl
  refine lv_iload_n hx hb dX6_onward_0 rfl (lv_at hl 1 rfl) ?_
  refine thn_I (run_S (As := [.int y]) (rest := []) C (k_X6_order l D cy z o d σ τ y) hP hS cw_X6_order (mA4 (i := 72) rfl rfl) ⟨rfl, rfl⟩ ⟨Nat.le_of_ble_eq_true rfl, Nat.le_of_ble_eq_true rfl⟩ rfl (Nat.le_of_ble_eq_true rfl) hl.1 ⟨Nat.zero_le _, Nat.zero_le _⟩ dX6_onward_1) hS (fun H locs hP hS => ?_)
  refine lv_iload_n hx hb dX6_onward_4 rfl (lv_at hl 0 rfl) ?_
  refine thn_I (run_S (As := [.int x]) (rest := [.int (f_X6_order y)]) C (k_X6_order l D cy z o d σ τ x) hP hS cw_X6_order (mA4 (i := 72) rfl rfl) ⟨rfl, rfl⟩ ⟨Nat.le_of_ble_eq_true rfl, Nat.le_of_ble_eq_true rfl⟩ rfl (Nat.le_of_ble_eq_true rfl) hl.1 ⟨Nat.zero_le _, Nat.zero_le _⟩ dX6_onward_5) hS (fun H locs hP hS => ?_)
  refine lv_isub hx hb dX6_onward_8 ?_
  refine lv_iconst (v := 4) hx hb dX6_onward_9 (by decide) ?_
  refine lv_iadd hx hb dX6_onward_10 ?_
  refine lv_iconst (v := 3) hx hb dX6_onward_11 (by decide) ?_
  refine lv_iand hx hb dX6_onward_12 ?_
  exact ret_I C hP hS (nar_i _) rfl rfl rfl rfl dX6_onward_13

theorem cw_X6_isA : cwSt yX6_isA cX6_isA 2 (some .boolean) 2 := ⟨(mA4 (i := 95) rfl rfl), (mA1 (i := 7) rfl rfl), (mA4 (i := 96) rfl rfl), by decide +kernel⟩
abbrev rm_X6_isA : Room := { frames := 0, cells := 0, slots := 0, locals := 0 }
def f_X6_isA  (x : Int32) (y : Int32) : Int32 :=
  if (x ^^^ y) = 2 then
    1
  else
    0
set_option maxHeartbeats 4000000 in
set_option maxRecDepth 100000 in
theorem k_X6_isA (l : Launch) (D : va_G) (cy : Nat → ClassId) (z : Nat) (o : Int64) (d : UInt64) (σ τ : Sg) (x : Int32) (y : Int32) : KI l yX6_isA cX6_isA 2 (some .boolean) rm_X6_isA D cy z [.int x, .int y] o d σ τ (f_X6_isA x y) σ τ := by
  refine met_of RX6 (plainFor_of_name (by decide)) rfl (Nat.le_of_ble_eq_true rfl) ?_
  intro p e s m args below meth c C hP hS ls hl
  obtain ⟨hx, hb, hr, hml, hown, hW, hlocks, hAm⟩ := id C
  have hl : lv_has ls 2 [(0, .int x), (1, .int y)] := hl
  refine lv_iload_n hx hb dX6_isA_0 rfl (lv_at hl 0 rfl) ?_
  refine lv_iload_n hx hb dX6_isA_1 rfl (lv_at hl 1 rfl) ?_
  refine lv_ixor hx hb dX6_isA_2 ?_
  refine lv_iconst (v := 2) hx hb dX6_isA_3 (by decide) ?_
  refine lv_icmp_ne (tgt := 11) hx hb dX6_isA_4 (by decide) (fun c_4 => ?_) (fun c_4 => ?_)
  · refine lv_iconst (v := 0) hx hb dX6_isA_11 (by decide) ?_
    exact ret_I C hP hS nar_z0 rfl (by unfold f_X6_isA; rw [if_neg c_4]) rfl rfl dX6_isA_12
  · refine lv_iconst (v := 1) hx hb dX6_isA_7 (by decide) ?_
    refine lv_goto (tgt := 12) hx hb dX6_isA_8 (by decide) ?_
    exact ret_I C hP hS nar_z1 rfl (by unfold f_X6_isA; rw [if_pos c_4]) rfl rfl dX6_isA_12
theorem nz_X6_isA  (x : Int32) (y : Int32) : narrow .boolean (.int (f_X6_isA x y)) = .int (f_X6_isA x y) := by
  unfold f_X6_isA
  repeat' split
  all_goals first | exact nar_z1 | exact nar_z0

theorem cw_X6_in : cwSt yX6_in cX6_in 3 (some .boolean) 3 := ⟨(mA4 (i := 50) rfl rfl), (mA1 (i := 7) rfl rfl), (mA4 (i := 51) rfl rfl), by decide +kernel⟩
abbrev rm_X6_in : Room := { frames := 0, cells := 0, slots := 0, locals := 0 }
def f_X6_in  (x : Int32) (y : Int32) (w : Int32) : Int32 :=
  if x < y then
    0
  else
    if w < x then
      0
    else
      1
set_option maxHeartbeats 4000000 in
set_option maxRecDepth 100000 in
theorem k_X6_in (l : Launch) (D : va_G) (cy : Nat → ClassId) (z : Nat) (o : Int64) (d : UInt64) (σ τ : Sg) (x : Int32) (y : Int32) (w : Int32) : KI l yX6_in cX6_in 3 (some .boolean) rm_X6_in D cy z [.int x, .int y, .int w] o d σ τ (f_X6_in x y w) σ τ := by
  refine met_of RX6 (plainFor_of_name (by decide)) rfl (Nat.le_of_ble_eq_true rfl) ?_
  intro p e s m args below meth c C hP hS ls hl
  obtain ⟨hx, hb, hr, hml, hown, hW, hlocks, hAm⟩ := id C
  have hl : lv_has ls 3 [(0, .int x), (1, .int y), (2, .int w)] := hl
  refine lv_iload_n hx hb dX6_in_0 rfl (lv_at hl 0 rfl) ?_
  refine lv_iload_n hx hb dX6_in_1 rfl (lv_at hl 1 rfl) ?_
  refine lv_icmp_lt (tgt := 14) hx hb dX6_in_2 (by decide) (fun c_2 => ?_) (fun c_2 => ?_)
  · refine lv_iconst (v := 0) hx hb dX6_in_14 (by decide) ?_
    exact ret_I C hP hS nar_z0 rfl (by unfold f_X6_in; rw [if_pos c_2]) rfl rfl dX6_in_15
  · refine lv_iload_n hx hb dX6_in_5 rfl (lv_at hl 0 rfl) ?_
    refine lv_iload_n hx hb dX6_in_6 rfl (lv_at hl 2 rfl) ?_
    refine lv_icmp_gt (tgt := 14) hx hb dX6_in_7 (by decide) (fun c_7 => ?_) (fun c_7 => ?_)
    · refine lv_iconst (v := 0) hx hb dX6_in_14 (by decide) ?_
      exact ret_I C hP hS nar_z0 rfl (by unfold f_X6_in; rw [if_neg c_2, if_pos c_7]) rfl rfl dX6_in_15
    · refine lv_iconst (v := 1) hx hb dX6_in_10 (by decide) ?_
      refine lv_goto (tgt := 15) hx hb dX6_in_11 (by decide) ?_
      exact ret_I C hP hS nar_z1 rfl (by unfold f_X6_in; rw [if_neg c_2, if_neg c_7]) rfl rfl dX6_in_15
theorem nz_X6_in  (x : Int32) (y : Int32) (w : Int32) : narrow .boolean (.int (f_X6_in x y w)) = .int (f_X6_in x y w) := by
  unfold f_X6_in
  repeat' split
  all_goals first | exact nar_z1 | exact nar_z0

theorem cw_X6_ahead : cwSt yX6_ahead cX6_ahead 2 (some .int) 2 := ⟨(mA4 (i := 106) rfl rfl), (mA1 (i := 7) rfl rfl), (mA4 (i := 107) rfl rfl), by decide +kernel⟩
abbrev rm_X6_ahead : Room := { frames := 2, cells := 0, slots := 0, locals := 40 }
def f_X6_ahead  (x : Int32) (y : Int32) : Int32 :=
  f_X6_state (((f_X6_order x) + 4) + y)
set_option maxHeartbeats 4000000 in
set_option maxRecDepth 100000 in
theorem k_X6_ahead (l : Launch) (D : va_G) (cy : Nat → ClassId) (z : Nat) (o : Int64) (d : UInt64) (σ τ : Sg) (x : Int32) (y : Int32) : KI l yX6_ahead cX6_ahead 2 (some .int) rm_X6_ahead D cy z [.int x, .int y] o d σ τ (f_X6_ahead x y) σ τ := by
  refine met_of RX6 (plainFor_of_name (by decide)) rfl (Nat.le_of_ble_eq_true rfl) ?_
  intro p e s m args below meth c C hP hS ls hl
  obtain ⟨hx, hb, hr, hml, hown, hW, hlocks, hAm⟩ := id C
  have hl : lv_has ls 2 [(0, .int x), (1, .int y)] := hl
  refine lv_iload_n hx hb dX6_ahead_0 rfl (lv_at hl 0 rfl) ?_
  refine thn_I (run_S (As := [.int x]) (rest := []) C (k_X6_order l D cy z o d σ τ x) hP hS cw_X6_order (mA4 (i := 72) rfl rfl) ⟨rfl, rfl⟩ ⟨Nat.le_of_ble_eq_true rfl, Nat.le_of_ble_eq_true rfl⟩ rfl (Nat.le_of_ble_eq_true rfl) hl.1 ⟨Nat.zero_le _, Nat.zero_le _⟩ dX6_ahead_1) hS (fun H locs hP hS => ?_)
  refine lv_iconst (v := 4) hx hb dX6_ahead_4 (by decide) ?_
  refine lv_iadd hx hb dX6_ahead_5 ?_
  refine lv_iload_n hx hb dX6_ahead_6 rfl (lv_at hl 1 rfl) ?_
  refine lv_iadd hx hb dX6_ahead_7 ?_
  refine thn_I (run_S (As := [.int (((f_X6_order x) + 4) + y)]) (rest := []) C (k_X6_state l D cy z o d σ τ (((f_X6_order x) + 4) + y)) hP hS cw_X6_state (mA4 (i := 108) rfl rfl) ⟨rfl, rfl⟩ ⟨Nat.le_of_ble_eq_true rfl, Nat.le_of_ble_eq_true rfl⟩ rfl (Nat.le_of_ble_eq_true rfl) hl.1 ⟨Nat.zero_le _, Nat.zero_le _⟩ dX6_ahead_8) hS (fun H locs hP hS => ?_)
  exact ret_I C hP hS (nar_i _) rfl rfl rfl rfl dX6_ahead_11

theorem cw_X6_thrown : cwVt yX6_thrown cX6_thrown 1 (some .int) 6 0 := ⟨(mA4 (i := 38) rfl rfl), (mA4 (i := 39) rfl rfl), (mA1 (i := 7) rfl rfl), (mA4 (i := 40) rfl rfl), by decide +kernel, ⟨_, rfl, rfl⟩, by decide⟩
abbrev rm_X6_thrown : Room := { frames := 0, cells := 0, slots := 0, locals := 0 }
def f_X6_thrown (τ : Sg) : Int32 :=
  τ 0 8
set_option maxHeartbeats 4000000 in
set_option maxRecDepth 100000 in
theorem k_X6_thrown (l : Launch) (D : va_G) (cy : Nat → ClassId) (z : Nat) (o : Int64) (d : UInt64) (σ τ : Sg) {k : Nat} (hk : kd k = 6) : KI l yX6_thrown cX6_thrown 1 (some .int) rm_X6_thrown D cy z [.ref (z + k)] o d σ τ (f_X6_thrown τ) σ τ := by
  refine met_of RX6 (plainFor_of_name (by decide)) rfl (Nat.le_of_ble_eq_true rfl) ?_
  intro p e s m args below meth c C hP hS ls hl
  obtain ⟨hx, hb, hr, hml, hown, hW, hlocks, hAm⟩ := id C
  have hl : lv_has ls 1 [(0, .ref (z + k))] := hl
  refine lv_aload_n hx hb dX6_thrown_0 rfl (lv_at hl 0 rfl) ?_
  refine gf_X6_25 C hP hk dX6_thrown_1 ?_
  exact ret_I C hP hS (nar_i _) rfl rfl rfl rfl dX6_thrown_4

theorem cw_X6_throwing : cwVt yX6_throwing cX6_throwing 2 (some .int) 6 1 := ⟨(mA4 (i := 54) rfl rfl), (mA0 (i := 13) rfl rfl), (mA1 (i := 7) rfl rfl), (mA4 (i := 55) rfl rfl), by decide +kernel, ⟨_, rfl, rfl⟩, by decide⟩
abbrev rm_X6_throwing : Room := { frames := 0, cells := 0, slots := 0, locals := 0 }
def f_X6_throwing (τ : Sg) (x : Int32) : Int32 :=
  0
def t_X6_throwing (τ : Sg) (x : Int32) : Sg :=
  up τ 0 8 x
set_option maxHeartbeats 4000000 in
set_option maxRecDepth 100000 in
theorem k_X6_throwing (l : Launch) (D : va_G) (cy : Nat → ClassId) (z : Nat) (o : Int64) (d : UInt64) (σ τ : Sg) {k : Nat} (hk : kd k = 6) (x : Int32) : KI l yX6_throwing cX6_throwing 2 (some .int) rm_X6_throwing D cy z [.ref (z + k), .int x] o d σ τ (f_X6_throwing τ x) σ (t_X6_throwing τ x) := by
  refine met_of RX6 (plainFor_of_name (by decide)) rfl (Nat.le_of_ble_eq_true rfl) ?_
  intro p e s m args below meth c C hP hS ls hl
  obtain ⟨hx, hb, hr, hml, hown, hW, hlocks, hAm⟩ := id C
  have hl : lv_has ls 2 [(0, .ref (z + k)), (1, .int x)] := hl
  refine lv_aload_n hx hb dX6_throwing_0 rfl (lv_at hl 0 rfl) ?_
  refine lv_iload_n hx hb dX6_throwing_1 rfl (lv_at hl 1 rfl) ?_
  refine pf_X6_25 C hP hS hk dX6_throwing_2 (fun H locs hP hS => ?_)
  refine lv_iconst (v := 0) hx hb dX6_throwing_5 (by decide) ?_
  exact ret_I C hP hS (nar_i _) rfl rfl rfl rfl dX6_throwing_6

theorem cw_X6_isThere : cwVt yX6_isThere cX6_isThere 2 (some .boolean) 6 1 := ⟨(mA4 (i := 47) rfl rfl), (mA0 (i := 12) rfl rfl), (mA1 (i := 7) rfl rfl), (mA4 (i := 48) rfl rfl), by decide +kernel, ⟨_, rfl, rfl⟩, by decide⟩
abbrev rm_X6_isThere : Room := { frames := 1, cells := 0, slots := 0, locals := 22 }
def f_X6_isThere (τ : Sg) (x : Int32) : Int32 :=
  if (f_X6_in x 0 3) = 0 then
    if ((up τ 0 8 1) 0 8) = 0 then
      1
    else
      0
  else
    if ((up τ 0 8 0) 0 8) = 0 then
      1
    else
      0
def t_X6_isThere (τ : Sg) (x : Int32) : Sg :=
  if (f_X6_in x 0 3) = 0 then
    if ((up τ 0 8 1) 0 8) = 0 then
      up τ 0 8 1
    else
      up τ 0 8 1
  else
    if ((up τ 0 8 0) 0 8) = 0 then
      up τ 0 8 0
    else
      up τ 0 8 0
set_option maxHeartbeats 4000000 in
set_option maxRecDepth 100000 in
theorem k_X6_isThere (l : Launch) (D : va_G) (cy : Nat → ClassId) (z : Nat) (o : Int64) (d : UInt64) (σ τ : Sg) {k : Nat} (hk : kd k = 6) (x : Int32) : KI l yX6_isThere cX6_isThere 2 (some .boolean) rm_X6_isThere D cy z [.ref (z + k), .int x] o d σ τ (f_X6_isThere τ x) σ (t_X6_isThere τ x) := by
  refine met_of RX6 (plainFor_of_name (by decide)) rfl (Nat.le_of_ble_eq_true rfl) ?_
  intro p e s m args below meth c C hP hS ls hl
  obtain ⟨hx, hb, hr, hml, hown, hW, hlocks, hAm⟩ := id C
  have hl : lv_has ls 2 [(0, .ref (z + k)), (1, .int x)] := hl
  refine lv_aload_n hx hb dX6_isThere_0 rfl (lv_at hl 0 rfl) ?_
  refine lv_iload_n hx hb dX6_isThere_1 rfl (lv_at hl 1 rfl) ?_
  refine lv_iconst (v := 0) hx hb dX6_isThere_2 (by decide) ?_
  refine lv_iconst (v := 3) hx hb dX6_isThere_3 (by decide) ?_
  refine thn_I (run_S (As := [.int x, .int 0, .int 3]) (rest := [.ref (z + k)]) C (k_X6_in l D cy z o d σ τ x 0 3) hP hS cw_X6_in (mA4 (i := 49) rfl rfl) ⟨rfl, rfl⟩ ⟨Nat.le_of_ble_eq_true rfl, Nat.le_of_ble_eq_true rfl⟩ rfl (Nat.le_of_ble_eq_true rfl) hl.1 ⟨Nat.zero_le _, Nat.zero_le _⟩ dX6_isThere_4) hS (fun H locs hP hS => ?_)
  refine lv_if_eq (tgt := 14) hx hb dX6_isThere_7 (by decide) (fun c_7 => ?_) (fun c_7 => ?_)
  · refine lv_iconst (v := 1) hx hb dX6_isThere_14 (by decide) ?_
    refine pf_X6_25 C hP hS hk dX6_isThere_15 (fun H locs hP hS => ?_)
    refine lv_aload_n hx hb dX6_isThere_18 rfl (lv_at hl 0 rfl) ?_
    refine gf_X6_25 C hP hk dX6_isThere_19 ?_
    refine lv_if_ne (tgt := 29) hx hb dX6_isThere_22 (by decide) (fun c_22 => ?_) (fun c_22 => ?_)
    · refine lv_iconst (v := 0) hx hb dX6_isThere_29 (by decide) ?_
      exact ret_I C hP hS nar_z0 rfl (by unfold f_X6_isThere; rw [if_pos c_7, if_neg c_22]) rfl (by unfold t_X6_isThere; rw [if_pos c_7, if_neg c_22]) dX6_isThere_30
    · refine lv_iconst (v := 1) hx hb dX6_isThere_25 (by decide) ?_
      refine lv_goto (tgt := 30) hx hb dX6_isThere_26 (by decide) ?_
      exact ret_I C hP hS nar_z1 rfl (by unfold f_X6_isThere; rw [if_pos c_7, if_pos c_22]) rfl (by unfold t_X6_isThere; rw [if_pos c_7, if_pos c_22]) dX6_isThere_30
  · refine lv_iconst (v := 0) hx hb dX6_isThere_10 (by decide) ?_
    refine lv_goto (tgt := 15) hx hb dX6_isThere_11 (by decide) ?_
    refine pf_X6_25 C hP hS hk dX6_isThere_15 (fun H locs hP hS => ?_)
    refine lv_aload_n hx hb dX6_isThere_18 rfl (lv_at hl 0 rfl) ?_
    refine gf_X6_25 C hP hk dX6_isThere_19 ?_
    refine lv_if_ne (tgt := 29) hx hb dX6_isThere_22 (by decide) (fun c_22 => ?_) (fun c_22 => ?_)
    · refine lv_iconst (v := 0) hx hb dX6_isThere_29 (by decide) ?_
      exact ret_I C hP hS nar_z0 rfl (by unfold f_X6_isThere; rw [if_neg c_7, if_neg c_22]) rfl (by unfold t_X6_isThere; rw [if_neg c_7, if_neg c_22]) dX6_isThere_30
    · refine lv_iconst (v := 1) hx hb dX6_isThere_25 (by decide) ?_
      refine lv_goto (tgt := 30) hx hb dX6_isThere_26 (by decide) ?_
      exact ret_I C hP hS nar_z1 rfl (by unfold f_X6_isThere; rw [if_neg c_7, if_pos c_22]) rfl (by unfold t_X6_isThere; rw [if_neg c_7, if_pos c_22]) dX6_isThere_30
theorem nz_X6_isThere (τ : Sg) (x : Int32) : narrow .boolean (.int (f_X6_isThere τ x)) = .int (f_X6_isThere τ x) := by
  unfold f_X6_isThere
  repeat' split
  all_goals first | exact nar_z1 | exact nar_z0

theorem cw_X6_of : cwVt yX6_of cX6_of 3 (some .int) 6 2 := ⟨(mA4 (i := 62) rfl rfl), (mA0 (i := 15) rfl rfl), (mA1 (i := 7) rfl rfl), (mA4 (i := 63) rfl rfl), by decide +kernel, ⟨_, rfl, rfl⟩, by decide⟩
abbrev rm_X6_of : Room := { frames := 0, cells := 0, slots := 0, locals := 0 }
def f_X6_of (τ : Sg) (j : Nat) (w : Nat) : Int32 :=
  τ 1 (57 * j + w)
set_option maxHeartbeats 4000000 in
set_option maxRecDepth 100000 in
theorem k_X6_of (l : Launch) (D : va_G) (cy : Nat → ClassId) (z : Nat) (o : Int64) (d : UInt64) (σ τ : Sg) {k : Nat} (hk : kd k = 6) (j : Nat) (w : Nat) (hw : 57 * j + w < 230) : KI l yX6_of cX6_of 3 (some .int) rm_X6_of D cy z [.ref (z + k), .int (nI j), .int (nI w)] o d σ τ (f_X6_of τ j w) σ τ := by
  refine met_of RX6 (plainFor_of_name (by decide)) rfl (Nat.le_of_ble_eq_true rfl) ?_
  intro p e s m args below meth c C hP hS ls hl
  obtain ⟨hx, hb, hr, hml, hown, hW, hlocks, hAm⟩ := id C
  have hl : lv_has ls 3 [(0, .ref (z + k)), (1, .int (nI j)), (2, .int (nI w))] := hl
  refine lv_aload_n hx hb dX6_of_0 rfl (lv_at hl 0 rfl) ?_
  refine gf_X6_7 C hP hk dX6_of_1 ?_
  refine lv_bipush (v := 57) hx hb dX6_of_4 (by decide) ?_
  refine lv_iload_n hx hb dX6_of_6 rfl (lv_at hl 1 rfl) ?_
  refine lv_imul hx hb dX6_of_7 ?_
  refine lv_iload_n hx hb dX6_of_8 rfl (lv_at hl 2 rfl) ?_
  refine lv_iadd hx hb dX6_of_9 ?_
  rw [ix_of]
  refine al_10 C hP (kd6_1 hk) (vp_in_nI hw (by decide)) dX6_of_10 ?_
  rw [nI_clamp (by omega)]
  exact ret_I C hP hS (nar_i _) rfl rfl rfl rfl dX6_of_11

theorem cw_X6_lay : cwVt yX6_lay cX6_lay 4 none 6 3 := ⟨(mA4 (i := 92) rfl rfl), (mA0 (i := 20) rfl rfl), (mA1 (i := 7) rfl rfl), (mA4 (i := 93) rfl rfl), by decide +kernel, ⟨_, rfl, rfl⟩, by decide⟩
abbrev rm_X6_lay : Room := { frames := 0, cells := 0, slots := 0, locals := 0 }
def t_X6_lay (τ : Sg) (j : Nat) (w : Nat) (v : Int32) : Sg :=
  up τ 1 (57 * j + w) v
set_option maxHeartbeats 4000000 in
set_option maxRecDepth 100000 in
theorem k_X6_lay (l : Launch) (D : va_G) (cy : Nat → ClassId) (z : Nat) (o : Int64) (d : UInt64) (σ τ : Sg) {k : Nat} (hk : kd k = 6) (j : Nat) (w : Nat) (v : Int32) (hw : 57 * j + w < 230) : KV l yX6_lay cX6_lay 4 rm_X6_lay D cy z [.ref (z + k), .int (nI j), .int (nI w), .int v] o d σ τ σ (t_X6_lay τ j w v) := by
  refine met_of RX6 (plainFor_of_name (by decide)) rfl (Nat.le_of_ble_eq_true rfl) ?_
  intro p e s m args below meth c C hP hS ls hl
  obtain ⟨hx, hb, hr, hml, hown, hW, hlocks, hAm⟩ := id C
  have hl : lv_has ls 4 [(0, .ref (z + k)), (1, .int (nI j)), (2, .int (nI w)), (3, .int v)] := hl
  refine lv_aload_n hx hb dX6_lay_0 rfl (lv_at hl 0 rfl) ?_
  refine gf_X6_7 C hP hk dX6_lay_1 ?_
  refine lv_bipush (v := 57) hx hb dX6_lay_4 (by decide) ?_
  refine lv_iload_n hx hb dX6_lay_6 rfl (lv_at hl 1 rfl) ?_
  refine lv_imul hx hb dX6_lay_7 ?_
  refine lv_iload_n hx hb dX6_lay_8 rfl (lv_at hl 2 rfl) ?_
  refine lv_iadd hx hb dX6_lay_9 ?_
  rw [ix_of]
  refine lv_iload_n hx hb dX6_lay_10 rfl (lv_at hl 3 rfl) ?_
  refine as_10 C hP hS (kd6_1 hk) (vp_in_nI hw (by decide)) dX6_lay_11 (fun H locs hP hS => ?_)
  rw [nI_clamp (n := 57 * j + w) (by omega)] at hP
  exact ret_V C hP hS rfl rfl dX6_lay_12

theorem cw_X6_grow : cwVt yX6_grow cX6_grow 4 none 6 3 := ⟨(mA4 (i := 88) rfl rfl), (mA0 (i := 19) rfl rfl), (mA1 (i := 7) rfl rfl), (mA4 (i := 89) rfl rfl), by decide +kernel, ⟨_, rfl, rfl⟩, by decide⟩
abbrev rm_X6_grow : Room := { frames := 0, cells := 0, slots := 0, locals := 0 }
def t_X6_grow (τ : Sg) (j : Nat) (w : Nat) (v : Int32) : Sg :=
  up τ 1 (57 * j + w) ((τ 1 (57 * j + w)) + v)
set_option maxHeartbeats 4000000 in
set_option maxRecDepth 100000 in
theorem k_X6_grow (l : Launch) (D : va_G) (cy : Nat → ClassId) (z : Nat) (o : Int64) (d : UInt64) (σ τ : Sg) {k : Nat} (hk : kd k = 6) (j : Nat) (w : Nat) (v : Int32) (hw : 57 * j + w < 230) : KV l yX6_grow cX6_grow 4 rm_X6_grow D cy z [.ref (z + k), .int (nI j), .int (nI w), .int v] o d σ τ σ (t_X6_grow τ j w v) := by
  refine met_of RX6 (plainFor_of_name (by decide)) rfl (Nat.le_of_ble_eq_true rfl) ?_
  intro p e s m args below meth c C hP hS ls hl
  obtain ⟨hx, hb, hr, hml, hown, hW, hlocks, hAm⟩ := id C
  have hl : lv_has ls 4 [(0, .ref (z + k)), (1, .int (nI j)), (2, .int (nI w)), (3, .int v)] := hl
  refine lv_aload_n hx hb dX6_grow_0 rfl (lv_at hl 0 rfl) ?_
  refine gf_X6_7 C hP hk dX6_grow_1 ?_
  refine lv_bipush (v := 57) hx hb dX6_grow_4 (by decide) ?_
  refine lv_iload_n hx hb dX6_grow_6 rfl (lv_at hl 1 rfl) ?_
  refine lv_imul hx hb dX6_grow_7 ?_
  refine lv_iload_n hx hb dX6_grow_8 rfl (lv_at hl 2 rfl) ?_
  refine lv_iadd hx hb dX6_grow_9 ?_
  rw [ix_of]
  refine lv_dup2_11 hx hb dX6_grow_10 rfl rfl ?_
  refine al_10 C hP (kd6_1 hk) (vp_in_nI hw (by decide)) dX6_grow_11 ?_
  rw [nI_clamp (by omega)]
  refine lv_iload_n hx hb dX6_grow_12 rfl (lv_at hl 3 rfl) ?_
  refine lv_iadd hx hb dX6_grow_13 ?_
  refine as_10 C hP hS (kd6_1 hk) (vp_in_nI hw (by decide)) dX6_grow_14 (fun H locs hP hS => ?_)
  rw [nI_clamp (n := 57 * j + w) (by omega)] at hP
  exact ret_V C hP hS rfl rfl dX6_grow_15

theorem cw_X6_stepOf : cwVt yX6_stepOf cX6_stepOf 4 (some .int) 6 2 := ⟨(mA4 (i := 67) rfl rfl), (mA0 (i := 16) rfl rfl), (mA1 (i := 7) rfl rfl), (mA4 (i := 68) rfl rfl), by decide +kernel, ⟨_, rfl, rfl⟩, by decide⟩
abbrev rm_X6_stepOf : Room := { frames := 2, cells := 0, slots := 0, locals := 41 }
def f_X6_stepOf (τ : Sg) (j : Nat) (y : Int32) : Int32 :=
  if (f_X6_onward (f_X6_of τ j 0) y) = 2 then
    if (τ 1 228) = 0 then
      0
    else
      2 * (f_X6_of τ j 2)
  else
    if (f_X6_onward (f_X6_of τ j 0) y) = 3 then
      (-1)
    else
      f_X6_onward (f_X6_of τ j 0) y
set_option maxHeartbeats 4000000 in
set_option maxRecDepth 100000 in
theorem k_X6_stepOf (l : Launch) (D : va_G) (cy : Nat → ClassId) (z : Nat) (o : Int64) (d : UInt64) (σ τ : Sg) {k : Nat} (hk : kd k = 6) (j : Nat) (y : Int32) (hj : j < 4) : KI l yX6_stepOf cX6_stepOf 4 (some .int) rm_X6_stepOf D cy z [.ref (z + k), .int (nI j), .int y] o d σ τ (f_X6_stepOf τ j y) σ τ := by
  refine met_of RX6 (plainFor_of_name (by decide)) rfl (Nat.le_of_ble_eq_true rfl) ?_
  intro p e s m args below meth c C hP hS ls hl
  obtain ⟨hx, hb, hr, hml, hown, hW, hlocks, hAm⟩ := id C
  have hl : lv_has ls 4 [(0, .ref (z + k)), (1, .int (nI j)), (2, .int y)] := hl
  refine lv_aload_n hx hb dX6_stepOf_0 rfl (lv_at hl 0 rfl) ?_
  refine lv_iload_n hx hb dX6_stepOf_1 rfl (lv_at hl 1 rfl) ?_
  refine lv_iconst (v := 0) hx hb dX6_stepOf_2 (by decide) ?_
  refine thn_I (run_V (As := [.int (nI j), .int 0]) (rest := []) C (k_X6_of l D cy z o d σ τ hk j 0 (by omega)) hP hS cw_X6_of (mA4 (i := 60) rfl rfl) hk ⟨rfl, rfl⟩ ⟨Nat.le_of_ble_eq_true rfl, Nat.le_of_ble_eq_true rfl⟩ rfl (Nat.le_of_ble_eq_true rfl) hl.1 ⟨Nat.zero_le _, Nat.zero_le _⟩ dX6_stepOf_3) hS (fun H locs hP hS => ?_)
  refine lv_iload_n hx hb dX6_stepOf_6 rfl (lv_at hl 2 rfl) ?_
  refine thn_I (run_S (As := [.int (f_X6_of τ j 0), .int y]) (rest := []) C (k_X6_onward l D cy z o d σ τ (f_X6_of τ j 0) y) hP hS cw_X6_onward (mA4 (i := 69) rfl rfl) ⟨rfl, rfl⟩ ⟨Nat.le_of_ble_eq_true rfl, Nat.le_of_ble_eq_true rfl⟩ rfl (Nat.le_of_ble_eq_true rfl) hl.1 ⟨Nat.zero_le _, Nat.zero_le _⟩ dX6_stepOf_7) hS (fun H locs hP hS => ?_)
  refine lv_istore_n (lv' := [(3, .int (f_X6_onward (f_X6_of τ j 0) y)), (0, .ref (z + k)), (1, .int (nI j)), (2, .int y)]) hx hb dX6_stepOf_10 rfl hl (by decide) rfl (fun ls hl => ?_)
  refine lv_iload_n hx hb dX6_stepOf_11 rfl (lv_at hl 0 rfl) ?_
  refine lv_iconst (v := 2) hx hb dX6_stepOf_12 (by decide) ?_
  refine lv_icmp_ne (tgt := 42) hx hb dX6_stepOf_13 (by decide) (fun c_13 => ?_) (fun c_13 => ?_)
  · refine lv_iload_n hx hb dX6_stepOf_42 rfl (lv_at hl 0 rfl) ?_
    refine lv_iconst (v := 3) hx hb dX6_stepOf_43 (by decide) ?_
    refine lv_icmp_ne (tgt := 51) hx hb dX6_stepOf_44 (by decide) (fun c_44 => ?_) (fun c_44 => ?_)
    · refine lv_iload_n hx hb dX6_stepOf_51 rfl (lv_at hl 0 rfl) ?_
      exact ret_I C hP hS (nar_i _) rfl (by unfold f_X6_stepOf; rw [if_neg c_13, if_neg c_44]) rfl rfl dX6_stepOf_52
    · refine lv_iconst (v := (-1)) hx hb dX6_stepOf_47 (by decide) ?_
      refine lv_goto (tgt := 52) hx hb dX6_stepOf_48 (by decide) ?_
      exact ret_I C hP hS (nar_i _) rfl (by unfold f_X6_stepOf; rw [if_neg c_13, if_pos c_44]) rfl rfl dX6_stepOf_52
  · refine lv_aload_n hx hb dX6_stepOf_16 rfl (lv_at hl 1 rfl) ?_
    refine gf_X6_7 C hP hk dX6_stepOf_17 ?_
    refine lv_sipush (v := 228) hx hb dX6_stepOf_20 (by decide) ?_
    refine al_10 C hP (kd6_1 hk) vp228 dX6_stepOf_23 ?_
    rw [cl228]
    refine lv_if_ne (tgt := 31) hx hb dX6_stepOf_24 (by decide) (fun c_24 => ?_) (fun c_24 => ?_)
    · refine lv_iconst (v := 2) hx hb dX6_stepOf_31 (by decide) ?_
      refine lv_aload_n hx hb dX6_stepOf_32 rfl (lv_at hl 1 rfl) ?_
      refine lv_iload_n hx hb dX6_stepOf_33 rfl (lv_at hl 2 rfl) ?_
      refine lv_iconst (v := 2) hx hb dX6_stepOf_34 (by decide) ?_
      refine thn_I (run_V (As := [.int (nI j), .int 2]) (rest := [.int 2]) C (k_X6_of l D cy z o d σ τ hk j 2 (by omega)) hP hS cw_X6_of (mA4 (i := 60) rfl rfl) hk ⟨rfl, rfl⟩ ⟨Nat.le_of_ble_eq_true rfl, Nat.le_of_ble_eq_true rfl⟩ rfl (Nat.le_of_ble_eq_true rfl) hl.1 ⟨Nat.zero_le _, Nat.zero_le _⟩ dX6_stepOf_35) hS (fun H locs hP hS => ?_)
      refine lv_imul hx hb dX6_stepOf_38 ?_
      refine lv_goto (tgt := 52) hx hb dX6_stepOf_39 (by decide) ?_
      exact ret_I C hP hS (nar_i _) rfl (by unfold f_X6_stepOf; rw [if_pos c_13, if_neg c_24]) rfl rfl dX6_stepOf_52
    · refine lv_iconst (v := 0) hx hb dX6_stepOf_27 (by decide) ?_
      refine lv_goto (tgt := 52) hx hb dX6_stepOf_28 (by decide) ?_
      exact ret_I C hP hS (nar_i _) rfl (by unfold f_X6_stepOf; rw [if_pos c_13, if_pos c_24]) rfl rfl dX6_stepOf_52

theorem cw_X6_canFeel : cwVt yX6_canFeel cX6_canFeel 4 (some .boolean) 6 3 := ⟨(mA4 (i := 58) rfl rfl), (mA0 (i := 14) rfl rfl), (mA1 (i := 7) rfl rfl), (mA4 (i := 59) rfl rfl), by decide +kernel, ⟨_, rfl, rfl⟩, by decide⟩
abbrev rm_X6_canFeel : Room := { frames := 3, cells := 0, slots := 0, locals := 64 }
def f_X6_canFeel (τ : Sg) (j : Nat) (y : Int32) (w : Int32) : Int32 :=
  if 1000000000 < ((f_X6_of τ j 6) + w) then
    0
  else
    if 1000000000 < ((f_X6_of τ j 5) + (f_X6_size (f_X6_stepOf τ j y))) then
      0
    else
      1
set_option maxHeartbeats 4000000 in
set_option maxRecDepth 100000 in
theorem k_X6_canFeel (l : Launch) (D : va_G) (cy : Nat → ClassId) (z : Nat) (o : Int64) (d : UInt64) (σ τ : Sg) {k : Nat} (hk : kd k = 6) (j : Nat) (y : Int32) (w : Int32) (hj : j < 4) : KI l yX6_canFeel cX6_canFeel 4 (some .boolean) rm_X6_canFeel D cy z [.ref (z + k), .int (nI j), .int y, .int w] o d σ τ (f_X6_canFeel τ j y w) σ τ := by
  refine met_of RX6 (plainFor_of_name (by decide)) rfl (Nat.le_of_ble_eq_true rfl) ?_
  intro p e s m args below meth c C hP hS ls hl
  obtain ⟨hx, hb, hr, hml, hown, hW, hlocks, hAm⟩ := id C
  have hl : lv_has ls 4 [(0, .ref (z + k)), (1, .int (nI j)), (2, .int y), (3, .int w)] := hl
  refine lv_aload_n hx hb dX6_canFeel_0 rfl (lv_at hl 0 rfl) ?_
  refine lv_iload_n hx hb dX6_canFeel_1 rfl (lv_at hl 1 rfl) ?_
  refine lv_bipush (v := 6) hx hb dX6_canFeel_2 (by decide) ?_
  refine thn_I (run_V (As := [.int (nI j), .int 6]) (rest := []) C (k_X6_of l D cy z o d σ τ hk j 6 (by omega)) hP hS cw_X6_of (mA4 (i := 60) rfl rfl) hk ⟨rfl, rfl⟩ ⟨Nat.le_of_ble_eq_true rfl, Nat.le_of_ble_eq_true rfl⟩ rfl (Nat.le_of_ble_eq_true rfl) hl.1 ⟨Nat.zero_le _, Nat.zero_le _⟩ dX6_canFeel_4) hS (fun H locs hP hS => ?_)
  refine lv_iload_n hx hb dX6_canFeel_7 rfl (lv_at hl 3 rfl) ?_
  refine lv_iadd hx hb dX6_canFeel_8 ?_
  refine lv_ldc (v := 1000000000) hx hb hown (hW _ (mA4 (i := 64) rfl rfl)) dX6_canFeel_9 ?_
  refine lv_icmp_gt (tgt := 39) hx hb dX6_canFeel_11 (by decide) (fun c_11 => ?_) (fun c_11 => ?_)
  · refine lv_iconst (v := 0) hx hb dX6_canFeel_39 (by decide) ?_
    exact ret_I C hP hS nar_z0 rfl (by unfold f_X6_canFeel; rw [if_pos c_11]) rfl rfl dX6_canFeel_40
  · refine lv_aload_n hx hb dX6_canFeel_14 rfl (lv_at hl 0 rfl) ?_
    refine lv_iload_n hx hb dX6_canFeel_15 rfl (lv_at hl 1 rfl) ?_
    refine lv_iconst (v := 5) hx hb dX6_canFeel_16 (by decide) ?_
    refine thn_I (run_V (As := [.int (nI j), .int 5]) (rest := []) C (k_X6_of l D cy z o d σ τ hk j 5 (by omega)) hP hS cw_X6_of (mA4 (i := 60) rfl rfl) hk ⟨rfl, rfl⟩ ⟨Nat.le_of_ble_eq_true rfl, Nat.le_of_ble_eq_true rfl⟩ rfl (Nat.le_of_ble_eq_true rfl) hl.1 ⟨Nat.zero_le _, Nat.zero_le _⟩ dX6_canFeel_17) hS (fun H locs hP hS => ?_)
    refine lv_aload_n hx hb dX6_canFeel_20 rfl (lv_at hl 0 rfl) ?_
    refine lv_iload_n hx hb dX6_canFeel_21 rfl (lv_at hl 1 rfl) ?_
    refine lv_iload_n hx hb dX6_canFeel_22 rfl (lv_at hl 2 rfl) ?_
    refine thn_I (run_V (As := [.int (nI j), .int y]) (rest := [.int (f_X6_of τ j 5)]) C (k_X6_stepOf l D cy z o d σ τ hk j y hj) hP hS cw_X6_stepOf (mA4 (i := 65) rfl rfl) hk ⟨rfl, rfl⟩ ⟨Nat.le_of_ble_eq_true rfl, Nat.le_of_ble_eq_true rfl⟩ rfl (Nat.le_of_ble_eq_true rfl) hl.1 ⟨Nat.zero_le _, Nat.zero_le _⟩ dX6_canFeel_23) hS (fun H locs hP hS => ?_)
    refine thn_I (run_S (As := [.int (f_X6_stepOf τ j y)]) (rest := [.int (f_X6_of τ j 5)]) C (k_X6_size l D cy z o d σ τ (f_X6_stepOf τ j y)) hP hS cw_X6_size (mA4 (i := 75) rfl rfl) ⟨rfl, rfl⟩ ⟨Nat.le_of_ble_eq_true rfl, Nat.le_of_ble_eq_true rfl⟩ rfl (Nat.le_of_ble_eq_true rfl) hl.1 ⟨Nat.zero_le _, Nat.zero_le _⟩ dX6_canFeel_26) hS (fun H locs hP hS => ?_)
    refine lv_iadd hx hb dX6_canFeel_29 ?_
    refine lv_ldc (v := 1000000000) hx hb hown (hW _ (mA4 (i := 64) rfl rfl)) dX6_canFeel_30 ?_
    refine lv_icmp_gt (tgt := 39) hx hb dX6_canFeel_32 (by decide) (fun c_32 => ?_) (fun c_32 => ?_)
    · refine lv_iconst (v := 0) hx hb dX6_canFeel_39 (by decide) ?_
      exact ret_I C hP hS nar_z0 rfl (by unfold f_X6_canFeel; rw [if_neg c_11, if_pos c_32]) rfl rfl dX6_canFeel_40
    · refine lv_iconst (v := 1) hx hb dX6_canFeel_35 (by decide) ?_
      refine lv_goto (tgt := 40) hx hb dX6_canFeel_36 (by decide) ?_
      exact ret_I C hP hS nar_z1 rfl (by unfold f_X6_canFeel; rw [if_neg c_11, if_neg c_32]) rfl rfl dX6_canFeel_40
theorem nz_X6_canFeel (τ : Sg) (j : Nat) (y : Int32) (w : Int32) : narrow .boolean (.int (f_X6_canFeel τ j y w)) = .int (f_X6_canFeel τ j y w) := by
  unfold f_X6_canFeel
  repeat' split
  all_goals first | exact nar_z1 | exact nar_z0

theorem cw_X6_turns : cwVt yX6_turns cX6_turns 3 none 6 2 := ⟨(mA4 (i := 99) rfl rfl), (mA0 (i := 21) rfl rfl), (mA1 (i := 7) rfl rfl), (mA4 (i := 100) rfl rfl), by decide +kernel, ⟨_, rfl, rfl⟩, by decide⟩
abbrev rm_X6_turns : Room := { frames := 1, cells := 0, slots := 0, locals := 23 }
def t_X6_turns (τ : Sg) (j : Nat) (y : Int32) : Sg :=
  if y ≤ 0 then
    if 0 ≤ y then
      t_X6_lay τ j 2 (f_X6_of τ j 2)
    else
      t_X6_lay τ j 2 (-1)
  else
    t_X6_lay τ j 2 1
set_option maxHeartbeats 4000000 in
set_option maxRecDepth 100000 in
theorem k_X6_turns (l : Launch) (D : va_G) (cy : Nat → ClassId) (z : Nat) (o : Int64) (d : UInt64) (σ τ : Sg) {k : Nat} (hk : kd k = 6) (j : Nat) (y : Int32) (hj : j < 4) : KV l yX6_turns cX6_turns 3 rm_X6_turns D cy z [.ref (z + k), .int (nI j), .int y] o d σ τ σ (t_X6_turns τ j y) := by
  refine met_of RX6 (plainFor_of_name (by decide)) rfl (Nat.le_of_ble_eq_true rfl) ?_
  intro p e s m args below meth c C hP hS ls hl
  obtain ⟨hx, hb, hr, hml, hown, hW, hlocks, hAm⟩ := id C
  have hl : lv_has ls 3 [(0, .ref (z + k)), (1, .int (nI j)), (2, .int y)] := hl
  refine lv_aload_n hx hb dX6_turns_0 rfl (lv_at hl 0 rfl) ?_
  refine lv_iload_n hx hb dX6_turns_1 rfl (lv_at hl 1 rfl) ?_
  refine lv_iconst (v := 2) hx hb dX6_turns_2 (by decide) ?_
  refine lv_iload_n hx hb dX6_turns_3 rfl (lv_at hl 2 rfl) ?_
  refine lv_if_le (tgt := 11) hx hb dX6_turns_4 (by decide) (fun c_4 => ?_) (fun c_4 => ?_)
  · refine lv_iload_n hx hb dX6_turns_11 rfl (lv_at hl 2 rfl) ?_
    refine lv_if_ge (tgt := 19) hx hb dX6_turns_12 (by decide) (fun c_12 => ?_) (fun c_12 => ?_)
    · refine lv_aload_n hx hb dX6_turns_19 rfl (lv_at hl 0 rfl) ?_
      refine lv_iload_n hx hb dX6_turns_20 rfl (lv_at hl 1 rfl) ?_
      refine lv_iconst (v := 2) hx hb dX6_turns_21 (by decide) ?_
      refine thn_I (run_V (As := [.int (nI j), .int 2]) (rest := [.int 2, .int (nI j), .ref (z + k)]) C (k_X6_of l D cy z o d σ τ hk j 2 (by omega)) hP hS cw_X6_of (mA4 (i := 60) rfl rfl) hk ⟨rfl, rfl⟩ ⟨Nat.le_of_ble_eq_true rfl, Nat.le_of_ble_eq_true rfl⟩ rfl (Nat.le_of_ble_eq_true rfl) hl.1 ⟨Nat.zero_le _, Nat.zero_le _⟩ dX6_turns_22) hS (fun H locs hP hS => ?_)
      refine thn_V (run_V (As := [.int (nI j), .int 2, .int (f_X6_of τ j 2)]) (rest := []) C (k_X6_lay l D cy z o d σ τ hk j 2 (f_X6_of τ j 2) (by omega)) hP hS cw_X6_lay (mA4 (i := 90) rfl rfl) hk ⟨rfl, rfl⟩ ⟨Nat.le_of_ble_eq_true rfl, Nat.le_of_ble_eq_true rfl⟩ rfl (Nat.le_of_ble_eq_true rfl) hl.1 ⟨Nat.zero_le _, Nat.zero_le _⟩ dX6_turns_25) hS (fun H locs hP hS => ?_)
      exact ret_V C hP hS rfl (by unfold t_X6_turns; rw [if_pos c_4, if_pos c_12]) dX6_turns_28
    · refine lv_iconst (v := (-1)) hx hb dX6_turns_15 (by decide) ?_
      refine lv_goto (tgt := 25) hx hb dX6_turns_16 (by decide) ?_
      refine thn_V (run_V (As := [.int (nI j), .int 2, .int (-1)]) (rest := []) C (k_X6_lay l D cy z o d σ τ hk j 2 (-1) (by omega)) hP hS cw_X6_lay (mA4 (i := 90) rfl rfl) hk ⟨rfl, rfl⟩ ⟨Nat.le_of_ble_eq_true rfl, Nat.le_of_ble_eq_true rfl⟩ rfl (Nat.le_of_ble_eq_true rfl) hl.1 ⟨Nat.zero_le _, Nat.zero_le _⟩ dX6_turns_25) hS (fun H locs hP hS => ?_)
      exact ret_V C hP hS rfl (by unfold t_X6_turns; rw [if_pos c_4, if_neg c_12]) dX6_turns_28
  · refine lv_iconst (v := 1) hx hb dX6_turns_7 (by decide) ?_
    refine lv_goto (tgt := 25) hx hb dX6_turns_8 (by decide) ?_
    refine thn_V (run_V (As := [.int (nI j), .int 2, .int 1]) (rest := []) C (k_X6_lay l D cy z o d σ τ hk j 2 1 (by omega)) hP hS cw_X6_lay (mA4 (i := 90) rfl rfl) hk ⟨rfl, rfl⟩ ⟨Nat.le_of_ble_eq_true rfl, Nat.le_of_ble_eq_true rfl⟩ rfl (Nat.le_of_ble_eq_true rfl) hl.1 ⟨Nat.zero_le _, Nat.zero_le _⟩ dX6_turns_25) hS (fun H locs hP hS => ?_)
    exact ret_V C hP hS rfl (by unfold t_X6_turns; rw [if_neg c_4]) dX6_turns_28

theorem cw_X6_placed : cwVt yX6_placed cX6_placed 3 (some .int) 6 1 := ⟨(mA4 (i := 121) rfl rfl), (mA0 (i := 23) rfl rfl), (mA1 (i := 7) rfl rfl), (mA4 (i := 122) rfl rfl), by decide +kernel, ⟨_, rfl, rfl⟩, by decide⟩
abbrev rm_X6_placed : Room := { frames := 1, cells := 0, slots := 0, locals := 22 }
def f_X6_placed (τ : Sg) (j : Nat) : Int32 :=
  if 0 ≤ ((f_X6_of τ j 1) - (f_X6_of τ j 1) / (τ 1 229) * (τ 1 229)) then
    (f_X6_of τ j 1) - (f_X6_of τ j 1) / (τ 1 229) * (τ 1 229)
  else
    ((f_X6_of τ j 1) - (f_X6_of τ j 1) / (τ 1 229) * (τ 1 229)) + (τ 1 229)
set_option maxHeartbeats 4000000 in
set_option maxRecDepth 100000 in
theorem k_X6_placed (l : Launch) (D : va_G) (cy : Nat → ClassId) (z : Nat) (o : Int64) (d : UInt64) (σ τ : Sg) {k : Nat} (hk : kd k = 6) (j : Nat) (hj : j < 4) (hC : ¬ τ 1 229 = 0) : KI l yX6_placed cX6_placed 3 (some .int) rm_X6_placed D cy z [.ref (z + k), .int (nI j)] o d σ τ (f_X6_placed τ j) σ τ := by
  refine met_of RX6 (plainFor_of_name (by decide)) rfl (Nat.le_of_ble_eq_true rfl) ?_
  intro p e s m args below meth c C hP hS ls hl
  obtain ⟨hx, hb, hr, hml, hown, hW, hlocks, hAm⟩ := id C
  have hl : lv_has ls 3 [(0, .ref (z + k)), (1, .int (nI j))] := hl
  refine lv_aload_n hx hb dX6_placed_0 rfl (lv_at hl 0 rfl) ?_
  refine lv_iload_n hx hb dX6_placed_1 rfl (lv_at hl 1 rfl) ?_
  refine lv_iconst (v := 1) hx hb dX6_placed_2 (by decide) ?_
  refine thn_I (run_V (As := [.int (nI j), .int 1]) (rest := []) C (k_X6_of l D cy z o d σ τ hk j 1 (by omega)) hP hS cw_X6_of (mA4 (i := 60) rfl rfl) hk ⟨rfl, rfl⟩ ⟨Nat.le_of_ble_eq_true rfl, Nat.le_of_ble_eq_true rfl⟩ rfl (Nat.le_of_ble_eq_true rfl) hl.1 ⟨Nat.zero_le _, Nat.zero_le _⟩ dX6_placed_3) hS (fun H locs hP hS => ?_)
  refine lv_aload_n hx hb dX6_placed_6 rfl (lv_at hl 0 rfl) ?_
  refine gf_X6_7 C hP hk dX6_placed_7 ?_
  refine lv_sipush (v := 229) hx hb dX6_placed_10 (by decide) ?_
  refine al_10 C hP (kd6_1 hk) vp229 dX6_placed_13 ?_
  rw [cl229]
  refine lv_irem hx hb dX6_placed_14 hC ?_
  refine lv_istore_n (lv' := [(2, .int ((f_X6_of τ j 1) - (f_X6_of τ j 1) / (τ 1 229) * (τ 1 229))), (0, .ref (z + k)), (1, .int (nI j))]) hx hb dX6_placed_15 rfl hl (by decide) rfl (fun ls hl => ?_)
  refine lv_iload_n hx hb dX6_placed_16 rfl (lv_at hl 0 rfl) ?_
  refine lv_if_ge (tgt := 33) hx hb dX6_placed_17 (by decide) (fun c_17 => ?_) (fun c_17 => ?_)
  · refine lv_iload_n hx hb dX6_placed_33 rfl (lv_at hl 0 rfl) ?_
    exact ret_I C hP hS (nar_i _) rfl (by unfold f_X6_placed; rw [if_pos c_17]) rfl rfl dX6_placed_34
  · refine lv_iload_n hx hb dX6_placed_20 rfl (lv_at hl 0 rfl) ?_
    refine lv_aload_n hx hb dX6_placed_21 rfl (lv_at hl 1 rfl) ?_
    refine gf_X6_7 C hP hk dX6_placed_22 ?_
    refine lv_sipush (v := 229) hx hb dX6_placed_25 (by decide) ?_
    refine al_10 C hP (kd6_1 hk) vp229 dX6_placed_28 ?_
    rw [cl229]
    refine lv_iadd hx hb dX6_placed_29 ?_
    refine lv_goto (tgt := 34) hx hb dX6_placed_30 (by decide) ?_
    exact ret_I C hP hS (nar_i _) rfl (by unfold f_X6_placed; rw [if_neg c_17]) rfl rfl dX6_placed_34

theorem cw_X6_meets : cwVt yX6_meets cX6_meets 4 (some .int) 6 1 := ⟨(mA4 (i := 117) rfl rfl), (mA0 (i := 22) rfl rfl), (mA1 (i := 7) rfl rfl), (mA4 (i := 118) rfl rfl), by decide +kernel, ⟨_, rfl, rfl⟩, by decide⟩
abbrev rm_X6_meets : Room := { frames := 2, cells := 0, slots := 0, locals := 44 }
def f_X6_meets (τ : Sg) (j : Nat) : Int32 :=
  if (τ 1 229) < (2 * (f_X6_placed τ j)) then
    (f_X6_placed τ j) - (τ 1 229)
  else
    f_X6_placed τ j
def t_X6_meets (τ : Sg) (j : Nat) : Sg :=
  if (τ 1 229) < (2 * (f_X6_placed τ j)) then
    t_X6_grow (t_X6_grow τ j 1 (-((f_X6_placed τ j) - (τ 1 229)))) j 4 (f_X6_size ((f_X6_placed τ j) - (τ 1 229)))
  else
    t_X6_grow (t_X6_grow τ j 1 (-(f_X6_placed τ j))) j 4 (f_X6_size (f_X6_placed τ j))
set_option maxHeartbeats 4000000 in
set_option maxRecDepth 100000 in
theorem k_X6_meets (l : Launch) (D : va_G) (cy : Nat → ClassId) (z : Nat) (o : Int64) (d : UInt64) (σ τ : Sg) {k : Nat} (hk : kd k = 6) (j : Nat) (hj : j < 4) (hC : ¬ τ 1 229 = 0) : KI l yX6_meets cX6_meets 4 (some .int) rm_X6_meets D cy z [.ref (z + k), .int (nI j)] o d σ τ (f_X6_meets τ j) σ (t_X6_meets τ j) := by
  refine met_of RX6 (plainFor_of_name (by decide)) rfl (Nat.le_of_ble_eq_true rfl) ?_
  intro p e s m args below meth c C hP hS ls hl
  obtain ⟨hx, hb, hr, hml, hown, hW, hlocks, hAm⟩ := id C
  have hl : lv_has ls 4 [(0, .ref (z + k)), (1, .int (nI j))] := hl
  refine lv_aload_n hx hb dX6_meets_0 rfl (lv_at hl 0 rfl) ?_
  refine lv_iload_n hx hb dX6_meets_1 rfl (lv_at hl 1 rfl) ?_
  refine thn_I (run_V (As := [.int (nI j)]) (rest := []) C (k_X6_placed l D cy z o d σ τ hk j hj hC) hP hS cw_X6_placed (mA4 (i := 119) rfl rfl) hk ⟨rfl, rfl⟩ ⟨Nat.le_of_ble_eq_true rfl, Nat.le_of_ble_eq_true rfl⟩ rfl (Nat.le_of_ble_eq_true rfl) hl.1 ⟨Nat.zero_le _, Nat.zero_le _⟩ dX6_meets_2) hS (fun H locs hP hS => ?_)
  refine lv_istore_n (lv' := [(2, .int (f_X6_placed τ j)), (0, .ref (z + k)), (1, .int (nI j))]) hx hb dX6_meets_5 rfl hl (by decide) rfl (fun ls hl => ?_)
  refine lv_iconst (v := 2) hx hb dX6_meets_6 (by decide) ?_
  refine lv_iload_n hx hb dX6_meets_7 rfl (lv_at hl 0 rfl) ?_
  refine lv_imul hx hb dX6_meets_8 ?_
  refine lv_aload_n hx hb dX6_meets_9 rfl (lv_at hl 1 rfl) ?_
  refine gf_X6_7 C hP hk dX6_meets_10 ?_
  refine lv_sipush (v := 229) hx hb dX6_meets_13 (by decide) ?_
  refine al_10 C hP (kd6_1 hk) vp229 dX6_meets_16 ?_
  rw [cl229]
  refine lv_icmp_gt (tgt := 24) hx hb dX6_meets_17 (by decide) (fun c_17 => ?_) (fun c_17 => ?_)
  · refine lv_iload_n hx hb dX6_meets_24 rfl (lv_at hl 0 rfl) ?_
    refine lv_aload_n hx hb dX6_meets_25 rfl (lv_at hl 1 rfl) ?_
    refine gf_X6_7 C hP hk dX6_meets_26 ?_
    refine lv_sipush (v := 229) hx hb dX6_meets_29 (by decide) ?_
    refine al_10 C hP (kd6_1 hk) vp229 dX6_meets_32 ?_
    rw [cl229]
    refine lv_isub hx hb dX6_meets_33 ?_
    refine lv_istore_n (lv' := [(3, .int ((f_X6_placed τ j) - (τ 1 229))), (2, .int (f_X6_placed τ j)), (0, .ref (z + k)), (1, .int (nI j))]) hx hb dX6_meets_34 rfl hl (by decide) rfl (fun ls hl => ?_)
    refine lv_aload_n hx hb dX6_meets_35 rfl (lv_at hl 2 rfl) ?_
    refine lv_iload_n hx hb dX6_meets_36 rfl (lv_at hl 3 rfl) ?_
    refine lv_iconst (v := 1) hx hb dX6_meets_37 (by decide) ?_
    refine lv_iload_n hx hb dX6_meets_38 rfl (lv_at hl 0 rfl) ?_
    refine lv_ineg hx hb dX6_meets_39 ?_
    refine thn_V (run_V (As := [.int (nI j), .int 1, .int (-((f_X6_placed τ j) - (τ 1 229)))]) (rest := []) C (k_X6_grow l D cy z o d σ τ hk j 1 (-((f_X6_placed τ j) - (τ 1 229))) (by omega)) hP hS cw_X6_grow (mA4 (i := 86) rfl rfl) hk ⟨rfl, rfl⟩ ⟨Nat.le_of_ble_eq_true rfl, Nat.le_of_ble_eq_true rfl⟩ rfl (Nat.le_of_ble_eq_true rfl) hl.1 ⟨Nat.zero_le _, Nat.zero_le _⟩ dX6_meets_40) hS (fun H locs hP hS => ?_)
    refine lv_aload_n hx hb dX6_meets_43 rfl (lv_at hl 2 rfl) ?_
    refine lv_iload_n hx hb dX6_meets_44 rfl (lv_at hl 3 rfl) ?_
    refine lv_iconst (v := 4) hx hb dX6_meets_45 (by decide) ?_
    refine lv_iload_n hx hb dX6_meets_46 rfl (lv_at hl 0 rfl) ?_
    refine thn_I (run_S (As := [.int ((f_X6_placed τ j) - (τ 1 229))]) (rest := [.int 4, .int (nI j), .ref (z + k)]) C (k_X6_size l D cy z o d σ (t_X6_grow τ j 1 (-((f_X6_placed τ j) - (τ 1 229)))) ((f_X6_placed τ j) - (τ 1 229))) hP hS cw_X6_size (mA4 (i := 75) rfl rfl) ⟨rfl, rfl⟩ ⟨Nat.le_of_ble_eq_true rfl, Nat.le_of_ble_eq_true rfl⟩ rfl (Nat.le_of_ble_eq_true rfl) hl.1 ⟨Nat.zero_le _, Nat.zero_le _⟩ dX6_meets_47) hS (fun H locs hP hS => ?_)
    refine thn_V (run_V (As := [.int (nI j), .int 4, .int (f_X6_size ((f_X6_placed τ j) - (τ 1 229)))]) (rest := []) C (k_X6_grow l D cy z o d σ (t_X6_grow τ j 1 (-((f_X6_placed τ j) - (τ 1 229)))) hk j 4 (f_X6_size ((f_X6_placed τ j) - (τ 1 229))) (by omega)) hP hS cw_X6_grow (mA4 (i := 86) rfl rfl) hk ⟨rfl, rfl⟩ ⟨Nat.le_of_ble_eq_true rfl, Nat.le_of_ble_eq_true rfl⟩ rfl (Nat.le_of_ble_eq_true rfl) hl.1 ⟨Nat.zero_le _, Nat.zero_le _⟩ dX6_meets_50) hS (fun H locs hP hS => ?_)
    refine lv_iload_n hx hb dX6_meets_53 rfl (lv_at hl 0 rfl) ?_
    exact ret_I C hP hS (nar_i _) rfl (by unfold f_X6_meets; rw [if_pos c_17]) rfl (by unfold t_X6_meets; rw [if_pos c_17]) dX6_meets_54
  · refine lv_iload_n hx hb dX6_meets_20 rfl (lv_at hl 0 rfl) ?_
    refine lv_goto (tgt := 34) hx hb dX6_meets_21 (by decide) ?_
    refine lv_istore_n (lv' := [(3, .int (f_X6_placed τ j)), (2, .int (f_X6_placed τ j)), (0, .ref (z + k)), (1, .int (nI j))]) hx hb dX6_meets_34 rfl hl (by decide) rfl (fun ls hl => ?_)
    refine lv_aload_n hx hb dX6_meets_35 rfl (lv_at hl 2 rfl) ?_
    refine lv_iload_n hx hb dX6_meets_36 rfl (lv_at hl 3 rfl) ?_
    refine lv_iconst (v := 1) hx hb dX6_meets_37 (by decide) ?_
    refine lv_iload_n hx hb dX6_meets_38 rfl (lv_at hl 0 rfl) ?_
    refine lv_ineg hx hb dX6_meets_39 ?_
    refine thn_V (run_V (As := [.int (nI j), .int 1, .int (-(f_X6_placed τ j))]) (rest := []) C (k_X6_grow l D cy z o d σ τ hk j 1 (-(f_X6_placed τ j)) (by omega)) hP hS cw_X6_grow (mA4 (i := 86) rfl rfl) hk ⟨rfl, rfl⟩ ⟨Nat.le_of_ble_eq_true rfl, Nat.le_of_ble_eq_true rfl⟩ rfl (Nat.le_of_ble_eq_true rfl) hl.1 ⟨Nat.zero_le _, Nat.zero_le _⟩ dX6_meets_40) hS (fun H locs hP hS => ?_)
    refine lv_aload_n hx hb dX6_meets_43 rfl (lv_at hl 2 rfl) ?_
    refine lv_iload_n hx hb dX6_meets_44 rfl (lv_at hl 3 rfl) ?_
    refine lv_iconst (v := 4) hx hb dX6_meets_45 (by decide) ?_
    refine lv_iload_n hx hb dX6_meets_46 rfl (lv_at hl 0 rfl) ?_
    refine thn_I (run_S (As := [.int (f_X6_placed τ j)]) (rest := [.int 4, .int (nI j), .ref (z + k)]) C (k_X6_size l D cy z o d σ (t_X6_grow τ j 1 (-(f_X6_placed τ j))) (f_X6_placed τ j)) hP hS cw_X6_size (mA4 (i := 75) rfl rfl) ⟨rfl, rfl⟩ ⟨Nat.le_of_ble_eq_true rfl, Nat.le_of_ble_eq_true rfl⟩ rfl (Nat.le_of_ble_eq_true rfl) hl.1 ⟨Nat.zero_le _, Nat.zero_le _⟩ dX6_meets_47) hS (fun H locs hP hS => ?_)
    refine thn_V (run_V (As := [.int (nI j), .int 4, .int (f_X6_size (f_X6_placed τ j))]) (rest := []) C (k_X6_grow l D cy z o d σ (t_X6_grow τ j 1 (-(f_X6_placed τ j))) hk j 4 (f_X6_size (f_X6_placed τ j)) (by omega)) hP hS cw_X6_grow (mA4 (i := 86) rfl rfl) hk ⟨rfl, rfl⟩ ⟨Nat.le_of_ble_eq_true rfl, Nat.le_of_ble_eq_true rfl⟩ rfl (Nat.le_of_ble_eq_true rfl) hl.1 ⟨Nat.zero_le _, Nat.zero_le _⟩ dX6_meets_50) hS (fun H locs hP hS => ?_)
    refine lv_iload_n hx hb dX6_meets_53 rfl (lv_at hl 0 rfl) ?_
    exact ret_I C hP hS (nar_i _) rfl (by unfold f_X6_meets; rw [if_neg c_17]) rfl (by unfold t_X6_meets; rw [if_neg c_17]) dX6_meets_54


theorem cw_X5_snailNumbered : cwVt yX5_snailNumbered cX5_snailNumbered 2 (some (.object "QuadSnail$Snail")) 5 1 := ⟨(mA1 (i := 200) rfl rfl), (mA0 (i := 0) rfl rfl), (mA1 (i := 1) rfl rfl), (mA1 (i := 201) rfl rfl), by decide +kernel, ⟨_, rfl, rfl⟩, by decide⟩
def f_X5_snailNumbered (σ : Sg) (k : Nat) (x : Int32) : Nat :=
  if x < 0 then
    (k + 1) + 1
  else
    if x < 4 then
      f_X0_snail σ (k + 1) x
    else
      (k + 1) + 1
def x_X5_snailNumbered (σ : Sg) (k : Nat) (x : Int32) : Nat :=
  if x < 0 then
    1
  else
    if x < 4 then
      0
    else
      1
set_option maxHeartbeats 4000000 in
set_option maxRecDepth 100000 in
theorem k_X5_snailNumbered (l : Launch) (hfl : l.stackTraces = false) (D : va_G) (cy : Nat → ClassId) (z : Nat) (o : Int64) (d : UInt64) (σ τ : Sg) {k : Nat} (hk : kd k = 5) (x : Int32) : KT l yX5_snailNumbered cX5_snailNumbered 2 (some (.object "QuadSnail$Snail")) 6 82 D cy z [.ref (z + k), .int x] o d σ τ (x_X5_snailNumbered σ k x) (PoTR D cy z o d (x_X5_snailNumbered σ k x) (f_X5_snailNumbered σ k x) σ τ) σ τ := by
  refine metT_of RX5 (by decide) rfl (Nat.le_of_ble_eq_true rfl) ?_
  intro p e s m args below meth c C hno hP hS ls hl
  obtain ⟨hx, hb, hr, hml, hown, hW, hlocks, hAm⟩ := id C
  have hl : lv_has ls 2 [(0, .ref (z + k)), (1, .int x)] := hl
  refine lv_iload_n hx hb dX5_snailNumbered_0 rfl (lv_at hl 1 rfl) ?_
  refine lv_if_lt (tgt := 9) hx hb dX5_snailNumbered_1 (by decide) (fun c_1 => ?_) (fun c_1 => ?_)
  · exact thr_X5 C hno hfl hP hS (ik := 188) (is := 212) (ic := 192) (T := 1) (text := "no such snail") (by unfold x_X5_snailNumbered; rw [if_pos c_1]) (by decide) (by decide) vxi_1.1 vxi_1.2.1 vxi_1.2.2 (vxw vxa_x1) vxb_x1 vxc_x1 hl.1 dX5_snailNumbered_9 dX5_snailNumbered_12 dX5_snailNumbered_13 dX5_snailNumbered_15 dX5_snailNumbered_18 (by decide) (by decide) rfl rfl
  · refine lv_iload_n hx hb dX5_snailNumbered_4 rfl (lv_at hl 1 rfl) ?_
    refine lv_iconst (v := 4) hx hb dX5_snailNumbered_5 (by decide) ?_
    refine lv_icmp_lt (tgt := 19) hx hb dX5_snailNumbered_6 (by decide) (fun c_6 => ?_) (fun c_6 => ?_)
    · refine lv_aload_n hx hb dX5_snailNumbered_19 rfl (lv_at hl 0 rfl) ?_
      refine gf_X5_10 C hP hk dX5_snailNumbered_20 ?_
      refine lv_iload_n hx hb dX5_snailNumbered_23 rfl (lv_at hl 1 rfl) ?_
      refine thn_R (run_V (As := [.int x]) (rest := []) C (k_X0_snail l D cy z o d σ τ (kd5_1 hk) x) hP hS cw_X0_snail (mA2 (i := 30) rfl rfl) (kd5_1 hk) ⟨rfl, rfl⟩ ⟨Nat.le_of_ble_eq_true rfl, Nat.le_of_ble_eq_true rfl⟩ rfl (Nat.le_of_ble_eq_true rfl) hl.1 ⟨Nat.zero_le _, Nat.zero_le _⟩ dX5_snailNumbered_24) hS (fun H locs hP hS => ?_)
      exact retT_R C hP hS rfl (by unfold x_X5_snailNumbered; rw [if_neg c_1, if_pos c_6]) (by unfold f_X5_snailNumbered; rw [if_neg c_1, if_pos c_6]) rfl rfl dX5_snailNumbered_27
    · exact thr_X5 C hno hfl hP hS (ik := 188) (is := 212) (ic := 192) (T := 1) (text := "no such snail") (by unfold x_X5_snailNumbered; rw [if_neg c_1, if_neg c_6]) (by decide) (by decide) vxi_1.1 vxi_1.2.1 vxi_1.2.2 (vxw vxa_x1) vxb_x1 vxc_x1 hl.1 dX5_snailNumbered_9 dX5_snailNumbered_12 dX5_snailNumbered_13 dX5_snailNumbered_15 dX5_snailNumbered_18 (by decide) (by decide) rfl rfl
theorem kr_X5_snailNumbered (σ : Sg) {k : Nat} (hk : kd k = 5) (x : Int32) : kd (f_X5_snailNumbered σ k x) = 4 := by
  unfold f_X5_snailNumbered
  repeat' split
  all_goals first | exact kr_X0_snail σ (kd5_1 hk) _ | exact kd0_1 (kd5_1 hk)

theorem cw_X5_demandState : cwSt yX5_demandState cX5_demandState 1 none 1 := ⟨(mA2 (i := 35) rfl rfl), (mA1 (i := 1) rfl rfl), (mA2 (i := 36) rfl rfl), by decide +kernel⟩
def x_X5_demandState  (x : Int32) : Nat :=
  if x < 0 then
    2
  else
    if x < 4 then
      0
    else
      2
set_option maxHeartbeats 4000000 in
set_option maxRecDepth 100000 in
theorem k_X5_demandState (l : Launch) (hfl : l.stackTraces = false) (D : va_G) (cy : Nat → ClassId) (z : Nat) (o : Int64) (d : UInt64) (σ τ : Sg) (x : Int32) : KT l yX5_demandState cX5_demandState 1 none 6 82 D cy z [.int x] o d σ τ (x_X5_demandState x) (PoTV D cy z o d (x_X5_demandState x) σ τ) σ τ := by
  refine metT_of RX5 (by decide) rfl (Nat.le_of_ble_eq_true rfl) ?_
  intro p e s m args below meth c C hno hP hS ls hl
  obtain ⟨hx, hb, hr, hml, hown, hW, hlocks, hAm⟩ := id C
  have hl : lv_has ls 1 [(0, .int x)] := hl
  refine lv_iload_n hx hb dX5_demandState_0 rfl (lv_at hl 0 rfl) ?_
  refine lv_if_lt (tgt := 9) hx hb dX5_demandState_1 (by decide) (fun c_1 => ?_) (fun c_1 => ?_)
  · exact thr_X5 C hno hfl hP hS (ik := 44) (is := 214) (ic := 48) (T := 2) (text := "state out of range") (by unfold x_X5_demandState; rw [if_pos c_1]) (by decide) (by decide) vxi_2.1 vxi_2.2.1 vxi_2.2.2 (vxw vxa_x2) vxb_x2 vxc_x2 hl.1 dX5_demandState_9 dX5_demandState_12 dX5_demandState_13 dX5_demandState_15 dX5_demandState_18 (by decide) (by decide) rfl rfl
  · refine lv_iload_n hx hb dX5_demandState_4 rfl (lv_at hl 0 rfl) ?_
    refine lv_iconst (v := 4) hx hb dX5_demandState_5 (by decide) ?_
    refine lv_icmp_lt (tgt := 19) hx hb dX5_demandState_6 (by decide) (fun c_6 => ?_) (fun c_6 => ?_)
    · exact retT_V C hP hS (by unfold x_X5_demandState; rw [if_neg c_1, if_pos c_6]) rfl rfl dX5_demandState_19
    · exact thr_X5 C hno hfl hP hS (ik := 44) (is := 214) (ic := 48) (T := 2) (text := "state out of range") (by unfold x_X5_demandState; rw [if_neg c_1, if_neg c_6]) (by decide) (by decide) vxi_2.1 vxi_2.2.1 vxi_2.2.2 (vxw vxa_x2) vxb_x2 vxc_x2 hl.1 dX5_demandState_9 dX5_demandState_12 dX5_demandState_13 dX5_demandState_15 dX5_demandState_18 (by decide) (by decide) rfl rfl

theorem cw_X5_demandRoom : cwSt yX5_demandRoom cX5_demandRoom 3 none 3 := ⟨(mA2 (i := 101) rfl rfl), (mA1 (i := 1) rfl rfl), (mA2 (i := 102) rfl rfl), by decide +kernel⟩
def x_X5_demandRoom (σ : Sg) (j : Nat) (x : Int32) (y : Int32) : Nat :=
  if (f_X4_hasRoom σ j x y) = 0 then
    3
  else
    0
set_option maxHeartbeats 4000000 in
set_option maxRecDepth 100000 in
theorem k_X5_demandRoom (l : Launch) (hfl : l.stackTraces = false) (D : va_G) (cy : Nat → ClassId) (z : Nat) (o : Int64) (d : UInt64) (σ τ : Sg) (j : Nat) (hk_j : kd j = 4) (x : Int32) (y : Int32) : KT l yX5_demandRoom cX5_demandRoom 3 none 6 82 D cy z [.ref (z + j), .int x, .int y] o d σ τ (x_X5_demandRoom σ j x y) (PoTV D cy z o d (x_X5_demandRoom σ j x y) σ τ) σ τ := by
  refine metT_of RX5 (by decide) rfl (Nat.le_of_ble_eq_true rfl) ?_
  intro p e s m args below meth c C hno hP hS ls hl
  obtain ⟨hx, hb, hr, hml, hown, hW, hlocks, hAm⟩ := id C
  have hl : lv_has ls 3 [(0, .ref (z + j)), (1, .int x), (2, .int y)] := hl
  refine lv_aload_n hx hb dX5_demandRoom_0 rfl (lv_at hl 0 rfl) ?_
  refine lv_iload_n hx hb dX5_demandRoom_1 rfl (lv_at hl 1 rfl) ?_
  refine lv_iload_n hx hb dX5_demandRoom_2 rfl (lv_at hl 2 rfl) ?_
  refine thn_I (run_V (As := [.int x, .int y]) (rest := []) C (k_X4_hasRoom l D cy z o d σ τ hk_j x y) hP hS cw_X4_hasRoom (mA2 (i := 103) rfl rfl) hk_j ⟨rfl, rfl⟩ ⟨Nat.le_of_ble_eq_true rfl, Nat.le_of_ble_eq_true rfl⟩ rfl (Nat.le_of_ble_eq_true rfl) hl.1 ⟨Nat.zero_le _, Nat.zero_le _⟩ dX5_demandRoom_3) hS (fun H locs hP hS => ?_)
  refine lv_if_ne (tgt := 19) hx hb dX5_demandRoom_6 (by decide) (fun c_6 => ?_) (fun c_6 => ?_)
  · exact retT_V C hP hS (by unfold x_X5_demandRoom; rw [if_neg c_6]) rfl rfl dX5_demandRoom_19
  · exact thr_X5 C hno hfl hP hS (ik := 99) (is := 220) (ic := 103) (T := 3) (text := "ticks or distance too great") (by unfold x_X5_demandRoom; rw [if_pos c_6]) (by decide) (by decide) vxi_3.1 vxi_3.2.1 vxi_3.2.2 (vxw vxa_x3) vxb_x3 vxc_x3 hl.1 dX5_demandRoom_9 dX5_demandRoom_12 dX5_demandRoom_13 dX5_demandRoom_15 dX5_demandRoom_18 (by decide) (by decide) rfl rfl


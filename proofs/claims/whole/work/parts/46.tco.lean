theorem cw_X6_impossibleOrder : cwVt yX6_impossibleOrder cX6_impossibleOrder 2 (some .int) 6 0 := ⟨(mA4 (i := 176) rfl rfl), (mA4 (i := 177) rfl rfl), (mA1 (i := 7) rfl rfl), (mA4 (i := 178) rfl rfl), by decide +kernel, ⟨_, rfl, rfl⟩, by decide⟩
abbrev rm_X6_impossibleOrder : Room := { frames := 8, cells := 0, slots := 0, locals := 186 }
def f_X6_impossibleOrder (τ : Sg) : Int32 :=
  if ((t_X6_go_0 (up τ 0 8 0)) 0 10) = 0 then
    if (f_X6_isPossible (t_X6_go_0 (up τ 0 8 0))) = 0 then
      (t_X6_isPossible (t_X6_go_0 (up τ 0 8 0))) 0 11
    else
      (-1)
  else
    f_X6_throwing (t_X6_go_0 (up τ 0 8 0)) 1
def t_X6_impossibleOrder (τ : Sg) : Sg :=
  if ((t_X6_go_0 (up τ 0 8 0)) 0 10) = 0 then
    if (f_X6_isPossible (t_X6_go_0 (up τ 0 8 0))) = 0 then
      t_X6_isPossible (t_X6_go_0 (up τ 0 8 0))
    else
      t_X6_isPossible (t_X6_go_0 (up τ 0 8 0))
  else
    t_X6_throwing (t_X6_go_0 (up τ 0 8 0)) 1
set_option maxHeartbeats 4000000 in
set_option maxRecDepth 100000 in
theorem k_X6_impossibleOrder (l : Launch) (D : va_G) (cy : Nat → ClassId) (z : Nat) (o : Int64) (d : UInt64) (σ τ : Sg) {k : Nat} (hk : kd k = 6) (hM : MI τ) (hT : TLI τ) : KI l yX6_impossibleOrder cX6_impossibleOrder 2 (some .int) rm_X6_impossibleOrder D cy z [.ref (z + k)] o d σ τ (f_X6_impossibleOrder τ) σ (t_X6_impossibleOrder τ) := by
  refine met_of RX6 (plainFor_of_name (by decide)) rfl (Nat.le_of_ble_eq_true rfl) ?_
  intro p e s m args below meth c C hP hS ls hl
  obtain ⟨hx, hb, hr, hml, hown, hW, hlocks, hAm⟩ := id C
  have hl : lv_has ls 2 [(0, .ref (z + k))] := hl
  refine lv_aload_n hx hb dX6_impossibleOrder_0 rfl (lv_at hl 0 rfl) ?_
  refine lv_iconst (v := 0) hx hb dX6_impossibleOrder_1 (by decide) ?_
  refine pf_X6_25 C hP hS hk dX6_impossibleOrder_2 (fun H locs hP hS => ?_)
  refine lv_aload_n hx hb dX6_impossibleOrder_5 rfl (lv_at hl 0 rfl) ?_
  refine lv_iconst (v := 0) hx hb dX6_impossibleOrder_6 (by decide) ?_
  refine thn_I (run_V (As := [.int 0]) (rest := []) C (k_X6_go_0 l D cy z o d σ (up τ 0 8 0) hk hT) hP hS cw_X6_go (mA4 (i := 155) rfl rfl) hk ⟨rfl, rfl⟩ ⟨Nat.le_of_ble_eq_true rfl, Nat.le_of_ble_eq_true rfl⟩ rfl (Nat.le_of_ble_eq_true rfl) hl.1 ⟨Nat.zero_le _, Nat.zero_le _⟩ dX6_impossibleOrder_7) hS (fun H locs hP hS => ?_)
  refine lv_istore_n (lv' := [(1, .int (f_X6_go_0 (up τ 0 8 0))), (0, .ref (z + k))]) hx hb dX6_impossibleOrder_10 rfl hl (by decide) rfl (fun ls hl => ?_)
  refine lv_aload_n hx hb dX6_impossibleOrder_11 rfl (lv_at hl 1 rfl) ?_
  refine gf_X6_110 C hP hk dX6_impossibleOrder_12 ?_
  refine lv_if_eq (tgt := 24) hx hb dX6_impossibleOrder_15 (by decide) (fun c_15 => ?_) (fun c_15 => ?_)
  · refine lv_aload_n hx hb dX6_impossibleOrder_24 rfl (lv_at hl 1 rfl) ?_
    refine thn_I (run_V (As := []) (rest := []) C (k_X6_isPossible l D cy z o d σ (t_X6_go_0 (up τ 0 8 0)) hk hM.up8.go0 (TLI.go0 hT) (po_b c_15)) hP hS cw_X6_isPossible (mA4 (i := 179) rfl rfl) hk ⟨rfl, rfl⟩ ⟨Nat.le_of_ble_eq_true rfl, Nat.le_of_ble_eq_true rfl⟩ rfl (Nat.le_of_ble_eq_true rfl) hl.1 ⟨Nat.zero_le _, Nat.zero_le _⟩ dX6_impossibleOrder_25) hS (fun H locs hP hS => ?_)
    refine lv_if_eq (tgt := 35) hx hb dX6_impossibleOrder_28 (by decide) (fun c_28 => ?_) (fun c_28 => ?_)
    · refine lv_aload_n hx hb dX6_impossibleOrder_35 rfl (lv_at hl 1 rfl) ?_
      refine gf_X6_124 C hP hk dX6_impossibleOrder_36 ?_
      exact ret_I C hP hS (nar_i _) rfl (by unfold f_X6_impossibleOrder; rw [if_pos c_15, if_pos c_28]) rfl (by unfold t_X6_impossibleOrder; rw [if_pos c_15, if_pos c_28]) dX6_impossibleOrder_39
    · refine lv_iconst (v := (-1)) hx hb dX6_impossibleOrder_31 (by decide) ?_
      refine lv_goto (tgt := 39) hx hb dX6_impossibleOrder_32 (by decide) ?_
      exact ret_I C hP hS (nar_i _) rfl (by unfold f_X6_impossibleOrder; rw [if_pos c_15, if_neg c_28]) rfl (by unfold t_X6_impossibleOrder; rw [if_pos c_15, if_neg c_28]) dX6_impossibleOrder_39
  · refine lv_aload_n hx hb dX6_impossibleOrder_18 rfl (lv_at hl 1 rfl) ?_
    refine lv_iconst (v := 1) hx hb dX6_impossibleOrder_19 (by decide) ?_
    refine thn_I (run_V (As := [.int 1]) (rest := []) C (k_X6_throwing l D cy z o d σ (t_X6_go_0 (up τ 0 8 0)) hk 1) hP hS cw_X6_throwing (mA4 (i := 52) rfl rfl) hk ⟨rfl, rfl⟩ ⟨Nat.le_of_ble_eq_true rfl, Nat.le_of_ble_eq_true rfl⟩ rfl (Nat.le_of_ble_eq_true rfl) hl.1 ⟨Nat.zero_le _, Nat.zero_le _⟩ dX6_impossibleOrder_20) hS (fun H locs hP hS => ?_)
    exact ret_I C hP hS (nar_i _) rfl (by unfold f_X6_impossibleOrder; rw [if_neg c_15]) rfl (by unfold t_X6_impossibleOrder; rw [if_neg c_15]) dX6_impossibleOrder_23

theorem cw_X6_carryOut : cwVt yX6_carryOut cX6_carryOut 2 (some .int) 6 0 := ⟨(mA4 (i := 184) rfl rfl), (mA4 (i := 185) rfl rfl), (mA1 (i := 7) rfl rfl), (mA4 (i := 186) rfl rfl), by decide +kernel, ⟨_, rfl, rfl⟩, by decide⟩
abbrev rm_X6_carryOut : Room := { frames := 8, cells := 0, slots := 0, locals := 186 }
def f_X6_carryOut (τ : Sg) : Int32 :=
  if ((t_X6_go_0 (up τ 0 8 0)) 0 10) = 0 then
    if (f_X6_isPossible (t_X6_go_0 (up τ 0 8 0))) = 0 then
      f_X6_throwing (t_X6_isPossible (t_X6_go_0 (up τ 0 8 0))) 1
    else
      (t_X6_go_1 (t_X6_record (t_X6_isPossible (t_X6_go_0 (up τ 0 8 0))))) 0 11
  else
    f_X6_throwing (t_X6_go_0 (up τ 0 8 0)) 1
def t_X6_carryOut (τ : Sg) : Sg :=
  if ((t_X6_go_0 (up τ 0 8 0)) 0 10) = 0 then
    if (f_X6_isPossible (t_X6_go_0 (up τ 0 8 0))) = 0 then
      t_X6_throwing (t_X6_isPossible (t_X6_go_0 (up τ 0 8 0))) 1
    else
      t_X6_go_1 (t_X6_record (t_X6_isPossible (t_X6_go_0 (up τ 0 8 0))))
  else
    t_X6_throwing (t_X6_go_0 (up τ 0 8 0)) 1
set_option maxHeartbeats 4000000 in
set_option maxRecDepth 100000 in
theorem k_X6_carryOut (l : Launch) (D : va_G) (cy : Nat → ClassId) (z : Nat) (o : Int64) (d : UInt64) (σ τ : Sg) {k : Nat} (hk : kd k = 6) (hM : MI τ) (hT : TLI τ) : KI l yX6_carryOut cX6_carryOut 2 (some .int) rm_X6_carryOut D cy z [.ref (z + k)] o d σ τ (f_X6_carryOut τ) σ (t_X6_carryOut τ) := by
  refine met_of RX6 (plainFor_of_name (by decide)) rfl (Nat.le_of_ble_eq_true rfl) ?_
  intro p e s m args below meth c C hP hS ls hl
  obtain ⟨hx, hb, hr, hml, hown, hW, hlocks, hAm⟩ := id C
  have hl : lv_has ls 2 [(0, .ref (z + k))] := hl
  refine lv_aload_n hx hb dX6_carryOut_0 rfl (lv_at hl 0 rfl) ?_
  refine lv_iconst (v := 0) hx hb dX6_carryOut_1 (by decide) ?_
  refine pf_X6_25 C hP hS hk dX6_carryOut_2 (fun H locs hP hS => ?_)
  refine lv_aload_n hx hb dX6_carryOut_5 rfl (lv_at hl 0 rfl) ?_
  refine lv_iconst (v := 0) hx hb dX6_carryOut_6 (by decide) ?_
  refine thn_I (run_V (As := [.int 0]) (rest := []) C (k_X6_go_0 l D cy z o d σ (up τ 0 8 0) hk hT) hP hS cw_X6_go (mA4 (i := 155) rfl rfl) hk ⟨rfl, rfl⟩ ⟨Nat.le_of_ble_eq_true rfl, Nat.le_of_ble_eq_true rfl⟩ rfl (Nat.le_of_ble_eq_true rfl) hl.1 ⟨Nat.zero_le _, Nat.zero_le _⟩ dX6_carryOut_7) hS (fun H locs hP hS => ?_)
  refine lv_istore_n (lv' := [(1, .int (f_X6_go_0 (up τ 0 8 0))), (0, .ref (z + k))]) hx hb dX6_carryOut_10 rfl hl (by decide) rfl (fun ls hl => ?_)
  refine lv_aload_n hx hb dX6_carryOut_11 rfl (lv_at hl 1 rfl) ?_
  refine gf_X6_110 C hP hk dX6_carryOut_12 ?_
  refine lv_if_ne (tgt := 25) hx hb dX6_carryOut_15 (by decide) (fun c_15 => ?_) (fun c_15 => ?_)
  · refine lv_aload_n hx hb dX6_carryOut_25 rfl (lv_at hl 1 rfl) ?_
    refine lv_iconst (v := 1) hx hb dX6_carryOut_26 (by decide) ?_
    refine thn_I (run_V (As := [.int 1]) (rest := []) C (k_X6_throwing l D cy z o d σ (t_X6_go_0 (up τ 0 8 0)) hk 1) hP hS cw_X6_throwing (mA4 (i := 52) rfl rfl) hk ⟨rfl, rfl⟩ ⟨Nat.le_of_ble_eq_true rfl, Nat.le_of_ble_eq_true rfl⟩ rfl (Nat.le_of_ble_eq_true rfl) hl.1 ⟨Nat.zero_le _, Nat.zero_le _⟩ dX6_carryOut_27) hS (fun H locs hP hS => ?_)
    exact ret_I C hP hS (nar_i _) rfl (by unfold f_X6_carryOut; rw [if_neg c_15]) rfl (by unfold t_X6_carryOut; rw [if_neg c_15]) dX6_carryOut_30
  · refine lv_aload_n hx hb dX6_carryOut_18 rfl (lv_at hl 1 rfl) ?_
    refine thn_I (run_V (As := []) (rest := []) C (k_X6_isPossible l D cy z o d σ (t_X6_go_0 (up τ 0 8 0)) hk hM.up8.go0 (TLI.go0 hT) (po_b c_15)) hP hS cw_X6_isPossible (mA4 (i := 179) rfl rfl) hk ⟨rfl, rfl⟩ ⟨Nat.le_of_ble_eq_true rfl, Nat.le_of_ble_eq_true rfl⟩ rfl (Nat.le_of_ble_eq_true rfl) hl.1 ⟨Nat.zero_le _, Nat.zero_le _⟩ dX6_carryOut_19) hS (fun H locs hP hS => ?_)
    refine lv_if_ne (tgt := 31) hx hb dX6_carryOut_22 (by decide) (fun c_22 => ?_) (fun c_22 => ?_)
    · refine lv_aload_n hx hb dX6_carryOut_31 rfl (lv_at hl 1 rfl) ?_
      refine thn_V (run_V (As := []) (rest := []) C (k_X6_record l D cy z o d σ (t_X6_isPossible (t_X6_go_0 (up τ 0 8 0))) hk hM.up8.go0.poss) hP hS cw_X6_record (mA4 (i := 78) rfl rfl) hk ⟨rfl, rfl⟩ ⟨Nat.le_of_ble_eq_true rfl, Nat.le_of_ble_eq_true rfl⟩ rfl (Nat.le_of_ble_eq_true rfl) hl.1 ⟨Nat.zero_le _, Nat.zero_le _⟩ dX6_carryOut_32) hS (fun H locs hP hS => ?_)
      refine lv_aload_n hx hb dX6_carryOut_35 rfl (lv_at hl 1 rfl) ?_
      refine lv_iconst (v := 1) hx hb dX6_carryOut_36 (by decide) ?_
      refine thn_I (run_V (As := [.int 1]) (rest := []) C (k_X6_go_1 l D cy z o d σ (t_X6_record (t_X6_isPossible (t_X6_go_0 (up τ 0 8 0)))) hk hM.up8.go0.poss.rec (TLI.rec (TLI.poss (TLI.go0 hT))) (co_b c_15)) hP hS cw_X6_go (mA4 (i := 155) rfl rfl) hk ⟨rfl, rfl⟩ ⟨Nat.le_of_ble_eq_true rfl, Nat.le_of_ble_eq_true rfl⟩ rfl (Nat.le_of_ble_eq_true rfl) hl.1 ⟨Nat.zero_le _, Nat.zero_le _⟩ dX6_carryOut_37) hS (fun H locs hP hS => ?_)
      refine lv_istore_n (lv' := [(1, .int (f_X6_go_1 (t_X6_record (t_X6_isPossible (t_X6_go_0 (up τ 0 8 0)))))), (0, .ref (z + k))]) hx hb dX6_carryOut_40 rfl hl (by decide) rfl (fun ls hl => ?_)
      refine lv_aload_n hx hb dX6_carryOut_41 rfl (lv_at hl 1 rfl) ?_
      refine gf_X6_124 C hP hk dX6_carryOut_42 ?_
      exact ret_I C hP hS (nar_i _) rfl (by unfold f_X6_carryOut; rw [if_pos c_15, if_neg c_22]) rfl (by unfold t_X6_carryOut; rw [if_pos c_15, if_neg c_22]) dX6_carryOut_45
    · refine lv_aload_n hx hb dX6_carryOut_25 rfl (lv_at hl 1 rfl) ?_
      refine lv_iconst (v := 1) hx hb dX6_carryOut_26 (by decide) ?_
      refine thn_I (run_V (As := [.int 1]) (rest := []) C (k_X6_throwing l D cy z o d σ (t_X6_isPossible (t_X6_go_0 (up τ 0 8 0))) hk 1) hP hS cw_X6_throwing (mA4 (i := 52) rfl rfl) hk ⟨rfl, rfl⟩ ⟨Nat.le_of_ble_eq_true rfl, Nat.le_of_ble_eq_true rfl⟩ rfl (Nat.le_of_ble_eq_true rfl) hl.1 ⟨Nat.zero_le _, Nat.zero_le _⟩ dX6_carryOut_27) hS (fun H locs hP hS => ?_)
      exact ret_I C hP hS (nar_i _) rfl (by unfold f_X6_carryOut; rw [if_pos c_15, if_pos c_22]) rfl (by unfold t_X6_carryOut; rw [if_pos c_15, if_pos c_22]) dX6_carryOut_30


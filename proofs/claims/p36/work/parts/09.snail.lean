theorem cw_X4_ring : cwSt yX4_ring cX4_ring 1 (some .int) 1 := ⟨(mA2 (i := 62) rfl rfl), (mA1 (i := 3) rfl rfl), (mA2 (i := 63) rfl rfl), by decide +kernel⟩
abbrev rm_X4_ring : Room := { frames := 0, cells := 0, slots := 0, locals := 0 }
def f_X4_ring  (x : Int32) : Int32 :=
  x ^^^ (x >>> (1 &&& 31))
set_option maxHeartbeats 4000000 in
set_option maxRecDepth 100000 in
theorem k_X4_ring (l : Launch) (D : va_G) (cy : Nat → ClassId) (z : Nat) (o : Int64) (d : UInt64) (σ τ : Sg) (x : Int32) : KI l yX4_ring cX4_ring 1 (some .int) rm_X4_ring D cy z [.int x] o d σ τ (f_X4_ring x) σ τ := by
  refine met_of RX4 (plainFor_of_name (by decide)) rfl (Nat.le_of_ble_eq_true rfl) ?_
  intro p e s m args below meth c C hP hS ls hl
  obtain ⟨hx, hb, hr, hml, hown, hW, hlocks, hAm⟩ := id C
  have hl : lv_has ls 1 [(0, .int x)] := hl
  refine lv_iload_n hx hb dX4_ring_0 rfl (lv_at hl 0 rfl) ?_
  refine lv_iload_n hx hb dX4_ring_1 rfl (lv_at hl 0 rfl) ?_
  refine lv_iconst (v := 1) hx hb dX4_ring_2 (by decide) ?_
  refine lv_ishr hx hb dX4_ring_3 ?_
  refine lv_ixor hx hb dX4_ring_4 ?_
  exact ret_I C hP hS (nar_i _) rfl rfl rfl rfl dX4_ring_5

theorem cw_X4_neighbour : cwVt yX4_neighbour cX4_neighbour 2 (some .int) 4 1 := ⟨(mA2 (i := 58) rfl rfl), (mA2 (i := 59) rfl rfl), (mA1 (i := 3) rfl rfl), (mA2 (i := 60) rfl rfl), by decide +kernel, ⟨_, rfl, rfl⟩, by decide⟩
abbrev rm_X4_neighbour : Room := { frames := 1, cells := 0, slots := 0, locals := 20 }
def f_X4_neighbour (σ : Sg) (k : Nat) (x : Int32) : Int32 :=
  f_X4_ring (((f_X4_ring (σ k 1)) + x) &&& 3)
set_option maxHeartbeats 4000000 in
set_option maxRecDepth 100000 in
theorem k_X4_neighbour (l : Launch) (D : va_G) (cy : Nat → ClassId) (z : Nat) (o : Int64) (d : UInt64) (σ τ : Sg) {k : Nat} (hk : kd k = 4) (x : Int32) : KI l yX4_neighbour cX4_neighbour 2 (some .int) rm_X4_neighbour D cy z [.ref (z + k), .int x] o d σ τ (f_X4_neighbour σ k x) σ τ := by
  refine met_of RX4 (plainFor_of_name (by decide)) rfl (Nat.le_of_ble_eq_true rfl) ?_
  intro p e s m args below meth c C hP hS ls hl
  obtain ⟨hx, hb, hr, hml, hown, hW, hlocks, hAm⟩ := id C
  have hl : lv_has ls 2 [(0, .ref (z + k)), (1, .int x)] := hl
  refine lv_aload_n hx hb dX4_neighbour_0 rfl (lv_at hl 0 rfl) ?_
  refine gf_X4_18 C hP hk dX4_neighbour_1 ?_
  refine thn_I (run_S (As := [.int (σ k 1)]) (rest := []) C (k_X4_ring l D cy z o d σ τ (σ k 1)) hP hS cw_X4_ring (mA2 (i := 61) rfl rfl) ⟨rfl, rfl⟩ ⟨Nat.le_of_ble_eq_true rfl, Nat.le_of_ble_eq_true rfl⟩ rfl (Nat.le_of_ble_eq_true rfl) hl.1 ⟨Nat.zero_le _, Nat.zero_le _⟩ dX4_neighbour_4) hS (fun H locs hP hS => ?_)
  refine lv_iload_n hx hb dX4_neighbour_7 rfl (lv_at hl 1 rfl) ?_
  refine lv_iadd hx hb dX4_neighbour_8 ?_
  refine lv_iconst (v := 3) hx hb dX4_neighbour_9 (by decide) ?_
  refine lv_iand hx hb dX4_neighbour_10 ?_
  refine thn_I (run_S (As := [.int (((f_X4_ring (σ k 1)) + x) &&& 3)]) (rest := []) C (k_X4_ring l D cy z o d σ τ (((f_X4_ring (σ k 1)) + x) &&& 3)) hP hS cw_X4_ring (mA2 (i := 61) rfl rfl) ⟨rfl, rfl⟩ ⟨Nat.le_of_ble_eq_true rfl, Nat.le_of_ble_eq_true rfl⟩ rfl (Nat.le_of_ble_eq_true rfl) hl.1 ⟨Nat.zero_le _, Nat.zero_le _⟩ dX4_neighbour_11) hS (fun H locs hP hS => ?_)
  exact ret_I C hP hS (nar_i _) rfl rfl rfl rfl dX4_neighbour_14

theorem cw_X4_stepUnder : cwVt yX4_stepUnder cX4_stepUnder 3 (some .int) 4 2 := ⟨(mA2 (i := 54) rfl rfl), (mA2 (i := 55) rfl rfl), (mA1 (i := 3) rfl rfl), (mA2 (i := 56) rfl rfl), by decide +kernel, ⟨_, rfl, rfl⟩, by decide⟩
abbrev rm_X4_stepUnder : Room := { frames := 2, cells := 0, slots := 0, locals := 41 }
def f_X4_stepUnder (σ : Sg) (k : Nat) (x : Int32) (y : Int32) : Int32 :=
  if ((σ k 1) ^^^ y) = 3 then
    if x = 1 then
      2 * (σ k 3)
    else
      0
  else
    if y = (σ k 1) then
      0
    else
      if y = (f_X4_neighbour σ k 1) then
        1
      else
        (-1)
set_option maxHeartbeats 4000000 in
set_option maxRecDepth 100000 in
theorem k_X4_stepUnder (l : Launch) (D : va_G) (cy : Nat → ClassId) (z : Nat) (o : Int64) (d : UInt64) (σ τ : Sg) {k : Nat} (hk : kd k = 4) (x : Int32) (y : Int32) : KI l yX4_stepUnder cX4_stepUnder 3 (some .int) rm_X4_stepUnder D cy z [.ref (z + k), .int x, .int y] o d σ τ (f_X4_stepUnder σ k x y) σ τ := by
  refine met_of RX4 (plainFor_of_name (by decide)) rfl (Nat.le_of_ble_eq_true rfl) ?_
  intro p e s m args below meth c C hP hS ls hl
  obtain ⟨hx, hb, hr, hml, hown, hW, hlocks, hAm⟩ := id C
  have hl : lv_has ls 3 [(0, .ref (z + k)), (1, .int x), (2, .int y)] := hl
  refine lv_aload_n hx hb dX4_stepUnder_0 rfl (lv_at hl 0 rfl) ?_
  refine gf_X4_18 C hP hk dX4_stepUnder_1 ?_
  refine lv_iload_n hx hb dX4_stepUnder_4 rfl (lv_at hl 2 rfl) ?_
  refine lv_ixor hx hb dX4_stepUnder_5 ?_
  refine lv_iconst (v := 3) hx hb dX4_stepUnder_6 (by decide) ?_
  refine lv_icmp_ne (tgt := 26) hx hb dX4_stepUnder_7 (by decide) (fun c_7 => ?_) (fun c_7 => ?_)
  · refine lv_iload_n hx hb dX4_stepUnder_26 rfl (lv_at hl 2 rfl) ?_
    refine lv_aload_n hx hb dX4_stepUnder_27 rfl (lv_at hl 0 rfl) ?_
    refine gf_X4_18 C hP hk dX4_stepUnder_28 ?_
    refine lv_icmp_ne (tgt := 36) hx hb dX4_stepUnder_31 (by decide) (fun c_31 => ?_) (fun c_31 => ?_)
    · refine lv_iload_n hx hb dX4_stepUnder_36 rfl (lv_at hl 2 rfl) ?_
      refine lv_aload_n hx hb dX4_stepUnder_37 rfl (lv_at hl 0 rfl) ?_
      refine lv_iconst (v := 1) hx hb dX4_stepUnder_38 (by decide) ?_
      refine thn_I (run_V (As := [.int 1]) (rest := [.int y]) C (k_X4_neighbour l D cy z o d σ τ hk 1) hP hS cw_X4_neighbour (mA2 (i := 57) rfl rfl) hk ⟨rfl, rfl⟩ ⟨Nat.le_of_ble_eq_true rfl, Nat.le_of_ble_eq_true rfl⟩ rfl (Nat.le_of_ble_eq_true rfl) hl.1 ⟨Nat.zero_le _, Nat.zero_le _⟩ dX4_stepUnder_39) hS (fun H locs hP hS => ?_)
      refine lv_icmp_ne (tgt := 49) hx hb dX4_stepUnder_42 (by decide) (fun c_42 => ?_) (fun c_42 => ?_)
      · refine lv_iconst (v := (-1)) hx hb dX4_stepUnder_49 (by decide) ?_
        exact ret_I C hP hS (nar_i _) rfl (by unfold f_X4_stepUnder; rw [if_neg c_7, if_neg c_31, if_neg c_42]) rfl rfl dX4_stepUnder_50
      · refine lv_iconst (v := 1) hx hb dX4_stepUnder_45 (by decide) ?_
        refine lv_goto (tgt := 50) hx hb dX4_stepUnder_46 (by decide) ?_
        exact ret_I C hP hS (nar_i _) rfl (by unfold f_X4_stepUnder; rw [if_neg c_7, if_neg c_31, if_pos c_42]) rfl rfl dX4_stepUnder_50
    · refine lv_iconst (v := 0) hx hb dX4_stepUnder_34 (by decide) ?_
      exact ret_I C hP hS (nar_i _) rfl (by unfold f_X4_stepUnder; rw [if_neg c_7, if_pos c_31]) rfl rfl dX4_stepUnder_35
  · refine lv_iload_n hx hb dX4_stepUnder_10 rfl (lv_at hl 1 rfl) ?_
    refine lv_iconst (v := 1) hx hb dX4_stepUnder_11 (by decide) ?_
    refine lv_icmp_ne (tgt := 24) hx hb dX4_stepUnder_12 (by decide) (fun c_12 => ?_) (fun c_12 => ?_)
    · refine lv_iconst (v := 0) hx hb dX4_stepUnder_24 (by decide) ?_
      exact ret_I C hP hS (nar_i _) rfl (by unfold f_X4_stepUnder; rw [if_pos c_7, if_neg c_12]) rfl rfl dX4_stepUnder_25
    · refine lv_iconst (v := 2) hx hb dX4_stepUnder_15 (by decide) ?_
      refine lv_aload_n hx hb dX4_stepUnder_16 rfl (lv_at hl 0 rfl) ?_
      refine gf_X4_26 C hP hk dX4_stepUnder_17 ?_
      refine lv_imul hx hb dX4_stepUnder_20 ?_
      refine lv_goto (tgt := 25) hx hb dX4_stepUnder_21 (by decide) ?_
      exact ret_I C hP hS (nar_i _) rfl (by unfold f_X4_stepUnder; rw [if_pos c_7, if_pos c_12]) rfl rfl dX4_stepUnder_25

theorem cw_X4_hasRoom : cwVt yX4_hasRoom cX4_hasRoom 3 (some .boolean) 4 2 := ⟨(mA2 (i := 104) rfl rfl), (mA2 (i := 105) rfl rfl), (mA1 (i := 3) rfl rfl), (mA2 (i := 106) rfl rfl), by decide +kernel, ⟨_, rfl, rfl⟩, by decide⟩
abbrev rm_X4_hasRoom : Room := { frames := 0, cells := 0, slots := 0, locals := 0 }
def f_X4_hasRoom (σ : Sg) (k : Nat) (x : Int32) (y : Int32) : Int32 :=
  if 1000000000 < ((σ k 11) + x) then
    0
  else
    if 1000000000 < ((σ k 10) + y) then
      0
    else
      1
set_option maxHeartbeats 4000000 in
set_option maxRecDepth 100000 in
theorem k_X4_hasRoom (l : Launch) (D : va_G) (cy : Nat → ClassId) (z : Nat) (o : Int64) (d : UInt64) (σ τ : Sg) {k : Nat} (hk : kd k = 4) (x : Int32) (y : Int32) : KI l yX4_hasRoom cX4_hasRoom 3 (some .boolean) rm_X4_hasRoom D cy z [.ref (z + k), .int x, .int y] o d σ τ (f_X4_hasRoom σ k x y) σ τ := by
  refine met_of RX4 (plainFor_of_name (by decide)) rfl (Nat.le_of_ble_eq_true rfl) ?_
  intro p e s m args below meth c C hP hS ls hl
  obtain ⟨hx, hb, hr, hml, hown, hW, hlocks, hAm⟩ := id C
  have hl : lv_has ls 3 [(0, .ref (z + k)), (1, .int x), (2, .int y)] := hl
  refine lv_aload_n hx hb dX4_hasRoom_0 rfl (lv_at hl 0 rfl) ?_
  refine gf_X4_32 C hP hk dX4_hasRoom_1 ?_
  refine lv_iload_n hx hb dX4_hasRoom_4 rfl (lv_at hl 1 rfl) ?_
  refine lv_iadd hx hb dX4_hasRoom_5 ?_
  refine lv_ldc (v := 1000000000) hx hb hown (hW _ (mA2 (i := 107) rfl rfl)) dX4_hasRoom_6 ?_
  refine lv_icmp_gt (tgt := 26) hx hb dX4_hasRoom_8 (by decide) (fun c_8 => ?_) (fun c_8 => ?_)
  · refine lv_iconst (v := 0) hx hb dX4_hasRoom_26 (by decide) ?_
    exact ret_I C hP hS nar_z0 rfl (by unfold f_X4_hasRoom; rw [if_pos c_8]) rfl rfl dX4_hasRoom_27
  · refine lv_aload_n hx hb dX4_hasRoom_11 rfl (lv_at hl 0 rfl) ?_
    refine gf_X4_36 C hP hk dX4_hasRoom_12 ?_
    refine lv_iload_n hx hb dX4_hasRoom_15 rfl (lv_at hl 2 rfl) ?_
    refine lv_iadd hx hb dX4_hasRoom_16 ?_
    refine lv_ldc (v := 1000000000) hx hb hown (hW _ (mA2 (i := 107) rfl rfl)) dX4_hasRoom_17 ?_
    refine lv_icmp_gt (tgt := 26) hx hb dX4_hasRoom_19 (by decide) (fun c_19 => ?_) (fun c_19 => ?_)
    · refine lv_iconst (v := 0) hx hb dX4_hasRoom_26 (by decide) ?_
      exact ret_I C hP hS nar_z0 rfl (by unfold f_X4_hasRoom; rw [if_neg c_8, if_pos c_19]) rfl rfl dX4_hasRoom_27
    · refine lv_iconst (v := 1) hx hb dX4_hasRoom_22 (by decide) ?_
      refine lv_goto (tgt := 27) hx hb dX4_hasRoom_23 (by decide) ?_
      exact ret_I C hP hS nar_z1 rfl (by unfold f_X4_hasRoom; rw [if_neg c_8, if_neg c_19]) rfl rfl dX4_hasRoom_27
theorem nz_X4_hasRoom (σ : Sg) (k : Nat) (x : Int32) (y : Int32) : narrow .boolean (.int (f_X4_hasRoom σ k x y)) = .int (f_X4_hasRoom σ k x y) := by
  unfold f_X4_hasRoom
  repeat' split
  all_goals first | exact nar_z1 | exact nar_z0

theorem cw_X4_book : cwVt yX4_book cX4_book 3 none 4 2 := ⟨(mA2 (i := 166) rfl rfl), (mA0 (i := 6) rfl rfl), (mA1 (i := 3) rfl rfl), (mA2 (i := 167) rfl rfl), by decide +kernel, ⟨_, rfl, rfl⟩, by decide⟩
abbrev rm_X4_book : Room := { frames := 0, cells := 0, slots := 0, locals := 0 }
def s_X4_book (σ : Sg) (k : Nat) (x : Int32) (y : Int32) : Sg :=
  if x = 1 then
    up σ k 5 ((σ k 5) + y)
  else
    if x = 2 then
      up σ k 4 ((σ k 4) + y)
    else
      if x = 3 then
        up σ k 6 ((σ k 6) + y)
      else
        σ
set_option maxHeartbeats 4000000 in
set_option maxRecDepth 100000 in
theorem k_X4_book (l : Launch) (D : va_G) (cy : Nat → ClassId) (z : Nat) (o : Int64) (d : UInt64) (σ τ : Sg) {k : Nat} (hk : kd k = 4) (x : Int32) (y : Int32) : KV l yX4_book cX4_book 3 rm_X4_book D cy z [.ref (z + k), .int x, .int y] o d σ τ (s_X4_book σ k x y) τ := by
  refine met_of RX4 (plainFor_of_name (by decide)) rfl (Nat.le_of_ble_eq_true rfl) ?_
  intro p e s m args below meth c C hP hS ls hl
  obtain ⟨hx, hb, hr, hml, hown, hW, hlocks, hAm⟩ := id C
  have hl : lv_has ls 3 [(0, .ref (z + k)), (1, .int x), (2, .int y)] := hl
  refine lv_iload_n hx hb dX4_book_0 rfl (lv_at hl 1 rfl) ?_
  by_cases c_1_1 : x = 1
  · refine lv_tableIn (tgt := 41) hx hb dX4_book_1 (by rw [c_1_1]; decide) (by rw [c_1_1]; decide) (by rw [c_1_1]; rfl) (by decide) ?_
    refine lv_aload_n hx hb dX4_book_41 rfl (lv_at hl 0 rfl) ?_
    refine lv_dup hx hb dX4_book_42 rfl ?_
    refine gf_X4_83 C hP hk dX4_book_43 ?_
    refine lv_iload_n hx hb dX4_book_46 rfl (lv_at hl 2 rfl) ?_
    refine lv_iadd hx hb dX4_book_47 ?_
    refine pf_X4_83 C hP hS hk dX4_book_48 (fun H locs hP hS => ?_)
    refine lv_goto (tgt := 67) hx hb dX4_book_51 (by decide) ?_
    exact ret_V C hP hS (by unfold s_X4_book; rw [if_pos c_1_1]) rfl dX4_book_67
  · by_cases c_1_2 : x = 2
    · refine lv_tableIn (tgt := 28) hx hb dX4_book_1 (by rw [c_1_2]; decide) (by rw [c_1_2]; decide) (by rw [c_1_2]; rfl) (by decide) ?_
      refine lv_aload_n hx hb dX4_book_28 rfl (lv_at hl 0 rfl) ?_
      refine lv_dup hx hb dX4_book_29 rfl ?_
      refine gf_X4_80 C hP hk dX4_book_30 ?_
      refine lv_iload_n hx hb dX4_book_33 rfl (lv_at hl 2 rfl) ?_
      refine lv_iadd hx hb dX4_book_34 ?_
      refine pf_X4_80 C hP hS hk dX4_book_35 (fun H locs hP hS => ?_)
      refine lv_goto (tgt := 67) hx hb dX4_book_38 (by decide) ?_
      exact ret_V C hP hS (by unfold s_X4_book; rw [if_neg c_1_1, if_pos c_1_2]) rfl dX4_book_67
    · by_cases c_1_3 : x = 3
      · refine lv_tableIn (tgt := 54) hx hb dX4_book_1 (by rw [c_1_3]; decide) (by rw [c_1_3]; decide) (by rw [c_1_3]; rfl) (by decide) ?_
        refine lv_aload_n hx hb dX4_book_54 rfl (lv_at hl 0 rfl) ?_
        refine lv_dup hx hb dX4_book_55 rfl ?_
        refine gf_X4_86 C hP hk dX4_book_56 ?_
        refine lv_iload_n hx hb dX4_book_59 rfl (lv_at hl 2 rfl) ?_
        refine lv_iadd hx hb dX4_book_60 ?_
        refine pf_X4_86 C hP hS hk dX4_book_61 (fun H locs hP hS => ?_)
        refine lv_goto (tgt := 67) hx hb dX4_book_64 (by decide) ?_
        exact ret_V C hP hS (by unfold s_X4_book; rw [if_neg c_1_1, if_neg c_1_2, if_pos c_1_3]) rfl dX4_book_67
      · refine lv_tableOut (tgt := 67) hx hb dX4_book_1 (tab_out3b (lv_neT c_1_1 (k := 1) (a := 1) rfl) (lv_neT c_1_2 (k := 2) (a := 2) rfl) (lv_neT c_1_3 (k := 3) (a := 3) rfl)) (by decide) ?_
        exact ret_V C hP hS (by unfold s_X4_book; rw [if_neg c_1_1, if_neg c_1_2, if_neg c_1_3]) rfl dX4_book_67

theorem cw_X4_move : cwVt yX4_move cX4_move 4 none 4 3 := ⟨(mA2 (i := 162) rfl rfl), (mA0 (i := 5) rfl rfl), (mA1 (i := 3) rfl rfl), (mA2 (i := 163) rfl rfl), by decide +kernel, ⟨_, rfl, rfl⟩, by decide⟩
abbrev rm_X4_move : Room := { frames := 1, cells := 0, slots := 0, locals := 22 }
def s_X4_move (σ : Sg) (k : Nat) (x : Int32) (y : Int32) (w : Int32) : Sg :=
  if y = 0 then
    up (up (up (up (s_X4_book σ k ((σ k 1) ^^^ x) y) k 1 x) k 2 (((up (s_X4_book σ k ((σ k 1) ^^^ x) y) k 1 x) k 2) + y)) k 10 (((up (up (s_X4_book σ k ((σ k 1) ^^^ x) y) k 1 x) k 2 (((up (s_X4_book σ k ((σ k 1) ^^^ x) y) k 1 x) k 2) + y)) k 10) + (ab y))) k 11 (((up (up (up (s_X4_book σ k ((σ k 1) ^^^ x) y) k 1 x) k 2 (((up (s_X4_book σ k ((σ k 1) ^^^ x) y) k 1 x) k 2) + y)) k 10 (((up (up (s_X4_book σ k ((σ k 1) ^^^ x) y) k 1 x) k 2 (((up (s_X4_book σ k ((σ k 1) ^^^ x) y) k 1 x) k 2) + y)) k 10) + (ab y))) k 11) + w)
  else
    if y ≤ 0 then
      up (up (up (up (up (s_X4_book σ k ((σ k 1) ^^^ x) y) k 1 x) k 2 (((up (s_X4_book σ k ((σ k 1) ^^^ x) y) k 1 x) k 2) + y)) k 10 (((up (up (s_X4_book σ k ((σ k 1) ^^^ x) y) k 1 x) k 2 (((up (s_X4_book σ k ((σ k 1) ^^^ x) y) k 1 x) k 2) + y)) k 10) + (ab y))) k 11 (((up (up (up (s_X4_book σ k ((σ k 1) ^^^ x) y) k 1 x) k 2 (((up (s_X4_book σ k ((σ k 1) ^^^ x) y) k 1 x) k 2) + y)) k 10 (((up (up (s_X4_book σ k ((σ k 1) ^^^ x) y) k 1 x) k 2 (((up (s_X4_book σ k ((σ k 1) ^^^ x) y) k 1 x) k 2) + y)) k 10) + (ab y))) k 11) + w)) k 3 (-1)
    else
      up (up (up (up (up (s_X4_book σ k ((σ k 1) ^^^ x) y) k 1 x) k 2 (((up (s_X4_book σ k ((σ k 1) ^^^ x) y) k 1 x) k 2) + y)) k 10 (((up (up (s_X4_book σ k ((σ k 1) ^^^ x) y) k 1 x) k 2 (((up (s_X4_book σ k ((σ k 1) ^^^ x) y) k 1 x) k 2) + y)) k 10) + (ab y))) k 11 (((up (up (up (s_X4_book σ k ((σ k 1) ^^^ x) y) k 1 x) k 2 (((up (s_X4_book σ k ((σ k 1) ^^^ x) y) k 1 x) k 2) + y)) k 10 (((up (up (s_X4_book σ k ((σ k 1) ^^^ x) y) k 1 x) k 2 (((up (s_X4_book σ k ((σ k 1) ^^^ x) y) k 1 x) k 2) + y)) k 10) + (ab y))) k 11) + w)) k 3 1
set_option maxHeartbeats 4000000 in
set_option maxRecDepth 100000 in
theorem k_X4_move (l : Launch) (D : va_G) (cy : Nat → ClassId) (z : Nat) (o : Int64) (d : UInt64) (σ τ : Sg) {k : Nat} (hk : kd k = 4) (x : Int32) (y : Int32) (w : Int32) : KV l yX4_move cX4_move 4 rm_X4_move D cy z [.ref (z + k), .int x, .int y, .int w] o d σ τ (s_X4_move σ k x y w) τ := by
  refine met_of RX4 (plainFor_of_name (by decide)) rfl (Nat.le_of_ble_eq_true rfl) ?_
  intro p e s m args below meth c C hP hS ls hl
  obtain ⟨hx, hb, hr, hml, hown, hW, hlocks, hAm⟩ := id C
  have hl : lv_has ls 4 [(0, .ref (z + k)), (1, .int x), (2, .int y), (3, .int w)] := hl
  refine lv_aload_n hx hb dX4_move_0 rfl (lv_at hl 0 rfl) ?_
  refine lv_aload_n hx hb dX4_move_1 rfl (lv_at hl 0 rfl) ?_
  refine gf_X4_18 C hP hk dX4_move_2 ?_
  refine lv_iload_n hx hb dX4_move_5 rfl (lv_at hl 1 rfl) ?_
  refine lv_ixor hx hb dX4_move_6 ?_
  refine lv_iload_n hx hb dX4_move_7 rfl (lv_at hl 2 rfl) ?_
  refine thn_V (run_V (As := [.int ((σ k 1) ^^^ x), .int y]) (rest := []) C (k_X4_book l D cy z o d σ τ hk ((σ k 1) ^^^ x) y) hP hS cw_X4_book (mA2 (i := 164) rfl rfl) hk ⟨rfl, rfl⟩ ⟨Nat.le_of_ble_eq_true rfl, Nat.le_of_ble_eq_true rfl⟩ rfl (Nat.le_of_ble_eq_true rfl) hl.1 ⟨Nat.zero_le _, Nat.zero_le _⟩ dX4_move_8) hS (fun H locs hP hS => ?_)
  refine lv_aload_n hx hb dX4_move_11 rfl (lv_at hl 0 rfl) ?_
  refine lv_iload_n hx hb dX4_move_12 rfl (lv_at hl 1 rfl) ?_
  refine pf_X4_18 C hP hS hk dX4_move_13 (fun H locs hP hS => ?_)
  refine lv_aload_n hx hb dX4_move_16 rfl (lv_at hl 0 rfl) ?_
  refine lv_dup hx hb dX4_move_17 rfl ?_
  refine gf_X4_77 C hP hk dX4_move_18 ?_
  refine lv_iload_n hx hb dX4_move_21 rfl (lv_at hl 2 rfl) ?_
  refine lv_iadd hx hb dX4_move_22 ?_
  refine pf_X4_77 C hP hS hk dX4_move_23 (fun H locs hP hS => ?_)
  refine lv_aload_n hx hb dX4_move_26 rfl (lv_at hl 0 rfl) ?_
  refine lv_dup hx hb dX4_move_27 rfl ?_
  refine gf_X4_36 C hP hk dX4_move_28 ?_
  refine lv_iload_n hx hb dX4_move_31 rfl (lv_at hl 2 rfl) ?_
  refine g_abs C (mA2 (i := 168) rfl rfl) (Nat.le_of_ble_eq_true rfl) (Nat.le_of_ble_eq_true rfl) ⟨Nat.zero_le _, Nat.zero_le _⟩ hl.1 dX4_move_32 ?_
  refine lv_iadd hx hb dX4_move_35 ?_
  refine pf_X4_36 C hP hS hk dX4_move_36 (fun H locs hP hS => ?_)
  refine lv_aload_n hx hb dX4_move_39 rfl (lv_at hl 0 rfl) ?_
  refine lv_dup hx hb dX4_move_40 rfl ?_
  refine gf_X4_32 C hP hk dX4_move_41 ?_
  refine lv_iload_n hx hb dX4_move_44 rfl (lv_at hl 3 rfl) ?_
  refine lv_iadd hx hb dX4_move_45 ?_
  refine pf_X4_32 C hP hS hk dX4_move_46 (fun H locs hP hS => ?_)
  refine lv_iload_n hx hb dX4_move_49 rfl (lv_at hl 2 rfl) ?_
  refine lv_if_eq (tgt := 66) hx hb dX4_move_50 (by decide) (fun c_50 => ?_) (fun c_50 => ?_)
  · exact ret_V C hP hS (by unfold s_X4_move; rw [if_pos c_50]) rfl dX4_move_66
  · refine lv_aload_n hx hb dX4_move_53 rfl (lv_at hl 0 rfl) ?_
    refine lv_iload_n hx hb dX4_move_54 rfl (lv_at hl 2 rfl) ?_
    refine lv_if_le (tgt := 62) hx hb dX4_move_55 (by decide) (fun c_55 => ?_) (fun c_55 => ?_)
    · refine lv_iconst (v := (-1)) hx hb dX4_move_62 (by decide) ?_
      refine pf_X4_26 C hP hS hk dX4_move_63 (fun H locs hP hS => ?_)
      exact ret_V C hP hS (by unfold s_X4_move; rw [if_neg c_50, if_pos c_55]) rfl dX4_move_66
    · refine lv_iconst (v := 1) hx hb dX4_move_58 (by decide) ?_
      refine lv_goto (tgt := 63) hx hb dX4_move_59 (by decide) ?_
      refine pf_X4_26 C hP hS hk dX4_move_63 (fun H locs hP hS => ?_)
      exact ret_V C hP hS (by unfold s_X4_move; rw [if_neg c_50, if_neg c_55]) rfl dX4_move_66

theorem cw_X4_sense : cwVt yX4_sense cX4_sense 4 none 4 3 := ⟨(mA2 (i := 145) rfl rfl), (mA2 (i := 146) rfl rfl), (mA1 (i := 3) rfl rfl), (mA2 (i := 147) rfl rfl), by decide +kernel, ⟨_, rfl, rfl⟩, by decide⟩
abbrev rm_X4_sense : Room := { frames := 2, cells := 0, slots := 0, locals := 46 }
def s_X4_sense (σ : Sg) (k : Nat) (x : Int32) (y : Int32) (w : Int32) : Sg :=
  if ((σ k 1) ^^^ x) = 3 then
    s_X4_move (s_X1_add (up σ k 8 ((σ k 8) + 1)) (k + 1) y w ((up σ k 8 ((σ k 8) + 1)) k 1)) k x y w
  else
    s_X4_move (s_X1_add σ (k + 1) y w (σ k 1)) k x y w
set_option maxHeartbeats 4000000 in
set_option maxRecDepth 100000 in
theorem k_X4_sense (l : Launch) (D : va_G) (cy : Nat → ClassId) (z : Nat) (o : Int64) (d : UInt64) (σ τ : Sg) {k : Nat} (hk : kd k = 4) (x : Int32) (y : Int32) (w : Int32) : KV l yX4_sense cX4_sense 4 rm_X4_sense D cy z [.ref (z + k), .int x, .int y, .int w] o d σ τ (s_X4_sense σ k x y w) τ := by
  refine met_of RX4 (plainFor_of_name (by decide)) rfl (Nat.le_of_ble_eq_true rfl) ?_
  intro p e s m args below meth c C hP hS ls hl
  obtain ⟨hx, hb, hr, hml, hown, hW, hlocks, hAm⟩ := id C
  have hl : lv_has ls 4 [(0, .ref (z + k)), (1, .int x), (2, .int y), (3, .int w)] := hl
  refine lv_aload_n hx hb dX4_sense_0 rfl (lv_at hl 0 rfl) ?_
  refine gf_X4_18 C hP hk dX4_sense_1 ?_
  refine lv_iload_n hx hb dX4_sense_4 rfl (lv_at hl 1 rfl) ?_
  refine lv_ixor hx hb dX4_sense_5 ?_
  refine lv_iconst (v := 3) hx hb dX4_sense_6 (by decide) ?_
  refine lv_icmp_ne (tgt := 20) hx hb dX4_sense_7 (by decide) (fun c_7 => ?_) (fun c_7 => ?_)
  · refine lv_aload_n hx hb dX4_sense_20 rfl (lv_at hl 0 rfl) ?_
    refine gf_X4_12 C hP hk dX4_sense_21 ?_
    refine lv_iload_n hx hb dX4_sense_24 rfl (lv_at hl 2 rfl) ?_
    refine lv_iload_n hx hb dX4_sense_25 rfl (lv_at hl 3 rfl) ?_
    refine lv_aload_n hx hb dX4_sense_26 rfl (lv_at hl 0 rfl) ?_
    refine gf_X4_18 C hP hk dX4_sense_27 ?_
    refine thn_V (run_V (As := [.int y, .int w, .int (σ k 1)]) (rest := []) C (k_X1_add l D cy z o d σ τ (kd4_1 hk) y w (σ k 1)) hP hS cw_X1_add (mA2 (i := 148) rfl rfl) (kd4_1 hk) ⟨rfl, rfl⟩ ⟨Nat.le_of_ble_eq_true rfl, Nat.le_of_ble_eq_true rfl⟩ rfl (Nat.le_of_ble_eq_true rfl) hl.1 ⟨Nat.zero_le _, Nat.zero_le _⟩ dX4_sense_30) hS (fun H locs hP hS => ?_)
    refine lv_aload_n hx hb dX4_sense_33 rfl (lv_at hl 0 rfl) ?_
    refine lv_iload_n hx hb dX4_sense_34 rfl (lv_at hl 1 rfl) ?_
    refine lv_iload_n hx hb dX4_sense_35 rfl (lv_at hl 2 rfl) ?_
    refine lv_iload_n hx hb dX4_sense_36 rfl (lv_at hl 3 rfl) ?_
    refine thn_V (run_V (As := [.int x, .int y, .int w]) (rest := []) C (k_X4_move l D cy z o d (s_X1_add σ (k + 1) y w (σ k 1)) τ hk x y w) hP hS cw_X4_move (mA2 (i := 160) rfl rfl) hk ⟨rfl, rfl⟩ ⟨Nat.le_of_ble_eq_true rfl, Nat.le_of_ble_eq_true rfl⟩ rfl (Nat.le_of_ble_eq_true rfl) hl.1 ⟨Nat.zero_le _, Nat.zero_le _⟩ dX4_sense_37) hS (fun H locs hP hS => ?_)
    exact ret_V C hP hS (by unfold s_X4_sense; rw [if_neg c_7]) rfl dX4_sense_40
  · refine lv_aload_n hx hb dX4_sense_10 rfl (lv_at hl 0 rfl) ?_
    refine lv_dup hx hb dX4_sense_11 rfl ?_
    refine gf_X4_39 C hP hk dX4_sense_12 ?_
    refine lv_iconst (v := 1) hx hb dX4_sense_15 (by decide) ?_
    refine lv_iadd hx hb dX4_sense_16 ?_
    refine pf_X4_39 C hP hS hk dX4_sense_17 (fun H locs hP hS => ?_)
    refine lv_aload_n hx hb dX4_sense_20 rfl (lv_at hl 0 rfl) ?_
    refine gf_X4_12 C hP hk dX4_sense_21 ?_
    refine lv_iload_n hx hb dX4_sense_24 rfl (lv_at hl 2 rfl) ?_
    refine lv_iload_n hx hb dX4_sense_25 rfl (lv_at hl 3 rfl) ?_
    refine lv_aload_n hx hb dX4_sense_26 rfl (lv_at hl 0 rfl) ?_
    refine gf_X4_18 C hP hk dX4_sense_27 ?_
    refine thn_V (run_V (As := [.int y, .int w, .int ((up σ k 8 ((σ k 8) + 1)) k 1)]) (rest := []) C (k_X1_add l D cy z o d (up σ k 8 ((σ k 8) + 1)) τ (kd4_1 hk) y w ((up σ k 8 ((σ k 8) + 1)) k 1)) hP hS cw_X1_add (mA2 (i := 148) rfl rfl) (kd4_1 hk) ⟨rfl, rfl⟩ ⟨Nat.le_of_ble_eq_true rfl, Nat.le_of_ble_eq_true rfl⟩ rfl (Nat.le_of_ble_eq_true rfl) hl.1 ⟨Nat.zero_le _, Nat.zero_le _⟩ dX4_sense_30) hS (fun H locs hP hS => ?_)
    refine lv_aload_n hx hb dX4_sense_33 rfl (lv_at hl 0 rfl) ?_
    refine lv_iload_n hx hb dX4_sense_34 rfl (lv_at hl 1 rfl) ?_
    refine lv_iload_n hx hb dX4_sense_35 rfl (lv_at hl 2 rfl) ?_
    refine lv_iload_n hx hb dX4_sense_36 rfl (lv_at hl 3 rfl) ?_
    refine thn_V (run_V (As := [.int x, .int y, .int w]) (rest := []) C (k_X4_move l D cy z o d (s_X1_add (up σ k 8 ((σ k 8) + 1)) (k + 1) y w ((up σ k 8 ((σ k 8) + 1)) k 1)) τ hk x y w) hP hS cw_X4_move (mA2 (i := 160) rfl rfl) hk ⟨rfl, rfl⟩ ⟨Nat.le_of_ble_eq_true rfl, Nat.le_of_ble_eq_true rfl⟩ rfl (Nat.le_of_ble_eq_true rfl) hl.1 ⟨Nat.zero_le _, Nat.zero_le _⟩ dX4_sense_37) hS (fun H locs hP hS => ?_)
    exact ret_V C hP hS (by unfold s_X4_sense; rw [if_pos c_7]) rfl dX4_sense_40

theorem cw_X4_turnsOver : cwVt yX4_turnsOver cX4_turnsOver 2 (some .int) 4 1 := ⟨(mA3 (i := 46) rfl rfl), (mA3 (i := 47) rfl rfl), (mA1 (i := 3) rfl rfl), (mA3 (i := 48) rfl rfl), by decide +kernel, ⟨_, rfl, rfl⟩, by decide⟩
abbrev rm_X4_turnsOver : Room := { frames := 1, cells := 0, slots := 0, locals := 22 }
def f_X4_turnsOver (σ : Sg) (k : Nat) (x : Int32) : Int32 :=
  if 1 ≤ x then
    f_J9_floorDiv_7cf53 (σ k 2) x
  else
    0
set_option maxHeartbeats 4000000 in
set_option maxRecDepth 100000 in
theorem k_X4_turnsOver (l : Launch) (D : va_G) (cy : Nat → ClassId) (z : Nat) (o : Int64) (d : UInt64) (σ τ : Sg) {k : Nat} (hk : kd k = 4) (x : Int32) : KI l yX4_turnsOver cX4_turnsOver 2 (some .int) rm_X4_turnsOver D cy z [.ref (z + k), .int x] o d σ τ (f_X4_turnsOver σ k x) σ τ := by
  refine met_of RX4 (plainFor_of_name (by decide)) rfl (Nat.le_of_ble_eq_true rfl) ?_
  intro p e s m args below meth c C hP hS ls hl
  obtain ⟨hx, hb, hr, hml, hown, hW, hlocks, hAm⟩ := id C
  have hl : lv_has ls 2 [(0, .ref (z + k)), (1, .int x)] := hl
  refine lv_iload_n hx hb dX4_turnsOver_0 rfl (lv_at hl 1 rfl) ?_
  refine lv_iconst (v := 1) hx hb dX4_turnsOver_1 (by decide) ?_
  refine lv_icmp_ge (tgt := 9) hx hb dX4_turnsOver_2 (by decide) (fun c_2 => ?_) (fun c_2 => ?_)
  · refine lv_aload_n hx hb dX4_turnsOver_9 rfl (lv_at hl 0 rfl) ?_
    refine gf_X4_77 C hP hk dX4_turnsOver_10 ?_
    refine lv_iload_n hx hb dX4_turnsOver_13 rfl (lv_at hl 1 rfl) ?_
    refine thn_I (run_S (As := [.int (σ k 2), .int x]) (rest := []) C (k_J9_floorDiv_7cf53 l D cy z o d σ τ (σ k 2) x (ne0_le1 c_2)) hP hS cw_J9_floorDiv_7cf53 (mA3 (i := 49) rfl rfl) ⟨rfl, rfl⟩ ⟨Nat.le_of_ble_eq_true rfl, Nat.le_of_ble_eq_true rfl⟩ rfl (Nat.le_of_ble_eq_true rfl) hl.1 ⟨Nat.zero_le _, Nat.zero_le _⟩ dX4_turnsOver_14) hS (fun H locs hP hS => ?_)
    exact ret_I C hP hS (nar_i _) rfl (by unfold f_X4_turnsOver; rw [if_pos c_2]) rfl rfl dX4_turnsOver_17
  · refine lv_iconst (v := 0) hx hb dX4_turnsOver_5 (by decide) ?_
    refine lv_goto (tgt := 17) hx hb dX4_turnsOver_6 (by decide) ?_
    exact ret_I C hP hS (nar_i _) rfl (by unfold f_X4_turnsOver; rw [if_neg c_2]) rfl rfl dX4_turnsOver_17

theorem cw_X4_placeIn : cwVt yX4_placeIn cX4_placeIn 2 (some .int) 4 1 := ⟨(mA2 (i := 203) rfl rfl), (mA2 (i := 204) rfl rfl), (mA1 (i := 3) rfl rfl), (mA2 (i := 205) rfl rfl), by decide +kernel, ⟨_, rfl, rfl⟩, by decide⟩
abbrev rm_X4_placeIn : Room := { frames := 1, cells := 0, slots := 0, locals := 22 }
def f_X4_placeIn (σ : Sg) (k : Nat) (x : Int32) : Int32 :=
  if 1 ≤ x then
    f_J9_floorMod_7cf53 (σ k 2) x
  else
    0
set_option maxHeartbeats 4000000 in
set_option maxRecDepth 100000 in
theorem k_X4_placeIn (l : Launch) (D : va_G) (cy : Nat → ClassId) (z : Nat) (o : Int64) (d : UInt64) (σ τ : Sg) {k : Nat} (hk : kd k = 4) (x : Int32) : KI l yX4_placeIn cX4_placeIn 2 (some .int) rm_X4_placeIn D cy z [.ref (z + k), .int x] o d σ τ (f_X4_placeIn σ k x) σ τ := by
  refine met_of RX4 (plainFor_of_name (by decide)) rfl (Nat.le_of_ble_eq_true rfl) ?_
  intro p e s m args below meth c C hP hS ls hl
  obtain ⟨hx, hb, hr, hml, hown, hW, hlocks, hAm⟩ := id C
  have hl : lv_has ls 2 [(0, .ref (z + k)), (1, .int x)] := hl
  refine lv_iload_n hx hb dX4_placeIn_0 rfl (lv_at hl 1 rfl) ?_
  refine lv_iconst (v := 1) hx hb dX4_placeIn_1 (by decide) ?_
  refine lv_icmp_ge (tgt := 9) hx hb dX4_placeIn_2 (by decide) (fun c_2 => ?_) (fun c_2 => ?_)
  · refine lv_aload_n hx hb dX4_placeIn_9 rfl (lv_at hl 0 rfl) ?_
    refine gf_X4_77 C hP hk dX4_placeIn_10 ?_
    refine lv_iload_n hx hb dX4_placeIn_13 rfl (lv_at hl 1 rfl) ?_
    refine thn_I (run_S (As := [.int (σ k 2), .int x]) (rest := []) C (k_J9_floorMod_7cf53 l D cy z o d σ τ (σ k 2) x (ne0_le1 c_2)) hP hS cw_J9_floorMod_7cf53 (mA2 (i := 206) rfl rfl) ⟨rfl, rfl⟩ ⟨Nat.le_of_ble_eq_true rfl, Nat.le_of_ble_eq_true rfl⟩ rfl (Nat.le_of_ble_eq_true rfl) hl.1 ⟨Nat.zero_le _, Nat.zero_le _⟩ dX4_placeIn_14) hS (fun H locs hP hS => ?_)
    exact ret_I C hP hS (nar_i _) rfl (by unfold f_X4_placeIn; rw [if_pos c_2]) rfl rfl dX4_placeIn_17
  · refine lv_iconst (v := 0) hx hb dX4_placeIn_5 (by decide) ?_
    refine lv_goto (tgt := 17) hx hb dX4_placeIn_6 (by decide) ?_
    exact ret_I C hP hS (nar_i _) rfl (by unfold f_X4_placeIn; rw [if_neg c_2]) rfl rfl dX4_placeIn_17

theorem cw_X4_passMark : cwVt yX4_passMark cX4_passMark 4 (some .int) 4 1 := ⟨(mA2 (i := 222) rfl rfl), (mA2 (i := 223) rfl rfl), (mA1 (i := 3) rfl rfl), (mA2 (i := 224) rfl rfl), by decide +kernel, ⟨_, rfl, rfl⟩, by decide⟩
abbrev rm_X4_passMark : Room := { frames := 2, cells := 0, slots := 0, locals := 43 }
def f_X4_passMark (σ : Sg) (k : Nat) (x : Int32) : Int32 :=
  if x < (2 * (f_X4_placeIn σ k x)) then
    (f_X4_placeIn σ k x) - x
  else
    f_X4_placeIn σ k x
def s_X4_passMark (σ : Sg) (k : Nat) (x : Int32) : Sg :=
  if x < (2 * (f_X4_placeIn σ k x)) then
    up (up (up σ k 2 ((σ k 2) - ((f_X4_placeIn σ k x) - x))) k 7 (((up σ k 2 ((σ k 2) - ((f_X4_placeIn σ k x) - x))) k 7) + ((f_X4_placeIn σ k x) - x))) k 9 (((up (up σ k 2 ((σ k 2) - ((f_X4_placeIn σ k x) - x))) k 7 (((up σ k 2 ((σ k 2) - ((f_X4_placeIn σ k x) - x))) k 7) + ((f_X4_placeIn σ k x) - x))) k 9) + (ab ((f_X4_placeIn σ k x) - x)))
  else
    up (up (up σ k 2 ((σ k 2) - (f_X4_placeIn σ k x))) k 7 (((up σ k 2 ((σ k 2) - (f_X4_placeIn σ k x))) k 7) + (f_X4_placeIn σ k x))) k 9 (((up (up σ k 2 ((σ k 2) - (f_X4_placeIn σ k x))) k 7 (((up σ k 2 ((σ k 2) - (f_X4_placeIn σ k x))) k 7) + (f_X4_placeIn σ k x))) k 9) + (ab (f_X4_placeIn σ k x)))
set_option maxHeartbeats 4000000 in
set_option maxRecDepth 100000 in
theorem k_X4_passMark (l : Launch) (D : va_G) (cy : Nat → ClassId) (z : Nat) (o : Int64) (d : UInt64) (σ τ : Sg) {k : Nat} (hk : kd k = 4) (x : Int32) : KI l yX4_passMark cX4_passMark 4 (some .int) rm_X4_passMark D cy z [.ref (z + k), .int x] o d σ τ (f_X4_passMark σ k x) (s_X4_passMark σ k x) τ := by
  refine met_of RX4 (plainFor_of_name (by decide)) rfl (Nat.le_of_ble_eq_true rfl) ?_
  intro p e s m args below meth c C hP hS ls hl
  obtain ⟨hx, hb, hr, hml, hown, hW, hlocks, hAm⟩ := id C
  have hl : lv_has ls 4 [(0, .ref (z + k)), (1, .int x)] := hl
  refine lv_aload_n hx hb dX4_passMark_0 rfl (lv_at hl 0 rfl) ?_
  refine lv_iload_n hx hb dX4_passMark_1 rfl (lv_at hl 1 rfl) ?_
  refine thn_I (run_V (As := [.int x]) (rest := []) C (k_X4_placeIn l D cy z o d σ τ hk x) hP hS cw_X4_placeIn (mA2 (i := 225) rfl rfl) hk ⟨rfl, rfl⟩ ⟨Nat.le_of_ble_eq_true rfl, Nat.le_of_ble_eq_true rfl⟩ rfl (Nat.le_of_ble_eq_true rfl) hl.1 ⟨Nat.zero_le _, Nat.zero_le _⟩ dX4_passMark_2) hS (fun H locs hP hS => ?_)
  refine lv_istore_n (lv' := [(2, .int (f_X4_placeIn σ k x)), (0, .ref (z + k)), (1, .int x)]) hx hb dX4_passMark_5 rfl hl (by decide) rfl (fun ls hl => ?_)
  refine lv_iconst (v := 2) hx hb dX4_passMark_6 (by decide) ?_
  refine lv_iload_n hx hb dX4_passMark_7 rfl (lv_at hl 0 rfl) ?_
  refine lv_imul hx hb dX4_passMark_8 ?_
  refine lv_iload_n hx hb dX4_passMark_9 rfl (lv_at hl 2 rfl) ?_
  refine lv_icmp_gt (tgt := 17) hx hb dX4_passMark_10 (by decide) (fun c_10 => ?_) (fun c_10 => ?_)
  · refine lv_iload_n hx hb dX4_passMark_17 rfl (lv_at hl 0 rfl) ?_
    refine lv_iload_n hx hb dX4_passMark_18 rfl (lv_at hl 2 rfl) ?_
    refine lv_isub hx hb dX4_passMark_19 ?_
    refine lv_istore_n (lv' := [(3, .int ((f_X4_placeIn σ k x) - x)), (2, .int (f_X4_placeIn σ k x)), (0, .ref (z + k)), (1, .int x)]) hx hb dX4_passMark_20 rfl hl (by decide) rfl (fun ls hl => ?_)
    refine lv_aload_n hx hb dX4_passMark_21 rfl (lv_at hl 2 rfl) ?_
    refine lv_dup hx hb dX4_passMark_22 rfl ?_
    refine gf_X4_77 C hP hk dX4_passMark_23 ?_
    refine lv_iload_n hx hb dX4_passMark_26 rfl (lv_at hl 0 rfl) ?_
    refine lv_isub hx hb dX4_passMark_27 ?_
    refine pf_X4_77 C hP hS hk dX4_passMark_28 (fun H locs hP hS => ?_)
    refine lv_aload_n hx hb dX4_passMark_31 rfl (lv_at hl 2 rfl) ?_
    refine lv_dup hx hb dX4_passMark_32 rfl ?_
    refine gf_X4_99 C hP hk dX4_passMark_33 ?_
    refine lv_iload_n hx hb dX4_passMark_36 rfl (lv_at hl 0 rfl) ?_
    refine lv_iadd hx hb dX4_passMark_37 ?_
    refine pf_X4_99 C hP hS hk dX4_passMark_38 (fun H locs hP hS => ?_)
    refine lv_aload_n hx hb dX4_passMark_41 rfl (lv_at hl 2 rfl) ?_
    refine lv_dup hx hb dX4_passMark_42 rfl ?_
    refine gf_X4_102 C hP hk dX4_passMark_43 ?_
    refine lv_iload_n hx hb dX4_passMark_46 rfl (lv_at hl 0 rfl) ?_
    refine g_abs C (mA2 (i := 168) rfl rfl) (Nat.le_of_ble_eq_true rfl) (Nat.le_of_ble_eq_true rfl) ⟨Nat.zero_le _, Nat.zero_le _⟩ hl.1 dX4_passMark_47 ?_
    refine lv_iadd hx hb dX4_passMark_50 ?_
    refine pf_X4_102 C hP hS hk dX4_passMark_51 (fun H locs hP hS => ?_)
    refine lv_iload_n hx hb dX4_passMark_54 rfl (lv_at hl 0 rfl) ?_
    exact ret_I C hP hS (nar_i _) rfl (by unfold f_X4_passMark; rw [if_pos c_10]) (by unfold s_X4_passMark; rw [if_pos c_10]) rfl dX4_passMark_55
  · refine lv_iload_n hx hb dX4_passMark_13 rfl (lv_at hl 0 rfl) ?_
    refine lv_goto (tgt := 20) hx hb dX4_passMark_14 (by decide) ?_
    refine lv_istore_n (lv' := [(3, .int (f_X4_placeIn σ k x)), (2, .int (f_X4_placeIn σ k x)), (0, .ref (z + k)), (1, .int x)]) hx hb dX4_passMark_20 rfl hl (by decide) rfl (fun ls hl => ?_)
    refine lv_aload_n hx hb dX4_passMark_21 rfl (lv_at hl 2 rfl) ?_
    refine lv_dup hx hb dX4_passMark_22 rfl ?_
    refine gf_X4_77 C hP hk dX4_passMark_23 ?_
    refine lv_iload_n hx hb dX4_passMark_26 rfl (lv_at hl 0 rfl) ?_
    refine lv_isub hx hb dX4_passMark_27 ?_
    refine pf_X4_77 C hP hS hk dX4_passMark_28 (fun H locs hP hS => ?_)
    refine lv_aload_n hx hb dX4_passMark_31 rfl (lv_at hl 2 rfl) ?_
    refine lv_dup hx hb dX4_passMark_32 rfl ?_
    refine gf_X4_99 C hP hk dX4_passMark_33 ?_
    refine lv_iload_n hx hb dX4_passMark_36 rfl (lv_at hl 0 rfl) ?_
    refine lv_iadd hx hb dX4_passMark_37 ?_
    refine pf_X4_99 C hP hS hk dX4_passMark_38 (fun H locs hP hS => ?_)
    refine lv_aload_n hx hb dX4_passMark_41 rfl (lv_at hl 2 rfl) ?_
    refine lv_dup hx hb dX4_passMark_42 rfl ?_
    refine gf_X4_102 C hP hk dX4_passMark_43 ?_
    refine lv_iload_n hx hb dX4_passMark_46 rfl (lv_at hl 0 rfl) ?_
    refine g_abs C (mA2 (i := 168) rfl rfl) (Nat.le_of_ble_eq_true rfl) (Nat.le_of_ble_eq_true rfl) ⟨Nat.zero_le _, Nat.zero_le _⟩ hl.1 dX4_passMark_47 ?_
    refine lv_iadd hx hb dX4_passMark_50 ?_
    refine pf_X4_102 C hP hS hk dX4_passMark_51 (fun H locs hP hS => ?_)
    refine lv_iload_n hx hb dX4_passMark_54 rfl (lv_at hl 0 rfl) ?_
    exact ret_I C hP hS (nar_i _) rfl (by unfold f_X4_passMark; rw [if_neg c_10]) (by unfold s_X4_passMark; rw [if_neg c_10]) rfl dX4_passMark_55

theorem cw_X0_snail : cwVt yX0_snail cX0_snail 2 (some (.object "QuadSnail$Snail")) 0 1 := ⟨(mA2 (i := 31) rfl rfl), (mA2 (i := 32) rfl rfl), (mA1 (i := 2) rfl rfl), (mA2 (i := 33) rfl rfl), by decide +kernel, ⟨_, rfl, rfl⟩, by decide⟩
abbrev rm_X0_snail : Room := { frames := 0, cells := 0, slots := 0, locals := 0 }
def f_X0_snail (σ : Sg) (k : Nat) (x : Int32) : Nat :=
  if x = 0 then
    k + 1
  else
    if x = 1 then
      k + 4
    else
      if x = 2 then
        k + 7
      else
        k + 10
set_option maxHeartbeats 4000000 in
set_option maxRecDepth 100000 in
theorem k_X0_snail (l : Launch) (D : va_G) (cy : Nat → ClassId) (z : Nat) (o : Int64) (d : UInt64) (σ τ : Sg) {k : Nat} (hk : kd k = 0) (x : Int32) : KR l yX0_snail cX0_snail 2 (some (.object "QuadSnail$Snail")) rm_X0_snail D cy z [.ref (z + k), .int x] o d σ τ (f_X0_snail σ k x) σ τ := by
  refine met_of RX0 (plainFor_of_name (by decide)) rfl (Nat.le_of_ble_eq_true rfl) ?_
  intro p e s m args below meth c C hP hS ls hl
  obtain ⟨hx, hb, hr, hml, hown, hW, hlocks, hAm⟩ := id C
  have hl : lv_has ls 2 [(0, .ref (z + k)), (1, .int x)] := hl
  refine lv_iload_n hx hb dX0_snail_0 rfl (lv_at hl 1 rfl) ?_
  by_cases c_1_0 : x = 0
  · refine lv_tableIn (tgt := 28) hx hb dX0_snail_1 (by rw [c_1_0]; decide) (by rw [c_1_0]; decide) (by rw [c_1_0]; rfl) (by decide) ?_
    refine lv_aload_n hx hb dX0_snail_28 rfl (lv_at hl 0 rfl) ?_
    refine gf_X0_12 C hP hk dX0_snail_29 ?_
    exact ret_R C hP hS rfl (by unfold f_X0_snail; rw [if_pos c_1_0]) rfl rfl dX0_snail_32
  · by_cases c_1_1 : x = 1
    · refine lv_tableIn (tgt := 33) hx hb dX0_snail_1 (by rw [c_1_1]; decide) (by rw [c_1_1]; decide) (by rw [c_1_1]; rfl) (by decide) ?_
      refine lv_aload_n hx hb dX0_snail_33 rfl (lv_at hl 0 rfl) ?_
      refine gf_X0_18 C hP hk dX0_snail_34 ?_
      exact ret_R C hP hS rfl (by unfold f_X0_snail; rw [if_neg c_1_0, if_pos c_1_1]) rfl rfl dX0_snail_37
    · by_cases c_1_2 : x = 2
      · refine lv_tableIn (tgt := 38) hx hb dX0_snail_1 (by rw [c_1_2]; decide) (by rw [c_1_2]; decide) (by rw [c_1_2]; rfl) (by decide) ?_
        refine lv_aload_n hx hb dX0_snail_38 rfl (lv_at hl 0 rfl) ?_
        refine gf_X0_21 C hP hk dX0_snail_39 ?_
        exact ret_R C hP hS rfl (by unfold f_X0_snail; rw [if_neg c_1_0, if_neg c_1_1, if_pos c_1_2]) rfl rfl dX0_snail_42
      · refine lv_tableOut (tgt := 43) hx hb dX0_snail_1 (tab_out3 (lv_neT c_1_0 (k := 0) (a := 0) rfl) (lv_neT c_1_1 (k := 1) (a := 1) rfl) (lv_neT c_1_2 (k := 2) (a := 2) rfl)) (by decide) ?_
        refine lv_aload_n hx hb dX0_snail_43 rfl (lv_at hl 0 rfl) ?_
        refine gf_X0_24 C hP hk dX0_snail_44 ?_
        exact ret_R C hP hS rfl (by unfold f_X0_snail; rw [if_neg c_1_0, if_neg c_1_1, if_neg c_1_2]) rfl rfl dX0_snail_47
theorem kr_X0_snail (σ : Sg) {k : Nat} (hk : kd k = 0) (x : Int32) : kd (f_X0_snail σ k x) = 4 := by
  unfold f_X0_snail
  repeat' split
  all_goals first | exact kd0_1 hk | exact kd0_4 hk | exact kd0_7 hk | exact kd0_10 hk

theorem cw_X3_latest : cwVt yX3_latest cX3_latest 1 (some (.object "QuadSnail$Garden")) 3 0 := ⟨(mA2 (i := 130) rfl rfl), (mA0 (i := 2) rfl rfl), (mA1 (i := 5) rfl rfl), (mA2 (i := 131) rfl rfl), by decide +kernel, ⟨_, rfl, rfl⟩, by decide⟩
abbrev rm_X3_latest : Room := { frames := 0, cells := 0, slots := 0, locals := 0 }
def f_X3_latest (σ : Sg) (k : Nat) : Nat :=
  if ((((σ k 4) + (σ k 5)) - 1) - (((σ k 4) + (σ k 5)) - 1) / 4 * 4) = 0 then
    k + 1
  else
    if ((((σ k 4) + (σ k 5)) - 1) - (((σ k 4) + (σ k 5)) - 1) / 4 * 4) = 1 then
      k + 14
    else
      if ((((σ k 4) + (σ k 5)) - 1) - (((σ k 4) + (σ k 5)) - 1) / 4 * 4) = 2 then
        k + 27
      else
        k + 40
set_option maxHeartbeats 4000000 in
set_option maxRecDepth 100000 in
theorem k_X3_latest (l : Launch) (D : va_G) (cy : Nat → ClassId) (z : Nat) (o : Int64) (d : UInt64) (σ τ : Sg) {k : Nat} (hk : kd k = 3) : KR l yX3_latest cX3_latest 1 (some (.object "QuadSnail$Garden")) rm_X3_latest D cy z [.ref (z + k)] o d σ τ (f_X3_latest σ k) σ τ := by
  refine met_of RX3 (plainFor_of_name (by decide)) rfl (Nat.le_of_ble_eq_true rfl) ?_
  intro p e s m args below meth c C hP hS ls hl
  obtain ⟨hx, hb, hr, hml, hown, hW, hlocks, hAm⟩ := id C
  have hl : lv_has ls 1 [(0, .ref (z + k))] := hl
  refine lv_aload_n hx hb dX3_latest_0 rfl (lv_at hl 0 rfl) ?_
  refine gf_X3_31 C hP hk dX3_latest_1 ?_
  refine lv_aload_n hx hb dX3_latest_4 rfl (lv_at hl 0 rfl) ?_
  refine gf_X3_27 C hP hk dX3_latest_5 ?_
  refine lv_iadd hx hb dX3_latest_8 ?_
  refine lv_iconst (v := 1) hx hb dX3_latest_9 (by decide) ?_
  refine lv_isub hx hb dX3_latest_10 ?_
  refine lv_iconst (v := 4) hx hb dX3_latest_11 (by decide) ?_
  refine lv_irem hx hb dX3_latest_12 (by decide) ?_
  by_cases c_13_0 : ((((σ k 4) + (σ k 5)) - 1) - (((σ k 4) + (σ k 5)) - 1) / 4 * 4) = 0
  · refine lv_tableIn (tgt := 40) hx hb dX3_latest_13 (by rw [c_13_0]; decide) (by rw [c_13_0]; decide) (by rw [c_13_0]; rfl) (by decide) ?_
    refine lv_aload_n hx hb dX3_latest_40 rfl (lv_at hl 0 rfl) ?_
    refine gf_X3_12 C hP hk dX3_latest_41 ?_
    exact ret_R C hP hS rfl (by unfold f_X3_latest; rw [if_pos c_13_0]) rfl rfl dX3_latest_44
  · by_cases c_13_1 : ((((σ k 4) + (σ k 5)) - 1) - (((σ k 4) + (σ k 5)) - 1) / 4 * 4) = 1
    · refine lv_tableIn (tgt := 45) hx hb dX3_latest_13 (by rw [c_13_1]; decide) (by rw [c_13_1]; decide) (by rw [c_13_1]; rfl) (by decide) ?_
      refine lv_aload_n hx hb dX3_latest_45 rfl (lv_at hl 0 rfl) ?_
      refine gf_X3_18 C hP hk dX3_latest_46 ?_
      exact ret_R C hP hS rfl (by unfold f_X3_latest; rw [if_neg c_13_0, if_pos c_13_1]) rfl rfl dX3_latest_49
    · by_cases c_13_2 : ((((σ k 4) + (σ k 5)) - 1) - (((σ k 4) + (σ k 5)) - 1) / 4 * 4) = 2
      · refine lv_tableIn (tgt := 50) hx hb dX3_latest_13 (by rw [c_13_2]; decide) (by rw [c_13_2]; decide) (by rw [c_13_2]; rfl) (by decide) ?_
        refine lv_aload_n hx hb dX3_latest_50 rfl (lv_at hl 0 rfl) ?_
        refine gf_X3_21 C hP hk dX3_latest_51 ?_
        exact ret_R C hP hS rfl (by unfold f_X3_latest; rw [if_neg c_13_0, if_neg c_13_1, if_pos c_13_2]) rfl rfl dX3_latest_54
      · refine lv_tableOut (tgt := 55) hx hb dX3_latest_13 (tab_out3 (lv_neT c_13_0 (k := 0) (a := 0) rfl) (lv_neT c_13_1 (k := 1) (a := 1) rfl) (lv_neT c_13_2 (k := 2) (a := 2) rfl)) (by decide) ?_
        refine lv_aload_n hx hb dX3_latest_55 rfl (lv_at hl 0 rfl) ?_
        refine gf_X3_24 C hP hk dX3_latest_56 ?_
        exact ret_R C hP hS rfl (by unfold f_X3_latest; rw [if_neg c_13_0, if_neg c_13_1, if_neg c_13_2]) rfl rfl dX3_latest_59
theorem kr_X3_latest (σ : Sg) {k : Nat} (hk : kd k = 3) : kd (f_X3_latest σ k) = 0 := by
  unfold f_X3_latest
  repeat' split
  all_goals first | exact kd3_1 hk | exact kd3_14 hk | exact kd3_27 hk | exact kd3_40 hk


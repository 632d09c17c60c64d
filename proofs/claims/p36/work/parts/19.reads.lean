theorem cw_X5_stateOf : cwVt yX5_stateOf cX5_stateOf 2 (some .int) 5 1 := ⟨(mA2 (i := 81) rfl rfl), (mA2 (i := 82) rfl rfl), (mA1 (i := 1) rfl rfl), (mA2 (i := 83) rfl rfl), by decide +kernel, ⟨_, rfl, rfl⟩, by decide⟩
def f_X5_stateOf (σ : Sg) (k : Nat) (x : Int32) : Int32 :=
  if x_X5_snailNumbered σ k x = 0 then
    σ (f_X5_snailNumbered σ k x) 1
  else
    0
def x_X5_stateOf (σ : Sg) (k : Nat) (x : Int32) : Nat :=
  if x_X5_snailNumbered σ k x = 0 then
    0
  else
    x_X5_snailNumbered σ k x
set_option maxHeartbeats 4000000 in
set_option maxRecDepth 100000 in
theorem k_X5_stateOf (l : Launch) (hfl : l.stackTraces = false) (D : va_G) (cy : Nat → ClassId) (z : Nat) (o : Int64) (d : UInt64) (σ τ : Sg) {k : Nat} (hk : kd k = 5) (x : Int32) : KT l yX5_stateOf cX5_stateOf 2 (some .int) 7 103 D cy z [.ref (z + k), .int x] o d σ τ (x_X5_stateOf σ k x) (PoTI D cy z o d (x_X5_stateOf σ k x) (f_X5_stateOf σ k x) σ τ) σ τ := by
  refine metT_of RX5 (by decide) rfl (Nat.le_of_ble_eq_true rfl) ?_
  intro p e s m args below meth c C hno hP hS ls hl
  obtain ⟨hx, hb, hr, hml, hown, hW, hlocks, hAm⟩ := id C
  have hl : lv_has ls 2 [(0, .ref (z + k)), (1, .int x)] := hl
  refine lv_aload_n hx hb dX5_stateOf_0 rfl (lv_at hl 0 rfl) ?_
  refine lv_iload_n hx hb dX5_stateOf_1 rfl (lv_at hl 1 rfl) ?_
  by_cases c_2 : x_X5_snailNumbered σ k x = 0
  · refine okT_R c_2 (runT_V (As := [.int x]) (rest := []) C (k_X5_snailNumbered l hfl D cy z o d σ τ hk x) hP hS cw_X5_snailNumbered (mA1 (i := 198) rfl rfl) hk ⟨Nat.le_of_ble_eq_true rfl, Nat.le_of_ble_eq_true rfl⟩ rfl (Nat.le_of_ble_eq_true rfl) hl.1 (tcc_0 c_2 ⟨Nat.zero_le _, Nat.zero_le _⟩) dX5_stateOf_2) hS (fun H locs hP hS => ?_)
    refine gf_X5_154 C hP (kr_X5_snailNumbered σ hk x) dX5_stateOf_5 ?_
    exact retT_I C hP hS (nar_i _) rfl (by unfold x_X5_stateOf; rw [if_pos c_2]) (by unfold f_X5_stateOf; rw [if_pos c_2]) rfl rfl dX5_stateOf_8
  · exact outT (runT_V (As := [.int x]) (rest := []) C (k_X5_snailNumbered l hfl D cy z o d σ τ hk x) hP hS cw_X5_snailNumbered (mA1 (i := 198) rfl rfl) hk ⟨Nat.le_of_ble_eq_true rfl, Nat.le_of_ble_eq_true rfl⟩ rfl (Nat.le_of_ble_eq_true rfl) hl.1 (tcc_e (by unfold x_X5_stateOf; rw [if_neg c_2])) dX5_stateOf_2) z_R c_2 (by unfold x_X5_stateOf; rw [if_neg c_2]) hno hlocks hS rfl rfl

theorem cw_X5_positionOf : cwVt yX5_positionOf cX5_positionOf 2 (some .int) 5 1 := ⟨(mA2 (i := 65) rfl rfl), (mA2 (i := 66) rfl rfl), (mA1 (i := 1) rfl rfl), (mA2 (i := 67) rfl rfl), by decide +kernel, ⟨_, rfl, rfl⟩, by decide⟩
def f_X5_positionOf (σ : Sg) (k : Nat) (x : Int32) : Int32 :=
  if x_X5_snailNumbered σ k x = 0 then
    σ (f_X5_snailNumbered σ k x) 2
  else
    0
def x_X5_positionOf (σ : Sg) (k : Nat) (x : Int32) : Nat :=
  if x_X5_snailNumbered σ k x = 0 then
    0
  else
    x_X5_snailNumbered σ k x
set_option maxHeartbeats 4000000 in
set_option maxRecDepth 100000 in
theorem k_X5_positionOf (l : Launch) (hfl : l.stackTraces = false) (D : va_G) (cy : Nat → ClassId) (z : Nat) (o : Int64) (d : UInt64) (σ τ : Sg) {k : Nat} (hk : kd k = 5) (x : Int32) : KT l yX5_positionOf cX5_positionOf 2 (some .int) 7 103 D cy z [.ref (z + k), .int x] o d σ τ (x_X5_positionOf σ k x) (PoTI D cy z o d (x_X5_positionOf σ k x) (f_X5_positionOf σ k x) σ τ) σ τ := by
  refine metT_of RX5 (by decide) rfl (Nat.le_of_ble_eq_true rfl) ?_
  intro p e s m args below meth c C hno hP hS ls hl
  obtain ⟨hx, hb, hr, hml, hown, hW, hlocks, hAm⟩ := id C
  have hl : lv_has ls 2 [(0, .ref (z + k)), (1, .int x)] := hl
  refine lv_aload_n hx hb dX5_positionOf_0 rfl (lv_at hl 0 rfl) ?_
  refine lv_iload_n hx hb dX5_positionOf_1 rfl (lv_at hl 1 rfl) ?_
  by_cases c_2 : x_X5_snailNumbered σ k x = 0
  · refine okT_R c_2 (runT_V (As := [.int x]) (rest := []) C (k_X5_snailNumbered l hfl D cy z o d σ τ hk x) hP hS cw_X5_snailNumbered (mA1 (i := 198) rfl rfl) hk ⟨Nat.le_of_ble_eq_true rfl, Nat.le_of_ble_eq_true rfl⟩ rfl (Nat.le_of_ble_eq_true rfl) hl.1 (tcc_0 c_2 ⟨Nat.zero_le _, Nat.zero_le _⟩) dX5_positionOf_2) hS (fun H locs hP hS => ?_)
    refine gf_X5_84 C hP (kr_X5_snailNumbered σ hk x) dX5_positionOf_5 ?_
    exact retT_I C hP hS (nar_i _) rfl (by unfold x_X5_positionOf; rw [if_pos c_2]) (by unfold f_X5_positionOf; rw [if_pos c_2]) rfl rfl dX5_positionOf_8
  · exact outT (runT_V (As := [.int x]) (rest := []) C (k_X5_snailNumbered l hfl D cy z o d σ τ hk x) hP hS cw_X5_snailNumbered (mA1 (i := 198) rfl rfl) hk ⟨Nat.le_of_ble_eq_true rfl, Nat.le_of_ble_eq_true rfl⟩ rfl (Nat.le_of_ble_eq_true rfl) hl.1 (tcc_e (by unfold x_X5_positionOf; rw [if_neg c_2])) dX5_positionOf_2) z_R c_2 (by unfold x_X5_positionOf; rw [if_neg c_2]) hno hlocks hS rfl rfl

theorem cw_X5_positionByTracks : cwVt yX5_positionByTracks cX5_positionByTracks 3 (some .int) 5 1 := ⟨(mA3 (i := 38) rfl rfl), (mA3 (i := 39) rfl rfl), (mA1 (i := 1) rfl rfl), (mA3 (i := 40) rfl rfl), by decide +kernel, ⟨_, rfl, rfl⟩, by decide⟩
def f_X5_positionByTracks (σ : Sg) (k : Nat) (x : Int32) : Int32 :=
  if x_X5_snailNumbered σ k x = 0 then
    (((σ (f_X5_snailNumbered σ k x) 4) + (σ (f_X5_snailNumbered σ k x) 5)) + (σ (f_X5_snailNumbered σ k x) 6)) - (σ (f_X5_snailNumbered σ k x) 7)
  else
    0
def x_X5_positionByTracks (σ : Sg) (k : Nat) (x : Int32) : Nat :=
  if x_X5_snailNumbered σ k x = 0 then
    0
  else
    x_X5_snailNumbered σ k x
set_option maxHeartbeats 4000000 in
set_option maxRecDepth 100000 in
theorem k_X5_positionByTracks (l : Launch) (hfl : l.stackTraces = false) (D : va_G) (cy : Nat → ClassId) (z : Nat) (o : Int64) (d : UInt64) (σ τ : Sg) {k : Nat} (hk : kd k = 5) (x : Int32) : KT l yX5_positionByTracks cX5_positionByTracks 3 (some .int) 7 103 D cy z [.ref (z + k), .int x] o d σ τ (x_X5_positionByTracks σ k x) (PoTI D cy z o d (x_X5_positionByTracks σ k x) (f_X5_positionByTracks σ k x) σ τ) σ τ := by
  refine metT_of RX5 (by decide) rfl (Nat.le_of_ble_eq_true rfl) ?_
  intro p e s m args below meth c C hno hP hS ls hl
  obtain ⟨hx, hb, hr, hml, hown, hW, hlocks, hAm⟩ := id C
  have hl : lv_has ls 3 [(0, .ref (z + k)), (1, .int x)] := hl
  refine lv_aload_n hx hb dX5_positionByTracks_0 rfl (lv_at hl 0 rfl) ?_
  refine lv_iload_n hx hb dX5_positionByTracks_1 rfl (lv_at hl 1 rfl) ?_
  by_cases c_2 : x_X5_snailNumbered σ k x = 0
  · refine okT_R c_2 (runT_V (As := [.int x]) (rest := []) C (k_X5_snailNumbered l hfl D cy z o d σ τ hk x) hP hS cw_X5_snailNumbered (mA1 (i := 198) rfl rfl) hk ⟨Nat.le_of_ble_eq_true rfl, Nat.le_of_ble_eq_true rfl⟩ rfl (Nat.le_of_ble_eq_true rfl) hl.1 (tcc_0 c_2 ⟨Nat.zero_le _, Nat.zero_le _⟩) dX5_positionByTracks_2) hS (fun H locs hP hS => ?_)
    refine lv_astore_n (lv' := [(2, .ref (z + (f_X5_snailNumbered σ k x))), (0, .ref (z + k)), (1, .int x)]) hx hb dX5_positionByTracks_5 rfl hl (by decide) rfl (fun ls hl => ?_)
    refine lv_aload_n hx hb dX5_positionByTracks_6 rfl (lv_at hl 0 rfl) ?_
    refine gf_X5_157 C hP (kr_X5_snailNumbered σ hk x) dX5_positionByTracks_7 ?_
    refine lv_aload_n hx hb dX5_positionByTracks_10 rfl (lv_at hl 0 rfl) ?_
    refine gf_X5_160 C hP (kr_X5_snailNumbered σ hk x) dX5_positionByTracks_11 ?_
    refine lv_iadd hx hb dX5_positionByTracks_14 ?_
    refine lv_aload_n hx hb dX5_positionByTracks_15 rfl (lv_at hl 0 rfl) ?_
    refine gf_X5_163 C hP (kr_X5_snailNumbered σ hk x) dX5_positionByTracks_16 ?_
    refine lv_iadd hx hb dX5_positionByTracks_19 ?_
    refine lv_aload_n hx hb dX5_positionByTracks_20 rfl (lv_at hl 0 rfl) ?_
    refine gf_X5_166 C hP (kr_X5_snailNumbered σ hk x) dX5_positionByTracks_21 ?_
    refine lv_isub hx hb dX5_positionByTracks_24 ?_
    exact retT_I C hP hS (nar_i _) rfl (by unfold x_X5_positionByTracks; rw [if_pos c_2]) (by unfold f_X5_positionByTracks; rw [if_pos c_2]) rfl rfl dX5_positionByTracks_25
  · exact outT (runT_V (As := [.int x]) (rest := []) C (k_X5_snailNumbered l hfl D cy z o d σ τ hk x) hP hS cw_X5_snailNumbered (mA1 (i := 198) rfl rfl) hk ⟨Nat.le_of_ble_eq_true rfl, Nat.le_of_ble_eq_true rfl⟩ rfl (Nat.le_of_ble_eq_true rfl) hl.1 (tcc_e (by unfold x_X5_positionByTracks; rw [if_neg c_2])) dX5_positionByTracks_2) z_R c_2 (by unfold x_X5_positionByTracks; rw [if_neg c_2]) hno hlocks hS rfl rfl

theorem cw_X5_turnsOf : cwVt yX5_turnsOf cX5_turnsOf 2 (some .int) 5 1 := ⟨(mA3 (i := 42) rfl rfl), (mA3 (i := 43) rfl rfl), (mA1 (i := 1) rfl rfl), (mA3 (i := 44) rfl rfl), by decide +kernel, ⟨_, rfl, rfl⟩, by decide⟩
def f_X5_turnsOf (σ : Sg) (k : Nat) (x : Int32) : Int32 :=
  if x_X5_snailNumbered σ k x = 0 then
    f_X4_turnsOver σ (f_X5_snailNumbered σ k x) (σ (k + 1) 5)
  else
    0
def x_X5_turnsOf (σ : Sg) (k : Nat) (x : Int32) : Nat :=
  if x_X5_snailNumbered σ k x = 0 then
    0
  else
    x_X5_snailNumbered σ k x
set_option maxHeartbeats 4000000 in
set_option maxRecDepth 100000 in
theorem k_X5_turnsOf (l : Launch) (hfl : l.stackTraces = false) (D : va_G) (cy : Nat → ClassId) (z : Nat) (o : Int64) (d : UInt64) (σ τ : Sg) {k : Nat} (hk : kd k = 5) (x : Int32) : KT l yX5_turnsOf cX5_turnsOf 2 (some .int) 7 103 D cy z [.ref (z + k), .int x] o d σ τ (x_X5_turnsOf σ k x) (PoTI D cy z o d (x_X5_turnsOf σ k x) (f_X5_turnsOf σ k x) σ τ) σ τ := by
  refine metT_of RX5 (by decide) rfl (Nat.le_of_ble_eq_true rfl) ?_
  intro p e s m args below meth c C hno hP hS ls hl
  obtain ⟨hx, hb, hr, hml, hown, hW, hlocks, hAm⟩ := id C
  have hl : lv_has ls 2 [(0, .ref (z + k)), (1, .int x)] := hl
  refine lv_aload_n hx hb dX5_turnsOf_0 rfl (lv_at hl 0 rfl) ?_
  refine lv_iload_n hx hb dX5_turnsOf_1 rfl (lv_at hl 1 rfl) ?_
  by_cases c_2 : x_X5_snailNumbered σ k x = 0
  · refine okT_R c_2 (runT_V (As := [.int x]) (rest := []) C (k_X5_snailNumbered l hfl D cy z o d σ τ hk x) hP hS cw_X5_snailNumbered (mA1 (i := 198) rfl rfl) hk ⟨Nat.le_of_ble_eq_true rfl, Nat.le_of_ble_eq_true rfl⟩ rfl (Nat.le_of_ble_eq_true rfl) hl.1 (tcc_0 c_2 ⟨Nat.zero_le _, Nat.zero_le _⟩) dX5_turnsOf_2) hS (fun H locs hP hS => ?_)
    refine lv_aload_n hx hb dX5_turnsOf_5 rfl (lv_at hl 0 rfl) ?_
    refine gf_X5_10 C hP hk dX5_turnsOf_6 ?_
    refine gf_X5_87 C hP (kd5_1 hk) dX5_turnsOf_9 ?_
    refine thn_I (run_V (As := [.int (σ (k + 1) 5)]) (rest := []) C (k_X4_turnsOver l D cy z o d σ τ (kr_X5_snailNumbered σ hk x) (σ (k + 1) 5)) hP hS cw_X4_turnsOver (mA3 (i := 45) rfl rfl) (kr_X5_snailNumbered σ hk x) ⟨rfl, rfl⟩ ⟨Nat.le_of_ble_eq_true rfl, Nat.le_of_ble_eq_true rfl⟩ rfl (Nat.le_of_ble_eq_true rfl) hl.1 ⟨Nat.zero_le _, Nat.zero_le _⟩ dX5_turnsOf_12) hS (fun H locs hP hS => ?_)
    exact retT_I C hP hS (nar_i _) rfl (by unfold x_X5_turnsOf; rw [if_pos c_2]) (by unfold f_X5_turnsOf; rw [if_pos c_2]) rfl rfl dX5_turnsOf_15
  · exact outT (runT_V (As := [.int x]) (rest := []) C (k_X5_snailNumbered l hfl D cy z o d σ τ hk x) hP hS cw_X5_snailNumbered (mA1 (i := 198) rfl rfl) hk ⟨Nat.le_of_ble_eq_true rfl, Nat.le_of_ble_eq_true rfl⟩ rfl (Nat.le_of_ble_eq_true rfl) hl.1 (tcc_e (by unfold x_X5_turnsOf; rw [if_neg c_2])) dX5_turnsOf_2) z_R c_2 (by unfold x_X5_turnsOf; rw [if_neg c_2]) hno hlocks hS rfl rfl

theorem cw_X5_placeOf : cwVt yX5_placeOf cX5_placeOf 2 (some .int) 5 1 := ⟨(mA2 (i := 199) rfl rfl), (mA2 (i := 200) rfl rfl), (mA1 (i := 1) rfl rfl), (mA2 (i := 201) rfl rfl), by decide +kernel, ⟨_, rfl, rfl⟩, by decide⟩
def f_X5_placeOf (σ : Sg) (k : Nat) (x : Int32) : Int32 :=
  if x_X5_snailNumbered σ k x = 0 then
    f_X4_placeIn σ (f_X5_snailNumbered σ k x) (σ (k + 1) 5)
  else
    0
def x_X5_placeOf (σ : Sg) (k : Nat) (x : Int32) : Nat :=
  if x_X5_snailNumbered σ k x = 0 then
    0
  else
    x_X5_snailNumbered σ k x
set_option maxHeartbeats 4000000 in
set_option maxRecDepth 100000 in
theorem k_X5_placeOf (l : Launch) (hfl : l.stackTraces = false) (D : va_G) (cy : Nat → ClassId) (z : Nat) (o : Int64) (d : UInt64) (σ τ : Sg) {k : Nat} (hk : kd k = 5) (x : Int32) : KT l yX5_placeOf cX5_placeOf 2 (some .int) 7 103 D cy z [.ref (z + k), .int x] o d σ τ (x_X5_placeOf σ k x) (PoTI D cy z o d (x_X5_placeOf σ k x) (f_X5_placeOf σ k x) σ τ) σ τ := by
  refine metT_of RX5 (by decide) rfl (Nat.le_of_ble_eq_true rfl) ?_
  intro p e s m args below meth c C hno hP hS ls hl
  obtain ⟨hx, hb, hr, hml, hown, hW, hlocks, hAm⟩ := id C
  have hl : lv_has ls 2 [(0, .ref (z + k)), (1, .int x)] := hl
  refine lv_aload_n hx hb dX5_placeOf_0 rfl (lv_at hl 0 rfl) ?_
  refine lv_iload_n hx hb dX5_placeOf_1 rfl (lv_at hl 1 rfl) ?_
  by_cases c_2 : x_X5_snailNumbered σ k x = 0
  · refine okT_R c_2 (runT_V (As := [.int x]) (rest := []) C (k_X5_snailNumbered l hfl D cy z o d σ τ hk x) hP hS cw_X5_snailNumbered (mA1 (i := 198) rfl rfl) hk ⟨Nat.le_of_ble_eq_true rfl, Nat.le_of_ble_eq_true rfl⟩ rfl (Nat.le_of_ble_eq_true rfl) hl.1 (tcc_0 c_2 ⟨Nat.zero_le _, Nat.zero_le _⟩) dX5_placeOf_2) hS (fun H locs hP hS => ?_)
    refine lv_aload_n hx hb dX5_placeOf_5 rfl (lv_at hl 0 rfl) ?_
    refine gf_X5_10 C hP hk dX5_placeOf_6 ?_
    refine gf_X5_87 C hP (kd5_1 hk) dX5_placeOf_9 ?_
    refine thn_I (run_V (As := [.int (σ (k + 1) 5)]) (rest := []) C (k_X4_placeIn l D cy z o d σ τ (kr_X5_snailNumbered σ hk x) (σ (k + 1) 5)) hP hS cw_X4_placeIn (mA2 (i := 202) rfl rfl) (kr_X5_snailNumbered σ hk x) ⟨rfl, rfl⟩ ⟨Nat.le_of_ble_eq_true rfl, Nat.le_of_ble_eq_true rfl⟩ rfl (Nat.le_of_ble_eq_true rfl) hl.1 ⟨Nat.zero_le _, Nat.zero_le _⟩ dX5_placeOf_12) hS (fun H locs hP hS => ?_)
    exact retT_I C hP hS (nar_i _) rfl (by unfold x_X5_placeOf; rw [if_pos c_2]) (by unfold f_X5_placeOf; rw [if_pos c_2]) rfl rfl dX5_placeOf_15
  · exact outT (runT_V (As := [.int x]) (rest := []) C (k_X5_snailNumbered l hfl D cy z o d σ τ hk x) hP hS cw_X5_snailNumbered (mA1 (i := 198) rfl rfl) hk ⟨Nat.le_of_ble_eq_true rfl, Nat.le_of_ble_eq_true rfl⟩ rfl (Nat.le_of_ble_eq_true rfl) hl.1 (tcc_e (by unfold x_X5_placeOf; rw [if_neg c_2])) dX5_placeOf_2) z_R c_2 (by unfold x_X5_placeOf; rw [if_neg c_2]) hno hlocks hS rfl rfl

theorem cw_X5_directionOf : cwVt yX5_directionOf cX5_directionOf 2 (some .int) 5 1 := ⟨(mA2 (i := 77) rfl rfl), (mA2 (i := 78) rfl rfl), (mA1 (i := 1) rfl rfl), (mA2 (i := 79) rfl rfl), by decide +kernel, ⟨_, rfl, rfl⟩, by decide⟩
def f_X5_directionOf (σ : Sg) (k : Nat) (x : Int32) : Int32 :=
  if x_X5_snailNumbered σ k x = 0 then
    σ (f_X5_snailNumbered σ k x) 3
  else
    0
def x_X5_directionOf (σ : Sg) (k : Nat) (x : Int32) : Nat :=
  if x_X5_snailNumbered σ k x = 0 then
    0
  else
    x_X5_snailNumbered σ k x
set_option maxHeartbeats 4000000 in
set_option maxRecDepth 100000 in
theorem k_X5_directionOf (l : Launch) (hfl : l.stackTraces = false) (D : va_G) (cy : Nat → ClassId) (z : Nat) (o : Int64) (d : UInt64) (σ τ : Sg) {k : Nat} (hk : kd k = 5) (x : Int32) : KT l yX5_directionOf cX5_directionOf 2 (some .int) 7 103 D cy z [.ref (z + k), .int x] o d σ τ (x_X5_directionOf σ k x) (PoTI D cy z o d (x_X5_directionOf σ k x) (f_X5_directionOf σ k x) σ τ) σ τ := by
  refine metT_of RX5 (by decide) rfl (Nat.le_of_ble_eq_true rfl) ?_
  intro p e s m args below meth c C hno hP hS ls hl
  obtain ⟨hx, hb, hr, hml, hown, hW, hlocks, hAm⟩ := id C
  have hl : lv_has ls 2 [(0, .ref (z + k)), (1, .int x)] := hl
  refine lv_aload_n hx hb dX5_directionOf_0 rfl (lv_at hl 0 rfl) ?_
  refine lv_iload_n hx hb dX5_directionOf_1 rfl (lv_at hl 1 rfl) ?_
  by_cases c_2 : x_X5_snailNumbered σ k x = 0
  · refine okT_R c_2 (runT_V (As := [.int x]) (rest := []) C (k_X5_snailNumbered l hfl D cy z o d σ τ hk x) hP hS cw_X5_snailNumbered (mA1 (i := 198) rfl rfl) hk ⟨Nat.le_of_ble_eq_true rfl, Nat.le_of_ble_eq_true rfl⟩ rfl (Nat.le_of_ble_eq_true rfl) hl.1 (tcc_0 c_2 ⟨Nat.zero_le _, Nat.zero_le _⟩) dX5_directionOf_2) hS (fun H locs hP hS => ?_)
    refine gf_X5_175 C hP (kr_X5_snailNumbered σ hk x) dX5_directionOf_5 ?_
    exact retT_I C hP hS (nar_i _) rfl (by unfold x_X5_directionOf; rw [if_pos c_2]) (by unfold f_X5_directionOf; rw [if_pos c_2]) rfl rfl dX5_directionOf_8
  · exact outT (runT_V (As := [.int x]) (rest := []) C (k_X5_snailNumbered l hfl D cy z o d σ τ hk x) hP hS cw_X5_snailNumbered (mA1 (i := 198) rfl rfl) hk ⟨Nat.le_of_ble_eq_true rfl, Nat.le_of_ble_eq_true rfl⟩ rfl (Nat.le_of_ble_eq_true rfl) hl.1 (tcc_e (by unfold x_X5_directionOf; rw [if_neg c_2])) dX5_directionOf_2) z_R c_2 (by unfold x_X5_directionOf; rw [if_neg c_2]) hno hlocks hS rfl rfl

theorem cw_X5_countOfA : cwVt yX5_countOfA cX5_countOfA 2 (some .int) 5 1 := ⟨(mA2 (i := 230) rfl rfl), (mA2 (i := 231) rfl rfl), (mA1 (i := 1) rfl rfl), (mA2 (i := 232) rfl rfl), by decide +kernel, ⟨_, rfl, rfl⟩, by decide⟩
def f_X5_countOfA (σ : Sg) (k : Nat) (x : Int32) : Int32 :=
  if x_X5_snailNumbered σ k x = 0 then
    σ (f_X5_snailNumbered σ k x) 4
  else
    0
def x_X5_countOfA (σ : Sg) (k : Nat) (x : Int32) : Nat :=
  if x_X5_snailNumbered σ k x = 0 then
    0
  else
    x_X5_snailNumbered σ k x
set_option maxHeartbeats 4000000 in
set_option maxRecDepth 100000 in
theorem k_X5_countOfA (l : Launch) (hfl : l.stackTraces = false) (D : va_G) (cy : Nat → ClassId) (z : Nat) (o : Int64) (d : UInt64) (σ τ : Sg) {k : Nat} (hk : kd k = 5) (x : Int32) : KT l yX5_countOfA cX5_countOfA 2 (some .int) 7 103 D cy z [.ref (z + k), .int x] o d σ τ (x_X5_countOfA σ k x) (PoTI D cy z o d (x_X5_countOfA σ k x) (f_X5_countOfA σ k x) σ τ) σ τ := by
  refine metT_of RX5 (by decide) rfl (Nat.le_of_ble_eq_true rfl) ?_
  intro p e s m args below meth c C hno hP hS ls hl
  obtain ⟨hx, hb, hr, hml, hown, hW, hlocks, hAm⟩ := id C
  have hl : lv_has ls 2 [(0, .ref (z + k)), (1, .int x)] := hl
  refine lv_aload_n hx hb dX5_countOfA_0 rfl (lv_at hl 0 rfl) ?_
  refine lv_iload_n hx hb dX5_countOfA_1 rfl (lv_at hl 1 rfl) ?_
  by_cases c_2 : x_X5_snailNumbered σ k x = 0
  · refine okT_R c_2 (runT_V (As := [.int x]) (rest := []) C (k_X5_snailNumbered l hfl D cy z o d σ τ hk x) hP hS cw_X5_snailNumbered (mA1 (i := 198) rfl rfl) hk ⟨Nat.le_of_ble_eq_true rfl, Nat.le_of_ble_eq_true rfl⟩ rfl (Nat.le_of_ble_eq_true rfl) hl.1 (tcc_0 c_2 ⟨Nat.zero_le _, Nat.zero_le _⟩) dX5_countOfA_2) hS (fun H locs hP hS => ?_)
    refine gf_X5_157 C hP (kr_X5_snailNumbered σ hk x) dX5_countOfA_5 ?_
    exact retT_I C hP hS (nar_i _) rfl (by unfold x_X5_countOfA; rw [if_pos c_2]) (by unfold f_X5_countOfA; rw [if_pos c_2]) rfl rfl dX5_countOfA_8
  · exact outT (runT_V (As := [.int x]) (rest := []) C (k_X5_snailNumbered l hfl D cy z o d σ τ hk x) hP hS cw_X5_snailNumbered (mA1 (i := 198) rfl rfl) hk ⟨Nat.le_of_ble_eq_true rfl, Nat.le_of_ble_eq_true rfl⟩ rfl (Nat.le_of_ble_eq_true rfl) hl.1 (tcc_e (by unfold x_X5_countOfA; rw [if_neg c_2])) dX5_countOfA_2) z_R c_2 (by unfold x_X5_countOfA; rw [if_neg c_2]) hno hlocks hS rfl rfl

theorem cw_X5_logLength : cwVt yX5_logLength cX5_logLength 2 (some .int) 5 1 := ⟨(mA2 (i := 73) rfl rfl), (mA2 (i := 74) rfl rfl), (mA1 (i := 1) rfl rfl), (mA2 (i := 75) rfl rfl), by decide +kernel, ⟨_, rfl, rfl⟩, by decide⟩
def f_X5_logLength (σ : Sg) (k : Nat) (x : Int32) : Int32 :=
  if x_X5_snailNumbered σ k x = 0 then
    σ (f_X5_snailNumbered σ k x + 1) 2
  else
    0
def x_X5_logLength (σ : Sg) (k : Nat) (x : Int32) : Nat :=
  if x_X5_snailNumbered σ k x = 0 then
    0
  else
    x_X5_snailNumbered σ k x
set_option maxHeartbeats 4000000 in
set_option maxRecDepth 100000 in
theorem k_X5_logLength (l : Launch) (hfl : l.stackTraces = false) (D : va_G) (cy : Nat → ClassId) (z : Nat) (o : Int64) (d : UInt64) (σ τ : Sg) {k : Nat} (hk : kd k = 5) (x : Int32) : KT l yX5_logLength cX5_logLength 2 (some .int) 7 103 D cy z [.ref (z + k), .int x] o d σ τ (x_X5_logLength σ k x) (PoTI D cy z o d (x_X5_logLength σ k x) (f_X5_logLength σ k x) σ τ) σ τ := by
  refine metT_of RX5 (by decide) rfl (Nat.le_of_ble_eq_true rfl) ?_
  intro p e s m args below meth c C hno hP hS ls hl
  obtain ⟨hx, hb, hr, hml, hown, hW, hlocks, hAm⟩ := id C
  have hl : lv_has ls 2 [(0, .ref (z + k)), (1, .int x)] := hl
  refine lv_aload_n hx hb dX5_logLength_0 rfl (lv_at hl 0 rfl) ?_
  refine lv_iload_n hx hb dX5_logLength_1 rfl (lv_at hl 1 rfl) ?_
  by_cases c_2 : x_X5_snailNumbered σ k x = 0
  · refine okT_R c_2 (runT_V (As := [.int x]) (rest := []) C (k_X5_snailNumbered l hfl D cy z o d σ τ hk x) hP hS cw_X5_snailNumbered (mA1 (i := 198) rfl rfl) hk ⟨Nat.le_of_ble_eq_true rfl, Nat.le_of_ble_eq_true rfl⟩ rfl (Nat.le_of_ble_eq_true rfl) hl.1 (tcc_0 c_2 ⟨Nat.zero_le _, Nat.zero_le _⟩) dX5_logLength_2) hS (fun H locs hP hS => ?_)
    refine gf_X5_181 C hP (kr_X5_snailNumbered σ hk x) dX5_logLength_5 ?_
    refine gf_X5_185 C hP (kd4_1 (kr_X5_snailNumbered σ hk x)) dX5_logLength_8 ?_
    exact retT_I C hP hS (nar_i _) rfl (by unfold x_X5_logLength; rw [if_pos c_2]) (by unfold f_X5_logLength; rw [if_pos c_2]) rfl rfl dX5_logLength_11
  · exact outT (runT_V (As := [.int x]) (rest := []) C (k_X5_snailNumbered l hfl D cy z o d σ τ hk x) hP hS cw_X5_snailNumbered (mA1 (i := 198) rfl rfl) hk ⟨Nat.le_of_ble_eq_true rfl, Nat.le_of_ble_eq_true rfl⟩ rfl (Nat.le_of_ble_eq_true rfl) hl.1 (tcc_e (by unfold x_X5_logLength; rw [if_neg c_2])) dX5_logLength_2) z_R c_2 (by unfold x_X5_logLength; rw [if_neg c_2]) hno hlocks hS rfl rfl

theorem cw_X5_errorsOf : cwVt yX5_errorsOf cX5_errorsOf 2 (some .int) 5 1 := ⟨(mA2 (i := 85) rfl rfl), (mA2 (i := 86) rfl rfl), (mA1 (i := 1) rfl rfl), (mA2 (i := 87) rfl rfl), by decide +kernel, ⟨_, rfl, rfl⟩, by decide⟩
def f_X5_errorsOf (σ : Sg) (k : Nat) (x : Int32) : Int32 :=
  if x_X5_snailNumbered σ k x = 0 then
    σ (f_X5_snailNumbered σ k x) 8
  else
    0
def x_X5_errorsOf (σ : Sg) (k : Nat) (x : Int32) : Nat :=
  if x_X5_snailNumbered σ k x = 0 then
    0
  else
    x_X5_snailNumbered σ k x
set_option maxHeartbeats 4000000 in
set_option maxRecDepth 100000 in
theorem k_X5_errorsOf (l : Launch) (hfl : l.stackTraces = false) (D : va_G) (cy : Nat → ClassId) (z : Nat) (o : Int64) (d : UInt64) (σ τ : Sg) {k : Nat} (hk : kd k = 5) (x : Int32) : KT l yX5_errorsOf cX5_errorsOf 2 (some .int) 7 103 D cy z [.ref (z + k), .int x] o d σ τ (x_X5_errorsOf σ k x) (PoTI D cy z o d (x_X5_errorsOf σ k x) (f_X5_errorsOf σ k x) σ τ) σ τ := by
  refine metT_of RX5 (by decide) rfl (Nat.le_of_ble_eq_true rfl) ?_
  intro p e s m args below meth c C hno hP hS ls hl
  obtain ⟨hx, hb, hr, hml, hown, hW, hlocks, hAm⟩ := id C
  have hl : lv_has ls 2 [(0, .ref (z + k)), (1, .int x)] := hl
  refine lv_aload_n hx hb dX5_errorsOf_0 rfl (lv_at hl 0 rfl) ?_
  refine lv_iload_n hx hb dX5_errorsOf_1 rfl (lv_at hl 1 rfl) ?_
  by_cases c_2 : x_X5_snailNumbered σ k x = 0
  · refine okT_R c_2 (runT_V (As := [.int x]) (rest := []) C (k_X5_snailNumbered l hfl D cy z o d σ τ hk x) hP hS cw_X5_snailNumbered (mA1 (i := 198) rfl rfl) hk ⟨Nat.le_of_ble_eq_true rfl, Nat.le_of_ble_eq_true rfl⟩ rfl (Nat.le_of_ble_eq_true rfl) hl.1 (tcc_0 c_2 ⟨Nat.zero_le _, Nat.zero_le _⟩) dX5_errorsOf_2) hS (fun H locs hP hS => ?_)
    refine gf_X5_200 C hP (kr_X5_snailNumbered σ hk x) dX5_errorsOf_5 ?_
    exact retT_I C hP hS (nar_i _) rfl (by unfold x_X5_errorsOf; rw [if_pos c_2]) (by unfold f_X5_errorsOf; rw [if_pos c_2]) rfl rfl dX5_errorsOf_8
  · exact outT (runT_V (As := [.int x]) (rest := []) C (k_X5_snailNumbered l hfl D cy z o d σ τ hk x) hP hS cw_X5_snailNumbered (mA1 (i := 198) rfl rfl) hk ⟨Nat.le_of_ble_eq_true rfl, Nat.le_of_ble_eq_true rfl⟩ rfl (Nat.le_of_ble_eq_true rfl) hl.1 (tcc_e (by unfold x_X5_errorsOf; rw [if_neg c_2])) dX5_errorsOf_2) z_R c_2 (by unfold x_X5_errorsOf; rw [if_neg c_2]) hno hlocks hS rfl rfl

theorem cw_X5_slipsOf : cwVt yX5_slipsOf cX5_slipsOf 2 (some .int) 5 1 := ⟨(mA2 (i := 210) rfl rfl), (mA2 (i := 211) rfl rfl), (mA1 (i := 1) rfl rfl), (mA2 (i := 212) rfl rfl), by decide +kernel, ⟨_, rfl, rfl⟩, by decide⟩
def f_X5_slipsOf (σ : Sg) (k : Nat) (x : Int32) : Int32 :=
  if x_X5_snailNumbered σ k x = 0 then
    σ (f_X5_snailNumbered σ k x) 9
  else
    0
def x_X5_slipsOf (σ : Sg) (k : Nat) (x : Int32) : Nat :=
  if x_X5_snailNumbered σ k x = 0 then
    0
  else
    x_X5_snailNumbered σ k x
set_option maxHeartbeats 4000000 in
set_option maxRecDepth 100000 in
theorem k_X5_slipsOf (l : Launch) (hfl : l.stackTraces = false) (D : va_G) (cy : Nat → ClassId) (z : Nat) (o : Int64) (d : UInt64) (σ τ : Sg) {k : Nat} (hk : kd k = 5) (x : Int32) : KT l yX5_slipsOf cX5_slipsOf 2 (some .int) 7 103 D cy z [.ref (z + k), .int x] o d σ τ (x_X5_slipsOf σ k x) (PoTI D cy z o d (x_X5_slipsOf σ k x) (f_X5_slipsOf σ k x) σ τ) σ τ := by
  refine metT_of RX5 (by decide) rfl (Nat.le_of_ble_eq_true rfl) ?_
  intro p e s m args below meth c C hno hP hS ls hl
  obtain ⟨hx, hb, hr, hml, hown, hW, hlocks, hAm⟩ := id C
  have hl : lv_has ls 2 [(0, .ref (z + k)), (1, .int x)] := hl
  refine lv_aload_n hx hb dX5_slipsOf_0 rfl (lv_at hl 0 rfl) ?_
  refine lv_iload_n hx hb dX5_slipsOf_1 rfl (lv_at hl 1 rfl) ?_
  by_cases c_2 : x_X5_snailNumbered σ k x = 0
  · refine okT_R c_2 (runT_V (As := [.int x]) (rest := []) C (k_X5_snailNumbered l hfl D cy z o d σ τ hk x) hP hS cw_X5_snailNumbered (mA1 (i := 198) rfl rfl) hk ⟨Nat.le_of_ble_eq_true rfl, Nat.le_of_ble_eq_true rfl⟩ rfl (Nat.le_of_ble_eq_true rfl) hl.1 (tcc_0 c_2 ⟨Nat.zero_le _, Nat.zero_le _⟩) dX5_slipsOf_2) hS (fun H locs hP hS => ?_)
    refine gf_X5_203 C hP (kr_X5_snailNumbered σ hk x) dX5_slipsOf_5 ?_
    exact retT_I C hP hS (nar_i _) rfl (by unfold x_X5_slipsOf; rw [if_pos c_2]) (by unfold f_X5_slipsOf; rw [if_pos c_2]) rfl rfl dX5_slipsOf_8
  · exact outT (runT_V (As := [.int x]) (rest := []) C (k_X5_snailNumbered l hfl D cy z o d σ τ hk x) hP hS cw_X5_snailNumbered (mA1 (i := 198) rfl rfl) hk ⟨Nat.le_of_ble_eq_true rfl, Nat.le_of_ble_eq_true rfl⟩ rfl (Nat.le_of_ble_eq_true rfl) hl.1 (tcc_e (by unfold x_X5_slipsOf; rw [if_neg c_2])) dX5_slipsOf_2) z_R c_2 (by unfold x_X5_slipsOf; rw [if_neg c_2]) hno hlocks hS rfl rfl

theorem cw_X5_distanceOf : cwVt yX5_distanceOf cX5_distanceOf 2 (some .int) 5 1 := ⟨(mA2 (i := 89) rfl rfl), (mA2 (i := 90) rfl rfl), (mA1 (i := 1) rfl rfl), (mA2 (i := 91) rfl rfl), by decide +kernel, ⟨_, rfl, rfl⟩, by decide⟩
def f_X5_distanceOf (σ : Sg) (k : Nat) (x : Int32) : Int32 :=
  if x_X5_snailNumbered σ k x = 0 then
    σ (f_X5_snailNumbered σ k x) 10
  else
    0
def x_X5_distanceOf (σ : Sg) (k : Nat) (x : Int32) : Nat :=
  if x_X5_snailNumbered σ k x = 0 then
    0
  else
    x_X5_snailNumbered σ k x
set_option maxHeartbeats 4000000 in
set_option maxRecDepth 100000 in
theorem k_X5_distanceOf (l : Launch) (hfl : l.stackTraces = false) (D : va_G) (cy : Nat → ClassId) (z : Nat) (o : Int64) (d : UInt64) (σ τ : Sg) {k : Nat} (hk : kd k = 5) (x : Int32) : KT l yX5_distanceOf cX5_distanceOf 2 (some .int) 7 103 D cy z [.ref (z + k), .int x] o d σ τ (x_X5_distanceOf σ k x) (PoTI D cy z o d (x_X5_distanceOf σ k x) (f_X5_distanceOf σ k x) σ τ) σ τ := by
  refine metT_of RX5 (by decide) rfl (Nat.le_of_ble_eq_true rfl) ?_
  intro p e s m args below meth c C hno hP hS ls hl
  obtain ⟨hx, hb, hr, hml, hown, hW, hlocks, hAm⟩ := id C
  have hl : lv_has ls 2 [(0, .ref (z + k)), (1, .int x)] := hl
  refine lv_aload_n hx hb dX5_distanceOf_0 rfl (lv_at hl 0 rfl) ?_
  refine lv_iload_n hx hb dX5_distanceOf_1 rfl (lv_at hl 1 rfl) ?_
  by_cases c_2 : x_X5_snailNumbered σ k x = 0
  · refine okT_R c_2 (runT_V (As := [.int x]) (rest := []) C (k_X5_snailNumbered l hfl D cy z o d σ τ hk x) hP hS cw_X5_snailNumbered (mA1 (i := 198) rfl rfl) hk ⟨Nat.le_of_ble_eq_true rfl, Nat.le_of_ble_eq_true rfl⟩ rfl (Nat.le_of_ble_eq_true rfl) hl.1 (tcc_0 c_2 ⟨Nat.zero_le _, Nat.zero_le _⟩) dX5_distanceOf_2) hS (fun H locs hP hS => ?_)
    refine gf_X5_206 C hP (kr_X5_snailNumbered σ hk x) dX5_distanceOf_5 ?_
    exact retT_I C hP hS (nar_i _) rfl (by unfold x_X5_distanceOf; rw [if_pos c_2]) (by unfold f_X5_distanceOf; rw [if_pos c_2]) rfl rfl dX5_distanceOf_8
  · exact outT (runT_V (As := [.int x]) (rest := []) C (k_X5_snailNumbered l hfl D cy z o d σ τ hk x) hP hS cw_X5_snailNumbered (mA1 (i := 198) rfl rfl) hk ⟨Nat.le_of_ble_eq_true rfl, Nat.le_of_ble_eq_true rfl⟩ rfl (Nat.le_of_ble_eq_true rfl) hl.1 (tcc_e (by unfold x_X5_distanceOf; rw [if_neg c_2])) dX5_distanceOf_2) z_R c_2 (by unfold x_X5_distanceOf; rw [if_neg c_2]) hno hlocks hS rfl rfl

theorem cw_X5_ticksOf : cwVt yX5_ticksOf cX5_ticksOf 2 (some .int) 5 1 := ⟨(mA2 (i := 69) rfl rfl), (mA2 (i := 70) rfl rfl), (mA1 (i := 1) rfl rfl), (mA2 (i := 71) rfl rfl), by decide +kernel, ⟨_, rfl, rfl⟩, by decide⟩
def f_X5_ticksOf (σ : Sg) (k : Nat) (x : Int32) : Int32 :=
  if x_X5_snailNumbered σ k x = 0 then
    σ (f_X5_snailNumbered σ k x) 11
  else
    0
def x_X5_ticksOf (σ : Sg) (k : Nat) (x : Int32) : Nat :=
  if x_X5_snailNumbered σ k x = 0 then
    0
  else
    x_X5_snailNumbered σ k x
set_option maxHeartbeats 4000000 in
set_option maxRecDepth 100000 in
theorem k_X5_ticksOf (l : Launch) (hfl : l.stackTraces = false) (D : va_G) (cy : Nat → ClassId) (z : Nat) (o : Int64) (d : UInt64) (σ τ : Sg) {k : Nat} (hk : kd k = 5) (x : Int32) : KT l yX5_ticksOf cX5_ticksOf 2 (some .int) 7 103 D cy z [.ref (z + k), .int x] o d σ τ (x_X5_ticksOf σ k x) (PoTI D cy z o d (x_X5_ticksOf σ k x) (f_X5_ticksOf σ k x) σ τ) σ τ := by
  refine metT_of RX5 (by decide) rfl (Nat.le_of_ble_eq_true rfl) ?_
  intro p e s m args below meth c C hno hP hS ls hl
  obtain ⟨hx, hb, hr, hml, hown, hW, hlocks, hAm⟩ := id C
  have hl : lv_has ls 2 [(0, .ref (z + k)), (1, .int x)] := hl
  refine lv_aload_n hx hb dX5_ticksOf_0 rfl (lv_at hl 0 rfl) ?_
  refine lv_iload_n hx hb dX5_ticksOf_1 rfl (lv_at hl 1 rfl) ?_
  by_cases c_2 : x_X5_snailNumbered σ k x = 0
  · refine okT_R c_2 (runT_V (As := [.int x]) (rest := []) C (k_X5_snailNumbered l hfl D cy z o d σ τ hk x) hP hS cw_X5_snailNumbered (mA1 (i := 198) rfl rfl) hk ⟨Nat.le_of_ble_eq_true rfl, Nat.le_of_ble_eq_true rfl⟩ rfl (Nat.le_of_ble_eq_true rfl) hl.1 (tcc_0 c_2 ⟨Nat.zero_le _, Nat.zero_le _⟩) dX5_ticksOf_2) hS (fun H locs hP hS => ?_)
    refine gf_X5_209 C hP (kr_X5_snailNumbered σ hk x) dX5_ticksOf_5 ?_
    exact retT_I C hP hS (nar_i _) rfl (by unfold x_X5_ticksOf; rw [if_pos c_2]) (by unfold f_X5_ticksOf; rw [if_pos c_2]) rfl rfl dX5_ticksOf_8
  · exact outT (runT_V (As := [.int x]) (rest := []) C (k_X5_snailNumbered l hfl D cy z o d σ τ hk x) hP hS cw_X5_snailNumbered (mA1 (i := 198) rfl rfl) hk ⟨Nat.le_of_ble_eq_true rfl, Nat.le_of_ble_eq_true rfl⟩ rfl (Nat.le_of_ble_eq_true rfl) hl.1 (tcc_e (by unfold x_X5_ticksOf; rw [if_neg c_2])) dX5_ticksOf_2) z_R c_2 (by unfold x_X5_ticksOf; rw [if_neg c_2]) hno hlocks hS rfl rfl

theorem cw_X5_stepTo : cwVt yX5_stepTo cX5_stepTo 4 (some .int) 5 2 := ⟨(mA1 (i := 195) rfl rfl), (mA1 (i := 196) rfl rfl), (mA1 (i := 1) rfl rfl), (mA1 (i := 197) rfl rfl), by decide +kernel, ⟨_, rfl, rfl⟩, by decide⟩
def f_X5_stepTo (σ : Sg) (k : Nat) (x : Int32) (y : Int32) : Int32 :=
  if x_X5_snailNumbered σ k x = 0 then
    if x_X5_demandState y = 0 then
      f_X4_stepUnder σ (f_X5_snailNumbered σ k x) (σ (k + 1) 4) y
    else
      0
  else
    0
def x_X5_stepTo (σ : Sg) (k : Nat) (x : Int32) (y : Int32) : Nat :=
  if x_X5_snailNumbered σ k x = 0 then
    if x_X5_demandState y = 0 then
      0
    else
      x_X5_demandState y
  else
    x_X5_snailNumbered σ k x
set_option maxHeartbeats 4000000 in
set_option maxRecDepth 100000 in
theorem k_X5_stepTo (l : Launch) (hfl : l.stackTraces = false) (D : va_G) (cy : Nat → ClassId) (z : Nat) (o : Int64) (d : UInt64) (σ τ : Sg) {k : Nat} (hk : kd k = 5) (x : Int32) (y : Int32) : KT l yX5_stepTo cX5_stepTo 4 (some .int) 7 103 D cy z [.ref (z + k), .int x, .int y] o d σ τ (x_X5_stepTo σ k x y) (PoTI D cy z o d (x_X5_stepTo σ k x y) (f_X5_stepTo σ k x y) σ τ) σ τ := by
  refine metT_of RX5 (by decide) rfl (Nat.le_of_ble_eq_true rfl) ?_
  intro p e s m args below meth c C hno hP hS ls hl
  obtain ⟨hx, hb, hr, hml, hown, hW, hlocks, hAm⟩ := id C
  have hl : lv_has ls 4 [(0, .ref (z + k)), (1, .int x), (2, .int y)] := hl
  refine lv_aload_n hx hb dX5_stepTo_0 rfl (lv_at hl 0 rfl) ?_
  refine lv_iload_n hx hb dX5_stepTo_1 rfl (lv_at hl 1 rfl) ?_
  by_cases c_2 : x_X5_snailNumbered σ k x = 0
  · refine okT_R c_2 (runT_V (As := [.int x]) (rest := []) C (k_X5_snailNumbered l hfl D cy z o d σ τ hk x) hP hS cw_X5_snailNumbered (mA1 (i := 198) rfl rfl) hk ⟨Nat.le_of_ble_eq_true rfl, Nat.le_of_ble_eq_true rfl⟩ rfl (Nat.le_of_ble_eq_true rfl) hl.1 (tcc_0 c_2 ⟨Nat.zero_le _, Nat.zero_le _⟩) dX5_stepTo_2) hS (fun H locs hP hS => ?_)
    refine lv_astore_n (lv' := [(3, .ref (z + (f_X5_snailNumbered σ k x))), (0, .ref (z + k)), (1, .int x), (2, .int y)]) hx hb dX5_stepTo_5 rfl hl (by decide) rfl (fun ls hl => ?_)
    refine lv_iload_n hx hb dX5_stepTo_6 rfl (lv_at hl 3 rfl) ?_
    by_cases c_7 : x_X5_demandState y = 0
    · refine okT_V c_7 (runT_S (As := [.int y]) (rest := []) C (k_X5_demandState l hfl D cy z o d σ τ y) hP hS cw_X5_demandState (mA2 (i := 34) rfl rfl) ⟨Nat.le_of_ble_eq_true rfl, Nat.le_of_ble_eq_true rfl⟩ rfl (Nat.le_of_ble_eq_true rfl) hl.1 (tcc_0 c_7 ⟨Nat.zero_le _, Nat.zero_le _⟩) dX5_stepTo_7) hS (fun H locs hP hS => ?_)
      refine lv_aload_n hx hb dX5_stepTo_10 rfl (lv_at hl 0 rfl) ?_
      refine lv_aload_n hx hb dX5_stepTo_11 rfl (lv_at hl 1 rfl) ?_
      refine gf_X5_10 C hP hk dX5_stepTo_12 ?_
      refine gf_X5_51 C hP (kd5_1 hk) dX5_stepTo_15 ?_
      refine lv_iload_n hx hb dX5_stepTo_18 rfl (lv_at hl 3 rfl) ?_
      refine thn_I (run_V (As := [.int (σ (k + 1) 4), .int y]) (rest := []) C (k_X4_stepUnder l D cy z o d σ τ (kr_X5_snailNumbered σ hk x) (σ (k + 1) 4) y) hP hS cw_X4_stepUnder (mA2 (i := 53) rfl rfl) (kr_X5_snailNumbered σ hk x) ⟨rfl, rfl⟩ ⟨Nat.le_of_ble_eq_true rfl, Nat.le_of_ble_eq_true rfl⟩ rfl (Nat.le_of_ble_eq_true rfl) hl.1 ⟨Nat.zero_le _, Nat.zero_le _⟩ dX5_stepTo_19) hS (fun H locs hP hS => ?_)
      exact retT_I C hP hS (nar_i _) rfl (by unfold x_X5_stepTo; rw [if_pos c_2, if_pos c_7]) (by unfold f_X5_stepTo; rw [if_pos c_2, if_pos c_7]) rfl rfl dX5_stepTo_22
    · exact outT (runT_S (As := [.int y]) (rest := []) C (k_X5_demandState l hfl D cy z o d σ τ y) hP hS cw_X5_demandState (mA2 (i := 34) rfl rfl) ⟨Nat.le_of_ble_eq_true rfl, Nat.le_of_ble_eq_true rfl⟩ rfl (Nat.le_of_ble_eq_true rfl) hl.1 (tcc_e (by unfold x_X5_stepTo; rw [if_pos c_2, if_neg c_7])) dX5_stepTo_7) z_V c_7 (by unfold x_X5_stepTo; rw [if_pos c_2, if_neg c_7]) hno hlocks hS rfl rfl
  · exact outT (runT_V (As := [.int x]) (rest := []) C (k_X5_snailNumbered l hfl D cy z o d σ τ hk x) hP hS cw_X5_snailNumbered (mA1 (i := 198) rfl rfl) hk ⟨Nat.le_of_ble_eq_true rfl, Nat.le_of_ble_eq_true rfl⟩ rfl (Nat.le_of_ble_eq_true rfl) hl.1 (tcc_e (by unfold x_X5_stepTo; rw [if_neg c_2])) dX5_stepTo_2) z_R c_2 (by unfold x_X5_stepTo; rw [if_neg c_2]) hno hlocks hS rfl rfl

theorem cw_X5_loggedStep : cwVt yX5_loggedStep cX5_loggedStep 4 (some .int) 5 2 := ⟨(mA2 (i := 173) rfl rfl), (mA2 (i := 174) rfl rfl), (mA1 (i := 1) rfl rfl), (mA2 (i := 175) rfl rfl), by decide +kernel, ⟨_, rfl, rfl⟩, by decide⟩
def f_X5_loggedStep (σ : Sg) (k : Nat) (x : Int32) (y : Int32) : Int32 :=
  if x_X5_snailNumbered σ k x = 0 then
    if y < 0 then
      0
    else
      if y < (σ (f_X5_snailNumbered σ k x + 1) 2) then
        f_X1_step σ (f_X5_snailNumbered σ k x + 1) y
      else
        0
  else
    0
def x_X5_loggedStep (σ : Sg) (k : Nat) (x : Int32) (y : Int32) : Nat :=
  if x_X5_snailNumbered σ k x = 0 then
    if y < 0 then
      1
    else
      if y < (σ (f_X5_snailNumbered σ k x + 1) 2) then
        0
      else
        1
  else
    x_X5_snailNumbered σ k x
set_option maxHeartbeats 4000000 in
set_option maxRecDepth 100000 in
theorem k_X5_loggedStep (l : Launch) (hfl : l.stackTraces = false) (D : va_G) (cy : Nat → ClassId) (z : Nat) (o : Int64) (d : UInt64) (σ τ : Sg) {k : Nat} (hk : kd k = 5) (x : Int32) (y : Int32) : KT l yX5_loggedStep cX5_loggedStep 4 (some .int) 7 103 D cy z [.ref (z + k), .int x, .int y] o d σ τ (x_X5_loggedStep σ k x y) (PoTI D cy z o d (x_X5_loggedStep σ k x y) (f_X5_loggedStep σ k x y) σ τ) σ τ := by
  refine metT_of RX5 (by decide) rfl (Nat.le_of_ble_eq_true rfl) ?_
  intro p e s m args below meth c C hno hP hS ls hl
  obtain ⟨hx, hb, hr, hml, hown, hW, hlocks, hAm⟩ := id C
  have hl : lv_has ls 4 [(0, .ref (z + k)), (1, .int x), (2, .int y)] := hl
  refine lv_aload_n hx hb dX5_loggedStep_0 rfl (lv_at hl 0 rfl) ?_
  refine lv_iload_n hx hb dX5_loggedStep_1 rfl (lv_at hl 1 rfl) ?_
  by_cases c_2 : x_X5_snailNumbered σ k x = 0
  · refine okT_R c_2 (runT_V (As := [.int x]) (rest := []) C (k_X5_snailNumbered l hfl D cy z o d σ τ hk x) hP hS cw_X5_snailNumbered (mA1 (i := 198) rfl rfl) hk ⟨Nat.le_of_ble_eq_true rfl, Nat.le_of_ble_eq_true rfl⟩ rfl (Nat.le_of_ble_eq_true rfl) hl.1 (tcc_0 c_2 ⟨Nat.zero_le _, Nat.zero_le _⟩) dX5_loggedStep_2) hS (fun H locs hP hS => ?_)
    refine lv_astore_n (lv' := [(3, .ref (z + (f_X5_snailNumbered σ k x))), (0, .ref (z + k)), (1, .int x), (2, .int y)]) hx hb dX5_loggedStep_5 rfl hl (by decide) rfl (fun ls hl => ?_)
    refine lv_iload_n hx hb dX5_loggedStep_6 rfl (lv_at hl 3 rfl) ?_
    refine lv_if_lt (tgt := 21) hx hb dX5_loggedStep_7 (by decide) (fun c_7 => ?_) (fun c_7 => ?_)
    · exact thr_X5 C hno hfl hP hS (ik := 188) (is := 190) (ic := 192) (T := 1) (text := "no such log entry") (by unfold x_X5_loggedStep; rw [if_pos c_2, if_pos c_7]) (by decide) (by decide) vxi_1.1 vxi_1.2.1 vxi_1.2.2 (vxw vxa_x1) vxb_x1 vxc_x1 hl.1 dX5_loggedStep_21 dX5_loggedStep_24 dX5_loggedStep_25 dX5_loggedStep_27 dX5_loggedStep_30 (by decide) (by decide) rfl rfl
    · refine lv_iload_n hx hb dX5_loggedStep_10 rfl (lv_at hl 3 rfl) ?_
      refine lv_aload_n hx hb dX5_loggedStep_11 rfl (lv_at hl 0 rfl) ?_
      refine gf_X5_181 C hP (kr_X5_snailNumbered σ hk x) dX5_loggedStep_12 ?_
      refine gf_X5_185 C hP (kd4_1 (kr_X5_snailNumbered σ hk x)) dX5_loggedStep_15 ?_
      refine lv_icmp_lt (tgt := 31) hx hb dX5_loggedStep_18 (by decide) (fun c_18 => ?_) (fun c_18 => ?_)
      · refine lv_aload_n hx hb dX5_loggedStep_31 rfl (lv_at hl 0 rfl) ?_
        refine gf_X5_181 C hP (kr_X5_snailNumbered σ hk x) dX5_loggedStep_32 ?_
        refine lv_iload_n hx hb dX5_loggedStep_35 rfl (lv_at hl 3 rfl) ?_
        refine thn_I (run_V (As := [.int y]) (rest := []) C (k_X1_step l D cy z o d σ τ (kd4_1 (kr_X5_snailNumbered σ hk x)) y) hP hS cw_X1_step (mA2 (i := 177) rfl rfl) (kd4_1 (kr_X5_snailNumbered σ hk x)) ⟨rfl, rfl⟩ ⟨Nat.le_of_ble_eq_true rfl, Nat.le_of_ble_eq_true rfl⟩ rfl (Nat.le_of_ble_eq_true rfl) hl.1 ⟨Nat.zero_le _, Nat.zero_le _⟩ dX5_loggedStep_36) hS (fun H locs hP hS => ?_)
        exact retT_I C hP hS (nar_i _) rfl (by unfold x_X5_loggedStep; rw [if_pos c_2, if_neg c_7, if_pos c_18]) (by unfold f_X5_loggedStep; rw [if_pos c_2, if_neg c_7, if_pos c_18]) rfl rfl dX5_loggedStep_39
      · exact thr_X5 C hno hfl hP hS (ik := 188) (is := 190) (ic := 192) (T := 1) (text := "no such log entry") (by unfold x_X5_loggedStep; rw [if_pos c_2, if_neg c_7, if_neg c_18]) (by decide) (by decide) vxi_1.1 vxi_1.2.1 vxi_1.2.2 (vxw vxa_x1) vxb_x1 vxc_x1 hl.1 dX5_loggedStep_21 dX5_loggedStep_24 dX5_loggedStep_25 dX5_loggedStep_27 dX5_loggedStep_30 (by decide) (by decide) rfl rfl
  · exact outT (runT_V (As := [.int x]) (rest := []) C (k_X5_snailNumbered l hfl D cy z o d σ τ hk x) hP hS cw_X5_snailNumbered (mA1 (i := 198) rfl rfl) hk ⟨Nat.le_of_ble_eq_true rfl, Nat.le_of_ble_eq_true rfl⟩ rfl (Nat.le_of_ble_eq_true rfl) hl.1 (tcc_e (by unfold x_X5_loggedStep; rw [if_neg c_2])) dX5_loggedStep_2) z_R c_2 (by unfold x_X5_loggedStep; rw [if_neg c_2]) hno hlocks hS rfl rfl


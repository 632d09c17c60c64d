theorem cw_X6_stateOf : cwVt yX6_stateOf cX6_stateOf 2 (some .int) 6 1 := ⟨(mA4 (i := 204) rfl rfl), (mA4 (i := 205) rfl rfl), (mA1 (i := 7) rfl rfl), (mA4 (i := 206) rfl rfl), by decide +kernel, ⟨_, rfl, rfl⟩, by decide⟩
abbrev rm_X6_stateOf_ok : Room := { frames := 3, cells := 0, slots := 0, locals := 65 }
def f_X6_stateOf_ok (τ : Sg) (j : Nat) : Int32 :=
  f_X6_told_ok τ j 0
def t_X6_stateOf_ok (τ : Sg) (j : Nat) : Sg :=
  t_X6_told_ok τ j 0
set_option maxHeartbeats 4000000 in
set_option maxRecDepth 100000 in
theorem k_X6_stateOf_ok (l : Launch) (D : va_G) (cy : Nat → ClassId) (z : Nat) (o : Int64) (d : UInt64) (σ τ : Sg) {k : Nat} (hk : kd k = 6) (j : Nat) (hj : j < 4) : KI l yX6_stateOf cX6_stateOf 2 (some .int) rm_X6_stateOf_ok D cy z [.ref (z + k), .int (nI j)] o d σ τ (f_X6_stateOf_ok τ j) σ (t_X6_stateOf_ok τ j) := by
  refine met_of RX6 (plainFor_of_name (by decide)) rfl (Nat.le_of_ble_eq_true rfl) ?_
  intro p e s m args below meth c C hP hS ls hl
  obtain ⟨hx, hb, hr, hml, hown, hW, hlocks, hAm⟩ := id C
  have hl : lv_has ls 2 [(0, .ref (z + k)), (1, .int (nI j))] := hl
  refine lv_aload_n hx hb dX6_stateOf_0 rfl (lv_at hl 0 rfl) ?_
  refine lv_iload_n hx hb dX6_stateOf_1 rfl (lv_at hl 1 rfl) ?_
  refine lv_iconst (v := 0) hx hb dX6_stateOf_2 (by decide) ?_
  refine thn_I (run_V (As := [.int (nI j), .int 0]) (rest := []) C (k_X6_told_ok l D cy z o d σ τ hk j 0 hj (by omega)) hP hS cw_X6_told (mA4 (i := 207) rfl rfl) hk ⟨rfl, rfl⟩ ⟨Nat.le_of_ble_eq_true rfl, Nat.le_of_ble_eq_true rfl⟩ rfl (Nat.le_of_ble_eq_true rfl) hl.1 ⟨Nat.zero_le _, Nat.zero_le _⟩ dX6_stateOf_3) hS (fun H locs hP hS => ?_)
  exact ret_I C hP hS (nar_i _) rfl rfl rfl rfl dX6_stateOf_6

abbrev rm_X6_stateOf_no : Room := { frames := 3, cells := 0, slots := 0, locals := 65 }
def f_X6_stateOf_no (τ : Sg) (x : Int32) : Int32 :=
  f_X6_told_no τ x 0
def t_X6_stateOf_no (τ : Sg) (x : Int32) : Sg :=
  t_X6_told_no τ x 0
set_option maxHeartbeats 4000000 in
set_option maxRecDepth 100000 in
theorem k_X6_stateOf_no (l : Launch) (D : va_G) (cy : Nat → ClassId) (z : Nat) (o : Int64) (d : UInt64) (σ τ : Sg) {k : Nat} (hk : kd k = 6) (x : Int32) (hx9 : ¬ InS x) : KI l yX6_stateOf cX6_stateOf 2 (some .int) rm_X6_stateOf_no D cy z [.ref (z + k), .int x] o d σ τ (f_X6_stateOf_no τ x) σ (t_X6_stateOf_no τ x) := by
  refine met_of RX6 (plainFor_of_name (by decide)) rfl (Nat.le_of_ble_eq_true rfl) ?_
  intro p e s m args below meth c C hP hS ls hl
  obtain ⟨hx, hb, hr, hml, hown, hW, hlocks, hAm⟩ := id C
  have hl : lv_has ls 2 [(0, .ref (z + k)), (1, .int x)] := hl
  refine lv_aload_n hx hb dX6_stateOf_0 rfl (lv_at hl 0 rfl) ?_
  refine lv_iload_n hx hb dX6_stateOf_1 rfl (lv_at hl 1 rfl) ?_
  refine lv_iconst (v := 0) hx hb dX6_stateOf_2 (by decide) ?_
  refine thn_I (run_V (As := [.int x, .int 0]) (rest := []) C (k_X6_told_no l D cy z o d σ τ hk x 0 hx9) hP hS cw_X6_told (mA4 (i := 207) rfl rfl) hk ⟨rfl, rfl⟩ ⟨Nat.le_of_ble_eq_true rfl, Nat.le_of_ble_eq_true rfl⟩ rfl (Nat.le_of_ble_eq_true rfl) hl.1 ⟨Nat.zero_le _, Nat.zero_le _⟩ dX6_stateOf_3) hS (fun H locs hP hS => ?_)
  exact ret_I C hP hS (nar_i _) rfl rfl rfl rfl dX6_stateOf_6

theorem cw_X6_positionOf : cwVt yX6_positionOf cX6_positionOf 2 (some .int) 6 1 := ⟨(mA4 (i := 212) rfl rfl), (mA4 (i := 213) rfl rfl), (mA1 (i := 7) rfl rfl), (mA4 (i := 214) rfl rfl), by decide +kernel, ⟨_, rfl, rfl⟩, by decide⟩
abbrev rm_X6_positionOf_ok : Room := { frames := 3, cells := 0, slots := 0, locals := 65 }
def f_X6_positionOf_ok (τ : Sg) (j : Nat) : Int32 :=
  f_X6_told_ok τ j 1
def t_X6_positionOf_ok (τ : Sg) (j : Nat) : Sg :=
  t_X6_told_ok τ j 1
set_option maxHeartbeats 4000000 in
set_option maxRecDepth 100000 in
theorem k_X6_positionOf_ok (l : Launch) (D : va_G) (cy : Nat → ClassId) (z : Nat) (o : Int64) (d : UInt64) (σ τ : Sg) {k : Nat} (hk : kd k = 6) (j : Nat) (hj : j < 4) : KI l yX6_positionOf cX6_positionOf 2 (some .int) rm_X6_positionOf_ok D cy z [.ref (z + k), .int (nI j)] o d σ τ (f_X6_positionOf_ok τ j) σ (t_X6_positionOf_ok τ j) := by
  refine met_of RX6 (plainFor_of_name (by decide)) rfl (Nat.le_of_ble_eq_true rfl) ?_
  intro p e s m args below meth c C hP hS ls hl
  obtain ⟨hx, hb, hr, hml, hown, hW, hlocks, hAm⟩ := id C
  have hl : lv_has ls 2 [(0, .ref (z + k)), (1, .int (nI j))] := hl
  refine lv_aload_n hx hb dX6_positionOf_0 rfl (lv_at hl 0 rfl) ?_
  refine lv_iload_n hx hb dX6_positionOf_1 rfl (lv_at hl 1 rfl) ?_
  refine lv_iconst (v := 1) hx hb dX6_positionOf_2 (by decide) ?_
  refine thn_I (run_V (As := [.int (nI j), .int 1]) (rest := []) C (k_X6_told_ok l D cy z o d σ τ hk j 1 hj (by omega)) hP hS cw_X6_told (mA4 (i := 207) rfl rfl) hk ⟨rfl, rfl⟩ ⟨Nat.le_of_ble_eq_true rfl, Nat.le_of_ble_eq_true rfl⟩ rfl (Nat.le_of_ble_eq_true rfl) hl.1 ⟨Nat.zero_le _, Nat.zero_le _⟩ dX6_positionOf_3) hS (fun H locs hP hS => ?_)
  exact ret_I C hP hS (nar_i _) rfl rfl rfl rfl dX6_positionOf_6

abbrev rm_X6_positionOf_no : Room := { frames := 3, cells := 0, slots := 0, locals := 65 }
def f_X6_positionOf_no (τ : Sg) (x : Int32) : Int32 :=
  f_X6_told_no τ x 1
def t_X6_positionOf_no (τ : Sg) (x : Int32) : Sg :=
  t_X6_told_no τ x 1
set_option maxHeartbeats 4000000 in
set_option maxRecDepth 100000 in
theorem k_X6_positionOf_no (l : Launch) (D : va_G) (cy : Nat → ClassId) (z : Nat) (o : Int64) (d : UInt64) (σ τ : Sg) {k : Nat} (hk : kd k = 6) (x : Int32) (hx9 : ¬ InS x) : KI l yX6_positionOf cX6_positionOf 2 (some .int) rm_X6_positionOf_no D cy z [.ref (z + k), .int x] o d σ τ (f_X6_positionOf_no τ x) σ (t_X6_positionOf_no τ x) := by
  refine met_of RX6 (plainFor_of_name (by decide)) rfl (Nat.le_of_ble_eq_true rfl) ?_
  intro p e s m args below meth c C hP hS ls hl
  obtain ⟨hx, hb, hr, hml, hown, hW, hlocks, hAm⟩ := id C
  have hl : lv_has ls 2 [(0, .ref (z + k)), (1, .int x)] := hl
  refine lv_aload_n hx hb dX6_positionOf_0 rfl (lv_at hl 0 rfl) ?_
  refine lv_iload_n hx hb dX6_positionOf_1 rfl (lv_at hl 1 rfl) ?_
  refine lv_iconst (v := 1) hx hb dX6_positionOf_2 (by decide) ?_
  refine thn_I (run_V (As := [.int x, .int 1]) (rest := []) C (k_X6_told_no l D cy z o d σ τ hk x 1 hx9) hP hS cw_X6_told (mA4 (i := 207) rfl rfl) hk ⟨rfl, rfl⟩ ⟨Nat.le_of_ble_eq_true rfl, Nat.le_of_ble_eq_true rfl⟩ rfl (Nat.le_of_ble_eq_true rfl) hl.1 ⟨Nat.zero_le _, Nat.zero_le _⟩ dX6_positionOf_3) hS (fun H locs hP hS => ?_)
  exact ret_I C hP hS (nar_i _) rfl rfl rfl rfl dX6_positionOf_6

theorem cw_X6_positionByTracks : cwVt yX6_positionByTracks cX6_positionByTracks 2 (some .int) 6 1 := ⟨(mA4 (i := 216) rfl rfl), (mA4 (i := 217) rfl rfl), (mA1 (i := 7) rfl rfl), (mA4 (i := 218) rfl rfl), by decide +kernel, ⟨_, rfl, rfl⟩, by decide⟩
abbrev rm_X6_positionByTracks_ok : Room := { frames := 3, cells := 0, slots := 0, locals := 65 }
def f_X6_positionByTracks_ok (τ : Sg) (j : Nat) : Int32 :=
  f_X6_told_ok τ j 1
def t_X6_positionByTracks_ok (τ : Sg) (j : Nat) : Sg :=
  t_X6_told_ok τ j 1
set_option maxHeartbeats 4000000 in
set_option maxRecDepth 100000 in
theorem k_X6_positionByTracks_ok (l : Launch) (D : va_G) (cy : Nat → ClassId) (z : Nat) (o : Int64) (d : UInt64) (σ τ : Sg) {k : Nat} (hk : kd k = 6) (j : Nat) (hj : j < 4) : KI l yX6_positionByTracks cX6_positionByTracks 2 (some .int) rm_X6_positionByTracks_ok D cy z [.ref (z + k), .int (nI j)] o d σ τ (f_X6_positionByTracks_ok τ j) σ (t_X6_positionByTracks_ok τ j) := by
  refine met_of RX6 (plainFor_of_name (by decide)) rfl (Nat.le_of_ble_eq_true rfl) ?_
  intro p e s m args below meth c C hP hS ls hl
  obtain ⟨hx, hb, hr, hml, hown, hW, hlocks, hAm⟩ := id C
  have hl : lv_has ls 2 [(0, .ref (z + k)), (1, .int (nI j))] := hl
  refine lv_aload_n hx hb dX6_positionByTracks_0 rfl (lv_at hl 0 rfl) ?_
  refine lv_iload_n hx hb dX6_positionByTracks_1 rfl (lv_at hl 1 rfl) ?_
  refine lv_iconst (v := 1) hx hb dX6_positionByTracks_2 (by decide) ?_
  refine thn_I (run_V (As := [.int (nI j), .int 1]) (rest := []) C (k_X6_told_ok l D cy z o d σ τ hk j 1 hj (by omega)) hP hS cw_X6_told (mA4 (i := 207) rfl rfl) hk ⟨rfl, rfl⟩ ⟨Nat.le_of_ble_eq_true rfl, Nat.le_of_ble_eq_true rfl⟩ rfl (Nat.le_of_ble_eq_true rfl) hl.1 ⟨Nat.zero_le _, Nat.zero_le _⟩ dX6_positionByTracks_3) hS (fun H locs hP hS => ?_)
  exact ret_I C hP hS (nar_i _) rfl rfl rfl rfl dX6_positionByTracks_6

abbrev rm_X6_positionByTracks_no : Room := { frames := 3, cells := 0, slots := 0, locals := 65 }
def f_X6_positionByTracks_no (τ : Sg) (x : Int32) : Int32 :=
  f_X6_told_no τ x 1
def t_X6_positionByTracks_no (τ : Sg) (x : Int32) : Sg :=
  t_X6_told_no τ x 1
set_option maxHeartbeats 4000000 in
set_option maxRecDepth 100000 in
theorem k_X6_positionByTracks_no (l : Launch) (D : va_G) (cy : Nat → ClassId) (z : Nat) (o : Int64) (d : UInt64) (σ τ : Sg) {k : Nat} (hk : kd k = 6) (x : Int32) (hx9 : ¬ InS x) : KI l yX6_positionByTracks cX6_positionByTracks 2 (some .int) rm_X6_positionByTracks_no D cy z [.ref (z + k), .int x] o d σ τ (f_X6_positionByTracks_no τ x) σ (t_X6_positionByTracks_no τ x) := by
  refine met_of RX6 (plainFor_of_name (by decide)) rfl (Nat.le_of_ble_eq_true rfl) ?_
  intro p e s m args below meth c C hP hS ls hl
  obtain ⟨hx, hb, hr, hml, hown, hW, hlocks, hAm⟩ := id C
  have hl : lv_has ls 2 [(0, .ref (z + k)), (1, .int x)] := hl
  refine lv_aload_n hx hb dX6_positionByTracks_0 rfl (lv_at hl 0 rfl) ?_
  refine lv_iload_n hx hb dX6_positionByTracks_1 rfl (lv_at hl 1 rfl) ?_
  refine lv_iconst (v := 1) hx hb dX6_positionByTracks_2 (by decide) ?_
  refine thn_I (run_V (As := [.int x, .int 1]) (rest := []) C (k_X6_told_no l D cy z o d σ τ hk x 1 hx9) hP hS cw_X6_told (mA4 (i := 207) rfl rfl) hk ⟨rfl, rfl⟩ ⟨Nat.le_of_ble_eq_true rfl, Nat.le_of_ble_eq_true rfl⟩ rfl (Nat.le_of_ble_eq_true rfl) hl.1 ⟨Nat.zero_le _, Nat.zero_le _⟩ dX6_positionByTracks_3) hS (fun H locs hP hS => ?_)
  exact ret_I C hP hS (nar_i _) rfl rfl rfl rfl dX6_positionByTracks_6

theorem cw_X6_directionOf : cwVt yX6_directionOf cX6_directionOf 2 (some .int) 6 1 := ⟨(mA4 (i := 228) rfl rfl), (mA4 (i := 229) rfl rfl), (mA1 (i := 7) rfl rfl), (mA4 (i := 230) rfl rfl), by decide +kernel, ⟨_, rfl, rfl⟩, by decide⟩
abbrev rm_X6_directionOf_ok : Room := { frames := 3, cells := 0, slots := 0, locals := 65 }
def f_X6_directionOf_ok (τ : Sg) (j : Nat) : Int32 :=
  f_X6_told_ok τ j 2
def t_X6_directionOf_ok (τ : Sg) (j : Nat) : Sg :=
  t_X6_told_ok τ j 2
set_option maxHeartbeats 4000000 in
set_option maxRecDepth 100000 in
theorem k_X6_directionOf_ok (l : Launch) (D : va_G) (cy : Nat → ClassId) (z : Nat) (o : Int64) (d : UInt64) (σ τ : Sg) {k : Nat} (hk : kd k = 6) (j : Nat) (hj : j < 4) : KI l yX6_directionOf cX6_directionOf 2 (some .int) rm_X6_directionOf_ok D cy z [.ref (z + k), .int (nI j)] o d σ τ (f_X6_directionOf_ok τ j) σ (t_X6_directionOf_ok τ j) := by
  refine met_of RX6 (plainFor_of_name (by decide)) rfl (Nat.le_of_ble_eq_true rfl) ?_
  intro p e s m args below meth c C hP hS ls hl
  obtain ⟨hx, hb, hr, hml, hown, hW, hlocks, hAm⟩ := id C
  have hl : lv_has ls 2 [(0, .ref (z + k)), (1, .int (nI j))] := hl
  refine lv_aload_n hx hb dX6_directionOf_0 rfl (lv_at hl 0 rfl) ?_
  refine lv_iload_n hx hb dX6_directionOf_1 rfl (lv_at hl 1 rfl) ?_
  refine lv_iconst (v := 2) hx hb dX6_directionOf_2 (by decide) ?_
  refine thn_I (run_V (As := [.int (nI j), .int 2]) (rest := []) C (k_X6_told_ok l D cy z o d σ τ hk j 2 hj (by omega)) hP hS cw_X6_told (mA4 (i := 207) rfl rfl) hk ⟨rfl, rfl⟩ ⟨Nat.le_of_ble_eq_true rfl, Nat.le_of_ble_eq_true rfl⟩ rfl (Nat.le_of_ble_eq_true rfl) hl.1 ⟨Nat.zero_le _, Nat.zero_le _⟩ dX6_directionOf_3) hS (fun H locs hP hS => ?_)
  exact ret_I C hP hS (nar_i _) rfl rfl rfl rfl dX6_directionOf_6

abbrev rm_X6_directionOf_no : Room := { frames := 3, cells := 0, slots := 0, locals := 65 }
def f_X6_directionOf_no (τ : Sg) (x : Int32) : Int32 :=
  f_X6_told_no τ x 2
def t_X6_directionOf_no (τ : Sg) (x : Int32) : Sg :=
  t_X6_told_no τ x 2
set_option maxHeartbeats 4000000 in
set_option maxRecDepth 100000 in
theorem k_X6_directionOf_no (l : Launch) (D : va_G) (cy : Nat → ClassId) (z : Nat) (o : Int64) (d : UInt64) (σ τ : Sg) {k : Nat} (hk : kd k = 6) (x : Int32) (hx9 : ¬ InS x) : KI l yX6_directionOf cX6_directionOf 2 (some .int) rm_X6_directionOf_no D cy z [.ref (z + k), .int x] o d σ τ (f_X6_directionOf_no τ x) σ (t_X6_directionOf_no τ x) := by
  refine met_of RX6 (plainFor_of_name (by decide)) rfl (Nat.le_of_ble_eq_true rfl) ?_
  intro p e s m args below meth c C hP hS ls hl
  obtain ⟨hx, hb, hr, hml, hown, hW, hlocks, hAm⟩ := id C
  have hl : lv_has ls 2 [(0, .ref (z + k)), (1, .int x)] := hl
  refine lv_aload_n hx hb dX6_directionOf_0 rfl (lv_at hl 0 rfl) ?_
  refine lv_iload_n hx hb dX6_directionOf_1 rfl (lv_at hl 1 rfl) ?_
  refine lv_iconst (v := 2) hx hb dX6_directionOf_2 (by decide) ?_
  refine thn_I (run_V (As := [.int x, .int 2]) (rest := []) C (k_X6_told_no l D cy z o d σ τ hk x 2 hx9) hP hS cw_X6_told (mA4 (i := 207) rfl rfl) hk ⟨rfl, rfl⟩ ⟨Nat.le_of_ble_eq_true rfl, Nat.le_of_ble_eq_true rfl⟩ rfl (Nat.le_of_ble_eq_true rfl) hl.1 ⟨Nat.zero_le _, Nat.zero_le _⟩ dX6_directionOf_3) hS (fun H locs hP hS => ?_)
  exact ret_I C hP hS (nar_i _) rfl rfl rfl rfl dX6_directionOf_6

theorem cw_X6_countOfA : cwVt yX6_countOfA cX6_countOfA 2 (some .int) 6 1 := ⟨(mA4 (i := 232) rfl rfl), (mA4 (i := 233) rfl rfl), (mA1 (i := 7) rfl rfl), (mA4 (i := 234) rfl rfl), by decide +kernel, ⟨_, rfl, rfl⟩, by decide⟩
abbrev rm_X6_countOfA_ok : Room := { frames := 3, cells := 0, slots := 0, locals := 65 }
def f_X6_countOfA_ok (τ : Sg) (j : Nat) : Int32 :=
  f_X6_told_ok τ j 7
def t_X6_countOfA_ok (τ : Sg) (j : Nat) : Sg :=
  t_X6_told_ok τ j 7
set_option maxHeartbeats 4000000 in
set_option maxRecDepth 100000 in
theorem k_X6_countOfA_ok (l : Launch) (D : va_G) (cy : Nat → ClassId) (z : Nat) (o : Int64) (d : UInt64) (σ τ : Sg) {k : Nat} (hk : kd k = 6) (j : Nat) (hj : j < 4) : KI l yX6_countOfA cX6_countOfA 2 (some .int) rm_X6_countOfA_ok D cy z [.ref (z + k), .int (nI j)] o d σ τ (f_X6_countOfA_ok τ j) σ (t_X6_countOfA_ok τ j) := by
  refine met_of RX6 (plainFor_of_name (by decide)) rfl (Nat.le_of_ble_eq_true rfl) ?_
  intro p e s m args below meth c C hP hS ls hl
  obtain ⟨hx, hb, hr, hml, hown, hW, hlocks, hAm⟩ := id C
  have hl : lv_has ls 2 [(0, .ref (z + k)), (1, .int (nI j))] := hl
  refine lv_aload_n hx hb dX6_countOfA_0 rfl (lv_at hl 0 rfl) ?_
  refine lv_iload_n hx hb dX6_countOfA_1 rfl (lv_at hl 1 rfl) ?_
  refine lv_bipush (v := 7) hx hb dX6_countOfA_2 (by decide) ?_
  refine thn_I (run_V (As := [.int (nI j), .int 7]) (rest := []) C (k_X6_told_ok l D cy z o d σ τ hk j 7 hj (by omega)) hP hS cw_X6_told (mA4 (i := 207) rfl rfl) hk ⟨rfl, rfl⟩ ⟨Nat.le_of_ble_eq_true rfl, Nat.le_of_ble_eq_true rfl⟩ rfl (Nat.le_of_ble_eq_true rfl) hl.1 ⟨Nat.zero_le _, Nat.zero_le _⟩ dX6_countOfA_4) hS (fun H locs hP hS => ?_)
  exact ret_I C hP hS (nar_i _) rfl rfl rfl rfl dX6_countOfA_7

abbrev rm_X6_countOfA_no : Room := { frames := 3, cells := 0, slots := 0, locals := 65 }
def f_X6_countOfA_no (τ : Sg) (x : Int32) : Int32 :=
  f_X6_told_no τ x 7
def t_X6_countOfA_no (τ : Sg) (x : Int32) : Sg :=
  t_X6_told_no τ x 7
set_option maxHeartbeats 4000000 in
set_option maxRecDepth 100000 in
theorem k_X6_countOfA_no (l : Launch) (D : va_G) (cy : Nat → ClassId) (z : Nat) (o : Int64) (d : UInt64) (σ τ : Sg) {k : Nat} (hk : kd k = 6) (x : Int32) (hx9 : ¬ InS x) : KI l yX6_countOfA cX6_countOfA 2 (some .int) rm_X6_countOfA_no D cy z [.ref (z + k), .int x] o d σ τ (f_X6_countOfA_no τ x) σ (t_X6_countOfA_no τ x) := by
  refine met_of RX6 (plainFor_of_name (by decide)) rfl (Nat.le_of_ble_eq_true rfl) ?_
  intro p e s m args below meth c C hP hS ls hl
  obtain ⟨hx, hb, hr, hml, hown, hW, hlocks, hAm⟩ := id C
  have hl : lv_has ls 2 [(0, .ref (z + k)), (1, .int x)] := hl
  refine lv_aload_n hx hb dX6_countOfA_0 rfl (lv_at hl 0 rfl) ?_
  refine lv_iload_n hx hb dX6_countOfA_1 rfl (lv_at hl 1 rfl) ?_
  refine lv_bipush (v := 7) hx hb dX6_countOfA_2 (by decide) ?_
  refine thn_I (run_V (As := [.int x, .int 7]) (rest := []) C (k_X6_told_no l D cy z o d σ τ hk x 7 hx9) hP hS cw_X6_told (mA4 (i := 207) rfl rfl) hk ⟨rfl, rfl⟩ ⟨Nat.le_of_ble_eq_true rfl, Nat.le_of_ble_eq_true rfl⟩ rfl (Nat.le_of_ble_eq_true rfl) hl.1 ⟨Nat.zero_le _, Nat.zero_le _⟩ dX6_countOfA_4) hS (fun H locs hP hS => ?_)
  exact ret_I C hP hS (nar_i _) rfl rfl rfl rfl dX6_countOfA_7

theorem cw_X6_logLength : cwVt yX6_logLength cX6_logLength 2 (some .int) 6 1 := ⟨(mA5 (i := 4) rfl rfl), (mA5 (i := 5) rfl rfl), (mA1 (i := 7) rfl rfl), (mA5 (i := 6) rfl rfl), by decide +kernel, ⟨_, rfl, rfl⟩, by decide⟩
abbrev rm_X6_logLength_ok : Room := { frames := 3, cells := 0, slots := 0, locals := 65 }
def f_X6_logLength_ok (τ : Sg) (j : Nat) : Int32 :=
  f_X6_told_ok τ j 8
def t_X6_logLength_ok (τ : Sg) (j : Nat) : Sg :=
  t_X6_told_ok τ j 8
set_option maxHeartbeats 4000000 in
set_option maxRecDepth 100000 in
theorem k_X6_logLength_ok (l : Launch) (D : va_G) (cy : Nat → ClassId) (z : Nat) (o : Int64) (d : UInt64) (σ τ : Sg) {k : Nat} (hk : kd k = 6) (j : Nat) (hj : j < 4) : KI l yX6_logLength cX6_logLength 2 (some .int) rm_X6_logLength_ok D cy z [.ref (z + k), .int (nI j)] o d σ τ (f_X6_logLength_ok τ j) σ (t_X6_logLength_ok τ j) := by
  refine met_of RX6 (plainFor_of_name (by decide)) rfl (Nat.le_of_ble_eq_true rfl) ?_
  intro p e s m args below meth c C hP hS ls hl
  obtain ⟨hx, hb, hr, hml, hown, hW, hlocks, hAm⟩ := id C
  have hl : lv_has ls 2 [(0, .ref (z + k)), (1, .int (nI j))] := hl
  refine lv_aload_n hx hb dX6_logLength_0 rfl (lv_at hl 0 rfl) ?_
  refine lv_iload_n hx hb dX6_logLength_1 rfl (lv_at hl 1 rfl) ?_
  refine lv_bipush (v := 8) hx hb dX6_logLength_2 (by decide) ?_
  refine thn_I (run_V (As := [.int (nI j), .int 8]) (rest := []) C (k_X6_told_ok l D cy z o d σ τ hk j 8 hj (by omega)) hP hS cw_X6_told (mA4 (i := 207) rfl rfl) hk ⟨rfl, rfl⟩ ⟨Nat.le_of_ble_eq_true rfl, Nat.le_of_ble_eq_true rfl⟩ rfl (Nat.le_of_ble_eq_true rfl) hl.1 ⟨Nat.zero_le _, Nat.zero_le _⟩ dX6_logLength_4) hS (fun H locs hP hS => ?_)
  exact ret_I C hP hS (nar_i _) rfl rfl rfl rfl dX6_logLength_7

abbrev rm_X6_logLength_no : Room := { frames := 3, cells := 0, slots := 0, locals := 65 }
def f_X6_logLength_no (τ : Sg) (x : Int32) : Int32 :=
  f_X6_told_no τ x 8
def t_X6_logLength_no (τ : Sg) (x : Int32) : Sg :=
  t_X6_told_no τ x 8
set_option maxHeartbeats 4000000 in
set_option maxRecDepth 100000 in
theorem k_X6_logLength_no (l : Launch) (D : va_G) (cy : Nat → ClassId) (z : Nat) (o : Int64) (d : UInt64) (σ τ : Sg) {k : Nat} (hk : kd k = 6) (x : Int32) (hx9 : ¬ InS x) : KI l yX6_logLength cX6_logLength 2 (some .int) rm_X6_logLength_no D cy z [.ref (z + k), .int x] o d σ τ (f_X6_logLength_no τ x) σ (t_X6_logLength_no τ x) := by
  refine met_of RX6 (plainFor_of_name (by decide)) rfl (Nat.le_of_ble_eq_true rfl) ?_
  intro p e s m args below meth c C hP hS ls hl
  obtain ⟨hx, hb, hr, hml, hown, hW, hlocks, hAm⟩ := id C
  have hl : lv_has ls 2 [(0, .ref (z + k)), (1, .int x)] := hl
  refine lv_aload_n hx hb dX6_logLength_0 rfl (lv_at hl 0 rfl) ?_
  refine lv_iload_n hx hb dX6_logLength_1 rfl (lv_at hl 1 rfl) ?_
  refine lv_bipush (v := 8) hx hb dX6_logLength_2 (by decide) ?_
  refine thn_I (run_V (As := [.int x, .int 8]) (rest := []) C (k_X6_told_no l D cy z o d σ τ hk x 8 hx9) hP hS cw_X6_told (mA4 (i := 207) rfl rfl) hk ⟨rfl, rfl⟩ ⟨Nat.le_of_ble_eq_true rfl, Nat.le_of_ble_eq_true rfl⟩ rfl (Nat.le_of_ble_eq_true rfl) hl.1 ⟨Nat.zero_le _, Nat.zero_le _⟩ dX6_logLength_4) hS (fun H locs hP hS => ?_)
  exact ret_I C hP hS (nar_i _) rfl rfl rfl rfl dX6_logLength_7

theorem cw_X6_errorsOf : cwVt yX6_errorsOf cX6_errorsOf 2 (some .int) 6 1 := ⟨(mA5 (i := 16) rfl rfl), (mA5 (i := 17) rfl rfl), (mA1 (i := 7) rfl rfl), (mA5 (i := 18) rfl rfl), by decide +kernel, ⟨_, rfl, rfl⟩, by decide⟩
abbrev rm_X6_errorsOf_ok : Room := { frames := 3, cells := 0, slots := 0, locals := 65 }
def f_X6_errorsOf_ok (τ : Sg) (j : Nat) : Int32 :=
  f_X6_told_ok τ j 3
def t_X6_errorsOf_ok (τ : Sg) (j : Nat) : Sg :=
  t_X6_told_ok τ j 3
set_option maxHeartbeats 4000000 in
set_option maxRecDepth 100000 in
theorem k_X6_errorsOf_ok (l : Launch) (D : va_G) (cy : Nat → ClassId) (z : Nat) (o : Int64) (d : UInt64) (σ τ : Sg) {k : Nat} (hk : kd k = 6) (j : Nat) (hj : j < 4) : KI l yX6_errorsOf cX6_errorsOf 2 (some .int) rm_X6_errorsOf_ok D cy z [.ref (z + k), .int (nI j)] o d σ τ (f_X6_errorsOf_ok τ j) σ (t_X6_errorsOf_ok τ j) := by
  refine met_of RX6 (plainFor_of_name (by decide)) rfl (Nat.le_of_ble_eq_true rfl) ?_
  intro p e s m args below meth c C hP hS ls hl
  obtain ⟨hx, hb, hr, hml, hown, hW, hlocks, hAm⟩ := id C
  have hl : lv_has ls 2 [(0, .ref (z + k)), (1, .int (nI j))] := hl
  refine lv_aload_n hx hb dX6_errorsOf_0 rfl (lv_at hl 0 rfl) ?_
  refine lv_iload_n hx hb dX6_errorsOf_1 rfl (lv_at hl 1 rfl) ?_
  refine lv_iconst (v := 3) hx hb dX6_errorsOf_2 (by decide) ?_
  refine thn_I (run_V (As := [.int (nI j), .int 3]) (rest := []) C (k_X6_told_ok l D cy z o d σ τ hk j 3 hj (by omega)) hP hS cw_X6_told (mA4 (i := 207) rfl rfl) hk ⟨rfl, rfl⟩ ⟨Nat.le_of_ble_eq_true rfl, Nat.le_of_ble_eq_true rfl⟩ rfl (Nat.le_of_ble_eq_true rfl) hl.1 ⟨Nat.zero_le _, Nat.zero_le _⟩ dX6_errorsOf_3) hS (fun H locs hP hS => ?_)
  exact ret_I C hP hS (nar_i _) rfl rfl rfl rfl dX6_errorsOf_6

abbrev rm_X6_errorsOf_no : Room := { frames := 3, cells := 0, slots := 0, locals := 65 }
def f_X6_errorsOf_no (τ : Sg) (x : Int32) : Int32 :=
  f_X6_told_no τ x 3
def t_X6_errorsOf_no (τ : Sg) (x : Int32) : Sg :=
  t_X6_told_no τ x 3
set_option maxHeartbeats 4000000 in
set_option maxRecDepth 100000 in
theorem k_X6_errorsOf_no (l : Launch) (D : va_G) (cy : Nat → ClassId) (z : Nat) (o : Int64) (d : UInt64) (σ τ : Sg) {k : Nat} (hk : kd k = 6) (x : Int32) (hx9 : ¬ InS x) : KI l yX6_errorsOf cX6_errorsOf 2 (some .int) rm_X6_errorsOf_no D cy z [.ref (z + k), .int x] o d σ τ (f_X6_errorsOf_no τ x) σ (t_X6_errorsOf_no τ x) := by
  refine met_of RX6 (plainFor_of_name (by decide)) rfl (Nat.le_of_ble_eq_true rfl) ?_
  intro p e s m args below meth c C hP hS ls hl
  obtain ⟨hx, hb, hr, hml, hown, hW, hlocks, hAm⟩ := id C
  have hl : lv_has ls 2 [(0, .ref (z + k)), (1, .int x)] := hl
  refine lv_aload_n hx hb dX6_errorsOf_0 rfl (lv_at hl 0 rfl) ?_
  refine lv_iload_n hx hb dX6_errorsOf_1 rfl (lv_at hl 1 rfl) ?_
  refine lv_iconst (v := 3) hx hb dX6_errorsOf_2 (by decide) ?_
  refine thn_I (run_V (As := [.int x, .int 3]) (rest := []) C (k_X6_told_no l D cy z o d σ τ hk x 3 hx9) hP hS cw_X6_told (mA4 (i := 207) rfl rfl) hk ⟨rfl, rfl⟩ ⟨Nat.le_of_ble_eq_true rfl, Nat.le_of_ble_eq_true rfl⟩ rfl (Nat.le_of_ble_eq_true rfl) hl.1 ⟨Nat.zero_le _, Nat.zero_le _⟩ dX6_errorsOf_3) hS (fun H locs hP hS => ?_)
  exact ret_I C hP hS (nar_i _) rfl rfl rfl rfl dX6_errorsOf_6

theorem cw_X6_slipsOf : cwVt yX6_slipsOf cX6_slipsOf 2 (some .int) 6 1 := ⟨(mA5 (i := 20) rfl rfl), (mA5 (i := 21) rfl rfl), (mA1 (i := 7) rfl rfl), (mA5 (i := 22) rfl rfl), by decide +kernel, ⟨_, rfl, rfl⟩, by decide⟩
abbrev rm_X6_slipsOf_ok : Room := { frames := 3, cells := 0, slots := 0, locals := 65 }
def f_X6_slipsOf_ok (τ : Sg) (j : Nat) : Int32 :=
  f_X6_told_ok τ j 4
def t_X6_slipsOf_ok (τ : Sg) (j : Nat) : Sg :=
  t_X6_told_ok τ j 4
set_option maxHeartbeats 4000000 in
set_option maxRecDepth 100000 in
theorem k_X6_slipsOf_ok (l : Launch) (D : va_G) (cy : Nat → ClassId) (z : Nat) (o : Int64) (d : UInt64) (σ τ : Sg) {k : Nat} (hk : kd k = 6) (j : Nat) (hj : j < 4) : KI l yX6_slipsOf cX6_slipsOf 2 (some .int) rm_X6_slipsOf_ok D cy z [.ref (z + k), .int (nI j)] o d σ τ (f_X6_slipsOf_ok τ j) σ (t_X6_slipsOf_ok τ j) := by
  refine met_of RX6 (plainFor_of_name (by decide)) rfl (Nat.le_of_ble_eq_true rfl) ?_
  intro p e s m args below meth c C hP hS ls hl
  obtain ⟨hx, hb, hr, hml, hown, hW, hlocks, hAm⟩ := id C
  have hl : lv_has ls 2 [(0, .ref (z + k)), (1, .int (nI j))] := hl
  refine lv_aload_n hx hb dX6_slipsOf_0 rfl (lv_at hl 0 rfl) ?_
  refine lv_iload_n hx hb dX6_slipsOf_1 rfl (lv_at hl 1 rfl) ?_
  refine lv_iconst (v := 4) hx hb dX6_slipsOf_2 (by decide) ?_
  refine thn_I (run_V (As := [.int (nI j), .int 4]) (rest := []) C (k_X6_told_ok l D cy z o d σ τ hk j 4 hj (by omega)) hP hS cw_X6_told (mA4 (i := 207) rfl rfl) hk ⟨rfl, rfl⟩ ⟨Nat.le_of_ble_eq_true rfl, Nat.le_of_ble_eq_true rfl⟩ rfl (Nat.le_of_ble_eq_true rfl) hl.1 ⟨Nat.zero_le _, Nat.zero_le _⟩ dX6_slipsOf_3) hS (fun H locs hP hS => ?_)
  exact ret_I C hP hS (nar_i _) rfl rfl rfl rfl dX6_slipsOf_6

abbrev rm_X6_slipsOf_no : Room := { frames := 3, cells := 0, slots := 0, locals := 65 }
def f_X6_slipsOf_no (τ : Sg) (x : Int32) : Int32 :=
  f_X6_told_no τ x 4
def t_X6_slipsOf_no (τ : Sg) (x : Int32) : Sg :=
  t_X6_told_no τ x 4
set_option maxHeartbeats 4000000 in
set_option maxRecDepth 100000 in
theorem k_X6_slipsOf_no (l : Launch) (D : va_G) (cy : Nat → ClassId) (z : Nat) (o : Int64) (d : UInt64) (σ τ : Sg) {k : Nat} (hk : kd k = 6) (x : Int32) (hx9 : ¬ InS x) : KI l yX6_slipsOf cX6_slipsOf 2 (some .int) rm_X6_slipsOf_no D cy z [.ref (z + k), .int x] o d σ τ (f_X6_slipsOf_no τ x) σ (t_X6_slipsOf_no τ x) := by
  refine met_of RX6 (plainFor_of_name (by decide)) rfl (Nat.le_of_ble_eq_true rfl) ?_
  intro p e s m args below meth c C hP hS ls hl
  obtain ⟨hx, hb, hr, hml, hown, hW, hlocks, hAm⟩ := id C
  have hl : lv_has ls 2 [(0, .ref (z + k)), (1, .int x)] := hl
  refine lv_aload_n hx hb dX6_slipsOf_0 rfl (lv_at hl 0 rfl) ?_
  refine lv_iload_n hx hb dX6_slipsOf_1 rfl (lv_at hl 1 rfl) ?_
  refine lv_iconst (v := 4) hx hb dX6_slipsOf_2 (by decide) ?_
  refine thn_I (run_V (As := [.int x, .int 4]) (rest := []) C (k_X6_told_no l D cy z o d σ τ hk x 4 hx9) hP hS cw_X6_told (mA4 (i := 207) rfl rfl) hk ⟨rfl, rfl⟩ ⟨Nat.le_of_ble_eq_true rfl, Nat.le_of_ble_eq_true rfl⟩ rfl (Nat.le_of_ble_eq_true rfl) hl.1 ⟨Nat.zero_le _, Nat.zero_le _⟩ dX6_slipsOf_3) hS (fun H locs hP hS => ?_)
  exact ret_I C hP hS (nar_i _) rfl rfl rfl rfl dX6_slipsOf_6

theorem cw_X6_distanceOf : cwVt yX6_distanceOf cX6_distanceOf 2 (some .int) 6 1 := ⟨(mA5 (i := 24) rfl rfl), (mA5 (i := 25) rfl rfl), (mA1 (i := 7) rfl rfl), (mA5 (i := 26) rfl rfl), by decide +kernel, ⟨_, rfl, rfl⟩, by decide⟩
abbrev rm_X6_distanceOf_ok : Room := { frames := 3, cells := 0, slots := 0, locals := 65 }
def f_X6_distanceOf_ok (τ : Sg) (j : Nat) : Int32 :=
  f_X6_told_ok τ j 5
def t_X6_distanceOf_ok (τ : Sg) (j : Nat) : Sg :=
  t_X6_told_ok τ j 5
set_option maxHeartbeats 4000000 in
set_option maxRecDepth 100000 in
theorem k_X6_distanceOf_ok (l : Launch) (D : va_G) (cy : Nat → ClassId) (z : Nat) (o : Int64) (d : UInt64) (σ τ : Sg) {k : Nat} (hk : kd k = 6) (j : Nat) (hj : j < 4) : KI l yX6_distanceOf cX6_distanceOf 2 (some .int) rm_X6_distanceOf_ok D cy z [.ref (z + k), .int (nI j)] o d σ τ (f_X6_distanceOf_ok τ j) σ (t_X6_distanceOf_ok τ j) := by
  refine met_of RX6 (plainFor_of_name (by decide)) rfl (Nat.le_of_ble_eq_true rfl) ?_
  intro p e s m args below meth c C hP hS ls hl
  obtain ⟨hx, hb, hr, hml, hown, hW, hlocks, hAm⟩ := id C
  have hl : lv_has ls 2 [(0, .ref (z + k)), (1, .int (nI j))] := hl
  refine lv_aload_n hx hb dX6_distanceOf_0 rfl (lv_at hl 0 rfl) ?_
  refine lv_iload_n hx hb dX6_distanceOf_1 rfl (lv_at hl 1 rfl) ?_
  refine lv_iconst (v := 5) hx hb dX6_distanceOf_2 (by decide) ?_
  refine thn_I (run_V (As := [.int (nI j), .int 5]) (rest := []) C (k_X6_told_ok l D cy z o d σ τ hk j 5 hj (by omega)) hP hS cw_X6_told (mA4 (i := 207) rfl rfl) hk ⟨rfl, rfl⟩ ⟨Nat.le_of_ble_eq_true rfl, Nat.le_of_ble_eq_true rfl⟩ rfl (Nat.le_of_ble_eq_true rfl) hl.1 ⟨Nat.zero_le _, Nat.zero_le _⟩ dX6_distanceOf_3) hS (fun H locs hP hS => ?_)
  exact ret_I C hP hS (nar_i _) rfl rfl rfl rfl dX6_distanceOf_6

abbrev rm_X6_distanceOf_no : Room := { frames := 3, cells := 0, slots := 0, locals := 65 }
def f_X6_distanceOf_no (τ : Sg) (x : Int32) : Int32 :=
  f_X6_told_no τ x 5
def t_X6_distanceOf_no (τ : Sg) (x : Int32) : Sg :=
  t_X6_told_no τ x 5
set_option maxHeartbeats 4000000 in
set_option maxRecDepth 100000 in
theorem k_X6_distanceOf_no (l : Launch) (D : va_G) (cy : Nat → ClassId) (z : Nat) (o : Int64) (d : UInt64) (σ τ : Sg) {k : Nat} (hk : kd k = 6) (x : Int32) (hx9 : ¬ InS x) : KI l yX6_distanceOf cX6_distanceOf 2 (some .int) rm_X6_distanceOf_no D cy z [.ref (z + k), .int x] o d σ τ (f_X6_distanceOf_no τ x) σ (t_X6_distanceOf_no τ x) := by
  refine met_of RX6 (plainFor_of_name (by decide)) rfl (Nat.le_of_ble_eq_true rfl) ?_
  intro p e s m args below meth c C hP hS ls hl
  obtain ⟨hx, hb, hr, hml, hown, hW, hlocks, hAm⟩ := id C
  have hl : lv_has ls 2 [(0, .ref (z + k)), (1, .int x)] := hl
  refine lv_aload_n hx hb dX6_distanceOf_0 rfl (lv_at hl 0 rfl) ?_
  refine lv_iload_n hx hb dX6_distanceOf_1 rfl (lv_at hl 1 rfl) ?_
  refine lv_iconst (v := 5) hx hb dX6_distanceOf_2 (by decide) ?_
  refine thn_I (run_V (As := [.int x, .int 5]) (rest := []) C (k_X6_told_no l D cy z o d σ τ hk x 5 hx9) hP hS cw_X6_told (mA4 (i := 207) rfl rfl) hk ⟨rfl, rfl⟩ ⟨Nat.le_of_ble_eq_true rfl, Nat.le_of_ble_eq_true rfl⟩ rfl (Nat.le_of_ble_eq_true rfl) hl.1 ⟨Nat.zero_le _, Nat.zero_le _⟩ dX6_distanceOf_3) hS (fun H locs hP hS => ?_)
  exact ret_I C hP hS (nar_i _) rfl rfl rfl rfl dX6_distanceOf_6

theorem cw_X6_ticksOf : cwVt yX6_ticksOf cX6_ticksOf 2 (some .int) 6 1 := ⟨(mA5 (i := 28) rfl rfl), (mA5 (i := 29) rfl rfl), (mA1 (i := 7) rfl rfl), (mA5 (i := 30) rfl rfl), by decide +kernel, ⟨_, rfl, rfl⟩, by decide⟩
abbrev rm_X6_ticksOf_ok : Room := { frames := 3, cells := 0, slots := 0, locals := 65 }
def f_X6_ticksOf_ok (τ : Sg) (j : Nat) : Int32 :=
  f_X6_told_ok τ j 6
def t_X6_ticksOf_ok (τ : Sg) (j : Nat) : Sg :=
  t_X6_told_ok τ j 6
set_option maxHeartbeats 4000000 in
set_option maxRecDepth 100000 in
theorem k_X6_ticksOf_ok (l : Launch) (D : va_G) (cy : Nat → ClassId) (z : Nat) (o : Int64) (d : UInt64) (σ τ : Sg) {k : Nat} (hk : kd k = 6) (j : Nat) (hj : j < 4) : KI l yX6_ticksOf cX6_ticksOf 2 (some .int) rm_X6_ticksOf_ok D cy z [.ref (z + k), .int (nI j)] o d σ τ (f_X6_ticksOf_ok τ j) σ (t_X6_ticksOf_ok τ j) := by
  refine met_of RX6 (plainFor_of_name (by decide)) rfl (Nat.le_of_ble_eq_true rfl) ?_
  intro p e s m args below meth c C hP hS ls hl
  obtain ⟨hx, hb, hr, hml, hown, hW, hlocks, hAm⟩ := id C
  have hl : lv_has ls 2 [(0, .ref (z + k)), (1, .int (nI j))] := hl
  refine lv_aload_n hx hb dX6_ticksOf_0 rfl (lv_at hl 0 rfl) ?_
  refine lv_iload_n hx hb dX6_ticksOf_1 rfl (lv_at hl 1 rfl) ?_
  refine lv_bipush (v := 6) hx hb dX6_ticksOf_2 (by decide) ?_
  refine thn_I (run_V (As := [.int (nI j), .int 6]) (rest := []) C (k_X6_told_ok l D cy z o d σ τ hk j 6 hj (by omega)) hP hS cw_X6_told (mA4 (i := 207) rfl rfl) hk ⟨rfl, rfl⟩ ⟨Nat.le_of_ble_eq_true rfl, Nat.le_of_ble_eq_true rfl⟩ rfl (Nat.le_of_ble_eq_true rfl) hl.1 ⟨Nat.zero_le _, Nat.zero_le _⟩ dX6_ticksOf_4) hS (fun H locs hP hS => ?_)
  exact ret_I C hP hS (nar_i _) rfl rfl rfl rfl dX6_ticksOf_7

abbrev rm_X6_ticksOf_no : Room := { frames := 3, cells := 0, slots := 0, locals := 65 }
def f_X6_ticksOf_no (τ : Sg) (x : Int32) : Int32 :=
  f_X6_told_no τ x 6
def t_X6_ticksOf_no (τ : Sg) (x : Int32) : Sg :=
  t_X6_told_no τ x 6
set_option maxHeartbeats 4000000 in
set_option maxRecDepth 100000 in
theorem k_X6_ticksOf_no (l : Launch) (D : va_G) (cy : Nat → ClassId) (z : Nat) (o : Int64) (d : UInt64) (σ τ : Sg) {k : Nat} (hk : kd k = 6) (x : Int32) (hx9 : ¬ InS x) : KI l yX6_ticksOf cX6_ticksOf 2 (some .int) rm_X6_ticksOf_no D cy z [.ref (z + k), .int x] o d σ τ (f_X6_ticksOf_no τ x) σ (t_X6_ticksOf_no τ x) := by
  refine met_of RX6 (plainFor_of_name (by decide)) rfl (Nat.le_of_ble_eq_true rfl) ?_
  intro p e s m args below meth c C hP hS ls hl
  obtain ⟨hx, hb, hr, hml, hown, hW, hlocks, hAm⟩ := id C
  have hl : lv_has ls 2 [(0, .ref (z + k)), (1, .int x)] := hl
  refine lv_aload_n hx hb dX6_ticksOf_0 rfl (lv_at hl 0 rfl) ?_
  refine lv_iload_n hx hb dX6_ticksOf_1 rfl (lv_at hl 1 rfl) ?_
  refine lv_bipush (v := 6) hx hb dX6_ticksOf_2 (by decide) ?_
  refine thn_I (run_V (As := [.int x, .int 6]) (rest := []) C (k_X6_told_no l D cy z o d σ τ hk x 6 hx9) hP hS cw_X6_told (mA4 (i := 207) rfl rfl) hk ⟨rfl, rfl⟩ ⟨Nat.le_of_ble_eq_true rfl, Nat.le_of_ble_eq_true rfl⟩ rfl (Nat.le_of_ble_eq_true rfl) hl.1 ⟨Nat.zero_le _, Nat.zero_le _⟩ dX6_ticksOf_4) hS (fun H locs hP hS => ?_)
  exact ret_I C hP hS (nar_i _) rfl rfl rfl rfl dX6_ticksOf_7

theorem cw_X6_turnsOf : cwVt yX6_turnsOf cX6_turnsOf 2 (some .int) 6 1 := ⟨(mA4 (i := 220) rfl rfl), (mA4 (i := 221) rfl rfl), (mA1 (i := 7) rfl rfl), (mA4 (i := 222) rfl rfl), by decide +kernel, ⟨_, rfl, rfl⟩, by decide⟩
abbrev rm_X6_turnsOf_ok : Room := { frames := 2, cells := 0, slots := 0, locals := 44 }
def f_X6_turnsOf_ok (τ : Sg) (j : Nat) : Int32 :=
  ((f_X6_of (t_X6_isThere τ (nI j)) j 1) - (f_X6_placed (t_X6_isThere τ (nI j)) j)) / ((t_X6_isThere τ (nI j)) 1 229)
def t_X6_turnsOf_ok (τ : Sg) (j : Nat) : Sg :=
  t_X6_isThere τ (nI j)
set_option maxHeartbeats 4000000 in
set_option maxRecDepth 100000 in
theorem k_X6_turnsOf_ok (l : Launch) (D : va_G) (cy : Nat → ClassId) (z : Nat) (o : Int64) (d : UInt64) (σ τ : Sg) {k : Nat} (hk : kd k = 6) (j : Nat) (hM : MI τ) (hj : j < 4) : KI l yX6_turnsOf cX6_turnsOf 2 (some .int) rm_X6_turnsOf_ok D cy z [.ref (z + k), .int (nI j)] o d σ τ (f_X6_turnsOf_ok τ j) σ (t_X6_turnsOf_ok τ j) := by
  refine met_of RX6 (plainFor_of_name (by decide)) rfl (Nat.le_of_ble_eq_true rfl) ?_
  intro p e s m args below meth c C hP hS ls hl
  obtain ⟨hx, hb, hr, hml, hown, hW, hlocks, hAm⟩ := id C
  have hl : lv_has ls 2 [(0, .ref (z + k)), (1, .int (nI j))] := hl
  refine lv_aload_n hx hb dX6_turnsOf_0 rfl (lv_at hl 0 rfl) ?_
  refine lv_iload_n hx hb dX6_turnsOf_1 rfl (lv_at hl 1 rfl) ?_
  refine thn_I (run_V (As := [.int (nI j)]) (rest := []) C (k_X6_isThere l D cy z o d σ τ hk (nI j)) hP hS cw_X6_isThere (mA4 (i := 45) rfl rfl) hk ⟨rfl, rfl⟩ ⟨Nat.le_of_ble_eq_true rfl, Nat.le_of_ble_eq_true rfl⟩ rfl (Nat.le_of_ble_eq_true rfl) hl.1 ⟨Nat.zero_le _, Nat.zero_le _⟩ dX6_turnsOf_2) hS (fun H locs hP hS => ?_)
  refine lv_if_eq (tgt := 32) hx hb dX6_turnsOf_5 (by decide) (fun c_5 => ?_) (fun c_5 => ?_)
  · exact absurd c_5 (isT_ne hj)
  · refine lv_aload_n hx hb dX6_turnsOf_8 rfl (lv_at hl 0 rfl) ?_
    refine lv_iload_n hx hb dX6_turnsOf_9 rfl (lv_at hl 1 rfl) ?_
    refine lv_iconst (v := 1) hx hb dX6_turnsOf_10 (by decide) ?_
    refine thn_I (run_V (As := [.int (nI j), .int 1]) (rest := []) C (k_X6_of l D cy z o d σ (t_X6_isThere τ (nI j)) hk j 1 (by omega)) hP hS cw_X6_of (mA4 (i := 60) rfl rfl) hk ⟨rfl, rfl⟩ ⟨Nat.le_of_ble_eq_true rfl, Nat.le_of_ble_eq_true rfl⟩ rfl (Nat.le_of_ble_eq_true rfl) hl.1 ⟨Nat.zero_le _, Nat.zero_le _⟩ dX6_turnsOf_11) hS (fun H locs hP hS => ?_)
    refine lv_aload_n hx hb dX6_turnsOf_14 rfl (lv_at hl 0 rfl) ?_
    refine lv_iload_n hx hb dX6_turnsOf_15 rfl (lv_at hl 1 rfl) ?_
    refine thn_I (run_V (As := [.int (nI j)]) (rest := [.int (f_X6_of (t_X6_isThere τ (nI j)) j 1)]) C (k_X6_placed l D cy z o d σ (t_X6_isThere τ (nI j)) hk j hj hM.isT.2.1) hP hS cw_X6_placed (mA4 (i := 119) rfl rfl) hk ⟨rfl, rfl⟩ ⟨Nat.le_of_ble_eq_true rfl, Nat.le_of_ble_eq_true rfl⟩ rfl (Nat.le_of_ble_eq_true rfl) hl.1 ⟨Nat.zero_le _, Nat.zero_le _⟩ dX6_turnsOf_16) hS (fun H locs hP hS => ?_)
    refine lv_isub hx hb dX6_turnsOf_19 ?_
    refine lv_aload_n hx hb dX6_turnsOf_20 rfl (lv_at hl 0 rfl) ?_
    refine gf_X6_7 C hP hk dX6_turnsOf_21 ?_
    refine lv_sipush (v := 229) hx hb dX6_turnsOf_24 (by decide) ?_
    refine al_10 C hP (kd6_1 hk) vp229 dX6_turnsOf_27 ?_
    rw [cl229]
    refine lv_idiv hx hb dX6_turnsOf_28 (hM.isT.2.1) ?_
    refine lv_goto (tgt := 33) hx hb dX6_turnsOf_29 (by decide) ?_
    exact ret_I C hP hS (nar_i _) rfl rfl rfl rfl dX6_turnsOf_33

abbrev rm_X6_turnsOf_no : Room := { frames := 2, cells := 0, slots := 0, locals := 43 }
def f_X6_turnsOf_no (τ : Sg) (x : Int32) : Int32 :=
  0
def t_X6_turnsOf_no (τ : Sg) (x : Int32) : Sg :=
  t_X6_isThere τ x
set_option maxHeartbeats 4000000 in
set_option maxRecDepth 100000 in
theorem k_X6_turnsOf_no (l : Launch) (D : va_G) (cy : Nat → ClassId) (z : Nat) (o : Int64) (d : UInt64) (σ τ : Sg) {k : Nat} (hk : kd k = 6) (x : Int32) (hx9 : ¬ InS x) : KI l yX6_turnsOf cX6_turnsOf 2 (some .int) rm_X6_turnsOf_no D cy z [.ref (z + k), .int x] o d σ τ (f_X6_turnsOf_no τ x) σ (t_X6_turnsOf_no τ x) := by
  refine met_of RX6 (plainFor_of_name (by decide)) rfl (Nat.le_of_ble_eq_true rfl) ?_
  intro p e s m args below meth c C hP hS ls hl
  obtain ⟨hx, hb, hr, hml, hown, hW, hlocks, hAm⟩ := id C
  have hl : lv_has ls 2 [(0, .ref (z + k)), (1, .int x)] := hl
  refine lv_aload_n hx hb dX6_turnsOf_0 rfl (lv_at hl 0 rfl) ?_
  refine lv_iload_n hx hb dX6_turnsOf_1 rfl (lv_at hl 1 rfl) ?_
  refine thn_I (run_V (As := [.int x]) (rest := []) C (k_X6_isThere l D cy z o d σ τ hk x) hP hS cw_X6_isThere (mA4 (i := 45) rfl rfl) hk ⟨rfl, rfl⟩ ⟨Nat.le_of_ble_eq_true rfl, Nat.le_of_ble_eq_true rfl⟩ rfl (Nat.le_of_ble_eq_true rfl) hl.1 ⟨Nat.zero_le _, Nat.zero_le _⟩ dX6_turnsOf_2) hS (fun H locs hP hS => ?_)
  refine lv_if_eq (tgt := 32) hx hb dX6_turnsOf_5 (by decide) (fun c_5 => ?_) (fun c_5 => ?_)
  · refine lv_iconst (v := 0) hx hb dX6_turnsOf_32 (by decide) ?_
    exact ret_I C hP hS (nar_i _) rfl rfl rfl rfl dX6_turnsOf_33
  · exact absurd ((isT_no hx9).1) c_5

theorem cw_X6_placeOf : cwVt yX6_placeOf cX6_placeOf 2 (some .int) 6 1 := ⟨(mA4 (i := 224) rfl rfl), (mA4 (i := 225) rfl rfl), (mA1 (i := 7) rfl rfl), (mA4 (i := 226) rfl rfl), by decide +kernel, ⟨_, rfl, rfl⟩, by decide⟩
abbrev rm_X6_placeOf_ok : Room := { frames := 2, cells := 0, slots := 0, locals := 44 }
def f_X6_placeOf_ok (τ : Sg) (j : Nat) : Int32 :=
  f_X6_placed (t_X6_isThere τ (nI j)) j
def t_X6_placeOf_ok (τ : Sg) (j : Nat) : Sg :=
  t_X6_isThere τ (nI j)
set_option maxHeartbeats 4000000 in
set_option maxRecDepth 100000 in
theorem k_X6_placeOf_ok (l : Launch) (D : va_G) (cy : Nat → ClassId) (z : Nat) (o : Int64) (d : UInt64) (σ τ : Sg) {k : Nat} (hk : kd k = 6) (j : Nat) (hM : MI τ) (hj : j < 4) : KI l yX6_placeOf cX6_placeOf 2 (some .int) rm_X6_placeOf_ok D cy z [.ref (z + k), .int (nI j)] o d σ τ (f_X6_placeOf_ok τ j) σ (t_X6_placeOf_ok τ j) := by
  refine met_of RX6 (plainFor_of_name (by decide)) rfl (Nat.le_of_ble_eq_true rfl) ?_
  intro p e s m args below meth c C hP hS ls hl
  obtain ⟨hx, hb, hr, hml, hown, hW, hlocks, hAm⟩ := id C
  have hl : lv_has ls 2 [(0, .ref (z + k)), (1, .int (nI j))] := hl
  refine lv_aload_n hx hb dX6_placeOf_0 rfl (lv_at hl 0 rfl) ?_
  refine lv_iload_n hx hb dX6_placeOf_1 rfl (lv_at hl 1 rfl) ?_
  refine thn_I (run_V (As := [.int (nI j)]) (rest := []) C (k_X6_isThere l D cy z o d σ τ hk (nI j)) hP hS cw_X6_isThere (mA4 (i := 45) rfl rfl) hk ⟨rfl, rfl⟩ ⟨Nat.le_of_ble_eq_true rfl, Nat.le_of_ble_eq_true rfl⟩ rfl (Nat.le_of_ble_eq_true rfl) hl.1 ⟨Nat.zero_le _, Nat.zero_le _⟩ dX6_placeOf_2) hS (fun H locs hP hS => ?_)
  refine lv_if_eq (tgt := 16) hx hb dX6_placeOf_5 (by decide) (fun c_5 => ?_) (fun c_5 => ?_)
  · exact absurd c_5 (isT_ne hj)
  · refine lv_aload_n hx hb dX6_placeOf_8 rfl (lv_at hl 0 rfl) ?_
    refine lv_iload_n hx hb dX6_placeOf_9 rfl (lv_at hl 1 rfl) ?_
    refine thn_I (run_V (As := [.int (nI j)]) (rest := []) C (k_X6_placed l D cy z o d σ (t_X6_isThere τ (nI j)) hk j hj hM.isT.2.1) hP hS cw_X6_placed (mA4 (i := 119) rfl rfl) hk ⟨rfl, rfl⟩ ⟨Nat.le_of_ble_eq_true rfl, Nat.le_of_ble_eq_true rfl⟩ rfl (Nat.le_of_ble_eq_true rfl) hl.1 ⟨Nat.zero_le _, Nat.zero_le _⟩ dX6_placeOf_10) hS (fun H locs hP hS => ?_)
    refine lv_goto (tgt := 17) hx hb dX6_placeOf_13 (by decide) ?_
    exact ret_I C hP hS (nar_i _) rfl rfl rfl rfl dX6_placeOf_17

abbrev rm_X6_placeOf_no : Room := { frames := 2, cells := 0, slots := 0, locals := 43 }
def f_X6_placeOf_no (τ : Sg) (x : Int32) : Int32 :=
  0
def t_X6_placeOf_no (τ : Sg) (x : Int32) : Sg :=
  t_X6_isThere τ x
set_option maxHeartbeats 4000000 in
set_option maxRecDepth 100000 in
theorem k_X6_placeOf_no (l : Launch) (D : va_G) (cy : Nat → ClassId) (z : Nat) (o : Int64) (d : UInt64) (σ τ : Sg) {k : Nat} (hk : kd k = 6) (x : Int32) (hx9 : ¬ InS x) : KI l yX6_placeOf cX6_placeOf 2 (some .int) rm_X6_placeOf_no D cy z [.ref (z + k), .int x] o d σ τ (f_X6_placeOf_no τ x) σ (t_X6_placeOf_no τ x) := by
  refine met_of RX6 (plainFor_of_name (by decide)) rfl (Nat.le_of_ble_eq_true rfl) ?_
  intro p e s m args below meth c C hP hS ls hl
  obtain ⟨hx, hb, hr, hml, hown, hW, hlocks, hAm⟩ := id C
  have hl : lv_has ls 2 [(0, .ref (z + k)), (1, .int x)] := hl
  refine lv_aload_n hx hb dX6_placeOf_0 rfl (lv_at hl 0 rfl) ?_
  refine lv_iload_n hx hb dX6_placeOf_1 rfl (lv_at hl 1 rfl) ?_
  refine thn_I (run_V (As := [.int x]) (rest := []) C (k_X6_isThere l D cy z o d σ τ hk x) hP hS cw_X6_isThere (mA4 (i := 45) rfl rfl) hk ⟨rfl, rfl⟩ ⟨Nat.le_of_ble_eq_true rfl, Nat.le_of_ble_eq_true rfl⟩ rfl (Nat.le_of_ble_eq_true rfl) hl.1 ⟨Nat.zero_le _, Nat.zero_le _⟩ dX6_placeOf_2) hS (fun H locs hP hS => ?_)
  refine lv_if_eq (tgt := 16) hx hb dX6_placeOf_5 (by decide) (fun c_5 => ?_) (fun c_5 => ?_)
  · refine lv_iconst (v := 0) hx hb dX6_placeOf_16 (by decide) ?_
    exact ret_I C hP hS (nar_i _) rfl rfl rfl rfl dX6_placeOf_17
  · exact absurd ((isT_no hx9).1) c_5

theorem cw_X6_leader : cwVt yX6_leader cX6_leader 3 (some .int) 6 0 := ⟨(mA4 (i := 236) rfl rfl), (mA4 (i := 237) rfl rfl), (mA1 (i := 7) rfl rfl), (mA4 (i := 238) rfl rfl), by decide +kernel, ⟨_, rfl, rfl⟩, by decide⟩
abbrev rm_X6_leader : Room := { frames := 1, cells := 0, slots := 0, locals := 22 }
def gf_X6_leader (τ : Sg) : Nat → Nat → Nat → Int32
  | 0, _, _ => 0
  | n + 1, x, i =>
    if 4 ≤ i then
      nI x
    else
      if (f_X6_of τ i 1) ≤ (f_X6_of τ x 1) then
        gf_X6_leader τ n x (i + 1)
      else
        gf_X6_leader τ n i (i + 1)
set_option maxHeartbeats 4000000 in
set_option maxRecDepth 100000 in
theorem lp_X6_leader {p : Program} {l : Launch} {e : Env} {s : State} {m : MethodId} {args : Array Value} {below : List Frame} {meth : Method} {c : Code} {D : va_G} {cy : Nat → ClassId} {z : Nat} (C : Bd p s m args meth c cX6_leader 3 (some .int) RX6 D cy z) (o : Int64) (d : UInt64) {k : Nat} (hk : kd k = 6)  {r9 : Int32} :
    ∀ (n : Nat) (x : Nat) (i : Nat) (σ τ : Sg) (H : Heap) (locs : List Loc), (x < 4 ∧ i ≤ 4 ∧ 5 ≤ i + n) → (gf_X6_leader τ n x i = r9) → WP D cy z σ τ o d H → va_S (fz z) s.heap H locs → ∀ ls : Array Slot, lv_has ls 3 [(0, .ref (z + k)), (1, .int (nI x)), (2, .int (nI i))] → W p l e rm_X6_leader s m args below meth c H locs 0 0 (MQ below (PoI D cy z o d r9 σ τ) args s 0 0 (fz z)) (F0 m 9 ls []) := by
  obtain ⟨hx, hb, hr, hml, hown, hW, hlocks, hAm⟩ := id C
  intro n
  induction n with
  | zero =>
    intro _ _ σ τ H locs hn9 _ hP hS ls hl
    exact absurd hn9 (by omega)
  | succ n ih =>
    intro x i σ τ H locs hn9 hr9 hP hS ls hl
    refine lv_iload_n hx hb dX6_leader_9 rfl (lv_at hl 2 rfl) ?_
    refine lv_iconst (v := 4) hx hb dX6_leader_10 (by decide) ?_
    refine lv_icmp_ge (tgt := 41) hx hb dX6_leader_11 (by decide) (fun c_11 => ?_) (fun c_11 => ?_)
    · have d_11 : 4 ≤ i := (cI_le (a := 4) (b := i) rfl rfl (by omega) (by omega)).mp c_11
      refine lv_iload_n hx hb dX6_leader_41 rfl (lv_at hl 1 rfl) ?_
      exact ret_I C hP hS (nar_i _) rfl (by rw [← hr9, gf_X6_leader]; rw [if_pos d_11]) rfl rfl dX6_leader_42
    · have d_11 : ¬ (4 ≤ i) := fun h9 => c_11 ((cI_le (a := 4) (b := i) rfl rfl (by omega) (by omega)).mpr h9)
      refine lv_aload_n hx hb dX6_leader_14 rfl (lv_at hl 0 rfl) ?_
      refine lv_iload_n hx hb dX6_leader_15 rfl (lv_at hl 2 rfl) ?_
      refine lv_iconst (v := 1) hx hb dX6_leader_16 (by decide) ?_
      refine thn_I (run_V (As := [.int (nI i), .int 1]) (rest := []) C (k_X6_of l D cy z o d σ τ hk i 1 (by omega)) hP hS cw_X6_of (mA4 (i := 60) rfl rfl) hk ⟨rfl, rfl⟩ ⟨Nat.le_of_ble_eq_true rfl, Nat.le_of_ble_eq_true rfl⟩ rfl (Nat.le_of_ble_eq_true rfl) hl.1 ⟨Nat.zero_le _, Nat.zero_le _⟩ dX6_leader_17) hS (fun H locs hP hS => ?_)
      refine lv_aload_n hx hb dX6_leader_20 rfl (lv_at hl 0 rfl) ?_
      refine lv_iload_n hx hb dX6_leader_21 rfl (lv_at hl 1 rfl) ?_
      refine lv_iconst (v := 1) hx hb dX6_leader_22 (by decide) ?_
      refine thn_I (run_V (As := [.int (nI x), .int 1]) (rest := [.int (f_X6_of τ i 1)]) C (k_X6_of l D cy z o d σ τ hk x 1 (by omega)) hP hS cw_X6_of (mA4 (i := 60) rfl rfl) hk ⟨rfl, rfl⟩ ⟨Nat.le_of_ble_eq_true rfl, Nat.le_of_ble_eq_true rfl⟩ rfl (Nat.le_of_ble_eq_true rfl) hl.1 ⟨Nat.zero_le _, Nat.zero_le _⟩ dX6_leader_23) hS (fun H locs hP hS => ?_)
      refine lv_icmp_le (tgt := 33) hx hb dX6_leader_26 (by decide) (fun c_26 => ?_) (fun c_26 => ?_)
      · refine lv_iload_n hx hb dX6_leader_33 rfl (lv_at hl 1 rfl) ?_
        refine lv_istore_n (lv' := [(1, .int (nI x)), (0, .ref (z + k)), (2, .int (nI i))]) hx hb dX6_leader_34 rfl hl (by decide) rfl (fun ls hl => ?_)
        refine lv_iinc (v := nI (i + 1)) (lv' := [(2, .int (nI (i + 1))), (1, .int (nI x)), (0, .ref (z + k))]) hx hb dX6_leader_35 hl (k := 2) rfl (nI_1 i) (by decide) rfl (fun ls hl => ?_)
        refine lv_goto (tgt := 9) hx hb dX6_leader_38 (by decide) ?_
        exact ih x (i + 1) σ τ _ _ (⟨by omega, by omega, by omega⟩) (by rw [← hr9, gf_X6_leader]; rw [if_neg d_11, if_pos c_26]) hP hS ls (lv_sub hl [2, 1, 0] rfl)
      · refine lv_iload_n hx hb dX6_leader_29 rfl (lv_at hl 2 rfl) ?_
        refine lv_goto (tgt := 34) hx hb dX6_leader_30 (by decide) ?_
        refine lv_istore_n (lv' := [(1, .int (nI i)), (0, .ref (z + k)), (2, .int (nI i))]) hx hb dX6_leader_34 rfl hl (by decide) rfl (fun ls hl => ?_)
        refine lv_iinc (v := nI (i + 1)) (lv' := [(2, .int (nI (i + 1))), (1, .int (nI i)), (0, .ref (z + k))]) hx hb dX6_leader_35 hl (k := 2) rfl (nI_1 i) (by decide) rfl (fun ls hl => ?_)
        refine lv_goto (tgt := 9) hx hb dX6_leader_38 (by decide) ?_
        exact ih i (i + 1) σ τ _ _ (⟨by omega, by omega, by omega⟩) (by rw [← hr9, gf_X6_leader]; rw [if_neg d_11, if_neg c_26]) hP hS ls (lv_sub hl [2, 1, 0] rfl)
def f_X6_leader (τ : Sg) : Int32 :=
  gf_X6_leader (up τ 0 8 0) 4 0 1
def t_X6_leader (τ : Sg) : Sg :=
  up τ 0 8 0
set_option maxHeartbeats 4000000 in
set_option maxRecDepth 100000 in
theorem k_X6_leader (l : Launch) (D : va_G) (cy : Nat → ClassId) (z : Nat) (o : Int64) (d : UInt64) (σ τ : Sg) {k : Nat} (hk : kd k = 6) : KI l yX6_leader cX6_leader 3 (some .int) rm_X6_leader D cy z [.ref (z + k)] o d σ τ (f_X6_leader τ) σ (t_X6_leader τ) := by
  refine met_of RX6 (plainFor_of_name (by decide)) rfl (Nat.le_of_ble_eq_true rfl) ?_
  intro p e s m args below meth c C hP hS ls hl
  obtain ⟨hx, hb, hr, hml, hown, hW, hlocks, hAm⟩ := id C
  have hl : lv_has ls 3 [(0, .ref (z + k))] := hl
  refine lv_aload_n hx hb dX6_leader_0 rfl (lv_at hl 0 rfl) ?_
  refine lv_iconst (v := 0) hx hb dX6_leader_1 (by decide) ?_
  refine pf_X6_25 C hP hS hk dX6_leader_2 (fun H locs hP hS => ?_)
  refine lv_iconst (v := 0) hx hb dX6_leader_5 (by decide) ?_
  refine lv_istore_n (lv' := [(1, .int 0), (0, .ref (z + k))]) hx hb dX6_leader_6 rfl hl (by decide) rfl (fun ls hl => ?_)
  refine lv_iconst (v := 1) hx hb dX6_leader_7 (by decide) ?_
  refine lv_istore_n (lv' := [(2, .int 1), (1, .int 0), (0, .ref (z + k))]) hx hb dX6_leader_8 rfl hl (by decide) rfl (fun ls hl => ?_)
  exact lp_X6_leader C o d hk  (4) 0 1 σ (up τ 0 8 0) _ _ (⟨by omega, by omega, by omega⟩) rfl hP hS ls (lv_sub hl [2, 1, 0] rfl)

theorem cw_X6_stepTo : cwVt yX6_stepTo cX6_stepTo 3 (some .int) 6 2 := ⟨(mA5 (i := 0) rfl rfl), (mA5 (i := 1) rfl rfl), (mA1 (i := 7) rfl rfl), (mA5 (i := 2) rfl rfl), by decide +kernel, ⟨_, rfl, rfl⟩, by decide⟩
abbrev rm_X6_stepTo_ok : Room := { frames := 3, cells := 0, slots := 0, locals := 64 }
def f_X6_stepTo_ok (τ : Sg) (j : Nat) (y : Int32) : Int32 :=
  if (f_X6_in y 0 3) = 0 then
    f_X6_throwing (t_X6_isThere τ (nI j)) 2
  else
    f_X6_stepOf (t_X6_isThere τ (nI j)) j y
def t_X6_stepTo_ok (τ : Sg) (j : Nat) (y : Int32) : Sg :=
  if (f_X6_in y 0 3) = 0 then
    t_X6_throwing (t_X6_isThere τ (nI j)) 2
  else
    t_X6_isThere τ (nI j)
set_option maxHeartbeats 4000000 in
set_option maxRecDepth 100000 in
theorem k_X6_stepTo_ok (l : Launch) (D : va_G) (cy : Nat → ClassId) (z : Nat) (o : Int64) (d : UInt64) (σ τ : Sg) {k : Nat} (hk : kd k = 6) (j : Nat) (y : Int32) (hj : j < 4) : KI l yX6_stepTo cX6_stepTo 3 (some .int) rm_X6_stepTo_ok D cy z [.ref (z + k), .int (nI j), .int y] o d σ τ (f_X6_stepTo_ok τ j y) σ (t_X6_stepTo_ok τ j y) := by
  refine met_of RX6 (plainFor_of_name (by decide)) rfl (Nat.le_of_ble_eq_true rfl) ?_
  intro p e s m args below meth c C hP hS ls hl
  obtain ⟨hx, hb, hr, hml, hown, hW, hlocks, hAm⟩ := id C
  have hl : lv_has ls 3 [(0, .ref (z + k)), (1, .int (nI j)), (2, .int y)] := hl
  refine lv_aload_n hx hb dX6_stepTo_0 rfl (lv_at hl 0 rfl) ?_
  refine lv_iload_n hx hb dX6_stepTo_1 rfl (lv_at hl 1 rfl) ?_
  refine thn_I (run_V (As := [.int (nI j)]) (rest := []) C (k_X6_isThere l D cy z o d σ τ hk (nI j)) hP hS cw_X6_isThere (mA4 (i := 45) rfl rfl) hk ⟨rfl, rfl⟩ ⟨Nat.le_of_ble_eq_true rfl, Nat.le_of_ble_eq_true rfl⟩ rfl (Nat.le_of_ble_eq_true rfl) hl.1 ⟨Nat.zero_le _, Nat.zero_le _⟩ dX6_stepTo_2) hS (fun H locs hP hS => ?_)
  refine lv_if_ne (tgt := 10) hx hb dX6_stepTo_5 (by decide) (fun c_5 => ?_) (fun c_5 => ?_)
  · refine lv_iload_n hx hb dX6_stepTo_10 rfl (lv_at hl 2 rfl) ?_
    refine lv_iconst (v := 0) hx hb dX6_stepTo_11 (by decide) ?_
    refine lv_iconst (v := 3) hx hb dX6_stepTo_12 (by decide) ?_
    refine thn_I (run_S (As := [.int y, .int 0, .int 3]) (rest := []) C (k_X6_in l D cy z o d σ (t_X6_isThere τ (nI j)) y 0 3) hP hS cw_X6_in (mA4 (i := 49) rfl rfl) ⟨rfl, rfl⟩ ⟨Nat.le_of_ble_eq_true rfl, Nat.le_of_ble_eq_true rfl⟩ rfl (Nat.le_of_ble_eq_true rfl) hl.1 ⟨Nat.zero_le _, Nat.zero_le _⟩ dX6_stepTo_13) hS (fun H locs hP hS => ?_)
    refine lv_if_eq (tgt := 28) hx hb dX6_stepTo_16 (by decide) (fun c_16 => ?_) (fun c_16 => ?_)
    · refine lv_aload_n hx hb dX6_stepTo_28 rfl (lv_at hl 0 rfl) ?_
      refine lv_iconst (v := 2) hx hb dX6_stepTo_29 (by decide) ?_
      refine thn_I (run_V (As := [.int 2]) (rest := []) C (k_X6_throwing l D cy z o d σ (t_X6_isThere τ (nI j)) hk 2) hP hS cw_X6_throwing (mA4 (i := 52) rfl rfl) hk ⟨rfl, rfl⟩ ⟨Nat.le_of_ble_eq_true rfl, Nat.le_of_ble_eq_true rfl⟩ rfl (Nat.le_of_ble_eq_true rfl) hl.1 ⟨Nat.zero_le _, Nat.zero_le _⟩ dX6_stepTo_30) hS (fun H locs hP hS => ?_)
      exact ret_I C hP hS (nar_i _) rfl (by unfold f_X6_stepTo_ok; rw [if_pos c_16]) rfl (by unfold t_X6_stepTo_ok; rw [if_pos c_16]) dX6_stepTo_33
    · refine lv_aload_n hx hb dX6_stepTo_19 rfl (lv_at hl 0 rfl) ?_
      refine lv_iload_n hx hb dX6_stepTo_20 rfl (lv_at hl 1 rfl) ?_
      refine lv_iload_n hx hb dX6_stepTo_21 rfl (lv_at hl 2 rfl) ?_
      refine thn_I (run_V (As := [.int (nI j), .int y]) (rest := []) C (k_X6_stepOf l D cy z o d σ (t_X6_isThere τ (nI j)) hk j y hj) hP hS cw_X6_stepOf (mA4 (i := 65) rfl rfl) hk ⟨rfl, rfl⟩ ⟨Nat.le_of_ble_eq_true rfl, Nat.le_of_ble_eq_true rfl⟩ rfl (Nat.le_of_ble_eq_true rfl) hl.1 ⟨Nat.zero_le _, Nat.zero_le _⟩ dX6_stepTo_22) hS (fun H locs hP hS => ?_)
      refine lv_goto (tgt := 33) hx hb dX6_stepTo_25 (by decide) ?_
      exact ret_I C hP hS (nar_i _) rfl (by unfold f_X6_stepTo_ok; rw [if_neg c_16]) rfl (by unfold t_X6_stepTo_ok; rw [if_neg c_16]) dX6_stepTo_33
  · exact absurd c_5 (isT_ne hj)

abbrev rm_X6_stepTo_no : Room := { frames := 2, cells := 0, slots := 0, locals := 43 }
def f_X6_stepTo_no (τ : Sg) (x : Int32) (y : Int32) : Int32 :=
  0
def t_X6_stepTo_no (τ : Sg) (x : Int32) (y : Int32) : Sg :=
  t_X6_isThere τ x
set_option maxHeartbeats 4000000 in
set_option maxRecDepth 100000 in
theorem k_X6_stepTo_no (l : Launch) (D : va_G) (cy : Nat → ClassId) (z : Nat) (o : Int64) (d : UInt64) (σ τ : Sg) {k : Nat} (hk : kd k = 6) (x : Int32) (y : Int32) (hx9 : ¬ InS x) : KI l yX6_stepTo cX6_stepTo 3 (some .int) rm_X6_stepTo_no D cy z [.ref (z + k), .int x, .int y] o d σ τ (f_X6_stepTo_no τ x y) σ (t_X6_stepTo_no τ x y) := by
  refine met_of RX6 (plainFor_of_name (by decide)) rfl (Nat.le_of_ble_eq_true rfl) ?_
  intro p e s m args below meth c C hP hS ls hl
  obtain ⟨hx, hb, hr, hml, hown, hW, hlocks, hAm⟩ := id C
  have hl : lv_has ls 3 [(0, .ref (z + k)), (1, .int x), (2, .int y)] := hl
  refine lv_aload_n hx hb dX6_stepTo_0 rfl (lv_at hl 0 rfl) ?_
  refine lv_iload_n hx hb dX6_stepTo_1 rfl (lv_at hl 1 rfl) ?_
  refine thn_I (run_V (As := [.int x]) (rest := []) C (k_X6_isThere l D cy z o d σ τ hk x) hP hS cw_X6_isThere (mA4 (i := 45) rfl rfl) hk ⟨rfl, rfl⟩ ⟨Nat.le_of_ble_eq_true rfl, Nat.le_of_ble_eq_true rfl⟩ rfl (Nat.le_of_ble_eq_true rfl) hl.1 ⟨Nat.zero_le _, Nat.zero_le _⟩ dX6_stepTo_2) hS (fun H locs hP hS => ?_)
  refine lv_if_ne (tgt := 10) hx hb dX6_stepTo_5 (by decide) (fun c_5 => ?_) (fun c_5 => ?_)
  · exact absurd ((isT_no hx9).1) c_5
  · refine lv_iconst (v := 0) hx hb dX6_stepTo_8 (by decide) ?_
    exact ret_I C hP hS (nar_i _) rfl rfl rfl rfl dX6_stepTo_9

theorem cw_X6_loggedStep : cwVt yX6_loggedStep cX6_loggedStep 3 (some .int) 6 2 := ⟨(mA5 (i := 8) rfl rfl), (mA5 (i := 9) rfl rfl), (mA1 (i := 7) rfl rfl), (mA5 (i := 10) rfl rfl), by decide +kernel, ⟨_, rfl, rfl⟩, by decide⟩
abbrev rm_X6_loggedStep_ok : Room := { frames := 2, cells := 0, slots := 0, locals := 43 }
def f_X6_loggedStep_ok (τ : Sg) (j : Nat) (f : Nat) : Int32 :=
  f_X6_of (t_X6_isThere τ (nI j)) j (9 + 3 * f)
def t_X6_loggedStep_ok (τ : Sg) (j : Nat) (f : Nat) : Sg :=
  t_X6_isThere τ (nI j)
set_option maxHeartbeats 4000000 in
set_option maxRecDepth 100000 in
theorem k_X6_loggedStep_ok (l : Launch) (D : va_G) (cy : Nat → ClassId) (z : Nat) (o : Int64) (d : UInt64) (σ τ : Sg) {k : Nat} (hk : kd k = 6) (j : Nat) (f : Nat) (hM : MI τ) (hj : j < 4) (hf : f < MLn τ j) : KI l yX6_loggedStep cX6_loggedStep 3 (some .int) rm_X6_loggedStep_ok D cy z [.ref (z + k), .int (nI j), .int (nI f)] o d σ τ (f_X6_loggedStep_ok τ j f) σ (t_X6_loggedStep_ok τ j f) := by
  refine met_of RX6 (plainFor_of_name (by decide)) rfl (Nat.le_of_ble_eq_true rfl) ?_
  intro p e s m args below meth c C hP hS ls hl
  obtain ⟨hx, hb, hr, hml, hown, hW, hlocks, hAm⟩ := id C
  have hl : lv_has ls 3 [(0, .ref (z + k)), (1, .int (nI j)), (2, .int (nI f))] := hl
  refine lv_aload_n hx hb dX6_loggedStep_0 rfl (lv_at hl 0 rfl) ?_
  refine lv_iload_n hx hb dX6_loggedStep_1 rfl (lv_at hl 1 rfl) ?_
  refine thn_I (run_V (As := [.int (nI j)]) (rest := []) C (k_X6_isThere l D cy z o d σ τ hk (nI j)) hP hS cw_X6_isThere (mA4 (i := 45) rfl rfl) hk ⟨rfl, rfl⟩ ⟨Nat.le_of_ble_eq_true rfl, Nat.le_of_ble_eq_true rfl⟩ rfl (Nat.le_of_ble_eq_true rfl) hl.1 ⟨Nat.zero_le _, Nat.zero_le _⟩ dX6_loggedStep_2) hS (fun H locs hP hS => ?_)
  refine lv_if_ne (tgt := 10) hx hb dX6_loggedStep_5 (by decide) (fun c_5 => ?_) (fun c_5 => ?_)
  · refine lv_iload_n hx hb dX6_loggedStep_10 rfl (lv_at hl 2 rfl) ?_
    refine lv_iconst (v := 0) hx hb dX6_loggedStep_11 (by decide) ?_
    refine lv_aload_n hx hb dX6_loggedStep_12 rfl (lv_at hl 0 rfl) ?_
    refine lv_iload_n hx hb dX6_loggedStep_13 rfl (lv_at hl 1 rfl) ?_
    refine lv_bipush (v := 8) hx hb dX6_loggedStep_14 (by decide) ?_
    refine thn_I (run_V (As := [.int (nI j), .int 8]) (rest := [.int 0, .int (nI f)]) C (k_X6_of l D cy z o d σ (t_X6_isThere τ (nI j)) hk j 8 (by omega)) hP hS cw_X6_of (mA4 (i := 60) rfl rfl) hk ⟨rfl, rfl⟩ ⟨Nat.le_of_ble_eq_true rfl, Nat.le_of_ble_eq_true rfl⟩ rfl (Nat.le_of_ble_eq_true rfl) hl.1 ⟨Nat.zero_le _, Nat.zero_le _⟩ dX6_loggedStep_16) hS (fun H locs hP hS => ?_)
    refine lv_iconst (v := 1) hx hb dX6_loggedStep_19 (by decide) ?_
    refine lv_isub hx hb dX6_loggedStep_20 ?_
    refine thn_I (run_S (As := [.int (nI f), .int 0, .int ((f_X6_of (t_X6_isThere τ (nI j)) j 8) - 1)]) (rest := []) C (k_X6_in l D cy z o d σ (t_X6_isThere τ (nI j)) (nI f) 0 ((f_X6_of (t_X6_isThere τ (nI j)) j 8) - 1)) hP hS cw_X6_in (mA4 (i := 49) rfl rfl) ⟨rfl, rfl⟩ ⟨Nat.le_of_ble_eq_true rfl, Nat.le_of_ble_eq_true rfl⟩ rfl (Nat.le_of_ble_eq_true rfl) hl.1 ⟨Nat.zero_le _, Nat.zero_le _⟩ dX6_loggedStep_21) hS (fun H locs hP hS => ?_)
    refine lv_if_eq (tgt := 41) hx hb dX6_loggedStep_24 (by decide) (fun c_24 => ?_) (fun c_24 => ?_)
    · exact absurd c_24 (ls_ne hM hj hf)
    · refine lv_aload_n hx hb dX6_loggedStep_27 rfl (lv_at hl 0 rfl) ?_
      refine lv_iload_n hx hb dX6_loggedStep_28 rfl (lv_at hl 1 rfl) ?_
      refine lv_bipush (v := 9) hx hb dX6_loggedStep_29 (by decide) ?_
      refine lv_iconst (v := 3) hx hb dX6_loggedStep_31 (by decide) ?_
      refine lv_iload_n hx hb dX6_loggedStep_32 rfl (lv_at hl 2 rfl) ?_
      refine lv_imul hx hb dX6_loggedStep_33 ?_
      refine lv_iadd hx hb dX6_loggedStep_34 ?_
      have hb9 := (hM.ln hj).2
      rw [at_of]
      refine thn_I (run_V (As := [.int (nI j), .int (nI (9 + 3 * f))]) (rest := []) C (k_X6_of l D cy z o d σ (t_X6_isThere τ (nI j)) hk j (9 + 3 * f) (by omega)) hP hS cw_X6_of (mA4 (i := 60) rfl rfl) hk ⟨rfl, rfl⟩ ⟨Nat.le_of_ble_eq_true rfl, Nat.le_of_ble_eq_true rfl⟩ rfl (Nat.le_of_ble_eq_true rfl) hl.1 ⟨Nat.zero_le _, Nat.zero_le _⟩ dX6_loggedStep_35) hS (fun H locs hP hS => ?_)
      refine lv_goto (tgt := 46) hx hb dX6_loggedStep_38 (by decide) ?_
      exact ret_I C hP hS (nar_i _) rfl rfl rfl rfl dX6_loggedStep_46
  · exact absurd c_5 (isT_ne hj)

abbrev rm_X6_loggedStep_bad : Room := { frames := 2, cells := 0, slots := 0, locals := 43 }
def f_X6_loggedStep_bad (τ : Sg) (j : Nat) (y : Int32) : Int32 :=
  f_X6_throwing (t_X6_isThere τ (nI j)) 1
def t_X6_loggedStep_bad (τ : Sg) (j : Nat) (y : Int32) : Sg :=
  t_X6_throwing (t_X6_isThere τ (nI j)) 1
set_option maxHeartbeats 4000000 in
set_option maxRecDepth 100000 in
theorem k_X6_loggedStep_bad (l : Launch) (D : va_G) (cy : Nat → ClassId) (z : Nat) (o : Int64) (d : UInt64) (σ τ : Sg) {k : Nat} (hk : kd k = 6) (j : Nat) (y : Int32) (hj : j < 4) (hy9 : f_X6_in y 0 (f_X6_of (t_X6_isThere τ (nI j)) j 8 - 1) = 0) : KI l yX6_loggedStep cX6_loggedStep 3 (some .int) rm_X6_loggedStep_bad D cy z [.ref (z + k), .int (nI j), .int y] o d σ τ (f_X6_loggedStep_bad τ j y) σ (t_X6_loggedStep_bad τ j y) := by
  refine met_of RX6 (plainFor_of_name (by decide)) rfl (Nat.le_of_ble_eq_true rfl) ?_
  intro p e s m args below meth c C hP hS ls hl
  obtain ⟨hx, hb, hr, hml, hown, hW, hlocks, hAm⟩ := id C
  have hl : lv_has ls 3 [(0, .ref (z + k)), (1, .int (nI j)), (2, .int y)] := hl
  refine lv_aload_n hx hb dX6_loggedStep_0 rfl (lv_at hl 0 rfl) ?_
  refine lv_iload_n hx hb dX6_loggedStep_1 rfl (lv_at hl 1 rfl) ?_
  refine thn_I (run_V (As := [.int (nI j)]) (rest := []) C (k_X6_isThere l D cy z o d σ τ hk (nI j)) hP hS cw_X6_isThere (mA4 (i := 45) rfl rfl) hk ⟨rfl, rfl⟩ ⟨Nat.le_of_ble_eq_true rfl, Nat.le_of_ble_eq_true rfl⟩ rfl (Nat.le_of_ble_eq_true rfl) hl.1 ⟨Nat.zero_le _, Nat.zero_le _⟩ dX6_loggedStep_2) hS (fun H locs hP hS => ?_)
  refine lv_if_ne (tgt := 10) hx hb dX6_loggedStep_5 (by decide) (fun c_5 => ?_) (fun c_5 => ?_)
  · refine lv_iload_n hx hb dX6_loggedStep_10 rfl (lv_at hl 2 rfl) ?_
    refine lv_iconst (v := 0) hx hb dX6_loggedStep_11 (by decide) ?_
    refine lv_aload_n hx hb dX6_loggedStep_12 rfl (lv_at hl 0 rfl) ?_
    refine lv_iload_n hx hb dX6_loggedStep_13 rfl (lv_at hl 1 rfl) ?_
    refine lv_bipush (v := 8) hx hb dX6_loggedStep_14 (by decide) ?_
    refine thn_I (run_V (As := [.int (nI j), .int 8]) (rest := [.int 0, .int y]) C (k_X6_of l D cy z o d σ (t_X6_isThere τ (nI j)) hk j 8 (by omega)) hP hS cw_X6_of (mA4 (i := 60) rfl rfl) hk ⟨rfl, rfl⟩ ⟨Nat.le_of_ble_eq_true rfl, Nat.le_of_ble_eq_true rfl⟩ rfl (Nat.le_of_ble_eq_true rfl) hl.1 ⟨Nat.zero_le _, Nat.zero_le _⟩ dX6_loggedStep_16) hS (fun H locs hP hS => ?_)
    refine lv_iconst (v := 1) hx hb dX6_loggedStep_19 (by decide) ?_
    refine lv_isub hx hb dX6_loggedStep_20 ?_
    refine thn_I (run_S (As := [.int y, .int 0, .int ((f_X6_of (t_X6_isThere τ (nI j)) j 8) - 1)]) (rest := []) C (k_X6_in l D cy z o d σ (t_X6_isThere τ (nI j)) y 0 ((f_X6_of (t_X6_isThere τ (nI j)) j 8) - 1)) hP hS cw_X6_in (mA4 (i := 49) rfl rfl) ⟨rfl, rfl⟩ ⟨Nat.le_of_ble_eq_true rfl, Nat.le_of_ble_eq_true rfl⟩ rfl (Nat.le_of_ble_eq_true rfl) hl.1 ⟨Nat.zero_le _, Nat.zero_le _⟩ dX6_loggedStep_21) hS (fun H locs hP hS => ?_)
    refine lv_if_eq (tgt := 41) hx hb dX6_loggedStep_24 (by decide) (fun c_24 => ?_) (fun c_24 => ?_)
    · refine lv_aload_n hx hb dX6_loggedStep_41 rfl (lv_at hl 0 rfl) ?_
      refine lv_iconst (v := 1) hx hb dX6_loggedStep_42 (by decide) ?_
      refine thn_I (run_V (As := [.int 1]) (rest := []) C (k_X6_throwing l D cy z o d σ (t_X6_isThere τ (nI j)) hk 1) hP hS cw_X6_throwing (mA4 (i := 52) rfl rfl) hk ⟨rfl, rfl⟩ ⟨Nat.le_of_ble_eq_true rfl, Nat.le_of_ble_eq_true rfl⟩ rfl (Nat.le_of_ble_eq_true rfl) hl.1 ⟨Nat.zero_le _, Nat.zero_le _⟩ dX6_loggedStep_43) hS (fun H locs hP hS => ?_)
      exact ret_I C hP hS (nar_i _) rfl rfl rfl rfl dX6_loggedStep_46
    · exact absurd hy9 c_24
  · exact absurd c_5 (isT_ne hj)

abbrev rm_X6_loggedStep_no : Room := { frames := 2, cells := 0, slots := 0, locals := 43 }
def f_X6_loggedStep_no (τ : Sg) (x : Int32) (y : Int32) : Int32 :=
  0
def t_X6_loggedStep_no (τ : Sg) (x : Int32) (y : Int32) : Sg :=
  t_X6_isThere τ x
set_option maxHeartbeats 4000000 in
set_option maxRecDepth 100000 in
theorem k_X6_loggedStep_no (l : Launch) (D : va_G) (cy : Nat → ClassId) (z : Nat) (o : Int64) (d : UInt64) (σ τ : Sg) {k : Nat} (hk : kd k = 6) (x : Int32) (y : Int32) (hx9 : ¬ InS x) : KI l yX6_loggedStep cX6_loggedStep 3 (some .int) rm_X6_loggedStep_no D cy z [.ref (z + k), .int x, .int y] o d σ τ (f_X6_loggedStep_no τ x y) σ (t_X6_loggedStep_no τ x y) := by
  refine met_of RX6 (plainFor_of_name (by decide)) rfl (Nat.le_of_ble_eq_true rfl) ?_
  intro p e s m args below meth c C hP hS ls hl
  obtain ⟨hx, hb, hr, hml, hown, hW, hlocks, hAm⟩ := id C
  have hl : lv_has ls 3 [(0, .ref (z + k)), (1, .int x), (2, .int y)] := hl
  refine lv_aload_n hx hb dX6_loggedStep_0 rfl (lv_at hl 0 rfl) ?_
  refine lv_iload_n hx hb dX6_loggedStep_1 rfl (lv_at hl 1 rfl) ?_
  refine thn_I (run_V (As := [.int x]) (rest := []) C (k_X6_isThere l D cy z o d σ τ hk x) hP hS cw_X6_isThere (mA4 (i := 45) rfl rfl) hk ⟨rfl, rfl⟩ ⟨Nat.le_of_ble_eq_true rfl, Nat.le_of_ble_eq_true rfl⟩ rfl (Nat.le_of_ble_eq_true rfl) hl.1 ⟨Nat.zero_le _, Nat.zero_le _⟩ dX6_loggedStep_2) hS (fun H locs hP hS => ?_)
  refine lv_if_ne (tgt := 10) hx hb dX6_loggedStep_5 (by decide) (fun c_5 => ?_) (fun c_5 => ?_)
  · exact absurd ((isT_no hx9).1) c_5
  · refine lv_iconst (v := 0) hx hb dX6_loggedStep_8 (by decide) ?_
    exact ret_I C hP hS (nar_i _) rfl rfl rfl rfl dX6_loggedStep_9

theorem cw_X6_counts : cwVt yX6_counts cX6_counts 1 (some .int) 6 0 := ⟨(mA5 (i := 32) rfl rfl), (mA5 (i := 33) rfl rfl), (mA1 (i := 7) rfl rfl), (mA5 (i := 34) rfl rfl), by decide +kernel, ⟨_, rfl, rfl⟩, by decide⟩
abbrev rm_X6_counts : Room := { frames := 0, cells := 0, slots := 0, locals := 0 }
def f_X6_counts (τ : Sg) : Int32 :=
  (up τ 0 8 0) 1 229
def t_X6_counts (τ : Sg) : Sg :=
  up τ 0 8 0
set_option maxHeartbeats 4000000 in
set_option maxRecDepth 100000 in
theorem k_X6_counts (l : Launch) (D : va_G) (cy : Nat → ClassId) (z : Nat) (o : Int64) (d : UInt64) (σ τ : Sg) {k : Nat} (hk : kd k = 6) : KI l yX6_counts cX6_counts 1 (some .int) rm_X6_counts D cy z [.ref (z + k)] o d σ τ (f_X6_counts τ) σ (t_X6_counts τ) := by
  refine met_of RX6 (plainFor_of_name (by decide)) rfl (Nat.le_of_ble_eq_true rfl) ?_
  intro p e s m args below meth c C hP hS ls hl
  obtain ⟨hx, hb, hr, hml, hown, hW, hlocks, hAm⟩ := id C
  have hl : lv_has ls 1 [(0, .ref (z + k))] := hl
  refine lv_aload_n hx hb dX6_counts_0 rfl (lv_at hl 0 rfl) ?_
  refine lv_iconst (v := 0) hx hb dX6_counts_1 (by decide) ?_
  refine pf_X6_25 C hP hS hk dX6_counts_2 (fun H locs hP hS => ?_)
  refine lv_aload_n hx hb dX6_counts_5 rfl (lv_at hl 0 rfl) ?_
  refine gf_X6_7 C hP hk dX6_counts_6 ?_
  refine lv_sipush (v := 229) hx hb dX6_counts_9 (by decide) ?_
  refine al_10 C hP (kd6_1 hk) vp229 dX6_counts_12 ?_
  rw [cl229]
  exact ret_I C hP hS (nar_i _) rfl rfl rfl rfl dX6_counts_13

theorem cw_X6_rule : cwVt yX6_rule cX6_rule 1 (some .int) 6 0 := ⟨(mA5 (i := 36) rfl rfl), (mA5 (i := 37) rfl rfl), (mA1 (i := 7) rfl rfl), (mA5 (i := 38) rfl rfl), by decide +kernel, ⟨_, rfl, rfl⟩, by decide⟩
abbrev rm_X6_rule : Room := { frames := 0, cells := 0, slots := 0, locals := 0 }
def f_X6_rule (τ : Sg) : Int32 :=
  (up τ 0 8 0) 1 228
def t_X6_rule (τ : Sg) : Sg :=
  up τ 0 8 0
set_option maxHeartbeats 4000000 in
set_option maxRecDepth 100000 in
theorem k_X6_rule (l : Launch) (D : va_G) (cy : Nat → ClassId) (z : Nat) (o : Int64) (d : UInt64) (σ τ : Sg) {k : Nat} (hk : kd k = 6) : KI l yX6_rule cX6_rule 1 (some .int) rm_X6_rule D cy z [.ref (z + k)] o d σ τ (f_X6_rule τ) σ (t_X6_rule τ) := by
  refine met_of RX6 (plainFor_of_name (by decide)) rfl (Nat.le_of_ble_eq_true rfl) ?_
  intro p e s m args below meth c C hP hS ls hl
  obtain ⟨hx, hb, hr, hml, hown, hW, hlocks, hAm⟩ := id C
  have hl : lv_has ls 1 [(0, .ref (z + k))] := hl
  refine lv_aload_n hx hb dX6_rule_0 rfl (lv_at hl 0 rfl) ?_
  refine lv_iconst (v := 0) hx hb dX6_rule_1 (by decide) ?_
  refine pf_X6_25 C hP hS hk dX6_rule_2 (fun H locs hP hS => ?_)
  refine lv_aload_n hx hb dX6_rule_5 rfl (lv_at hl 0 rfl) ?_
  refine gf_X6_7 C hP hk dX6_rule_6 ?_
  refine lv_sipush (v := 228) hx hb dX6_rule_9 (by decide) ?_
  refine al_10 C hP (kd6_1 hk) vp228 dX6_rule_12 ?_
  rw [cl228]
  exact ret_I C hP hS (nar_i _) rfl rfl rfl rfl dX6_rule_13

theorem cw_X6_recordedStates : cwVt yX6_recordedStates cX6_recordedStates 1 (some .int) 6 0 := ⟨(mA5 (i := 40) rfl rfl), (mA5 (i := 41) rfl rfl), (mA1 (i := 7) rfl rfl), (mA5 (i := 42) rfl rfl), by decide +kernel, ⟨_, rfl, rfl⟩, by decide⟩
abbrev rm_X6_recordedStates : Room := { frames := 0, cells := 0, slots := 0, locals := 0 }
def f_X6_recordedStates (τ : Sg) : Int32 :=
  (up τ 0 8 0) 0 2
def t_X6_recordedStates (τ : Sg) : Sg :=
  up τ 0 8 0
set_option maxHeartbeats 4000000 in
set_option maxRecDepth 100000 in
theorem k_X6_recordedStates (l : Launch) (D : va_G) (cy : Nat → ClassId) (z : Nat) (o : Int64) (d : UInt64) (σ τ : Sg) {k : Nat} (hk : kd k = 6) : KI l yX6_recordedStates cX6_recordedStates 1 (some .int) rm_X6_recordedStates D cy z [.ref (z + k)] o d σ τ (f_X6_recordedStates τ) σ (t_X6_recordedStates τ) := by
  refine met_of RX6 (plainFor_of_name (by decide)) rfl (Nat.le_of_ble_eq_true rfl) ?_
  intro p e s m args below meth c C hP hS ls hl
  obtain ⟨hx, hb, hr, hml, hown, hW, hlocks, hAm⟩ := id C
  have hl : lv_has ls 1 [(0, .ref (z + k))] := hl
  refine lv_aload_n hx hb dX6_recordedStates_0 rfl (lv_at hl 0 rfl) ?_
  refine lv_iconst (v := 0) hx hb dX6_recordedStates_1 (by decide) ?_
  refine pf_X6_25 C hP hS hk dX6_recordedStates_2 (fun H locs hP hS => ?_)
  refine lv_aload_n hx hb dX6_recordedStates_5 rfl (lv_at hl 0 rfl) ?_
  refine gf_X6_33 C hP hk dX6_recordedStates_6 ?_
  exact ret_I C hP hS (nar_i _) rfl rfl rfl rfl dX6_recordedStates_9


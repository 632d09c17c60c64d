theorem sg0_n {a b : Nat} (h : kd a ≠ 0) : sg0 a b = 0 := if_neg (fun q => h q.1)
theorem sg0_m {a b : Nat} (h : b ≠ 5) : sg0 a b = 0 := if_neg (fun q => h q.2)
theorem sg0_5 {a : Nat} (h : kd a = 0) : sg0 a 5 = 24 := if_pos ⟨h, rfl⟩
set_option maxHeartbeats 4000000 in
set_option maxRecDepth 100000 in
theorem k_X1_init (l : Launch) (D : va_G) (cy : Nat → ClassId) (z : Nat) {a n9 : Nat} (ha : kd a = 1) (hn9 : n9 = a + 2) (F : Nat → va_E) : KC l yX1_init cX1_init 1 12 1 48 D cy z a n9 (.inr (1, [.null, .int 0, .int 0])) F := by
  subst hn9
  refine metC_of RX1 (plainFor_of_name (by decide)) rfl ?_
  intro p e s m args below meth c C hmn hG hS hz ls hl
  obtain ⟨hx, hb, hr, hml, hown, hW, hlocks, hAm⟩ := id C
  refine lv_aload_n hx hb dX1_init_0 rfl (lv_at hl 0 rfl) ?_
  refine W.objInit hx hb hown (hW _ (mA1 (i := 39) rfl rfl)) (hW _ (mA1 (i := 20) rfl rfl)) (hW _ (mA1 (i := 21) rfl rfl)) rfl (by rw [hml]; exact hl.1) rfl dX1_init_1 (Nat.le_of_ble_eq_true rfl) (Nat.le_of_ble_eq_true rfl) ?_
  refine W.eq (g2 := F0 m 4 ls []) rfl ?_
  refine lv_aload_n hx hb dX1_init_4 rfl (lv_at hl 0 rfl) ?_
  refine lv_bipush (v := 48) hx hb dX1_init_5 (by decide) ?_
  refine c_newa (n := a + 1) (I := (IN z cy)) C hG hS (at0 := .int) (ty := .int) (mA1 (i := 52) rfl rfl) rfl (t0 := 0) (N := 48) (x := ((48, .inl (fun _ => 0)) : vp_A)) rfl (fun q => q) rfl (by decide) rfl (Nat.le_of_ble_eq_true rfl) (Nat.le_of_ble_eq_true rfl) (Nat.le_of_ble_eq_true rfl) dX1_init_7 (fun H hG hS => ?_)
  have hI : IN z cy (a + 1) = .inl (cy 0, ((48, .inl (fun _ => 0)) : vp_A)) := by
    rw [IN, ent_7 (kd1_1 ha)]
    rw [show sg0 (a + 1) = (fun _ => 0 : Nat → Int32) from funext fun b => sg0_n (by rw [kd1_1 ha]; decide)]
  rw [← hI] at hG
  have hG := hG.up (by omega)
  refine c_putF (I := (IN z cy)) C hG hS (by omega) (N := 3) (j := 0) (ty := tyX1 0) rfl inWX1 tyX1_ok nmX1 (by decide) rfl rfl hmn rfl (tyX1_ok 0 (by decide)) rfl rfl (mA1 (i := 40) rfl rfl) (by show 0 < 3; decide) dX1_init_9 (fun H locs hG hS => ?_)
  exact c_ret C hG hS (fun k _ => congrArg (fun x => cut (IN z cy) a x F k) (by rw [IN, ent_1 ha]; simp [sg0_n (show kd a ≠ 0 by rw [ha]; decide)])) dX1_init_12
set_option maxHeartbeats 4000000 in
set_option maxRecDepth 100000 in
theorem k_X4_init (l : Launch) (D : va_G) (cy : Nat → ClassId) (z : Nat) {a n9 : Nat} (ha : kd a = 4) (hn9 : n9 = a + 3) (F : Nat → va_E) : KC l yX4_init cX4_init 2 32 2 51 D cy z a n9 (.inr (4, [.null, .int 0, .int 0, .int 0, .int 0, .int 0, .int 0, .int 0, .int 0, .int 0, .int 0, .int 0])) F := by
  subst hn9
  refine metC_of RX4 (plainFor_of_name (by decide)) rfl ?_
  intro p e s m args below meth c C hmn hG hS hz ls hl
  obtain ⟨hx, hb, hr, hml, hown, hW, hlocks, hAm⟩ := id C
  refine lv_aload_n hx hb dX4_init_0 rfl (lv_at hl 0 rfl) ?_
  refine W.objInit hx hb hown (hW _ (mA1 (i := 33) rfl rfl)) (hW _ (mA1 (i := 20) rfl rfl)) (hW _ (mA1 (i := 21) rfl rfl)) rfl (by rw [hml]; exact hl.1) rfl dX4_init_1 (Nat.le_of_ble_eq_true rfl) (Nat.le_of_ble_eq_true rfl) ?_
  refine W.eq (g2 := F0 m 4 ls []) rfl ?_
  refine lv_aload_n hx hb dX4_init_4 rfl (lv_at hl 0 rfl) ?_
  refine c_new (n := a + 1) C hG hS (ci := 1) (R := RX1) (T := TX1) (N := 3) (ty0 := tyX1) (fs := [.null, .int 0, .int 0]) rfl inWX1 tyX1_ok (mA1 (i := 34) rfl rfl) (mA1 (i := 35) rfl rfl) (mA1 (i := 4) rfl rfl) (fun j hj => by rcases (show j = 0 ∨ j = 1 ∨ j = 2 by omega) with rfl | rfl | rfl <;> rfl) (Nat.le_of_ble_eq_true rfl) (Nat.le_of_ble_eq_true rfl) dX4_init_5 (fun H hG hS => ?_)
  refine lv_dup hx hb dX4_init_8 rfl ?_
  refine c_runN (n := a + 1) (n' := a + 3) C (k_X1_init l D cy z (kd4_1 ha) rfl _) hG hS (by unfold nestW; simp) (mA1 (i := 4) rfl rfl) (mA1 (i := 37) rfl rfl) (mA1 (i := 38) rfl rfl) rfl ⟨by decide +kernel, by decide +kernel, by decide +kernel⟩ ⟨(Nat.le_of_ble_eq_true rfl), (Nat.le_of_ble_eq_true rfl)⟩ (Nat.le_of_ble_eq_true rfl) hl.1 ⟨(Nat.le_of_ble_eq_true rfl), (Nat.le_of_ble_eq_true rfl)⟩ dX4_init_9 (fun H locs hG hS => ?_)
  have hG := hG.up (by omega)
  refine c_putF (I := (IN z cy)) C hG hS (by omega) (N := 12) (j := 0) (ty := tyX4 0) rfl inWX4 tyX4_ok nmX4 (by decide) rfl rfl hmn rfl (tyX4_ok 0 (by decide)) rfl rfl (mA1 (i := 53) rfl rfl) (by show 0 < 12; decide) dX4_init_12 (fun H locs hG hS => ?_)
  exact c_ret C hG hS (fun k _ => congrArg (fun x => cut (IN z cy) a x F k) (by rw [IN, ent_4 ha]; simp [sg0_n (show kd a ≠ 0 by rw [ha]; decide)])) dX4_init_15
set_option maxHeartbeats 4000000 in
set_option maxRecDepth 100000 in
theorem k_X0_init (l : Launch) (D : va_G) (cy : Nat → ClassId) (z : Nat) {a n9 : Nat} (ha : kd a = 0) (hn9 : n9 = a + 13) (F : Nat → va_E) : KC l yX0_init cX0_init 3 52 12 252 D cy z a n9 (.inr (0, [.null, .null, .null, .null, .int 0, .int 0])) F := by
  subst hn9
  refine metC_of RX0 (plainFor_of_name (by decide)) rfl ?_
  intro p e s m args below meth c C hmn hG hS hz ls hl
  obtain ⟨hx, hb, hr, hml, hown, hW, hlocks, hAm⟩ := id C
  refine lv_aload_n hx hb dX0_init_0 rfl (lv_at hl 0 rfl) ?_
  refine W.objInit hx hb hown (hW _ (mA1 (i := 27) rfl rfl)) (hW _ (mA1 (i := 20) rfl rfl)) (hW _ (mA1 (i := 21) rfl rfl)) rfl (by rw [hml]; exact hl.1) rfl dX0_init_1 (Nat.le_of_ble_eq_true rfl) (Nat.le_of_ble_eq_true rfl) ?_
  refine W.eq (g2 := F0 m 4 ls []) rfl ?_
  refine lv_aload_n hx hb dX0_init_4 rfl (lv_at hl 0 rfl) ?_
  refine c_new (n := a + 1) C hG hS (ci := 4) (R := RX4) (T := TX4) (N := 12) (ty0 := tyX4) (fs := [.null, .int 0, .int 0, .int 0, .int 0, .int 0, .int 0, .int 0, .int 0, .int 0, .int 0, .int 0]) rfl inWX4 tyX4_ok (mA1 (i := 28) rfl rfl) (mA1 (i := 29) rfl rfl) (mA1 (i := 3) rfl rfl) (fun j hj => by rcases (show j = 0 ∨ j = 1 ∨ j = 2 ∨ j = 3 ∨ j = 4 ∨ j = 5 ∨ j = 6 ∨ j = 7 ∨ j = 8 ∨ j = 9 ∨ j = 10 ∨ j = 11 by omega) with rfl | rfl | rfl | rfl | rfl | rfl | rfl | rfl | rfl | rfl | rfl | rfl <;> rfl) (Nat.le_of_ble_eq_true rfl) (Nat.le_of_ble_eq_true rfl) dX0_init_5 (fun H hG hS => ?_)
  refine lv_dup hx hb dX0_init_8 rfl ?_
  refine c_runN (n := a + 1) (n' := a + 4) C (k_X4_init l D cy z (kd0_1 ha) rfl _) hG hS (by unfold nestW; simp) (mA1 (i := 3) rfl rfl) (mA1 (i := 31) rfl rfl) (mA1 (i := 32) rfl rfl) rfl ⟨by decide +kernel, by decide +kernel, by decide +kernel⟩ ⟨(Nat.le_of_ble_eq_true rfl), (Nat.le_of_ble_eq_true rfl)⟩ (Nat.le_of_ble_eq_true rfl) hl.1 ⟨(Nat.le_of_ble_eq_true rfl), (Nat.le_of_ble_eq_true rfl)⟩ dX0_init_9 (fun H locs hG hS => ?_)
  have hG := hG.up (by omega)
  refine c_putF (I := (IN z cy)) C hG hS (by omega) (N := 6) (j := 0) (ty := tyX0 0) rfl inWX0 tyX0_ok nmX0 (by decide) rfl rfl hmn rfl (tyX0_ok 0 (by decide)) rfl rfl (mA1 (i := 102) rfl rfl) (by show 0 < 6; decide) dX0_init_12 (fun H locs hG hS => ?_)
  refine lv_aload_n hx hb dX0_init_15 rfl (lv_at hl 0 rfl) ?_
  refine c_new (n := a + 4) C hG hS (ci := 4) (R := RX4) (T := TX4) (N := 12) (ty0 := tyX4) (fs := [.null, .int 0, .int 0, .int 0, .int 0, .int 0, .int 0, .int 0, .int 0, .int 0, .int 0, .int 0]) rfl inWX4 tyX4_ok (mA1 (i := 28) rfl rfl) (mA1 (i := 29) rfl rfl) (mA1 (i := 3) rfl rfl) (fun j hj => by rcases (show j = 0 ∨ j = 1 ∨ j = 2 ∨ j = 3 ∨ j = 4 ∨ j = 5 ∨ j = 6 ∨ j = 7 ∨ j = 8 ∨ j = 9 ∨ j = 10 ∨ j = 11 by omega) with rfl | rfl | rfl | rfl | rfl | rfl | rfl | rfl | rfl | rfl | rfl | rfl <;> rfl) (Nat.le_of_ble_eq_true rfl) (Nat.le_of_ble_eq_true rfl) dX0_init_16 (fun H hG hS => ?_)
  refine lv_dup hx hb dX0_init_19 rfl ?_
  refine c_runN (n := a + 4) (n' := a + 7) C (k_X4_init l D cy z (kd0_4 ha) rfl _) hG hS (by unfold nestW; simp) (mA1 (i := 3) rfl rfl) (mA1 (i := 31) rfl rfl) (mA1 (i := 32) rfl rfl) rfl ⟨by decide +kernel, by decide +kernel, by decide +kernel⟩ ⟨(Nat.le_of_ble_eq_true rfl), (Nat.le_of_ble_eq_true rfl)⟩ (Nat.le_of_ble_eq_true rfl) hl.1 ⟨(Nat.le_of_ble_eq_true rfl), (Nat.le_of_ble_eq_true rfl)⟩ dX0_init_20 (fun H locs hG hS => ?_)
  have hG := hG.up (by omega)
  refine c_putF (I := (IN z cy)) C hG hS (by omega) (N := 6) (j := 1) (ty := tyX0 1) rfl inWX0 tyX0_ok nmX0 (by decide) rfl rfl hmn rfl (tyX0_ok 1 (by decide)) rfl rfl (mA1 (i := 103) rfl rfl) (by show 1 < 6; decide) dX0_init_23 (fun H locs hG hS => ?_)
  refine lv_aload_n hx hb dX0_init_26 rfl (lv_at hl 0 rfl) ?_
  refine c_new (n := a + 7) C hG hS (ci := 4) (R := RX4) (T := TX4) (N := 12) (ty0 := tyX4) (fs := [.null, .int 0, .int 0, .int 0, .int 0, .int 0, .int 0, .int 0, .int 0, .int 0, .int 0, .int 0]) rfl inWX4 tyX4_ok (mA1 (i := 28) rfl rfl) (mA1 (i := 29) rfl rfl) (mA1 (i := 3) rfl rfl) (fun j hj => by rcases (show j = 0 ∨ j = 1 ∨ j = 2 ∨ j = 3 ∨ j = 4 ∨ j = 5 ∨ j = 6 ∨ j = 7 ∨ j = 8 ∨ j = 9 ∨ j = 10 ∨ j = 11 by omega) with rfl | rfl | rfl | rfl | rfl | rfl | rfl | rfl | rfl | rfl | rfl | rfl <;> rfl) (Nat.le_of_ble_eq_true rfl) (Nat.le_of_ble_eq_true rfl) dX0_init_27 (fun H hG hS => ?_)
  refine lv_dup hx hb dX0_init_30 rfl ?_
  refine c_runN (n := a + 7) (n' := a + 10) C (k_X4_init l D cy z (kd0_7 ha) rfl _) hG hS (by unfold nestW; simp) (mA1 (i := 3) rfl rfl) (mA1 (i := 31) rfl rfl) (mA1 (i := 32) rfl rfl) rfl ⟨by decide +kernel, by decide +kernel, by decide +kernel⟩ ⟨(Nat.le_of_ble_eq_true rfl), (Nat.le_of_ble_eq_true rfl)⟩ (Nat.le_of_ble_eq_true rfl) hl.1 ⟨(Nat.le_of_ble_eq_true rfl), (Nat.le_of_ble_eq_true rfl)⟩ dX0_init_31 (fun H locs hG hS => ?_)
  have hG := hG.up (by omega)
  refine c_putF (I := (IN z cy)) C hG hS (by omega) (N := 6) (j := 2) (ty := tyX0 2) rfl inWX0 tyX0_ok nmX0 (by decide) rfl rfl hmn rfl (tyX0_ok 2 (by decide)) rfl rfl (mA1 (i := 104) rfl rfl) (by show 2 < 6; decide) dX0_init_34 (fun H locs hG hS => ?_)
  refine lv_aload_n hx hb dX0_init_37 rfl (lv_at hl 0 rfl) ?_
  refine c_new (n := a + 10) C hG hS (ci := 4) (R := RX4) (T := TX4) (N := 12) (ty0 := tyX4) (fs := [.null, .int 0, .int 0, .int 0, .int 0, .int 0, .int 0, .int 0, .int 0, .int 0, .int 0, .int 0]) rfl inWX4 tyX4_ok (mA1 (i := 28) rfl rfl) (mA1 (i := 29) rfl rfl) (mA1 (i := 3) rfl rfl) (fun j hj => by rcases (show j = 0 ∨ j = 1 ∨ j = 2 ∨ j = 3 ∨ j = 4 ∨ j = 5 ∨ j = 6 ∨ j = 7 ∨ j = 8 ∨ j = 9 ∨ j = 10 ∨ j = 11 by omega) with rfl | rfl | rfl | rfl | rfl | rfl | rfl | rfl | rfl | rfl | rfl | rfl <;> rfl) (Nat.le_of_ble_eq_true rfl) (Nat.le_of_ble_eq_true rfl) dX0_init_38 (fun H hG hS => ?_)
  refine lv_dup hx hb dX0_init_41 rfl ?_
  refine c_runN (n := a + 10) (n' := a + 13) C (k_X4_init l D cy z (kd0_10 ha) rfl _) hG hS (by unfold nestW; simp) (mA1 (i := 3) rfl rfl) (mA1 (i := 31) rfl rfl) (mA1 (i := 32) rfl rfl) rfl ⟨by decide +kernel, by decide +kernel, by decide +kernel⟩ ⟨(Nat.le_of_ble_eq_true rfl), (Nat.le_of_ble_eq_true rfl)⟩ (Nat.le_of_ble_eq_true rfl) hl.1 ⟨(Nat.le_of_ble_eq_true rfl), (Nat.le_of_ble_eq_true rfl)⟩ dX0_init_42 (fun H locs hG hS => ?_)
  have hG := hG.up (by omega)
  refine c_putF (I := (IN z cy)) C hG hS (by omega) (N := 6) (j := 3) (ty := tyX0 3) rfl inWX0 tyX0_ok nmX0 (by decide) rfl rfl hmn rfl (tyX0_ok 3 (by decide)) rfl rfl (mA1 (i := 105) rfl rfl) (by show 3 < 6; decide) dX0_init_45 (fun H locs hG hS => ?_)
  refine lv_aload_n hx hb dX0_init_48 rfl (lv_at hl 0 rfl) ?_
  refine lv_iconst (v := 0) hx hb dX0_init_49 (by decide) ?_
  refine c_put (I := (IN z cy)) C hG hS (by omega) (N := 6) (j := 4) (ty := tyX0 4) rfl inWX0 tyX0_ok nmX0 (by decide) rfl rfl (tyX0_ok 4 (by decide)) rfl rfl (mA1 (i := 106) rfl rfl) (by show 4 < 6; decide) dX0_init_50 (fun H locs hG hS => ?_)
  refine lv_aload_n hx hb dX0_init_53 rfl (lv_at hl 0 rfl) ?_
  refine lv_bipush (v := 24) hx hb dX0_init_54 (by decide) ?_
  refine c_put (I := (IN z cy)) C hG hS (by omega) (N := 6) (j := 5) (ty := tyX0 5) rfl inWX0 tyX0_ok nmX0 (by decide) rfl rfl (tyX0_ok 5 (by decide)) rfl rfl (mA1 (i := 108) rfl rfl) (by show 5 < 6; decide) dX0_init_56 (fun H locs hG hS => ?_)
  exact c_ret C hG hS (fun k _ => congrArg (fun x => cut (IN z cy) a x F k) (by rw [IN, ent_0 ha]; simp [sg0_m (show (4 : Nat) ≠ 5 by decide), sg0_5 ha])) dX0_init_59
set_option maxHeartbeats 4000000 in
set_option maxRecDepth 100000 in
theorem k_X3_init (l : Launch) (D : va_G) (cy : Nat → ClassId) (z : Nat) {a n9 : Nat} (ha : kd a = 3) (hn9 : n9 = a + 53) (F : Nat → va_E) : KC l yX3_init cX3_init 4 72 52 1032 D cy z a n9 (.inr (3, [.null, .null, .null, .null, .int 0, .int 0])) F := by
  subst hn9
  refine metC_of RX3 (plainFor_of_name (by decide)) rfl ?_
  intro p e s m args below meth c C hmn hG hS hz ls hl
  obtain ⟨hx, hb, hr, hml, hown, hW, hlocks, hAm⟩ := id C
  refine lv_aload_n hx hb dX3_init_0 rfl (lv_at hl 0 rfl) ?_
  refine W.objInit hx hb hown (hW _ (mA1 (i := 128) rfl rfl)) (hW _ (mA1 (i := 20) rfl rfl)) (hW _ (mA1 (i := 21) rfl rfl)) rfl (by rw [hml]; exact hl.1) rfl dX3_init_1 (Nat.le_of_ble_eq_true rfl) (Nat.le_of_ble_eq_true rfl) ?_
  refine W.eq (g2 := F0 m 4 ls []) rfl ?_
  refine lv_aload_n hx hb dX3_init_4 rfl (lv_at hl 0 rfl) ?_
  refine c_new (n := a + 1) C hG hS (ci := 0) (R := RX0) (T := TX0) (N := 6) (ty0 := tyX0) (fs := [.null, .null, .null, .null, .int 0, .int 0]) rfl inWX0 tyX0_ok (mA1 (i := 129) rfl rfl) (mA1 (i := 23) rfl rfl) (mA1 (i := 2) rfl rfl) (fun j hj => by rcases (show j = 0 ∨ j = 1 ∨ j = 2 ∨ j = 3 ∨ j = 4 ∨ j = 5 by omega) with rfl | rfl | rfl | rfl | rfl | rfl <;> rfl) (Nat.le_of_ble_eq_true rfl) (Nat.le_of_ble_eq_true rfl) dX3_init_5 (fun H hG hS => ?_)
  refine lv_dup hx hb dX3_init_8 rfl ?_
  refine c_runN (n := a + 1) (n' := a + 14) C (k_X0_init l D cy z (kd3_1 ha) rfl _) hG hS (by unfold nestW; simp) (mA1 (i := 2) rfl rfl) (mA1 (i := 25) rfl rfl) (mA1 (i := 26) rfl rfl) rfl ⟨by decide +kernel, by decide +kernel, by decide +kernel⟩ ⟨(Nat.le_of_ble_eq_true rfl), (Nat.le_of_ble_eq_true rfl)⟩ (Nat.le_of_ble_eq_true rfl) hl.1 ⟨(Nat.le_of_ble_eq_true rfl), (Nat.le_of_ble_eq_true rfl)⟩ dX3_init_9 (fun H locs hG hS => ?_)
  have hG := hG.up (by omega)
  refine c_putF (I := (IN z cy)) C hG hS (by omega) (N := 6) (j := 0) (ty := tyX3 0) rfl inWX3 tyX3_ok nmX3 (by decide) rfl rfl hmn rfl (tyX3_ok 0 (by decide)) rfl rfl (mA1 (i := 131) rfl rfl) (by show 0 < 6; decide) dX3_init_12 (fun H locs hG hS => ?_)
  refine lv_aload_n hx hb dX3_init_15 rfl (lv_at hl 0 rfl) ?_
  refine c_new (n := a + 14) C hG hS (ci := 0) (R := RX0) (T := TX0) (N := 6) (ty0 := tyX0) (fs := [.null, .null, .null, .null, .int 0, .int 0]) rfl inWX0 tyX0_ok (mA1 (i := 129) rfl rfl) (mA1 (i := 23) rfl rfl) (mA1 (i := 2) rfl rfl) (fun j hj => by rcases (show j = 0 ∨ j = 1 ∨ j = 2 ∨ j = 3 ∨ j = 4 ∨ j = 5 by omega) with rfl | rfl | rfl | rfl | rfl | rfl <;> rfl) (Nat.le_of_ble_eq_true rfl) (Nat.le_of_ble_eq_true rfl) dX3_init_16 (fun H hG hS => ?_)
  refine lv_dup hx hb dX3_init_19 rfl ?_
  refine c_runN (n := a + 14) (n' := a + 27) C (k_X0_init l D cy z (kd3_14 ha) rfl _) hG hS (by unfold nestW; simp) (mA1 (i := 2) rfl rfl) (mA1 (i := 25) rfl rfl) (mA1 (i := 26) rfl rfl) rfl ⟨by decide +kernel, by decide +kernel, by decide +kernel⟩ ⟨(Nat.le_of_ble_eq_true rfl), (Nat.le_of_ble_eq_true rfl)⟩ (Nat.le_of_ble_eq_true rfl) hl.1 ⟨(Nat.le_of_ble_eq_true rfl), (Nat.le_of_ble_eq_true rfl)⟩ dX3_init_20 (fun H locs hG hS => ?_)
  have hG := hG.up (by omega)
  refine c_putF (I := (IN z cy)) C hG hS (by omega) (N := 6) (j := 1) (ty := tyX3 1) rfl inWX3 tyX3_ok nmX3 (by decide) rfl rfl hmn rfl (tyX3_ok 1 (by decide)) rfl rfl (mA1 (i := 132) rfl rfl) (by show 1 < 6; decide) dX3_init_23 (fun H locs hG hS => ?_)
  refine lv_aload_n hx hb dX3_init_26 rfl (lv_at hl 0 rfl) ?_
  refine c_new (n := a + 27) C hG hS (ci := 0) (R := RX0) (T := TX0) (N := 6) (ty0 := tyX0) (fs := [.null, .null, .null, .null, .int 0, .int 0]) rfl inWX0 tyX0_ok (mA1 (i := 129) rfl rfl) (mA1 (i := 23) rfl rfl) (mA1 (i := 2) rfl rfl) (fun j hj => by rcases (show j = 0 ∨ j = 1 ∨ j = 2 ∨ j = 3 ∨ j = 4 ∨ j = 5 by omega) with rfl | rfl | rfl | rfl | rfl | rfl <;> rfl) (Nat.le_of_ble_eq_true rfl) (Nat.le_of_ble_eq_true rfl) dX3_init_27 (fun H hG hS => ?_)
  refine lv_dup hx hb dX3_init_30 rfl ?_
  refine c_runN (n := a + 27) (n' := a + 40) C (k_X0_init l D cy z (kd3_27 ha) rfl _) hG hS (by unfold nestW; simp) (mA1 (i := 2) rfl rfl) (mA1 (i := 25) rfl rfl) (mA1 (i := 26) rfl rfl) rfl ⟨by decide +kernel, by decide +kernel, by decide +kernel⟩ ⟨(Nat.le_of_ble_eq_true rfl), (Nat.le_of_ble_eq_true rfl)⟩ (Nat.le_of_ble_eq_true rfl) hl.1 ⟨(Nat.le_of_ble_eq_true rfl), (Nat.le_of_ble_eq_true rfl)⟩ dX3_init_31 (fun H locs hG hS => ?_)
  have hG := hG.up (by omega)
  refine c_putF (I := (IN z cy)) C hG hS (by omega) (N := 6) (j := 2) (ty := tyX3 2) rfl inWX3 tyX3_ok nmX3 (by decide) rfl rfl hmn rfl (tyX3_ok 2 (by decide)) rfl rfl (mA1 (i := 133) rfl rfl) (by show 2 < 6; decide) dX3_init_34 (fun H locs hG hS => ?_)
  refine lv_aload_n hx hb dX3_init_37 rfl (lv_at hl 0 rfl) ?_
  refine c_new (n := a + 40) C hG hS (ci := 0) (R := RX0) (T := TX0) (N := 6) (ty0 := tyX0) (fs := [.null, .null, .null, .null, .int 0, .int 0]) rfl inWX0 tyX0_ok (mA1 (i := 129) rfl rfl) (mA1 (i := 23) rfl rfl) (mA1 (i := 2) rfl rfl) (fun j hj => by rcases (show j = 0 ∨ j = 1 ∨ j = 2 ∨ j = 3 ∨ j = 4 ∨ j = 5 by omega) with rfl | rfl | rfl | rfl | rfl | rfl <;> rfl) (Nat.le_of_ble_eq_true rfl) (Nat.le_of_ble_eq_true rfl) dX3_init_38 (fun H hG hS => ?_)
  refine lv_dup hx hb dX3_init_41 rfl ?_
  refine c_runN (n := a + 40) (n' := a + 53) C (k_X0_init l D cy z (kd3_40 ha) rfl _) hG hS (by unfold nestW; simp) (mA1 (i := 2) rfl rfl) (mA1 (i := 25) rfl rfl) (mA1 (i := 26) rfl rfl) rfl ⟨by decide +kernel, by decide +kernel, by decide +kernel⟩ ⟨(Nat.le_of_ble_eq_true rfl), (Nat.le_of_ble_eq_true rfl)⟩ (Nat.le_of_ble_eq_true rfl) hl.1 ⟨(Nat.le_of_ble_eq_true rfl), (Nat.le_of_ble_eq_true rfl)⟩ dX3_init_42 (fun H locs hG hS => ?_)
  have hG := hG.up (by omega)
  refine c_putF (I := (IN z cy)) C hG hS (by omega) (N := 6) (j := 3) (ty := tyX3 3) rfl inWX3 tyX3_ok nmX3 (by decide) rfl rfl hmn rfl (tyX3_ok 3 (by decide)) rfl rfl (mA1 (i := 134) rfl rfl) (by show 3 < 6; decide) dX3_init_45 (fun H locs hG hS => ?_)
  exact c_ret C hG hS (fun k _ => congrArg (fun x => cut (IN z cy) a x F k) (by rw [IN, ent_3 ha]; simp [sg0_n (show kd a ≠ 0 by rw [ha]; decide)])) dX3_init_48
set_option maxHeartbeats 4000000 in
set_option maxRecDepth 100000 in
theorem k_X2_init (l : Launch) (D : va_G) (cy : Nat → ClassId) (z : Nat) {a n9 : Nat} (ha : kd a = 2) (hn9 : n9 = a + 2) (F : Nat → va_E) : KC l yX2_init cX2_init 1 12 1 80 D cy z a n9 (.inr (2, [.null, .int 0])) F := by
  subst hn9
  refine metC_of RX2 (plainFor_of_name (by decide)) rfl ?_
  intro p e s m args below meth c C hmn hG hS hz ls hl
  obtain ⟨hx, hb, hr, hml, hown, hW, hlocks, hAm⟩ := id C
  refine lv_aload_n hx hb dX2_init_0 rfl (lv_at hl 0 rfl) ?_
  refine W.objInit hx hb hown (hW _ (mA1 (i := 155) rfl rfl)) (hW _ (mA1 (i := 20) rfl rfl)) (hW _ (mA1 (i := 21) rfl rfl)) rfl (by rw [hml]; exact hl.1) rfl dX2_init_1 (Nat.le_of_ble_eq_true rfl) (Nat.le_of_ble_eq_true rfl) ?_
  refine W.eq (g2 := F0 m 4 ls []) rfl ?_
  refine lv_aload_n hx hb dX2_init_4 rfl (lv_at hl 0 rfl) ?_
  refine lv_bipush (v := 80) hx hb dX2_init_5 (by decide) ?_
  refine c_newa (n := a + 1) (I := (IN z cy)) C hG hS (at0 := .char) (ty := .char) (mA1 (i := 162) rfl rfl) rfl (t0 := 1) (N := 80) (x := ((80, .inl (fun _ => 0)) : vp_A)) rfl (fun q => q) rfl (by decide) rfl (Nat.le_of_ble_eq_true rfl) (Nat.le_of_ble_eq_true rfl) (Nat.le_of_ble_eq_true rfl) dX2_init_7 (fun H hG hS => ?_)
  have hI : IN z cy (a + 1) = .inl (cy 1, ((80, .inl (fun _ => 0)) : vp_A)) := by
    rw [IN, ent_8 (kd2_1 ha)]
    rw [show (fun i => chr (sg0 (a + 1) i)) = (fun _ => 0 : Nat → Int32) from funext fun b => by rw [sg0_n (by rw [kd2_1 ha]; decide)]; rfl]
  rw [← hI] at hG
  have hG := hG.up (by omega)
  refine c_putF (I := (IN z cy)) C hG hS (by omega) (N := 2) (j := 0) (ty := tyX2 0) rfl inWX2 tyX2_ok nmX2 (by decide) rfl rfl hmn rfl (tyX2_ok 0 (by decide)) rfl rfl (mA1 (i := 156) rfl rfl) (by show 0 < 2; decide) dX2_init_9 (fun H locs hG hS => ?_)
  exact c_ret C hG hS (fun k _ => congrArg (fun x => cut (IN z cy) a x F k) (by rw [IN, ent_2 ha]; simp [sg0_n (show kd a ≠ 0 by rw [ha]; decide)])) dX2_init_12
set_option maxHeartbeats 4000000 in
set_option maxRecDepth 100000 in
theorem k_X5_init (l : Launch) (D : va_G) (cy : Nat → ClassId) (z : Nat) {a n9 : Nat} (ha : kd a = 5) (hn9 : n9 = a + 95) (F : Nat → va_E) : KC l yX5_init cX5_init 5 92 94 1894 D cy z a n9 (.inr (5, [.null, .null, .null, .null, .null, .int 0])) F := by
  subst hn9
  refine metC_of RX5 (plainFor_of_name (by decide)) rfl ?_
  intro p e s m args below meth c C hmn hG hS hz ls hl
  obtain ⟨hx, hb, hr, hml, hown, hW, hlocks, hAm⟩ := id C
  refine lv_aload_n hx hb dX5_init_0 rfl (lv_at hl 0 rfl) ?_
  refine W.objInit hx hb hown (hW _ (mA1 (i := 19) rfl rfl)) (hW _ (mA1 (i := 20) rfl rfl)) (hW _ (mA1 (i := 21) rfl rfl)) rfl (by rw [hml]; exact hl.1) rfl dX5_init_1 (Nat.le_of_ble_eq_true rfl) (Nat.le_of_ble_eq_true rfl) ?_
  refine W.eq (g2 := F0 m 4 ls []) rfl ?_
  refine lv_aload_n hx hb dX5_init_4 rfl (lv_at hl 0 rfl) ?_
  refine c_new (n := a + 1) C hG hS (ci := 0) (R := RX0) (T := TX0) (N := 6) (ty0 := tyX0) (fs := [.null, .null, .null, .null, .int 0, .int 0]) rfl inWX0 tyX0_ok (mA1 (i := 22) rfl rfl) (mA1 (i := 23) rfl rfl) (mA1 (i := 2) rfl rfl) (fun j hj => by rcases (show j = 0 ∨ j = 1 ∨ j = 2 ∨ j = 3 ∨ j = 4 ∨ j = 5 by omega) with rfl | rfl | rfl | rfl | rfl | rfl <;> rfl) (Nat.le_of_ble_eq_true rfl) (Nat.le_of_ble_eq_true rfl) dX5_init_5 (fun H hG hS => ?_)
  refine lv_dup hx hb dX5_init_8 rfl ?_
  refine c_runN (n := a + 1) (n' := a + 14) C (k_X0_init l D cy z (kd5_1 ha) rfl _) hG hS (by unfold nestW; simp) (mA1 (i := 2) rfl rfl) (mA1 (i := 25) rfl rfl) (mA1 (i := 26) rfl rfl) rfl ⟨by decide +kernel, by decide +kernel, by decide +kernel⟩ ⟨(Nat.le_of_ble_eq_true rfl), (Nat.le_of_ble_eq_true rfl)⟩ (Nat.le_of_ble_eq_true rfl) hl.1 ⟨(Nat.le_of_ble_eq_true rfl), (Nat.le_of_ble_eq_true rfl)⟩ dX5_init_9 (fun H locs hG hS => ?_)
  have hG := hG.up (by omega)
  refine c_putF (I := (IN z cy)) C hG hS (by omega) (N := 6) (j := 0) (ty := tyX5 0) rfl inWX5 tyX5_ok nmX5 (by decide) rfl rfl hmn rfl (tyX5_ok 0 (by decide)) rfl rfl (mA1 (i := 163) rfl rfl) (by show 0 < 6; decide) dX5_init_12 (fun H locs hG hS => ?_)
  refine lv_aload_n hx hb dX5_init_15 rfl (lv_at hl 0 rfl) ?_
  refine c_new (n := a + 14) C hG hS (ci := 0) (R := RX0) (T := TX0) (N := 6) (ty0 := tyX0) (fs := [.null, .null, .null, .null, .int 0, .int 0]) rfl inWX0 tyX0_ok (mA1 (i := 22) rfl rfl) (mA1 (i := 23) rfl rfl) (mA1 (i := 2) rfl rfl) (fun j hj => by rcases (show j = 0 ∨ j = 1 ∨ j = 2 ∨ j = 3 ∨ j = 4 ∨ j = 5 by omega) with rfl | rfl | rfl | rfl | rfl | rfl <;> rfl) (Nat.le_of_ble_eq_true rfl) (Nat.le_of_ble_eq_true rfl) dX5_init_16 (fun H hG hS => ?_)
  refine lv_dup hx hb dX5_init_19 rfl ?_
  refine c_runN (n := a + 14) (n' := a + 27) C (k_X0_init l D cy z (kd5_14 ha) rfl _) hG hS (by unfold nestW; simp) (mA1 (i := 2) rfl rfl) (mA1 (i := 25) rfl rfl) (mA1 (i := 26) rfl rfl) rfl ⟨by decide +kernel, by decide +kernel, by decide +kernel⟩ ⟨(Nat.le_of_ble_eq_true rfl), (Nat.le_of_ble_eq_true rfl)⟩ (Nat.le_of_ble_eq_true rfl) hl.1 ⟨(Nat.le_of_ble_eq_true rfl), (Nat.le_of_ble_eq_true rfl)⟩ dX5_init_20 (fun H locs hG hS => ?_)
  have hG := hG.up (by omega)
  refine c_putF (I := (IN z cy)) C hG hS (by omega) (N := 6) (j := 1) (ty := tyX5 1) rfl inWX5 tyX5_ok nmX5 (by decide) rfl rfl hmn rfl (tyX5_ok 1 (by decide)) rfl rfl (mA1 (i := 164) rfl rfl) (by show 1 < 6; decide) dX5_init_23 (fun H locs hG hS => ?_)
  refine lv_aload_n hx hb dX5_init_26 rfl (lv_at hl 0 rfl) ?_
  refine c_new (n := a + 27) C hG hS (ci := 0) (R := RX0) (T := TX0) (N := 6) (ty0 := tyX0) (fs := [.null, .null, .null, .null, .int 0, .int 0]) rfl inWX0 tyX0_ok (mA1 (i := 22) rfl rfl) (mA1 (i := 23) rfl rfl) (mA1 (i := 2) rfl rfl) (fun j hj => by rcases (show j = 0 ∨ j = 1 ∨ j = 2 ∨ j = 3 ∨ j = 4 ∨ j = 5 by omega) with rfl | rfl | rfl | rfl | rfl | rfl <;> rfl) (Nat.le_of_ble_eq_true rfl) (Nat.le_of_ble_eq_true rfl) dX5_init_27 (fun H hG hS => ?_)
  refine lv_dup hx hb dX5_init_30 rfl ?_
  refine c_runN (n := a + 27) (n' := a + 40) C (k_X0_init l D cy z (kd5_27 ha) rfl _) hG hS (by unfold nestW; simp) (mA1 (i := 2) rfl rfl) (mA1 (i := 25) rfl rfl) (mA1 (i := 26) rfl rfl) rfl ⟨by decide +kernel, by decide +kernel, by decide +kernel⟩ ⟨(Nat.le_of_ble_eq_true rfl), (Nat.le_of_ble_eq_true rfl)⟩ (Nat.le_of_ble_eq_true rfl) hl.1 ⟨(Nat.le_of_ble_eq_true rfl), (Nat.le_of_ble_eq_true rfl)⟩ dX5_init_31 (fun H locs hG hS => ?_)
  have hG := hG.up (by omega)
  refine c_putF (I := (IN z cy)) C hG hS (by omega) (N := 6) (j := 2) (ty := tyX5 2) rfl inWX5 tyX5_ok nmX5 (by decide) rfl rfl hmn rfl (tyX5_ok 2 (by decide)) rfl rfl (mA1 (i := 165) rfl rfl) (by show 2 < 6; decide) dX5_init_34 (fun H locs hG hS => ?_)
  refine lv_aload_n hx hb dX5_init_37 rfl (lv_at hl 0 rfl) ?_
  refine c_new (n := a + 40) C hG hS (ci := 3) (R := RX3) (T := TX3) (N := 6) (ty0 := tyX3) (fs := [.null, .null, .null, .null, .int 0, .int 0]) rfl inWX3 tyX3_ok (mA1 (i := 123) rfl rfl) (mA1 (i := 124) rfl rfl) (mA1 (i := 5) rfl rfl) (fun j hj => by rcases (show j = 0 ∨ j = 1 ∨ j = 2 ∨ j = 3 ∨ j = 4 ∨ j = 5 by omega) with rfl | rfl | rfl | rfl | rfl | rfl <;> rfl) (Nat.le_of_ble_eq_true rfl) (Nat.le_of_ble_eq_true rfl) dX5_init_38 (fun H hG hS => ?_)
  refine lv_dup hx hb dX5_init_41 rfl ?_
  refine c_runN (n := a + 40) (n' := a + 93) C (k_X3_init l D cy z (kd5_40 ha) rfl _) hG hS (by unfold nestW; simp) (mA1 (i := 5) rfl rfl) (mA1 (i := 126) rfl rfl) (mA1 (i := 127) rfl rfl) rfl ⟨by decide +kernel, by decide +kernel, by decide +kernel⟩ ⟨(Nat.le_of_ble_eq_true rfl), (Nat.le_of_ble_eq_true rfl)⟩ (Nat.le_of_ble_eq_true rfl) hl.1 ⟨(Nat.le_of_ble_eq_true rfl), (Nat.le_of_ble_eq_true rfl)⟩ dX5_init_42 (fun H locs hG hS => ?_)
  have hG := hG.up (by omega)
  refine c_putF (I := (IN z cy)) C hG hS (by omega) (N := 6) (j := 3) (ty := tyX5 3) rfl inWX5 tyX5_ok nmX5 (by decide) rfl rfl hmn rfl (tyX5_ok 3 (by decide)) rfl rfl (mA1 (i := 166) rfl rfl) (by show 3 < 6; decide) dX5_init_45 (fun H locs hG hS => ?_)
  refine lv_aload_n hx hb dX5_init_48 rfl (lv_at hl 0 rfl) ?_
  refine c_new (n := a + 93) C hG hS (ci := 2) (R := RX2) (T := TX2) (N := 2) (ty0 := tyX2) (fs := [.null, .int 0]) rfl inWX2 tyX2_ok (mA1 (i := 150) rfl rfl) (mA1 (i := 151) rfl rfl) (mA1 (i := 6) rfl rfl) (fun j hj => by rcases (show j = 0 ∨ j = 1 by omega) with rfl | rfl <;> rfl) (Nat.le_of_ble_eq_true rfl) (Nat.le_of_ble_eq_true rfl) dX5_init_49 (fun H hG hS => ?_)
  refine lv_dup hx hb dX5_init_52 rfl ?_
  refine c_runN (n := a + 93) (n' := a + 95) C (k_X2_init l D cy z (kd5_93 ha) rfl _) hG hS (by unfold nestW; simp) (mA1 (i := 6) rfl rfl) (mA1 (i := 153) rfl rfl) (mA1 (i := 154) rfl rfl) rfl ⟨by decide +kernel, by decide +kernel, by decide +kernel⟩ ⟨(Nat.le_of_ble_eq_true rfl), (Nat.le_of_ble_eq_true rfl)⟩ (Nat.le_of_ble_eq_true rfl) hl.1 ⟨(Nat.le_of_ble_eq_true rfl), (Nat.le_of_ble_eq_true rfl)⟩ dX5_init_53 (fun H locs hG hS => ?_)
  have hG := hG.up (by omega)
  refine c_putF (I := (IN z cy)) C hG hS (by omega) (N := 6) (j := 4) (ty := tyX5 4) rfl inWX5 tyX5_ok nmX5 (by decide) rfl rfl hmn rfl (tyX5_ok 4 (by decide)) rfl rfl (mA1 (i := 167) rfl rfl) (by show 4 < 6; decide) dX5_init_56 (fun H locs hG hS => ?_)
  exact c_ret C hG hS (fun k _ => congrArg (fun x => cut (IN z cy) a x F k) (by rw [IN, ent_5 ha]; simp [sg0_n (show kd a ≠ 0 by rw [ha]; decide)])) dX5_init_59

/-! the law's loop, from its start to its end -/
theorem gn0 : GN 0 sg0 := by
  refine ⟨fun j hj => ⟨fun _ _ => 0, 0, Or.inl (sg0_m (by decide)), Or.inr (Or.inl (sg0_m (by decide))), ?_, ?_, 0, by omega, by omega, sg0_m (by decide), sg0_m (by decide), fun i hi => absurd hi (by omega), fun i hi => absurd hi (by omega)⟩, Or.inl (sg0_m (by decide)), ⟨6, by omega, by omega, sg0_5 rfl⟩, fun q hq => ⟨0, by omega, sg0_m (by decide)⟩⟩
  · rw [sg0_m (b := 4) (by decide), sg0_n (b := 5) (by rw [kd_sn hj]; decide), sg0_m (b := 6) (by decide), sg0_m (b := 7) (by decide), sg0_m (b := 2) (by decide)]
    decide
  · unfold AC
    rw [sg0_m (b := 9) (by decide), sg0_m (b := 10) (by decide), sg0_m (b := 11) (by decide), sg0_m (b := 2) (by decide)]
    decide
theorem lowN_4 {v : Int32} {n : Nat} (h1 : 1 ≤ n) (h2 : n ≤ 4) : lowN v n < 4 := by
  have : lowN v n < n := Nat.mod_lt _ h1
  omega
section Law
variable {p : Program} {l : Launch} {e : Env} {s : State} {m : MethodId} {b L : Nat} {xs : Nat → Int32} {below : List Frame} {meth : Method} {c : Code} {Q : State → Prop} {D : va_G} {cy : Nat → ClassId} {z : Nat}
abbrev LBd (p : Program) (s : State) (m : MethodId) (b : Nat) (meth : Method) (c : Code) (D : va_G) (cy : Nat → ClassId) (z : Nat) : Prop := Bd p s m #[Value.ref b] meth c cL_law 5 (some .boolean) RL D cy z
set_option maxHeartbeats 4000000 in
set_option maxRecDepth 100000 in
theorem law_loop (C : LBd p s m b meth c D cy z) (hfl : l.stackTraces = false) (hX : va_X b L xs s s.heap) (hbl : b < s.heap.size) (hbz : b < z) (hL : L ≤ 260) (hend : ∀ (H : Heap) (locs : List Loc) (ls : Array Slot), va_S (fz z) s.heap H locs → W p l e room_1 s m #[Value.ref b] below meth c H locs 95 1900 Q (F0 m 79 ls [])) : ∀ (r n : Nat) (σ : Sg) (H : Heap) (locs : List Loc) (ls : Array Slot), n + r = 52 → GN (200000 * n) σ → WP D cy z σ ta0 0 0 H → va_S (fz z) s.heap H locs → lv_has ls 5 [(0, .ref b), (1, .ref (z + 0)), (2, .int (nI n))] → W p l e room_1 s m #[Value.ref b] below meth c H locs 95 1900 Q (F0 m 10 ls []) := by
  obtain ⟨hx, hb, hr, hml, hown, hW, hlocks, hAm⟩ := id C
  intro r
  induction r with
  | zero =>
    intro n σ H locs ls hn hG hP hS hl
    refine lv_iload_n hx hb dL_law_10 rfl (lv_at hl 2 rfl) ?_
    refine lv_bipush (v := 52) hx hb dL_law_11 (by decide) ?_
    refine lv_icmp_ge (tgt := 79) hx hb dL_law_13 (by decide) (fun c_13 => hend H locs ls hS) (fun c_13 => ?_)
    exact absurd ((cI_le (x := 52) (y := nI n) (a := 52) (b := n) rfl rfl (by omega) (by omega)).mpr (by omega)) c_13
  | succ r ih =>
    intro n σ H locs ls hn hG hP hS hl
    refine lv_iload_n hx hb dL_law_10 rfl (lv_at hl 2 rfl) ?_
    refine lv_bipush (v := 52) hx hb dL_law_11 (by decide) ?_
    refine lv_icmp_ge (tgt := 79) hx hb dL_law_13 (by decide) (fun c_13 => ?_) (fun c_13 => ?_)
    · exact absurd ((cI_le (x := 52) (y := nI n) (a := 52) (b := n) rfl rfl (by omega) (by omega)).mp c_13) (by omega)
    · refine lv_aload_n hx hb dL_law_16 rfl (lv_at hl 0 rfl) ?_
      refine lv_iload_n hx hb dL_law_17 rfl (lv_at hl 2 rfl) ?_
      refine thn_I (run_X (As := [.ref b, .int (nI n)]) (rest := []) C hX hbl hbz (k_L_cell l D cy z 0 0 σ ta0 (nI n) (by rw [nI_int (by omega)]; omega) hL) hP hS cw_L_cell (mA1 (i := 181) rfl rfl) ⟨rfl, rfl⟩ ⟨(Nat.le_of_ble_eq_true rfl), (Nat.le_of_ble_eq_true rfl)⟩ rfl (Nat.le_of_ble_eq_true rfl) hl.1 ⟨(Nat.le_of_ble_eq_true rfl), (Nat.le_of_ble_eq_true rfl)⟩ dL_law_18) hS (fun H locs hP hS => ?_)
      refine lv_istore_n (lv' := [(3, .int (clF xs L (nI n))), (0, .ref b), (1, .ref (z + 0)), (2, .int (nI n))]) hx hb dL_law_21 rfl hl (by decide) rfl (fun ls hl => ?_)
      refine lv_aload_n hx hb dL_law_22 rfl (lv_at hl 1 rfl) ?_
      refine lv_iload_n hx hb dL_law_23 rfl (lv_at hl 3 rfl) ?_
      refine lv_bipush (v := 12) hx hb dL_law_24 (by decide) ?_
      refine lv_iadd hx hb dL_law_26 ?_
      rw [show nI n + 12 = nI (n + 12) from nI_add n 12]
      refine thn_I (run_X (As := [.ref b, .int (nI (n + 12))]) (rest := []) C hX hbl hbz (k_L_cell l D cy z 0 0 σ ta0 (nI (n + 12)) (by rw [nI_int (by omega)]; omega) hL) hP hS cw_L_cell (mA1 (i := 181) rfl rfl) ⟨rfl, rfl⟩ ⟨(Nat.le_of_ble_eq_true rfl), (Nat.le_of_ble_eq_true rfl)⟩ rfl (Nat.le_of_ble_eq_true rfl) hl.1 ⟨(Nat.le_of_ble_eq_true rfl), (Nat.le_of_ble_eq_true rfl)⟩ dL_law_27) hS (fun H locs hP hS => ?_)
      refine lv_istore (lv' := [(4, .int (clF xs L (nI (n + 12)))), (3, .int (clF xs L (nI n))), (0, .ref b), (1, .ref (z + 0)), (2, .int (nI n))]) hx hb dL_law_30 hl (by decide) rfl (fun ls hl => ?_)
      obtain ⟨σ', hG', hK⟩ := does_all l hfl D cy z 0 0 ta0 (clF xs L (nI n)) (clF xs L (nI (n + 12))) hG (by omega)
      refine lv_aload_n hx hb dL_law_32 rfl (lv_at hl 3 rfl) ?_
      refine lv_iload_n hx hb dL_law_33 rfl (lv_at hl 1 rfl) ?_
      refine lv_iload hx hb dL_law_34 (lv_at hl 0 rfl) ?_
      refine thn_I (run_S (As := [.ref (z + 0), .int (clF xs L (nI n)), .int (clF xs L (nI (n + 12)))]) (rest := []) C hK hP hS cw_L_does (mA1 (i := 188) rfl rfl) ⟨rfl, rfl⟩ ⟨(Nat.le_of_ble_eq_true rfl), (Nat.le_of_ble_eq_true rfl)⟩ rfl (Nat.le_of_ble_eq_true rfl) hl.1 ⟨(Nat.le_of_ble_eq_true rfl), (Nat.le_of_ble_eq_true rfl)⟩ dL_law_36) hS (fun H locs hP hS => ?_)
      refine lv_if_eq (tgt := 71) hx hb dL_law_39 (by decide) (fun c_39 => absurd c_39 (by decide)) (fun _ => ?_)
      refine lv_aload_n hx hb dL_law_42 rfl (lv_at hl 3 rfl) ?_
      refine lv_iload_n hx hb dL_law_43 rfl (lv_at hl 1 rfl) ?_
      refine lv_iconst (v := 4) hx hb dL_law_44 (by decide) ?_
      refine lv_ishr hx hb dL_law_45 ?_
      refine lv_iconst (v := 3) hx hb dL_law_46 (by decide) ?_
      refine thnE_I (low_ok (clF xs L (nI n) >>> (4 &&& 31)) 3 (by decide) (by decide)).1 rfl (run_S (As := [.int (clF xs L (nI n) >>> (4 &&& 31)), .int 3]) (rest := [.ref (z + 0)]) C (k_L_low l D cy z 0 0 σ' ta0 (clF xs L (nI n) >>> (4 &&& 31)) 3 (by decide)) hP hS cw_L_low (mA1 (i := 184) rfl rfl) ⟨rfl, rfl⟩ ⟨(Nat.le_of_ble_eq_true rfl), (Nat.le_of_ble_eq_true rfl)⟩ rfl (Nat.le_of_ble_eq_true rfl) hl.1 ⟨(Nat.le_of_ble_eq_true rfl), (Nat.le_of_ble_eq_true rfl)⟩ dL_law_47) hS (fun H locs hP hS => ?_)
      refine thn_I (run_S (As := [.ref (z + 0), .int (nI (lowN (clF xs L (nI n) >>> (4 &&& 31)) 3))]) (rest := []) C (k_L_isSnailSo l hfl D cy z 0 0 ta0 hG' (lowN_4 (by decide) (by decide)) (by omega)) hP hS cw_L_isSnailSo (mA3 (i := 34) rfl rfl) ⟨rfl, rfl⟩ ⟨(Nat.le_of_ble_eq_true rfl), (Nat.le_of_ble_eq_true rfl)⟩ rfl (Nat.le_of_ble_eq_true rfl) hl.1 ⟨(Nat.le_of_ble_eq_true rfl), (Nat.le_of_ble_eq_true rfl)⟩ dL_law_50) hS (fun H locs hP hS => ?_)
      refine lv_if_eq (tgt := 71) hx hb dL_law_53 (by decide) (fun c_53 => absurd c_53 (by decide)) (fun _ => ?_)
      refine lv_aload_n hx hb dL_law_56 rfl (lv_at hl 3 rfl) ?_
      refine lv_iload hx hb dL_law_57 (lv_at hl 0 rfl) ?_
      refine lv_iconst (v := 2) hx hb dL_law_59 (by decide) ?_
      refine lv_ishr hx hb dL_law_60 ?_
      refine lv_iconst (v := 4) hx hb dL_law_61 (by decide) ?_
      refine thnE_I (low_ok (clF xs L (nI (n + 12)) >>> (2 &&& 31)) 4 (by decide) (by decide)).1 rfl (run_S (As := [.int (clF xs L (nI (n + 12)) >>> (2 &&& 31)), .int 4]) (rest := [.ref (z + 0)]) C (k_L_low l D cy z 0 0 σ' ta0 (clF xs L (nI (n + 12)) >>> (2 &&& 31)) 4 (by decide)) hP hS cw_L_low (mA1 (i := 184) rfl rfl) ⟨rfl, rfl⟩ ⟨(Nat.le_of_ble_eq_true rfl), (Nat.le_of_ble_eq_true rfl)⟩ rfl (Nat.le_of_ble_eq_true rfl) hl.1 ⟨(Nat.le_of_ble_eq_true rfl), (Nat.le_of_ble_eq_true rfl)⟩ dL_law_62) hS (fun H locs hP hS => ?_)
      refine thn_I (run_S (As := [.ref (z + 0), .int (nI (lowN (clF xs L (nI (n + 12)) >>> (2 &&& 31)) 4))]) (rest := []) C (k_L_isSnailSo l hfl D cy z 0 0 ta0 hG' (lowN_4 (by decide) (by decide)) (by omega)) hP hS cw_L_isSnailSo (mA3 (i := 34) rfl rfl) ⟨rfl, rfl⟩ ⟨(Nat.le_of_ble_eq_true rfl), (Nat.le_of_ble_eq_true rfl)⟩ rfl (Nat.le_of_ble_eq_true rfl) hl.1 ⟨(Nat.le_of_ble_eq_true rfl), (Nat.le_of_ble_eq_true rfl)⟩ dL_law_65) hS (fun H locs hP hS => ?_)
      refine lv_if_ne (tgt := 73) hx hb dL_law_68 (by decide) (fun _ => ?_) (fun c_68 => absurd c_68 (by decide))
      refine lv_iinc (v := nI (n + 1)) (lv' := [(2, .int (nI (n + 1))), (4, .int (clF xs L (nI (n + 12)))), (3, .int (clF xs L (nI n))), (0, .ref b), (1, .ref (z + 0))]) hx hb dL_law_73 hl (k := 4) rfl (nI_1 n) (by decide) rfl (fun ls hl => ?_)
      refine lv_goto (tgt := 10) hx hb dL_law_76 (by decide) ?_
      exact ih (n + 1) σ' H locs ls (by omega) (hG'.mono (by omega)) hP hS (lv_sub hl [3, 4, 0] rfl)
theorem GW.all {n a : Nat} {I : Nat → va_E} {H : Heap} (h : GW D z n (cut I a (I a) I) H) : GW D z n I H := h.cg fun k _ => by
  by_cases c1 : k < a
  · exact cut_lt c1
  · by_cases c2 : k = a
    · subst c2; exact cut_eq
    · exact cut_gt (by omega)
set_option maxHeartbeats 4000000 in
set_option maxRecDepth 100000 in
/-- from the law's entry to its end -/
theorem law_walk (C : LBd p s m b meth c D cy s.heap.size) (hfl : l.stackTraces = false) (hX : va_X b L xs s s.heap) (hbl : b < s.heap.size) (hL : L ≤ 260) (hend : ∀ (H : Heap) (locs : List Loc) (ls : Array Slot), va_S (fz s.heap.size) s.heap H locs → W p l e room_1 s m #[Value.ref b] below meth c H locs 95 1900 Q (F0 m 79 ls [])) {ls : Array Slot} (hl : lv_has ls 5 [(0, .ref b)]) : W p l e room_1 s m #[Value.ref b] below meth c s.heap [] 0 0 Q (F0 m 0 ls []) := by
  obtain ⟨hx, hb, hr, hml, hown, hW, hlocks, hAm⟩ := id C
  have hS : va_S (fz s.heap.size) s.heap s.heap [] := va_S.rf
  have hG : GW D s.heap.size 0 (IN s.heap.size cy) s.heap := ⟨rfl, fun k q hq => absurd (mwl_of hq).1 (Nat.not_lt_zero k)⟩
  have hbz : b < s.heap.size := hbl
  generalize hzz : s.heap.size = z at C hS hG hend hbz
  refine c_new (n := 0) C hG hS (ci := 5) (R := RX5) (T := TX5) (N := 6) (ty0 := tyX5) (fs := [.null, .null, .null, .null, .null, .int 0]) rfl inWX5 tyX5_ok (mA1 (i := 14) rfl rfl) (mA1 (i := 15) rfl rfl) (mA1 (i := 1) rfl rfl) (fun j hj => by rcases (show j = 0 ∨ j = 1 ∨ j = 2 ∨ j = 3 ∨ j = 4 ∨ j = 5 by omega) with rfl | rfl | rfl | rfl | rfl | rfl <;> rfl) (Nat.le_of_ble_eq_true rfl) (Nat.le_of_ble_eq_true rfl) dL_law_0 (fun H hG hS => ?_)
  refine lv_dup hx hb dL_law_3 rfl ?_
  refine c_runI (n := 0) (n' := 95) C (k_X5_init l D cy z (a := 0) rfl rfl _) hG hS (mA1 (i := 16) rfl rfl) (mA1 (i := 1) rfl rfl) (mA1 (i := 17) rfl rfl) (mA1 (i := 18) rfl rfl) rfl ⟨by decide +kernel, by decide +kernel, by decide +kernel⟩ ⟨(Nat.le_of_ble_eq_true rfl), (Nat.le_of_ble_eq_true rfl)⟩ (Nat.le_of_ble_eq_true rfl) hl.1 ⟨(Nat.le_of_ble_eq_true rfl), (Nat.le_of_ble_eq_true rfl)⟩ dL_law_4 (fun H locs hG hS => ?_)
  have hG := hG.all
  refine lv_astore_n (lv' := [(1, .ref (z + 0)), (0, .ref b)]) hx hb dL_law_7 rfl hl (by decide) rfl (fun ls hl => ?_)
  refine lv_iconst (v := 0) hx hb dL_law_8 (by decide) ?_
  refine lv_istore_n (lv' := [(2, .int 0), (1, .ref (z + 0)), (0, .ref b)]) hx hb dL_law_9 rfl hl (by decide) rfl (fun ls hl => ?_)
  exact law_loop C hfl hX hbl hbz hL hend 52 0 sg0 _ _ _ (by omega) gn0 hG.2 hS (lv_sub hl [2, 1, 0] rfl)
end Law

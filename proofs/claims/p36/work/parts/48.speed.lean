theorem cw_X1_speed : cwVt yX1_speed cX1_speed 4 (some .double) 1 0 := ⟨(mA3 (i := 57) rfl rfl), (mA3 (i := 58) rfl rfl), (mA1 (i := 4) rfl rfl), (mA3 (i := 59) rfl rfl), by decide +kernel, ⟨_, rfl, rfl⟩, by decide⟩
abbrev rm_X1_speed : Room := { frames := 3, cells := 0, slots := 0, locals := 65 }
def gf_X1_speed (σ : Sg) (k L : Nat) : Nat → Int32 → Int32 → Nat → UInt64
  | 0, _, _, _ => 0
  | n + 1, x1, x2, i =>
    if L ≤ i then
      if 1 ≤ x2 then
        FP.ddiv (FP.dmul 4652007308841189376 (FP.i2d x1)) (FP.i2d x2)
      else
        FP.dconst0
    else
      gf_X1_speed σ k L n (x1 + (f_X1_step σ k (nI i))) (x2 + (f_X1_spent σ k (nI i))) (i + 1)
set_option maxHeartbeats 4000000 in
set_option maxRecDepth 100000 in
theorem lp_X1_speed {p : Program} {l : Launch} {e : Env} {s : State} {m : MethodId} {args : Array Value} {below : List Frame} {meth : Method} {c : Code} {D : va_G} {cy : Nat → ClassId} {z : Nat} (C : Bd p s m args meth c cX1_speed 4 (some .double) RX1 D cy z) (o : Int64) (d : UInt64) {k : Nat} (hk : kd k = 1) (L : Nat) {r9 : UInt64} :
    ∀ (n : Nat) (x1 : Int32) (x2 : Int32) (i : Nat) (σ τ : Sg) (H : Heap) (locs : List Loc), (σ k 2 = nI L) → (L ≤ 16 ∧ i ≤ L ∧ L + 1 ≤ i + n) → (gf_X1_speed σ k L n x1 x2 i = r9) → WP D cy z σ τ o d H → va_S (fz z) s.heap H locs → ∀ ls : Array Slot, lv_has ls 4 [(0, .ref (z + k)), (1, .int x1), (2, .int x2), (3, .int (nI i))] → W p l e rm_X1_speed s m args below meth c H locs 0 0 (MQ below (PoD D cy z o d r9 σ τ) args s 0 0 (fz z)) (F0 m 6 ls []) := by
  obtain ⟨hx, hb, hr, hml, hown, hW, hlocks, hAm⟩ := id C
  intro n
  induction n with
  | zero =>
    intro _ _ _ σ τ H locs hL hn9 _ hP hS ls hl
    exact absurd hn9 (by omega)
  | succ n ih =>
    intro x1 x2 i σ τ H locs hL hn9 hr9 hP hS ls hl
    refine lv_iload_n hx hb dX1_speed_6 rfl (lv_at hl 3 rfl) ?_
    refine lv_aload_n hx hb dX1_speed_7 rfl (lv_at hl 0 rfl) ?_
    refine gf_X1_15 C hP hk dX1_speed_8 ?_
    rw [hL]
    refine lv_icmp_ge (tgt := 36) hx hb dX1_speed_11 (by decide) (fun c_11 => ?_) (fun c_11 => ?_)
    · have d_11 : L ≤ i := (cI_le rfl rfl (by omega) (by omega)).mp c_11
      refine lv_iload_n hx hb dX1_speed_36 rfl (lv_at hl 2 rfl) ?_
      refine lv_iconst (v := 1) hx hb dX1_speed_37 (by decide) ?_
      refine lv_icmp_ge (tgt := 45) hx hb dX1_speed_38 (by decide) (fun c_38 => ?_) (fun c_38 => ?_)
      · refine lv_ldc2d (v := 4652007308841189376) hx hb hown (hW _ (mA3 (i := 62) rfl rfl)) dX1_speed_45 ?_
        refine lv_iload_n hx hb dX1_speed_48 rfl (lv_at hl 1 rfl) ?_
        refine lv_i2d hx hb dX1_speed_49 ?_
        refine lv_dmul hx hb dX1_speed_50 (nn_mul _) ?_
        refine lv_iload_n hx hb dX1_speed_51 rfl (lv_at hl 2 rfl) ?_
        refine lv_i2d hx hb dX1_speed_52 ?_
        refine lv_ddiv hx hb dX1_speed_53 (nn_div1 (lt1_ne c_38)) ?_
        exact ret_D C hP hS (by rw [← hr9, gf_X1_speed]; rw [if_pos d_11, if_pos c_38]) rfl rfl dX1_speed_54
      · refine lv_dconst0 hx hb dX1_speed_41 ?_
        refine lv_goto (tgt := 54) hx hb dX1_speed_42 (by decide) ?_
        exact ret_D C hP hS (by rw [← hr9, gf_X1_speed]; rw [if_pos d_11, if_neg c_38]) rfl rfl dX1_speed_54
    · have d_11 : ¬ (L ≤ i) := fun h9 => c_11 ((cI_le rfl rfl (by omega) (by omega)).mpr h9)
      refine lv_iload_n hx hb dX1_speed_14 rfl (lv_at hl 1 rfl) ?_
      refine lv_aload_n hx hb dX1_speed_15 rfl (lv_at hl 0 rfl) ?_
      refine lv_iload_n hx hb dX1_speed_16 rfl (lv_at hl 3 rfl) ?_
      refine thn_I (run_V (As := [.int (nI i)]) (rest := [.int x1]) C (k_X1_step l D cy z o d σ τ hk (nI i)) hP hS cw_X1_step (mA3 (i := 60) rfl rfl) hk ⟨rfl, rfl⟩ ⟨Nat.le_of_ble_eq_true rfl, Nat.le_of_ble_eq_true rfl⟩ rfl (Nat.le_of_ble_eq_true rfl) hl.1 ⟨Nat.zero_le _, Nat.zero_le _⟩ dX1_speed_17) hS (fun H locs hP hS => ?_)
      refine lv_iadd hx hb dX1_speed_20 ?_
      refine lv_istore_n (lv' := [(1, .int (x1 + (f_X1_step σ k (nI i)))), (0, .ref (z + k)), (2, .int x2), (3, .int (nI i))]) hx hb dX1_speed_21 rfl hl (by decide) rfl (fun ls hl => ?_)
      refine lv_iload_n hx hb dX1_speed_22 rfl (lv_at hl 2 rfl) ?_
      refine lv_aload_n hx hb dX1_speed_23 rfl (lv_at hl 1 rfl) ?_
      refine lv_iload_n hx hb dX1_speed_24 rfl (lv_at hl 3 rfl) ?_
      refine thn_I (run_V (As := [.int (nI i)]) (rest := [.int x2]) C (k_X1_spent l D cy z o d σ τ hk (nI i)) hP hS cw_X1_spent (mA3 (i := 61) rfl rfl) hk ⟨rfl, rfl⟩ ⟨Nat.le_of_ble_eq_true rfl, Nat.le_of_ble_eq_true rfl⟩ rfl (Nat.le_of_ble_eq_true rfl) hl.1 ⟨Nat.zero_le _, Nat.zero_le _⟩ dX1_speed_25) hS (fun H locs hP hS => ?_)
      refine lv_iadd hx hb dX1_speed_28 ?_
      refine lv_istore_n (lv' := [(2, .int (x2 + (f_X1_spent σ k (nI i)))), (1, .int (x1 + (f_X1_step σ k (nI i)))), (0, .ref (z + k)), (3, .int (nI i))]) hx hb dX1_speed_29 rfl hl (by decide) rfl (fun ls hl => ?_)
      refine lv_iinc (v := nI (i + 1)) (lv' := [(3, .int (nI (i + 1))), (2, .int (x2 + (f_X1_spent σ k (nI i)))), (1, .int (x1 + (f_X1_step σ k (nI i)))), (0, .ref (z + k))]) hx hb dX1_speed_30 hl (k := 3) rfl (nI_1 i) (by decide) rfl (fun ls hl => ?_)
      refine lv_goto (tgt := 6) hx hb dX1_speed_33 (by decide) ?_
      exact ih (x1 + (f_X1_step σ k (nI i))) (x2 + (f_X1_spent σ k (nI i))) (i + 1) σ τ _ _ hL (⟨by omega, by omega, by omega⟩) (by rw [← hr9, gf_X1_speed]; rw [if_neg d_11]) hP hS ls (lv_sub hl [3, 2, 1, 0] rfl)
def f_X1_speed (σ : Sg) (k : Nat) : UInt64 :=
  gf_X1_speed σ k (Ln σ k) 17 0 0 0
set_option maxHeartbeats 4000000 in
set_option maxRecDepth 100000 in
theorem k_X1_speed (l : Launch) (D : va_G) (cy : Nat → ClassId) (z : Nat) (o : Int64) (d : UInt64) (σ τ : Sg) {k : Nat} (hk : kd k = 1) (hG : LGA σ) : KD l yX1_speed cX1_speed 4 (some .double) rm_X1_speed D cy z [.ref (z + k)] o d σ τ (f_X1_speed σ k) σ τ := by
  refine met_of RX1 (plainFor_of_name (by decide)) rfl (Nat.le_of_ble_eq_true rfl) ?_
  intro p e s m args below meth c C hP hS ls hl
  obtain ⟨hx, hb, hr, hml, hown, hW, hlocks, hAm⟩ := id C
  have hl : lv_has ls 4 [(0, .ref (z + k))] := hl
  obtain ⟨hL, hL16⟩ := hG.of hk
  refine lv_iconst (v := 0) hx hb dX1_speed_0 (by decide) ?_
  refine lv_istore_n (lv' := [(1, .int 0), (0, .ref (z + k))]) hx hb dX1_speed_1 rfl hl (by decide) rfl (fun ls hl => ?_)
  refine lv_iconst (v := 0) hx hb dX1_speed_2 (by decide) ?_
  refine lv_istore_n (lv' := [(2, .int 0), (1, .int 0), (0, .ref (z + k))]) hx hb dX1_speed_3 rfl hl (by decide) rfl (fun ls hl => ?_)
  refine lv_iconst (v := 0) hx hb dX1_speed_4 (by decide) ?_
  refine lv_istore_n (lv' := [(3, .int 0), (2, .int 0), (1, .int 0), (0, .ref (z + k))]) hx hb dX1_speed_5 rfl hl (by decide) rfl (fun ls hl => ?_)
  exact lp_X1_speed C o d hk (Ln σ k) (17) 0 0 0 σ τ _ _ hL (⟨by omega, by omega, by omega⟩) rfl hP hS ls (lv_sub hl [3, 2, 1, 0] rfl)

theorem cw_X5_speedOf : cwVt yX5_speedOf cX5_speedOf 2 (some .double) 5 1 := ⟨(mA3 (i := 53) rfl rfl), (mA3 (i := 54) rfl rfl), (mA1 (i := 1) rfl rfl), (mA3 (i := 55) rfl rfl), by decide +kernel, ⟨_, rfl, rfl⟩, by decide⟩
def f_X5_speedOf (σ : Sg) (k : Nat) (x : Int32) : UInt64 :=
  if x_X5_snailNumbered σ k x = 0 then
    f_X1_speed σ (f_X5_snailNumbered σ k x + 1)
  else
    0
def x_X5_speedOf (σ : Sg) (k : Nat) (x : Int32) : Nat :=
  if x_X5_snailNumbered σ k x = 0 then
    0
  else
    x_X5_snailNumbered σ k x
set_option maxHeartbeats 4000000 in
set_option maxRecDepth 100000 in
theorem k_X5_speedOf (l : Launch) (hfl : l.stackTraces = false) (D : va_G) (cy : Nat → ClassId) (z : Nat) (o : Int64) (d : UInt64) (σ τ : Sg) {k : Nat} (hk : kd k = 5) (x : Int32) (hG : LGA σ) : KT l yX5_speedOf cX5_speedOf 2 (some .double) 7 103 D cy z [.ref (z + k), .int x] o d σ τ (x_X5_speedOf σ k x) (PoTD D cy z o d (x_X5_speedOf σ k x) (f_X5_speedOf σ k x) σ τ) σ τ := by
  refine metT_of RX5 (by decide) rfl (Nat.le_of_ble_eq_true rfl) ?_
  intro p e s m args below meth c C hno hP hS ls hl
  obtain ⟨hx, hb, hr, hml, hown, hW, hlocks, hAm⟩ := id C
  have hl : lv_has ls 2 [(0, .ref (z + k)), (1, .int x)] := hl
  refine lv_aload_n hx hb dX5_speedOf_0 rfl (lv_at hl 0 rfl) ?_
  refine lv_iload_n hx hb dX5_speedOf_1 rfl (lv_at hl 1 rfl) ?_
  by_cases c_2 : x_X5_snailNumbered σ k x = 0
  · refine okT_R c_2 (runT_V (As := [.int x]) (rest := []) C (k_X5_snailNumbered l hfl D cy z o d σ τ hk x) hP hS cw_X5_snailNumbered (mA1 (i := 198) rfl rfl) hk ⟨Nat.le_of_ble_eq_true rfl, Nat.le_of_ble_eq_true rfl⟩ rfl (Nat.le_of_ble_eq_true rfl) hl.1 (tcc_0 c_2 ⟨Nat.zero_le _, Nat.zero_le _⟩) dX5_speedOf_2) hS (fun H locs hP hS => ?_)
    refine gf_X5_181 C hP (kr_X5_snailNumbered σ hk x) dX5_speedOf_5 ?_
    refine thn_D (run_V (As := []) (rest := []) C (k_X1_speed l D cy z o d σ τ (kd4_1 (kr_X5_snailNumbered σ hk x)) hG) hP hS cw_X1_speed (mA3 (i := 56) rfl rfl) (kd4_1 (kr_X5_snailNumbered σ hk x)) ⟨rfl, rfl⟩ ⟨Nat.le_of_ble_eq_true rfl, Nat.le_of_ble_eq_true rfl⟩ rfl (Nat.le_of_ble_eq_true rfl) hl.1 ⟨Nat.zero_le _, Nat.zero_le _⟩ dX5_speedOf_8) hS (fun H locs hP hS => ?_)
    exact retT_D C hP hS (by unfold x_X5_speedOf; rw [if_pos c_2]) (by unfold f_X5_speedOf; rw [if_pos c_2]) rfl rfl dX5_speedOf_11
  · exact outT (runT_V (As := [.int x]) (rest := []) C (k_X5_snailNumbered l hfl D cy z o d σ τ hk x) hP hS cw_X5_snailNumbered (mA1 (i := 198) rfl rfl) hk ⟨Nat.le_of_ble_eq_true rfl, Nat.le_of_ble_eq_true rfl⟩ rfl (Nat.le_of_ble_eq_true rfl) hl.1 (tcc_e (by unfold x_X5_speedOf; rw [if_neg c_2])) dX5_speedOf_2) z_R c_2 (by unfold x_X5_speedOf; rw [if_neg c_2]) hno hlocks hS rfl rfl


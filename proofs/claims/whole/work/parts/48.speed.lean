theorem cw_X1_speed : cwVt yX1_speed cX1_speed 4 (some .double) 1 0 := ⟨(mA3 (i := 200) rfl rfl), (mA3 (i := 201) rfl rfl), (mA1 (i := 4) rfl rfl), (mA3 (i := 202) rfl rfl), by decide +kernel, ⟨_, rfl, rfl⟩, by decide⟩
abbrev rm_X1_speed : Room := { frames := 3, cells := 0, slots := 0, locals := 65 }
def gf_X1_speed (σ : Sg) (k L : Nat) : Nat → Int32 → Int32 → Nat → UInt64
  | 0, _, _, _ => 0
  | n + 1, x1, x2, i =>
    if L ≤ i then
      if 1 ≤ x2 then
        FP.ddiv (FP.dmul 4652007308841189376 (FP.i2d x1)) (FP.i2d x2)
      else
        FP.dconst0
    else
      gf_X1_speed σ k L n (x1 + (f_X1_step σ k (nI i))) (x2 + (f_X1_spent σ k (nI i))) (i + 1)
set_option maxHeartbeats 4000000 in
set_option maxRecDepth 100000 in
theorem lp_X1_speed {p : Program} {l : Launch} {e : Env} {s : State} {m : MethodId} {args : Array Value} {below : List Frame} {meth : Method} {c : Code} {D : va_G} {cy : Nat → ClassId} {z : Nat} (C : Bd p s m args meth c cX1_speed 4 (some .double) RX1 D cy z) (o : Int64) (d : UInt64) {k : Nat} (hk : kd k = 1) (L : Nat) {r9 : UInt64} :
    ∀ (n : Nat) (x1 : Int32) (x2 : Int32) (i : Nat) (σ τ : Sg) (H : Heap) (locs : List Loc), (σ k 2 = nI L) → (L ≤ 16 ∧ i ≤ L ∧ L + 1 ≤ i + n) → (gf_X1_speed σ k L n x1 x2 i = r9) → WP D cy z σ τ o d H → va_S (fz z) s.heap H locs → ∀ ls : Array Slot, lv_has ls 4 [(0, .ref (z + k)), (1, .int x1), (2, .int x2), (3, .int (nI i))] → W p l e rm_X1_speed s m args below meth c H locs 0 0 (MQ below (PoD D cy z o d r9 σ τ) args s 0 0 (fz z)) (F0 m 6 ls []) := by
  obtain ⟨hx, hb, hr, hml, hown, hW, hlocks, hAm⟩ := id C
  intro n
  induction n with
  | zero =>
    intro _ _ _ σ τ H locs hL hn9 _ hP hS ls hl
    exact absurd hn9 (by omega)
  | succ n ih =>
    intro x1 x2 i σ τ H locs hL hn9 hr9 hP hS ls hl
    refine lv_iload_n hx hb dX1_speed_6 rfl (lv_at hl 3 rfl) ?_
    refine lv_aload_n hx hb dX1_speed_7 rfl (lv_at hl 0 rfl) ?_
    refine gf_X1_15 C hP hk dX1_speed_8 ?_
    rw [hL]
    refine lv_icmp_ge (tgt := 36) hx hb dX1_speed_11 (by decide) (fun c_11 => ?_) (fun c_11 => ?_)
    · have d_11 : L ≤ i := (cI_le rfl rfl (by omega) (by omega)).mp c_11
      refine lv_iload_n hx hb dX1_speed_36 rfl (lv_at hl 2 rfl) ?_
      refine lv_iconst (v := 1) hx hb dX1_speed_37 (by decide) ?_
      refine lv_icmp_ge (tgt := 45) hx hb dX1_speed_38 (by decide) (fun c_38 => ?_) (fun c_38 => ?_)
      · refine lv_ldc2d (v := 4652007308841189376) hx hb hown (hW _ (mA3 (i := 205) rfl rfl)) dX1_speed_45 ?_
        refine lv_iload_n hx hb dX1_speed_48 rfl (lv_at hl 1 rfl) ?_
        refine lv_i2d hx hb dX1_speed_49 ?_
        refine lv_dmul hx hb dX1_speed_50 (nn_mul _) ?_
        refine lv_iload_n hx hb dX1_speed_51 rfl (lv_at hl 2 rfl) ?_
        refine lv_i2d hx hb dX1_speed_52 ?_
        refine lv_ddiv hx hb dX1_speed_53 (nn_div1 (lt1_ne c_38)) ?_
        exact ret_D C hP hS (by rw [← hr9, gf_X1_speed]; rw [if_pos d_11, if_pos c_38]) rfl rfl dX1_speed_54
      · refine lv_dconst0 hx hb dX1_speed_41 ?_
        refine lv_goto (tgt := 54) hx hb dX1_speed_42 (by decide) ?_
        exact ret_D C hP hS (by rw [← hr9, gf_X1_speed]; rw [if_pos d_11, if_neg c_38]) rfl rfl dX1_speed_54
    · have d_11 : ¬ (L ≤ i) := fun h9 => c_11 ((cI_le rfl rfl (by omega) (by omega)).mpr h9)
      refine lv_iload_n hx hb dX1_speed_14 rfl (lv_at hl 1 rfl) ?_
      refine lv_aload_n hx hb dX1_speed_15 rfl (lv_at hl 0 rfl) ?_
      refine lv_iload_n hx hb dX1_speed_16 rfl (lv_at hl 3 rfl) ?_
      refine thn_I (run_V (As := [.int (nI i)]) (rest := [.int x1]) C (k_X1_step l D cy z o d σ τ hk (nI i)) hP hS cw_X1_step (mA3 (i := 203) rfl rfl) hk ⟨rfl, rfl⟩ ⟨Nat.le_of_ble_eq_true rfl, Nat.le_of_ble_eq_true rfl⟩ rfl (Nat.le_of_ble_eq_true rfl) hl.1 ⟨Nat.zero_le _, Nat.zero_le _⟩ dX1_speed_17) hS (fun H locs hP hS => ?_)
      refine lv_iadd hx hb dX1_speed_20 ?_
      refine lv_istore_n (lv' := [(1, .int (x1 + (f_X1_step σ k (nI i)))), (0, .ref (z + k)), (2, .int x2), (3, .int (nI i))]) hx hb dX1_speed_21 rfl hl (by decide) rfl (fun ls hl => ?_)
      refine lv_iload_n hx hb dX1_speed_22 rfl (lv_at hl 2 rfl) ?_
      refine lv_aload_n hx hb dX1_speed_23 rfl (lv_at hl 1 rfl) ?_
      refine lv_iload_n hx hb dX1_speed_24 rfl (lv_at hl 3 rfl) ?_
      refine thn_I (run_V (As := [.int (nI i)]) (rest := [.int x2]) C (k_X1_spent l D cy z o d σ τ hk (nI i)) hP hS cw_X1_spent (mA3 (i := 204) rfl rfl) hk ⟨rfl, rfl⟩ ⟨Nat.le_of_ble_eq_true rfl, Nat.le_of_ble_eq_true rfl⟩ rfl (Nat.le_of_ble_eq_true rfl) hl.1 ⟨Nat.zero_le _, Nat.zero_le _⟩ dX1_speed_25) hS (fun H locs hP hS => ?_)
      refine lv_iadd hx hb dX1_speed_28 ?_
      refine lv_istore_n (lv' := [(2, .int (x2 + (f_X1_spent σ k (nI i)))), (1, .int (x1 + (f_X1_step σ k (nI i)))), (0, .ref (z + k)), (3, .int (nI i))]) hx hb dX1_speed_29 rfl hl (by decide) rfl (fun ls hl => ?_)
      refine lv_iinc (v := nI (i + 1)) (lv' := [(3, .int (nI (i + 1))), (2, .int (x2 + (f_X1_spent σ k (nI i)))), (1, .int (x1 + (f_X1_step σ k (nI i)))), (0, .ref (z + k))]) hx hb dX1_speed_30 hl (k := 3) rfl (nI_1 i) (by decide) rfl (fun ls hl => ?_)
      refine lv_goto (tgt := 6) hx hb dX1_speed_33 (by decide) ?_
      exact ih (x1 + (f_X1_step σ k (nI i))) (x2 + (f_X1_spent σ k (nI i))) (i + 1) σ τ _ _ hL (⟨by omega, by omega, by omega⟩) (by rw [← hr9, gf_X1_speed]; rw [if_neg d_11]) hP hS ls (lv_sub hl [3, 2, 1, 0] rfl)
def f_X1_speed (σ : Sg) (k : Nat) : UInt64 :=
  gf_X1_speed σ k (Ln σ k) 17 0 0 0
set_option maxHeartbeats 4000000 in
set_option maxRecDepth 100000 in
theorem k_X1_speed (l : Launch) (D : va_G) (cy : Nat → ClassId) (z : Nat) (o : Int64) (d : UInt64) (σ τ : Sg) {k : Nat} (hk : kd k = 1) (hG : LGA σ) : KD l yX1_speed cX1_speed 4 (some .double) rm_X1_speed D cy z [.ref (z + k)] o d σ τ (f_X1_speed σ k) σ τ := by
  refine met_of RX1 (plainFor_of_name (by decide)) rfl (Nat.le_of_ble_eq_true rfl) ?_
  intro p e s m args below meth c C hP hS ls hl
  obtain ⟨hx, hb, hr, hml, hown, hW, hlocks, hAm⟩ := id C
  have hl : lv_has ls 4 [(0, .ref (z + k))] := hl
  obtain ⟨hL, hL16⟩ := hG.of hk
  refine lv_iconst (v := 0) hx hb dX1_speed_0 (by decide) ?_
  refine lv_istore_n (lv' := [(1, .int 0), (0, .ref (z + k))]) hx hb dX1_speed_1 rfl hl (by decide) rfl (fun ls hl => ?_)
  refine lv_iconst (v := 0) hx hb dX1_speed_2 (by decide) ?_
  refine lv_istore_n (lv' := [(2, .int 0), (1, .int 0), (0, .ref (z + k))]) hx hb dX1_speed_3 rfl hl (by decide) rfl (fun ls hl => ?_)
  refine lv_iconst (v := 0) hx hb dX1_speed_4 (by decide) ?_
  refine lv_istore_n (lv' := [(3, .int 0), (2, .int 0), (1, .int 0), (0, .ref (z + k))]) hx hb dX1_speed_5 rfl hl (by decide) rfl (fun ls hl => ?_)
  exact lp_X1_speed C o d hk (Ln σ k) (17) 0 0 0 σ τ _ _ hL (⟨by omega, by omega, by omega⟩) rfl hP hS ls (lv_sub hl [3, 2, 1, 0] rfl)

theorem cw_X5_speedOf : cwVt yX5_speedOf cX5_speedOf 2 (some .double) 5 1 := ⟨(mA3 (i := 196) rfl rfl), (mA3 (i := 197) rfl rfl), (mA1 (i := 1) rfl rfl), (mA3 (i := 198) rfl rfl), by decide +kernel, ⟨_, rfl, rfl⟩, by decide⟩
def f_X5_speedOf (σ : Sg) (k : Nat) (x : Int32) : UInt64 :=
  if x_X5_snailNumbered σ k x = 0 then
    f_X1_speed σ (f_X5_snailNumbered σ k x + 1)
  else
    0
def x_X5_speedOf (σ : Sg) (k : Nat) (x : Int32) : Nat :=
  if x_X5_snailNumbered σ k x = 0 then
    0
  else
    x_X5_snailNumbered σ k x
set_option maxHeartbeats 4000000 in
set_option maxRecDepth 100000 in
theorem k_X5_speedOf (l : Launch) (hfl : l.stackTraces = false) (D : va_G) (cy : Nat → ClassId) (z : Nat) (o : Int64) (d : UInt64) (σ τ : Sg) {k : Nat} (hk : kd k = 5) (x : Int32) (hG : LGA σ) : KT l yX5_speedOf cX5_speedOf 2 (some .double) 7 103 D cy z [.ref (z + k), .int x] o d σ τ (x_X5_speedOf σ k x) (PoTD D cy z o d (x_X5_speedOf σ k x) (f_X5_speedOf σ k x) σ τ) σ τ := by
  refine metT_of RX5 (by decide) rfl (Nat.le_of_ble_eq_true rfl) ?_
  intro p e s m args below meth c C hno hP hS ls hl
  obtain ⟨hx, hb, hr, hml, hown, hW, hlocks, hAm⟩ := id C
  have hl : lv_has ls 2 [(0, .ref (z + k)), (1, .int x)] := hl
  refine lv_aload_n hx hb dX5_speedOf_0 rfl (lv_at hl 0 rfl) ?_
  refine lv_iload_n hx hb dX5_speedOf_1 rfl (lv_at hl 1 rfl) ?_
  by_cases c_2 : x_X5_snailNumbered σ k x = 0
  · refine okT_R c_2 (runT_V (As := [.int x]) (rest := []) C (k_X5_snailNumbered l hfl D cy z o d σ τ hk x) hP hS cw_X5_snailNumbered (mA2 (i := 25) rfl rfl) hk ⟨Nat.le_of_ble_eq_true rfl, Nat.le_of_ble_eq_true rfl⟩ rfl (Nat.le_of_ble_eq_true rfl) hl.1 (tcc_0 c_2 ⟨Nat.zero_le _, Nat.zero_le _⟩) dX5_speedOf_2) hS (fun H locs hP hS => ?_)
    refine gf_X5_181 C hP (kr_X5_snailNumbered σ hk x) dX5_speedOf_5 ?_
    refine thn_D (run_V (As := []) (rest := []) C (k_X1_speed l D cy z o d σ τ (kd4_1 (kr_X5_snailNumbered σ hk x)) hG) hP hS cw_X1_speed (mA3 (i := 199) rfl rfl) (kd4_1 (kr_X5_snailNumbered σ hk x)) ⟨rfl, rfl⟩ ⟨Nat.le_of_ble_eq_true rfl, Nat.le_of_ble_eq_true rfl⟩ rfl (Nat.le_of_ble_eq_true rfl) hl.1 ⟨Nat.zero_le _, Nat.zero_le _⟩ dX5_speedOf_8) hS (fun H locs hP hS => ?_)
    exact retT_D C hP hS (by unfold x_X5_speedOf; rw [if_pos c_2]) (by unfold f_X5_speedOf; rw [if_pos c_2]) rfl rfl dX5_speedOf_11
  · exact outT (runT_V (As := [.int x]) (rest := []) C (k_X5_snailNumbered l hfl D cy z o d σ τ hk x) hP hS cw_X5_snailNumbered (mA2 (i := 25) rfl rfl) hk ⟨Nat.le_of_ble_eq_true rfl, Nat.le_of_ble_eq_true rfl⟩ rfl (Nat.le_of_ble_eq_true rfl) hl.1 (tcc_e (by unfold x_X5_speedOf; rw [if_neg c_2])) dX5_speedOf_2) z_R c_2 (by unfold x_X5_speedOf; rw [if_neg c_2]) hno hlocks hS rfl rfl

theorem cw_X6_speedOf : cwVt yX6_speedOf cX6_speedOf 5 (some .double) 6 1 := ⟨(mA5 (i := 12) rfl rfl), (mA5 (i := 13) rfl rfl), (mA1 (i := 7) rfl rfl), (mA5 (i := 14) rfl rfl), by decide +kernel, ⟨_, rfl, rfl⟩, by decide⟩
abbrev rm_X6_speedOf_ok : Room := { frames := 2, cells := 0, slots := 0, locals := 43 }
def gf_X6_speedOf_ok (τ : Sg) (j L : Nat) : Nat → Int32 → Int32 → Nat → Sg → UInt64
  | 0, _, _, _, _ => 0
  | n + 1, x2, x3, i, τ =>
    if L ≤ i then
      FP.ddiv (FP.i2d (1000 * x2)) (FP.i2d x3)
    else
      gf_X6_speedOf_ok τ j L n (x2 + (f_X6_of τ j (9 + 3 * i))) (x3 + (f_X6_of τ j (9 + 3 * i + 1))) (i + 1) τ
def gt_X6_speedOf_ok (τ : Sg) (j L : Nat) : Nat → Int32 → Int32 → Nat → Sg → Sg
  | 0, _, _, _, τ => τ
  | n + 1, x2, x3, i, τ =>
    if L ≤ i then
      τ
    else
      gt_X6_speedOf_ok τ j L n (x2 + (f_X6_of τ j (9 + 3 * i))) (x3 + (f_X6_of τ j (9 + 3 * i + 1))) (i + 1) τ
set_option maxHeartbeats 4000000 in
set_option maxRecDepth 100000 in
theorem lp_X6_speedOf_ok {p : Program} {l : Launch} {e : Env} {s : State} {m : MethodId} {args : Array Value} {below : List Frame} {meth : Method} {c : Code} {D : va_G} {cy : Nat → ClassId} {z : Nat} (C : Bd p s m args meth c cX6_speedOf 5 (some .double) RX6 D cy z) (o : Int64) (d : UInt64) {k : Nat} (hk : kd k = 6) (j L : Nat) {r9 : UInt64} {τ9 : Sg} :
    ∀ (n : Nat) (x2 : Int32) (x3 : Int32) (i : Nat) (σ τ : Sg) (H : Heap) (locs : List Loc), (f_X6_of τ j 8 = nI L) → (∀ i, i < L → 1 ≤ (f_X6_of τ j (9 + 3 * i + 1)).toInt ∧ (f_X6_of τ j (9 + 3 * i + 1)).toInt ≤ 1000) → ((i : Int) ≤ x3.toInt ∧ x3.toInt ≤ 1000 * (i : Int)) → (j < 4 ∧ 1 ≤ L ∧ L ≤ 16 ∧ i ≤ L ∧ L + 1 ≤ i + n) → (gf_X6_speedOf_ok τ j L n x2 x3 i τ = r9) → (gt_X6_speedOf_ok τ j L n x2 x3 i τ = τ9) → WP D cy z σ τ o d H → va_S (fz z) s.heap H locs → ∀ ls : Array Slot, lv_has ls 5 [(0, .ref (z + k)), (1, .int (nI j)), (2, .int x2), (3, .int x3), (4, .int (nI i))] → W p l e rm_X6_speedOf_ok s m args below meth c H locs 0 0 (MQ below (PoD D cy z o d r9 σ τ9) args s 0 0 (fz z)) (F0 m 27 ls []) := by
  obtain ⟨hx, hb, hr, hml, hown, hW, hlocks, hAm⟩ := id C
  intro n
  induction n with
  | zero =>
    intro _ _ _ σ τ H locs hL hK hs9 hn9 _ _ hP hS ls hl
    exact absurd hn9 (by omega)
  | succ n ih =>
    intro x2 x3 i σ τ H locs hL hK hs9 hn9 hr9 ht9 hP hS ls hl
    refine lv_iload hx hb dX6_speedOf_27 (lv_at hl 4 rfl) ?_
    refine lv_aload_n hx hb dX6_speedOf_29 rfl (lv_at hl 0 rfl) ?_
    refine lv_iload_n hx hb dX6_speedOf_30 rfl (lv_at hl 1 rfl) ?_
    refine lv_bipush (v := 8) hx hb dX6_speedOf_31 (by decide) ?_
    refine thn_I (run_V (As := [.int (nI j), .int 8]) (rest := [.int (nI i)]) C (k_X6_of l D cy z o d σ τ hk j 8 (by omega)) hP hS cw_X6_of (mA4 (i := 60) rfl rfl) hk ⟨rfl, rfl⟩ ⟨Nat.le_of_ble_eq_true rfl, Nat.le_of_ble_eq_true rfl⟩ rfl (Nat.le_of_ble_eq_true rfl) hl.1 ⟨Nat.zero_le _, Nat.zero_le _⟩ dX6_speedOf_33) hS (fun H locs hP hS => ?_)
    rw [hL]
    refine lv_icmp_ge (tgt := 77) hx hb dX6_speedOf_36 (by decide) (fun c_36 => ?_) (fun c_36 => ?_)
    · have d_36 : L ≤ i := (cI_le rfl rfl (by omega) (by omega)).mp c_36
      refine lv_sipush (v := 1000) hx hb dX6_speedOf_77 (by decide) ?_
      refine lv_iload_n hx hb dX6_speedOf_80 rfl (lv_at hl 2 rfl) ?_
      refine lv_imul hx hb dX6_speedOf_81 ?_
      refine lv_i2d hx hb dX6_speedOf_82 ?_
      refine lv_iload_n hx hb dX6_speedOf_83 rfl (lv_at hl 3 rfl) ?_
      refine lv_i2d hx hb dX6_speedOf_84 ?_
      refine lv_ddiv hx hb dX6_speedOf_85 (nn_div2 (tk_ne d_36 (by omega) hs9.1)) ?_
      exact ret_D C hP hS (by rw [← hr9, gf_X6_speedOf_ok]; rw [if_pos d_36]) rfl (by rw [← ht9, gt_X6_speedOf_ok]; rw [if_pos d_36]) dX6_speedOf_86
    · have d_36 : ¬ (L ≤ i) := fun h9 => c_36 ((cI_le rfl rfl (by omega) (by omega)).mpr h9)
      refine lv_iload_n hx hb dX6_speedOf_39 rfl (lv_at hl 2 rfl) ?_
      refine lv_aload_n hx hb dX6_speedOf_40 rfl (lv_at hl 0 rfl) ?_
      refine lv_iload_n hx hb dX6_speedOf_41 rfl (lv_at hl 1 rfl) ?_
      refine lv_bipush (v := 9) hx hb dX6_speedOf_42 (by decide) ?_
      refine lv_iconst (v := 3) hx hb dX6_speedOf_44 (by decide) ?_
      refine lv_iload hx hb dX6_speedOf_45 (lv_at hl 4 rfl) ?_
      refine lv_imul hx hb dX6_speedOf_47 ?_
      refine lv_iadd hx hb dX6_speedOf_48 ?_
      rw [at_of]
      refine thn_I (run_V (As := [.int (nI j), .int (nI (9 + 3 * i))]) (rest := [.int x2]) C (k_X6_of l D cy z o d σ τ hk j (9 + 3 * i) (by omega)) hP hS cw_X6_of (mA4 (i := 60) rfl rfl) hk ⟨rfl, rfl⟩ ⟨Nat.le_of_ble_eq_true rfl, Nat.le_of_ble_eq_true rfl⟩ rfl (Nat.le_of_ble_eq_true rfl) hl.1 ⟨Nat.zero_le _, Nat.zero_le _⟩ dX6_speedOf_49) hS (fun H locs hP hS => ?_)
      refine lv_iadd hx hb dX6_speedOf_52 ?_
      refine lv_istore_n (lv' := [(2, .int (x2 + (f_X6_of τ j (9 + 3 * i)))), (0, .ref (z + k)), (1, .int (nI j)), (3, .int x3), (4, .int (nI i))]) hx hb dX6_speedOf_53 rfl hl (by decide) rfl (fun ls hl => ?_)
      refine lv_iload_n hx hb dX6_speedOf_54 rfl (lv_at hl 3 rfl) ?_
      refine lv_aload_n hx hb dX6_speedOf_55 rfl (lv_at hl 1 rfl) ?_
      refine lv_iload_n hx hb dX6_speedOf_56 rfl (lv_at hl 2 rfl) ?_
      refine lv_bipush (v := 9) hx hb dX6_speedOf_57 (by decide) ?_
      refine lv_iconst (v := 3) hx hb dX6_speedOf_59 (by decide) ?_
      refine lv_iload hx hb dX6_speedOf_60 (lv_at hl 4 rfl) ?_
      refine lv_imul hx hb dX6_speedOf_62 ?_
      refine lv_iadd hx hb dX6_speedOf_63 ?_
      rw [at_of]
      refine lv_iconst (v := 1) hx hb dX6_speedOf_64 (by decide) ?_
      refine lv_iadd hx hb dX6_speedOf_65 ?_
      rw [nI_1]
      refine thn_I (run_V (As := [.int (nI j), .int (nI (9 + 3 * i + 1))]) (rest := [.int x3]) C (k_X6_of l D cy z o d σ τ hk j (9 + 3 * i + 1) (by omega)) hP hS cw_X6_of (mA4 (i := 60) rfl rfl) hk ⟨rfl, rfl⟩ ⟨Nat.le_of_ble_eq_true rfl, Nat.le_of_ble_eq_true rfl⟩ rfl (Nat.le_of_ble_eq_true rfl) hl.1 ⟨Nat.zero_le _, Nat.zero_le _⟩ dX6_speedOf_66) hS (fun H locs hP hS => ?_)
      refine lv_iadd hx hb dX6_speedOf_69 ?_
      refine lv_istore_n (lv' := [(3, .int (x3 + (f_X6_of τ j (9 + 3 * i + 1)))), (2, .int (x2 + (f_X6_of τ j (9 + 3 * i)))), (0, .ref (z + k)), (1, .int (nI j)), (4, .int (nI i))]) hx hb dX6_speedOf_70 rfl hl (by decide) rfl (fun ls hl => ?_)
      refine lv_iinc (v := nI (i + 1)) (lv' := [(4, .int (nI (i + 1))), (3, .int (x3 + (f_X6_of τ j (9 + 3 * i + 1)))), (2, .int (x2 + (f_X6_of τ j (9 + 3 * i)))), (0, .ref (z + k)), (1, .int (nI j))]) hx hb dX6_speedOf_71 hl (k := 4) rfl (nI_1 i) (by decide) rfl (fun ls hl => ?_)
      refine lv_goto (tgt := 27) hx hb dX6_speedOf_74 (by decide) ?_
      exact ih (x2 + (f_X6_of τ j (9 + 3 * i))) (x3 + (f_X6_of τ j (9 + 3 * i + 1))) (i + 1) σ τ _ _ hL hK (tk_add hs9 (by omega) (hK i (by omega))) (⟨by omega, by omega, by omega, by omega, by omega⟩) (by rw [← hr9, gf_X6_speedOf_ok]; rw [if_neg d_36]) (by rw [← ht9, gt_X6_speedOf_ok]; rw [if_neg d_36]) hP hS ls (lv_sub hl [3, 4, 2, 1, 0] rfl)
def f_X6_speedOf_ok (τ : Sg) (j : Nat) : UInt64 :=
  if (f_X6_of (t_X6_isThere τ (nI j)) j 8) = 0 then
    FP.dconst0
  else
    gf_X6_speedOf_ok (t_X6_isThere τ (nI j)) j (MLn (t_X6_isThere τ (nI j)) j) 17 0 0 0 (t_X6_isThere τ (nI j))
def t_X6_speedOf_ok (τ : Sg) (j : Nat) : Sg :=
  if (f_X6_of (t_X6_isThere τ (nI j)) j 8) = 0 then
    t_X6_isThere τ (nI j)
  else
    gt_X6_speedOf_ok (t_X6_isThere τ (nI j)) j (MLn (t_X6_isThere τ (nI j)) j) 17 0 0 0 (t_X6_isThere τ (nI j))
set_option maxHeartbeats 4000000 in
set_option maxRecDepth 100000 in
theorem k_X6_speedOf_ok (l : Launch) (D : va_G) (cy : Nat → ClassId) (z : Nat) (o : Int64) (d : UInt64) (σ τ : Sg) {k : Nat} (hk : kd k = 6) (j : Nat) (hM : MI τ) (hj : j < 4) (hK : TKI τ j) : KD l yX6_speedOf cX6_speedOf 5 (some .double) rm_X6_speedOf_ok D cy z [.ref (z + k), .int (nI j)] o d σ τ (f_X6_speedOf_ok τ j) σ (t_X6_speedOf_ok τ j) := by
  refine met_of RX6 (plainFor_of_name (by decide)) rfl (Nat.le_of_ble_eq_true rfl) ?_
  intro p e s m args below meth c C hP hS ls hl
  obtain ⟨hx, hb, hr, hml, hown, hW, hlocks, hAm⟩ := id C
  have hl : lv_has ls 5 [(0, .ref (z + k)), (1, .int (nI j))] := hl
  have hb8 := ((hM.isT (x := nI j)).lnf hj).2
  refine lv_aload_n hx hb dX6_speedOf_0 rfl (lv_at hl 0 rfl) ?_
  refine lv_iload_n hx hb dX6_speedOf_1 rfl (lv_at hl 1 rfl) ?_
  refine thn_I (run_V (As := [.int (nI j)]) (rest := []) C (k_X6_isThere l D cy z o d σ τ hk (nI j)) hP hS cw_X6_isThere (mA4 (i := 45) rfl rfl) hk ⟨rfl, rfl⟩ ⟨Nat.le_of_ble_eq_true rfl, Nat.le_of_ble_eq_true rfl⟩ rfl (Nat.le_of_ble_eq_true rfl) hl.1 ⟨Nat.zero_le _, Nat.zero_le _⟩ dX6_speedOf_2) hS (fun H locs hP hS => ?_)
  refine lv_if_eq (tgt := 18) hx hb dX6_speedOf_5 (by decide) (fun c_5 => ?_) (fun c_5 => ?_)
  · exact absurd c_5 (isT_ne hj)
  · refine lv_aload_n hx hb dX6_speedOf_8 rfl (lv_at hl 0 rfl) ?_
    refine lv_iload_n hx hb dX6_speedOf_9 rfl (lv_at hl 1 rfl) ?_
    refine lv_bipush (v := 8) hx hb dX6_speedOf_10 (by decide) ?_
    refine thn_I (run_V (As := [.int (nI j), .int 8]) (rest := []) C (k_X6_of l D cy z o d σ (t_X6_isThere τ (nI j)) hk j 8 (by omega)) hP hS cw_X6_of (mA4 (i := 60) rfl rfl) hk ⟨rfl, rfl⟩ ⟨Nat.le_of_ble_eq_true rfl, Nat.le_of_ble_eq_true rfl⟩ rfl (Nat.le_of_ble_eq_true rfl) hl.1 ⟨Nat.zero_le _, Nat.zero_le _⟩ dX6_speedOf_12) hS (fun H locs hP hS => ?_)
    refine lv_if_ne (tgt := 20) hx hb dX6_speedOf_15 (by decide) (fun c_15 => ?_) (fun c_15 => ?_)
    · refine lv_iconst (v := 0) hx hb dX6_speedOf_20 (by decide) ?_
      refine lv_istore_n (lv' := [(2, .int 0), (0, .ref (z + k)), (1, .int (nI j))]) hx hb dX6_speedOf_21 rfl hl (by decide) rfl (fun ls hl => ?_)
      refine lv_iconst (v := 0) hx hb dX6_speedOf_22 (by decide) ?_
      refine lv_istore_n (lv' := [(3, .int 0), (2, .int 0), (0, .ref (z + k)), (1, .int (nI j))]) hx hb dX6_speedOf_23 rfl hl (by decide) rfl (fun ls hl => ?_)
      refine lv_iconst (v := 0) hx hb dX6_speedOf_24 (by decide) ?_
      refine lv_istore (lv' := [(4, .int 0), (3, .int 0), (2, .int 0), (0, .ref (z + k)), (1, .int (nI j))]) hx hb dX6_speedOf_25 hl (by decide) rfl (fun ls hl => ?_)
      exact lp_X6_speedOf_ok C o d hk j (MLn (t_X6_isThere τ (nI j)) j) (17) 0 0 0 σ (t_X6_isThere τ (nI j)) _ _ ((hM.isT.lnf hj).1) (hK.isT) (⟨by decide, by decide⟩) (⟨hj, ml_pos hM.isT hj c_15, (hM.isT.lnf hj).2, by omega, by omega⟩) (by unfold f_X6_speedOf_ok; rw [if_neg c_15]) (by unfold t_X6_speedOf_ok; rw [if_neg c_15]) hP hS ls (lv_sub hl [3, 4, 2, 1, 0] rfl)
    · refine lv_dconst0 hx hb dX6_speedOf_18 ?_
      exact ret_D C hP hS (by unfold f_X6_speedOf_ok; rw [if_pos c_15]) rfl (by unfold t_X6_speedOf_ok; rw [if_pos c_15]) dX6_speedOf_19

abbrev rm_X6_speedOf_no : Room := { frames := 2, cells := 0, slots := 0, locals := 43 }
def f_X6_speedOf_no (τ : Sg) (x : Int32) : UInt64 :=
  FP.dconst0
def t_X6_speedOf_no (τ : Sg) (x : Int32) : Sg :=
  t_X6_isThere τ x
set_option maxHeartbeats 4000000 in
set_option maxRecDepth 100000 in
theorem k_X6_speedOf_no (l : Launch) (D : va_G) (cy : Nat → ClassId) (z : Nat) (o : Int64) (d : UInt64) (σ τ : Sg) {k : Nat} (hk : kd k = 6) (x : Int32) (hx9 : ¬ InS x) : KD l yX6_speedOf cX6_speedOf 5 (some .double) rm_X6_speedOf_no D cy z [.ref (z + k), .int x] o d σ τ (f_X6_speedOf_no τ x) σ (t_X6_speedOf_no τ x) := by
  refine met_of RX6 (plainFor_of_name (by decide)) rfl (Nat.le_of_ble_eq_true rfl) ?_
  intro p e s m args below meth c C hP hS ls hl
  obtain ⟨hx, hb, hr, hml, hown, hW, hlocks, hAm⟩ := id C
  have hl : lv_has ls 5 [(0, .ref (z + k)), (1, .int x)] := hl
  refine lv_aload_n hx hb dX6_speedOf_0 rfl (lv_at hl 0 rfl) ?_
  refine lv_iload_n hx hb dX6_speedOf_1 rfl (lv_at hl 1 rfl) ?_
  refine thn_I (run_V (As := [.int x]) (rest := []) C (k_X6_isThere l D cy z o d σ τ hk x) hP hS cw_X6_isThere (mA4 (i := 45) rfl rfl) hk ⟨rfl, rfl⟩ ⟨Nat.le_of_ble_eq_true rfl, Nat.le_of_ble_eq_true rfl⟩ rfl (Nat.le_of_ble_eq_true rfl) hl.1 ⟨Nat.zero_le _, Nat.zero_le _⟩ dX6_speedOf_2) hS (fun H locs hP hS => ?_)
  refine lv_if_eq (tgt := 18) hx hb dX6_speedOf_5 (by decide) (fun c_5 => ?_) (fun c_5 => ?_)
  · refine lv_dconst0 hx hb dX6_speedOf_18 ?_
    exact ret_D C hP hS rfl rfl rfl dX6_speedOf_19
  · exact absurd ((isT_no hx9).1) c_5


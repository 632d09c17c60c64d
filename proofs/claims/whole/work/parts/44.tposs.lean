theorem cw_X6_isPossible : cwVt yX6_isPossible cX6_isPossible 3 (some .boolean) 6 0 := ⟨(mA4 (i := 181) rfl rfl), (mA0 (i := 31) rfl rfl), (mA1 (i := 7) rfl rfl), (mA4 (i := 182) rfl rfl), by decide +kernel, ⟨_, rfl, rfl⟩, by decide⟩
abbrev rm_X6_isPossible : Room := { frames := 7, cells := 0, slots := 0, locals := 164 }
def gf_X6_isPossible_35 (x1 : Int32) : Nat → Nat → Sg → Int32
  | 0, _, _ => 0
  | n + 1, i, τ =>
    if 230 ≤ i then
      x1
    else
      gf_X6_isPossible_35 x1 n (i + 1) (up τ 1 i (τ 4 i))
def gt_X6_isPossible_35 (x1 : Int32) : Nat → Nat → Sg → Sg
  | 0, _, τ => τ
  | n + 1, i, τ =>
    if 230 ≤ i then
      τ
    else
      gt_X6_isPossible_35 x1 n (i + 1) (up τ 1 i (τ 4 i))
set_option maxHeartbeats 4000000 in
set_option maxRecDepth 100000 in
theorem lp_X6_isPossible_35 {p : Program} {l : Launch} {e : Env} {s : State} {m : MethodId} {args : Array Value} {below : List Frame} {meth : Method} {c : Code} {D : va_G} {cy : Nat → ClassId} {z : Nat} (C : Bd p s m args meth c cX6_isPossible 3 (some .boolean) RX6 D cy z) (o : Int64) (d : UInt64) {k : Nat} (hk : kd k = 6) (x1 : Int32) {r9 : Int32} {τ9 : Sg} :
    ∀ (n : Nat) (i : Nat) (σ τ : Sg) (H : Heap) (locs : List Loc), (narrow .boolean (.int x1) = .int x1) → (i ≤ 230 ∧ 231 ≤ i + n) → (gf_X6_isPossible_35 x1 n i τ = r9) → (gt_X6_isPossible_35 x1 n i τ = τ9) → WP D cy z σ τ o d H → va_S (fz z) s.heap H locs → ∀ ls : Array Slot, lv_has ls 3 [(0, .ref (z + k)), (1, .int x1), (2, .int (nI i))] → W p l e rm_X6_isPossible s m args below meth c H locs 0 0 (MQ below (PoI D cy z o d r9 σ τ9) args s 0 0 (fz z)) (F0 m 35 ls []) := by
  obtain ⟨hx, hb, hr, hml, hown, hW, hlocks, hAm⟩ := id C
  intro n
  induction n with
  | zero =>
    intro _ σ τ H locs hz9 hn9 _ _ hP hS ls hl
    exact absurd hn9 (by omega)
  | succ n ih =>
    intro i σ τ H locs hz9 hn9 hr9 ht9 hP hS ls hl
    refine lv_iload_n hx hb dX6_isPossible_35 rfl (lv_at hl 2 rfl) ?_
    refine lv_sipush (v := 230) hx hb dX6_isPossible_36 (by decide) ?_
    refine lv_icmp_ge (tgt := 60) hx hb dX6_isPossible_39 (by decide) (fun c_39 => ?_) (fun c_39 => ?_)
    · have d_39 : 230 ≤ i := (cI_le (a := 230) (b := i) rfl rfl (by omega) (by omega)).mp c_39
      refine lv_iload_n hx hb dX6_isPossible_60 rfl (lv_at hl 1 rfl) ?_
      exact ret_I C hP hS hz9 rfl (by rw [← hr9, gf_X6_isPossible_35]; rw [if_pos d_39]) rfl (by rw [← ht9, gt_X6_isPossible_35]; rw [if_pos d_39]) dX6_isPossible_61
    · have d_39 : ¬ (230 ≤ i) := fun h9 => c_39 ((cI_le (a := 230) (b := i) rfl rfl (by omega) (by omega)).mpr h9)
      refine lv_aload_n hx hb dX6_isPossible_42 rfl (lv_at hl 0 rfl) ?_
      refine gf_X6_7 C hP hk dX6_isPossible_43 ?_
      refine lv_iload_n hx hb dX6_isPossible_46 rfl (lv_at hl 2 rfl) ?_
      refine lv_aload_n hx hb dX6_isPossible_47 rfl (lv_at hl 0 rfl) ?_
      refine gf_X6_19 C hP hk dX6_isPossible_48 ?_
      refine lv_iload_n hx hb dX6_isPossible_51 rfl (lv_at hl 2 rfl) ?_
      refine al_13 C hP (kd6_4 hk) (vp_in_nI (by omega) (by decide)) dX6_isPossible_52 ?_
      rw [nI_clamp (n := i) (by omega)]
      refine as_10 C hP hS (kd6_1 hk) (vp_in_nI (by omega) (by decide)) dX6_isPossible_53 (fun H locs hP hS => ?_)
      rw [nI_clamp (n := i) (by omega)] at hP
      refine lv_iinc (v := nI (i + 1)) (lv' := [(2, .int (nI (i + 1))), (0, .ref (z + k)), (1, .int x1)]) hx hb dX6_isPossible_54 hl (k := 2) rfl (nI_1 i) (by decide) rfl (fun ls hl => ?_)
      refine lv_goto (tgt := 35) hx hb dX6_isPossible_57 (by decide) ?_
      exact ih (i + 1) σ (up τ 1 i (τ 4 i)) _ _ hz9 (⟨by omega, by omega⟩) (by rw [← hr9, gf_X6_isPossible_35]; rw [if_neg d_39]) (by rw [← ht9, gt_X6_isPossible_35]; rw [if_neg d_39]) hP hS ls (lv_sub hl [1, 2, 0] rfl)
def gf_X6_isPossible_2  : Nat → Nat → Sg → Int32
  | 0, _, _ => 0
  | n + 1, i, τ =>
    if 230 ≤ i then
      gf_X6_isPossible_35 (f_X6_go_1 τ) 231 0 (t_X6_go_1 τ)
    else
      gf_X6_isPossible_2 n (i + 1) (up τ 4 i (τ 1 i))
def gt_X6_isPossible_2  : Nat → Nat → Sg → Sg
  | 0, _, τ => τ
  | n + 1, i, τ =>
    if 230 ≤ i then
      gt_X6_isPossible_35 (f_X6_go_1 τ) 231 0 (t_X6_go_1 τ)
    else
      gt_X6_isPossible_2 n (i + 1) (up τ 4 i (τ 1 i))
set_option maxHeartbeats 4000000 in
set_option maxRecDepth 100000 in
theorem lp_X6_isPossible_2 {p : Program} {l : Launch} {e : Env} {s : State} {m : MethodId} {args : Array Value} {below : List Frame} {meth : Method} {c : Code} {D : va_G} {cy : Nat → ClassId} {z : Nat} (C : Bd p s m args meth c cX6_isPossible 3 (some .boolean) RX6 D cy z) (o : Int64) (d : UInt64) {k : Nat} (hk : kd k = 6)  {r9 : Int32} {τ9 : Sg} :
    ∀ (n : Nat) (i : Nat) (σ τ : Sg) (H : Heap) (locs : List Loc), (MI τ) → (TLI τ) → ((t_X6_go_0 τ) 0 10 = 0) → (i ≤ 230 ∧ 231 ≤ i + n) → (gf_X6_isPossible_2  n i τ = r9) → (gt_X6_isPossible_2  n i τ = τ9) → WP D cy z σ τ o d H → va_S (fz z) s.heap H locs → ∀ ls : Array Slot, lv_has ls 3 [(0, .ref (z + k)), (1, .int (nI i))] → W p l e rm_X6_isPossible s m args below meth c H locs 0 0 (MQ below (PoI D cy z o d r9 σ τ9) args s 0 0 (fz z)) (F0 m 2 ls []) := by
  obtain ⟨hx, hb, hr, hml, hown, hW, hlocks, hAm⟩ := id C
  intro n
  induction n with
  | zero =>
    intro _ σ τ H locs hM hT hB hn9 _ _ hP hS ls hl
    exact absurd hn9 (by omega)
  | succ n ih =>
    intro i σ τ H locs hM hT hB hn9 hr9 ht9 hP hS ls hl
    refine lv_iload_n hx hb dX6_isPossible_2 rfl (lv_at hl 1 rfl) ?_
    refine lv_sipush (v := 230) hx hb dX6_isPossible_3 (by decide) ?_
    refine lv_icmp_ge (tgt := 27) hx hb dX6_isPossible_6 (by decide) (fun c_6 => ?_) (fun c_6 => ?_)
    · have d_6 : 230 ≤ i := (cI_le (a := 230) (b := i) rfl rfl (by omega) (by omega)).mp c_6
      refine lv_aload_n hx hb dX6_isPossible_27 rfl (lv_at hl 0 rfl) ?_
      refine lv_iconst (v := 1) hx hb dX6_isPossible_28 (by decide) ?_
      refine thn_I (run_V (As := [.int 1]) (rest := []) C (k_X6_go_1 l D cy z o d σ τ hk hM hT hB) hP hS cw_X6_go (mA4 (i := 155) rfl rfl) hk ⟨rfl, rfl⟩ ⟨Nat.le_of_ble_eq_true rfl, Nat.le_of_ble_eq_true rfl⟩ rfl (Nat.le_of_ble_eq_true rfl) hl.1 ⟨Nat.zero_le _, Nat.zero_le _⟩ dX6_isPossible_29) hS (fun H locs hP hS => ?_)
      refine lv_istore_n (lv' := [(1, .int (f_X6_go_1 τ)), (0, .ref (z + k))]) hx hb dX6_isPossible_32 rfl hl (by decide) rfl (fun ls hl => ?_)
      refine lv_iconst (v := 0) hx hb dX6_isPossible_33 (by decide) ?_
      refine lv_istore_n (lv' := [(2, .int 0), (1, .int (f_X6_go_1 τ)), (0, .ref (z + k))]) hx hb dX6_isPossible_34 rfl hl (by decide) rfl (fun ls hl => ?_)
      exact lp_X6_isPossible_35 C o d hk (f_X6_go_1 τ) (231) 0 σ (t_X6_go_1 τ) _ _ (nz_X6_go_1 _) (⟨by omega, by omega⟩) (by rw [← hr9, gf_X6_isPossible_2]; rw [if_pos d_6]) (by rw [← ht9, gt_X6_isPossible_2]; rw [if_pos d_6]) hP hS ls (lv_sub hl [2, 1, 0] rfl)
    · have d_6 : ¬ (230 ≤ i) := fun h9 => c_6 ((cI_le (a := 230) (b := i) rfl rfl (by omega) (by omega)).mpr h9)
      refine lv_aload_n hx hb dX6_isPossible_9 rfl (lv_at hl 0 rfl) ?_
      refine gf_X6_19 C hP hk dX6_isPossible_10 ?_
      refine lv_iload_n hx hb dX6_isPossible_13 rfl (lv_at hl 1 rfl) ?_
      refine lv_aload_n hx hb dX6_isPossible_14 rfl (lv_at hl 0 rfl) ?_
      refine gf_X6_7 C hP hk dX6_isPossible_15 ?_
      refine lv_iload_n hx hb dX6_isPossible_18 rfl (lv_at hl 1 rfl) ?_
      refine al_10 C hP (kd6_1 hk) (vp_in_nI (by omega) (by decide)) dX6_isPossible_19 ?_
      rw [nI_clamp (n := i) (by omega)]
      refine as_13 C hP hS (kd6_4 hk) (vp_in_nI (by omega) (by decide)) dX6_isPossible_20 (fun H locs hP hS => ?_)
      rw [nI_clamp (n := i) (by omega)] at hP
      refine lv_iinc (v := nI (i + 1)) (lv' := [(1, .int (nI (i + 1))), (0, .ref (z + k))]) hx hb dX6_isPossible_21 hl (k := 1) rfl (nI_1 i) (by decide) rfl (fun ls hl => ?_)
      refine lv_goto (tgt := 2) hx hb dX6_isPossible_24 (by decide) ?_
      exact ih (i + 1) σ (up τ 4 i (τ 1 i)) _ _ (hM.up4) (hT.up4) (go0_4 hB) (⟨by omega, by omega⟩) (by rw [← hr9, gf_X6_isPossible_2]; rw [if_neg d_6]) (by rw [← ht9, gt_X6_isPossible_2]; rw [if_neg d_6]) hP hS ls (lv_sub hl [1, 0] rfl)
def f_X6_isPossible (τ : Sg) : Int32 :=
  gf_X6_isPossible_2 231 0 τ
def t_X6_isPossible (τ : Sg) : Sg :=
  gt_X6_isPossible_2 231 0 τ
set_option maxHeartbeats 4000000 in
set_option maxRecDepth 100000 in
theorem k_X6_isPossible (l : Launch) (D : va_G) (cy : Nat → ClassId) (z : Nat) (o : Int64) (d : UInt64) (σ τ : Sg) {k : Nat} (hk : kd k = 6) (hM : MI τ) (hT : TLI τ) (hB : (t_X6_go_0 τ) 0 10 = 0) : KI l yX6_isPossible cX6_isPossible 3 (some .boolean) rm_X6_isPossible D cy z [.ref (z + k)] o d σ τ (f_X6_isPossible τ) σ (t_X6_isPossible τ) := by
  refine met_of RX6 (plainFor_of_name (by decide)) rfl (Nat.le_of_ble_eq_true rfl) ?_
  intro p e s m args below meth c C hP hS ls hl
  obtain ⟨hx, hb, hr, hml, hown, hW, hlocks, hAm⟩ := id C
  have hl : lv_has ls 3 [(0, .ref (z + k))] := hl
  refine lv_iconst (v := 0) hx hb dX6_isPossible_0 (by decide) ?_
  refine lv_istore_n (lv' := [(1, .int 0), (0, .ref (z + k))]) hx hb dX6_isPossible_1 rfl hl (by decide) rfl (fun ls hl => ?_)
  exact lp_X6_isPossible_2 C o d hk  (231) 0 σ τ _ _ hM hT hB (⟨by omega, by omega⟩) rfl rfl hP hS ls (lv_sub hl [1, 0] rfl)

theorem cw_X6_textError : cwVt yX6_textError cX6_textError 2 (some .int) 6 0 := ⟨(mA4 (i := 152) rfl rfl), (mA4 (i := 153) rfl rfl), (mA1 (i := 7) rfl rfl), (mA4 (i := 154) rfl rfl), by decide +kernel, ⟨_, rfl, rfl⟩, by decide⟩
abbrev rm_X6_textError : Room := { frames := 5, cells := 0, slots := 0, locals := 119 }
def f_X6_textError (τ : Sg) : Int32 :=
  if ((t_X6_go_0 (up τ 0 8 0)) 0 10) = 0 then
    (-1)
  else
    (t_X6_go_0 (up τ 0 8 0)) 0 9
def t_X6_textError (τ : Sg) : Sg :=
  if ((t_X6_go_0 (up τ 0 8 0)) 0 10) = 0 then
    t_X6_go_0 (up τ 0 8 0)
  else
    t_X6_go_0 (up τ 0 8 0)
set_option maxHeartbeats 4000000 in
set_option maxRecDepth 100000 in
theorem k_X6_textError (l : Launch) (D : va_G) (cy : Nat → ClassId) (z : Nat) (o : Int64) (d : UInt64) (σ τ : Sg) {k : Nat} (hk : kd k = 6) (hT : TLI τ) : KI l yX6_textError cX6_textError 2 (some .int) rm_X6_textError D cy z [.ref (z + k)] o d σ τ (f_X6_textError τ) σ (t_X6_textError τ) := by
  refine met_of RX6 (plainFor_of_name (by decide)) rfl (Nat.le_of_ble_eq_true rfl) ?_
  intro p e s m args below meth c C hP hS ls hl
  obtain ⟨hx, hb, hr, hml, hown, hW, hlocks, hAm⟩ := id C
  have hl : lv_has ls 2 [(0, .ref (z + k))] := hl
  refine lv_aload_n hx hb dX6_textError_0 rfl (lv_at hl 0 rfl) ?_
  refine lv_iconst (v := 0) hx hb dX6_textError_1 (by decide) ?_
  refine pf_X6_25 C hP hS hk dX6_textError_2 (fun H locs hP hS => ?_)
  refine lv_aload_n hx hb dX6_textError_5 rfl (lv_at hl 0 rfl) ?_
  refine lv_iconst (v := 0) hx hb dX6_textError_6 (by decide) ?_
  refine thn_I (run_V (As := [.int 0]) (rest := []) C (k_X6_go_0 l D cy z o d σ (up τ 0 8 0) hk hT) hP hS cw_X6_go (mA4 (i := 155) rfl rfl) hk ⟨rfl, rfl⟩ ⟨Nat.le_of_ble_eq_true rfl, Nat.le_of_ble_eq_true rfl⟩ rfl (Nat.le_of_ble_eq_true rfl) hl.1 ⟨Nat.zero_le _, Nat.zero_le _⟩ dX6_textError_7) hS (fun H locs hP hS => ?_)
  refine lv_istore_n (lv' := [(1, .int (f_X6_go_0 (up τ 0 8 0))), (0, .ref (z + k))]) hx hb dX6_textError_10 rfl hl (by decide) rfl (fun ls hl => ?_)
  refine lv_aload_n hx hb dX6_textError_11 rfl (lv_at hl 1 rfl) ?_
  refine gf_X6_110 C hP hk dX6_textError_12 ?_
  refine lv_if_eq (tgt := 25) hx hb dX6_textError_15 (by decide) (fun c_15 => ?_) (fun c_15 => ?_)
  · refine lv_iconst (v := (-1)) hx hb dX6_textError_25 (by decide) ?_
    exact ret_I C hP hS (nar_i _) rfl (by unfold f_X6_textError; rw [if_pos c_15]) rfl (by unfold t_X6_textError; rw [if_pos c_15]) dX6_textError_26
  · refine lv_aload_n hx hb dX6_textError_18 rfl (lv_at hl 1 rfl) ?_
    refine gf_X6_107 C hP hk dX6_textError_19 ?_
    refine lv_goto (tgt := 26) hx hb dX6_textError_22 (by decide) ?_
    exact ret_I C hP hS (nar_i _) rfl (by unfold f_X6_textError; rw [if_neg c_15]) rfl (by unfold t_X6_textError; rw [if_neg c_15]) dX6_textError_26


theorem cw_X6_record : cwVt yX6_record cX6_record 2 none 6 0 := ⟨(mA4 (i := 80) rfl rfl), (mA0 (i := 17) rfl rfl), (mA1 (i := 7) rfl rfl), (mA4 (i := 81) rfl rfl), by decide +kernel, ⟨_, rfl, rfl⟩, by decide⟩
abbrev rm_X6_record : Room := { frames := 0, cells := 0, slots := 0, locals := 0 }
def gt_X6_record_51 (q : Nat) : Nat → Nat → Sg → Sg
  | 0, _, τ => τ
  | n + 1, i, τ =>
    if 230 ≤ i then
      up τ 0 2 ((τ 0 2) + 1)
    else
      gt_X6_record_51 q n (i + 1) (up τ 2 (230 * q + i) (τ 1 i))
set_option maxHeartbeats 4000000 in
set_option maxRecDepth 100000 in
theorem lp_X6_record_51 {p : Program} {l : Launch} {e : Env} {s : State} {m : MethodId} {args : Array Value} {below : List Frame} {meth : Method} {c : Code} {D : va_G} {cy : Nat → ClassId} {z : Nat} (C : Bd p s m args meth c cX6_record 2 none RX6 D cy z) (o : Int64) (d : UInt64) {k : Nat} (hk : kd k = 6) (q : Nat) {τ9 : Sg} :
    ∀ (n : Nat) (i : Nat) (σ τ : Sg) (H : Heap) (locs : List Loc), (τ 0 2 = nI q ∧ q ≤ 3) → (i ≤ 230 ∧ 231 ≤ i + n) → (gt_X6_record_51 q n i τ = τ9) → WP D cy z σ τ o d H → va_S (fz z) s.heap H locs → ∀ ls : Array Slot, lv_has ls 2 [(0, .ref (z + k)), (1, .int (nI i))] → W p l e rm_X6_record s m args below meth c H locs 0 0 (MQ below (PoV D cy z o d σ τ9) args s 0 0 (fz z)) (F0 m 51 ls []) := by
  obtain ⟨hx, hb, hr, hml, hown, hW, hlocks, hAm⟩ := id C
  intro n
  induction n with
  | zero =>
    intro _ σ τ H locs hq9 hn9 _ hP hS ls hl
    exact absurd hn9 (by omega)
  | succ n ih =>
    intro i σ τ H locs hq9 hn9 ht9 hP hS ls hl
    refine lv_iload_n hx hb dX6_record_51 rfl (lv_at hl 1 rfl) ?_
    refine lv_sipush (v := 230) hx hb dX6_record_52 (by decide) ?_
    refine lv_icmp_ge (tgt := 85) hx hb dX6_record_55 (by decide) (fun c_55 => ?_) (fun c_55 => ?_)
    · have d_55 : 230 ≤ i := (cI_le (a := 230) (b := i) rfl rfl (by omega) (by omega)).mp c_55
      refine lv_aload_n hx hb dX6_record_85 rfl (lv_at hl 0 rfl) ?_
      refine lv_dup hx hb dX6_record_86 rfl ?_
      refine gf_X6_33 C hP hk dX6_record_87 ?_
      refine lv_iconst (v := 1) hx hb dX6_record_90 (by decide) ?_
      refine lv_iadd hx hb dX6_record_91 ?_
      refine pf_X6_33 C hP hS hk dX6_record_92 (fun H locs hP hS => ?_)
      exact ret_V C hP hS rfl (by rw [← ht9, gt_X6_record_51]; rw [if_pos d_55]) dX6_record_95
    · have d_55 : ¬ (230 ≤ i) := fun h9 => c_55 ((cI_le (a := 230) (b := i) rfl rfl (by omega) (by omega)).mpr h9)
      refine lv_aload_n hx hb dX6_record_58 rfl (lv_at hl 0 rfl) ?_
      refine gf_X6_13 C hP hk dX6_record_59 ?_
      refine lv_sipush (v := 230) hx hb dX6_record_62 (by decide) ?_
      refine lv_aload_n hx hb dX6_record_65 rfl (lv_at hl 0 rfl) ?_
      refine gf_X6_33 C hP hk dX6_record_66 ?_
      rw [hq9.1]
      refine lv_imul hx hb dX6_record_69 ?_
      refine lv_iload_n hx hb dX6_record_70 rfl (lv_at hl 1 rfl) ?_
      refine lv_iadd hx hb dX6_record_71 ?_
      rw [ir_of]
      refine lv_aload_n hx hb dX6_record_72 rfl (lv_at hl 0 rfl) ?_
      refine gf_X6_7 C hP hk dX6_record_73 ?_
      refine lv_iload_n hx hb dX6_record_76 rfl (lv_at hl 1 rfl) ?_
      refine al_10 C hP (kd6_1 hk) (vp_in_nI (by omega) (by decide)) dX6_record_77 ?_
      rw [nI_clamp (n := i) (by omega)]
      refine as_11 C hP hS (kd6_2 hk) (vp_in_nI (by omega) (by decide)) dX6_record_78 (fun H locs hP hS => ?_)
      rw [nI_clamp (n := 230 * q + i) (by omega)] at hP
      refine lv_iinc (v := nI (i + 1)) (lv' := [(1, .int (nI (i + 1))), (0, .ref (z + k))]) hx hb dX6_record_79 hl (k := 1) rfl (nI_1 i) (by decide) rfl (fun ls hl => ?_)
      refine lv_goto (tgt := 51) hx hb dX6_record_82 (by decide) ?_
      exact ih (i + 1) σ (up τ 2 (230 * q + i) (τ 1 i)) _ _ (⟨by rw [← hq9.1]; rfl, hq9.2⟩) (⟨by omega, by omega⟩) (by rw [← ht9, gt_X6_record_51]; rw [if_neg d_55]) hP hS ls (lv_sub hl [1, 0] rfl)
def gt_X6_record_10  : Nat → Nat → Sg → Sg
  | 0, _, τ => τ
  | n + 1, i, τ =>
    if 690 ≤ i then
      gt_X6_record_51 (KN (up τ 0 2 ((τ 0 2) - 1))) 231 0 (up τ 0 2 ((τ 0 2) - 1))
    else
      gt_X6_record_10 n (i + 1) (up τ 2 i (τ 2 (230 + i)))
set_option maxHeartbeats 4000000 in
set_option maxRecDepth 100000 in
theorem lp_X6_record_10 {p : Program} {l : Launch} {e : Env} {s : State} {m : MethodId} {args : Array Value} {below : List Frame} {meth : Method} {c : Code} {D : va_G} {cy : Nat → ClassId} {z : Nat} (C : Bd p s m args meth c cX6_record 2 none RX6 D cy z) (o : Int64) (d : UInt64) {k : Nat} (hk : kd k = 6)  {τ9 : Sg} :
    ∀ (n : Nat) (i : Nat) (σ τ : Sg) (H : Heap) (locs : List Loc), (τ 0 2 = 4) → (i ≤ 690 ∧ 691 ≤ i + n) → (gt_X6_record_10  n i τ = τ9) → WP D cy z σ τ o d H → va_S (fz z) s.heap H locs → ∀ ls : Array Slot, lv_has ls 2 [(0, .ref (z + k)), (1, .int (nI i))] → W p l e rm_X6_record s m args below meth c H locs 0 0 (MQ below (PoV D cy z o d σ τ9) args s 0 0 (fz z)) (F0 m 10 ls []) := by
  obtain ⟨hx, hb, hr, hml, hown, hW, hlocks, hAm⟩ := id C
  intro n
  induction n with
  | zero =>
    intro _ σ τ H locs hk4 hn9 _ hP hS ls hl
    exact absurd hn9 (by omega)
  | succ n ih =>
    intro i σ τ H locs hk4 hn9 ht9 hP hS ls hl
    refine lv_iload_n hx hb dX6_record_10 rfl (lv_at hl 1 rfl) ?_
    refine lv_sipush (v := 690) hx hb dX6_record_11 (by decide) ?_
    refine lv_icmp_ge (tgt := 39) hx hb dX6_record_14 (by decide) (fun c_14 => ?_) (fun c_14 => ?_)
    · have d_14 : 690 ≤ i := (cI_le (a := 690) (b := i) rfl rfl (by omega) (by omega)).mp c_14
      refine lv_aload_n hx hb dX6_record_39 rfl (lv_at hl 0 rfl) ?_
      refine lv_dup hx hb dX6_record_40 rfl ?_
      refine gf_X6_33 C hP hk dX6_record_41 ?_
      refine lv_iconst (v := 1) hx hb dX6_record_44 (by decide) ?_
      refine lv_isub hx hb dX6_record_45 ?_
      refine pf_X6_33 C hP hS hk dX6_record_46 (fun H locs hP hS => ?_)
      refine lv_iconst (v := 0) hx hb dX6_record_49 (by decide) ?_
      refine lv_istore_n (lv' := [(1, .int 0), (0, .ref (z + k))]) hx hb dX6_record_50 rfl hl (by decide) rfl (fun ls hl => ?_)
      exact lp_X6_record_51 C o d hk (KN (up τ 0 2 ((τ 0 2) - 1))) (231) 0 σ (up τ 0 2 ((τ 0 2) - 1)) _ _ (by first | exact knA hk4 | exact knB hM c_5) (⟨by omega, by omega⟩) (by rw [← ht9, gt_X6_record_10]; rw [if_pos d_14]) hP hS ls (lv_sub hl [1, 0] rfl)
    · have d_14 : ¬ (690 ≤ i) := fun h9 => c_14 ((cI_le (a := 690) (b := i) rfl rfl (by omega) (by omega)).mpr h9)
      refine lv_aload_n hx hb dX6_record_17 rfl (lv_at hl 0 rfl) ?_
      refine gf_X6_13 C hP hk dX6_record_18 ?_
      refine lv_iload_n hx hb dX6_record_21 rfl (lv_at hl 1 rfl) ?_
      refine lv_aload_n hx hb dX6_record_22 rfl (lv_at hl 0 rfl) ?_
      refine gf_X6_13 C hP hk dX6_record_23 ?_
      refine lv_sipush (v := 230) hx hb dX6_record_26 (by decide) ?_
      refine lv_iload_n hx hb dX6_record_29 rfl (lv_at hl 1 rfl) ?_
      refine lv_iadd hx hb dX6_record_30 ?_
      rw [ir_i]
      refine al_11 C hP (kd6_2 hk) (vp_in_nI (by omega) (by decide)) dX6_record_31 ?_
      rw [nI_clamp (by omega)]
      refine as_11 C hP hS (kd6_2 hk) (vp_in_nI (by omega) (by decide)) dX6_record_32 (fun H locs hP hS => ?_)
      rw [nI_clamp (n := i) (by omega)] at hP
      refine lv_iinc (v := nI (i + 1)) (lv' := [(1, .int (nI (i + 1))), (0, .ref (z + k))]) hx hb dX6_record_33 hl (k := 1) rfl (nI_1 i) (by decide) rfl (fun ls hl => ?_)
      refine lv_goto (tgt := 10) hx hb dX6_record_36 (by decide) ?_
      exact ih (i + 1) σ (up τ 2 i (τ 2 (230 + i))) _ _ (by rw [← hk4]; rfl) (⟨by omega, by omega⟩) (by rw [← ht9, gt_X6_record_10]; rw [if_neg d_14]) hP hS ls (lv_sub hl [1, 0] rfl)
def t_X6_record (τ : Sg) : Sg :=
  if (τ 0 2) = 4 then
    gt_X6_record_10 691 0 τ
  else
    gt_X6_record_51 (KN τ) 231 0 τ
set_option maxHeartbeats 4000000 in
set_option maxRecDepth 100000 in
theorem k_X6_record (l : Launch) (D : va_G) (cy : Nat → ClassId) (z : Nat) (o : Int64) (d : UInt64) (σ τ : Sg) {k : Nat} (hk : kd k = 6) (hM : MI τ) : KV l yX6_record cX6_record 2 rm_X6_record D cy z [.ref (z + k)] o d σ τ σ (t_X6_record τ) := by
  refine met_of RX6 (plainFor_of_name (by decide)) rfl (Nat.le_of_ble_eq_true rfl) ?_
  intro p e s m args below meth c C hP hS ls hl
  obtain ⟨hx, hb, hr, hml, hown, hW, hlocks, hAm⟩ := id C
  have hl : lv_has ls 2 [(0, .ref (z + k))] := hl
  refine lv_aload_n hx hb dX6_record_0 rfl (lv_at hl 0 rfl) ?_
  refine gf_X6_33 C hP hk dX6_record_1 ?_
  refine lv_iconst (v := 4) hx hb dX6_record_4 (by decide) ?_
  refine lv_icmp_ne (tgt := 49) hx hb dX6_record_5 (by decide) (fun c_5 => ?_) (fun c_5 => ?_)
  · refine lv_iconst (v := 0) hx hb dX6_record_49 (by decide) ?_
    refine lv_istore_n (lv' := [(1, .int 0), (0, .ref (z + k))]) hx hb dX6_record_50 rfl hl (by decide) rfl (fun ls hl => ?_)
    exact lp_X6_record_51 C o d hk (KN τ) (231) 0 σ τ _ _ (by first | exact knA hk4 | exact knB hM c_5) (⟨by omega, by omega⟩) (by unfold t_X6_record; rw [if_neg c_5]) hP hS ls (lv_sub hl [1, 0] rfl)
  · refine lv_iconst (v := 0) hx hb dX6_record_8 (by decide) ?_
    refine lv_istore_n (lv' := [(1, .int 0), (0, .ref (z + k))]) hx hb dX6_record_9 rfl hl (by decide) rfl (fun ls hl => ?_)
    exact lp_X6_record_10 C o d hk  (691) 0 σ τ _ _ c_5 (⟨by omega, by omega⟩) (by unfold t_X6_record; rw [if_pos c_5]) hP hS ls (lv_sub hl [1, 0] rfl)


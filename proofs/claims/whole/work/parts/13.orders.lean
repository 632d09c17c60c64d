theorem cw_X5_firstFailing : cwVt yX5_firstFailing cX5_firstFailing 5 (some .int) 5 1 := ⟨(mA3 (i := 56) rfl rfl), (mA0 (i := 9) rfl rfl), (mA1 (i := 1) rfl rfl), (mA3 (i := 57) rfl rfl), by decide +kernel, ⟨_, rfl, rfl⟩, by decide⟩
abbrev rm_X5_firstFailing : Room := { frames := 5, cells := 0, slots := 0, locals := 121 }
def gf_X5_firstFailing (k j b : Nat) : Nat → Nat → Nat → Sg → Int32
  | 0, _, _, _ => 0
  | n + 1, a, i, σ =>
    if b ≤ i then
      (-1)
    else
      if (f_X5_follow σ k j a) = 0 then
        nI i
      else
        gf_X5_firstFailing k j b n (EO (s_X5_follow σ k j a) (k + 93) a + 1) (i + 1) (s_X5_follow σ k j a)
def gs_X5_firstFailing (k j b : Nat) : Nat → Nat → Nat → Sg → Sg
  | 0, _, _, σ => σ
  | n + 1, a, i, σ =>
    if b ≤ i then
      σ
    else
      if (f_X5_follow σ k j a) = 0 then
        s_X5_follow σ k j a
      else
        gs_X5_firstFailing k j b n (EO (s_X5_follow σ k j a) (k + 93) a + 1) (i + 1) (s_X5_follow σ k j a)
set_option maxHeartbeats 4000000 in
set_option maxRecDepth 100000 in
theorem lp_X5_firstFailing {p : Program} {l : Launch} {e : Env} {s : State} {m : MethodId} {args : Array Value} {below : List Frame} {meth : Method} {c : Code} {D : va_G} {cy : Nat → ClassId} {z : Nat} (C : Bd p s m args meth c cX5_firstFailing 5 (some .int) RX5 D cy z) (o : Int64) (d : UInt64) {k : Nat} (hk : kd k = 5) {j : Nat} (hk_j : kd j = 0) (b : Nat) {r9 : Int32} {σ9 : Sg} :
    ∀ (n : Nat) (a : Nat) (i : Nat) (σ τ : Sg) (H : Heap) (locs : List Loc), (LGA σ) → (TXA σ) → (b ≤ 82 ∧ a ≤ 81 ∧ i ≤ b ∧ b + 1 ≤ i + n) → (gf_X5_firstFailing k j b n a i σ = r9) → (gs_X5_firstFailing k j b n a i σ = σ9) → WP D cy z σ τ o d H → va_S (fz z) s.heap H locs → ∀ ls : Array Slot, lv_has ls 5 [(0, .ref (z + k)), (1, .ref (z + j)), (2, .int (nI b)), (3, .int (nI a)), (4, .int (nI i))] → W p l e rm_X5_firstFailing s m args below meth c H locs 0 0 (MQ below (PoI D cy z o d r9 σ9 τ) args s 0 0 (fz z)) (F0 m 13 ls []) := by
  obtain ⟨hx, hb, hr, hml, hown, hW, hlocks, hAm⟩ := id C
  intro n
  induction n with
  | zero =>
    intro _ _ σ τ H locs hG hT hn9 _ _ hP hS ls hl
    exact absurd hn9 (by omega)
  | succ n ih =>
    intro a i σ τ H locs hG hT hn9 hr9 hs9 hP hS ls hl
    refine lv_iload hx hb dX5_firstFailing_13 (lv_at hl 4 rfl) ?_
    refine lv_iload_n hx hb dX5_firstFailing_15 rfl (lv_at hl 2 rfl) ?_
    refine lv_icmp_ge (tgt := 48) hx hb dX5_firstFailing_16 (by decide) (fun c_16 => ?_) (fun c_16 => ?_)
    · have d_16 : b ≤ i := (cI_le rfl rfl (by omega) (by omega)).mp c_16
      refine lv_iconst (v := (-1)) hx hb dX5_firstFailing_48 (by decide) ?_
      exact ret_I C hP hS (nar_i _) rfl (by rw [← hr9, gf_X5_firstFailing]; rw [if_pos d_16]) (by rw [← hs9, gs_X5_firstFailing]; rw [if_pos d_16]) rfl dX5_firstFailing_49
    · have d_16 : ¬ (b ≤ i) := fun h9 => c_16 ((cI_le rfl rfl (by omega) (by omega)).mpr h9)
      refine lv_aload_n hx hb dX5_firstFailing_19 rfl (lv_at hl 0 rfl) ?_
      refine lv_aload_n hx hb dX5_firstFailing_20 rfl (lv_at hl 1 rfl) ?_
      refine lv_iload_n hx hb dX5_firstFailing_21 rfl (lv_at hl 3 rfl) ?_
      refine thn_I (run_V (As := [.ref (z + j), .int (nI a)]) (rest := []) C (k_X5_follow l D cy z o d σ τ hk j hk_j a hG hT (by omega)) hP hS cw_X5_follow (mA3 (i := 62) rfl rfl) hk ⟨rfl, rfl⟩ ⟨Nat.le_of_ble_eq_true rfl, Nat.le_of_ble_eq_true rfl⟩ rfl (Nat.le_of_ble_eq_true rfl) hl.1 ⟨Nat.zero_le _, Nat.zero_le _⟩ dX5_firstFailing_22) hS (fun H locs hP hS => ?_)
      refine lv_if_ne (tgt := 31) hx hb dX5_firstFailing_25 (by decide) (fun c_25 => ?_) (fun c_25 => ?_)
      · refine lv_aload_n hx hb dX5_firstFailing_31 rfl (lv_at hl 0 rfl) ?_
        refine gf_X5_32 C hP hk dX5_firstFailing_32 ?_
        refine lv_iload_n hx hb dX5_firstFailing_35 rfl (lv_at hl 3 rfl) ?_
        refine thn_I (run_V (As := [.int (nI a)]) (rest := []) C (k_X2_endOfOrder l D cy z o d (s_X5_follow σ k j a) τ (kd5_93 hk) a (TXA_follow hT hk_j) (by omega)) hP hS cw_X2_endOfOrder (mA3 (i := 71) rfl rfl) (kd5_93 hk) ⟨rfl, rfl⟩ ⟨Nat.le_of_ble_eq_true rfl, Nat.le_of_ble_eq_true rfl⟩ rfl (Nat.le_of_ble_eq_true rfl) hl.1 ⟨Nat.zero_le _, Nat.zero_le _⟩ dX5_firstFailing_36) hS (fun H locs hP hS => ?_)
        have he9 := (eo_of (a := a) (TXA_follow (k := k) (a := a) hT hk_j) (kd5_93 hk)).2
        rw [(eo_of (TXA_follow hT hk_j) (kd5_93 hk)).1]
        refine lv_iconst (v := 1) hx hb dX5_firstFailing_39 (by decide) ?_
        refine lv_iadd hx hb dX5_firstFailing_40 ?_
        rw [nI_1]
        refine lv_istore_n (lv' := [(3, .int (nI (EO (s_X5_follow σ k j a) (k + 93) a + 1))), (0, .ref (z + k)), (1, .ref (z + j)), (2, .int (nI b)), (4, .int (nI i))]) hx hb dX5_firstFailing_41 rfl hl (by decide) rfl (fun ls hl => ?_)
        refine lv_iinc (v := nI (i + 1)) (lv' := [(4, .int (nI (i + 1))), (3, .int (nI (EO (s_X5_follow σ k j a) (k + 93) a + 1))), (0, .ref (z + k)), (1, .ref (z + j)), (2, .int (nI b))]) hx hb dX5_firstFailing_42 hl (k := 4) rfl (nI_1 i) (by decide) rfl (fun ls hl => ?_)
        refine lv_goto (tgt := 13) hx hb dX5_firstFailing_45 (by decide) ?_
        exact ih (EO (s_X5_follow σ k j a) (k + 93) a + 1) (i + 1) (s_X5_follow σ k j a) τ _ _ (LGA_follow hG hk_j) (TXA_follow hT hk_j) (⟨by omega, by omega, by omega, by omega⟩) (by rw [← hr9, gf_X5_firstFailing]; rw [if_neg d_16, if_neg c_25]) (by rw [← hs9, gs_X5_firstFailing]; rw [if_neg d_16, if_neg c_25]) hP hS ls (lv_sub hl [2, 3, 4, 1, 0] rfl)
      · refine lv_iload hx hb dX5_firstFailing_28 (lv_at hl 4 rfl) ?_
        exact ret_I C hP hS (nar_i _) rfl (by rw [← hr9, gf_X5_firstFailing]; rw [if_neg d_16, if_pos c_25]) (by rw [← hs9, gs_X5_firstFailing]; rw [if_neg d_16, if_pos c_25]) rfl dX5_firstFailing_30
def f_X5_firstFailing (σ : Sg) (k : Nat) (j : Nat) : Int32 :=
  gf_X5_firstFailing k j (OR σ (k + 93)) 83 0 0 σ
def s_X5_firstFailing (σ : Sg) (k : Nat) (j : Nat) : Sg :=
  gs_X5_firstFailing k j (OR σ (k + 93)) 83 0 0 σ
set_option maxHeartbeats 4000000 in
set_option maxRecDepth 100000 in
theorem k_X5_firstFailing (l : Launch) (D : va_G) (cy : Nat → ClassId) (z : Nat) (o : Int64) (d : UInt64) (σ τ : Sg) {k : Nat} (hk : kd k = 5) (j : Nat) (hk_j : kd j = 0) (hG : LGA σ) (hT : TXA σ) : KI l yX5_firstFailing cX5_firstFailing 5 (some .int) rm_X5_firstFailing D cy z [.ref (z + k), .ref (z + j)] o d σ τ (f_X5_firstFailing σ k j) (s_X5_firstFailing σ k j) τ := by
  refine met_of RX5 (plainFor_of_name (by decide)) rfl (Nat.le_of_ble_eq_true rfl) ?_
  intro p e s m args below meth c C hP hS ls hl
  obtain ⟨hx, hb, hr, hml, hown, hW, hlocks, hAm⟩ := id C
  have hl : lv_has ls 5 [(0, .ref (z + k)), (1, .ref (z + j))] := hl
  refine lv_aload_n hx hb dX5_firstFailing_0 rfl (lv_at hl 0 rfl) ?_
  refine gf_X5_32 C hP hk dX5_firstFailing_1 ?_
  refine thn_I (run_V (As := []) (rest := []) C (k_X2_orders l D cy z o d σ τ (kd5_93 hk) hT) hP hS cw_X2_orders (mA3 (i := 58) rfl rfl) (kd5_93 hk) ⟨rfl, rfl⟩ ⟨Nat.le_of_ble_eq_true rfl, Nat.le_of_ble_eq_true rfl⟩ rfl (Nat.le_of_ble_eq_true rfl) hl.1 ⟨Nat.zero_le _, Nat.zero_le _⟩ dX5_firstFailing_4) hS (fun H locs hP hS => ?_)
  have ho9 := (or_of (σ := σ) (k := k + 93)).2
  rw [(or_of (σ := σ) (k := k + 93)).1]
  refine lv_istore_n (lv' := [(2, .int (nI (OR σ (k + 93)))), (0, .ref (z + k)), (1, .ref (z + j))]) hx hb dX5_firstFailing_7 rfl hl (by decide) rfl (fun ls hl => ?_)
  refine lv_iconst (v := 0) hx hb dX5_firstFailing_8 (by decide) ?_
  refine lv_istore_n (lv' := [(3, .int 0), (2, .int (nI (OR σ (k + 93)))), (0, .ref (z + k)), (1, .ref (z + j))]) hx hb dX5_firstFailing_9 rfl hl (by decide) rfl (fun ls hl => ?_)
  refine lv_iconst (v := 0) hx hb dX5_firstFailing_10 (by decide) ?_
  refine lv_istore (lv' := [(4, .int 0), (3, .int 0), (2, .int (nI (OR σ (k + 93)))), (0, .ref (z + k)), (1, .ref (z + j))]) hx hb dX5_firstFailing_11 hl (by decide) rfl (fun ls hl => ?_)
  exact lp_X5_firstFailing C o d hk hk_j (OR σ (k + 93)) (83) 0 0 σ τ _ _ hG hT (⟨by omega, by omega, by omega, by omega⟩) rfl rfl hP hS ls (lv_sub hl [3, 4, 2, 1, 0] rfl)


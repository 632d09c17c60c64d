theorem cw_X5_feelAll : cwVt yX5_feelAll cX5_feelAll 8 (some .boolean) 5 4 := ⟨(mA3 (i := 77) rfl rfl), (mA0 (i := 11) rfl rfl), (mA1 (i := 1) rfl rfl), (mA3 (i := 78) rfl rfl), by decide +kernel, ⟨_, rfl, rfl⟩, by decide⟩
abbrev rm_X5_feelAll : Room := { frames := 3, cells := 0, slots := 0, locals := 69 }
def gf_X5_feelAll (k j : Nat) (x : Int32) (b : Nat) : Nat → Nat → Sg → Int32
  | 0, _, _ => 0
  | n + 1, i, σ =>
    if b ≤ i then
      1
    else
      if (f_X4_hasRoom σ j 1 (ab (f_X4_stepUnder σ j x (f_X2_digit σ (k + 93) (nI i))))) = 0 then
        0
      else
        gf_X5_feelAll k j x b n (i + 1) (s_X4_sense σ j (f_X2_digit σ (k + 93) (nI i)) (f_X4_stepUnder σ j x (f_X2_digit σ (k + 93) (nI i))) 1)
def gs_X5_feelAll (k j : Nat) (x : Int32) (b : Nat) : Nat → Nat → Sg → Sg
  | 0, _, σ => σ
  | n + 1, i, σ =>
    if b ≤ i then
      σ
    else
      if (f_X4_hasRoom σ j 1 (ab (f_X4_stepUnder σ j x (f_X2_digit σ (k + 93) (nI i))))) = 0 then
        σ
      else
        gs_X5_feelAll k j x b n (i + 1) (s_X4_sense σ j (f_X2_digit σ (k + 93) (nI i)) (f_X4_stepUnder σ j x (f_X2_digit σ (k + 93) (nI i))) 1)
set_option maxHeartbeats 4000000 in
set_option maxRecDepth 100000 in
theorem lp_X5_feelAll {p : Program} {l : Launch} {e : Env} {s : State} {m : MethodId} {args : Array Value} {below : List Frame} {meth : Method} {c : Code} {D : va_G} {cy : Nat → ClassId} {z : Nat} (C : Bd p s m args meth c cX5_feelAll 8 (some .boolean) RX5 D cy z) (o : Int64) (d : UInt64) {k : Nat} (hk : kd k = 5) {j : Nat} (hk_j : kd j = 4) (x : Int32) (b : Nat) {r9 : Int32} {σ9 : Sg} :
    ∀ (n : Nat) (i : Nat) (σ τ : Sg) (H : Heap) (locs : List Loc), (b ≤ 200 ∧ i ≤ 201 ∧ b + 1 ≤ i + n ∧ 1 ≤ n) → (gf_X5_feelAll k j x b n i σ = r9) → (gs_X5_feelAll k j x b n i σ = σ9) → WP D cy z σ τ o d H → va_S (fz z) s.heap H locs → ∀ ls : Array Slot, lv_has ls 8 [(0, .ref (z + k)), (1, .ref (z + j)), (2, .int x), (4, .int (nI b)), (5, .int (nI i))] → W p l e rm_X5_feelAll s m args below meth c H locs 0 0 (MQ below (PoI D cy z o d r9 σ9 τ) args s 0 0 (fz z)) (F0 m 3 ls []) := by
  obtain ⟨hx, hb, hr, hml, hown, hW, hlocks, hAm⟩ := id C
  intro n
  induction n with
  | zero =>
    intro _ σ τ H locs hn9 _ _ hP hS ls hl
    exact absurd hn9 (by omega)
  | succ n ih =>
    intro i σ τ H locs hn9 hr9 hs9 hP hS ls hl
    refine lv_iload hx hb dX5_feelAll_3 (lv_at hl 4 rfl) ?_
    refine lv_iload hx hb dX5_feelAll_5 (lv_at hl 3 rfl) ?_
    refine lv_icmp_ge (tgt := 60) hx hb dX5_feelAll_7 (by decide) (fun c_7 => ?_) (fun c_7 => ?_)
    · have d_7 : b ≤ i := (cI_le rfl rfl (by omega) (by omega)).mp c_7
      refine lv_iconst (v := 1) hx hb dX5_feelAll_60 (by decide) ?_
      exact ret_I C hP hS nar_z1 rfl (by rw [← hr9, gf_X5_feelAll]; rw [if_pos d_7]) (by rw [← hs9, gs_X5_feelAll]; rw [if_pos d_7]) rfl dX5_feelAll_61
    · have d_7 : ¬ (b ≤ i) := fun h9 => c_7 ((cI_le rfl rfl (by omega) (by omega)).mpr h9)
      refine lv_aload_n hx hb dX5_feelAll_10 rfl (lv_at hl 0 rfl) ?_
      refine gf_X5_32 C hP hk dX5_feelAll_11 ?_
      refine lv_iload hx hb dX5_feelAll_14 (lv_at hl 4 rfl) ?_
      refine thn_I (run_V (As := [.int (nI i)]) (rest := []) C (k_X2_digit l D cy z o d σ τ (kd5_93 hk) (nI i)) hP hS cw_X2_digit (mA3 (i := 66) rfl rfl) (kd5_93 hk) ⟨rfl, rfl⟩ ⟨Nat.le_of_ble_eq_true rfl, Nat.le_of_ble_eq_true rfl⟩ rfl (Nat.le_of_ble_eq_true rfl) hl.1 ⟨Nat.zero_le _, Nat.zero_le _⟩ dX5_feelAll_16) hS (fun H locs hP hS => ?_)
      refine lv_istore (lv' := [(6, .int (f_X2_digit σ (k + 93) (nI i))), (0, .ref (z + k)), (1, .ref (z + j)), (2, .int x), (4, .int (nI b)), (5, .int (nI i))]) hx hb dX5_feelAll_19 hl (by decide) rfl (fun ls hl => ?_)
      refine lv_aload_n hx hb dX5_feelAll_21 rfl (lv_at hl 2 rfl) ?_
      refine lv_iload_n hx hb dX5_feelAll_22 rfl (lv_at hl 3 rfl) ?_
      refine lv_iload hx hb dX5_feelAll_23 (lv_at hl 0 rfl) ?_
      refine thn_I (run_V (As := [.int x, .int (f_X2_digit σ (k + 93) (nI i))]) (rest := []) C (k_X4_stepUnder l D cy z o d σ τ hk_j x (f_X2_digit σ (k + 93) (nI i))) hP hS cw_X4_stepUnder (mA2 (i := 117) rfl rfl) hk_j ⟨rfl, rfl⟩ ⟨Nat.le_of_ble_eq_true rfl, Nat.le_of_ble_eq_true rfl⟩ rfl (Nat.le_of_ble_eq_true rfl) hl.1 ⟨Nat.zero_le _, Nat.zero_le _⟩ dX5_feelAll_25) hS (fun H locs hP hS => ?_)
      refine lv_istore (lv' := [(7, .int (f_X4_stepUnder σ j x (f_X2_digit σ (k + 93) (nI i)))), (6, .int (f_X2_digit σ (k + 93) (nI i))), (0, .ref (z + k)), (1, .ref (z + j)), (2, .int x), (4, .int (nI b)), (5, .int (nI i))]) hx hb dX5_feelAll_28 hl (by decide) rfl (fun ls hl => ?_)
      refine lv_aload_n hx hb dX5_feelAll_30 rfl (lv_at hl 3 rfl) ?_
      refine lv_iconst (v := 1) hx hb dX5_feelAll_31 (by decide) ?_
      refine lv_iload hx hb dX5_feelAll_32 (lv_at hl 0 rfl) ?_
      refine g_abs C (mA2 (i := 128) rfl rfl) (Nat.le_of_ble_eq_true rfl) (Nat.le_of_ble_eq_true rfl) ⟨Nat.zero_le _, Nat.zero_le _⟩ hl.1 dX5_feelAll_34 ?_
      refine thn_I (run_V (As := [.int 1, .int (ab (f_X4_stepUnder σ j x (f_X2_digit σ (k + 93) (nI i))))]) (rest := []) C (k_X4_hasRoom l D cy z o d σ τ hk_j 1 (ab (f_X4_stepUnder σ j x (f_X2_digit σ (k + 93) (nI i))))) hP hS cw_X4_hasRoom (mA2 (i := 134) rfl rfl) hk_j ⟨rfl, rfl⟩ ⟨Nat.le_of_ble_eq_true rfl, Nat.le_of_ble_eq_true rfl⟩ rfl (Nat.le_of_ble_eq_true rfl) hl.1 ⟨Nat.zero_le _, Nat.zero_le _⟩ dX5_feelAll_37) hS (fun H locs hP hS => ?_)
      refine lv_if_ne (tgt := 45) hx hb dX5_feelAll_40 (by decide) (fun c_40 => ?_) (fun c_40 => ?_)
      · refine lv_aload_n hx hb dX5_feelAll_45 rfl (lv_at hl 3 rfl) ?_
        refine lv_iload hx hb dX5_feelAll_46 (lv_at hl 1 rfl) ?_
        refine lv_iload hx hb dX5_feelAll_48 (lv_at hl 0 rfl) ?_
        refine lv_iconst (v := 1) hx hb dX5_feelAll_50 (by decide) ?_
        refine thn_V (run_V (As := [.int (f_X2_digit σ (k + 93) (nI i)), .int (f_X4_stepUnder σ j x (f_X2_digit σ (k + 93) (nI i))), .int 1]) (rest := []) C (k_X4_sense l D cy z o d σ τ hk_j (f_X2_digit σ (k + 93) (nI i)) (f_X4_stepUnder σ j x (f_X2_digit σ (k + 93) (nI i))) 1) hP hS cw_X4_sense (mA2 (i := 164) rfl rfl) hk_j ⟨rfl, rfl⟩ ⟨Nat.le_of_ble_eq_true rfl, Nat.le_of_ble_eq_true rfl⟩ rfl (Nat.le_of_ble_eq_true rfl) hl.1 ⟨Nat.zero_le _, Nat.zero_le _⟩ dX5_feelAll_51) hS (fun H locs hP hS => ?_)
        refine lv_iinc (v := nI (i + 1)) (lv' := [(5, .int (nI (i + 1))), (7, .int (f_X4_stepUnder σ j x (f_X2_digit σ (k + 93) (nI i)))), (6, .int (f_X2_digit σ (k + 93) (nI i))), (0, .ref (z + k)), (1, .ref (z + j)), (2, .int x), (4, .int (nI b))]) hx hb dX5_feelAll_54 hl (k := 6) rfl (nI_1 i) (by decide) rfl (fun ls hl => ?_)
        refine lv_goto (tgt := 3) hx hb dX5_feelAll_57 (by decide) ?_
        exact ih (i + 1) (s_X4_sense σ j (f_X2_digit σ (k + 93) (nI i)) (f_X4_stepUnder σ j x (f_X2_digit σ (k + 93) (nI i))) 1) τ _ _ (⟨by omega, by omega, by omega, by omega⟩) (by rw [← hr9, gf_X5_feelAll]; rw [if_neg d_7, if_neg c_40]) (by rw [← hs9, gs_X5_feelAll]; rw [if_neg d_7, if_neg c_40]) hP hS ls (lv_sub hl [3, 4, 5, 6, 0] rfl)
      · refine lv_iconst (v := 0) hx hb dX5_feelAll_43 (by decide) ?_
        exact ret_I C hP hS nar_z0 rfl (by rw [← hr9, gf_X5_feelAll]; rw [if_neg d_7, if_pos c_40]) (by rw [← hs9, gs_X5_feelAll]; rw [if_neg d_7, if_pos c_40]) rfl dX5_feelAll_44
def f_X5_feelAll (σ : Sg) (k : Nat) (j : Nat) (x : Int32) (a : Nat) (b : Nat) : Int32 :=
  gf_X5_feelAll k j x b (b + 1) a σ
def s_X5_feelAll (σ : Sg) (k : Nat) (j : Nat) (x : Int32) (a : Nat) (b : Nat) : Sg :=
  gs_X5_feelAll k j x b (b + 1) a σ
set_option maxHeartbeats 4000000 in
set_option maxRecDepth 100000 in
theorem k_X5_feelAll (l : Launch) (D : va_G) (cy : Nat → ClassId) (z : Nat) (o : Int64) (d : UInt64) (σ τ : Sg) {k : Nat} (hk : kd k = 5) (j : Nat) (hk_j : kd j = 4) (x : Int32) (a : Nat) (b : Nat) (ha : a ≤ 200) (hb9 : b ≤ 200) : KI l yX5_feelAll cX5_feelAll 8 (some .boolean) rm_X5_feelAll D cy z [.ref (z + k), .ref (z + j), .int x, .int (nI a), .int (nI b)] o d σ τ (f_X5_feelAll σ k j x a b) (s_X5_feelAll σ k j x a b) τ := by
  refine met_of RX5 (plainFor_of_name (by decide)) rfl (Nat.le_of_ble_eq_true rfl) ?_
  intro p e s m args below meth c C hP hS ls hl
  obtain ⟨hx, hb, hr, hml, hown, hW, hlocks, hAm⟩ := id C
  have hl : lv_has ls 8 [(0, .ref (z + k)), (1, .ref (z + j)), (2, .int x), (3, .int (nI a)), (4, .int (nI b))] := hl
  refine lv_iload_n hx hb dX5_feelAll_0 rfl (lv_at hl 3 rfl) ?_
  refine lv_istore (lv' := [(5, .int (nI a)), (0, .ref (z + k)), (1, .ref (z + j)), (2, .int x), (3, .int (nI a)), (4, .int (nI b))]) hx hb dX5_feelAll_1 hl (by decide) rfl (fun ls hl => ?_)
  exact lp_X5_feelAll C o d hk hk_j x b (b + 1) a σ τ _ _ (⟨by omega, by omega, by omega, by omega⟩) rfl rfl hP hS ls (lv_sub hl [1, 2, 3, 5, 0] rfl)

theorem gnz_X5_feelAll (k j : Nat) (x : Int32) (b : Nat) : ∀ (n i : Nat) (σ : Sg), gf_X5_feelAll k j x b n i σ = 0 ∨ gf_X5_feelAll k j x b n i σ = 1 := by
  intro n
  induction n with
  | zero => intro i σ; exact Or.inl rfl
  | succ n ih =>
    intro i σ
    rw [gf_X5_feelAll]
    repeat' split
    all_goals first | exact Or.inl rfl | exact Or.inr rfl | exact ih _ _
theorem nz_X5_feelAll (σ : Sg) (k j : Nat) (x : Int32) (a b : Nat) : narrow .boolean (.int (f_X5_feelAll σ k j x a b)) = .int (f_X5_feelAll σ k j x a b) := by
  rcases gnz_X5_feelAll k j x b (b + 1) a σ with h | h
  · rw [show f_X5_feelAll σ k j x a b = 0 from h]; exact nar_z0
  · rw [show f_X5_feelAll σ k j x a b = 1 from h]; exact nar_z1
theorem cw_X5_follow : cwVt yX5_follow cX5_follow 6 (some .boolean) 5 2 := ⟨(mA3 (i := 64) rfl rfl), (mA0 (i := 10) rfl rfl), (mA1 (i := 1) rfl rfl), (mA3 (i := 65) rfl rfl), by decide +kernel, ⟨_, rfl, rfl⟩, by decide⟩
abbrev rm_X5_follow : Room := { frames := 4, cells := 0, slots := 0, locals := 96 }
def f_X5_follow (σ : Sg) (k : Nat) (j : Nat) (a : Nat) : Int32 :=
  if (f_X2_sign σ (k + 93) ((nI a) + 1)) = 109 then
    1
  else
    if (f_X2_sign σ (k + 93) ((nI a) + 1)) = 98 then
      if (f_X4_canRetrace σ (f_X0_snail σ j (f_X2_digit σ (k + 93) (nI a))) (f_X2_number σ (k + 93) ((nI a) + 2))) = 0 then
        0
      else
        1
    else
      f_X5_feelAll σ k (f_X0_snail σ j (f_X2_digit σ (k + 93) (nI a))) (σ j 4) (a + 2) (EO σ (k + 93) a)
def s_X5_follow (σ : Sg) (k : Nat) (j : Nat) (a : Nat) : Sg :=
  if (f_X2_sign σ (k + 93) ((nI a) + 1)) = 109 then
    s_X4_passMark σ (f_X0_snail σ j (f_X2_digit σ (k + 93) (nI a))) (σ j 5)
  else
    if (f_X2_sign σ (k + 93) ((nI a) + 1)) = 98 then
      if (f_X4_canRetrace σ (f_X0_snail σ j (f_X2_digit σ (k + 93) (nI a))) (f_X2_number σ (k + 93) ((nI a) + 2))) = 0 then
        σ
      else
        s_X4_retrace σ (f_X0_snail σ j (f_X2_digit σ (k + 93) (nI a))) (f_X2_number σ (k + 93) ((nI a) + 2))
    else
      s_X5_feelAll σ k (f_X0_snail σ j (f_X2_digit σ (k + 93) (nI a))) (σ j 4) (a + 2) (EO σ (k + 93) a)
set_option maxHeartbeats 4000000 in
set_option maxRecDepth 100000 in
theorem k_X5_follow (l : Launch) (D : va_G) (cy : Nat → ClassId) (z : Nat) (o : Int64) (d : UInt64) (σ τ : Sg) {k : Nat} (hk : kd k = 5) (j : Nat) (hk_j : kd j = 0) (a : Nat) (hG : LGA σ) (hT : TXA σ) (ha : a ≤ 100) : KI l yX5_follow cX5_follow 6 (some .boolean) rm_X5_follow D cy z [.ref (z + k), .ref (z + j), .int (nI a)] o d σ τ (f_X5_follow σ k j a) (s_X5_follow σ k j a) τ := by
  refine met_of RX5 (plainFor_of_name (by decide)) rfl (Nat.le_of_ble_eq_true rfl) ?_
  intro p e s m args below meth c C hP hS ls hl
  obtain ⟨hx, hb, hr, hml, hown, hW, hlocks, hAm⟩ := id C
  have hl : lv_has ls 6 [(0, .ref (z + k)), (1, .ref (z + j)), (2, .int (nI a))] := hl
  refine lv_aload_n hx hb dX5_follow_0 rfl (lv_at hl 1 rfl) ?_
  refine lv_aload_n hx hb dX5_follow_1 rfl (lv_at hl 0 rfl) ?_
  refine gf_X5_32 C hP hk dX5_follow_2 ?_
  refine lv_iload_n hx hb dX5_follow_5 rfl (lv_at hl 2 rfl) ?_
  refine thn_I (run_V (As := [.int (nI a)]) (rest := [.ref (z + j)]) C (k_X2_digit l D cy z o d σ τ (kd5_93 hk) (nI a)) hP hS cw_X2_digit (mA3 (i := 66) rfl rfl) (kd5_93 hk) ⟨rfl, rfl⟩ ⟨Nat.le_of_ble_eq_true rfl, Nat.le_of_ble_eq_true rfl⟩ rfl (Nat.le_of_ble_eq_true rfl) hl.1 ⟨Nat.zero_le _, Nat.zero_le _⟩ dX5_follow_6) hS (fun H locs hP hS => ?_)
  refine thn_R (run_V (As := [.int (f_X2_digit σ (k + 93) (nI a))]) (rest := []) C (k_X0_snail l D cy z o d σ τ hk_j (f_X2_digit σ (k + 93) (nI a))) hP hS cw_X0_snail (mA1 (i := 239) rfl rfl) hk_j ⟨rfl, rfl⟩ ⟨Nat.le_of_ble_eq_true rfl, Nat.le_of_ble_eq_true rfl⟩ rfl (Nat.le_of_ble_eq_true rfl) hl.1 ⟨Nat.zero_le _, Nat.zero_le _⟩ dX5_follow_9) hS (fun H locs hP hS => ?_)
  refine lv_astore_n (lv' := [(3, .ref (z + (f_X0_snail σ j (f_X2_digit σ (k + 93) (nI a))))), (0, .ref (z + k)), (1, .ref (z + j)), (2, .int (nI a))]) hx hb dX5_follow_12 rfl hl (by decide) rfl (fun ls hl => ?_)
  refine lv_aload_n hx hb dX5_follow_13 rfl (lv_at hl 1 rfl) ?_
  refine gf_X5_32 C hP hk dX5_follow_14 ?_
  refine lv_iload_n hx hb dX5_follow_17 rfl (lv_at hl 3 rfl) ?_
  refine lv_iconst (v := 1) hx hb dX5_follow_18 (by decide) ?_
  refine lv_iadd hx hb dX5_follow_19 ?_
  refine thn_I (run_V (As := [.int ((nI a) + 1)]) (rest := []) C (k_X2_sign l D cy z o d σ τ (kd5_93 hk) ((nI a) + 1)) hP hS cw_X2_sign (mA3 (i := 70) rfl rfl) (kd5_93 hk) ⟨rfl, rfl⟩ ⟨Nat.le_of_ble_eq_true rfl, Nat.le_of_ble_eq_true rfl⟩ rfl (Nat.le_of_ble_eq_true rfl) hl.1 ⟨Nat.zero_le _, Nat.zero_le _⟩ dX5_follow_20) hS (fun H locs hP hS => ?_)
  refine lv_istore (lv' := [(4, .int (f_X2_sign σ (k + 93) ((nI a) + 1))), (3, .ref (z + (f_X0_snail σ j (f_X2_digit σ (k + 93) (nI a))))), (0, .ref (z + k)), (1, .ref (z + j)), (2, .int (nI a))]) hx hb dX5_follow_23 hl (by decide) rfl (fun ls hl => ?_)
  refine lv_iload hx hb dX5_follow_25 (lv_at hl 0 rfl) ?_
  refine lv_bipush (v := 109) hx hb dX5_follow_27 (by decide) ?_
  refine lv_icmp_ne (tgt := 43) hx hb dX5_follow_29 (by decide) (fun c_29 => ?_) (fun c_29 => ?_)
  · refine lv_iload hx hb dX5_follow_43 (lv_at hl 0 rfl) ?_
    refine lv_bipush (v := 98) hx hb dX5_follow_45 (by decide) ?_
    refine lv_icmp_eq (tgt := 71) hx hb dX5_follow_47 (by decide) (fun c_47 => ?_) (fun c_47 => ?_)
    · refine lv_aload_n hx hb dX5_follow_71 rfl (lv_at hl 2 rfl) ?_
      refine gf_X5_32 C hP hk dX5_follow_72 ?_
      refine lv_iload_n hx hb dX5_follow_75 rfl (lv_at hl 4 rfl) ?_
      refine lv_iconst (v := 2) hx hb dX5_follow_76 (by decide) ?_
      refine lv_iadd hx hb dX5_follow_77 ?_
      refine thn_I (run_V (As := [.int ((nI a) + 2)]) (rest := []) C (k_X2_number l D cy z o d σ τ (kd5_93 hk) ((nI a) + 2)) hP hS cw_X2_number (mA3 (i := 79) rfl rfl) (kd5_93 hk) ⟨rfl, rfl⟩ ⟨Nat.le_of_ble_eq_true rfl, Nat.le_of_ble_eq_true rfl⟩ rfl (Nat.le_of_ble_eq_true rfl) hl.1 ⟨Nat.zero_le _, Nat.zero_le _⟩ dX5_follow_78) hS (fun H locs hP hS => ?_)
      refine lv_istore (lv' := [(5, .int (f_X2_number σ (k + 93) ((nI a) + 2))), (4, .int (f_X2_sign σ (k + 93) ((nI a) + 1))), (3, .ref (z + (f_X0_snail σ j (f_X2_digit σ (k + 93) (nI a))))), (0, .ref (z + k)), (1, .ref (z + j)), (2, .int (nI a))]) hx hb dX5_follow_81 hl (by decide) rfl (fun ls hl => ?_)
      refine lv_aload_n hx hb dX5_follow_83 rfl (lv_at hl 2 rfl) ?_
      refine lv_iload hx hb dX5_follow_84 (lv_at hl 0 rfl) ?_
      refine thn_I (run_V (As := [.int (f_X2_number σ (k + 93) ((nI a) + 2))]) (rest := []) C (k_X4_canRetrace l D cy z o d σ τ (kr_X0_snail σ hk_j (f_X2_digit σ (k + 93) (nI a))) (f_X2_number σ (k + 93) ((nI a) + 2)) hG (number_bd _ _ _)) hP hS cw_X4_canRetrace (mA2 (i := 224) rfl rfl) (kr_X0_snail σ hk_j (f_X2_digit σ (k + 93) (nI a))) ⟨rfl, rfl⟩ ⟨Nat.le_of_ble_eq_true rfl, Nat.le_of_ble_eq_true rfl⟩ rfl (Nat.le_of_ble_eq_true rfl) hl.1 ⟨Nat.zero_le _, Nat.zero_le _⟩ dX5_follow_86) hS (fun H locs hP hS => ?_)
      refine lv_if_ne (tgt := 94) hx hb dX5_follow_89 (by decide) (fun c_89 => ?_) (fun c_89 => ?_)
      · refine lv_aload_n hx hb dX5_follow_94 rfl (lv_at hl 2 rfl) ?_
        refine lv_iload hx hb dX5_follow_95 (lv_at hl 0 rfl) ?_
        refine thn_V (run_V (As := [.int (f_X2_number σ (k + 93) ((nI a) + 2))]) (rest := []) C (k_X4_retrace l D cy z o d σ τ (kr_X0_snail σ hk_j (f_X2_digit σ (k + 93) (nI a))) (f_X2_number σ (k + 93) ((nI a) + 2)) (number_bd _ _ _).2) hP hS cw_X4_retrace (mA3 (i := 2) rfl rfl) (kr_X0_snail σ hk_j (f_X2_digit σ (k + 93) (nI a))) ⟨rfl, rfl⟩ ⟨Nat.le_of_ble_eq_true rfl, Nat.le_of_ble_eq_true rfl⟩ rfl (Nat.le_of_ble_eq_true rfl) hl.1 ⟨Nat.zero_le _, Nat.zero_le _⟩ dX5_follow_97) hS (fun H locs hP hS => ?_)
        refine lv_iconst (v := 1) hx hb dX5_follow_100 (by decide) ?_
        exact ret_I C hP hS nar_z1 rfl (by unfold f_X5_follow; rw [if_neg c_29, if_pos c_47, if_neg c_89]) (by unfold s_X5_follow; rw [if_neg c_29, if_pos c_47, if_neg c_89]) rfl dX5_follow_101
      · refine lv_iconst (v := 0) hx hb dX5_follow_92 (by decide) ?_
        exact ret_I C hP hS nar_z0 rfl (by unfold f_X5_follow; rw [if_neg c_29, if_pos c_47, if_pos c_89]) (by unfold s_X5_follow; rw [if_neg c_29, if_pos c_47, if_pos c_89]) rfl dX5_follow_93
    · refine lv_aload_n hx hb dX5_follow_50 rfl (lv_at hl 2 rfl) ?_
      refine lv_aload_n hx hb dX5_follow_51 rfl (lv_at hl 1 rfl) ?_
      refine lv_aload_n hx hb dX5_follow_52 rfl (lv_at hl 3 rfl) ?_
      refine gf_X5_51 C hP hk_j dX5_follow_53 ?_
      refine lv_iload_n hx hb dX5_follow_56 rfl (lv_at hl 4 rfl) ?_
      refine lv_iconst (v := 2) hx hb dX5_follow_57 (by decide) ?_
      refine lv_iadd hx hb dX5_follow_58 ?_
      rw [show nI a + 2 = nI (a + 2) from nI_add a 2]
      refine lv_aload_n hx hb dX5_follow_59 rfl (lv_at hl 2 rfl) ?_
      refine gf_X5_32 C hP hk dX5_follow_60 ?_
      refine lv_iload_n hx hb dX5_follow_63 rfl (lv_at hl 4 rfl) ?_
      refine thn_I (run_V (As := [.int (nI a)]) (rest := [.int (nI (a + 2)), .int (σ j 4), .ref (z + (f_X0_snail σ j (f_X2_digit σ (k + 93) (nI a)))), .ref (z + k)]) C (k_X2_endOfOrder l D cy z o d σ τ (kd5_93 hk) a hT (by omega)) hP hS cw_X2_endOfOrder (mA3 (i := 71) rfl rfl) (kd5_93 hk) ⟨rfl, rfl⟩ ⟨Nat.le_of_ble_eq_true rfl, Nat.le_of_ble_eq_true rfl⟩ rfl (Nat.le_of_ble_eq_true rfl) hl.1 ⟨Nat.zero_le _, Nat.zero_le _⟩ dX5_follow_64) hS (fun H locs hP hS => ?_)
      have he9 := (eo_of (a := a) hT (kd5_93 hk)).2
      rw [(eo_of hT (kd5_93 hk)).1]
      refine thn_I (run_V (As := [.ref (z + (f_X0_snail σ j (f_X2_digit σ (k + 93) (nI a)))), .int (σ j 4), .int (nI (a + 2)), .int (nI (EO σ (k + 93) a))]) (rest := []) C (k_X5_feelAll l D cy z o d σ τ hk (f_X0_snail σ j (f_X2_digit σ (k + 93) (nI a))) (kr_X0_snail σ hk_j (f_X2_digit σ (k + 93) (nI a))) (σ j 4) (a + 2) (EO σ (k + 93) a) (by omega) (by omega)) hP hS cw_X5_feelAll (mA3 (i := 75) rfl rfl) hk ⟨rfl, rfl⟩ ⟨Nat.le_of_ble_eq_true rfl, Nat.le_of_ble_eq_true rfl⟩ rfl (Nat.le_of_ble_eq_true rfl) hl.1 ⟨Nat.zero_le _, Nat.zero_le _⟩ dX5_follow_67) hS (fun H locs hP hS => ?_)
      exact ret_I C hP hS (nz_X5_feelAll _ _ _ _ _ _) rfl (by unfold f_X5_follow; rw [if_neg c_29, if_neg c_47]) (by unfold s_X5_follow; rw [if_neg c_29, if_neg c_47]) rfl dX5_follow_70
  · refine lv_aload_n hx hb dX5_follow_32 rfl (lv_at hl 1 rfl) ?_
    refine lv_aload_n hx hb dX5_follow_33 rfl (lv_at hl 3 rfl) ?_
    refine gf_X5_87 C hP hk_j dX5_follow_34 ?_
    refine thn_I (run_V (As := [.int (σ j 5)]) (rest := []) C (k_X4_passMark l D cy z o d σ τ (kr_X0_snail σ hk_j (f_X2_digit σ (k + 93) (nI a))) (σ j 5)) hP hS cw_X4_passMark (mA2 (i := 205) rfl rfl) (kr_X0_snail σ hk_j (f_X2_digit σ (k + 93) (nI a))) ⟨rfl, rfl⟩ ⟨Nat.le_of_ble_eq_true rfl, Nat.le_of_ble_eq_true rfl⟩ rfl (Nat.le_of_ble_eq_true rfl) hl.1 ⟨Nat.zero_le _, Nat.zero_le _⟩ dX5_follow_37) hS (fun H locs hP hS => ?_)
    refine lv_pop hx hb dX5_follow_40 rfl ?_
    refine lv_iconst (v := 1) hx hb dX5_follow_41 (by decide) ?_
    exact ret_I C hP hS nar_z1 rfl (by unfold f_X5_follow; rw [if_pos c_29]) (by unfold s_X5_follow; rw [if_pos c_29]) rfl dX5_follow_42

theorem fr_gfeelAll {P : Nat → Prop} {σ : Sg} {k j : Nat} {x : Int32} {b : Nat} (hk : P j) (hk1 : P (j + 1)) (hk2 : P (j + 2)) : ∀ (n i : Nat) (σ' : Sg), Fr P σ σ' → Fr P σ (gs_X5_feelAll k j x b n i σ') := by
  intro n
  induction n with
  | zero => exact fun i σ' h => h
  | succ n ih =>
    intro i σ' h
    rw [gs_X5_feelAll]
    repeat' split
    · exact h
    · exact h
    · exact ih _ _ (fr_sense h hk hk1 hk2)
theorem LGA_gfeelAll {k j : Nat} {x : Int32} {b : Nat} (hj : kd j = 4) : ∀ (n i : Nat) (σ : Sg), LGA σ → LGA (gs_X5_feelAll k j x b n i σ) := by
  intro n
  induction n with
  | zero => exact fun i σ' h => h
  | succ n ih =>
    intro i σ h
    rw [gs_X5_feelAll]
    repeat' split
    · exact h
    · exact h
    · exact ih _ _ (LGA_sense h hj)
theorem fr_follow {P : Nat → Prop} {σ : Sg} {k j a : Nat} (h : ∀ x, P (f_X0_snail σ j x) ∧ P (f_X0_snail σ j x + 1) ∧ P (f_X0_snail σ j x + 2)) : Fr P σ (s_X5_follow σ k j a) := by
  unfold s_X5_follow s_X5_feelAll
  repeat' split
  · exact fr_passMark Fr.rf (h _).1
  · exact Fr.rf
  · exact fr_retrace Fr.rf (h _).1 (h _).2.1
  · exact fr_gfeelAll (h _).1 (h _).2.1 (h _).2.2 _ _ _ Fr.rf
theorem LGA_follow {σ : Sg} {k j a : Nat} (hG : LGA σ) (hj : kd j = 0) : LGA (s_X5_follow σ k j a) := by
  have hs := fun x => kr_X0_snail σ hj x
  unfold s_X5_follow s_X5_feelAll
  repeat' split
  · exact LGA_passMark hG (hs _)
  · exact hG
  · exact LGA_retrace hG (hs _)
  · exact LGA_gfeelAll (hs _) _ _ _ hG
theorem TXA_follow {σ : Sg} {k j a : Nat} (hT : TXA σ) (hj : kd j = 0) : TXA (s_X5_follow σ k j a) := by
  refine hT.fr (P := fun q => kd q ≠ 2) (fr_follow fun x => ?_) (fun q hq h => h hq)
  have h4 := kr_X0_snail σ hj x
  have h1 := kd4_1 h4
  have h7 : kd (f_X0_snail σ j x + 2) = 7 := kd1_1 h1
  exact ⟨by omega, by omega, by omega⟩

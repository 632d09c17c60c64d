abbrev rm_X6_isOrdered_1 : Room := { frames := 5, cells := 0, slots := 0, locals := 115 }
def gf_X6_isOrdered_1 (j : Nat) : Nat → Int32 → Sg → Int32
  | 0, _, _ => 0
  | n + 1, x3, τ =>
    if x3 = 0 then
      x3
    else
      if (f_X6_isNext τ 48 51) = 0 then
        x3
      else
        gf_X6_isOrdered_1 j n (f_X6_isFelt_1 τ j) (t_X6_isFelt_1 τ j)
def gt_X6_isOrdered_1 (j : Nat) : Nat → Int32 → Sg → Sg
  | 0, _, τ => τ
  | n + 1, x3, τ =>
    if x3 = 0 then
      τ
    else
      if (f_X6_isNext τ 48 51) = 0 then
        τ
      else
        gt_X6_isOrdered_1 j n (f_X6_isFelt_1 τ j) (t_X6_isFelt_1 τ j)
set_option maxHeartbeats 4000000 in
set_option maxRecDepth 100000 in
theorem lp_X6_isOrdered_1 {p : Program} {l : Launch} {e : Env} {s : State} {m : MethodId} {args : Array Value} {below : List Frame} {meth : Method} {c : Code} {D : va_G} {cy : Nat → ClassId} {z : Nat} (C : Bd p s m args meth c cX6_isOrdered 7 (some .boolean) RX6 D cy z) (o : Int64) (d : UInt64) {k : Nat} (hk : kd k = 6) (j : Nat) {r9 : Int32} {τ9 : Sg} :
    ∀ (n : Nat) (x3 : Int32) (σ τ : Sg) (H : Heap) (locs : List Loc), (narrow .boolean (.int x3) = .int x3) → (MI τ) → (j < 4) → (TT τ) → (MA τ ≤ 80 ∧ 82 ≤ MA τ + n) → (gf_X6_isOrdered_1 j n x3 τ = r9) → (gt_X6_isOrdered_1 j n x3 τ = τ9) → WP D cy z σ τ o d H → va_S (fz z) s.heap H locs → ∀ ls : Array Slot, lv_has ls 7 [(0, .ref (z + k)), (1, .int 1), (2, .int (nI j)), (3, .int x3)] → W p l e rm_X6_isOrdered_1 s m args below meth c H locs 0 0 (MQ below (PoI D cy z o d r9 σ τ9) args s 0 0 (fz z)) (F0 m 40 ls []) := by
  obtain ⟨hx, hb, hr, hml, hown, hW, hlocks, hAm⟩ := id C
  intro n
  induction n with
  | zero =>
    intro _ σ τ H locs hz9 hM hj hTT hn9 _ _ hP hS ls hl
    exact absurd hn9 (by omega)
  | succ n ih =>
    intro x3 σ τ H locs hz9 hM hj hTT hn9 hr9 ht9 hP hS ls hl
    refine lv_iload_n hx hb dX6_isOrdered_40 rfl (lv_at hl 3 rfl) ?_
    refine lv_if_eq (tgt := 65) hx hb dX6_isOrdered_41 (by decide) (fun c_41 => ?_) (fun c_41 => ?_)
    · refine lv_iload_n hx hb dX6_isOrdered_65 rfl (lv_at hl 3 rfl) ?_
      exact ret_I C hP hS hz9 rfl (by rw [← hr9, gf_X6_isOrdered_1]; rw [if_pos c_41]) rfl (by rw [← ht9, gt_X6_isOrdered_1]; rw [if_pos c_41]) dX6_isOrdered_66
    · refine lv_aload_n hx hb dX6_isOrdered_44 rfl (lv_at hl 0 rfl) ?_
      refine lv_bipush (v := 48) hx hb dX6_isOrdered_45 (by decide) ?_
      refine lv_bipush (v := 51) hx hb dX6_isOrdered_47 (by decide) ?_
      refine thn_I (run_V (As := [.int 48, .int 51]) (rest := []) C (k_X6_isNext l D cy z o d σ τ hk 48 51 hTT) hP hS cw_X6_isNext (mA4 (i := 167) rfl rfl) hk ⟨rfl, rfl⟩ ⟨Nat.le_of_ble_eq_true rfl, Nat.le_of_ble_eq_true rfl⟩ rfl (Nat.le_of_ble_eq_true rfl) hl.1 ⟨Nat.zero_le _, Nat.zero_le _⟩ dX6_isOrdered_49) hS (fun H locs hP hS => ?_)
      refine lv_if_eq (tgt := 65) hx hb dX6_isOrdered_52 (by decide) (fun c_52 => ?_) (fun c_52 => ?_)
      · refine lv_iload_n hx hb dX6_isOrdered_65 rfl (lv_at hl 3 rfl) ?_
        exact ret_I C hP hS hz9 rfl (by rw [← hr9, gf_X6_isOrdered_1]; rw [if_neg c_41, if_pos c_52]) rfl (by rw [← ht9, gt_X6_isOrdered_1]; rw [if_neg c_41, if_pos c_52]) dX6_isOrdered_66
      · refine lv_aload_n hx hb dX6_isOrdered_55 rfl (lv_at hl 0 rfl) ?_
        refine lv_iload_n hx hb dX6_isOrdered_56 rfl (lv_at hl 2 rfl) ?_
        refine lv_iload_n hx hb dX6_isOrdered_57 rfl (lv_at hl 1 rfl) ?_
        refine thn_I (run_V (As := [.int (nI j), .int 1]) (rest := []) C (k_X6_isFelt_1 l D cy z o d σ τ hk j hM hj hTT) hP hS cw_X6_isFelt (mA4 (i := 171) rfl rfl) hk ⟨rfl, rfl⟩ ⟨Nat.le_of_ble_eq_true rfl, Nat.le_of_ble_eq_true rfl⟩ rfl (Nat.le_of_ble_eq_true rfl) hl.1 ⟨Nat.zero_le _, Nat.zero_le _⟩ dX6_isOrdered_58) hS (fun H locs hP hS => ?_)
        refine lv_istore_n (lv' := [(3, .int (f_X6_isFelt_1 τ j)), (0, .ref (z + k)), (1, .int 1), (2, .int (nI j))]) hx hb dX6_isOrdered_61 rfl hl (by decide) rfl (fun ls hl => ?_)
        refine lv_goto (tgt := 40) hx hb dX6_isOrdered_62 (by decide) ?_
        exact ih (f_X6_isFelt_1 τ j) σ (t_X6_isFelt_1 τ j) _ _ (nz_X6_isFelt_1 _ _) (felt1_mi hM hj) hj (felt1_tt hTT) (⟨(felt1_tt hTT).2.of.2, by rw [felt1_ma hTT c_52]; omega⟩) (by rw [← hr9, gf_X6_isOrdered_1]; rw [if_neg c_41, if_neg c_52]) (by rw [← ht9, gt_X6_isOrdered_1]; rw [if_neg c_41, if_neg c_52]) hP hS ls (lv_sub hl [1, 2, 3, 0] rfl)
def f_X6_isOrdered_1 (τ : Sg) : Int32 :=
  if (f_X6_isNext (t_X6_sign τ 48 51) 58 58) = 0 then
    if (f_X6_isNext (t_X6_sign τ 48 51) 109 109) = 0 then
      if ((f_X6_sign (t_X6_sign (t_X6_sign τ 48 51) 98 98) 49 57) - 48) = 1 then
        if (f_X6_isNext (t_X6_sign (t_X6_sign (t_X6_sign τ 48 51) 98 98) 49 57) 48 54) = 0 then
          if (f_X6_canGoBack (t_X6_sign (t_X6_sign (t_X6_sign τ 48 51) 98 98) 49 57) (SJ τ) (NB (f_X6_sign (t_X6_sign (t_X6_sign τ 48 51) 98 98) 49 57))) = 0 then
            f_X6_canGoBack (t_X6_sign (t_X6_sign (t_X6_sign τ 48 51) 98 98) 49 57) (SJ τ) (NB (f_X6_sign (t_X6_sign (t_X6_sign τ 48 51) 98 98) 49 57))
          else
            f_X6_canGoBack (t_X6_sign (t_X6_sign (t_X6_sign τ 48 51) 98 98) 49 57) (SJ τ) (NB (f_X6_sign (t_X6_sign (t_X6_sign τ 48 51) 98 98) 49 57))
        else
          if (f_X6_canGoBack (t_X6_sign (t_X6_sign (t_X6_sign (t_X6_sign τ 48 51) 98 98) 49 57) 48 54) (SJ τ) (10 + NB (f_X6_sign (t_X6_sign (t_X6_sign (t_X6_sign τ 48 51) 98 98) 49 57) 48 54))) = 0 then
            f_X6_canGoBack (t_X6_sign (t_X6_sign (t_X6_sign (t_X6_sign τ 48 51) 98 98) 49 57) 48 54) (SJ τ) (10 + NB (f_X6_sign (t_X6_sign (t_X6_sign (t_X6_sign τ 48 51) 98 98) 49 57) 48 54))
          else
            f_X6_canGoBack (t_X6_sign (t_X6_sign (t_X6_sign (t_X6_sign τ 48 51) 98 98) 49 57) 48 54) (SJ τ) (10 + NB (f_X6_sign (t_X6_sign (t_X6_sign (t_X6_sign τ 48 51) 98 98) 49 57) 48 54))
      else
        if (f_X6_canGoBack (t_X6_sign (t_X6_sign (t_X6_sign τ 48 51) 98 98) 49 57) (SJ τ) (NB (f_X6_sign (t_X6_sign (t_X6_sign τ 48 51) 98 98) 49 57))) = 0 then
          f_X6_canGoBack (t_X6_sign (t_X6_sign (t_X6_sign τ 48 51) 98 98) 49 57) (SJ τ) (NB (f_X6_sign (t_X6_sign (t_X6_sign τ 48 51) 98 98) 49 57))
        else
          f_X6_canGoBack (t_X6_sign (t_X6_sign (t_X6_sign τ 48 51) 98 98) 49 57) (SJ τ) (NB (f_X6_sign (t_X6_sign (t_X6_sign τ 48 51) 98 98) 49 57))
    else
      1
  else
    gf_X6_isOrdered_1 (SJ τ) 82 (f_X6_isFelt_1 (up (t_X6_sign τ 48 51) 0 9 (((t_X6_sign τ 48 51) 0 9) + 1)) (SJ τ)) (t_X6_isFelt_1 (up (t_X6_sign τ 48 51) 0 9 (((t_X6_sign τ 48 51) 0 9) + 1)) (SJ τ))
def t_X6_isOrdered_1 (τ : Sg) : Sg :=
  if (f_X6_isNext (t_X6_sign τ 48 51) 58 58) = 0 then
    if (f_X6_isNext (t_X6_sign τ 48 51) 109 109) = 0 then
      if ((f_X6_sign (t_X6_sign (t_X6_sign τ 48 51) 98 98) 49 57) - 48) = 1 then
        if (f_X6_isNext (t_X6_sign (t_X6_sign (t_X6_sign τ 48 51) 98 98) 49 57) 48 54) = 0 then
          if (f_X6_canGoBack (t_X6_sign (t_X6_sign (t_X6_sign τ 48 51) 98 98) 49 57) (SJ τ) (NB (f_X6_sign (t_X6_sign (t_X6_sign τ 48 51) 98 98) 49 57))) = 0 then
            t_X6_sign (t_X6_sign (t_X6_sign τ 48 51) 98 98) 49 57
          else
            t_X6_goesBack (t_X6_sign (t_X6_sign (t_X6_sign τ 48 51) 98 98) 49 57) (SJ τ) (NB (f_X6_sign (t_X6_sign (t_X6_sign τ 48 51) 98 98) 49 57))
        else
          if (f_X6_canGoBack (t_X6_sign (t_X6_sign (t_X6_sign (t_X6_sign τ 48 51) 98 98) 49 57) 48 54) (SJ τ) (10 + NB (f_X6_sign (t_X6_sign (t_X6_sign (t_X6_sign τ 48 51) 98 98) 49 57) 48 54))) = 0 then
            t_X6_sign (t_X6_sign (t_X6_sign (t_X6_sign τ 48 51) 98 98) 49 57) 48 54
          else
            t_X6_goesBack (t_X6_sign (t_X6_sign (t_X6_sign (t_X6_sign τ 48 51) 98 98) 49 57) 48 54) (SJ τ) (10 + NB (f_X6_sign (t_X6_sign (t_X6_sign (t_X6_sign τ 48 51) 98 98) 49 57) 48 54))
      else
        if (f_X6_canGoBack (t_X6_sign (t_X6_sign (t_X6_sign τ 48 51) 98 98) 49 57) (SJ τ) (NB (f_X6_sign (t_X6_sign (t_X6_sign τ 48 51) 98 98) 49 57))) = 0 then
          t_X6_sign (t_X6_sign (t_X6_sign τ 48 51) 98 98) 49 57
        else
          t_X6_goesBack (t_X6_sign (t_X6_sign (t_X6_sign τ 48 51) 98 98) 49 57) (SJ τ) (NB (f_X6_sign (t_X6_sign (t_X6_sign τ 48 51) 98 98) 49 57))
    else
      t_X6_meets (up (t_X6_sign τ 48 51) 0 9 (((t_X6_sign τ 48 51) 0 9) + 1)) (SJ τ)
  else
    gt_X6_isOrdered_1 (SJ τ) 82 (f_X6_isFelt_1 (up (t_X6_sign τ 48 51) 0 9 (((t_X6_sign τ 48 51) 0 9) + 1)) (SJ τ)) (t_X6_isFelt_1 (up (t_X6_sign τ 48 51) 0 9 (((t_X6_sign τ 48 51) 0 9) + 1)) (SJ τ))
set_option maxHeartbeats 4000000 in
set_option maxRecDepth 100000 in
theorem k_X6_isOrdered_1 (l : Launch) (D : va_G) (cy : Nat → ClassId) (z : Nat) (o : Int64) (d : UInt64) (σ τ : Sg) {k : Nat} (hk : kd k = 6) (hM : MI τ) (hTT : TT τ) (hB : (t_X6_isOrdered_0 τ) 0 10 = 0) : KI l yX6_isOrdered cX6_isOrdered 7 (some .boolean) rm_X6_isOrdered_1 D cy z [.ref (z + k), .int 1] o d σ τ (f_X6_isOrdered_1 τ) σ (t_X6_isOrdered_1 τ) := by
  refine met_of RX6 (plainFor_of_name (by decide)) rfl (Nat.le_of_ble_eq_true rfl) ?_
  intro p e s m args below meth c C hP hS ls hl
  obtain ⟨hx, hb, hr, hml, hown, hW, hlocks, hAm⟩ := id C
  have hl : lv_has ls 7 [(0, .ref (z + k)), (1, .int 1)] := hl
  have hj9 := sj_of (ord0_b1 hB)
  refine lv_aload_n hx hb dX6_isOrdered_0 rfl (lv_at hl 0 rfl) ?_
  refine lv_bipush (v := 48) hx hb dX6_isOrdered_1 (by decide) ?_
  refine lv_bipush (v := 51) hx hb dX6_isOrdered_3 (by decide) ?_
  refine thn_I (run_V (As := [.int 48, .int 51]) (rest := []) C (k_X6_sign l D cy z o d σ τ hk 48 51 hTT) hP hS cw_X6_sign (mA4 (i := 163) rfl rfl) hk ⟨rfl, rfl⟩ ⟨Nat.le_of_ble_eq_true rfl, Nat.le_of_ble_eq_true rfl⟩ rfl (Nat.le_of_ble_eq_true rfl) hl.1 ⟨Nat.zero_le _, Nat.zero_le _⟩ dX6_isOrdered_5) hS (fun H locs hP hS => ?_)
  refine lv_bipush (v := 48) hx hb dX6_isOrdered_8 (by decide) ?_
  refine lv_isub hx hb dX6_isOrdered_10 ?_
  rw [hj9.1]
  refine lv_istore_n (lv' := [(2, .int (nI (SJ τ))), (0, .ref (z + k)), (1, .int 1)]) hx hb dX6_isOrdered_11 rfl hl (by decide) rfl (fun ls hl => ?_)
  refine lv_aload_n hx hb dX6_isOrdered_12 rfl (lv_at hl 1 rfl) ?_
  refine lv_bipush (v := 58) hx hb dX6_isOrdered_13 (by decide) ?_
  refine lv_bipush (v := 58) hx hb dX6_isOrdered_15 (by decide) ?_
  refine thn_I (run_V (As := [.int 58, .int 58]) (rest := []) C (k_X6_isNext l D cy z o d σ (t_X6_sign τ 48 51) hk 58 58 (hTT.sign (by decide))) hP hS cw_X6_isNext (mA4 (i := 167) rfl rfl) hk ⟨rfl, rfl⟩ ⟨Nat.le_of_ble_eq_true rfl, Nat.le_of_ble_eq_true rfl⟩ rfl (Nat.le_of_ble_eq_true rfl) hl.1 ⟨Nat.zero_le _, Nat.zero_le _⟩ dX6_isOrdered_17) hS (fun H locs hP hS => ?_)
  refine lv_if_eq (tgt := 67) hx hb dX6_isOrdered_20 (by decide) (fun c_20 => ?_) (fun c_20 => ?_)
  · refine lv_aload_n hx hb dX6_isOrdered_67 rfl (lv_at hl 1 rfl) ?_
    refine lv_bipush (v := 109) hx hb dX6_isOrdered_68 (by decide) ?_
    refine lv_bipush (v := 109) hx hb dX6_isOrdered_70 (by decide) ?_
    refine thn_I (run_V (As := [.int 109, .int 109]) (rest := []) C (k_X6_isNext l D cy z o d σ (t_X6_sign τ 48 51) hk 109 109 (hTT.sign (by decide))) hP hS cw_X6_isNext (mA4 (i := 167) rfl rfl) hk ⟨rfl, rfl⟩ ⟨Nat.le_of_ble_eq_true rfl, Nat.le_of_ble_eq_true rfl⟩ rfl (Nat.le_of_ble_eq_true rfl) hl.1 ⟨Nat.zero_le _, Nat.zero_le _⟩ dX6_isOrdered_72) hS (fun H locs hP hS => ?_)
    refine lv_if_eq (tgt := 104) hx hb dX6_isOrdered_75 (by decide) (fun c_75 => ?_) (fun c_75 => ?_)
    · refine lv_aload_n hx hb dX6_isOrdered_104 rfl (lv_at hl 1 rfl) ?_
      refine lv_bipush (v := 98) hx hb dX6_isOrdered_105 (by decide) ?_
      refine lv_bipush (v := 98) hx hb dX6_isOrdered_107 (by decide) ?_
      refine thn_I (run_V (As := [.int 98, .int 98]) (rest := []) C (k_X6_sign l D cy z o d σ (t_X6_sign τ 48 51) hk 98 98 (hTT.sign (by decide))) hP hS cw_X6_sign (mA4 (i := 163) rfl rfl) hk ⟨rfl, rfl⟩ ⟨Nat.le_of_ble_eq_true rfl, Nat.le_of_ble_eq_true rfl⟩ rfl (Nat.le_of_ble_eq_true rfl) hl.1 ⟨Nat.zero_le _, Nat.zero_le _⟩ dX6_isOrdered_109) hS (fun H locs hP hS => ?_)
      have hbn9 := ord0_bn hB c_20 c_75
      refine lv_istore_n (lv' := [(3, .int (f_X6_sign (t_X6_sign τ 48 51) 98 98)), (2, .int (nI (SJ τ))), (0, .ref (z + k)), (1, .int 1)]) hx hb dX6_isOrdered_112 rfl hl (by decide) rfl (fun ls hl => ?_)
      refine lv_aload_n hx hb dX6_isOrdered_113 rfl (lv_at hl 2 rfl) ?_
      refine lv_bipush (v := 49) hx hb dX6_isOrdered_114 (by decide) ?_
      refine lv_bipush (v := 57) hx hb dX6_isOrdered_116 (by decide) ?_
      refine thn_I (run_V (As := [.int 49, .int 57]) (rest := []) C (k_X6_sign l D cy z o d σ (t_X6_sign (t_X6_sign τ 48 51) 98 98) hk 49 57 ((hTT.sign (by decide)).sign (by decide))) hP hS cw_X6_sign (mA4 (i := 163) rfl rfl) hk ⟨rfl, rfl⟩ ⟨Nat.le_of_ble_eq_true rfl, Nat.le_of_ble_eq_true rfl⟩ rfl (Nat.le_of_ble_eq_true rfl) hl.1 ⟨Nat.zero_le _, Nat.zero_le _⟩ dX6_isOrdered_118) hS (fun H locs hP hS => ?_)
      refine lv_bipush (v := 48) hx hb dX6_isOrdered_121 (by decide) ?_
      refine lv_isub hx hb dX6_isOrdered_123 ?_
      refine lv_istore (lv' := [(4, .int ((f_X6_sign (t_X6_sign (t_X6_sign τ 48 51) 98 98) 49 57) - 48)), (3, .int (f_X6_sign (t_X6_sign τ 48 51) 98 98)), (2, .int (nI (SJ τ))), (0, .ref (z + k)), (1, .int 1)]) hx hb dX6_isOrdered_124 hl (by decide) rfl (fun ls hl => ?_)
      refine lv_iload hx hb dX6_isOrdered_126 (lv_at hl 0 rfl) ?_
      refine lv_iconst (v := 1) hx hb dX6_isOrdered_128 (by decide) ?_
      refine lv_icmp_ne (tgt := 160) hx hb dX6_isOrdered_129 (by decide) (fun c_129 => ?_) (fun c_129 => ?_)
      · refine lv_iload hx hb dX6_isOrdered_160 (lv_at hl 0 rfl) ?_
        have hN9 := (nb_of hbn9).2
        rw [(nb_of hbn9).1]
        refine lv_istore (lv' := [(4, .int (nI (NB (f_X6_sign (t_X6_sign (t_X6_sign τ 48 51) 98 98) 49 57)))), (3, .int (f_X6_sign (t_X6_sign τ 48 51) 98 98)), (2, .int (nI (SJ τ))), (0, .ref (z + k)), (1, .int 1)]) hx hb dX6_isOrdered_162 hl (by decide) rfl (fun ls hl => ?_)
        refine lv_iload_n hx hb dX6_isOrdered_164 rfl (lv_at hl 4 rfl) ?_
        refine lv_if_eq (tgt := 198) hx hb dX6_isOrdered_165 (by decide) (fun c_165 => ?_) (fun c_165 => ?_)
        · exact absurd c_165 (by decide : ¬ (1:Int32) = 0)
        · refine lv_aload_n hx hb dX6_isOrdered_168 rfl (lv_at hl 3 rfl) ?_
          refine lv_iload_n hx hb dX6_isOrdered_169 rfl (lv_at hl 2 rfl) ?_
          refine lv_iload hx hb dX6_isOrdered_170 (lv_at hl 0 rfl) ?_
          refine thn_I (run_V (As := [.int (nI (SJ τ)), .int (nI (NB (f_X6_sign (t_X6_sign (t_X6_sign τ 48 51) 98 98) 49 57)))]) (rest := []) C (k_X6_canGoBack l D cy z o d σ (t_X6_sign (t_X6_sign (t_X6_sign τ 48 51) 98 98) 49 57) hk (SJ τ) (NB (f_X6_sign (t_X6_sign (t_X6_sign τ 48 51) 98 98) 49 57)) hM.sign.sign.sign hj9.2 (by omega)) hP hS cw_X6_canGoBack (mA4 (i := 127) rfl rfl) hk ⟨rfl, rfl⟩ ⟨Nat.le_of_ble_eq_true rfl, Nat.le_of_ble_eq_true rfl⟩ rfl (Nat.le_of_ble_eq_true rfl) hl.1 ⟨Nat.zero_le _, Nat.zero_le _⟩ dX6_isOrdered_172) hS (fun H locs hP hS => ?_)
          refine lv_istore (lv' := [(5, .int (f_X6_canGoBack (t_X6_sign (t_X6_sign (t_X6_sign τ 48 51) 98 98) 49 57) (SJ τ) (NB (f_X6_sign (t_X6_sign (t_X6_sign τ 48 51) 98 98) 49 57)))), (4, .int (nI (NB (f_X6_sign (t_X6_sign (t_X6_sign τ 48 51) 98 98) 49 57)))), (3, .int (f_X6_sign (t_X6_sign τ 48 51) 98 98)), (2, .int (nI (SJ τ))), (0, .ref (z + k)), (1, .int 1)]) hx hb dX6_isOrdered_175 hl (by decide) rfl (fun ls hl => ?_)
          refine lv_iload hx hb dX6_isOrdered_177 (lv_at hl 0 rfl) ?_
          refine lv_if_eq (tgt := 192) hx hb dX6_isOrdered_179 (by decide) (fun c_179 => ?_) (fun c_179 => ?_)
          · refine lv_iconst (v := 0) hx hb dX6_isOrdered_192 (by decide) ?_
            refine lv_istore (lv' := [(6, .int 0), (5, .int (f_X6_canGoBack (t_X6_sign (t_X6_sign (t_X6_sign τ 48 51) 98 98) 49 57) (SJ τ) (NB (f_X6_sign (t_X6_sign (t_X6_sign τ 48 51) 98 98) 49 57)))), (4, .int (nI (NB (f_X6_sign (t_X6_sign (t_X6_sign τ 48 51) 98 98) 49 57)))), (3, .int (f_X6_sign (t_X6_sign τ 48 51) 98 98)), (2, .int (nI (SJ τ))), (0, .ref (z + k)), (1, .int 1)]) hx hb dX6_isOrdered_193 hl (by decide) rfl (fun ls hl => ?_)
            refine lv_iload hx hb dX6_isOrdered_195 (lv_at hl 1 rfl) ?_
            exact ret_I C hP hS (nz_X6_canGoBack _ _ _) rfl (by unfold f_X6_isOrdered_1; rw [if_pos c_20, if_pos c_75, if_neg c_129, if_pos c_179]) rfl (by unfold t_X6_isOrdered_1; rw [if_pos c_20, if_pos c_75, if_neg c_129, if_pos c_179]) dX6_isOrdered_197
          · refine lv_aload_n hx hb dX6_isOrdered_182 rfl (lv_at hl 4 rfl) ?_
            refine lv_iload_n hx hb dX6_isOrdered_183 rfl (lv_at hl 3 rfl) ?_
            refine lv_iload hx hb dX6_isOrdered_184 (lv_at hl 1 rfl) ?_
            refine thn_I (run_V (As := [.int (nI (SJ τ)), .int (nI (NB (f_X6_sign (t_X6_sign (t_X6_sign τ 48 51) 98 98) 49 57)))]) (rest := []) C (k_X6_goesBack l D cy z o d σ (t_X6_sign (t_X6_sign (t_X6_sign τ 48 51) 98 98) 49 57) hk (SJ τ) (NB (f_X6_sign (t_X6_sign (t_X6_sign τ 48 51) 98 98) 49 57)) hM.sign.sign.sign hj9.2 (by omega) (gb_le' c_179)) hP hS cw_X6_goesBack (mA4 (i := 131) rfl rfl) hk ⟨rfl, rfl⟩ ⟨Nat.le_of_ble_eq_true rfl, Nat.le_of_ble_eq_true rfl⟩ rfl (Nat.le_of_ble_eq_true rfl) hl.1 ⟨Nat.zero_le _, Nat.zero_le _⟩ dX6_isOrdered_186) hS (fun H locs hP hS => ?_)
            refine lv_goto (tgt := 193) hx hb dX6_isOrdered_189 (by decide) ?_
            refine lv_istore (lv' := [(6, .int (f_X6_goesBack (t_X6_sign (t_X6_sign (t_X6_sign τ 48 51) 98 98) 49 57) (SJ τ) (NB (f_X6_sign (t_X6_sign (t_X6_sign τ 48 51) 98 98) 49 57)))), (5, .int (f_X6_canGoBack (t_X6_sign (t_X6_sign (t_X6_sign τ 48 51) 98 98) 49 57) (SJ τ) (NB (f_X6_sign (t_X6_sign (t_X6_sign τ 48 51) 98 98) 49 57)))), (4, .int (nI (NB (f_X6_sign (t_X6_sign (t_X6_sign τ 48 51) 98 98) 49 57)))), (3, .int (f_X6_sign (t_X6_sign τ 48 51) 98 98)), (2, .int (nI (SJ τ))), (0, .ref (z + k)), (1, .int 1)]) hx hb dX6_isOrdered_193 hl (by decide) rfl (fun ls hl => ?_)
            refine lv_iload hx hb dX6_isOrdered_195 (lv_at hl 1 rfl) ?_
            exact ret_I C hP hS (nz_X6_canGoBack _ _ _) rfl (by unfold f_X6_isOrdered_1; rw [if_pos c_20, if_pos c_75, if_neg c_129, if_neg c_179]) rfl (by unfold t_X6_isOrdered_1; rw [if_pos c_20, if_pos c_75, if_neg c_129, if_neg c_179]) dX6_isOrdered_197
      · refine lv_aload_n hx hb dX6_isOrdered_132 rfl (lv_at hl 3 rfl) ?_
        refine lv_bipush (v := 48) hx hb dX6_isOrdered_133 (by decide) ?_
        refine lv_bipush (v := 54) hx hb dX6_isOrdered_135 (by decide) ?_
        refine thn_I (run_V (As := [.int 48, .int 54]) (rest := []) C (k_X6_isNext l D cy z o d σ (t_X6_sign (t_X6_sign (t_X6_sign τ 48 51) 98 98) 49 57) hk 48 54 ((hTT.sign (by decide)).sign (by decide) |>.sign (by decide))) hP hS cw_X6_isNext (mA4 (i := 167) rfl rfl) hk ⟨rfl, rfl⟩ ⟨Nat.le_of_ble_eq_true rfl, Nat.le_of_ble_eq_true rfl⟩ rfl (Nat.le_of_ble_eq_true rfl) hl.1 ⟨Nat.zero_le _, Nat.zero_le _⟩ dX6_isOrdered_137) hS (fun H locs hP hS => ?_)
        refine lv_if_eq (tgt := 160) hx hb dX6_isOrdered_140 (by decide) (fun c_140 => ?_) (fun c_140 => ?_)
        · refine lv_iload hx hb dX6_isOrdered_160 (lv_at hl 0 rfl) ?_
          have hN9 := (nb_of hbn9).2
          rw [(nb_of hbn9).1]
          refine lv_istore (lv' := [(4, .int (nI (NB (f_X6_sign (t_X6_sign (t_X6_sign τ 48 51) 98 98) 49 57)))), (3, .int (f_X6_sign (t_X6_sign τ 48 51) 98 98)), (2, .int (nI (SJ τ))), (0, .ref (z + k)), (1, .int 1)]) hx hb dX6_isOrdered_162 hl (by decide) rfl (fun ls hl => ?_)
          refine lv_iload_n hx hb dX6_isOrdered_164 rfl (lv_at hl 4 rfl) ?_
          refine lv_if_eq (tgt := 198) hx hb dX6_isOrdered_165 (by decide) (fun c_165 => ?_) (fun c_165 => ?_)
          · exact absurd c_165 (by decide : ¬ (1:Int32) = 0)
          · refine lv_aload_n hx hb dX6_isOrdered_168 rfl (lv_at hl 3 rfl) ?_
            refine lv_iload_n hx hb dX6_isOrdered_169 rfl (lv_at hl 2 rfl) ?_
            refine lv_iload hx hb dX6_isOrdered_170 (lv_at hl 0 rfl) ?_
            refine thn_I (run_V (As := [.int (nI (SJ τ)), .int (nI (NB (f_X6_sign (t_X6_sign (t_X6_sign τ 48 51) 98 98) 49 57)))]) (rest := []) C (k_X6_canGoBack l D cy z o d σ (t_X6_sign (t_X6_sign (t_X6_sign τ 48 51) 98 98) 49 57) hk (SJ τ) (NB (f_X6_sign (t_X6_sign (t_X6_sign τ 48 51) 98 98) 49 57)) hM.sign.sign.sign hj9.2 (by omega)) hP hS cw_X6_canGoBack (mA4 (i := 127) rfl rfl) hk ⟨rfl, rfl⟩ ⟨Nat.le_of_ble_eq_true rfl, Nat.le_of_ble_eq_true rfl⟩ rfl (Nat.le_of_ble_eq_true rfl) hl.1 ⟨Nat.zero_le _, Nat.zero_le _⟩ dX6_isOrdered_172) hS (fun H locs hP hS => ?_)
            refine lv_istore (lv' := [(5, .int (f_X6_canGoBack (t_X6_sign (t_X6_sign (t_X6_sign τ 48 51) 98 98) 49 57) (SJ τ) (NB (f_X6_sign (t_X6_sign (t_X6_sign τ 48 51) 98 98) 49 57)))), (4, .int (nI (NB (f_X6_sign (t_X6_sign (t_X6_sign τ 48 51) 98 98) 49 57)))), (3, .int (f_X6_sign (t_X6_sign τ 48 51) 98 98)), (2, .int (nI (SJ τ))), (0, .ref (z + k)), (1, .int 1)]) hx hb dX6_isOrdered_175 hl (by decide) rfl (fun ls hl => ?_)
            refine lv_iload hx hb dX6_isOrdered_177 (lv_at hl 0 rfl) ?_
            refine lv_if_eq (tgt := 192) hx hb dX6_isOrdered_179 (by decide) (fun c_179 => ?_) (fun c_179 => ?_)
            · refine lv_iconst (v := 0) hx hb dX6_isOrdered_192 (by decide) ?_
              refine lv_istore (lv' := [(6, .int 0), (5, .int (f_X6_canGoBack (t_X6_sign (t_X6_sign (t_X6_sign τ 48 51) 98 98) 49 57) (SJ τ) (NB (f_X6_sign (t_X6_sign (t_X6_sign τ 48 51) 98 98) 49 57)))), (4, .int (nI (NB (f_X6_sign (t_X6_sign (t_X6_sign τ 48 51) 98 98) 49 57)))), (3, .int (f_X6_sign (t_X6_sign τ 48 51) 98 98)), (2, .int (nI (SJ τ))), (0, .ref (z + k)), (1, .int 1)]) hx hb dX6_isOrdered_193 hl (by decide) rfl (fun ls hl => ?_)
              refine lv_iload hx hb dX6_isOrdered_195 (lv_at hl 1 rfl) ?_
              exact ret_I C hP hS (nz_X6_canGoBack _ _ _) rfl (by unfold f_X6_isOrdered_1; rw [if_pos c_20, if_pos c_75, if_pos c_129, if_pos c_140, if_pos c_179]) rfl (by unfold t_X6_isOrdered_1; rw [if_pos c_20, if_pos c_75, if_pos c_129, if_pos c_140, if_pos c_179]) dX6_isOrdered_197
            · refine lv_aload_n hx hb dX6_isOrdered_182 rfl (lv_at hl 4 rfl) ?_
              refine lv_iload_n hx hb dX6_isOrdered_183 rfl (lv_at hl 3 rfl) ?_
              refine lv_iload hx hb dX6_isOrdered_184 (lv_at hl 1 rfl) ?_
              refine thn_I (run_V (As := [.int (nI (SJ τ)), .int (nI (NB (f_X6_sign (t_X6_sign (t_X6_sign τ 48 51) 98 98) 49 57)))]) (rest := []) C (k_X6_goesBack l D cy z o d σ (t_X6_sign (t_X6_sign (t_X6_sign τ 48 51) 98 98) 49 57) hk (SJ τ) (NB (f_X6_sign (t_X6_sign (t_X6_sign τ 48 51) 98 98) 49 57)) hM.sign.sign.sign hj9.2 (by omega) (gb_le' c_179)) hP hS cw_X6_goesBack (mA4 (i := 131) rfl rfl) hk ⟨rfl, rfl⟩ ⟨Nat.le_of_ble_eq_true rfl, Nat.le_of_ble_eq_true rfl⟩ rfl (Nat.le_of_ble_eq_true rfl) hl.1 ⟨Nat.zero_le _, Nat.zero_le _⟩ dX6_isOrdered_186) hS (fun H locs hP hS => ?_)
              refine lv_goto (tgt := 193) hx hb dX6_isOrdered_189 (by decide) ?_
              refine lv_istore (lv' := [(6, .int (f_X6_goesBack (t_X6_sign (t_X6_sign (t_X6_sign τ 48 51) 98 98) 49 57) (SJ τ) (NB (f_X6_sign (t_X6_sign (t_X6_sign τ 48 51) 98 98) 49 57)))), (5, .int (f_X6_canGoBack (t_X6_sign (t_X6_sign (t_X6_sign τ 48 51) 98 98) 49 57) (SJ τ) (NB (f_X6_sign (t_X6_sign (t_X6_sign τ 48 51) 98 98) 49 57)))), (4, .int (nI (NB (f_X6_sign (t_X6_sign (t_X6_sign τ 48 51) 98 98) 49 57)))), (3, .int (f_X6_sign (t_X6_sign τ 48 51) 98 98)), (2, .int (nI (SJ τ))), (0, .ref (z + k)), (1, .int 1)]) hx hb dX6_isOrdered_193 hl (by decide) rfl (fun ls hl => ?_)
              refine lv_iload hx hb dX6_isOrdered_195 (lv_at hl 1 rfl) ?_
              exact ret_I C hP hS (nz_X6_canGoBack _ _ _) rfl (by unfold f_X6_isOrdered_1; rw [if_pos c_20, if_pos c_75, if_pos c_129, if_pos c_140, if_neg c_179]) rfl (by unfold t_X6_isOrdered_1; rw [if_pos c_20, if_pos c_75, if_pos c_129, if_pos c_140, if_neg c_179]) dX6_isOrdered_197
        · refine lv_bipush (v := 10) hx hb dX6_isOrdered_143 (by decide) ?_
          refine lv_aload_n hx hb dX6_isOrdered_145 rfl (lv_at hl 3 rfl) ?_
          refine lv_bipush (v := 48) hx hb dX6_isOrdered_146 (by decide) ?_
          refine lv_bipush (v := 54) hx hb dX6_isOrdered_148 (by decide) ?_
          refine thn_I (run_V (As := [.int 48, .int 54]) (rest := [.int 10]) C (k_X6_sign l D cy z o d σ (t_X6_sign (t_X6_sign (t_X6_sign τ 48 51) 98 98) 49 57) hk 48 54 ((hTT.sign (by decide)).sign (by decide) |>.sign (by decide))) hP hS cw_X6_sign (mA4 (i := 163) rfl rfl) hk ⟨rfl, rfl⟩ ⟨Nat.le_of_ble_eq_true rfl, Nat.le_of_ble_eq_true rfl⟩ rfl (Nat.le_of_ble_eq_true rfl) hl.1 ⟨Nat.zero_le _, Nat.zero_le _⟩ dX6_isOrdered_150) hS (fun H locs hP hS => ?_)
          refine lv_iadd hx hb dX6_isOrdered_153 ?_
          refine lv_bipush (v := 48) hx hb dX6_isOrdered_154 (by decide) ?_
          refine lv_isub hx hb dX6_isOrdered_156 ?_
          refine lv_goto (tgt := 162) hx hb dX6_isOrdered_157 (by decide) ?_
          have hN9 := (nt_of c_140).2
          rw [(nt_of c_140).1]
          refine lv_istore (lv' := [(4, .int (nI (10 + NB (f_X6_sign (t_X6_sign (t_X6_sign (t_X6_sign τ 48 51) 98 98) 49 57) 48 54)))), (3, .int (f_X6_sign (t_X6_sign τ 48 51) 98 98)), (2, .int (nI (SJ τ))), (0, .ref (z + k)), (1, .int 1)]) hx hb dX6_isOrdered_162 hl (by decide) rfl (fun ls hl => ?_)
          refine lv_iload_n hx hb dX6_isOrdered_164 rfl (lv_at hl 4 rfl) ?_
          refine lv_if_eq (tgt := 198) hx hb dX6_isOrdered_165 (by decide) (fun c_165 => ?_) (fun c_165 => ?_)
          · exact absurd c_165 (by decide : ¬ (1:Int32) = 0)
          · refine lv_aload_n hx hb dX6_isOrdered_168 rfl (lv_at hl 3 rfl) ?_
            refine lv_iload_n hx hb dX6_isOrdered_169 rfl (lv_at hl 2 rfl) ?_
            refine lv_iload hx hb dX6_isOrdered_170 (lv_at hl 0 rfl) ?_
            refine thn_I (run_V (As := [.int (nI (SJ τ)), .int (nI (10 + NB (f_X6_sign (t_X6_sign (t_X6_sign (t_X6_sign τ 48 51) 98 98) 49 57) 48 54)))]) (rest := []) C (k_X6_canGoBack l D cy z o d σ (t_X6_sign (t_X6_sign (t_X6_sign (t_X6_sign τ 48 51) 98 98) 49 57) 48 54) hk (SJ τ) (10 + NB (f_X6_sign (t_X6_sign (t_X6_sign (t_X6_sign τ 48 51) 98 98) 49 57) 48 54)) hM.sign.sign.sign.sign hj9.2 (by omega)) hP hS cw_X6_canGoBack (mA4 (i := 127) rfl rfl) hk ⟨rfl, rfl⟩ ⟨Nat.le_of_ble_eq_true rfl, Nat.le_of_ble_eq_true rfl⟩ rfl (Nat.le_of_ble_eq_true rfl) hl.1 ⟨Nat.zero_le _, Nat.zero_le _⟩ dX6_isOrdered_172) hS (fun H locs hP hS => ?_)
            refine lv_istore (lv' := [(5, .int (f_X6_canGoBack (t_X6_sign (t_X6_sign (t_X6_sign (t_X6_sign τ 48 51) 98 98) 49 57) 48 54) (SJ τ) (10 + NB (f_X6_sign (t_X6_sign (t_X6_sign (t_X6_sign τ 48 51) 98 98) 49 57) 48 54)))), (4, .int (nI (10 + NB (f_X6_sign (t_X6_sign (t_X6_sign (t_X6_sign τ 48 51) 98 98) 49 57) 48 54)))), (3, .int (f_X6_sign (t_X6_sign τ 48 51) 98 98)), (2, .int (nI (SJ τ))), (0, .ref (z + k)), (1, .int 1)]) hx hb dX6_isOrdered_175 hl (by decide) rfl (fun ls hl => ?_)
            refine lv_iload hx hb dX6_isOrdered_177 (lv_at hl 0 rfl) ?_
            refine lv_if_eq (tgt := 192) hx hb dX6_isOrdered_179 (by decide) (fun c_179 => ?_) (fun c_179 => ?_)
            · refine lv_iconst (v := 0) hx hb dX6_isOrdered_192 (by decide) ?_
              refine lv_istore (lv' := [(6, .int 0), (5, .int (f_X6_canGoBack (t_X6_sign (t_X6_sign (t_X6_sign (t_X6_sign τ 48 51) 98 98) 49 57) 48 54) (SJ τ) (10 + NB (f_X6_sign (t_X6_sign (t_X6_sign (t_X6_sign τ 48 51) 98 98) 49 57) 48 54)))), (4, .int (nI (10 + NB (f_X6_sign (t_X6_sign (t_X6_sign (t_X6_sign τ 48 51) 98 98) 49 57) 48 54)))), (3, .int (f_X6_sign (t_X6_sign τ 48 51) 98 98)), (2, .int (nI (SJ τ))), (0, .ref (z + k)), (1, .int 1)]) hx hb dX6_isOrdered_193 hl (by decide) rfl (fun ls hl => ?_)
              refine lv_iload hx hb dX6_isOrdered_195 (lv_at hl 1 rfl) ?_
              exact ret_I C hP hS (nz_X6_canGoBack _ _ _) rfl (by unfold f_X6_isOrdered_1; rw [if_pos c_20, if_pos c_75, if_pos c_129, if_neg c_140, if_pos c_179]) rfl (by unfold t_X6_isOrdered_1; rw [if_pos c_20, if_pos c_75, if_pos c_129, if_neg c_140, if_pos c_179]) dX6_isOrdered_197
            · refine lv_aload_n hx hb dX6_isOrdered_182 rfl (lv_at hl 4 rfl) ?_
              refine lv_iload_n hx hb dX6_isOrdered_183 rfl (lv_at hl 3 rfl) ?_
              refine lv_iload hx hb dX6_isOrdered_184 (lv_at hl 1 rfl) ?_
              refine thn_I (run_V (As := [.int (nI (SJ τ)), .int (nI (10 + NB (f_X6_sign (t_X6_sign (t_X6_sign (t_X6_sign τ 48 51) 98 98) 49 57) 48 54)))]) (rest := []) C (k_X6_goesBack l D cy z o d σ (t_X6_sign (t_X6_sign (t_X6_sign (t_X6_sign τ 48 51) 98 98) 49 57) 48 54) hk (SJ τ) (10 + NB (f_X6_sign (t_X6_sign (t_X6_sign (t_X6_sign τ 48 51) 98 98) 49 57) 48 54)) hM.sign.sign.sign.sign hj9.2 (by omega) (gb_le' c_179)) hP hS cw_X6_goesBack (mA4 (i := 131) rfl rfl) hk ⟨rfl, rfl⟩ ⟨Nat.le_of_ble_eq_true rfl, Nat.le_of_ble_eq_true rfl⟩ rfl (Nat.le_of_ble_eq_true rfl) hl.1 ⟨Nat.zero_le _, Nat.zero_le _⟩ dX6_isOrdered_186) hS (fun H locs hP hS => ?_)
              refine lv_goto (tgt := 193) hx hb dX6_isOrdered_189 (by decide) ?_
              refine lv_istore (lv' := [(6, .int (f_X6_goesBack (t_X6_sign (t_X6_sign (t_X6_sign (t_X6_sign τ 48 51) 98 98) 49 57) 48 54) (SJ τ) (10 + NB (f_X6_sign (t_X6_sign (t_X6_sign (t_X6_sign τ 48 51) 98 98) 49 57) 48 54)))), (5, .int (f_X6_canGoBack (t_X6_sign (t_X6_sign (t_X6_sign (t_X6_sign τ 48 51) 98 98) 49 57) 48 54) (SJ τ) (10 + NB (f_X6_sign (t_X6_sign (t_X6_sign (t_X6_sign τ 48 51) 98 98) 49 57) 48 54)))), (4, .int (nI (10 + NB (f_X6_sign (t_X6_sign (t_X6_sign (t_X6_sign τ 48 51) 98 98) 49 57) 48 54)))), (3, .int (f_X6_sign (t_X6_sign τ 48 51) 98 98)), (2, .int (nI (SJ τ))), (0, .ref (z + k)), (1, .int 1)]) hx hb dX6_isOrdered_193 hl (by decide) rfl (fun ls hl => ?_)
              refine lv_iload hx hb dX6_isOrdered_195 (lv_at hl 1 rfl) ?_
              exact ret_I C hP hS (nz_X6_canGoBack _ _ _) rfl (by unfold f_X6_isOrdered_1; rw [if_pos c_20, if_pos c_75, if_pos c_129, if_neg c_140, if_neg c_179]) rfl (by unfold t_X6_isOrdered_1; rw [if_pos c_20, if_pos c_75, if_pos c_129, if_neg c_140, if_neg c_179]) dX6_isOrdered_197
    · refine lv_aload_n hx hb dX6_isOrdered_78 rfl (lv_at hl 1 rfl) ?_
      refine lv_dup hx hb dX6_isOrdered_79 rfl ?_
      refine gf_X6_107 C hP hk dX6_isOrdered_80 ?_
      refine lv_iconst (v := 1) hx hb dX6_isOrdered_83 (by decide) ?_
      refine lv_iadd hx hb dX6_isOrdered_84 ?_
      refine pf_X6_107 C hP hS hk dX6_isOrdered_85 (fun H locs hP hS => ?_)
      refine lv_iload_n hx hb dX6_isOrdered_88 rfl (lv_at hl 2 rfl) ?_
      refine lv_if_eq (tgt := 100) hx hb dX6_isOrdered_89 (by decide) (fun c_89 => ?_) (fun c_89 => ?_)
      · exact absurd c_89 (by decide : ¬ (1:Int32) = 0)
      · refine lv_aload_n hx hb dX6_isOrdered_92 rfl (lv_at hl 1 rfl) ?_
        refine lv_iload_n hx hb dX6_isOrdered_93 rfl (lv_at hl 0 rfl) ?_
        refine thn_I (run_V (As := [.int (nI (SJ τ))]) (rest := []) C (k_X6_meets l D cy z o d σ (up (t_X6_sign τ 48 51) 0 9 (((t_X6_sign τ 48 51) 0 9) + 1)) hk (SJ τ) hj9.2 hM.sign.2.1) hP hS cw_X6_meets (mA4 (i := 115) rfl rfl) hk ⟨rfl, rfl⟩ ⟨Nat.le_of_ble_eq_true rfl, Nat.le_of_ble_eq_true rfl⟩ rfl (Nat.le_of_ble_eq_true rfl) hl.1 ⟨Nat.zero_le _, Nat.zero_le _⟩ dX6_isOrdered_94) hS (fun H locs hP hS => ?_)
        refine lv_goto (tgt := 101) hx hb dX6_isOrdered_97 (by decide) ?_
        refine lv_istore_n (lv' := [(3, .int (f_X6_meets (up (t_X6_sign τ 48 51) 0 9 (((t_X6_sign τ 48 51) 0 9) + 1)) (SJ τ))), (2, .int (nI (SJ τ))), (0, .ref (z + k)), (1, .int 1)]) hx hb dX6_isOrdered_101 rfl hl (by decide) rfl (fun ls hl => ?_)
        refine lv_iconst (v := 1) hx hb dX6_isOrdered_102 (by decide) ?_
        exact ret_I C hP hS nar_z1 rfl (by unfold f_X6_isOrdered_1; rw [if_pos c_20, if_neg c_75]) rfl (by unfold t_X6_isOrdered_1; rw [if_pos c_20, if_neg c_75]) dX6_isOrdered_103
  · refine lv_aload_n hx hb dX6_isOrdered_23 rfl (lv_at hl 1 rfl) ?_
    refine lv_dup hx hb dX6_isOrdered_24 rfl ?_
    refine gf_X6_107 C hP hk dX6_isOrdered_25 ?_
    refine lv_iconst (v := 1) hx hb dX6_isOrdered_28 (by decide) ?_
    refine lv_iadd hx hb dX6_isOrdered_29 ?_
    refine pf_X6_107 C hP hS hk dX6_isOrdered_30 (fun H locs hP hS => ?_)
    refine lv_aload_n hx hb dX6_isOrdered_33 rfl (lv_at hl 1 rfl) ?_
    refine lv_iload_n hx hb dX6_isOrdered_34 rfl (lv_at hl 0 rfl) ?_
    refine lv_iload_n hx hb dX6_isOrdered_35 rfl (lv_at hl 2 rfl) ?_
    refine thn_I (run_V (As := [.int (nI (SJ τ)), .int 1]) (rest := []) C (k_X6_isFelt_1 l D cy z o d σ (up (t_X6_sign τ 48 51) 0 9 (((t_X6_sign τ 48 51) 0 9) + 1)) hk (SJ τ) hM.sign.up9 hj9.2 ((hTT.sign (by decide)).inc c_20)) hP hS cw_X6_isFelt (mA4 (i := 171) rfl rfl) hk ⟨rfl, rfl⟩ ⟨Nat.le_of_ble_eq_true rfl, Nat.le_of_ble_eq_true rfl⟩ rfl (Nat.le_of_ble_eq_true rfl) hl.1 ⟨Nat.zero_le _, Nat.zero_le _⟩ dX6_isOrdered_36) hS (fun H locs hP hS => ?_)
    refine lv_istore_n (lv' := [(3, .int (f_X6_isFelt_1 (up (t_X6_sign τ 48 51) 0 9 (((t_X6_sign τ 48 51) 0 9) + 1)) (SJ τ))), (2, .int (nI (SJ τ))), (0, .ref (z + k)), (1, .int 1)]) hx hb dX6_isOrdered_39 rfl hl (by decide) rfl (fun ls hl => ?_)
    exact lp_X6_isOrdered_1 C o d hk (SJ τ) (82) (f_X6_isFelt_1 (up (t_X6_sign τ 48 51) 0 9 (((t_X6_sign τ 48 51) 0 9) + 1)) (SJ τ)) σ (t_X6_isFelt_1 (up (t_X6_sign τ 48 51) 0 9 (((t_X6_sign τ 48 51) 0 9) + 1)) (SJ τ)) _ _ (nz_X6_isFelt_1 _ _) (felt1_mi hM.sign.up9 hj9.2) (hj9.2) (felt1_tt ((hTT.sign (by decide)).inc c_20)) (⟨(felt1_tt ((hTT.sign (by decide)).inc c_20)).2.of.2, by omega⟩) (by unfold f_X6_isOrdered_1; rw [if_neg c_20]) (by unfold t_X6_isOrdered_1; rw [if_neg c_20]) hP hS ls (lv_sub hl [2, 3, 1, 0] rfl)


theorem cw_X6_sign : cwVt yX6_sign cX6_sign 4 (some .int) 6 2 := ⟨(mA4 (i := 165) rfl rfl), (mA0 (i := 28) rfl rfl), (mA1 (i := 7) rfl rfl), (mA4 (i := 166) rfl rfl), by decide +kernel, ⟨_, rfl, rfl⟩, by decide⟩
abbrev rm_X6_sign : Room := { frames := 1, cells := 0, slots := 0, locals := 22 }
def f_X6_sign (τ : Sg) (x : Int32) (y : Int32) : Int32 :=
  if (τ 0 7) ≤ (τ 0 9) then
    if (τ 0 10) = 0 then
      if (f_X6_in 0 x y) = 0 then
        if ((up τ 0 10 1) 0 10) = 0 then
          0
        else
          0
      else
        if ((up τ 0 10 0) 0 10) = 0 then
          0
        else
          0
    else
      if ((up τ 0 10 1) 0 10) = 0 then
        0
      else
        0
  else
    if (τ 0 10) = 0 then
      if (τ 0 10) = 0 then
        if (f_X6_in (τ 5 (MA τ)) x y) = 0 then
          if ((up τ 0 10 1) 0 10) = 0 then
            τ 5 (MA τ)
          else
            τ 5 (MA τ)
        else
          if ((up τ 0 10 0) 0 10) = 0 then
            τ 5 (MA τ)
          else
            τ 5 (MA τ)
      else
        if ((up τ 0 10 1) 0 10) = 0 then
          τ 5 (MA τ)
        else
          τ 5 (MA τ)
    else
      if (τ 0 10) = 0 then
        if (f_X6_in 0 x y) = 0 then
          if ((up τ 0 10 1) 0 10) = 0 then
            0
          else
            0
        else
          if ((up τ 0 10 0) 0 10) = 0 then
            0
          else
            0
      else
        if ((up τ 0 10 1) 0 10) = 0 then
          0
        else
          0
def t_X6_sign (τ : Sg) (x : Int32) (y : Int32) : Sg :=
  if (τ 0 7) ≤ (τ 0 9) then
    if (τ 0 10) = 0 then
      if (f_X6_in 0 x y) = 0 then
        if ((up τ 0 10 1) 0 10) = 0 then
          up (up τ 0 10 1) 0 9 (((up τ 0 10 1) 0 9) + 1)
        else
          up (up τ 0 10 1) 0 9 (((up τ 0 10 1) 0 9) + 0)
      else
        if ((up τ 0 10 0) 0 10) = 0 then
          up (up τ 0 10 0) 0 9 (((up τ 0 10 0) 0 9) + 1)
        else
          up (up τ 0 10 0) 0 9 (((up τ 0 10 0) 0 9) + 0)
    else
      if ((up τ 0 10 1) 0 10) = 0 then
        up (up τ 0 10 1) 0 9 (((up τ 0 10 1) 0 9) + 1)
      else
        up (up τ 0 10 1) 0 9 (((up τ 0 10 1) 0 9) + 0)
  else
    if (τ 0 10) = 0 then
      if (τ 0 10) = 0 then
        if (f_X6_in (τ 5 (MA τ)) x y) = 0 then
          if ((up τ 0 10 1) 0 10) = 0 then
            up (up τ 0 10 1) 0 9 (((up τ 0 10 1) 0 9) + 1)
          else
            up (up τ 0 10 1) 0 9 (((up τ 0 10 1) 0 9) + 0)
        else
          if ((up τ 0 10 0) 0 10) = 0 then
            up (up τ 0 10 0) 0 9 (((up τ 0 10 0) 0 9) + 1)
          else
            up (up τ 0 10 0) 0 9 (((up τ 0 10 0) 0 9) + 0)
      else
        if ((up τ 0 10 1) 0 10) = 0 then
          up (up τ 0 10 1) 0 9 (((up τ 0 10 1) 0 9) + 1)
        else
          up (up τ 0 10 1) 0 9 (((up τ 0 10 1) 0 9) + 0)
    else
      if (τ 0 10) = 0 then
        if (f_X6_in 0 x y) = 0 then
          if ((up τ 0 10 1) 0 10) = 0 then
            up (up τ 0 10 1) 0 9 (((up τ 0 10 1) 0 9) + 1)
          else
            up (up τ 0 10 1) 0 9 (((up τ 0 10 1) 0 9) + 0)
        else
          if ((up τ 0 10 0) 0 10) = 0 then
            up (up τ 0 10 0) 0 9 (((up τ 0 10 0) 0 9) + 1)
          else
            up (up τ 0 10 0) 0 9 (((up τ 0 10 0) 0 9) + 0)
      else
        if ((up τ 0 10 1) 0 10) = 0 then
          up (up τ 0 10 1) 0 9 (((up τ 0 10 1) 0 9) + 1)
        else
          up (up τ 0 10 1) 0 9 (((up τ 0 10 1) 0 9) + 0)
set_option maxHeartbeats 4000000 in
set_option maxRecDepth 100000 in
theorem k_X6_sign (l : Launch) (D : va_G) (cy : Nat → ClassId) (z : Nat) (o : Int64) (d : UInt64) (σ τ : Sg) {k : Nat} (hk : kd k = 6) (x : Int32) (y : Int32) (hTT : TT τ) : KI l yX6_sign cX6_sign 4 (some .int) rm_X6_sign D cy z [.ref (z + k), .int x, .int y] o d σ τ (f_X6_sign τ x y) σ (t_X6_sign τ x y) := by
  refine met_of RX6 (plainFor_of_name (by decide)) rfl (Nat.le_of_ble_eq_true rfl) ?_
  intro p e s m args below meth c C hP hS ls hl
  obtain ⟨hx, hb, hr, hml, hown, hW, hlocks, hAm⟩ := id C
  have hl : lv_has ls 4 [(0, .ref (z + k)), (1, .int x), (2, .int y)] := hl
  refine lv_aload_n hx hb dX6_sign_0 rfl (lv_at hl 0 rfl) ?_
  refine gf_X6_107 C hP hk dX6_sign_1 ?_
  refine lv_aload_n hx hb dX6_sign_4 rfl (lv_at hl 0 rfl) ?_
  refine gf_X6_104 C hP hk dX6_sign_5 ?_
  refine lv_icmp_ge (tgt := 30) hx hb dX6_sign_8 (by decide) (fun c_8 => ?_) (fun c_8 => ?_)
  · refine lv_iconst (v := 0) hx hb dX6_sign_30 (by decide) ?_
    refine lv_istore_n (lv' := [(3, .int 0), (0, .ref (z + k)), (1, .int x), (2, .int y)]) hx hb dX6_sign_31 rfl hl (by decide) rfl (fun ls hl => ?_)
    refine lv_aload_n hx hb dX6_sign_32 rfl (lv_at hl 1 rfl) ?_
    refine lv_aload_n hx hb dX6_sign_33 rfl (lv_at hl 1 rfl) ?_
    refine gf_X6_110 C hP hk dX6_sign_34 ?_
    refine lv_if_ne (tgt := 49) hx hb dX6_sign_37 (by decide) (fun c_37 => ?_) (fun c_37 => ?_)
    · refine lv_iconst (v := 1) hx hb dX6_sign_49 (by decide) ?_
      refine lv_goto (tgt := 54) hx hb dX6_sign_50 (by decide) ?_
      refine pf_X6_110 C hP hS hk nar_z1 (by decide) dX6_sign_54 (fun H locs hP hS => ?_)
      refine lv_aload_n hx hb dX6_sign_57 rfl (lv_at hl 1 rfl) ?_
      refine lv_dup hx hb dX6_sign_58 rfl ?_
      refine gf_X6_107 C hP hk dX6_sign_59 ?_
      refine lv_aload_n hx hb dX6_sign_62 rfl (lv_at hl 1 rfl) ?_
      refine gf_X6_110 C hP hk dX6_sign_63 ?_
      refine lv_if_eq (tgt := 73) hx hb dX6_sign_66 (by decide) (fun c_66 => ?_) (fun c_66 => ?_)
      · refine lv_iconst (v := 1) hx hb dX6_sign_73 (by decide) ?_
        refine lv_iadd hx hb dX6_sign_74 ?_
        refine pf_X6_107 C hP hS hk dX6_sign_75 (fun H locs hP hS => ?_)
        refine lv_iload_n hx hb dX6_sign_78 rfl (lv_at hl 0 rfl) ?_
        exact ret_I C hP hS (nar_i _) rfl (by unfold f_X6_sign; rw [if_pos c_8, if_neg c_37, if_pos c_66]) rfl (by unfold t_X6_sign; rw [if_pos c_8, if_neg c_37, if_pos c_66]) dX6_sign_79
      · refine lv_iconst (v := 0) hx hb dX6_sign_69 (by decide) ?_
        refine lv_goto (tgt := 74) hx hb dX6_sign_70 (by decide) ?_
        refine lv_iadd hx hb dX6_sign_74 ?_
        refine pf_X6_107 C hP hS hk dX6_sign_75 (fun H locs hP hS => ?_)
        refine lv_iload_n hx hb dX6_sign_78 rfl (lv_at hl 0 rfl) ?_
        exact ret_I C hP hS (nar_i _) rfl (by unfold f_X6_sign; rw [if_pos c_8, if_neg c_37, if_neg c_66]) rfl (by unfold t_X6_sign; rw [if_pos c_8, if_neg c_37, if_neg c_66]) dX6_sign_79
    · refine lv_iload_n hx hb dX6_sign_40 rfl (lv_at hl 0 rfl) ?_
      refine lv_iload_n hx hb dX6_sign_41 rfl (lv_at hl 2 rfl) ?_
      refine lv_iload_n hx hb dX6_sign_42 rfl (lv_at hl 3 rfl) ?_
      refine thn_I (run_S (As := [.int 0, .int x, .int y]) (rest := [.ref (z + k)]) C (k_X6_in l D cy z o d σ τ 0 x y) hP hS cw_X6_in (mA4 (i := 49) rfl rfl) ⟨rfl, rfl⟩ ⟨Nat.le_of_ble_eq_true rfl, Nat.le_of_ble_eq_true rfl⟩ rfl (Nat.le_of_ble_eq_true rfl) hl.1 ⟨Nat.zero_le _, Nat.zero_le _⟩ dX6_sign_43) hS (fun H locs hP hS => ?_)
      refine lv_if_ne (tgt := 53) hx hb dX6_sign_46 (by decide) (fun c_46 => ?_) (fun c_46 => ?_)
      · refine lv_iconst (v := 0) hx hb dX6_sign_53 (by decide) ?_
        refine pf_X6_110 C hP hS hk nar_z0 (by decide) dX6_sign_54 (fun H locs hP hS => ?_)
        refine lv_aload_n hx hb dX6_sign_57 rfl (lv_at hl 1 rfl) ?_
        refine lv_dup hx hb dX6_sign_58 rfl ?_
        refine gf_X6_107 C hP hk dX6_sign_59 ?_
        refine lv_aload_n hx hb dX6_sign_62 rfl (lv_at hl 1 rfl) ?_
        refine gf_X6_110 C hP hk dX6_sign_63 ?_
        refine lv_if_eq (tgt := 73) hx hb dX6_sign_66 (by decide) (fun c_66 => ?_) (fun c_66 => ?_)
        · refine lv_iconst (v := 1) hx hb dX6_sign_73 (by decide) ?_
          refine lv_iadd hx hb dX6_sign_74 ?_
          refine pf_X6_107 C hP hS hk dX6_sign_75 (fun H locs hP hS => ?_)
          refine lv_iload_n hx hb dX6_sign_78 rfl (lv_at hl 0 rfl) ?_
          exact ret_I C hP hS (nar_i _) rfl (by unfold f_X6_sign; rw [if_pos c_8, if_pos c_37, if_neg c_46, if_pos c_66]) rfl (by unfold t_X6_sign; rw [if_pos c_8, if_pos c_37, if_neg c_46, if_pos c_66]) dX6_sign_79
        · refine lv_iconst (v := 0) hx hb dX6_sign_69 (by decide) ?_
          refine lv_goto (tgt := 74) hx hb dX6_sign_70 (by decide) ?_
          refine lv_iadd hx hb dX6_sign_74 ?_
          refine pf_X6_107 C hP hS hk dX6_sign_75 (fun H locs hP hS => ?_)
          refine lv_iload_n hx hb dX6_sign_78 rfl (lv_at hl 0 rfl) ?_
          exact ret_I C hP hS (nar_i _) rfl (by unfold f_X6_sign; rw [if_pos c_8, if_pos c_37, if_neg c_46, if_neg c_66]) rfl (by unfold t_X6_sign; rw [if_pos c_8, if_pos c_37, if_neg c_46, if_neg c_66]) dX6_sign_79
      · refine lv_iconst (v := 1) hx hb dX6_sign_49 (by decide) ?_
        refine lv_goto (tgt := 54) hx hb dX6_sign_50 (by decide) ?_
        refine pf_X6_110 C hP hS hk nar_z1 (by decide) dX6_sign_54 (fun H locs hP hS => ?_)
        refine lv_aload_n hx hb dX6_sign_57 rfl (lv_at hl 1 rfl) ?_
        refine lv_dup hx hb dX6_sign_58 rfl ?_
        refine gf_X6_107 C hP hk dX6_sign_59 ?_
        refine lv_aload_n hx hb dX6_sign_62 rfl (lv_at hl 1 rfl) ?_
        refine gf_X6_110 C hP hk dX6_sign_63 ?_
        refine lv_if_eq (tgt := 73) hx hb dX6_sign_66 (by decide) (fun c_66 => ?_) (fun c_66 => ?_)
        · refine lv_iconst (v := 1) hx hb dX6_sign_73 (by decide) ?_
          refine lv_iadd hx hb dX6_sign_74 ?_
          refine pf_X6_107 C hP hS hk dX6_sign_75 (fun H locs hP hS => ?_)
          refine lv_iload_n hx hb dX6_sign_78 rfl (lv_at hl 0 rfl) ?_
          exact ret_I C hP hS (nar_i _) rfl (by unfold f_X6_sign; rw [if_pos c_8, if_pos c_37, if_pos c_46, if_pos c_66]) rfl (by unfold t_X6_sign; rw [if_pos c_8, if_pos c_37, if_pos c_46, if_pos c_66]) dX6_sign_79
        · refine lv_iconst (v := 0) hx hb dX6_sign_69 (by decide) ?_
          refine lv_goto (tgt := 74) hx hb dX6_sign_70 (by decide) ?_
          refine lv_iadd hx hb dX6_sign_74 ?_
          refine pf_X6_107 C hP hS hk dX6_sign_75 (fun H locs hP hS => ?_)
          refine lv_iload_n hx hb dX6_sign_78 rfl (lv_at hl 0 rfl) ?_
          exact ret_I C hP hS (nar_i _) rfl (by unfold f_X6_sign; rw [if_pos c_8, if_pos c_37, if_pos c_46, if_neg c_66]) rfl (by unfold t_X6_sign; rw [if_pos c_8, if_pos c_37, if_pos c_46, if_neg c_66]) dX6_sign_79
  · refine lv_aload_n hx hb dX6_sign_11 rfl (lv_at hl 0 rfl) ?_
    refine gf_X6_110 C hP hk dX6_sign_12 ?_
    refine lv_if_ne (tgt := 30) hx hb dX6_sign_15 (by decide) (fun c_15 => ?_) (fun c_15 => ?_)
    · refine lv_iconst (v := 0) hx hb dX6_sign_30 (by decide) ?_
      refine lv_istore_n (lv' := [(3, .int 0), (0, .ref (z + k)), (1, .int x), (2, .int y)]) hx hb dX6_sign_31 rfl hl (by decide) rfl (fun ls hl => ?_)
      refine lv_aload_n hx hb dX6_sign_32 rfl (lv_at hl 1 rfl) ?_
      refine lv_aload_n hx hb dX6_sign_33 rfl (lv_at hl 1 rfl) ?_
      refine gf_X6_110 C hP hk dX6_sign_34 ?_
      refine lv_if_ne (tgt := 49) hx hb dX6_sign_37 (by decide) (fun c_37 => ?_) (fun c_37 => ?_)
      · refine lv_iconst (v := 1) hx hb dX6_sign_49 (by decide) ?_
        refine lv_goto (tgt := 54) hx hb dX6_sign_50 (by decide) ?_
        refine pf_X6_110 C hP hS hk nar_z1 (by decide) dX6_sign_54 (fun H locs hP hS => ?_)
        refine lv_aload_n hx hb dX6_sign_57 rfl (lv_at hl 1 rfl) ?_
        refine lv_dup hx hb dX6_sign_58 rfl ?_
        refine gf_X6_107 C hP hk dX6_sign_59 ?_
        refine lv_aload_n hx hb dX6_sign_62 rfl (lv_at hl 1 rfl) ?_
        refine gf_X6_110 C hP hk dX6_sign_63 ?_
        refine lv_if_eq (tgt := 73) hx hb dX6_sign_66 (by decide) (fun c_66 => ?_) (fun c_66 => ?_)
        · refine lv_iconst (v := 1) hx hb dX6_sign_73 (by decide) ?_
          refine lv_iadd hx hb dX6_sign_74 ?_
          refine pf_X6_107 C hP hS hk dX6_sign_75 (fun H locs hP hS => ?_)
          refine lv_iload_n hx hb dX6_sign_78 rfl (lv_at hl 0 rfl) ?_
          exact ret_I C hP hS (nar_i _) rfl (by unfold f_X6_sign; rw [if_neg c_8, if_neg c_15, if_neg c_37, if_pos c_66]) rfl (by unfold t_X6_sign; rw [if_neg c_8, if_neg c_15, if_neg c_37, if_pos c_66]) dX6_sign_79
        · refine lv_iconst (v := 0) hx hb dX6_sign_69 (by decide) ?_
          refine lv_goto (tgt := 74) hx hb dX6_sign_70 (by decide) ?_
          refine lv_iadd hx hb dX6_sign_74 ?_
          refine pf_X6_107 C hP hS hk dX6_sign_75 (fun H locs hP hS => ?_)
          refine lv_iload_n hx hb dX6_sign_78 rfl (lv_at hl 0 rfl) ?_
          exact ret_I C hP hS (nar_i _) rfl (by unfold f_X6_sign; rw [if_neg c_8, if_neg c_15, if_neg c_37, if_neg c_66]) rfl (by unfold t_X6_sign; rw [if_neg c_8, if_neg c_15, if_neg c_37, if_neg c_66]) dX6_sign_79
      · refine lv_iload_n hx hb dX6_sign_40 rfl (lv_at hl 0 rfl) ?_
        refine lv_iload_n hx hb dX6_sign_41 rfl (lv_at hl 2 rfl) ?_
        refine lv_iload_n hx hb dX6_sign_42 rfl (lv_at hl 3 rfl) ?_
        refine thn_I (run_S (As := [.int 0, .int x, .int y]) (rest := [.ref (z + k)]) C (k_X6_in l D cy z o d σ τ 0 x y) hP hS cw_X6_in (mA4 (i := 49) rfl rfl) ⟨rfl, rfl⟩ ⟨Nat.le_of_ble_eq_true rfl, Nat.le_of_ble_eq_true rfl⟩ rfl (Nat.le_of_ble_eq_true rfl) hl.1 ⟨Nat.zero_le _, Nat.zero_le _⟩ dX6_sign_43) hS (fun H locs hP hS => ?_)
        refine lv_if_ne (tgt := 53) hx hb dX6_sign_46 (by decide) (fun c_46 => ?_) (fun c_46 => ?_)
        · refine lv_iconst (v := 0) hx hb dX6_sign_53 (by decide) ?_
          refine pf_X6_110 C hP hS hk nar_z0 (by decide) dX6_sign_54 (fun H locs hP hS => ?_)
          refine lv_aload_n hx hb dX6_sign_57 rfl (lv_at hl 1 rfl) ?_
          refine lv_dup hx hb dX6_sign_58 rfl ?_
          refine gf_X6_107 C hP hk dX6_sign_59 ?_
          refine lv_aload_n hx hb dX6_sign_62 rfl (lv_at hl 1 rfl) ?_
          refine gf_X6_110 C hP hk dX6_sign_63 ?_
          refine lv_if_eq (tgt := 73) hx hb dX6_sign_66 (by decide) (fun c_66 => ?_) (fun c_66 => ?_)
          · refine lv_iconst (v := 1) hx hb dX6_sign_73 (by decide) ?_
            refine lv_iadd hx hb dX6_sign_74 ?_
            refine pf_X6_107 C hP hS hk dX6_sign_75 (fun H locs hP hS => ?_)
            refine lv_iload_n hx hb dX6_sign_78 rfl (lv_at hl 0 rfl) ?_
            exact ret_I C hP hS (nar_i _) rfl (by unfold f_X6_sign; rw [if_neg c_8, if_neg c_15, if_pos c_37, if_neg c_46, if_pos c_66]) rfl (by unfold t_X6_sign; rw [if_neg c_8, if_neg c_15, if_pos c_37, if_neg c_46, if_pos c_66]) dX6_sign_79
          · refine lv_iconst (v := 0) hx hb dX6_sign_69 (by decide) ?_
            refine lv_goto (tgt := 74) hx hb dX6_sign_70 (by decide) ?_
            refine lv_iadd hx hb dX6_sign_74 ?_
            refine pf_X6_107 C hP hS hk dX6_sign_75 (fun H locs hP hS => ?_)
            refine lv_iload_n hx hb dX6_sign_78 rfl (lv_at hl 0 rfl) ?_
            exact ret_I C hP hS (nar_i _) rfl (by unfold f_X6_sign; rw [if_neg c_8, if_neg c_15, if_pos c_37, if_neg c_46, if_neg c_66]) rfl (by unfold t_X6_sign; rw [if_neg c_8, if_neg c_15, if_pos c_37, if_neg c_46, if_neg c_66]) dX6_sign_79
        · refine lv_iconst (v := 1) hx hb dX6_sign_49 (by decide) ?_
          refine lv_goto (tgt := 54) hx hb dX6_sign_50 (by decide) ?_
          refine pf_X6_110 C hP hS hk nar_z1 (by decide) dX6_sign_54 (fun H locs hP hS => ?_)
          refine lv_aload_n hx hb dX6_sign_57 rfl (lv_at hl 1 rfl) ?_
          refine lv_dup hx hb dX6_sign_58 rfl ?_
          refine gf_X6_107 C hP hk dX6_sign_59 ?_
          refine lv_aload_n hx hb dX6_sign_62 rfl (lv_at hl 1 rfl) ?_
          refine gf_X6_110 C hP hk dX6_sign_63 ?_
          refine lv_if_eq (tgt := 73) hx hb dX6_sign_66 (by decide) (fun c_66 => ?_) (fun c_66 => ?_)
          · refine lv_iconst (v := 1) hx hb dX6_sign_73 (by decide) ?_
            refine lv_iadd hx hb dX6_sign_74 ?_
            refine pf_X6_107 C hP hS hk dX6_sign_75 (fun H locs hP hS => ?_)
            refine lv_iload_n hx hb dX6_sign_78 rfl (lv_at hl 0 rfl) ?_
            exact ret_I C hP hS (nar_i _) rfl (by unfold f_X6_sign; rw [if_neg c_8, if_neg c_15, if_pos c_37, if_pos c_46, if_pos c_66]) rfl (by unfold t_X6_sign; rw [if_neg c_8, if_neg c_15, if_pos c_37, if_pos c_46, if_pos c_66]) dX6_sign_79
          · refine lv_iconst (v := 0) hx hb dX6_sign_69 (by decide) ?_
            refine lv_goto (tgt := 74) hx hb dX6_sign_70 (by decide) ?_
            refine lv_iadd hx hb dX6_sign_74 ?_
            refine pf_X6_107 C hP hS hk dX6_sign_75 (fun H locs hP hS => ?_)
            refine lv_iload_n hx hb dX6_sign_78 rfl (lv_at hl 0 rfl) ?_
            exact ret_I C hP hS (nar_i _) rfl (by unfold f_X6_sign; rw [if_neg c_8, if_neg c_15, if_pos c_37, if_pos c_46, if_neg c_66]) rfl (by unfold t_X6_sign; rw [if_neg c_8, if_neg c_15, if_pos c_37, if_pos c_46, if_neg c_66]) dX6_sign_79
    · refine lv_aload_n hx hb dX6_sign_18 rfl (lv_at hl 0 rfl) ?_
      refine gf_X6_22 C hP hk dX6_sign_19 ?_
      refine lv_aload_n hx hb dX6_sign_22 rfl (lv_at hl 0 rfl) ?_
      refine gf_X6_107 C hP hk dX6_sign_23 ?_
      have hb9 := ma_lt hTT c_8
      rw [hTT.2.of.1]
      refine al_14 C hP (kd6_5 hk) (vp_in_nI hb9 (by decide)) dX6_sign_26 ?_
      rw [nI_clamp (by omega)]
      refine lv_goto (tgt := 31) hx hb dX6_sign_27 (by decide) ?_
      refine lv_istore_n (lv' := [(3, .int (τ 5 (MA τ))), (0, .ref (z + k)), (1, .int x), (2, .int y)]) hx hb dX6_sign_31 rfl hl (by decide) rfl (fun ls hl => ?_)
      refine lv_aload_n hx hb dX6_sign_32 rfl (lv_at hl 1 rfl) ?_
      refine lv_aload_n hx hb dX6_sign_33 rfl (lv_at hl 1 rfl) ?_
      refine gf_X6_110 C hP hk dX6_sign_34 ?_
      refine lv_if_ne (tgt := 49) hx hb dX6_sign_37 (by decide) (fun c_37 => ?_) (fun c_37 => ?_)
      · refine lv_iconst (v := 1) hx hb dX6_sign_49 (by decide) ?_
        refine lv_goto (tgt := 54) hx hb dX6_sign_50 (by decide) ?_
        refine pf_X6_110 C hP hS hk nar_z1 (by decide) dX6_sign_54 (fun H locs hP hS => ?_)
        refine lv_aload_n hx hb dX6_sign_57 rfl (lv_at hl 1 rfl) ?_
        refine lv_dup hx hb dX6_sign_58 rfl ?_
        refine gf_X6_107 C hP hk dX6_sign_59 ?_
        refine lv_aload_n hx hb dX6_sign_62 rfl (lv_at hl 1 rfl) ?_
        refine gf_X6_110 C hP hk dX6_sign_63 ?_
        refine lv_if_eq (tgt := 73) hx hb dX6_sign_66 (by decide) (fun c_66 => ?_) (fun c_66 => ?_)
        · refine lv_iconst (v := 1) hx hb dX6_sign_73 (by decide) ?_
          refine lv_iadd hx hb dX6_sign_74 ?_
          refine pf_X6_107 C hP hS hk dX6_sign_75 (fun H locs hP hS => ?_)
          refine lv_iload_n hx hb dX6_sign_78 rfl (lv_at hl 0 rfl) ?_
          exact ret_I C hP hS (nar_i _) rfl (by unfold f_X6_sign; rw [if_neg c_8, if_pos c_15, if_neg c_37, if_pos c_66]) rfl (by unfold t_X6_sign; rw [if_neg c_8, if_pos c_15, if_neg c_37, if_pos c_66]) dX6_sign_79
        · refine lv_iconst (v := 0) hx hb dX6_sign_69 (by decide) ?_
          refine lv_goto (tgt := 74) hx hb dX6_sign_70 (by decide) ?_
          refine lv_iadd hx hb dX6_sign_74 ?_
          refine pf_X6_107 C hP hS hk dX6_sign_75 (fun H locs hP hS => ?_)
          refine lv_iload_n hx hb dX6_sign_78 rfl (lv_at hl 0 rfl) ?_
          exact ret_I C hP hS (nar_i _) rfl (by unfold f_X6_sign; rw [if_neg c_8, if_pos c_15, if_neg c_37, if_neg c_66]) rfl (by unfold t_X6_sign; rw [if_neg c_8, if_pos c_15, if_neg c_37, if_neg c_66]) dX6_sign_79
      · refine lv_iload_n hx hb dX6_sign_40 rfl (lv_at hl 0 rfl) ?_
        refine lv_iload_n hx hb dX6_sign_41 rfl (lv_at hl 2 rfl) ?_
        refine lv_iload_n hx hb dX6_sign_42 rfl (lv_at hl 3 rfl) ?_
        refine thn_I (run_S (As := [.int (τ 5 (MA τ)), .int x, .int y]) (rest := [.ref (z + k)]) C (k_X6_in l D cy z o d σ τ (τ 5 (MA τ)) x y) hP hS cw_X6_in (mA4 (i := 49) rfl rfl) ⟨rfl, rfl⟩ ⟨Nat.le_of_ble_eq_true rfl, Nat.le_of_ble_eq_true rfl⟩ rfl (Nat.le_of_ble_eq_true rfl) hl.1 ⟨Nat.zero_le _, Nat.zero_le _⟩ dX6_sign_43) hS (fun H locs hP hS => ?_)
        refine lv_if_ne (tgt := 53) hx hb dX6_sign_46 (by decide) (fun c_46 => ?_) (fun c_46 => ?_)
        · refine lv_iconst (v := 0) hx hb dX6_sign_53 (by decide) ?_
          refine pf_X6_110 C hP hS hk nar_z0 (by decide) dX6_sign_54 (fun H locs hP hS => ?_)
          refine lv_aload_n hx hb dX6_sign_57 rfl (lv_at hl 1 rfl) ?_
          refine lv_dup hx hb dX6_sign_58 rfl ?_
          refine gf_X6_107 C hP hk dX6_sign_59 ?_
          refine lv_aload_n hx hb dX6_sign_62 rfl (lv_at hl 1 rfl) ?_
          refine gf_X6_110 C hP hk dX6_sign_63 ?_
          refine lv_if_eq (tgt := 73) hx hb dX6_sign_66 (by decide) (fun c_66 => ?_) (fun c_66 => ?_)
          · refine lv_iconst (v := 1) hx hb dX6_sign_73 (by decide) ?_
            refine lv_iadd hx hb dX6_sign_74 ?_
            refine pf_X6_107 C hP hS hk dX6_sign_75 (fun H locs hP hS => ?_)
            refine lv_iload_n hx hb dX6_sign_78 rfl (lv_at hl 0 rfl) ?_
            exact ret_I C hP hS (nar_i _) rfl (by unfold f_X6_sign; rw [if_neg c_8, if_pos c_15, if_pos c_37, if_neg c_46, if_pos c_66]) rfl (by unfold t_X6_sign; rw [if_neg c_8, if_pos c_15, if_pos c_37, if_neg c_46, if_pos c_66]) dX6_sign_79
          · refine lv_iconst (v := 0) hx hb dX6_sign_69 (by decide) ?_
            refine lv_goto (tgt := 74) hx hb dX6_sign_70 (by decide) ?_
            refine lv_iadd hx hb dX6_sign_74 ?_
            refine pf_X6_107 C hP hS hk dX6_sign_75 (fun H locs hP hS => ?_)
            refine lv_iload_n hx hb dX6_sign_78 rfl (lv_at hl 0 rfl) ?_
            exact ret_I C hP hS (nar_i _) rfl (by unfold f_X6_sign; rw [if_neg c_8, if_pos c_15, if_pos c_37, if_neg c_46, if_neg c_66]) rfl (by unfold t_X6_sign; rw [if_neg c_8, if_pos c_15, if_pos c_37, if_neg c_46, if_neg c_66]) dX6_sign_79
        · refine lv_iconst (v := 1) hx hb dX6_sign_49 (by decide) ?_
          refine lv_goto (tgt := 54) hx hb dX6_sign_50 (by decide) ?_
          refine pf_X6_110 C hP hS hk nar_z1 (by decide) dX6_sign_54 (fun H locs hP hS => ?_)
          refine lv_aload_n hx hb dX6_sign_57 rfl (lv_at hl 1 rfl) ?_
          refine lv_dup hx hb dX6_sign_58 rfl ?_
          refine gf_X6_107 C hP hk dX6_sign_59 ?_
          refine lv_aload_n hx hb dX6_sign_62 rfl (lv_at hl 1 rfl) ?_
          refine gf_X6_110 C hP hk dX6_sign_63 ?_
          refine lv_if_eq (tgt := 73) hx hb dX6_sign_66 (by decide) (fun c_66 => ?_) (fun c_66 => ?_)
          · refine lv_iconst (v := 1) hx hb dX6_sign_73 (by decide) ?_
            refine lv_iadd hx hb dX6_sign_74 ?_
            refine pf_X6_107 C hP hS hk dX6_sign_75 (fun H locs hP hS => ?_)
            refine lv_iload_n hx hb dX6_sign_78 rfl (lv_at hl 0 rfl) ?_
            exact ret_I C hP hS (nar_i _) rfl (by unfold f_X6_sign; rw [if_neg c_8, if_pos c_15, if_pos c_37, if_pos c_46, if_pos c_66]) rfl (by unfold t_X6_sign; rw [if_neg c_8, if_pos c_15, if_pos c_37, if_pos c_46, if_pos c_66]) dX6_sign_79
          · refine lv_iconst (v := 0) hx hb dX6_sign_69 (by decide) ?_
            refine lv_goto (tgt := 74) hx hb dX6_sign_70 (by decide) ?_
            refine lv_iadd hx hb dX6_sign_74 ?_
            refine pf_X6_107 C hP hS hk dX6_sign_75 (fun H locs hP hS => ?_)
            refine lv_iload_n hx hb dX6_sign_78 rfl (lv_at hl 0 rfl) ?_
            exact ret_I C hP hS (nar_i _) rfl (by unfold f_X6_sign; rw [if_neg c_8, if_pos c_15, if_pos c_37, if_pos c_46, if_neg c_66]) rfl (by unfold t_X6_sign; rw [if_neg c_8, if_pos c_15, if_pos c_37, if_pos c_46, if_neg c_66]) dX6_sign_79

theorem cw_X6_isNext : cwVt yX6_isNext cX6_isNext 3 (some .boolean) 6 2 := ⟨(mA4 (i := 169) rfl rfl), (mA0 (i := 29) rfl rfl), (mA1 (i := 7) rfl rfl), (mA4 (i := 170) rfl rfl), by decide +kernel, ⟨_, rfl, rfl⟩, by decide⟩
abbrev rm_X6_isNext : Room := { frames := 1, cells := 0, slots := 0, locals := 22 }
def f_X6_isNext (τ : Sg) (x : Int32) (y : Int32) : Int32 :=
  if (τ 0 10) = 0 then
    if (τ 0 7) ≤ (τ 0 9) then
      0
    else
      if (f_X6_in (τ 5 (MA τ)) x y) = 0 then
        0
      else
        1
  else
    0
set_option maxHeartbeats 4000000 in
set_option maxRecDepth 100000 in
theorem k_X6_isNext (l : Launch) (D : va_G) (cy : Nat → ClassId) (z : Nat) (o : Int64) (d : UInt64) (σ τ : Sg) {k : Nat} (hk : kd k = 6) (x : Int32) (y : Int32) (hTT : TT τ) : KI l yX6_isNext cX6_isNext 3 (some .boolean) rm_X6_isNext D cy z [.ref (z + k), .int x, .int y] o d σ τ (f_X6_isNext τ x y) σ τ := by
  refine met_of RX6 (plainFor_of_name (by decide)) rfl (Nat.le_of_ble_eq_true rfl) ?_
  intro p e s m args below meth c C hP hS ls hl
  obtain ⟨hx, hb, hr, hml, hown, hW, hlocks, hAm⟩ := id C
  have hl : lv_has ls 3 [(0, .ref (z + k)), (1, .int x), (2, .int y)] := hl
  refine lv_aload_n hx hb dX6_isNext_0 rfl (lv_at hl 0 rfl) ?_
  refine gf_X6_110 C hP hk dX6_isNext_1 ?_
  refine lv_if_ne (tgt := 39) hx hb dX6_isNext_4 (by decide) (fun c_4 => ?_) (fun c_4 => ?_)
  · refine lv_iconst (v := 0) hx hb dX6_isNext_39 (by decide) ?_
    exact ret_I C hP hS nar_z0 rfl (by unfold f_X6_isNext; rw [if_neg c_4]) rfl rfl dX6_isNext_40
  · refine lv_aload_n hx hb dX6_isNext_7 rfl (lv_at hl 0 rfl) ?_
    refine gf_X6_107 C hP hk dX6_isNext_8 ?_
    refine lv_aload_n hx hb dX6_isNext_11 rfl (lv_at hl 0 rfl) ?_
    refine gf_X6_104 C hP hk dX6_isNext_12 ?_
    refine lv_icmp_ge (tgt := 39) hx hb dX6_isNext_15 (by decide) (fun c_15 => ?_) (fun c_15 => ?_)
    · refine lv_iconst (v := 0) hx hb dX6_isNext_39 (by decide) ?_
      exact ret_I C hP hS nar_z0 rfl (by unfold f_X6_isNext; rw [if_pos c_4, if_pos c_15]) rfl rfl dX6_isNext_40
    · refine lv_aload_n hx hb dX6_isNext_18 rfl (lv_at hl 0 rfl) ?_
      refine gf_X6_22 C hP hk dX6_isNext_19 ?_
      refine lv_aload_n hx hb dX6_isNext_22 rfl (lv_at hl 0 rfl) ?_
      refine gf_X6_107 C hP hk dX6_isNext_23 ?_
      have hb9 := ma_lt hTT c_15
      rw [hTT.2.of.1]
      refine al_14 C hP (kd6_5 hk) (vp_in_nI hb9 (by decide)) dX6_isNext_26 ?_
      rw [nI_clamp (by omega)]
      refine lv_iload_n hx hb dX6_isNext_27 rfl (lv_at hl 1 rfl) ?_
      refine lv_iload_n hx hb dX6_isNext_28 rfl (lv_at hl 2 rfl) ?_
      refine thn_I (run_S (As := [.int (τ 5 (MA τ)), .int x, .int y]) (rest := []) C (k_X6_in l D cy z o d σ τ (τ 5 (MA τ)) x y) hP hS cw_X6_in (mA4 (i := 49) rfl rfl) ⟨rfl, rfl⟩ ⟨Nat.le_of_ble_eq_true rfl, Nat.le_of_ble_eq_true rfl⟩ rfl (Nat.le_of_ble_eq_true rfl) hl.1 ⟨Nat.zero_le _, Nat.zero_le _⟩ dX6_isNext_29) hS (fun H locs hP hS => ?_)
      refine lv_if_eq (tgt := 39) hx hb dX6_isNext_32 (by decide) (fun c_32 => ?_) (fun c_32 => ?_)
      · refine lv_iconst (v := 0) hx hb dX6_isNext_39 (by decide) ?_
        exact ret_I C hP hS nar_z0 rfl (by unfold f_X6_isNext; rw [if_pos c_4, if_neg c_15, if_pos c_32]) rfl rfl dX6_isNext_40
      · refine lv_iconst (v := 1) hx hb dX6_isNext_35 (by decide) ?_
        refine lv_goto (tgt := 40) hx hb dX6_isNext_36 (by decide) ?_
        exact ret_I C hP hS nar_z1 rfl (by unfold f_X6_isNext; rw [if_pos c_4, if_neg c_15, if_neg c_32]) rfl rfl dX6_isNext_40
theorem nz_X6_isNext (τ : Sg) (x : Int32) (y : Int32) : narrow .boolean (.int (f_X6_isNext τ x y)) = .int (f_X6_isNext τ x y) := by
  unfold f_X6_isNext
  repeat' split
  all_goals first | exact nar_z1 | exact nar_z0


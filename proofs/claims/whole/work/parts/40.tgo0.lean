theorem cw_X6_go : cwVt yX6_go cX6_go 4 (some .boolean) 6 1 := ⟨(mA4 (i := 157) rfl rfl), (mA0 (i := 26) rfl rfl), (mA1 (i := 7) rfl rfl), (mA4 (i := 158) rfl rfl), by decide +kernel, ⟨_, rfl, rfl⟩, by decide⟩
abbrev rm_X6_go_0 : Room := { frames := 4, cells := 0, slots := 0, locals := 96 }
def gf_X6_go_0  : Nat → Int32 → Sg → Int32
  | 0, _, _ => 0
  | n + 1, x2, τ =>
    if x2 = 0 then
      1
    else
      if ((up (t_X6_isOrdered_0 τ) 0 11 (((t_X6_isOrdered_0 τ) 0 11) + 1)) 0 10) = 0 then
        if ((up (t_X6_isOrdered_0 τ) 0 11 (((t_X6_isOrdered_0 τ) 0 11) + 1)) 0 7) ≤ ((up (t_X6_isOrdered_0 τ) 0 11 (((t_X6_isOrdered_0 τ) 0 11) + 1)) 0 9) then
          gf_X6_go_0 n 0 (up (t_X6_isOrdered_0 τ) 0 11 (((t_X6_isOrdered_0 τ) 0 11) + 1))
        else
          if ((t_X6_sign (up (t_X6_isOrdered_0 τ) 0 11 (((t_X6_isOrdered_0 τ) 0 11) + 1)) 59 59) 0 10) = 0 then
            gf_X6_go_0 n 1 (t_X6_sign (up (t_X6_isOrdered_0 τ) 0 11 (((t_X6_isOrdered_0 τ) 0 11) + 1)) 59 59)
          else
            gf_X6_go_0 n 0 (t_X6_sign (up (t_X6_isOrdered_0 τ) 0 11 (((t_X6_isOrdered_0 τ) 0 11) + 1)) 59 59)
      else
        gf_X6_go_0 n 0 (up (t_X6_isOrdered_0 τ) 0 11 (((t_X6_isOrdered_0 τ) 0 11) + 1))
def gt_X6_go_0  : Nat → Int32 → Sg → Sg
  | 0, _, τ => τ
  | n + 1, x2, τ =>
    if x2 = 0 then
      τ
    else
      if ((up (t_X6_isOrdered_0 τ) 0 11 (((t_X6_isOrdered_0 τ) 0 11) + 1)) 0 10) = 0 then
        if ((up (t_X6_isOrdered_0 τ) 0 11 (((t_X6_isOrdered_0 τ) 0 11) + 1)) 0 7) ≤ ((up (t_X6_isOrdered_0 τ) 0 11 (((t_X6_isOrdered_0 τ) 0 11) + 1)) 0 9) then
          gt_X6_go_0 n 0 (up (t_X6_isOrdered_0 τ) 0 11 (((t_X6_isOrdered_0 τ) 0 11) + 1))
        else
          if ((t_X6_sign (up (t_X6_isOrdered_0 τ) 0 11 (((t_X6_isOrdered_0 τ) 0 11) + 1)) 59 59) 0 10) = 0 then
            gt_X6_go_0 n 1 (t_X6_sign (up (t_X6_isOrdered_0 τ) 0 11 (((t_X6_isOrdered_0 τ) 0 11) + 1)) 59 59)
          else
            gt_X6_go_0 n 0 (t_X6_sign (up (t_X6_isOrdered_0 τ) 0 11 (((t_X6_isOrdered_0 τ) 0 11) + 1)) 59 59)
      else
        gt_X6_go_0 n 0 (up (t_X6_isOrdered_0 τ) 0 11 (((t_X6_isOrdered_0 τ) 0 11) + 1))
set_option maxHeartbeats 4000000 in
set_option maxRecDepth 100000 in
theorem lp_X6_go_0 {p : Program} {l : Launch} {e : Env} {s : State} {m : MethodId} {args : Array Value} {below : List Frame} {meth : Method} {c : Code} {D : va_G} {cy : Nat → ClassId} {z : Nat} (C : Bd p s m args meth c cX6_go 4 (some .boolean) RX6 D cy z) (o : Int64) (d : UInt64) {k : Nat} (hk : kd k = 6)  {r9 : Int32} {τ9 : Sg} :
    ∀ (n : Nat) (x2 : Int32) (σ τ : Sg) (H : Heap) (locs : List Loc), (TT τ) → (1 ≤ n ∧ (¬ x2 = 0 → 82 ≤ MA τ + n)) → (gf_X6_go_0  n x2 τ = r9) → (gt_X6_go_0  n x2 τ = τ9) → WP D cy z σ τ o d H → va_S (fz z) s.heap H locs → ∀ ls : Array Slot, lv_has ls 4 [(0, .ref (z + k)), (1, .int 0), (2, .int x2)] → W p l e rm_X6_go_0 s m args below meth c H locs 0 0 (MQ below (PoI D cy z o d r9 σ τ9) args s 0 0 (fz z)) (F0 m 17 ls []) := by
  obtain ⟨hx, hb, hr, hml, hown, hW, hlocks, hAm⟩ := id C
  intro n
  induction n with
  | zero =>
    intro _ σ τ H locs hTT hn9 _ _ hP hS ls hl
    exact absurd hn9 (by omega)
  | succ n ih =>
    intro x2 σ τ H locs hTT hn9 hr9 ht9 hP hS ls hl
    refine lv_iload_n hx hb dX6_go_17 rfl (lv_at hl 2 rfl) ?_
    refine lv_if_eq (tgt := 94) hx hb dX6_go_18 (by decide) (fun c_18 => ?_) (fun c_18 => ?_)
    · refine lv_iconst (v := 1) hx hb dX6_go_94 (by decide) ?_
      exact ret_I C hP hS nar_z1 rfl (by rw [← hr9, gf_X6_go_0]; rw [if_pos c_18]) rfl (by rw [← ht9, gt_X6_go_0]; rw [if_pos c_18]) dX6_go_95
    · refine lv_aload_n hx hb dX6_go_21 rfl (lv_at hl 0 rfl) ?_
      refine lv_iload_n hx hb dX6_go_22 rfl (lv_at hl 1 rfl) ?_
      refine thn_I (run_V (As := [.int 0]) (rest := []) C (k_X6_isOrdered_0 l D cy z o d σ τ hk hTT) hP hS cw_X6_isOrdered (mA4 (i := 159) rfl rfl) hk ⟨rfl, rfl⟩ ⟨Nat.le_of_ble_eq_true rfl, Nat.le_of_ble_eq_true rfl⟩ rfl (Nat.le_of_ble_eq_true rfl) hl.1 ⟨Nat.zero_le _, Nat.zero_le _⟩ dX6_go_23) hS (fun H locs hP hS => ?_)
      refine lv_if_ne (tgt := 31) hx hb dX6_go_26 (by decide) (fun c_26 => ?_) (fun c_26 => ?_)
      · refine lv_aload_n hx hb dX6_go_31 rfl (lv_at hl 0 rfl) ?_
        refine lv_dup hx hb dX6_go_32 rfl ?_
        refine gf_X6_124 C hP hk dX6_go_33 ?_
        refine lv_iconst (v := 1) hx hb dX6_go_36 (by decide) ?_
        refine lv_iadd hx hb dX6_go_37 ?_
        refine pf_X6_124 C hP hS hk dX6_go_38 (fun H locs hP hS => ?_)
        refine lv_aload_n hx hb dX6_go_41 rfl (lv_at hl 0 rfl) ?_
        refine gf_X6_110 C hP hk dX6_go_42 ?_
        refine lv_if_ne (tgt := 63) hx hb dX6_go_45 (by decide) (fun c_45 => ?_) (fun c_45 => ?_)
        · refine lv_iconst (v := 0) hx hb dX6_go_63 (by decide) ?_
          refine lv_istore_n (lv' := [(2, .int 0), (0, .ref (z + k)), (1, .int 0)]) hx hb dX6_go_64 rfl hl (by decide) rfl (fun ls hl => ?_)
          refine lv_iload_n hx hb dX6_go_65 rfl (lv_at hl 0 rfl) ?_
          refine lv_if_eq (tgt := 17) hx hb dX6_go_66 (by decide) (fun c_66 => ?_) (fun c_66 => ?_)
          · exact ih 0 σ (up (t_X6_isOrdered_0 τ) 0 11 (((t_X6_isOrdered_0 τ) 0 11) + 1)) _ _ (by first | exact (ord0_tt hTT).1.up11 | exact (ord0_tt hTT).1.up11.sign (by decide)) (by first | exact ⟨go_n hTT hn9 c_18, fun h => absurd rfl h⟩ | exact ⟨go_n hTT hn9 c_18, fun _ => go_m hTT hn9 c_18 c_82⟩) (by rw [← hr9, gf_X6_go_0]; rw [if_neg c_18, if_neg c_45]) (by rw [← ht9, gt_X6_go_0]; rw [if_neg c_18, if_neg c_45]) hP hS ls (lv_sub hl [1, 2, 0] rfl)
          · exact absurd rfl c_66
        · refine lv_aload_n hx hb dX6_go_48 rfl (lv_at hl 0 rfl) ?_
          refine gf_X6_107 C hP hk dX6_go_49 ?_
          refine lv_aload_n hx hb dX6_go_52 rfl (lv_at hl 0 rfl) ?_
          refine gf_X6_104 C hP hk dX6_go_53 ?_
          refine lv_icmp_ge (tgt := 63) hx hb dX6_go_56 (by decide) (fun c_56 => ?_) (fun c_56 => ?_)
          · refine lv_iconst (v := 0) hx hb dX6_go_63 (by decide) ?_
            refine lv_istore_n (lv' := [(2, .int 0), (0, .ref (z + k)), (1, .int 0)]) hx hb dX6_go_64 rfl hl (by decide) rfl (fun ls hl => ?_)
            refine lv_iload_n hx hb dX6_go_65 rfl (lv_at hl 0 rfl) ?_
            refine lv_if_eq (tgt := 17) hx hb dX6_go_66 (by decide) (fun c_66 => ?_) (fun c_66 => ?_)
            · exact ih 0 σ (up (t_X6_isOrdered_0 τ) 0 11 (((t_X6_isOrdered_0 τ) 0 11) + 1)) _ _ (by first | exact (ord0_tt hTT).1.up11 | exact (ord0_tt hTT).1.up11.sign (by decide)) (by first | exact ⟨go_n hTT hn9 c_18, fun h => absurd rfl h⟩ | exact ⟨go_n hTT hn9 c_18, fun _ => go_m hTT hn9 c_18 c_82⟩) (by rw [← hr9, gf_X6_go_0]; rw [if_neg c_18, if_pos c_45, if_pos c_56]) (by rw [← ht9, gt_X6_go_0]; rw [if_neg c_18, if_pos c_45, if_pos c_56]) hP hS ls (lv_sub hl [1, 2, 0] rfl)
            · exact absurd rfl c_66
          · refine lv_iconst (v := 1) hx hb dX6_go_59 (by decide) ?_
            refine lv_goto (tgt := 64) hx hb dX6_go_60 (by decide) ?_
            refine lv_istore_n (lv' := [(2, .int 1), (0, .ref (z + k)), (1, .int 0)]) hx hb dX6_go_64 rfl hl (by decide) rfl (fun ls hl => ?_)
            refine lv_iload_n hx hb dX6_go_65 rfl (lv_at hl 0 rfl) ?_
            refine lv_if_eq (tgt := 17) hx hb dX6_go_66 (by decide) (fun c_66 => ?_) (fun c_66 => ?_)
            · exact absurd c_66 (by decide : ¬ (1:Int32) = 0)
            · refine lv_aload_n hx hb dX6_go_69 rfl (lv_at hl 1 rfl) ?_
              refine lv_bipush (v := 59) hx hb dX6_go_70 (by decide) ?_
              refine lv_bipush (v := 59) hx hb dX6_go_72 (by decide) ?_
              refine thn_I (run_V (As := [.int 59, .int 59]) (rest := []) C (k_X6_sign l D cy z o d σ (up (t_X6_isOrdered_0 τ) 0 11 (((t_X6_isOrdered_0 τ) 0 11) + 1)) hk 59 59 (ord0_tt hTT).1.up11) hP hS cw_X6_sign (mA4 (i := 163) rfl rfl) hk ⟨rfl, rfl⟩ ⟨Nat.le_of_ble_eq_true rfl, Nat.le_of_ble_eq_true rfl⟩ rfl (Nat.le_of_ble_eq_true rfl) hl.1 ⟨Nat.zero_le _, Nat.zero_le _⟩ dX6_go_74) hS (fun H locs hP hS => ?_)
              refine lv_istore_n (lv' := [(3, .int (f_X6_sign (up (t_X6_isOrdered_0 τ) 0 11 (((t_X6_isOrdered_0 τ) 0 11) + 1)) 59 59)), (2, .int 1), (0, .ref (z + k)), (1, .int 0)]) hx hb dX6_go_77 rfl hl (by decide) rfl (fun ls hl => ?_)
              refine lv_aload_n hx hb dX6_go_78 rfl (lv_at hl 2 rfl) ?_
              refine gf_X6_110 C hP hk dX6_go_79 ?_
              refine lv_if_ne (tgt := 89) hx hb dX6_go_82 (by decide) (fun c_82 => ?_) (fun c_82 => ?_)
              · refine lv_iconst (v := 0) hx hb dX6_go_89 (by decide) ?_
                refine lv_istore_n (lv' := [(2, .int 0), (3, .int (f_X6_sign (up (t_X6_isOrdered_0 τ) 0 11 (((t_X6_isOrdered_0 τ) 0 11) + 1)) 59 59)), (0, .ref (z + k)), (1, .int 0)]) hx hb dX6_go_90 rfl hl (by decide) rfl (fun ls hl => ?_)
                refine lv_goto (tgt := 17) hx hb dX6_go_91 (by decide) ?_
                exact ih 0 σ (t_X6_sign (up (t_X6_isOrdered_0 τ) 0 11 (((t_X6_isOrdered_0 τ) 0 11) + 1)) 59 59) _ _ (by first | exact (ord0_tt hTT).1.up11 | exact (ord0_tt hTT).1.up11.sign (by decide)) (by first | exact ⟨go_n hTT hn9 c_18, fun h => absurd rfl h⟩ | exact ⟨go_n hTT hn9 c_18, fun _ => go_m hTT hn9 c_18 c_82⟩) (by rw [← hr9, gf_X6_go_0]; rw [if_neg c_18, if_pos c_45, if_neg c_56, if_neg c_82]) (by rw [← ht9, gt_X6_go_0]; rw [if_neg c_18, if_pos c_45, if_neg c_56, if_neg c_82]) hP hS ls (lv_sub hl [2, 3, 0] rfl)
              · refine lv_iconst (v := 1) hx hb dX6_go_85 (by decide) ?_
                refine lv_goto (tgt := 90) hx hb dX6_go_86 (by decide) ?_
                refine lv_istore_n (lv' := [(2, .int 1), (3, .int (f_X6_sign (up (t_X6_isOrdered_0 τ) 0 11 (((t_X6_isOrdered_0 τ) 0 11) + 1)) 59 59)), (0, .ref (z + k)), (1, .int 0)]) hx hb dX6_go_90 rfl hl (by decide) rfl (fun ls hl => ?_)
                refine lv_goto (tgt := 17) hx hb dX6_go_91 (by decide) ?_
                exact ih 1 σ (t_X6_sign (up (t_X6_isOrdered_0 τ) 0 11 (((t_X6_isOrdered_0 τ) 0 11) + 1)) 59 59) _ _ (by first | exact (ord0_tt hTT).1.up11 | exact (ord0_tt hTT).1.up11.sign (by decide)) (by first | exact ⟨go_n hTT hn9 c_18, fun h => absurd rfl h⟩ | exact ⟨go_n hTT hn9 c_18, fun _ => go_m hTT hn9 c_18 c_82⟩) (by rw [← hr9, gf_X6_go_0]; rw [if_neg c_18, if_pos c_45, if_neg c_56, if_pos c_82]) (by rw [← ht9, gt_X6_go_0]; rw [if_neg c_18, if_pos c_45, if_neg c_56, if_pos c_82]) hP hS ls (lv_sub hl [2, 3, 0] rfl)
      · exact absurd c_26 (ord0_ne hTT)
def f_X6_go_0 (τ : Sg) : Int32 :=
  gf_X6_go_0 83 1 (up (up (up τ 0 9 0) 0 10 0) 0 11 0)
def t_X6_go_0 (τ : Sg) : Sg :=
  gt_X6_go_0 83 1 (up (up (up τ 0 9 0) 0 10 0) 0 11 0)
set_option maxHeartbeats 4000000 in
set_option maxRecDepth 100000 in
theorem k_X6_go_0 (l : Launch) (D : va_G) (cy : Nat → ClassId) (z : Nat) (o : Int64) (d : UInt64) (σ τ : Sg) {k : Nat} (hk : kd k = 6) (hT : TLI τ) : KI l yX6_go cX6_go 4 (some .boolean) rm_X6_go_0 D cy z [.ref (z + k), .int 0] o d σ τ (f_X6_go_0 τ) σ (t_X6_go_0 τ) := by
  refine met_of RX6 (plainFor_of_name (by decide)) rfl (Nat.le_of_ble_eq_true rfl) ?_
  intro p e s m args below meth c C hP hS ls hl
  obtain ⟨hx, hb, hr, hml, hown, hW, hlocks, hAm⟩ := id C
  have hl : lv_has ls 4 [(0, .ref (z + k)), (1, .int 0)] := hl
  refine lv_aload_n hx hb dX6_go_0 rfl (lv_at hl 0 rfl) ?_
  refine lv_iconst (v := 0) hx hb dX6_go_1 (by decide) ?_
  refine pf_X6_107 C hP hS hk dX6_go_2 (fun H locs hP hS => ?_)
  refine lv_aload_n hx hb dX6_go_5 rfl (lv_at hl 0 rfl) ?_
  refine lv_iconst (v := 0) hx hb dX6_go_6 (by decide) ?_
  refine pf_X6_110 C hP hS hk nar_z0 (by decide) dX6_go_7 (fun H locs hP hS => ?_)
  refine lv_aload_n hx hb dX6_go_10 rfl (lv_at hl 0 rfl) ?_
  refine lv_iconst (v := 0) hx hb dX6_go_11 (by decide) ?_
  refine pf_X6_124 C hP hS hk dX6_go_12 (fun H locs hP hS => ?_)
  refine lv_iconst (v := 1) hx hb dX6_go_15 (by decide) ?_
  refine lv_istore_n (lv' := [(2, .int 1), (0, .ref (z + k)), (1, .int 0)]) hx hb dX6_go_16 rfl hl (by decide) rfl (fun ls hl => ?_)
  exact lp_X6_go_0 C o d hk  (83) 1 σ (up (up (up τ 0 9 0) 0 10 0) 0 11 0) _ _ (go0_tt hT) (⟨by omega, fun _ => by omega⟩) rfl rfl hP hS ls (lv_sub hl [1, 2, 0] rfl)


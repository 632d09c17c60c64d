theorem cw_X5_feel : cwVt yX5_feel cX5_feel 6 (some .int) 5 3 := ⟨(mA2 (i := 93) rfl rfl), (mA2 (i := 94) rfl rfl), (mA1 (i := 1) rfl rfl), (mA2 (i := 95) rfl rfl), by decide +kernel, ⟨_, rfl, rfl⟩, by decide⟩
def f_X5_feel (σ : Sg) (k : Nat) (x : Int32) (y : Int32) (w : Int32) : Int32 :=
  if x_X5_snailNumbered σ k x = 0 then
    if x_X5_demandState y = 0 then
      if w < 1 then
        0
      else
        if w ≤ 1000 then
          if x_X5_demandRoom σ (f_X5_snailNumbered σ k x) w (ab (f_X4_stepUnder σ (f_X5_snailNumbered σ k x) (σ (k + 1) 4) y)) = 0 then
            f_X4_stepUnder σ (f_X5_snailNumbered σ k x) (σ (k + 1) 4) y
          else
            0
        else
          0
    else
      0
  else
    0
def s_X5_feel (σ : Sg) (k : Nat) (x : Int32) (y : Int32) (w : Int32) : Sg :=
  if x_X5_snailNumbered σ k x = 0 then
    if x_X5_demandState y = 0 then
      if w < 1 then
        σ
      else
        if w ≤ 1000 then
          if x_X5_demandRoom σ (f_X5_snailNumbered σ k x) w (ab (f_X4_stepUnder σ (f_X5_snailNumbered σ k x) (σ (k + 1) 4) y)) = 0 then
            s_X4_sense (s_X3_keep σ (k + 40) (k + 1)) (f_X5_snailNumbered σ k x) y (f_X4_stepUnder σ (f_X5_snailNumbered σ k x) (σ (k + 1) 4) y) w
          else
            σ
        else
          σ
    else
      σ
  else
    σ
def x_X5_feel (σ : Sg) (k : Nat) (x : Int32) (y : Int32) (w : Int32) : Nat :=
  if x_X5_snailNumbered σ k x = 0 then
    if x_X5_demandState y = 0 then
      if w < 1 then
        2
      else
        if w ≤ 1000 then
          if x_X5_demandRoom σ (f_X5_snailNumbered σ k x) w (ab (f_X4_stepUnder σ (f_X5_snailNumbered σ k x) (σ (k + 1) 4) y)) = 0 then
            0
          else
            x_X5_demandRoom σ (f_X5_snailNumbered σ k x) w (ab (f_X4_stepUnder σ (f_X5_snailNumbered σ k x) (σ (k + 1) 4) y))
        else
          2
    else
      x_X5_demandState y
  else
    x_X5_snailNumbered σ k x
set_option maxHeartbeats 4000000 in
set_option maxRecDepth 100000 in
theorem k_X5_feel (l : Launch) (hfl : l.stackTraces = false) (D : va_G) (cy : Nat → ClassId) (z : Nat) (o : Int64) (d : UInt64) (σ τ : Sg) {k : Nat} (hk : kd k = 5) (x : Int32) (y : Int32) (w : Int32) : KT l yX5_feel cX5_feel 6 (some .int) 7 104 D cy z [.ref (z + k), .int x, .int y, .int w] o d σ τ (x_X5_feel σ k x y w) (PoTI D cy z o d (x_X5_feel σ k x y w) (f_X5_feel σ k x y w) (s_X5_feel σ k x y w) τ) (s_X5_feel σ k x y w) τ := by
  refine metT_of RX5 (by decide) rfl (Nat.le_of_ble_eq_true rfl) ?_
  intro p e s m args below meth c C hno hP hS ls hl
  obtain ⟨hx, hb, hr, hml, hown, hW, hlocks, hAm⟩ := id C
  have hl : lv_has ls 6 [(0, .ref (z + k)), (1, .int x), (2, .int y), (3, .int w)] := hl
  refine lv_aload_n hx hb dX5_feel_0 rfl (lv_at hl 0 rfl) ?_
  refine lv_iload_n hx hb dX5_feel_1 rfl (lv_at hl 1 rfl) ?_
  by_cases c_2 : x_X5_snailNumbered σ k x = 0
  · refine okT_R c_2 (runT_V (As := [.int x]) (rest := []) C (k_X5_snailNumbered l hfl D cy z o d σ τ hk x) hP hS cw_X5_snailNumbered (mA1 (i := 198) rfl rfl) hk ⟨Nat.le_of_ble_eq_true rfl, Nat.le_of_ble_eq_true rfl⟩ rfl (Nat.le_of_ble_eq_true rfl) hl.1 (tcc_0 c_2 ⟨Nat.zero_le _, Nat.zero_le _⟩) dX5_feel_2) hS (fun H locs hP hS => ?_)
    refine lv_astore (lv' := [(4, .ref (z + (f_X5_snailNumbered σ k x))), (0, .ref (z + k)), (1, .int x), (2, .int y), (3, .int w)]) hx hb dX5_feel_5 hl (by decide) rfl (fun ls hl => ?_)
    refine lv_iload_n hx hb dX5_feel_7 rfl (lv_at hl 3 rfl) ?_
    by_cases c_8 : x_X5_demandState y = 0
    · refine okT_V c_8 (runT_S (As := [.int y]) (rest := []) C (k_X5_demandState l hfl D cy z o d σ τ y) hP hS cw_X5_demandState (mA2 (i := 34) rfl rfl) ⟨Nat.le_of_ble_eq_true rfl, Nat.le_of_ble_eq_true rfl⟩ rfl (Nat.le_of_ble_eq_true rfl) hl.1 (tcc_0 c_8 ⟨Nat.zero_le _, Nat.zero_le _⟩) dX5_feel_8) hS (fun H locs hP hS => ?_)
      refine lv_iload_n hx hb dX5_feel_11 rfl (lv_at hl 4 rfl) ?_
      refine lv_iconst (v := 1) hx hb dX5_feel_12 (by decide) ?_
      refine lv_icmp_lt (tgt := 23) hx hb dX5_feel_13 (by decide) (fun c_13 => ?_) (fun c_13 => ?_)
      · exact thr_X5 C hno hfl hP hS (ik := 44) (is := 46) (ic := 48) (T := 2) (text := "ticks out of range") (by unfold x_X5_feel; rw [if_pos c_2, if_pos c_8, if_pos c_13]) (by decide) (by decide) vxi_2.1 vxi_2.2.1 vxi_2.2.2 (vxw vxa_x2) vxb_x2 vxc_x2 hl.1 dX5_feel_23 dX5_feel_26 dX5_feel_27 dX5_feel_29 dX5_feel_32 (by decide) (by decide) (by unfold s_X5_feel; rw [if_pos c_2, if_pos c_8, if_pos c_13]) rfl
      · refine lv_iload_n hx hb dX5_feel_16 rfl (lv_at hl 4 rfl) ?_
        refine lv_sipush (v := 1000) hx hb dX5_feel_17 (by decide) ?_
        refine lv_icmp_le (tgt := 33) hx hb dX5_feel_20 (by decide) (fun c_20 => ?_) (fun c_20 => ?_)
        · refine lv_aload hx hb dX5_feel_33 (lv_at hl 0 rfl) ?_
          refine lv_aload_n hx hb dX5_feel_35 rfl (lv_at hl 1 rfl) ?_
          refine gf_X5_10 C hP hk dX5_feel_36 ?_
          refine gf_X5_51 C hP (kd5_1 hk) dX5_feel_39 ?_
          refine lv_iload_n hx hb dX5_feel_42 rfl (lv_at hl 3 rfl) ?_
          refine thn_I (run_V (As := [.int (σ (k + 1) 4), .int y]) (rest := []) C (k_X4_stepUnder l D cy z o d σ τ (kr_X5_snailNumbered σ hk x) (σ (k + 1) 4) y) hP hS cw_X4_stepUnder (mA2 (i := 53) rfl rfl) (kr_X5_snailNumbered σ hk x) ⟨rfl, rfl⟩ ⟨Nat.le_of_ble_eq_true rfl, Nat.le_of_ble_eq_true rfl⟩ rfl (Nat.le_of_ble_eq_true rfl) hl.1 ⟨Nat.zero_le _, Nat.zero_le _⟩ dX5_feel_43) hS (fun H locs hP hS => ?_)
          refine lv_istore (lv' := [(5, .int (f_X4_stepUnder σ (f_X5_snailNumbered σ k x) (σ (k + 1) 4) y)), (4, .ref (z + (f_X5_snailNumbered σ k x))), (0, .ref (z + k)), (1, .int x), (2, .int y), (3, .int w)]) hx hb dX5_feel_46 hl (by decide) rfl (fun ls hl => ?_)
          refine lv_aload hx hb dX5_feel_48 (lv_at hl 1 rfl) ?_
          refine lv_iload_n hx hb dX5_feel_50 rfl (lv_at hl 5 rfl) ?_
          refine lv_iload hx hb dX5_feel_51 (lv_at hl 0 rfl) ?_
          refine g_abs C (mA2 (i := 97) rfl rfl) (Nat.le_of_ble_eq_true rfl) (Nat.le_of_ble_eq_true rfl) ⟨Nat.zero_le _, Nat.zero_le _⟩ hl.1 dX5_feel_53 ?_
          by_cases c_56 : x_X5_demandRoom σ (f_X5_snailNumbered σ k x) w (ab (f_X4_stepUnder σ (f_X5_snailNumbered σ k x) (σ (k + 1) 4) y)) = 0
          · refine okT_V c_56 (runT_S (As := [.ref (z + (f_X5_snailNumbered σ k x)), .int w, .int (ab (f_X4_stepUnder σ (f_X5_snailNumbered σ k x) (σ (k + 1) 4) y))]) (rest := []) C (k_X5_demandRoom l hfl D cy z o d σ τ (f_X5_snailNumbered σ k x) (kr_X5_snailNumbered σ hk x) w (ab (f_X4_stepUnder σ (f_X5_snailNumbered σ k x) (σ (k + 1) 4) y))) hP hS cw_X5_demandRoom (mA2 (i := 100) rfl rfl) ⟨Nat.le_of_ble_eq_true rfl, Nat.le_of_ble_eq_true rfl⟩ rfl (Nat.le_of_ble_eq_true rfl) hl.1 (tcc_0 c_56 ⟨Nat.zero_le _, Nat.zero_le _⟩) dX5_feel_56) hS (fun H locs hP hS => ?_)
            refine lv_aload_n hx hb dX5_feel_59 rfl (lv_at hl 2 rfl) ?_
            refine gf_X5_25 C hP hk dX5_feel_60 ?_
            refine lv_aload_n hx hb dX5_feel_63 rfl (lv_at hl 2 rfl) ?_
            refine gf_X5_10 C hP hk dX5_feel_64 ?_
            refine thn_V (run_V (As := [.ref (z + (k + 1))]) (rest := []) C (k_X3_keep l D cy z o d σ τ (kd5_40 hk) (k + 1) (kd5_1 hk)) hP hS cw_X3_keep (mA2 (i := 124) rfl rfl) (kd5_40 hk) ⟨rfl, rfl⟩ ⟨Nat.le_of_ble_eq_true rfl, Nat.le_of_ble_eq_true rfl⟩ rfl (Nat.le_of_ble_eq_true rfl) hl.1 ⟨Nat.zero_le _, Nat.zero_le _⟩ dX5_feel_67) hS (fun H locs hP hS => ?_)
            refine lv_aload hx hb dX5_feel_70 (lv_at hl 1 rfl) ?_
            refine lv_iload_n hx hb dX5_feel_72 rfl (lv_at hl 4 rfl) ?_
            refine lv_iload hx hb dX5_feel_73 (lv_at hl 0 rfl) ?_
            refine lv_iload_n hx hb dX5_feel_75 rfl (lv_at hl 5 rfl) ?_
            refine thn_V (run_V (As := [.int y, .int (f_X4_stepUnder σ (f_X5_snailNumbered σ k x) (σ (k + 1) 4) y), .int w]) (rest := []) C (k_X4_sense l D cy z o d (s_X3_keep σ (k + 40) (k + 1)) τ (kr_X5_snailNumbered σ hk x) y (f_X4_stepUnder σ (f_X5_snailNumbered σ k x) (σ (k + 1) 4) y) w) hP hS cw_X4_sense (mA2 (i := 144) rfl rfl) (kr_X5_snailNumbered σ hk x) ⟨rfl, rfl⟩ ⟨Nat.le_of_ble_eq_true rfl, Nat.le_of_ble_eq_true rfl⟩ rfl (Nat.le_of_ble_eq_true rfl) hl.1 ⟨Nat.zero_le _, Nat.zero_le _⟩ dX5_feel_76) hS (fun H locs hP hS => ?_)
            refine lv_iload hx hb dX5_feel_79 (lv_at hl 0 rfl) ?_
            exact retT_I C hP hS (nar_i _) rfl (by unfold x_X5_feel; rw [if_pos c_2, if_pos c_8, if_neg c_13, if_pos c_20, if_pos c_56]) (by unfold f_X5_feel; rw [if_pos c_2, if_pos c_8, if_neg c_13, if_pos c_20, if_pos c_56]) (by unfold s_X5_feel; rw [if_pos c_2, if_pos c_8, if_neg c_13, if_pos c_20, if_pos c_56]) rfl dX5_feel_81
          · exact outT (runT_S (As := [.ref (z + (f_X5_snailNumbered σ k x)), .int w, .int (ab (f_X4_stepUnder σ (f_X5_snailNumbered σ k x) (σ (k + 1) 4) y))]) (rest := []) C (k_X5_demandRoom l hfl D cy z o d σ τ (f_X5_snailNumbered σ k x) (kr_X5_snailNumbered σ hk x) w (ab (f_X4_stepUnder σ (f_X5_snailNumbered σ k x) (σ (k + 1) 4) y))) hP hS cw_X5_demandRoom (mA2 (i := 100) rfl rfl) ⟨Nat.le_of_ble_eq_true rfl, Nat.le_of_ble_eq_true rfl⟩ rfl (Nat.le_of_ble_eq_true rfl) hl.1 (tcc_e (by unfold x_X5_feel; rw [if_pos c_2, if_pos c_8, if_neg c_13, if_pos c_20, if_neg c_56])) dX5_feel_56) z_V c_56 (by unfold x_X5_feel; rw [if_pos c_2, if_pos c_8, if_neg c_13, if_pos c_20, if_neg c_56]) hno hlocks hS (by unfold s_X5_feel; rw [if_pos c_2, if_pos c_8, if_neg c_13, if_pos c_20, if_neg c_56]) rfl
        · exact thr_X5 C hno hfl hP hS (ik := 44) (is := 46) (ic := 48) (T := 2) (text := "ticks out of range") (by unfold x_X5_feel; rw [if_pos c_2, if_pos c_8, if_neg c_13, if_neg c_20]) (by decide) (by decide) vxi_2.1 vxi_2.2.1 vxi_2.2.2 (vxw vxa_x2) vxb_x2 vxc_x2 hl.1 dX5_feel_23 dX5_feel_26 dX5_feel_27 dX5_feel_29 dX5_feel_32 (by decide) (by decide) (by unfold s_X5_feel; rw [if_pos c_2, if_pos c_8, if_neg c_13, if_neg c_20]) rfl
    · exact outT (runT_S (As := [.int y]) (rest := []) C (k_X5_demandState l hfl D cy z o d σ τ y) hP hS cw_X5_demandState (mA2 (i := 34) rfl rfl) ⟨Nat.le_of_ble_eq_true rfl, Nat.le_of_ble_eq_true rfl⟩ rfl (Nat.le_of_ble_eq_true rfl) hl.1 (tcc_e (by unfold x_X5_feel; rw [if_pos c_2, if_neg c_8])) dX5_feel_8) z_V c_8 (by unfold x_X5_feel; rw [if_pos c_2, if_neg c_8]) hno hlocks hS (by unfold s_X5_feel; rw [if_pos c_2, if_neg c_8]) rfl
  · exact outT (runT_V (As := [.int x]) (rest := []) C (k_X5_snailNumbered l hfl D cy z o d σ τ hk x) hP hS cw_X5_snailNumbered (mA1 (i := 198) rfl rfl) hk ⟨Nat.le_of_ble_eq_true rfl, Nat.le_of_ble_eq_true rfl⟩ rfl (Nat.le_of_ble_eq_true rfl) hl.1 (tcc_e (by unfold x_X5_feel; rw [if_neg c_2])) dX5_feel_2) z_R c_2 (by unfold x_X5_feel; rw [if_neg c_2]) hno hlocks hS (by unfold s_X5_feel; rw [if_neg c_2]) rfl

theorem cw_X5_crawl : cwVt yX5_crawl cX5_crawl 7 (some .int) 5 2 := ⟨(mA2 (i := 190) rfl rfl), (mA2 (i := 191) rfl rfl), (mA1 (i := 1) rfl rfl), (mA2 (i := 192) rfl rfl), by decide +kernel, ⟨_, rfl, rfl⟩, by decide⟩
def gf_X5_crawl (j : Nat) (v : Int32) (b : Nat) : Nat → Nat → Sg → Int32
  | 0, _, _ => 0
  | n + 1, i, σ =>
    if b ≤ i then
      σ j 2
    else
      gf_X5_crawl j v b n (i + 1) (s_X4_sense σ j (f_X4_neighbour σ j v) v 1)
def gs_X5_crawl (j : Nat) (v : Int32) (b : Nat) : Nat → Nat → Sg → Sg
  | 0, _, σ => σ
  | n + 1, i, σ =>
    if b ≤ i then
      σ
    else
      gs_X5_crawl j v b n (i + 1) (s_X4_sense σ j (f_X4_neighbour σ j v) v 1)
set_option maxHeartbeats 4000000 in
set_option maxRecDepth 100000 in
theorem lp_X5_crawl {p : Program} {l : Launch} {e : Env} {s : State} {m : MethodId} {args : Array Value} {below : List Frame} {meth : Method} {c : Code} {D : va_G} {cy : Nat → ClassId} {z : Nat} (C : Bd p s m args meth c cX5_crawl 7 (some .int) RX5 D cy z) (o : Int64) (d : UInt64) {k : Nat} (hk : kd k = 5) {j : Nat} (hk_j : kd j = 4) (v : Int32) (b : Nat) {t9 : Nat} (ht9 : t9 = 0) {r9 : Int32} {σ9 : Sg} :
    ∀ (n : Nat) (i : Nat) (σ τ : Sg) (H : Heap) (locs : List Loc), (b ≤ 100 ∧ i ≤ b ∧ b + 1 ≤ i + n) → (gf_X5_crawl j v b n i σ = r9) → (gs_X5_crawl j v b n i σ = σ9) → WP D cy z σ τ o d H → va_S (fz z) s.heap H locs → ∀ ls : Array Slot, lv_has ls 7 [(0, .ref (z + k)), (3, .ref (z + j)), (4, .int (nI b)), (5, .int v), (6, .int (nI i))] → W p l e (rmT 7 104 t9) s m args below meth c H locs 0 0 (vx_MQ below (PoTI D cy z o d t9 r9 σ9 τ) (XP D cy z o d t9 σ9 τ) args s (tcc t9) (tcs t9) (fz z)) (F0 m 67 ls []) := by
  obtain ⟨hx, hb, hr, hml, hown, hW, hlocks, hAm⟩ := id C
  intro n
  induction n with
  | zero =>
    intro _ σ τ H locs hn9 _ _ hP hS ls hl
    exact absurd hn9 (by omega)
  | succ n ih =>
    intro i σ τ H locs hn9 hr9 hs9 hP hS ls hl
    refine lv_iload hx hb dX5_crawl_67 (lv_at hl 4 rfl) ?_
    refine lv_iload hx hb dX5_crawl_69 (lv_at hl 2 rfl) ?_
    refine lv_icmp_ge (tgt := 93) hx hb dX5_crawl_71 (by decide) (fun c_71 => ?_) (fun c_71 => ?_)
    · have d_71 : b ≤ i := (cI_le rfl rfl (by omega) (by omega)).mp c_71
      refine lv_aload_n hx hb dX5_crawl_93 rfl (lv_at hl 1 rfl) ?_
      refine gf_X5_84 C hP hk_j dX5_crawl_94 ?_
      exact retT_I C hP hS (nar_i _) rfl ht9 (by rw [← hr9, gf_X5_crawl]; rw [if_pos d_71]) (by rw [← hs9, gs_X5_crawl]; rw [if_pos d_71]) rfl dX5_crawl_97
    · have d_71 : ¬ (b ≤ i) := fun h9 => c_71 ((cI_le rfl rfl (by omega) (by omega)).mpr h9)
      refine lv_aload_n hx hb dX5_crawl_74 rfl (lv_at hl 1 rfl) ?_
      refine lv_aload_n hx hb dX5_crawl_75 rfl (lv_at hl 1 rfl) ?_
      refine lv_iload hx hb dX5_crawl_76 (lv_at hl 3 rfl) ?_
      refine thn_I (run_V (As := [.int v]) (rest := [.ref (z + j)]) C (k_X4_neighbour l D cy z o d σ τ hk_j v) hP hS cw_X4_neighbour (mA2 (i := 194) rfl rfl) hk_j ⟨rfl, rfl⟩ ⟨Nat.le_of_ble_eq_true rfl, Nat.le_of_ble_eq_true rfl⟩ rfl (Nat.le_of_ble_eq_true rfl) hl.1 ⟨Nat.zero_le _, Nat.zero_le _⟩ dX5_crawl_78) hS (fun H locs hP hS => ?_)
      refine lv_iload hx hb dX5_crawl_81 (lv_at hl 3 rfl) ?_
      refine lv_iconst (v := 1) hx hb dX5_crawl_83 (by decide) ?_
      refine thn_V (run_V (As := [.int (f_X4_neighbour σ j v), .int v, .int 1]) (rest := []) C (k_X4_sense l D cy z o d σ τ hk_j (f_X4_neighbour σ j v) v 1) hP hS cw_X4_sense (mA2 (i := 144) rfl rfl) hk_j ⟨rfl, rfl⟩ ⟨Nat.le_of_ble_eq_true rfl, Nat.le_of_ble_eq_true rfl⟩ rfl (Nat.le_of_ble_eq_true rfl) hl.1 ⟨Nat.zero_le _, Nat.zero_le _⟩ dX5_crawl_84) hS (fun H locs hP hS => ?_)
      refine lv_iinc (v := nI (i + 1)) (lv' := [(6, .int (nI (i + 1))), (0, .ref (z + k)), (3, .ref (z + j)), (4, .int (nI b)), (5, .int v)]) hx hb dX5_crawl_87 hl (k := 4) rfl (nI_1 i) (by decide) rfl (fun ls hl => ?_)
      refine lv_goto (tgt := 67) hx hb dX5_crawl_90 (by decide) ?_
      exact ih (i + 1) (s_X4_sense σ j (f_X4_neighbour σ j v) v 1) τ _ _ (⟨by omega, by omega, by omega⟩) (by rw [← hr9, gf_X5_crawl]; rw [if_neg d_71]) (by rw [← hs9, gs_X5_crawl]; rw [if_neg d_71]) hP hS ls (lv_sub hl [1, 2, 3, 4, 0] rfl)
def f_X5_crawl (σ : Sg) (k : Nat) (x : Int32) (y : Int32) : Int32 :=
  if x_X5_snailNumbered σ k x = 0 then
    if y < (-100) then
      0
    else
      if y ≤ 100 then
        if x_X5_demandRoom σ (f_X5_snailNumbered σ k x) (nI ((ab y).toNatClampNeg)) (nI ((ab y).toNatClampNeg)) = 0 then
          if 0 ≤ y then
            gf_X5_crawl (f_X5_snailNumbered σ k x) 1 ((ab y).toNatClampNeg) 101 0 (s_X3_keep σ (k + 40) (k + 1))
          else
            gf_X5_crawl (f_X5_snailNumbered σ k x) (-1) ((ab y).toNatClampNeg) 101 0 (s_X3_keep σ (k + 40) (k + 1))
        else
          0
      else
        0
  else
    0
def s_X5_crawl (σ : Sg) (k : Nat) (x : Int32) (y : Int32) : Sg :=
  if x_X5_snailNumbered σ k x = 0 then
    if y < (-100) then
      σ
    else
      if y ≤ 100 then
        if x_X5_demandRoom σ (f_X5_snailNumbered σ k x) (nI ((ab y).toNatClampNeg)) (nI ((ab y).toNatClampNeg)) = 0 then
          if 0 ≤ y then
            gs_X5_crawl (f_X5_snailNumbered σ k x) 1 ((ab y).toNatClampNeg) 101 0 (s_X3_keep σ (k + 40) (k + 1))
          else
            gs_X5_crawl (f_X5_snailNumbered σ k x) (-1) ((ab y).toNatClampNeg) 101 0 (s_X3_keep σ (k + 40) (k + 1))
        else
          σ
      else
        σ
  else
    σ
def x_X5_crawl (σ : Sg) (k : Nat) (x : Int32) (y : Int32) : Nat :=
  if x_X5_snailNumbered σ k x = 0 then
    if y < (-100) then
      2
    else
      if y ≤ 100 then
        if x_X5_demandRoom σ (f_X5_snailNumbered σ k x) (nI ((ab y).toNatClampNeg)) (nI ((ab y).toNatClampNeg)) = 0 then
          if 0 ≤ y then
            0
          else
            0
        else
          x_X5_demandRoom σ (f_X5_snailNumbered σ k x) (nI ((ab y).toNatClampNeg)) (nI ((ab y).toNatClampNeg))
      else
        2
  else
    x_X5_snailNumbered σ k x
set_option maxHeartbeats 4000000 in
set_option maxRecDepth 100000 in
theorem k_X5_crawl (l : Launch) (hfl : l.stackTraces = false) (D : va_G) (cy : Nat → ClassId) (z : Nat) (o : Int64) (d : UInt64) (σ τ : Sg) {k : Nat} (hk : kd k = 5) (x : Int32) (y : Int32) : KT l yX5_crawl cX5_crawl 7 (some .int) 7 104 D cy z [.ref (z + k), .int x, .int y] o d σ τ (x_X5_crawl σ k x y) (PoTI D cy z o d (x_X5_crawl σ k x y) (f_X5_crawl σ k x y) (s_X5_crawl σ k x y) τ) (s_X5_crawl σ k x y) τ := by
  refine metT_of RX5 (by decide) rfl (Nat.le_of_ble_eq_true rfl) ?_
  intro p e s m args below meth c C hno hP hS ls hl
  obtain ⟨hx, hb, hr, hml, hown, hW, hlocks, hAm⟩ := id C
  have hl : lv_has ls 7 [(0, .ref (z + k)), (1, .int x), (2, .int y)] := hl
  refine lv_aload_n hx hb dX5_crawl_0 rfl (lv_at hl 0 rfl) ?_
  refine lv_iload_n hx hb dX5_crawl_1 rfl (lv_at hl 1 rfl) ?_
  by_cases c_2 : x_X5_snailNumbered σ k x = 0
  · refine okT_R c_2 (runT_V (As := [.int x]) (rest := []) C (k_X5_snailNumbered l hfl D cy z o d σ τ hk x) hP hS cw_X5_snailNumbered (mA1 (i := 198) rfl rfl) hk ⟨Nat.le_of_ble_eq_true rfl, Nat.le_of_ble_eq_true rfl⟩ rfl (Nat.le_of_ble_eq_true rfl) hl.1 (tcc_0 c_2 ⟨Nat.zero_le _, Nat.zero_le _⟩) dX5_crawl_2) hS (fun H locs hP hS => ?_)
    refine lv_astore_n (lv' := [(3, .ref (z + (f_X5_snailNumbered σ k x))), (0, .ref (z + k)), (1, .int x), (2, .int y)]) hx hb dX5_crawl_5 rfl hl (by decide) rfl (fun ls hl => ?_)
    refine lv_iload_n hx hb dX5_crawl_6 rfl (lv_at hl 3 rfl) ?_
    refine lv_bipush (v := (-100)) hx hb dX5_crawl_7 (by decide) ?_
    refine lv_icmp_lt (tgt := 18) hx hb dX5_crawl_9 (by decide) (fun c_9 => ?_) (fun c_9 => ?_)
    · exact thr_X5 C hno hfl hP hS (ik := 44) (is := 79) (ic := 48) (T := 2) (text := "steps out of range") (by unfold x_X5_crawl; rw [if_pos c_2, if_pos c_9]) (by decide) (by decide) vxi_2.1 vxi_2.2.1 vxi_2.2.2 (vxw vxa_x2) vxb_x2 vxc_x2 hl.1 dX5_crawl_18 dX5_crawl_21 dX5_crawl_22 dX5_crawl_24 dX5_crawl_27 (by decide) (by decide) (by unfold s_X5_crawl; rw [if_pos c_2, if_pos c_9]) rfl
    · refine lv_iload_n hx hb dX5_crawl_12 rfl (lv_at hl 3 rfl) ?_
      refine lv_bipush (v := 100) hx hb dX5_crawl_13 (by decide) ?_
      refine lv_icmp_le (tgt := 28) hx hb dX5_crawl_15 (by decide) (fun c_15 => ?_) (fun c_15 => ?_)
      · refine lv_iload_n hx hb dX5_crawl_28 rfl (lv_at hl 3 rfl) ?_
        refine g_abs C (mA2 (i := 97) rfl rfl) (Nat.le_of_ble_eq_true rfl) (Nat.le_of_ble_eq_true rfl) ⟨Nat.zero_le _, Nat.zero_le _⟩ hl.1 dX5_crawl_29 ?_
        have hz9 := (sz100 c_9 c_15).2
        rw [(sz100 c_9 c_15).1]
        refine lv_istore (lv' := [(4, .int (nI ((ab y).toNatClampNeg))), (3, .ref (z + (f_X5_snailNumbered σ k x))), (0, .ref (z + k)), (1, .int x), (2, .int y)]) hx hb dX5_crawl_32 hl (by decide) rfl (fun ls hl => ?_)
        refine lv_aload_n hx hb dX5_crawl_34 rfl (lv_at hl 1 rfl) ?_
        refine lv_iload hx hb dX5_crawl_35 (lv_at hl 0 rfl) ?_
        refine lv_iload hx hb dX5_crawl_37 (lv_at hl 0 rfl) ?_
        by_cases c_39 : x_X5_demandRoom σ (f_X5_snailNumbered σ k x) (nI ((ab y).toNatClampNeg)) (nI ((ab y).toNatClampNeg)) = 0
        · refine okT_V c_39 (runT_S (As := [.ref (z + (f_X5_snailNumbered σ k x)), .int (nI ((ab y).toNatClampNeg)), .int (nI ((ab y).toNatClampNeg))]) (rest := []) C (k_X5_demandRoom l hfl D cy z o d σ τ (f_X5_snailNumbered σ k x) (kr_X5_snailNumbered σ hk x) (nI ((ab y).toNatClampNeg)) (nI ((ab y).toNatClampNeg))) hP hS cw_X5_demandRoom (mA2 (i := 100) rfl rfl) ⟨Nat.le_of_ble_eq_true rfl, Nat.le_of_ble_eq_true rfl⟩ rfl (Nat.le_of_ble_eq_true rfl) hl.1 (tcc_0 c_39 ⟨Nat.zero_le _, Nat.zero_le _⟩) dX5_crawl_39) hS (fun H locs hP hS => ?_)
          refine lv_aload_n hx hb dX5_crawl_42 rfl (lv_at hl 2 rfl) ?_
          refine gf_X5_25 C hP hk dX5_crawl_43 ?_
          refine lv_aload_n hx hb dX5_crawl_46 rfl (lv_at hl 2 rfl) ?_
          refine gf_X5_10 C hP hk dX5_crawl_47 ?_
          refine thn_V (run_V (As := [.ref (z + (k + 1))]) (rest := []) C (k_X3_keep l D cy z o d σ τ (kd5_40 hk) (k + 1) (kd5_1 hk)) hP hS cw_X3_keep (mA2 (i := 124) rfl rfl) (kd5_40 hk) ⟨rfl, rfl⟩ ⟨Nat.le_of_ble_eq_true rfl, Nat.le_of_ble_eq_true rfl⟩ rfl (Nat.le_of_ble_eq_true rfl) hl.1 ⟨Nat.zero_le _, Nat.zero_le _⟩ dX5_crawl_50) hS (fun H locs hP hS => ?_)
          refine lv_iload_n hx hb dX5_crawl_53 rfl (lv_at hl 4 rfl) ?_
          refine lv_if_ge (tgt := 61) hx hb dX5_crawl_54 (by decide) (fun c_54 => ?_) (fun c_54 => ?_)
          · refine lv_iconst (v := 1) hx hb dX5_crawl_61 (by decide) ?_
            refine lv_istore (lv' := [(5, .int 1), (4, .int (nI ((ab y).toNatClampNeg))), (3, .ref (z + (f_X5_snailNumbered σ k x))), (0, .ref (z + k)), (1, .int x), (2, .int y)]) hx hb dX5_crawl_62 hl (by decide) rfl (fun ls hl => ?_)
            refine lv_iconst (v := 0) hx hb dX5_crawl_64 (by decide) ?_
            refine lv_istore (lv' := [(6, .int 0), (5, .int 1), (4, .int (nI ((ab y).toNatClampNeg))), (3, .ref (z + (f_X5_snailNumbered σ k x))), (0, .ref (z + k)), (1, .int x), (2, .int y)]) hx hb dX5_crawl_65 hl (by decide) rfl (fun ls hl => ?_)
            exact lp_X5_crawl C o d hk (kr_X5_snailNumbered σ hk x) 1 ((ab y).toNatClampNeg) (by unfold x_X5_crawl; rw [if_pos c_2, if_neg c_9, if_pos c_15, if_pos c_39, if_pos c_54]) (101) 0 (s_X3_keep σ (k + 40) (k + 1)) τ _ _ (⟨by omega, by omega, by omega⟩) (by unfold f_X5_crawl; rw [if_pos c_2, if_neg c_9, if_pos c_15, if_pos c_39, if_pos c_54]) (by unfold s_X5_crawl; rw [if_pos c_2, if_neg c_9, if_pos c_15, if_pos c_39, if_pos c_54]) hP hS ls (lv_sub hl [4, 3, 2, 1, 0] rfl)
          · refine lv_iconst (v := (-1)) hx hb dX5_crawl_57 (by decide) ?_
            refine lv_goto (tgt := 62) hx hb dX5_crawl_58 (by decide) ?_
            refine lv_istore (lv' := [(5, .int (-1)), (4, .int (nI ((ab y).toNatClampNeg))), (3, .ref (z + (f_X5_snailNumbered σ k x))), (0, .ref (z + k)), (1, .int x), (2, .int y)]) hx hb dX5_crawl_62 hl (by decide) rfl (fun ls hl => ?_)
            refine lv_iconst (v := 0) hx hb dX5_crawl_64 (by decide) ?_
            refine lv_istore (lv' := [(6, .int 0), (5, .int (-1)), (4, .int (nI ((ab y).toNatClampNeg))), (3, .ref (z + (f_X5_snailNumbered σ k x))), (0, .ref (z + k)), (1, .int x), (2, .int y)]) hx hb dX5_crawl_65 hl (by decide) rfl (fun ls hl => ?_)
            exact lp_X5_crawl C o d hk (kr_X5_snailNumbered σ hk x) (-1) ((ab y).toNatClampNeg) (by unfold x_X5_crawl; rw [if_pos c_2, if_neg c_9, if_pos c_15, if_pos c_39, if_neg c_54]) (101) 0 (s_X3_keep σ (k + 40) (k + 1)) τ _ _ (⟨by omega, by omega, by omega⟩) (by unfold f_X5_crawl; rw [if_pos c_2, if_neg c_9, if_pos c_15, if_pos c_39, if_neg c_54]) (by unfold s_X5_crawl; rw [if_pos c_2, if_neg c_9, if_pos c_15, if_pos c_39, if_neg c_54]) hP hS ls (lv_sub hl [4, 3, 2, 1, 0] rfl)
        · exact outT (runT_S (As := [.ref (z + (f_X5_snailNumbered σ k x)), .int (nI ((ab y).toNatClampNeg)), .int (nI ((ab y).toNatClampNeg))]) (rest := []) C (k_X5_demandRoom l hfl D cy z o d σ τ (f_X5_snailNumbered σ k x) (kr_X5_snailNumbered σ hk x) (nI ((ab y).toNatClampNeg)) (nI ((ab y).toNatClampNeg))) hP hS cw_X5_demandRoom (mA2 (i := 100) rfl rfl) ⟨Nat.le_of_ble_eq_true rfl, Nat.le_of_ble_eq_true rfl⟩ rfl (Nat.le_of_ble_eq_true rfl) hl.1 (tcc_e (by unfold x_X5_crawl; rw [if_pos c_2, if_neg c_9, if_pos c_15, if_neg c_39])) dX5_crawl_39) z_V c_39 (by unfold x_X5_crawl; rw [if_pos c_2, if_neg c_9, if_pos c_15, if_neg c_39]) hno hlocks hS (by unfold s_X5_crawl; rw [if_pos c_2, if_neg c_9, if_pos c_15, if_neg c_39]) rfl
      · exact thr_X5 C hno hfl hP hS (ik := 44) (is := 79) (ic := 48) (T := 2) (text := "steps out of range") (by unfold x_X5_crawl; rw [if_pos c_2, if_neg c_9, if_neg c_15]) (by decide) (by decide) vxi_2.1 vxi_2.2.1 vxi_2.2.2 (vxw vxa_x2) vxb_x2 vxc_x2 hl.1 dX5_crawl_18 dX5_crawl_21 dX5_crawl_22 dX5_crawl_24 dX5_crawl_27 (by decide) (by decide) (by unfold s_X5_crawl; rw [if_pos c_2, if_neg c_9, if_neg c_15]) rfl
  · exact outT (runT_V (As := [.int x]) (rest := []) C (k_X5_snailNumbered l hfl D cy z o d σ τ hk x) hP hS cw_X5_snailNumbered (mA1 (i := 198) rfl rfl) hk ⟨Nat.le_of_ble_eq_true rfl, Nat.le_of_ble_eq_true rfl⟩ rfl (Nat.le_of_ble_eq_true rfl) hl.1 (tcc_e (by unfold x_X5_crawl; rw [if_neg c_2])) dX5_crawl_2) z_R c_2 (by unfold x_X5_crawl; rw [if_neg c_2]) hno hlocks hS (by unfold s_X5_crawl; rw [if_neg c_2]) rfl

theorem cw_X5_meetMark : cwVt yX5_meetMark cX5_meetMark 3 (some .int) 5 1 := ⟨(mA2 (i := 218) rfl rfl), (mA2 (i := 219) rfl rfl), (mA1 (i := 1) rfl rfl), (mA2 (i := 220) rfl rfl), by decide +kernel, ⟨_, rfl, rfl⟩, by decide⟩
def f_X5_meetMark (σ : Sg) (k : Nat) (x : Int32) : Int32 :=
  if x_X5_snailNumbered σ k x = 0 then
    f_X4_passMark (s_X3_keep σ (k + 40) (k + 1)) (f_X5_snailNumbered σ k x) ((s_X3_keep σ (k + 40) (k + 1)) (k + 1) 5)
  else
    0
def s_X5_meetMark (σ : Sg) (k : Nat) (x : Int32) : Sg :=
  if x_X5_snailNumbered σ k x = 0 then
    s_X4_passMark (s_X3_keep σ (k + 40) (k + 1)) (f_X5_snailNumbered σ k x) ((s_X3_keep σ (k + 40) (k + 1)) (k + 1) 5)
  else
    σ
def x_X5_meetMark (σ : Sg) (k : Nat) (x : Int32) : Nat :=
  if x_X5_snailNumbered σ k x = 0 then
    0
  else
    x_X5_snailNumbered σ k x
set_option maxHeartbeats 4000000 in
set_option maxRecDepth 100000 in
theorem k_X5_meetMark (l : Launch) (hfl : l.stackTraces = false) (D : va_G) (cy : Nat → ClassId) (z : Nat) (o : Int64) (d : UInt64) (σ τ : Sg) {k : Nat} (hk : kd k = 5) (x : Int32) : KT l yX5_meetMark cX5_meetMark 3 (some .int) 7 103 D cy z [.ref (z + k), .int x] o d σ τ (x_X5_meetMark σ k x) (PoTI D cy z o d (x_X5_meetMark σ k x) (f_X5_meetMark σ k x) (s_X5_meetMark σ k x) τ) (s_X5_meetMark σ k x) τ := by
  refine metT_of RX5 (by decide) rfl (Nat.le_of_ble_eq_true rfl) ?_
  intro p e s m args below meth c C hno hP hS ls hl
  obtain ⟨hx, hb, hr, hml, hown, hW, hlocks, hAm⟩ := id C
  have hl : lv_has ls 3 [(0, .ref (z + k)), (1, .int x)] := hl
  refine lv_aload_n hx hb dX5_meetMark_0 rfl (lv_at hl 0 rfl) ?_
  refine lv_iload_n hx hb dX5_meetMark_1 rfl (lv_at hl 1 rfl) ?_
  by_cases c_2 : x_X5_snailNumbered σ k x = 0
  · refine okT_R c_2 (runT_V (As := [.int x]) (rest := []) C (k_X5_snailNumbered l hfl D cy z o d σ τ hk x) hP hS cw_X5_snailNumbered (mA1 (i := 198) rfl rfl) hk ⟨Nat.le_of_ble_eq_true rfl, Nat.le_of_ble_eq_true rfl⟩ rfl (Nat.le_of_ble_eq_true rfl) hl.1 (tcc_0 c_2 ⟨Nat.zero_le _, Nat.zero_le _⟩) dX5_meetMark_2) hS (fun H locs hP hS => ?_)
    refine lv_astore_n (lv' := [(2, .ref (z + (f_X5_snailNumbered σ k x))), (0, .ref (z + k)), (1, .int x)]) hx hb dX5_meetMark_5 rfl hl (by decide) rfl (fun ls hl => ?_)
    refine lv_aload_n hx hb dX5_meetMark_6 rfl (lv_at hl 1 rfl) ?_
    refine gf_X5_25 C hP hk dX5_meetMark_7 ?_
    refine lv_aload_n hx hb dX5_meetMark_10 rfl (lv_at hl 1 rfl) ?_
    refine gf_X5_10 C hP hk dX5_meetMark_11 ?_
    refine thn_V (run_V (As := [.ref (z + (k + 1))]) (rest := []) C (k_X3_keep l D cy z o d σ τ (kd5_40 hk) (k + 1) (kd5_1 hk)) hP hS cw_X3_keep (mA2 (i := 124) rfl rfl) (kd5_40 hk) ⟨rfl, rfl⟩ ⟨Nat.le_of_ble_eq_true rfl, Nat.le_of_ble_eq_true rfl⟩ rfl (Nat.le_of_ble_eq_true rfl) hl.1 ⟨Nat.zero_le _, Nat.zero_le _⟩ dX5_meetMark_14) hS (fun H locs hP hS => ?_)
    refine lv_aload_n hx hb dX5_meetMark_17 rfl (lv_at hl 0 rfl) ?_
    refine lv_aload_n hx hb dX5_meetMark_18 rfl (lv_at hl 1 rfl) ?_
    refine gf_X5_10 C hP hk dX5_meetMark_19 ?_
    refine gf_X5_87 C hP (kd5_1 hk) dX5_meetMark_22 ?_
    refine thn_I (run_V (As := [.int ((s_X3_keep σ (k + 40) (k + 1)) (k + 1) 5)]) (rest := []) C (k_X4_passMark l D cy z o d (s_X3_keep σ (k + 40) (k + 1)) τ (kr_X5_snailNumbered σ hk x) ((s_X3_keep σ (k + 40) (k + 1)) (k + 1) 5)) hP hS cw_X4_passMark (mA2 (i := 221) rfl rfl) (kr_X5_snailNumbered σ hk x) ⟨rfl, rfl⟩ ⟨Nat.le_of_ble_eq_true rfl, Nat.le_of_ble_eq_true rfl⟩ rfl (Nat.le_of_ble_eq_true rfl) hl.1 ⟨Nat.zero_le _, Nat.zero_le _⟩ dX5_meetMark_25) hS (fun H locs hP hS => ?_)
    exact retT_I C hP hS (nar_i _) rfl (by unfold x_X5_meetMark; rw [if_pos c_2]) (by unfold f_X5_meetMark; rw [if_pos c_2]) (by unfold s_X5_meetMark; rw [if_pos c_2]) rfl dX5_meetMark_28
  · exact outT (runT_V (As := [.int x]) (rest := []) C (k_X5_snailNumbered l hfl D cy z o d σ τ hk x) hP hS cw_X5_snailNumbered (mA1 (i := 198) rfl rfl) hk ⟨Nat.le_of_ble_eq_true rfl, Nat.le_of_ble_eq_true rfl⟩ rfl (Nat.le_of_ble_eq_true rfl) hl.1 (tcc_e (by unfold x_X5_meetMark; rw [if_neg c_2])) dX5_meetMark_2) z_R c_2 (by unfold x_X5_meetMark; rw [if_neg c_2]) hno hlocks hS (by unfold s_X5_meetMark; rw [if_neg c_2]) rfl

theorem cw_X5_goBack : cwVt yX5_goBack cX5_goBack 4 (some .int) 5 2 := ⟨(mA2 (i := 234) rfl rfl), (mA2 (i := 235) rfl rfl), (mA1 (i := 1) rfl rfl), (mA2 (i := 236) rfl rfl), by decide +kernel, ⟨_, rfl, rfl⟩, by decide⟩
def f_X5_goBack (σ : Sg) (k : Nat) (x : Int32) (y : Int32) : Int32 :=
  if x_X5_snailNumbered σ k x = 0 then
    if y < 1 then
      0
    else
      if y ≤ 16 then
        if (f_X4_canRetrace σ (f_X5_snailNumbered σ k x) y) = 0 then
          0
        else
          (s_X4_retrace (s_X3_keep σ (k + 40) (k + 1)) (f_X5_snailNumbered σ k x) y) (f_X5_snailNumbered σ k x) 2
      else
        0
  else
    0
def s_X5_goBack (σ : Sg) (k : Nat) (x : Int32) (y : Int32) : Sg :=
  if x_X5_snailNumbered σ k x = 0 then
    if y < 1 then
      σ
    else
      if y ≤ 16 then
        if (f_X4_canRetrace σ (f_X5_snailNumbered σ k x) y) = 0 then
          σ
        else
          s_X4_retrace (s_X3_keep σ (k + 40) (k + 1)) (f_X5_snailNumbered σ k x) y
      else
        σ
  else
    σ
def x_X5_goBack (σ : Sg) (k : Nat) (x : Int32) (y : Int32) : Nat :=
  if x_X5_snailNumbered σ k x = 0 then
    if y < 1 then
      2
    else
      if y ≤ 16 then
        if (f_X4_canRetrace σ (f_X5_snailNumbered σ k x) y) = 0 then
          3
        else
          0
      else
        2
  else
    x_X5_snailNumbered σ k x
set_option maxHeartbeats 4000000 in
set_option maxRecDepth 100000 in
theorem k_X5_goBack (l : Launch) (hfl : l.stackTraces = false) (D : va_G) (cy : Nat → ClassId) (z : Nat) (o : Int64) (d : UInt64) (σ τ : Sg) {k : Nat} (hk : kd k = 5) (x : Int32) (y : Int32) (hG : LGA σ) : KT l yX5_goBack cX5_goBack 4 (some .int) 7 103 D cy z [.ref (z + k), .int x, .int y] o d σ τ (x_X5_goBack σ k x y) (PoTI D cy z o d (x_X5_goBack σ k x y) (f_X5_goBack σ k x y) (s_X5_goBack σ k x y) τ) (s_X5_goBack σ k x y) τ := by
  refine metT_of RX5 (by decide) rfl (Nat.le_of_ble_eq_true rfl) ?_
  intro p e s m args below meth c C hno hP hS ls hl
  obtain ⟨hx, hb, hr, hml, hown, hW, hlocks, hAm⟩ := id C
  have hl : lv_has ls 4 [(0, .ref (z + k)), (1, .int x), (2, .int y)] := hl
  refine lv_aload_n hx hb dX5_goBack_0 rfl (lv_at hl 0 rfl) ?_
  refine lv_iload_n hx hb dX5_goBack_1 rfl (lv_at hl 1 rfl) ?_
  by_cases c_2 : x_X5_snailNumbered σ k x = 0
  · refine okT_R c_2 (runT_V (As := [.int x]) (rest := []) C (k_X5_snailNumbered l hfl D cy z o d σ τ hk x) hP hS cw_X5_snailNumbered (mA1 (i := 198) rfl rfl) hk ⟨Nat.le_of_ble_eq_true rfl, Nat.le_of_ble_eq_true rfl⟩ rfl (Nat.le_of_ble_eq_true rfl) hl.1 (tcc_0 c_2 ⟨Nat.zero_le _, Nat.zero_le _⟩) dX5_goBack_2) hS (fun H locs hP hS => ?_)
    refine lv_astore_n (lv' := [(3, .ref (z + (f_X5_snailNumbered σ k x))), (0, .ref (z + k)), (1, .int x), (2, .int y)]) hx hb dX5_goBack_5 rfl hl (by decide) rfl (fun ls hl => ?_)
    refine lv_iload_n hx hb dX5_goBack_6 rfl (lv_at hl 3 rfl) ?_
    refine lv_iconst (v := 1) hx hb dX5_goBack_7 (by decide) ?_
    refine lv_icmp_lt (tgt := 17) hx hb dX5_goBack_8 (by decide) (fun c_8 => ?_) (fun c_8 => ?_)
    · exact thr_X5 C hno hfl hP hS (ik := 44) (is := 93) (ic := 48) (T := 2) (text := "feelings out of range") (by unfold x_X5_goBack; rw [if_pos c_2, if_pos c_8]) (by decide) (by decide) vxi_2.1 vxi_2.2.1 vxi_2.2.2 (vxw vxa_x2) vxb_x2 vxc_x2 hl.1 dX5_goBack_17 dX5_goBack_20 dX5_goBack_21 dX5_goBack_23 dX5_goBack_26 (by decide) (by decide) (by unfold s_X5_goBack; rw [if_pos c_2, if_pos c_8]) rfl
    · refine lv_iload_n hx hb dX5_goBack_11 rfl (lv_at hl 3 rfl) ?_
      refine lv_bipush (v := 16) hx hb dX5_goBack_12 (by decide) ?_
      refine lv_icmp_le (tgt := 27) hx hb dX5_goBack_14 (by decide) (fun c_14 => ?_) (fun c_14 => ?_)
      · refine lv_aload_n hx hb dX5_goBack_27 rfl (lv_at hl 0 rfl) ?_
        refine lv_iload_n hx hb dX5_goBack_28 rfl (lv_at hl 3 rfl) ?_
        refine thn_I (run_V (As := [.int y]) (rest := []) C (k_X4_canRetrace l D cy z o d σ τ (kr_X5_snailNumbered σ hk x) y hG (rng16 c_8 c_14)) hP hS cw_X4_canRetrace (mA2 (i := 238) rfl rfl) (kr_X5_snailNumbered σ hk x) ⟨rfl, rfl⟩ ⟨Nat.le_of_ble_eq_true rfl, Nat.le_of_ble_eq_true rfl⟩ rfl (Nat.le_of_ble_eq_true rfl) hl.1 ⟨Nat.zero_le _, Nat.zero_le _⟩ dX5_goBack_29) hS (fun H locs hP hS => ?_)
        refine lv_if_ne (tgt := 45) hx hb dX5_goBack_32 (by decide) (fun c_32 => ?_) (fun c_32 => ?_)
        · refine lv_aload_n hx hb dX5_goBack_45 rfl (lv_at hl 1 rfl) ?_
          refine gf_X5_25 C hP hk dX5_goBack_46 ?_
          refine lv_aload_n hx hb dX5_goBack_49 rfl (lv_at hl 1 rfl) ?_
          refine gf_X5_10 C hP hk dX5_goBack_50 ?_
          refine thn_V (run_V (As := [.ref (z + (k + 1))]) (rest := []) C (k_X3_keep l D cy z o d σ τ (kd5_40 hk) (k + 1) (kd5_1 hk)) hP hS cw_X3_keep (mA2 (i := 124) rfl rfl) (kd5_40 hk) ⟨rfl, rfl⟩ ⟨Nat.le_of_ble_eq_true rfl, Nat.le_of_ble_eq_true rfl⟩ rfl (Nat.le_of_ble_eq_true rfl) hl.1 ⟨Nat.zero_le _, Nat.zero_le _⟩ dX5_goBack_53) hS (fun H locs hP hS => ?_)
          refine lv_aload_n hx hb dX5_goBack_56 rfl (lv_at hl 0 rfl) ?_
          refine lv_iload_n hx hb dX5_goBack_57 rfl (lv_at hl 3 rfl) ?_
          refine thn_V (run_V (As := [.int y]) (rest := []) C (k_X4_retrace l D cy z o d (s_X3_keep σ (k + 40) (k + 1)) τ (kr_X5_snailNumbered σ hk x) y (rng16 c_8 c_14).2) hP hS cw_X4_retrace (mA3 (i := 9) rfl rfl) (kr_X5_snailNumbered σ hk x) ⟨rfl, rfl⟩ ⟨Nat.le_of_ble_eq_true rfl, Nat.le_of_ble_eq_true rfl⟩ rfl (Nat.le_of_ble_eq_true rfl) hl.1 ⟨Nat.zero_le _, Nat.zero_le _⟩ dX5_goBack_58) hS (fun H locs hP hS => ?_)
          refine lv_aload_n hx hb dX5_goBack_61 rfl (lv_at hl 0 rfl) ?_
          refine gf_X5_84 C hP (kr_X5_snailNumbered σ hk x) dX5_goBack_62 ?_
          exact retT_I C hP hS (nar_i _) rfl (by unfold x_X5_goBack; rw [if_pos c_2, if_neg c_8, if_pos c_14, if_neg c_32]) (by unfold f_X5_goBack; rw [if_pos c_2, if_neg c_8, if_pos c_14, if_neg c_32]) (by unfold s_X5_goBack; rw [if_pos c_2, if_neg c_8, if_pos c_14, if_neg c_32]) rfl dX5_goBack_65
        · exact thr_X5 C hno hfl hP hS (ik := 99) (is := 101) (ic := 103) (T := 3) (text := "the way back is not in the log, or too long") (by unfold x_X5_goBack; rw [if_pos c_2, if_neg c_8, if_pos c_14, if_pos c_32]) (by decide) (by decide) vxi_3.1 vxi_3.2.1 vxi_3.2.2 (vxw vxa_x3) vxb_x3 vxc_x3 hl.1 dX5_goBack_35 dX5_goBack_38 dX5_goBack_39 dX5_goBack_41 dX5_goBack_44 (by decide) (by decide) (by unfold s_X5_goBack; rw [if_pos c_2, if_neg c_8, if_pos c_14, if_pos c_32]) rfl
      · exact thr_X5 C hno hfl hP hS (ik := 44) (is := 93) (ic := 48) (T := 2) (text := "feelings out of range") (by unfold x_X5_goBack; rw [if_pos c_2, if_neg c_8, if_neg c_14]) (by decide) (by decide) vxi_2.1 vxi_2.2.1 vxi_2.2.2 (vxw vxa_x2) vxb_x2 vxc_x2 hl.1 dX5_goBack_17 dX5_goBack_20 dX5_goBack_21 dX5_goBack_23 dX5_goBack_26 (by decide) (by decide) (by unfold s_X5_goBack; rw [if_pos c_2, if_neg c_8, if_neg c_14]) rfl
  · exact outT (runT_V (As := [.int x]) (rest := []) C (k_X5_snailNumbered l hfl D cy z o d σ τ hk x) hP hS cw_X5_snailNumbered (mA1 (i := 198) rfl rfl) hk ⟨Nat.le_of_ble_eq_true rfl, Nat.le_of_ble_eq_true rfl⟩ rfl (Nat.le_of_ble_eq_true rfl) hl.1 (tcc_e (by unfold x_X5_goBack; rw [if_neg c_2])) dX5_goBack_2) z_R c_2 (by unfold x_X5_goBack; rw [if_neg c_2]) hno hlocks hS (by unfold s_X5_goBack; rw [if_neg c_2]) rfl

theorem cw_X5_setRule : cwVt yX5_setRule cX5_setRule 3 (some .int) 5 1 := ⟨(mA3 (i := 22) rfl rfl), (mA3 (i := 23) rfl rfl), (mA1 (i := 1) rfl rfl), (mA3 (i := 24) rfl rfl), by decide +kernel, ⟨_, rfl, rfl⟩, by decide⟩
def f_X5_setRule (σ : Sg) (k : Nat) (x : Int32) : Int32 :=
  if x = 0 then
    (s_X3_keep σ (k + 40) (k + 1)) (k + 1) 4
  else
    if x = 1 then
      (s_X3_keep σ (k + 40) (k + 1)) (k + 1) 4
    else
      0
def s_X5_setRule (σ : Sg) (k : Nat) (x : Int32) : Sg :=
  if x = 0 then
    up (s_X3_keep σ (k + 40) (k + 1)) (k + 1) 4 x
  else
    if x = 1 then
      up (s_X3_keep σ (k + 40) (k + 1)) (k + 1) 4 x
    else
      σ
def x_X5_setRule (σ : Sg) (k : Nat) (x : Int32) : Nat :=
  if x = 0 then
    0
  else
    if x = 1 then
      0
    else
      2
set_option maxHeartbeats 4000000 in
set_option maxRecDepth 100000 in
theorem k_X5_setRule (l : Launch) (hfl : l.stackTraces = false) (D : va_G) (cy : Nat → ClassId) (z : Nat) (o : Int64) (d : UInt64) (σ τ : Sg) {k : Nat} (hk : kd k = 5) (x : Int32) : KT l yX5_setRule cX5_setRule 3 (some .int) 6 85 D cy z [.ref (z + k), .int x] o d σ τ (x_X5_setRule σ k x) (PoTI D cy z o d (x_X5_setRule σ k x) (f_X5_setRule σ k x) (s_X5_setRule σ k x) τ) (s_X5_setRule σ k x) τ := by
  refine metT_of RX5 (by decide) rfl (Nat.le_of_ble_eq_true rfl) ?_
  intro p e s m args below meth c C hno hP hS ls hl
  obtain ⟨hx, hb, hr, hml, hown, hW, hlocks, hAm⟩ := id C
  have hl : lv_has ls 3 [(0, .ref (z + k)), (1, .int x)] := hl
  refine lv_iload_n hx hb dX5_setRule_0 rfl (lv_at hl 1 rfl) ?_
  refine lv_if_eq (tgt := 19) hx hb dX5_setRule_1 (by decide) (fun c_1 => ?_) (fun c_1 => ?_)
  · refine lv_aload_n hx hb dX5_setRule_19 rfl (lv_at hl 0 rfl) ?_
    refine gf_X5_25 C hP hk dX5_setRule_20 ?_
    refine lv_aload_n hx hb dX5_setRule_23 rfl (lv_at hl 0 rfl) ?_
    refine gf_X5_10 C hP hk dX5_setRule_24 ?_
    refine thn_V (run_V (As := [.ref (z + (k + 1))]) (rest := []) C (k_X3_keep l D cy z o d σ τ (kd5_40 hk) (k + 1) (kd5_1 hk)) hP hS cw_X3_keep (mA2 (i := 124) rfl rfl) (kd5_40 hk) ⟨rfl, rfl⟩ ⟨Nat.le_of_ble_eq_true rfl, Nat.le_of_ble_eq_true rfl⟩ rfl (Nat.le_of_ble_eq_true rfl) hl.1 ⟨Nat.zero_le _, Nat.zero_le _⟩ dX5_setRule_27) hS (fun H locs hP hS => ?_)
    refine lv_aload_n hx hb dX5_setRule_30 rfl (lv_at hl 0 rfl) ?_
    refine gf_X5_10 C hP hk dX5_setRule_31 ?_
    refine gf_X5_51 C hP (kd5_1 hk) dX5_setRule_34 ?_
    refine lv_istore_n (lv' := [(2, .int ((s_X3_keep σ (k + 40) (k + 1)) (k + 1) 4)), (0, .ref (z + k)), (1, .int x)]) hx hb dX5_setRule_37 rfl hl (by decide) rfl (fun ls hl => ?_)
    refine lv_aload_n hx hb dX5_setRule_38 rfl (lv_at hl 1 rfl) ?_
    refine gf_X5_10 C hP hk dX5_setRule_39 ?_
    refine lv_iload_n hx hb dX5_setRule_42 rfl (lv_at hl 2 rfl) ?_
    refine pf_X5_51 C hP hS (kd5_1 hk) dX5_setRule_43 (fun H locs hP hS => ?_)
    refine lv_iload_n hx hb dX5_setRule_46 rfl (lv_at hl 0 rfl) ?_
    exact retT_I C hP hS (nar_i _) rfl (by unfold x_X5_setRule; rw [if_pos c_1]) (by unfold f_X5_setRule; rw [if_pos c_1]) (by unfold s_X5_setRule; rw [if_pos c_1]) rfl dX5_setRule_47
  · refine lv_iload_n hx hb dX5_setRule_4 rfl (lv_at hl 1 rfl) ?_
    refine lv_iconst (v := 1) hx hb dX5_setRule_5 (by decide) ?_
    refine lv_icmp_eq (tgt := 19) hx hb dX5_setRule_6 (by decide) (fun c_6 => ?_) (fun c_6 => ?_)
    · refine lv_aload_n hx hb dX5_setRule_19 rfl (lv_at hl 0 rfl) ?_
      refine gf_X5_25 C hP hk dX5_setRule_20 ?_
      refine lv_aload_n hx hb dX5_setRule_23 rfl (lv_at hl 0 rfl) ?_
      refine gf_X5_10 C hP hk dX5_setRule_24 ?_
      refine thn_V (run_V (As := [.ref (z + (k + 1))]) (rest := []) C (k_X3_keep l D cy z o d σ τ (kd5_40 hk) (k + 1) (kd5_1 hk)) hP hS cw_X3_keep (mA2 (i := 124) rfl rfl) (kd5_40 hk) ⟨rfl, rfl⟩ ⟨Nat.le_of_ble_eq_true rfl, Nat.le_of_ble_eq_true rfl⟩ rfl (Nat.le_of_ble_eq_true rfl) hl.1 ⟨Nat.zero_le _, Nat.zero_le _⟩ dX5_setRule_27) hS (fun H locs hP hS => ?_)
      refine lv_aload_n hx hb dX5_setRule_30 rfl (lv_at hl 0 rfl) ?_
      refine gf_X5_10 C hP hk dX5_setRule_31 ?_
      refine gf_X5_51 C hP (kd5_1 hk) dX5_setRule_34 ?_
      refine lv_istore_n (lv' := [(2, .int ((s_X3_keep σ (k + 40) (k + 1)) (k + 1) 4)), (0, .ref (z + k)), (1, .int x)]) hx hb dX5_setRule_37 rfl hl (by decide) rfl (fun ls hl => ?_)
      refine lv_aload_n hx hb dX5_setRule_38 rfl (lv_at hl 1 rfl) ?_
      refine gf_X5_10 C hP hk dX5_setRule_39 ?_
      refine lv_iload_n hx hb dX5_setRule_42 rfl (lv_at hl 2 rfl) ?_
      refine pf_X5_51 C hP hS (kd5_1 hk) dX5_setRule_43 (fun H locs hP hS => ?_)
      refine lv_iload_n hx hb dX5_setRule_46 rfl (lv_at hl 0 rfl) ?_
      exact retT_I C hP hS (nar_i _) rfl (by unfold x_X5_setRule; rw [if_neg c_1, if_pos c_6]) (by unfold f_X5_setRule; rw [if_neg c_1, if_pos c_6]) (by unfold s_X5_setRule; rw [if_neg c_1, if_pos c_6]) rfl dX5_setRule_47
    · exact thr_X5 C hno hfl hP hS (ik := 44) (is := 107) (ic := 48) (T := 2) (text := "no such rule") (by unfold x_X5_setRule; rw [if_neg c_1, if_neg c_6]) (by decide) (by decide) vxi_2.1 vxi_2.2.1 vxi_2.2.2 (vxw vxa_x2) vxb_x2 vxc_x2 hl.1 dX5_setRule_9 dX5_setRule_12 dX5_setRule_13 dX5_setRule_15 dX5_setRule_18 (by decide) (by decide) (by unfold s_X5_setRule; rw [if_neg c_1, if_neg c_6]) rfl

theorem cw_X5_setCounts : cwVt yX5_setCounts cX5_setCounts 3 (some .int) 5 1 := ⟨(mA3 (i := 27) rfl rfl), (mA3 (i := 28) rfl rfl), (mA1 (i := 1) rfl rfl), (mA3 (i := 29) rfl rfl), by decide +kernel, ⟨_, rfl, rfl⟩, by decide⟩
def f_X5_setCounts (σ : Sg) (k : Nat) (x : Int32) : Int32 :=
  if x < 4 then
    0
  else
    if 400 < x then
      0
    else
      if (x - x / 4 * 4) = 0 then
        (s_X3_keep σ (k + 40) (k + 1)) (k + 1) 5
      else
        0
def s_X5_setCounts (σ : Sg) (k : Nat) (x : Int32) : Sg :=
  if x < 4 then
    σ
  else
    if 400 < x then
      σ
    else
      if (x - x / 4 * 4) = 0 then
        up (s_X3_keep σ (k + 40) (k + 1)) (k + 1) 5 x
      else
        σ
def x_X5_setCounts (σ : Sg) (k : Nat) (x : Int32) : Nat :=
  if x < 4 then
    2
  else
    if 400 < x then
      2
    else
      if (x - x / 4 * 4) = 0 then
        0
      else
        2
set_option maxHeartbeats 4000000 in
set_option maxRecDepth 100000 in
theorem k_X5_setCounts (l : Launch) (hfl : l.stackTraces = false) (D : va_G) (cy : Nat → ClassId) (z : Nat) (o : Int64) (d : UInt64) (σ τ : Sg) {k : Nat} (hk : kd k = 5) (x : Int32) : KT l yX5_setCounts cX5_setCounts 3 (some .int) 6 85 D cy z [.ref (z + k), .int x] o d σ τ (x_X5_setCounts σ k x) (PoTI D cy z o d (x_X5_setCounts σ k x) (f_X5_setCounts σ k x) (s_X5_setCounts σ k x) τ) (s_X5_setCounts σ k x) τ := by
  refine metT_of RX5 (by decide) rfl (Nat.le_of_ble_eq_true rfl) ?_
  intro p e s m args below meth c C hno hP hS ls hl
  obtain ⟨hx, hb, hr, hml, hown, hW, hlocks, hAm⟩ := id C
  have hl : lv_has ls 3 [(0, .ref (z + k)), (1, .int x)] := hl
  refine lv_iload_n hx hb dX5_setCounts_0 rfl (lv_at hl 1 rfl) ?_
  refine lv_iconst (v := 4) hx hb dX5_setCounts_1 (by decide) ?_
  refine lv_icmp_lt (tgt := 18) hx hb dX5_setCounts_2 (by decide) (fun c_2 => ?_) (fun c_2 => ?_)
  · exact thr_X5 C hno hfl hP hS (ik := 44) (is := 109) (ic := 48) (T := 2) (text := "no such counts") (by unfold x_X5_setCounts; rw [if_pos c_2]) (by decide) (by decide) vxi_2.1 vxi_2.2.1 vxi_2.2.2 (vxw vxa_x2) vxb_x2 vxc_x2 hl.1 dX5_setCounts_18 dX5_setCounts_21 dX5_setCounts_22 dX5_setCounts_24 dX5_setCounts_27 (by decide) (by decide) (by unfold s_X5_setCounts; rw [if_pos c_2]) rfl
  · refine lv_iload_n hx hb dX5_setCounts_5 rfl (lv_at hl 1 rfl) ?_
    refine lv_sipush (v := 400) hx hb dX5_setCounts_6 (by decide) ?_
    refine lv_icmp_gt (tgt := 18) hx hb dX5_setCounts_9 (by decide) (fun c_9 => ?_) (fun c_9 => ?_)
    · exact thr_X5 C hno hfl hP hS (ik := 44) (is := 109) (ic := 48) (T := 2) (text := "no such counts") (by unfold x_X5_setCounts; rw [if_neg c_2, if_pos c_9]) (by decide) (by decide) vxi_2.1 vxi_2.2.1 vxi_2.2.2 (vxw vxa_x2) vxb_x2 vxc_x2 hl.1 dX5_setCounts_18 dX5_setCounts_21 dX5_setCounts_22 dX5_setCounts_24 dX5_setCounts_27 (by decide) (by decide) (by unfold s_X5_setCounts; rw [if_neg c_2, if_pos c_9]) rfl
    · refine lv_iload_n hx hb dX5_setCounts_12 rfl (lv_at hl 1 rfl) ?_
      refine lv_iconst (v := 4) hx hb dX5_setCounts_13 (by decide) ?_
      refine lv_irem hx hb dX5_setCounts_14 (by decide) ?_
      refine lv_if_eq (tgt := 28) hx hb dX5_setCounts_15 (by decide) (fun c_15 => ?_) (fun c_15 => ?_)
      · refine lv_aload_n hx hb dX5_setCounts_28 rfl (lv_at hl 0 rfl) ?_
        refine gf_X5_25 C hP hk dX5_setCounts_29 ?_
        refine lv_aload_n hx hb dX5_setCounts_32 rfl (lv_at hl 0 rfl) ?_
        refine gf_X5_10 C hP hk dX5_setCounts_33 ?_
        refine thn_V (run_V (As := [.ref (z + (k + 1))]) (rest := []) C (k_X3_keep l D cy z o d σ τ (kd5_40 hk) (k + 1) (kd5_1 hk)) hP hS cw_X3_keep (mA2 (i := 124) rfl rfl) (kd5_40 hk) ⟨rfl, rfl⟩ ⟨Nat.le_of_ble_eq_true rfl, Nat.le_of_ble_eq_true rfl⟩ rfl (Nat.le_of_ble_eq_true rfl) hl.1 ⟨Nat.zero_le _, Nat.zero_le _⟩ dX5_setCounts_36) hS (fun H locs hP hS => ?_)
        refine lv_aload_n hx hb dX5_setCounts_39 rfl (lv_at hl 0 rfl) ?_
        refine gf_X5_10 C hP hk dX5_setCounts_40 ?_
        refine gf_X5_87 C hP (kd5_1 hk) dX5_setCounts_43 ?_
        refine lv_istore_n (lv' := [(2, .int ((s_X3_keep σ (k + 40) (k + 1)) (k + 1) 5)), (0, .ref (z + k)), (1, .int x)]) hx hb dX5_setCounts_46 rfl hl (by decide) rfl (fun ls hl => ?_)
        refine lv_aload_n hx hb dX5_setCounts_47 rfl (lv_at hl 1 rfl) ?_
        refine gf_X5_10 C hP hk dX5_setCounts_48 ?_
        refine lv_iload_n hx hb dX5_setCounts_51 rfl (lv_at hl 2 rfl) ?_
        refine pf_X5_87 C hP hS (kd5_1 hk) dX5_setCounts_52 (fun H locs hP hS => ?_)
        refine lv_iload_n hx hb dX5_setCounts_55 rfl (lv_at hl 0 rfl) ?_
        exact retT_I C hP hS (nar_i _) rfl (by unfold x_X5_setCounts; rw [if_neg c_2, if_neg c_9, if_pos c_15]) (by unfold f_X5_setCounts; rw [if_neg c_2, if_neg c_9, if_pos c_15]) (by unfold s_X5_setCounts; rw [if_neg c_2, if_neg c_9, if_pos c_15]) rfl dX5_setCounts_56
      · exact thr_X5 C hno hfl hP hS (ik := 44) (is := 109) (ic := 48) (T := 2) (text := "no such counts") (by unfold x_X5_setCounts; rw [if_neg c_2, if_neg c_9, if_neg c_15]) (by decide) (by decide) vxi_2.1 vxi_2.2.1 vxi_2.2.2 (vxw vxa_x2) vxb_x2 vxc_x2 hl.1 dX5_setCounts_18 dX5_setCounts_21 dX5_setCounts_22 dX5_setCounts_24 dX5_setCounts_27 (by decide) (by decide) (by unfold s_X5_setCounts; rw [if_neg c_2, if_neg c_9, if_neg c_15]) rfl


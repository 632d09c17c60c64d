theorem cw_X6_feel : cwVt yX6_feel cX6_feel 4 (some .int) 6 3 := ⟨(mA4 (i := 42) rfl rfl), (mA4 (i := 43) rfl rfl), (mA1 (i := 7) rfl rfl), (mA4 (i := 44) rfl rfl), by decide +kernel, ⟨_, rfl, rfl⟩, by decide⟩
abbrev rm_X6_feel_ok : Room := { frames := 4, cells := 0, slots := 0, locals := 90 }
def f_X6_feel_ok (τ : Sg) (j : Nat) (y : Int32) (w : Int32) : Int32 :=
  if (f_X6_in y 0 3) = 0 then
    f_X6_throwing (t_X6_isThere τ (nI j)) 2
  else
    if (f_X6_in w 1 1000) = 0 then
      f_X6_throwing (t_X6_isThere τ (nI j)) 2
    else
      if (f_X6_canFeel (t_X6_isThere τ (nI j)) j y w) = 0 then
        f_X6_throwing (t_X6_isThere τ (nI j)) 3
      else
        f_X6_feels (t_X6_record (t_X6_isThere τ (nI j))) j y w
def t_X6_feel_ok (τ : Sg) (j : Nat) (y : Int32) (w : Int32) : Sg :=
  if (f_X6_in y 0 3) = 0 then
    t_X6_throwing (t_X6_isThere τ (nI j)) 2
  else
    if (f_X6_in w 1 1000) = 0 then
      t_X6_throwing (t_X6_isThere τ (nI j)) 2
    else
      if (f_X6_canFeel (t_X6_isThere τ (nI j)) j y w) = 0 then
        t_X6_throwing (t_X6_isThere τ (nI j)) 3
      else
        t_X6_feels (t_X6_record (t_X6_isThere τ (nI j))) j y w
set_option maxHeartbeats 4000000 in
set_option maxRecDepth 100000 in
theorem k_X6_feel_ok (l : Launch) (D : va_G) (cy : Nat → ClassId) (z : Nat) (o : Int64) (d : UInt64) (σ τ : Sg) {k : Nat} (hk : kd k = 6) (j : Nat) (y : Int32) (w : Int32) (hM : MI τ) (hj : j < 4) : KI l yX6_feel cX6_feel 4 (some .int) rm_X6_feel_ok D cy z [.ref (z + k), .int (nI j), .int y, .int w] o d σ τ (f_X6_feel_ok τ j y w) σ (t_X6_feel_ok τ j y w) := by
  refine met_of RX6 (plainFor_of_name (by decide)) rfl (Nat.le_of_ble_eq_true rfl) ?_
  intro p e s m args below meth c C hP hS ls hl
  obtain ⟨hx, hb, hr, hml, hown, hW, hlocks, hAm⟩ := id C
  have hl : lv_has ls 4 [(0, .ref (z + k)), (1, .int (nI j)), (2, .int y), (3, .int w)] := hl
  refine lv_aload_n hx hb dX6_feel_0 rfl (lv_at hl 0 rfl) ?_
  refine lv_iload_n hx hb dX6_feel_1 rfl (lv_at hl 1 rfl) ?_
  refine thn_I (run_V (As := [.int (nI j)]) (rest := []) C (k_X6_isThere l D cy z o d σ τ hk (nI j)) hP hS cw_X6_isThere (mA4 (i := 45) rfl rfl) hk ⟨rfl, rfl⟩ ⟨Nat.le_of_ble_eq_true rfl, Nat.le_of_ble_eq_true rfl⟩ rfl (Nat.le_of_ble_eq_true rfl) hl.1 ⟨Nat.zero_le _, Nat.zero_le _⟩ dX6_feel_2) hS (fun H locs hP hS => ?_)
  refine lv_if_ne (tgt := 10) hx hb dX6_feel_5 (by decide) (fun c_5 => ?_) (fun c_5 => ?_)
  · refine lv_iload_n hx hb dX6_feel_10 rfl (lv_at hl 2 rfl) ?_
    refine lv_iconst (v := 0) hx hb dX6_feel_11 (by decide) ?_
    refine lv_iconst (v := 3) hx hb dX6_feel_12 (by decide) ?_
    refine thn_I (run_S (As := [.int y, .int 0, .int 3]) (rest := []) C (k_X6_in l D cy z o d σ (t_X6_isThere τ (nI j)) y 0 3) hP hS cw_X6_in (mA4 (i := 49) rfl rfl) ⟨rfl, rfl⟩ ⟨Nat.le_of_ble_eq_true rfl, Nat.le_of_ble_eq_true rfl⟩ rfl (Nat.le_of_ble_eq_true rfl) hl.1 ⟨Nat.zero_le _, Nat.zero_le _⟩ dX6_feel_13) hS (fun H locs hP hS => ?_)
    refine lv_if_eq (tgt := 30) hx hb dX6_feel_16 (by decide) (fun c_16 => ?_) (fun c_16 => ?_)
    · refine lv_aload_n hx hb dX6_feel_30 rfl (lv_at hl 0 rfl) ?_
      refine lv_iconst (v := 2) hx hb dX6_feel_31 (by decide) ?_
      refine thn_I (run_V (As := [.int 2]) (rest := []) C (k_X6_throwing l D cy z o d σ (t_X6_isThere τ (nI j)) hk 2) hP hS cw_X6_throwing (mA4 (i := 52) rfl rfl) hk ⟨rfl, rfl⟩ ⟨Nat.le_of_ble_eq_true rfl, Nat.le_of_ble_eq_true rfl⟩ rfl (Nat.le_of_ble_eq_true rfl) hl.1 ⟨Nat.zero_le _, Nat.zero_le _⟩ dX6_feel_32) hS (fun H locs hP hS => ?_)
      exact ret_I C hP hS (nar_i _) rfl (by unfold f_X6_feel_ok; rw [if_pos c_16]) rfl (by unfold t_X6_feel_ok; rw [if_pos c_16]) dX6_feel_35
    · refine lv_iload_n hx hb dX6_feel_19 rfl (lv_at hl 3 rfl) ?_
      refine lv_iconst (v := 1) hx hb dX6_feel_20 (by decide) ?_
      refine lv_sipush (v := 1000) hx hb dX6_feel_21 (by decide) ?_
      refine thn_I (run_S (As := [.int w, .int 1, .int 1000]) (rest := []) C (k_X6_in l D cy z o d σ (t_X6_isThere τ (nI j)) w 1 1000) hP hS cw_X6_in (mA4 (i := 49) rfl rfl) ⟨rfl, rfl⟩ ⟨Nat.le_of_ble_eq_true rfl, Nat.le_of_ble_eq_true rfl⟩ rfl (Nat.le_of_ble_eq_true rfl) hl.1 ⟨Nat.zero_le _, Nat.zero_le _⟩ dX6_feel_24) hS (fun H locs hP hS => ?_)
      refine lv_if_ne (tgt := 36) hx hb dX6_feel_27 (by decide) (fun c_27 => ?_) (fun c_27 => ?_)
      · refine lv_aload_n hx hb dX6_feel_36 rfl (lv_at hl 0 rfl) ?_
        refine lv_iload_n hx hb dX6_feel_37 rfl (lv_at hl 1 rfl) ?_
        refine lv_iload_n hx hb dX6_feel_38 rfl (lv_at hl 2 rfl) ?_
        refine lv_iload_n hx hb dX6_feel_39 rfl (lv_at hl 3 rfl) ?_
        refine thn_I (run_V (As := [.int (nI j), .int y, .int w]) (rest := []) C (k_X6_canFeel l D cy z o d σ (t_X6_isThere τ (nI j)) hk j y w hj) hP hS cw_X6_canFeel (mA4 (i := 56) rfl rfl) hk ⟨rfl, rfl⟩ ⟨Nat.le_of_ble_eq_true rfl, Nat.le_of_ble_eq_true rfl⟩ rfl (Nat.le_of_ble_eq_true rfl) hl.1 ⟨Nat.zero_le _, Nat.zero_le _⟩ dX6_feel_40) hS (fun H locs hP hS => ?_)
        refine lv_if_ne (tgt := 52) hx hb dX6_feel_43 (by decide) (fun c_43 => ?_) (fun c_43 => ?_)
        · refine lv_aload_n hx hb dX6_feel_52 rfl (lv_at hl 0 rfl) ?_
          refine thn_V (run_V (As := []) (rest := []) C (k_X6_record l D cy z o d σ (t_X6_isThere τ (nI j)) hk hM.isT) hP hS cw_X6_record (mA4 (i := 78) rfl rfl) hk ⟨rfl, rfl⟩ ⟨Nat.le_of_ble_eq_true rfl, Nat.le_of_ble_eq_true rfl⟩ rfl (Nat.le_of_ble_eq_true rfl) hl.1 ⟨Nat.zero_le _, Nat.zero_le _⟩ dX6_feel_53) hS (fun H locs hP hS => ?_)
          refine lv_aload_n hx hb dX6_feel_56 rfl (lv_at hl 0 rfl) ?_
          refine lv_iload_n hx hb dX6_feel_57 rfl (lv_at hl 1 rfl) ?_
          refine lv_iload_n hx hb dX6_feel_58 rfl (lv_at hl 2 rfl) ?_
          refine lv_iload_n hx hb dX6_feel_59 rfl (lv_at hl 3 rfl) ?_
          refine thn_I (run_V (As := [.int (nI j), .int y, .int w]) (rest := []) C (k_X6_feels l D cy z o d σ (t_X6_record (t_X6_isThere τ (nI j))) hk j y w hM.isT.rec hj) hP hS cw_X6_feels (mA4 (i := 82) rfl rfl) hk ⟨rfl, rfl⟩ ⟨Nat.le_of_ble_eq_true rfl, Nat.le_of_ble_eq_true rfl⟩ rfl (Nat.le_of_ble_eq_true rfl) hl.1 ⟨Nat.zero_le _, Nat.zero_le _⟩ dX6_feel_60) hS (fun H locs hP hS => ?_)
          exact ret_I C hP hS (nar_i _) rfl (by unfold f_X6_feel_ok; rw [if_neg c_16, if_neg c_27, if_neg c_43]) rfl (by unfold t_X6_feel_ok; rw [if_neg c_16, if_neg c_27, if_neg c_43]) dX6_feel_63
        · refine lv_aload_n hx hb dX6_feel_46 rfl (lv_at hl 0 rfl) ?_
          refine lv_iconst (v := 3) hx hb dX6_feel_47 (by decide) ?_
          refine thn_I (run_V (As := [.int 3]) (rest := []) C (k_X6_throwing l D cy z o d σ (t_X6_isThere τ (nI j)) hk 3) hP hS cw_X6_throwing (mA4 (i := 52) rfl rfl) hk ⟨rfl, rfl⟩ ⟨Nat.le_of_ble_eq_true rfl, Nat.le_of_ble_eq_true rfl⟩ rfl (Nat.le_of_ble_eq_true rfl) hl.1 ⟨Nat.zero_le _, Nat.zero_le _⟩ dX6_feel_48) hS (fun H locs hP hS => ?_)
          exact ret_I C hP hS (nar_i _) rfl (by unfold f_X6_feel_ok; rw [if_neg c_16, if_neg c_27, if_pos c_43]) rfl (by unfold t_X6_feel_ok; rw [if_neg c_16, if_neg c_27, if_pos c_43]) dX6_feel_51
      · refine lv_aload_n hx hb dX6_feel_30 rfl (lv_at hl 0 rfl) ?_
        refine lv_iconst (v := 2) hx hb dX6_feel_31 (by decide) ?_
        refine thn_I (run_V (As := [.int 2]) (rest := []) C (k_X6_throwing l D cy z o d σ (t_X6_isThere τ (nI j)) hk 2) hP hS cw_X6_throwing (mA4 (i := 52) rfl rfl) hk ⟨rfl, rfl⟩ ⟨Nat.le_of_ble_eq_true rfl, Nat.le_of_ble_eq_true rfl⟩ rfl (Nat.le_of_ble_eq_true rfl) hl.1 ⟨Nat.zero_le _, Nat.zero_le _⟩ dX6_feel_32) hS (fun H locs hP hS => ?_)
        exact ret_I C hP hS (nar_i _) rfl (by unfold f_X6_feel_ok; rw [if_neg c_16, if_pos c_27]) rfl (by unfold t_X6_feel_ok; rw [if_neg c_16, if_pos c_27]) dX6_feel_35
  · exact absurd c_5 (isT_ne hj)

abbrev rm_X6_feel_no : Room := { frames := 2, cells := 0, slots := 0, locals := 43 }
def f_X6_feel_no (τ : Sg) (x : Int32) (y : Int32) (w : Int32) : Int32 :=
  0
def t_X6_feel_no (τ : Sg) (x : Int32) (y : Int32) (w : Int32) : Sg :=
  t_X6_isThere τ x
set_option maxHeartbeats 4000000 in
set_option maxRecDepth 100000 in
theorem k_X6_feel_no (l : Launch) (D : va_G) (cy : Nat → ClassId) (z : Nat) (o : Int64) (d : UInt64) (σ τ : Sg) {k : Nat} (hk : kd k = 6) (x : Int32) (y : Int32) (w : Int32) (hx9 : ¬ InS x) : KI l yX6_feel cX6_feel 4 (some .int) rm_X6_feel_no D cy z [.ref (z + k), .int x, .int y, .int w] o d σ τ (f_X6_feel_no τ x y w) σ (t_X6_feel_no τ x y w) := by
  refine met_of RX6 (plainFor_of_name (by decide)) rfl (Nat.le_of_ble_eq_true rfl) ?_
  intro p e s m args below meth c C hP hS ls hl
  obtain ⟨hx, hb, hr, hml, hown, hW, hlocks, hAm⟩ := id C
  have hl : lv_has ls 4 [(0, .ref (z + k)), (1, .int x), (2, .int y), (3, .int w)] := hl
  refine lv_aload_n hx hb dX6_feel_0 rfl (lv_at hl 0 rfl) ?_
  refine lv_iload_n hx hb dX6_feel_1 rfl (lv_at hl 1 rfl) ?_
  refine thn_I (run_V (As := [.int x]) (rest := []) C (k_X6_isThere l D cy z o d σ τ hk x) hP hS cw_X6_isThere (mA4 (i := 45) rfl rfl) hk ⟨rfl, rfl⟩ ⟨Nat.le_of_ble_eq_true rfl, Nat.le_of_ble_eq_true rfl⟩ rfl (Nat.le_of_ble_eq_true rfl) hl.1 ⟨Nat.zero_le _, Nat.zero_le _⟩ dX6_feel_2) hS (fun H locs hP hS => ?_)
  refine lv_if_ne (tgt := 10) hx hb dX6_feel_5 (by decide) (fun c_5 => ?_) (fun c_5 => ?_)
  · exact absurd ((isT_no hx9).1) c_5
  · refine lv_iconst (v := 0) hx hb dX6_feel_8 (by decide) ?_
    exact ret_I C hP hS (nar_i _) rfl rfl rfl rfl dX6_feel_9

theorem cw_X6_crawl : cwVt yX6_crawl cX6_crawl 5 (some .int) 6 2 := ⟨(mA4 (i := 102) rfl rfl), (mA4 (i := 103) rfl rfl), (mA1 (i := 7) rfl rfl), (mA4 (i := 104) rfl rfl), by decide +kernel, ⟨_, rfl, rfl⟩, by decide⟩
abbrev rm_X6_crawl_ok : Room := { frames := 4, cells := 0, slots := 0, locals := 90 }
def gf_X6_crawl_ok (j b : Nat) (y : Int32) : Nat → Nat → Sg → Int32
  | 0, _, _ => 0
  | n + 1, i, τ =>
    if b ≤ i then
      f_X6_of τ j 1
    else
      if 0 ≤ y then
        gf_X6_crawl_ok j b y n (i + 1) (t_X6_feels τ j (f_X6_ahead (f_X6_of τ j 0) 1) 1)
      else
        gf_X6_crawl_ok j b y n (i + 1) (t_X6_feels τ j (f_X6_ahead (f_X6_of τ j 0) (-1)) 1)
def gt_X6_crawl_ok (j b : Nat) (y : Int32) : Nat → Nat → Sg → Sg
  | 0, _, τ => τ
  | n + 1, i, τ =>
    if b ≤ i then
      τ
    else
      if 0 ≤ y then
        gt_X6_crawl_ok j b y n (i + 1) (t_X6_feels τ j (f_X6_ahead (f_X6_of τ j 0) 1) 1)
      else
        gt_X6_crawl_ok j b y n (i + 1) (t_X6_feels τ j (f_X6_ahead (f_X6_of τ j 0) (-1)) 1)
set_option maxHeartbeats 4000000 in
set_option maxRecDepth 100000 in
theorem lp_X6_crawl_ok {p : Program} {l : Launch} {e : Env} {s : State} {m : MethodId} {args : Array Value} {below : List Frame} {meth : Method} {c : Code} {D : va_G} {cy : Nat → ClassId} {z : Nat} (C : Bd p s m args meth c cX6_crawl 5 (some .int) RX6 D cy z) (o : Int64) (d : UInt64) {k : Nat} (hk : kd k = 6) (j b : Nat) (y : Int32) (hb9 : f_X6_size y = nI b) {r9 : Int32} {τ9 : Sg} :
    ∀ (n : Nat) (i : Nat) (σ τ : Sg) (H : Heap) (locs : List Loc), (MI τ) → (j < 4 ∧ b ≤ 100 ∧ i ≤ b ∧ b + 1 ≤ i + n) → (gf_X6_crawl_ok j b y n i τ = r9) → (gt_X6_crawl_ok j b y n i τ = τ9) → WP D cy z σ τ o d H → va_S (fz z) s.heap H locs → ∀ ls : Array Slot, lv_has ls 5 [(0, .ref (z + k)), (1, .int (nI j)), (2, .int y), (3, .int (nI i))] → W p l e rm_X6_crawl_ok s m args below meth c H locs 0 0 (MQ below (PoI D cy z o d r9 σ τ9) args s 0 0 (fz z)) (F0 m 72 ls []) := by
  obtain ⟨hx, hb, hr, hml, hown, hW, hlocks, hAm⟩ := id C
  intro n
  induction n with
  | zero =>
    intro _ σ τ H locs hM hn9 _ _ hP hS ls hl
    exact absurd hn9 (by omega)
  | succ n ih =>
    intro i σ τ H locs hM hn9 hr9 ht9 hP hS ls hl
    have hj := hn9.1
    refine lv_iload_n hx hb dX6_crawl_72 rfl (lv_at hl 3 rfl) ?_
    refine lv_iload_n hx hb dX6_crawl_73 rfl (lv_at hl 2 rfl) ?_
    refine thn_I (run_S (As := [.int y]) (rest := [.int (nI i)]) C (k_X6_size l D cy z o d σ τ y) hP hS cw_X6_size (mA4 (i := 75) rfl rfl) ⟨rfl, rfl⟩ ⟨Nat.le_of_ble_eq_true rfl, Nat.le_of_ble_eq_true rfl⟩ rfl (Nat.le_of_ble_eq_true rfl) hl.1 ⟨Nat.zero_le _, Nat.zero_le _⟩ dX6_crawl_74) hS (fun H locs hP hS => ?_)
    rw [hb9]
    refine lv_icmp_ge (tgt := 112) hx hb dX6_crawl_77 (by decide) (fun c_77 => ?_) (fun c_77 => ?_)
    · have d_77 : b ≤ i := (cI_le rfl rfl (by omega) (by omega)).mp c_77
      refine lv_aload_n hx hb dX6_crawl_112 rfl (lv_at hl 0 rfl) ?_
      refine lv_iload_n hx hb dX6_crawl_113 rfl (lv_at hl 1 rfl) ?_
      refine lv_iconst (v := 1) hx hb dX6_crawl_114 (by decide) ?_
      refine thn_I (run_V (As := [.int (nI j), .int 1]) (rest := []) C (k_X6_of l D cy z o d σ τ hk j 1 (by omega)) hP hS cw_X6_of (mA4 (i := 60) rfl rfl) hk ⟨rfl, rfl⟩ ⟨Nat.le_of_ble_eq_true rfl, Nat.le_of_ble_eq_true rfl⟩ rfl (Nat.le_of_ble_eq_true rfl) hl.1 ⟨Nat.zero_le _, Nat.zero_le _⟩ dX6_crawl_115) hS (fun H locs hP hS => ?_)
      exact ret_I C hP hS (nar_i _) rfl (by rw [← hr9, gf_X6_crawl_ok]; rw [if_pos d_77]) rfl (by rw [← ht9, gt_X6_crawl_ok]; rw [if_pos d_77]) dX6_crawl_118
    · have d_77 : ¬ (b ≤ i) := fun h9 => c_77 ((cI_le rfl rfl (by omega) (by omega)).mpr h9)
      refine lv_aload_n hx hb dX6_crawl_80 rfl (lv_at hl 0 rfl) ?_
      refine lv_iload_n hx hb dX6_crawl_81 rfl (lv_at hl 1 rfl) ?_
      refine lv_aload_n hx hb dX6_crawl_82 rfl (lv_at hl 0 rfl) ?_
      refine lv_iload_n hx hb dX6_crawl_83 rfl (lv_at hl 1 rfl) ?_
      refine lv_iconst (v := 0) hx hb dX6_crawl_84 (by decide) ?_
      refine thn_I (run_V (As := [.int (nI j), .int 0]) (rest := [.int (nI j), .ref (z + k)]) C (k_X6_of l D cy z o d σ τ hk j 0 (by omega)) hP hS cw_X6_of (mA4 (i := 60) rfl rfl) hk ⟨rfl, rfl⟩ ⟨Nat.le_of_ble_eq_true rfl, Nat.le_of_ble_eq_true rfl⟩ rfl (Nat.le_of_ble_eq_true rfl) hl.1 ⟨Nat.zero_le _, Nat.zero_le _⟩ dX6_crawl_85) hS (fun H locs hP hS => ?_)
      refine lv_iload_n hx hb dX6_crawl_88 rfl (lv_at hl 2 rfl) ?_
      refine lv_if_ge (tgt := 96) hx hb dX6_crawl_89 (by decide) (fun c_89 => ?_) (fun c_89 => ?_)
      · refine lv_iconst (v := 1) hx hb dX6_crawl_96 (by decide) ?_
        refine thn_I (run_S (As := [.int (f_X6_of τ j 0), .int 1]) (rest := [.int (nI j), .ref (z + k)]) C (k_X6_ahead l D cy z o d σ τ (f_X6_of τ j 0) 1) hP hS cw_X6_ahead (mA4 (i := 105) rfl rfl) ⟨rfl, rfl⟩ ⟨Nat.le_of_ble_eq_true rfl, Nat.le_of_ble_eq_true rfl⟩ rfl (Nat.le_of_ble_eq_true rfl) hl.1 ⟨Nat.zero_le _, Nat.zero_le _⟩ dX6_crawl_97) hS (fun H locs hP hS => ?_)
        refine lv_iconst (v := 1) hx hb dX6_crawl_100 (by decide) ?_
        refine thn_I (run_V (As := [.int (nI j), .int (f_X6_ahead (f_X6_of τ j 0) 1), .int 1]) (rest := []) C (k_X6_feels l D cy z o d σ τ hk j (f_X6_ahead (f_X6_of τ j 0) 1) 1 hM hj) hP hS cw_X6_feels (mA4 (i := 82) rfl rfl) hk ⟨rfl, rfl⟩ ⟨Nat.le_of_ble_eq_true rfl, Nat.le_of_ble_eq_true rfl⟩ rfl (Nat.le_of_ble_eq_true rfl) hl.1 ⟨Nat.zero_le _, Nat.zero_le _⟩ dX6_crawl_101) hS (fun H locs hP hS => ?_)
        refine lv_istore (lv' := [(4, .int (f_X6_feels τ j (f_X6_ahead (f_X6_of τ j 0) 1) 1)), (0, .ref (z + k)), (1, .int (nI j)), (2, .int y), (3, .int (nI i))]) hx hb dX6_crawl_104 hl (by decide) rfl (fun ls hl => ?_)
        refine lv_iinc (v := nI (i + 1)) (lv' := [(3, .int (nI (i + 1))), (4, .int (f_X6_feels τ j (f_X6_ahead (f_X6_of τ j 0) 1) 1)), (0, .ref (z + k)), (1, .int (nI j)), (2, .int y)]) hx hb dX6_crawl_106 hl (k := 4) rfl (nI_1 i) (by decide) rfl (fun ls hl => ?_)
        refine lv_goto (tgt := 72) hx hb dX6_crawl_109 (by decide) ?_
        exact ih (i + 1) σ (t_X6_feels τ j (f_X6_ahead (f_X6_of τ j 0) 1) 1) _ _ (hM.feels hj) (⟨by omega, by omega, by omega, by omega⟩) (by rw [← hr9, gf_X6_crawl_ok]; rw [if_neg d_77, if_pos c_89]) (by rw [← ht9, gt_X6_crawl_ok]; rw [if_neg d_77, if_pos c_89]) hP hS ls (lv_sub hl [2, 3, 4, 0] rfl)
      · refine lv_iconst (v := (-1)) hx hb dX6_crawl_92 (by decide) ?_
        refine lv_goto (tgt := 97) hx hb dX6_crawl_93 (by decide) ?_
        refine thn_I (run_S (As := [.int (f_X6_of τ j 0), .int (-1)]) (rest := [.int (nI j), .ref (z + k)]) C (k_X6_ahead l D cy z o d σ τ (f_X6_of τ j 0) (-1)) hP hS cw_X6_ahead (mA4 (i := 105) rfl rfl) ⟨rfl, rfl⟩ ⟨Nat.le_of_ble_eq_true rfl, Nat.le_of_ble_eq_true rfl⟩ rfl (Nat.le_of_ble_eq_true rfl) hl.1 ⟨Nat.zero_le _, Nat.zero_le _⟩ dX6_crawl_97) hS (fun H locs hP hS => ?_)
        refine lv_iconst (v := 1) hx hb dX6_crawl_100 (by decide) ?_
        refine thn_I (run_V (As := [.int (nI j), .int (f_X6_ahead (f_X6_of τ j 0) (-1)), .int 1]) (rest := []) C (k_X6_feels l D cy z o d σ τ hk j (f_X6_ahead (f_X6_of τ j 0) (-1)) 1 hM hj) hP hS cw_X6_feels (mA4 (i := 82) rfl rfl) hk ⟨rfl, rfl⟩ ⟨Nat.le_of_ble_eq_true rfl, Nat.le_of_ble_eq_true rfl⟩ rfl (Nat.le_of_ble_eq_true rfl) hl.1 ⟨Nat.zero_le _, Nat.zero_le _⟩ dX6_crawl_101) hS (fun H locs hP hS => ?_)
        refine lv_istore (lv' := [(4, .int (f_X6_feels τ j (f_X6_ahead (f_X6_of τ j 0) (-1)) 1)), (0, .ref (z + k)), (1, .int (nI j)), (2, .int y), (3, .int (nI i))]) hx hb dX6_crawl_104 hl (by decide) rfl (fun ls hl => ?_)
        refine lv_iinc (v := nI (i + 1)) (lv' := [(3, .int (nI (i + 1))), (4, .int (f_X6_feels τ j (f_X6_ahead (f_X6_of τ j 0) (-1)) 1)), (0, .ref (z + k)), (1, .int (nI j)), (2, .int y)]) hx hb dX6_crawl_106 hl (k := 4) rfl (nI_1 i) (by decide) rfl (fun ls hl => ?_)
        refine lv_goto (tgt := 72) hx hb dX6_crawl_109 (by decide) ?_
        exact ih (i + 1) σ (t_X6_feels τ j (f_X6_ahead (f_X6_of τ j 0) (-1)) 1) _ _ (hM.feels hj) (⟨by omega, by omega, by omega, by omega⟩) (by rw [← hr9, gf_X6_crawl_ok]; rw [if_neg d_77, if_neg c_89]) (by rw [← ht9, gt_X6_crawl_ok]; rw [if_neg d_77, if_neg c_89]) hP hS ls (lv_sub hl [2, 3, 4, 0] rfl)
def f_X6_crawl_ok (τ : Sg) (j : Nat) (y : Int32) : Int32 :=
  if (f_X6_in y (-100) 100) = 0 then
    f_X6_throwing (t_X6_isThere τ (nI j)) 2
  else
    if 1000000000 < ((f_X6_of (t_X6_isThere τ (nI j)) j 6) + (f_X6_size y)) then
      f_X6_throwing (t_X6_isThere τ (nI j)) 3
    else
      if ((f_X6_of (t_X6_isThere τ (nI j)) j 5) + (f_X6_size y)) ≤ 1000000000 then
        gf_X6_crawl_ok j (f_X6_size y).toNatClampNeg y 101 0 (t_X6_record (t_X6_isThere τ (nI j)))
      else
        f_X6_throwing (t_X6_isThere τ (nI j)) 3
def t_X6_crawl_ok (τ : Sg) (j : Nat) (y : Int32) : Sg :=
  if (f_X6_in y (-100) 100) = 0 then
    t_X6_throwing (t_X6_isThere τ (nI j)) 2
  else
    if 1000000000 < ((f_X6_of (t_X6_isThere τ (nI j)) j 6) + (f_X6_size y)) then
      t_X6_throwing (t_X6_isThere τ (nI j)) 3
    else
      if ((f_X6_of (t_X6_isThere τ (nI j)) j 5) + (f_X6_size y)) ≤ 1000000000 then
        gt_X6_crawl_ok j (f_X6_size y).toNatClampNeg y 101 0 (t_X6_record (t_X6_isThere τ (nI j)))
      else
        t_X6_throwing (t_X6_isThere τ (nI j)) 3
set_option maxHeartbeats 4000000 in
set_option maxRecDepth 100000 in
theorem k_X6_crawl_ok (l : Launch) (D : va_G) (cy : Nat → ClassId) (z : Nat) (o : Int64) (d : UInt64) (σ τ : Sg) {k : Nat} (hk : kd k = 6) (j : Nat) (y : Int32) (hM : MI τ) (hj : j < 4) : KI l yX6_crawl cX6_crawl 5 (some .int) rm_X6_crawl_ok D cy z [.ref (z + k), .int (nI j), .int y] o d σ τ (f_X6_crawl_ok τ j y) σ (t_X6_crawl_ok τ j y) := by
  refine met_of RX6 (plainFor_of_name (by decide)) rfl (Nat.le_of_ble_eq_true rfl) ?_
  intro p e s m args below meth c C hP hS ls hl
  obtain ⟨hx, hb, hr, hml, hown, hW, hlocks, hAm⟩ := id C
  have hl : lv_has ls 5 [(0, .ref (z + k)), (1, .int (nI j)), (2, .int y)] := hl
  refine lv_aload_n hx hb dX6_crawl_0 rfl (lv_at hl 0 rfl) ?_
  refine lv_iload_n hx hb dX6_crawl_1 rfl (lv_at hl 1 rfl) ?_
  refine thn_I (run_V (As := [.int (nI j)]) (rest := []) C (k_X6_isThere l D cy z o d σ τ hk (nI j)) hP hS cw_X6_isThere (mA4 (i := 45) rfl rfl) hk ⟨rfl, rfl⟩ ⟨Nat.le_of_ble_eq_true rfl, Nat.le_of_ble_eq_true rfl⟩ rfl (Nat.le_of_ble_eq_true rfl) hl.1 ⟨Nat.zero_le _, Nat.zero_le _⟩ dX6_crawl_2) hS (fun H locs hP hS => ?_)
  refine lv_if_ne (tgt := 10) hx hb dX6_crawl_5 (by decide) (fun c_5 => ?_) (fun c_5 => ?_)
  · refine lv_iload_n hx hb dX6_crawl_10 rfl (lv_at hl 2 rfl) ?_
    refine lv_bipush (v := (-100)) hx hb dX6_crawl_11 (by decide) ?_
    refine lv_bipush (v := 100) hx hb dX6_crawl_13 (by decide) ?_
    refine thn_I (run_S (As := [.int y, .int (-100), .int 100]) (rest := []) C (k_X6_in l D cy z o d σ (t_X6_isThere τ (nI j)) y (-100) 100) hP hS cw_X6_in (mA4 (i := 49) rfl rfl) ⟨rfl, rfl⟩ ⟨Nat.le_of_ble_eq_true rfl, Nat.le_of_ble_eq_true rfl⟩ rfl (Nat.le_of_ble_eq_true rfl) hl.1 ⟨Nat.zero_le _, Nat.zero_le _⟩ dX6_crawl_15) hS (fun H locs hP hS => ?_)
    refine lv_if_ne (tgt := 27) hx hb dX6_crawl_18 (by decide) (fun c_18 => ?_) (fun c_18 => ?_)
    · refine lv_aload_n hx hb dX6_crawl_27 rfl (lv_at hl 0 rfl) ?_
      refine lv_iload_n hx hb dX6_crawl_28 rfl (lv_at hl 1 rfl) ?_
      refine lv_bipush (v := 6) hx hb dX6_crawl_29 (by decide) ?_
      refine thn_I (run_V (As := [.int (nI j), .int 6]) (rest := []) C (k_X6_of l D cy z o d σ (t_X6_isThere τ (nI j)) hk j 6 (by omega)) hP hS cw_X6_of (mA4 (i := 60) rfl rfl) hk ⟨rfl, rfl⟩ ⟨Nat.le_of_ble_eq_true rfl, Nat.le_of_ble_eq_true rfl⟩ rfl (Nat.le_of_ble_eq_true rfl) hl.1 ⟨Nat.zero_le _, Nat.zero_le _⟩ dX6_crawl_31) hS (fun H locs hP hS => ?_)
      refine lv_iload_n hx hb dX6_crawl_34 rfl (lv_at hl 2 rfl) ?_
      refine thn_I (run_S (As := [.int y]) (rest := [.int (f_X6_of (t_X6_isThere τ (nI j)) j 6)]) C (k_X6_size l D cy z o d σ (t_X6_isThere τ (nI j)) y) hP hS cw_X6_size (mA4 (i := 75) rfl rfl) ⟨rfl, rfl⟩ ⟨Nat.le_of_ble_eq_true rfl, Nat.le_of_ble_eq_true rfl⟩ rfl (Nat.le_of_ble_eq_true rfl) hl.1 ⟨Nat.zero_le _, Nat.zero_le _⟩ dX6_crawl_35) hS (fun H locs hP hS => ?_)
      refine lv_iadd hx hb dX6_crawl_38 ?_
      refine lv_ldc (v := 1000000000) hx hb hown (hW _ (mA4 (i := 64) rfl rfl)) dX6_crawl_39 ?_
      refine lv_icmp_gt (tgt := 60) hx hb dX6_crawl_41 (by decide) (fun c_41 => ?_) (fun c_41 => ?_)
      · refine lv_aload_n hx hb dX6_crawl_60 rfl (lv_at hl 0 rfl) ?_
        refine lv_iconst (v := 3) hx hb dX6_crawl_61 (by decide) ?_
        refine thn_I (run_V (As := [.int 3]) (rest := []) C (k_X6_throwing l D cy z o d σ (t_X6_isThere τ (nI j)) hk 3) hP hS cw_X6_throwing (mA4 (i := 52) rfl rfl) hk ⟨rfl, rfl⟩ ⟨Nat.le_of_ble_eq_true rfl, Nat.le_of_ble_eq_true rfl⟩ rfl (Nat.le_of_ble_eq_true rfl) hl.1 ⟨Nat.zero_le _, Nat.zero_le _⟩ dX6_crawl_62) hS (fun H locs hP hS => ?_)
        exact ret_I C hP hS (nar_i _) rfl (by unfold f_X6_crawl_ok; rw [if_neg c_18, if_pos c_41]) rfl (by unfold t_X6_crawl_ok; rw [if_neg c_18, if_pos c_41]) dX6_crawl_65
      · refine lv_aload_n hx hb dX6_crawl_44 rfl (lv_at hl 0 rfl) ?_
        refine lv_iload_n hx hb dX6_crawl_45 rfl (lv_at hl 1 rfl) ?_
        refine lv_iconst (v := 5) hx hb dX6_crawl_46 (by decide) ?_
        refine thn_I (run_V (As := [.int (nI j), .int 5]) (rest := []) C (k_X6_of l D cy z o d σ (t_X6_isThere τ (nI j)) hk j 5 (by omega)) hP hS cw_X6_of (mA4 (i := 60) rfl rfl) hk ⟨rfl, rfl⟩ ⟨Nat.le_of_ble_eq_true rfl, Nat.le_of_ble_eq_true rfl⟩ rfl (Nat.le_of_ble_eq_true rfl) hl.1 ⟨Nat.zero_le _, Nat.zero_le _⟩ dX6_crawl_47) hS (fun H locs hP hS => ?_)
        refine lv_iload_n hx hb dX6_crawl_50 rfl (lv_at hl 2 rfl) ?_
        refine thn_I (run_S (As := [.int y]) (rest := [.int (f_X6_of (t_X6_isThere τ (nI j)) j 5)]) C (k_X6_size l D cy z o d σ (t_X6_isThere τ (nI j)) y) hP hS cw_X6_size (mA4 (i := 75) rfl rfl) ⟨rfl, rfl⟩ ⟨Nat.le_of_ble_eq_true rfl, Nat.le_of_ble_eq_true rfl⟩ rfl (Nat.le_of_ble_eq_true rfl) hl.1 ⟨Nat.zero_le _, Nat.zero_le _⟩ dX6_crawl_51) hS (fun H locs hP hS => ?_)
        refine lv_iadd hx hb dX6_crawl_54 ?_
        refine lv_ldc (v := 1000000000) hx hb hown (hW _ (mA4 (i := 64) rfl rfl)) dX6_crawl_55 ?_
        refine lv_icmp_le (tgt := 66) hx hb dX6_crawl_57 (by decide) (fun c_57 => ?_) (fun c_57 => ?_)
        · refine lv_aload_n hx hb dX6_crawl_66 rfl (lv_at hl 0 rfl) ?_
          refine thn_V (run_V (As := []) (rest := []) C (k_X6_record l D cy z o d σ (t_X6_isThere τ (nI j)) hk hM.isT) hP hS cw_X6_record (mA4 (i := 78) rfl rfl) hk ⟨rfl, rfl⟩ ⟨Nat.le_of_ble_eq_true rfl, Nat.le_of_ble_eq_true rfl⟩ rfl (Nat.le_of_ble_eq_true rfl) hl.1 ⟨Nat.zero_le _, Nat.zero_le _⟩ dX6_crawl_67) hS (fun H locs hP hS => ?_)
          have hz9 := szm c_18
          refine lv_iconst (v := 0) hx hb dX6_crawl_70 (by decide) ?_
          refine lv_istore_n (lv' := [(3, .int 0), (0, .ref (z + k)), (1, .int (nI j)), (2, .int y)]) hx hb dX6_crawl_71 rfl hl (by decide) rfl (fun ls hl => ?_)
          exact lp_X6_crawl_ok C o d hk j (f_X6_size y).toNatClampNeg y hz9.1 (101) 0 σ (t_X6_record (t_X6_isThere τ (nI j))) _ _ (hM.isT.rec) (⟨hj, hz9.2, by omega, by omega⟩) (by unfold f_X6_crawl_ok; rw [if_neg c_18, if_neg c_41, if_pos c_57]) (by unfold t_X6_crawl_ok; rw [if_neg c_18, if_neg c_41, if_pos c_57]) hP hS ls (lv_sub hl [1, 2, 3, 0] rfl)
        · refine lv_aload_n hx hb dX6_crawl_60 rfl (lv_at hl 0 rfl) ?_
          refine lv_iconst (v := 3) hx hb dX6_crawl_61 (by decide) ?_
          refine thn_I (run_V (As := [.int 3]) (rest := []) C (k_X6_throwing l D cy z o d σ (t_X6_isThere τ (nI j)) hk 3) hP hS cw_X6_throwing (mA4 (i := 52) rfl rfl) hk ⟨rfl, rfl⟩ ⟨Nat.le_of_ble_eq_true rfl, Nat.le_of_ble_eq_true rfl⟩ rfl (Nat.le_of_ble_eq_true rfl) hl.1 ⟨Nat.zero_le _, Nat.zero_le _⟩ dX6_crawl_62) hS (fun H locs hP hS => ?_)
          exact ret_I C hP hS (nar_i _) rfl (by unfold f_X6_crawl_ok; rw [if_neg c_18, if_neg c_41, if_neg c_57]) rfl (by unfold t_X6_crawl_ok; rw [if_neg c_18, if_neg c_41, if_neg c_57]) dX6_crawl_65
    · refine lv_aload_n hx hb dX6_crawl_21 rfl (lv_at hl 0 rfl) ?_
      refine lv_iconst (v := 2) hx hb dX6_crawl_22 (by decide) ?_
      refine thn_I (run_V (As := [.int 2]) (rest := []) C (k_X6_throwing l D cy z o d σ (t_X6_isThere τ (nI j)) hk 2) hP hS cw_X6_throwing (mA4 (i := 52) rfl rfl) hk ⟨rfl, rfl⟩ ⟨Nat.le_of_ble_eq_true rfl, Nat.le_of_ble_eq_true rfl⟩ rfl (Nat.le_of_ble_eq_true rfl) hl.1 ⟨Nat.zero_le _, Nat.zero_le _⟩ dX6_crawl_23) hS (fun H locs hP hS => ?_)
      exact ret_I C hP hS (nar_i _) rfl (by unfold f_X6_crawl_ok; rw [if_pos c_18]) rfl (by unfold t_X6_crawl_ok; rw [if_pos c_18]) dX6_crawl_26
  · exact absurd c_5 (isT_ne hj)

abbrev rm_X6_crawl_no : Room := { frames := 2, cells := 0, slots := 0, locals := 43 }
def f_X6_crawl_no (τ : Sg) (x : Int32) (y : Int32) : Int32 :=
  0
def t_X6_crawl_no (τ : Sg) (x : Int32) (y : Int32) : Sg :=
  t_X6_isThere τ x
set_option maxHeartbeats 4000000 in
set_option maxRecDepth 100000 in
theorem k_X6_crawl_no (l : Launch) (D : va_G) (cy : Nat → ClassId) (z : Nat) (o : Int64) (d : UInt64) (σ τ : Sg) {k : Nat} (hk : kd k = 6) (x : Int32) (y : Int32) (hx9 : ¬ InS x) : KI l yX6_crawl cX6_crawl 5 (some .int) rm_X6_crawl_no D cy z [.ref (z + k), .int x, .int y] o d σ τ (f_X6_crawl_no τ x y) σ (t_X6_crawl_no τ x y) := by
  refine met_of RX6 (plainFor_of_name (by decide)) rfl (Nat.le_of_ble_eq_true rfl) ?_
  intro p e s m args below meth c C hP hS ls hl
  obtain ⟨hx, hb, hr, hml, hown, hW, hlocks, hAm⟩ := id C
  have hl : lv_has ls 5 [(0, .ref (z + k)), (1, .int x), (2, .int y)] := hl
  refine lv_aload_n hx hb dX6_crawl_0 rfl (lv_at hl 0 rfl) ?_
  refine lv_iload_n hx hb dX6_crawl_1 rfl (lv_at hl 1 rfl) ?_
  refine thn_I (run_V (As := [.int x]) (rest := []) C (k_X6_isThere l D cy z o d σ τ hk x) hP hS cw_X6_isThere (mA4 (i := 45) rfl rfl) hk ⟨rfl, rfl⟩ ⟨Nat.le_of_ble_eq_true rfl, Nat.le_of_ble_eq_true rfl⟩ rfl (Nat.le_of_ble_eq_true rfl) hl.1 ⟨Nat.zero_le _, Nat.zero_le _⟩ dX6_crawl_2) hS (fun H locs hP hS => ?_)
  refine lv_if_ne (tgt := 10) hx hb dX6_crawl_5 (by decide) (fun c_5 => ?_) (fun c_5 => ?_)
  · exact absurd ((isT_no hx9).1) c_5
  · refine lv_iconst (v := 0) hx hb dX6_crawl_8 (by decide) ?_
    exact ret_I C hP hS (nar_i _) rfl rfl rfl rfl dX6_crawl_9

theorem cw_X6_meetMark : cwVt yX6_meetMark cX6_meetMark 2 (some .int) 6 1 := ⟨(mA4 (i := 112) rfl rfl), (mA4 (i := 113) rfl rfl), (mA1 (i := 7) rfl rfl), (mA4 (i := 114) rfl rfl), by decide +kernel, ⟨_, rfl, rfl⟩, by decide⟩
abbrev rm_X6_meetMark_ok : Room := { frames := 3, cells := 0, slots := 0, locals := 67 }
def f_X6_meetMark_ok (τ : Sg) (j : Nat) : Int32 :=
  f_X6_meets (t_X6_record (t_X6_isThere τ (nI j))) j
def t_X6_meetMark_ok (τ : Sg) (j : Nat) : Sg :=
  t_X6_meets (t_X6_record (t_X6_isThere τ (nI j))) j
set_option maxHeartbeats 4000000 in
set_option maxRecDepth 100000 in
theorem k_X6_meetMark_ok (l : Launch) (D : va_G) (cy : Nat → ClassId) (z : Nat) (o : Int64) (d : UInt64) (σ τ : Sg) {k : Nat} (hk : kd k = 6) (j : Nat) (hM : MI τ) (hj : j < 4) : KI l yX6_meetMark cX6_meetMark 2 (some .int) rm_X6_meetMark_ok D cy z [.ref (z + k), .int (nI j)] o d σ τ (f_X6_meetMark_ok τ j) σ (t_X6_meetMark_ok τ j) := by
  refine met_of RX6 (plainFor_of_name (by decide)) rfl (Nat.le_of_ble_eq_true rfl) ?_
  intro p e s m args below meth c C hP hS ls hl
  obtain ⟨hx, hb, hr, hml, hown, hW, hlocks, hAm⟩ := id C
  have hl : lv_has ls 2 [(0, .ref (z + k)), (1, .int (nI j))] := hl
  refine lv_aload_n hx hb dX6_meetMark_0 rfl (lv_at hl 0 rfl) ?_
  refine lv_iload_n hx hb dX6_meetMark_1 rfl (lv_at hl 1 rfl) ?_
  refine thn_I (run_V (As := [.int (nI j)]) (rest := []) C (k_X6_isThere l D cy z o d σ τ hk (nI j)) hP hS cw_X6_isThere (mA4 (i := 45) rfl rfl) hk ⟨rfl, rfl⟩ ⟨Nat.le_of_ble_eq_true rfl, Nat.le_of_ble_eq_true rfl⟩ rfl (Nat.le_of_ble_eq_true rfl) hl.1 ⟨Nat.zero_le _, Nat.zero_le _⟩ dX6_meetMark_2) hS (fun H locs hP hS => ?_)
  refine lv_if_ne (tgt := 10) hx hb dX6_meetMark_5 (by decide) (fun c_5 => ?_) (fun c_5 => ?_)
  · refine lv_aload_n hx hb dX6_meetMark_10 rfl (lv_at hl 0 rfl) ?_
    refine thn_V (run_V (As := []) (rest := []) C (k_X6_record l D cy z o d σ (t_X6_isThere τ (nI j)) hk hM.isT) hP hS cw_X6_record (mA4 (i := 78) rfl rfl) hk ⟨rfl, rfl⟩ ⟨Nat.le_of_ble_eq_true rfl, Nat.le_of_ble_eq_true rfl⟩ rfl (Nat.le_of_ble_eq_true rfl) hl.1 ⟨Nat.zero_le _, Nat.zero_le _⟩ dX6_meetMark_11) hS (fun H locs hP hS => ?_)
    refine lv_aload_n hx hb dX6_meetMark_14 rfl (lv_at hl 0 rfl) ?_
    refine lv_iload_n hx hb dX6_meetMark_15 rfl (lv_at hl 1 rfl) ?_
    refine thn_I (run_V (As := [.int (nI j)]) (rest := []) C (k_X6_meets l D cy z o d σ (t_X6_record (t_X6_isThere τ (nI j))) hk j hj hM.isT.rec.2.1) hP hS cw_X6_meets (mA4 (i := 115) rfl rfl) hk ⟨rfl, rfl⟩ ⟨Nat.le_of_ble_eq_true rfl, Nat.le_of_ble_eq_true rfl⟩ rfl (Nat.le_of_ble_eq_true rfl) hl.1 ⟨Nat.zero_le _, Nat.zero_le _⟩ dX6_meetMark_16) hS (fun H locs hP hS => ?_)
    exact ret_I C hP hS (nar_i _) rfl rfl rfl rfl dX6_meetMark_19
  · exact absurd c_5 (isT_ne hj)

abbrev rm_X6_meetMark_no : Room := { frames := 2, cells := 0, slots := 0, locals := 43 }
def f_X6_meetMark_no (τ : Sg) (x : Int32) : Int32 :=
  0
def t_X6_meetMark_no (τ : Sg) (x : Int32) : Sg :=
  t_X6_isThere τ x
set_option maxHeartbeats 4000000 in
set_option maxRecDepth 100000 in
theorem k_X6_meetMark_no (l : Launch) (D : va_G) (cy : Nat → ClassId) (z : Nat) (o : Int64) (d : UInt64) (σ τ : Sg) {k : Nat} (hk : kd k = 6) (x : Int32) (hx9 : ¬ InS x) : KI l yX6_meetMark cX6_meetMark 2 (some .int) rm_X6_meetMark_no D cy z [.ref (z + k), .int x] o d σ τ (f_X6_meetMark_no τ x) σ (t_X6_meetMark_no τ x) := by
  refine met_of RX6 (plainFor_of_name (by decide)) rfl (Nat.le_of_ble_eq_true rfl) ?_
  intro p e s m args below meth c C hP hS ls hl
  obtain ⟨hx, hb, hr, hml, hown, hW, hlocks, hAm⟩ := id C
  have hl : lv_has ls 2 [(0, .ref (z + k)), (1, .int x)] := hl
  refine lv_aload_n hx hb dX6_meetMark_0 rfl (lv_at hl 0 rfl) ?_
  refine lv_iload_n hx hb dX6_meetMark_1 rfl (lv_at hl 1 rfl) ?_
  refine thn_I (run_V (As := [.int x]) (rest := []) C (k_X6_isThere l D cy z o d σ τ hk x) hP hS cw_X6_isThere (mA4 (i := 45) rfl rfl) hk ⟨rfl, rfl⟩ ⟨Nat.le_of_ble_eq_true rfl, Nat.le_of_ble_eq_true rfl⟩ rfl (Nat.le_of_ble_eq_true rfl) hl.1 ⟨Nat.zero_le _, Nat.zero_le _⟩ dX6_meetMark_2) hS (fun H locs hP hS => ?_)
  refine lv_if_ne (tgt := 10) hx hb dX6_meetMark_5 (by decide) (fun c_5 => ?_) (fun c_5 => ?_)
  · exact absurd ((isT_no hx9).1) c_5
  · refine lv_iconst (v := 0) hx hb dX6_meetMark_8 (by decide) ?_
    exact ret_I C hP hS (nar_i _) rfl rfl rfl rfl dX6_meetMark_9

theorem cw_X6_goBack : cwVt yX6_goBack cX6_goBack 3 (some .int) 6 2 := ⟨(mA4 (i := 124) rfl rfl), (mA4 (i := 125) rfl rfl), (mA1 (i := 7) rfl rfl), (mA4 (i := 126) rfl rfl), by decide +kernel, ⟨_, rfl, rfl⟩, by decide⟩
abbrev rm_X6_goBack_ok : Room := { frames := 3, cells := 0, slots := 0, locals := 71 }
def f_X6_goBack_ok (τ : Sg) (j : Nat) (f : Nat) : Int32 :=
  if (f_X6_canGoBack (t_X6_isThere τ (nI j)) j f) = 0 then
    f_X6_throwing (t_X6_isThere τ (nI j)) 3
  else
    f_X6_goesBack (t_X6_record (t_X6_isThere τ (nI j))) j f
def t_X6_goBack_ok (τ : Sg) (j : Nat) (f : Nat) : Sg :=
  if (f_X6_canGoBack (t_X6_isThere τ (nI j)) j f) = 0 then
    t_X6_throwing (t_X6_isThere τ (nI j)) 3
  else
    t_X6_goesBack (t_X6_record (t_X6_isThere τ (nI j))) j f
set_option maxHeartbeats 4000000 in
set_option maxRecDepth 100000 in
theorem k_X6_goBack_ok (l : Launch) (D : va_G) (cy : Nat → ClassId) (z : Nat) (o : Int64) (d : UInt64) (σ τ : Sg) {k : Nat} (hk : kd k = 6) (j : Nat) (f : Nat) (hM : MI τ) (hj : j < 4) (hf : 1 ≤ f ∧ f ≤ 16) : KI l yX6_goBack cX6_goBack 3 (some .int) rm_X6_goBack_ok D cy z [.ref (z + k), .int (nI j), .int (nI f)] o d σ τ (f_X6_goBack_ok τ j f) σ (t_X6_goBack_ok τ j f) := by
  refine met_of RX6 (plainFor_of_name (by decide)) rfl (Nat.le_of_ble_eq_true rfl) ?_
  intro p e s m args below meth c C hP hS ls hl
  obtain ⟨hx, hb, hr, hml, hown, hW, hlocks, hAm⟩ := id C
  have hl : lv_has ls 3 [(0, .ref (z + k)), (1, .int (nI j)), (2, .int (nI f))] := hl
  refine lv_aload_n hx hb dX6_goBack_0 rfl (lv_at hl 0 rfl) ?_
  refine lv_iload_n hx hb dX6_goBack_1 rfl (lv_at hl 1 rfl) ?_
  refine thn_I (run_V (As := [.int (nI j)]) (rest := []) C (k_X6_isThere l D cy z o d σ τ hk (nI j)) hP hS cw_X6_isThere (mA4 (i := 45) rfl rfl) hk ⟨rfl, rfl⟩ ⟨Nat.le_of_ble_eq_true rfl, Nat.le_of_ble_eq_true rfl⟩ rfl (Nat.le_of_ble_eq_true rfl) hl.1 ⟨Nat.zero_le _, Nat.zero_le _⟩ dX6_goBack_2) hS (fun H locs hP hS => ?_)
  refine lv_if_ne (tgt := 10) hx hb dX6_goBack_5 (by decide) (fun c_5 => ?_) (fun c_5 => ?_)
  · refine lv_iload_n hx hb dX6_goBack_10 rfl (lv_at hl 2 rfl) ?_
    refine lv_iconst (v := 1) hx hb dX6_goBack_11 (by decide) ?_
    refine lv_bipush (v := 16) hx hb dX6_goBack_12 (by decide) ?_
    refine thn_I (run_S (As := [.int (nI f), .int 1, .int 16]) (rest := []) C (k_X6_in l D cy z o d σ (t_X6_isThere τ (nI j)) (nI f) 1 16) hP hS cw_X6_in (mA4 (i := 49) rfl rfl) ⟨rfl, rfl⟩ ⟨Nat.le_of_ble_eq_true rfl, Nat.le_of_ble_eq_true rfl⟩ rfl (Nat.le_of_ble_eq_true rfl) hl.1 ⟨Nat.zero_le _, Nat.zero_le _⟩ dX6_goBack_14) hS (fun H locs hP hS => ?_)
    refine lv_if_ne (tgt := 26) hx hb dX6_goBack_17 (by decide) (fun c_17 => ?_) (fun c_17 => ?_)
    · refine lv_aload_n hx hb dX6_goBack_26 rfl (lv_at hl 0 rfl) ?_
      refine lv_iload_n hx hb dX6_goBack_27 rfl (lv_at hl 1 rfl) ?_
      refine lv_iload_n hx hb dX6_goBack_28 rfl (lv_at hl 2 rfl) ?_
      refine thn_I (run_V (As := [.int (nI j), .int (nI f)]) (rest := []) C (k_X6_canGoBack l D cy z o d σ (t_X6_isThere τ (nI j)) hk j f hM.isT hj hf.2) hP hS cw_X6_canGoBack (mA4 (i := 127) rfl rfl) hk ⟨rfl, rfl⟩ ⟨Nat.le_of_ble_eq_true rfl, Nat.le_of_ble_eq_true rfl⟩ rfl (Nat.le_of_ble_eq_true rfl) hl.1 ⟨Nat.zero_le _, Nat.zero_le _⟩ dX6_goBack_29) hS (fun H locs hP hS => ?_)
      refine lv_if_ne (tgt := 41) hx hb dX6_goBack_32 (by decide) (fun c_32 => ?_) (fun c_32 => ?_)
      · refine lv_aload_n hx hb dX6_goBack_41 rfl (lv_at hl 0 rfl) ?_
        refine thn_V (run_V (As := []) (rest := []) C (k_X6_record l D cy z o d σ (t_X6_isThere τ (nI j)) hk hM.isT) hP hS cw_X6_record (mA4 (i := 78) rfl rfl) hk ⟨rfl, rfl⟩ ⟨Nat.le_of_ble_eq_true rfl, Nat.le_of_ble_eq_true rfl⟩ rfl (Nat.le_of_ble_eq_true rfl) hl.1 ⟨Nat.zero_le _, Nat.zero_le _⟩ dX6_goBack_42) hS (fun H locs hP hS => ?_)
        refine lv_aload_n hx hb dX6_goBack_45 rfl (lv_at hl 0 rfl) ?_
        refine lv_iload_n hx hb dX6_goBack_46 rfl (lv_at hl 1 rfl) ?_
        refine lv_iload_n hx hb dX6_goBack_47 rfl (lv_at hl 2 rfl) ?_
        refine thn_I (run_V (As := [.int (nI j), .int (nI f)]) (rest := []) C (k_X6_goesBack l D cy z o d σ (t_X6_record (t_X6_isThere τ (nI j))) hk j f hM.isT.rec hj hf.2 (gb_le hM hj hf.2 c_32)) hP hS cw_X6_goesBack (mA4 (i := 131) rfl rfl) hk ⟨rfl, rfl⟩ ⟨Nat.le_of_ble_eq_true rfl, Nat.le_of_ble_eq_true rfl⟩ rfl (Nat.le_of_ble_eq_true rfl) hl.1 ⟨Nat.zero_le _, Nat.zero_le _⟩ dX6_goBack_48) hS (fun H locs hP hS => ?_)
        exact ret_I C hP hS (nar_i _) rfl (by unfold f_X6_goBack_ok; rw [if_neg c_32]) rfl (by unfold t_X6_goBack_ok; rw [if_neg c_32]) dX6_goBack_51
      · refine lv_aload_n hx hb dX6_goBack_35 rfl (lv_at hl 0 rfl) ?_
        refine lv_iconst (v := 3) hx hb dX6_goBack_36 (by decide) ?_
        refine thn_I (run_V (As := [.int 3]) (rest := []) C (k_X6_throwing l D cy z o d σ (t_X6_isThere τ (nI j)) hk 3) hP hS cw_X6_throwing (mA4 (i := 52) rfl rfl) hk ⟨rfl, rfl⟩ ⟨Nat.le_of_ble_eq_true rfl, Nat.le_of_ble_eq_true rfl⟩ rfl (Nat.le_of_ble_eq_true rfl) hl.1 ⟨Nat.zero_le _, Nat.zero_le _⟩ dX6_goBack_37) hS (fun H locs hP hS => ?_)
        exact ret_I C hP hS (nar_i _) rfl (by unfold f_X6_goBack_ok; rw [if_pos c_32]) rfl (by unfold t_X6_goBack_ok; rw [if_pos c_32]) dX6_goBack_40
    · exact absurd c_17 (in_ne (a := 1) (b := 16) hf.1 hf.2 (by omega))
  · exact absurd c_5 (isT_ne hj)

abbrev rm_X6_goBack_no : Room := { frames := 2, cells := 0, slots := 0, locals := 43 }
def f_X6_goBack_no (τ : Sg) (x : Int32) (y : Int32) : Int32 :=
  0
def t_X6_goBack_no (τ : Sg) (x : Int32) (y : Int32) : Sg :=
  t_X6_isThere τ x
set_option maxHeartbeats 4000000 in
set_option maxRecDepth 100000 in
theorem k_X6_goBack_no (l : Launch) (D : va_G) (cy : Nat → ClassId) (z : Nat) (o : Int64) (d : UInt64) (σ τ : Sg) {k : Nat} (hk : kd k = 6) (x : Int32) (y : Int32) (hx9 : ¬ InS x) : KI l yX6_goBack cX6_goBack 3 (some .int) rm_X6_goBack_no D cy z [.ref (z + k), .int x, .int y] o d σ τ (f_X6_goBack_no τ x y) σ (t_X6_goBack_no τ x y) := by
  refine met_of RX6 (plainFor_of_name (by decide)) rfl (Nat.le_of_ble_eq_true rfl) ?_
  intro p e s m args below meth c C hP hS ls hl
  obtain ⟨hx, hb, hr, hml, hown, hW, hlocks, hAm⟩ := id C
  have hl : lv_has ls 3 [(0, .ref (z + k)), (1, .int x), (2, .int y)] := hl
  refine lv_aload_n hx hb dX6_goBack_0 rfl (lv_at hl 0 rfl) ?_
  refine lv_iload_n hx hb dX6_goBack_1 rfl (lv_at hl 1 rfl) ?_
  refine thn_I (run_V (As := [.int x]) (rest := []) C (k_X6_isThere l D cy z o d σ τ hk x) hP hS cw_X6_isThere (mA4 (i := 45) rfl rfl) hk ⟨rfl, rfl⟩ ⟨Nat.le_of_ble_eq_true rfl, Nat.le_of_ble_eq_true rfl⟩ rfl (Nat.le_of_ble_eq_true rfl) hl.1 ⟨Nat.zero_le _, Nat.zero_le _⟩ dX6_goBack_2) hS (fun H locs hP hS => ?_)
  refine lv_if_ne (tgt := 10) hx hb dX6_goBack_5 (by decide) (fun c_5 => ?_) (fun c_5 => ?_)
  · exact absurd ((isT_no hx9).1) c_5
  · refine lv_iconst (v := 0) hx hb dX6_goBack_8 (by decide) ?_
    exact ret_I C hP hS (nar_i _) rfl rfl rfl rfl dX6_goBack_9

abbrev rm_X6_goBack_bad : Room := { frames := 2, cells := 0, slots := 0, locals := 43 }
def f_X6_goBack_bad (τ : Sg) (j : Nat) (y : Int32) : Int32 :=
  f_X6_throwing (t_X6_isThere τ (nI j)) 2
def t_X6_goBack_bad (τ : Sg) (j : Nat) (y : Int32) : Sg :=
  t_X6_throwing (t_X6_isThere τ (nI j)) 2
set_option maxHeartbeats 4000000 in
set_option maxRecDepth 100000 in
theorem k_X6_goBack_bad (l : Launch) (D : va_G) (cy : Nat → ClassId) (z : Nat) (o : Int64) (d : UInt64) (σ τ : Sg) {k : Nat} (hk : kd k = 6) (j : Nat) (y : Int32) (hj : j < 4) (hy9 : f_X6_in y 1 16 = 0) : KI l yX6_goBack cX6_goBack 3 (some .int) rm_X6_goBack_bad D cy z [.ref (z + k), .int (nI j), .int y] o d σ τ (f_X6_goBack_bad τ j y) σ (t_X6_goBack_bad τ j y) := by
  refine met_of RX6 (plainFor_of_name (by decide)) rfl (Nat.le_of_ble_eq_true rfl) ?_
  intro p e s m args below meth c C hP hS ls hl
  obtain ⟨hx, hb, hr, hml, hown, hW, hlocks, hAm⟩ := id C
  have hl : lv_has ls 3 [(0, .ref (z + k)), (1, .int (nI j)), (2, .int y)] := hl
  refine lv_aload_n hx hb dX6_goBack_0 rfl (lv_at hl 0 rfl) ?_
  refine lv_iload_n hx hb dX6_goBack_1 rfl (lv_at hl 1 rfl) ?_
  refine thn_I (run_V (As := [.int (nI j)]) (rest := []) C (k_X6_isThere l D cy z o d σ τ hk (nI j)) hP hS cw_X6_isThere (mA4 (i := 45) rfl rfl) hk ⟨rfl, rfl⟩ ⟨Nat.le_of_ble_eq_true rfl, Nat.le_of_ble_eq_true rfl⟩ rfl (Nat.le_of_ble_eq_true rfl) hl.1 ⟨Nat.zero_le _, Nat.zero_le _⟩ dX6_goBack_2) hS (fun H locs hP hS => ?_)
  refine lv_if_ne (tgt := 10) hx hb dX6_goBack_5 (by decide) (fun c_5 => ?_) (fun c_5 => ?_)
  · refine lv_iload_n hx hb dX6_goBack_10 rfl (lv_at hl 2 rfl) ?_
    refine lv_iconst (v := 1) hx hb dX6_goBack_11 (by decide) ?_
    refine lv_bipush (v := 16) hx hb dX6_goBack_12 (by decide) ?_
    refine thn_I (run_S (As := [.int y, .int 1, .int 16]) (rest := []) C (k_X6_in l D cy z o d σ (t_X6_isThere τ (nI j)) y 1 16) hP hS cw_X6_in (mA4 (i := 49) rfl rfl) ⟨rfl, rfl⟩ ⟨Nat.le_of_ble_eq_true rfl, Nat.le_of_ble_eq_true rfl⟩ rfl (Nat.le_of_ble_eq_true rfl) hl.1 ⟨Nat.zero_le _, Nat.zero_le _⟩ dX6_goBack_14) hS (fun H locs hP hS => ?_)
    refine lv_if_ne (tgt := 26) hx hb dX6_goBack_17 (by decide) (fun c_17 => ?_) (fun c_17 => ?_)
    · exact absurd hy9 c_17
    · refine lv_aload_n hx hb dX6_goBack_20 rfl (lv_at hl 0 rfl) ?_
      refine lv_iconst (v := 2) hx hb dX6_goBack_21 (by decide) ?_
      refine thn_I (run_V (As := [.int 2]) (rest := []) C (k_X6_throwing l D cy z o d σ (t_X6_isThere τ (nI j)) hk 2) hP hS cw_X6_throwing (mA4 (i := 52) rfl rfl) hk ⟨rfl, rfl⟩ ⟨Nat.le_of_ble_eq_true rfl, Nat.le_of_ble_eq_true rfl⟩ rfl (Nat.le_of_ble_eq_true rfl) hl.1 ⟨Nat.zero_le _, Nat.zero_le _⟩ dX6_goBack_22) hS (fun H locs hP hS => ?_)
      exact ret_I C hP hS (nar_i _) rfl rfl rfl rfl dX6_goBack_25
  · exact absurd c_5 (isT_ne hj)

theorem cw_X6_setRule : cwVt yX6_setRule cX6_setRule 3 (some .int) 6 1 := ⟨(mA4 (i := 136) rfl rfl), (mA4 (i := 137) rfl rfl), (mA1 (i := 7) rfl rfl), (mA4 (i := 138) rfl rfl), by decide +kernel, ⟨_, rfl, rfl⟩, by decide⟩
abbrev rm_X6_setRule : Room := { frames := 1, cells := 0, slots := 0, locals := 22 }
def f_X6_setRule (τ : Sg) (x : Int32) : Int32 :=
  if (f_X6_in x 0 1) = 0 then
    f_X6_throwing (up τ 0 8 0) 1
  else
    (t_X6_record (up τ 0 8 0)) 1 228
def t_X6_setRule (τ : Sg) (x : Int32) : Sg :=
  if (f_X6_in x 0 1) = 0 then
    t_X6_throwing (up τ 0 8 0) 1
  else
    up (t_X6_record (up τ 0 8 0)) 1 228 x
set_option maxHeartbeats 4000000 in
set_option maxRecDepth 100000 in
theorem k_X6_setRule (l : Launch) (D : va_G) (cy : Nat → ClassId) (z : Nat) (o : Int64) (d : UInt64) (σ τ : Sg) {k : Nat} (hk : kd k = 6) (x : Int32) (hM : MI τ) : KI l yX6_setRule cX6_setRule 3 (some .int) rm_X6_setRule D cy z [.ref (z + k), .int x] o d σ τ (f_X6_setRule τ x) σ (t_X6_setRule τ x) := by
  refine met_of RX6 (plainFor_of_name (by decide)) rfl (Nat.le_of_ble_eq_true rfl) ?_
  intro p e s m args below meth c C hP hS ls hl
  obtain ⟨hx, hb, hr, hml, hown, hW, hlocks, hAm⟩ := id C
  have hl : lv_has ls 3 [(0, .ref (z + k)), (1, .int x)] := hl
  refine lv_aload_n hx hb dX6_setRule_0 rfl (lv_at hl 0 rfl) ?_
  refine lv_iconst (v := 0) hx hb dX6_setRule_1 (by decide) ?_
  refine pf_X6_25 C hP hS hk dX6_setRule_2 (fun H locs hP hS => ?_)
  refine lv_iload_n hx hb dX6_setRule_5 rfl (lv_at hl 1 rfl) ?_
  refine lv_iconst (v := 0) hx hb dX6_setRule_6 (by decide) ?_
  refine lv_iconst (v := 1) hx hb dX6_setRule_7 (by decide) ?_
  refine thn_I (run_S (As := [.int x, .int 0, .int 1]) (rest := []) C (k_X6_in l D cy z o d σ (up τ 0 8 0) x 0 1) hP hS cw_X6_in (mA4 (i := 49) rfl rfl) ⟨rfl, rfl⟩ ⟨Nat.le_of_ble_eq_true rfl, Nat.le_of_ble_eq_true rfl⟩ rfl (Nat.le_of_ble_eq_true rfl) hl.1 ⟨Nat.zero_le _, Nat.zero_le _⟩ dX6_setRule_8) hS (fun H locs hP hS => ?_)
  refine lv_if_ne (tgt := 20) hx hb dX6_setRule_11 (by decide) (fun c_11 => ?_) (fun c_11 => ?_)
  · refine lv_aload_n hx hb dX6_setRule_20 rfl (lv_at hl 0 rfl) ?_
    refine thn_V (run_V (As := []) (rest := []) C (k_X6_record l D cy z o d σ (up τ 0 8 0) hk hM.up8) hP hS cw_X6_record (mA4 (i := 78) rfl rfl) hk ⟨rfl, rfl⟩ ⟨Nat.le_of_ble_eq_true rfl, Nat.le_of_ble_eq_true rfl⟩ rfl (Nat.le_of_ble_eq_true rfl) hl.1 ⟨Nat.zero_le _, Nat.zero_le _⟩ dX6_setRule_21) hS (fun H locs hP hS => ?_)
    refine lv_aload_n hx hb dX6_setRule_24 rfl (lv_at hl 0 rfl) ?_
    refine gf_X6_7 C hP hk dX6_setRule_25 ?_
    refine lv_sipush (v := 228) hx hb dX6_setRule_28 (by decide) ?_
    refine al_10 C hP (kd6_1 hk) vp228 dX6_setRule_31 ?_
    rw [cl228]
    refine lv_istore_n (lv' := [(2, .int ((t_X6_record (up τ 0 8 0)) 1 228)), (0, .ref (z + k)), (1, .int x)]) hx hb dX6_setRule_32 rfl hl (by decide) rfl (fun ls hl => ?_)
    refine lv_aload_n hx hb dX6_setRule_33 rfl (lv_at hl 1 rfl) ?_
    refine gf_X6_7 C hP hk dX6_setRule_34 ?_
    refine lv_sipush (v := 228) hx hb dX6_setRule_37 (by decide) ?_
    refine lv_iload_n hx hb dX6_setRule_40 rfl (lv_at hl 2 rfl) ?_
    refine as_10 C hP hS (kd6_1 hk) vp228 dX6_setRule_41 (fun H locs hP hS => ?_)
    rw [cl228] at hP
    refine lv_iload_n hx hb dX6_setRule_42 rfl (lv_at hl 0 rfl) ?_
    exact ret_I C hP hS (nar_i _) rfl (by unfold f_X6_setRule; rw [if_neg c_11]) rfl (by unfold t_X6_setRule; rw [if_neg c_11]) dX6_setRule_43
  · refine lv_aload_n hx hb dX6_setRule_14 rfl (lv_at hl 0 rfl) ?_
    refine lv_iconst (v := 1) hx hb dX6_setRule_15 (by decide) ?_
    refine thn_I (run_V (As := [.int 1]) (rest := []) C (k_X6_throwing l D cy z o d σ (up τ 0 8 0) hk 1) hP hS cw_X6_throwing (mA4 (i := 52) rfl rfl) hk ⟨rfl, rfl⟩ ⟨Nat.le_of_ble_eq_true rfl, Nat.le_of_ble_eq_true rfl⟩ rfl (Nat.le_of_ble_eq_true rfl) hl.1 ⟨Nat.zero_le _, Nat.zero_le _⟩ dX6_setRule_16) hS (fun H locs hP hS => ?_)
    exact ret_I C hP hS (nar_i _) rfl (by unfold f_X6_setRule; rw [if_pos c_11]) rfl (by unfold t_X6_setRule; rw [if_pos c_11]) dX6_setRule_19

theorem cw_X6_setCounts : cwVt yX6_setCounts cX6_setCounts 3 (some .int) 6 1 := ⟨(mA4 (i := 140) rfl rfl), (mA4 (i := 141) rfl rfl), (mA1 (i := 7) rfl rfl), (mA4 (i := 142) rfl rfl), by decide +kernel, ⟨_, rfl, rfl⟩, by decide⟩
abbrev rm_X6_setCounts : Room := { frames := 1, cells := 0, slots := 0, locals := 22 }
def f_X6_setCounts (τ : Sg) (x : Int32) : Int32 :=
  if (f_X6_in x 4 400) = 0 then
    f_X6_throwing (up τ 0 8 0) 1
  else
    if (x - x / 4 * 4) = 0 then
      (t_X6_record (up τ 0 8 0)) 1 229
    else
      f_X6_throwing (up τ 0 8 0) 1
def t_X6_setCounts (τ : Sg) (x : Int32) : Sg :=
  if (f_X6_in x 4 400) = 0 then
    t_X6_throwing (up τ 0 8 0) 1
  else
    if (x - x / 4 * 4) = 0 then
      up (t_X6_record (up τ 0 8 0)) 1 229 x
    else
      t_X6_throwing (up τ 0 8 0) 1
set_option maxHeartbeats 4000000 in
set_option maxRecDepth 100000 in
theorem k_X6_setCounts (l : Launch) (D : va_G) (cy : Nat → ClassId) (z : Nat) (o : Int64) (d : UInt64) (σ τ : Sg) {k : Nat} (hk : kd k = 6) (x : Int32) (hM : MI τ) : KI l yX6_setCounts cX6_setCounts 3 (some .int) rm_X6_setCounts D cy z [.ref (z + k), .int x] o d σ τ (f_X6_setCounts τ x) σ (t_X6_setCounts τ x) := by
  refine met_of RX6 (plainFor_of_name (by decide)) rfl (Nat.le_of_ble_eq_true rfl) ?_
  intro p e s m args below meth c C hP hS ls hl
  obtain ⟨hx, hb, hr, hml, hown, hW, hlocks, hAm⟩ := id C
  have hl : lv_has ls 3 [(0, .ref (z + k)), (1, .int x)] := hl
  refine lv_aload_n hx hb dX6_setCounts_0 rfl (lv_at hl 0 rfl) ?_
  refine lv_iconst (v := 0) hx hb dX6_setCounts_1 (by decide) ?_
  refine pf_X6_25 C hP hS hk dX6_setCounts_2 (fun H locs hP hS => ?_)
  refine lv_iload_n hx hb dX6_setCounts_5 rfl (lv_at hl 1 rfl) ?_
  refine lv_iconst (v := 4) hx hb dX6_setCounts_6 (by decide) ?_
  refine lv_sipush (v := 400) hx hb dX6_setCounts_7 (by decide) ?_
  refine thn_I (run_S (As := [.int x, .int 4, .int 400]) (rest := []) C (k_X6_in l D cy z o d σ (up τ 0 8 0) x 4 400) hP hS cw_X6_in (mA4 (i := 49) rfl rfl) ⟨rfl, rfl⟩ ⟨Nat.le_of_ble_eq_true rfl, Nat.le_of_ble_eq_true rfl⟩ rfl (Nat.le_of_ble_eq_true rfl) hl.1 ⟨Nat.zero_le _, Nat.zero_le _⟩ dX6_setCounts_10) hS (fun H locs hP hS => ?_)
  refine lv_if_eq (tgt := 22) hx hb dX6_setCounts_13 (by decide) (fun c_13 => ?_) (fun c_13 => ?_)
  · refine lv_aload_n hx hb dX6_setCounts_22 rfl (lv_at hl 0 rfl) ?_
    refine lv_iconst (v := 1) hx hb dX6_setCounts_23 (by decide) ?_
    refine thn_I (run_V (As := [.int 1]) (rest := []) C (k_X6_throwing l D cy z o d σ (up τ 0 8 0) hk 1) hP hS cw_X6_throwing (mA4 (i := 52) rfl rfl) hk ⟨rfl, rfl⟩ ⟨Nat.le_of_ble_eq_true rfl, Nat.le_of_ble_eq_true rfl⟩ rfl (Nat.le_of_ble_eq_true rfl) hl.1 ⟨Nat.zero_le _, Nat.zero_le _⟩ dX6_setCounts_24) hS (fun H locs hP hS => ?_)
    exact ret_I C hP hS (nar_i _) rfl (by unfold f_X6_setCounts; rw [if_pos c_13]) rfl (by unfold t_X6_setCounts; rw [if_pos c_13]) dX6_setCounts_27
  · refine lv_iload_n hx hb dX6_setCounts_16 rfl (lv_at hl 1 rfl) ?_
    refine lv_iconst (v := 4) hx hb dX6_setCounts_17 (by decide) ?_
    refine lv_irem hx hb dX6_setCounts_18 (by decide) ?_
    refine lv_if_eq (tgt := 28) hx hb dX6_setCounts_19 (by decide) (fun c_19 => ?_) (fun c_19 => ?_)
    · refine lv_aload_n hx hb dX6_setCounts_28 rfl (lv_at hl 0 rfl) ?_
      refine thn_V (run_V (As := []) (rest := []) C (k_X6_record l D cy z o d σ (up τ 0 8 0) hk hM.up8) hP hS cw_X6_record (mA4 (i := 78) rfl rfl) hk ⟨rfl, rfl⟩ ⟨Nat.le_of_ble_eq_true rfl, Nat.le_of_ble_eq_true rfl⟩ rfl (Nat.le_of_ble_eq_true rfl) hl.1 ⟨Nat.zero_le _, Nat.zero_le _⟩ dX6_setCounts_29) hS (fun H locs hP hS => ?_)
      refine lv_aload_n hx hb dX6_setCounts_32 rfl (lv_at hl 0 rfl) ?_
      refine gf_X6_7 C hP hk dX6_setCounts_33 ?_
      refine lv_sipush (v := 229) hx hb dX6_setCounts_36 (by decide) ?_
      refine al_10 C hP (kd6_1 hk) vp229 dX6_setCounts_39 ?_
      rw [cl229]
      refine lv_istore_n (lv' := [(2, .int ((t_X6_record (up τ 0 8 0)) 1 229)), (0, .ref (z + k)), (1, .int x)]) hx hb dX6_setCounts_40 rfl hl (by decide) rfl (fun ls hl => ?_)
      refine lv_aload_n hx hb dX6_setCounts_41 rfl (lv_at hl 1 rfl) ?_
      refine gf_X6_7 C hP hk dX6_setCounts_42 ?_
      refine lv_sipush (v := 229) hx hb dX6_setCounts_45 (by decide) ?_
      refine lv_iload_n hx hb dX6_setCounts_48 rfl (lv_at hl 2 rfl) ?_
      refine as_10 C hP hS (kd6_1 hk) vp229 dX6_setCounts_49 (fun H locs hP hS => ?_)
      rw [cl229] at hP
      refine lv_iload_n hx hb dX6_setCounts_50 rfl (lv_at hl 0 rfl) ?_
      exact ret_I C hP hS (nar_i _) rfl (by unfold f_X6_setCounts; rw [if_neg c_13, if_pos c_19]) rfl (by unfold t_X6_setCounts; rw [if_neg c_13, if_pos c_19]) dX6_setCounts_51
    · refine lv_aload_n hx hb dX6_setCounts_22 rfl (lv_at hl 0 rfl) ?_
      refine lv_iconst (v := 1) hx hb dX6_setCounts_23 (by decide) ?_
      refine thn_I (run_V (As := [.int 1]) (rest := []) C (k_X6_throwing l D cy z o d σ (up τ 0 8 0) hk 1) hP hS cw_X6_throwing (mA4 (i := 52) rfl rfl) hk ⟨rfl, rfl⟩ ⟨Nat.le_of_ble_eq_true rfl, Nat.le_of_ble_eq_true rfl⟩ rfl (Nat.le_of_ble_eq_true rfl) hl.1 ⟨Nat.zero_le _, Nat.zero_le _⟩ dX6_setCounts_24) hS (fun H locs hP hS => ?_)
      exact ret_I C hP hS (nar_i _) rfl (by unfold f_X6_setCounts; rw [if_neg c_13, if_neg c_19]) rfl (by unfold t_X6_setCounts; rw [if_neg c_13, if_neg c_19]) dX6_setCounts_27

theorem cw_X6_type : cwVt yX6_type cX6_type 2 (some .int) 6 1 := ⟨(mA4 (i := 144) rfl rfl), (mA4 (i := 145) rfl rfl), (mA1 (i := 7) rfl rfl), (mA4 (i := 146) rfl rfl), by decide +kernel, ⟨_, rfl, rfl⟩, by decide⟩
abbrev rm_X6_type : Room := { frames := 1, cells := 0, slots := 0, locals := 21 }
def f_X6_type (τ : Sg) (x : Int32) : Int32 :=
  if ((up τ 0 8 0) 0 7) = 80 then
    f_X6_throwing (up τ 0 8 0) 1
  else
    (up (up (up τ 0 8 0) 5 (ML τ) x) 0 7 (((up (up τ 0 8 0) 5 (ML τ) x) 0 7) + 1)) 0 7
def t_X6_type (τ : Sg) (x : Int32) : Sg :=
  if ((up τ 0 8 0) 0 7) = 80 then
    t_X6_throwing (up τ 0 8 0) 1
  else
    up (up (up τ 0 8 0) 5 (ML τ) x) 0 7 (((up (up τ 0 8 0) 5 (ML τ) x) 0 7) + 1)
set_option maxHeartbeats 4000000 in
set_option maxRecDepth 100000 in
theorem k_X6_type (l : Launch) (D : va_G) (cy : Nat → ClassId) (z : Nat) (o : Int64) (d : UInt64) (σ τ : Sg) {k : Nat} (hk : kd k = 6) (x : Int32) (hT : TLI τ) : KI l yX6_type cX6_type 2 (some .int) rm_X6_type D cy z [.ref (z + k), .int x] o d σ τ (f_X6_type τ x) σ (t_X6_type τ x) := by
  refine met_of RX6 (plainFor_of_name (by decide)) rfl (Nat.le_of_ble_eq_true rfl) ?_
  intro p e s m args below meth c C hP hS ls hl
  obtain ⟨hx, hb, hr, hml, hown, hW, hlocks, hAm⟩ := id C
  have hl : lv_has ls 2 [(0, .ref (z + k)), (1, .int x)] := hl
  refine lv_aload_n hx hb dX6_type_0 rfl (lv_at hl 0 rfl) ?_
  refine lv_iconst (v := 0) hx hb dX6_type_1 (by decide) ?_
  refine pf_X6_25 C hP hS hk dX6_type_2 (fun H locs hP hS => ?_)
  refine lv_aload_n hx hb dX6_type_5 rfl (lv_at hl 0 rfl) ?_
  refine gf_X6_104 C hP hk dX6_type_6 ?_
  refine lv_bipush (v := 80) hx hb dX6_type_9 (by decide) ?_
  refine lv_icmp_ne (tgt := 20) hx hb dX6_type_11 (by decide) (fun c_11 => ?_) (fun c_11 => ?_)
  · refine lv_aload_n hx hb dX6_type_20 rfl (lv_at hl 0 rfl) ?_
    refine gf_X6_22 C hP hk dX6_type_21 ?_
    refine lv_aload_n hx hb dX6_type_24 rfl (lv_at hl 0 rfl) ?_
    refine gf_X6_104 C hP hk dX6_type_25 ?_
    rw [(ml80 hT c_11).1]
    refine lv_iload_n hx hb dX6_type_28 rfl (lv_at hl 1 rfl) ?_
    refine as_14 C hP hS (kd6_5 hk) (vp_in_nI (by have := (ml80 hT c_11).2; omega) (by decide)) dX6_type_29 (fun H locs hP hS => ?_)
    rw [nI_clamp (n := ML τ) (by have := (ml80 hT c_11).2; omega)] at hP
    refine lv_aload_n hx hb dX6_type_30 rfl (lv_at hl 0 rfl) ?_
    refine lv_dup hx hb dX6_type_31 rfl ?_
    refine gf_X6_104 C hP hk dX6_type_32 ?_
    refine lv_iconst (v := 1) hx hb dX6_type_35 (by decide) ?_
    refine lv_iadd hx hb dX6_type_36 ?_
    refine pf_X6_104 C hP hS hk dX6_type_37 (fun H locs hP hS => ?_)
    refine lv_aload_n hx hb dX6_type_40 rfl (lv_at hl 0 rfl) ?_
    refine gf_X6_104 C hP hk dX6_type_41 ?_
    exact ret_I C hP hS (nar_i _) rfl (by unfold f_X6_type; rw [if_neg c_11]) rfl (by unfold t_X6_type; rw [if_neg c_11]) dX6_type_44
  · refine lv_aload_n hx hb dX6_type_14 rfl (lv_at hl 0 rfl) ?_
    refine lv_iconst (v := 1) hx hb dX6_type_15 (by decide) ?_
    refine thn_I (run_V (As := [.int 1]) (rest := []) C (k_X6_throwing l D cy z o d σ (up τ 0 8 0) hk 1) hP hS cw_X6_throwing (mA4 (i := 52) rfl rfl) hk ⟨rfl, rfl⟩ ⟨Nat.le_of_ble_eq_true rfl, Nat.le_of_ble_eq_true rfl⟩ rfl (Nat.le_of_ble_eq_true rfl) hl.1 ⟨Nat.zero_le _, Nat.zero_le _⟩ dX6_type_16) hS (fun H locs hP hS => ?_)
    exact ret_I C hP hS (nar_i _) rfl (by unfold f_X6_type; rw [if_pos c_11]) rfl (by unfold t_X6_type; rw [if_pos c_11]) dX6_type_19

theorem cw_X6_clearText : cwVt yX6_clearText cX6_clearText 2 (some .int) 6 0 := ⟨(mA4 (i := 148) rfl rfl), (mA4 (i := 149) rfl rfl), (mA1 (i := 7) rfl rfl), (mA4 (i := 150) rfl rfl), by decide +kernel, ⟨_, rfl, rfl⟩, by decide⟩
abbrev rm_X6_clearText : Room := { frames := 0, cells := 0, slots := 0, locals := 0 }
def f_X6_clearText (τ : Sg) : Int32 :=
  (up τ 0 8 0) 0 7
def t_X6_clearText (τ : Sg) : Sg :=
  up (up τ 0 8 0) 0 7 0
set_option maxHeartbeats 4000000 in
set_option maxRecDepth 100000 in
theorem k_X6_clearText (l : Launch) (D : va_G) (cy : Nat → ClassId) (z : Nat) (o : Int64) (d : UInt64) (σ τ : Sg) {k : Nat} (hk : kd k = 6) : KI l yX6_clearText cX6_clearText 2 (some .int) rm_X6_clearText D cy z [.ref (z + k)] o d σ τ (f_X6_clearText τ) σ (t_X6_clearText τ) := by
  refine met_of RX6 (plainFor_of_name (by decide)) rfl (Nat.le_of_ble_eq_true rfl) ?_
  intro p e s m args below meth c C hP hS ls hl
  obtain ⟨hx, hb, hr, hml, hown, hW, hlocks, hAm⟩ := id C
  have hl : lv_has ls 2 [(0, .ref (z + k))] := hl
  refine lv_aload_n hx hb dX6_clearText_0 rfl (lv_at hl 0 rfl) ?_
  refine lv_iconst (v := 0) hx hb dX6_clearText_1 (by decide) ?_
  refine pf_X6_25 C hP hS hk dX6_clearText_2 (fun H locs hP hS => ?_)
  refine lv_aload_n hx hb dX6_clearText_5 rfl (lv_at hl 0 rfl) ?_
  refine gf_X6_104 C hP hk dX6_clearText_6 ?_
  refine lv_istore_n (lv' := [(1, .int ((up τ 0 8 0) 0 7)), (0, .ref (z + k))]) hx hb dX6_clearText_9 rfl hl (by decide) rfl (fun ls hl => ?_)
  refine lv_aload_n hx hb dX6_clearText_10 rfl (lv_at hl 1 rfl) ?_
  refine lv_iconst (v := 0) hx hb dX6_clearText_11 (by decide) ?_
  refine pf_X6_104 C hP hS hk dX6_clearText_12 (fun H locs hP hS => ?_)
  refine lv_iload_n hx hb dX6_clearText_15 rfl (lv_at hl 0 rfl) ?_
  exact ret_I C hP hS (nar_i _) rfl rfl rfl rfl dX6_clearText_16

theorem cw_X6_undo : cwVt yX6_undo cX6_undo 2 (some .int) 6 0 := ⟨(mA4 (i := 188) rfl rfl), (mA4 (i := 189) rfl rfl), (mA1 (i := 7) rfl rfl), (mA4 (i := 190) rfl rfl), by decide +kernel, ⟨_, rfl, rfl⟩, by decide⟩
abbrev rm_X6_undo : Room := { frames := 1, cells := 0, slots := 0, locals := 21 }
def gf_X6_undo (q : Nat) : Nat → Nat → Sg → Int32
  | 0, _, _ => 0
  | n + 1, i, τ =>
    if 230 ≤ i then
      τ 0 2
    else
      gf_X6_undo q n (i + 1) (up τ 1 i (τ 2 (230 * q + i)))
def gt_X6_undo (q : Nat) : Nat → Nat → Sg → Sg
  | 0, _, τ => τ
  | n + 1, i, τ =>
    if 230 ≤ i then
      τ
    else
      gt_X6_undo q n (i + 1) (up τ 1 i (τ 2 (230 * q + i)))
set_option maxHeartbeats 4000000 in
set_option maxRecDepth 100000 in
theorem lp_X6_undo {p : Program} {l : Launch} {e : Env} {s : State} {m : MethodId} {args : Array Value} {below : List Frame} {meth : Method} {c : Code} {D : va_G} {cy : Nat → ClassId} {z : Nat} (C : Bd p s m args meth c cX6_undo 2 (some .int) RX6 D cy z) (o : Int64) (d : UInt64) {k : Nat} (hk : kd k = 6) (q : Nat) {r9 : Int32} {τ9 : Sg} :
    ∀ (n : Nat) (i : Nat) (σ τ : Sg) (H : Heap) (locs : List Loc), (τ 0 2 = nI q ∧ q ≤ 3) → (i ≤ 230 ∧ 231 ≤ i + n) → (gf_X6_undo q n i τ = r9) → (gt_X6_undo q n i τ = τ9) → WP D cy z σ τ o d H → va_S (fz z) s.heap H locs → ∀ ls : Array Slot, lv_has ls 2 [(0, .ref (z + k)), (1, .int (nI i))] → W p l e rm_X6_undo s m args below meth c H locs 0 0 (MQ below (PoI D cy z o d r9 σ τ9) args s 0 0 (fz z)) (F0 m 30 ls []) := by
  obtain ⟨hx, hb, hr, hml, hown, hW, hlocks, hAm⟩ := id C
  intro n
  induction n with
  | zero =>
    intro _ σ τ H locs hq9 hn9 _ _ hP hS ls hl
    exact absurd hn9 (by omega)
  | succ n ih =>
    intro i σ τ H locs hq9 hn9 hr9 ht9 hP hS ls hl
    refine lv_iload_n hx hb dX6_undo_30 rfl (lv_at hl 1 rfl) ?_
    refine lv_sipush (v := 230) hx hb dX6_undo_31 (by decide) ?_
    refine lv_icmp_ge (tgt := 64) hx hb dX6_undo_34 (by decide) (fun c_34 => ?_) (fun c_34 => ?_)
    · have d_34 : 230 ≤ i := (cI_le (a := 230) (b := i) rfl rfl (by omega) (by omega)).mp c_34
      refine lv_aload_n hx hb dX6_undo_64 rfl (lv_at hl 0 rfl) ?_
      refine gf_X6_33 C hP hk dX6_undo_65 ?_
      exact ret_I C hP hS (nar_i _) rfl (by rw [← hr9, gf_X6_undo]; rw [if_pos d_34]) rfl (by rw [← ht9, gt_X6_undo]; rw [if_pos d_34]) dX6_undo_68
    · have d_34 : ¬ (230 ≤ i) := fun h9 => c_34 ((cI_le (a := 230) (b := i) rfl rfl (by omega) (by omega)).mpr h9)
      refine lv_aload_n hx hb dX6_undo_37 rfl (lv_at hl 0 rfl) ?_
      refine gf_X6_7 C hP hk dX6_undo_38 ?_
      refine lv_iload_n hx hb dX6_undo_41 rfl (lv_at hl 1 rfl) ?_
      refine lv_aload_n hx hb dX6_undo_42 rfl (lv_at hl 0 rfl) ?_
      refine gf_X6_13 C hP hk dX6_undo_43 ?_
      refine lv_sipush (v := 230) hx hb dX6_undo_46 (by decide) ?_
      refine lv_aload_n hx hb dX6_undo_49 rfl (lv_at hl 0 rfl) ?_
      refine gf_X6_33 C hP hk dX6_undo_50 ?_
      rw [hq9.1]
      refine lv_imul hx hb dX6_undo_53 ?_
      refine lv_iload_n hx hb dX6_undo_54 rfl (lv_at hl 1 rfl) ?_
      refine lv_iadd hx hb dX6_undo_55 ?_
      rw [ir_of]
      refine al_11 C hP (kd6_2 hk) (vp_in_nI (by omega) (by decide)) dX6_undo_56 ?_
      rw [nI_clamp (n := 230 * q + i) (by omega)]
      refine as_10 C hP hS (kd6_1 hk) (vp_in_nI (by omega) (by decide)) dX6_undo_57 (fun H locs hP hS => ?_)
      rw [nI_clamp (n := i) (by omega)] at hP
      refine lv_iinc (v := nI (i + 1)) (lv' := [(1, .int (nI (i + 1))), (0, .ref (z + k))]) hx hb dX6_undo_58 hl (k := 1) rfl (nI_1 i) (by decide) rfl (fun ls hl => ?_)
      refine lv_goto (tgt := 30) hx hb dX6_undo_61 (by decide) ?_
      exact ih (i + 1) σ (up τ 1 i (τ 2 (230 * q + i))) _ _ (⟨by rw [← hq9.1]; rfl, hq9.2⟩) (⟨by omega, by omega⟩) (by rw [← hr9, gf_X6_undo]; rw [if_neg d_34]) (by rw [← ht9, gt_X6_undo]; rw [if_neg d_34]) hP hS ls (lv_sub hl [1, 0] rfl)
def f_X6_undo (τ : Sg) : Int32 :=
  if ((up τ 0 8 0) 0 2) = 0 then
    f_X6_throwing (up τ 0 8 0) 1
  else
    gf_X6_undo (KN (up (up τ 0 8 0) 0 2 (((up τ 0 8 0) 0 2) - 1))) 231 0 (up (up τ 0 8 0) 0 2 (((up τ 0 8 0) 0 2) - 1))
def t_X6_undo (τ : Sg) : Sg :=
  if ((up τ 0 8 0) 0 2) = 0 then
    t_X6_throwing (up τ 0 8 0) 1
  else
    gt_X6_undo (KN (up (up τ 0 8 0) 0 2 (((up τ 0 8 0) 0 2) - 1))) 231 0 (up (up τ 0 8 0) 0 2 (((up τ 0 8 0) 0 2) - 1))
set_option maxHeartbeats 4000000 in
set_option maxRecDepth 100000 in
theorem k_X6_undo (l : Launch) (D : va_G) (cy : Nat → ClassId) (z : Nat) (o : Int64) (d : UInt64) (σ τ : Sg) {k : Nat} (hk : kd k = 6) (hM : MI τ) : KI l yX6_undo cX6_undo 2 (some .int) rm_X6_undo D cy z [.ref (z + k)] o d σ τ (f_X6_undo τ) σ (t_X6_undo τ) := by
  refine met_of RX6 (plainFor_of_name (by decide)) rfl (Nat.le_of_ble_eq_true rfl) ?_
  intro p e s m args below meth c C hP hS ls hl
  obtain ⟨hx, hb, hr, hml, hown, hW, hlocks, hAm⟩ := id C
  have hl : lv_has ls 2 [(0, .ref (z + k))] := hl
  refine lv_aload_n hx hb dX6_undo_0 rfl (lv_at hl 0 rfl) ?_
  refine lv_iconst (v := 0) hx hb dX6_undo_1 (by decide) ?_
  refine pf_X6_25 C hP hS hk dX6_undo_2 (fun H locs hP hS => ?_)
  refine lv_aload_n hx hb dX6_undo_5 rfl (lv_at hl 0 rfl) ?_
  refine gf_X6_33 C hP hk dX6_undo_6 ?_
  refine lv_if_ne (tgt := 18) hx hb dX6_undo_9 (by decide) (fun c_9 => ?_) (fun c_9 => ?_)
  · refine lv_aload_n hx hb dX6_undo_18 rfl (lv_at hl 0 rfl) ?_
    refine lv_dup hx hb dX6_undo_19 rfl ?_
    refine gf_X6_33 C hP hk dX6_undo_20 ?_
    refine lv_iconst (v := 1) hx hb dX6_undo_23 (by decide) ?_
    refine lv_isub hx hb dX6_undo_24 ?_
    refine pf_X6_33 C hP hS hk dX6_undo_25 (fun H locs hP hS => ?_)
    refine lv_iconst (v := 0) hx hb dX6_undo_28 (by decide) ?_
    refine lv_istore_n (lv' := [(1, .int 0), (0, .ref (z + k))]) hx hb dX6_undo_29 rfl hl (by decide) rfl (fun ls hl => ?_)
    exact lp_X6_undo C o d hk (KN (up (up τ 0 8 0) 0 2 (((up τ 0 8 0) 0 2) - 1))) (231) 0 σ (up (up τ 0 8 0) 0 2 (((up τ 0 8 0) 0 2) - 1)) _ _ (knU hM c_9) (⟨by omega, by omega⟩) (by unfold f_X6_undo; rw [if_neg c_9]) (by unfold t_X6_undo; rw [if_neg c_9]) hP hS ls (lv_sub hl [1, 0] rfl)
  · refine lv_aload_n hx hb dX6_undo_12 rfl (lv_at hl 0 rfl) ?_
    refine lv_iconst (v := 1) hx hb dX6_undo_13 (by decide) ?_
    refine thn_I (run_V (As := [.int 1]) (rest := []) C (k_X6_throwing l D cy z o d σ (up τ 0 8 0) hk 1) hP hS cw_X6_throwing (mA4 (i := 52) rfl rfl) hk ⟨rfl, rfl⟩ ⟨Nat.le_of_ble_eq_true rfl, Nat.le_of_ble_eq_true rfl⟩ rfl (Nat.le_of_ble_eq_true rfl) hl.1 ⟨Nat.zero_le _, Nat.zero_le _⟩ dX6_undo_14) hS (fun H locs hP hS => ?_)
    exact ret_I C hP hS (nar_i _) rfl (by unfold f_X6_undo; rw [if_pos c_9]) rfl (by unfold t_X6_undo; rw [if_pos c_9]) dX6_undo_17

theorem cw_X6_sum : cwVt yX6_sum cX6_sum 1 (some .int) 6 0 := ⟨(mA4 (i := 197) rfl rfl), (mA0 (i := 32) rfl rfl), (mA1 (i := 7) rfl rfl), (mA4 (i := 198) rfl rfl), by decide +kernel, ⟨_, rfl, rfl⟩, by decide⟩
abbrev rm_X6_sum : Room := { frames := 1, cells := 0, slots := 0, locals := 22 }
def f_X6_sum (τ : Sg) : Int32 :=
  (((f_X6_of τ 0 1) + (f_X6_of τ 1 1)) + (f_X6_of τ 2 1)) + (f_X6_of τ 3 1)
set_option maxHeartbeats 4000000 in
set_option maxRecDepth 100000 in
theorem k_X6_sum (l : Launch) (D : va_G) (cy : Nat → ClassId) (z : Nat) (o : Int64) (d : UInt64) (σ τ : Sg) {k : Nat} (hk : kd k = 6) : KI l yX6_sum cX6_sum 1 (some .int) rm_X6_sum D cy z [.ref (z + k)] o d σ τ (f_X6_sum τ) σ τ := by
  refine met_of RX6 (plainFor_of_name (by decide)) rfl (Nat.le_of_ble_eq_true rfl) ?_
  intro p e s m args below meth c C hP hS ls hl
  obtain ⟨hx, hb, hr, hml, hown, hW, hlocks, hAm⟩ := id C
  have hl : lv_has ls 1 [(0, .ref (z + k))] := hl
  refine lv_aload_n hx hb dX6_sum_0 rfl (lv_at hl 0 rfl) ?_
  refine lv_iconst (v := 0) hx hb dX6_sum_1 (by decide) ?_
  refine lv_iconst (v := 1) hx hb dX6_sum_2 (by decide) ?_
  refine thn_I (run_V (As := [.int 0, .int 1]) (rest := []) C (k_X6_of l D cy z o d σ τ hk 0 1 (by omega)) hP hS cw_X6_of (mA4 (i := 60) rfl rfl) hk ⟨rfl, rfl⟩ ⟨Nat.le_of_ble_eq_true rfl, Nat.le_of_ble_eq_true rfl⟩ rfl (Nat.le_of_ble_eq_true rfl) hl.1 ⟨Nat.zero_le _, Nat.zero_le _⟩ dX6_sum_3) hS (fun H locs hP hS => ?_)
  refine lv_aload_n hx hb dX6_sum_6 rfl (lv_at hl 0 rfl) ?_
  refine lv_iconst (v := 1) hx hb dX6_sum_7 (by decide) ?_
  refine lv_iconst (v := 1) hx hb dX6_sum_8 (by decide) ?_
  refine thn_I (run_V (As := [.int 1, .int 1]) (rest := [.int (f_X6_of τ 0 1)]) C (k_X6_of l D cy z o d σ τ hk 1 1 (by omega)) hP hS cw_X6_of (mA4 (i := 60) rfl rfl) hk ⟨rfl, rfl⟩ ⟨Nat.le_of_ble_eq_true rfl, Nat.le_of_ble_eq_true rfl⟩ rfl (Nat.le_of_ble_eq_true rfl) hl.1 ⟨Nat.zero_le _, Nat.zero_le _⟩ dX6_sum_9) hS (fun H locs hP hS => ?_)
  refine lv_iadd hx hb dX6_sum_12 ?_
  refine lv_aload_n hx hb dX6_sum_13 rfl (lv_at hl 0 rfl) ?_
  refine lv_iconst (v := 2) hx hb dX6_sum_14 (by decide) ?_
  refine lv_iconst (v := 1) hx hb dX6_sum_15 (by decide) ?_
  refine thn_I (run_V (As := [.int 2, .int 1]) (rest := [.int ((f_X6_of τ 0 1) + (f_X6_of τ 1 1))]) C (k_X6_of l D cy z o d σ τ hk 2 1 (by omega)) hP hS cw_X6_of (mA4 (i := 60) rfl rfl) hk ⟨rfl, rfl⟩ ⟨Nat.le_of_ble_eq_true rfl, Nat.le_of_ble_eq_true rfl⟩ rfl (Nat.le_of_ble_eq_true rfl) hl.1 ⟨Nat.zero_le _, Nat.zero_le _⟩ dX6_sum_16) hS (fun H locs hP hS => ?_)
  refine lv_iadd hx hb dX6_sum_19 ?_
  refine lv_aload_n hx hb dX6_sum_20 rfl (lv_at hl 0 rfl) ?_
  refine lv_iconst (v := 3) hx hb dX6_sum_21 (by decide) ?_
  refine lv_iconst (v := 1) hx hb dX6_sum_22 (by decide) ?_
  refine thn_I (run_V (As := [.int 3, .int 1]) (rest := [.int (((f_X6_of τ 0 1) + (f_X6_of τ 1 1)) + (f_X6_of τ 2 1))]) C (k_X6_of l D cy z o d σ τ hk 3 1 (by omega)) hP hS cw_X6_of (mA4 (i := 60) rfl rfl) hk ⟨rfl, rfl⟩ ⟨Nat.le_of_ble_eq_true rfl, Nat.le_of_ble_eq_true rfl⟩ rfl (Nat.le_of_ble_eq_true rfl) hl.1 ⟨Nat.zero_le _, Nat.zero_le _⟩ dX6_sum_23) hS (fun H locs hP hS => ?_)
  refine lv_iadd hx hb dX6_sum_26 ?_
  exact ret_I C hP hS (nar_i _) rfl rfl rfl rfl dX6_sum_27

theorem cw_X6_takeSnapshot : cwVt yX6_takeSnapshot cX6_takeSnapshot 2 (some .int) 6 0 := ⟨(mA4 (i := 192) rfl rfl), (mA4 (i := 193) rfl rfl), (mA1 (i := 7) rfl rfl), (mA4 (i := 194) rfl rfl), by decide +kernel, ⟨_, rfl, rfl⟩, by decide⟩
abbrev rm_X6_takeSnapshot : Room := { frames := 2, cells := 0, slots := 0, locals := 42 }
def gf_X6_takeSnapshot  : Nat → Nat → Sg → Int32
  | 0, _, _ => 0
  | n + 1, i, τ =>
    if 230 ≤ i then
      f_X6_sum (up τ 0 4 1)
    else
      gf_X6_takeSnapshot n (i + 1) (up τ 3 i (τ 1 i))
def gt_X6_takeSnapshot  : Nat → Nat → Sg → Sg
  | 0, _, τ => τ
  | n + 1, i, τ =>
    if 230 ≤ i then
      up τ 0 4 1
    else
      gt_X6_takeSnapshot n (i + 1) (up τ 3 i (τ 1 i))
set_option maxHeartbeats 4000000 in
set_option maxRecDepth 100000 in
theorem lp_X6_takeSnapshot {p : Program} {l : Launch} {e : Env} {s : State} {m : MethodId} {args : Array Value} {below : List Frame} {meth : Method} {c : Code} {D : va_G} {cy : Nat → ClassId} {z : Nat} (C : Bd p s m args meth c cX6_takeSnapshot 2 (some .int) RX6 D cy z) (o : Int64) (d : UInt64) {k : Nat} (hk : kd k = 6)  {r9 : Int32} {τ9 : Sg} :
    ∀ (n : Nat) (i : Nat) (σ τ : Sg) (H : Heap) (locs : List Loc), (i ≤ 230 ∧ 231 ≤ i + n) → (gf_X6_takeSnapshot  n i τ = r9) → (gt_X6_takeSnapshot  n i τ = τ9) → WP D cy z σ τ o d H → va_S (fz z) s.heap H locs → ∀ ls : Array Slot, lv_has ls 2 [(0, .ref (z + k)), (1, .int (nI i))] → W p l e rm_X6_takeSnapshot s m args below meth c H locs 0 0 (MQ below (PoI D cy z o d r9 σ τ9) args s 0 0 (fz z)) (F0 m 7 ls []) := by
  obtain ⟨hx, hb, hr, hml, hown, hW, hlocks, hAm⟩ := id C
  intro n
  induction n with
  | zero =>
    intro _ σ τ H locs hn9 _ _ hP hS ls hl
    exact absurd hn9 (by omega)
  | succ n ih =>
    intro i σ τ H locs hn9 hr9 ht9 hP hS ls hl
    refine lv_iload_n hx hb dX6_takeSnapshot_7 rfl (lv_at hl 1 rfl) ?_
    refine lv_sipush (v := 230) hx hb dX6_takeSnapshot_8 (by decide) ?_
    refine lv_icmp_ge (tgt := 32) hx hb dX6_takeSnapshot_11 (by decide) (fun c_11 => ?_) (fun c_11 => ?_)
    · have d_11 : 230 ≤ i := (cI_le (a := 230) (b := i) rfl rfl (by omega) (by omega)).mp c_11
      refine lv_aload_n hx hb dX6_takeSnapshot_32 rfl (lv_at hl 0 rfl) ?_
      refine lv_iconst (v := 1) hx hb dX6_takeSnapshot_33 (by decide) ?_
      refine pf_X6_138 C hP hS hk nar_z1 (by decide) dX6_takeSnapshot_34 (fun H locs hP hS => ?_)
      refine lv_aload_n hx hb dX6_takeSnapshot_37 rfl (lv_at hl 0 rfl) ?_
      refine thn_I (run_V (As := []) (rest := []) C (k_X6_sum l D cy z o d σ (up τ 0 4 1) hk) hP hS cw_X6_sum (mA4 (i := 195) rfl rfl) hk ⟨rfl, rfl⟩ ⟨Nat.le_of_ble_eq_true rfl, Nat.le_of_ble_eq_true rfl⟩ rfl (Nat.le_of_ble_eq_true rfl) hl.1 ⟨Nat.zero_le _, Nat.zero_le _⟩ dX6_takeSnapshot_38) hS (fun H locs hP hS => ?_)
      exact ret_I C hP hS (nar_i _) rfl (by rw [← hr9, gf_X6_takeSnapshot]; rw [if_pos d_11]) rfl (by rw [← ht9, gt_X6_takeSnapshot]; rw [if_pos d_11]) dX6_takeSnapshot_41
    · have d_11 : ¬ (230 ≤ i) := fun h9 => c_11 ((cI_le (a := 230) (b := i) rfl rfl (by omega) (by omega)).mpr h9)
      refine lv_aload_n hx hb dX6_takeSnapshot_14 rfl (lv_at hl 0 rfl) ?_
      refine gf_X6_16 C hP hk dX6_takeSnapshot_15 ?_
      refine lv_iload_n hx hb dX6_takeSnapshot_18 rfl (lv_at hl 1 rfl) ?_
      refine lv_aload_n hx hb dX6_takeSnapshot_19 rfl (lv_at hl 0 rfl) ?_
      refine gf_X6_7 C hP hk dX6_takeSnapshot_20 ?_
      refine lv_iload_n hx hb dX6_takeSnapshot_23 rfl (lv_at hl 1 rfl) ?_
      refine al_10 C hP (kd6_1 hk) (vp_in_nI (by omega) (by decide)) dX6_takeSnapshot_24 ?_
      rw [nI_clamp (n := i) (by omega)]
      refine as_12 C hP hS (kd6_3 hk) (vp_in_nI (by omega) (by decide)) dX6_takeSnapshot_25 (fun H locs hP hS => ?_)
      rw [nI_clamp (n := i) (by omega)] at hP
      refine lv_iinc (v := nI (i + 1)) (lv' := [(1, .int (nI (i + 1))), (0, .ref (z + k))]) hx hb dX6_takeSnapshot_26 hl (k := 1) rfl (nI_1 i) (by decide) rfl (fun ls hl => ?_)
      refine lv_goto (tgt := 7) hx hb dX6_takeSnapshot_29 (by decide) ?_
      exact ih (i + 1) σ (up τ 3 i (τ 1 i)) _ _ (⟨by omega, by omega⟩) (by rw [← hr9, gf_X6_takeSnapshot]; rw [if_neg d_11]) (by rw [← ht9, gt_X6_takeSnapshot]; rw [if_neg d_11]) hP hS ls (lv_sub hl [1, 0] rfl)
def f_X6_takeSnapshot (τ : Sg) : Int32 :=
  gf_X6_takeSnapshot 231 0 (up τ 0 8 0)
def t_X6_takeSnapshot (τ : Sg) : Sg :=
  gt_X6_takeSnapshot 231 0 (up τ 0 8 0)
set_option maxHeartbeats 4000000 in
set_option maxRecDepth 100000 in
theorem k_X6_takeSnapshot (l : Launch) (D : va_G) (cy : Nat → ClassId) (z : Nat) (o : Int64) (d : UInt64) (σ τ : Sg) {k : Nat} (hk : kd k = 6) : KI l yX6_takeSnapshot cX6_takeSnapshot 2 (some .int) rm_X6_takeSnapshot D cy z [.ref (z + k)] o d σ τ (f_X6_takeSnapshot τ) σ (t_X6_takeSnapshot τ) := by
  refine met_of RX6 (plainFor_of_name (by decide)) rfl (Nat.le_of_ble_eq_true rfl) ?_
  intro p e s m args below meth c C hP hS ls hl
  obtain ⟨hx, hb, hr, hml, hown, hW, hlocks, hAm⟩ := id C
  have hl : lv_has ls 2 [(0, .ref (z + k))] := hl
  refine lv_aload_n hx hb dX6_takeSnapshot_0 rfl (lv_at hl 0 rfl) ?_
  refine lv_iconst (v := 0) hx hb dX6_takeSnapshot_1 (by decide) ?_
  refine pf_X6_25 C hP hS hk dX6_takeSnapshot_2 (fun H locs hP hS => ?_)
  refine lv_iconst (v := 0) hx hb dX6_takeSnapshot_5 (by decide) ?_
  refine lv_istore_n (lv' := [(1, .int 0), (0, .ref (z + k))]) hx hb dX6_takeSnapshot_6 rfl hl (by decide) rfl (fun ls hl => ?_)
  exact lp_X6_takeSnapshot C o d hk  (231) 0 σ (up τ 0 8 0) _ _ (⟨by omega, by omega⟩) rfl rfl hP hS ls (lv_sub hl [1, 0] rfl)

theorem cw_X6_restoreSnapshot : cwVt yX6_restoreSnapshot cX6_restoreSnapshot 2 (some .int) 6 0 := ⟨(mA4 (i := 200) rfl rfl), (mA4 (i := 201) rfl rfl), (mA1 (i := 7) rfl rfl), (mA4 (i := 202) rfl rfl), by decide +kernel, ⟨_, rfl, rfl⟩, by decide⟩
abbrev rm_X6_restoreSnapshot : Room := { frames := 2, cells := 0, slots := 0, locals := 42 }
def gf_X6_restoreSnapshot  : Nat → Nat → Sg → Int32
  | 0, _, _ => 0
  | n + 1, i, τ =>
    if 230 ≤ i then
      f_X6_sum τ
    else
      gf_X6_restoreSnapshot n (i + 1) (up τ 1 i (τ 3 i))
def gt_X6_restoreSnapshot  : Nat → Nat → Sg → Sg
  | 0, _, τ => τ
  | n + 1, i, τ =>
    if 230 ≤ i then
      τ
    else
      gt_X6_restoreSnapshot n (i + 1) (up τ 1 i (τ 3 i))
set_option maxHeartbeats 4000000 in
set_option maxRecDepth 100000 in
theorem lp_X6_restoreSnapshot {p : Program} {l : Launch} {e : Env} {s : State} {m : MethodId} {args : Array Value} {below : List Frame} {meth : Method} {c : Code} {D : va_G} {cy : Nat → ClassId} {z : Nat} (C : Bd p s m args meth c cX6_restoreSnapshot 2 (some .int) RX6 D cy z) (o : Int64) (d : UInt64) {k : Nat} (hk : kd k = 6)  {r9 : Int32} {τ9 : Sg} :
    ∀ (n : Nat) (i : Nat) (σ τ : Sg) (H : Heap) (locs : List Loc), (i ≤ 230 ∧ 231 ≤ i + n) → (gf_X6_restoreSnapshot  n i τ = r9) → (gt_X6_restoreSnapshot  n i τ = τ9) → WP D cy z σ τ o d H → va_S (fz z) s.heap H locs → ∀ ls : Array Slot, lv_has ls 2 [(0, .ref (z + k)), (1, .int (nI i))] → W p l e rm_X6_restoreSnapshot s m args below meth c H locs 0 0 (MQ below (PoI D cy z o d r9 σ τ9) args s 0 0 (fz z)) (F0 m 24 ls []) := by
  obtain ⟨hx, hb, hr, hml, hown, hW, hlocks, hAm⟩ := id C
  intro n
  induction n with
  | zero =>
    intro _ σ τ H locs hn9 _ _ hP hS ls hl
    exact absurd hn9 (by omega)
  | succ n ih =>
    intro i σ τ H locs hn9 hr9 ht9 hP hS ls hl
    refine lv_iload_n hx hb dX6_restoreSnapshot_24 rfl (lv_at hl 1 rfl) ?_
    refine lv_sipush (v := 230) hx hb dX6_restoreSnapshot_25 (by decide) ?_
    refine lv_icmp_ge (tgt := 49) hx hb dX6_restoreSnapshot_28 (by decide) (fun c_28 => ?_) (fun c_28 => ?_)
    · have d_28 : 230 ≤ i := (cI_le (a := 230) (b := i) rfl rfl (by omega) (by omega)).mp c_28
      refine lv_aload_n hx hb dX6_restoreSnapshot_49 rfl (lv_at hl 0 rfl) ?_
      refine thn_I (run_V (As := []) (rest := []) C (k_X6_sum l D cy z o d σ τ hk) hP hS cw_X6_sum (mA4 (i := 195) rfl rfl) hk ⟨rfl, rfl⟩ ⟨Nat.le_of_ble_eq_true rfl, Nat.le_of_ble_eq_true rfl⟩ rfl (Nat.le_of_ble_eq_true rfl) hl.1 ⟨Nat.zero_le _, Nat.zero_le _⟩ dX6_restoreSnapshot_50) hS (fun H locs hP hS => ?_)
      exact ret_I C hP hS (nar_i _) rfl (by rw [← hr9, gf_X6_restoreSnapshot]; rw [if_pos d_28]) rfl (by rw [← ht9, gt_X6_restoreSnapshot]; rw [if_pos d_28]) dX6_restoreSnapshot_53
    · have d_28 : ¬ (230 ≤ i) := fun h9 => c_28 ((cI_le (a := 230) (b := i) rfl rfl (by omega) (by omega)).mpr h9)
      refine lv_aload_n hx hb dX6_restoreSnapshot_31 rfl (lv_at hl 0 rfl) ?_
      refine gf_X6_7 C hP hk dX6_restoreSnapshot_32 ?_
      refine lv_iload_n hx hb dX6_restoreSnapshot_35 rfl (lv_at hl 1 rfl) ?_
      refine lv_aload_n hx hb dX6_restoreSnapshot_36 rfl (lv_at hl 0 rfl) ?_
      refine gf_X6_16 C hP hk dX6_restoreSnapshot_37 ?_
      refine lv_iload_n hx hb dX6_restoreSnapshot_40 rfl (lv_at hl 1 rfl) ?_
      refine al_12 C hP (kd6_3 hk) (vp_in_nI (by omega) (by decide)) dX6_restoreSnapshot_41 ?_
      rw [nI_clamp (n := i) (by omega)]
      refine as_10 C hP hS (kd6_1 hk) (vp_in_nI (by omega) (by decide)) dX6_restoreSnapshot_42 (fun H locs hP hS => ?_)
      rw [nI_clamp (n := i) (by omega)] at hP
      refine lv_iinc (v := nI (i + 1)) (lv' := [(1, .int (nI (i + 1))), (0, .ref (z + k))]) hx hb dX6_restoreSnapshot_43 hl (k := 1) rfl (nI_1 i) (by decide) rfl (fun ls hl => ?_)
      refine lv_goto (tgt := 24) hx hb dX6_restoreSnapshot_46 (by decide) ?_
      exact ih (i + 1) σ (up τ 1 i (τ 3 i)) _ _ (⟨by omega, by omega⟩) (by rw [← hr9, gf_X6_restoreSnapshot]; rw [if_neg d_28]) (by rw [← ht9, gt_X6_restoreSnapshot]; rw [if_neg d_28]) hP hS ls (lv_sub hl [1, 0] rfl)
def f_X6_restoreSnapshot (τ : Sg) : Int32 :=
  if ((up τ 0 8 0) 0 4) = 0 then
    f_X6_throwing (up τ 0 8 0) 1
  else
    gf_X6_restoreSnapshot 231 0 (t_X6_record (up τ 0 8 0))
def t_X6_restoreSnapshot (τ : Sg) : Sg :=
  if ((up τ 0 8 0) 0 4) = 0 then
    t_X6_throwing (up τ 0 8 0) 1
  else
    gt_X6_restoreSnapshot 231 0 (t_X6_record (up τ 0 8 0))
set_option maxHeartbeats 4000000 in
set_option maxRecDepth 100000 in
theorem k_X6_restoreSnapshot (l : Launch) (D : va_G) (cy : Nat → ClassId) (z : Nat) (o : Int64) (d : UInt64) (σ τ : Sg) {k : Nat} (hk : kd k = 6) (hM : MI τ) : KI l yX6_restoreSnapshot cX6_restoreSnapshot 2 (some .int) rm_X6_restoreSnapshot D cy z [.ref (z + k)] o d σ τ (f_X6_restoreSnapshot τ) σ (t_X6_restoreSnapshot τ) := by
  refine met_of RX6 (plainFor_of_name (by decide)) rfl (Nat.le_of_ble_eq_true rfl) ?_
  intro p e s m args below meth c C hP hS ls hl
  obtain ⟨hx, hb, hr, hml, hown, hW, hlocks, hAm⟩ := id C
  have hl : lv_has ls 2 [(0, .ref (z + k))] := hl
  refine lv_aload_n hx hb dX6_restoreSnapshot_0 rfl (lv_at hl 0 rfl) ?_
  refine lv_iconst (v := 0) hx hb dX6_restoreSnapshot_1 (by decide) ?_
  refine pf_X6_25 C hP hS hk dX6_restoreSnapshot_2 (fun H locs hP hS => ?_)
  refine lv_aload_n hx hb dX6_restoreSnapshot_5 rfl (lv_at hl 0 rfl) ?_
  refine gf_X6_138 C hP hk dX6_restoreSnapshot_6 ?_
  refine lv_if_ne (tgt := 18) hx hb dX6_restoreSnapshot_9 (by decide) (fun c_9 => ?_) (fun c_9 => ?_)
  · refine lv_aload_n hx hb dX6_restoreSnapshot_18 rfl (lv_at hl 0 rfl) ?_
    refine thn_V (run_V (As := []) (rest := []) C (k_X6_record l D cy z o d σ (up τ 0 8 0) hk hM.up8) hP hS cw_X6_record (mA4 (i := 78) rfl rfl) hk ⟨rfl, rfl⟩ ⟨Nat.le_of_ble_eq_true rfl, Nat.le_of_ble_eq_true rfl⟩ rfl (Nat.le_of_ble_eq_true rfl) hl.1 ⟨Nat.zero_le _, Nat.zero_le _⟩ dX6_restoreSnapshot_19) hS (fun H locs hP hS => ?_)
    refine lv_iconst (v := 0) hx hb dX6_restoreSnapshot_22 (by decide) ?_
    refine lv_istore_n (lv' := [(1, .int 0), (0, .ref (z + k))]) hx hb dX6_restoreSnapshot_23 rfl hl (by decide) rfl (fun ls hl => ?_)
    exact lp_X6_restoreSnapshot C o d hk  (231) 0 σ (t_X6_record (up τ 0 8 0)) _ _ (⟨by omega, by omega⟩) (by unfold f_X6_restoreSnapshot; rw [if_neg c_9]) (by unfold t_X6_restoreSnapshot; rw [if_neg c_9]) hP hS ls (lv_sub hl [1, 0] rfl)
  · refine lv_aload_n hx hb dX6_restoreSnapshot_12 rfl (lv_at hl 0 rfl) ?_
    refine lv_iconst (v := 1) hx hb dX6_restoreSnapshot_13 (by decide) ?_
    refine thn_I (run_V (As := [.int 1]) (rest := []) C (k_X6_throwing l D cy z o d σ (up τ 0 8 0) hk 1) hP hS cw_X6_throwing (mA4 (i := 52) rfl rfl) hk ⟨rfl, rfl⟩ ⟨Nat.le_of_ble_eq_true rfl, Nat.le_of_ble_eq_true rfl⟩ rfl (Nat.le_of_ble_eq_true rfl) hl.1 ⟨Nat.zero_le _, Nat.zero_le _⟩ dX6_restoreSnapshot_14) hS (fun H locs hP hS => ?_)
    exact ret_I C hP hS (nar_i _) rfl (by unfold f_X6_restoreSnapshot; rw [if_pos c_9]) rfl (by unfold t_X6_restoreSnapshot; rw [if_pos c_9]) dX6_restoreSnapshot_17

theorem cw_X6_told : cwVt yX6_told cX6_told 3 (some .int) 6 2 := ⟨(mA4 (i := 209) rfl rfl), (mA0 (i := 33) rfl rfl), (mA1 (i := 7) rfl rfl), (mA4 (i := 210) rfl rfl), by decide +kernel, ⟨_, rfl, rfl⟩, by decide⟩
abbrev rm_X6_told_ok : Room := { frames := 2, cells := 0, slots := 0, locals := 43 }
def f_X6_told_ok (τ : Sg) (j : Nat) (w : Nat) : Int32 :=
  f_X6_of (t_X6_isThere τ (nI j)) j w
def t_X6_told_ok (τ : Sg) (j : Nat) (w : Nat) : Sg :=
  t_X6_isThere τ (nI j)
set_option maxHeartbeats 4000000 in
set_option maxRecDepth 100000 in
theorem k_X6_told_ok (l : Launch) (D : va_G) (cy : Nat → ClassId) (z : Nat) (o : Int64) (d : UInt64) (σ τ : Sg) {k : Nat} (hk : kd k = 6) (j : Nat) (w : Nat) (hj : j < 4) (hw : 57 * j + w < 230) : KI l yX6_told cX6_told 3 (some .int) rm_X6_told_ok D cy z [.ref (z + k), .int (nI j), .int (nI w)] o d σ τ (f_X6_told_ok τ j w) σ (t_X6_told_ok τ j w) := by
  refine met_of RX6 (plainFor_of_name (by decide)) rfl (Nat.le_of_ble_eq_true rfl) ?_
  intro p e s m args below meth c C hP hS ls hl
  obtain ⟨hx, hb, hr, hml, hown, hW, hlocks, hAm⟩ := id C
  have hl : lv_has ls 3 [(0, .ref (z + k)), (1, .int (nI j)), (2, .int (nI w))] := hl
  refine lv_aload_n hx hb dX6_told_0 rfl (lv_at hl 0 rfl) ?_
  refine lv_iload_n hx hb dX6_told_1 rfl (lv_at hl 1 rfl) ?_
  refine thn_I (run_V (As := [.int (nI j)]) (rest := []) C (k_X6_isThere l D cy z o d σ τ hk (nI j)) hP hS cw_X6_isThere (mA4 (i := 45) rfl rfl) hk ⟨rfl, rfl⟩ ⟨Nat.le_of_ble_eq_true rfl, Nat.le_of_ble_eq_true rfl⟩ rfl (Nat.le_of_ble_eq_true rfl) hl.1 ⟨Nat.zero_le _, Nat.zero_le _⟩ dX6_told_2) hS (fun H locs hP hS => ?_)
  refine lv_if_eq (tgt := 17) hx hb dX6_told_5 (by decide) (fun c_5 => ?_) (fun c_5 => ?_)
  · exact absurd c_5 (isT_ne hj)
  · refine lv_aload_n hx hb dX6_told_8 rfl (lv_at hl 0 rfl) ?_
    refine lv_iload_n hx hb dX6_told_9 rfl (lv_at hl 1 rfl) ?_
    refine lv_iload_n hx hb dX6_told_10 rfl (lv_at hl 2 rfl) ?_
    refine thn_I (run_V (As := [.int (nI j), .int (nI w)]) (rest := []) C (k_X6_of l D cy z o d σ (t_X6_isThere τ (nI j)) hk j w hw) hP hS cw_X6_of (mA4 (i := 60) rfl rfl) hk ⟨rfl, rfl⟩ ⟨Nat.le_of_ble_eq_true rfl, Nat.le_of_ble_eq_true rfl⟩ rfl (Nat.le_of_ble_eq_true rfl) hl.1 ⟨Nat.zero_le _, Nat.zero_le _⟩ dX6_told_11) hS (fun H locs hP hS => ?_)
    refine lv_goto (tgt := 18) hx hb dX6_told_14 (by decide) ?_
    exact ret_I C hP hS (nar_i _) rfl rfl rfl rfl dX6_told_18

abbrev rm_X6_told_no : Room := { frames := 2, cells := 0, slots := 0, locals := 43 }
def f_X6_told_no (τ : Sg) (x : Int32) (w : Int32) : Int32 :=
  0
def t_X6_told_no (τ : Sg) (x : Int32) (w : Int32) : Sg :=
  t_X6_isThere τ x
set_option maxHeartbeats 4000000 in
set_option maxRecDepth 100000 in
theorem k_X6_told_no (l : Launch) (D : va_G) (cy : Nat → ClassId) (z : Nat) (o : Int64) (d : UInt64) (σ τ : Sg) {k : Nat} (hk : kd k = 6) (x : Int32) (w : Int32) (hx9 : ¬ InS x) : KI l yX6_told cX6_told 3 (some .int) rm_X6_told_no D cy z [.ref (z + k), .int x, .int w] o d σ τ (f_X6_told_no τ x w) σ (t_X6_told_no τ x w) := by
  refine met_of RX6 (plainFor_of_name (by decide)) rfl (Nat.le_of_ble_eq_true rfl) ?_
  intro p e s m args below meth c C hP hS ls hl
  obtain ⟨hx, hb, hr, hml, hown, hW, hlocks, hAm⟩ := id C
  have hl : lv_has ls 3 [(0, .ref (z + k)), (1, .int x), (2, .int w)] := hl
  refine lv_aload_n hx hb dX6_told_0 rfl (lv_at hl 0 rfl) ?_
  refine lv_iload_n hx hb dX6_told_1 rfl (lv_at hl 1 rfl) ?_
  refine thn_I (run_V (As := [.int x]) (rest := []) C (k_X6_isThere l D cy z o d σ τ hk x) hP hS cw_X6_isThere (mA4 (i := 45) rfl rfl) hk ⟨rfl, rfl⟩ ⟨Nat.le_of_ble_eq_true rfl, Nat.le_of_ble_eq_true rfl⟩ rfl (Nat.le_of_ble_eq_true rfl) hl.1 ⟨Nat.zero_le _, Nat.zero_le _⟩ dX6_told_2) hS (fun H locs hP hS => ?_)
  refine lv_if_eq (tgt := 17) hx hb dX6_told_5 (by decide) (fun c_5 => ?_) (fun c_5 => ?_)
  · refine lv_iconst (v := 0) hx hb dX6_told_17 (by decide) ?_
    exact ret_I C hP hS (nar_i _) rfl rfl rfl rfl dX6_told_18
  · exact absurd ((isT_no hx9).1) c_5


theorem cw_X6_feels : cwVt yX6_feels cX6_feels 7 (some .int) 6 3 := ⟨(mA4 (i := 84) rfl rfl), (mA0 (i := 18) rfl rfl), (mA1 (i := 7) rfl rfl), (mA4 (i := 85) rfl rfl), by decide +kernel, ⟨_, rfl, rfl⟩, by decide⟩
abbrev rm_X6_feels : Room := { frames := 3, cells := 0, slots := 0, locals := 64 }
def gf_X6_feels (j : Nat) (y w u v : Int32) : Nat → Nat → Sg → Int32
  | 0, _, _ => 0
  | n + 1, i, τ =>
    if 57 * j + 9 + 45 ≤ i then
      if (f_X6_onward u y) = 2 then
        if (f_X6_isA u y) = 0 then
          v
        else
          v
      else
        if (f_X6_isA u y) = 0 then
          v
        else
          v
    else
      gf_X6_feels j y w u v n (i + 1) (up τ 1 i (τ 1 (i + 3)))
def gt_X6_feels (j : Nat) (y w u v : Int32) : Nat → Nat → Sg → Sg
  | 0, _, τ => τ
  | n + 1, i, τ =>
    if 57 * j + 9 + 45 ≤ i then
      if (f_X6_onward u y) = 2 then
        if (f_X6_isA u y) = 0 then
          t_X6_turns (t_X6_grow (t_X6_grow (t_X6_grow (t_X6_grow (t_X6_grow (t_X6_lay (t_X6_grow (t_X6_lay (t_X6_lay (t_X6_lay (t_X6_grow τ j 8 (-1)) j (9 + 3 * (MLn (t_X6_grow τ j 8 (-1)) j)) v) j (9 + 3 * (MLn (t_X6_grow τ j 8 (-1)) j) + 1) w) j (9 + 3 * (MLn (t_X6_grow τ j 8 (-1)) j) + 2) u) j 8 1) j 0 y) j 1 v) j 3 1) j 7 0) j 5 (f_X6_size v)) j 6 w) j v
        else
          t_X6_turns (t_X6_grow (t_X6_grow (t_X6_grow (t_X6_grow (t_X6_grow (t_X6_lay (t_X6_grow (t_X6_lay (t_X6_lay (t_X6_lay (t_X6_grow τ j 8 (-1)) j (9 + 3 * (MLn (t_X6_grow τ j 8 (-1)) j)) v) j (9 + 3 * (MLn (t_X6_grow τ j 8 (-1)) j) + 1) w) j (9 + 3 * (MLn (t_X6_grow τ j 8 (-1)) j) + 2) u) j 8 1) j 0 y) j 1 v) j 3 1) j 7 v) j 5 (f_X6_size v)) j 6 w) j v
      else
        if (f_X6_isA u y) = 0 then
          t_X6_turns (t_X6_grow (t_X6_grow (t_X6_grow (t_X6_grow (t_X6_grow (t_X6_lay (t_X6_grow (t_X6_lay (t_X6_lay (t_X6_lay (t_X6_grow τ j 8 (-1)) j (9 + 3 * (MLn (t_X6_grow τ j 8 (-1)) j)) v) j (9 + 3 * (MLn (t_X6_grow τ j 8 (-1)) j) + 1) w) j (9 + 3 * (MLn (t_X6_grow τ j 8 (-1)) j) + 2) u) j 8 1) j 0 y) j 1 v) j 3 0) j 7 0) j 5 (f_X6_size v)) j 6 w) j v
        else
          t_X6_turns (t_X6_grow (t_X6_grow (t_X6_grow (t_X6_grow (t_X6_grow (t_X6_lay (t_X6_grow (t_X6_lay (t_X6_lay (t_X6_lay (t_X6_grow τ j 8 (-1)) j (9 + 3 * (MLn (t_X6_grow τ j 8 (-1)) j)) v) j (9 + 3 * (MLn (t_X6_grow τ j 8 (-1)) j) + 1) w) j (9 + 3 * (MLn (t_X6_grow τ j 8 (-1)) j) + 2) u) j 8 1) j 0 y) j 1 v) j 3 0) j 7 v) j 5 (f_X6_size v)) j 6 w) j v
    else
      gt_X6_feels j y w u v n (i + 1) (up τ 1 i (τ 1 (i + 3)))
set_option maxHeartbeats 4000000 in
set_option maxRecDepth 100000 in
theorem lp_X6_feels {p : Program} {l : Launch} {e : Env} {s : State} {m : MethodId} {args : Array Value} {below : List Frame} {meth : Method} {c : Code} {D : va_G} {cy : Nat → ClassId} {z : Nat} (C : Bd p s m args meth c cX6_feels 7 (some .int) RX6 D cy z) (o : Int64) (d : UInt64) {k : Nat} (hk : kd k = 6) (j : Nat) (y w u v : Int32) {r9 : Int32} {τ9 : Sg} :
    ∀ (n : Nat) (i : Nat) (σ τ : Sg) (H : Heap) (locs : List Loc), (τ 1 (57 * j + 8) = 16) → (j < 4 ∧ 57 * j + 9 ≤ i ∧ i ≤ 57 * j + 54 ∧ 57 * j + 55 ≤ i + n) → (gf_X6_feels j y w u v n i τ = r9) → (gt_X6_feels j y w u v n i τ = τ9) → WP D cy z σ τ o d H → va_S (fz z) s.heap H locs → ∀ ls : Array Slot, lv_has ls 7 [(0, .ref (z + k)), (1, .int (nI j)), (2, .int y), (3, .int w), (4, .int u), (5, .int v), (6, .int (nI i))] → W p l e rm_X6_feels s m args below meth c H locs 0 0 (MQ below (PoI D cy z o d r9 σ τ9) args s 0 0 (fz z)) (F0 m 37 ls []) := by
  obtain ⟨hx, hb, hr, hml, hown, hW, hlocks, hAm⟩ := id C
  intro n
  induction n with
  | zero =>
    intro _ σ τ H locs hl16 hn9 _ _ hP hS ls hl
    exact absurd hn9 (by omega)
  | succ n ih =>
    intro i σ τ H locs hl16 hn9 hr9 ht9 hP hS ls hl
    have hj := hn9.1
    refine lv_iload hx hb dX6_feels_37 (lv_at hl 6 rfl) ?_
    refine lv_bipush (v := 57) hx hb dX6_feels_39 (by decide) ?_
    refine lv_iload_n hx hb dX6_feels_41 rfl (lv_at hl 1 rfl) ?_
    refine lv_imul hx hb dX6_feels_42 ?_
    refine lv_bipush (v := 9) hx hb dX6_feels_43 (by decide) ?_
    refine lv_iadd hx hb dX6_feels_45 ?_
    rw [ix_9]
    refine lv_bipush (v := 45) hx hb dX6_feels_46 (by decide) ?_
    refine lv_iadd hx hb dX6_feels_48 ?_
    rw [nI_45]
    refine lv_icmp_ge (tgt := 74) hx hb dX6_feels_49 (by decide) (fun c_49 => ?_) (fun c_49 => ?_)
    · have d_49 : 57 * j + 9 + 45 ≤ i := (cI_le rfl rfl (by omega) (by omega)).mp c_49
      refine lv_aload_n hx hb dX6_feels_74 rfl (lv_at hl 0 rfl) ?_
      refine lv_iload_n hx hb dX6_feels_75 rfl (lv_at hl 1 rfl) ?_
      refine lv_bipush (v := 8) hx hb dX6_feels_76 (by decide) ?_
      refine lv_iconst (v := (-1)) hx hb dX6_feels_78 (by decide) ?_
      refine thn_V (run_V (As := [.int (nI j), .int 8, .int (-1)]) (rest := []) C (k_X6_grow l D cy z o d σ τ hk j 8 (-1) (by omega)) hP hS cw_X6_grow (mA4 (i := 86) rfl rfl) hk ⟨rfl, rfl⟩ ⟨Nat.le_of_ble_eq_true rfl, Nat.le_of_ble_eq_true rfl⟩ rfl (Nat.le_of_ble_eq_true rfl) hl.1 ⟨Nat.zero_le _, Nat.zero_le _⟩ dX6_feels_79) hS (fun H locs hP hS => ?_)
      refine lv_bipush (v := 9) hx hb dX6_feels_82 (by decide) ?_
      refine lv_iconst (v := 3) hx hb dX6_feels_84 (by decide) ?_
      refine lv_aload_n hx hb dX6_feels_85 rfl (lv_at hl 0 rfl) ?_
      refine lv_iload_n hx hb dX6_feels_86 rfl (lv_at hl 1 rfl) ?_
      refine lv_bipush (v := 8) hx hb dX6_feels_87 (by decide) ?_
      refine thn_I (run_V (As := [.int (nI j), .int 8]) (rest := [.int 3, .int 9]) C (k_X6_of l D cy z o d σ (t_X6_grow τ j 8 (-1)) hk j 8 (by omega)) hP hS cw_X6_of (mA4 (i := 60) rfl rfl) hk ⟨rfl, rfl⟩ ⟨Nat.le_of_ble_eq_true rfl, Nat.le_of_ble_eq_true rfl⟩ rfl (Nat.le_of_ble_eq_true rfl) hl.1 ⟨Nat.zero_le _, Nat.zero_le _⟩ dX6_feels_89) hS (fun H locs hP hS => ?_)
      obtain ⟨e9, b9⟩ : f_X6_of (t_X6_grow τ j 8 (-1)) j 8 = nI (MLn (t_X6_grow τ j 8 (-1)) j) ∧ MLn (t_X6_grow τ j 8 (-1)) j ≤ 15 := by first | exact mlA hl16 | exact mlB hM hj c_25
      rw [e9]
      refine lv_imul hx hb dX6_feels_92 ?_
      refine lv_iadd hx hb dX6_feels_93 ?_
      rw [at_of]
      refine lv_istore (lv' := [(6, .int (nI (9 + 3 * (MLn (t_X6_grow τ j 8 (-1)) j)))), (0, .ref (z + k)), (1, .int (nI j)), (2, .int y), (3, .int w), (4, .int u), (5, .int v)]) hx hb dX6_feels_94 hl (by decide) rfl (fun ls hl => ?_)
      refine lv_aload_n hx hb dX6_feels_96 rfl (lv_at hl 1 rfl) ?_
      refine lv_iload_n hx hb dX6_feels_97 rfl (lv_at hl 2 rfl) ?_
      refine lv_iload hx hb dX6_feels_98 (lv_at hl 0 rfl) ?_
      refine lv_iload hx hb dX6_feels_100 (lv_at hl 6 rfl) ?_
      refine thn_V (run_V (As := [.int (nI j), .int (nI (9 + 3 * (MLn (t_X6_grow τ j 8 (-1)) j))), .int v]) (rest := []) C (k_X6_lay l D cy z o d σ (t_X6_grow τ j 8 (-1)) hk j (9 + 3 * (MLn (t_X6_grow τ j 8 (-1)) j)) v (by omega)) hP hS cw_X6_lay (mA4 (i := 90) rfl rfl) hk ⟨rfl, rfl⟩ ⟨Nat.le_of_ble_eq_true rfl, Nat.le_of_ble_eq_true rfl⟩ rfl (Nat.le_of_ble_eq_true rfl) hl.1 ⟨Nat.zero_le _, Nat.zero_le _⟩ dX6_feels_102) hS (fun H locs hP hS => ?_)
      refine lv_aload_n hx hb dX6_feels_105 rfl (lv_at hl 1 rfl) ?_
      refine lv_iload_n hx hb dX6_feels_106 rfl (lv_at hl 2 rfl) ?_
      refine lv_iload hx hb dX6_feels_107 (lv_at hl 0 rfl) ?_
      refine lv_iconst (v := 1) hx hb dX6_feels_109 (by decide) ?_
      refine lv_iadd hx hb dX6_feels_110 ?_
      rw [nI_1]
      refine lv_iload_n hx hb dX6_feels_111 rfl (lv_at hl 4 rfl) ?_
      refine thn_V (run_V (As := [.int (nI j), .int (nI (9 + 3 * (MLn (t_X6_grow τ j 8 (-1)) j) + 1)), .int w]) (rest := []) C (k_X6_lay l D cy z o d σ (t_X6_lay (t_X6_grow τ j 8 (-1)) j (9 + 3 * (MLn (t_X6_grow τ j 8 (-1)) j)) v) hk j (9 + 3 * (MLn (t_X6_grow τ j 8 (-1)) j) + 1) w (by omega)) hP hS cw_X6_lay (mA4 (i := 90) rfl rfl) hk ⟨rfl, rfl⟩ ⟨Nat.le_of_ble_eq_true rfl, Nat.le_of_ble_eq_true rfl⟩ rfl (Nat.le_of_ble_eq_true rfl) hl.1 ⟨Nat.zero_le _, Nat.zero_le _⟩ dX6_feels_112) hS (fun H locs hP hS => ?_)
      refine lv_aload_n hx hb dX6_feels_115 rfl (lv_at hl 1 rfl) ?_
      refine lv_iload_n hx hb dX6_feels_116 rfl (lv_at hl 2 rfl) ?_
      refine lv_iload hx hb dX6_feels_117 (lv_at hl 0 rfl) ?_
      refine lv_iconst (v := 2) hx hb dX6_feels_119 (by decide) ?_
      refine lv_iadd hx hb dX6_feels_120 ?_
      rw [nI_2]
      refine lv_iload hx hb dX6_feels_121 (lv_at hl 5 rfl) ?_
      refine thn_V (run_V (As := [.int (nI j), .int (nI (9 + 3 * (MLn (t_X6_grow τ j 8 (-1)) j) + 2)), .int u]) (rest := []) C (k_X6_lay l D cy z o d σ (t_X6_lay (t_X6_lay (t_X6_grow τ j 8 (-1)) j (9 + 3 * (MLn (t_X6_grow τ j 8 (-1)) j)) v) j (9 + 3 * (MLn (t_X6_grow τ j 8 (-1)) j) + 1) w) hk j (9 + 3 * (MLn (t_X6_grow τ j 8 (-1)) j) + 2) u (by omega)) hP hS cw_X6_lay (mA4 (i := 90) rfl rfl) hk ⟨rfl, rfl⟩ ⟨Nat.le_of_ble_eq_true rfl, Nat.le_of_ble_eq_true rfl⟩ rfl (Nat.le_of_ble_eq_true rfl) hl.1 ⟨Nat.zero_le _, Nat.zero_le _⟩ dX6_feels_123) hS (fun H locs hP hS => ?_)
      refine lv_aload_n hx hb dX6_feels_126 rfl (lv_at hl 1 rfl) ?_
      refine lv_iload_n hx hb dX6_feels_127 rfl (lv_at hl 2 rfl) ?_
      refine lv_bipush (v := 8) hx hb dX6_feels_128 (by decide) ?_
      refine lv_iconst (v := 1) hx hb dX6_feels_130 (by decide) ?_
      refine thn_V (run_V (As := [.int (nI j), .int 8, .int 1]) (rest := []) C (k_X6_grow l D cy z o d σ (t_X6_lay (t_X6_lay (t_X6_lay (t_X6_grow τ j 8 (-1)) j (9 + 3 * (MLn (t_X6_grow τ j 8 (-1)) j)) v) j (9 + 3 * (MLn (t_X6_grow τ j 8 (-1)) j) + 1) w) j (9 + 3 * (MLn (t_X6_grow τ j 8 (-1)) j) + 2) u) hk j 8 1 (by omega)) hP hS cw_X6_grow (mA4 (i := 86) rfl rfl) hk ⟨rfl, rfl⟩ ⟨Nat.le_of_ble_eq_true rfl, Nat.le_of_ble_eq_true rfl⟩ rfl (Nat.le_of_ble_eq_true rfl) hl.1 ⟨Nat.zero_le _, Nat.zero_le _⟩ dX6_feels_131) hS (fun H locs hP hS => ?_)
      refine lv_aload_n hx hb dX6_feels_134 rfl (lv_at hl 1 rfl) ?_
      refine lv_iload_n hx hb dX6_feels_135 rfl (lv_at hl 2 rfl) ?_
      refine lv_iconst (v := 0) hx hb dX6_feels_136 (by decide) ?_
      refine lv_iload_n hx hb dX6_feels_137 rfl (lv_at hl 3 rfl) ?_
      refine thn_V (run_V (As := [.int (nI j), .int 0, .int y]) (rest := []) C (k_X6_lay l D cy z o d σ (t_X6_grow (t_X6_lay (t_X6_lay (t_X6_lay (t_X6_grow τ j 8 (-1)) j (9 + 3 * (MLn (t_X6_grow τ j 8 (-1)) j)) v) j (9 + 3 * (MLn (t_X6_grow τ j 8 (-1)) j) + 1) w) j (9 + 3 * (MLn (t_X6_grow τ j 8 (-1)) j) + 2) u) j 8 1) hk j 0 y (by omega)) hP hS cw_X6_lay (mA4 (i := 90) rfl rfl) hk ⟨rfl, rfl⟩ ⟨Nat.le_of_ble_eq_true rfl, Nat.le_of_ble_eq_true rfl⟩ rfl (Nat.le_of_ble_eq_true rfl) hl.1 ⟨Nat.zero_le _, Nat.zero_le _⟩ dX6_feels_138) hS (fun H locs hP hS => ?_)
      refine lv_aload_n hx hb dX6_feels_141 rfl (lv_at hl 1 rfl) ?_
      refine lv_iload_n hx hb dX6_feels_142 rfl (lv_at hl 2 rfl) ?_
      refine lv_iconst (v := 1) hx hb dX6_feels_143 (by decide) ?_
      refine lv_iload hx hb dX6_feels_144 (lv_at hl 6 rfl) ?_
      refine thn_V (run_V (As := [.int (nI j), .int 1, .int v]) (rest := []) C (k_X6_grow l D cy z o d σ (t_X6_lay (t_X6_grow (t_X6_lay (t_X6_lay (t_X6_lay (t_X6_grow τ j 8 (-1)) j (9 + 3 * (MLn (t_X6_grow τ j 8 (-1)) j)) v) j (9 + 3 * (MLn (t_X6_grow τ j 8 (-1)) j) + 1) w) j (9 + 3 * (MLn (t_X6_grow τ j 8 (-1)) j) + 2) u) j 8 1) j 0 y) hk j 1 v (by omega)) hP hS cw_X6_grow (mA4 (i := 86) rfl rfl) hk ⟨rfl, rfl⟩ ⟨Nat.le_of_ble_eq_true rfl, Nat.le_of_ble_eq_true rfl⟩ rfl (Nat.le_of_ble_eq_true rfl) hl.1 ⟨Nat.zero_le _, Nat.zero_le _⟩ dX6_feels_146) hS (fun H locs hP hS => ?_)
      refine lv_aload_n hx hb dX6_feels_149 rfl (lv_at hl 1 rfl) ?_
      refine lv_iload_n hx hb dX6_feels_150 rfl (lv_at hl 2 rfl) ?_
      refine lv_iconst (v := 3) hx hb dX6_feels_151 (by decide) ?_
      refine lv_iload hx hb dX6_feels_152 (lv_at hl 5 rfl) ?_
      refine lv_iload_n hx hb dX6_feels_154 rfl (lv_at hl 3 rfl) ?_
      refine thn_I (run_S (As := [.int u, .int y]) (rest := [.int 3, .int (nI j), .ref (z + k)]) C (k_X6_onward l D cy z o d σ (t_X6_grow (t_X6_lay (t_X6_grow (t_X6_lay (t_X6_lay (t_X6_lay (t_X6_grow τ j 8 (-1)) j (9 + 3 * (MLn (t_X6_grow τ j 8 (-1)) j)) v) j (9 + 3 * (MLn (t_X6_grow τ j 8 (-1)) j) + 1) w) j (9 + 3 * (MLn (t_X6_grow τ j 8 (-1)) j) + 2) u) j 8 1) j 0 y) j 1 v) u y) hP hS cw_X6_onward (mA4 (i := 69) rfl rfl) ⟨rfl, rfl⟩ ⟨Nat.le_of_ble_eq_true rfl, Nat.le_of_ble_eq_true rfl⟩ rfl (Nat.le_of_ble_eq_true rfl) hl.1 ⟨Nat.zero_le _, Nat.zero_le _⟩ dX6_feels_155) hS (fun H locs hP hS => ?_)
      refine lv_iconst (v := 2) hx hb dX6_feels_158 (by decide) ?_
      refine lv_icmp_ne (tgt := 166) hx hb dX6_feels_159 (by decide) (fun c_159 => ?_) (fun c_159 => ?_)
      · refine lv_iconst (v := 0) hx hb dX6_feels_166 (by decide) ?_
        refine thn_V (run_V (As := [.int (nI j), .int 3, .int 0]) (rest := []) C (k_X6_grow l D cy z o d σ (t_X6_grow (t_X6_lay (t_X6_grow (t_X6_lay (t_X6_lay (t_X6_lay (t_X6_grow τ j 8 (-1)) j (9 + 3 * (MLn (t_X6_grow τ j 8 (-1)) j)) v) j (9 + 3 * (MLn (t_X6_grow τ j 8 (-1)) j) + 1) w) j (9 + 3 * (MLn (t_X6_grow τ j 8 (-1)) j) + 2) u) j 8 1) j 0 y) j 1 v) hk j 3 0 (by omega)) hP hS cw_X6_grow (mA4 (i := 86) rfl rfl) hk ⟨rfl, rfl⟩ ⟨Nat.le_of_ble_eq_true rfl, Nat.le_of_ble_eq_true rfl⟩ rfl (Nat.le_of_ble_eq_true rfl) hl.1 ⟨Nat.zero_le _, Nat.zero_le _⟩ dX6_feels_167) hS (fun H locs hP hS => ?_)
        refine lv_aload_n hx hb dX6_feels_170 rfl (lv_at hl 1 rfl) ?_
        refine lv_iload_n hx hb dX6_feels_171 rfl (lv_at hl 2 rfl) ?_
        refine lv_bipush (v := 7) hx hb dX6_feels_172 (by decide) ?_
        refine lv_iload hx hb dX6_feels_174 (lv_at hl 5 rfl) ?_
        refine lv_iload_n hx hb dX6_feels_176 rfl (lv_at hl 3 rfl) ?_
        refine thn_I (run_S (As := [.int u, .int y]) (rest := [.int 7, .int (nI j), .ref (z + k)]) C (k_X6_isA l D cy z o d σ (t_X6_grow (t_X6_grow (t_X6_lay (t_X6_grow (t_X6_lay (t_X6_lay (t_X6_lay (t_X6_grow τ j 8 (-1)) j (9 + 3 * (MLn (t_X6_grow τ j 8 (-1)) j)) v) j (9 + 3 * (MLn (t_X6_grow τ j 8 (-1)) j) + 1) w) j (9 + 3 * (MLn (t_X6_grow τ j 8 (-1)) j) + 2) u) j 8 1) j 0 y) j 1 v) j 3 0) u y) hP hS cw_X6_isA (mA4 (i := 94) rfl rfl) ⟨rfl, rfl⟩ ⟨Nat.le_of_ble_eq_true rfl, Nat.le_of_ble_eq_true rfl⟩ rfl (Nat.le_of_ble_eq_true rfl) hl.1 ⟨Nat.zero_le _, Nat.zero_le _⟩ dX6_feels_177) hS (fun H locs hP hS => ?_)
        refine lv_if_eq (tgt := 188) hx hb dX6_feels_180 (by decide) (fun c_180 => ?_) (fun c_180 => ?_)
        · refine lv_iconst (v := 0) hx hb dX6_feels_188 (by decide) ?_
          refine thn_V (run_V (As := [.int (nI j), .int 7, .int 0]) (rest := []) C (k_X6_grow l D cy z o d σ (t_X6_grow (t_X6_grow (t_X6_lay (t_X6_grow (t_X6_lay (t_X6_lay (t_X6_lay (t_X6_grow τ j 8 (-1)) j (9 + 3 * (MLn (t_X6_grow τ j 8 (-1)) j)) v) j (9 + 3 * (MLn (t_X6_grow τ j 8 (-1)) j) + 1) w) j (9 + 3 * (MLn (t_X6_grow τ j 8 (-1)) j) + 2) u) j 8 1) j 0 y) j 1 v) j 3 0) hk j 7 0 (by omega)) hP hS cw_X6_grow (mA4 (i := 86) rfl rfl) hk ⟨rfl, rfl⟩ ⟨Nat.le_of_ble_eq_true rfl, Nat.le_of_ble_eq_true rfl⟩ rfl (Nat.le_of_ble_eq_true rfl) hl.1 ⟨Nat.zero_le _, Nat.zero_le _⟩ dX6_feels_189) hS (fun H locs hP hS => ?_)
          refine lv_aload_n hx hb dX6_feels_192 rfl (lv_at hl 1 rfl) ?_
          refine lv_iload_n hx hb dX6_feels_193 rfl (lv_at hl 2 rfl) ?_
          refine lv_iconst (v := 5) hx hb dX6_feels_194 (by decide) ?_
          refine lv_iload hx hb dX6_feels_195 (lv_at hl 6 rfl) ?_
          refine thn_I (run_S (As := [.int v]) (rest := [.int 5, .int (nI j), .ref (z + k)]) C (k_X6_size l D cy z o d σ (t_X6_grow (t_X6_grow (t_X6_grow (t_X6_lay (t_X6_grow (t_X6_lay (t_X6_lay (t_X6_lay (t_X6_grow τ j 8 (-1)) j (9 + 3 * (MLn (t_X6_grow τ j 8 (-1)) j)) v) j (9 + 3 * (MLn (t_X6_grow τ j 8 (-1)) j) + 1) w) j (9 + 3 * (MLn (t_X6_grow τ j 8 (-1)) j) + 2) u) j 8 1) j 0 y) j 1 v) j 3 0) j 7 0) v) hP hS cw_X6_size (mA4 (i := 75) rfl rfl) ⟨rfl, rfl⟩ ⟨Nat.le_of_ble_eq_true rfl, Nat.le_of_ble_eq_true rfl⟩ rfl (Nat.le_of_ble_eq_true rfl) hl.1 ⟨Nat.zero_le _, Nat.zero_le _⟩ dX6_feels_197) hS (fun H locs hP hS => ?_)
          refine thn_V (run_V (As := [.int (nI j), .int 5, .int (f_X6_size v)]) (rest := []) C (k_X6_grow l D cy z o d σ (t_X6_grow (t_X6_grow (t_X6_grow (t_X6_lay (t_X6_grow (t_X6_lay (t_X6_lay (t_X6_lay (t_X6_grow τ j 8 (-1)) j (9 + 3 * (MLn (t_X6_grow τ j 8 (-1)) j)) v) j (9 + 3 * (MLn (t_X6_grow τ j 8 (-1)) j) + 1) w) j (9 + 3 * (MLn (t_X6_grow τ j 8 (-1)) j) + 2) u) j 8 1) j 0 y) j 1 v) j 3 0) j 7 0) hk j 5 (f_X6_size v) (by omega)) hP hS cw_X6_grow (mA4 (i := 86) rfl rfl) hk ⟨rfl, rfl⟩ ⟨Nat.le_of_ble_eq_true rfl, Nat.le_of_ble_eq_true rfl⟩ rfl (Nat.le_of_ble_eq_true rfl) hl.1 ⟨Nat.zero_le _, Nat.zero_le _⟩ dX6_feels_200) hS (fun H locs hP hS => ?_)
          refine lv_aload_n hx hb dX6_feels_203 rfl (lv_at hl 1 rfl) ?_
          refine lv_iload_n hx hb dX6_feels_204 rfl (lv_at hl 2 rfl) ?_
          refine lv_bipush (v := 6) hx hb dX6_feels_205 (by decide) ?_
          refine lv_iload_n hx hb dX6_feels_207 rfl (lv_at hl 4 rfl) ?_
          refine thn_V (run_V (As := [.int (nI j), .int 6, .int w]) (rest := []) C (k_X6_grow l D cy z o d σ (t_X6_grow (t_X6_grow (t_X6_grow (t_X6_grow (t_X6_lay (t_X6_grow (t_X6_lay (t_X6_lay (t_X6_lay (t_X6_grow τ j 8 (-1)) j (9 + 3 * (MLn (t_X6_grow τ j 8 (-1)) j)) v) j (9 + 3 * (MLn (t_X6_grow τ j 8 (-1)) j) + 1) w) j (9 + 3 * (MLn (t_X6_grow τ j 8 (-1)) j) + 2) u) j 8 1) j 0 y) j 1 v) j 3 0) j 7 0) j 5 (f_X6_size v)) hk j 6 w (by omega)) hP hS cw_X6_grow (mA4 (i := 86) rfl rfl) hk ⟨rfl, rfl⟩ ⟨Nat.le_of_ble_eq_true rfl, Nat.le_of_ble_eq_true rfl⟩ rfl (Nat.le_of_ble_eq_true rfl) hl.1 ⟨Nat.zero_le _, Nat.zero_le _⟩ dX6_feels_208) hS (fun H locs hP hS => ?_)
          refine lv_aload_n hx hb dX6_feels_211 rfl (lv_at hl 1 rfl) ?_
          refine lv_iload_n hx hb dX6_feels_212 rfl (lv_at hl 2 rfl) ?_
          refine lv_iload hx hb dX6_feels_213 (lv_at hl 6 rfl) ?_
          refine thn_V (run_V (As := [.int (nI j), .int v]) (rest := []) C (k_X6_turns l D cy z o d σ (t_X6_grow (t_X6_grow (t_X6_grow (t_X6_grow (t_X6_grow (t_X6_lay (t_X6_grow (t_X6_lay (t_X6_lay (t_X6_lay (t_X6_grow τ j 8 (-1)) j (9 + 3 * (MLn (t_X6_grow τ j 8 (-1)) j)) v) j (9 + 3 * (MLn (t_X6_grow τ j 8 (-1)) j) + 1) w) j (9 + 3 * (MLn (t_X6_grow τ j 8 (-1)) j) + 2) u) j 8 1) j 0 y) j 1 v) j 3 0) j 7 0) j 5 (f_X6_size v)) j 6 w) hk j v hj) hP hS cw_X6_turns (mA4 (i := 97) rfl rfl) hk ⟨rfl, rfl⟩ ⟨Nat.le_of_ble_eq_true rfl, Nat.le_of_ble_eq_true rfl⟩ rfl (Nat.le_of_ble_eq_true rfl) hl.1 ⟨Nat.zero_le _, Nat.zero_le _⟩ dX6_feels_215) hS (fun H locs hP hS => ?_)
          refine lv_iload hx hb dX6_feels_218 (lv_at hl 6 rfl) ?_
          exact ret_I C hP hS (nar_i _) rfl (by rw [← hr9, gf_X6_feels]; rw [if_pos d_49, if_neg c_159, if_pos c_180]) rfl (by rw [← ht9, gt_X6_feels]; rw [if_pos d_49, if_neg c_159, if_pos c_180]) dX6_feels_220
        · refine lv_iload hx hb dX6_feels_183 (lv_at hl 6 rfl) ?_
          refine lv_goto (tgt := 189) hx hb dX6_feels_185 (by decide) ?_
          refine thn_V (run_V (As := [.int (nI j), .int 7, .int v]) (rest := []) C (k_X6_grow l D cy z o d σ (t_X6_grow (t_X6_grow (t_X6_lay (t_X6_grow (t_X6_lay (t_X6_lay (t_X6_lay (t_X6_grow τ j 8 (-1)) j (9 + 3 * (MLn (t_X6_grow τ j 8 (-1)) j)) v) j (9 + 3 * (MLn (t_X6_grow τ j 8 (-1)) j) + 1) w) j (9 + 3 * (MLn (t_X6_grow τ j 8 (-1)) j) + 2) u) j 8 1) j 0 y) j 1 v) j 3 0) hk j 7 v (by omega)) hP hS cw_X6_grow (mA4 (i := 86) rfl rfl) hk ⟨rfl, rfl⟩ ⟨Nat.le_of_ble_eq_true rfl, Nat.le_of_ble_eq_true rfl⟩ rfl (Nat.le_of_ble_eq_true rfl) hl.1 ⟨Nat.zero_le _, Nat.zero_le _⟩ dX6_feels_189) hS (fun H locs hP hS => ?_)
          refine lv_aload_n hx hb dX6_feels_192 rfl (lv_at hl 1 rfl) ?_
          refine lv_iload_n hx hb dX6_feels_193 rfl (lv_at hl 2 rfl) ?_
          refine lv_iconst (v := 5) hx hb dX6_feels_194 (by decide) ?_
          refine lv_iload hx hb dX6_feels_195 (lv_at hl 6 rfl) ?_
          refine thn_I (run_S (As := [.int v]) (rest := [.int 5, .int (nI j), .ref (z + k)]) C (k_X6_size l D cy z o d σ (t_X6_grow (t_X6_grow (t_X6_grow (t_X6_lay (t_X6_grow (t_X6_lay (t_X6_lay (t_X6_lay (t_X6_grow τ j 8 (-1)) j (9 + 3 * (MLn (t_X6_grow τ j 8 (-1)) j)) v) j (9 + 3 * (MLn (t_X6_grow τ j 8 (-1)) j) + 1) w) j (9 + 3 * (MLn (t_X6_grow τ j 8 (-1)) j) + 2) u) j 8 1) j 0 y) j 1 v) j 3 0) j 7 v) v) hP hS cw_X6_size (mA4 (i := 75) rfl rfl) ⟨rfl, rfl⟩ ⟨Nat.le_of_ble_eq_true rfl, Nat.le_of_ble_eq_true rfl⟩ rfl (Nat.le_of_ble_eq_true rfl) hl.1 ⟨Nat.zero_le _, Nat.zero_le _⟩ dX6_feels_197) hS (fun H locs hP hS => ?_)
          refine thn_V (run_V (As := [.int (nI j), .int 5, .int (f_X6_size v)]) (rest := []) C (k_X6_grow l D cy z o d σ (t_X6_grow (t_X6_grow (t_X6_grow (t_X6_lay (t_X6_grow (t_X6_lay (t_X6_lay (t_X6_lay (t_X6_grow τ j 8 (-1)) j (9 + 3 * (MLn (t_X6_grow τ j 8 (-1)) j)) v) j (9 + 3 * (MLn (t_X6_grow τ j 8 (-1)) j) + 1) w) j (9 + 3 * (MLn (t_X6_grow τ j 8 (-1)) j) + 2) u) j 8 1) j 0 y) j 1 v) j 3 0) j 7 v) hk j 5 (f_X6_size v) (by omega)) hP hS cw_X6_grow (mA4 (i := 86) rfl rfl) hk ⟨rfl, rfl⟩ ⟨Nat.le_of_ble_eq_true rfl, Nat.le_of_ble_eq_true rfl⟩ rfl (Nat.le_of_ble_eq_true rfl) hl.1 ⟨Nat.zero_le _, Nat.zero_le _⟩ dX6_feels_200) hS (fun H locs hP hS => ?_)
          refine lv_aload_n hx hb dX6_feels_203 rfl (lv_at hl 1 rfl) ?_
          refine lv_iload_n hx hb dX6_feels_204 rfl (lv_at hl 2 rfl) ?_
          refine lv_bipush (v := 6) hx hb dX6_feels_205 (by decide) ?_
          refine lv_iload_n hx hb dX6_feels_207 rfl (lv_at hl 4 rfl) ?_
          refine thn_V (run_V (As := [.int (nI j), .int 6, .int w]) (rest := []) C (k_X6_grow l D cy z o d σ (t_X6_grow (t_X6_grow (t_X6_grow (t_X6_grow (t_X6_lay (t_X6_grow (t_X6_lay (t_X6_lay (t_X6_lay (t_X6_grow τ j 8 (-1)) j (9 + 3 * (MLn (t_X6_grow τ j 8 (-1)) j)) v) j (9 + 3 * (MLn (t_X6_grow τ j 8 (-1)) j) + 1) w) j (9 + 3 * (MLn (t_X6_grow τ j 8 (-1)) j) + 2) u) j 8 1) j 0 y) j 1 v) j 3 0) j 7 v) j 5 (f_X6_size v)) hk j 6 w (by omega)) hP hS cw_X6_grow (mA4 (i := 86) rfl rfl) hk ⟨rfl, rfl⟩ ⟨Nat.le_of_ble_eq_true rfl, Nat.le_of_ble_eq_true rfl⟩ rfl (Nat.le_of_ble_eq_true rfl) hl.1 ⟨Nat.zero_le _, Nat.zero_le _⟩ dX6_feels_208) hS (fun H locs hP hS => ?_)
          refine lv_aload_n hx hb dX6_feels_211 rfl (lv_at hl 1 rfl) ?_
          refine lv_iload_n hx hb dX6_feels_212 rfl (lv_at hl 2 rfl) ?_
          refine lv_iload hx hb dX6_feels_213 (lv_at hl 6 rfl) ?_
          refine thn_V (run_V (As := [.int (nI j), .int v]) (rest := []) C (k_X6_turns l D cy z o d σ (t_X6_grow (t_X6_grow (t_X6_grow (t_X6_grow (t_X6_grow (t_X6_lay (t_X6_grow (t_X6_lay (t_X6_lay (t_X6_lay (t_X6_grow τ j 8 (-1)) j (9 + 3 * (MLn (t_X6_grow τ j 8 (-1)) j)) v) j (9 + 3 * (MLn (t_X6_grow τ j 8 (-1)) j) + 1) w) j (9 + 3 * (MLn (t_X6_grow τ j 8 (-1)) j) + 2) u) j 8 1) j 0 y) j 1 v) j 3 0) j 7 v) j 5 (f_X6_size v)) j 6 w) hk j v hj) hP hS cw_X6_turns (mA4 (i := 97) rfl rfl) hk ⟨rfl, rfl⟩ ⟨Nat.le_of_ble_eq_true rfl, Nat.le_of_ble_eq_true rfl⟩ rfl (Nat.le_of_ble_eq_true rfl) hl.1 ⟨Nat.zero_le _, Nat.zero_le _⟩ dX6_feels_215) hS (fun H locs hP hS => ?_)
          refine lv_iload hx hb dX6_feels_218 (lv_at hl 6 rfl) ?_
          exact ret_I C hP hS (nar_i _) rfl (by rw [← hr9, gf_X6_feels]; rw [if_pos d_49, if_neg c_159, if_neg c_180]) rfl (by rw [← ht9, gt_X6_feels]; rw [if_pos d_49, if_neg c_159, if_neg c_180]) dX6_feels_220
      · refine lv_iconst (v := 1) hx hb dX6_feels_162 (by decide) ?_
        refine lv_goto (tgt := 167) hx hb dX6_feels_163 (by decide) ?_
        refine thn_V (run_V (As := [.int (nI j), .int 3, .int 1]) (rest := []) C (k_X6_grow l D cy z o d σ (t_X6_grow (t_X6_lay (t_X6_grow (t_X6_lay (t_X6_lay (t_X6_lay (t_X6_grow τ j 8 (-1)) j (9 + 3 * (MLn (t_X6_grow τ j 8 (-1)) j)) v) j (9 + 3 * (MLn (t_X6_grow τ j 8 (-1)) j) + 1) w) j (9 + 3 * (MLn (t_X6_grow τ j 8 (-1)) j) + 2) u) j 8 1) j 0 y) j 1 v) hk j 3 1 (by omega)) hP hS cw_X6_grow (mA4 (i := 86) rfl rfl) hk ⟨rfl, rfl⟩ ⟨Nat.le_of_ble_eq_true rfl, Nat.le_of_ble_eq_true rfl⟩ rfl (Nat.le_of_ble_eq_true rfl) hl.1 ⟨Nat.zero_le _, Nat.zero_le _⟩ dX6_feels_167) hS (fun H locs hP hS => ?_)
        refine lv_aload_n hx hb dX6_feels_170 rfl (lv_at hl 1 rfl) ?_
        refine lv_iload_n hx hb dX6_feels_171 rfl (lv_at hl 2 rfl) ?_
        refine lv_bipush (v := 7) hx hb dX6_feels_172 (by decide) ?_
        refine lv_iload hx hb dX6_feels_174 (lv_at hl 5 rfl) ?_
        refine lv_iload_n hx hb dX6_feels_176 rfl (lv_at hl 3 rfl) ?_
        refine thn_I (run_S (As := [.int u, .int y]) (rest := [.int 7, .int (nI j), .ref (z + k)]) C (k_X6_isA l D cy z o d σ (t_X6_grow (t_X6_grow (t_X6_lay (t_X6_grow (t_X6_lay (t_X6_lay (t_X6_lay (t_X6_grow τ j 8 (-1)) j (9 + 3 * (MLn (t_X6_grow τ j 8 (-1)) j)) v) j (9 + 3 * (MLn (t_X6_grow τ j 8 (-1)) j) + 1) w) j (9 + 3 * (MLn (t_X6_grow τ j 8 (-1)) j) + 2) u) j 8 1) j 0 y) j 1 v) j 3 1) u y) hP hS cw_X6_isA (mA4 (i := 94) rfl rfl) ⟨rfl, rfl⟩ ⟨Nat.le_of_ble_eq_true rfl, Nat.le_of_ble_eq_true rfl⟩ rfl (Nat.le_of_ble_eq_true rfl) hl.1 ⟨Nat.zero_le _, Nat.zero_le _⟩ dX6_feels_177) hS (fun H locs hP hS => ?_)
        refine lv_if_eq (tgt := 188) hx hb dX6_feels_180 (by decide) (fun c_180 => ?_) (fun c_180 => ?_)
        · refine lv_iconst (v := 0) hx hb dX6_feels_188 (by decide) ?_
          refine thn_V (run_V (As := [.int (nI j), .int 7, .int 0]) (rest := []) C (k_X6_grow l D cy z o d σ (t_X6_grow (t_X6_grow (t_X6_lay (t_X6_grow (t_X6_lay (t_X6_lay (t_X6_lay (t_X6_grow τ j 8 (-1)) j (9 + 3 * (MLn (t_X6_grow τ j 8 (-1)) j)) v) j (9 + 3 * (MLn (t_X6_grow τ j 8 (-1)) j) + 1) w) j (9 + 3 * (MLn (t_X6_grow τ j 8 (-1)) j) + 2) u) j 8 1) j 0 y) j 1 v) j 3 1) hk j 7 0 (by omega)) hP hS cw_X6_grow (mA4 (i := 86) rfl rfl) hk ⟨rfl, rfl⟩ ⟨Nat.le_of_ble_eq_true rfl, Nat.le_of_ble_eq_true rfl⟩ rfl (Nat.le_of_ble_eq_true rfl) hl.1 ⟨Nat.zero_le _, Nat.zero_le _⟩ dX6_feels_189) hS (fun H locs hP hS => ?_)
          refine lv_aload_n hx hb dX6_feels_192 rfl (lv_at hl 1 rfl) ?_
          refine lv_iload_n hx hb dX6_feels_193 rfl (lv_at hl 2 rfl) ?_
          refine lv_iconst (v := 5) hx hb dX6_feels_194 (by decide) ?_
          refine lv_iload hx hb dX6_feels_195 (lv_at hl 6 rfl) ?_
          refine thn_I (run_S (As := [.int v]) (rest := [.int 5, .int (nI j), .ref (z + k)]) C (k_X6_size l D cy z o d σ (t_X6_grow (t_X6_grow (t_X6_grow (t_X6_lay (t_X6_grow (t_X6_lay (t_X6_lay (t_X6_lay (t_X6_grow τ j 8 (-1)) j (9 + 3 * (MLn (t_X6_grow τ j 8 (-1)) j)) v) j (9 + 3 * (MLn (t_X6_grow τ j 8 (-1)) j) + 1) w) j (9 + 3 * (MLn (t_X6_grow τ j 8 (-1)) j) + 2) u) j 8 1) j 0 y) j 1 v) j 3 1) j 7 0) v) hP hS cw_X6_size (mA4 (i := 75) rfl rfl) ⟨rfl, rfl⟩ ⟨Nat.le_of_ble_eq_true rfl, Nat.le_of_ble_eq_true rfl⟩ rfl (Nat.le_of_ble_eq_true rfl) hl.1 ⟨Nat.zero_le _, Nat.zero_le _⟩ dX6_feels_197) hS (fun H locs hP hS => ?_)
          refine thn_V (run_V (As := [.int (nI j), .int 5, .int (f_X6_size v)]) (rest := []) C (k_X6_grow l D cy z o d σ (t_X6_grow (t_X6_grow (t_X6_grow (t_X6_lay (t_X6_grow (t_X6_lay (t_X6_lay (t_X6_lay (t_X6_grow τ j 8 (-1)) j (9 + 3 * (MLn (t_X6_grow τ j 8 (-1)) j)) v) j (9 + 3 * (MLn (t_X6_grow τ j 8 (-1)) j) + 1) w) j (9 + 3 * (MLn (t_X6_grow τ j 8 (-1)) j) + 2) u) j 8 1) j 0 y) j 1 v) j 3 1) j 7 0) hk j 5 (f_X6_size v) (by omega)) hP hS cw_X6_grow (mA4 (i := 86) rfl rfl) hk ⟨rfl, rfl⟩ ⟨Nat.le_of_ble_eq_true rfl, Nat.le_of_ble_eq_true rfl⟩ rfl (Nat.le_of_ble_eq_true rfl) hl.1 ⟨Nat.zero_le _, Nat.zero_le _⟩ dX6_feels_200) hS (fun H locs hP hS => ?_)
          refine lv_aload_n hx hb dX6_feels_203 rfl (lv_at hl 1 rfl) ?_
          refine lv_iload_n hx hb dX6_feels_204 rfl (lv_at hl 2 rfl) ?_
          refine lv_bipush (v := 6) hx hb dX6_feels_205 (by decide) ?_
          refine lv_iload_n hx hb dX6_feels_207 rfl (lv_at hl 4 rfl) ?_
          refine thn_V (run_V (As := [.int (nI j), .int 6, .int w]) (rest := []) C (k_X6_grow l D cy z o d σ (t_X6_grow (t_X6_grow (t_X6_grow (t_X6_grow (t_X6_lay (t_X6_grow (t_X6_lay (t_X6_lay (t_X6_lay (t_X6_grow τ j 8 (-1)) j (9 + 3 * (MLn (t_X6_grow τ j 8 (-1)) j)) v) j (9 + 3 * (MLn (t_X6_grow τ j 8 (-1)) j) + 1) w) j (9 + 3 * (MLn (t_X6_grow τ j 8 (-1)) j) + 2) u) j 8 1) j 0 y) j 1 v) j 3 1) j 7 0) j 5 (f_X6_size v)) hk j 6 w (by omega)) hP hS cw_X6_grow (mA4 (i := 86) rfl rfl) hk ⟨rfl, rfl⟩ ⟨Nat.le_of_ble_eq_true rfl, Nat.le_of_ble_eq_true rfl⟩ rfl (Nat.le_of_ble_eq_true rfl) hl.1 ⟨Nat.zero_le _, Nat.zero_le _⟩ dX6_feels_208) hS (fun H locs hP hS => ?_)
          refine lv_aload_n hx hb dX6_feels_211 rfl (lv_at hl 1 rfl) ?_
          refine lv_iload_n hx hb dX6_feels_212 rfl (lv_at hl 2 rfl) ?_
          refine lv_iload hx hb dX6_feels_213 (lv_at hl 6 rfl) ?_
          refine thn_V (run_V (As := [.int (nI j), .int v]) (rest := []) C (k_X6_turns l D cy z o d σ (t_X6_grow (t_X6_grow (t_X6_grow (t_X6_grow (t_X6_grow (t_X6_lay (t_X6_grow (t_X6_lay (t_X6_lay (t_X6_lay (t_X6_grow τ j 8 (-1)) j (9 + 3 * (MLn (t_X6_grow τ j 8 (-1)) j)) v) j (9 + 3 * (MLn (t_X6_grow τ j 8 (-1)) j) + 1) w) j (9 + 3 * (MLn (t_X6_grow τ j 8 (-1)) j) + 2) u) j 8 1) j 0 y) j 1 v) j 3 1) j 7 0) j 5 (f_X6_size v)) j 6 w) hk j v hj) hP hS cw_X6_turns (mA4 (i := 97) rfl rfl) hk ⟨rfl, rfl⟩ ⟨Nat.le_of_ble_eq_true rfl, Nat.le_of_ble_eq_true rfl⟩ rfl (Nat.le_of_ble_eq_true rfl) hl.1 ⟨Nat.zero_le _, Nat.zero_le _⟩ dX6_feels_215) hS (fun H locs hP hS => ?_)
          refine lv_iload hx hb dX6_feels_218 (lv_at hl 6 rfl) ?_
          exact ret_I C hP hS (nar_i _) rfl (by rw [← hr9, gf_X6_feels]; rw [if_pos d_49, if_pos c_159, if_pos c_180]) rfl (by rw [← ht9, gt_X6_feels]; rw [if_pos d_49, if_pos c_159, if_pos c_180]) dX6_feels_220
        · refine lv_iload hx hb dX6_feels_183 (lv_at hl 6 rfl) ?_
          refine lv_goto (tgt := 189) hx hb dX6_feels_185 (by decide) ?_
          refine thn_V (run_V (As := [.int (nI j), .int 7, .int v]) (rest := []) C (k_X6_grow l D cy z o d σ (t_X6_grow (t_X6_grow (t_X6_lay (t_X6_grow (t_X6_lay (t_X6_lay (t_X6_lay (t_X6_grow τ j 8 (-1)) j (9 + 3 * (MLn (t_X6_grow τ j 8 (-1)) j)) v) j (9 + 3 * (MLn (t_X6_grow τ j 8 (-1)) j) + 1) w) j (9 + 3 * (MLn (t_X6_grow τ j 8 (-1)) j) + 2) u) j 8 1) j 0 y) j 1 v) j 3 1) hk j 7 v (by omega)) hP hS cw_X6_grow (mA4 (i := 86) rfl rfl) hk ⟨rfl, rfl⟩ ⟨Nat.le_of_ble_eq_true rfl, Nat.le_of_ble_eq_true rfl⟩ rfl (Nat.le_of_ble_eq_true rfl) hl.1 ⟨Nat.zero_le _, Nat.zero_le _⟩ dX6_feels_189) hS (fun H locs hP hS => ?_)
          refine lv_aload_n hx hb dX6_feels_192 rfl (lv_at hl 1 rfl) ?_
          refine lv_iload_n hx hb dX6_feels_193 rfl (lv_at hl 2 rfl) ?_
          refine lv_iconst (v := 5) hx hb dX6_feels_194 (by decide) ?_
          refine lv_iload hx hb dX6_feels_195 (lv_at hl 6 rfl) ?_
          refine thn_I (run_S (As := [.int v]) (rest := [.int 5, .int (nI j), .ref (z + k)]) C (k_X6_size l D cy z o d σ (t_X6_grow (t_X6_grow (t_X6_grow (t_X6_lay (t_X6_grow (t_X6_lay (t_X6_lay (t_X6_lay (t_X6_grow τ j 8 (-1)) j (9 + 3 * (MLn (t_X6_grow τ j 8 (-1)) j)) v) j (9 + 3 * (MLn (t_X6_grow τ j 8 (-1)) j) + 1) w) j (9 + 3 * (MLn (t_X6_grow τ j 8 (-1)) j) + 2) u) j 8 1) j 0 y) j 1 v) j 3 1) j 7 v) v) hP hS cw_X6_size (mA4 (i := 75) rfl rfl) ⟨rfl, rfl⟩ ⟨Nat.le_of_ble_eq_true rfl, Nat.le_of_ble_eq_true rfl⟩ rfl (Nat.le_of_ble_eq_true rfl) hl.1 ⟨Nat.zero_le _, Nat.zero_le _⟩ dX6_feels_197) hS (fun H locs hP hS => ?_)
          refine thn_V (run_V (As := [.int (nI j), .int 5, .int (f_X6_size v)]) (rest := []) C (k_X6_grow l D cy z o d σ (t_X6_grow (t_X6_grow (t_X6_grow (t_X6_lay (t_X6_grow (t_X6_lay (t_X6_lay (t_X6_lay (t_X6_grow τ j 8 (-1)) j (9 + 3 * (MLn (t_X6_grow τ j 8 (-1)) j)) v) j (9 + 3 * (MLn (t_X6_grow τ j 8 (-1)) j) + 1) w) j (9 + 3 * (MLn (t_X6_grow τ j 8 (-1)) j) + 2) u) j 8 1) j 0 y) j 1 v) j 3 1) j 7 v) hk j 5 (f_X6_size v) (by omega)) hP hS cw_X6_grow (mA4 (i := 86) rfl rfl) hk ⟨rfl, rfl⟩ ⟨Nat.le_of_ble_eq_true rfl, Nat.le_of_ble_eq_true rfl⟩ rfl (Nat.le_of_ble_eq_true rfl) hl.1 ⟨Nat.zero_le _, Nat.zero_le _⟩ dX6_feels_200) hS (fun H locs hP hS => ?_)
          refine lv_aload_n hx hb dX6_feels_203 rfl (lv_at hl 1 rfl) ?_
          refine lv_iload_n hx hb dX6_feels_204 rfl (lv_at hl 2 rfl) ?_
          refine lv_bipush (v := 6) hx hb dX6_feels_205 (by decide) ?_
          refine lv_iload_n hx hb dX6_feels_207 rfl (lv_at hl 4 rfl) ?_
          refine thn_V (run_V (As := [.int (nI j), .int 6, .int w]) (rest := []) C (k_X6_grow l D cy z o d σ (t_X6_grow (t_X6_grow (t_X6_grow (t_X6_grow (t_X6_lay (t_X6_grow (t_X6_lay (t_X6_lay (t_X6_lay (t_X6_grow τ j 8 (-1)) j (9 + 3 * (MLn (t_X6_grow τ j 8 (-1)) j)) v) j (9 + 3 * (MLn (t_X6_grow τ j 8 (-1)) j) + 1) w) j (9 + 3 * (MLn (t_X6_grow τ j 8 (-1)) j) + 2) u) j 8 1) j 0 y) j 1 v) j 3 1) j 7 v) j 5 (f_X6_size v)) hk j 6 w (by omega)) hP hS cw_X6_grow (mA4 (i := 86) rfl rfl) hk ⟨rfl, rfl⟩ ⟨Nat.le_of_ble_eq_true rfl, Nat.le_of_ble_eq_true rfl⟩ rfl (Nat.le_of_ble_eq_true rfl) hl.1 ⟨Nat.zero_le _, Nat.zero_le _⟩ dX6_feels_208) hS (fun H locs hP hS => ?_)
          refine lv_aload_n hx hb dX6_feels_211 rfl (lv_at hl 1 rfl) ?_
          refine lv_iload_n hx hb dX6_feels_212 rfl (lv_at hl 2 rfl) ?_
          refine lv_iload hx hb dX6_feels_213 (lv_at hl 6 rfl) ?_
          refine thn_V (run_V (As := [.int (nI j), .int v]) (rest := []) C (k_X6_turns l D cy z o d σ (t_X6_grow (t_X6_grow (t_X6_grow (t_X6_grow (t_X6_grow (t_X6_lay (t_X6_grow (t_X6_lay (t_X6_lay (t_X6_lay (t_X6_grow τ j 8 (-1)) j (9 + 3 * (MLn (t_X6_grow τ j 8 (-1)) j)) v) j (9 + 3 * (MLn (t_X6_grow τ j 8 (-1)) j) + 1) w) j (9 + 3 * (MLn (t_X6_grow τ j 8 (-1)) j) + 2) u) j 8 1) j 0 y) j 1 v) j 3 1) j 7 v) j 5 (f_X6_size v)) j 6 w) hk j v hj) hP hS cw_X6_turns (mA4 (i := 97) rfl rfl) hk ⟨rfl, rfl⟩ ⟨Nat.le_of_ble_eq_true rfl, Nat.le_of_ble_eq_true rfl⟩ rfl (Nat.le_of_ble_eq_true rfl) hl.1 ⟨Nat.zero_le _, Nat.zero_le _⟩ dX6_feels_215) hS (fun H locs hP hS => ?_)
          refine lv_iload hx hb dX6_feels_218 (lv_at hl 6 rfl) ?_
          exact ret_I C hP hS (nar_i _) rfl (by rw [← hr9, gf_X6_feels]; rw [if_pos d_49, if_pos c_159, if_neg c_180]) rfl (by rw [← ht9, gt_X6_feels]; rw [if_pos d_49, if_pos c_159, if_neg c_180]) dX6_feels_220
    · have d_49 : ¬ (57 * j + 9 + 45 ≤ i) := fun h9 => c_49 ((cI_le rfl rfl (by omega) (by omega)).mpr h9)
      refine lv_aload_n hx hb dX6_feels_52 rfl (lv_at hl 0 rfl) ?_
      refine gf_X6_7 C hP hk dX6_feels_53 ?_
      refine lv_iload hx hb dX6_feels_56 (lv_at hl 6 rfl) ?_
      refine lv_aload_n hx hb dX6_feels_58 rfl (lv_at hl 0 rfl) ?_
      refine gf_X6_7 C hP hk dX6_feels_59 ?_
      refine lv_iload hx hb dX6_feels_62 (lv_at hl 6 rfl) ?_
      refine lv_iconst (v := 3) hx hb dX6_feels_64 (by decide) ?_
      refine lv_iadd hx hb dX6_feels_65 ?_
      rw [nI_3]
      refine al_10 C hP (kd6_1 hk) (vp_in_nI (by omega) (by decide)) dX6_feels_66 ?_
      rw [nI_clamp (by omega)]
      refine as_10 C hP hS (kd6_1 hk) (vp_in_nI (by omega) (by decide)) dX6_feels_67 (fun H locs hP hS => ?_)
      rw [nI_clamp (n := i) (by omega)] at hP
      refine lv_iinc (v := nI (i + 1)) (lv' := [(6, .int (nI (i + 1))), (0, .ref (z + k)), (1, .int (nI j)), (2, .int y), (3, .int w), (4, .int u), (5, .int v)]) hx hb dX6_feels_68 hl (k := 6) rfl (nI_1 i) (by decide) rfl (fun ls hl => ?_)
      refine lv_goto (tgt := 37) hx hb dX6_feels_71 (by decide) ?_
      exact ih (i + 1) σ (up τ 1 i (τ 1 (i + 3))) _ _ (by rw [up_nb (by omega)]; exact hl16) (⟨by omega, by omega, by omega, by omega⟩) (by rw [← hr9, gf_X6_feels]; rw [if_neg d_49]) (by rw [← ht9, gt_X6_feels]; rw [if_neg d_49]) hP hS ls (lv_sub hl [1, 2, 3, 4, 5, 6, 0] rfl)
def f_X6_feels (τ : Sg) (j : Nat) (y : Int32) (w : Int32) : Int32 :=
  if (f_X6_of τ j 8) = 16 then
    gf_X6_feels j y w (f_X6_of τ j 0) (f_X6_stepOf τ j y) 46 (57 * j + 9) τ
  else
    if (f_X6_onward (f_X6_of τ j 0) y) = 2 then
      if (f_X6_isA (f_X6_of τ j 0) y) = 0 then
        f_X6_stepOf τ j y
      else
        f_X6_stepOf τ j y
    else
      if (f_X6_isA (f_X6_of τ j 0) y) = 0 then
        f_X6_stepOf τ j y
      else
        f_X6_stepOf τ j y
def t_X6_feels (τ : Sg) (j : Nat) (y : Int32) (w : Int32) : Sg :=
  if (f_X6_of τ j 8) = 16 then
    gt_X6_feels j y w (f_X6_of τ j 0) (f_X6_stepOf τ j y) 46 (57 * j + 9) τ
  else
    if (f_X6_onward (f_X6_of τ j 0) y) = 2 then
      if (f_X6_isA (f_X6_of τ j 0) y) = 0 then
        t_X6_turns (t_X6_grow (t_X6_grow (t_X6_grow (t_X6_grow (t_X6_grow (t_X6_lay (t_X6_grow (t_X6_lay (t_X6_lay (t_X6_lay τ j (9 + 3 * (MLn τ j)) (f_X6_stepOf τ j y)) j (9 + 3 * (MLn τ j) + 1) w) j (9 + 3 * (MLn τ j) + 2) (f_X6_of τ j 0)) j 8 1) j 0 y) j 1 (f_X6_stepOf τ j y)) j 3 1) j 7 0) j 5 (f_X6_size (f_X6_stepOf τ j y))) j 6 w) j (f_X6_stepOf τ j y)
      else
        t_X6_turns (t_X6_grow (t_X6_grow (t_X6_grow (t_X6_grow (t_X6_grow (t_X6_lay (t_X6_grow (t_X6_lay (t_X6_lay (t_X6_lay τ j (9 + 3 * (MLn τ j)) (f_X6_stepOf τ j y)) j (9 + 3 * (MLn τ j) + 1) w) j (9 + 3 * (MLn τ j) + 2) (f_X6_of τ j 0)) j 8 1) j 0 y) j 1 (f_X6_stepOf τ j y)) j 3 1) j 7 (f_X6_stepOf τ j y)) j 5 (f_X6_size (f_X6_stepOf τ j y))) j 6 w) j (f_X6_stepOf τ j y)
    else
      if (f_X6_isA (f_X6_of τ j 0) y) = 0 then
        t_X6_turns (t_X6_grow (t_X6_grow (t_X6_grow (t_X6_grow (t_X6_grow (t_X6_lay (t_X6_grow (t_X6_lay (t_X6_lay (t_X6_lay τ j (9 + 3 * (MLn τ j)) (f_X6_stepOf τ j y)) j (9 + 3 * (MLn τ j) + 1) w) j (9 + 3 * (MLn τ j) + 2) (f_X6_of τ j 0)) j 8 1) j 0 y) j 1 (f_X6_stepOf τ j y)) j 3 0) j 7 0) j 5 (f_X6_size (f_X6_stepOf τ j y))) j 6 w) j (f_X6_stepOf τ j y)
      else
        t_X6_turns (t_X6_grow (t_X6_grow (t_X6_grow (t_X6_grow (t_X6_grow (t_X6_lay (t_X6_grow (t_X6_lay (t_X6_lay (t_X6_lay τ j (9 + 3 * (MLn τ j)) (f_X6_stepOf τ j y)) j (9 + 3 * (MLn τ j) + 1) w) j (9 + 3 * (MLn τ j) + 2) (f_X6_of τ j 0)) j 8 1) j 0 y) j 1 (f_X6_stepOf τ j y)) j 3 0) j 7 (f_X6_stepOf τ j y)) j 5 (f_X6_size (f_X6_stepOf τ j y))) j 6 w) j (f_X6_stepOf τ j y)
set_option maxHeartbeats 4000000 in
set_option maxRecDepth 100000 in
theorem k_X6_feels (l : Launch) (D : va_G) (cy : Nat → ClassId) (z : Nat) (o : Int64) (d : UInt64) (σ τ : Sg) {k : Nat} (hk : kd k = 6) (j : Nat) (y : Int32) (w : Int32) (hM : MI τ) (hj : j < 4) : KI l yX6_feels cX6_feels 7 (some .int) rm_X6_feels D cy z [.ref (z + k), .int (nI j), .int y, .int w] o d σ τ (f_X6_feels τ j y w) σ (t_X6_feels τ j y w) := by
  refine met_of RX6 (plainFor_of_name (by decide)) rfl (Nat.le_of_ble_eq_true rfl) ?_
  intro p e s m args below meth c C hP hS ls hl
  obtain ⟨hx, hb, hr, hml, hown, hW, hlocks, hAm⟩ := id C
  have hl : lv_has ls 7 [(0, .ref (z + k)), (1, .int (nI j)), (2, .int y), (3, .int w)] := hl
  refine lv_aload_n hx hb dX6_feels_0 rfl (lv_at hl 0 rfl) ?_
  refine lv_iload_n hx hb dX6_feels_1 rfl (lv_at hl 1 rfl) ?_
  refine lv_iconst (v := 0) hx hb dX6_feels_2 (by decide) ?_
  refine thn_I (run_V (As := [.int (nI j), .int 0]) (rest := []) C (k_X6_of l D cy z o d σ τ hk j 0 (by omega)) hP hS cw_X6_of (mA4 (i := 60) rfl rfl) hk ⟨rfl, rfl⟩ ⟨Nat.le_of_ble_eq_true rfl, Nat.le_of_ble_eq_true rfl⟩ rfl (Nat.le_of_ble_eq_true rfl) hl.1 ⟨Nat.zero_le _, Nat.zero_le _⟩ dX6_feels_3) hS (fun H locs hP hS => ?_)
  refine lv_istore (lv' := [(4, .int (f_X6_of τ j 0)), (0, .ref (z + k)), (1, .int (nI j)), (2, .int y), (3, .int w)]) hx hb dX6_feels_6 hl (by decide) rfl (fun ls hl => ?_)
  refine lv_aload_n hx hb dX6_feels_8 rfl (lv_at hl 1 rfl) ?_
  refine lv_iload_n hx hb dX6_feels_9 rfl (lv_at hl 2 rfl) ?_
  refine lv_iload_n hx hb dX6_feels_10 rfl (lv_at hl 3 rfl) ?_
  refine thn_I (run_V (As := [.int (nI j), .int y]) (rest := []) C (k_X6_stepOf l D cy z o d σ τ hk j y hj) hP hS cw_X6_stepOf (mA4 (i := 65) rfl rfl) hk ⟨rfl, rfl⟩ ⟨Nat.le_of_ble_eq_true rfl, Nat.le_of_ble_eq_true rfl⟩ rfl (Nat.le_of_ble_eq_true rfl) hl.1 ⟨Nat.zero_le _, Nat.zero_le _⟩ dX6_feels_11) hS (fun H locs hP hS => ?_)
  refine lv_istore (lv' := [(5, .int (f_X6_stepOf τ j y)), (4, .int (f_X6_of τ j 0)), (0, .ref (z + k)), (1, .int (nI j)), (2, .int y), (3, .int w)]) hx hb dX6_feels_14 hl (by decide) rfl (fun ls hl => ?_)
  refine lv_aload_n hx hb dX6_feels_16 rfl (lv_at hl 2 rfl) ?_
  refine lv_iload_n hx hb dX6_feels_17 rfl (lv_at hl 3 rfl) ?_
  refine lv_bipush (v := 8) hx hb dX6_feels_18 (by decide) ?_
  refine thn_I (run_V (As := [.int (nI j), .int 8]) (rest := []) C (k_X6_of l D cy z o d σ τ hk j 8 (by omega)) hP hS cw_X6_of (mA4 (i := 60) rfl rfl) hk ⟨rfl, rfl⟩ ⟨Nat.le_of_ble_eq_true rfl, Nat.le_of_ble_eq_true rfl⟩ rfl (Nat.le_of_ble_eq_true rfl) hl.1 ⟨Nat.zero_le _, Nat.zero_le _⟩ dX6_feels_20) hS (fun H locs hP hS => ?_)
  refine lv_bipush (v := 16) hx hb dX6_feels_23 (by decide) ?_
  refine lv_icmp_ne (tgt := 82) hx hb dX6_feels_25 (by decide) (fun c_25 => ?_) (fun c_25 => ?_)
  · refine lv_bipush (v := 9) hx hb dX6_feels_82 (by decide) ?_
    refine lv_iconst (v := 3) hx hb dX6_feels_84 (by decide) ?_
    refine lv_aload_n hx hb dX6_feels_85 rfl (lv_at hl 2 rfl) ?_
    refine lv_iload_n hx hb dX6_feels_86 rfl (lv_at hl 3 rfl) ?_
    refine lv_bipush (v := 8) hx hb dX6_feels_87 (by decide) ?_
    refine thn_I (run_V (As := [.int (nI j), .int 8]) (rest := [.int 3, .int 9]) C (k_X6_of l D cy z o d σ τ hk j 8 (by omega)) hP hS cw_X6_of (mA4 (i := 60) rfl rfl) hk ⟨rfl, rfl⟩ ⟨Nat.le_of_ble_eq_true rfl, Nat.le_of_ble_eq_true rfl⟩ rfl (Nat.le_of_ble_eq_true rfl) hl.1 ⟨Nat.zero_le _, Nat.zero_le _⟩ dX6_feels_89) hS (fun H locs hP hS => ?_)
    obtain ⟨e9, b9⟩ : f_X6_of τ j 8 = nI (MLn τ j) ∧ MLn τ j ≤ 15 := by first | exact mlA hl16 | exact mlB hM hj c_25
    rw [e9]
    refine lv_imul hx hb dX6_feels_92 ?_
    refine lv_iadd hx hb dX6_feels_93 ?_
    rw [at_of]
    refine lv_istore (lv' := [(6, .int (nI (9 + 3 * (MLn τ j)))), (5, .int (f_X6_stepOf τ j y)), (4, .int (f_X6_of τ j 0)), (0, .ref (z + k)), (1, .int (nI j)), (2, .int y), (3, .int w)]) hx hb dX6_feels_94 hl (by decide) rfl (fun ls hl => ?_)
    refine lv_aload_n hx hb dX6_feels_96 rfl (lv_at hl 3 rfl) ?_
    refine lv_iload_n hx hb dX6_feels_97 rfl (lv_at hl 4 rfl) ?_
    refine lv_iload hx hb dX6_feels_98 (lv_at hl 0 rfl) ?_
    refine lv_iload hx hb dX6_feels_100 (lv_at hl 1 rfl) ?_
    refine thn_V (run_V (As := [.int (nI j), .int (nI (9 + 3 * (MLn τ j))), .int (f_X6_stepOf τ j y)]) (rest := []) C (k_X6_lay l D cy z o d σ τ hk j (9 + 3 * (MLn τ j)) (f_X6_stepOf τ j y) (by omega)) hP hS cw_X6_lay (mA4 (i := 90) rfl rfl) hk ⟨rfl, rfl⟩ ⟨Nat.le_of_ble_eq_true rfl, Nat.le_of_ble_eq_true rfl⟩ rfl (Nat.le_of_ble_eq_true rfl) hl.1 ⟨Nat.zero_le _, Nat.zero_le _⟩ dX6_feels_102) hS (fun H locs hP hS => ?_)
    refine lv_aload_n hx hb dX6_feels_105 rfl (lv_at hl 3 rfl) ?_
    refine lv_iload_n hx hb dX6_feels_106 rfl (lv_at hl 4 rfl) ?_
    refine lv_iload hx hb dX6_feels_107 (lv_at hl 0 rfl) ?_
    refine lv_iconst (v := 1) hx hb dX6_feels_109 (by decide) ?_
    refine lv_iadd hx hb dX6_feels_110 ?_
    rw [nI_1]
    refine lv_iload_n hx hb dX6_feels_111 rfl (lv_at hl 6 rfl) ?_
    refine thn_V (run_V (As := [.int (nI j), .int (nI (9 + 3 * (MLn τ j) + 1)), .int w]) (rest := []) C (k_X6_lay l D cy z o d σ (t_X6_lay τ j (9 + 3 * (MLn τ j)) (f_X6_stepOf τ j y)) hk j (9 + 3 * (MLn τ j) + 1) w (by omega)) hP hS cw_X6_lay (mA4 (i := 90) rfl rfl) hk ⟨rfl, rfl⟩ ⟨Nat.le_of_ble_eq_true rfl, Nat.le_of_ble_eq_true rfl⟩ rfl (Nat.le_of_ble_eq_true rfl) hl.1 ⟨Nat.zero_le _, Nat.zero_le _⟩ dX6_feels_112) hS (fun H locs hP hS => ?_)
    refine lv_aload_n hx hb dX6_feels_115 rfl (lv_at hl 3 rfl) ?_
    refine lv_iload_n hx hb dX6_feels_116 rfl (lv_at hl 4 rfl) ?_
    refine lv_iload hx hb dX6_feels_117 (lv_at hl 0 rfl) ?_
    refine lv_iconst (v := 2) hx hb dX6_feels_119 (by decide) ?_
    refine lv_iadd hx hb dX6_feels_120 ?_
    rw [nI_2]
    refine lv_iload hx hb dX6_feels_121 (lv_at hl 2 rfl) ?_
    refine thn_V (run_V (As := [.int (nI j), .int (nI (9 + 3 * (MLn τ j) + 2)), .int (f_X6_of τ j 0)]) (rest := []) C (k_X6_lay l D cy z o d σ (t_X6_lay (t_X6_lay τ j (9 + 3 * (MLn τ j)) (f_X6_stepOf τ j y)) j (9 + 3 * (MLn τ j) + 1) w) hk j (9 + 3 * (MLn τ j) + 2) (f_X6_of τ j 0) (by omega)) hP hS cw_X6_lay (mA4 (i := 90) rfl rfl) hk ⟨rfl, rfl⟩ ⟨Nat.le_of_ble_eq_true rfl, Nat.le_of_ble_eq_true rfl⟩ rfl (Nat.le_of_ble_eq_true rfl) hl.1 ⟨Nat.zero_le _, Nat.zero_le _⟩ dX6_feels_123) hS (fun H locs hP hS => ?_)
    refine lv_aload_n hx hb dX6_feels_126 rfl (lv_at hl 3 rfl) ?_
    refine lv_iload_n hx hb dX6_feels_127 rfl (lv_at hl 4 rfl) ?_
    refine lv_bipush (v := 8) hx hb dX6_feels_128 (by decide) ?_
    refine lv_iconst (v := 1) hx hb dX6_feels_130 (by decide) ?_
    refine thn_V (run_V (As := [.int (nI j), .int 8, .int 1]) (rest := []) C (k_X6_grow l D cy z o d σ (t_X6_lay (t_X6_lay (t_X6_lay τ j (9 + 3 * (MLn τ j)) (f_X6_stepOf τ j y)) j (9 + 3 * (MLn τ j) + 1) w) j (9 + 3 * (MLn τ j) + 2) (f_X6_of τ j 0)) hk j 8 1 (by omega)) hP hS cw_X6_grow (mA4 (i := 86) rfl rfl) hk ⟨rfl, rfl⟩ ⟨Nat.le_of_ble_eq_true rfl, Nat.le_of_ble_eq_true rfl⟩ rfl (Nat.le_of_ble_eq_true rfl) hl.1 ⟨Nat.zero_le _, Nat.zero_le _⟩ dX6_feels_131) hS (fun H locs hP hS => ?_)
    refine lv_aload_n hx hb dX6_feels_134 rfl (lv_at hl 3 rfl) ?_
    refine lv_iload_n hx hb dX6_feels_135 rfl (lv_at hl 4 rfl) ?_
    refine lv_iconst (v := 0) hx hb dX6_feels_136 (by decide) ?_
    refine lv_iload_n hx hb dX6_feels_137 rfl (lv_at hl 5 rfl) ?_
    refine thn_V (run_V (As := [.int (nI j), .int 0, .int y]) (rest := []) C (k_X6_lay l D cy z o d σ (t_X6_grow (t_X6_lay (t_X6_lay (t_X6_lay τ j (9 + 3 * (MLn τ j)) (f_X6_stepOf τ j y)) j (9 + 3 * (MLn τ j) + 1) w) j (9 + 3 * (MLn τ j) + 2) (f_X6_of τ j 0)) j 8 1) hk j 0 y (by omega)) hP hS cw_X6_lay (mA4 (i := 90) rfl rfl) hk ⟨rfl, rfl⟩ ⟨Nat.le_of_ble_eq_true rfl, Nat.le_of_ble_eq_true rfl⟩ rfl (Nat.le_of_ble_eq_true rfl) hl.1 ⟨Nat.zero_le _, Nat.zero_le _⟩ dX6_feels_138) hS (fun H locs hP hS => ?_)
    refine lv_aload_n hx hb dX6_feels_141 rfl (lv_at hl 3 rfl) ?_
    refine lv_iload_n hx hb dX6_feels_142 rfl (lv_at hl 4 rfl) ?_
    refine lv_iconst (v := 1) hx hb dX6_feels_143 (by decide) ?_
    refine lv_iload hx hb dX6_feels_144 (lv_at hl 1 rfl) ?_
    refine thn_V (run_V (As := [.int (nI j), .int 1, .int (f_X6_stepOf τ j y)]) (rest := []) C (k_X6_grow l D cy z o d σ (t_X6_lay (t_X6_grow (t_X6_lay (t_X6_lay (t_X6_lay τ j (9 + 3 * (MLn τ j)) (f_X6_stepOf τ j y)) j (9 + 3 * (MLn τ j) + 1) w) j (9 + 3 * (MLn τ j) + 2) (f_X6_of τ j 0)) j 8 1) j 0 y) hk j 1 (f_X6_stepOf τ j y) (by omega)) hP hS cw_X6_grow (mA4 (i := 86) rfl rfl) hk ⟨rfl, rfl⟩ ⟨Nat.le_of_ble_eq_true rfl, Nat.le_of_ble_eq_true rfl⟩ rfl (Nat.le_of_ble_eq_true rfl) hl.1 ⟨Nat.zero_le _, Nat.zero_le _⟩ dX6_feels_146) hS (fun H locs hP hS => ?_)
    refine lv_aload_n hx hb dX6_feels_149 rfl (lv_at hl 3 rfl) ?_
    refine lv_iload_n hx hb dX6_feels_150 rfl (lv_at hl 4 rfl) ?_
    refine lv_iconst (v := 3) hx hb dX6_feels_151 (by decide) ?_
    refine lv_iload hx hb dX6_feels_152 (lv_at hl 2 rfl) ?_
    refine lv_iload_n hx hb dX6_feels_154 rfl (lv_at hl 5 rfl) ?_
    refine thn_I (run_S (As := [.int (f_X6_of τ j 0), .int y]) (rest := [.int 3, .int (nI j), .ref (z + k)]) C (k_X6_onward l D cy z o d σ (t_X6_grow (t_X6_lay (t_X6_grow (t_X6_lay (t_X6_lay (t_X6_lay τ j (9 + 3 * (MLn τ j)) (f_X6_stepOf τ j y)) j (9 + 3 * (MLn τ j) + 1) w) j (9 + 3 * (MLn τ j) + 2) (f_X6_of τ j 0)) j 8 1) j 0 y) j 1 (f_X6_stepOf τ j y)) (f_X6_of τ j 0) y) hP hS cw_X6_onward (mA4 (i := 69) rfl rfl) ⟨rfl, rfl⟩ ⟨Nat.le_of_ble_eq_true rfl, Nat.le_of_ble_eq_true rfl⟩ rfl (Nat.le_of_ble_eq_true rfl) hl.1 ⟨Nat.zero_le _, Nat.zero_le _⟩ dX6_feels_155) hS (fun H locs hP hS => ?_)
    refine lv_iconst (v := 2) hx hb dX6_feels_158 (by decide) ?_
    refine lv_icmp_ne (tgt := 166) hx hb dX6_feels_159 (by decide) (fun c_159 => ?_) (fun c_159 => ?_)
    · refine lv_iconst (v := 0) hx hb dX6_feels_166 (by decide) ?_
      refine thn_V (run_V (As := [.int (nI j), .int 3, .int 0]) (rest := []) C (k_X6_grow l D cy z o d σ (t_X6_grow (t_X6_lay (t_X6_grow (t_X6_lay (t_X6_lay (t_X6_lay τ j (9 + 3 * (MLn τ j)) (f_X6_stepOf τ j y)) j (9 + 3 * (MLn τ j) + 1) w) j (9 + 3 * (MLn τ j) + 2) (f_X6_of τ j 0)) j 8 1) j 0 y) j 1 (f_X6_stepOf τ j y)) hk j 3 0 (by omega)) hP hS cw_X6_grow (mA4 (i := 86) rfl rfl) hk ⟨rfl, rfl⟩ ⟨Nat.le_of_ble_eq_true rfl, Nat.le_of_ble_eq_true rfl⟩ rfl (Nat.le_of_ble_eq_true rfl) hl.1 ⟨Nat.zero_le _, Nat.zero_le _⟩ dX6_feels_167) hS (fun H locs hP hS => ?_)
      refine lv_aload_n hx hb dX6_feels_170 rfl (lv_at hl 3 rfl) ?_
      refine lv_iload_n hx hb dX6_feels_171 rfl (lv_at hl 4 rfl) ?_
      refine lv_bipush (v := 7) hx hb dX6_feels_172 (by decide) ?_
      refine lv_iload hx hb dX6_feels_174 (lv_at hl 2 rfl) ?_
      refine lv_iload_n hx hb dX6_feels_176 rfl (lv_at hl 5 rfl) ?_
      refine thn_I (run_S (As := [.int (f_X6_of τ j 0), .int y]) (rest := [.int 7, .int (nI j), .ref (z + k)]) C (k_X6_isA l D cy z o d σ (t_X6_grow (t_X6_grow (t_X6_lay (t_X6_grow (t_X6_lay (t_X6_lay (t_X6_lay τ j (9 + 3 * (MLn τ j)) (f_X6_stepOf τ j y)) j (9 + 3 * (MLn τ j) + 1) w) j (9 + 3 * (MLn τ j) + 2) (f_X6_of τ j 0)) j 8 1) j 0 y) j 1 (f_X6_stepOf τ j y)) j 3 0) (f_X6_of τ j 0) y) hP hS cw_X6_isA (mA4 (i := 94) rfl rfl) ⟨rfl, rfl⟩ ⟨Nat.le_of_ble_eq_true rfl, Nat.le_of_ble_eq_true rfl⟩ rfl (Nat.le_of_ble_eq_true rfl) hl.1 ⟨Nat.zero_le _, Nat.zero_le _⟩ dX6_feels_177) hS (fun H locs hP hS => ?_)
      refine lv_if_eq (tgt := 188) hx hb dX6_feels_180 (by decide) (fun c_180 => ?_) (fun c_180 => ?_)
      · refine lv_iconst (v := 0) hx hb dX6_feels_188 (by decide) ?_
        refine thn_V (run_V (As := [.int (nI j), .int 7, .int 0]) (rest := []) C (k_X6_grow l D cy z o d σ (t_X6_grow (t_X6_grow (t_X6_lay (t_X6_grow (t_X6_lay (t_X6_lay (t_X6_lay τ j (9 + 3 * (MLn τ j)) (f_X6_stepOf τ j y)) j (9 + 3 * (MLn τ j) + 1) w) j (9 + 3 * (MLn τ j) + 2) (f_X6_of τ j 0)) j 8 1) j 0 y) j 1 (f_X6_stepOf τ j y)) j 3 0) hk j 7 0 (by omega)) hP hS cw_X6_grow (mA4 (i := 86) rfl rfl) hk ⟨rfl, rfl⟩ ⟨Nat.le_of_ble_eq_true rfl, Nat.le_of_ble_eq_true rfl⟩ rfl (Nat.le_of_ble_eq_true rfl) hl.1 ⟨Nat.zero_le _, Nat.zero_le _⟩ dX6_feels_189) hS (fun H locs hP hS => ?_)
        refine lv_aload_n hx hb dX6_feels_192 rfl (lv_at hl 3 rfl) ?_
        refine lv_iload_n hx hb dX6_feels_193 rfl (lv_at hl 4 rfl) ?_
        refine lv_iconst (v := 5) hx hb dX6_feels_194 (by decide) ?_
        refine lv_iload hx hb dX6_feels_195 (lv_at hl 1 rfl) ?_
        refine thn_I (run_S (As := [.int (f_X6_stepOf τ j y)]) (rest := [.int 5, .int (nI j), .ref (z + k)]) C (k_X6_size l D cy z o d σ (t_X6_grow (t_X6_grow (t_X6_grow (t_X6_lay (t_X6_grow (t_X6_lay (t_X6_lay (t_X6_lay τ j (9 + 3 * (MLn τ j)) (f_X6_stepOf τ j y)) j (9 + 3 * (MLn τ j) + 1) w) j (9 + 3 * (MLn τ j) + 2) (f_X6_of τ j 0)) j 8 1) j 0 y) j 1 (f_X6_stepOf τ j y)) j 3 0) j 7 0) (f_X6_stepOf τ j y)) hP hS cw_X6_size (mA4 (i := 75) rfl rfl) ⟨rfl, rfl⟩ ⟨Nat.le_of_ble_eq_true rfl, Nat.le_of_ble_eq_true rfl⟩ rfl (Nat.le_of_ble_eq_true rfl) hl.1 ⟨Nat.zero_le _, Nat.zero_le _⟩ dX6_feels_197) hS (fun H locs hP hS => ?_)
        refine thn_V (run_V (As := [.int (nI j), .int 5, .int (f_X6_size (f_X6_stepOf τ j y))]) (rest := []) C (k_X6_grow l D cy z o d σ (t_X6_grow (t_X6_grow (t_X6_grow (t_X6_lay (t_X6_grow (t_X6_lay (t_X6_lay (t_X6_lay τ j (9 + 3 * (MLn τ j)) (f_X6_stepOf τ j y)) j (9 + 3 * (MLn τ j) + 1) w) j (9 + 3 * (MLn τ j) + 2) (f_X6_of τ j 0)) j 8 1) j 0 y) j 1 (f_X6_stepOf τ j y)) j 3 0) j 7 0) hk j 5 (f_X6_size (f_X6_stepOf τ j y)) (by omega)) hP hS cw_X6_grow (mA4 (i := 86) rfl rfl) hk ⟨rfl, rfl⟩ ⟨Nat.le_of_ble_eq_true rfl, Nat.le_of_ble_eq_true rfl⟩ rfl (Nat.le_of_ble_eq_true rfl) hl.1 ⟨Nat.zero_le _, Nat.zero_le _⟩ dX6_feels_200) hS (fun H locs hP hS => ?_)
        refine lv_aload_n hx hb dX6_feels_203 rfl (lv_at hl 3 rfl) ?_
        refine lv_iload_n hx hb dX6_feels_204 rfl (lv_at hl 4 rfl) ?_
        refine lv_bipush (v := 6) hx hb dX6_feels_205 (by decide) ?_
        refine lv_iload_n hx hb dX6_feels_207 rfl (lv_at hl 6 rfl) ?_
        refine thn_V (run_V (As := [.int (nI j), .int 6, .int w]) (rest := []) C (k_X6_grow l D cy z o d σ (t_X6_grow (t_X6_grow (t_X6_grow (t_X6_grow (t_X6_lay (t_X6_grow (t_X6_lay (t_X6_lay (t_X6_lay τ j (9 + 3 * (MLn τ j)) (f_X6_stepOf τ j y)) j (9 + 3 * (MLn τ j) + 1) w) j (9 + 3 * (MLn τ j) + 2) (f_X6_of τ j 0)) j 8 1) j 0 y) j 1 (f_X6_stepOf τ j y)) j 3 0) j 7 0) j 5 (f_X6_size (f_X6_stepOf τ j y))) hk j 6 w (by omega)) hP hS cw_X6_grow (mA4 (i := 86) rfl rfl) hk ⟨rfl, rfl⟩ ⟨Nat.le_of_ble_eq_true rfl, Nat.le_of_ble_eq_true rfl⟩ rfl (Nat.le_of_ble_eq_true rfl) hl.1 ⟨Nat.zero_le _, Nat.zero_le _⟩ dX6_feels_208) hS (fun H locs hP hS => ?_)
        refine lv_aload_n hx hb dX6_feels_211 rfl (lv_at hl 3 rfl) ?_
        refine lv_iload_n hx hb dX6_feels_212 rfl (lv_at hl 4 rfl) ?_
        refine lv_iload hx hb dX6_feels_213 (lv_at hl 1 rfl) ?_
        refine thn_V (run_V (As := [.int (nI j), .int (f_X6_stepOf τ j y)]) (rest := []) C (k_X6_turns l D cy z o d σ (t_X6_grow (t_X6_grow (t_X6_grow (t_X6_grow (t_X6_grow (t_X6_lay (t_X6_grow (t_X6_lay (t_X6_lay (t_X6_lay τ j (9 + 3 * (MLn τ j)) (f_X6_stepOf τ j y)) j (9 + 3 * (MLn τ j) + 1) w) j (9 + 3 * (MLn τ j) + 2) (f_X6_of τ j 0)) j 8 1) j 0 y) j 1 (f_X6_stepOf τ j y)) j 3 0) j 7 0) j 5 (f_X6_size (f_X6_stepOf τ j y))) j 6 w) hk j (f_X6_stepOf τ j y) hj) hP hS cw_X6_turns (mA4 (i := 97) rfl rfl) hk ⟨rfl, rfl⟩ ⟨Nat.le_of_ble_eq_true rfl, Nat.le_of_ble_eq_true rfl⟩ rfl (Nat.le_of_ble_eq_true rfl) hl.1 ⟨Nat.zero_le _, Nat.zero_le _⟩ dX6_feels_215) hS (fun H locs hP hS => ?_)
        refine lv_iload hx hb dX6_feels_218 (lv_at hl 1 rfl) ?_
        exact ret_I C hP hS (nar_i _) rfl (by unfold f_X6_feels; rw [if_neg c_25, if_neg c_159, if_pos c_180]) rfl (by unfold t_X6_feels; rw [if_neg c_25, if_neg c_159, if_pos c_180]) dX6_feels_220
      · refine lv_iload hx hb dX6_feels_183 (lv_at hl 1 rfl) ?_
        refine lv_goto (tgt := 189) hx hb dX6_feels_185 (by decide) ?_
        refine thn_V (run_V (As := [.int (nI j), .int 7, .int (f_X6_stepOf τ j y)]) (rest := []) C (k_X6_grow l D cy z o d σ (t_X6_grow (t_X6_grow (t_X6_lay (t_X6_grow (t_X6_lay (t_X6_lay (t_X6_lay τ j (9 + 3 * (MLn τ j)) (f_X6_stepOf τ j y)) j (9 + 3 * (MLn τ j) + 1) w) j (9 + 3 * (MLn τ j) + 2) (f_X6_of τ j 0)) j 8 1) j 0 y) j 1 (f_X6_stepOf τ j y)) j 3 0) hk j 7 (f_X6_stepOf τ j y) (by omega)) hP hS cw_X6_grow (mA4 (i := 86) rfl rfl) hk ⟨rfl, rfl⟩ ⟨Nat.le_of_ble_eq_true rfl, Nat.le_of_ble_eq_true rfl⟩ rfl (Nat.le_of_ble_eq_true rfl) hl.1 ⟨Nat.zero_le _, Nat.zero_le _⟩ dX6_feels_189) hS (fun H locs hP hS => ?_)
        refine lv_aload_n hx hb dX6_feels_192 rfl (lv_at hl 3 rfl) ?_
        refine lv_iload_n hx hb dX6_feels_193 rfl (lv_at hl 4 rfl) ?_
        refine lv_iconst (v := 5) hx hb dX6_feels_194 (by decide) ?_
        refine lv_iload hx hb dX6_feels_195 (lv_at hl 1 rfl) ?_
        refine thn_I (run_S (As := [.int (f_X6_stepOf τ j y)]) (rest := [.int 5, .int (nI j), .ref (z + k)]) C (k_X6_size l D cy z o d σ (t_X6_grow (t_X6_grow (t_X6_grow (t_X6_lay (t_X6_grow (t_X6_lay (t_X6_lay (t_X6_lay τ j (9 + 3 * (MLn τ j)) (f_X6_stepOf τ j y)) j (9 + 3 * (MLn τ j) + 1) w) j (9 + 3 * (MLn τ j) + 2) (f_X6_of τ j 0)) j 8 1) j 0 y) j 1 (f_X6_stepOf τ j y)) j 3 0) j 7 (f_X6_stepOf τ j y)) (f_X6_stepOf τ j y)) hP hS cw_X6_size (mA4 (i := 75) rfl rfl) ⟨rfl, rfl⟩ ⟨Nat.le_of_ble_eq_true rfl, Nat.le_of_ble_eq_true rfl⟩ rfl (Nat.le_of_ble_eq_true rfl) hl.1 ⟨Nat.zero_le _, Nat.zero_le _⟩ dX6_feels_197) hS (fun H locs hP hS => ?_)
        refine thn_V (run_V (As := [.int (nI j), .int 5, .int (f_X6_size (f_X6_stepOf τ j y))]) (rest := []) C (k_X6_grow l D cy z o d σ (t_X6_grow (t_X6_grow (t_X6_grow (t_X6_lay (t_X6_grow (t_X6_lay (t_X6_lay (t_X6_lay τ j (9 + 3 * (MLn τ j)) (f_X6_stepOf τ j y)) j (9 + 3 * (MLn τ j) + 1) w) j (9 + 3 * (MLn τ j) + 2) (f_X6_of τ j 0)) j 8 1) j 0 y) j 1 (f_X6_stepOf τ j y)) j 3 0) j 7 (f_X6_stepOf τ j y)) hk j 5 (f_X6_size (f_X6_stepOf τ j y)) (by omega)) hP hS cw_X6_grow (mA4 (i := 86) rfl rfl) hk ⟨rfl, rfl⟩ ⟨Nat.le_of_ble_eq_true rfl, Nat.le_of_ble_eq_true rfl⟩ rfl (Nat.le_of_ble_eq_true rfl) hl.1 ⟨Nat.zero_le _, Nat.zero_le _⟩ dX6_feels_200) hS (fun H locs hP hS => ?_)
        refine lv_aload_n hx hb dX6_feels_203 rfl (lv_at hl 3 rfl) ?_
        refine lv_iload_n hx hb dX6_feels_204 rfl (lv_at hl 4 rfl) ?_
        refine lv_bipush (v := 6) hx hb dX6_feels_205 (by decide) ?_
        refine lv_iload_n hx hb dX6_feels_207 rfl (lv_at hl 6 rfl) ?_
        refine thn_V (run_V (As := [.int (nI j), .int 6, .int w]) (rest := []) C (k_X6_grow l D cy z o d σ (t_X6_grow (t_X6_grow (t_X6_grow (t_X6_grow (t_X6_lay (t_X6_grow (t_X6_lay (t_X6_lay (t_X6_lay τ j (9 + 3 * (MLn τ j)) (f_X6_stepOf τ j y)) j (9 + 3 * (MLn τ j) + 1) w) j (9 + 3 * (MLn τ j) + 2) (f_X6_of τ j 0)) j 8 1) j 0 y) j 1 (f_X6_stepOf τ j y)) j 3 0) j 7 (f_X6_stepOf τ j y)) j 5 (f_X6_size (f_X6_stepOf τ j y))) hk j 6 w (by omega)) hP hS cw_X6_grow (mA4 (i := 86) rfl rfl) hk ⟨rfl, rfl⟩ ⟨Nat.le_of_ble_eq_true rfl, Nat.le_of_ble_eq_true rfl⟩ rfl (Nat.le_of_ble_eq_true rfl) hl.1 ⟨Nat.zero_le _, Nat.zero_le _⟩ dX6_feels_208) hS (fun H locs hP hS => ?_)
        refine lv_aload_n hx hb dX6_feels_211 rfl (lv_at hl 3 rfl) ?_
        refine lv_iload_n hx hb dX6_feels_212 rfl (lv_at hl 4 rfl) ?_
        refine lv_iload hx hb dX6_feels_213 (lv_at hl 1 rfl) ?_
        refine thn_V (run_V (As := [.int (nI j), .int (f_X6_stepOf τ j y)]) (rest := []) C (k_X6_turns l D cy z o d σ (t_X6_grow (t_X6_grow (t_X6_grow (t_X6_grow (t_X6_grow (t_X6_lay (t_X6_grow (t_X6_lay (t_X6_lay (t_X6_lay τ j (9 + 3 * (MLn τ j)) (f_X6_stepOf τ j y)) j (9 + 3 * (MLn τ j) + 1) w) j (9 + 3 * (MLn τ j) + 2) (f_X6_of τ j 0)) j 8 1) j 0 y) j 1 (f_X6_stepOf τ j y)) j 3 0) j 7 (f_X6_stepOf τ j y)) j 5 (f_X6_size (f_X6_stepOf τ j y))) j 6 w) hk j (f_X6_stepOf τ j y) hj) hP hS cw_X6_turns (mA4 (i := 97) rfl rfl) hk ⟨rfl, rfl⟩ ⟨Nat.le_of_ble_eq_true rfl, Nat.le_of_ble_eq_true rfl⟩ rfl (Nat.le_of_ble_eq_true rfl) hl.1 ⟨Nat.zero_le _, Nat.zero_le _⟩ dX6_feels_215) hS (fun H locs hP hS => ?_)
        refine lv_iload hx hb dX6_feels_218 (lv_at hl 1 rfl) ?_
        exact ret_I C hP hS (nar_i _) rfl (by unfold f_X6_feels; rw [if_neg c_25, if_neg c_159, if_neg c_180]) rfl (by unfold t_X6_feels; rw [if_neg c_25, if_neg c_159, if_neg c_180]) dX6_feels_220
    · refine lv_iconst (v := 1) hx hb dX6_feels_162 (by decide) ?_
      refine lv_goto (tgt := 167) hx hb dX6_feels_163 (by decide) ?_
      refine thn_V (run_V (As := [.int (nI j), .int 3, .int 1]) (rest := []) C (k_X6_grow l D cy z o d σ (t_X6_grow (t_X6_lay (t_X6_grow (t_X6_lay (t_X6_lay (t_X6_lay τ j (9 + 3 * (MLn τ j)) (f_X6_stepOf τ j y)) j (9 + 3 * (MLn τ j) + 1) w) j (9 + 3 * (MLn τ j) + 2) (f_X6_of τ j 0)) j 8 1) j 0 y) j 1 (f_X6_stepOf τ j y)) hk j 3 1 (by omega)) hP hS cw_X6_grow (mA4 (i := 86) rfl rfl) hk ⟨rfl, rfl⟩ ⟨Nat.le_of_ble_eq_true rfl, Nat.le_of_ble_eq_true rfl⟩ rfl (Nat.le_of_ble_eq_true rfl) hl.1 ⟨Nat.zero_le _, Nat.zero_le _⟩ dX6_feels_167) hS (fun H locs hP hS => ?_)
      refine lv_aload_n hx hb dX6_feels_170 rfl (lv_at hl 3 rfl) ?_
      refine lv_iload_n hx hb dX6_feels_171 rfl (lv_at hl 4 rfl) ?_
      refine lv_bipush (v := 7) hx hb dX6_feels_172 (by decide) ?_
      refine lv_iload hx hb dX6_feels_174 (lv_at hl 2 rfl) ?_
      refine lv_iload_n hx hb dX6_feels_176 rfl (lv_at hl 5 rfl) ?_
      refine thn_I (run_S (As := [.int (f_X6_of τ j 0), .int y]) (rest := [.int 7, .int (nI j), .ref (z + k)]) C (k_X6_isA l D cy z o d σ (t_X6_grow (t_X6_grow (t_X6_lay (t_X6_grow (t_X6_lay (t_X6_lay (t_X6_lay τ j (9 + 3 * (MLn τ j)) (f_X6_stepOf τ j y)) j (9 + 3 * (MLn τ j) + 1) w) j (9 + 3 * (MLn τ j) + 2) (f_X6_of τ j 0)) j 8 1) j 0 y) j 1 (f_X6_stepOf τ j y)) j 3 1) (f_X6_of τ j 0) y) hP hS cw_X6_isA (mA4 (i := 94) rfl rfl) ⟨rfl, rfl⟩ ⟨Nat.le_of_ble_eq_true rfl, Nat.le_of_ble_eq_true rfl⟩ rfl (Nat.le_of_ble_eq_true rfl) hl.1 ⟨Nat.zero_le _, Nat.zero_le _⟩ dX6_feels_177) hS (fun H locs hP hS => ?_)
      refine lv_if_eq (tgt := 188) hx hb dX6_feels_180 (by decide) (fun c_180 => ?_) (fun c_180 => ?_)
      · refine lv_iconst (v := 0) hx hb dX6_feels_188 (by decide) ?_
        refine thn_V (run_V (As := [.int (nI j), .int 7, .int 0]) (rest := []) C (k_X6_grow l D cy z o d σ (t_X6_grow (t_X6_grow (t_X6_lay (t_X6_grow (t_X6_lay (t_X6_lay (t_X6_lay τ j (9 + 3 * (MLn τ j)) (f_X6_stepOf τ j y)) j (9 + 3 * (MLn τ j) + 1) w) j (9 + 3 * (MLn τ j) + 2) (f_X6_of τ j 0)) j 8 1) j 0 y) j 1 (f_X6_stepOf τ j y)) j 3 1) hk j 7 0 (by omega)) hP hS cw_X6_grow (mA4 (i := 86) rfl rfl) hk ⟨rfl, rfl⟩ ⟨Nat.le_of_ble_eq_true rfl, Nat.le_of_ble_eq_true rfl⟩ rfl (Nat.le_of_ble_eq_true rfl) hl.1 ⟨Nat.zero_le _, Nat.zero_le _⟩ dX6_feels_189) hS (fun H locs hP hS => ?_)
        refine lv_aload_n hx hb dX6_feels_192 rfl (lv_at hl 3 rfl) ?_
        refine lv_iload_n hx hb dX6_feels_193 rfl (lv_at hl 4 rfl) ?_
        refine lv_iconst (v := 5) hx hb dX6_feels_194 (by decide) ?_
        refine lv_iload hx hb dX6_feels_195 (lv_at hl 1 rfl) ?_
        refine thn_I (run_S (As := [.int (f_X6_stepOf τ j y)]) (rest := [.int 5, .int (nI j), .ref (z + k)]) C (k_X6_size l D cy z o d σ (t_X6_grow (t_X6_grow (t_X6_grow (t_X6_lay (t_X6_grow (t_X6_lay (t_X6_lay (t_X6_lay τ j (9 + 3 * (MLn τ j)) (f_X6_stepOf τ j y)) j (9 + 3 * (MLn τ j) + 1) w) j (9 + 3 * (MLn τ j) + 2) (f_X6_of τ j 0)) j 8 1) j 0 y) j 1 (f_X6_stepOf τ j y)) j 3 1) j 7 0) (f_X6_stepOf τ j y)) hP hS cw_X6_size (mA4 (i := 75) rfl rfl) ⟨rfl, rfl⟩ ⟨Nat.le_of_ble_eq_true rfl, Nat.le_of_ble_eq_true rfl⟩ rfl (Nat.le_of_ble_eq_true rfl) hl.1 ⟨Nat.zero_le _, Nat.zero_le _⟩ dX6_feels_197) hS (fun H locs hP hS => ?_)
        refine thn_V (run_V (As := [.int (nI j), .int 5, .int (f_X6_size (f_X6_stepOf τ j y))]) (rest := []) C (k_X6_grow l D cy z o d σ (t_X6_grow (t_X6_grow (t_X6_grow (t_X6_lay (t_X6_grow (t_X6_lay (t_X6_lay (t_X6_lay τ j (9 + 3 * (MLn τ j)) (f_X6_stepOf τ j y)) j (9 + 3 * (MLn τ j) + 1) w) j (9 + 3 * (MLn τ j) + 2) (f_X6_of τ j 0)) j 8 1) j 0 y) j 1 (f_X6_stepOf τ j y)) j 3 1) j 7 0) hk j 5 (f_X6_size (f_X6_stepOf τ j y)) (by omega)) hP hS cw_X6_grow (mA4 (i := 86) rfl rfl) hk ⟨rfl, rfl⟩ ⟨Nat.le_of_ble_eq_true rfl, Nat.le_of_ble_eq_true rfl⟩ rfl (Nat.le_of_ble_eq_true rfl) hl.1 ⟨Nat.zero_le _, Nat.zero_le _⟩ dX6_feels_200) hS (fun H locs hP hS => ?_)
        refine lv_aload_n hx hb dX6_feels_203 rfl (lv_at hl 3 rfl) ?_
        refine lv_iload_n hx hb dX6_feels_204 rfl (lv_at hl 4 rfl) ?_
        refine lv_bipush (v := 6) hx hb dX6_feels_205 (by decide) ?_
        refine lv_iload_n hx hb dX6_feels_207 rfl (lv_at hl 6 rfl) ?_
        refine thn_V (run_V (As := [.int (nI j), .int 6, .int w]) (rest := []) C (k_X6_grow l D cy z o d σ (t_X6_grow (t_X6_grow (t_X6_grow (t_X6_grow (t_X6_lay (t_X6_grow (t_X6_lay (t_X6_lay (t_X6_lay τ j (9 + 3 * (MLn τ j)) (f_X6_stepOf τ j y)) j (9 + 3 * (MLn τ j) + 1) w) j (9 + 3 * (MLn τ j) + 2) (f_X6_of τ j 0)) j 8 1) j 0 y) j 1 (f_X6_stepOf τ j y)) j 3 1) j 7 0) j 5 (f_X6_size (f_X6_stepOf τ j y))) hk j 6 w (by omega)) hP hS cw_X6_grow (mA4 (i := 86) rfl rfl) hk ⟨rfl, rfl⟩ ⟨Nat.le_of_ble_eq_true rfl, Nat.le_of_ble_eq_true rfl⟩ rfl (Nat.le_of_ble_eq_true rfl) hl.1 ⟨Nat.zero_le _, Nat.zero_le _⟩ dX6_feels_208) hS (fun H locs hP hS => ?_)
        refine lv_aload_n hx hb dX6_feels_211 rfl (lv_at hl 3 rfl) ?_
        refine lv_iload_n hx hb dX6_feels_212 rfl (lv_at hl 4 rfl) ?_
        refine lv_iload hx hb dX6_feels_213 (lv_at hl 1 rfl) ?_
        refine thn_V (run_V (As := [.int (nI j), .int (f_X6_stepOf τ j y)]) (rest := []) C (k_X6_turns l D cy z o d σ (t_X6_grow (t_X6_grow (t_X6_grow (t_X6_grow (t_X6_grow (t_X6_lay (t_X6_grow (t_X6_lay (t_X6_lay (t_X6_lay τ j (9 + 3 * (MLn τ j)) (f_X6_stepOf τ j y)) j (9 + 3 * (MLn τ j) + 1) w) j (9 + 3 * (MLn τ j) + 2) (f_X6_of τ j 0)) j 8 1) j 0 y) j 1 (f_X6_stepOf τ j y)) j 3 1) j 7 0) j 5 (f_X6_size (f_X6_stepOf τ j y))) j 6 w) hk j (f_X6_stepOf τ j y) hj) hP hS cw_X6_turns (mA4 (i := 97) rfl rfl) hk ⟨rfl, rfl⟩ ⟨Nat.le_of_ble_eq_true rfl, Nat.le_of_ble_eq_true rfl⟩ rfl (Nat.le_of_ble_eq_true rfl) hl.1 ⟨Nat.zero_le _, Nat.zero_le _⟩ dX6_feels_215) hS (fun H locs hP hS => ?_)
        refine lv_iload hx hb dX6_feels_218 (lv_at hl 1 rfl) ?_
        exact ret_I C hP hS (nar_i _) rfl (by unfold f_X6_feels; rw [if_neg c_25, if_pos c_159, if_pos c_180]) rfl (by unfold t_X6_feels; rw [if_neg c_25, if_pos c_159, if_pos c_180]) dX6_feels_220
      · refine lv_iload hx hb dX6_feels_183 (lv_at hl 1 rfl) ?_
        refine lv_goto (tgt := 189) hx hb dX6_feels_185 (by decide) ?_
        refine thn_V (run_V (As := [.int (nI j), .int 7, .int (f_X6_stepOf τ j y)]) (rest := []) C (k_X6_grow l D cy z o d σ (t_X6_grow (t_X6_grow (t_X6_lay (t_X6_grow (t_X6_lay (t_X6_lay (t_X6_lay τ j (9 + 3 * (MLn τ j)) (f_X6_stepOf τ j y)) j (9 + 3 * (MLn τ j) + 1) w) j (9 + 3 * (MLn τ j) + 2) (f_X6_of τ j 0)) j 8 1) j 0 y) j 1 (f_X6_stepOf τ j y)) j 3 1) hk j 7 (f_X6_stepOf τ j y) (by omega)) hP hS cw_X6_grow (mA4 (i := 86) rfl rfl) hk ⟨rfl, rfl⟩ ⟨Nat.le_of_ble_eq_true rfl, Nat.le_of_ble_eq_true rfl⟩ rfl (Nat.le_of_ble_eq_true rfl) hl.1 ⟨Nat.zero_le _, Nat.zero_le _⟩ dX6_feels_189) hS (fun H locs hP hS => ?_)
        refine lv_aload_n hx hb dX6_feels_192 rfl (lv_at hl 3 rfl) ?_
        refine lv_iload_n hx hb dX6_feels_193 rfl (lv_at hl 4 rfl) ?_
        refine lv_iconst (v := 5) hx hb dX6_feels_194 (by decide) ?_
        refine lv_iload hx hb dX6_feels_195 (lv_at hl 1 rfl) ?_
        refine thn_I (run_S (As := [.int (f_X6_stepOf τ j y)]) (rest := [.int 5, .int (nI j), .ref (z + k)]) C (k_X6_size l D cy z o d σ (t_X6_grow (t_X6_grow (t_X6_grow (t_X6_lay (t_X6_grow (t_X6_lay (t_X6_lay (t_X6_lay τ j (9 + 3 * (MLn τ j)) (f_X6_stepOf τ j y)) j (9 + 3 * (MLn τ j) + 1) w) j (9 + 3 * (MLn τ j) + 2) (f_X6_of τ j 0)) j 8 1) j 0 y) j 1 (f_X6_stepOf τ j y)) j 3 1) j 7 (f_X6_stepOf τ j y)) (f_X6_stepOf τ j y)) hP hS cw_X6_size (mA4 (i := 75) rfl rfl) ⟨rfl, rfl⟩ ⟨Nat.le_of_ble_eq_true rfl, Nat.le_of_ble_eq_true rfl⟩ rfl (Nat.le_of_ble_eq_true rfl) hl.1 ⟨Nat.zero_le _, Nat.zero_le _⟩ dX6_feels_197) hS (fun H locs hP hS => ?_)
        refine thn_V (run_V (As := [.int (nI j), .int 5, .int (f_X6_size (f_X6_stepOf τ j y))]) (rest := []) C (k_X6_grow l D cy z o d σ (t_X6_grow (t_X6_grow (t_X6_grow (t_X6_lay (t_X6_grow (t_X6_lay (t_X6_lay (t_X6_lay τ j (9 + 3 * (MLn τ j)) (f_X6_stepOf τ j y)) j (9 + 3 * (MLn τ j) + 1) w) j (9 + 3 * (MLn τ j) + 2) (f_X6_of τ j 0)) j 8 1) j 0 y) j 1 (f_X6_stepOf τ j y)) j 3 1) j 7 (f_X6_stepOf τ j y)) hk j 5 (f_X6_size (f_X6_stepOf τ j y)) (by omega)) hP hS cw_X6_grow (mA4 (i := 86) rfl rfl) hk ⟨rfl, rfl⟩ ⟨Nat.le_of_ble_eq_true rfl, Nat.le_of_ble_eq_true rfl⟩ rfl (Nat.le_of_ble_eq_true rfl) hl.1 ⟨Nat.zero_le _, Nat.zero_le _⟩ dX6_feels_200) hS (fun H locs hP hS => ?_)
        refine lv_aload_n hx hb dX6_feels_203 rfl (lv_at hl 3 rfl) ?_
        refine lv_iload_n hx hb dX6_feels_204 rfl (lv_at hl 4 rfl) ?_
        refine lv_bipush (v := 6) hx hb dX6_feels_205 (by decide) ?_
        refine lv_iload_n hx hb dX6_feels_207 rfl (lv_at hl 6 rfl) ?_
        refine thn_V (run_V (As := [.int (nI j), .int 6, .int w]) (rest := []) C (k_X6_grow l D cy z o d σ (t_X6_grow (t_X6_grow (t_X6_grow (t_X6_grow (t_X6_lay (t_X6_grow (t_X6_lay (t_X6_lay (t_X6_lay τ j (9 + 3 * (MLn τ j)) (f_X6_stepOf τ j y)) j (9 + 3 * (MLn τ j) + 1) w) j (9 + 3 * (MLn τ j) + 2) (f_X6_of τ j 0)) j 8 1) j 0 y) j 1 (f_X6_stepOf τ j y)) j 3 1) j 7 (f_X6_stepOf τ j y)) j 5 (f_X6_size (f_X6_stepOf τ j y))) hk j 6 w (by omega)) hP hS cw_X6_grow (mA4 (i := 86) rfl rfl) hk ⟨rfl, rfl⟩ ⟨Nat.le_of_ble_eq_true rfl, Nat.le_of_ble_eq_true rfl⟩ rfl (Nat.le_of_ble_eq_true rfl) hl.1 ⟨Nat.zero_le _, Nat.zero_le _⟩ dX6_feels_208) hS (fun H locs hP hS => ?_)
        refine lv_aload_n hx hb dX6_feels_211 rfl (lv_at hl 3 rfl) ?_
        refine lv_iload_n hx hb dX6_feels_212 rfl (lv_at hl 4 rfl) ?_
        refine lv_iload hx hb dX6_feels_213 (lv_at hl 1 rfl) ?_
        refine thn_V (run_V (As := [.int (nI j), .int (f_X6_stepOf τ j y)]) (rest := []) C (k_X6_turns l D cy z o d σ (t_X6_grow (t_X6_grow (t_X6_grow (t_X6_grow (t_X6_grow (t_X6_lay (t_X6_grow (t_X6_lay (t_X6_lay (t_X6_lay τ j (9 + 3 * (MLn τ j)) (f_X6_stepOf τ j y)) j (9 + 3 * (MLn τ j) + 1) w) j (9 + 3 * (MLn τ j) + 2) (f_X6_of τ j 0)) j 8 1) j 0 y) j 1 (f_X6_stepOf τ j y)) j 3 1) j 7 (f_X6_stepOf τ j y)) j 5 (f_X6_size (f_X6_stepOf τ j y))) j 6 w) hk j (f_X6_stepOf τ j y) hj) hP hS cw_X6_turns (mA4 (i := 97) rfl rfl) hk ⟨rfl, rfl⟩ ⟨Nat.le_of_ble_eq_true rfl, Nat.le_of_ble_eq_true rfl⟩ rfl (Nat.le_of_ble_eq_true rfl) hl.1 ⟨Nat.zero_le _, Nat.zero_le _⟩ dX6_feels_215) hS (fun H locs hP hS => ?_)
        refine lv_iload hx hb dX6_feels_218 (lv_at hl 1 rfl) ?_
        exact ret_I C hP hS (nar_i _) rfl (by unfold f_X6_feels; rw [if_neg c_25, if_pos c_159, if_neg c_180]) rfl (by unfold t_X6_feels; rw [if_neg c_25, if_pos c_159, if_neg c_180]) dX6_feels_220
  · refine lv_bipush (v := 57) hx hb dX6_feels_28 (by decide) ?_
    refine lv_iload_n hx hb dX6_feels_30 rfl (lv_at hl 3 rfl) ?_
    refine lv_imul hx hb dX6_feels_31 ?_
    refine lv_bipush (v := 9) hx hb dX6_feels_32 (by decide) ?_
    refine lv_iadd hx hb dX6_feels_34 ?_
    rw [ix_9]
    refine lv_istore (lv' := [(6, .int (nI (57 * j + 9))), (5, .int (f_X6_stepOf τ j y)), (4, .int (f_X6_of τ j 0)), (0, .ref (z + k)), (1, .int (nI j)), (2, .int y), (3, .int w)]) hx hb dX6_feels_35 hl (by decide) rfl (fun ls hl => ?_)
    exact lp_X6_feels C o d hk j y w (f_X6_of τ j 0) (f_X6_stepOf τ j y) (46) (57 * j + 9) σ τ _ _ c_25 (⟨by omega, by omega, by omega, by omega⟩) (by unfold f_X6_feels; rw [if_pos c_25]) (by unfold t_X6_feels; rw [if_pos c_25]) hP hS ls (lv_sub hl [3, 4, 5, 6, 2, 1, 0] rfl)

theorem cw_X6_canGoBack : cwVt yX6_canGoBack cX6_canGoBack 6 (some .boolean) 6 2 := ⟨(mA4 (i := 129) rfl rfl), (mA0 (i := 24) rfl rfl), (mA1 (i := 7) rfl rfl), (mA4 (i := 130) rfl rfl), by decide +kernel, ⟨_, rfl, rfl⟩, by decide⟩
abbrev rm_X6_canGoBack : Room := { frames := 1, cells := 0, slots := 0, locals := 22 }
def gf_X6_canGoBack (τ : Sg) (j L : Nat) : Nat → Int32 → Int32 → Nat → Int32
  | 0, _, _, _ => 0
  | n + 1, x3, x4, i =>
    if L ≤ i then
      if 1000000000 < x3 then
        0
      else
        if 1000000000 < x4 then
          0
        else
          1
    else
      gf_X6_canGoBack τ j L n (x3 + (f_X6_of τ j (9 + 3 * i + 1))) (x4 + (f_X6_size (f_X6_of τ j (9 + 3 * i)))) (i + 1)
set_option maxHeartbeats 4000000 in
set_option maxRecDepth 100000 in
theorem lp_X6_canGoBack {p : Program} {l : Launch} {e : Env} {s : State} {m : MethodId} {args : Array Value} {below : List Frame} {meth : Method} {c : Code} {D : va_G} {cy : Nat → ClassId} {z : Nat} (C : Bd p s m args meth c cX6_canGoBack 6 (some .boolean) RX6 D cy z) (o : Int64) (d : UInt64) {k : Nat} (hk : kd k = 6) (j f L : Nat) {r9 : Int32} :
    ∀ (n : Nat) (x3 : Int32) (x4 : Int32) (i : Nat) (σ τ : Sg) (H : Heap) (locs : List Loc), (f_X6_of τ j 8 = nI L) → (j < 4 ∧ L ≤ 16 ∧ i ≤ L ∧ L + 1 ≤ i + n) → (gf_X6_canGoBack τ j L n x3 x4 i = r9) → WP D cy z σ τ o d H → va_S (fz z) s.heap H locs → ∀ ls : Array Slot, lv_has ls 6 [(0, .ref (z + k)), (1, .int (nI j)), (2, .int (nI f)), (3, .int x3), (4, .int x4), (5, .int (nI i))] → W p l e rm_X6_canGoBack s m args below meth c H locs 0 0 (MQ below (PoI D cy z o d r9 σ τ) args s 0 0 (fz z)) (F0 m 40 ls []) := by
  obtain ⟨hx, hb, hr, hml, hown, hW, hlocks, hAm⟩ := id C
  intro n
  induction n with
  | zero =>
    intro _ _ _ σ τ H locs hL hn9 _ hP hS ls hl
    exact absurd hn9 (by omega)
  | succ n ih =>
    intro x3 x4 i σ τ H locs hL hn9 hr9 hP hS ls hl
    refine lv_iload hx hb dX6_canGoBack_40 (lv_at hl 5 rfl) ?_
    refine lv_aload_n hx hb dX6_canGoBack_42 rfl (lv_at hl 0 rfl) ?_
    refine lv_iload_n hx hb dX6_canGoBack_43 rfl (lv_at hl 1 rfl) ?_
    refine lv_bipush (v := 8) hx hb dX6_canGoBack_44 (by decide) ?_
    refine thn_I (run_V (As := [.int (nI j), .int 8]) (rest := [.int (nI i)]) C (k_X6_of l D cy z o d σ τ hk j 8 (by omega)) hP hS cw_X6_of (mA4 (i := 60) rfl rfl) hk ⟨rfl, rfl⟩ ⟨Nat.le_of_ble_eq_true rfl, Nat.le_of_ble_eq_true rfl⟩ rfl (Nat.le_of_ble_eq_true rfl) hl.1 ⟨Nat.zero_le _, Nat.zero_le _⟩ dX6_canGoBack_46) hS (fun H locs hP hS => ?_)
    rw [hL]
    refine lv_icmp_ge (tgt := 95) hx hb dX6_canGoBack_49 (by decide) (fun c_49 => ?_) (fun c_49 => ?_)
    · have d_49 : L ≤ i := (cI_le rfl rfl (by omega) (by omega)).mp c_49
      refine lv_iload_n hx hb dX6_canGoBack_95 rfl (lv_at hl 3 rfl) ?_
      refine lv_ldc (v := 1000000000) hx hb hown (hW _ (mA4 (i := 64) rfl rfl)) dX6_canGoBack_96 ?_
      refine lv_icmp_gt (tgt := 112) hx hb dX6_canGoBack_98 (by decide) (fun c_98 => ?_) (fun c_98 => ?_)
      · refine lv_iconst (v := 0) hx hb dX6_canGoBack_112 (by decide) ?_
        exact ret_I C hP hS nar_z0 rfl (by rw [← hr9, gf_X6_canGoBack]; rw [if_pos d_49, if_pos c_98]) rfl rfl dX6_canGoBack_113
      · refine lv_iload hx hb dX6_canGoBack_101 (lv_at hl 4 rfl) ?_
        refine lv_ldc (v := 1000000000) hx hb hown (hW _ (mA4 (i := 64) rfl rfl)) dX6_canGoBack_103 ?_
        refine lv_icmp_gt (tgt := 112) hx hb dX6_canGoBack_105 (by decide) (fun c_105 => ?_) (fun c_105 => ?_)
        · refine lv_iconst (v := 0) hx hb dX6_canGoBack_112 (by decide) ?_
          exact ret_I C hP hS nar_z0 rfl (by rw [← hr9, gf_X6_canGoBack]; rw [if_pos d_49, if_neg c_98, if_pos c_105]) rfl rfl dX6_canGoBack_113
        · refine lv_iconst (v := 1) hx hb dX6_canGoBack_108 (by decide) ?_
          refine lv_goto (tgt := 113) hx hb dX6_canGoBack_109 (by decide) ?_
          exact ret_I C hP hS nar_z1 rfl (by rw [← hr9, gf_X6_canGoBack]; rw [if_pos d_49, if_neg c_98, if_neg c_105]) rfl rfl dX6_canGoBack_113
    · have d_49 : ¬ (L ≤ i) := fun h9 => c_49 ((cI_le rfl rfl (by omega) (by omega)).mpr h9)
      refine lv_iload hx hb dX6_canGoBack_52 (lv_at hl 4 rfl) ?_
      refine lv_aload_n hx hb dX6_canGoBack_54 rfl (lv_at hl 0 rfl) ?_
      refine lv_iload_n hx hb dX6_canGoBack_55 rfl (lv_at hl 1 rfl) ?_
      refine lv_bipush (v := 9) hx hb dX6_canGoBack_56 (by decide) ?_
      refine lv_iconst (v := 3) hx hb dX6_canGoBack_58 (by decide) ?_
      refine lv_iload hx hb dX6_canGoBack_59 (lv_at hl 5 rfl) ?_
      refine lv_imul hx hb dX6_canGoBack_61 ?_
      refine lv_iadd hx hb dX6_canGoBack_62 ?_
      rw [at_of]
      refine thn_I (run_V (As := [.int (nI j), .int (nI (9 + 3 * i))]) (rest := [.int x4]) C (k_X6_of l D cy z o d σ τ hk j (9 + 3 * i) (by omega)) hP hS cw_X6_of (mA4 (i := 60) rfl rfl) hk ⟨rfl, rfl⟩ ⟨Nat.le_of_ble_eq_true rfl, Nat.le_of_ble_eq_true rfl⟩ rfl (Nat.le_of_ble_eq_true rfl) hl.1 ⟨Nat.zero_le _, Nat.zero_le _⟩ dX6_canGoBack_63) hS (fun H locs hP hS => ?_)
      refine thn_I (run_S (As := [.int (f_X6_of τ j (9 + 3 * i))]) (rest := [.int x4]) C (k_X6_size l D cy z o d σ τ (f_X6_of τ j (9 + 3 * i))) hP hS cw_X6_size (mA4 (i := 75) rfl rfl) ⟨rfl, rfl⟩ ⟨Nat.le_of_ble_eq_true rfl, Nat.le_of_ble_eq_true rfl⟩ rfl (Nat.le_of_ble_eq_true rfl) hl.1 ⟨Nat.zero_le _, Nat.zero_le _⟩ dX6_canGoBack_66) hS (fun H locs hP hS => ?_)
      refine lv_iadd hx hb dX6_canGoBack_69 ?_
      refine lv_istore (lv' := [(4, .int (x4 + (f_X6_size (f_X6_of τ j (9 + 3 * i))))), (0, .ref (z + k)), (1, .int (nI j)), (2, .int (nI f)), (3, .int x3), (5, .int (nI i))]) hx hb dX6_canGoBack_70 hl (by decide) rfl (fun ls hl => ?_)
      refine lv_iload_n hx hb dX6_canGoBack_72 rfl (lv_at hl 4 rfl) ?_
      refine lv_aload_n hx hb dX6_canGoBack_73 rfl (lv_at hl 1 rfl) ?_
      refine lv_iload_n hx hb dX6_canGoBack_74 rfl (lv_at hl 2 rfl) ?_
      refine lv_bipush (v := 9) hx hb dX6_canGoBack_75 (by decide) ?_
      refine lv_iconst (v := 3) hx hb dX6_canGoBack_77 (by decide) ?_
      refine lv_iload hx hb dX6_canGoBack_78 (lv_at hl 5 rfl) ?_
      refine lv_imul hx hb dX6_canGoBack_80 ?_
      refine lv_iadd hx hb dX6_canGoBack_81 ?_
      rw [at_of]
      refine lv_iconst (v := 1) hx hb dX6_canGoBack_82 (by decide) ?_
      refine lv_iadd hx hb dX6_canGoBack_83 ?_
      rw [nI_1]
      refine thn_I (run_V (As := [.int (nI j), .int (nI (9 + 3 * i + 1))]) (rest := [.int x3]) C (k_X6_of l D cy z o d σ τ hk j (9 + 3 * i + 1) (by omega)) hP hS cw_X6_of (mA4 (i := 60) rfl rfl) hk ⟨rfl, rfl⟩ ⟨Nat.le_of_ble_eq_true rfl, Nat.le_of_ble_eq_true rfl⟩ rfl (Nat.le_of_ble_eq_true rfl) hl.1 ⟨Nat.zero_le _, Nat.zero_le _⟩ dX6_canGoBack_84) hS (fun H locs hP hS => ?_)
      refine lv_iadd hx hb dX6_canGoBack_87 ?_
      refine lv_istore_n (lv' := [(3, .int (x3 + (f_X6_of τ j (9 + 3 * i + 1)))), (4, .int (x4 + (f_X6_size (f_X6_of τ j (9 + 3 * i))))), (0, .ref (z + k)), (1, .int (nI j)), (2, .int (nI f)), (5, .int (nI i))]) hx hb dX6_canGoBack_88 rfl hl (by decide) rfl (fun ls hl => ?_)
      refine lv_iinc (v := nI (i + 1)) (lv' := [(5, .int (nI (i + 1))), (3, .int (x3 + (f_X6_of τ j (9 + 3 * i + 1)))), (4, .int (x4 + (f_X6_size (f_X6_of τ j (9 + 3 * i))))), (0, .ref (z + k)), (1, .int (nI j)), (2, .int (nI f))]) hx hb dX6_canGoBack_89 hl (k := 5) rfl (nI_1 i) (by decide) rfl (fun ls hl => ?_)
      refine lv_goto (tgt := 40) hx hb dX6_canGoBack_92 (by decide) ?_
      exact ih (x3 + (f_X6_of τ j (9 + 3 * i + 1))) (x4 + (f_X6_size (f_X6_of τ j (9 + 3 * i)))) (i + 1) σ τ _ _ hL (⟨by omega, by omega, by omega, by omega⟩) (by rw [← hr9, gf_X6_canGoBack]; rw [if_neg d_49]) hP hS ls (lv_sub hl [3, 4, 5, 1, 2, 0] rfl)
def f_X6_canGoBack (τ : Sg) (j : Nat) (f : Nat) : Int32 :=
  if f ≤ MLn τ j then
    gf_X6_canGoBack τ j (MLn τ j) 17 (f_X6_of τ j 6) (f_X6_of τ j 5) (MLn τ j - f)
  else
    0
set_option maxHeartbeats 4000000 in
set_option maxRecDepth 100000 in
theorem k_X6_canGoBack (l : Launch) (D : va_G) (cy : Nat → ClassId) (z : Nat) (o : Int64) (d : UInt64) (σ τ : Sg) {k : Nat} (hk : kd k = 6) (j : Nat) (f : Nat) (hM : MI τ) (hj : j < 4) (hf : f ≤ 16) : KI l yX6_canGoBack cX6_canGoBack 6 (some .boolean) rm_X6_canGoBack D cy z [.ref (z + k), .int (nI j), .int (nI f)] o d σ τ (f_X6_canGoBack τ j f) σ τ := by
  refine met_of RX6 (plainFor_of_name (by decide)) rfl (Nat.le_of_ble_eq_true rfl) ?_
  intro p e s m args below meth c C hP hS ls hl
  obtain ⟨hx, hb, hr, hml, hown, hW, hlocks, hAm⟩ := id C
  have hl : lv_has ls 6 [(0, .ref (z + k)), (1, .int (nI j)), (2, .int (nI f))] := hl
  refine lv_aload_n hx hb dX6_canGoBack_0 rfl (lv_at hl 0 rfl) ?_
  refine lv_iload_n hx hb dX6_canGoBack_1 rfl (lv_at hl 1 rfl) ?_
  refine lv_bipush (v := 8) hx hb dX6_canGoBack_2 (by decide) ?_
  refine thn_I (run_V (As := [.int (nI j), .int 8]) (rest := []) C (k_X6_of l D cy z o d σ τ hk j 8 (by omega)) hP hS cw_X6_of (mA4 (i := 60) rfl rfl) hk ⟨rfl, rfl⟩ ⟨Nat.le_of_ble_eq_true rfl, Nat.le_of_ble_eq_true rfl⟩ rfl (Nat.le_of_ble_eq_true rfl) hl.1 ⟨Nat.zero_le _, Nat.zero_le _⟩ dX6_canGoBack_4) hS (fun H locs hP hS => ?_)
  have hb9 := (hM.lnf hj).2
  rw [(hM.lnf hj).1]
  refine lv_iload_n hx hb dX6_canGoBack_7 rfl (lv_at hl 2 rfl) ?_
  refine lv_icmp_ge (tgt := 13) hx hb dX6_canGoBack_8 (by decide) (fun c_8 => ?_) (fun c_8 => ?_)
  · have d_8 : f ≤ MLn τ j := (cI_le rfl rfl (by omega) (by omega)).mp c_8
    refine lv_aload_n hx hb dX6_canGoBack_13 rfl (lv_at hl 0 rfl) ?_
    refine lv_iload_n hx hb dX6_canGoBack_14 rfl (lv_at hl 1 rfl) ?_
    refine lv_bipush (v := 6) hx hb dX6_canGoBack_15 (by decide) ?_
    refine thn_I (run_V (As := [.int (nI j), .int 6]) (rest := []) C (k_X6_of l D cy z o d σ τ hk j 6 (by omega)) hP hS cw_X6_of (mA4 (i := 60) rfl rfl) hk ⟨rfl, rfl⟩ ⟨Nat.le_of_ble_eq_true rfl, Nat.le_of_ble_eq_true rfl⟩ rfl (Nat.le_of_ble_eq_true rfl) hl.1 ⟨Nat.zero_le _, Nat.zero_le _⟩ dX6_canGoBack_17) hS (fun H locs hP hS => ?_)
    refine lv_istore_n (lv' := [(3, .int (f_X6_of τ j 6)), (0, .ref (z + k)), (1, .int (nI j)), (2, .int (nI f))]) hx hb dX6_canGoBack_20 rfl hl (by decide) rfl (fun ls hl => ?_)
    refine lv_aload_n hx hb dX6_canGoBack_21 rfl (lv_at hl 1 rfl) ?_
    refine lv_iload_n hx hb dX6_canGoBack_22 rfl (lv_at hl 2 rfl) ?_
    refine lv_iconst (v := 5) hx hb dX6_canGoBack_23 (by decide) ?_
    refine thn_I (run_V (As := [.int (nI j), .int 5]) (rest := []) C (k_X6_of l D cy z o d σ τ hk j 5 (by omega)) hP hS cw_X6_of (mA4 (i := 60) rfl rfl) hk ⟨rfl, rfl⟩ ⟨Nat.le_of_ble_eq_true rfl, Nat.le_of_ble_eq_true rfl⟩ rfl (Nat.le_of_ble_eq_true rfl) hl.1 ⟨Nat.zero_le _, Nat.zero_le _⟩ dX6_canGoBack_24) hS (fun H locs hP hS => ?_)
    refine lv_istore (lv' := [(4, .int (f_X6_of τ j 5)), (3, .int (f_X6_of τ j 6)), (0, .ref (z + k)), (1, .int (nI j)), (2, .int (nI f))]) hx hb dX6_canGoBack_27 hl (by decide) rfl (fun ls hl => ?_)
    refine lv_aload_n hx hb dX6_canGoBack_29 rfl (lv_at hl 2 rfl) ?_
    refine lv_iload_n hx hb dX6_canGoBack_30 rfl (lv_at hl 3 rfl) ?_
    refine lv_bipush (v := 8) hx hb dX6_canGoBack_31 (by decide) ?_
    refine thn_I (run_V (As := [.int (nI j), .int 8]) (rest := []) C (k_X6_of l D cy z o d σ τ hk j 8 (by omega)) hP hS cw_X6_of (mA4 (i := 60) rfl rfl) hk ⟨rfl, rfl⟩ ⟨Nat.le_of_ble_eq_true rfl, Nat.le_of_ble_eq_true rfl⟩ rfl (Nat.le_of_ble_eq_true rfl) hl.1 ⟨Nat.zero_le _, Nat.zero_le _⟩ dX6_canGoBack_33) hS (fun H locs hP hS => ?_)
    rw [(hM.lnf hj).1]
    refine lv_iload_n hx hb dX6_canGoBack_36 rfl (lv_at hl 4 rfl) ?_
    refine lv_isub hx hb dX6_canGoBack_37 ?_
    rw [pk_sub d_8]
    refine lv_istore (lv' := [(5, .int (nI (MLn τ j - f))), (4, .int (f_X6_of τ j 5)), (3, .int (f_X6_of τ j 6)), (0, .ref (z + k)), (1, .int (nI j)), (2, .int (nI f))]) hx hb dX6_canGoBack_38 hl (by decide) rfl (fun ls hl => ?_)
    exact lp_X6_canGoBack C o d hk j f (MLn τ j) (17) (f_X6_of τ j 6) (f_X6_of τ j 5) (MLn τ j - f) σ τ _ _ ((hM.lnf hj).1) (⟨hj, (hM.lnf hj).2, by omega, by omega⟩) (by unfold f_X6_canGoBack; rw [if_pos d_8]) hP hS ls (lv_sub hl [3, 4, 5, 2, 1, 0] rfl)
  · have d_8 : ¬ (f ≤ MLn τ j) := fun h9 => c_8 ((cI_le rfl rfl (by omega) (by omega)).mpr h9)
    refine lv_iconst (v := 0) hx hb dX6_canGoBack_11 (by decide) ?_
    exact ret_I C hP hS nar_z0 rfl (by unfold f_X6_canGoBack; rw [if_neg d_8]) rfl rfl dX6_canGoBack_12

theorem cw_X6_goesBack : cwVt yX6_goesBack cX6_goesBack 7 (some .int) 6 2 := ⟨(mA4 (i := 133) rfl rfl), (mA0 (i := 25) rfl rfl), (mA1 (i := 7) rfl rfl), (mA4 (i := 134) rfl rfl), by decide +kernel, ⟨_, rfl, rfl⟩, by decide⟩
abbrev rm_X6_goesBack : Room := { frames := 2, cells := 0, slots := 0, locals := 45 }
def gf_X6_goesBack (j f : Nat) : Nat → Nat → Sg → Int32
  | 0, _, _ => 0
  | n + 1, i, τ =>
    if f ≤ i then
      f_X6_of τ j 1
    else
      if (f_X6_isA (f_X6_of (t_X6_grow τ j 8 (-1)) j (9 + 3 * (MLn (t_X6_grow τ j 8 (-1)) j) + 2)) (f_X6_of (t_X6_grow τ j 8 (-1)) j 0)) = 0 then
        gf_X6_goesBack j f n (i + 1) (t_X6_lay (t_X6_lay (t_X6_lay (t_X6_turns (t_X6_lay (t_X6_grow (t_X6_grow (t_X6_grow (t_X6_grow (t_X6_grow τ j 8 (-1)) j 7 0) j 1 (-(f_X6_of (t_X6_grow τ j 8 (-1)) j (9 + 3 * (MLn (t_X6_grow τ j 8 (-1)) j))))) j 5 (f_X6_size (f_X6_of (t_X6_grow τ j 8 (-1)) j (9 + 3 * (MLn (t_X6_grow τ j 8 (-1)) j))))) j 6 (f_X6_of (t_X6_grow (t_X6_grow (t_X6_grow (t_X6_grow τ j 8 (-1)) j 7 0) j 1 (-(f_X6_of (t_X6_grow τ j 8 (-1)) j (9 + 3 * (MLn (t_X6_grow τ j 8 (-1)) j))))) j 5 (f_X6_size (f_X6_of (t_X6_grow τ j 8 (-1)) j (9 + 3 * (MLn (t_X6_grow τ j 8 (-1)) j))))) j (9 + 3 * (MLn (t_X6_grow τ j 8 (-1)) j) + 1))) j 0 (f_X6_of (t_X6_grow τ j 8 (-1)) j (9 + 3 * (MLn (t_X6_grow τ j 8 (-1)) j) + 2))) j (-(f_X6_of (t_X6_grow τ j 8 (-1)) j (9 + 3 * (MLn (t_X6_grow τ j 8 (-1)) j))))) j (9 + 3 * (MLn (t_X6_grow τ j 8 (-1)) j)) 0) j (9 + 3 * (MLn (t_X6_grow τ j 8 (-1)) j) + 1) 0) j (9 + 3 * (MLn (t_X6_grow τ j 8 (-1)) j) + 2) 0)
      else
        gf_X6_goesBack j f n (i + 1) (t_X6_lay (t_X6_lay (t_X6_lay (t_X6_turns (t_X6_lay (t_X6_grow (t_X6_grow (t_X6_grow (t_X6_grow (t_X6_grow τ j 8 (-1)) j 7 (-(f_X6_of (t_X6_grow τ j 8 (-1)) j (9 + 3 * (MLn (t_X6_grow τ j 8 (-1)) j))))) j 1 (-(f_X6_of (t_X6_grow τ j 8 (-1)) j (9 + 3 * (MLn (t_X6_grow τ j 8 (-1)) j))))) j 5 (f_X6_size (f_X6_of (t_X6_grow τ j 8 (-1)) j (9 + 3 * (MLn (t_X6_grow τ j 8 (-1)) j))))) j 6 (f_X6_of (t_X6_grow (t_X6_grow (t_X6_grow (t_X6_grow τ j 8 (-1)) j 7 (-(f_X6_of (t_X6_grow τ j 8 (-1)) j (9 + 3 * (MLn (t_X6_grow τ j 8 (-1)) j))))) j 1 (-(f_X6_of (t_X6_grow τ j 8 (-1)) j (9 + 3 * (MLn (t_X6_grow τ j 8 (-1)) j))))) j 5 (f_X6_size (f_X6_of (t_X6_grow τ j 8 (-1)) j (9 + 3 * (MLn (t_X6_grow τ j 8 (-1)) j))))) j (9 + 3 * (MLn (t_X6_grow τ j 8 (-1)) j) + 1))) j 0 (f_X6_of (t_X6_grow τ j 8 (-1)) j (9 + 3 * (MLn (t_X6_grow τ j 8 (-1)) j) + 2))) j (-(f_X6_of (t_X6_grow τ j 8 (-1)) j (9 + 3 * (MLn (t_X6_grow τ j 8 (-1)) j))))) j (9 + 3 * (MLn (t_X6_grow τ j 8 (-1)) j)) 0) j (9 + 3 * (MLn (t_X6_grow τ j 8 (-1)) j) + 1) 0) j (9 + 3 * (MLn (t_X6_grow τ j 8 (-1)) j) + 2) 0)
def gt_X6_goesBack (j f : Nat) : Nat → Nat → Sg → Sg
  | 0, _, τ => τ
  | n + 1, i, τ =>
    if f ≤ i then
      τ
    else
      if (f_X6_isA (f_X6_of (t_X6_grow τ j 8 (-1)) j (9 + 3 * (MLn (t_X6_grow τ j 8 (-1)) j) + 2)) (f_X6_of (t_X6_grow τ j 8 (-1)) j 0)) = 0 then
        gt_X6_goesBack j f n (i + 1) (t_X6_lay (t_X6_lay (t_X6_lay (t_X6_turns (t_X6_lay (t_X6_grow (t_X6_grow (t_X6_grow (t_X6_grow (t_X6_grow τ j 8 (-1)) j 7 0) j 1 (-(f_X6_of (t_X6_grow τ j 8 (-1)) j (9 + 3 * (MLn (t_X6_grow τ j 8 (-1)) j))))) j 5 (f_X6_size (f_X6_of (t_X6_grow τ j 8 (-1)) j (9 + 3 * (MLn (t_X6_grow τ j 8 (-1)) j))))) j 6 (f_X6_of (t_X6_grow (t_X6_grow (t_X6_grow (t_X6_grow τ j 8 (-1)) j 7 0) j 1 (-(f_X6_of (t_X6_grow τ j 8 (-1)) j (9 + 3 * (MLn (t_X6_grow τ j 8 (-1)) j))))) j 5 (f_X6_size (f_X6_of (t_X6_grow τ j 8 (-1)) j (9 + 3 * (MLn (t_X6_grow τ j 8 (-1)) j))))) j (9 + 3 * (MLn (t_X6_grow τ j 8 (-1)) j) + 1))) j 0 (f_X6_of (t_X6_grow τ j 8 (-1)) j (9 + 3 * (MLn (t_X6_grow τ j 8 (-1)) j) + 2))) j (-(f_X6_of (t_X6_grow τ j 8 (-1)) j (9 + 3 * (MLn (t_X6_grow τ j 8 (-1)) j))))) j (9 + 3 * (MLn (t_X6_grow τ j 8 (-1)) j)) 0) j (9 + 3 * (MLn (t_X6_grow τ j 8 (-1)) j) + 1) 0) j (9 + 3 * (MLn (t_X6_grow τ j 8 (-1)) j) + 2) 0)
      else
        gt_X6_goesBack j f n (i + 1) (t_X6_lay (t_X6_lay (t_X6_lay (t_X6_turns (t_X6_lay (t_X6_grow (t_X6_grow (t_X6_grow (t_X6_grow (t_X6_grow τ j 8 (-1)) j 7 (-(f_X6_of (t_X6_grow τ j 8 (-1)) j (9 + 3 * (MLn (t_X6_grow τ j 8 (-1)) j))))) j 1 (-(f_X6_of (t_X6_grow τ j 8 (-1)) j (9 + 3 * (MLn (t_X6_grow τ j 8 (-1)) j))))) j 5 (f_X6_size (f_X6_of (t_X6_grow τ j 8 (-1)) j (9 + 3 * (MLn (t_X6_grow τ j 8 (-1)) j))))) j 6 (f_X6_of (t_X6_grow (t_X6_grow (t_X6_grow (t_X6_grow τ j 8 (-1)) j 7 (-(f_X6_of (t_X6_grow τ j 8 (-1)) j (9 + 3 * (MLn (t_X6_grow τ j 8 (-1)) j))))) j 1 (-(f_X6_of (t_X6_grow τ j 8 (-1)) j (9 + 3 * (MLn (t_X6_grow τ j 8 (-1)) j))))) j 5 (f_X6_size (f_X6_of (t_X6_grow τ j 8 (-1)) j (9 + 3 * (MLn (t_X6_grow τ j 8 (-1)) j))))) j (9 + 3 * (MLn (t_X6_grow τ j 8 (-1)) j) + 1))) j 0 (f_X6_of (t_X6_grow τ j 8 (-1)) j (9 + 3 * (MLn (t_X6_grow τ j 8 (-1)) j) + 2))) j (-(f_X6_of (t_X6_grow τ j 8 (-1)) j (9 + 3 * (MLn (t_X6_grow τ j 8 (-1)) j))))) j (9 + 3 * (MLn (t_X6_grow τ j 8 (-1)) j)) 0) j (9 + 3 * (MLn (t_X6_grow τ j 8 (-1)) j) + 1) 0) j (9 + 3 * (MLn (t_X6_grow τ j 8 (-1)) j) + 2) 0)
set_option maxHeartbeats 4000000 in
set_option maxRecDepth 100000 in
theorem lp_X6_goesBack {p : Program} {l : Launch} {e : Env} {s : State} {m : MethodId} {args : Array Value} {below : List Frame} {meth : Method} {c : Code} {D : va_G} {cy : Nat → ClassId} {z : Nat} (C : Bd p s m args meth c cX6_goesBack 7 (some .int) RX6 D cy z) (o : Int64) (d : UInt64) {k : Nat} (hk : kd k = 6) (j f q : Nat) {r9 : Int32} {τ9 : Sg} :
    ∀ (n : Nat) (i : Nat) (σ τ : Sg) (H : Heap) (locs : List Loc), (τ 1 (57 * j + 8) = nI (q - i)) → (j < 4 ∧ f ≤ q ∧ q ≤ 16 ∧ i ≤ f ∧ f + 1 ≤ i + n) → (gf_X6_goesBack j f n i τ = r9) → (gt_X6_goesBack j f n i τ = τ9) → WP D cy z σ τ o d H → va_S (fz z) s.heap H locs → ∀ ls : Array Slot, lv_has ls 7 [(0, .ref (z + k)), (1, .int (nI j)), (2, .int (nI f)), (3, .int (nI i))] → W p l e rm_X6_goesBack s m args below meth c H locs 0 0 (MQ below (PoI D cy z o d r9 σ τ9) args s 0 0 (fz z)) (F0 m 2 ls []) := by
  obtain ⟨hx, hb, hr, hml, hown, hW, hlocks, hAm⟩ := id C
  intro n
  induction n with
  | zero =>
    intro _ σ τ H locs h8 hn9 _ _ hP hS ls hl
    exact absurd hn9 (by omega)
  | succ n ih =>
    intro i σ τ H locs h8 hn9 hr9 ht9 hP hS ls hl
    have hj := hn9.1
    refine lv_iload_n hx hb dX6_goesBack_2 rfl (lv_at hl 3 rfl) ?_
    refine lv_iload_n hx hb dX6_goesBack_3 rfl (lv_at hl 2 rfl) ?_
    refine lv_icmp_ge (tgt := 163) hx hb dX6_goesBack_4 (by decide) (fun c_4 => ?_) (fun c_4 => ?_)
    · have d_4 : f ≤ i := (cI_le rfl rfl (by omega) (by omega)).mp c_4
      refine lv_aload_n hx hb dX6_goesBack_163 rfl (lv_at hl 0 rfl) ?_
      refine lv_iload_n hx hb dX6_goesBack_164 rfl (lv_at hl 1 rfl) ?_
      refine lv_iconst (v := 1) hx hb dX6_goesBack_165 (by decide) ?_
      refine thn_I (run_V (As := [.int (nI j), .int 1]) (rest := []) C (k_X6_of l D cy z o d σ τ hk j 1 (by omega)) hP hS cw_X6_of (mA4 (i := 60) rfl rfl) hk ⟨rfl, rfl⟩ ⟨Nat.le_of_ble_eq_true rfl, Nat.le_of_ble_eq_true rfl⟩ rfl (Nat.le_of_ble_eq_true rfl) hl.1 ⟨Nat.zero_le _, Nat.zero_le _⟩ dX6_goesBack_166) hS (fun H locs hP hS => ?_)
      exact ret_I C hP hS (nar_i _) rfl (by rw [← hr9, gf_X6_goesBack]; rw [if_pos d_4]) rfl (by rw [← ht9, gt_X6_goesBack]; rw [if_pos d_4]) dX6_goesBack_169
    · have d_4 : ¬ (f ≤ i) := fun h9 => c_4 ((cI_le rfl rfl (by omega) (by omega)).mpr h9)
      refine lv_aload_n hx hb dX6_goesBack_7 rfl (lv_at hl 0 rfl) ?_
      refine lv_iload_n hx hb dX6_goesBack_8 rfl (lv_at hl 1 rfl) ?_
      refine lv_bipush (v := 8) hx hb dX6_goesBack_9 (by decide) ?_
      refine lv_iconst (v := (-1)) hx hb dX6_goesBack_11 (by decide) ?_
      refine thn_V (run_V (As := [.int (nI j), .int 8, .int (-1)]) (rest := []) C (k_X6_grow l D cy z o d σ τ hk j 8 (-1) (by omega)) hP hS cw_X6_grow (mA4 (i := 86) rfl rfl) hk ⟨rfl, rfl⟩ ⟨Nat.le_of_ble_eq_true rfl, Nat.le_of_ble_eq_true rfl⟩ rfl (Nat.le_of_ble_eq_true rfl) hl.1 ⟨Nat.zero_le _, Nat.zero_le _⟩ dX6_goesBack_12) hS (fun H locs hP hS => ?_)
      refine lv_bipush (v := 9) hx hb dX6_goesBack_15 (by decide) ?_
      refine lv_iconst (v := 3) hx hb dX6_goesBack_17 (by decide) ?_
      refine lv_aload_n hx hb dX6_goesBack_18 rfl (lv_at hl 0 rfl) ?_
      refine lv_iload_n hx hb dX6_goesBack_19 rfl (lv_at hl 1 rfl) ?_
      refine lv_bipush (v := 8) hx hb dX6_goesBack_20 (by decide) ?_
      refine thn_I (run_V (As := [.int (nI j), .int 8]) (rest := [.int 3, .int 9]) C (k_X6_of l D cy z o d σ (t_X6_grow τ j 8 (-1)) hk j 8 (by omega)) hP hS cw_X6_of (mA4 (i := 60) rfl rfl) hk ⟨rfl, rfl⟩ ⟨Nat.le_of_ble_eq_true rfl, Nat.le_of_ble_eq_true rfl⟩ rfl (Nat.le_of_ble_eq_true rfl) hl.1 ⟨Nat.zero_le _, Nat.zero_le _⟩ dX6_goesBack_22) hS (fun H locs hP hS => ?_)
      obtain ⟨e9, b9⟩ : f_X6_of (t_X6_grow τ j 8 (-1)) j 8 = nI (MLn (t_X6_grow τ j 8 (-1)) j) ∧ MLn (t_X6_grow τ j 8 (-1)) j ≤ 15 := by exact mlG h8 (by omega) (by omega)
      rw [e9]
      refine lv_imul hx hb dX6_goesBack_25 ?_
      refine lv_iadd hx hb dX6_goesBack_26 ?_
      rw [at_of]
      refine lv_istore (lv' := [(4, .int (nI (9 + 3 * (MLn (t_X6_grow τ j 8 (-1)) j)))), (0, .ref (z + k)), (1, .int (nI j)), (2, .int (nI f)), (3, .int (nI i))]) hx hb dX6_goesBack_27 hl (by decide) rfl (fun ls hl => ?_)
      refine lv_aload_n hx hb dX6_goesBack_29 rfl (lv_at hl 1 rfl) ?_
      refine lv_iload_n hx hb dX6_goesBack_30 rfl (lv_at hl 2 rfl) ?_
      refine lv_iload hx hb dX6_goesBack_31 (lv_at hl 0 rfl) ?_
      refine thn_I (run_V (As := [.int (nI j), .int (nI (9 + 3 * (MLn (t_X6_grow τ j 8 (-1)) j)))]) (rest := []) C (k_X6_of l D cy z o d σ (t_X6_grow τ j 8 (-1)) hk j (9 + 3 * (MLn (t_X6_grow τ j 8 (-1)) j)) (by omega)) hP hS cw_X6_of (mA4 (i := 60) rfl rfl) hk ⟨rfl, rfl⟩ ⟨Nat.le_of_ble_eq_true rfl, Nat.le_of_ble_eq_true rfl⟩ rfl (Nat.le_of_ble_eq_true rfl) hl.1 ⟨Nat.zero_le _, Nat.zero_le _⟩ dX6_goesBack_33) hS (fun H locs hP hS => ?_)
      refine lv_istore (lv' := [(5, .int (f_X6_of (t_X6_grow τ j 8 (-1)) j (9 + 3 * (MLn (t_X6_grow τ j 8 (-1)) j)))), (4, .int (nI (9 + 3 * (MLn (t_X6_grow τ j 8 (-1)) j)))), (0, .ref (z + k)), (1, .int (nI j)), (2, .int (nI f)), (3, .int (nI i))]) hx hb dX6_goesBack_36 hl (by decide) rfl (fun ls hl => ?_)
      refine lv_aload_n hx hb dX6_goesBack_38 rfl (lv_at hl 2 rfl) ?_
      refine lv_iload_n hx hb dX6_goesBack_39 rfl (lv_at hl 3 rfl) ?_
      refine lv_iload hx hb dX6_goesBack_40 (lv_at hl 1 rfl) ?_
      refine lv_iconst (v := 2) hx hb dX6_goesBack_42 (by decide) ?_
      refine lv_iadd hx hb dX6_goesBack_43 ?_
      rw [nI_2]
      refine thn_I (run_V (As := [.int (nI j), .int (nI (9 + 3 * (MLn (t_X6_grow τ j 8 (-1)) j) + 2))]) (rest := []) C (k_X6_of l D cy z o d σ (t_X6_grow τ j 8 (-1)) hk j (9 + 3 * (MLn (t_X6_grow τ j 8 (-1)) j) + 2) (by omega)) hP hS cw_X6_of (mA4 (i := 60) rfl rfl) hk ⟨rfl, rfl⟩ ⟨Nat.le_of_ble_eq_true rfl, Nat.le_of_ble_eq_true rfl⟩ rfl (Nat.le_of_ble_eq_true rfl) hl.1 ⟨Nat.zero_le _, Nat.zero_le _⟩ dX6_goesBack_44) hS (fun H locs hP hS => ?_)
      refine lv_istore (lv' := [(6, .int (f_X6_of (t_X6_grow τ j 8 (-1)) j (9 + 3 * (MLn (t_X6_grow τ j 8 (-1)) j) + 2))), (5, .int (f_X6_of (t_X6_grow τ j 8 (-1)) j (9 + 3 * (MLn (t_X6_grow τ j 8 (-1)) j)))), (4, .int (nI (9 + 3 * (MLn (t_X6_grow τ j 8 (-1)) j)))), (0, .ref (z + k)), (1, .int (nI j)), (2, .int (nI f)), (3, .int (nI i))]) hx hb dX6_goesBack_47 hl (by decide) rfl (fun ls hl => ?_)
      refine lv_aload_n hx hb dX6_goesBack_49 rfl (lv_at hl 3 rfl) ?_
      refine lv_iload_n hx hb dX6_goesBack_50 rfl (lv_at hl 4 rfl) ?_
      refine lv_bipush (v := 7) hx hb dX6_goesBack_51 (by decide) ?_
      refine lv_iload hx hb dX6_goesBack_53 (lv_at hl 0 rfl) ?_
      refine lv_aload_n hx hb dX6_goesBack_55 rfl (lv_at hl 3 rfl) ?_
      refine lv_iload_n hx hb dX6_goesBack_56 rfl (lv_at hl 4 rfl) ?_
      refine lv_iconst (v := 0) hx hb dX6_goesBack_57 (by decide) ?_
      refine thn_I (run_V (As := [.int (nI j), .int 0]) (rest := [.int (f_X6_of (t_X6_grow τ j 8 (-1)) j (9 + 3 * (MLn (t_X6_grow τ j 8 (-1)) j) + 2)), .int 7, .int (nI j), .ref (z + k)]) C (k_X6_of l D cy z o d σ (t_X6_grow τ j 8 (-1)) hk j 0 (by omega)) hP hS cw_X6_of (mA4 (i := 60) rfl rfl) hk ⟨rfl, rfl⟩ ⟨Nat.le_of_ble_eq_true rfl, Nat.le_of_ble_eq_true rfl⟩ rfl (Nat.le_of_ble_eq_true rfl) hl.1 ⟨Nat.zero_le _, Nat.zero_le _⟩ dX6_goesBack_58) hS (fun H locs hP hS => ?_)
      refine thn_I (run_S (As := [.int (f_X6_of (t_X6_grow τ j 8 (-1)) j (9 + 3 * (MLn (t_X6_grow τ j 8 (-1)) j) + 2)), .int (f_X6_of (t_X6_grow τ j 8 (-1)) j 0)]) (rest := [.int 7, .int (nI j), .ref (z + k)]) C (k_X6_isA l D cy z o d σ (t_X6_grow τ j 8 (-1)) (f_X6_of (t_X6_grow τ j 8 (-1)) j (9 + 3 * (MLn (t_X6_grow τ j 8 (-1)) j) + 2)) (f_X6_of (t_X6_grow τ j 8 (-1)) j 0)) hP hS cw_X6_isA (mA4 (i := 94) rfl rfl) ⟨rfl, rfl⟩ ⟨Nat.le_of_ble_eq_true rfl, Nat.le_of_ble_eq_true rfl⟩ rfl (Nat.le_of_ble_eq_true rfl) hl.1 ⟨Nat.zero_le _, Nat.zero_le _⟩ dX6_goesBack_61) hS (fun H locs hP hS => ?_)
      refine lv_if_eq (tgt := 73) hx hb dX6_goesBack_64 (by decide) (fun c_64 => ?_) (fun c_64 => ?_)
      · refine lv_iconst (v := 0) hx hb dX6_goesBack_73 (by decide) ?_
        refine thn_V (run_V (As := [.int (nI j), .int 7, .int 0]) (rest := []) C (k_X6_grow l D cy z o d σ (t_X6_grow τ j 8 (-1)) hk j 7 0 (by omega)) hP hS cw_X6_grow (mA4 (i := 86) rfl rfl) hk ⟨rfl, rfl⟩ ⟨Nat.le_of_ble_eq_true rfl, Nat.le_of_ble_eq_true rfl⟩ rfl (Nat.le_of_ble_eq_true rfl) hl.1 ⟨Nat.zero_le _, Nat.zero_le _⟩ dX6_goesBack_74) hS (fun H locs hP hS => ?_)
        refine lv_aload_n hx hb dX6_goesBack_77 rfl (lv_at hl 3 rfl) ?_
        refine lv_iload_n hx hb dX6_goesBack_78 rfl (lv_at hl 4 rfl) ?_
        refine lv_iconst (v := 1) hx hb dX6_goesBack_79 (by decide) ?_
        refine lv_iload hx hb dX6_goesBack_80 (lv_at hl 1 rfl) ?_
        refine lv_ineg hx hb dX6_goesBack_82 ?_
        refine thn_V (run_V (As := [.int (nI j), .int 1, .int (-(f_X6_of (t_X6_grow τ j 8 (-1)) j (9 + 3 * (MLn (t_X6_grow τ j 8 (-1)) j))))]) (rest := []) C (k_X6_grow l D cy z o d σ (t_X6_grow (t_X6_grow τ j 8 (-1)) j 7 0) hk j 1 (-(f_X6_of (t_X6_grow τ j 8 (-1)) j (9 + 3 * (MLn (t_X6_grow τ j 8 (-1)) j)))) (by omega)) hP hS cw_X6_grow (mA4 (i := 86) rfl rfl) hk ⟨rfl, rfl⟩ ⟨Nat.le_of_ble_eq_true rfl, Nat.le_of_ble_eq_true rfl⟩ rfl (Nat.le_of_ble_eq_true rfl) hl.1 ⟨Nat.zero_le _, Nat.zero_le _⟩ dX6_goesBack_83) hS (fun H locs hP hS => ?_)
        refine lv_aload_n hx hb dX6_goesBack_86 rfl (lv_at hl 3 rfl) ?_
        refine lv_iload_n hx hb dX6_goesBack_87 rfl (lv_at hl 4 rfl) ?_
        refine lv_iconst (v := 5) hx hb dX6_goesBack_88 (by decide) ?_
        refine lv_iload hx hb dX6_goesBack_89 (lv_at hl 1 rfl) ?_
        refine thn_I (run_S (As := [.int (f_X6_of (t_X6_grow τ j 8 (-1)) j (9 + 3 * (MLn (t_X6_grow τ j 8 (-1)) j)))]) (rest := [.int 5, .int (nI j), .ref (z + k)]) C (k_X6_size l D cy z o d σ (t_X6_grow (t_X6_grow (t_X6_grow τ j 8 (-1)) j 7 0) j 1 (-(f_X6_of (t_X6_grow τ j 8 (-1)) j (9 + 3 * (MLn (t_X6_grow τ j 8 (-1)) j))))) (f_X6_of (t_X6_grow τ j 8 (-1)) j (9 + 3 * (MLn (t_X6_grow τ j 8 (-1)) j)))) hP hS cw_X6_size (mA4 (i := 75) rfl rfl) ⟨rfl, rfl⟩ ⟨Nat.le_of_ble_eq_true rfl, Nat.le_of_ble_eq_true rfl⟩ rfl (Nat.le_of_ble_eq_true rfl) hl.1 ⟨Nat.zero_le _, Nat.zero_le _⟩ dX6_goesBack_91) hS (fun H locs hP hS => ?_)
        refine thn_V (run_V (As := [.int (nI j), .int 5, .int (f_X6_size (f_X6_of (t_X6_grow τ j 8 (-1)) j (9 + 3 * (MLn (t_X6_grow τ j 8 (-1)) j))))]) (rest := []) C (k_X6_grow l D cy z o d σ (t_X6_grow (t_X6_grow (t_X6_grow τ j 8 (-1)) j 7 0) j 1 (-(f_X6_of (t_X6_grow τ j 8 (-1)) j (9 + 3 * (MLn (t_X6_grow τ j 8 (-1)) j))))) hk j 5 (f_X6_size (f_X6_of (t_X6_grow τ j 8 (-1)) j (9 + 3 * (MLn (t_X6_grow τ j 8 (-1)) j)))) (by omega)) hP hS cw_X6_grow (mA4 (i := 86) rfl rfl) hk ⟨rfl, rfl⟩ ⟨Nat.le_of_ble_eq_true rfl, Nat.le_of_ble_eq_true rfl⟩ rfl (Nat.le_of_ble_eq_true rfl) hl.1 ⟨Nat.zero_le _, Nat.zero_le _⟩ dX6_goesBack_94) hS (fun H locs hP hS => ?_)
        refine lv_aload_n hx hb dX6_goesBack_97 rfl (lv_at hl 3 rfl) ?_
        refine lv_iload_n hx hb dX6_goesBack_98 rfl (lv_at hl 4 rfl) ?_
        refine lv_bipush (v := 6) hx hb dX6_goesBack_99 (by decide) ?_
        refine lv_aload_n hx hb dX6_goesBack_101 rfl (lv_at hl 3 rfl) ?_
        refine lv_iload_n hx hb dX6_goesBack_102 rfl (lv_at hl 4 rfl) ?_
        refine lv_iload hx hb dX6_goesBack_103 (lv_at hl 2 rfl) ?_
        refine lv_iconst (v := 1) hx hb dX6_goesBack_105 (by decide) ?_
        refine lv_iadd hx hb dX6_goesBack_106 ?_
        rw [nI_1]
        refine thn_I (run_V (As := [.int (nI j), .int (nI (9 + 3 * (MLn (t_X6_grow τ j 8 (-1)) j) + 1))]) (rest := [.int 6, .int (nI j), .ref (z + k)]) C (k_X6_of l D cy z o d σ (t_X6_grow (t_X6_grow (t_X6_grow (t_X6_grow τ j 8 (-1)) j 7 0) j 1 (-(f_X6_of (t_X6_grow τ j 8 (-1)) j (9 + 3 * (MLn (t_X6_grow τ j 8 (-1)) j))))) j 5 (f_X6_size (f_X6_of (t_X6_grow τ j 8 (-1)) j (9 + 3 * (MLn (t_X6_grow τ j 8 (-1)) j))))) hk j (9 + 3 * (MLn (t_X6_grow τ j 8 (-1)) j) + 1) (by omega)) hP hS cw_X6_of (mA4 (i := 60) rfl rfl) hk ⟨rfl, rfl⟩ ⟨Nat.le_of_ble_eq_true rfl, Nat.le_of_ble_eq_true rfl⟩ rfl (Nat.le_of_ble_eq_true rfl) hl.1 ⟨Nat.zero_le _, Nat.zero_le _⟩ dX6_goesBack_107) hS (fun H locs hP hS => ?_)
        refine thn_V (run_V (As := [.int (nI j), .int 6, .int (f_X6_of (t_X6_grow (t_X6_grow (t_X6_grow (t_X6_grow τ j 8 (-1)) j 7 0) j 1 (-(f_X6_of (t_X6_grow τ j 8 (-1)) j (9 + 3 * (MLn (t_X6_grow τ j 8 (-1)) j))))) j 5 (f_X6_size (f_X6_of (t_X6_grow τ j 8 (-1)) j (9 + 3 * (MLn (t_X6_grow τ j 8 (-1)) j))))) j (9 + 3 * (MLn (t_X6_grow τ j 8 (-1)) j) + 1))]) (rest := []) C (k_X6_grow l D cy z o d σ (t_X6_grow (t_X6_grow (t_X6_grow (t_X6_grow τ j 8 (-1)) j 7 0) j 1 (-(f_X6_of (t_X6_grow τ j 8 (-1)) j (9 + 3 * (MLn (t_X6_grow τ j 8 (-1)) j))))) j 5 (f_X6_size (f_X6_of (t_X6_grow τ j 8 (-1)) j (9 + 3 * (MLn (t_X6_grow τ j 8 (-1)) j))))) hk j 6 (f_X6_of (t_X6_grow (t_X6_grow (t_X6_grow (t_X6_grow τ j 8 (-1)) j 7 0) j 1 (-(f_X6_of (t_X6_grow τ j 8 (-1)) j (9 + 3 * (MLn (t_X6_grow τ j 8 (-1)) j))))) j 5 (f_X6_size (f_X6_of (t_X6_grow τ j 8 (-1)) j (9 + 3 * (MLn (t_X6_grow τ j 8 (-1)) j))))) j (9 + 3 * (MLn (t_X6_grow τ j 8 (-1)) j) + 1)) (by omega)) hP hS cw_X6_grow (mA4 (i := 86) rfl rfl) hk ⟨rfl, rfl⟩ ⟨Nat.le_of_ble_eq_true rfl, Nat.le_of_ble_eq_true rfl⟩ rfl (Nat.le_of_ble_eq_true rfl) hl.1 ⟨Nat.zero_le _, Nat.zero_le _⟩ dX6_goesBack_110) hS (fun H locs hP hS => ?_)
        refine lv_aload_n hx hb dX6_goesBack_113 rfl (lv_at hl 3 rfl) ?_
        refine lv_iload_n hx hb dX6_goesBack_114 rfl (lv_at hl 4 rfl) ?_
        refine lv_iconst (v := 0) hx hb dX6_goesBack_115 (by decide) ?_
        refine lv_iload hx hb dX6_goesBack_116 (lv_at hl 0 rfl) ?_
        refine thn_V (run_V (As := [.int (nI j), .int 0, .int (f_X6_of (t_X6_grow τ j 8 (-1)) j (9 + 3 * (MLn (t_X6_grow τ j 8 (-1)) j) + 2))]) (rest := []) C (k_X6_lay l D cy z o d σ (t_X6_grow (t_X6_grow (t_X6_grow (t_X6_grow (t_X6_grow τ j 8 (-1)) j 7 0) j 1 (-(f_X6_of (t_X6_grow τ j 8 (-1)) j (9 + 3 * (MLn (t_X6_grow τ j 8 (-1)) j))))) j 5 (f_X6_size (f_X6_of (t_X6_grow τ j 8 (-1)) j (9 + 3 * (MLn (t_X6_grow τ j 8 (-1)) j))))) j 6 (f_X6_of (t_X6_grow (t_X6_grow (t_X6_grow (t_X6_grow τ j 8 (-1)) j 7 0) j 1 (-(f_X6_of (t_X6_grow τ j 8 (-1)) j (9 + 3 * (MLn (t_X6_grow τ j 8 (-1)) j))))) j 5 (f_X6_size (f_X6_of (t_X6_grow τ j 8 (-1)) j (9 + 3 * (MLn (t_X6_grow τ j 8 (-1)) j))))) j (9 + 3 * (MLn (t_X6_grow τ j 8 (-1)) j) + 1))) hk j 0 (f_X6_of (t_X6_grow τ j 8 (-1)) j (9 + 3 * (MLn (t_X6_grow τ j 8 (-1)) j) + 2)) (by omega)) hP hS cw_X6_lay (mA4 (i := 90) rfl rfl) hk ⟨rfl, rfl⟩ ⟨Nat.le_of_ble_eq_true rfl, Nat.le_of_ble_eq_true rfl⟩ rfl (Nat.le_of_ble_eq_true rfl) hl.1 ⟨Nat.zero_le _, Nat.zero_le _⟩ dX6_goesBack_118) hS (fun H locs hP hS => ?_)
        refine lv_aload_n hx hb dX6_goesBack_121 rfl (lv_at hl 3 rfl) ?_
        refine lv_iload_n hx hb dX6_goesBack_122 rfl (lv_at hl 4 rfl) ?_
        refine lv_iload hx hb dX6_goesBack_123 (lv_at hl 1 rfl) ?_
        refine lv_ineg hx hb dX6_goesBack_125 ?_
        refine thn_V (run_V (As := [.int (nI j), .int (-(f_X6_of (t_X6_grow τ j 8 (-1)) j (9 + 3 * (MLn (t_X6_grow τ j 8 (-1)) j))))]) (rest := []) C (k_X6_turns l D cy z o d σ (t_X6_lay (t_X6_grow (t_X6_grow (t_X6_grow (t_X6_grow (t_X6_grow τ j 8 (-1)) j 7 0) j 1 (-(f_X6_of (t_X6_grow τ j 8 (-1)) j (9 + 3 * (MLn (t_X6_grow τ j 8 (-1)) j))))) j 5 (f_X6_size (f_X6_of (t_X6_grow τ j 8 (-1)) j (9 + 3 * (MLn (t_X6_grow τ j 8 (-1)) j))))) j 6 (f_X6_of (t_X6_grow (t_X6_grow (t_X6_grow (t_X6_grow τ j 8 (-1)) j 7 0) j 1 (-(f_X6_of (t_X6_grow τ j 8 (-1)) j (9 + 3 * (MLn (t_X6_grow τ j 8 (-1)) j))))) j 5 (f_X6_size (f_X6_of (t_X6_grow τ j 8 (-1)) j (9 + 3 * (MLn (t_X6_grow τ j 8 (-1)) j))))) j (9 + 3 * (MLn (t_X6_grow τ j 8 (-1)) j) + 1))) j 0 (f_X6_of (t_X6_grow τ j 8 (-1)) j (9 + 3 * (MLn (t_X6_grow τ j 8 (-1)) j) + 2))) hk j (-(f_X6_of (t_X6_grow τ j 8 (-1)) j (9 + 3 * (MLn (t_X6_grow τ j 8 (-1)) j)))) hj) hP hS cw_X6_turns (mA4 (i := 97) rfl rfl) hk ⟨rfl, rfl⟩ ⟨Nat.le_of_ble_eq_true rfl, Nat.le_of_ble_eq_true rfl⟩ rfl (Nat.le_of_ble_eq_true rfl) hl.1 ⟨Nat.zero_le _, Nat.zero_le _⟩ dX6_goesBack_126) hS (fun H locs hP hS => ?_)
        refine lv_aload_n hx hb dX6_goesBack_129 rfl (lv_at hl 3 rfl) ?_
        refine lv_iload_n hx hb dX6_goesBack_130 rfl (lv_at hl 4 rfl) ?_
        refine lv_iload hx hb dX6_goesBack_131 (lv_at hl 2 rfl) ?_
        refine lv_iconst (v := 0) hx hb dX6_goesBack_133 (by decide) ?_
        refine thn_V (run_V (As := [.int (nI j), .int (nI (9 + 3 * (MLn (t_X6_grow τ j 8 (-1)) j))), .int 0]) (rest := []) C (k_X6_lay l D cy z o d σ (t_X6_turns (t_X6_lay (t_X6_grow (t_X6_grow (t_X6_grow (t_X6_grow (t_X6_grow τ j 8 (-1)) j 7 0) j 1 (-(f_X6_of (t_X6_grow τ j 8 (-1)) j (9 + 3 * (MLn (t_X6_grow τ j 8 (-1)) j))))) j 5 (f_X6_size (f_X6_of (t_X6_grow τ j 8 (-1)) j (9 + 3 * (MLn (t_X6_grow τ j 8 (-1)) j))))) j 6 (f_X6_of (t_X6_grow (t_X6_grow (t_X6_grow (t_X6_grow τ j 8 (-1)) j 7 0) j 1 (-(f_X6_of (t_X6_grow τ j 8 (-1)) j (9 + 3 * (MLn (t_X6_grow τ j 8 (-1)) j))))) j 5 (f_X6_size (f_X6_of (t_X6_grow τ j 8 (-1)) j (9 + 3 * (MLn (t_X6_grow τ j 8 (-1)) j))))) j (9 + 3 * (MLn (t_X6_grow τ j 8 (-1)) j) + 1))) j 0 (f_X6_of (t_X6_grow τ j 8 (-1)) j (9 + 3 * (MLn (t_X6_grow τ j 8 (-1)) j) + 2))) j (-(f_X6_of (t_X6_grow τ j 8 (-1)) j (9 + 3 * (MLn (t_X6_grow τ j 8 (-1)) j))))) hk j (9 + 3 * (MLn (t_X6_grow τ j 8 (-1)) j)) 0 (by omega)) hP hS cw_X6_lay (mA4 (i := 90) rfl rfl) hk ⟨rfl, rfl⟩ ⟨Nat.le_of_ble_eq_true rfl, Nat.le_of_ble_eq_true rfl⟩ rfl (Nat.le_of_ble_eq_true rfl) hl.1 ⟨Nat.zero_le _, Nat.zero_le _⟩ dX6_goesBack_134) hS (fun H locs hP hS => ?_)
        refine lv_aload_n hx hb dX6_goesBack_137 rfl (lv_at hl 3 rfl) ?_
        refine lv_iload_n hx hb dX6_goesBack_138 rfl (lv_at hl 4 rfl) ?_
        refine lv_iload hx hb dX6_goesBack_139 (lv_at hl 2 rfl) ?_
        refine lv_iconst (v := 1) hx hb dX6_goesBack_141 (by decide) ?_
        refine lv_iadd hx hb dX6_goesBack_142 ?_
        rw [nI_1]
        refine lv_iconst (v := 0) hx hb dX6_goesBack_143 (by decide) ?_
        refine thn_V (run_V (As := [.int (nI j), .int (nI (9 + 3 * (MLn (t_X6_grow τ j 8 (-1)) j) + 1)), .int 0]) (rest := []) C (k_X6_lay l D cy z o d σ (t_X6_lay (t_X6_turns (t_X6_lay (t_X6_grow (t_X6_grow (t_X6_grow (t_X6_grow (t_X6_grow τ j 8 (-1)) j 7 0) j 1 (-(f_X6_of (t_X6_grow τ j 8 (-1)) j (9 + 3 * (MLn (t_X6_grow τ j 8 (-1)) j))))) j 5 (f_X6_size (f_X6_of (t_X6_grow τ j 8 (-1)) j (9 + 3 * (MLn (t_X6_grow τ j 8 (-1)) j))))) j 6 (f_X6_of (t_X6_grow (t_X6_grow (t_X6_grow (t_X6_grow τ j 8 (-1)) j 7 0) j 1 (-(f_X6_of (t_X6_grow τ j 8 (-1)) j (9 + 3 * (MLn (t_X6_grow τ j 8 (-1)) j))))) j 5 (f_X6_size (f_X6_of (t_X6_grow τ j 8 (-1)) j (9 + 3 * (MLn (t_X6_grow τ j 8 (-1)) j))))) j (9 + 3 * (MLn (t_X6_grow τ j 8 (-1)) j) + 1))) j 0 (f_X6_of (t_X6_grow τ j 8 (-1)) j (9 + 3 * (MLn (t_X6_grow τ j 8 (-1)) j) + 2))) j (-(f_X6_of (t_X6_grow τ j 8 (-1)) j (9 + 3 * (MLn (t_X6_grow τ j 8 (-1)) j))))) j (9 + 3 * (MLn (t_X6_grow τ j 8 (-1)) j)) 0) hk j (9 + 3 * (MLn (t_X6_grow τ j 8 (-1)) j) + 1) 0 (by omega)) hP hS cw_X6_lay (mA4 (i := 90) rfl rfl) hk ⟨rfl, rfl⟩ ⟨Nat.le_of_ble_eq_true rfl, Nat.le_of_ble_eq_true rfl⟩ rfl (Nat.le_of_ble_eq_true rfl) hl.1 ⟨Nat.zero_le _, Nat.zero_le _⟩ dX6_goesBack_144) hS (fun H locs hP hS => ?_)
        refine lv_aload_n hx hb dX6_goesBack_147 rfl (lv_at hl 3 rfl) ?_
        refine lv_iload_n hx hb dX6_goesBack_148 rfl (lv_at hl 4 rfl) ?_
        refine lv_iload hx hb dX6_goesBack_149 (lv_at hl 2 rfl) ?_
        refine lv_iconst (v := 2) hx hb dX6_goesBack_151 (by decide) ?_
        refine lv_iadd hx hb dX6_goesBack_152 ?_
        rw [nI_2]
        refine lv_iconst (v := 0) hx hb dX6_goesBack_153 (by decide) ?_
        refine thn_V (run_V (As := [.int (nI j), .int (nI (9 + 3 * (MLn (t_X6_grow τ j 8 (-1)) j) + 2)), .int 0]) (rest := []) C (k_X6_lay l D cy z o d σ (t_X6_lay (t_X6_lay (t_X6_turns (t_X6_lay (t_X6_grow (t_X6_grow (t_X6_grow (t_X6_grow (t_X6_grow τ j 8 (-1)) j 7 0) j 1 (-(f_X6_of (t_X6_grow τ j 8 (-1)) j (9 + 3 * (MLn (t_X6_grow τ j 8 (-1)) j))))) j 5 (f_X6_size (f_X6_of (t_X6_grow τ j 8 (-1)) j (9 + 3 * (MLn (t_X6_grow τ j 8 (-1)) j))))) j 6 (f_X6_of (t_X6_grow (t_X6_grow (t_X6_grow (t_X6_grow τ j 8 (-1)) j 7 0) j 1 (-(f_X6_of (t_X6_grow τ j 8 (-1)) j (9 + 3 * (MLn (t_X6_grow τ j 8 (-1)) j))))) j 5 (f_X6_size (f_X6_of (t_X6_grow τ j 8 (-1)) j (9 + 3 * (MLn (t_X6_grow τ j 8 (-1)) j))))) j (9 + 3 * (MLn (t_X6_grow τ j 8 (-1)) j) + 1))) j 0 (f_X6_of (t_X6_grow τ j 8 (-1)) j (9 + 3 * (MLn (t_X6_grow τ j 8 (-1)) j) + 2))) j (-(f_X6_of (t_X6_grow τ j 8 (-1)) j (9 + 3 * (MLn (t_X6_grow τ j 8 (-1)) j))))) j (9 + 3 * (MLn (t_X6_grow τ j 8 (-1)) j)) 0) j (9 + 3 * (MLn (t_X6_grow τ j 8 (-1)) j) + 1) 0) hk j (9 + 3 * (MLn (t_X6_grow τ j 8 (-1)) j) + 2) 0 (by omega)) hP hS cw_X6_lay (mA4 (i := 90) rfl rfl) hk ⟨rfl, rfl⟩ ⟨Nat.le_of_ble_eq_true rfl, Nat.le_of_ble_eq_true rfl⟩ rfl (Nat.le_of_ble_eq_true rfl) hl.1 ⟨Nat.zero_le _, Nat.zero_le _⟩ dX6_goesBack_154) hS (fun H locs hP hS => ?_)
        refine lv_iinc (v := nI (i + 1)) (lv' := [(3, .int (nI (i + 1))), (6, .int (f_X6_of (t_X6_grow τ j 8 (-1)) j (9 + 3 * (MLn (t_X6_grow τ j 8 (-1)) j) + 2))), (5, .int (f_X6_of (t_X6_grow τ j 8 (-1)) j (9 + 3 * (MLn (t_X6_grow τ j 8 (-1)) j)))), (4, .int (nI (9 + 3 * (MLn (t_X6_grow τ j 8 (-1)) j)))), (0, .ref (z + k)), (1, .int (nI j)), (2, .int (nI f))]) hx hb dX6_goesBack_157 hl (k := 6) rfl (nI_1 i) (by decide) rfl (fun ls hl => ?_)
        refine lv_goto (tgt := 2) hx hb dX6_goesBack_160 (by decide) ?_
        exact ih (i + 1) σ (t_X6_lay (t_X6_lay (t_X6_lay (t_X6_turns (t_X6_lay (t_X6_grow (t_X6_grow (t_X6_grow (t_X6_grow (t_X6_grow τ j 8 (-1)) j 7 0) j 1 (-(f_X6_of (t_X6_grow τ j 8 (-1)) j (9 + 3 * (MLn (t_X6_grow τ j 8 (-1)) j))))) j 5 (f_X6_size (f_X6_of (t_X6_grow τ j 8 (-1)) j (9 + 3 * (MLn (t_X6_grow τ j 8 (-1)) j))))) j 6 (f_X6_of (t_X6_grow (t_X6_grow (t_X6_grow (t_X6_grow τ j 8 (-1)) j 7 0) j 1 (-(f_X6_of (t_X6_grow τ j 8 (-1)) j (9 + 3 * (MLn (t_X6_grow τ j 8 (-1)) j))))) j 5 (f_X6_size (f_X6_of (t_X6_grow τ j 8 (-1)) j (9 + 3 * (MLn (t_X6_grow τ j 8 (-1)) j))))) j (9 + 3 * (MLn (t_X6_grow τ j 8 (-1)) j) + 1))) j 0 (f_X6_of (t_X6_grow τ j 8 (-1)) j (9 + 3 * (MLn (t_X6_grow τ j 8 (-1)) j) + 2))) j (-(f_X6_of (t_X6_grow τ j 8 (-1)) j (9 + 3 * (MLn (t_X6_grow τ j 8 (-1)) j))))) j (9 + 3 * (MLn (t_X6_grow τ j 8 (-1)) j)) 0) j (9 + 3 * (MLn (t_X6_grow τ j 8 (-1)) j) + 1) 0) j (9 + 3 * (MLn (t_X6_grow τ j 8 (-1)) j) + 2) 0) _ _ (by simp (disch := omega) only [lay8, grow8, turns8]; exact gm8 h8 (by omega)) (⟨by omega, by omega, by omega, by omega, by omega⟩) (by rw [← hr9, gf_X6_goesBack]; rw [if_neg d_4, if_pos c_64]) (by rw [← ht9, gt_X6_goesBack]; rw [if_neg d_4, if_pos c_64]) hP hS ls (lv_sub hl [4, 5, 6, 0] rfl)
      · refine lv_iload hx hb dX6_goesBack_67 (lv_at hl 1 rfl) ?_
        refine lv_ineg hx hb dX6_goesBack_69 ?_
        refine lv_goto (tgt := 74) hx hb dX6_goesBack_70 (by decide) ?_
        refine thn_V (run_V (As := [.int (nI j), .int 7, .int (-(f_X6_of (t_X6_grow τ j 8 (-1)) j (9 + 3 * (MLn (t_X6_grow τ j 8 (-1)) j))))]) (rest := []) C (k_X6_grow l D cy z o d σ (t_X6_grow τ j 8 (-1)) hk j 7 (-(f_X6_of (t_X6_grow τ j 8 (-1)) j (9 + 3 * (MLn (t_X6_grow τ j 8 (-1)) j)))) (by omega)) hP hS cw_X6_grow (mA4 (i := 86) rfl rfl) hk ⟨rfl, rfl⟩ ⟨Nat.le_of_ble_eq_true rfl, Nat.le_of_ble_eq_true rfl⟩ rfl (Nat.le_of_ble_eq_true rfl) hl.1 ⟨Nat.zero_le _, Nat.zero_le _⟩ dX6_goesBack_74) hS (fun H locs hP hS => ?_)
        refine lv_aload_n hx hb dX6_goesBack_77 rfl (lv_at hl 3 rfl) ?_
        refine lv_iload_n hx hb dX6_goesBack_78 rfl (lv_at hl 4 rfl) ?_
        refine lv_iconst (v := 1) hx hb dX6_goesBack_79 (by decide) ?_
        refine lv_iload hx hb dX6_goesBack_80 (lv_at hl 1 rfl) ?_
        refine lv_ineg hx hb dX6_goesBack_82 ?_
        refine thn_V (run_V (As := [.int (nI j), .int 1, .int (-(f_X6_of (t_X6_grow τ j 8 (-1)) j (9 + 3 * (MLn (t_X6_grow τ j 8 (-1)) j))))]) (rest := []) C (k_X6_grow l D cy z o d σ (t_X6_grow (t_X6_grow τ j 8 (-1)) j 7 (-(f_X6_of (t_X6_grow τ j 8 (-1)) j (9 + 3 * (MLn (t_X6_grow τ j 8 (-1)) j))))) hk j 1 (-(f_X6_of (t_X6_grow τ j 8 (-1)) j (9 + 3 * (MLn (t_X6_grow τ j 8 (-1)) j)))) (by omega)) hP hS cw_X6_grow (mA4 (i := 86) rfl rfl) hk ⟨rfl, rfl⟩ ⟨Nat.le_of_ble_eq_true rfl, Nat.le_of_ble_eq_true rfl⟩ rfl (Nat.le_of_ble_eq_true rfl) hl.1 ⟨Nat.zero_le _, Nat.zero_le _⟩ dX6_goesBack_83) hS (fun H locs hP hS => ?_)
        refine lv_aload_n hx hb dX6_goesBack_86 rfl (lv_at hl 3 rfl) ?_
        refine lv_iload_n hx hb dX6_goesBack_87 rfl (lv_at hl 4 rfl) ?_
        refine lv_iconst (v := 5) hx hb dX6_goesBack_88 (by decide) ?_
        refine lv_iload hx hb dX6_goesBack_89 (lv_at hl 1 rfl) ?_
        refine thn_I (run_S (As := [.int (f_X6_of (t_X6_grow τ j 8 (-1)) j (9 + 3 * (MLn (t_X6_grow τ j 8 (-1)) j)))]) (rest := [.int 5, .int (nI j), .ref (z + k)]) C (k_X6_size l D cy z o d σ (t_X6_grow (t_X6_grow (t_X6_grow τ j 8 (-1)) j 7 (-(f_X6_of (t_X6_grow τ j 8 (-1)) j (9 + 3 * (MLn (t_X6_grow τ j 8 (-1)) j))))) j 1 (-(f_X6_of (t_X6_grow τ j 8 (-1)) j (9 + 3 * (MLn (t_X6_grow τ j 8 (-1)) j))))) (f_X6_of (t_X6_grow τ j 8 (-1)) j (9 + 3 * (MLn (t_X6_grow τ j 8 (-1)) j)))) hP hS cw_X6_size (mA4 (i := 75) rfl rfl) ⟨rfl, rfl⟩ ⟨Nat.le_of_ble_eq_true rfl, Nat.le_of_ble_eq_true rfl⟩ rfl (Nat.le_of_ble_eq_true rfl) hl.1 ⟨Nat.zero_le _, Nat.zero_le _⟩ dX6_goesBack_91) hS (fun H locs hP hS => ?_)
        refine thn_V (run_V (As := [.int (nI j), .int 5, .int (f_X6_size (f_X6_of (t_X6_grow τ j 8 (-1)) j (9 + 3 * (MLn (t_X6_grow τ j 8 (-1)) j))))]) (rest := []) C (k_X6_grow l D cy z o d σ (t_X6_grow (t_X6_grow (t_X6_grow τ j 8 (-1)) j 7 (-(f_X6_of (t_X6_grow τ j 8 (-1)) j (9 + 3 * (MLn (t_X6_grow τ j 8 (-1)) j))))) j 1 (-(f_X6_of (t_X6_grow τ j 8 (-1)) j (9 + 3 * (MLn (t_X6_grow τ j 8 (-1)) j))))) hk j 5 (f_X6_size (f_X6_of (t_X6_grow τ j 8 (-1)) j (9 + 3 * (MLn (t_X6_grow τ j 8 (-1)) j)))) (by omega)) hP hS cw_X6_grow (mA4 (i := 86) rfl rfl) hk ⟨rfl, rfl⟩ ⟨Nat.le_of_ble_eq_true rfl, Nat.le_of_ble_eq_true rfl⟩ rfl (Nat.le_of_ble_eq_true rfl) hl.1 ⟨Nat.zero_le _, Nat.zero_le _⟩ dX6_goesBack_94) hS (fun H locs hP hS => ?_)
        refine lv_aload_n hx hb dX6_goesBack_97 rfl (lv_at hl 3 rfl) ?_
        refine lv_iload_n hx hb dX6_goesBack_98 rfl (lv_at hl 4 rfl) ?_
        refine lv_bipush (v := 6) hx hb dX6_goesBack_99 (by decide) ?_
        refine lv_aload_n hx hb dX6_goesBack_101 rfl (lv_at hl 3 rfl) ?_
        refine lv_iload_n hx hb dX6_goesBack_102 rfl (lv_at hl 4 rfl) ?_
        refine lv_iload hx hb dX6_goesBack_103 (lv_at hl 2 rfl) ?_
        refine lv_iconst (v := 1) hx hb dX6_goesBack_105 (by decide) ?_
        refine lv_iadd hx hb dX6_goesBack_106 ?_
        rw [nI_1]
        refine thn_I (run_V (As := [.int (nI j), .int (nI (9 + 3 * (MLn (t_X6_grow τ j 8 (-1)) j) + 1))]) (rest := [.int 6, .int (nI j), .ref (z + k)]) C (k_X6_of l D cy z o d σ (t_X6_grow (t_X6_grow (t_X6_grow (t_X6_grow τ j 8 (-1)) j 7 (-(f_X6_of (t_X6_grow τ j 8 (-1)) j (9 + 3 * (MLn (t_X6_grow τ j 8 (-1)) j))))) j 1 (-(f_X6_of (t_X6_grow τ j 8 (-1)) j (9 + 3 * (MLn (t_X6_grow τ j 8 (-1)) j))))) j 5 (f_X6_size (f_X6_of (t_X6_grow τ j 8 (-1)) j (9 + 3 * (MLn (t_X6_grow τ j 8 (-1)) j))))) hk j (9 + 3 * (MLn (t_X6_grow τ j 8 (-1)) j) + 1) (by omega)) hP hS cw_X6_of (mA4 (i := 60) rfl rfl) hk ⟨rfl, rfl⟩ ⟨Nat.le_of_ble_eq_true rfl, Nat.le_of_ble_eq_true rfl⟩ rfl (Nat.le_of_ble_eq_true rfl) hl.1 ⟨Nat.zero_le _, Nat.zero_le _⟩ dX6_goesBack_107) hS (fun H locs hP hS => ?_)
        refine thn_V (run_V (As := [.int (nI j), .int 6, .int (f_X6_of (t_X6_grow (t_X6_grow (t_X6_grow (t_X6_grow τ j 8 (-1)) j 7 (-(f_X6_of (t_X6_grow τ j 8 (-1)) j (9 + 3 * (MLn (t_X6_grow τ j 8 (-1)) j))))) j 1 (-(f_X6_of (t_X6_grow τ j 8 (-1)) j (9 + 3 * (MLn (t_X6_grow τ j 8 (-1)) j))))) j 5 (f_X6_size (f_X6_of (t_X6_grow τ j 8 (-1)) j (9 + 3 * (MLn (t_X6_grow τ j 8 (-1)) j))))) j (9 + 3 * (MLn (t_X6_grow τ j 8 (-1)) j) + 1))]) (rest := []) C (k_X6_grow l D cy z o d σ (t_X6_grow (t_X6_grow (t_X6_grow (t_X6_grow τ j 8 (-1)) j 7 (-(f_X6_of (t_X6_grow τ j 8 (-1)) j (9 + 3 * (MLn (t_X6_grow τ j 8 (-1)) j))))) j 1 (-(f_X6_of (t_X6_grow τ j 8 (-1)) j (9 + 3 * (MLn (t_X6_grow τ j 8 (-1)) j))))) j 5 (f_X6_size (f_X6_of (t_X6_grow τ j 8 (-1)) j (9 + 3 * (MLn (t_X6_grow τ j 8 (-1)) j))))) hk j 6 (f_X6_of (t_X6_grow (t_X6_grow (t_X6_grow (t_X6_grow τ j 8 (-1)) j 7 (-(f_X6_of (t_X6_grow τ j 8 (-1)) j (9 + 3 * (MLn (t_X6_grow τ j 8 (-1)) j))))) j 1 (-(f_X6_of (t_X6_grow τ j 8 (-1)) j (9 + 3 * (MLn (t_X6_grow τ j 8 (-1)) j))))) j 5 (f_X6_size (f_X6_of (t_X6_grow τ j 8 (-1)) j (9 + 3 * (MLn (t_X6_grow τ j 8 (-1)) j))))) j (9 + 3 * (MLn (t_X6_grow τ j 8 (-1)) j) + 1)) (by omega)) hP hS cw_X6_grow (mA4 (i := 86) rfl rfl) hk ⟨rfl, rfl⟩ ⟨Nat.le_of_ble_eq_true rfl, Nat.le_of_ble_eq_true rfl⟩ rfl (Nat.le_of_ble_eq_true rfl) hl.1 ⟨Nat.zero_le _, Nat.zero_le _⟩ dX6_goesBack_110) hS (fun H locs hP hS => ?_)
        refine lv_aload_n hx hb dX6_goesBack_113 rfl (lv_at hl 3 rfl) ?_
        refine lv_iload_n hx hb dX6_goesBack_114 rfl (lv_at hl 4 rfl) ?_
        refine lv_iconst (v := 0) hx hb dX6_goesBack_115 (by decide) ?_
        refine lv_iload hx hb dX6_goesBack_116 (lv_at hl 0 rfl) ?_
        refine thn_V (run_V (As := [.int (nI j), .int 0, .int (f_X6_of (t_X6_grow τ j 8 (-1)) j (9 + 3 * (MLn (t_X6_grow τ j 8 (-1)) j) + 2))]) (rest := []) C (k_X6_lay l D cy z o d σ (t_X6_grow (t_X6_grow (t_X6_grow (t_X6_grow (t_X6_grow τ j 8 (-1)) j 7 (-(f_X6_of (t_X6_grow τ j 8 (-1)) j (9 + 3 * (MLn (t_X6_grow τ j 8 (-1)) j))))) j 1 (-(f_X6_of (t_X6_grow τ j 8 (-1)) j (9 + 3 * (MLn (t_X6_grow τ j 8 (-1)) j))))) j 5 (f_X6_size (f_X6_of (t_X6_grow τ j 8 (-1)) j (9 + 3 * (MLn (t_X6_grow τ j 8 (-1)) j))))) j 6 (f_X6_of (t_X6_grow (t_X6_grow (t_X6_grow (t_X6_grow τ j 8 (-1)) j 7 (-(f_X6_of (t_X6_grow τ j 8 (-1)) j (9 + 3 * (MLn (t_X6_grow τ j 8 (-1)) j))))) j 1 (-(f_X6_of (t_X6_grow τ j 8 (-1)) j (9 + 3 * (MLn (t_X6_grow τ j 8 (-1)) j))))) j 5 (f_X6_size (f_X6_of (t_X6_grow τ j 8 (-1)) j (9 + 3 * (MLn (t_X6_grow τ j 8 (-1)) j))))) j (9 + 3 * (MLn (t_X6_grow τ j 8 (-1)) j) + 1))) hk j 0 (f_X6_of (t_X6_grow τ j 8 (-1)) j (9 + 3 * (MLn (t_X6_grow τ j 8 (-1)) j) + 2)) (by omega)) hP hS cw_X6_lay (mA4 (i := 90) rfl rfl) hk ⟨rfl, rfl⟩ ⟨Nat.le_of_ble_eq_true rfl, Nat.le_of_ble_eq_true rfl⟩ rfl (Nat.le_of_ble_eq_true rfl) hl.1 ⟨Nat.zero_le _, Nat.zero_le _⟩ dX6_goesBack_118) hS (fun H locs hP hS => ?_)
        refine lv_aload_n hx hb dX6_goesBack_121 rfl (lv_at hl 3 rfl) ?_
        refine lv_iload_n hx hb dX6_goesBack_122 rfl (lv_at hl 4 rfl) ?_
        refine lv_iload hx hb dX6_goesBack_123 (lv_at hl 1 rfl) ?_
        refine lv_ineg hx hb dX6_goesBack_125 ?_
        refine thn_V (run_V (As := [.int (nI j), .int (-(f_X6_of (t_X6_grow τ j 8 (-1)) j (9 + 3 * (MLn (t_X6_grow τ j 8 (-1)) j))))]) (rest := []) C (k_X6_turns l D cy z o d σ (t_X6_lay (t_X6_grow (t_X6_grow (t_X6_grow (t_X6_grow (t_X6_grow τ j 8 (-1)) j 7 (-(f_X6_of (t_X6_grow τ j 8 (-1)) j (9 + 3 * (MLn (t_X6_grow τ j 8 (-1)) j))))) j 1 (-(f_X6_of (t_X6_grow τ j 8 (-1)) j (9 + 3 * (MLn (t_X6_grow τ j 8 (-1)) j))))) j 5 (f_X6_size (f_X6_of (t_X6_grow τ j 8 (-1)) j (9 + 3 * (MLn (t_X6_grow τ j 8 (-1)) j))))) j 6 (f_X6_of (t_X6_grow (t_X6_grow (t_X6_grow (t_X6_grow τ j 8 (-1)) j 7 (-(f_X6_of (t_X6_grow τ j 8 (-1)) j (9 + 3 * (MLn (t_X6_grow τ j 8 (-1)) j))))) j 1 (-(f_X6_of (t_X6_grow τ j 8 (-1)) j (9 + 3 * (MLn (t_X6_grow τ j 8 (-1)) j))))) j 5 (f_X6_size (f_X6_of (t_X6_grow τ j 8 (-1)) j (9 + 3 * (MLn (t_X6_grow τ j 8 (-1)) j))))) j (9 + 3 * (MLn (t_X6_grow τ j 8 (-1)) j) + 1))) j 0 (f_X6_of (t_X6_grow τ j 8 (-1)) j (9 + 3 * (MLn (t_X6_grow τ j 8 (-1)) j) + 2))) hk j (-(f_X6_of (t_X6_grow τ j 8 (-1)) j (9 + 3 * (MLn (t_X6_grow τ j 8 (-1)) j)))) hj) hP hS cw_X6_turns (mA4 (i := 97) rfl rfl) hk ⟨rfl, rfl⟩ ⟨Nat.le_of_ble_eq_true rfl, Nat.le_of_ble_eq_true rfl⟩ rfl (Nat.le_of_ble_eq_true rfl) hl.1 ⟨Nat.zero_le _, Nat.zero_le _⟩ dX6_goesBack_126) hS (fun H locs hP hS => ?_)
        refine lv_aload_n hx hb dX6_goesBack_129 rfl (lv_at hl 3 rfl) ?_
        refine lv_iload_n hx hb dX6_goesBack_130 rfl (lv_at hl 4 rfl) ?_
        refine lv_iload hx hb dX6_goesBack_131 (lv_at hl 2 rfl) ?_
        refine lv_iconst (v := 0) hx hb dX6_goesBack_133 (by decide) ?_
        refine thn_V (run_V (As := [.int (nI j), .int (nI (9 + 3 * (MLn (t_X6_grow τ j 8 (-1)) j))), .int 0]) (rest := []) C (k_X6_lay l D cy z o d σ (t_X6_turns (t_X6_lay (t_X6_grow (t_X6_grow (t_X6_grow (t_X6_grow (t_X6_grow τ j 8 (-1)) j 7 (-(f_X6_of (t_X6_grow τ j 8 (-1)) j (9 + 3 * (MLn (t_X6_grow τ j 8 (-1)) j))))) j 1 (-(f_X6_of (t_X6_grow τ j 8 (-1)) j (9 + 3 * (MLn (t_X6_grow τ j 8 (-1)) j))))) j 5 (f_X6_size (f_X6_of (t_X6_grow τ j 8 (-1)) j (9 + 3 * (MLn (t_X6_grow τ j 8 (-1)) j))))) j 6 (f_X6_of (t_X6_grow (t_X6_grow (t_X6_grow (t_X6_grow τ j 8 (-1)) j 7 (-(f_X6_of (t_X6_grow τ j 8 (-1)) j (9 + 3 * (MLn (t_X6_grow τ j 8 (-1)) j))))) j 1 (-(f_X6_of (t_X6_grow τ j 8 (-1)) j (9 + 3 * (MLn (t_X6_grow τ j 8 (-1)) j))))) j 5 (f_X6_size (f_X6_of (t_X6_grow τ j 8 (-1)) j (9 + 3 * (MLn (t_X6_grow τ j 8 (-1)) j))))) j (9 + 3 * (MLn (t_X6_grow τ j 8 (-1)) j) + 1))) j 0 (f_X6_of (t_X6_grow τ j 8 (-1)) j (9 + 3 * (MLn (t_X6_grow τ j 8 (-1)) j) + 2))) j (-(f_X6_of (t_X6_grow τ j 8 (-1)) j (9 + 3 * (MLn (t_X6_grow τ j 8 (-1)) j))))) hk j (9 + 3 * (MLn (t_X6_grow τ j 8 (-1)) j)) 0 (by omega)) hP hS cw_X6_lay (mA4 (i := 90) rfl rfl) hk ⟨rfl, rfl⟩ ⟨Nat.le_of_ble_eq_true rfl, Nat.le_of_ble_eq_true rfl⟩ rfl (Nat.le_of_ble_eq_true rfl) hl.1 ⟨Nat.zero_le _, Nat.zero_le _⟩ dX6_goesBack_134) hS (fun H locs hP hS => ?_)
        refine lv_aload_n hx hb dX6_goesBack_137 rfl (lv_at hl 3 rfl) ?_
        refine lv_iload_n hx hb dX6_goesBack_138 rfl (lv_at hl 4 rfl) ?_
        refine lv_iload hx hb dX6_goesBack_139 (lv_at hl 2 rfl) ?_
        refine lv_iconst (v := 1) hx hb dX6_goesBack_141 (by decide) ?_
        refine lv_iadd hx hb dX6_goesBack_142 ?_
        rw [nI_1]
        refine lv_iconst (v := 0) hx hb dX6_goesBack_143 (by decide) ?_
        refine thn_V (run_V (As := [.int (nI j), .int (nI (9 + 3 * (MLn (t_X6_grow τ j 8 (-1)) j) + 1)), .int 0]) (rest := []) C (k_X6_lay l D cy z o d σ (t_X6_lay (t_X6_turns (t_X6_lay (t_X6_grow (t_X6_grow (t_X6_grow (t_X6_grow (t_X6_grow τ j 8 (-1)) j 7 (-(f_X6_of (t_X6_grow τ j 8 (-1)) j (9 + 3 * (MLn (t_X6_grow τ j 8 (-1)) j))))) j 1 (-(f_X6_of (t_X6_grow τ j 8 (-1)) j (9 + 3 * (MLn (t_X6_grow τ j 8 (-1)) j))))) j 5 (f_X6_size (f_X6_of (t_X6_grow τ j 8 (-1)) j (9 + 3 * (MLn (t_X6_grow τ j 8 (-1)) j))))) j 6 (f_X6_of (t_X6_grow (t_X6_grow (t_X6_grow (t_X6_grow τ j 8 (-1)) j 7 (-(f_X6_of (t_X6_grow τ j 8 (-1)) j (9 + 3 * (MLn (t_X6_grow τ j 8 (-1)) j))))) j 1 (-(f_X6_of (t_X6_grow τ j 8 (-1)) j (9 + 3 * (MLn (t_X6_grow τ j 8 (-1)) j))))) j 5 (f_X6_size (f_X6_of (t_X6_grow τ j 8 (-1)) j (9 + 3 * (MLn (t_X6_grow τ j 8 (-1)) j))))) j (9 + 3 * (MLn (t_X6_grow τ j 8 (-1)) j) + 1))) j 0 (f_X6_of (t_X6_grow τ j 8 (-1)) j (9 + 3 * (MLn (t_X6_grow τ j 8 (-1)) j) + 2))) j (-(f_X6_of (t_X6_grow τ j 8 (-1)) j (9 + 3 * (MLn (t_X6_grow τ j 8 (-1)) j))))) j (9 + 3 * (MLn (t_X6_grow τ j 8 (-1)) j)) 0) hk j (9 + 3 * (MLn (t_X6_grow τ j 8 (-1)) j) + 1) 0 (by omega)) hP hS cw_X6_lay (mA4 (i := 90) rfl rfl) hk ⟨rfl, rfl⟩ ⟨Nat.le_of_ble_eq_true rfl, Nat.le_of_ble_eq_true rfl⟩ rfl (Nat.le_of_ble_eq_true rfl) hl.1 ⟨Nat.zero_le _, Nat.zero_le _⟩ dX6_goesBack_144) hS (fun H locs hP hS => ?_)
        refine lv_aload_n hx hb dX6_goesBack_147 rfl (lv_at hl 3 rfl) ?_
        refine lv_iload_n hx hb dX6_goesBack_148 rfl (lv_at hl 4 rfl) ?_
        refine lv_iload hx hb dX6_goesBack_149 (lv_at hl 2 rfl) ?_
        refine lv_iconst (v := 2) hx hb dX6_goesBack_151 (by decide) ?_
        refine lv_iadd hx hb dX6_goesBack_152 ?_
        rw [nI_2]
        refine lv_iconst (v := 0) hx hb dX6_goesBack_153 (by decide) ?_
        refine thn_V (run_V (As := [.int (nI j), .int (nI (9 + 3 * (MLn (t_X6_grow τ j 8 (-1)) j) + 2)), .int 0]) (rest := []) C (k_X6_lay l D cy z o d σ (t_X6_lay (t_X6_lay (t_X6_turns (t_X6_lay (t_X6_grow (t_X6_grow (t_X6_grow (t_X6_grow (t_X6_grow τ j 8 (-1)) j 7 (-(f_X6_of (t_X6_grow τ j 8 (-1)) j (9 + 3 * (MLn (t_X6_grow τ j 8 (-1)) j))))) j 1 (-(f_X6_of (t_X6_grow τ j 8 (-1)) j (9 + 3 * (MLn (t_X6_grow τ j 8 (-1)) j))))) j 5 (f_X6_size (f_X6_of (t_X6_grow τ j 8 (-1)) j (9 + 3 * (MLn (t_X6_grow τ j 8 (-1)) j))))) j 6 (f_X6_of (t_X6_grow (t_X6_grow (t_X6_grow (t_X6_grow τ j 8 (-1)) j 7 (-(f_X6_of (t_X6_grow τ j 8 (-1)) j (9 + 3 * (MLn (t_X6_grow τ j 8 (-1)) j))))) j 1 (-(f_X6_of (t_X6_grow τ j 8 (-1)) j (9 + 3 * (MLn (t_X6_grow τ j 8 (-1)) j))))) j 5 (f_X6_size (f_X6_of (t_X6_grow τ j 8 (-1)) j (9 + 3 * (MLn (t_X6_grow τ j 8 (-1)) j))))) j (9 + 3 * (MLn (t_X6_grow τ j 8 (-1)) j) + 1))) j 0 (f_X6_of (t_X6_grow τ j 8 (-1)) j (9 + 3 * (MLn (t_X6_grow τ j 8 (-1)) j) + 2))) j (-(f_X6_of (t_X6_grow τ j 8 (-1)) j (9 + 3 * (MLn (t_X6_grow τ j 8 (-1)) j))))) j (9 + 3 * (MLn (t_X6_grow τ j 8 (-1)) j)) 0) j (9 + 3 * (MLn (t_X6_grow τ j 8 (-1)) j) + 1) 0) hk j (9 + 3 * (MLn (t_X6_grow τ j 8 (-1)) j) + 2) 0 (by omega)) hP hS cw_X6_lay (mA4 (i := 90) rfl rfl) hk ⟨rfl, rfl⟩ ⟨Nat.le_of_ble_eq_true rfl, Nat.le_of_ble_eq_true rfl⟩ rfl (Nat.le_of_ble_eq_true rfl) hl.1 ⟨Nat.zero_le _, Nat.zero_le _⟩ dX6_goesBack_154) hS (fun H locs hP hS => ?_)
        refine lv_iinc (v := nI (i + 1)) (lv' := [(3, .int (nI (i + 1))), (6, .int (f_X6_of (t_X6_grow τ j 8 (-1)) j (9 + 3 * (MLn (t_X6_grow τ j 8 (-1)) j) + 2))), (5, .int (f_X6_of (t_X6_grow τ j 8 (-1)) j (9 + 3 * (MLn (t_X6_grow τ j 8 (-1)) j)))), (4, .int (nI (9 + 3 * (MLn (t_X6_grow τ j 8 (-1)) j)))), (0, .ref (z + k)), (1, .int (nI j)), (2, .int (nI f))]) hx hb dX6_goesBack_157 hl (k := 6) rfl (nI_1 i) (by decide) rfl (fun ls hl => ?_)
        refine lv_goto (tgt := 2) hx hb dX6_goesBack_160 (by decide) ?_
        exact ih (i + 1) σ (t_X6_lay (t_X6_lay (t_X6_lay (t_X6_turns (t_X6_lay (t_X6_grow (t_X6_grow (t_X6_grow (t_X6_grow (t_X6_grow τ j 8 (-1)) j 7 (-(f_X6_of (t_X6_grow τ j 8 (-1)) j (9 + 3 * (MLn (t_X6_grow τ j 8 (-1)) j))))) j 1 (-(f_X6_of (t_X6_grow τ j 8 (-1)) j (9 + 3 * (MLn (t_X6_grow τ j 8 (-1)) j))))) j 5 (f_X6_size (f_X6_of (t_X6_grow τ j 8 (-1)) j (9 + 3 * (MLn (t_X6_grow τ j 8 (-1)) j))))) j 6 (f_X6_of (t_X6_grow (t_X6_grow (t_X6_grow (t_X6_grow τ j 8 (-1)) j 7 (-(f_X6_of (t_X6_grow τ j 8 (-1)) j (9 + 3 * (MLn (t_X6_grow τ j 8 (-1)) j))))) j 1 (-(f_X6_of (t_X6_grow τ j 8 (-1)) j (9 + 3 * (MLn (t_X6_grow τ j 8 (-1)) j))))) j 5 (f_X6_size (f_X6_of (t_X6_grow τ j 8 (-1)) j (9 + 3 * (MLn (t_X6_grow τ j 8 (-1)) j))))) j (9 + 3 * (MLn (t_X6_grow τ j 8 (-1)) j) + 1))) j 0 (f_X6_of (t_X6_grow τ j 8 (-1)) j (9 + 3 * (MLn (t_X6_grow τ j 8 (-1)) j) + 2))) j (-(f_X6_of (t_X6_grow τ j 8 (-1)) j (9 + 3 * (MLn (t_X6_grow τ j 8 (-1)) j))))) j (9 + 3 * (MLn (t_X6_grow τ j 8 (-1)) j)) 0) j (9 + 3 * (MLn (t_X6_grow τ j 8 (-1)) j) + 1) 0) j (9 + 3 * (MLn (t_X6_grow τ j 8 (-1)) j) + 2) 0) _ _ (by simp (disch := omega) only [lay8, grow8, turns8]; exact gm8 h8 (by omega)) (⟨by omega, by omega, by omega, by omega, by omega⟩) (by rw [← hr9, gf_X6_goesBack]; rw [if_neg d_4, if_neg c_64]) (by rw [← ht9, gt_X6_goesBack]; rw [if_neg d_4, if_neg c_64]) hP hS ls (lv_sub hl [4, 5, 6, 0] rfl)
def f_X6_goesBack (τ : Sg) (j : Nat) (f : Nat) : Int32 :=
  gf_X6_goesBack j f 17 0 τ
def t_X6_goesBack (τ : Sg) (j : Nat) (f : Nat) : Sg :=
  gt_X6_goesBack j f 17 0 τ
set_option maxHeartbeats 4000000 in
set_option maxRecDepth 100000 in
theorem k_X6_goesBack (l : Launch) (D : va_G) (cy : Nat → ClassId) (z : Nat) (o : Int64) (d : UInt64) (σ τ : Sg) {k : Nat} (hk : kd k = 6) (j : Nat) (f : Nat) (hM : MI τ) (hj : j < 4) (hf : f ≤ 16) (hfL : f ≤ MLn τ j) : KI l yX6_goesBack cX6_goesBack 7 (some .int) rm_X6_goesBack D cy z [.ref (z + k), .int (nI j), .int (nI f)] o d σ τ (f_X6_goesBack τ j f) σ (t_X6_goesBack τ j f) := by
  refine met_of RX6 (plainFor_of_name (by decide)) rfl (Nat.le_of_ble_eq_true rfl) ?_
  intro p e s m args below meth c C hP hS ls hl
  obtain ⟨hx, hb, hr, hml, hown, hW, hlocks, hAm⟩ := id C
  have hl : lv_has ls 7 [(0, .ref (z + k)), (1, .int (nI j)), (2, .int (nI f))] := hl
  refine lv_iconst (v := 0) hx hb dX6_goesBack_0 (by decide) ?_
  refine lv_istore_n (lv' := [(3, .int 0), (0, .ref (z + k)), (1, .int (nI j)), (2, .int (nI f))]) hx hb dX6_goesBack_1 rfl hl (by decide) rfl (fun ls hl => ?_)
  exact lp_X6_goesBack C o d hk j f (MLn τ j) (17) 0 σ τ _ _ ((hM.ln hj).1) (⟨hj, hfL, (hM.ln hj).2, by omega, by omega⟩) rfl rfl hP hS ls (lv_sub hl [1, 2, 3, 0] rfl)


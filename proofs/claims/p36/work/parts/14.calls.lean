theorem cw_X5_leader : cwVt yX5_leader cX5_leader 3 (some .int) 5 0 := ⟨(mA3 (i := 66) rfl rfl), (mA3 (i := 67) rfl rfl), (mA1 (i := 1) rfl rfl), (mA3 (i := 68) rfl rfl), by decide +kernel, ⟨_, rfl, rfl⟩, by decide⟩
abbrev rm_X5_leader : Room := { frames := 1, cells := 0, slots := 0, locals := 21 }
def gf_X5_leader (σ : Sg) (k : Nat) : Nat → Int32 → Nat → Int32
  | 0, _, _ => 0
  | n + 1, x, i =>
    if 4 ≤ i then
      x
    else
      if (σ (f_X0_snail σ (k + 1) (nI i)) 2) ≤ (σ (f_X0_snail σ (k + 1) x) 2) then
        gf_X5_leader σ k n x (i + 1)
      else
        gf_X5_leader σ k n (nI i) (i + 1)
set_option maxHeartbeats 4000000 in
set_option maxRecDepth 100000 in
theorem lp_X5_leader {p : Program} {l : Launch} {e : Env} {s : State} {m : MethodId} {args : Array Value} {below : List Frame} {meth : Method} {c : Code} {D : va_G} {cy : Nat → ClassId} {z : Nat} (C : Bd p s m args meth c cX5_leader 3 (some .int) RX5 D cy z) (o : Int64) (d : UInt64) {k : Nat} (hk : kd k = 5)  {r9 : Int32} :
    ∀ (n : Nat) (x : Int32) (i : Nat) (σ τ : Sg) (H : Heap) (locs : List Loc), (i ≤ 4 ∧ 5 ≤ i + n) → (gf_X5_leader σ k n x i = r9) → WP D cy z σ τ o d H → va_S (fz z) s.heap H locs → ∀ ls : Array Slot, lv_has ls 3 [(0, .ref (z + k)), (1, .int x), (2, .int (nI i))] → W p l e rm_X5_leader s m args below meth c H locs 0 0 (MQ below (PoI D cy z o d r9 σ τ) args s 0 0 (fz z)) (F0 m 4 ls []) := by
  obtain ⟨hx, hb, hr, hml, hown, hW, hlocks, hAm⟩ := id C
  intro n
  induction n with
  | zero =>
    intro _ _ σ τ H locs hn9 _ hP hS ls hl
    exact absurd hn9 (by omega)
  | succ n ih =>
    intro x i σ τ H locs hn9 hr9 hP hS ls hl
    refine lv_iload_n hx hb dX5_leader_4 rfl (lv_at hl 2 rfl) ?_
    refine lv_iconst (v := 4) hx hb dX5_leader_5 (by decide) ?_
    refine lv_icmp_ge (tgt := 42) hx hb dX5_leader_6 (by decide) (fun c_6 => ?_) (fun c_6 => ?_)
    · have d_6 : 4 ≤ i := (cI_le (a := 4) (b := i) rfl rfl (by omega) (by omega)).mp c_6
      refine lv_iload_n hx hb dX5_leader_42 rfl (lv_at hl 1 rfl) ?_
      exact ret_I C hP hS (nar_i _) rfl (by rw [← hr9, gf_X5_leader]; rw [if_pos d_6]) rfl rfl dX5_leader_43
    · have d_6 : ¬ (4 ≤ i) := fun h9 => c_6 ((cI_le (a := 4) (b := i) rfl rfl (by omega) (by omega)).mpr h9)
      refine lv_aload_n hx hb dX5_leader_9 rfl (lv_at hl 0 rfl) ?_
      refine gf_X5_10 C hP hk dX5_leader_10 ?_
      refine lv_iload_n hx hb dX5_leader_13 rfl (lv_at hl 2 rfl) ?_
      refine thn_R (run_V (As := [.int (nI i)]) (rest := []) C (k_X0_snail l D cy z o d σ τ (kd5_1 hk) (nI i)) hP hS cw_X0_snail (mA2 (i := 30) rfl rfl) (kd5_1 hk) ⟨rfl, rfl⟩ ⟨Nat.le_of_ble_eq_true rfl, Nat.le_of_ble_eq_true rfl⟩ rfl (Nat.le_of_ble_eq_true rfl) hl.1 ⟨Nat.zero_le _, Nat.zero_le _⟩ dX5_leader_14) hS (fun H locs hP hS => ?_)
      refine gf_X5_84 C hP (kr_X0_snail σ (kd5_1 hk) (nI i)) dX5_leader_17 ?_
      refine lv_aload_n hx hb dX5_leader_20 rfl (lv_at hl 0 rfl) ?_
      refine gf_X5_10 C hP hk dX5_leader_21 ?_
      refine lv_iload_n hx hb dX5_leader_24 rfl (lv_at hl 1 rfl) ?_
      refine thn_R (run_V (As := [.int x]) (rest := [.int (σ (f_X0_snail σ (k + 1) (nI i)) 2)]) C (k_X0_snail l D cy z o d σ τ (kd5_1 hk) x) hP hS cw_X0_snail (mA2 (i := 30) rfl rfl) (kd5_1 hk) ⟨rfl, rfl⟩ ⟨Nat.le_of_ble_eq_true rfl, Nat.le_of_ble_eq_true rfl⟩ rfl (Nat.le_of_ble_eq_true rfl) hl.1 ⟨Nat.zero_le _, Nat.zero_le _⟩ dX5_leader_25) hS (fun H locs hP hS => ?_)
      refine gf_X5_84 C hP (kr_X0_snail σ (kd5_1 hk) x) dX5_leader_28 ?_
      refine lv_icmp_le (tgt := 36) hx hb dX5_leader_31 (by decide) (fun c_31 => ?_) (fun c_31 => ?_)
      · refine lv_iinc (v := nI (i + 1)) (lv' := [(2, .int (nI (i + 1))), (0, .ref (z + k)), (1, .int x)]) hx hb dX5_leader_36 hl (k := 2) rfl (nI_1 i) (by decide) rfl (fun ls hl => ?_)
        refine lv_goto (tgt := 4) hx hb dX5_leader_39 (by decide) ?_
        exact ih x (i + 1) σ τ _ _ (⟨by omega, by omega⟩) (by rw [← hr9, gf_X5_leader]; rw [if_neg d_6, if_pos c_31]) hP hS ls (lv_sub hl [1, 2, 0] rfl)
      · refine lv_iload_n hx hb dX5_leader_34 rfl (lv_at hl 2 rfl) ?_
        refine lv_istore_n (lv' := [(1, .int (nI i)), (0, .ref (z + k)), (2, .int (nI i))]) hx hb dX5_leader_35 rfl hl (by decide) rfl (fun ls hl => ?_)
        refine lv_iinc (v := nI (i + 1)) (lv' := [(2, .int (nI (i + 1))), (1, .int (nI i)), (0, .ref (z + k))]) hx hb dX5_leader_36 hl (k := 2) rfl (nI_1 i) (by decide) rfl (fun ls hl => ?_)
        refine lv_goto (tgt := 4) hx hb dX5_leader_39 (by decide) ?_
        exact ih (nI i) (i + 1) σ τ _ _ (⟨by omega, by omega⟩) (by rw [← hr9, gf_X5_leader]; rw [if_neg d_6, if_neg c_31]) hP hS ls (lv_sub hl [2, 1, 0] rfl)
def f_X5_leader (σ : Sg) (k : Nat) : Int32 :=
  gf_X5_leader σ k 4 0 1
set_option maxHeartbeats 4000000 in
set_option maxRecDepth 100000 in
theorem k_X5_leader (l : Launch) (D : va_G) (cy : Nat → ClassId) (z : Nat) (o : Int64) (d : UInt64) (σ τ : Sg) {k : Nat} (hk : kd k = 5) : KI l yX5_leader cX5_leader 3 (some .int) rm_X5_leader D cy z [.ref (z + k)] o d σ τ (f_X5_leader σ k) σ τ := by
  refine met_of RX5 (plainFor_of_name (by decide)) rfl (Nat.le_of_ble_eq_true rfl) ?_
  intro p e s m args below meth c C hP hS ls hl
  obtain ⟨hx, hb, hr, hml, hown, hW, hlocks, hAm⟩ := id C
  have hl : lv_has ls 3 [(0, .ref (z + k))] := hl
  refine lv_iconst (v := 0) hx hb dX5_leader_0 (by decide) ?_
  refine lv_istore_n (lv' := [(1, .int 0), (0, .ref (z + k))]) hx hb dX5_leader_1 rfl hl (by decide) rfl (fun ls hl => ?_)
  refine lv_iconst (v := 1) hx hb dX5_leader_2 (by decide) ?_
  refine lv_istore_n (lv' := [(2, .int 1), (1, .int 0), (0, .ref (z + k))]) hx hb dX5_leader_3 rfl hl (by decide) rfl (fun ls hl => ?_)
  exact lp_X5_leader C o d hk  (4) 0 1 σ τ _ _ (⟨by omega, by omega⟩) rfl hP hS ls (lv_sub hl [2, 1, 0] rfl)

theorem cw_X5_counts : cwVt yX5_counts cX5_counts 1 (some .int) 5 0 := ⟨(mA2 (i := 214) rfl rfl), (mA2 (i := 215) rfl rfl), (mA1 (i := 1) rfl rfl), (mA2 (i := 216) rfl rfl), by decide +kernel, ⟨_, rfl, rfl⟩, by decide⟩
abbrev rm_X5_counts : Room := { frames := 0, cells := 0, slots := 0, locals := 0 }
def f_X5_counts (σ : Sg) (k : Nat) : Int32 :=
  σ (k + 1) 5
set_option maxHeartbeats 4000000 in
set_option maxRecDepth 100000 in
theorem k_X5_counts (l : Launch) (D : va_G) (cy : Nat → ClassId) (z : Nat) (o : Int64) (d : UInt64) (σ τ : Sg) {k : Nat} (hk : kd k = 5) : KI l yX5_counts cX5_counts 1 (some .int) rm_X5_counts D cy z [.ref (z + k)] o d σ τ (f_X5_counts σ k) σ τ := by
  refine met_of RX5 (plainFor_of_name (by decide)) rfl (Nat.le_of_ble_eq_true rfl) ?_
  intro p e s m args below meth c C hP hS ls hl
  obtain ⟨hx, hb, hr, hml, hown, hW, hlocks, hAm⟩ := id C
  have hl : lv_has ls 1 [(0, .ref (z + k))] := hl
  refine lv_aload_n hx hb dX5_counts_0 rfl (lv_at hl 0 rfl) ?_
  refine gf_X5_10 C hP hk dX5_counts_1 ?_
  refine gf_X5_87 C hP (kd5_1 hk) dX5_counts_4 ?_
  exact ret_I C hP hS (nar_i _) rfl rfl rfl rfl dX5_counts_7

theorem cw_X5_rule : cwVt yX5_rule cX5_rule 1 (some .int) 5 0 := ⟨(mA2 (i := 186) rfl rfl), (mA2 (i := 187) rfl rfl), (mA1 (i := 1) rfl rfl), (mA2 (i := 188) rfl rfl), by decide +kernel, ⟨_, rfl, rfl⟩, by decide⟩
abbrev rm_X5_rule : Room := { frames := 0, cells := 0, slots := 0, locals := 0 }
def f_X5_rule (σ : Sg) (k : Nat) : Int32 :=
  σ (k + 1) 4
set_option maxHeartbeats 4000000 in
set_option maxRecDepth 100000 in
theorem k_X5_rule (l : Launch) (D : va_G) (cy : Nat → ClassId) (z : Nat) (o : Int64) (d : UInt64) (σ τ : Sg) {k : Nat} (hk : kd k = 5) : KI l yX5_rule cX5_rule 1 (some .int) rm_X5_rule D cy z [.ref (z + k)] o d σ τ (f_X5_rule σ k) σ τ := by
  refine met_of RX5 (plainFor_of_name (by decide)) rfl (Nat.le_of_ble_eq_true rfl) ?_
  intro p e s m args below meth c C hP hS ls hl
  obtain ⟨hx, hb, hr, hml, hown, hW, hlocks, hAm⟩ := id C
  have hl : lv_has ls 1 [(0, .ref (z + k))] := hl
  refine lv_aload_n hx hb dX5_rule_0 rfl (lv_at hl 0 rfl) ?_
  refine gf_X5_10 C hP hk dX5_rule_1 ?_
  refine gf_X5_51 C hP (kd5_1 hk) dX5_rule_4 ?_
  exact ret_I C hP hS (nar_i _) rfl rfl rfl rfl dX5_rule_7


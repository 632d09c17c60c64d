/-! the law's isThereAndBack -/
def TBs (i : Nat) (v : Int32) : Nat → Nat → Sg → Sg
  | 0, _, σ => σ
  | n + 1, a, σ => TBs i v n (a + 1) (s_X5_feel σ 0 (nI i) (nI (lowN (v >>> (nI a &&& 31)) 4)) (1 + nI a))
theorem nI_c1 {a : Nat} : 1 + nI a = nI (1 + a) := by
  rw [Int32.add_comm, nI_1, Nat.add_comm]
theorem tb_w {a : Nat} (h : a ≤ 8) : 1 ≤ (1 + nI a).toInt ∧ (1 + nI a).toInt ≤ 1000 := by
  rw [nI_c1, nI_int (by omega)]
  omega
theorem tb_B {a B : Nat} (h : a ≤ 8) (hB : B + 40000 ≤ 1000000000) : B + 1000 * a + 20000 ≤ 1000000000 := by omega
theorem bk3_feel {σ σ1 : Sg} {k a : Nat} {y v w : Int32} {E : Nat → Nat → Int32} {t : Int32 × Int32 × Int32} (s1 : St (σ k 1)) (hy : St y) (fk : σ1 k = snK σ k y v w) (hb : bk3 a E (σ k 1, σ k 2, σ k 4) = t) : bk3 (a + 1) (psh E v w (σ k 1)) (σ1 k 1, σ1 k 2, σ1 k 4) = t := by
  rw [← hb, fk]
  have e2 : (snK σ k y v w 2) + -v = σ k 2 := by
    show σ k 2 + v + -v = σ k 2
    grind
  have e4 : (if snK σ k y v w 1 ^^^ σ k 1 = 2 then snK σ k y v w 4 + -v else snK σ k y v w 4) = σ k 4 := by
    show (if y ^^^ σ k 1 = 2 then (if σ k 1 ^^^ y = 2 then σ k 4 + v else σ k 4) + -v else (if σ k 1 ^^^ y = 2 then σ k 4 + v else σ k 4)) = σ k 4
    rw [st_comm hy s1]
    by_cases c : σ k 1 ^^^ y = 2
    · rw [if_pos c, if_pos c]
      grind
    · rw [if_neg c, if_neg c]
  show bk3 a E (σ k 1, snK σ k y v w 2 + -v, if snK σ k y v w 1 ^^^ σ k 1 = 2 then snK σ k y v w 4 + -v else snK σ k y v w 4) = _
  rw [e2, e4]
theorem tb_step {σ : Sg} {B i L a : Nat} {v : Int32} {E : Nat → Nat → Int32} {t : Int32 × Int32 × Int32} (h : GN (B + 1000 * a) σ) (hN : SnN σ (1 + 1 + 3 * i) E L (B + 1000 * a)) (hi : i < 4) (ha : a ≤ 8) (hb : bk3 a E (σ (1 + 1 + 3 * i) 1, σ (1 + 1 + 3 * i) 2, σ (1 + 1 + 3 * i) 4) = t) (hB : B + 40000 ≤ 1000000000) :
    GN (B + 1000 * (a + 1)) (s_X5_feel σ 0 (nI i) (nI (lowN (v >>> (nI a &&& 31)) 4)) (1 + nI a)) ∧ SnN (s_X5_feel σ 0 (nI i) (nI (lowN (v >>> (nI a &&& 31)) 4)) (1 + nI a)) (1 + 1 + 3 * i) (psh E (f_X4_stepUnder σ (1 + 1 + 3 * i) (σ 1 4) (nI (lowN (v >>> (nI a &&& 31)) 4))) (1 + nI a) (σ (1 + 1 + 3 * i) 1)) (lL L) (B + 1000 * (a + 1)) ∧ bk3 (a + 1) (psh E (f_X4_stepUnder σ (1 + 1 + 3 * i) (σ 1 4) (nI (lowN (v >>> (nI a &&& 31)) 4))) (1 + nI a) (σ (1 + 1 + 3 * i) 1)) ((s_X5_feel σ 0 (nI i) (nI (lowN (v >>> (nI a &&& 31)) 4)) (1 + nI a)) (1 + 1 + 3 * i) 1, (s_X5_feel σ 0 (nI i) (nI (lowN (v >>> (nI a &&& 31)) 4)) (1 + nI a)) (1 + 1 + 3 * i) 2, (s_X5_feel σ 0 (nI i) (nI (lowN (v >>> (nI a &&& 31)) 4)) (1 + nI a)) (1 + 1 + 3 * i) 4) = t := by
  have hy : St (nI (lowN (v >>> (nI a &&& 31)) 4)) := st_j _ (Nat.mod_lt _ (by decide))
  obtain ⟨-, -, fG, fS, fk, -⟩ := feel_ok h hN hi hy (tb_w ha) (tb_B ha hB)
  rw [show B + 1000 * (a + 1) = B + 1000 * a + 1000 by omega]
  exact ⟨fG, fS, bk3_feel hN.1 hy fk hb⟩
theorem tb_next {i a f : Nat} {v : Int32} {σ : Sg} (h : a < f) : TBs i v (f - (a + 1)) (a + 1) (s_X5_feel σ 0 (nI i) (nI (lowN (v >>> (nI a &&& 31)) 4)) (1 + nI a)) = TBs i v (f - a) a σ := by
  rw [show f - a = (f - (a + 1)) + 1 by omega]
  rfl
theorem tb_fin {i a f : Nat} {v : Int32} {σ σ9 : Sg} (h : f ≤ a) (hn : a ≤ f) (h9 : s_X5_goBack (TBs i v (f - a) a σ) 0 (nI i) (nI f) = σ9) : s_X5_goBack σ 0 (nI i) (nI f) = σ9 := by
  rw [show f - a = 0 by omega] at h9
  exact h9
theorem tb_end {σ σ9 : Sg} {B i L a f : Nat} {v s9 p9 a9 : Int32} {E : Nat → Nat → Int32} (h : GN (B + 1000 * a) σ) (hN : SnN σ (1 + 1 + 3 * i) E L (B + 1000 * a)) (hi : i < 4) (hf1 : 1 ≤ f) (ha : a ≤ 8) (haL : a ≤ L) (haf : a ≤ f) (hfa : f ≤ a) (hB : B + 40000 ≤ 1000000000) (hb : bk3 a E (σ (1 + 1 + 3 * i) 1, σ (1 + 1 + 3 * i) 2, σ (1 + 1 + 3 * i) 4) = (s9, p9, a9)) (h9 : s_X5_goBack (TBs i v (f - a) a σ) 0 (nI i) (nI f) = σ9) :
    x_X5_goBack σ 0 (nI i) (nI f) = 0 ∧ f_X5_goBack σ 0 (nI i) (nI f) = σ9 (1 + 1 + 3 * i) 2 ∧ σ9 (1 + 1 + 3 * i) 2 = p9 ∧ σ9 (1 + 1 + 3 * i) 1 = s9 ∧ σ9 (1 + 1 + 3 * i) 4 = a9 := by
  have e : f = a := by omega
  subst e
  have h9' : s_X5_goBack σ 0 (nI i) (nI f) = σ9 := by
    rw [Nat.sub_self] at h9
    exact h9
  obtain ⟨bx, bf, -, -, -, -, -, b3⟩ := back_ok h hN hi hf1 haL (tb_B ha hB)
  rw [h9'] at bf b3
  rw [hb] at b3
  have c1 := congrArg (fun q => q.1) b3
  have c2 := congrArg (fun q => q.2.1) b3
  have c3 := congrArg (fun q => q.2.2) b3
  exact ⟨bx, bf, c2, c1, c3⟩
theorem tb_gn {i : Nat} {v : Int32} (hi : i < 4) : ∀ (n a B : Nat) (σ : Sg) (E : Nat → Nat → Int32) (L : Nat), GN (B + 1000 * a) σ → SnN σ (1 + 1 + 3 * i) E L (B + 1000 * a) → n + a ≤ 8 → a ≤ L → B + 40000 ≤ 1000000000 → ∃ (E' : Nat → Nat → Int32) (L' : Nat), GN (B + 1000 * (a + n)) (TBs i v n a σ) ∧ SnN (TBs i v n a σ) (1 + 1 + 3 * i) E' L' (B + 1000 * (a + n)) ∧ a + n ≤ L' := by
  intro n
  induction n with
  | zero => intro a B σ E L h hN _ hL _; exact ⟨E, L, h, hN, hL⟩
  | succ n ih =>
    intro a B σ E L h hN hn hL hB
    obtain ⟨g1, g2, -⟩ := tb_step (v := v) h hN hi (by omega) rfl hB
    obtain ⟨E', L', c1, c2, c3⟩ := ih (a + 1) B _ _ _ g1 g2 (by omega) (by unfold lL; split <;> omega) hB
    rw [show a + (n + 1) = a + 1 + n by omega]
    exact ⟨E', L', c1, c2, c3⟩
theorem there_gn {σ : Sg} {B i : Nat} {v w : Int32} (h : GN B σ) (hi : i < 4) (hB : B + 40000 ≤ 1000000000) : GN (B + 30000) (s_X5_goBack (TBs i v (1 + lowN w 8 - 0) 0 σ) 0 (nI i) (nI (1 + lowN w 8))) := by
  have hw8 : lowN w 8 < 8 := Nat.mod_lt _ (by decide)
  obtain ⟨E, L, hN⟩ := h.1 i hi
  obtain ⟨E', L', c1, c2, c3⟩ := tb_gn (v := v) hi (1 + lowN w 8 - 0) 0 B σ E L h hN (by omega) (by omega) hB
  obtain ⟨-, -, bG, -⟩ := back_ok c1 c2 hi (f := 1 + lowN w 8) (by omega) (by omega) (by omega)
  exact bG.mono (by omega)
theorem cw_L_isThereAndBack : cwSt yL_isThereAndBack cL_isThereAndBack 10 (some .boolean) 4 := ⟨(mA2 (i := 227) rfl rfl), (mA1 (i := 0) rfl rfl), (mA2 (i := 228) rfl rfl), by decide +kernel⟩
abbrev rm_L_isThereAndBack : Room := { frames := 9, cells := 0, slots := 0, locals := 161 }
set_option maxHeartbeats 4000000 in
set_option maxRecDepth 100000 in
theorem lpK_L_isThereAndBack {p : Program} {l : Launch} {e : Env} {s : State} {m : MethodId} {args : Array Value} {below : List Frame} {meth : Method} {c : Code} {D : va_G} {cy : Nat → ClassId} {z : Nat} (C : Bd p s m args meth c cL_isThereAndBack 10 (some .boolean) RL D cy z) (o : Int64) (d : UInt64) {τ : Sg} (hfl : l.stackTraces = false) {B i : Nat} {v w s9 p9 a9 : Int32} {σ9 : Sg} (hi : i < 4) (hB9 : B + 40000 ≤ 1000000000) :
    ∀ (n : Nat) (σ : Sg) (E : Nat → Nat → Int32) (L : Nat) (a : Nat) (H : Heap) (locs : List Loc), (GN (B + 1000 * a) σ) → (SnN σ (1 + 1 + 3 * i) E L (B + 1000 * a)) → (bk3 a E (σ (1 + 1 + 3 * i) 1, σ (1 + 1 + 3 * i) 2, σ (1 + 1 + 3 * i) 4) = (s9, p9, a9)) → (s_X5_goBack (TBs i v (1 + lowN w 8 - a) a σ) 0 (nI i) (nI (1 + lowN w 8)) = σ9) → (a ≤ 8 ∧ a ≤ L ∧ a ≤ 1 + lowN w 8 ∧ 10 ≤ a + n) → WP D cy z σ τ o d H → va_S (fz z) s.heap H locs → ∀ ls : Array Slot, lv_has ls 10 [(0, .ref (z + 0)), (1, .int (nI i)), (2, .int v), (3, .int w), (4, .int p9), (5, .int s9), (6, .int a9), (7, .int (nI (1 + lowN w 8))), (8, .int 1), (9, .int (nI a))] → W p l e rm_L_isThereAndBack s m args below meth c H locs 0 0 (MQ below (PoI D cy z o d 1 σ9 τ) args s 0 0 (fz z)) (F0 m 37 ls []) := by
  obtain ⟨hx, hb, hr, hml, hown, hW, hlocks, hAm⟩ := id C
  intro n
  induction n with
  | zero =>
    intro σ E L a H locs hG9 hN9 hb9 h9 hn9 hP hS ls hl
    exact absurd hn9 (by omega)
  | succ n ih =>
    intro σ E L a H locs hG9 hN9 hb9 h9 hn9 hP hS ls hl
    have hw8 : lowN w 8 < 8 := Nat.mod_lt _ (by decide)
    refine lv_iload hx hb dL_isThereAndBack_37 (lv_at hl 9 rfl) ?_
    refine lv_iload hx hb dL_isThereAndBack_39 (lv_at hl 7 rfl) ?_
    refine lv_icmp_ge (tgt := 82) hx hb dL_isThereAndBack_41 (by decide) (fun c_41 => ?_) (fun c_41 => ?_)
    · have d_41 : 1 + lowN w 8 ≤ a := (cI_le rfl rfl (by omega) (by omega)).mp c_41
      refine lv_iload hx hb dL_isThereAndBack_82 (lv_at hl 8 rfl) ?_
      refine lv_if_eq (tgt := 123) hx hb dL_isThereAndBack_84 (by decide) (fun c_84 => ?_) (fun c_84 => ?_)
      · exact absurd c_84 (by decide)
      · refine lv_aload_n hx hb dL_isThereAndBack_87 rfl (lv_at hl 0 rfl) ?_
        refine lv_iload_n hx hb dL_isThereAndBack_88 rfl (lv_at hl 1 rfl) ?_
        refine lv_iload hx hb dL_isThereAndBack_89 (lv_at hl 7 rfl) ?_
        obtain ⟨bx, bf, b2, b1, b4⟩ := tb_end hG9 hN9 hi (by omega) hn9.1 hn9.2.1 hn9.2.2.1 d_41 hB9 hb9 h9
        refine okE_I bx (bf.trans b2) (tb_fin d_41 hn9.2.2.1 h9) (runT_V (As := [.int (nI i), .int (nI (1 + lowN w 8))]) (rest := []) C (k_X5_goBack l hfl D cy z o d σ τ (rfl : kd 0 = 5) (nI i) (nI (1 + lowN w 8)) hG9.2.2.2) hP hS cw_X5_goBack (mA2 (i := 233) rfl rfl) (rfl : kd 0 = 5) ⟨Nat.le_of_ble_eq_true rfl, Nat.le_of_ble_eq_true rfl⟩ rfl (Nat.le_of_ble_eq_true rfl) hl.1 (tcc_0 bx ⟨Nat.zero_le _, Nat.zero_le _⟩) dL_isThereAndBack_91) hS (fun H locs hP hS => ?_)
        refine lv_iload hx hb dL_isThereAndBack_94 (lv_at hl 4 rfl) ?_
        refine lv_icmp_ne (tgt := 123) hx hb dL_isThereAndBack_96 (by decide) (fun c_96 => ?_) (fun c_96 => ?_)
        · exact absurd rfl c_96
        · refine lv_aload_n hx hb dL_isThereAndBack_99 rfl (lv_at hl 0 rfl) ?_
          refine lv_iload_n hx hb dL_isThereAndBack_100 rfl (lv_at hl 1 rfl) ?_
          refine okE_I (rx_stateOf hi) (rd_stateOf hi) rfl (runT_V (As := [.int (nI i)]) (rest := []) C (k_X5_stateOf l hfl D cy z o d σ9 τ (rfl : kd 0 = 5) (nI i)) hP hS cw_X5_stateOf (mA2 (i := 80) rfl rfl) (rfl : kd 0 = 5) ⟨Nat.le_of_ble_eq_true rfl, Nat.le_of_ble_eq_true rfl⟩ rfl (Nat.le_of_ble_eq_true rfl) hl.1 (tcc_0 (rx_stateOf hi) ⟨Nat.zero_le _, Nat.zero_le _⟩) dL_isThereAndBack_101) hS (fun H locs hP hS => ?_)
          refine lv_iload hx hb dL_isThereAndBack_104 (lv_at hl 5 rfl) ?_
          refine lv_icmp_ne (tgt := 123) hx hb dL_isThereAndBack_106 (by decide) (fun c_106 => ?_) (fun c_106 => ?_)
          · exact absurd b1 c_106
          · refine lv_aload_n hx hb dL_isThereAndBack_109 rfl (lv_at hl 0 rfl) ?_
            refine lv_iload_n hx hb dL_isThereAndBack_110 rfl (lv_at hl 1 rfl) ?_
            refine okE_I (rx_countOfA hi) (rd_countOfA hi) rfl (runT_V (As := [.int (nI i)]) (rest := []) C (k_X5_countOfA l hfl D cy z o d σ9 τ (rfl : kd 0 = 5) (nI i)) hP hS cw_X5_countOfA (mA2 (i := 229) rfl rfl) (rfl : kd 0 = 5) ⟨Nat.le_of_ble_eq_true rfl, Nat.le_of_ble_eq_true rfl⟩ rfl (Nat.le_of_ble_eq_true rfl) hl.1 (tcc_0 (rx_countOfA hi) ⟨Nat.zero_le _, Nat.zero_le _⟩) dL_isThereAndBack_111) hS (fun H locs hP hS => ?_)
            refine lv_iload hx hb dL_isThereAndBack_114 (lv_at hl 6 rfl) ?_
            refine lv_icmp_ne (tgt := 123) hx hb dL_isThereAndBack_116 (by decide) (fun c_116 => ?_) (fun c_116 => ?_)
            · exact absurd b4 c_116
            · refine lv_iconst (v := 1) hx hb dL_isThereAndBack_119 (by decide) ?_
              refine lv_goto (tgt := 124) hx hb dL_isThereAndBack_120 (by decide) ?_
              exact ret_I C hP hS nar_z1 rfl rfl rfl rfl dL_isThereAndBack_124
    · have d_41 : ¬ (1 + lowN w 8 ≤ a) := fun h9 => c_41 ((cI_le rfl rfl (by omega) (by omega)).mpr h9)
      refine lv_iload hx hb dL_isThereAndBack_44 (lv_at hl 8 rfl) ?_
      refine lv_if_eq (tgt := 73) hx hb dL_isThereAndBack_46 (by decide) (fun c_46 => ?_) (fun c_46 => ?_)
      · exact absurd c_46 (by decide)
      · refine lv_aload_n hx hb dL_isThereAndBack_49 rfl (lv_at hl 0 rfl) ?_
        refine lv_iload_n hx hb dL_isThereAndBack_50 rfl (lv_at hl 1 rfl) ?_
        refine lv_iload_n hx hb dL_isThereAndBack_51 rfl (lv_at hl 2 rfl) ?_
        refine lv_iload hx hb dL_isThereAndBack_52 (lv_at hl 9 rfl) ?_
        refine lv_ishr hx hb dL_isThereAndBack_54 ?_
        refine lv_iconst (v := 4) hx hb dL_isThereAndBack_55 (by decide) ?_
        refine thnE_I (low_ok (v >>> ((nI a) &&& 31)) 4 (by decide) (by decide)).1 rfl (run_S (As := [.int (v >>> ((nI a) &&& 31)), .int 4]) (rest := [.int (nI i), .ref (z + 0)]) C (k_L_low l D cy z o d σ τ (v >>> ((nI a) &&& 31)) 4 (by decide)) hP hS cw_L_low (mA1 (i := 184) rfl rfl) ⟨rfl, rfl⟩ ⟨Nat.le_of_ble_eq_true rfl, Nat.le_of_ble_eq_true rfl⟩ rfl (Nat.le_of_ble_eq_true rfl) hl.1 ⟨Nat.zero_le _, Nat.zero_le _⟩ dL_isThereAndBack_56) hS (fun H locs hP hS => ?_)
        refine lv_iconst (v := 1) hx hb dL_isThereAndBack_59 (by decide) ?_
        refine lv_iload hx hb dL_isThereAndBack_60 (lv_at hl 9 rfl) ?_
        refine lv_iadd hx hb dL_isThereAndBack_62 ?_
        obtain ⟨gG, gS, gb⟩ := tb_step (v := v) hG9 hN9 hi hn9.1 hb9 hB9
        refine thnE_I rfl rfl (run_S (As := [.ref (z + 0), .int (nI i), .int (nI (lowN (v >>> ((nI a) &&& 31)) 4)), .int (1 + (nI a))]) (rest := []) C (k_L_isFelt l hfl D cy z o d τ hG9 hN9 hi (st_j _ (Nat.mod_lt _ (by decide))) (tb_w hn9.1) (tb_B hn9.1 hB9)) hP hS cw_L_isFelt (mA1 (i := 191) rfl rfl) ⟨rfl, rfl⟩ ⟨Nat.le_of_ble_eq_true rfl, Nat.le_of_ble_eq_true rfl⟩ rfl (Nat.le_of_ble_eq_true rfl) hl.1 ⟨Nat.zero_le _, Nat.zero_le _⟩ dL_isThereAndBack_63) hS (fun H locs hP hS => ?_)
        refine lv_if_eq (tgt := 73) hx hb dL_isThereAndBack_66 (by decide) (fun c_66 => ?_) (fun c_66 => ?_)
        · exact absurd c_66 (by decide)
        · refine lv_iconst (v := 1) hx hb dL_isThereAndBack_69 (by decide) ?_
          refine lv_goto (tgt := 74) hx hb dL_isThereAndBack_70 (by decide) ?_
          refine lv_istore (lv' := [(8, .int 1), (0, .ref (z + 0)), (1, .int (nI i)), (2, .int v), (3, .int w), (4, .int p9), (5, .int s9), (6, .int a9), (7, .int (nI (1 + lowN w 8))), (9, .int (nI a))]) hx hb dL_isThereAndBack_74 hl (by decide) rfl (fun ls hl => ?_)
          refine lv_iinc (v := nI (a + 1)) (lv' := [(9, .int (nI (a + 1))), (8, .int 1), (0, .ref (z + 0)), (1, .int (nI i)), (2, .int v), (3, .int w), (4, .int p9), (5, .int s9), (6, .int a9), (7, .int (nI (1 + lowN w 8)))]) hx hb dL_isThereAndBack_76 hl (k := 9) rfl (nI_1 a) (by decide) rfl (fun ls hl => ?_)
          refine lv_goto (tgt := 37) hx hb dL_isThereAndBack_79 (by decide) ?_
          exact ih (s_X5_feel σ 0 (nI i) (nI (lowN (v >>> (nI a &&& 31)) 4)) (1 + nI a)) (psh E (f_X4_stepUnder σ (1 + 1 + 3 * i) (σ 1 4) (nI (lowN (v >>> (nI a &&& 31)) 4))) (1 + nI a) (σ (1 + 1 + 3 * i) 1)) (lL L) (a + 1) _ _ gG gS gb (by rw [← h9]; exact congrArg (fun q => s_X5_goBack q 0 (nI i) (nI (1 + lowN w 8))) (tb_next (by omega))) ⟨by omega, by unfold lL; split <;> omega, by omega, by omega⟩ hP hS ls (lv_sub hl [2, 3, 4, 5, 6, 7, 8, 9, 1, 0] rfl)
set_option maxHeartbeats 4000000 in
set_option maxRecDepth 100000 in
theorem k_L_isThereAndBack (l : Launch) (hfl : l.stackTraces = false) (D : va_G) (cy : Nat → ClassId) (z : Nat) (o : Int64) (d : UInt64) (τ : Sg) {σ : Sg} {B i : Nat} {v w : Int32} (h : GN B σ) (hi : i < 4) (hB9 : B + 40000 ≤ 1000000000) : KI l yL_isThereAndBack cL_isThereAndBack 10 (some .boolean) rm_L_isThereAndBack D cy z [.ref (z + 0), .int (nI i), .int v, .int w] o d σ τ 1 (s_X5_goBack (TBs i v (1 + lowN w 8 - 0) 0 σ) 0 (nI i) (nI (1 + lowN w 8))) τ := by
  refine met_of RL (plainFor_of_name (by decide)) rfl (Nat.le_of_ble_eq_true rfl) ?_
  intro p e s m args below meth c C hP hS ls hl
  obtain ⟨hx, hb, hr, hml, hown, hW, hlocks, hAm⟩ := id C
  have hl : lv_has ls 10 [(0, .ref (z + 0)), (1, .int (nI i)), (2, .int v), (3, .int w)] := hl
  obtain ⟨E, L, hN⟩ := h.1 i hi
  have hG0 : GN (B + 1000 * 0) σ := h
  have hN0 : SnN σ (1 + 1 + 3 * i) E L (B + 1000 * 0) := hN
  refine lv_aload_n hx hb dL_isThereAndBack_0 rfl (lv_at hl 0 rfl) ?_
  refine lv_iload_n hx hb dL_isThereAndBack_1 rfl (lv_at hl 1 rfl) ?_
  refine okE_I (rx_positionOf hi) (rd_positionOf hi) rfl (runT_V (As := [.int (nI i)]) (rest := []) C (k_X5_positionOf l hfl D cy z o d σ τ (rfl : kd 0 = 5) (nI i)) hP hS cw_X5_positionOf (mA2 (i := 64) rfl rfl) (rfl : kd 0 = 5) ⟨Nat.le_of_ble_eq_true rfl, Nat.le_of_ble_eq_true rfl⟩ rfl (Nat.le_of_ble_eq_true rfl) hl.1 (tcc_0 (rx_positionOf hi) ⟨Nat.zero_le _, Nat.zero_le _⟩) dL_isThereAndBack_2) hS (fun H locs hP hS => ?_)
  refine lv_istore (lv' := [(4, .int (σ (1 + 1 + 3 * i) 2)), (0, .ref (z + 0)), (1, .int (nI i)), (2, .int v), (3, .int w)]) hx hb dL_isThereAndBack_5 hl (by decide) rfl (fun ls hl => ?_)
  refine lv_aload_n hx hb dL_isThereAndBack_7 rfl (lv_at hl 1 rfl) ?_
  refine lv_iload_n hx hb dL_isThereAndBack_8 rfl (lv_at hl 2 rfl) ?_
  refine okE_I (rx_stateOf hi) (rd_stateOf hi) rfl (runT_V (As := [.int (nI i)]) (rest := []) C (k_X5_stateOf l hfl D cy z o d σ τ (rfl : kd 0 = 5) (nI i)) hP hS cw_X5_stateOf (mA2 (i := 80) rfl rfl) (rfl : kd 0 = 5) ⟨Nat.le_of_ble_eq_true rfl, Nat.le_of_ble_eq_true rfl⟩ rfl (Nat.le_of_ble_eq_true rfl) hl.1 (tcc_0 (rx_stateOf hi) ⟨Nat.zero_le _, Nat.zero_le _⟩) dL_isThereAndBack_9) hS (fun H locs hP hS => ?_)
  refine lv_istore (lv' := [(5, .int (σ (1 + 1 + 3 * i) 1)), (4, .int (σ (1 + 1 + 3 * i) 2)), (0, .ref (z + 0)), (1, .int (nI i)), (2, .int v), (3, .int w)]) hx hb dL_isThereAndBack_12 hl (by decide) rfl (fun ls hl => ?_)
  refine lv_aload_n hx hb dL_isThereAndBack_14 rfl (lv_at hl 2 rfl) ?_
  refine lv_iload_n hx hb dL_isThereAndBack_15 rfl (lv_at hl 3 rfl) ?_
  refine okE_I (rx_countOfA hi) (rd_countOfA hi) rfl (runT_V (As := [.int (nI i)]) (rest := []) C (k_X5_countOfA l hfl D cy z o d σ τ (rfl : kd 0 = 5) (nI i)) hP hS cw_X5_countOfA (mA2 (i := 229) rfl rfl) (rfl : kd 0 = 5) ⟨Nat.le_of_ble_eq_true rfl, Nat.le_of_ble_eq_true rfl⟩ rfl (Nat.le_of_ble_eq_true rfl) hl.1 (tcc_0 (rx_countOfA hi) ⟨Nat.zero_le _, Nat.zero_le _⟩) dL_isThereAndBack_16) hS (fun H locs hP hS => ?_)
  refine lv_istore (lv' := [(6, .int (σ (1 + 1 + 3 * i) 4)), (5, .int (σ (1 + 1 + 3 * i) 1)), (4, .int (σ (1 + 1 + 3 * i) 2)), (0, .ref (z + 0)), (1, .int (nI i)), (2, .int v), (3, .int w)]) hx hb dL_isThereAndBack_19 hl (by decide) rfl (fun ls hl => ?_)
  refine lv_iconst (v := 1) hx hb dL_isThereAndBack_21 (by decide) ?_
  refine lv_iload_n hx hb dL_isThereAndBack_22 rfl (lv_at hl 6 rfl) ?_
  refine lv_bipush (v := 8) hx hb dL_isThereAndBack_23 (by decide) ?_
  refine thnE_I (low_ok w 8 (by decide) (by decide)).1 rfl (run_S (As := [.int w, .int 8]) (rest := [.int 1]) C (k_L_low l D cy z o d σ τ w 8 (by decide)) hP hS cw_L_low (mA1 (i := 184) rfl rfl) ⟨rfl, rfl⟩ ⟨Nat.le_of_ble_eq_true rfl, Nat.le_of_ble_eq_true rfl⟩ rfl (Nat.le_of_ble_eq_true rfl) hl.1 ⟨Nat.zero_le _, Nat.zero_le _⟩ dL_isThereAndBack_25) hS (fun H locs hP hS => ?_)
  refine lv_iadd hx hb dL_isThereAndBack_28 ?_
  rw [nI_c1]
  refine lv_istore (lv' := [(7, .int (nI (1 + lowN w 8))), (6, .int (σ (1 + 1 + 3 * i) 4)), (5, .int (σ (1 + 1 + 3 * i) 1)), (4, .int (σ (1 + 1 + 3 * i) 2)), (0, .ref (z + 0)), (1, .int (nI i)), (2, .int v), (3, .int w)]) hx hb dL_isThereAndBack_29 hl (by decide) rfl (fun ls hl => ?_)
  refine lv_iconst (v := 1) hx hb dL_isThereAndBack_31 (by decide) ?_
  refine lv_istore (lv' := [(8, .int 1), (7, .int (nI (1 + lowN w 8))), (6, .int (σ (1 + 1 + 3 * i) 4)), (5, .int (σ (1 + 1 + 3 * i) 1)), (4, .int (σ (1 + 1 + 3 * i) 2)), (0, .ref (z + 0)), (1, .int (nI i)), (2, .int v), (3, .int w)]) hx hb dL_isThereAndBack_32 hl (by decide) rfl (fun ls hl => ?_)
  refine lv_iconst (v := 0) hx hb dL_isThereAndBack_34 (by decide) ?_
  refine lv_istore (lv' := [(9, .int 0), (8, .int 1), (7, .int (nI (1 + lowN w 8))), (6, .int (σ (1 + 1 + 3 * i) 4)), (5, .int (σ (1 + 1 + 3 * i) 1)), (4, .int (σ (1 + 1 + 3 * i) 2)), (0, .ref (z + 0)), (1, .int (nI i)), (2, .int v), (3, .int w)]) hx hb dL_isThereAndBack_35 hl (by decide) rfl (fun ls hl => ?_)
  exact lpK_L_isThereAndBack C o d hfl hi hB9 10 σ E L 0 _ _ hG0 hN0 rfl rfl ⟨by omega, by omega, by omega, by omega⟩ hP hS ls (lv_sub hl [6, 7, 8, 9, 5, 4, 3, 2, 1, 0] rfl)

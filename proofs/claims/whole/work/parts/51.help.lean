theorem nest_c1 : Cond.castable "java/lang/IndexOutOfBoundsException" "java/lang/IndexOutOfBoundsException" ∈ nestW := by decide +kernel
theorem nest_c2 : Cond.castable "java/lang/IllegalArgumentException" "java/lang/IllegalArgumentException" ∈ nestW := by decide +kernel
theorem nest_c3 : Cond.castable "java/lang/IllegalStateException" "java/lang/IllegalStateException" ∈ nestW := by decide +kernel
set_option maxHeartbeats 4000000 in
set_option maxRecDepth 100000 in
theorem k_L_feel (l : Launch) (hfl : l.stackTraces = false) (D : va_G) (cy : Nat → ClassId) (z : Nat) (o : Int64) (d : UInt64) (σ τ : Sg) (x : Int32) (y : Int32) (w : Int32) {t : Nat} (ht : t = x_X5_feel σ 0 x y w) (htg : t = 0 ∨ t = 1 ∨ t = 2 ∨ t = 3) : KH l yL_feel cL_feel 6 [(0, 12, 15, 13), (0, 12, 19, 15), (0, 12, 23, 17)] 8 129 D cy z [.ref (z + 0), .int x, .int y, .int w, .ref (z + 101)] o d σ τ t (hkt t) (hO t (f_X5_feel σ 0 x y w) o) d (s_X5_feel σ 0 x y w) τ := by
  refine metH_of RL (by decide) rfl (Nat.le_of_ble_eq_true rfl) ?_
  intro p e s m args below meth c C hNC htab hP hS ls hl
  obtain ⟨hx, hb, hr, hml, hown, hW, hlocks, hAm⟩ := id C
  have hl : lv_has ls 6 [(0, .ref (z + 0)), (1, .int x), (2, .int y), (3, .int w), (4, .ref (z + 101))] := hl
  refine lv_aload hx hb dL_feel_0 (lv_at hl 4 rfl) ?_
  refine lv_iconst (v := 0) hx hb dL_feel_2 (by decide) ?_
  refine lv_aload_n hx hb dL_feel_3 rfl (lv_at hl 0 rfl) ?_
  refine lv_iload_n hx hb dL_feel_4 rfl (lv_at hl 1 rfl) ?_
  refine lv_iload_n hx hb dL_feel_5 rfl (lv_at hl 2 rfl) ?_
  refine lv_iload_n hx hb dL_feel_6 rfl (lv_at hl 3 rfl) ?_
  refine hcall_I (t := t) (rest := [.int 0, .ref (z + 101)]) (by subst ht; exact runT_V (kr := 0) (As := [.int x, .int y, .int w]) (rest := [.int 0, .ref (z + 101)]) C (k_X5_feel l hfl D cy z o d σ τ (rfl : kd 0 = 5) x y w) hP hS cw_X5_feel (mA2 (i := 21) rfl rfl) rfl ⟨Nat.le_of_ble_eq_true rfl, Nat.le_of_ble_eq_true rfl⟩ rfl (Nat.le_of_ble_eq_true rfl) hl.1 rm_in dL_feel_7) hS (fun h0 ce q9 H locs hP hS hce hcv hcl => ?_) (fun h0 H locs hP hS => ?_)
  · rcases htg with e9 | e9 | e9 | e9
    · exact absurd e9 h0
    · subst e9
      refine hc0 C (T := "java/lang/IndexOutOfBoundsException") (x := ⟨0, 12, 15, 13⟩) htab rfl (by decide) (mA2 (i := 18) rfl rfl) nest_c1 hce hcv hcl ?_
      refine lv_astore (lv' := [(5, .ref q9), (0, .ref (z + 0)), (1, .int x), (2, .int y), (3, .int w), (4, .ref (z + 101))]) hx hb dL_feel_15 hl (by decide) rfl (fun ls hl => ?_)
      refine lv_iconst (v := 1) hx hb dL_feel_17 (by decide) ?_
      exact ret_I C hP hS (nar_i _) rfl rfl rfl rfl dL_feel_18
    · subst e9
      refine hc1 C (T := "java/lang/IllegalArgumentException") (x := ⟨0, 12, 19, 15⟩) (x1 := ⟨0, 12, 15, 13⟩) htab (by decide) (mA2 (i := 18) rfl rfl) hNC.1 rfl (by decide) (mA2 (i := 19) rfl rfl) nest_c2 hce hcv hcl ?_
      refine lv_astore (lv' := [(5, .ref q9), (0, .ref (z + 0)), (1, .int x), (2, .int y), (3, .int w), (4, .ref (z + 101))]) hx hb dL_feel_19 hl (by decide) rfl (fun ls hl => ?_)
      refine lv_iconst (v := 2) hx hb dL_feel_21 (by decide) ?_
      exact ret_I C hP hS (nar_i _) rfl rfl rfl rfl dL_feel_22
    · subst e9
      refine hc2 C (T := "java/lang/IllegalStateException") (x := ⟨0, 12, 23, 17⟩) (x1 := ⟨0, 12, 15, 13⟩) (x2 := ⟨0, 12, 19, 15⟩) htab (by decide) (mA2 (i := 18) rfl rfl) hNC.2.1 (by decide) (mA2 (i := 19) rfl rfl) hNC.2.2 rfl (by decide) (mA2 (i := 20) rfl rfl) nest_c3 hce hcv hcl ?_
      refine lv_astore (lv' := [(5, .ref q9), (0, .ref (z + 0)), (1, .int x), (2, .int y), (3, .int w), (4, .ref (z + 101))]) hx hb dL_feel_23 hl (by decide) rfl (fun ls hl => ?_)
      refine lv_iconst (v := 3) hx hb dL_feel_25 (by decide) ?_
      exact ret_I C hP hS (nar_i _) rfl rfl rfl rfl dL_feel_26
  · subst h0
    refine lv_i2l hx hb dL_feel_10 rfl ?_
    refine as_15 C hP hS dL_feel_11 (fun H locs hP hS => ?_)
    refine lv_goto (tgt := 27) hx hb dL_feel_12 (by decide) ?_
    refine lv_iconst (v := 0) hx hb dL_feel_27 (by decide) ?_
    exact ret_I C hP hS (nar_i _) rfl rfl rfl rfl dL_feel_28

set_option maxHeartbeats 4000000 in
set_option maxRecDepth 100000 in
theorem k_L_crawl (l : Launch) (hfl : l.stackTraces = false) (D : va_G) (cy : Nat → ClassId) (z : Nat) (o : Int64) (d : UInt64) (σ τ : Sg) (x : Int32) (y : Int32) {t : Nat} (ht : t = x_X5_crawl σ 0 x y) (htg : t = 0 ∨ t = 1 ∨ t = 2 ∨ t = 3) : KH l yL_crawl cL_crawl 5 [(0, 10, 13, 13), (0, 10, 17, 15), (0, 10, 21, 17)] 8 130 D cy z [.ref (z + 0), .int x, .int y, .ref (z + 101)] o d σ τ t (hkt t) (hO t (f_X5_crawl σ 0 x y) o) d (s_X5_crawl σ 0 x y) τ := by
  refine metH_of RL (by decide) rfl (Nat.le_of_ble_eq_true rfl) ?_
  intro p e s m args below meth c C hNC htab hP hS ls hl
  obtain ⟨hx, hb, hr, hml, hown, hW, hlocks, hAm⟩ := id C
  have hl : lv_has ls 5 [(0, .ref (z + 0)), (1, .int x), (2, .int y), (3, .ref (z + 101))] := hl
  refine lv_aload_n hx hb dL_crawl_0 rfl (lv_at hl 3 rfl) ?_
  refine lv_iconst (v := 0) hx hb dL_crawl_1 (by decide) ?_
  refine lv_aload_n hx hb dL_crawl_2 rfl (lv_at hl 0 rfl) ?_
  refine lv_iload_n hx hb dL_crawl_3 rfl (lv_at hl 1 rfl) ?_
  refine lv_iload_n hx hb dL_crawl_4 rfl (lv_at hl 2 rfl) ?_
  refine hcall_I (t := t) (rest := [.int 0, .ref (z + 101)]) (by subst ht; exact runT_V (kr := 0) (As := [.int x, .int y]) (rest := [.int 0, .ref (z + 101)]) C (k_X5_crawl l hfl D cy z o d σ τ (rfl : kd 0 = 5) x y) hP hS cw_X5_crawl (mA2 (i := 192) rfl rfl) rfl ⟨Nat.le_of_ble_eq_true rfl, Nat.le_of_ble_eq_true rfl⟩ rfl (Nat.le_of_ble_eq_true rfl) hl.1 rm_in dL_crawl_5) hS (fun h0 ce q9 H locs hP hS hce hcv hcl => ?_) (fun h0 H locs hP hS => ?_)
  · rcases htg with e9 | e9 | e9 | e9
    · exact absurd e9 h0
    · subst e9
      refine hc0 C (T := "java/lang/IndexOutOfBoundsException") (x := ⟨0, 10, 13, 13⟩) htab rfl (by decide) (mA2 (i := 18) rfl rfl) nest_c1 hce hcv hcl ?_
      refine lv_astore (lv' := [(4, .ref q9), (0, .ref (z + 0)), (1, .int x), (2, .int y), (3, .ref (z + 101))]) hx hb dL_crawl_13 hl (by decide) rfl (fun ls hl => ?_)
      refine lv_iconst (v := 1) hx hb dL_crawl_15 (by decide) ?_
      exact ret_I C hP hS (nar_i _) rfl rfl rfl rfl dL_crawl_16
    · subst e9
      refine hc1 C (T := "java/lang/IllegalArgumentException") (x := ⟨0, 10, 17, 15⟩) (x1 := ⟨0, 10, 13, 13⟩) htab (by decide) (mA2 (i := 18) rfl rfl) hNC.1 rfl (by decide) (mA2 (i := 19) rfl rfl) nest_c2 hce hcv hcl ?_
      refine lv_astore (lv' := [(4, .ref q9), (0, .ref (z + 0)), (1, .int x), (2, .int y), (3, .ref (z + 101))]) hx hb dL_crawl_17 hl (by decide) rfl (fun ls hl => ?_)
      refine lv_iconst (v := 2) hx hb dL_crawl_19 (by decide) ?_
      exact ret_I C hP hS (nar_i _) rfl rfl rfl rfl dL_crawl_20
    · subst e9
      refine hc2 C (T := "java/lang/IllegalStateException") (x := ⟨0, 10, 21, 17⟩) (x1 := ⟨0, 10, 13, 13⟩) (x2 := ⟨0, 10, 17, 15⟩) htab (by decide) (mA2 (i := 18) rfl rfl) hNC.2.1 (by decide) (mA2 (i := 19) rfl rfl) hNC.2.2 rfl (by decide) (mA2 (i := 20) rfl rfl) nest_c3 hce hcv hcl ?_
      refine lv_astore (lv' := [(4, .ref q9), (0, .ref (z + 0)), (1, .int x), (2, .int y), (3, .ref (z + 101))]) hx hb dL_crawl_21 hl (by decide) rfl (fun ls hl => ?_)
      refine lv_iconst (v := 3) hx hb dL_crawl_23 (by decide) ?_
      exact ret_I C hP hS (nar_i _) rfl rfl rfl rfl dL_crawl_24
  · subst h0
    refine lv_i2l hx hb dL_crawl_8 rfl ?_
    refine as_15 C hP hS dL_crawl_9 (fun H locs hP hS => ?_)
    refine lv_goto (tgt := 25) hx hb dL_crawl_10 (by decide) ?_
    refine lv_iconst (v := 0) hx hb dL_crawl_25 (by decide) ?_
    exact ret_I C hP hS (nar_i _) rfl rfl rfl rfl dL_crawl_26

set_option maxHeartbeats 4000000 in
set_option maxRecDepth 100000 in
theorem k_L_meetMark (l : Launch) (hfl : l.stackTraces = false) (D : va_G) (cy : Nat → ClassId) (z : Nat) (o : Int64) (d : UInt64) (σ τ : Sg) (x : Int32) {t : Nat} (ht : t = x_X5_meetMark σ 0 x) (htg : t = 0 ∨ t = 1) : KH l yL_meetMark cL_meetMark 4 [(0, 9, 12, 13)] 8 125 D cy z [.ref (z + 0), .int x, .ref (z + 101)] o d σ τ t (hk1 t) (hO t (f_X5_meetMark σ 0 x) o) d (s_X5_meetMark σ 0 x) τ := by
  refine metH_of RL (by decide) rfl (Nat.le_of_ble_eq_true rfl) ?_
  intro p e s m args below meth c C hNC htab hP hS ls hl
  obtain ⟨hx, hb, hr, hml, hown, hW, hlocks, hAm⟩ := id C
  have hl : lv_has ls 4 [(0, .ref (z + 0)), (1, .int x), (2, .ref (z + 101))] := hl
  refine lv_aload_n hx hb dL_meetMark_0 rfl (lv_at hl 2 rfl) ?_
  refine lv_iconst (v := 0) hx hb dL_meetMark_1 (by decide) ?_
  refine lv_aload_n hx hb dL_meetMark_2 rfl (lv_at hl 0 rfl) ?_
  refine lv_iload_n hx hb dL_meetMark_3 rfl (lv_at hl 1 rfl) ?_
  refine hcall_I (t := t) (rest := [.int 0, .ref (z + 101)]) (by subst ht; exact runT_V (kr := 0) (As := [.int x]) (rest := [.int 0, .ref (z + 101)]) C (k_X5_meetMark l hfl D cy z o d σ τ (rfl : kd 0 = 5) x) hP hS cw_X5_meetMark (mA2 (i := 201) rfl rfl) rfl ⟨Nat.le_of_ble_eq_true rfl, Nat.le_of_ble_eq_true rfl⟩ rfl (Nat.le_of_ble_eq_true rfl) hl.1 rm_in dL_meetMark_4) hS (fun h0 ce q9 H locs hP hS hce hcv hcl => ?_) (fun h0 H locs hP hS => ?_)
  · rcases htg with e9 | e9
    · exact absurd e9 h0
    · subst e9
      refine hc0 C (T := "java/lang/IndexOutOfBoundsException") (x := ⟨0, 9, 12, 13⟩) htab rfl (by decide) (mA2 (i := 18) rfl rfl) nest_c1 hce hcv hcl ?_
      refine lv_astore_n (lv' := [(3, .ref q9), (0, .ref (z + 0)), (1, .int x), (2, .ref (z + 101))]) hx hb dL_meetMark_12 rfl hl (by decide) rfl (fun ls hl => ?_)
      refine lv_iconst (v := 1) hx hb dL_meetMark_13 (by decide) ?_
      exact ret_I C hP hS (nar_i _) rfl rfl rfl rfl dL_meetMark_14
  · subst h0
    refine lv_i2l hx hb dL_meetMark_7 rfl ?_
    refine as_15 C hP hS dL_meetMark_8 (fun H locs hP hS => ?_)
    refine lv_goto (tgt := 15) hx hb dL_meetMark_9 (by decide) ?_
    refine lv_iconst (v := 0) hx hb dL_meetMark_15 (by decide) ?_
    exact ret_I C hP hS (nar_i _) rfl rfl rfl rfl dL_meetMark_16

set_option maxHeartbeats 4000000 in
set_option maxRecDepth 100000 in
theorem k_L_goBack (l : Launch) (hfl : l.stackTraces = false) (D : va_G) (cy : Nat → ClassId) (z : Nat) (o : Int64) (d : UInt64) (σ τ : Sg) (x : Int32) (y : Int32) (hG : LGA σ) {t : Nat} (ht : t = x_X5_goBack σ 0 x y) (htg : t = 0 ∨ t = 1 ∨ t = 2 ∨ t = 3) : KH l yL_goBack cL_goBack 5 [(0, 10, 13, 13), (0, 10, 17, 15), (0, 10, 21, 17)] 8 126 D cy z [.ref (z + 0), .int x, .int y, .ref (z + 101)] o d σ τ t (hkt t) (hO t (f_X5_goBack σ 0 x y) o) d (s_X5_goBack σ 0 x y) τ := by
  refine metH_of RL (by decide) rfl (Nat.le_of_ble_eq_true rfl) ?_
  intro p e s m args below meth c C hNC htab hP hS ls hl
  obtain ⟨hx, hb, hr, hml, hown, hW, hlocks, hAm⟩ := id C
  have hl : lv_has ls 5 [(0, .ref (z + 0)), (1, .int x), (2, .int y), (3, .ref (z + 101))] := hl
  refine lv_aload_n hx hb dL_goBack_0 rfl (lv_at hl 3 rfl) ?_
  refine lv_iconst (v := 0) hx hb dL_goBack_1 (by decide) ?_
  refine lv_aload_n hx hb dL_goBack_2 rfl (lv_at hl 0 rfl) ?_
  refine lv_iload_n hx hb dL_goBack_3 rfl (lv_at hl 1 rfl) ?_
  refine lv_iload_n hx hb dL_goBack_4 rfl (lv_at hl 2 rfl) ?_
  refine hcall_I (t := t) (rest := [.int 0, .ref (z + 101)]) (by subst ht; exact runT_V (kr := 0) (As := [.int x, .int y]) (rest := [.int 0, .ref (z + 101)]) C (k_X5_goBack l hfl D cy z o d σ τ (rfl : kd 0 = 5) x y hG) hP hS cw_X5_goBack (mA2 (i := 219) rfl rfl) rfl ⟨Nat.le_of_ble_eq_true rfl, Nat.le_of_ble_eq_true rfl⟩ rfl (Nat.le_of_ble_eq_true rfl) hl.1 rm_in dL_goBack_5) hS (fun h0 ce q9 H locs hP hS hce hcv hcl => ?_) (fun h0 H locs hP hS => ?_)
  · rcases htg with e9 | e9 | e9 | e9
    · exact absurd e9 h0
    · subst e9
      refine hc0 C (T := "java/lang/IndexOutOfBoundsException") (x := ⟨0, 10, 13, 13⟩) htab rfl (by decide) (mA2 (i := 18) rfl rfl) nest_c1 hce hcv hcl ?_
      refine lv_astore (lv' := [(4, .ref q9), (0, .ref (z + 0)), (1, .int x), (2, .int y), (3, .ref (z + 101))]) hx hb dL_goBack_13 hl (by decide) rfl (fun ls hl => ?_)
      refine lv_iconst (v := 1) hx hb dL_goBack_15 (by decide) ?_
      exact ret_I C hP hS (nar_i _) rfl rfl rfl rfl dL_goBack_16
    · subst e9
      refine hc1 C (T := "java/lang/IllegalArgumentException") (x := ⟨0, 10, 17, 15⟩) (x1 := ⟨0, 10, 13, 13⟩) htab (by decide) (mA2 (i := 18) rfl rfl) hNC.1 rfl (by decide) (mA2 (i := 19) rfl rfl) nest_c2 hce hcv hcl ?_
      refine lv_astore (lv' := [(4, .ref q9), (0, .ref (z + 0)), (1, .int x), (2, .int y), (3, .ref (z + 101))]) hx hb dL_goBack_17 hl (by decide) rfl (fun ls hl => ?_)
      refine lv_iconst (v := 2) hx hb dL_goBack_19 (by decide) ?_
      exact ret_I C hP hS (nar_i _) rfl rfl rfl rfl dL_goBack_20
    · subst e9
      refine hc2 C (T := "java/lang/IllegalStateException") (x := ⟨0, 10, 21, 17⟩) (x1 := ⟨0, 10, 13, 13⟩) (x2 := ⟨0, 10, 17, 15⟩) htab (by decide) (mA2 (i := 18) rfl rfl) hNC.2.1 (by decide) (mA2 (i := 19) rfl rfl) hNC.2.2 rfl (by decide) (mA2 (i := 20) rfl rfl) nest_c3 hce hcv hcl ?_
      refine lv_astore (lv' := [(4, .ref q9), (0, .ref (z + 0)), (1, .int x), (2, .int y), (3, .ref (z + 101))]) hx hb dL_goBack_21 hl (by decide) rfl (fun ls hl => ?_)
      refine lv_iconst (v := 3) hx hb dL_goBack_23 (by decide) ?_
      exact ret_I C hP hS (nar_i _) rfl rfl rfl rfl dL_goBack_24
  · subst h0
    refine lv_i2l hx hb dL_goBack_8 rfl ?_
    refine as_15 C hP hS dL_goBack_9 (fun H locs hP hS => ?_)
    refine lv_goto (tgt := 25) hx hb dL_goBack_10 (by decide) ?_
    refine lv_iconst (v := 0) hx hb dL_goBack_25 (by decide) ?_
    exact ret_I C hP hS (nar_i _) rfl rfl rfl rfl dL_goBack_26

set_option maxHeartbeats 4000000 in
set_option maxRecDepth 100000 in
theorem k_L_setRule (l : Launch) (hfl : l.stackTraces = false) (D : va_G) (cy : Nat → ClassId) (z : Nat) (o : Int64) (d : UInt64) (σ τ : Sg) (x : Int32) {t : Nat} (ht : t = x_X5_setRule σ 0 x) (htg : t = 0 ∨ t = 2) : KH l yL_setRule cL_setRule 4 [(0, 9, 12, 15)] 7 107 D cy z [.ref (z + 0), .int x, .ref (z + 101)] o d σ τ t (hk1 t) (hO t (f_X5_setRule σ 0 x) o) d (s_X5_setRule σ 0 x) τ := by
  refine metH_of RL (by decide) rfl (Nat.le_of_ble_eq_true rfl) ?_
  intro p e s m args below meth c C hNC htab hP hS ls hl
  obtain ⟨hx, hb, hr, hml, hown, hW, hlocks, hAm⟩ := id C
  have hl : lv_has ls 4 [(0, .ref (z + 0)), (1, .int x), (2, .ref (z + 101))] := hl
  refine lv_aload_n hx hb dL_setRule_0 rfl (lv_at hl 2 rfl) ?_
  refine lv_iconst (v := 0) hx hb dL_setRule_1 (by decide) ?_
  refine lv_aload_n hx hb dL_setRule_2 rfl (lv_at hl 0 rfl) ?_
  refine lv_iload_n hx hb dL_setRule_3 rfl (lv_at hl 1 rfl) ?_
  refine hcall_I (t := t) (rest := [.int 0, .ref (z + 101)]) (by subst ht; exact runT_V (kr := 0) (As := [.int x]) (rest := [.int 0, .ref (z + 101)]) C (k_X5_setRule l hfl D cy z o d σ τ (rfl : kd 0 = 5) x) hP hS cw_X5_setRule (mA3 (i := 17) rfl rfl) rfl ⟨Nat.le_of_ble_eq_true rfl, Nat.le_of_ble_eq_true rfl⟩ rfl (Nat.le_of_ble_eq_true rfl) hl.1 rm_in dL_setRule_4) hS (fun h0 ce q9 H locs hP hS hce hcv hcl => ?_) (fun h0 H locs hP hS => ?_)
  · rcases htg with e9 | e9
    · exact absurd e9 h0
    · subst e9
      refine hc0 C (T := "java/lang/IllegalArgumentException") (x := ⟨0, 9, 12, 15⟩) htab rfl (by decide) (mA2 (i := 19) rfl rfl) nest_c2 hce hcv hcl ?_
      refine lv_astore_n (lv' := [(3, .ref q9), (0, .ref (z + 0)), (1, .int x), (2, .ref (z + 101))]) hx hb dL_setRule_12 rfl hl (by decide) rfl (fun ls hl => ?_)
      refine lv_iconst (v := 1) hx hb dL_setRule_13 (by decide) ?_
      exact ret_I C hP hS (nar_i _) rfl rfl rfl rfl dL_setRule_14
  · subst h0
    refine lv_i2l hx hb dL_setRule_7 rfl ?_
    refine as_15 C hP hS dL_setRule_8 (fun H locs hP hS => ?_)
    refine lv_goto (tgt := 15) hx hb dL_setRule_9 (by decide) ?_
    refine lv_iconst (v := 0) hx hb dL_setRule_15 (by decide) ?_
    exact ret_I C hP hS (nar_i _) rfl rfl rfl rfl dL_setRule_16

set_option maxHeartbeats 4000000 in
set_option maxRecDepth 100000 in
theorem k_L_setCounts (l : Launch) (hfl : l.stackTraces = false) (D : va_G) (cy : Nat → ClassId) (z : Nat) (o : Int64) (d : UInt64) (σ τ : Sg) (x : Int32) {t : Nat} (ht : t = x_X5_setCounts σ 0 x) (htg : t = 0 ∨ t = 2) : KH l yL_setCounts cL_setCounts 4 [(0, 9, 12, 15)] 7 107 D cy z [.ref (z + 0), .int x, .ref (z + 101)] o d σ τ t (hk1 t) (hO t (f_X5_setCounts σ 0 x) o) d (s_X5_setCounts σ 0 x) τ := by
  refine metH_of RL (by decide) rfl (Nat.le_of_ble_eq_true rfl) ?_
  intro p e s m args below meth c C hNC htab hP hS ls hl
  obtain ⟨hx, hb, hr, hml, hown, hW, hlocks, hAm⟩ := id C
  have hl : lv_has ls 4 [(0, .ref (z + 0)), (1, .int x), (2, .ref (z + 101))] := hl
  refine lv_aload_n hx hb dL_setCounts_0 rfl (lv_at hl 2 rfl) ?_
  refine lv_iconst (v := 0) hx hb dL_setCounts_1 (by decide) ?_
  refine lv_aload_n hx hb dL_setCounts_2 rfl (lv_at hl 0 rfl) ?_
  refine lv_iload_n hx hb dL_setCounts_3 rfl (lv_at hl 1 rfl) ?_
  refine hcall_I (t := t) (rest := [.int 0, .ref (z + 101)]) (by subst ht; exact runT_V (kr := 0) (As := [.int x]) (rest := [.int 0, .ref (z + 101)]) C (k_X5_setCounts l hfl D cy z o d σ τ (rfl : kd 0 = 5) x) hP hS cw_X5_setCounts (mA3 (i := 25) rfl rfl) rfl ⟨Nat.le_of_ble_eq_true rfl, Nat.le_of_ble_eq_true rfl⟩ rfl (Nat.le_of_ble_eq_true rfl) hl.1 rm_in dL_setCounts_4) hS (fun h0 ce q9 H locs hP hS hce hcv hcl => ?_) (fun h0 H locs hP hS => ?_)
  · rcases htg with e9 | e9
    · exact absurd e9 h0
    · subst e9
      refine hc0 C (T := "java/lang/IllegalArgumentException") (x := ⟨0, 9, 12, 15⟩) htab rfl (by decide) (mA2 (i := 19) rfl rfl) nest_c2 hce hcv hcl ?_
      refine lv_astore_n (lv' := [(3, .ref q9), (0, .ref (z + 0)), (1, .int x), (2, .ref (z + 101))]) hx hb dL_setCounts_12 rfl hl (by decide) rfl (fun ls hl => ?_)
      refine lv_iconst (v := 1) hx hb dL_setCounts_13 (by decide) ?_
      exact ret_I C hP hS (nar_i _) rfl rfl rfl rfl dL_setCounts_14
  · subst h0
    refine lv_i2l hx hb dL_setCounts_7 rfl ?_
    refine as_15 C hP hS dL_setCounts_8 (fun H locs hP hS => ?_)
    refine lv_goto (tgt := 15) hx hb dL_setCounts_9 (by decide) ?_
    refine lv_iconst (v := 0) hx hb dL_setCounts_15 (by decide) ?_
    exact ret_I C hP hS (nar_i _) rfl rfl rfl rfl dL_setCounts_16

set_option maxHeartbeats 4000000 in
set_option maxRecDepth 100000 in
theorem k_L_type (l : Launch) (hfl : l.stackTraces = false) (D : va_G) (cy : Nat → ClassId) (z : Nat) (o : Int64) (d : UInt64) (σ τ : Sg) (x : Int32) {t : Nat} (ht : t = x_X5_type σ 0 x) (htg : t = 0 ∨ t = 3) : KH l yL_type cL_type 4 [(0, 9, 12, 17)] 7 103 D cy z [.ref (z + 0), .int x, .ref (z + 101)] o d σ τ t (hk1 t) (hO t (f_X5_type σ 0 x) o) d (s_X5_type σ 0 x) τ := by
  refine metH_of RL (by decide) rfl (Nat.le_of_ble_eq_true rfl) ?_
  intro p e s m args below meth c C hNC htab hP hS ls hl
  obtain ⟨hx, hb, hr, hml, hown, hW, hlocks, hAm⟩ := id C
  have hl : lv_has ls 4 [(0, .ref (z + 0)), (1, .int x), (2, .ref (z + 101))] := hl
  refine lv_aload_n hx hb dL_type_0 rfl (lv_at hl 2 rfl) ?_
  refine lv_iconst (v := 0) hx hb dL_type_1 (by decide) ?_
  refine lv_aload_n hx hb dL_type_2 rfl (lv_at hl 0 rfl) ?_
  refine lv_iload_n hx hb dL_type_3 rfl (lv_at hl 1 rfl) ?_
  refine hcall_I (t := t) (rest := [.int 0, .ref (z + 101)]) (by subst ht; exact runT_V (kr := 0) (As := [.int x]) (rest := [.int 0, .ref (z + 101)]) C (k_X5_type l hfl D cy z o d σ τ (rfl : kd 0 = 5) x) hP hS cw_X5_type (mA3 (i := 33) rfl rfl) rfl ⟨Nat.le_of_ble_eq_true rfl, Nat.le_of_ble_eq_true rfl⟩ rfl (Nat.le_of_ble_eq_true rfl) hl.1 rm_in dL_type_4) hS (fun h0 ce q9 H locs hP hS hce hcv hcl => ?_) (fun h0 H locs hP hS => ?_)
  · rcases htg with e9 | e9
    · exact absurd e9 h0
    · subst e9
      refine hc0 C (T := "java/lang/IllegalStateException") (x := ⟨0, 9, 12, 17⟩) htab rfl (by decide) (mA2 (i := 20) rfl rfl) nest_c3 hce hcv hcl ?_
      refine lv_astore_n (lv' := [(3, .ref q9), (0, .ref (z + 0)), (1, .int x), (2, .ref (z + 101))]) hx hb dL_type_12 rfl hl (by decide) rfl (fun ls hl => ?_)
      refine lv_iconst (v := 1) hx hb dL_type_13 (by decide) ?_
      exact ret_I C hP hS (nar_i _) rfl rfl rfl rfl dL_type_14
  · subst h0
    refine lv_i2l hx hb dL_type_7 rfl ?_
    refine as_15 C hP hS dL_type_8 (fun H locs hP hS => ?_)
    refine lv_goto (tgt := 15) hx hb dL_type_9 (by decide) ?_
    refine lv_iconst (v := 0) hx hb dL_type_15 (by decide) ?_
    exact ret_I C hP hS (nar_i _) rfl rfl rfl rfl dL_type_16

set_option maxHeartbeats 4000000 in
set_option maxRecDepth 100000 in
theorem k_L_impossibleOrder (l : Launch) (hfl : l.stackTraces = false) (D : va_G) (cy : Nat → ClassId) (z : Nat) (o : Int64) (d : UInt64) (σ τ : Sg) (hG : LGA σ) (hT : TXA σ) {t : Nat} (ht : t = x_X5_impossibleOrder σ 0) (htg : t = 0 ∨ t = 3) : KH l yL_impossibleOrder cL_impossibleOrder 3 [(0, 8, 11, 17)] 8 165 D cy z [.ref (z + 0), .ref (z + 101)] o d σ τ t (hk1 t) (hO t (f_X5_impossibleOrder σ 0) o) d (s_X5_impossibleOrder σ 0) τ := by
  refine metH_of RL (by decide) rfl (Nat.le_of_ble_eq_true rfl) ?_
  intro p e s m args below meth c C hNC htab hP hS ls hl
  obtain ⟨hx, hb, hr, hml, hown, hW, hlocks, hAm⟩ := id C
  have hl : lv_has ls 3 [(0, .ref (z + 0)), (1, .ref (z + 101))] := hl
  refine lv_aload_n hx hb dL_impossibleOrder_0 rfl (lv_at hl 1 rfl) ?_
  refine lv_iconst (v := 0) hx hb dL_impossibleOrder_1 (by decide) ?_
  refine lv_aload_n hx hb dL_impossibleOrder_2 rfl (lv_at hl 0 rfl) ?_
  refine hcall_I (t := t) (rest := [.int 0, .ref (z + 101)]) (by subst ht; exact runT_V (kr := 0) (As := []) (rest := [.int 0, .ref (z + 101)]) C (k_X5_impossibleOrder l hfl D cy z o d σ τ (rfl : kd 0 = 5) hG hT) hP hS cw_X5_impossibleOrder (mA3 (i := 45) rfl rfl) rfl ⟨Nat.le_of_ble_eq_true rfl, Nat.le_of_ble_eq_true rfl⟩ rfl (Nat.le_of_ble_eq_true rfl) hl.1 rm_in dL_impossibleOrder_3) hS (fun h0 ce q9 H locs hP hS hce hcv hcl => ?_) (fun h0 H locs hP hS => ?_)
  · rcases htg with e9 | e9
    · exact absurd e9 h0
    · subst e9
      refine hc0 C (T := "java/lang/IllegalStateException") (x := ⟨0, 8, 11, 17⟩) htab rfl (by decide) (mA2 (i := 20) rfl rfl) nest_c3 hce hcv hcl ?_
      refine lv_astore_n (lv' := [(2, .ref q9), (0, .ref (z + 0)), (1, .ref (z + 101))]) hx hb dL_impossibleOrder_11 rfl hl (by decide) rfl (fun ls hl => ?_)
      refine lv_iconst (v := 1) hx hb dL_impossibleOrder_12 (by decide) ?_
      exact ret_I C hP hS (nar_i _) rfl rfl rfl rfl dL_impossibleOrder_13
  · subst h0
    refine lv_i2l hx hb dL_impossibleOrder_6 rfl ?_
    refine as_15 C hP hS dL_impossibleOrder_7 (fun H locs hP hS => ?_)
    refine lv_goto (tgt := 14) hx hb dL_impossibleOrder_8 (by decide) ?_
    refine lv_iconst (v := 0) hx hb dL_impossibleOrder_14 (by decide) ?_
    exact ret_I C hP hS (nar_i _) rfl rfl rfl rfl dL_impossibleOrder_15

set_option maxHeartbeats 4000000 in
set_option maxRecDepth 100000 in
theorem k_L_carryOut (l : Launch) (hfl : l.stackTraces = false) (D : va_G) (cy : Nat → ClassId) (z : Nat) (o : Int64) (d : UInt64) (σ τ : Sg) (hG : LGA σ) (hT : TXA σ) {t : Nat} (ht : t = x_X5_carryOut σ 0) (htg : t = 0 ∨ t = 3) : KH l yL_carryOut cL_carryOut 3 [(0, 8, 11, 17)] 8 165 D cy z [.ref (z + 0), .ref (z + 101)] o d σ τ t (hk1 t) (hO t (f_X5_carryOut σ 0) o) d (s_X5_carryOut σ 0) τ := by
  refine metH_of RL (by decide) rfl (Nat.le_of_ble_eq_true rfl) ?_
  intro p e s m args below meth c C hNC htab hP hS ls hl
  obtain ⟨hx, hb, hr, hml, hown, hW, hlocks, hAm⟩ := id C
  have hl : lv_has ls 3 [(0, .ref (z + 0)), (1, .ref (z + 101))] := hl
  refine lv_aload_n hx hb dL_carryOut_0 rfl (lv_at hl 1 rfl) ?_
  refine lv_iconst (v := 0) hx hb dL_carryOut_1 (by decide) ?_
  refine lv_aload_n hx hb dL_carryOut_2 rfl (lv_at hl 0 rfl) ?_
  refine hcall_I (t := t) (rest := [.int 0, .ref (z + 101)]) (by subst ht; exact runT_V (kr := 0) (As := []) (rest := [.int 0, .ref (z + 101)]) C (k_X5_carryOut l hfl D cy z o d σ τ (rfl : kd 0 = 5) hG hT) hP hS cw_X5_carryOut (mA3 (i := 87) rfl rfl) rfl ⟨Nat.le_of_ble_eq_true rfl, Nat.le_of_ble_eq_true rfl⟩ rfl (Nat.le_of_ble_eq_true rfl) hl.1 rm_in dL_carryOut_3) hS (fun h0 ce q9 H locs hP hS hce hcv hcl => ?_) (fun h0 H locs hP hS => ?_)
  · rcases htg with e9 | e9
    · exact absurd e9 h0
    · subst e9
      refine hc0 C (T := "java/lang/IllegalStateException") (x := ⟨0, 8, 11, 17⟩) htab rfl (by decide) (mA2 (i := 20) rfl rfl) nest_c3 hce hcv hcl ?_
      refine lv_astore_n (lv' := [(2, .ref q9), (0, .ref (z + 0)), (1, .ref (z + 101))]) hx hb dL_carryOut_11 rfl hl (by decide) rfl (fun ls hl => ?_)
      refine lv_iconst (v := 1) hx hb dL_carryOut_12 (by decide) ?_
      exact ret_I C hP hS (nar_i _) rfl rfl rfl rfl dL_carryOut_13
  · subst h0
    refine lv_i2l hx hb dL_carryOut_6 rfl ?_
    refine as_15 C hP hS dL_carryOut_7 (fun H locs hP hS => ?_)
    refine lv_goto (tgt := 14) hx hb dL_carryOut_8 (by decide) ?_
    refine lv_iconst (v := 0) hx hb dL_carryOut_14 (by decide) ?_
    exact ret_I C hP hS (nar_i _) rfl rfl rfl rfl dL_carryOut_15

set_option maxHeartbeats 4000000 in
set_option maxRecDepth 100000 in
theorem k_L_undo (l : Launch) (hfl : l.stackTraces = false) (D : va_G) (cy : Nat → ClassId) (z : Nat) (o : Int64) (d : UInt64) (σ τ : Sg) {t : Nat} (ht : t = x_X5_undo σ 0) (htg : t = 0 ∨ t = 3) : KH l yL_undo cL_undo 3 [(0, 8, 11, 17)] 7 105 D cy z [.ref (z + 0), .ref (z + 101)] o d σ τ t (hk1 t) (hO t (f_X5_undo σ 0) o) d (s_X5_undo σ 0) τ := by
  refine metH_of RL (by decide) rfl (Nat.le_of_ble_eq_true rfl) ?_
  intro p e s m args below meth c C hNC htab hP hS ls hl
  obtain ⟨hx, hb, hr, hml, hown, hW, hlocks, hAm⟩ := id C
  have hl : lv_has ls 3 [(0, .ref (z + 0)), (1, .ref (z + 101))] := hl
  refine lv_aload_n hx hb dL_undo_0 rfl (lv_at hl 1 rfl) ?_
  refine lv_iconst (v := 0) hx hb dL_undo_1 (by decide) ?_
  refine lv_aload_n hx hb dL_undo_2 rfl (lv_at hl 0 rfl) ?_
  refine hcall_I (t := t) (rest := [.int 0, .ref (z + 101)]) (by subst ht; exact runT_V (kr := 0) (As := []) (rest := [.int 0, .ref (z + 101)]) C (k_X5_undo l hfl D cy z o d σ τ (rfl : kd 0 = 5)) hP hS cw_X5_undo (mA3 (i := 95) rfl rfl) rfl ⟨Nat.le_of_ble_eq_true rfl, Nat.le_of_ble_eq_true rfl⟩ rfl (Nat.le_of_ble_eq_true rfl) hl.1 rm_in dL_undo_3) hS (fun h0 ce q9 H locs hP hS hce hcv hcl => ?_) (fun h0 H locs hP hS => ?_)
  · rcases htg with e9 | e9
    · exact absurd e9 h0
    · subst e9
      refine hc0 C (T := "java/lang/IllegalStateException") (x := ⟨0, 8, 11, 17⟩) htab rfl (by decide) (mA2 (i := 20) rfl rfl) nest_c3 hce hcv hcl ?_
      refine lv_astore_n (lv' := [(2, .ref q9), (0, .ref (z + 0)), (1, .ref (z + 101))]) hx hb dL_undo_11 rfl hl (by decide) rfl (fun ls hl => ?_)
      refine lv_iconst (v := 1) hx hb dL_undo_12 (by decide) ?_
      exact ret_I C hP hS (nar_i _) rfl rfl rfl rfl dL_undo_13
  · subst h0
    refine lv_i2l hx hb dL_undo_6 rfl ?_
    refine as_15 C hP hS dL_undo_7 (fun H locs hP hS => ?_)
    refine lv_goto (tgt := 14) hx hb dL_undo_8 (by decide) ?_
    refine lv_iconst (v := 0) hx hb dL_undo_14 (by decide) ?_
    exact ret_I C hP hS (nar_i _) rfl rfl rfl rfl dL_undo_15

set_option maxHeartbeats 4000000 in
set_option maxRecDepth 100000 in
theorem k_L_restoreSnapshot (l : Launch) (hfl : l.stackTraces = false) (D : va_G) (cy : Nat → ClassId) (z : Nat) (o : Int64) (d : UInt64) (σ τ : Sg) {t : Nat} (ht : t = x_X5_restoreSnapshot σ 0) (htg : t = 0 ∨ t = 3) : KH l yL_restoreSnapshot cL_restoreSnapshot 3 [(0, 8, 11, 17)] 7 105 D cy z [.ref (z + 0), .ref (z + 101)] o d σ τ t (hk1 t) (hO t (f_X5_restoreSnapshot σ 0) o) d (s_X5_restoreSnapshot σ 0) τ := by
  refine metH_of RL (by decide) rfl (Nat.le_of_ble_eq_true rfl) ?_
  intro p e s m args below meth c C hNC htab hP hS ls hl
  obtain ⟨hx, hb, hr, hml, hown, hW, hlocks, hAm⟩ := id C
  have hl : lv_has ls 3 [(0, .ref (z + 0)), (1, .ref (z + 101))] := hl
  refine lv_aload_n hx hb dL_restoreSnapshot_0 rfl (lv_at hl 1 rfl) ?_
  refine lv_iconst (v := 0) hx hb dL_restoreSnapshot_1 (by decide) ?_
  refine lv_aload_n hx hb dL_restoreSnapshot_2 rfl (lv_at hl 0 rfl) ?_
  refine hcall_I (t := t) (rest := [.int 0, .ref (z + 101)]) (by subst ht; exact runT_V (kr := 0) (As := []) (rest := [.int 0, .ref (z + 101)]) C (k_X5_restoreSnapshot l hfl D cy z o d σ τ (rfl : kd 0 = 5)) hP hS cw_X5_restoreSnapshot (mA3 (i := 107) rfl rfl) rfl ⟨Nat.le_of_ble_eq_true rfl, Nat.le_of_ble_eq_true rfl⟩ rfl (Nat.le_of_ble_eq_true rfl) hl.1 rm_in dL_restoreSnapshot_3) hS (fun h0 ce q9 H locs hP hS hce hcv hcl => ?_) (fun h0 H locs hP hS => ?_)
  · rcases htg with e9 | e9
    · exact absurd e9 h0
    · subst e9
      refine hc0 C (T := "java/lang/IllegalStateException") (x := ⟨0, 8, 11, 17⟩) htab rfl (by decide) (mA2 (i := 20) rfl rfl) nest_c3 hce hcv hcl ?_
      refine lv_astore_n (lv' := [(2, .ref q9), (0, .ref (z + 0)), (1, .ref (z + 101))]) hx hb dL_restoreSnapshot_11 rfl hl (by decide) rfl (fun ls hl => ?_)
      refine lv_iconst (v := 1) hx hb dL_restoreSnapshot_12 (by decide) ?_
      exact ret_I C hP hS (nar_i _) rfl rfl rfl rfl dL_restoreSnapshot_13
  · subst h0
    refine lv_i2l hx hb dL_restoreSnapshot_6 rfl ?_
    refine as_15 C hP hS dL_restoreSnapshot_7 (fun H locs hP hS => ?_)
    refine lv_goto (tgt := 14) hx hb dL_restoreSnapshot_8 (by decide) ?_
    refine lv_iconst (v := 0) hx hb dL_restoreSnapshot_14 (by decide) ?_
    exact ret_I C hP hS (nar_i _) rfl rfl rfl rfl dL_restoreSnapshot_15

set_option maxHeartbeats 4000000 in
set_option maxRecDepth 100000 in
theorem k_L_stateOf (l : Launch) (hfl : l.stackTraces = false) (D : va_G) (cy : Nat → ClassId) (z : Nat) (o : Int64) (d : UInt64) (σ τ : Sg) (x : Int32) {t : Nat} (ht : t = x_X5_stateOf σ 0 x) (htg : t = 0 ∨ t = 1) : KH l yL_stateOf cL_stateOf 4 [(0, 9, 12, 13)] 8 124 D cy z [.ref (z + 0), .int x, .ref (z + 101)] o d σ τ t (hk1 t) (hO t (f_X5_stateOf σ 0 x) o) d σ τ := by
  refine metH_of RL (by decide) rfl (Nat.le_of_ble_eq_true rfl) ?_
  intro p e s m args below meth c C hNC htab hP hS ls hl
  obtain ⟨hx, hb, hr, hml, hown, hW, hlocks, hAm⟩ := id C
  have hl : lv_has ls 4 [(0, .ref (z + 0)), (1, .int x), (2, .ref (z + 101))] := hl
  refine lv_aload_n hx hb dL_stateOf_0 rfl (lv_at hl 2 rfl) ?_
  refine lv_iconst (v := 0) hx hb dL_stateOf_1 (by decide) ?_
  refine lv_aload_n hx hb dL_stateOf_2 rfl (lv_at hl 0 rfl) ?_
  refine lv_iload_n hx hb dL_stateOf_3 rfl (lv_at hl 1 rfl) ?_
  refine hcall_I (t := t) (rest := [.int 0, .ref (z + 101)]) (by subst ht; exact runT_V (kr := 0) (As := [.int x]) (rest := [.int 0, .ref (z + 101)]) C (k_X5_stateOf l hfl D cy z o d σ τ (rfl : kd 0 = 5) x) hP hS cw_X5_stateOf (mA3 (i := 115) rfl rfl) rfl ⟨Nat.le_of_ble_eq_true rfl, Nat.le_of_ble_eq_true rfl⟩ rfl (Nat.le_of_ble_eq_true rfl) hl.1 rm_in dL_stateOf_4) hS (fun h0 ce q9 H locs hP hS hce hcv hcl => ?_) (fun h0 H locs hP hS => ?_)
  · rcases htg with e9 | e9
    · exact absurd e9 h0
    · subst e9
      refine hc0 C (T := "java/lang/IndexOutOfBoundsException") (x := ⟨0, 9, 12, 13⟩) htab rfl (by decide) (mA2 (i := 18) rfl rfl) nest_c1 hce hcv hcl ?_
      refine lv_astore_n (lv' := [(3, .ref q9), (0, .ref (z + 0)), (1, .int x), (2, .ref (z + 101))]) hx hb dL_stateOf_12 rfl hl (by decide) rfl (fun ls hl => ?_)
      refine lv_iconst (v := 1) hx hb dL_stateOf_13 (by decide) ?_
      exact ret_I C hP hS (nar_i _) rfl rfl rfl rfl dL_stateOf_14
  · subst h0
    refine lv_i2l hx hb dL_stateOf_7 rfl ?_
    refine as_15 C hP hS dL_stateOf_8 (fun H locs hP hS => ?_)
    refine lv_goto (tgt := 15) hx hb dL_stateOf_9 (by decide) ?_
    refine lv_iconst (v := 0) hx hb dL_stateOf_15 (by decide) ?_
    exact ret_I C hP hS (nar_i _) rfl rfl rfl rfl dL_stateOf_16

set_option maxHeartbeats 4000000 in
set_option maxRecDepth 100000 in
theorem k_L_positionOf (l : Launch) (hfl : l.stackTraces = false) (D : va_G) (cy : Nat → ClassId) (z : Nat) (o : Int64) (d : UInt64) (σ τ : Sg) (x : Int32) {t : Nat} (ht : t = x_X5_positionOf σ 0 x) (htg : t = 0 ∨ t = 1) : KH l yL_positionOf cL_positionOf 4 [(0, 9, 12, 13)] 8 124 D cy z [.ref (z + 0), .int x, .ref (z + 101)] o d σ τ t (hk1 t) (hO t (f_X5_positionOf σ 0 x) o) d σ τ := by
  refine metH_of RL (by decide) rfl (Nat.le_of_ble_eq_true rfl) ?_
  intro p e s m args below meth c C hNC htab hP hS ls hl
  obtain ⟨hx, hb, hr, hml, hown, hW, hlocks, hAm⟩ := id C
  have hl : lv_has ls 4 [(0, .ref (z + 0)), (1, .int x), (2, .ref (z + 101))] := hl
  refine lv_aload_n hx hb dL_positionOf_0 rfl (lv_at hl 2 rfl) ?_
  refine lv_iconst (v := 0) hx hb dL_positionOf_1 (by decide) ?_
  refine lv_aload_n hx hb dL_positionOf_2 rfl (lv_at hl 0 rfl) ?_
  refine lv_iload_n hx hb dL_positionOf_3 rfl (lv_at hl 1 rfl) ?_
  refine hcall_I (t := t) (rest := [.int 0, .ref (z + 101)]) (by subst ht; exact runT_V (kr := 0) (As := [.int x]) (rest := [.int 0, .ref (z + 101)]) C (k_X5_positionOf l hfl D cy z o d σ τ (rfl : kd 0 = 5) x) hP hS cw_X5_positionOf (mA3 (i := 122) rfl rfl) rfl ⟨Nat.le_of_ble_eq_true rfl, Nat.le_of_ble_eq_true rfl⟩ rfl (Nat.le_of_ble_eq_true rfl) hl.1 rm_in dL_positionOf_4) hS (fun h0 ce q9 H locs hP hS hce hcv hcl => ?_) (fun h0 H locs hP hS => ?_)
  · rcases htg with e9 | e9
    · exact absurd e9 h0
    · subst e9
      refine hc0 C (T := "java/lang/IndexOutOfBoundsException") (x := ⟨0, 9, 12, 13⟩) htab rfl (by decide) (mA2 (i := 18) rfl rfl) nest_c1 hce hcv hcl ?_
      refine lv_astore_n (lv' := [(3, .ref q9), (0, .ref (z + 0)), (1, .int x), (2, .ref (z + 101))]) hx hb dL_positionOf_12 rfl hl (by decide) rfl (fun ls hl => ?_)
      refine lv_iconst (v := 1) hx hb dL_positionOf_13 (by decide) ?_
      exact ret_I C hP hS (nar_i _) rfl rfl rfl rfl dL_positionOf_14
  · subst h0
    refine lv_i2l hx hb dL_positionOf_7 rfl ?_
    refine as_15 C hP hS dL_positionOf_8 (fun H locs hP hS => ?_)
    refine lv_goto (tgt := 15) hx hb dL_positionOf_9 (by decide) ?_
    refine lv_iconst (v := 0) hx hb dL_positionOf_15 (by decide) ?_
    exact ret_I C hP hS (nar_i _) rfl rfl rfl rfl dL_positionOf_16

set_option maxHeartbeats 4000000 in
set_option maxRecDepth 100000 in
theorem k_L_positionByTracks (l : Launch) (hfl : l.stackTraces = false) (D : va_G) (cy : Nat → ClassId) (z : Nat) (o : Int64) (d : UInt64) (σ τ : Sg) (x : Int32) {t : Nat} (ht : t = x_X5_positionByTracks σ 0 x) (htg : t = 0 ∨ t = 1) : KH l yL_positionByTracks cL_positionByTracks 4 [(0, 9, 12, 13)] 8 125 D cy z [.ref (z + 0), .int x, .ref (z + 101)] o d σ τ t (hk1 t) (hO t (f_X5_positionByTracks σ 0 x) o) d σ τ := by
  refine metH_of RL (by decide) rfl (Nat.le_of_ble_eq_true rfl) ?_
  intro p e s m args below meth c C hNC htab hP hS ls hl
  obtain ⟨hx, hb, hr, hml, hown, hW, hlocks, hAm⟩ := id C
  have hl : lv_has ls 4 [(0, .ref (z + 0)), (1, .int x), (2, .ref (z + 101))] := hl
  refine lv_aload_n hx hb dL_positionByTracks_0 rfl (lv_at hl 2 rfl) ?_
  refine lv_iconst (v := 0) hx hb dL_positionByTracks_1 (by decide) ?_
  refine lv_aload_n hx hb dL_positionByTracks_2 rfl (lv_at hl 0 rfl) ?_
  refine lv_iload_n hx hb dL_positionByTracks_3 rfl (lv_at hl 1 rfl) ?_
  refine hcall_I (t := t) (rest := [.int 0, .ref (z + 101)]) (by subst ht; exact runT_V (kr := 0) (As := [.int x]) (rest := [.int 0, .ref (z + 101)]) C (k_X5_positionByTracks l hfl D cy z o d σ τ (rfl : kd 0 = 5) x) hP hS cw_X5_positionByTracks (mA3 (i := 129) rfl rfl) rfl ⟨Nat.le_of_ble_eq_true rfl, Nat.le_of_ble_eq_true rfl⟩ rfl (Nat.le_of_ble_eq_true rfl) hl.1 rm_in dL_positionByTracks_4) hS (fun h0 ce q9 H locs hP hS hce hcv hcl => ?_) (fun h0 H locs hP hS => ?_)
  · rcases htg with e9 | e9
    · exact absurd e9 h0
    · subst e9
      refine hc0 C (T := "java/lang/IndexOutOfBoundsException") (x := ⟨0, 9, 12, 13⟩) htab rfl (by decide) (mA2 (i := 18) rfl rfl) nest_c1 hce hcv hcl ?_
      refine lv_astore_n (lv' := [(3, .ref q9), (0, .ref (z + 0)), (1, .int x), (2, .ref (z + 101))]) hx hb dL_positionByTracks_12 rfl hl (by decide) rfl (fun ls hl => ?_)
      refine lv_iconst (v := 1) hx hb dL_positionByTracks_13 (by decide) ?_
      exact ret_I C hP hS (nar_i _) rfl rfl rfl rfl dL_positionByTracks_14
  · subst h0
    refine lv_i2l hx hb dL_positionByTracks_7 rfl ?_
    refine as_15 C hP hS dL_positionByTracks_8 (fun H locs hP hS => ?_)
    refine lv_goto (tgt := 15) hx hb dL_positionByTracks_9 (by decide) ?_
    refine lv_iconst (v := 0) hx hb dL_positionByTracks_15 (by decide) ?_
    exact ret_I C hP hS (nar_i _) rfl rfl rfl rfl dL_positionByTracks_16

set_option maxHeartbeats 4000000 in
set_option maxRecDepth 100000 in
theorem k_L_turnsOf (l : Launch) (hfl : l.stackTraces = false) (D : va_G) (cy : Nat → ClassId) (z : Nat) (o : Int64) (d : UInt64) (σ τ : Sg) (x : Int32) {t : Nat} (ht : t = x_X5_turnsOf σ 0 x) (htg : t = 0 ∨ t = 1) : KH l yL_turnsOf cL_turnsOf 4 [(0, 9, 12, 13)] 8 124 D cy z [.ref (z + 0), .int x, .ref (z + 101)] o d σ τ t (hk1 t) (hO t (f_X5_turnsOf σ 0 x) o) d σ τ := by
  refine metH_of RL (by decide) rfl (Nat.le_of_ble_eq_true rfl) ?_
  intro p e s m args below meth c C hNC htab hP hS ls hl
  obtain ⟨hx, hb, hr, hml, hown, hW, hlocks, hAm⟩ := id C
  have hl : lv_has ls 4 [(0, .ref (z + 0)), (1, .int x), (2, .ref (z + 101))] := hl
  refine lv_aload_n hx hb dL_turnsOf_0 rfl (lv_at hl 2 rfl) ?_
  refine lv_iconst (v := 0) hx hb dL_turnsOf_1 (by decide) ?_
  refine lv_aload_n hx hb dL_turnsOf_2 rfl (lv_at hl 0 rfl) ?_
  refine lv_iload_n hx hb dL_turnsOf_3 rfl (lv_at hl 1 rfl) ?_
  refine hcall_I (t := t) (rest := [.int 0, .ref (z + 101)]) (by subst ht; exact runT_V (kr := 0) (As := [.int x]) (rest := [.int 0, .ref (z + 101)]) C (k_X5_turnsOf l hfl D cy z o d σ τ (rfl : kd 0 = 5) x) hP hS cw_X5_turnsOf (mA3 (i := 136) rfl rfl) rfl ⟨Nat.le_of_ble_eq_true rfl, Nat.le_of_ble_eq_true rfl⟩ rfl (Nat.le_of_ble_eq_true rfl) hl.1 rm_in dL_turnsOf_4) hS (fun h0 ce q9 H locs hP hS hce hcv hcl => ?_) (fun h0 H locs hP hS => ?_)
  · rcases htg with e9 | e9
    · exact absurd e9 h0
    · subst e9
      refine hc0 C (T := "java/lang/IndexOutOfBoundsException") (x := ⟨0, 9, 12, 13⟩) htab rfl (by decide) (mA2 (i := 18) rfl rfl) nest_c1 hce hcv hcl ?_
      refine lv_astore_n (lv' := [(3, .ref q9), (0, .ref (z + 0)), (1, .int x), (2, .ref (z + 101))]) hx hb dL_turnsOf_12 rfl hl (by decide) rfl (fun ls hl => ?_)
      refine lv_iconst (v := 1) hx hb dL_turnsOf_13 (by decide) ?_
      exact ret_I C hP hS (nar_i _) rfl rfl rfl rfl dL_turnsOf_14
  · subst h0
    refine lv_i2l hx hb dL_turnsOf_7 rfl ?_
    refine as_15 C hP hS dL_turnsOf_8 (fun H locs hP hS => ?_)
    refine lv_goto (tgt := 15) hx hb dL_turnsOf_9 (by decide) ?_
    refine lv_iconst (v := 0) hx hb dL_turnsOf_15 (by decide) ?_
    exact ret_I C hP hS (nar_i _) rfl rfl rfl rfl dL_turnsOf_16

set_option maxHeartbeats 4000000 in
set_option maxRecDepth 100000 in
theorem k_L_placeOf (l : Launch) (hfl : l.stackTraces = false) (D : va_G) (cy : Nat → ClassId) (z : Nat) (o : Int64) (d : UInt64) (σ τ : Sg) (x : Int32) {t : Nat} (ht : t = x_X5_placeOf σ 0 x) (htg : t = 0 ∨ t = 1) : KH l yL_placeOf cL_placeOf 4 [(0, 9, 12, 13)] 8 124 D cy z [.ref (z + 0), .int x, .ref (z + 101)] o d σ τ t (hk1 t) (hO t (f_X5_placeOf σ 0 x) o) d σ τ := by
  refine metH_of RL (by decide) rfl (Nat.le_of_ble_eq_true rfl) ?_
  intro p e s m args below meth c C hNC htab hP hS ls hl
  obtain ⟨hx, hb, hr, hml, hown, hW, hlocks, hAm⟩ := id C
  have hl : lv_has ls 4 [(0, .ref (z + 0)), (1, .int x), (2, .ref (z + 101))] := hl
  refine lv_aload_n hx hb dL_placeOf_0 rfl (lv_at hl 2 rfl) ?_
  refine lv_iconst (v := 0) hx hb dL_placeOf_1 (by decide) ?_
  refine lv_aload_n hx hb dL_placeOf_2 rfl (lv_at hl 0 rfl) ?_
  refine lv_iload_n hx hb dL_placeOf_3 rfl (lv_at hl 1 rfl) ?_
  refine hcall_I (t := t) (rest := [.int 0, .ref (z + 101)]) (by subst ht; exact runT_V (kr := 0) (As := [.int x]) (rest := [.int 0, .ref (z + 101)]) C (k_X5_placeOf l hfl D cy z o d σ τ (rfl : kd 0 = 5) x) hP hS cw_X5_placeOf (mA3 (i := 150) rfl rfl) rfl ⟨Nat.le_of_ble_eq_true rfl, Nat.le_of_ble_eq_true rfl⟩ rfl (Nat.le_of_ble_eq_true rfl) hl.1 rm_in dL_placeOf_4) hS (fun h0 ce q9 H locs hP hS hce hcv hcl => ?_) (fun h0 H locs hP hS => ?_)
  · rcases htg with e9 | e9
    · exact absurd e9 h0
    · subst e9
      refine hc0 C (T := "java/lang/IndexOutOfBoundsException") (x := ⟨0, 9, 12, 13⟩) htab rfl (by decide) (mA2 (i := 18) rfl rfl) nest_c1 hce hcv hcl ?_
      refine lv_astore_n (lv' := [(3, .ref q9), (0, .ref (z + 0)), (1, .int x), (2, .ref (z + 101))]) hx hb dL_placeOf_12 rfl hl (by decide) rfl (fun ls hl => ?_)
      refine lv_iconst (v := 1) hx hb dL_placeOf_13 (by decide) ?_
      exact ret_I C hP hS (nar_i _) rfl rfl rfl rfl dL_placeOf_14
  · subst h0
    refine lv_i2l hx hb dL_placeOf_7 rfl ?_
    refine as_15 C hP hS dL_placeOf_8 (fun H locs hP hS => ?_)
    refine lv_goto (tgt := 15) hx hb dL_placeOf_9 (by decide) ?_
    refine lv_iconst (v := 0) hx hb dL_placeOf_15 (by decide) ?_
    exact ret_I C hP hS (nar_i _) rfl rfl rfl rfl dL_placeOf_16

set_option maxHeartbeats 4000000 in
set_option maxRecDepth 100000 in
theorem k_L_directionOf (l : Launch) (hfl : l.stackTraces = false) (D : va_G) (cy : Nat → ClassId) (z : Nat) (o : Int64) (d : UInt64) (σ τ : Sg) (x : Int32) {t : Nat} (ht : t = x_X5_directionOf σ 0 x) (htg : t = 0 ∨ t = 1) : KH l yL_directionOf cL_directionOf 4 [(0, 9, 12, 13)] 8 124 D cy z [.ref (z + 0), .int x, .ref (z + 101)] o d σ τ t (hk1 t) (hO t (f_X5_directionOf σ 0 x) o) d σ τ := by
  refine metH_of RL (by decide) rfl (Nat.le_of_ble_eq_true rfl) ?_
  intro p e s m args below meth c C hNC htab hP hS ls hl
  obtain ⟨hx, hb, hr, hml, hown, hW, hlocks, hAm⟩ := id C
  have hl : lv_has ls 4 [(0, .ref (z + 0)), (1, .int x), (2, .ref (z + 101))] := hl
  refine lv_aload_n hx hb dL_directionOf_0 rfl (lv_at hl 2 rfl) ?_
  refine lv_iconst (v := 0) hx hb dL_directionOf_1 (by decide) ?_
  refine lv_aload_n hx hb dL_directionOf_2 rfl (lv_at hl 0 rfl) ?_
  refine lv_iload_n hx hb dL_directionOf_3 rfl (lv_at hl 1 rfl) ?_
  refine hcall_I (t := t) (rest := [.int 0, .ref (z + 101)]) (by subst ht; exact runT_V (kr := 0) (As := [.int x]) (rest := [.int 0, .ref (z + 101)]) C (k_X5_directionOf l hfl D cy z o d σ τ (rfl : kd 0 = 5) x) hP hS cw_X5_directionOf (mA3 (i := 158) rfl rfl) rfl ⟨Nat.le_of_ble_eq_true rfl, Nat.le_of_ble_eq_true rfl⟩ rfl (Nat.le_of_ble_eq_true rfl) hl.1 rm_in dL_directionOf_4) hS (fun h0 ce q9 H locs hP hS hce hcv hcl => ?_) (fun h0 H locs hP hS => ?_)
  · rcases htg with e9 | e9
    · exact absurd e9 h0
    · subst e9
      refine hc0 C (T := "java/lang/IndexOutOfBoundsException") (x := ⟨0, 9, 12, 13⟩) htab rfl (by decide) (mA2 (i := 18) rfl rfl) nest_c1 hce hcv hcl ?_
      refine lv_astore_n (lv' := [(3, .ref q9), (0, .ref (z + 0)), (1, .int x), (2, .ref (z + 101))]) hx hb dL_directionOf_12 rfl hl (by decide) rfl (fun ls hl => ?_)
      refine lv_iconst (v := 1) hx hb dL_directionOf_13 (by decide) ?_
      exact ret_I C hP hS (nar_i _) rfl rfl rfl rfl dL_directionOf_14
  · subst h0
    refine lv_i2l hx hb dL_directionOf_7 rfl ?_
    refine as_15 C hP hS dL_directionOf_8 (fun H locs hP hS => ?_)
    refine lv_goto (tgt := 15) hx hb dL_directionOf_9 (by decide) ?_
    refine lv_iconst (v := 0) hx hb dL_directionOf_15 (by decide) ?_
    exact ret_I C hP hS (nar_i _) rfl rfl rfl rfl dL_directionOf_16

set_option maxHeartbeats 4000000 in
set_option maxRecDepth 100000 in
theorem k_L_countOfA (l : Launch) (hfl : l.stackTraces = false) (D : va_G) (cy : Nat → ClassId) (z : Nat) (o : Int64) (d : UInt64) (σ τ : Sg) (x : Int32) {t : Nat} (ht : t = x_X5_countOfA σ 0 x) (htg : t = 0 ∨ t = 1) : KH l yL_countOfA cL_countOfA 4 [(0, 9, 12, 13)] 8 124 D cy z [.ref (z + 0), .int x, .ref (z + 101)] o d σ τ t (hk1 t) (hO t (f_X5_countOfA σ 0 x) o) d σ τ := by
  refine metH_of RL (by decide) rfl (Nat.le_of_ble_eq_true rfl) ?_
  intro p e s m args below meth c C hNC htab hP hS ls hl
  obtain ⟨hx, hb, hr, hml, hown, hW, hlocks, hAm⟩ := id C
  have hl : lv_has ls 4 [(0, .ref (z + 0)), (1, .int x), (2, .ref (z + 101))] := hl
  refine lv_aload_n hx hb dL_countOfA_0 rfl (lv_at hl 2 rfl) ?_
  refine lv_iconst (v := 0) hx hb dL_countOfA_1 (by decide) ?_
  refine lv_aload_n hx hb dL_countOfA_2 rfl (lv_at hl 0 rfl) ?_
  refine lv_iload_n hx hb dL_countOfA_3 rfl (lv_at hl 1 rfl) ?_
  refine hcall_I (t := t) (rest := [.int 0, .ref (z + 101)]) (by subst ht; exact runT_V (kr := 0) (As := [.int x]) (rest := [.int 0, .ref (z + 101)]) C (k_X5_countOfA l hfl D cy z o d σ τ (rfl : kd 0 = 5) x) hP hS cw_X5_countOfA (mA3 (i := 165) rfl rfl) rfl ⟨Nat.le_of_ble_eq_true rfl, Nat.le_of_ble_eq_true rfl⟩ rfl (Nat.le_of_ble_eq_true rfl) hl.1 rm_in dL_countOfA_4) hS (fun h0 ce q9 H locs hP hS hce hcv hcl => ?_) (fun h0 H locs hP hS => ?_)
  · rcases htg with e9 | e9
    · exact absurd e9 h0
    · subst e9
      refine hc0 C (T := "java/lang/IndexOutOfBoundsException") (x := ⟨0, 9, 12, 13⟩) htab rfl (by decide) (mA2 (i := 18) rfl rfl) nest_c1 hce hcv hcl ?_
      refine lv_astore_n (lv' := [(3, .ref q9), (0, .ref (z + 0)), (1, .int x), (2, .ref (z + 101))]) hx hb dL_countOfA_12 rfl hl (by decide) rfl (fun ls hl => ?_)
      refine lv_iconst (v := 1) hx hb dL_countOfA_13 (by decide) ?_
      exact ret_I C hP hS (nar_i _) rfl rfl rfl rfl dL_countOfA_14
  · subst h0
    refine lv_i2l hx hb dL_countOfA_7 rfl ?_
    refine as_15 C hP hS dL_countOfA_8 (fun H locs hP hS => ?_)
    refine lv_goto (tgt := 15) hx hb dL_countOfA_9 (by decide) ?_
    refine lv_iconst (v := 0) hx hb dL_countOfA_15 (by decide) ?_
    exact ret_I C hP hS (nar_i _) rfl rfl rfl rfl dL_countOfA_16

set_option maxHeartbeats 4000000 in
set_option maxRecDepth 100000 in
theorem k_L_stepTo (l : Launch) (hfl : l.stackTraces = false) (D : va_G) (cy : Nat → ClassId) (z : Nat) (o : Int64) (d : UInt64) (σ τ : Sg) (x : Int32) (y : Int32) {t : Nat} (ht : t = x_X5_stepTo σ 0 x y) (htg : t = 0 ∨ t = 1 ∨ t = 2) : KH l yL_stepTo cL_stepTo 5 [(0, 10, 13, 13), (0, 10, 17, 15)] 8 126 D cy z [.ref (z + 0), .int x, .int y, .ref (z + 101)] o d σ τ t (hkt t) (hO t (f_X5_stepTo σ 0 x y) o) d σ τ := by
  refine metH_of RL (by decide) rfl (Nat.le_of_ble_eq_true rfl) ?_
  intro p e s m args below meth c C hNC htab hP hS ls hl
  obtain ⟨hx, hb, hr, hml, hown, hW, hlocks, hAm⟩ := id C
  have hl : lv_has ls 5 [(0, .ref (z + 0)), (1, .int x), (2, .int y), (3, .ref (z + 101))] := hl
  refine lv_aload_n hx hb dL_stepTo_0 rfl (lv_at hl 3 rfl) ?_
  refine lv_iconst (v := 0) hx hb dL_stepTo_1 (by decide) ?_
  refine lv_aload_n hx hb dL_stepTo_2 rfl (lv_at hl 0 rfl) ?_
  refine lv_iload_n hx hb dL_stepTo_3 rfl (lv_at hl 1 rfl) ?_
  refine lv_iload_n hx hb dL_stepTo_4 rfl (lv_at hl 2 rfl) ?_
  refine hcall_I (t := t) (rest := [.int 0, .ref (z + 101)]) (by subst ht; exact runT_V (kr := 0) (As := [.int x, .int y]) (rest := [.int 0, .ref (z + 101)]) C (k_X5_stepTo l hfl D cy z o d σ τ (rfl : kd 0 = 5) x y) hP hS cw_X5_stepTo (mA3 (i := 172) rfl rfl) rfl ⟨Nat.le_of_ble_eq_true rfl, Nat.le_of_ble_eq_true rfl⟩ rfl (Nat.le_of_ble_eq_true rfl) hl.1 rm_in dL_stepTo_5) hS (fun h0 ce q9 H locs hP hS hce hcv hcl => ?_) (fun h0 H locs hP hS => ?_)
  · rcases htg with e9 | e9 | e9
    · exact absurd e9 h0
    · subst e9
      refine hc0 C (T := "java/lang/IndexOutOfBoundsException") (x := ⟨0, 10, 13, 13⟩) htab rfl (by decide) (mA2 (i := 18) rfl rfl) nest_c1 hce hcv hcl ?_
      refine lv_astore (lv' := [(4, .ref q9), (0, .ref (z + 0)), (1, .int x), (2, .int y), (3, .ref (z + 101))]) hx hb dL_stepTo_13 hl (by decide) rfl (fun ls hl => ?_)
      refine lv_iconst (v := 1) hx hb dL_stepTo_15 (by decide) ?_
      exact ret_I C hP hS (nar_i _) rfl rfl rfl rfl dL_stepTo_16
    · subst e9
      refine hc1 C (T := "java/lang/IllegalArgumentException") (x := ⟨0, 10, 17, 15⟩) (x1 := ⟨0, 10, 13, 13⟩) htab (by decide) (mA2 (i := 18) rfl rfl) hNC.1 rfl (by decide) (mA2 (i := 19) rfl rfl) nest_c2 hce hcv hcl ?_
      refine lv_astore (lv' := [(4, .ref q9), (0, .ref (z + 0)), (1, .int x), (2, .int y), (3, .ref (z + 101))]) hx hb dL_stepTo_17 hl (by decide) rfl (fun ls hl => ?_)
      refine lv_iconst (v := 2) hx hb dL_stepTo_19 (by decide) ?_
      exact ret_I C hP hS (nar_i _) rfl rfl rfl rfl dL_stepTo_20
  · subst h0
    refine lv_i2l hx hb dL_stepTo_8 rfl ?_
    refine as_15 C hP hS dL_stepTo_9 (fun H locs hP hS => ?_)
    refine lv_goto (tgt := 21) hx hb dL_stepTo_10 (by decide) ?_
    refine lv_iconst (v := 0) hx hb dL_stepTo_21 (by decide) ?_
    exact ret_I C hP hS (nar_i _) rfl rfl rfl rfl dL_stepTo_22

set_option maxHeartbeats 4000000 in
set_option maxRecDepth 100000 in
theorem k_L_logLength (l : Launch) (hfl : l.stackTraces = false) (D : va_G) (cy : Nat → ClassId) (z : Nat) (o : Int64) (d : UInt64) (σ τ : Sg) (x : Int32) {t : Nat} (ht : t = x_X5_logLength σ 0 x) (htg : t = 0 ∨ t = 1) : KH l yL_logLength cL_logLength 4 [(0, 9, 12, 13)] 8 124 D cy z [.ref (z + 0), .int x, .ref (z + 101)] o d σ τ t (hk1 t) (hO t (f_X5_logLength σ 0 x) o) d σ τ := by
  refine metH_of RL (by decide) rfl (Nat.le_of_ble_eq_true rfl) ?_
  intro p e s m args below meth c C hNC htab hP hS ls hl
  obtain ⟨hx, hb, hr, hml, hown, hW, hlocks, hAm⟩ := id C
  have hl : lv_has ls 4 [(0, .ref (z + 0)), (1, .int x), (2, .ref (z + 101))] := hl
  refine lv_aload_n hx hb dL_logLength_0 rfl (lv_at hl 2 rfl) ?_
  refine lv_iconst (v := 0) hx hb dL_logLength_1 (by decide) ?_
  refine lv_aload_n hx hb dL_logLength_2 rfl (lv_at hl 0 rfl) ?_
  refine lv_iload_n hx hb dL_logLength_3 rfl (lv_at hl 1 rfl) ?_
  refine hcall_I (t := t) (rest := [.int 0, .ref (z + 101)]) (by subst ht; exact runT_V (kr := 0) (As := [.int x]) (rest := [.int 0, .ref (z + 101)]) C (k_X5_logLength l hfl D cy z o d σ τ (rfl : kd 0 = 5) x) hP hS cw_X5_logLength (mA3 (i := 179) rfl rfl) rfl ⟨Nat.le_of_ble_eq_true rfl, Nat.le_of_ble_eq_true rfl⟩ rfl (Nat.le_of_ble_eq_true rfl) hl.1 rm_in dL_logLength_4) hS (fun h0 ce q9 H locs hP hS hce hcv hcl => ?_) (fun h0 H locs hP hS => ?_)
  · rcases htg with e9 | e9
    · exact absurd e9 h0
    · subst e9
      refine hc0 C (T := "java/lang/IndexOutOfBoundsException") (x := ⟨0, 9, 12, 13⟩) htab rfl (by decide) (mA2 (i := 18) rfl rfl) nest_c1 hce hcv hcl ?_
      refine lv_astore_n (lv' := [(3, .ref q9), (0, .ref (z + 0)), (1, .int x), (2, .ref (z + 101))]) hx hb dL_logLength_12 rfl hl (by decide) rfl (fun ls hl => ?_)
      refine lv_iconst (v := 1) hx hb dL_logLength_13 (by decide) ?_
      exact ret_I C hP hS (nar_i _) rfl rfl rfl rfl dL_logLength_14
  · subst h0
    refine lv_i2l hx hb dL_logLength_7 rfl ?_
    refine as_15 C hP hS dL_logLength_8 (fun H locs hP hS => ?_)
    refine lv_goto (tgt := 15) hx hb dL_logLength_9 (by decide) ?_
    refine lv_iconst (v := 0) hx hb dL_logLength_15 (by decide) ?_
    exact ret_I C hP hS (nar_i _) rfl rfl rfl rfl dL_logLength_16

set_option maxHeartbeats 4000000 in
set_option maxRecDepth 100000 in
theorem k_L_loggedStep (l : Launch) (hfl : l.stackTraces = false) (D : va_G) (cy : Nat → ClassId) (z : Nat) (o : Int64) (d : UInt64) (σ τ : Sg) (x : Int32) (y : Int32) {t : Nat} (ht : t = x_X5_loggedStep σ 0 x y) (htg : t = 0 ∨ t = 1) : KH l yL_loggedStep cL_loggedStep 5 [(0, 10, 13, 13)] 8 126 D cy z [.ref (z + 0), .int x, .int y, .ref (z + 101)] o d σ τ t (hk1 t) (hO t (f_X5_loggedStep σ 0 x y) o) d σ τ := by
  refine metH_of RL (by decide) rfl (Nat.le_of_ble_eq_true rfl) ?_
  intro p e s m args below meth c C hNC htab hP hS ls hl
  obtain ⟨hx, hb, hr, hml, hown, hW, hlocks, hAm⟩ := id C
  have hl : lv_has ls 5 [(0, .ref (z + 0)), (1, .int x), (2, .int y), (3, .ref (z + 101))] := hl
  refine lv_aload_n hx hb dL_loggedStep_0 rfl (lv_at hl 3 rfl) ?_
  refine lv_iconst (v := 0) hx hb dL_loggedStep_1 (by decide) ?_
  refine lv_aload_n hx hb dL_loggedStep_2 rfl (lv_at hl 0 rfl) ?_
  refine lv_iload_n hx hb dL_loggedStep_3 rfl (lv_at hl 1 rfl) ?_
  refine lv_iload_n hx hb dL_loggedStep_4 rfl (lv_at hl 2 rfl) ?_
  refine hcall_I (t := t) (rest := [.int 0, .ref (z + 101)]) (by subst ht; exact runT_V (kr := 0) (As := [.int x, .int y]) (rest := [.int 0, .ref (z + 101)]) C (k_X5_loggedStep l hfl D cy z o d σ τ (rfl : kd 0 = 5) x y) hP hS cw_X5_loggedStep (mA3 (i := 186) rfl rfl) rfl ⟨Nat.le_of_ble_eq_true rfl, Nat.le_of_ble_eq_true rfl⟩ rfl (Nat.le_of_ble_eq_true rfl) hl.1 rm_in dL_loggedStep_5) hS (fun h0 ce q9 H locs hP hS hce hcv hcl => ?_) (fun h0 H locs hP hS => ?_)
  · rcases htg with e9 | e9
    · exact absurd e9 h0
    · subst e9
      refine hc0 C (T := "java/lang/IndexOutOfBoundsException") (x := ⟨0, 10, 13, 13⟩) htab rfl (by decide) (mA2 (i := 18) rfl rfl) nest_c1 hce hcv hcl ?_
      refine lv_astore (lv' := [(4, .ref q9), (0, .ref (z + 0)), (1, .int x), (2, .int y), (3, .ref (z + 101))]) hx hb dL_loggedStep_13 hl (by decide) rfl (fun ls hl => ?_)
      refine lv_iconst (v := 1) hx hb dL_loggedStep_15 (by decide) ?_
      exact ret_I C hP hS (nar_i _) rfl rfl rfl rfl dL_loggedStep_16
  · subst h0
    refine lv_i2l hx hb dL_loggedStep_8 rfl ?_
    refine as_15 C hP hS dL_loggedStep_9 (fun H locs hP hS => ?_)
    refine lv_goto (tgt := 17) hx hb dL_loggedStep_10 (by decide) ?_
    refine lv_iconst (v := 0) hx hb dL_loggedStep_17 (by decide) ?_
    exact ret_I C hP hS (nar_i _) rfl rfl rfl rfl dL_loggedStep_18

set_option maxHeartbeats 4000000 in
set_option maxRecDepth 100000 in
theorem k_L_speedOf (l : Launch) (hfl : l.stackTraces = false) (D : va_G) (cy : Nat → ClassId) (z : Nat) (o : Int64) (d : UInt64) (σ τ : Sg) (x : Int32) (hG : LGA σ) {t : Nat} (ht : t = x_X5_speedOf σ 0 x) (htg : t = 0 ∨ t = 1) : KH l yL_speedOf cL_speedOf 4 [(0, 8, 11, 13)] 8 124 D cy z [.ref (z + 0), .int x, .ref (z + 102)] o d σ τ t (hk1 t) o (hD t (f_X5_speedOf σ 0 x) d) σ τ := by
  refine metH_of RL (by decide) rfl (Nat.le_of_ble_eq_true rfl) ?_
  intro p e s m args below meth c C hNC htab hP hS ls hl
  obtain ⟨hx, hb, hr, hml, hown, hW, hlocks, hAm⟩ := id C
  have hl : lv_has ls 4 [(0, .ref (z + 0)), (1, .int x), (2, .ref (z + 102))] := hl
  refine lv_aload_n hx hb dL_speedOf_0 rfl (lv_at hl 2 rfl) ?_
  refine lv_iconst (v := 0) hx hb dL_speedOf_1 (by decide) ?_
  refine lv_aload_n hx hb dL_speedOf_2 rfl (lv_at hl 0 rfl) ?_
  refine lv_iload_n hx hb dL_speedOf_3 rfl (lv_at hl 1 rfl) ?_
  refine hcall_D (t := t) (rest := [.int 0, .ref (z + 102)]) (by subst ht; exact runT_V (kr := 0) (As := [.int x]) (rest := [.int 0, .ref (z + 102)]) C (k_X5_speedOf l hfl D cy z o d σ τ (rfl : kd 0 = 5) x hG) hP hS cw_X5_speedOf (mA3 (i := 195) rfl rfl) rfl ⟨Nat.le_of_ble_eq_true rfl, Nat.le_of_ble_eq_true rfl⟩ rfl (Nat.le_of_ble_eq_true rfl) hl.1 rm_in dL_speedOf_4) hS (fun h0 ce q9 H locs hP hS hce hcv hcl => ?_) (fun h0 H locs hP hS => ?_)
  · rcases htg with e9 | e9
    · exact absurd e9 h0
    · subst e9
      refine hc0 C (T := "java/lang/IndexOutOfBoundsException") (x := ⟨0, 8, 11, 13⟩) htab rfl (by decide) (mA2 (i := 18) rfl rfl) nest_c1 hce hcv hcl ?_
      refine lv_astore_n (lv' := [(3, .ref q9), (0, .ref (z + 0)), (1, .int x), (2, .ref (z + 102))]) hx hb dL_speedOf_11 rfl hl (by decide) rfl (fun ls hl => ?_)
      refine lv_iconst (v := 1) hx hb dL_speedOf_12 (by decide) ?_
      exact ret_I C hP hS (nar_i _) rfl rfl rfl rfl dL_speedOf_13
  · subst h0
    refine as_16 C hP hS dL_speedOf_7 (fun H locs hP hS => ?_)
    refine lv_goto (tgt := 14) hx hb dL_speedOf_8 (by decide) ?_
    refine lv_iconst (v := 0) hx hb dL_speedOf_14 (by decide) ?_
    exact ret_I C hP hS (nar_i _) rfl rfl rfl rfl dL_speedOf_15

set_option maxHeartbeats 4000000 in
set_option maxRecDepth 100000 in
theorem k_L_errorsOf (l : Launch) (hfl : l.stackTraces = false) (D : va_G) (cy : Nat → ClassId) (z : Nat) (o : Int64) (d : UInt64) (σ τ : Sg) (x : Int32) {t : Nat} (ht : t = x_X5_errorsOf σ 0 x) (htg : t = 0 ∨ t = 1) : KH l yL_errorsOf cL_errorsOf 4 [(0, 9, 12, 13)] 8 124 D cy z [.ref (z + 0), .int x, .ref (z + 101)] o d σ τ t (hk1 t) (hO t (f_X5_errorsOf σ 0 x) o) d σ τ := by
  refine metH_of RL (by decide) rfl (Nat.le_of_ble_eq_true rfl) ?_
  intro p e s m args below meth c C hNC htab hP hS ls hl
  obtain ⟨hx, hb, hr, hml, hown, hW, hlocks, hAm⟩ := id C
  have hl : lv_has ls 4 [(0, .ref (z + 0)), (1, .int x), (2, .ref (z + 101))] := hl
  refine lv_aload_n hx hb dL_errorsOf_0 rfl (lv_at hl 2 rfl) ?_
  refine lv_iconst (v := 0) hx hb dL_errorsOf_1 (by decide) ?_
  refine lv_aload_n hx hb dL_errorsOf_2 rfl (lv_at hl 0 rfl) ?_
  refine lv_iload_n hx hb dL_errorsOf_3 rfl (lv_at hl 1 rfl) ?_
  refine hcall_I (t := t) (rest := [.int 0, .ref (z + 101)]) (by subst ht; exact runT_V (kr := 0) (As := [.int x]) (rest := [.int 0, .ref (z + 101)]) C (k_X5_errorsOf l hfl D cy z o d σ τ (rfl : kd 0 = 5) x) hP hS cw_X5_errorsOf (mA3 (i := 209) rfl rfl) rfl ⟨Nat.le_of_ble_eq_true rfl, Nat.le_of_ble_eq_true rfl⟩ rfl (Nat.le_of_ble_eq_true rfl) hl.1 rm_in dL_errorsOf_4) hS (fun h0 ce q9 H locs hP hS hce hcv hcl => ?_) (fun h0 H locs hP hS => ?_)
  · rcases htg with e9 | e9
    · exact absurd e9 h0
    · subst e9
      refine hc0 C (T := "java/lang/IndexOutOfBoundsException") (x := ⟨0, 9, 12, 13⟩) htab rfl (by decide) (mA2 (i := 18) rfl rfl) nest_c1 hce hcv hcl ?_
      refine lv_astore_n (lv' := [(3, .ref q9), (0, .ref (z + 0)), (1, .int x), (2, .ref (z + 101))]) hx hb dL_errorsOf_12 rfl hl (by decide) rfl (fun ls hl => ?_)
      refine lv_iconst (v := 1) hx hb dL_errorsOf_13 (by decide) ?_
      exact ret_I C hP hS (nar_i _) rfl rfl rfl rfl dL_errorsOf_14
  · subst h0
    refine lv_i2l hx hb dL_errorsOf_7 rfl ?_
    refine as_15 C hP hS dL_errorsOf_8 (fun H locs hP hS => ?_)
    refine lv_goto (tgt := 15) hx hb dL_errorsOf_9 (by decide) ?_
    refine lv_iconst (v := 0) hx hb dL_errorsOf_15 (by decide) ?_
    exact ret_I C hP hS (nar_i _) rfl rfl rfl rfl dL_errorsOf_16

set_option maxHeartbeats 4000000 in
set_option maxRecDepth 100000 in
theorem k_L_slipsOf (l : Launch) (hfl : l.stackTraces = false) (D : va_G) (cy : Nat → ClassId) (z : Nat) (o : Int64) (d : UInt64) (σ τ : Sg) (x : Int32) {t : Nat} (ht : t = x_X5_slipsOf σ 0 x) (htg : t = 0 ∨ t = 1) : KH l yL_slipsOf cL_slipsOf 4 [(0, 9, 12, 13)] 8 124 D cy z [.ref (z + 0), .int x, .ref (z + 101)] o d σ τ t (hk1 t) (hO t (f_X5_slipsOf σ 0 x) o) d σ τ := by
  refine metH_of RL (by decide) rfl (Nat.le_of_ble_eq_true rfl) ?_
  intro p e s m args below meth c C hNC htab hP hS ls hl
  obtain ⟨hx, hb, hr, hml, hown, hW, hlocks, hAm⟩ := id C
  have hl : lv_has ls 4 [(0, .ref (z + 0)), (1, .int x), (2, .ref (z + 101))] := hl
  refine lv_aload_n hx hb dL_slipsOf_0 rfl (lv_at hl 2 rfl) ?_
  refine lv_iconst (v := 0) hx hb dL_slipsOf_1 (by decide) ?_
  refine lv_aload_n hx hb dL_slipsOf_2 rfl (lv_at hl 0 rfl) ?_
  refine lv_iload_n hx hb dL_slipsOf_3 rfl (lv_at hl 1 rfl) ?_
  refine hcall_I (t := t) (rest := [.int 0, .ref (z + 101)]) (by subst ht; exact runT_V (kr := 0) (As := [.int x]) (rest := [.int 0, .ref (z + 101)]) C (k_X5_slipsOf l hfl D cy z o d σ τ (rfl : kd 0 = 5) x) hP hS cw_X5_slipsOf (mA3 (i := 216) rfl rfl) rfl ⟨Nat.le_of_ble_eq_true rfl, Nat.le_of_ble_eq_true rfl⟩ rfl (Nat.le_of_ble_eq_true rfl) hl.1 rm_in dL_slipsOf_4) hS (fun h0 ce q9 H locs hP hS hce hcv hcl => ?_) (fun h0 H locs hP hS => ?_)
  · rcases htg with e9 | e9
    · exact absurd e9 h0
    · subst e9
      refine hc0 C (T := "java/lang/IndexOutOfBoundsException") (x := ⟨0, 9, 12, 13⟩) htab rfl (by decide) (mA2 (i := 18) rfl rfl) nest_c1 hce hcv hcl ?_
      refine lv_astore_n (lv' := [(3, .ref q9), (0, .ref (z + 0)), (1, .int x), (2, .ref (z + 101))]) hx hb dL_slipsOf_12 rfl hl (by decide) rfl (fun ls hl => ?_)
      refine lv_iconst (v := 1) hx hb dL_slipsOf_13 (by decide) ?_
      exact ret_I C hP hS (nar_i _) rfl rfl rfl rfl dL_slipsOf_14
  · subst h0
    refine lv_i2l hx hb dL_slipsOf_7 rfl ?_
    refine as_15 C hP hS dL_slipsOf_8 (fun H locs hP hS => ?_)
    refine lv_goto (tgt := 15) hx hb dL_slipsOf_9 (by decide) ?_
    refine lv_iconst (v := 0) hx hb dL_slipsOf_15 (by decide) ?_
    exact ret_I C hP hS (nar_i _) rfl rfl rfl rfl dL_slipsOf_16

set_option maxHeartbeats 4000000 in
set_option maxRecDepth 100000 in
theorem k_L_distanceOf (l : Launch) (hfl : l.stackTraces = false) (D : va_G) (cy : Nat → ClassId) (z : Nat) (o : Int64) (d : UInt64) (σ τ : Sg) (x : Int32) {t : Nat} (ht : t = x_X5_distanceOf σ 0 x) (htg : t = 0 ∨ t = 1) : KH l yL_distanceOf cL_distanceOf 4 [(0, 9, 12, 13)] 8 124 D cy z [.ref (z + 0), .int x, .ref (z + 101)] o d σ τ t (hk1 t) (hO t (f_X5_distanceOf σ 0 x) o) d σ τ := by
  refine metH_of RL (by decide) rfl (Nat.le_of_ble_eq_true rfl) ?_
  intro p e s m args below meth c C hNC htab hP hS ls hl
  obtain ⟨hx, hb, hr, hml, hown, hW, hlocks, hAm⟩ := id C
  have hl : lv_has ls 4 [(0, .ref (z + 0)), (1, .int x), (2, .ref (z + 101))] := hl
  refine lv_aload_n hx hb dL_distanceOf_0 rfl (lv_at hl 2 rfl) ?_
  refine lv_iconst (v := 0) hx hb dL_distanceOf_1 (by decide) ?_
  refine lv_aload_n hx hb dL_distanceOf_2 rfl (lv_at hl 0 rfl) ?_
  refine lv_iload_n hx hb dL_distanceOf_3 rfl (lv_at hl 1 rfl) ?_
  refine hcall_I (t := t) (rest := [.int 0, .ref (z + 101)]) (by subst ht; exact runT_V (kr := 0) (As := [.int x]) (rest := [.int 0, .ref (z + 101)]) C (k_X5_distanceOf l hfl D cy z o d σ τ (rfl : kd 0 = 5) x) hP hS cw_X5_distanceOf (mA3 (i := 223) rfl rfl) rfl ⟨Nat.le_of_ble_eq_true rfl, Nat.le_of_ble_eq_true rfl⟩ rfl (Nat.le_of_ble_eq_true rfl) hl.1 rm_in dL_distanceOf_4) hS (fun h0 ce q9 H locs hP hS hce hcv hcl => ?_) (fun h0 H locs hP hS => ?_)
  · rcases htg with e9 | e9
    · exact absurd e9 h0
    · subst e9
      refine hc0 C (T := "java/lang/IndexOutOfBoundsException") (x := ⟨0, 9, 12, 13⟩) htab rfl (by decide) (mA2 (i := 18) rfl rfl) nest_c1 hce hcv hcl ?_
      refine lv_astore_n (lv' := [(3, .ref q9), (0, .ref (z + 0)), (1, .int x), (2, .ref (z + 101))]) hx hb dL_distanceOf_12 rfl hl (by decide) rfl (fun ls hl => ?_)
      refine lv_iconst (v := 1) hx hb dL_distanceOf_13 (by decide) ?_
      exact ret_I C hP hS (nar_i _) rfl rfl rfl rfl dL_distanceOf_14
  · subst h0
    refine lv_i2l hx hb dL_distanceOf_7 rfl ?_
    refine as_15 C hP hS dL_distanceOf_8 (fun H locs hP hS => ?_)
    refine lv_goto (tgt := 15) hx hb dL_distanceOf_9 (by decide) ?_
    refine lv_iconst (v := 0) hx hb dL_distanceOf_15 (by decide) ?_
    exact ret_I C hP hS (nar_i _) rfl rfl rfl rfl dL_distanceOf_16

set_option maxHeartbeats 4000000 in
set_option maxRecDepth 100000 in
theorem k_L_ticksOf (l : Launch) (hfl : l.stackTraces = false) (D : va_G) (cy : Nat → ClassId) (z : Nat) (o : Int64) (d : UInt64) (σ τ : Sg) (x : Int32) {t : Nat} (ht : t = x_X5_ticksOf σ 0 x) (htg : t = 0 ∨ t = 1) : KH l yL_ticksOf cL_ticksOf 4 [(0, 9, 12, 13)] 8 124 D cy z [.ref (z + 0), .int x, .ref (z + 101)] o d σ τ t (hk1 t) (hO t (f_X5_ticksOf σ 0 x) o) d σ τ := by
  refine metH_of RL (by decide) rfl (Nat.le_of_ble_eq_true rfl) ?_
  intro p e s m args below meth c C hNC htab hP hS ls hl
  obtain ⟨hx, hb, hr, hml, hown, hW, hlocks, hAm⟩ := id C
  have hl : lv_has ls 4 [(0, .ref (z + 0)), (1, .int x), (2, .ref (z + 101))] := hl
  refine lv_aload_n hx hb dL_ticksOf_0 rfl (lv_at hl 2 rfl) ?_
  refine lv_iconst (v := 0) hx hb dL_ticksOf_1 (by decide) ?_
  refine lv_aload_n hx hb dL_ticksOf_2 rfl (lv_at hl 0 rfl) ?_
  refine lv_iload_n hx hb dL_ticksOf_3 rfl (lv_at hl 1 rfl) ?_
  refine hcall_I (t := t) (rest := [.int 0, .ref (z + 101)]) (by subst ht; exact runT_V (kr := 0) (As := [.int x]) (rest := [.int 0, .ref (z + 101)]) C (k_X5_ticksOf l hfl D cy z o d σ τ (rfl : kd 0 = 5) x) hP hS cw_X5_ticksOf (mA3 (i := 230) rfl rfl) rfl ⟨Nat.le_of_ble_eq_true rfl, Nat.le_of_ble_eq_true rfl⟩ rfl (Nat.le_of_ble_eq_true rfl) hl.1 rm_in dL_ticksOf_4) hS (fun h0 ce q9 H locs hP hS hce hcv hcl => ?_) (fun h0 H locs hP hS => ?_)
  · rcases htg with e9 | e9
    · exact absurd e9 h0
    · subst e9
      refine hc0 C (T := "java/lang/IndexOutOfBoundsException") (x := ⟨0, 9, 12, 13⟩) htab rfl (by decide) (mA2 (i := 18) rfl rfl) nest_c1 hce hcv hcl ?_
      refine lv_astore_n (lv' := [(3, .ref q9), (0, .ref (z + 0)), (1, .int x), (2, .ref (z + 101))]) hx hb dL_ticksOf_12 rfl hl (by decide) rfl (fun ls hl => ?_)
      refine lv_iconst (v := 1) hx hb dL_ticksOf_13 (by decide) ?_
      exact ret_I C hP hS (nar_i _) rfl rfl rfl rfl dL_ticksOf_14
  · subst h0
    refine lv_i2l hx hb dL_ticksOf_7 rfl ?_
    refine as_15 C hP hS dL_ticksOf_8 (fun H locs hP hS => ?_)
    refine lv_goto (tgt := 15) hx hb dL_ticksOf_9 (by decide) ?_
    refine lv_iconst (v := 0) hx hb dL_ticksOf_15 (by decide) ?_
    exact ret_I C hP hS (nar_i _) rfl rfl rfl rfl dL_ticksOf_16


/-! the law's start -/
theorem mT1 {i : Nat} {w : Cond} (h : tables_1_1[i]? = some w) : w ∈ lw_tbl := List.mem_append_right _ (List.mem_append_left _ (List.mem_of_getElem? h))
theorem mT2 {i : Nat} {w : Cond} (h : tables_1_2[i]? = some w) : w ∈ lw_tbl := List.mem_append_right _ (List.mem_append_right _ (List.mem_append_left _ (List.mem_of_getElem? h)))
theorem mT3 {i : Nat} {w : Cond} (h : tables_1_3[i]? = some w) : w ∈ lw_tbl := List.mem_append_right _ (List.mem_append_right _ (List.mem_append_right _ (List.mem_of_getElem? h)))
set_option maxRecDepth 20000 in
theorem nest_tbl : ∀ w ∈ nestW, w ∈ lw_tbl := by
  unfold nestW
  exact List.forall_mem_cons.mpr ⟨(mT1 (i := 56) rfl), List.forall_mem_cons.mpr ⟨(mT1 (i := 62) rfl), List.forall_mem_cons.mpr ⟨(mT1 (i := 64) rfl), List.forall_mem_cons.mpr ⟨(mT1 (i := 66) rfl), List.forall_mem_cons.mpr ⟨(mT1 (i := 68) rfl), List.forall_mem_cons.mpr ⟨(mT1 (i := 60) rfl), List.forall_mem_cons.mpr ⟨(mT1 (i := 54) rfl), List.forall_mem_cons.mpr ⟨(mT1 (i := 44) rfl), List.forall_mem_cons.mpr ⟨(mT1 (i := 70) rfl), List.forall_mem_cons.mpr ⟨(mT1 (i := 72) rfl), List.forall_mem_cons.mpr ⟨(mT1 (i := 74) rfl), List.forall_mem_cons.mpr ⟨(mT1 (i := 76) rfl), List.forall_mem_cons.mpr ⟨(mT1 (i := 107) rfl), List.forall_mem_cons.mpr ⟨(mT1 (i := 57) rfl), List.forall_mem_cons.mpr ⟨(mT1 (i := 109) rfl), List.forall_mem_cons.mpr ⟨(mT1 (i := 43) rfl), List.forall_mem_cons.mpr ⟨(mT1 (i := 125) rfl), List.forall_mem_cons.mpr ⟨(mT1 (i := 152) rfl), List.forall_mem_cons.mpr ⟨(mT1 (i := 24) rfl), List.forall_mem_cons.mpr ⟨(mT1 (i := 30) rfl), List.forall_mem_cons.mpr ⟨(mT1 (i := 130) rfl), List.forall_mem_cons.mpr ⟨(mT1 (i := 36) rfl), List.forall_mem_cons.mpr ⟨(mT1 (i := 204) rfl), List.forall_mem_cons.mpr ⟨(mT2 (i := 39) rfl), List.forall_mem_cons.mpr ⟨(mT2 (i := 110) rfl), List.forall_mem_cons.mpr ⟨(mT1 (i := 206) rfl), List.forall_mem_cons.mpr ⟨(mT1 (i := 208) rfl), List.forall_mem_cons.mpr ⟨(mT1 (i := 210) rfl), fun _ h => absurd h List.not_mem_nil⟩⟩⟩⟩⟩⟩⟩⟩⟩⟩⟩⟩⟩⟩⟩⟩⟩⟩⟩⟩⟩⟩⟩⟩⟩⟩⟩⟩
section Start
variable {args : Array Value} {s : State}
theorem str_of {k : Nat} {tx : String} (hts : ∀ w ∈ lw_tbl, w.before args s = true) (h1 : Cond.stringRef RX5 k tx ∈ lw_tbl) (h2 : (Cond.exactly (.string RX5 k) "java/lang/String").before args s = true) : ∃ sa, vk_R RX5 k tx sa s := by
  obtain ⟨a, -, -, -, ha, -⟩ := Cond.exactly_spec h2
  exact ⟨a, hts _ h1, ha⟩
set_option maxRecDepth 100000 in
theorem str_all (hts : ∀ w ∈ lw_tbl, w.before args s = true) (hgv : (Jvm.Cond.and given_1 narrow_1).before args s = true) : ∀ q ∈ strW, ∃ sa, vk_R RX5 q.1 q.2 sa s := by
  have hs := flat_of_before _ hgv
  unfold strW
  exact List.forall_mem_cons.mpr ⟨str_of hts (mT3 (i := 8) rfl) (hs _ (by decide +kernel)), List.forall_mem_cons.mpr ⟨str_of hts (mT3 (i := 25) rfl) (hs _ (by decide +kernel)), List.forall_mem_cons.mpr ⟨str_of hts (mT3 (i := 30) rfl) (hs _ (by decide +kernel)), List.forall_mem_cons.mpr ⟨str_of hts (mT2 (i := 176) rfl) (hs _ (by decide +kernel)), List.forall_mem_cons.mpr ⟨str_of hts (mT2 (i := 3) rfl) (hs _ (by decide +kernel)), List.forall_mem_cons.mpr ⟨str_of hts (mT2 (i := 46) rfl) (hs _ (by decide +kernel)), List.forall_mem_cons.mpr ⟨str_of hts (mT2 (i := 117) rfl) (hs _ (by decide +kernel)), List.forall_mem_cons.mpr ⟨str_of hts (mT2 (i := 96) rfl) (hs _ (by decide +kernel)), List.forall_mem_cons.mpr ⟨str_of hts (mT2 (i := 193) rfl) (hs _ (by decide +kernel)), List.forall_mem_cons.mpr ⟨str_of hts (mT2 (i := 237) rfl) (hs _ (by decide +kernel)), fun _ h => absurd h List.not_mem_nil⟩⟩⟩⟩⟩⟩⟩⟩⟩⟩
set_option maxRecDepth 100000 in
theorem amb_start (hts : ∀ w ∈ lw_tbl, w.before args s = true) (hgv : (Jvm.Cond.and given_1 narrow_1).before args s = true) : ∃ (D : va_G) (cy : Nat → ClassId), Amb D cy s.heap.size s s.heap := by
  have hW : ∀ w ∈ WA, w.before args s = true := fun w h => hts w (wa_tbl w h)
  have hs := flat_of_before _ hgv
  obtain ⟨c0, i0, h0⟩ := u_known (C := RX0) (T := TX0) (N := 6) (n := 6) hW inWX0 (hW _ (mA1 (i := 23) rfl rfl))
  obtain ⟨c1, i1, h1⟩ := u_known (C := RX1) (T := TX1) (N := 3) (n := 3) hW inWX1 (hW _ (mA1 (i := 35) rfl rfl))
  obtain ⟨c2, i2, h2⟩ := u_known (C := RX2) (T := TX2) (N := 2) (n := 2) hW inWX2 (hW _ (mA1 (i := 151) rfl rfl))
  obtain ⟨c3, i3, h3⟩ := u_known (C := RX3) (T := TX3) (N := 6) (n := 6) hW inWX3 (hW _ (mA1 (i := 124) rfl rfl))
  obtain ⟨c4, i4, h4⟩ := u_known (C := RX4) (T := TX4) (N := 12) (n := 12) hW inWX4 (hW _ (mA1 (i := 29) rfl rfl))
  obtain ⟨c5, i5, h5⟩ := u_known (C := RX5) (T := TX5) (N := 6) (n := 6) hW inWX5 (hW _ (mA1 (i := 15) rfl rfl))
  obtain ⟨a0, k0, p0, x0, y0, z0⟩ := Cond.arrayClass_spec (hW _ (mA1 (i := 52) rfl rfl))
  obtain ⟨a1, k1, p1, x1, y1, z1⟩ := Cond.arrayClass_spec (hW _ (mA1 (i := 162) rfl rfl))
  refine ⟨(fun k => match k with | 0 => c0 | 1 => c1 | 2 => c2 | 3 => c3 | 4 => c4 | _ => c5, fun k => match k with | 0 => i0 | 1 => i1 | 2 => i2 | 3 => i3 | 4 => i4 | _ => i5), (fun k => match k with | 0 => a0 | _ => a1), ⟨⟨?_, ?_⟩, fun w hw => va_tabs (nw_onT (List.all_eq_true.mp nestW_ok w hw)) rfl (hts w (nest_tbl w hw)), str_all hts hgv, ?_, ?_⟩⟩
  · intro k q hq
    match k, hq with
    | 0, hq => cases hq; exact h0
    | 1, hq => cases hq; exact h1
    | 2, hq => cases hq; exact h2
    | 3, hq => cases hq; exact h3
    | 4, hq => cases hq; exact h4
    | 5, hq => cases hq; exact h5
    | k + 6, hq => simp [vwCl] at hq
  · intro k q hq
    match k, hq with
    | 0, hq => cases hq; exact ⟨fun n z => ⟨fun k h => (by cases h), k0, y0, p0, z0⟩, x0⟩
    | 1, hq => cases hq; exact ⟨fun n z => ⟨fun k h => (by cases h), k1, y1, p1, z1⟩, x1⟩
    | k + 2, hq => simp [tyc] at hq
  · exact vx_Zqof (hts _ (mT1 (i := 229) rfl)) (hts _ (mT1 (i := 7) rfl)) (hs _ (by decide +kernel)) (fun a h1 h2 => absurd h1 (Nat.not_lt.mpr h2))
  · exact vx_Zqof (hts _ (mT1 (i := 231) rfl)) (hts _ (mT1 (i := 7) rfl)) (hs _ (by decide +kernel)) (fun a h1 h2 => absurd h1 (Nat.not_lt.mpr h2))
end Start

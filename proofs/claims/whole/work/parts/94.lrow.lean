theorem op_recorded {n : Nat} {σ τ : Sg} (h : RR n σ τ) : f_X5_recordedStates σ 0 = f_X6_recordedStates τ ∧ RR (n + 1) σ (t_X6_recordedStates τ) := by
  obtain ⟨O, K, k1, k2, k3, k4, k5, k6⟩ := h.2.1
  refine ⟨?_, h.up8.nx⟩
  show σ 40 5 = (up τ 0 8 0) 0 2
  rw [up_nb (by decide), k4, k5]
/-- the speed, by the reference -/
theorem am_speedOf (l : Launch) (D : va_G) (cy : Nat → ClassId) (z : Nat) (o : Int64) (d : UInt64) {n : Nat} {σ τ : Sg} (x : Int32) (h : RR n σ τ) : ∃ (gd : UInt64) (τ' : Sg), (∃ f lo : Nat, f ≤ 10 ∧ lo ≤ 300 ∧ KD l yX6_speedOf cX6_speedOf 5 (some .double) { frames := f, cells := 0, slots := 0, locals := lo } D cy z [.ref (z + 95), .int x] o d σ τ gd σ τ') ∧ τ' 0 8 = hk1 (x_X5_speedOf σ 0 x) ∧ (x_X5_speedOf σ 0 x = 0 → f_X5_speedOf σ 0 x = gd) ∧ RR (n + 1) σ τ' := by
  by_cases hx : InS x
  · obtain ⟨j, hj, rfl⟩ := hx
    obtain ⟨a1, a2⟩ := op_speedOf_f h hj
    obtain ⟨b1, b2⟩ := op_speedOf_t h hj
    exact ⟨_, _, ⟨_, _, le10 rfl, le10 rfl, k_X6_speedOf_ok l D cy z o d σ τ k95 j h.mi hj (tki_gr h.1 hj)⟩, by rw [a1]; exact b1, fun _ => a2, b2⟩
  · obtain ⟨a1, a2, a3⟩ := op_speedOf_no h hx
    exact ⟨_, _, ⟨_, _, le10 rfl, le10 rfl, k_X6_speedOf_no l D cy z o d σ τ k95 x hx⟩, by rw [a1]; exact a2, fun q => absurd (a1.symm.trans q) (by decide), a3⟩
/-! the law's body: its rows -/
section Law
variable {p : Program} {l : Launch} {e : Env} {s : State} {m : MethodId} {b L : Nat} {xs : Nat → Int32} {below : List Frame} {meth : Method} {c : Code} {H : Heap} {locs : List Loc} {cells slots : Nat} {Q : State → Prop}
variable {D : va_G} {cy : Nat → ClassId} {z : Nat} {σ τ σ' τ' : Sg} {o o' : Int64} {d d' : UInt64} {pc : Nat} {ls : Array Slot} {rest st : List Value}
abbrev LBd (p : Program) (s : State) (m : MethodId) (b : Nat) (meth : Method) (c : Code) (D : va_G) (cy : Nat → ClassId) (z : Nat) : Prop := Bd p s m #[Value.ref b] meth c cL_law 9 (some .boolean) RL D cy z
theorem l_arg {i k : Nat} {kc : Int} (C : LBd p s m b meth c D cy z) (hX : va_X b L xs s s.heap) (hbl : b < s.heap.size) (hz : s.heap.size ≤ z) (hL : L ≤ 2048) (hik : i + k < L) (hS : va_S (fz z) s.heap H locs) (h0 : ls[0]? = some (.val (.ref b))) (h5 : ls[5]? = some (.val (.int (nI i)))) (hkc : Int32.ofInt kc = nI k)
    (d0 : decode cL_law pc = .ok (.aload_n 0, 1)) (d1 : decode cL_law (pc + 1) = .ok (.iload 5, 2)) (d3 : decode cL_law (pc + 3) = .ok (.iconst kc, 1)) (d4 : decode cL_law (pc + 4) = .ok (.iadd, 1)) (d5 : decode cL_law (pc + 5) = .ok (.iaload, 1))
    (kk : W p l e room_1 s m #[Value.ref b] below meth c H locs cells slots Q (F0 m (pc + 6) ls (.int (xs (i + k)) :: st))) : W p l e room_1 s m #[Value.ref b] below meth c H locs cells slots Q (F0 m pc ls st) := by
  obtain ⟨hx, hb, hr, hml, hown, hW, hlocks, hAm⟩ := C
  refine lv_aload_n hx hb d0 rfl h0 ?_
  refine lv_iload hx hb d1 h5 ?_
  refine lv_iconst (v := nI k) hx hb d3 hkc ?_
  refine lv_iadd hx hb d4 ?_
  rw [nI_add]
  refine va_sld (A := fz z) hx hb hX hbl (fun q => absurd hbl (by have : z ≤ b := q; omega)) hS (vp_in_nI hik (by omega)) d5 ?_
  rw [nI_clamp (by omega)]
  exact kk
theorem run_H (C : LBd p s m b meth c D cy z) (hNC : NC s) {y : MethodName} {bc : ByteArray} {nl' f lo t idx : Nat} {hh : List (Nat × Nat × Nat × Nat)} {r : Int32} {As : List Value} (hM : KH l y bc nl' hh f lo D cy z As o d σ τ t r o' d' σ' τ') (hP : WP D cy z σ τ o d H) (hS : va_S (fz z) s.heap H locs)
    (ml : Cond.methodLink RL idx y ∈ WA) (ms : Cond.static y ∈ WA) (mi : Cond.initialized y.cls ∈ WA) (mc : Cond.codeWith y bc nl' (some .int) hh ∈ WA) (hok : yOK y As.length) (hf : f + 1 ≤ room_1.frames ∧ 8 + (nl' + 11) + lo ≤ room_1.locals) (hst : st = As.reverse ++ rest) (hrest : (rest.map fun v => v.category).sum ≤ 8) (hsz : ls.size = 9) (hcs : cells + tcc t ≤ room_1.cells ∧ slots + tcs t ≤ room_1.slots) (hdg : decode cL_law pc = .ok (.invokestatic idx, 3))
    (kk : ∀ (H1 : Heap) (locs1 : List Loc), WP D cy z σ' τ' o' d' H1 → va_S (fz z) s.heap H1 locs1 → W p l e room_1 s m #[Value.ref b] below meth c H1 locs1 (cells + tcc t) (slots + tcs t) Q (F0 m (pc + 3) ls (.int r :: rest))) : W p l e room_1 s m #[Value.ref b] below meth c H locs cells slots Q (F0 m pc ls st) := by
  obtain ⟨hx, hb, hr, hml, hown, hW, hlocks, hAm⟩ := C
  refine va_calli (vx_runSW (As := As) (rest := rest) ⟨hx, hb, hml, hown, hW⟩ hM (vx_cwSW As.length hW (wa_app (ws := [.methodLink RL idx y, .static y, .initialized y.cls]) (by
    intro w hw
    simp only [List.mem_cons, List.not_mem_nil, or_false] at hw
    rcases hw with rfl | rfl | rfl <;> assumption) mc) rfl rfl rfl ⟨hok.1, hok.2.1, hok.2.2⟩ hf)
    ⟨PreH.blind, fun U hU hW' => ⟨rfl, by rw [hU]; exact hP, hAm.warm hW' (by rw [hU]; exact hS.2.1), hNC.moved hW'.alike⟩⟩ rfl rfl hsz hst (lv_room hrest) hdg hcs) hS (fun _ _ h => h) (fun _ h => h) (fun r1 u t9 H1 locs1 ht hvm hpost hB hz1 hk1 hS1 => ?_)
  subst hpost
  rw [ht] at hB
  exact kk H1 locs1 hB hS1
/-- the reference is called -/
theorem run_M (C : LBd p s m b meth c D cy z) {y : MethodName} {bc : ByteArray} {nl' idx : Nat} {g : Int32} {As : List Value} (hM : MC l y bc nl' D cy z (.ref (z + 95) :: As) o d σ τ g τ') (hP : WP D cy z σ τ o d H) (hS : va_S (fz z) s.heap H locs) (cw : cwVt y bc nl' (some .int) 6 As.length) (ml : Cond.methodLink RL idx y ∈ WA) (hnl : nl' ≤ 20)
    (hst : st = As.reverse ++ .ref (z + 95) :: rest) (hrest : (rest.map fun v => v.category).sum ≤ 8) (hsz : ls.size = 9) (hcs : cells ≤ room_1.cells ∧ slots ≤ room_1.slots) (hdg : decode cL_law pc = .ok (.invokevirtual idx, 3))
    (kk : ∀ (H1 : Heap) (locs1 : List Loc), WP D cy z σ τ' o d H1 → va_S (fz z) s.heap H1 locs1 → W p l e room_1 s m #[Value.ref b] below meth c H1 locs1 cells slots Q (F0 m (pc + 3) ls (.int g :: rest))) : W p l e room_1 s m #[Value.ref b] below meth c H locs cells slots Q (F0 m pc ls st) := by
  obtain ⟨f, lo, hf, hlo, hM⟩ := hM
  exact thn_I (run_V (As := As) (rest := rest) C hM hP hS cw ml rfl ⟨rfl, rfl⟩ ⟨by show f + 1 ≤ 11; omega, by show 8 + (nl' + 11) + lo ≤ 414; omega⟩ hst hrest hsz hcs hdg) hS kk
/-- what the law keeps in its locals -/
abbrev lvB (b z i : Nat) : List (Nat × Value) := [(0, .ref b), (1, .ref (z + 0)), (2, .ref (z + 95)), (3, .ref (z + 101)), (4, .ref (z + 102)), (5, .int (nI i))]
theorem lg_same (x : Int64) : lg_cmp x x = 0 := by
  unfold lg_cmp
  rw [if_neg (by simp), if_pos rfl]
theorem tail_A {i q : Nat} {k g : Int32} {off : Int} (C : LBd p s m b meth c D cy z) (hP : WP D cy z σ τ o d H) (hS : va_S (fz z) s.heap H locs) (hl : lv_has ls 9 ((6, .int k) :: lvB b z i)) (hk : τ 0 8 = k) (ho : k = 0 → o = g.toInt64) (hcs : cells ≤ room_1.cells ∧ slots ≤ room_1.slots)
    (d0 : decode cL_law q = .ok (.istore 7, 2)) (d2 : decode cL_law (q + 2) = .ok (.aload_n 2, 1)) (d3 : decode cL_law (q + 3) = .ok (.invokevirtual 109, 3)) (d6 : decode cL_law (q + 6) = .ok (.iload 6, 2)) (d8 : decode cL_law (q + 8) = .ok (.if_icmp .eq 5, 3)) (d13 : decode cL_law (q + 13) = .ok (.iload 6, 2)) (d15 : decode cL_law (q + 15) = .ok (.ifCond .ne 15, 3))
    (d18 : decode cL_law (q + 18) = .ok (.aload_n 3, 1)) (d19 : decode cL_law (q + 19) = .ok (.iconst 0, 1)) (d20 : decode cL_law (q + 20) = .ok (.laload, 1)) (d21 : decode cL_law (q + 21) = .ok (.iload 7, 2)) (d23 : decode cL_law (q + 23) = .ok (.i2l, 1)) (d24 : decode cL_law (q + 24) = .ok (.lcmp, 1)) (d25 : decode cL_law (q + 25) = .ok (.ifCond .eq 5, 3)) (d30 : decode cL_law (q + 30) = .ok (.goto off, 3)) (hoff : ((q + 30 : Nat) : Int) + off = 1786)
    (kk : ∀ (H1 : Heap) (locs1 : List Loc) (ls : Array Slot), WP D cy z σ τ o d H1 → va_S (fz z) s.heap H1 locs1 → lv_has ls 9 (lvB b z i) → W p l e room_1 s m #[Value.ref b] below meth c H1 locs1 cells slots Q (F0 m 1786 ls [])) : W p l e room_1 s m #[Value.ref b] below meth c H locs cells slots Q (F0 m q ls [.int g]) := by
  obtain ⟨hx, hb, hr, hml, hown, hW, hlocks, hAm⟩ := id C
  refine lv_istore (lv' := (7, .int g) :: (6, .int k) :: lvB b z i) hx hb d0 hl (by decide) rfl (fun ls hl => ?_)
  refine lv_aload_n hx hb d2 rfl (lv_at hl 4 rfl) ?_
  refine thn_I (run_V (As := []) (rest := []) C (k_X6_thrown l D cy z o d σ τ k95) hP hS cw_X6_thrown (mA4 (i := 37) rfl rfl) rfl ⟨rfl, rfl⟩ ⟨le10 rfl, le10 rfl⟩ rfl (le10 rfl) hl.1 hcs d3) hS (fun H locs hP hS => ?_)
  refine lv_iload hx hb d6 (lv_at hl 1 rfl) ?_
  have ek : f_X6_thrown τ = k := hk
  rw [ek]
  refine lv_icmp_eq (tgt := q + 13) hx hb d8 (by omega) (fun _ => ?_) (fun ne => absurd rfl ne)
  refine lv_iload hx hb d13 (lv_at hl 1 rfl) ?_
  have hend : W p l e room_1 s m #[Value.ref b] below meth c H locs cells slots Q (F0 m (q + 30) ls []) := lv_goto (tgt := 1786) hx hb d30 hoff (kk H locs ls hP hS (lv_sub hl [2, 3, 4, 5, 6, 7] rfl))
  refine lv_if_ne (tgt := q + 30) hx hb d15 (by omega) (fun _ => hend) (fun k0 => ?_)
  refine lv_aload_n hx hb d18 rfl (lv_at hl 5 rfl) ?_
  refine lv_iconst (v := 0) hx hb d19 (by decide) ?_
  refine va_lald hx hb hAm.1 hP 101 2 (n := 1) (f := fun _ => o) (by rw [mwl_at (by decide), ent_15 (by decide)]) rfl (by unfold vp_in; decide) d20 ?_
  refine lv_iload hx hb d21 (lv_at hl 0 rfl) ?_
  refine lv_i2l (v := o) hx hb d23 (ho k0).symm ?_
  refine W.lcmp hx hb d24 ?_
  rw [lg_same]
  exact lv_if_eq (tgt := q + 30) hx hb d25 (by omega) (fun _ => hend) (fun ne => absurd rfl ne)
end Law

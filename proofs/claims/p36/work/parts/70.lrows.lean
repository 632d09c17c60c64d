/-! the law's methods: their rows -/
section RowsK
variable {p : Program} {l : Launch} {e : Env} {Rm : Room} {s : State} {m : MethodId} {args : Array Value} {below : List Frame} {meth : Method} {c : Code} {H : Heap} {locs : List Loc} {cells slots : Nat} {Q : State → Prop}
variable {cc : ByteArray} {nl : Nat} {rt : Option FieldType} {own : String} {D : va_G} {cy : Nat → ClassId} {z : Nat} {σ τ σ' τ' σ2 : Sg} {o : Int64} {d : UInt64} {pc : Nat} {ls : Array Slot} {rest st : List Value} {t : Nat}
theorem okE_I {st0 : List Value} {a : Array Value} {r r' : Int32} (h0 : t = 0) (he : r = r') (hs : σ' = σ2) (hr : vx_Run p l e Rm s m args below meth c H locs cells slots (tcc t) (tcs t) (F0 m pc ls st0) rest (PoTI D cy z o d t r σ' τ' a) (XP D cy z o d t σ' τ') (fz z)) (hS : va_S (fz z) s.heap H locs)
    (kk : ∀ (H1 : Heap) (locs1 : List Loc), WP D cy z σ2 τ' o d H1 → va_S (fz z) s.heap H1 locs1 → W p l e Rm s m args below meth c H1 locs1 cells slots Q (F0 m (pc + 3) ls (.int r' :: rest))) : W p l e Rm s m args below meth c H locs cells slots Q (F0 m pc ls st0) := by
  subst he
  subst hs
  exact okT_I h0 hr hS kk
theorem okE_D {st0 : List Value} {a : Array Value} {r r' : UInt64} (h0 : t = 0) (he : r = r') (hs : σ' = σ2) (hr : vx_Run p l e Rm s m args below meth c H locs cells slots (tcc t) (tcs t) (F0 m pc ls st0) rest (PoTD D cy z o d t r σ' τ' a) (XP D cy z o d t σ' τ') (fz z)) (hS : va_S (fz z) s.heap H locs)
    (kk : ∀ (H1 : Heap) (locs1 : List Loc), WP D cy z σ2 τ' o d H1 → va_S (fz z) s.heap H1 locs1 → W p l e Rm s m args below meth c H1 locs1 cells slots Q (F0 m (pc + 3) ls (.double r' :: rest))) : W p l e Rm s m args below meth c H locs cells slots Q (F0 m pc ls st0) := by
  subst he
  subst hs
  exact okT_D h0 hr hS kk
theorem thnE_I {st0 : List Value} {a : Array Value} {r r' : Int32} (he : r = r') (hs : σ' = σ2) (hr : va_Run p l e Rm s m args below meth c H locs cells slots 0 0 (F0 m pc ls st0) rest (PoI D cy z o d r σ' τ' a) (fz z)) (hS : va_S (fz z) s.heap H locs)
    (kk : ∀ (H1 : Heap) (locs1 : List Loc), WP D cy z σ2 τ' o d H1 → va_S (fz z) s.heap H1 locs1 → W p l e Rm s m args below meth c H1 locs1 cells slots Q (F0 m (pc + 3) ls (.int r' :: rest))) : W p l e Rm s m args below meth c H locs cells slots Q (F0 m pc ls st0) := by
  subst he
  subst hs
  exact thn_I hr hS kk
theorem tab_at (C : Bd p s m args meth c cc nl rt own D cy z) {dflt lo hi : Int} {offs : Array Int} {len : Nat} {x : Int32} {tgt : Nat} (hdg : decode cc pc = .ok (.tableswitch dflt lo hi offs, len)) (h : ¬ x.toInt < lo ∧ ¬ hi < x.toInt ∧ ∃ off, offs[(x.toInt - lo).toNat]? = some off ∧ (pc : Int) + off = (tgt : Int))
    (kk : W p l e Rm s m args below meth c H locs cells slots Q (F0 m tgt ls rest)) : W p l e Rm s m args below meth c H locs cells slots Q (F0 m pc ls (.int x :: rest)) := by
  obtain ⟨hx, hb, hr, hml, hown, hW, hlocks, hAm⟩ := C
  obtain ⟨h1, h2, off, h3, h4⟩ := h
  exact lv_tableIn hx hb hdg h1 h2 h3 h4 kk
/-- with the script in sight -/
def PreX (D : va_G) (cy : Nat → ClassId) (z b L : Nat) (xs : Nat → Int32) (As : List Value) (σ τ : Sg) (o : Int64) (d : UInt64) : Array Value → State → Prop := va_Pc As (fun U => WP D cy z σ τ o d U.heap ∧ Amb D cy z U U.heap ∧ va_X b L xs U U.heap ∧ b < z)
theorem PreX.blind {D : va_G} {cy : Nat → ClassId} {z b L : Nat} {xs : Nat → Int32} {As : List Value} {σ τ : Sg} {o : Int64} {d : UInt64} : FrameBlind (PreX D cy z b L xs As σ τ o d) := by
  intro a U g mk h
  obtain ⟨h1, h2, h3, h4, h5⟩ := h
  exact ⟨h1, h2, h3.same (U := U.calling g mk a) rfl, h4, h5⟩
def KX (l : Launch) (y : MethodName) (bc : ByteArray) (nl : Nat) (rt : Option FieldType) (rm : Room) (D : va_G) (cy : Nat → ClassId) (z b L : Nat) (xs : Nat → Int32) (As : List Value) (o : Int64) (d : UInt64) (σ τ : Sg) (r : Int32) : Prop :=
  Met l y (.code y bc nl rt :: WA) rm (PreX D cy z b L xs As σ τ o d) (PoI D cy z o d r σ τ) 0 0 (fz z)
theorem metX_of {y : MethodName} {bc : ByteArray} {rm : Room} {b L : Nat} {xs : Nat → Int32} {As : List Value} {Qc : Array Value → State → Outcome → State → Prop} (own : String) (hy : plainFor y = true) (ho : y.cls = own) (hn : (lg_sl As).length ≤ nl)
    (body : ∀ p e s m args below meth c, Bd p s m args meth c bc nl rt own D cy z → va_X b L xs s s.heap → b < s.heap.size → b < z → WP D cy z σ τ o d s.heap → va_S (fz z) s.heap s.heap [] → ∀ ls : Array Slot, lv_has ls nl (lv_args 0 As) → W p l e rm s m args below meth c s.heap [] 0 0 (MQ below Qc args s 0 0 (fz z)) (F0 m 0 ls [])) :
    Met l y (.code y bc nl rt :: WA) rm (PreX D cy z b L xs As σ τ o d) Qc 0 0 (fz z) := by
  refine met_body (cc := bc) (maxL := nl) (ret := rt) hy rfl ?_
  intro p e s m args below meth c s₁ B hml hv
  obtain ⟨rfl, hP, hAm, hX, hbz⟩ := hv
  have hts := atoms_spec (ws := .code y bc nl rt :: WA) B.pre
  have hown : s.vm.findClass own = some m.cls := by rw [← ho]; exact findClass_of_methodNamed B.named
  have hbl : b < s.heap.size := by
    obtain ⟨scr, h1, -⟩ := hX
    exact (Array.getElem?_eq_some_iff.mp h1).1
  rw [lg_entry_eq]
  exact body p e s m As.toArray below meth c ⟨B.exec, B.bytes, B.returns, hml, hown, fun w h => hts w (List.mem_cons_of_mem _ h), B.notSynchronized, hAm⟩ hX hbl hbz hP va_S.rf _ (lv_entry As hn)
theorem run_X (C : Bd p s m args meth c cc nl rt own D cy z) {b L : Nat} {xs : Nat → Int32} (hX : va_X b L xs s s.heap) (hbl : b < s.heap.size) (hbz : b < z) {y : MethodName} {bc : ByteArray} {nl' : Nat} {rt' : Option FieldType} {rm : Room} {As : List Value} {r : Int32} {idx : Nat}
    (hM : KX l y bc nl' rt' rm D cy z b L xs As o d σ τ r) (hP : WP D cy z σ τ o d H) (hS : va_S (fz z) s.heap H locs) (cw : cwSt y bc nl' rt' As.length) (ml : Cond.methodLink own idx y ∈ WA) (h0 : rm.cells = 0 ∧ rm.slots = 0)
    (hR : rm.frames + 1 ≤ Rm.frames ∧ 8 + (nl' + 11) + rm.locals ≤ Rm.locals) (hst : st = As.reverse ++ rest) (hrest : (rest.map fun v => v.category).sum ≤ 8) (hsz : ls.size = nl) (hcs : cells ≤ Rm.cells ∧ slots ≤ Rm.slots) (hdg : decode cc pc = .ok (.invokestatic idx, 3)) :
    va_Run p l e Rm s m args below meth c H locs cells slots 0 0 (F0 m pc ls st) rest (PoI D cy z o d r σ τ As.toArray) (fz z) := by
  obtain ⟨hx, hb, hr, hml, hown, hW, hlocks, hAm⟩ := C
  obtain ⟨w1, w3, w4, hy1, hy2, hy3⟩ := cw
  exact va_runS (As := As) (rest := rest) ⟨hx, hb, hml, hown, hW⟩ hM (va_cwS As.length hW (wa_app (ws := [.methodLink own idx y, .static y, .initialized y.cls]) (by
    intro w hw
    simp only [List.mem_cons, List.not_mem_nil, or_false] at hw
    rcases hw with rfl | rfl | rfl <;> assumption) w4) rfl h0.1 h0.2 ⟨hy1, hy2, hy3⟩ hR)
    ⟨PreX.blind, fun U hU hW' => ⟨rfl, by rw [hU]; exact hP, hAm.warm hW' (by rw [hU]; exact hS.2.1), (by rw [hU]; exact (hX.moved hW'.alike).kept (hS.2.1 b hbl (fun q => absurd hbz (Nat.not_lt.mpr q)))), hbz⟩⟩ rfl rfl hsz hst (lv_room hrest) hdg hcs
end RowsK
/-- numbers of the script, made small -/
def lowN (v : Int32) (n : Nat) : Nat := (v &&& 2147483647).toNatClampNeg % n
theorem and_nn (v : Int32) : 0 ≤ (v &&& 2147483647).toInt := by
  have : (v &&& 2147483647).toBitVec.msb = decide ((v &&& 2147483647).toBitVec.toInt < 0) := BitVec.msb_eq_toInt
  have h2 : (v &&& 2147483647).toBitVec.msb = false := by
    rw [Int32.toBitVec_and, BitVec.msb_and, show (2147483647 : Int32).toBitVec.msb = false from rfl, Bool.and_false]
  rw [h2] at this
  have h3 := of_decide_eq_false this.symm
  show 0 ≤ (v &&& 2147483647).toBitVec.toInt
  omega
theorem cw_L_low : cwSt yL_low cL_low 2 (some .int) 2 := ⟨(mA1 (i := 185) rfl rfl), (mA1 (i := 0) rfl rfl), (mA1 (i := 186) rfl rfl), by decide +kernel⟩
abbrev rm_L_low : Room := { frames := 0, cells := 0, slots := 0, locals := 0 }
def f_L_low  (x : Int32) (y : Int32) : Int32 :=
  (x &&& 2147483647) - (x &&& 2147483647) / y * y
set_option maxHeartbeats 4000000 in
set_option maxRecDepth 100000 in
theorem k_L_low (l : Launch) (D : va_G) (cy : Nat → ClassId) (z : Nat) (o : Int64) (d : UInt64) (σ τ : Sg) (x : Int32) (y : Int32) (hne : ¬ y = 0) : KI l yL_low cL_low 2 (some .int) rm_L_low D cy z [.int x, .int y] o d σ τ (f_L_low x y) σ τ := by
  refine met_of RL (plainFor_of_name (by decide)) rfl (Nat.le_of_ble_eq_true rfl) ?_
  intro p e s m args below meth c C hP hS ls hl
  obtain ⟨hx, hb, hr, hml, hown, hW, hlocks, hAm⟩ := id C
  have hl : lv_has ls 2 [(0, .int x), (1, .int y)] := hl
  refine lv_iload_n hx hb dL_low_0 rfl (lv_at hl 0 rfl) ?_
  refine lv_ldc (v := 2147483647) hx hb hown (hW _ (mA1 (i := 187) rfl rfl)) dL_low_1 ?_
  refine lv_iand hx hb dL_low_3 ?_
  refine lv_iload_n hx hb dL_low_4 rfl (lv_at hl 1 rfl) ?_
  refine lv_irem hx hb dL_low_5 hne ?_
  exact ret_I C hP hS (nar_i _) rfl rfl rfl rfl dL_low_6

theorem cw_L_size : cwSt yL_size cL_size 1 (some .int) 1 := ⟨(mA2 (i := 170) rfl rfl), (mA1 (i := 0) rfl rfl), (mA2 (i := 171) rfl rfl), by decide +kernel⟩
abbrev rm_L_size : Room := { frames := 0, cells := 0, slots := 0, locals := 0 }
def f_L_size  (x : Int32) : Int32 :=
  if 0 ≤ x then
    x
  else
    -x
set_option maxHeartbeats 4000000 in
set_option maxRecDepth 100000 in
theorem k_L_size (l : Launch) (D : va_G) (cy : Nat → ClassId) (z : Nat) (o : Int64) (d : UInt64) (σ τ : Sg) (x : Int32) : KI l yL_size cL_size 1 (some .int) rm_L_size D cy z [.int x] o d σ τ (f_L_size x) σ τ := by
  refine met_of RL (plainFor_of_name (by decide)) rfl (Nat.le_of_ble_eq_true rfl) ?_
  intro p e s m args below meth c C hP hS ls hl
  obtain ⟨hx, hb, hr, hml, hown, hW, hlocks, hAm⟩ := id C
  have hl : lv_has ls 1 [(0, .int x)] := hl
  refine lv_iload_n hx hb dL_size_0 rfl (lv_at hl 0 rfl) ?_
  refine lv_if_ge (tgt := 9) hx hb dL_size_1 (by decide) (fun c_1 => ?_) (fun c_1 => ?_)
  · refine lv_iload_n hx hb dL_size_9 rfl (lv_at hl 0 rfl) ?_
    exact ret_I C hP hS (nar_i _) rfl (by unfold f_L_size; rw [if_pos c_1]) rfl rfl dL_size_10
  · refine lv_iload_n hx hb dL_size_4 rfl (lv_at hl 0 rfl) ?_
    refine lv_ineg hx hb dL_size_5 ?_
    refine lv_goto (tgt := 10) hx hb dL_size_6 (by decide) ?_
    exact ret_I C hP hS (nar_i _) rfl (by unfold f_L_size; rw [if_neg c_1]) rfl rfl dL_size_10

theorem low_ok (v : Int32) (n : Nat) (h1 : 1 ≤ n) (h2 : n ≤ 1000) : f_L_low v (nI n) = nI (lowN v n) ∧ lowN v n < n := by
  have hn : (nI n).toInt = (n : Int) := nI_int (by omega)
  have h0 := and_nn v
  have hc := (i32_nat (v &&& 2147483647)).2 h0
  have hlt : lowN v n < n := Nat.mod_lt _ h1
  refine ⟨?_, hlt⟩
  apply Int32.toInt_inj.mp
  unfold f_L_low
  rw [(rem_int (x := v &&& 2147483647) (y := nI n) (by omega)).2.2, hn, nI_int (by omega), ← hc]
  unfold lowN
  exact (Int.ofNat_tmod _ _).symm
theorem size_ab (x : Int32) : f_L_size x = ab x := by
  unfold f_L_size ab
  split
  · rfl
  · rw [Int32.zero_sub]

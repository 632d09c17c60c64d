/-! the law's helpers: a call within a 'try' -/
theorem arr1 {cA : ClassId} {f g : Nat → Value} (h : f 0 = g 0) : arrV cA 1 f = arrV cA 1 g := by
  unfold arrV
  congr 1
  apply Array.ext
  · simp
  · intro i h1 h2
    have : i = 0 := by simpa using h1
    subst this
    simpa using h
/-- who is not whose kin -/
def NC (U : State) : Prop := va_Nc "java/lang/IllegalArgumentException" "java/lang/IndexOutOfBoundsException" U ∧ va_Nc "java/lang/IllegalStateException" "java/lang/IndexOutOfBoundsException" U ∧ va_Nc "java/lang/IllegalStateException" "java/lang/IllegalArgumentException" U
theorem NC.moved {u U : State} (hvm : u.vm.Alike U.vm) (h : NC u) : NC U := ⟨va_Nc.moved hvm h.1, va_Nc.moved hvm h.2.1, va_Nc.moved hvm h.2.2⟩
def PreH (D : va_G) (cy : Nat → ClassId) (z : Nat) (As : List Value) (σ τ : Sg) (o : Int64) (d : UInt64) : Array Value → State → Prop := va_Pc As (fun U => WP D cy z σ τ o d U.heap ∧ Amb D cy z U U.heap ∧ NC U)
theorem PreH.blind {D : va_G} {cy : Nat → ClassId} {z : Nat} {As : List Value} {σ τ : Sg} {o : Int64} {d : UInt64} : FrameBlind (PreH D cy z As σ τ o d) := by
  intro a U g mk h
  obtain ⟨h1, h2, h3, h4⟩ := h
  exact ⟨h1, h2, h3.same (U := U.calling g mk a) rfl, h4⟩
def KH (l : Launch) (y : MethodName) (bc : ByteArray) (nl : Nat) (hh : List (Nat × Nat × Nat × Nat)) (f lo : Nat) (D : va_G) (cy : Nat → ClassId) (z : Nat) (As : List Value) (o : Int64) (d : UInt64) (σ τ : Sg) (t : Nat) (r : Int32) (o' : Int64) (d' : UInt64) (σ' τ' : Sg) : Prop :=
  Met l y (.codeWith y bc nl (some .int) hh :: WA) (rmT f lo t) (PreH D cy z As σ τ o d) (PoI D cy z o' d' r σ' τ') (tcc t) (tcs t) (fz z)
theorem metH_of {l : Launch} {y : MethodName} {bc : ByteArray} {nl : Nat} {rt : Option FieldType} {hh : List (Nat × Nat × Nat × Nat)} {rm : Room} {D : va_G} {cy : Nat → ClassId} {z : Nat} {As : List Value} {o : Int64} {d : UInt64} {σ τ : Sg} {Qc : Array Value → State → Outcome → State → Prop} {mc ms : Nat} (own : String) (hy : plainName y.cls = true) (ho : y.cls = own) (hn : (lg_sl As).length ≤ nl)
    (body : ∀ p e s m args below meth c, Bd p s m args meth c bc nl rt own D cy z → NC s → c.exceptionTable.toList = tableOf hh → WP D cy z σ τ o d s.heap → va_S (fz z) s.heap s.heap [] → ∀ ls : Array Slot, lv_has ls nl (lv_args 0 As) → W p l e rm s m args below meth c s.heap [] 0 0 (MQ below Qc args s mc ms (fz z)) (F0 m 0 ls [])) :
    Met l y (.codeWith y bc nl rt hh :: WA) rm (PreH D cy z As σ τ o d) Qc mc ms (fz z) := by
  refine MetFree.of_bodyS (code := bc) (maxLocals := nl) (ret := rt) hy ?_ ?_
  · intro args s m h hn
    obtain ⟨m9, meth, c, hn9, h1, h2, h3, h4, -, h5, h6, -⟩ := Cond.codeWith_spec (atoms_spec (ws := .codeWith y bc nl rt hh :: WA) h _ List.mem_cons_self)
    cases hn.symm.trans hn9
    exact ⟨meth, c, h1, h2, h3, h4, h5, h6⟩
  · intro p e s m args below meth c s₁ B hml hPre _
    obtain ⟨rfl, hP, hAm, hNC⟩ := hPre
    have hh0 : s₁.heap = s.heap := by rw [B.state]; rfl
    have hts := atoms_spec (ws := .codeWith y bc nl rt hh :: WA) B.pre
    have hown : s.vm.findClass own = some m.cls := by rw [← ho]; exact findClass_of_methodNamed B.named
    have key := body p e s m As.toArray below meth c ⟨B.exec, B.bytes, B.returns, hml, hown, fun w h => hts w (List.mem_cons_of_mem _ h), B.notSynchronized, hAm⟩ hNC (vx_table (x := y) B (hts _ List.mem_cons_self)) hP va_S.rf _ (lv_entry As hn)
    rw [← lg_entry_eq] at key
    obtain ⟨t, a1, o, b1, b2, b3⟩ := key s₁ hh0 (Stand.of_body B)
    exact ⟨t, o, a1, b1, b2, ⟨b3.1, b3.2⟩⟩
section
variable {p : Program} {l : Launch} {e : Env} {Rm : Room} {s : State} {m : MethodId} {args : Array Value} {below : List Frame} {meth : Method} {c : Code} {H : Heap} {locs : List Loc} {cells slots : Nat} {Q : State → Prop}
variable {cc : ByteArray} {nl : Nat} {rt : Option FieldType} {own : String} {D : va_G} {cy : Nat → ClassId} {z : Nat} {σ τ σ' τ' : Sg} {o : Int64} {d : UInt64} {pc : Nat} {ls : Array Slot} {rest st : List Value} {t : Nat}
theorem hcall_I {st0 : List Value} {a : Array Value} {r : Int32} (hr : vx_Run p l e Rm s m args below meth c H locs 0 0 (tcc t) (tcs t) (F0 m pc ls st0) rest (PoTI D cy z o d t r σ' τ' a) (XP D cy z o d t σ' τ') (fz z)) (hS : va_S (fz z) s.heap H locs)
    (kx : t ≠ 0 → ∀ (ce : Cell) (q9 : Addr) (H1 : Heap) (locs1 : List Loc), WP D cy z σ' τ' o d H1 → va_S (fz z) s.heap H1 locs1 → H1[q9]? = some ce → ce.vm = .none → s.vm.findClass (exN t) = some ce.cls → vx_W p l e Rm s m args below meth c H1 locs1 (tcc t) (tcs t) Q (F0 m pc ls rest) q9)
    (kk : t = 0 → ∀ (H1 : Heap) (locs1 : List Loc), WP D cy z σ' τ' o d H1 → va_S (fz z) s.heap H1 locs1 → W p l e Rm s m args below meth c H1 locs1 (tcc t) (tcs t) Q (F0 m (pc + 3) ls (.int r :: rest))) : W p l e Rm s m args below meth c H locs 0 0 Q (F0 m pc ls st0) :=
  vx_calli hr hS (fun _ _ h => h) (fun _ h => h) (fun _ _ h => h) (fun E ce q9 u t9 H1 locs1 ht hvm _ hB hz hk1 hS1 hce hcv hcl => by
    obtain ⟨h0, rfl, hW⟩ := hB
    rw [ht] at hW
    rw [Nat.zero_add, Nat.zero_add]
    exact kx h0 ce q9 H1 locs1 hW hS1 hce hcv hcl) (fun r1 u t9 H1 locs1 ht hvm hpost hB hz hk1 hS1 => by
    obtain ⟨h0, rfl⟩ := hpost
    rw [ht] at hB
    rw [Nat.zero_add, Nat.zero_add]
    exact kk h0 H1 locs1 hB hS1)
theorem hcall_D {st0 : List Value} {a : Array Value} {r : UInt64} (hr : vx_Run p l e Rm s m args below meth c H locs 0 0 (tcc t) (tcs t) (F0 m pc ls st0) rest (PoTD D cy z o d t r σ' τ' a) (XP D cy z o d t σ' τ') (fz z)) (hS : va_S (fz z) s.heap H locs)
    (kx : t ≠ 0 → ∀ (ce : Cell) (q9 : Addr) (H1 : Heap) (locs1 : List Loc), WP D cy z σ' τ' o d H1 → va_S (fz z) s.heap H1 locs1 → H1[q9]? = some ce → ce.vm = .none → s.vm.findClass (exN t) = some ce.cls → vx_W p l e Rm s m args below meth c H1 locs1 (tcc t) (tcs t) Q (F0 m pc ls rest) q9)
    (kk : t = 0 → ∀ (H1 : Heap) (locs1 : List Loc), WP D cy z σ' τ' o d H1 → va_S (fz z) s.heap H1 locs1 → W p l e Rm s m args below meth c H1 locs1 (tcc t) (tcs t) Q (F0 m (pc + 3) ls (.double r :: rest))) : W p l e Rm s m args below meth c H locs 0 0 Q (F0 m pc ls st0) :=
  vx_calld hr hS (fun _ _ h => h) (fun _ h => h) (fun _ _ h => h) (fun E ce q9 u t9 H1 locs1 ht hvm _ hB hz hk1 hS1 hce hcv hcl => by
    obtain ⟨h0, rfl, hW⟩ := hB
    rw [ht] at hW
    rw [Nat.zero_add, Nat.zero_add]
    exact kx h0 ce q9 H1 locs1 hW hS1 hce hcv hcl) (fun r1 u t9 H1 locs1 ht hvm hpost hB hz hk1 hS1 => by
    obtain ⟨h0, rfl⟩ := hpost
    rw [ht] at hB
    rw [Nat.zero_add, Nat.zero_add]
    exact kk h0 H1 locs1 hB hS1)
/-- caught by the first, the second, the third row -/
theorem hc0 (C : Bd p s m args meth c cc nl rt own D cy z) {ce : Cell} {q : Addr} {T : String} {x : ExceptionTableEntry} {suf : List ExceptionTableEntry} (htab : c.exceptionTable.toList = x :: suf) (hx : covers x pc = true) (h0 : x.catchType ≠ 0) (hl : Cond.classLink own x.catchType T ∈ WA) (hc : Cond.castable T T ∈ nestW)
    (hce : H[q]? = some ce) (hcv : ce.vm = .none) (hcl : s.vm.findClass T = some ce.cls) (kk : W p l e Rm s m args below meth c H locs cells slots Q (F0 m x.handlerPc ls [.ref q])) : vx_W p l e Rm s m args below meth c H locs cells slots Q (F0 m pc ls rest) q := by
  obtain ⟨-, hb, hr, hml, hown, hW, hlocks, hAm⟩ := C
  exact vx_catch hown [] x suf htab (fun z hz => by cases hz) hx h0 (hW _ hl) (va_Nw.use (nw_onT (List.all_eq_true.mp nestW_ok _ hc)) (hAm.2.1 _ hc)) hce hcv hcl kk
theorem hc1 (C : Bd p s m args meth c cc nl rt own D cy z) {ce : Cell} {q : Addr} {T T1 : String} {x x1 : ExceptionTableEntry} {suf : List ExceptionTableEntry} (htab : c.exceptionTable.toList = x1 :: x :: suf) (h1 : x1.catchType ≠ 0) (hl1 : Cond.classLink own x1.catchType T1 ∈ WA) (hn1 : va_Nc T T1 s) (hx : covers x pc = true) (h0 : x.catchType ≠ 0) (hl : Cond.classLink own x.catchType T ∈ WA) (hc : Cond.castable T T ∈ nestW)
    (hce : H[q]? = some ce) (hcv : ce.vm = .none) (hcl : s.vm.findClass T = some ce.cls) (kk : W p l e Rm s m args below meth c H locs cells slots Q (F0 m x.handlerPc ls [.ref q])) : vx_W p l e Rm s m args below meth c H locs cells slots Q (F0 m pc ls rest) q := by
  obtain ⟨-, hb, hr, hml, hown, hW, hlocks, hAm⟩ := C
  exact vx_catch hown [x1] x suf htab (fun z hz => by cases List.mem_singleton.mp hz; exact Or.inr ⟨h1, T1, hW _ hl1, hn1⟩) hx h0 (hW _ hl) (va_Nw.use (nw_onT (List.all_eq_true.mp nestW_ok _ hc)) (hAm.2.1 _ hc)) hce hcv hcl kk
theorem hc2 (C : Bd p s m args meth c cc nl rt own D cy z) {ce : Cell} {q : Addr} {T T1 T2 : String} {x x1 x2 : ExceptionTableEntry} {suf : List ExceptionTableEntry} (htab : c.exceptionTable.toList = x1 :: x2 :: x :: suf) (h1 : x1.catchType ≠ 0) (hl1 : Cond.classLink own x1.catchType T1 ∈ WA) (hn1 : va_Nc T T1 s) (h2 : x2.catchType ≠ 0) (hl2 : Cond.classLink own x2.catchType T2 ∈ WA) (hn2 : va_Nc T T2 s) (hx : covers x pc = true) (h0 : x.catchType ≠ 0) (hl : Cond.classLink own x.catchType T ∈ WA) (hc : Cond.castable T T ∈ nestW)
    (hce : H[q]? = some ce) (hcv : ce.vm = .none) (hcl : s.vm.findClass T = some ce.cls) (kk : W p l e Rm s m args below meth c H locs cells slots Q (F0 m x.handlerPc ls [.ref q])) : vx_W p l e Rm s m args below meth c H locs cells slots Q (F0 m pc ls rest) q := by
  obtain ⟨-, hb, hr, hml, hown, hW, hlocks, hAm⟩ := C
  exact vx_catch hown [x1, x2] x suf htab (fun z hz => by
    rcases List.mem_cons.mp hz with rfl | hz
    · exact Or.inr ⟨h1, T1, hW _ hl1, hn1⟩
    · cases List.mem_singleton.mp hz
      exact Or.inr ⟨h2, T2, hW _ hl2, hn2⟩) hx h0 (hW _ hl) (va_Nw.use (nw_onT (List.all_eq_true.mp nestW_ok _ hc)) (hAm.2.1 _ hc)) hce hcv hcl kk
/-- a cell that is told otherwise, but reads the same -/
theorem WP.putE {σ' τ' : Sg} {o' : Int64} {d' : UInt64} {k : Nat} {x y : ClassId × vp_A} (hP : va_P D vwCl ((mwl z 103 (ent z cy σ τ o d)).set k (z + k, .inl x)) H) (hk : k < 103) (hxy : vp_cell x.1 x.2 = vp_cell y.1 y.2)
    (he : (.inl y : va_E) = ent z cy σ' τ' o' d' k) (hne : ∀ j, j ≠ k → ent z cy σ τ o d j = ent z cy σ' τ' o' d' j) : WP D cy z σ' τ' o' d' H := by
  refine WP.put (e := .inl y) ?_ he hne
  intro i q hi
  by_cases h : k = i
  · subst h
    rw [List.getElem?_set_self (by rw [mwl_len]; exact hk)] at hi
    cases hi
    have := hP k (z + k, .inl x) (List.getElem?_set_self (by rw [mwl_len]; exact hk))
    show H[z + k]? = some (vp_cell y.1 y.2)
    rw [← hxy]
    exact this
  · rw [List.getElem?_set_ne h] at hi
    exact hP i q (by rw [List.getElem?_set_ne h]; exact hi)
theorem ent_o {o o' : Int64} {j : Nat} (h : j ≠ 101) : ent z cy σ τ o d j = ent z cy σ τ o' d j := by
  have hkd : kd j ≠ 15 := by
    unfold kd
    repeat' split
    all_goals try dsimp only
    all_goals repeat' split
    all_goals first | decide | omega
  unfold ent
  split <;> first | rfl | (exfalso; rename_i h9; exact hkd h9)
theorem ent_d {d d' : UInt64} {j : Nat} (h : j ≠ 102) : ent z cy σ τ o d j = ent z cy σ τ o d' j := by
  have hkd : kd j ≠ 16 := by
    unfold kd
    repeat' split
    all_goals try dsimp only
    all_goals repeat' split
    all_goals first | decide | omega
  unfold ent
  split <;> first | rfl | (exfalso; rename_i h9; exact hkd h9)
theorem as_15 (C : Bd p s m args meth c cc nl rt own D cy z) (hP : WP D cy z σ τ o d H) (hS : va_S (fz z) s.heap H locs) {x : Int64} (hdg : decode cc pc = .ok (.lastore, 1))
    (kk : ∀ (H1 : Heap) (locs1 : List Loc), WP D cy z σ τ x d H1 → va_S (fz z) s.heap H1 locs1 → W p l e Rm s m args below meth c H1 locs1 cells slots Q (F0 m (pc + 1) ls rest)) : W p l e Rm s m args below meth c H locs cells slots Q (F0 m pc ls (.long x :: .int 0 :: .ref (z + 101) :: rest)) := by
  obtain ⟨hx, hb, hr, hml, hown, hW, hlocks, hAm⟩ := C
  exact va_last hx hb hAm.1 hP mwl_D hS 101 2 (n := 1) (f := fun _ => o) (by rw [mwl_at (by decide), ent_15 (by decide)]) rfl (by unfold vp_in; decide) hdg (fun H1 locs1 hP1 _ hS1 => kk H1 locs1 (WP.putE hP1 (by decide) (by show arrV (cy 2) 1 (fun j => .long (vp_updL (fun _ => o) (Int32.toNatClampNeg 0) x j)) = arrV (cy 2) 1 (fun _ => .long x); exact arr1 rfl) (y := (cy 2, 1, .inr (.inl (fun _ => x)))) (ent_15 (by decide)).symm (fun j hj => ent_o hj)) hS1)
theorem as_16 (C : Bd p s m args meth c cc nl rt own D cy z) (hP : WP D cy z σ τ o d H) (hS : va_S (fz z) s.heap H locs) {x : UInt64} (hdg : decode cc pc = .ok (.dastore, 1))
    (kk : ∀ (H1 : Heap) (locs1 : List Loc), WP D cy z σ τ o x H1 → va_S (fz z) s.heap H1 locs1 → W p l e Rm s m args below meth c H1 locs1 cells slots Q (F0 m (pc + 1) ls rest)) : W p l e Rm s m args below meth c H locs cells slots Q (F0 m pc ls (.double x :: .int 0 :: .ref (z + 102) :: rest)) := by
  obtain ⟨hx, hb, hr, hml, hown, hW, hlocks, hAm⟩ := C
  exact va_dast hx hb hAm.1 hP mwl_D hS 102 3 (n := 1) (f := fun _ => d) (by rw [mwl_at (by decide), ent_16 (by decide)]) rfl (by unfold vp_in; decide) hdg (fun H1 locs1 hP1 _ hS1 => kk H1 locs1 (WP.putE hP1 (by decide) (by show arrV (cy 3) 1 (fun j => .double (vf_upd (fun _ => d) (Int32.toNatClampNeg 0) x j)) = arrV (cy 3) 1 (fun _ => .double x); exact arr1 rfl) (y := (cy 3, 1, .inr (.inr (.inr (.inl (fun _ => x)))))) (ent_16 (by decide)).symm (fun j hj => ent_d hj)) hS1)
end
/-- the room that a helper has -/
theorem rm_in {f lo t : Nat} : 0 + tcc t ≤ (rmT f lo t).cells ∧ 0 + tcs t ≤ (rmT f lo t).slots := tcc_e rfl
def hk1 (t : Nat) : Int32 := if t = 0 then 0 else 1
def hkt (t : Nat) : Int32 := if t = 0 then 0 else if t = 1 then 1 else if t = 2 then 2 else 3
def hO (t : Nat) (r : Int32) (o : Int64) : Int64 := if t = 0 then r.toInt64 else o
def hD (t : Nat) (r d : UInt64) : UInt64 := if t = 0 then r else d

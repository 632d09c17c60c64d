/-! methods that throw: the tag of what is thrown (0: nothing), and the room by it -/
def exN : Nat → String
  | 1 => "java/lang/IndexOutOfBoundsException"
  | 2 => "java/lang/IllegalArgumentException"
  | _ => "java/lang/IllegalStateException"
abbrev exS : List String := ["java/lang/RuntimeException", "java/lang/Exception"]
def tcc (t : Nat) : Nat := if t = 0 then 0 else 1
def tcs (t : Nat) : Nat := if t = 0 then 0 else 6
theorem tcc_n {t : Nat} (h : t ≠ 0) : tcc t = 1 := if_neg h
theorem tcs_n {t : Nat} (h : t ≠ 0) : tcs t = 6 := if_neg h
abbrev rmT (f lo t : Nat) : Room := { frames := f, cells := tcc t, slots := tcs t, locals := lo }
def XP (D : va_G) (cy : Nat → ClassId) (z : Nat) (o : Int64) (d : UInt64) (t : Nat) (σ τ : Sg) : String → State → State → Prop := vx_X (fun _ : Unit => True) (fun E _ U => t ≠ 0 ∧ E = exN t ∧ WP D cy z σ τ o d U.heap) (fun q => z ≤ q)
def PoTI (D : va_G) (cy : Nat → ClassId) (z : Nat) (o : Int64) (d : UInt64) (t : Nat) (r : Int32) (σ τ : Sg) : Array Value → State → Outcome → State → Prop := va_Qi (fun (x : Int32) (_ : Unit) => t = 0 ∧ x = r) (fun _ U => WP D cy z σ τ o d U.heap) (fun q => z ≤ q)
def PoTV (D : va_G) (cy : Nat → ClassId) (z : Nat) (o : Int64) (d : UInt64) (t : Nat) (σ τ : Sg) : Array Value → State → Outcome → State → Prop := va_Qv (fun (_ : Unit) => t = 0) (fun _ U => WP D cy z σ τ o d U.heap) (fun q => z ≤ q)
def PoTR (D : va_G) (cy : Nat → ClassId) (z : Nat) (o : Int64) (d : UInt64) (t : Nat) (r : Nat) (σ τ : Sg) : Array Value → State → Outcome → State → Prop := va_Qr (fun (_ : Unit) => t = 0) (fun _ a U => a = z + r ∧ WP D cy z σ τ o d U.heap) (fun q => z ≤ q)
def PoTD (D : va_G) (cy : Nat → ClassId) (z : Nat) (o : Int64) (d : UInt64) (t : Nat) (r : UInt64) (σ τ : Sg) : Array Value → State → Outcome → State → Prop := va_Qd (fun (x : UInt64) (_ : Unit) => t = 0 ∧ x = r) (fun _ U => WP D cy z σ τ o d U.heap) (fun q => z ≤ q)
def KT (l : Launch) (y : MethodName) (bc : ByteArray) (nl : Nat) (rt : Option FieldType) (f lo : Nat) (D : va_G) (cy : Nat → ClassId) (z : Nat) (As : List Value) (o : Int64) (d : UInt64) (σ τ : Sg) (t : Nat) (Qc : Array Value → State → Outcome → State → Prop) (σ' τ' : Sg) : Prop :=
  vx_Met l y (.code y bc nl rt :: WA) (rmT f lo t) (Pre D cy z As σ τ o d) Qc (XP D cy z o d t σ' τ') (tcc t) (tcs t) (fz z)
def Nox (c : Code) : Prop := ∀ x ∈ c.exceptionTable.toList, False
theorem Nox.out {c : Code} (h : Nox c) (pc : Nat) : ∀ x ∈ c.exceptionTable.toList, covers x pc = false := fun x hx => (h x hx).elim
theorem metT_of {l : Launch} {y : MethodName} {bc : ByteArray} {nl : Nat} {rt : Option FieldType} {rm : Room} {D : va_G} {cy : Nat → ClassId} {z : Nat} {As : List Value} {o : Int64} {d : UInt64} {σ τ : Sg} {Qc : Array Value → State → Outcome → State → Prop} {XC : String → State → State → Prop} {mc ms : Nat} (own : String) (hy : plainName y.cls = true) (ho : y.cls = own) (hn : (lg_sl As).length ≤ nl)
    (body : ∀ p e s m args below meth c, Bd p s m args meth c bc nl rt own D cy z → Nox c → WP D cy z σ τ o d s.heap → va_S (fz z) s.heap s.heap [] → ∀ ls : Array Slot, lv_has ls nl (lv_args 0 As) → W p l e rm s m args below meth c s.heap [] 0 0 (vx_MQ below Qc XC args s mc ms (fz z)) (F0 m 0 ls [])) :
    vx_Met l y (.code y bc nl rt :: WA) rm (Pre D cy z As σ τ o d) Qc XC mc ms (fz z) := by
  refine vx_ofW (cc := bc) (maxL := nl) (ret := rt) hy rfl ?_
  intro p e s m args below meth c s₁ B hml hno hv
  obtain ⟨rfl, hP, hAm⟩ := hv
  have hts := atoms_spec (ws := .code y bc nl rt :: WA) B.pre
  have hown : s.vm.findClass own = some m.cls := by rw [← ho]; exact findClass_of_methodNamed B.named
  rw [lg_entry_eq]
  exact body p e s m As.toArray below meth c ⟨B.exec, B.bytes, B.returns, hml, hown, fun w h => hts w (List.mem_cons_of_mem _ h), B.notSynchronized, hAm⟩ hno hP va_S.rf _ (lv_entry As hn)
theorem WP.kept {D : va_G} {cy : Nat → ClassId} {z : Nat} {σ τ : Sg} {o : Int64} {d : UInt64} {H H1 : Heap} (h : WP D cy z σ τ o d H) (hq : ∀ q : Nat, q < H.size → H1[q]? = H[q]?) : WP D cy z σ τ o d H1 :=
  va_P.kept h (fun k q hk => hq q.1 (h k q hk).lt)
section RowsT
variable {p : Program} {l : Launch} {e : Env} {Rm : Room} {s : State} {m : MethodId} {args : Array Value} {below : List Frame} {meth : Method} {c : Code} {H : Heap} {locs : List Loc} {cells slots : Nat} {Q : State → Prop}
variable {cc : ByteArray} {nl : Nat} {rt : Option FieldType} {own : String} {D : va_G} {cy : Nat → ClassId} {z : Nat} {σ τ σ' τ' σ1 τ1 : Sg} {o : Int64} {d : UInt64} {pc : Nat} {ls : Array Slot} {rest st : List Value} {Qc : Array Value → State → Outcome → State → Prop} {f lo t t' : Nat}
/-- 'throw new E("..")' -/
theorem thr_X5 (C : Bd p s m args meth c cc nl rt RX5 D cy z) (hno : Nox c) (hfl : l.stackTraces = false) (hP : WP D cy z σ τ o d H) (hS : va_S (fz z) s.heap H locs) {ik is ic T : Nat} {text : String} (ht : t = T) (hT : T ≠ 0) (hst : (is, text) ∈ strW) (hk : Cond.classLink RX5 ik (exN T) ∈ WA) (hini : Cond.initialized (exN T) ∈ WA) (hcls : Bundle.fit (exN T) = true)
    (hat : ∀ w ∈ (vx_atS RX5 ic (exN T) exS).filter goodWord, w ∈ WA) (hbad : ∀ w ∈ (vx_atS RX5 ic (exN T) exS).filter (fun w => !goodWord w), w ∈ nestW) (hgood : ∀ w ∈ Cond.classLink RX5 ik (exN T) :: Cond.initialized (exN T) :: vx_atS RX5 ic (exN T) exS, vx_ot w = true) (hsz : ls.size = nl)
    (d0 : decode cc pc = .ok (.new ik, 3)) (d3 : decode cc (pc + 3) = .ok (.dup, 1)) (d4 : decode cc (pc + 4) = .ok (.ldc is, 2)) (d6 : decode cc (pc + 6) = .ok (.invokespecial ic, 3)) (d9 : decode cc (pc + 9) = .ok (.athrow, 1)) (hf5 : 6 ≤ f) (hlo : (rest.map fun v => v.category).sum + 82 ≤ lo) (hσ : σ = σ1) (hτ : τ = τ1) :
    W p l e (rmT f lo t) s m args below meth c H locs 0 0 (vx_MQ below Qc (XP D cy z o d t σ1 τ1) args s (tcc t) (tcs t) (fz z)) (F0 m pc ls rest) := by
  subst ht
  subst hσ
  subst hτ
  obtain ⟨hx, hb, hr, hml, hown, hW, hlocks, hAm⟩ := C
  obtain ⟨sa, hsa⟩ := hAm.2.2.1 _ hst
  have hA := hAm
  refine vx_throwS (A := fz z) hx hb hfl hown hcls (by decide) (hW _ hk) (hW _ hini) hsa (vx_hat (fun w h => hW w (hat w h)) hbad (fun w h => va_Nw.use (nw_onT (List.all_eq_true.mp nestW_ok w h)) (hAm.2.1 w h))) hgood hA.2.2.2.1 hA.2.2.2.2 hS (by rw [hml, hsz]) d0 d3 d4 d6 d9 (hno.out _) ?_ ?_ ?_ ?_ hlocks ?_ hS.2.2 ?_ ?_
  · show 2 + 3 < f
    omega
  · show _ + (13 * (2 + 1) + 43) ≤ lo
    omega
  · show 0 + 1 ≤ tcc t
    rw [tcc_n hT]
    exact Nat.le_refl _
  · show 0 + 6 ≤ tcs t
    rw [tcs_n hT]
    exact Nat.le_refl _
  · intro u hvm hz hq
    refine ⟨(), trivial, ⟨hT, rfl, hP.kept hq⟩, Nat.le_trans hS.1 hz, fun q h1 h2 => ?_⟩
    rw [hq q (Nat.lt_of_lt_of_le h1 hS.1)]
    exact hS.2.1 q h1 h2
  · rw [tcc_n hT]
    exact Nat.le_refl _
  · rw [tcs_n hT]
    exact Nat.le_refl _
theorem retT_I (C : Bd p s m args meth c cc nl rt own D cy z) {r v : Int32} {ty : FieldType} (hP : WP D cy z σ τ o d H) (hS : va_S (fz z) s.heap H locs) (hn : narrow ty (.int v) = .int v) (hrt : rt = some ty) (ht : t = 0) (hv : v = r) (hσ : σ = σ1) (hτ : τ = τ1) (hdg : decode cc pc = .ok (.ireturn, 1)) {XC : String → State → State → Prop} :
    W p l e Rm s m args below meth c H locs 0 0 (vx_MQ below (PoTI D cy z o d t r σ1 τ1) XC args s (tcc t) (tcs t) (fz z)) (F0 m pc ls [.int v]) := by
  obtain ⟨hx, hb, hr, hml, hown, hW, hlocks, hAm⟩ := C
  subst hσ
  subst hτ
  subst ht
  exact vx_ret (W.zret (ty := ty) hx hb (by rw [hr, hrt]) hn (fun t ht hW => ⟨⟨v, (), rfl, ⟨rfl, hv⟩, by show WP D cy z σ τ o d t.heap; rw [ht]; exact hP⟩, hS.F ht⟩) hS.2.2 hdg hlocks)
theorem retT_D (C : Bd p s m args meth c cc nl (some .double) own D cy z) {r v : UInt64} (hP : WP D cy z σ τ o d H) (hS : va_S (fz z) s.heap H locs) (ht : t = 0) (hv : v = r) (hσ : σ = σ1) (hτ : τ = τ1) (hdg : decode cc pc = .ok (.dreturn, 1)) {XC : String → State → State → Prop} :
    W p l e Rm s m args below meth c H locs 0 0 (vx_MQ below (PoTD D cy z o d t r σ1 τ1) XC args s (tcc t) (tcs t) (fz z)) (F0 m pc ls [.double v]) := by
  obtain ⟨hx, hb, hr, hml, hown, hW, hlocks, hAm⟩ := C
  subst hσ
  subst hτ
  subst ht
  exact vx_ret (W.dret hx hb hr (fun t ht hW => ⟨⟨v, (), rfl, ⟨rfl, hv⟩, by show WP D cy z σ τ o d t.heap; rw [ht]; exact hP⟩, hS.F ht⟩) hS.2.2 hdg hlocks)
theorem retT_V (C : Bd p s m args meth c cc nl none own D cy z) (hP : WP D cy z σ τ o d H) (hS : va_S (fz z) s.heap H locs) (ht : t = 0) (hσ : σ = σ1) (hτ : τ = τ1) (hdg : decode cc pc = .ok (.return_, 1)) {XC : String → State → State → Prop} :
    W p l e Rm s m args below meth c H locs 0 0 (vx_MQ below (PoTV D cy z o d t σ1 τ1) XC args s (tcc t) (tcs t) (fz z)) (F0 m pc ls []) := by
  obtain ⟨hx, hb, hr, hml, hown, hW, hlocks, hAm⟩ := C
  subst hσ
  subst hτ
  subst ht
  exact vx_ret (W.vret hx hb hr (fun t ht hW => ⟨⟨(), rfl, rfl, by show WP D cy z σ τ o d t.heap; rw [ht]; exact hP⟩, hS.F ht⟩) hS.2.2 hdg hlocks)
theorem retT_R (C : Bd p s m args meth c cc nl rt own D cy z) {r v : Nat} {nm : String} (hP : WP D cy z σ τ o d H) (hS : va_S (fz z) s.heap H locs) (hrt : rt = some (.object nm)) (ht : t = 0) (hv : v = r) (hσ : σ = σ1) (hτ : τ = τ1) (hdg : decode cc pc = .ok (.areturn, 1)) {XC : String → State → State → Prop} :
    W p l e Rm s m args below meth c H locs 0 0 (vx_MQ below (PoTR D cy z o d t r σ1 τ1) XC args s (tcc t) (tcs t) (fz z)) (F0 m pc ls [.ref (z + v)]) := by
  obtain ⟨hx, hb, hr, hml, hown, hW, hlocks, hAm⟩ := C
  subst hσ
  subst hτ
  subst hv
  subst ht
  exact vx_ret (W.aret (rt := .object nm) hx hb (by rw [hr, hrt]) (Or.inl ⟨_, rfl⟩) (Or.inr ⟨_, rfl⟩) (fun t ht hW => ⟨⟨(), _, rfl, rfl, rfl, by show WP D cy z σ τ o d t.heap; rw [ht]; exact hP⟩, hS.F ht⟩) hS.2.2 hdg hlocks)
/-- a call of a method that may throw -/
theorem runT_V (C : Bd p s m args meth c cc nl rt own D cy z) {y : MethodName} {bc : ByteArray} {nl' : Nat} {rt' : Option FieldType} {As : List Value} {kr ci idx : Nat}
    (hM : KT l y bc nl' rt' f lo D cy z (.ref (z + kr) :: As) o d σ τ t Qc σ' τ') (hP : WP D cy z σ τ o d H) (hS : va_S (fz z) s.heap H locs) (cw : cwVt y bc nl' rt' ci As.length) (ml : Cond.methodLink own idx y ∈ WA) (hk : kd kr = ci)
    (hR : f + 1 ≤ Rm.frames ∧ 8 + (nl' + 11) + lo ≤ Rm.locals) (hst : st = As.reverse ++ .ref (z + kr) :: rest) (hrest : (rest.map fun v => v.category).sum ≤ 8) (hsz : ls.size = nl) (hcs : cells + tcc t ≤ Rm.cells ∧ slots + tcs t ≤ Rm.slots) (hdg : decode cc pc = .ok (.invokevirtual idx, 3)) :
    vx_Run p l e Rm s m args below meth c H locs cells slots (tcc t) (tcs t) (F0 m pc ls st) rest (Qc (Value.ref (z + kr) :: As).toArray) (XP D cy z o d t σ' τ') (fz z) := by
  obtain ⟨hx, hb, hr, hml, hown, hW, hlocks, hAm⟩ := C
  obtain ⟨w1, w2, w3, w4, ⟨hy1, hy2, hy3⟩, ⟨q, hq1, hq2⟩, h6⟩ := cw
  obtain ⟨fs, he⟩ := ent_obj (z := z) (cy := cy) (σ := σ) (τ := τ) (o := o) (d := d) hk h6
  have hrecv : ∃ cell : Cell, H[z + kr]? = some cell ∧ cell.vm.isStatics = false ∧ s.vm.findClass y.cls = some cell.cls := by
    rw [← hq2]
    exact va_recv hAm.1 hP (ci := ci) (q0 := kr) hq1 (by rw [mwl_at (kd_lt (by omega)), he])
  exact vx_runV (As := As) (rest := rest) ⟨hx, hb, hml, hown, hW⟩ hM (cwV (C := y.cls) As.length hW (wa_app (ws := [.methodLink own idx y, .instanceMethod y, .selects y.cls y y, .initialized y.cls]) (by
    intro w hw
    simp only [List.mem_cons, List.not_mem_nil, or_false] at hw
    rcases hw with rfl | rfl | rfl | rfl <;> assumption) w4) rfl rfl rfl ⟨rfl, hy1, hy2, hy3⟩ hR)
    ⟨Pre.blind, hrecv, fun U hU hW' => ⟨rfl, by rw [hU]; exact hP, hAm.warm hW' (by rw [hU]; exact hS.2.1)⟩⟩ rfl rfl hsz hst (lv_room hrest) hdg hcs
theorem runT_S (C : Bd p s m args meth c cc nl rt own D cy z) {y : MethodName} {bc : ByteArray} {nl' : Nat} {rt' : Option FieldType} {As : List Value} {idx : Nat}
    (hM : KT l y bc nl' rt' f lo D cy z As o d σ τ t Qc σ' τ') (hP : WP D cy z σ τ o d H) (hS : va_S (fz z) s.heap H locs) (cw : cwSt y bc nl' rt' As.length) (ml : Cond.methodLink own idx y ∈ WA)
    (hR : f + 1 ≤ Rm.frames ∧ 8 + (nl' + 11) + lo ≤ Rm.locals) (hst : st = As.reverse ++ rest) (hrest : (rest.map fun v => v.category).sum ≤ 8) (hsz : ls.size = nl) (hcs : cells + tcc t ≤ Rm.cells ∧ slots + tcs t ≤ Rm.slots) (hdg : decode cc pc = .ok (.invokestatic idx, 3)) :
    vx_Run p l e Rm s m args below meth c H locs cells slots (tcc t) (tcs t) (F0 m pc ls st) rest (Qc As.toArray) (XP D cy z o d t σ' τ') (fz z) := by
  obtain ⟨hx, hb, hr, hml, hown, hW, hlocks, hAm⟩ := C
  obtain ⟨w1, w3, w4, hy1, hy2, hy3⟩ := cw
  exact vx_runS (As := As) (rest := rest) ⟨hx, hb, hml, hown, hW⟩ hM (va_cwS As.length hW (wa_app (ws := [.methodLink own idx y, .static y, .initialized y.cls]) (by
    intro w hw
    simp only [List.mem_cons, List.not_mem_nil, or_false] at hw
    rcases hw with rfl | rfl | rfl <;> assumption) w4) rfl rfl rfl ⟨hy1, hy2, hy3⟩ hR)
    ⟨Pre.blind, fun U hU hW' => ⟨rfl, by rw [hU]; exact hP, hAm.warm hW' (by rw [hU]; exact hS.2.1)⟩⟩ rfl rfl hsz hst (lv_room hrest) hdg hcs
theorem tcc_0 (h : t = 0) (hc : cells ≤ Rm.cells ∧ slots ≤ Rm.slots) : cells + tcc t ≤ Rm.cells ∧ slots + tcs t ≤ Rm.slots := by
  subst h
  exact hc
theorem tcc_e (h : t' = t) : 0 + tcc t ≤ (rmT f lo t').cells ∧ 0 + tcs t ≤ (rmT f lo t').slots := by
  subst h
  exact ⟨by show 0 + tcc t' ≤ tcc t'; omega, by show 0 + tcs t' ≤ tcs t'; omega⟩
/-- it returns -/
theorem okT_I {st0 : List Value} {a : Array Value} {r : Int32} (h0 : t = 0) (hr : vx_Run p l e Rm s m args below meth c H locs cells slots (tcc t) (tcs t) (F0 m pc ls st0) rest (PoTI D cy z o d t r σ' τ' a) (XP D cy z o d t σ' τ') (fz z)) (hS : va_S (fz z) s.heap H locs)
    (kk : ∀ (H1 : Heap) (locs1 : List Loc), WP D cy z σ' τ' o d H1 → va_S (fz z) s.heap H1 locs1 → W p l e Rm s m args below meth c H1 locs1 cells slots Q (F0 m (pc + 3) ls (.int r :: rest))) : W p l e Rm s m args below meth c H locs cells slots Q (F0 m pc ls st0) := by
  subst h0
  exact vx_calli hr hS (fun _ _ h => h) (fun _ h => h) (fun _ _ h => h) (fun E ce q9 u t H1 locs1 _ _ _ hB => (hB.1 rfl).elim) (fun r1 u t H1 locs1 ht hvm hpost hB hz hk1 hS1 => by
    obtain ⟨-, rfl⟩ := hpost
    rw [ht] at hB
    exact kk H1 locs1 hB hS1)
theorem okT_D {st0 : List Value} {a : Array Value} {r : UInt64} (h0 : t = 0) (hr : vx_Run p l e Rm s m args below meth c H locs cells slots (tcc t) (tcs t) (F0 m pc ls st0) rest (PoTD D cy z o d t r σ' τ' a) (XP D cy z o d t σ' τ') (fz z)) (hS : va_S (fz z) s.heap H locs)
    (kk : ∀ (H1 : Heap) (locs1 : List Loc), WP D cy z σ' τ' o d H1 → va_S (fz z) s.heap H1 locs1 → W p l e Rm s m args below meth c H1 locs1 cells slots Q (F0 m (pc + 3) ls (.double r :: rest))) : W p l e Rm s m args below meth c H locs cells slots Q (F0 m pc ls st0) := by
  subst h0
  exact vx_calld hr hS (fun _ _ h => h) (fun _ h => h) (fun _ _ h => h) (fun E ce q9 u t H1 locs1 _ _ _ hB => (hB.1 rfl).elim) (fun r1 u t H1 locs1 ht hvm hpost hB hz hk1 hS1 => by
    obtain ⟨-, rfl⟩ := hpost
    rw [ht] at hB
    exact kk H1 locs1 hB hS1)
theorem okT_V {st0 : List Value} {a : Array Value} (h0 : t = 0) (hr : vx_Run p l e Rm s m args below meth c H locs cells slots (tcc t) (tcs t) (F0 m pc ls st0) rest (PoTV D cy z o d t σ' τ' a) (XP D cy z o d t σ' τ') (fz z)) (hS : va_S (fz z) s.heap H locs)
    (kk : ∀ (H1 : Heap) (locs1 : List Loc), WP D cy z σ' τ' o d H1 → va_S (fz z) s.heap H1 locs1 → W p l e Rm s m args below meth c H1 locs1 cells slots Q (F0 m (pc + 3) ls rest)) : W p l e Rm s m args below meth c H locs cells slots Q (F0 m pc ls st0) := by
  subst h0
  exact vx_callv hr hS (fun _ _ h => h) (fun _ h => h) (fun _ _ h => h) (fun E ce q9 u t H1 locs1 _ _ _ hB => (hB.1 rfl).elim) (fun u t H1 locs1 ht hvm hpost hB hz hk1 hS1 => by
    rw [ht] at hB
    exact kk H1 locs1 hB hS1)
theorem okT_R {st0 : List Value} {a : Array Value} {r : Nat} (h0 : t = 0) (hr : vx_Run p l e Rm s m args below meth c H locs cells slots (tcc t) (tcs t) (F0 m pc ls st0) rest (PoTR D cy z o d t r σ' τ' a) (XP D cy z o d t σ' τ') (fz z)) (hS : va_S (fz z) s.heap H locs)
    (kk : ∀ (H1 : Heap) (locs1 : List Loc), WP D cy z σ' τ' o d H1 → va_S (fz z) s.heap H1 locs1 → W p l e Rm s m args below meth c H1 locs1 cells slots Q (F0 m (pc + 3) ls (.ref (z + r) :: rest))) : W p l e Rm s m args below meth c H locs cells slots Q (F0 m pc ls st0) := by
  subst h0
  intro T hT X
  rcases hr T hT X with ⟨v, st₀, t, T', L, h0, X', hL, e1, e2, ⟨⟨u, ra, hv, hp, hb⟩, hz, hk⟩, st⟩ | ⟨q, st₀, t, T', L, E, ce, h0, X', hL, e1, e2, ⟨u, hp, hb, hF⟩, hce, hcv, hcl, st⟩
  · cases hv
    obtain ⟨rfl, hB⟩ := hb
    rw [h0] at hz hk
    rw [← e1] at hB hz hk
    obtain ⟨t2, a1, b1⟩ := kk T'.heap (locs ++ L) hB ⟨Nat.le_trans hS.1 hz, fun q h1 h2 => by rw [hk q (Nat.lt_of_lt_of_le h1 hS.1) h2]; exact hS.2.1 q h1 h2, fun q hq => by
      rcases List.mem_append.mp hq with h | h
      · exact hS.2.2 q h
      · exact hL q h⟩ T' rfl X'
    exact ⟨t2, st t2 a1, b1⟩
  · exact (hb.1 rfl).elim
/-- it throws, and so does this method -/
theorem outT {st0 : List Value} {Qa : State → Outcome → State → Prop} (hr : vx_Run p l e (rmT f lo t') s m args below meth c H locs 0 0 (tcc t) (tcs t) (F0 m pc ls st0) rest Qa (XP D cy z o d t σ' τ') (fz z)) (h0 : ∀ st v u, Qa st (.returned v) u → t = 0) (hn : t ≠ 0) (ht : t' = t) (hno : Nox c) (hlocks : meth.locks = false) (hS : va_S (fz z) s.heap H locs) (hσ : σ' = σ1) (hτ : τ' = τ1) :
    W p l e (rmT f lo t') s m args below meth c H locs 0 0 (vx_MQ below Qc (XP D cy z o d t' σ1 τ1) args s (tcc t') (tcs t') (fz z)) (F0 m pc ls st0) := by
  subst ht
  subst hσ
  subst hτ
  intro T hT X
  rcases hr T hT X with ⟨v, st₀, u, T', L, _, X', hL, e1, e2, hq, st⟩ | ⟨q, st₀, u, T', L, E, ce, g0, X', hL, e1, e2, ⟨w, hp, ⟨hb1, hb2, hb3⟩, hz, hk⟩, hce, hcv, hcl, st⟩
  · exact absurd (h0 _ _ _ hq) hn
  · subst hb2
    rw [g0] at hz hk
    rw [← e1] at hb3 hz hk hce
    have hS1 : va_S (fz z) s.heap T'.heap (locs ++ L) := ⟨Nat.le_trans hS.1 hz, fun q h1 h2 => by rw [hk q (Nat.lt_of_lt_of_le h1 hS.1) h2]; exact hS.2.1 q h1 h2, fun q hq => by
      rcases List.mem_append.mp hq with h | h
      · exact hS.2.2 q h
      · exact hL q h⟩
    obtain ⟨t2, a1, b1⟩ := vx_out (Qc := Qc) (XC := XP D cy z o d t' σ' τ') (free := fz z) (mc := tcc t') (ms := tcs t') (rest := rest) (ls := ls) (pc := pc) (hno.out _) hlocks hce hcv hcl (fun u9 hu _ => ⟨(), trivial, ⟨hb1, rfl, by show WP D cy z σ' τ' o d u9.heap; rw [hu]; exact hb3⟩, hS1.F hu⟩) hS1.2.2 (by omega) (by omega) T' rfl X'
    exact ⟨t2, st.trans a1, b1⟩
theorem z_I {r : Int32} {a : Array Value} : ∀ st v u, PoTI D cy z o d t r σ' τ' a st (.returned v) u → t = 0 := fun _ _ _ h => h.1.choose_spec.choose_spec.2.1.1
theorem z_D {r : UInt64} {a : Array Value} : ∀ st v u, PoTD D cy z o d t r σ' τ' a st (.returned v) u → t = 0 := fun _ _ _ h => h.1.choose_spec.choose_spec.2.1.1
theorem z_V {a : Array Value} : ∀ st v u, PoTV D cy z o d t σ' τ' a st (.returned v) u → t = 0 := fun _ _ _ h => h.1.choose_spec.2.1
theorem z_R {r : Nat} {a : Array Value} : ∀ st v u, PoTR D cy z o d t r σ' τ' a st (.returned v) u → t = 0 := fun _ _ _ h => h.1.choose_spec.choose_spec.2.1
end RowsT
theorem vxa_x1 : ∀ w ∈ (vx_atS RX5 192 "java/lang/IndexOutOfBoundsException" exS).filter goodWord, w ∈ lw_tbl := by decide +kernel
theorem vxa_x2 : ∀ w ∈ (vx_atS RX5 48 "java/lang/IllegalArgumentException" exS).filter goodWord, w ∈ lw_tbl := by decide +kernel
theorem vxa_x3 : ∀ w ∈ (vx_atS RX5 103 "java/lang/IllegalStateException" exS).filter goodWord, w ∈ lw_tbl := by decide +kernel
theorem vxb_x1 : ∀ w ∈ (vx_atS RX5 192 "java/lang/IndexOutOfBoundsException" exS).filter (fun w => !goodWord w), w ∈ nestW := by decide +kernel
theorem vxb_x2 : ∀ w ∈ (vx_atS RX5 48 "java/lang/IllegalArgumentException" exS).filter (fun w => !goodWord w), w ∈ nestW := by decide +kernel
theorem vxb_x3 : ∀ w ∈ (vx_atS RX5 103 "java/lang/IllegalStateException" exS).filter (fun w => !goodWord w), w ∈ nestW := by decide +kernel
theorem vxc_x1 : ∀ w ∈ Cond.classLink RX5 188 "java/lang/IndexOutOfBoundsException" :: Cond.initialized "java/lang/IndexOutOfBoundsException" :: vx_atS RX5 192 "java/lang/IndexOutOfBoundsException" exS, vx_ot w = true := by decide +kernel
theorem vxc_x2 : ∀ w ∈ Cond.classLink RX5 44 "java/lang/IllegalArgumentException" :: Cond.initialized "java/lang/IllegalArgumentException" :: vx_atS RX5 48 "java/lang/IllegalArgumentException" exS, vx_ot w = true := by decide +kernel
theorem vxc_x3 : ∀ w ∈ Cond.classLink RX5 99 "java/lang/IllegalStateException" :: Cond.initialized "java/lang/IllegalStateException" :: vx_atS RX5 103 "java/lang/IllegalStateException" exS, vx_ot w = true := by decide +kernel
theorem vxw {L : List Cond} (h : ∀ w ∈ L.filter goodWord, w ∈ lw_tbl) : ∀ w ∈ L.filter goodWord, w ∈ WA := fun w hw => List.mem_filter.mpr ⟨h w hw, (List.mem_filter.mp hw).2⟩
theorem vxi_1 : Cond.classLink RX5 188 (exN 1) ∈ WA ∧ Cond.initialized (exN 1) ∈ WA ∧ Bundle.fit (exN 1) = true := ⟨(mA1 (i := 202) rfl rfl), (mA1 (i := 10) rfl rfl), by decide⟩
theorem vxi_2 : Cond.classLink RX5 44 (exN 2) ∈ WA ∧ Cond.initialized (exN 2) ∈ WA ∧ Bundle.fit (exN 2) = true := ⟨(mA2 (i := 37) rfl rfl), (mA1 (i := 11) rfl rfl), by decide⟩
theorem vxi_3 : Cond.classLink RX5 99 (exN 3) ∈ WA ∧ Cond.initialized (exN 3) ∈ WA ∧ Bundle.fit (exN 3) = true := ⟨(mA2 (i := 108) rfl rfl), (mA1 (i := 13) rfl rfl), by decide⟩
